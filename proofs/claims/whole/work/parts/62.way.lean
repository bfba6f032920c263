/-! ways -/
def z_mxr (V : Nat → Int32) (ho : Int32) : Nat → Nat
  | 0 => 0
  | m + 1 => if (zn (V 7)).testBit m = true then z_mxr V ho m else max (z_mxr V ho m) (z_risk V m ho (V 2))
theorem z_mxr_le (V : Nat → Int32) (ho : Int32) : ∀ m, z_mxr V ho m ≤ 1000
  | 0 => Nat.zero_le _
  | m + 1 => z_ite_le (z_mxr_le V ho m) (Nat.max_le.mpr ⟨z_mxr_le V ho m, z_cl_le _ _⟩)
theorem c_great_L {n mu me s : Nat} {ho : Int32} {V : Nat → Int32} (hn : 402 ≤ n) (h7 : V 7 = nI s) (hs : s < 2147483648) : ∀ j i σ, z_C σ V mu me → i ≤ mu → mu < j + i →
    ∃ σ', (∀ o, o ≠ 18 → o ≠ 30 → σ' o = σ o) ∧ f_X10_greatestRisk_L13 n 1 ho (nI s) j (nI (z_mxr V ho i)) (nI i) σ = some (nI (z_mxr V ho mu), σ') := by
  intro j
  induction j with
  | zero => intro i σ hC h1 h2; omega
  | succ j ih =>
    intro i σ hC h1 h2
    have hmu := hC.1.1
    have g8 : σ 2 8 = nI mu := hC.2.1.1.1
    have g13 : σ 2 13 = V 2 := hC.2.1.1.2.2.2.2.2.1
    by_cases hi : i = mu
    · subst hi
      refine ⟨σ, fun _ _ _ => rfl, ?_⟩
      generalize z_mxr V ho i = y
      simp (disch := omega) only [f_X10_greatestRisk_L13, g8, ↓reduceIte, ↓p_ld, ↓p_st, ↓p_nm, ↓p_nS, ↓p_jn, ↓p_call, ↓p_callv, ↓p_dv, ↓p_rem, h_ldE, h_stE, h_nmE, h_nSE, h_callE, h_callvE, h_dvE, h_remE, if_true, if_false, z_upS, z_upO, z_upK, nI_add, z_mul, z_sub, z_div, Nat.add_zero, Nat.mul_zero, Nat.zero_add, Nat.sub_zero, Nat.zero_mul, z_ltT, z_ltF, z_leT, z_leF, z_eqT, z_eqF, z_inT, z_clT, not_true_eq_false, not_false_eq_true, eq_self, true_or, or_true, z_m_lt, z_m_le, z_lt_m, z_le_m, z_eq_m, z_m_eq, z_rz0, z_rz1, z_m_add, z_of, r_0_0, r_0_1, r_0_3, r_0_4, r_0_5, r_0_6, r_0_7, r_0_8, r_0_9, r_0_10, r_1_0, r_1_1, r_1_2, r_1_3, r_1_4, r_1_5, r_1_6, r_1_7, r_1_8, r_2_0, r_2_1, r_2_2, r_2_3, r_2_4, r_2_5, r_2_6, r_2_7, r_11_0, r_11_1, r_11_2, r_11_3, r_11_4, r_11_5, r_11_6, r_19_0, r_21_0, r_23_0, r_25_0, r_27_0, r_61_0, r_117_0, r_117_1, r_117_2, r_117_3, r_117_4, r_117_5, r_117_6, r_117_7, r_126_0, r_126_1, r_126_2, r_126_3, r_126_4, r_132_0, r_132_1, r_135_0, r_135_1, r_135_2, r_135_3, r_135_4, r_135_5, r_142_0, r_144_0, r_144_1, r_144_2, r_145_0, r_145_1, r_145_2, r_145_3, r_145_4, r_145_5, r_145_6, r_154_0, r_154_1, r_155_0, ↓z_m1, l_0, l_1, l_2, l_3, l_4, l_5, l_6, l_7, l_8, l_9, l_10, l_11, l_12, l_13, l_14, l_15, l_16, l_17, l_18, l_19, l_20, l_21, l_22, l_23, l_24, l_25, l_26, l_27, l_28, l_29, l_30, l_31, l_32, l_33, l_34, l_35, l_36, l_37, l_38, l_39, l_40, l_41, l_42, l_43, l_44, l_45, l_46, l_47, l_48, l_49, l_50, l_51, l_52, l_53, l_54, l_55, l_56, l_57, l_59, l_60, l_61, l_62, l_63, l_64, l_65, l_80, l_86, l_87, l_88, l_89, l_90, l_91, l_92, l_93, l_94, l_95, l_97, l_99, l_100, l_107, l_119, l_122, l_124, l_129, l_140, l_141, l_142, l_143, l_144, l_145, l_147, l_150, l_159, l_160, l_161, l_162, l_205, l_253, l_255, l_256, l_269, l_305, l_380, l_399, l_400, l_420, l_430, l_516, l_600, l_720, l_820, l_905, l_921, l_937, l_953, l_970, l_999, l_1000, l_1790, l_4096, l_9999, l_1000000]
    · have eI := c_isIn (n := n) (σ := σ) hs (show i < 31 by omega)
      have e : z_mxr V ho (i+1) = if (zn (V 7)).testBit i = true then z_mxr V ho i else max (z_mxr V ho i) (z_risk V i ho (V 2)) := rfl
      rw [h7, zn_nI hs] at e
      by_cases q : s.testBit i = true
      · obtain ⟨σ2, k1, k2⟩ := ih (i+1) σ hC (by omega) (by omega)
        refine ⟨σ2, k1, ?_⟩
        rw [if_pos q] at e eI
        rw [e] at k2
        rw [← k2]
        generalize z_mxr V ho i = y
        simp (disch := omega) only [f_X10_greatestRisk_L13, g8, eI, ↓reduceIte, ↓p_ld, ↓p_st, ↓p_nm, ↓p_nS, ↓p_jn, ↓p_call, ↓p_callv, ↓p_dv, ↓p_rem, h_ldE, h_stE, h_nmE, h_nSE, h_callE, h_callvE, h_dvE, h_remE, if_true, if_false, z_upS, z_upO, z_upK, nI_add, z_mul, z_sub, z_div, Nat.add_zero, Nat.mul_zero, Nat.zero_add, Nat.sub_zero, Nat.zero_mul, z_ltT, z_ltF, z_leT, z_leF, z_eqT, z_eqF, z_inT, z_clT, not_true_eq_false, not_false_eq_true, eq_self, true_or, or_true, z_m_lt, z_m_le, z_lt_m, z_le_m, z_eq_m, z_m_eq, z_rz0, z_rz1, z_m_add, z_of, r_0_0, r_0_1, r_0_3, r_0_4, r_0_5, r_0_6, r_0_7, r_0_8, r_0_9, r_0_10, r_1_0, r_1_1, r_1_2, r_1_3, r_1_4, r_1_5, r_1_6, r_1_7, r_1_8, r_2_0, r_2_1, r_2_2, r_2_3, r_2_4, r_2_5, r_2_6, r_2_7, r_11_0, r_11_1, r_11_2, r_11_3, r_11_4, r_11_5, r_11_6, r_19_0, r_21_0, r_23_0, r_25_0, r_27_0, r_61_0, r_117_0, r_117_1, r_117_2, r_117_3, r_117_4, r_117_5, r_117_6, r_117_7, r_126_0, r_126_1, r_126_2, r_126_3, r_126_4, r_132_0, r_132_1, r_135_0, r_135_1, r_135_2, r_135_3, r_135_4, r_135_5, r_142_0, r_144_0, r_144_1, r_144_2, r_145_0, r_145_1, r_145_2, r_145_3, r_145_4, r_145_5, r_145_6, r_154_0, r_154_1, r_155_0, ↓z_m1, l_0, l_1, l_2, l_3, l_4, l_5, l_6, l_7, l_8, l_9, l_10, l_11, l_12, l_13, l_14, l_15, l_16, l_17, l_18, l_19, l_20, l_21, l_22, l_23, l_24, l_25, l_26, l_27, l_28, l_29, l_30, l_31, l_32, l_33, l_34, l_35, l_36, l_37, l_38, l_39, l_40, l_41, l_42, l_43, l_44, l_45, l_46, l_47, l_48, l_49, l_50, l_51, l_52, l_53, l_54, l_55, l_56, l_57, l_59, l_60, l_61, l_62, l_63, l_64, l_65, l_80, l_86, l_87, l_88, l_89, l_90, l_91, l_92, l_93, l_94, l_95, l_97, l_99, l_100, l_107, l_119, l_122, l_124, l_129, l_140, l_141, l_142, l_143, l_144, l_145, l_147, l_150, l_159, l_160, l_161, l_162, l_205, l_253, l_255, l_256, l_269, l_305, l_380, l_399, l_400, l_420, l_430, l_516, l_600, l_720, l_820, l_905, l_921, l_937, l_953, l_970, l_999, l_1000, l_1790, l_4096, l_9999, l_1000000]
      · obtain ⟨σ1, f1, f2⟩ := c_riskOf (n := n) (ho := ho) hC hn (show i < mu by omega) hC.1.2.2.2.2.2.2.2.2.2.1
        obtain ⟨σ2, k1, k2⟩ := ih (i+1) σ1 (hC.fr (fun o o1 o2 o3 => f1 o (by omega) (by omega))) (by omega) (by omega)
        refine ⟨σ2, fun o o1 o2 => by rw [k1 o o1 o2, f1 o o1 o2], ?_⟩
        have hr : z_risk V i ho (V 2) ≤ 1000 := z_cl_le _ _
        have hy := z_mxr_le V ho i
        rw [if_neg q] at e eI
        rw [h7] at *
        rw [e] at k2
        rw [← k2]
        generalize z_mxr V ho i = y at *
        generalize z_risk V i ho (V 2) = r at *
        simp (disch := omega) only [f_X10_greatestRisk_L13, g8, g13, eI, f2, z_mxE, ↓reduceIte, ↓p_ld, ↓p_st, ↓p_nm, ↓p_nS, ↓p_jn, ↓p_call, ↓p_callv, ↓p_dv, ↓p_rem, h_ldE, h_stE, h_nmE, h_nSE, h_callE, h_callvE, h_dvE, h_remE, if_true, if_false, z_upS, z_upO, z_upK, nI_add, z_mul, z_sub, z_div, Nat.add_zero, Nat.mul_zero, Nat.zero_add, Nat.sub_zero, Nat.zero_mul, z_ltT, z_ltF, z_leT, z_leF, z_eqT, z_eqF, z_inT, z_clT, not_true_eq_false, not_false_eq_true, eq_self, true_or, or_true, z_m_lt, z_m_le, z_lt_m, z_le_m, z_eq_m, z_m_eq, z_rz0, z_rz1, z_m_add, z_of, r_0_0, r_0_1, r_0_3, r_0_4, r_0_5, r_0_6, r_0_7, r_0_8, r_0_9, r_0_10, r_1_0, r_1_1, r_1_2, r_1_3, r_1_4, r_1_5, r_1_6, r_1_7, r_1_8, r_2_0, r_2_1, r_2_2, r_2_3, r_2_4, r_2_5, r_2_6, r_2_7, r_11_0, r_11_1, r_11_2, r_11_3, r_11_4, r_11_5, r_11_6, r_19_0, r_21_0, r_23_0, r_25_0, r_27_0, r_61_0, r_117_0, r_117_1, r_117_2, r_117_3, r_117_4, r_117_5, r_117_6, r_117_7, r_126_0, r_126_1, r_126_2, r_126_3, r_126_4, r_132_0, r_132_1, r_135_0, r_135_1, r_135_2, r_135_3, r_135_4, r_135_5, r_142_0, r_144_0, r_144_1, r_144_2, r_145_0, r_145_1, r_145_2, r_145_3, r_145_4, r_145_5, r_145_6, r_154_0, r_154_1, r_155_0, ↓z_m1, l_0, l_1, l_2, l_3, l_4, l_5, l_6, l_7, l_8, l_9, l_10, l_11, l_12, l_13, l_14, l_15, l_16, l_17, l_18, l_19, l_20, l_21, l_22, l_23, l_24, l_25, l_26, l_27, l_28, l_29, l_30, l_31, l_32, l_33, l_34, l_35, l_36, l_37, l_38, l_39, l_40, l_41, l_42, l_43, l_44, l_45, l_46, l_47, l_48, l_49, l_50, l_51, l_52, l_53, l_54, l_55, l_56, l_57, l_59, l_60, l_61, l_62, l_63, l_64, l_65, l_80, l_86, l_87, l_88, l_89, l_90, l_91, l_92, l_93, l_94, l_95, l_97, l_99, l_100, l_107, l_119, l_122, l_124, l_129, l_140, l_141, l_142, l_143, l_144, l_145, l_147, l_150, l_159, l_160, l_161, l_162, l_205, l_253, l_255, l_256, l_269, l_305, l_380, l_399, l_400, l_420, l_430, l_516, l_600, l_720, l_820, l_905, l_921, l_937, l_953, l_970, l_999, l_1000, l_1790, l_4096, l_9999, l_1000000]
theorem c_great {mu me : Nat} {ho : Int32} {V : Nat → Int32} {σ : q_Sto} (hC : z_C σ V mu me) : ∃ σ', (∀ o, o ≠ 18 → o ≠ 30 → σ' o = σ o) ∧ f_X10_greatestRisk q_F 1 ho σ = some (nI (z_mxr V ho mu), σ') := by
  obtain ⟨s, hs, h7⟩ := hC.1.2.2.2.2.1
  have h12 := z_p12 hC.1.1
  have hmu := hC.1.1
  obtain ⟨σ', k1, k2⟩ := c_great_L (n := q_F) (ho := ho) z_F402 h7 (by omega) q_F 0 σ hC (Nat.zero_le _) (by unfold q_F; omega)
  refine ⟨σ', k1, ?_⟩
  have el := c_lameOnes (n := q_F) (σ := σ) (by unfold q_F; omega) hC.1 hC.2.1
  have e0 : z_mxr V ho 0 = 0 := rfl
  rw [e0] at k2
  rw [h7] at el
  rw [← k2]
  simp (disch := omega) only [f_X10_greatestRisk, el, ↓reduceIte, ↓p_ld, ↓p_st, ↓p_nm, ↓p_nS, ↓p_jn, ↓p_call, ↓p_callv, ↓p_dv, ↓p_rem, h_ldE, h_stE, h_nmE, h_nSE, h_callE, h_callvE, h_dvE, h_remE, if_true, if_false, z_upS, z_upO, z_upK, nI_add, z_mul, z_sub, z_div, Nat.add_zero, Nat.mul_zero, Nat.zero_add, Nat.sub_zero, Nat.zero_mul, z_ltT, z_ltF, z_leT, z_leF, z_eqT, z_eqF, z_inT, z_clT, not_true_eq_false, not_false_eq_true, eq_self, true_or, or_true, z_m_lt, z_m_le, z_lt_m, z_le_m, z_eq_m, z_m_eq, z_rz0, z_rz1, z_m_add, z_of, r_0_0, r_0_1, r_0_3, r_0_4, r_0_5, r_0_6, r_0_7, r_0_8, r_0_9, r_0_10, r_1_0, r_1_1, r_1_2, r_1_3, r_1_4, r_1_5, r_1_6, r_1_7, r_1_8, r_2_0, r_2_1, r_2_2, r_2_3, r_2_4, r_2_5, r_2_6, r_2_7, r_11_0, r_11_1, r_11_2, r_11_3, r_11_4, r_11_5, r_11_6, r_19_0, r_21_0, r_23_0, r_25_0, r_27_0, r_61_0, r_117_0, r_117_1, r_117_2, r_117_3, r_117_4, r_117_5, r_117_6, r_117_7, r_126_0, r_126_1, r_126_2, r_126_3, r_126_4, r_132_0, r_132_1, r_135_0, r_135_1, r_135_2, r_135_3, r_135_4, r_135_5, r_142_0, r_144_0, r_144_1, r_144_2, r_145_0, r_145_1, r_145_2, r_145_3, r_145_4, r_145_5, r_145_6, r_154_0, r_154_1, r_155_0, ↓z_m1, l_0, l_1, l_2, l_3, l_4, l_5, l_6, l_7, l_8, l_9, l_10, l_11, l_12, l_13, l_14, l_15, l_16, l_17, l_18, l_19, l_20, l_21, l_22, l_23, l_24, l_25, l_26, l_27, l_28, l_29, l_30, l_31, l_32, l_33, l_34, l_35, l_36, l_37, l_38, l_39, l_40, l_41, l_42, l_43, l_44, l_45, l_46, l_47, l_48, l_49, l_50, l_51, l_52, l_53, l_54, l_55, l_56, l_57, l_59, l_60, l_61, l_62, l_63, l_64, l_65, l_80, l_86, l_87, l_88, l_89, l_90, l_91, l_92, l_93, l_94, l_95, l_97, l_99, l_100, l_107, l_119, l_122, l_124, l_129, l_140, l_141, l_142, l_143, l_144, l_145, l_147, l_150, l_159, l_160, l_161, l_162, l_205, l_253, l_255, l_256, l_269, l_305, l_380, l_399, l_400, l_420, l_430, l_516, l_600, l_720, l_820, l_905, l_921, l_937, l_953, l_970, l_999, l_1000, l_1790, l_4096, l_9999, l_1000000]
theorem m_great_L {n mu me s : Nat} {ho : Int32} {V : Nat → Int32} {σc : q_Sto} (hn : 402 ≤ n) (h7 : V 7 = nI s) (hs : s < 2147483648) (hC : z_C σc V mu me) : ∀ j i (σ : q_Sto), σ 158 = V → i ≤ mu → mu < j + i →
    ∃ σ', (∀ o, o ≠ 166 → o ≠ 167 → σ' o = σ o) ∧ f_X12_greatestRisk_L4 n 157 ho j (nI (z_mxr V ho i)) (nI i) σ = some (nI (z_mxr V ho mu), σ') := by
  intro j
  have hmu := hC.1.1
  have hme := hC.1.2.1
  have h86 := hC.1.2.2.1
  induction j with
  | zero => intro i σ hV h1 h2; omega
  | succ j ih =>
    intro i σ hV h1 h2
    by_cases hi : i = mu
    · subst hi
      refine ⟨σ, fun _ _ _ => rfl, ?_⟩
      generalize z_mxr V ho i = y
      simp (disch := omega) only [f_X12_greatestRisk_L4, hV, h86, ↓reduceIte, ↓p_ld, ↓p_st, ↓p_nm, ↓p_nS, ↓p_jn, ↓p_call, ↓p_callv, ↓p_dv, ↓p_rem, h_ldE, h_stE, h_nmE, h_nSE, h_callE, h_callvE, h_dvE, h_remE, if_true, if_false, z_upS, z_upO, z_upK, nI_add, z_mul, z_sub, z_div, Nat.add_zero, Nat.mul_zero, Nat.zero_add, Nat.sub_zero, Nat.zero_mul, z_ltT, z_ltF, z_leT, z_leF, z_eqT, z_eqF, z_inT, z_clT, not_true_eq_false, not_false_eq_true, eq_self, true_or, or_true, z_m_lt, z_m_le, z_lt_m, z_le_m, z_eq_m, z_m_eq, z_rz0, z_rz1, z_m_add, z_of, r_157_0, r_157_1, r_157_2, r_157_3, r_157_6, r_157_7, r_157_8, r_157_9, r_157_10, r_157_11, r_157_27, r_157_28, r_157_29, r_157_30, ↓z_m1, l_0, l_1, l_2, l_3, l_4, l_5, l_6, l_7, l_8, l_9, l_10, l_11, l_12, l_13, l_14, l_15, l_16, l_17, l_18, l_19, l_20, l_21, l_22, l_23, l_24, l_25, l_26, l_27, l_28, l_29, l_30, l_31, l_32, l_33, l_34, l_35, l_36, l_37, l_38, l_39, l_40, l_41, l_42, l_43, l_44, l_45, l_46, l_47, l_48, l_49, l_50, l_51, l_52, l_53, l_54, l_55, l_56, l_57, l_59, l_60, l_61, l_62, l_63, l_64, l_65, l_80, l_86, l_87, l_88, l_89, l_90, l_91, l_92, l_93, l_94, l_95, l_97, l_99, l_100, l_107, l_119, l_122, l_124, l_129, l_140, l_141, l_142, l_143, l_144, l_145, l_147, l_150, l_159, l_160, l_161, l_162, l_205, l_253, l_255, l_256, l_269, l_305, l_380, l_399, l_400, l_420, l_430, l_516, l_600, l_720, l_820, l_905, l_921, l_937, l_953, l_970, l_999, l_1000, l_1790, l_4096, l_9999, l_1000000]
    · have eI := m_isLame (n := n) (m := i) hV h7 hs (by omega)
      have e : z_mxr V ho (i+1) = if (zn (V 7)).testBit i = true then z_mxr V ho i else max (z_mxr V ho i) (z_risk V i ho (V 2)) := rfl
      rw [h7, zn_nI hs] at e
      by_cases q : s.testBit i = true
      · obtain ⟨σ2, k1, k2⟩ := ih (i+1) σ hV (by omega) (by omega)
        refine ⟨σ2, k1, ?_⟩
        rw [if_pos q] at e eI
        rw [e] at k2
        rw [← k2]
        generalize z_mxr V ho i = y
        simp (disch := omega) only [f_X12_greatestRisk_L4, hV, h86, eI, ↓reduceIte, ↓p_ld, ↓p_st, ↓p_nm, ↓p_nS, ↓p_jn, ↓p_call, ↓p_callv, ↓p_dv, ↓p_rem, h_ldE, h_stE, h_nmE, h_nSE, h_callE, h_callvE, h_dvE, h_remE, if_true, if_false, z_upS, z_upO, z_upK, nI_add, z_mul, z_sub, z_div, Nat.add_zero, Nat.mul_zero, Nat.zero_add, Nat.sub_zero, Nat.zero_mul, z_ltT, z_ltF, z_leT, z_leF, z_eqT, z_eqF, z_inT, z_clT, not_true_eq_false, not_false_eq_true, eq_self, true_or, or_true, z_m_lt, z_m_le, z_lt_m, z_le_m, z_eq_m, z_m_eq, z_rz0, z_rz1, z_m_add, z_of, r_157_0, r_157_1, r_157_2, r_157_3, r_157_6, r_157_7, r_157_8, r_157_9, r_157_10, r_157_11, r_157_27, r_157_28, r_157_29, r_157_30, ↓z_m1, l_0, l_1, l_2, l_3, l_4, l_5, l_6, l_7, l_8, l_9, l_10, l_11, l_12, l_13, l_14, l_15, l_16, l_17, l_18, l_19, l_20, l_21, l_22, l_23, l_24, l_25, l_26, l_27, l_28, l_29, l_30, l_31, l_32, l_33, l_34, l_35, l_36, l_37, l_38, l_39, l_40, l_41, l_42, l_43, l_44, l_45, l_46, l_47, l_48, l_49, l_50, l_51, l_52, l_53, l_54, l_55, l_56, l_57, l_59, l_60, l_61, l_62, l_63, l_64, l_65, l_80, l_86, l_87, l_88, l_89, l_90, l_91, l_92, l_93, l_94, l_95, l_97, l_99, l_100, l_107, l_119, l_122, l_124, l_129, l_140, l_141, l_142, l_143, l_144, l_145, l_147, l_150, l_159, l_160, l_161, l_162, l_205, l_253, l_255, l_256, l_269, l_305, l_380, l_399, l_400, l_420, l_430, l_516, l_600, l_720, l_820, l_905, l_921, l_937, l_953, l_970, l_999, l_1000, l_1790, l_4096, l_9999, l_1000000]
      · obtain ⟨σ1, f1, f2⟩ := m_riskOf (n := n) (σ := σ) (m := i) (ho := ho) hn (by omega) hme hC.1.2.2.2.2.2.2.2.2.2.1 hV hC.2.2.1
        obtain ⟨σ2, k1, k2⟩ := ih (i+1) σ1 (by rw [f1 158 (by omega) (by omega)]; exact hV) (by omega) (by omega)
        refine ⟨σ2, fun o o1 o2 => by rw [k1 o o1 o2, f1 o o1 o2], ?_⟩
        have hr : z_risk V i ho (V 2) ≤ 1000 := z_cl_le _ _
        have hy := z_mxr_le V ho i
        rw [if_neg q] at e eI
        rw [e] at k2
        rw [← k2]
        have eg : ∀ (y r : Nat) (s : q_Sto), y ≤ 1000 → r ≤ 1000 → f_X12_greater n (nI y) (nI r) s = some (nI (max y r), s) := fun y r s hy hr => by
          unfold f_X12_greater
          by_cases q : y ≤ r
          · rw [show max y r = r by omega]
            simp (disch := omega) only [↓reduceIte, ↓p_ld, ↓p_st, ↓p_nm, ↓p_nS, ↓p_jn, ↓p_call, ↓p_callv, ↓p_dv, ↓p_rem, h_ldE, h_stE, h_nmE, h_nSE, h_callE, h_callvE, h_dvE, h_remE, if_true, if_false, z_upS, z_upO, z_upK, nI_add, z_mul, z_sub, z_div, Nat.add_zero, Nat.mul_zero, Nat.zero_add, Nat.sub_zero, Nat.zero_mul, z_ltT, z_ltF, z_leT, z_leF, z_eqT, z_eqF, z_inT, z_clT, not_true_eq_false, not_false_eq_true, eq_self, true_or, or_true, z_m_lt, z_m_le, z_lt_m, z_le_m, z_eq_m, z_m_eq, z_rz0, z_rz1, z_m_add, z_of, ↓z_m1, l_0, l_1, l_2, l_3, l_4, l_5, l_6, l_7, l_8, l_9, l_10, l_11, l_12, l_13, l_14, l_15, l_16, l_17, l_18, l_19, l_20, l_21, l_22, l_23, l_24, l_25, l_26, l_27, l_28, l_29, l_30, l_31, l_32, l_33, l_34, l_35, l_36, l_37, l_38, l_39, l_40, l_41, l_42, l_43, l_44, l_45, l_46, l_47, l_48, l_49, l_50, l_51, l_52, l_53, l_54, l_55, l_56, l_57, l_59, l_60, l_61, l_62, l_63, l_64, l_65, l_80, l_86, l_87, l_88, l_89, l_90, l_91, l_92, l_93, l_94, l_95, l_97, l_99, l_100, l_107, l_119, l_122, l_124, l_129, l_140, l_141, l_142, l_143, l_144, l_145, l_147, l_150, l_159, l_160, l_161, l_162, l_205, l_253, l_255, l_256, l_269, l_305, l_380, l_399, l_400, l_420, l_430, l_516, l_600, l_720, l_820, l_905, l_921, l_937, l_953, l_970, l_999, l_1000, l_1790, l_4096, l_9999, l_1000000]
          · rw [show max y r = y by omega]
            simp (disch := omega) only [↓reduceIte, ↓p_ld, ↓p_st, ↓p_nm, ↓p_nS, ↓p_jn, ↓p_call, ↓p_callv, ↓p_dv, ↓p_rem, h_ldE, h_stE, h_nmE, h_nSE, h_callE, h_callvE, h_dvE, h_remE, if_true, if_false, z_upS, z_upO, z_upK, nI_add, z_mul, z_sub, z_div, Nat.add_zero, Nat.mul_zero, Nat.zero_add, Nat.sub_zero, Nat.zero_mul, z_ltT, z_ltF, z_leT, z_leF, z_eqT, z_eqF, z_inT, z_clT, not_true_eq_false, not_false_eq_true, eq_self, true_or, or_true, z_m_lt, z_m_le, z_lt_m, z_le_m, z_eq_m, z_m_eq, z_rz0, z_rz1, z_m_add, z_of, ↓z_m1, l_0, l_1, l_2, l_3, l_4, l_5, l_6, l_7, l_8, l_9, l_10, l_11, l_12, l_13, l_14, l_15, l_16, l_17, l_18, l_19, l_20, l_21, l_22, l_23, l_24, l_25, l_26, l_27, l_28, l_29, l_30, l_31, l_32, l_33, l_34, l_35, l_36, l_37, l_38, l_39, l_40, l_41, l_42, l_43, l_44, l_45, l_46, l_47, l_48, l_49, l_50, l_51, l_52, l_53, l_54, l_55, l_56, l_57, l_59, l_60, l_61, l_62, l_63, l_64, l_65, l_80, l_86, l_87, l_88, l_89, l_90, l_91, l_92, l_93, l_94, l_95, l_97, l_99, l_100, l_107, l_119, l_122, l_124, l_129, l_140, l_141, l_142, l_143, l_144, l_145, l_147, l_150, l_159, l_160, l_161, l_162, l_205, l_253, l_255, l_256, l_269, l_305, l_380, l_399, l_400, l_420, l_430, l_516, l_600, l_720, l_820, l_905, l_921, l_937, l_953, l_970, l_999, l_1000, l_1790, l_4096, l_9999, l_1000000]
        generalize z_mxr V ho i = y at *
        generalize z_risk V i ho (V 2) = r at *
        simp (disch := omega) only [f_X12_greatestRisk_L4, hV, h86, eI, f2, eg, ↓reduceIte, ↓p_ld, ↓p_st, ↓p_nm, ↓p_nS, ↓p_jn, ↓p_call, ↓p_callv, ↓p_dv, ↓p_rem, h_ldE, h_stE, h_nmE, h_nSE, h_callE, h_callvE, h_dvE, h_remE, if_true, if_false, z_upS, z_upO, z_upK, nI_add, z_mul, z_sub, z_div, Nat.add_zero, Nat.mul_zero, Nat.zero_add, Nat.sub_zero, Nat.zero_mul, z_ltT, z_ltF, z_leT, z_leF, z_eqT, z_eqF, z_inT, z_clT, not_true_eq_false, not_false_eq_true, eq_self, true_or, or_true, z_m_lt, z_m_le, z_lt_m, z_le_m, z_eq_m, z_m_eq, z_rz0, z_rz1, z_m_add, z_of, r_157_0, r_157_1, r_157_2, r_157_3, r_157_6, r_157_7, r_157_8, r_157_9, r_157_10, r_157_11, r_157_27, r_157_28, r_157_29, r_157_30, ↓z_m1, l_0, l_1, l_2, l_3, l_4, l_5, l_6, l_7, l_8, l_9, l_10, l_11, l_12, l_13, l_14, l_15, l_16, l_17, l_18, l_19, l_20, l_21, l_22, l_23, l_24, l_25, l_26, l_27, l_28, l_29, l_30, l_31, l_32, l_33, l_34, l_35, l_36, l_37, l_38, l_39, l_40, l_41, l_42, l_43, l_44, l_45, l_46, l_47, l_48, l_49, l_50, l_51, l_52, l_53, l_54, l_55, l_56, l_57, l_59, l_60, l_61, l_62, l_63, l_64, l_65, l_80, l_86, l_87, l_88, l_89, l_90, l_91, l_92, l_93, l_94, l_95, l_97, l_99, l_100, l_107, l_119, l_122, l_124, l_129, l_140, l_141, l_142, l_143, l_144, l_145, l_147, l_150, l_159, l_160, l_161, l_162, l_205, l_253, l_255, l_256, l_269, l_305, l_380, l_399, l_400, l_420, l_430, l_516, l_600, l_720, l_820, l_905, l_921, l_937, l_953, l_970, l_999, l_1000, l_1790, l_4096, l_9999, l_1000000]
theorem m_great {mu me : Nat} {ho : Int32} {V : Nat → Int32} {σ σc : q_Sto} (hC : z_C σc V mu me) (hV : σ 158 = V) : ∃ σ', (∀ o, o ≠ 166 → o ≠ 167 → σ' o = σ o) ∧ f_X12_greatestRisk q_F 157 ho σ = some (nI (z_mxr V ho mu), σ') := by
  obtain ⟨s, hs, h7⟩ := hC.1.2.2.2.2.1
  have h12 := z_p12 hC.1.1
  have hmu := hC.1.1
  obtain ⟨σ', k1, k2⟩ := m_great_L (n := q_F) (ho := ho) z_F402 h7 (by omega) hC q_F 0 σ hV (Nat.zero_le _) (by unfold q_F; omega)
  refine ⟨σ', k1, ?_⟩
  unfold f_X12_greatestRisk
  have e0 : z_mxr V ho 0 = 0 := rfl
  rw [e0] at k2
  rw [l_0]
  exact k2
/-- what a path costs -/
def z_prc (V : Nat → Int32) (w : Bool) (mu h : Nat) : Nat := if w = true then z_mxr V (nI h) mu else h
def z_P (V : Nat → Int32) (w : Bool) (mu a b : Nat) : Option Nat := if z_path V (nI a) (nI b) = z_m then none else some (z_prc V w mu (zn (z_path V (nI a) (nI b))))
theorem z_P_none {V : Nat → Int32} {w : Bool} {mu a b : Nat} (h : z_path V (nI a) (nI b) = z_m) : z_P V w mu a b = none := if_pos h
theorem z_P_some {V : Nat → Int32} {w : Bool} {mu a b h : Nat} (e : z_path V (nI a) (nI b) = nI h) (hh : h ≤ 24) : z_P V w mu a b = some (z_prc V w mu h) := by
  unfold z_P
  rw [e, if_neg (by rw [z_eq_m (by omega)]; exact id), zn_nI (by omega)]
theorem z_prc_le {V : Nat → Int32} {w : Bool} {mu h : Nat} (hh : h ≤ 24) : z_prc V w mu h ≤ 1000 := z_ite_le (z_mxr_le V _ _) (by omega)
theorem z_P_le {σ : q_Sto} {V : Nat → Int32} {w : Bool} {mu : Nat} (hPA : z_PA σ 1 V) {a b v : Nat} (h : z_P V w mu a b = some v) : v ≤ 1000 := by
  rcases z_path_v hPA (nI a) (nI b) with e | ⟨f, t, hh, l1, l2, l3, l4, l5, l6, l7, l8⟩
  · rw [z_P_none e] at h; cases h
  · rw [z_P_some l8 l5] at h
    cases h
    exact z_prc_le l5
theorem z_P_self {σ : q_Sto} {V : Nat → Int32} {w : Bool} {mu : Nat} (hPA : z_PA σ 1 V) (a : Nat) : z_P V w mu a a = none := by
  rcases z_path_v hPA (nI a) (nI a) with e | ⟨f, t, hh, l1, l2, l3, l4, l5, l6, l7, l8⟩
  · exact z_P_none e
  · rw [l6, nI_eq (by omega) (by omega)] at l7
    exact absurd l7 l3
/-- the class's table of costs, line by line -/
def z_ms (V : Nat → Int32) (w : Bool) (mu : Nat) : Nat → Nat → Nat → Option Nat
  | 0, _, _ => none
  | i + 1, a, b => if zn (V (205+3*i)) = a ∧ zn (V (205+3*i+1)) = b ∧ z_ms V w mu i a b = none then some (z_prc V w mu (zn (V (205+3*i+2)))) else z_ms V w mu i a b
theorem z_ms_P {V : Nat → Int32} {w : Bool} {mu C a b : Nat} (hL : z_LN V C) (ha : a < 10) (hb : b < 10) : ∀ j i, i + j = C →
    (z_ms V w mu i a b = none → z_ms V w mu C a b = if z_pth V (nI a) (nI b) j i = z_m then none else some (z_prc V w mu (zn (z_pth V (nI a) (nI b) j i)))) ∧ (∀ v, z_ms V w mu i a b = some v → z_ms V w mu C a b = some v) := by
  intro j
  induction j with
  | zero =>
    intro i hi
    have hi : i = C := by omega
    subst hi
    refine ⟨fun h => ?_, fun v h => h⟩
    have e : z_pth V (nI a) (nI b) 0 i = z_m := rfl
    rw [e, if_pos rfl, h]
  | succ j ih =>
    intro i hi
    obtain ⟨h1, h2⟩ := ih (i+1) (by omega)
    obtain ⟨f, t, hh, g1, g2, g3, g4, g5, g6, g7⟩ := hL.2.2 i (by omega)
    have e : z_ms V w mu (i+1) a b = if zn (V (205+3*i)) = a ∧ zn (V (205+3*i+1)) = b ∧ z_ms V w mu i a b = none then some (z_prc V w mu (zn (V (205+3*i+2)))) else z_ms V w mu i a b := rfl
    have e2 : z_pth V (nI a) (nI b) (j+1) i = if V (205+3*i) = nI a ∧ V (205+3*i+1) = nI b then V (205+3*i+2) else z_pth V (nI a) (nI b) j (i+1) := rfl
    rw [g5, g6, g7, zn_nI (by omega), zn_nI (by omega), zn_nI (by omega)] at e
    rw [g5, g6, g7] at e2
    have qe : (nI f = nI a ∧ nI t = nI b) ↔ (f = a ∧ t = b) := by rw [nI_eq (by omega) (by omega), nI_eq (by omega) (by omega)]
    refine ⟨fun h => ?_, fun v h => ?_⟩
    · by_cases q : f = a ∧ t = b
      · rw [if_pos ⟨q.1, q.2, h⟩] at e
        rw [if_pos (qe.mpr q)] at e2
        rw [h2 _ e, e2, if_neg (by rw [z_eq_m (by omega)]; exact id), zn_nI (by omega)]
      · rw [if_neg (fun k => q ⟨k.1, k.2.1⟩)] at e
        rw [if_neg (fun k => q (qe.mp k))] at e2
        rw [e2]
        exact h1 (by rw [e]; exact h)
    · rw [if_neg (fun k => by rw [k.2.2] at h; cases h)] at e
      exact h2 v (by rw [e]; exact h)
theorem z_ms_C {V : Nat → Int32} {w : Bool} {mu C a b : Nat} (hL : z_LN V C) (ha : a < 10) (hb : b < 10) : z_ms V w mu C a b = z_P V w mu a b := by
  have h := (z_ms_P (w := w) (mu := mu) hL ha hb C 0 (by omega)).1 rfl
  have hC := hL.1
  rw [h]
  unfold z_P z_path
  rw [hL.2.1, zn_nI (by omega)]
theorem c_fill_L {n o len : Nat} {v : Int32} (hl : len < 2147483648) : ∀ j i (σ : q_Sto), i ≤ len → len < j + i → (∀ k, k < i → σ o k = v) → ∃ σ', (∀ a, a ≠ o → σ' a = σ a) ∧ (∀ k, k < len → σ' o k = v) ∧ f_J7_fill_53178_L5 n len o v (nI len) j (nI i) σ = some (nI 0, σ') := by
  intro j
  induction j with
  | zero => intro i σ h1 h2; omega
  | succ j ih =>
    intro i σ h1 h2 h3
    by_cases hi : i = len
    · subst hi
      refine ⟨σ, fun _ _ => rfl, h3, ?_⟩
      simp (disch := omega) only [f_J7_fill_53178_L5, ↓reduceIte, ↓p_ld, ↓p_st, ↓p_nm, ↓p_nS, ↓p_jn, ↓p_call, ↓p_callv, ↓p_dv, ↓p_rem, h_ldE, h_stE, h_nmE, h_nSE, h_callE, h_callvE, h_dvE, h_remE, if_true, if_false, z_upS, z_upO, z_upK, nI_add, z_mul, z_sub, z_div, Nat.add_zero, Nat.mul_zero, Nat.zero_add, Nat.sub_zero, Nat.zero_mul, z_ltT, z_ltF, z_leT, z_leF, z_eqT, z_eqF, z_inT, z_clT, not_true_eq_false, not_false_eq_true, eq_self, true_or, or_true, z_m_lt, z_m_le, z_lt_m, z_le_m, z_eq_m, z_m_eq, z_rz0, z_rz1, z_m_add, z_of, ↓z_m1, l_0, l_1, l_2, l_3, l_4, l_5, l_6, l_7, l_8, l_9, l_10, l_11, l_12, l_13, l_14, l_15, l_16, l_17, l_18, l_19, l_20, l_21, l_22, l_23, l_24, l_25, l_26, l_27, l_28, l_29, l_30, l_31, l_32, l_33, l_34, l_35, l_36, l_37, l_38, l_39, l_40, l_41, l_42, l_43, l_44, l_45, l_46, l_47, l_48, l_49, l_50, l_51, l_52, l_53, l_54, l_55, l_56, l_57, l_59, l_60, l_61, l_62, l_63, l_64, l_65, l_80, l_86, l_87, l_88, l_89, l_90, l_91, l_92, l_93, l_94, l_95, l_97, l_99, l_100, l_107, l_119, l_122, l_124, l_129, l_140, l_141, l_142, l_143, l_144, l_145, l_147, l_150, l_159, l_160, l_161, l_162, l_205, l_253, l_255, l_256, l_269, l_305, l_380, l_399, l_400, l_420, l_430, l_516, l_600, l_720, l_820, l_905, l_921, l_937, l_953, l_970, l_999, l_1000, l_1790, l_4096, l_9999, l_1000000]
    · obtain ⟨σ', k1, k2, k3⟩ := ih (i+1) (q_up σ o i v) (by omega) (by omega) (fun k hk => by
        by_cases q : k = i
        · subst q; exact z_upS
        · rw [z_upK q]; exact h3 k (by omega))
      refine ⟨σ', fun a ha => by rw [k1 a ha, z_upO ha], k2, ?_⟩
      rw [← k3, f_J7_fill_53178_L5]
      simp (disch := omega) only [↓reduceIte, ↓p_ld, ↓p_st, ↓p_nm, ↓p_nS, ↓p_jn, ↓p_call, ↓p_callv, ↓p_dv, ↓p_rem, h_ldE, h_stE, h_nmE, h_nSE, h_callE, h_callvE, h_dvE, h_remE, if_true, if_false, z_upS, z_upO, z_upK, nI_add, z_mul, z_sub, z_div, Nat.add_zero, Nat.mul_zero, Nat.zero_add, Nat.sub_zero, Nat.zero_mul, z_ltT, z_ltF, z_leT, z_leF, z_eqT, z_eqF, z_inT, z_clT, not_true_eq_false, not_false_eq_true, eq_self, true_or, or_true, z_m_lt, z_m_le, z_lt_m, z_le_m, z_eq_m, z_m_eq, z_rz0, z_rz1, z_m_add, z_of, ↓z_m1, l_0, l_1, l_2, l_3, l_4, l_5, l_6, l_7, l_8, l_9, l_10, l_11, l_12, l_13, l_14, l_15, l_16, l_17, l_18, l_19, l_20, l_21, l_22, l_23, l_24, l_25, l_26, l_27, l_28, l_29, l_30, l_31, l_32, l_33, l_34, l_35, l_36, l_37, l_38, l_39, l_40, l_41, l_42, l_43, l_44, l_45, l_46, l_47, l_48, l_49, l_50, l_51, l_52, l_53, l_54, l_55, l_56, l_57, l_59, l_60, l_61, l_62, l_63, l_64, l_65, l_80, l_86, l_87, l_88, l_89, l_90, l_91, l_92, l_93, l_94, l_95, l_97, l_99, l_100, l_107, l_119, l_122, l_124, l_129, l_140, l_141, l_142, l_143, l_144, l_145, l_147, l_150, l_159, l_160, l_161, l_162, l_205, l_253, l_255, l_256, l_269, l_305, l_380, l_399, l_400, l_420, l_430, l_516, l_600, l_720, l_820, l_905, l_921, l_937, l_953, l_970, l_999, l_1000, l_1790, l_4096, l_9999, l_1000000]
theorem c_fill {o len : Nat} {v : Int32} {σ : q_Sto} (hl : len < 5000) : ∃ σ', (∀ a, a ≠ o → σ' a = σ a) ∧ (∀ k, k < len → σ' o k = v) ∧ f_J7_fill_53178 q_F o len v σ = some (nI 0, σ') := by
  obtain ⟨σ', k1, k2, k3⟩ := c_fill_L (n := q_F) (o := o) (v := v) (show len < 2147483648 by omega) q_F 0 σ (Nat.zero_le _) (by unfold q_F; omega) (fun k hk => by omega)
  refine ⟨σ', k1, k2, ?_⟩
  rw [← k3]
  unfold f_J7_fill_53178
  simp (disch := omega) only [↓reduceIte, ↓p_ld, ↓p_st, ↓p_nm, ↓p_nS, ↓p_jn, ↓p_call, ↓p_callv, ↓p_dv, ↓p_rem, h_ldE, h_stE, h_nmE, h_nSE, h_callE, h_callvE, h_dvE, h_remE, if_true, if_false, z_upS, z_upO, z_upK, nI_add, z_mul, z_sub, z_div, Nat.add_zero, Nat.mul_zero, Nat.zero_add, Nat.sub_zero, Nat.zero_mul, z_ltT, z_ltF, z_leT, z_leF, z_eqT, z_eqF, z_inT, z_clT, not_true_eq_false, not_false_eq_true, eq_self, true_or, or_true, z_m_lt, z_m_le, z_lt_m, z_le_m, z_eq_m, z_m_eq, z_rz0, z_rz1, z_m_add, z_of, ↓z_m1, l_0, l_1, l_2, l_3, l_4, l_5, l_6, l_7, l_8, l_9, l_10, l_11, l_12, l_13, l_14, l_15, l_16, l_17, l_18, l_19, l_20, l_21, l_22, l_23, l_24, l_25, l_26, l_27, l_28, l_29, l_30, l_31, l_32, l_33, l_34, l_35, l_36, l_37, l_38, l_39, l_40, l_41, l_42, l_43, l_44, l_45, l_46, l_47, l_48, l_49, l_50, l_51, l_52, l_53, l_54, l_55, l_56, l_57, l_59, l_60, l_61, l_62, l_63, l_64, l_65, l_80, l_86, l_87, l_88, l_89, l_90, l_91, l_92, l_93, l_94, l_95, l_97, l_99, l_100, l_107, l_119, l_122, l_124, l_129, l_140, l_141, l_142, l_143, l_144, l_145, l_147, l_150, l_159, l_160, l_161, l_162, l_205, l_253, l_255, l_256, l_269, l_305, l_380, l_399, l_400, l_420, l_430, l_516, l_600, l_720, l_820, l_905, l_921, l_937, l_953, l_970, l_999, l_1000, l_1790, l_4096, l_9999, l_1000000]
theorem c_campT {n k : Nat} {σ : q_Sto} (hk : k < 10) : f_X11_isCamp n (nI k) σ = some (nI 1, σ) := by
  unfold f_X11_isCamp
  simp (disch := omega) only [↓reduceIte, ↓p_ld, ↓p_st, ↓p_nm, ↓p_nS, ↓p_jn, ↓p_call, ↓p_callv, ↓p_dv, ↓p_rem, h_ldE, h_stE, h_nmE, h_nSE, h_callE, h_callvE, h_dvE, h_remE, if_true, if_false, z_upS, z_upO, z_upK, nI_add, z_mul, z_sub, z_div, Nat.add_zero, Nat.mul_zero, Nat.zero_add, Nat.sub_zero, Nat.zero_mul, z_ltT, z_ltF, z_leT, z_leF, z_eqT, z_eqF, z_inT, z_clT, not_true_eq_false, not_false_eq_true, eq_self, true_or, or_true, z_m_lt, z_m_le, z_lt_m, z_le_m, z_eq_m, z_m_eq, z_rz0, z_rz1, z_m_add, z_of, r_0_0, r_0_1, r_0_3, r_0_4, r_0_5, r_0_6, r_0_7, r_0_8, r_0_9, r_0_10, r_1_0, r_1_1, r_1_2, r_1_3, r_1_4, r_1_5, r_1_6, r_1_7, r_1_8, r_2_0, r_2_1, r_2_2, r_2_3, r_2_4, r_2_5, r_2_6, r_2_7, r_11_0, r_11_1, r_11_2, r_11_3, r_11_4, r_11_5, r_11_6, r_19_0, r_21_0, r_23_0, r_25_0, r_27_0, r_61_0, r_117_0, r_117_1, r_117_2, r_117_3, r_117_4, r_117_5, r_117_6, r_117_7, r_126_0, r_126_1, r_126_2, r_126_3, r_126_4, r_132_0, r_132_1, r_135_0, r_135_1, r_135_2, r_135_3, r_135_4, r_135_5, r_142_0, r_144_0, r_144_1, r_144_2, r_145_0, r_145_1, r_145_2, r_145_3, r_145_4, r_145_5, r_145_6, r_154_0, r_154_1, r_155_0, ↓z_m1, l_0, l_1, l_2, l_3, l_4, l_5, l_6, l_7, l_8, l_9, l_10, l_11, l_12, l_13, l_14, l_15, l_16, l_17, l_18, l_19, l_20, l_21, l_22, l_23, l_24, l_25, l_26, l_27, l_28, l_29, l_30, l_31, l_32, l_33, l_34, l_35, l_36, l_37, l_38, l_39, l_40, l_41, l_42, l_43, l_44, l_45, l_46, l_47, l_48, l_49, l_50, l_51, l_52, l_53, l_54, l_55, l_56, l_57, l_59, l_60, l_61, l_62, l_63, l_64, l_65, l_80, l_86, l_87, l_88, l_89, l_90, l_91, l_92, l_93, l_94, l_95, l_97, l_99, l_100, l_107, l_119, l_122, l_124, l_129, l_140, l_141, l_142, l_143, l_144, l_145, l_147, l_150, l_159, l_160, l_161, l_162, l_205, l_253, l_255, l_256, l_269, l_305, l_380, l_399, l_400, l_420, l_430, l_516, l_600, l_720, l_820, l_905, l_921, l_937, l_953, l_970, l_999, l_1000, l_1790, l_4096, l_9999, l_1000000]
theorem c_meas_L {mu me C : Nat} {w : Bool} {V : Nat → Int32} (hL : z_LN V C) : ∀ j i σ, z_C σ V mu me → σ 23 2 = nI C → (∀ i, i < C → σ 24 (i*4) = V (205+3*i) ∧ σ 24 (i*4+1) = V (205+3*i+1) ∧ σ 24 (i*4+2) = V (205+3*i+2)) →
    i ≤ C → C < j + i → (∀ a b, a < 10 → b < 10 → σ 133 (a*10+b) = z_oi (z_ms V w mu i a b)) →
    ∃ σ', (∀ o, o ≠ 18 → o ≠ 30 → o ≠ 133 → σ' o = σ o) ∧ (∀ a b, a < 10 → b < 10 → σ' 133 (a*10+b) = z_oi (z_ms V w mu C a b)) ∧ f_X5_measure_L16 q_F 132 1 (if w = true then nI 1 else nI 0) 23 j (nI i) σ = some (nI 0, σ') := by
  intro j
  induction j with
  | zero => intro i σ hC hc hr h1 h2; omega
  | succ j ih =>
    intro i σ hC hc hr h1 h2 hT
    have hC16 := hL.1
    by_cases hi : i = C
    · subst hi
      refine ⟨σ, fun _ _ _ _ => rfl, hT, ?_⟩
      generalize (if w = true then nI 1 else nI 0) = ww
      simp (disch := omega) only [f_X5_measure_L16, hc, ↓reduceIte, ↓p_ld, ↓p_st, ↓p_nm, ↓p_nS, ↓p_jn, ↓p_call, ↓p_callv, ↓p_dv, ↓p_rem, h_ldE, h_stE, h_nmE, h_nSE, h_callE, h_callvE, h_dvE, h_remE, if_true, if_false, z_upS, z_upO, z_upK, nI_add, z_mul, z_sub, z_div, Nat.add_zero, Nat.mul_zero, Nat.zero_add, Nat.sub_zero, Nat.zero_mul, z_ltT, z_ltF, z_leT, z_leF, z_eqT, z_eqF, z_inT, z_clT, not_true_eq_false, not_false_eq_true, eq_self, true_or, or_true, z_m_lt, z_m_le, z_lt_m, z_le_m, z_eq_m, z_m_eq, z_rz0, z_rz1, z_m_add, z_of, r_0_0, r_0_1, r_0_3, r_0_4, r_0_5, r_0_6, r_0_7, r_0_8, r_0_9, r_0_10, r_1_0, r_1_1, r_1_2, r_1_3, r_1_4, r_1_5, r_1_6, r_1_7, r_1_8, r_2_0, r_2_1, r_2_2, r_2_3, r_2_4, r_2_5, r_2_6, r_2_7, r_11_0, r_11_1, r_11_2, r_11_3, r_11_4, r_11_5, r_11_6, r_19_0, r_21_0, r_23_0, r_25_0, r_27_0, r_61_0, r_117_0, r_117_1, r_117_2, r_117_3, r_117_4, r_117_5, r_117_6, r_117_7, r_126_0, r_126_1, r_126_2, r_126_3, r_126_4, r_132_0, r_132_1, r_135_0, r_135_1, r_135_2, r_135_3, r_135_4, r_135_5, r_142_0, r_144_0, r_144_1, r_144_2, r_145_0, r_145_1, r_145_2, r_145_3, r_145_4, r_145_5, r_145_6, r_154_0, r_154_1, r_155_0, ↓z_m1, l_0, l_1, l_2, l_3, l_4, l_5, l_6, l_7, l_8, l_9, l_10, l_11, l_12, l_13, l_14, l_15, l_16, l_17, l_18, l_19, l_20, l_21, l_22, l_23, l_24, l_25, l_26, l_27, l_28, l_29, l_30, l_31, l_32, l_33, l_34, l_35, l_36, l_37, l_38, l_39, l_40, l_41, l_42, l_43, l_44, l_45, l_46, l_47, l_48, l_49, l_50, l_51, l_52, l_53, l_54, l_55, l_56, l_57, l_59, l_60, l_61, l_62, l_63, l_64, l_65, l_80, l_86, l_87, l_88, l_89, l_90, l_91, l_92, l_93, l_94, l_95, l_97, l_99, l_100, l_107, l_119, l_122, l_124, l_129, l_140, l_141, l_142, l_143, l_144, l_145, l_147, l_150, l_159, l_160, l_161, l_162, l_205, l_253, l_255, l_256, l_269, l_305, l_380, l_399, l_400, l_420, l_430, l_516, l_600, l_720, l_820, l_905, l_921, l_937, l_953, l_970, l_999, l_1000, l_1790, l_4096, l_9999, l_1000000]
    · obtain ⟨f, t, hh, g1, g2, g3, g4, g5, g6, g7⟩ := hL.2.2 i (by omega)
      obtain ⟨r0, r1, r2⟩ := hr i (by omega)
      have e0 := c_cell (n := q_F) (i := i) (j := 0) r_23_0 hc hC16 (by omega) (by omega)
      have e1 := c_cell (n := q_F) (i := i) (j := 1) r_23_0 hc hC16 (by omega) (by omega)
      have e2 := c_cell (n := q_F) (i := i) (j := 2) r_23_0 hc hC16 (by omega) (by omega)
      rw [Nat.add_zero, r0, g5] at e0
      rw [r1, g6] at e1
      rw [r2, g7] at e2
      have k1 := c_campT (n := q_F) (σ := σ) g1
      have k2 := c_campT (n := q_F) (σ := σ) g2
      have hv := hT f t g1 g2
      have e : ∀ a b, z_ms V w mu (i+1) a b = if f = a ∧ t = b ∧ z_ms V w mu i a b = none then some (z_prc V w mu hh) else z_ms V w mu i a b := by
        intro a b
        show (if zn (V (205+3*i)) = a ∧ zn (V (205+3*i+1)) = b ∧ z_ms V w mu i a b = none then some (z_prc V w mu (zn (V (205+3*i+2)))) else z_ms V w mu i a b) = _
        rw [g5, g6, g7, zn_nI (by omega), zn_nI (by omega), zn_nI (by omega)]
      cases hp : z_ms V w mu i f t with
      | some v =>
        have en : ∀ a b, z_ms V w mu (i+1) a b = z_ms V w mu i a b := by
          intro a b
          rw [e]
          by_cases q : f = a ∧ t = b ∧ z_ms V w mu i a b = none
          · obtain ⟨rfl, rfl, q⟩ := q
            rw [hp] at q
            cases q
          · rw [if_neg q]
        obtain ⟨σ', l1, l2, l3⟩ := ih (i+1) σ hC hc hr (by omega) (by omega) (fun a b ha hb => by rw [en]; exact hT a b ha hb)
        refine ⟨σ', l1, l2, ?_⟩
        have e5 : z_oi (some v) = nI v := rfl
        rw [hp, e5] at hv
        have hne : ¬ nI v = z_m := by
          have hz : ∀ i v, i ≤ C → z_ms V w mu i f t = some v → v ≤ 1000 := by
            intro i
            induction i with
            | zero => intro v _ h; cases h
            | succ i ihh =>
              intro v hiC h
              obtain ⟨f', t', hh', q1, q2, q3, q4, q5, q6, q7⟩ := hL.2.2 i (by omega)
              have h : (if zn (V (205+3*i)) = f ∧ zn (V (205+3*i+1)) = t ∧ z_ms V w mu i f t = none then some (z_prc V w mu (zn (V (205+3*i+2)))) else z_ms V w mu i f t) = some v := h
              rw [q7, zn_nI (by omega)] at h
              split at h
              · cases h; exact z_prc_le q4
              · exact ihh v (by omega) h
          have := hz i v (by omega) hp
          rw [z_eq_m (by omega)]; exact id
        rw [← l3]
        generalize (if w = true then nI 1 else nI 0) = ww
        simp (disch := omega) only [f_X5_measure_L16, hc, e0, e1, k1, k2, hv, hne, ↓reduceIte, ↓p_ld, ↓p_st, ↓p_nm, ↓p_nS, ↓p_jn, ↓p_call, ↓p_callv, ↓p_dv, ↓p_rem, h_ldE, h_stE, h_nmE, h_nSE, h_callE, h_callvE, h_dvE, h_remE, if_true, if_false, z_upS, z_upO, z_upK, nI_add, z_mul, z_sub, z_div, Nat.add_zero, Nat.mul_zero, Nat.zero_add, Nat.sub_zero, Nat.zero_mul, z_ltT, z_ltF, z_leT, z_leF, z_eqT, z_eqF, z_inT, z_clT, not_true_eq_false, not_false_eq_true, eq_self, true_or, or_true, z_m_lt, z_m_le, z_lt_m, z_le_m, z_eq_m, z_m_eq, z_rz0, z_rz1, z_m_add, z_of, r_0_0, r_0_1, r_0_3, r_0_4, r_0_5, r_0_6, r_0_7, r_0_8, r_0_9, r_0_10, r_1_0, r_1_1, r_1_2, r_1_3, r_1_4, r_1_5, r_1_6, r_1_7, r_1_8, r_2_0, r_2_1, r_2_2, r_2_3, r_2_4, r_2_5, r_2_6, r_2_7, r_11_0, r_11_1, r_11_2, r_11_3, r_11_4, r_11_5, r_11_6, r_19_0, r_21_0, r_23_0, r_25_0, r_27_0, r_61_0, r_117_0, r_117_1, r_117_2, r_117_3, r_117_4, r_117_5, r_117_6, r_117_7, r_126_0, r_126_1, r_126_2, r_126_3, r_126_4, r_132_0, r_132_1, r_135_0, r_135_1, r_135_2, r_135_3, r_135_4, r_135_5, r_142_0, r_144_0, r_144_1, r_144_2, r_145_0, r_145_1, r_145_2, r_145_3, r_145_4, r_145_5, r_145_6, r_154_0, r_154_1, r_155_0, ↓z_m1, l_0, l_1, l_2, l_3, l_4, l_5, l_6, l_7, l_8, l_9, l_10, l_11, l_12, l_13, l_14, l_15, l_16, l_17, l_18, l_19, l_20, l_21, l_22, l_23, l_24, l_25, l_26, l_27, l_28, l_29, l_30, l_31, l_32, l_33, l_34, l_35, l_36, l_37, l_38, l_39, l_40, l_41, l_42, l_43, l_44, l_45, l_46, l_47, l_48, l_49, l_50, l_51, l_52, l_53, l_54, l_55, l_56, l_57, l_59, l_60, l_61, l_62, l_63, l_64, l_65, l_80, l_86, l_87, l_88, l_89, l_90, l_91, l_92, l_93, l_94, l_95, l_97, l_99, l_100, l_107, l_119, l_122, l_124, l_129, l_140, l_141, l_142, l_143, l_144, l_145, l_147, l_150, l_159, l_160, l_161, l_162, l_205, l_253, l_255, l_256, l_269, l_305, l_380, l_399, l_400, l_420, l_430, l_516, l_600, l_720, l_820, l_905, l_921, l_937, l_953, l_970, l_999, l_1000, l_1790, l_4096, l_9999, l_1000000]
      | none =>
        rw [hp] at hv
        have hv : σ 133 (f*10+t) = z_m := hv
        have next : ∀ σ1 : q_Sto, (∀ o, o ≠ 18 → o ≠ 30 → σ1 o = σ o) → ∃ σ', (∀ o, o ≠ 18 → o ≠ 30 → o ≠ 133 → σ' o = σ o) ∧ (∀ a b, a < 10 → b < 10 → σ' 133 (a*10+b) = z_oi (z_ms V w mu C a b)) ∧
            f_X5_measure_L16 q_F 132 1 (if w = true then nI 1 else nI 0) 23 j (nI (i+1)) (q_up σ1 133 (f*10+t) (nI (z_prc V w mu hh))) = some (nI 0, σ') := by
          intro σ1 hf
          have hfr : ∀ o, o ≠ 18 → o ≠ 30 → o ≠ 133 → q_up σ1 133 (f*10+t) (nI (z_prc V w mu hh)) o = σ o := fun o o1 o2 o3 => by rw [z_upO o3, hf o o1 o2]
          obtain ⟨σ', l1, l2, l3⟩ := ih (i+1) (q_up σ1 133 (f*10+t) (nI (z_prc V w mu hh))) (hC.fr (fun o o1 o2 o3 => hfr o (by omega) (by omega) (by omega))) (by rw [hfr 23 (by omega) (by omega) (by omega)]; exact hc) (fun i hi => by rw [hfr 24 (by omega) (by omega) (by omega)]; exact hr i hi) (by omega) (by omega) (fun a b ha hb => by
            rw [e]
            by_cases q : f = a ∧ t = b
            · obtain ⟨rfl, rfl⟩ := q
              rw [if_pos ⟨rfl, rfl, hp⟩, z_upS]
              rfl
            · rw [if_neg (fun k => q ⟨k.1, k.2.1⟩), z_upK (by omega), hf 133 (by omega) (by omega)]
              exact hT a b ha hb)
          exact ⟨σ', fun o o1 o2 o3 => by rw [l1 o o1 o2 o3, hfr o o1 o2 o3], l2, l3⟩
        cases w with
        | false =>
          obtain ⟨σ', l1, l2, l3⟩ := next σ (fun _ _ _ => rfl)
          refine ⟨σ', l1, l2, ?_⟩
          have e9 : z_prc V false mu hh = hh := rfl
          have e8 : (if false = true then nI 1 else nI 0) = nI 0 := rfl
          rw [e8, e9] at l3
          rw [e8, ← l3]
          simp (disch := omega) only [f_X5_measure_L16, hc, e0, e1, e2, k1, k2, hv, ↓reduceIte, ↓p_ld, ↓p_st, ↓p_nm, ↓p_nS, ↓p_jn, ↓p_call, ↓p_callv, ↓p_dv, ↓p_rem, h_ldE, h_stE, h_nmE, h_nSE, h_callE, h_callvE, h_dvE, h_remE, if_true, if_false, z_upS, z_upO, z_upK, nI_add, z_mul, z_sub, z_div, Nat.add_zero, Nat.mul_zero, Nat.zero_add, Nat.sub_zero, Nat.zero_mul, z_ltT, z_ltF, z_leT, z_leF, z_eqT, z_eqF, z_inT, z_clT, not_true_eq_false, not_false_eq_true, eq_self, true_or, or_true, z_m_lt, z_m_le, z_lt_m, z_le_m, z_eq_m, z_m_eq, z_rz0, z_rz1, z_m_add, z_of, r_0_0, r_0_1, r_0_3, r_0_4, r_0_5, r_0_6, r_0_7, r_0_8, r_0_9, r_0_10, r_1_0, r_1_1, r_1_2, r_1_3, r_1_4, r_1_5, r_1_6, r_1_7, r_1_8, r_2_0, r_2_1, r_2_2, r_2_3, r_2_4, r_2_5, r_2_6, r_2_7, r_11_0, r_11_1, r_11_2, r_11_3, r_11_4, r_11_5, r_11_6, r_19_0, r_21_0, r_23_0, r_25_0, r_27_0, r_61_0, r_117_0, r_117_1, r_117_2, r_117_3, r_117_4, r_117_5, r_117_6, r_117_7, r_126_0, r_126_1, r_126_2, r_126_3, r_126_4, r_132_0, r_132_1, r_135_0, r_135_1, r_135_2, r_135_3, r_135_4, r_135_5, r_142_0, r_144_0, r_144_1, r_144_2, r_145_0, r_145_1, r_145_2, r_145_3, r_145_4, r_145_5, r_145_6, r_154_0, r_154_1, r_155_0, ↓z_m1, l_0, l_1, l_2, l_3, l_4, l_5, l_6, l_7, l_8, l_9, l_10, l_11, l_12, l_13, l_14, l_15, l_16, l_17, l_18, l_19, l_20, l_21, l_22, l_23, l_24, l_25, l_26, l_27, l_28, l_29, l_30, l_31, l_32, l_33, l_34, l_35, l_36, l_37, l_38, l_39, l_40, l_41, l_42, l_43, l_44, l_45, l_46, l_47, l_48, l_49, l_50, l_51, l_52, l_53, l_54, l_55, l_56, l_57, l_59, l_60, l_61, l_62, l_63, l_64, l_65, l_80, l_86, l_87, l_88, l_89, l_90, l_91, l_92, l_93, l_94, l_95, l_97, l_99, l_100, l_107, l_119, l_122, l_124, l_129, l_140, l_141, l_142, l_143, l_144, l_145, l_147, l_150, l_159, l_160, l_161, l_162, l_205, l_253, l_255, l_256, l_269, l_305, l_380, l_399, l_400, l_420, l_430, l_516, l_600, l_720, l_820, l_905, l_921, l_937, l_953, l_970, l_999, l_1000, l_1790, l_4096, l_9999, l_1000000]
        | true =>
          obtain ⟨σ1, f1, f2⟩ := c_great (ho := nI hh) hC
          obtain ⟨σ', l1, l2, l3⟩ := next σ1 f1
          refine ⟨σ', l1, l2, ?_⟩
          have e9 : z_prc V true mu hh = z_mxr V (nI hh) mu := rfl
          have e8 : (if true = true then nI 1 else nI 0) = nI 1 := rfl
          rw [e8, e9] at l3
          rw [e8, ← l3]
          simp (disch := omega) only [f_X5_measure_L16, hc, e0, e1, e2, k1, k2, hv, f2, ↓reduceIte, ↓p_ld, ↓p_st, ↓p_nm, ↓p_nS, ↓p_jn, ↓p_call, ↓p_callv, ↓p_dv, ↓p_rem, h_ldE, h_stE, h_nmE, h_nSE, h_callE, h_callvE, h_dvE, h_remE, if_true, if_false, z_upS, z_upO, z_upK, nI_add, z_mul, z_sub, z_div, Nat.add_zero, Nat.mul_zero, Nat.zero_add, Nat.sub_zero, Nat.zero_mul, z_ltT, z_ltF, z_leT, z_leF, z_eqT, z_eqF, z_inT, z_clT, not_true_eq_false, not_false_eq_true, eq_self, true_or, or_true, z_m_lt, z_m_le, z_lt_m, z_le_m, z_eq_m, z_m_eq, z_rz0, z_rz1, z_m_add, z_of, r_0_0, r_0_1, r_0_3, r_0_4, r_0_5, r_0_6, r_0_7, r_0_8, r_0_9, r_0_10, r_1_0, r_1_1, r_1_2, r_1_3, r_1_4, r_1_5, r_1_6, r_1_7, r_1_8, r_2_0, r_2_1, r_2_2, r_2_3, r_2_4, r_2_5, r_2_6, r_2_7, r_11_0, r_11_1, r_11_2, r_11_3, r_11_4, r_11_5, r_11_6, r_19_0, r_21_0, r_23_0, r_25_0, r_27_0, r_61_0, r_117_0, r_117_1, r_117_2, r_117_3, r_117_4, r_117_5, r_117_6, r_117_7, r_126_0, r_126_1, r_126_2, r_126_3, r_126_4, r_132_0, r_132_1, r_135_0, r_135_1, r_135_2, r_135_3, r_135_4, r_135_5, r_142_0, r_144_0, r_144_1, r_144_2, r_145_0, r_145_1, r_145_2, r_145_3, r_145_4, r_145_5, r_145_6, r_154_0, r_154_1, r_155_0, ↓z_m1, l_0, l_1, l_2, l_3, l_4, l_5, l_6, l_7, l_8, l_9, l_10, l_11, l_12, l_13, l_14, l_15, l_16, l_17, l_18, l_19, l_20, l_21, l_22, l_23, l_24, l_25, l_26, l_27, l_28, l_29, l_30, l_31, l_32, l_33, l_34, l_35, l_36, l_37, l_38, l_39, l_40, l_41, l_42, l_43, l_44, l_45, l_46, l_47, l_48, l_49, l_50, l_51, l_52, l_53, l_54, l_55, l_56, l_57, l_59, l_60, l_61, l_62, l_63, l_64, l_65, l_80, l_86, l_87, l_88, l_89, l_90, l_91, l_92, l_93, l_94, l_95, l_97, l_99, l_100, l_107, l_119, l_122, l_124, l_129, l_140, l_141, l_142, l_143, l_144, l_145, l_147, l_150, l_159, l_160, l_161, l_162, l_205, l_253, l_255, l_256, l_269, l_305, l_380, l_399, l_400, l_420, l_430, l_516, l_600, l_720, l_820, l_905, l_921, l_937, l_953, l_970, l_999, l_1000, l_1790, l_4096, l_9999, l_1000000]
theorem m_price {mu me a b : Nat} {w : Bool} {V : Nat → Int32} {σ σc : q_Sto} (hC : z_C σc V mu me) (hV : σ 158 = V) : ∃ σ', (∀ o, o ≠ 166 → o ≠ 167 → σ' o = σ o) ∧ f_X12_priceOf q_F 157 (nI a) (nI b) (if w = true then nI 1 else nI 0) σ = some (z_oi (z_P V w mu a b), σ') := by
  obtain ⟨C, hC16, hc, h92, h1⟩ := hC.2.2.2.2.2.1
  have ep := m_pathOf (n := q_F) (a := nI a) (b := nI b) (by unfold q_F; omega) hV h92 hC16
  rcases z_path_v hC.2.2.2.2.2.1 (nI a) (nI b) with e | ⟨f, t, hh, l1, l2, l3, l4, l5, l6, l7, l8⟩
  · refine ⟨σ, fun _ _ _ => rfl, ?_⟩
    have e2 : z_oi none = z_m := rfl
    rw [z_P_none e, e2]
    rw [e] at ep
    generalize (if w = true then nI 1 else nI 0) = ww
    simp (disch := omega) only [f_X12_priceOf, ep, ↓reduceIte, ↓p_ld, ↓p_st, ↓p_nm, ↓p_nS, ↓p_jn, ↓p_call, ↓p_callv, ↓p_dv, ↓p_rem, h_ldE, h_stE, h_nmE, h_nSE, h_callE, h_callvE, h_dvE, h_remE, if_true, if_false, z_upS, z_upO, z_upK, nI_add, z_mul, z_sub, z_div, Nat.add_zero, Nat.mul_zero, Nat.zero_add, Nat.sub_zero, Nat.zero_mul, z_ltT, z_ltF, z_leT, z_leF, z_eqT, z_eqF, z_inT, z_clT, not_true_eq_false, not_false_eq_true, eq_self, true_or, or_true, z_m_lt, z_m_le, z_lt_m, z_le_m, z_eq_m, z_m_eq, z_rz0, z_rz1, z_m_add, z_of, r_157_0, r_157_1, r_157_2, r_157_3, r_157_6, r_157_7, r_157_8, r_157_9, r_157_10, r_157_11, r_157_27, r_157_28, r_157_29, r_157_30, ↓z_m1, l_0, l_1, l_2, l_3, l_4, l_5, l_6, l_7, l_8, l_9, l_10, l_11, l_12, l_13, l_14, l_15, l_16, l_17, l_18, l_19, l_20, l_21, l_22, l_23, l_24, l_25, l_26, l_27, l_28, l_29, l_30, l_31, l_32, l_33, l_34, l_35, l_36, l_37, l_38, l_39, l_40, l_41, l_42, l_43, l_44, l_45, l_46, l_47, l_48, l_49, l_50, l_51, l_52, l_53, l_54, l_55, l_56, l_57, l_59, l_60, l_61, l_62, l_63, l_64, l_65, l_80, l_86, l_87, l_88, l_89, l_90, l_91, l_92, l_93, l_94, l_95, l_97, l_99, l_100, l_107, l_119, l_122, l_124, l_129, l_140, l_141, l_142, l_143, l_144, l_145, l_147, l_150, l_159, l_160, l_161, l_162, l_205, l_253, l_255, l_256, l_269, l_305, l_380, l_399, l_400, l_420, l_430, l_516, l_600, l_720, l_820, l_905, l_921, l_937, l_953, l_970, l_999, l_1000, l_1790, l_4096, l_9999, l_1000000]
  · rw [z_P_some l8 l5]
    rw [l8] at ep
    have e2 : ∀ k, z_oi (some k) = nI k := fun _ => rfl
    rw [e2]
    cases w with
    | false =>
      refine ⟨σ, fun _ _ _ => rfl, ?_⟩
      have e9 : z_prc V false mu hh = hh := rfl
      have e8 : (if false = true then nI 1 else nI 0) = nI 0 := rfl
      rw [e8, e9]
      simp (disch := omega) only [f_X12_priceOf, ep, ↓reduceIte, ↓p_ld, ↓p_st, ↓p_nm, ↓p_nS, ↓p_jn, ↓p_call, ↓p_callv, ↓p_dv, ↓p_rem, h_ldE, h_stE, h_nmE, h_nSE, h_callE, h_callvE, h_dvE, h_remE, if_true, if_false, z_upS, z_upO, z_upK, nI_add, z_mul, z_sub, z_div, Nat.add_zero, Nat.mul_zero, Nat.zero_add, Nat.sub_zero, Nat.zero_mul, z_ltT, z_ltF, z_leT, z_leF, z_eqT, z_eqF, z_inT, z_clT, not_true_eq_false, not_false_eq_true, eq_self, true_or, or_true, z_m_lt, z_m_le, z_lt_m, z_le_m, z_eq_m, z_m_eq, z_rz0, z_rz1, z_m_add, z_of, r_157_0, r_157_1, r_157_2, r_157_3, r_157_6, r_157_7, r_157_8, r_157_9, r_157_10, r_157_11, r_157_27, r_157_28, r_157_29, r_157_30, ↓z_m1, l_0, l_1, l_2, l_3, l_4, l_5, l_6, l_7, l_8, l_9, l_10, l_11, l_12, l_13, l_14, l_15, l_16, l_17, l_18, l_19, l_20, l_21, l_22, l_23, l_24, l_25, l_26, l_27, l_28, l_29, l_30, l_31, l_32, l_33, l_34, l_35, l_36, l_37, l_38, l_39, l_40, l_41, l_42, l_43, l_44, l_45, l_46, l_47, l_48, l_49, l_50, l_51, l_52, l_53, l_54, l_55, l_56, l_57, l_59, l_60, l_61, l_62, l_63, l_64, l_65, l_80, l_86, l_87, l_88, l_89, l_90, l_91, l_92, l_93, l_94, l_95, l_97, l_99, l_100, l_107, l_119, l_122, l_124, l_129, l_140, l_141, l_142, l_143, l_144, l_145, l_147, l_150, l_159, l_160, l_161, l_162, l_205, l_253, l_255, l_256, l_269, l_305, l_380, l_399, l_400, l_420, l_430, l_516, l_600, l_720, l_820, l_905, l_921, l_937, l_953, l_970, l_999, l_1000, l_1790, l_4096, l_9999, l_1000000]
    | true =>
      obtain ⟨σ1, f1, f2⟩ := m_great (ho := nI hh) hC hV
      refine ⟨σ1, f1, ?_⟩
      have e9 : z_prc V true mu hh = z_mxr V (nI hh) mu := rfl
      have e8 : (if true = true then nI 1 else nI 0) = nI 1 := rfl
      rw [e8, e9]
      simp (disch := omega) only [f_X12_priceOf, ep, f2, ↓reduceIte, ↓p_ld, ↓p_st, ↓p_nm, ↓p_nS, ↓p_jn, ↓p_call, ↓p_callv, ↓p_dv, ↓p_rem, h_ldE, h_stE, h_nmE, h_nSE, h_callE, h_callvE, h_dvE, h_remE, if_true, if_false, z_upS, z_upO, z_upK, nI_add, z_mul, z_sub, z_div, Nat.add_zero, Nat.mul_zero, Nat.zero_add, Nat.sub_zero, Nat.zero_mul, z_ltT, z_ltF, z_leT, z_leF, z_eqT, z_eqF, z_inT, z_clT, not_true_eq_false, not_false_eq_true, eq_self, true_or, or_true, z_m_lt, z_m_le, z_lt_m, z_le_m, z_eq_m, z_m_eq, z_rz0, z_rz1, z_m_add, z_of, r_157_0, r_157_1, r_157_2, r_157_3, r_157_6, r_157_7, r_157_8, r_157_9, r_157_10, r_157_11, r_157_27, r_157_28, r_157_29, r_157_30, ↓z_m1, l_0, l_1, l_2, l_3, l_4, l_5, l_6, l_7, l_8, l_9, l_10, l_11, l_12, l_13, l_14, l_15, l_16, l_17, l_18, l_19, l_20, l_21, l_22, l_23, l_24, l_25, l_26, l_27, l_28, l_29, l_30, l_31, l_32, l_33, l_34, l_35, l_36, l_37, l_38, l_39, l_40, l_41, l_42, l_43, l_44, l_45, l_46, l_47, l_48, l_49, l_50, l_51, l_52, l_53, l_54, l_55, l_56, l_57, l_59, l_60, l_61, l_62, l_63, l_64, l_65, l_80, l_86, l_87, l_88, l_89, l_90, l_91, l_92, l_93, l_94, l_95, l_97, l_99, l_100, l_107, l_119, l_122, l_124, l_129, l_140, l_141, l_142, l_143, l_144, l_145, l_147, l_150, l_159, l_160, l_161, l_162, l_205, l_253, l_255, l_256, l_269, l_305, l_380, l_399, l_400, l_420, l_430, l_516, l_600, l_720, l_820, l_905, l_921, l_937, l_953, l_970, l_999, l_1000, l_1790, l_4096, l_9999, l_1000000]
