/-! TEXTS: the reference's tokens -/
def zt_R (σ : q_Sto) (T : zt_T) (k p : Nat) : Prop := zt_B (σ 165) T ∧ p ≤ T.2 ∧ k < 5 ∧ σ 157 16 = nI T.2 ∧ σ 157 12 = nI k ∧ σ 157 17 = nI (zt_nx T p) ∧ σ 157 18 = nI (zt_cd k T p) ∧ σ 157 19 = nI (zt_at T p) ∧ (zt_cd k T p = 2 → σ 157 20 = nI (zt_va T p))
theorem zt_R.fr {σ σ' : q_Sto} {T : zt_T} {k p : Nat} (h : zt_R σ T k p) (e3 : σ' 165 = σ 165) (e : ∀ a, a = 12 ∨ a = 16 ∨ a = 17 ∨ a = 18 ∨ a = 19 ∨ a = 20 → σ' 157 a = σ 157 a) : zt_R σ' T k p := by
  unfold zt_R at *
  rw [e3, e 12 (by omega), e 16 (by omega), e 17 (by omega), e 18 (by omega), e 19 (by omega), e 20 (by omega)]
  exact h
theorem m_see {n i : Nat} {σ : q_Sto} {T : zt_T} (hB : zt_B (σ 165) T) (h1 : σ 157 16 = nI T.2) (hi : i < T.2) : f_X12_see n 157 (nI i) σ = some (nI (T.1 i), σ) := by
  have hL := hB.1
  have hb := (hB.2 i hi).1
  unfold f_X12_see
  simp (disch := omega) only [h1, hb, ↓reduceIte, ↓p_ld, ↓p_st, ↓p_nm, ↓p_nS, ↓p_jn, ↓p_call, ↓p_callv, ↓p_dv, ↓p_rem, h_ldE, h_stE, h_nmE, h_nSE, h_callE, h_callvE, h_dvE, h_remE, if_true, if_false, z_upS, z_upO, z_upK, nI_add, z_mul, z_sub, z_div, Nat.add_zero, Nat.mul_zero, Nat.zero_add, Nat.sub_zero, Nat.zero_mul, z_ltT, z_ltF, z_leT, z_leF, z_eqT, z_eqF, z_inT, z_clT, not_true_eq_false, not_false_eq_true, eq_self, true_or, or_true, z_m_lt, z_m_le, z_lt_m, z_le_m, z_eq_m, z_m_eq, z_rz0, z_rz1, z_m_add, z_of, r_157_0, r_157_1, r_157_2, r_157_3, r_157_6, r_157_7, r_157_8, r_157_9, r_157_10, r_157_11, r_157_27, r_157_28, r_157_29, r_157_30, ↓z_m1, l_0, l_1, l_2, l_3, l_4, l_5, l_6, l_7, l_8, l_9, l_10, l_11, l_12, l_13, l_14, l_15, l_16, l_17, l_18, l_19, l_20, l_21, l_22, l_23, l_24, l_25, l_26, l_27, l_28, l_29, l_30, l_31, l_32, l_33, l_34, l_35, l_36, l_37, l_38, l_39, l_40, l_41, l_42, l_43, l_44, l_45, l_46, l_47, l_48, l_49, l_50, l_51, l_52, l_53, l_54, l_55, l_56, l_57, l_59, l_60, l_61, l_62, l_63, l_64, l_65, l_80, l_86, l_87, l_88, l_89, l_90, l_91, l_92, l_93, l_94, l_95, l_97, l_99, l_100, l_107, l_119, l_122, l_124, l_129, l_140, l_141, l_142, l_143, l_144, l_145, l_147, l_150, l_159, l_160, l_161, l_162, l_205, l_253, l_255, l_256, l_269, l_305, l_380, l_399, l_400, l_420, l_430, l_516, l_600, l_720, l_820, l_905, l_921, l_937, l_953, l_970, l_999, l_1000, l_1790, l_4096, l_9999, l_1000000]
theorem m_see0 {n i : Nat} {σ : q_Sto} {T : zt_T} (hB : zt_B (σ 165) T) (h1 : σ 157 16 = nI T.2) (hi : T.2 ≤ i) (hi2 : i < 2147483648) : f_X12_see n 157 (nI i) σ = some (z_m, σ) := by
  have hL := hB.1
  unfold f_X12_see
  simp (disch := omega) only [h1, ↓reduceIte, ↓p_ld, ↓p_st, ↓p_nm, ↓p_nS, ↓p_jn, ↓p_call, ↓p_callv, ↓p_dv, ↓p_rem, h_ldE, h_stE, h_nmE, h_nSE, h_callE, h_callvE, h_dvE, h_remE, if_true, if_false, z_upS, z_upO, z_upK, nI_add, z_mul, z_sub, z_div, Nat.add_zero, Nat.mul_zero, Nat.zero_add, Nat.sub_zero, Nat.zero_mul, z_ltT, z_ltF, z_leT, z_leF, z_eqT, z_eqF, z_inT, z_clT, not_true_eq_false, not_false_eq_true, eq_self, true_or, or_true, z_m_lt, z_m_le, z_lt_m, z_le_m, z_eq_m, z_m_eq, z_rz0, z_rz1, z_m_add, z_of, r_157_0, r_157_1, r_157_2, r_157_3, r_157_6, r_157_7, r_157_8, r_157_9, r_157_10, r_157_11, r_157_27, r_157_28, r_157_29, r_157_30, ↓z_m1, l_0, l_1, l_2, l_3, l_4, l_5, l_6, l_7, l_8, l_9, l_10, l_11, l_12, l_13, l_14, l_15, l_16, l_17, l_18, l_19, l_20, l_21, l_22, l_23, l_24, l_25, l_26, l_27, l_28, l_29, l_30, l_31, l_32, l_33, l_34, l_35, l_36, l_37, l_38, l_39, l_40, l_41, l_42, l_43, l_44, l_45, l_46, l_47, l_48, l_49, l_50, l_51, l_52, l_53, l_54, l_55, l_56, l_57, l_59, l_60, l_61, l_62, l_63, l_64, l_65, l_80, l_86, l_87, l_88, l_89, l_90, l_91, l_92, l_93, l_94, l_95, l_97, l_99, l_100, l_107, l_119, l_122, l_124, l_129, l_140, l_141, l_142, l_143, l_144, l_145, l_147, l_150, l_159, l_160, l_161, l_162, l_205, l_253, l_255, l_256, l_269, l_305, l_380, l_399, l_400, l_420, l_430, l_516, l_600, l_720, l_820, l_905, l_921, l_937, l_953, l_970, l_999, l_1000, l_1790, l_4096, l_9999, l_1000000]
theorem z_w_out {c lo hi : Nat} (hc : c < 2147483648) (hh : hi < 2147483648) (h : c < lo ∨ hi < c) (hl : lo < 2147483648) : z_w (nI c) (nI lo) (nI hi) = nI 0 := by
  unfold z_w
  rcases h with h | h
  · rw [if_pos ((nI_ltI (by omega) (by omega)).mpr h)]
  · by_cases q : c < lo
    · rw [if_pos ((nI_ltI (by omega) (by omega)).mpr q)]
    · rw [if_neg (fun g => q ((nI_ltI (by omega) (by omega)).mp g)), if_neg (fun g => by rw [nI_leI (by omega) (by omega)] at g; omega)]
theorem m_isLetter {n c : Nat} {σ : q_Sto} (hc : c < 2147483648) : f_X12_isLetter n (nI c) σ = some (z_fb (zt_il c), σ) := by
  have e1 : z_fb true = nI 1 := rfl
  have e0 : z_fb false = nI 0 := rfl
  unfold f_X12_isLetter
  by_cases q1 : 97 ≤ c ∧ c ≤ 122
  · have : zt_il c = true := by unfold zt_il; simp; omega
    have ew := z_w_in q1.1 q1.2 (by omega)
    rw [this, e1]
    simp (disch := omega) only [m_isIn, ew, ↓reduceIte, ↓p_ld, ↓p_st, ↓p_nm, ↓p_nS, ↓p_jn, ↓p_call, ↓p_callv, ↓p_dv, ↓p_rem, h_ldE, h_stE, h_nmE, h_nSE, h_callE, h_callvE, h_dvE, h_remE, if_true, if_false, z_upS, z_upO, z_upK, nI_add, z_mul, z_sub, z_div, Nat.add_zero, Nat.mul_zero, Nat.zero_add, Nat.sub_zero, Nat.zero_mul, z_ltT, z_ltF, z_leT, z_leF, z_eqT, z_eqF, z_inT, z_clT, not_true_eq_false, not_false_eq_true, eq_self, true_or, or_true, z_m_lt, z_m_le, z_lt_m, z_le_m, z_eq_m, z_m_eq, z_rz0, z_rz1, z_m_add, z_of, r_157_0, r_157_1, r_157_2, r_157_3, r_157_6, r_157_7, r_157_8, r_157_9, r_157_10, r_157_11, r_157_27, r_157_28, r_157_29, r_157_30, ↓z_m1, l_0, l_1, l_2, l_3, l_4, l_5, l_6, l_7, l_8, l_9, l_10, l_11, l_12, l_13, l_14, l_15, l_16, l_17, l_18, l_19, l_20, l_21, l_22, l_23, l_24, l_25, l_26, l_27, l_28, l_29, l_30, l_31, l_32, l_33, l_34, l_35, l_36, l_37, l_38, l_39, l_40, l_41, l_42, l_43, l_44, l_45, l_46, l_47, l_48, l_49, l_50, l_51, l_52, l_53, l_54, l_55, l_56, l_57, l_59, l_60, l_61, l_62, l_63, l_64, l_65, l_80, l_86, l_87, l_88, l_89, l_90, l_91, l_92, l_93, l_94, l_95, l_97, l_99, l_100, l_107, l_119, l_122, l_124, l_129, l_140, l_141, l_142, l_143, l_144, l_145, l_147, l_150, l_159, l_160, l_161, l_162, l_205, l_253, l_255, l_256, l_269, l_305, l_380, l_399, l_400, l_420, l_430, l_516, l_600, l_720, l_820, l_905, l_921, l_937, l_953, l_970, l_999, l_1000, l_1790, l_4096, l_9999, l_1000000]
  · have ew := z_w_out (lo := 97) (hi := 122) hc (by omega) (by omega) (by omega)
    by_cases q2 : 65 ≤ c ∧ c ≤ 90
    · have : zt_il c = true := by unfold zt_il; simp; omega
      have ew2 := z_w_in q2.1 q2.2 (by omega)
      rw [this, e1]
      simp (disch := omega) only [m_isIn, ew, ew2, ↓reduceIte, ↓p_ld, ↓p_st, ↓p_nm, ↓p_nS, ↓p_jn, ↓p_call, ↓p_callv, ↓p_dv, ↓p_rem, h_ldE, h_stE, h_nmE, h_nSE, h_callE, h_callvE, h_dvE, h_remE, if_true, if_false, z_upS, z_upO, z_upK, nI_add, z_mul, z_sub, z_div, Nat.add_zero, Nat.mul_zero, Nat.zero_add, Nat.sub_zero, Nat.zero_mul, z_ltT, z_ltF, z_leT, z_leF, z_eqT, z_eqF, z_inT, z_clT, not_true_eq_false, not_false_eq_true, eq_self, true_or, or_true, z_m_lt, z_m_le, z_lt_m, z_le_m, z_eq_m, z_m_eq, z_rz0, z_rz1, z_m_add, z_of, r_157_0, r_157_1, r_157_2, r_157_3, r_157_6, r_157_7, r_157_8, r_157_9, r_157_10, r_157_11, r_157_27, r_157_28, r_157_29, r_157_30, ↓z_m1, l_0, l_1, l_2, l_3, l_4, l_5, l_6, l_7, l_8, l_9, l_10, l_11, l_12, l_13, l_14, l_15, l_16, l_17, l_18, l_19, l_20, l_21, l_22, l_23, l_24, l_25, l_26, l_27, l_28, l_29, l_30, l_31, l_32, l_33, l_34, l_35, l_36, l_37, l_38, l_39, l_40, l_41, l_42, l_43, l_44, l_45, l_46, l_47, l_48, l_49, l_50, l_51, l_52, l_53, l_54, l_55, l_56, l_57, l_59, l_60, l_61, l_62, l_63, l_64, l_65, l_80, l_86, l_87, l_88, l_89, l_90, l_91, l_92, l_93, l_94, l_95, l_97, l_99, l_100, l_107, l_119, l_122, l_124, l_129, l_140, l_141, l_142, l_143, l_144, l_145, l_147, l_150, l_159, l_160, l_161, l_162, l_205, l_253, l_255, l_256, l_269, l_305, l_380, l_399, l_400, l_420, l_430, l_516, l_600, l_720, l_820, l_905, l_921, l_937, l_953, l_970, l_999, l_1000, l_1790, l_4096, l_9999, l_1000000]
    · have : zt_il c = false := by unfold zt_il; simp; omega
      have ew2 := z_w_out (lo := 65) (hi := 90) hc (by omega) (by omega) (by omega)
      rw [this, e0]
      simp (disch := omega) only [m_isIn, ew, ew2, ↓reduceIte, ↓p_ld, ↓p_st, ↓p_nm, ↓p_nS, ↓p_jn, ↓p_call, ↓p_callv, ↓p_dv, ↓p_rem, h_ldE, h_stE, h_nmE, h_nSE, h_callE, h_callvE, h_dvE, h_remE, if_true, if_false, z_upS, z_upO, z_upK, nI_add, z_mul, z_sub, z_div, Nat.add_zero, Nat.mul_zero, Nat.zero_add, Nat.sub_zero, Nat.zero_mul, z_ltT, z_ltF, z_leT, z_leF, z_eqT, z_eqF, z_inT, z_clT, not_true_eq_false, not_false_eq_true, eq_self, true_or, or_true, z_m_lt, z_m_le, z_lt_m, z_le_m, z_eq_m, z_m_eq, z_rz0, z_rz1, z_m_add, z_of, r_157_0, r_157_1, r_157_2, r_157_3, r_157_6, r_157_7, r_157_8, r_157_9, r_157_10, r_157_11, r_157_27, r_157_28, r_157_29, r_157_30, ↓z_m1, l_0, l_1, l_2, l_3, l_4, l_5, l_6, l_7, l_8, l_9, l_10, l_11, l_12, l_13, l_14, l_15, l_16, l_17, l_18, l_19, l_20, l_21, l_22, l_23, l_24, l_25, l_26, l_27, l_28, l_29, l_30, l_31, l_32, l_33, l_34, l_35, l_36, l_37, l_38, l_39, l_40, l_41, l_42, l_43, l_44, l_45, l_46, l_47, l_48, l_49, l_50, l_51, l_52, l_53, l_54, l_55, l_56, l_57, l_59, l_60, l_61, l_62, l_63, l_64, l_65, l_80, l_86, l_87, l_88, l_89, l_90, l_91, l_92, l_93, l_94, l_95, l_97, l_99, l_100, l_107, l_119, l_122, l_124, l_129, l_140, l_141, l_142, l_143, l_144, l_145, l_147, l_150, l_159, l_160, l_161, l_162, l_205, l_253, l_255, l_256, l_269, l_305, l_380, l_399, l_400, l_420, l_430, l_516, l_600, l_720, l_820, l_905, l_921, l_937, l_953, l_970, l_999, l_1000, l_1790, l_4096, l_9999, l_1000000]
theorem m_isDigit {n c : Nat} {σ : q_Sto} (hc : c < 2147483648) : f_X12_isDigit n (nI c) σ = some (z_fb (zt_id c), σ) := by
  have e1 : z_fb true = nI 1 := rfl
  have e0 : z_fb false = nI 0 := rfl
  unfold f_X12_isDigit
  by_cases q1 : 48 ≤ c ∧ c ≤ 57
  · have : zt_id c = true := by unfold zt_id; simp; omega
    have ew := z_w_in q1.1 q1.2 (by omega)
    rw [this, e1]
    simp (disch := omega) only [m_isIn, ew, ↓reduceIte, ↓p_ld, ↓p_st, ↓p_nm, ↓p_nS, ↓p_jn, ↓p_call, ↓p_callv, ↓p_dv, ↓p_rem, h_ldE, h_stE, h_nmE, h_nSE, h_callE, h_callvE, h_dvE, h_remE, if_true, if_false, z_upS, z_upO, z_upK, nI_add, z_mul, z_sub, z_div, Nat.add_zero, Nat.mul_zero, Nat.zero_add, Nat.sub_zero, Nat.zero_mul, z_ltT, z_ltF, z_leT, z_leF, z_eqT, z_eqF, z_inT, z_clT, not_true_eq_false, not_false_eq_true, eq_self, true_or, or_true, z_m_lt, z_m_le, z_lt_m, z_le_m, z_eq_m, z_m_eq, z_rz0, z_rz1, z_m_add, z_of, r_157_0, r_157_1, r_157_2, r_157_3, r_157_6, r_157_7, r_157_8, r_157_9, r_157_10, r_157_11, r_157_27, r_157_28, r_157_29, r_157_30, ↓z_m1, l_0, l_1, l_2, l_3, l_4, l_5, l_6, l_7, l_8, l_9, l_10, l_11, l_12, l_13, l_14, l_15, l_16, l_17, l_18, l_19, l_20, l_21, l_22, l_23, l_24, l_25, l_26, l_27, l_28, l_29, l_30, l_31, l_32, l_33, l_34, l_35, l_36, l_37, l_38, l_39, l_40, l_41, l_42, l_43, l_44, l_45, l_46, l_47, l_48, l_49, l_50, l_51, l_52, l_53, l_54, l_55, l_56, l_57, l_59, l_60, l_61, l_62, l_63, l_64, l_65, l_80, l_86, l_87, l_88, l_89, l_90, l_91, l_92, l_93, l_94, l_95, l_97, l_99, l_100, l_107, l_119, l_122, l_124, l_129, l_140, l_141, l_142, l_143, l_144, l_145, l_147, l_150, l_159, l_160, l_161, l_162, l_205, l_253, l_255, l_256, l_269, l_305, l_380, l_399, l_400, l_420, l_430, l_516, l_600, l_720, l_820, l_905, l_921, l_937, l_953, l_970, l_999, l_1000, l_1790, l_4096, l_9999, l_1000000]
  · have : zt_id c = false := by unfold zt_id; simp; omega
    have ew := z_w_out (lo := 48) (hi := 57) hc (by omega) (by omega) (by omega)
    rw [this, e0]
    simp (disch := omega) only [m_isIn, ew, ↓reduceIte, ↓p_ld, ↓p_st, ↓p_nm, ↓p_nS, ↓p_jn, ↓p_call, ↓p_callv, ↓p_dv, ↓p_rem, h_ldE, h_stE, h_nmE, h_nSE, h_callE, h_callvE, h_dvE, h_remE, if_true, if_false, z_upS, z_upO, z_upK, nI_add, z_mul, z_sub, z_div, Nat.add_zero, Nat.mul_zero, Nat.zero_add, Nat.sub_zero, Nat.zero_mul, z_ltT, z_ltF, z_leT, z_leF, z_eqT, z_eqF, z_inT, z_clT, not_true_eq_false, not_false_eq_true, eq_self, true_or, or_true, z_m_lt, z_m_le, z_lt_m, z_le_m, z_eq_m, z_m_eq, z_rz0, z_rz1, z_m_add, z_of, r_157_0, r_157_1, r_157_2, r_157_3, r_157_6, r_157_7, r_157_8, r_157_9, r_157_10, r_157_11, r_157_27, r_157_28, r_157_29, r_157_30, ↓z_m1, l_0, l_1, l_2, l_3, l_4, l_5, l_6, l_7, l_8, l_9, l_10, l_11, l_12, l_13, l_14, l_15, l_16, l_17, l_18, l_19, l_20, l_21, l_22, l_23, l_24, l_25, l_26, l_27, l_28, l_29, l_30, l_31, l_32, l_33, l_34, l_35, l_36, l_37, l_38, l_39, l_40, l_41, l_42, l_43, l_44, l_45, l_46, l_47, l_48, l_49, l_50, l_51, l_52, l_53, l_54, l_55, l_56, l_57, l_59, l_60, l_61, l_62, l_63, l_64, l_65, l_80, l_86, l_87, l_88, l_89, l_90, l_91, l_92, l_93, l_94, l_95, l_97, l_99, l_100, l_107, l_119, l_122, l_124, l_129, l_140, l_141, l_142, l_143, l_144, l_145, l_147, l_150, l_159, l_160, l_161, l_162, l_205, l_253, l_255, l_256, l_269, l_305, l_380, l_399, l_400, l_420, l_430, l_516, l_600, l_720, l_820, l_905, l_921, l_937, l_953, l_970, l_999, l_1000, l_1790, l_4096, l_9999, l_1000000]
theorem z_w_m {lo hi : Nat} (hl : lo < 2147483648) : z_w z_m (nI lo) (nI hi) = nI 0 := by
  unfold z_w
  rw [if_pos (of_eq_true (z_m_lt hl))]
theorem m_isLetter0 {n : Nat} {σ : q_Sto} : f_X12_isLetter n z_m σ = some (nI 0, σ) := by
  have ew := z_w_m (lo := 97) (hi := 122) (by omega)
  have ew2 := z_w_m (lo := 65) (hi := 90) (by omega)
  unfold f_X12_isLetter
  simp (disch := omega) only [m_isIn, ew, ew2, ↓reduceIte, ↓p_ld, ↓p_st, ↓p_nm, ↓p_nS, ↓p_jn, ↓p_call, ↓p_callv, ↓p_dv, ↓p_rem, h_ldE, h_stE, h_nmE, h_nSE, h_callE, h_callvE, h_dvE, h_remE, if_true, if_false, z_upS, z_upO, z_upK, nI_add, z_mul, z_sub, z_div, Nat.add_zero, Nat.mul_zero, Nat.zero_add, Nat.sub_zero, Nat.zero_mul, z_ltT, z_ltF, z_leT, z_leF, z_eqT, z_eqF, z_inT, z_clT, not_true_eq_false, not_false_eq_true, eq_self, true_or, or_true, z_m_lt, z_m_le, z_lt_m, z_le_m, z_eq_m, z_m_eq, z_rz0, z_rz1, z_m_add, z_of, r_157_0, r_157_1, r_157_2, r_157_3, r_157_6, r_157_7, r_157_8, r_157_9, r_157_10, r_157_11, r_157_27, r_157_28, r_157_29, r_157_30, ↓z_m1, l_0, l_1, l_2, l_3, l_4, l_5, l_6, l_7, l_8, l_9, l_10, l_11, l_12, l_13, l_14, l_15, l_16, l_17, l_18, l_19, l_20, l_21, l_22, l_23, l_24, l_25, l_26, l_27, l_28, l_29, l_30, l_31, l_32, l_33, l_34, l_35, l_36, l_37, l_38, l_39, l_40, l_41, l_42, l_43, l_44, l_45, l_46, l_47, l_48, l_49, l_50, l_51, l_52, l_53, l_54, l_55, l_56, l_57, l_59, l_60, l_61, l_62, l_63, l_64, l_65, l_80, l_86, l_87, l_88, l_89, l_90, l_91, l_92, l_93, l_94, l_95, l_97, l_99, l_100, l_107, l_119, l_122, l_124, l_129, l_140, l_141, l_142, l_143, l_144, l_145, l_147, l_150, l_159, l_160, l_161, l_162, l_205, l_253, l_255, l_256, l_269, l_305, l_380, l_399, l_400, l_420, l_430, l_516, l_600, l_720, l_820, l_905, l_921, l_937, l_953, l_970, l_999, l_1000, l_1790, l_4096, l_9999, l_1000000]
theorem m_isDigit0 {n : Nat} {σ : q_Sto} : f_X12_isDigit n z_m σ = some (nI 0, σ) := by
  have ew := z_w_m (lo := 48) (hi := 57) (by omega)
  unfold f_X12_isDigit
  simp (disch := omega) only [m_isIn, ew, ↓reduceIte, ↓p_ld, ↓p_st, ↓p_nm, ↓p_nS, ↓p_jn, ↓p_call, ↓p_callv, ↓p_dv, ↓p_rem, h_ldE, h_stE, h_nmE, h_nSE, h_callE, h_callvE, h_dvE, h_remE, if_true, if_false, z_upS, z_upO, z_upK, nI_add, z_mul, z_sub, z_div, Nat.add_zero, Nat.mul_zero, Nat.zero_add, Nat.sub_zero, Nat.zero_mul, z_ltT, z_ltF, z_leT, z_leF, z_eqT, z_eqF, z_inT, z_clT, not_true_eq_false, not_false_eq_true, eq_self, true_or, or_true, z_m_lt, z_m_le, z_lt_m, z_le_m, z_eq_m, z_m_eq, z_rz0, z_rz1, z_m_add, z_of, r_157_0, r_157_1, r_157_2, r_157_3, r_157_6, r_157_7, r_157_8, r_157_9, r_157_10, r_157_11, r_157_27, r_157_28, r_157_29, r_157_30, ↓z_m1, l_0, l_1, l_2, l_3, l_4, l_5, l_6, l_7, l_8, l_9, l_10, l_11, l_12, l_13, l_14, l_15, l_16, l_17, l_18, l_19, l_20, l_21, l_22, l_23, l_24, l_25, l_26, l_27, l_28, l_29, l_30, l_31, l_32, l_33, l_34, l_35, l_36, l_37, l_38, l_39, l_40, l_41, l_42, l_43, l_44, l_45, l_46, l_47, l_48, l_49, l_50, l_51, l_52, l_53, l_54, l_55, l_56, l_57, l_59, l_60, l_61, l_62, l_63, l_64, l_65, l_80, l_86, l_87, l_88, l_89, l_90, l_91, l_92, l_93, l_94, l_95, l_97, l_99, l_100, l_107, l_119, l_122, l_124, l_129, l_140, l_141, l_142, l_143, l_144, l_145, l_147, l_150, l_159, l_160, l_161, l_162, l_205, l_253, l_255, l_256, l_269, l_305, l_380, l_399, l_400, l_420, l_430, l_516, l_600, l_720, l_820, l_905, l_921, l_937, l_953, l_970, l_999, l_1000, l_1790, l_4096, l_9999, l_1000000]
theorem m_next_L0 {n : Nat} {T : zt_T} {K : q_Sto → Option (Int32 × q_Sto)} : ∀ j i (σ : q_Sto) f, T.2 = i + j → j < f → zt_B (σ 165) T → σ 157 16 = nI T.2 → σ 157 17 = nI i →
    f_X12_next0_L0 n 157 K f σ = K (q_up σ 157 17 (nI (zt_sc zt_bl T.1 j i))) := by
  intro j
  induction j with
  | zero =>
    intro i σ f h1 hf hB hl ha
    obtain ⟨f, rfl⟩ : ∃ f', f = f' + 1 := ⟨f - 1, by omega⟩
    have hL := hB.1
    have e : zt_sc zt_bl T.1 0 i = i := rfl
    have eu : q_up σ 157 17 (nI i) = σ := z_upSelf ha
    have hs := m_see0 (n := n) (i := i) hB hl (by omega) (by omega)
    rw [e, eu, f_X12_next0_L0]
    simp (disch := omega) only [ha, hs, ↓reduceIte, ↓p_ld, ↓p_st, ↓p_nm, ↓p_nS, ↓p_jn, ↓p_call, ↓p_callv, ↓p_dv, ↓p_rem, h_ldE, h_stE, h_nmE, h_nSE, h_callE, h_callvE, h_dvE, h_remE, if_true, if_false, z_upS, z_upO, z_upK, nI_add, z_mul, z_sub, z_div, Nat.add_zero, Nat.mul_zero, Nat.zero_add, Nat.sub_zero, Nat.zero_mul, z_ltT, z_ltF, z_leT, z_leF, z_eqT, z_eqF, z_inT, z_clT, not_true_eq_false, not_false_eq_true, eq_self, true_or, or_true, z_m_lt, z_m_le, z_lt_m, z_le_m, z_eq_m, z_m_eq, z_rz0, z_rz1, z_m_add, z_of, r_157_0, r_157_1, r_157_2, r_157_3, r_157_6, r_157_7, r_157_8, r_157_9, r_157_10, r_157_11, r_157_27, r_157_28, r_157_29, r_157_30, ↓z_m1, l_0, l_1, l_2, l_3, l_4, l_5, l_6, l_7, l_8, l_9, l_10, l_11, l_12, l_13, l_14, l_15, l_16, l_17, l_18, l_19, l_20, l_21, l_22, l_23, l_24, l_25, l_26, l_27, l_28, l_29, l_30, l_31, l_32, l_33, l_34, l_35, l_36, l_37, l_38, l_39, l_40, l_41, l_42, l_43, l_44, l_45, l_46, l_47, l_48, l_49, l_50, l_51, l_52, l_53, l_54, l_55, l_56, l_57, l_59, l_60, l_61, l_62, l_63, l_64, l_65, l_80, l_86, l_87, l_88, l_89, l_90, l_91, l_92, l_93, l_94, l_95, l_97, l_99, l_100, l_107, l_119, l_122, l_124, l_129, l_140, l_141, l_142, l_143, l_144, l_145, l_147, l_150, l_159, l_160, l_161, l_162, l_205, l_253, l_255, l_256, l_269, l_305, l_380, l_399, l_400, l_420, l_430, l_516, l_600, l_720, l_820, l_905, l_921, l_937, l_953, l_970, l_999, l_1000, l_1790, l_4096, l_9999, l_1000000]
  | succ j ih =>
    intro i σ f h1 hf hB hl ha
    obtain ⟨f, rfl⟩ : ∃ f', f = f' + 1 := ⟨f - 1, by omega⟩
    have hL := hB.1
    have hb := m_see (n := n) (i := i) hB hl (by omega)
    have hb255 := (hB.2 i (by omega)).2
    have e : zt_sc zt_bl T.1 (j+1) i = if zt_bl (T.1 i) = true then zt_sc zt_bl T.1 j (i+1) else i := rfl
    have ih := ih (i+1) (q_up σ 157 17 (nI (i+1))) f (by omega) (by omega) (by rw [z_upO (by omega)]; exact hB) (by rw [z_upK (by omega)]; exact hl) z_upS
    rw [z_upUp] at ih
    have eu : q_up σ 157 17 (nI i) = σ := z_upSelf ha
    generalize T.1 i = c at *
    by_cases q1 : c = 32
    · have : zt_bl c = true := by unfold zt_bl; simp; omega
      rw [e, if_pos this, ← ih, f_X12_next0_L0]
      simp (disch := omega) only [ha, hb, ↓reduceIte, ↓p_ld, ↓p_st, ↓p_nm, ↓p_nS, ↓p_jn, ↓p_call, ↓p_callv, ↓p_dv, ↓p_rem, h_ldE, h_stE, h_nmE, h_nSE, h_callE, h_callvE, h_dvE, h_remE, if_true, if_false, z_upS, z_upO, z_upK, nI_add, z_mul, z_sub, z_div, Nat.add_zero, Nat.mul_zero, Nat.zero_add, Nat.sub_zero, Nat.zero_mul, z_ltT, z_ltF, z_leT, z_leF, z_eqT, z_eqF, z_inT, z_clT, not_true_eq_false, not_false_eq_true, eq_self, true_or, or_true, z_m_lt, z_m_le, z_lt_m, z_le_m, z_eq_m, z_m_eq, z_rz0, z_rz1, z_m_add, z_of, r_157_0, r_157_1, r_157_2, r_157_3, r_157_6, r_157_7, r_157_8, r_157_9, r_157_10, r_157_11, r_157_27, r_157_28, r_157_29, r_157_30, ↓z_m1, l_0, l_1, l_2, l_3, l_4, l_5, l_6, l_7, l_8, l_9, l_10, l_11, l_12, l_13, l_14, l_15, l_16, l_17, l_18, l_19, l_20, l_21, l_22, l_23, l_24, l_25, l_26, l_27, l_28, l_29, l_30, l_31, l_32, l_33, l_34, l_35, l_36, l_37, l_38, l_39, l_40, l_41, l_42, l_43, l_44, l_45, l_46, l_47, l_48, l_49, l_50, l_51, l_52, l_53, l_54, l_55, l_56, l_57, l_59, l_60, l_61, l_62, l_63, l_64, l_65, l_80, l_86, l_87, l_88, l_89, l_90, l_91, l_92, l_93, l_94, l_95, l_97, l_99, l_100, l_107, l_119, l_122, l_124, l_129, l_140, l_141, l_142, l_143, l_144, l_145, l_147, l_150, l_159, l_160, l_161, l_162, l_205, l_253, l_255, l_256, l_269, l_305, l_380, l_399, l_400, l_420, l_430, l_516, l_600, l_720, l_820, l_905, l_921, l_937, l_953, l_970, l_999, l_1000, l_1790, l_4096, l_9999, l_1000000]
    · by_cases q2 : c = 10
      · have : zt_bl c = true := by unfold zt_bl; simp; omega
        rw [e, if_pos this, ← ih, f_X12_next0_L0]
        simp (disch := omega) only [ha, hb, ↓reduceIte, ↓p_ld, ↓p_st, ↓p_nm, ↓p_nS, ↓p_jn, ↓p_call, ↓p_callv, ↓p_dv, ↓p_rem, h_ldE, h_stE, h_nmE, h_nSE, h_callE, h_callvE, h_dvE, h_remE, if_true, if_false, z_upS, z_upO, z_upK, nI_add, z_mul, z_sub, z_div, Nat.add_zero, Nat.mul_zero, Nat.zero_add, Nat.sub_zero, Nat.zero_mul, z_ltT, z_ltF, z_leT, z_leF, z_eqT, z_eqF, z_inT, z_clT, not_true_eq_false, not_false_eq_true, eq_self, true_or, or_true, z_m_lt, z_m_le, z_lt_m, z_le_m, z_eq_m, z_m_eq, z_rz0, z_rz1, z_m_add, z_of, r_157_0, r_157_1, r_157_2, r_157_3, r_157_6, r_157_7, r_157_8, r_157_9, r_157_10, r_157_11, r_157_27, r_157_28, r_157_29, r_157_30, ↓z_m1, l_0, l_1, l_2, l_3, l_4, l_5, l_6, l_7, l_8, l_9, l_10, l_11, l_12, l_13, l_14, l_15, l_16, l_17, l_18, l_19, l_20, l_21, l_22, l_23, l_24, l_25, l_26, l_27, l_28, l_29, l_30, l_31, l_32, l_33, l_34, l_35, l_36, l_37, l_38, l_39, l_40, l_41, l_42, l_43, l_44, l_45, l_46, l_47, l_48, l_49, l_50, l_51, l_52, l_53, l_54, l_55, l_56, l_57, l_59, l_60, l_61, l_62, l_63, l_64, l_65, l_80, l_86, l_87, l_88, l_89, l_90, l_91, l_92, l_93, l_94, l_95, l_97, l_99, l_100, l_107, l_119, l_122, l_124, l_129, l_140, l_141, l_142, l_143, l_144, l_145, l_147, l_150, l_159, l_160, l_161, l_162, l_205, l_253, l_255, l_256, l_269, l_305, l_380, l_399, l_400, l_420, l_430, l_516, l_600, l_720, l_820, l_905, l_921, l_937, l_953, l_970, l_999, l_1000, l_1790, l_4096, l_9999, l_1000000]
      · have : ¬ zt_bl c = true := by unfold zt_bl; simp; omega
        rw [e, if_neg this, eu, f_X12_next0_L0]
        simp (disch := omega) only [ha, hb, ↓reduceIte, ↓p_ld, ↓p_st, ↓p_nm, ↓p_nS, ↓p_jn, ↓p_call, ↓p_callv, ↓p_dv, ↓p_rem, h_ldE, h_stE, h_nmE, h_nSE, h_callE, h_callvE, h_dvE, h_remE, if_true, if_false, z_upS, z_upO, z_upK, nI_add, z_mul, z_sub, z_div, Nat.add_zero, Nat.mul_zero, Nat.zero_add, Nat.sub_zero, Nat.zero_mul, z_ltT, z_ltF, z_leT, z_leF, z_eqT, z_eqF, z_inT, z_clT, not_true_eq_false, not_false_eq_true, eq_self, true_or, or_true, z_m_lt, z_m_le, z_lt_m, z_le_m, z_eq_m, z_m_eq, z_rz0, z_rz1, z_m_add, z_of, r_157_0, r_157_1, r_157_2, r_157_3, r_157_6, r_157_7, r_157_8, r_157_9, r_157_10, r_157_11, r_157_27, r_157_28, r_157_29, r_157_30, ↓z_m1, l_0, l_1, l_2, l_3, l_4, l_5, l_6, l_7, l_8, l_9, l_10, l_11, l_12, l_13, l_14, l_15, l_16, l_17, l_18, l_19, l_20, l_21, l_22, l_23, l_24, l_25, l_26, l_27, l_28, l_29, l_30, l_31, l_32, l_33, l_34, l_35, l_36, l_37, l_38, l_39, l_40, l_41, l_42, l_43, l_44, l_45, l_46, l_47, l_48, l_49, l_50, l_51, l_52, l_53, l_54, l_55, l_56, l_57, l_59, l_60, l_61, l_62, l_63, l_64, l_65, l_80, l_86, l_87, l_88, l_89, l_90, l_91, l_92, l_93, l_94, l_95, l_97, l_99, l_100, l_107, l_119, l_122, l_124, l_129, l_140, l_141, l_142, l_143, l_144, l_145, l_147, l_150, l_159, l_160, l_161, l_162, l_205, l_253, l_255, l_256, l_269, l_305, l_380, l_399, l_400, l_420, l_430, l_516, l_600, l_720, l_820, l_905, l_921, l_937, l_953, l_970, l_999, l_1000, l_1790, l_4096, l_9999, l_1000000]
theorem m_next_L1 {n : Nat} {T : zt_T} {K : q_Sto → Option (Int32 × q_Sto)} : ∀ j i (σ : q_Sto) f, T.2 = i + j → j < f → zt_B (σ 165) T → σ 157 16 = nI T.2 → σ 157 17 = nI i →
    f_X12_next0_L76 n 157 K f σ = K (q_up σ 157 17 (nI (zt_sc zt_il T.1 j i))) := by
  intro j
  induction j with
  | zero =>
    intro i σ f h1 hf hB hl ha
    obtain ⟨f, rfl⟩ : ∃ f', f = f' + 1 := ⟨f - 1, by omega⟩
    have hL := hB.1
    have e : zt_sc zt_il T.1 0 i = i := rfl
    have eu : q_up σ 157 17 (nI i) = σ := z_upSelf ha
    have hs := m_see0 (n := n) (i := i) hB hl (by omega) (by omega)
    rw [e, eu, f_X12_next0_L76]
    simp (disch := omega) only [ha, hs, m_isLetter0, ↓reduceIte, ↓p_ld, ↓p_st, ↓p_nm, ↓p_nS, ↓p_jn, ↓p_call, ↓p_callv, ↓p_dv, ↓p_rem, h_ldE, h_stE, h_nmE, h_nSE, h_callE, h_callvE, h_dvE, h_remE, if_true, if_false, z_upS, z_upO, z_upK, nI_add, z_mul, z_sub, z_div, Nat.add_zero, Nat.mul_zero, Nat.zero_add, Nat.sub_zero, Nat.zero_mul, z_ltT, z_ltF, z_leT, z_leF, z_eqT, z_eqF, z_inT, z_clT, not_true_eq_false, not_false_eq_true, eq_self, true_or, or_true, z_m_lt, z_m_le, z_lt_m, z_le_m, z_eq_m, z_m_eq, z_rz0, z_rz1, z_m_add, z_of, r_157_0, r_157_1, r_157_2, r_157_3, r_157_6, r_157_7, r_157_8, r_157_9, r_157_10, r_157_11, r_157_27, r_157_28, r_157_29, r_157_30, ↓z_m1, l_0, l_1, l_2, l_3, l_4, l_5, l_6, l_7, l_8, l_9, l_10, l_11, l_12, l_13, l_14, l_15, l_16, l_17, l_18, l_19, l_20, l_21, l_22, l_23, l_24, l_25, l_26, l_27, l_28, l_29, l_30, l_31, l_32, l_33, l_34, l_35, l_36, l_37, l_38, l_39, l_40, l_41, l_42, l_43, l_44, l_45, l_46, l_47, l_48, l_49, l_50, l_51, l_52, l_53, l_54, l_55, l_56, l_57, l_59, l_60, l_61, l_62, l_63, l_64, l_65, l_80, l_86, l_87, l_88, l_89, l_90, l_91, l_92, l_93, l_94, l_95, l_97, l_99, l_100, l_107, l_119, l_122, l_124, l_129, l_140, l_141, l_142, l_143, l_144, l_145, l_147, l_150, l_159, l_160, l_161, l_162, l_205, l_253, l_255, l_256, l_269, l_305, l_380, l_399, l_400, l_420, l_430, l_516, l_600, l_720, l_820, l_905, l_921, l_937, l_953, l_970, l_999, l_1000, l_1790, l_4096, l_9999, l_1000000]
  | succ j ih =>
    intro i σ f h1 hf hB hl ha
    obtain ⟨f, rfl⟩ : ∃ f', f = f' + 1 := ⟨f - 1, by omega⟩
    have hL := hB.1
    have hb := m_see (n := n) (i := i) hB hl (by omega)
    have hb255 := (hB.2 i (by omega)).2
    have e : zt_sc zt_il T.1 (j+1) i = if zt_il (T.1 i) = true then zt_sc zt_il T.1 j (i+1) else i := rfl
    have ih := ih (i+1) (q_up σ 157 17 (nI (i+1))) f (by omega) (by omega) (by rw [z_upO (by omega)]; exact hB) (by rw [z_upK (by omega)]; exact hl) z_upS
    rw [z_upUp] at ih
    have eu : q_up σ 157 17 (nI i) = σ := z_upSelf ha
    have eL := m_isLetter (n := n) (c := T.1 i) (σ := σ) (by omega)
    generalize T.1 i = c at *
    have e1 : z_fb true = nI 1 := rfl
    have e0 : z_fb false = nI 0 := rfl
    cases q : zt_il c with
    | true =>
      rw [q, e1] at eL
      rw [e, if_pos q, ← ih, f_X12_next0_L76]
      simp (disch := omega) only [ha, hb, eL, ↓reduceIte, ↓p_ld, ↓p_st, ↓p_nm, ↓p_nS, ↓p_jn, ↓p_call, ↓p_callv, ↓p_dv, ↓p_rem, h_ldE, h_stE, h_nmE, h_nSE, h_callE, h_callvE, h_dvE, h_remE, if_true, if_false, z_upS, z_upO, z_upK, nI_add, z_mul, z_sub, z_div, Nat.add_zero, Nat.mul_zero, Nat.zero_add, Nat.sub_zero, Nat.zero_mul, z_ltT, z_ltF, z_leT, z_leF, z_eqT, z_eqF, z_inT, z_clT, not_true_eq_false, not_false_eq_true, eq_self, true_or, or_true, z_m_lt, z_m_le, z_lt_m, z_le_m, z_eq_m, z_m_eq, z_rz0, z_rz1, z_m_add, z_of, r_157_0, r_157_1, r_157_2, r_157_3, r_157_6, r_157_7, r_157_8, r_157_9, r_157_10, r_157_11, r_157_27, r_157_28, r_157_29, r_157_30, ↓z_m1, l_0, l_1, l_2, l_3, l_4, l_5, l_6, l_7, l_8, l_9, l_10, l_11, l_12, l_13, l_14, l_15, l_16, l_17, l_18, l_19, l_20, l_21, l_22, l_23, l_24, l_25, l_26, l_27, l_28, l_29, l_30, l_31, l_32, l_33, l_34, l_35, l_36, l_37, l_38, l_39, l_40, l_41, l_42, l_43, l_44, l_45, l_46, l_47, l_48, l_49, l_50, l_51, l_52, l_53, l_54, l_55, l_56, l_57, l_59, l_60, l_61, l_62, l_63, l_64, l_65, l_80, l_86, l_87, l_88, l_89, l_90, l_91, l_92, l_93, l_94, l_95, l_97, l_99, l_100, l_107, l_119, l_122, l_124, l_129, l_140, l_141, l_142, l_143, l_144, l_145, l_147, l_150, l_159, l_160, l_161, l_162, l_205, l_253, l_255, l_256, l_269, l_305, l_380, l_399, l_400, l_420, l_430, l_516, l_600, l_720, l_820, l_905, l_921, l_937, l_953, l_970, l_999, l_1000, l_1790, l_4096, l_9999, l_1000000]
    | false =>
      rw [q, e0] at eL
      rw [e, if_neg (by rw [q]; decide), eu, f_X12_next0_L76]
      simp (disch := omega) only [ha, hb, eL, ↓reduceIte, ↓p_ld, ↓p_st, ↓p_nm, ↓p_nS, ↓p_jn, ↓p_call, ↓p_callv, ↓p_dv, ↓p_rem, h_ldE, h_stE, h_nmE, h_nSE, h_callE, h_callvE, h_dvE, h_remE, if_true, if_false, z_upS, z_upO, z_upK, nI_add, z_mul, z_sub, z_div, Nat.add_zero, Nat.mul_zero, Nat.zero_add, Nat.sub_zero, Nat.zero_mul, z_ltT, z_ltF, z_leT, z_leF, z_eqT, z_eqF, z_inT, z_clT, not_true_eq_false, not_false_eq_true, eq_self, true_or, or_true, z_m_lt, z_m_le, z_lt_m, z_le_m, z_eq_m, z_m_eq, z_rz0, z_rz1, z_m_add, z_of, r_157_0, r_157_1, r_157_2, r_157_3, r_157_6, r_157_7, r_157_8, r_157_9, r_157_10, r_157_11, r_157_27, r_157_28, r_157_29, r_157_30, ↓z_m1, l_0, l_1, l_2, l_3, l_4, l_5, l_6, l_7, l_8, l_9, l_10, l_11, l_12, l_13, l_14, l_15, l_16, l_17, l_18, l_19, l_20, l_21, l_22, l_23, l_24, l_25, l_26, l_27, l_28, l_29, l_30, l_31, l_32, l_33, l_34, l_35, l_36, l_37, l_38, l_39, l_40, l_41, l_42, l_43, l_44, l_45, l_46, l_47, l_48, l_49, l_50, l_51, l_52, l_53, l_54, l_55, l_56, l_57, l_59, l_60, l_61, l_62, l_63, l_64, l_65, l_80, l_86, l_87, l_88, l_89, l_90, l_91, l_92, l_93, l_94, l_95, l_97, l_99, l_100, l_107, l_119, l_122, l_124, l_129, l_140, l_141, l_142, l_143, l_144, l_145, l_147, l_150, l_159, l_160, l_161, l_162, l_205, l_253, l_255, l_256, l_269, l_305, l_380, l_399, l_400, l_420, l_430, l_516, l_600, l_720, l_820, l_905, l_921, l_937, l_953, l_970, l_999, l_1000, l_1790, l_4096, l_9999, l_1000000]
theorem zt_min4 {B : Nat → Nat} {q i : Nat} : zt_vi B q (min (i+1) 4) = if i < 4 then nI 10 * zt_vi B q i + nI (B (q+i)) - nI 48 else zt_vi B q (min i 4) := by
  by_cases h : i < 4
  · rw [if_pos h, show min (i+1) 4 = i + 1 by omega]
    show zt_vi B q i * nI 10 + nI (B (q+i)) - nI 48 = _
    rw [Int32.mul_comm]
  · rw [if_neg h, show min (i+1) 4 = 4 by omega, show min i 4 = 4 by omega]
theorem m_next_L2 {n q : Nat} {T : zt_T} {K : q_Sto → Option (Int32 × q_Sto)} : ∀ j i (σ : q_Sto) f, T.2 = q + i + j → j < f → zt_B (σ 165) T → σ 157 16 = nI T.2 → σ 157 17 = nI (q+i) → σ 157 19 = nI q → σ 157 20 = zt_vi T.1 q (min i 4) →
    ∃ σ', (∀ o, o ≠ 157 → σ' o = σ o) ∧ (∀ a, a ≠ 17 → a ≠ 20 → σ' 157 a = σ 157 a) ∧ σ' 157 17 = nI (zt_sc zt_id T.1 j (q+i)) ∧ σ' 157 20 = zt_vi T.1 q (min (zt_sc zt_id T.1 j (q+i) - q) 4) ∧ f_X12_next0_L126 n 157 K f σ = K σ' := by
  intro j
  induction j with
  | zero =>
    intro i σ f h1 hf hB hl ha h19 hv
    obtain ⟨f, rfl⟩ : ∃ f', f = f' + 1 := ⟨f - 1, by omega⟩
    have hL := hB.1
    have e : zt_sc zt_id T.1 0 (q+i) = q+i := rfl
    have hs := m_see0 (n := n) (i := q+i) hB hl (by omega) (by omega)
    refine ⟨σ, fun _ _ => rfl, fun _ _ _ => rfl, ha, by rw [e, show q + i - q = i by omega]; exact hv, ?_⟩
    rw [f_X12_next0_L126]
    simp (disch := omega) only [ha, hs, m_isDigit0, ↓reduceIte, ↓p_ld, ↓p_st, ↓p_nm, ↓p_nS, ↓p_jn, ↓p_call, ↓p_callv, ↓p_dv, ↓p_rem, h_ldE, h_stE, h_nmE, h_nSE, h_callE, h_callvE, h_dvE, h_remE, if_true, if_false, z_upS, z_upO, z_upK, nI_add, z_mul, z_sub, z_div, Nat.add_zero, Nat.mul_zero, Nat.zero_add, Nat.sub_zero, Nat.zero_mul, z_ltT, z_ltF, z_leT, z_leF, z_eqT, z_eqF, z_inT, z_clT, not_true_eq_false, not_false_eq_true, eq_self, true_or, or_true, z_m_lt, z_m_le, z_lt_m, z_le_m, z_eq_m, z_m_eq, z_rz0, z_rz1, z_m_add, z_of, r_157_0, r_157_1, r_157_2, r_157_3, r_157_6, r_157_7, r_157_8, r_157_9, r_157_10, r_157_11, r_157_27, r_157_28, r_157_29, r_157_30, ↓z_m1, l_0, l_1, l_2, l_3, l_4, l_5, l_6, l_7, l_8, l_9, l_10, l_11, l_12, l_13, l_14, l_15, l_16, l_17, l_18, l_19, l_20, l_21, l_22, l_23, l_24, l_25, l_26, l_27, l_28, l_29, l_30, l_31, l_32, l_33, l_34, l_35, l_36, l_37, l_38, l_39, l_40, l_41, l_42, l_43, l_44, l_45, l_46, l_47, l_48, l_49, l_50, l_51, l_52, l_53, l_54, l_55, l_56, l_57, l_59, l_60, l_61, l_62, l_63, l_64, l_65, l_80, l_86, l_87, l_88, l_89, l_90, l_91, l_92, l_93, l_94, l_95, l_97, l_99, l_100, l_107, l_119, l_122, l_124, l_129, l_140, l_141, l_142, l_143, l_144, l_145, l_147, l_150, l_159, l_160, l_161, l_162, l_205, l_253, l_255, l_256, l_269, l_305, l_380, l_399, l_400, l_420, l_430, l_516, l_600, l_720, l_820, l_905, l_921, l_937, l_953, l_970, l_999, l_1000, l_1790, l_4096, l_9999, l_1000000]
  | succ j ih =>
    intro i σ f h1 hf hB hl ha h19 hv
    obtain ⟨f, rfl⟩ : ∃ f', f = f' + 1 := ⟨f - 1, by omega⟩
    have hL := hB.1
    have hb := m_see (n := n) (i := q+i) hB hl (by omega)
    have hb255 := (hB.2 (q+i) (by omega)).2
    have e : zt_sc zt_id T.1 (j+1) (q+i) = if zt_id (T.1 (q+i)) = true then zt_sc zt_id T.1 j (q+i+1) else q+i := rfl
    have ev := zt_min4 (B := T.1) (q := q) (i := i)
    have eL := m_isDigit (n := n) (c := T.1 (q+i)) (σ := σ) (by omega)
    have e1 : z_fb true = nI 1 := rfl
    have e0 : z_fb false = nI 0 := rfl
    by_cases qd : zt_id (T.1 (q+i)) = true
    · rw [qd, e1] at eL
      by_cases q4 : i < 4
      · rw [if_pos q4] at ev
        obtain ⟨σ', k1, k2, k3, k4, k5⟩ := ih (i+1) (q_up (q_up σ 157 20 (zt_vi T.1 q (min (i+1) 4))) 157 17 (nI (q+i+1))) f (by omega) (by omega) (by rw [z_upO (by omega), z_upO (by omega)]; exact hB) (by rw [z_upK (by omega), z_upK (by omega)]; exact hl) z_upS (by rw [z_upK (by omega), z_upK (by omega)]; exact h19) (by rw [z_upK (by omega)]; exact z_upS)
        refine ⟨σ', fun o ho => by rw [k1 o ho, z_upO ho, z_upO ho], fun a a1 a2 => by rw [k2 a a1 a2, z_upK a1, z_upK a2], by rw [e, if_pos qd]; exact k3, by rw [e, if_pos qd]; exact k4, ?_⟩
        rw [show min i 4 = i by omega] at hv
        rw [← k5, f_X12_next0_L126, ev]
        generalize T.1 (q+i) = c at *
        generalize zt_vi T.1 q i = v at *
        simp (disch := omega) only [ha, hb, eL, hv, h19, ↓reduceIte, ↓p_ld, ↓p_st, ↓p_nm, ↓p_nS, ↓p_jn, ↓p_call, ↓p_callv, ↓p_dv, ↓p_rem, h_ldE, h_stE, h_nmE, h_nSE, h_callE, h_callvE, h_dvE, h_remE, if_true, if_false, z_upS, z_upO, z_upK, nI_add, z_mul, z_sub, z_div, Nat.add_zero, Nat.mul_zero, Nat.zero_add, Nat.sub_zero, Nat.zero_mul, z_ltT, z_ltF, z_leT, z_leF, z_eqT, z_eqF, z_inT, z_clT, not_true_eq_false, not_false_eq_true, eq_self, true_or, or_true, z_m_lt, z_m_le, z_lt_m, z_le_m, z_eq_m, z_m_eq, z_rz0, z_rz1, z_m_add, z_of, r_157_0, r_157_1, r_157_2, r_157_3, r_157_6, r_157_7, r_157_8, r_157_9, r_157_10, r_157_11, r_157_27, r_157_28, r_157_29, r_157_30, ↓z_m1, l_0, l_1, l_2, l_3, l_4, l_5, l_6, l_7, l_8, l_9, l_10, l_11, l_12, l_13, l_14, l_15, l_16, l_17, l_18, l_19, l_20, l_21, l_22, l_23, l_24, l_25, l_26, l_27, l_28, l_29, l_30, l_31, l_32, l_33, l_34, l_35, l_36, l_37, l_38, l_39, l_40, l_41, l_42, l_43, l_44, l_45, l_46, l_47, l_48, l_49, l_50, l_51, l_52, l_53, l_54, l_55, l_56, l_57, l_59, l_60, l_61, l_62, l_63, l_64, l_65, l_80, l_86, l_87, l_88, l_89, l_90, l_91, l_92, l_93, l_94, l_95, l_97, l_99, l_100, l_107, l_119, l_122, l_124, l_129, l_140, l_141, l_142, l_143, l_144, l_145, l_147, l_150, l_159, l_160, l_161, l_162, l_205, l_253, l_255, l_256, l_269, l_305, l_380, l_399, l_400, l_420, l_430, l_516, l_600, l_720, l_820, l_905, l_921, l_937, l_953, l_970, l_999, l_1000, l_1790, l_4096, l_9999, l_1000000]
      · rw [if_neg q4] at ev
        obtain ⟨σ', k1, k2, k3, k4, k5⟩ := ih (i+1) (q_up σ 157 17 (nI (q+i+1))) f (by omega) (by omega) (by rw [z_upO (by omega)]; exact hB) (by rw [z_upK (by omega)]; exact hl) z_upS (by rw [z_upK (by omega)]; exact h19) (by rw [z_upK (by omega), ev]; exact hv)
        refine ⟨σ', fun o ho => by rw [k1 o ho, z_upO ho], fun a a1 a2 => by rw [k2 a a1 a2, z_upK a1], by rw [e, if_pos qd]; exact k3, by rw [e, if_pos qd]; exact k4, ?_⟩
        rw [← k5, f_X12_next0_L126]
        generalize T.1 (q+i) = c at *
        simp (disch := omega) only [ha, hb, eL, h19, ↓reduceIte, ↓p_ld, ↓p_st, ↓p_nm, ↓p_nS, ↓p_jn, ↓p_call, ↓p_callv, ↓p_dv, ↓p_rem, h_ldE, h_stE, h_nmE, h_nSE, h_callE, h_callvE, h_dvE, h_remE, if_true, if_false, z_upS, z_upO, z_upK, nI_add, z_mul, z_sub, z_div, Nat.add_zero, Nat.mul_zero, Nat.zero_add, Nat.sub_zero, Nat.zero_mul, z_ltT, z_ltF, z_leT, z_leF, z_eqT, z_eqF, z_inT, z_clT, not_true_eq_false, not_false_eq_true, eq_self, true_or, or_true, z_m_lt, z_m_le, z_lt_m, z_le_m, z_eq_m, z_m_eq, z_rz0, z_rz1, z_m_add, z_of, r_157_0, r_157_1, r_157_2, r_157_3, r_157_6, r_157_7, r_157_8, r_157_9, r_157_10, r_157_11, r_157_27, r_157_28, r_157_29, r_157_30, ↓z_m1, l_0, l_1, l_2, l_3, l_4, l_5, l_6, l_7, l_8, l_9, l_10, l_11, l_12, l_13, l_14, l_15, l_16, l_17, l_18, l_19, l_20, l_21, l_22, l_23, l_24, l_25, l_26, l_27, l_28, l_29, l_30, l_31, l_32, l_33, l_34, l_35, l_36, l_37, l_38, l_39, l_40, l_41, l_42, l_43, l_44, l_45, l_46, l_47, l_48, l_49, l_50, l_51, l_52, l_53, l_54, l_55, l_56, l_57, l_59, l_60, l_61, l_62, l_63, l_64, l_65, l_80, l_86, l_87, l_88, l_89, l_90, l_91, l_92, l_93, l_94, l_95, l_97, l_99, l_100, l_107, l_119, l_122, l_124, l_129, l_140, l_141, l_142, l_143, l_144, l_145, l_147, l_150, l_159, l_160, l_161, l_162, l_205, l_253, l_255, l_256, l_269, l_305, l_380, l_399, l_400, l_420, l_430, l_516, l_600, l_720, l_820, l_905, l_921, l_937, l_953, l_970, l_999, l_1000, l_1790, l_4096, l_9999, l_1000000]
    · refine ⟨σ, fun _ _ => rfl, fun _ _ _ => rfl, by rw [e, if_neg qd]; exact ha, by rw [e, if_neg qd, show q + i - q = i by omega]; exact hv, ?_⟩
      rw [z_bf qd, e0] at eL
      rw [f_X12_next0_L126]
      generalize T.1 (q+i) = c at *
      simp (disch := omega) only [ha, hb, eL, ↓reduceIte, ↓p_ld, ↓p_st, ↓p_nm, ↓p_nS, ↓p_jn, ↓p_call, ↓p_callv, ↓p_dv, ↓p_rem, h_ldE, h_stE, h_nmE, h_nSE, h_callE, h_callvE, h_dvE, h_remE, if_true, if_false, z_upS, z_upO, z_upK, nI_add, z_mul, z_sub, z_div, Nat.add_zero, Nat.mul_zero, Nat.zero_add, Nat.sub_zero, Nat.zero_mul, z_ltT, z_ltF, z_leT, z_leF, z_eqT, z_eqF, z_inT, z_clT, not_true_eq_false, not_false_eq_true, eq_self, true_or, or_true, z_m_lt, z_m_le, z_lt_m, z_le_m, z_eq_m, z_m_eq, z_rz0, z_rz1, z_m_add, z_of, r_157_0, r_157_1, r_157_2, r_157_3, r_157_6, r_157_7, r_157_8, r_157_9, r_157_10, r_157_11, r_157_27, r_157_28, r_157_29, r_157_30, ↓z_m1, l_0, l_1, l_2, l_3, l_4, l_5, l_6, l_7, l_8, l_9, l_10, l_11, l_12, l_13, l_14, l_15, l_16, l_17, l_18, l_19, l_20, l_21, l_22, l_23, l_24, l_25, l_26, l_27, l_28, l_29, l_30, l_31, l_32, l_33, l_34, l_35, l_36, l_37, l_38, l_39, l_40, l_41, l_42, l_43, l_44, l_45, l_46, l_47, l_48, l_49, l_50, l_51, l_52, l_53, l_54, l_55, l_56, l_57, l_59, l_60, l_61, l_62, l_63, l_64, l_65, l_80, l_86, l_87, l_88, l_89, l_90, l_91, l_92, l_93, l_94, l_95, l_97, l_99, l_100, l_107, l_119, l_122, l_124, l_129, l_140, l_141, l_142, l_143, l_144, l_145, l_147, l_150, l_159, l_160, l_161, l_162, l_205, l_253, l_255, l_256, l_269, l_305, l_380, l_399, l_400, l_420, l_430, l_516, l_600, l_720, l_820, l_905, l_921, l_937, l_953, l_970, l_999, l_1000, l_1790, l_4096, l_9999, l_1000000]
theorem zt_sg_T {c : Nat} (h : c = 59 ∨ c = 43 ∨ c = 45 ∨ c = 42 ∨ c = 47 ∨ c = 40 ∨ c = 41 ∨ c = 60 ∨ c = 61 ∨ c = 62) : zt_sg c = true := by
  rcases h with rfl | rfl | rfl | rfl | rfl | rfl | rfl | rfl | rfl | rfl <;> rfl
theorem zt_sg_F {c : Nat} (h : ¬ (c = 59 ∨ c = 43 ∨ c = 45 ∨ c = 42 ∨ c = 47 ∨ c = 40 ∨ c = 41 ∨ c = 60 ∨ c = 61 ∨ c = 62)) : zt_sg c = false := by
  refine z_bf (fun q => h ?_)
  unfold zt_sg at q
  simpa using q
theorem zt_lk_in {t : List (Nat × Nat)} {l : List Nat} : zt_lk t l = 1 ∨ ∃ x ∈ t, zt_lk t l = x.2 := by
  induction t with
  | nil => exact Or.inl rfl
  | cons x t ih =>
    obtain ⟨i, c⟩ := x
    have e : zt_lk ((i, c) :: t) l = if l = zt_w i then c else zt_lk t l := rfl
    rw [e]
    by_cases q : l = zt_w i
    · rw [if_pos q]; exact Or.inr ⟨(i, c), List.mem_cons_self .., rfl⟩
    · rw [if_neg q]
      rcases ih with h | ⟨x, h1, h2⟩
      · exact Or.inl h
      · exact Or.inr ⟨x, List.mem_cons_of_mem _ h1, h2⟩
theorem zt_tb_c {k : Nat} (hk : k < 5) : (zt_tb k).all (fun x => (decide (3 ≤ x.2 ∧ x.2 ≤ 50))) = true := by
  have hc : k = 0 ∨ k = 1 ∨ k = 2 ∨ k = 3 ∨ k = 4 := by omega
  rcases hc with rfl | rfl | rfl | rfl | rfl <;> rfl
theorem zt_lk_r {k : Nat} {l : List Nat} (hk : k < 5) : zt_lk (zt_tb k) l = 1 ∨ (3 ≤ zt_lk (zt_tb k) l ∧ zt_lk (zt_tb k) l ≤ 50) := by
  rcases zt_lk_in (t := zt_tb k) (l := l) with h | ⟨x, h1, h2⟩
  · exact Or.inl h
  · have := List.all_eq_true.mp (zt_tb_c hk) x h1
    rw [h2]
    exact Or.inr (of_decide_eq_true this)
theorem zt_lk2 {k : Nat} {l : List Nat} (hk : k < 5) (h : zt_lk (zt_tb k) l = 2) : False := by
  have := zt_lk_r (l := l) hk
  omega
theorem m_next {n k p : Nat} {T : zt_T} {σ : q_Sto} (hn : 402 ≤ n) (hk : k < 5) (hp : p ≤ T.2) (hB : zt_B (σ 165) T) (hl : σ 157 16 = nI T.2) (h12 : σ 157 12 = nI k) (ha : σ 157 17 = nI p) :
    ∃ σ', (∀ o, o ≠ 157 → σ' o = σ o) ∧ (∀ a, a ≠ 17 → a ≠ 18 → a ≠ 19 → a ≠ 20 → σ' 157 a = σ 157 a) ∧ zt_R σ' T k p ∧ f_X12_next0 n 157 σ = some (nI 0, σ') := by
  have hL := hB.1
  obtain ⟨b1, b2⟩ := zt_at_b hp
  obtain ⟨b3, b4, b5⟩ := zt_nx_b hp
  have eat : zt_sc zt_bl T.1 (T.2 - p) p = zt_at T p := rfl
  have eF : f_X12_next0 n 157 σ = _ := m_next_L0 (n := n) (T := T) (T.2 - p) p σ n (by omega) (by omega) hB hl ha
  rw [eat] at eF
  have ekd : zt_kd T p = if zt_at T p < T.2 then (if zt_il (T.1 (zt_at T p)) = true then 1 else if zt_id (T.1 (zt_at T p)) = true then 2 else 3) else 0 := rfl
  have enx : zt_nx T p = if zt_at T p < T.2 then (if zt_il (T.1 (zt_at T p)) = true then zt_sc zt_il T.1 (T.2 - zt_at T p) (zt_at T p) else if zt_id (T.1 (zt_at T p)) = true then zt_sc zt_id T.1 (T.2 - zt_at T p) (zt_at T p) else zt_at T p + 1) else zt_at T p := rfl
  have eva : zt_va T p = zt_nv T.1 (zt_at T p) (zt_nx T p - zt_at T p) := rfl
  have ecd : zt_cd k T p = if zt_kd T p = 0 then 0 else if zt_kd T p = 1 then zt_lk (zt_tb k) (zt_by T p) else if zt_kd T p = 2 then (if zt_nx T p - zt_at T p < 5 then 2 else 1) else (if zt_sg (T.1 (zt_at T p)) = true then 100 + T.1 (zt_at T p) else 1) := rfl
  rw [eF]
  have e1 : z_fb true = nI 1 := rfl
  have e0 : z_fb false = nI 0 := rfl
  by_cases q : zt_at T p < T.2
  · rw [if_pos q] at ekd enx
    have hb255 := (hB.2 (zt_at T p) q).2
    have hb : ∀ σ' : q_Sto, σ' 165 = σ 165 → σ' 157 16 = nI T.2 → f_X12_see n 157 (nI (zt_at T p)) σ' = some (nI (T.1 (zt_at T p)), σ') := fun σ' h1 h2 => m_see (by rw [h1]; exact hB) h2 q
    have hb := hb (q_up (q_up σ 157 17 (nI (zt_at T p))) 157 19 (nI (zt_at T p))) (by rw [z_upO (by omega), z_upO (by omega)]) (by rw [z_upK (by omega), z_upK (by omega)]; exact hl)
    have hlet := fun σ => m_isLetter (n := n) (c := T.1 (zt_at T p)) (σ := σ) (by omega)
    have hdig := fun σ => m_isDigit (n := n) (c := T.1 (zt_at T p)) (σ := σ) (by omega)
    by_cases q1 : zt_il (T.1 (zt_at T p)) = true
    · rw [if_pos q1] at ekd enx
      rw [ekd, if_neg (by omega), if_pos rfl] at ecd
      have hlet := fun σ => (hlet σ).trans (by rw [q1, e1])
      have s2 : (q_up (q_up (q_up σ 157 17 (nI (zt_at T p))) 157 19 (nI (zt_at T p))) 157 17 (nI (zt_nx T p))) 165 = σ 165 := by rw [z_upO (by omega), z_upO (by omega), z_upO (by omega)]
      have key := fun K => m_next_L1 (n := n) (T := T) (K := K) (T.2 - zt_at T p) (zt_at T p) (q_up (q_up σ 157 17 (nI (zt_at T p))) 157 19 (nI (zt_at T p))) n (by omega) (by omega) (by rw [z_upO (by omega), z_upO (by omega)]; exact hB) (by rw [z_upK (by omega), z_upK (by omega)]; exact hl) (by rw [z_upK (by omega)]; exact z_upS)
      rw [← enx] at key
      have ew := m_word (n := n) (k := k) (p := p) (T := T) (σ := q_up (q_up (q_up σ 157 17 (nI (zt_at T p))) 157 19 (nI (zt_at T p))) 157 17 (nI (zt_nx T p))) hn hk hp (by rw [s2]; exact hB) z_upS (by rw [z_upK (by omega)]; exact z_upS) (by rw [z_upK (by omega), z_upK (by omega), z_upK (by omega)]; exact h12)
      rw [← ecd] at ew
      refine ⟨q_up (q_up (q_up (q_up σ 157 17 (nI (zt_at T p))) 157 19 (nI (zt_at T p))) 157 17 (nI (zt_nx T p))) 157 18 (nI (zt_cd k T p)), ?_, ?_, ?_, ?_⟩
      · intro o ho
        rw [z_upO ho, z_upO ho, z_upO ho, z_upO ho]
      · intro a a1 a2 a3 a4
        rw [z_upK a2, z_upK a1, z_upK a3, z_upK a1]
      · refine ⟨by rw [z_upO (by omega), s2]; exact hB, hp, hk, ?_, ?_, ?_, z_upS, ?_, fun h => ?_⟩
        · rw [z_upK (by omega), z_upK (by omega), z_upK (by omega), z_upK (by omega)]; exact hl
        · rw [z_upK (by omega), z_upK (by omega), z_upK (by omega), z_upK (by omega)]; exact h12
        · rw [z_upK (by omega)]; exact z_upS
        · rw [z_upK (by omega), z_upK (by omega)]; exact z_upS
        · exfalso
          rw [ecd] at h
          exact zt_lk2 hk h
      · generalize zt_cd k T p = cd at *
        generalize zt_nx T p = X at *
        generalize zt_at T p = A at *
        generalize T.1 A = c at *
        simp (disch := omega) only [hb, hlet, key, ew, ↓reduceIte, ↓p_ld, ↓p_st, ↓p_nm, ↓p_nS, ↓p_jn, ↓p_call, ↓p_callv, ↓p_dv, ↓p_rem, h_ldE, h_stE, h_nmE, h_nSE, h_callE, h_callvE, h_dvE, h_remE, if_true, if_false, z_upS, z_upO, z_upK, nI_add, z_mul, z_sub, z_div, Nat.add_zero, Nat.mul_zero, Nat.zero_add, Nat.sub_zero, Nat.zero_mul, z_ltT, z_ltF, z_leT, z_leF, z_eqT, z_eqF, z_inT, z_clT, not_true_eq_false, not_false_eq_true, eq_self, true_or, or_true, z_m_lt, z_m_le, z_lt_m, z_le_m, z_eq_m, z_m_eq, z_rz0, z_rz1, z_m_add, z_of, r_157_0, r_157_1, r_157_2, r_157_3, r_157_6, r_157_7, r_157_8, r_157_9, r_157_10, r_157_11, r_157_27, r_157_28, r_157_29, r_157_30, ↓z_m1, l_0, l_1, l_2, l_3, l_4, l_5, l_6, l_7, l_8, l_9, l_10, l_11, l_12, l_13, l_14, l_15, l_16, l_17, l_18, l_19, l_20, l_21, l_22, l_23, l_24, l_25, l_26, l_27, l_28, l_29, l_30, l_31, l_32, l_33, l_34, l_35, l_36, l_37, l_38, l_39, l_40, l_41, l_42, l_43, l_44, l_45, l_46, l_47, l_48, l_49, l_50, l_51, l_52, l_53, l_54, l_55, l_56, l_57, l_59, l_60, l_61, l_62, l_63, l_64, l_65, l_80, l_86, l_87, l_88, l_89, l_90, l_91, l_92, l_93, l_94, l_95, l_97, l_99, l_100, l_107, l_119, l_122, l_124, l_129, l_140, l_141, l_142, l_143, l_144, l_145, l_147, l_150, l_159, l_160, l_161, l_162, l_205, l_253, l_255, l_256, l_269, l_305, l_380, l_399, l_400, l_420, l_430, l_516, l_600, l_720, l_820, l_905, l_921, l_937, l_953, l_970, l_999, l_1000, l_1790, l_4096, l_9999, l_1000000]
    · rw [if_neg q1] at ekd enx
      have hlet := fun σ => (hlet σ).trans (by rw [z_bf q1, e0])
      by_cases q2 : zt_id (T.1 (zt_at T p)) = true
      · rw [if_pos q2] at ekd enx
        rw [ekd, if_neg (by omega), if_neg (by omega), if_pos rfl] at ecd
        have hdig := fun σ => (hdig σ).trans (by rw [q2, e1])
        have key := fun K => m_next_L2 (n := n) (T := T) (q := zt_at T p) (K := K) (T.2 - zt_at T p) 0 (q_up (q_up (q_up σ 157 17 (nI (zt_at T p))) 157 19 (nI (zt_at T p))) 157 20 (nI 0)) n (by omega) (by omega) (by rw [z_upO (by omega), z_upO (by omega), z_upO (by omega)]; exact hB) (by rw [z_upK (by omega), z_upK (by omega), z_upK (by omega)]; exact hl) (by rw [z_upK (by omega), z_upK (by omega)]; exact z_upS) (by rw [z_upK (by omega)]; exact z_upS) z_upS
        obtain ⟨σ', k1, k2, k3, k4, k5⟩ := key (fun (s53 : q_Sto) =>
  if ((s53 157 17) - (s53 157 19)) < 5 then (
  q_nS1 (q_up s53 157 18 2) fun s55 =>
  some (0, s55))
  else (
  q_nS1 (q_up s53 157 18 1) fun s56 =>
  some (0, s56)))
        rw [Nat.add_zero] at k3 k4
        rw [← enx] at k3 k4
        have k19 : σ' 157 19 = nI (zt_at T p) := by rw [k2 19 (by omega) (by omega), z_upK (by omega)]; exact z_upS
        refine ⟨q_up σ' 157 18 (nI (zt_cd k T p)), ?_, ?_, ?_, ?_⟩
        · intro o ho
          rw [z_upO ho, k1 o ho, z_upO ho, z_upO ho, z_upO ho]
        · intro a a1 a2 a3 a4
          rw [z_upK a2, k2 a a1 a4, z_upK a4, z_upK a3, z_upK a1]
        · refine ⟨by rw [z_upO (by omega), k1 165 (by omega), z_upO (by omega), z_upO (by omega), z_upO (by omega)]; exact hB, hp, hk, ?_, ?_, by rw [z_upK (by omega)]; exact k3, z_upS, by rw [z_upK (by omega)]; exact k19, fun h => ?_⟩
          · rw [z_upK (by omega), k2 16 (by omega) (by omega), z_upK (by omega), z_upK (by omega), z_upK (by omega)]; exact hl
          · rw [z_upK (by omega), k2 12 (by omega) (by omega), z_upK (by omega), z_upK (by omega), z_upK (by omega)]; exact h12
          · rw [ecd] at h
            have h5 : zt_nx T p - zt_at T p < 5 := by
              by_cases q5 : zt_nx T p - zt_at T p < 5
              · exact q5
              · rw [if_neg q5] at h; omega
            rw [z_upK (by omega), k4, eva, show min (zt_nx T p - zt_at T p) 4 = zt_nx T p - zt_at T p by omega]
            refine (zt_vi_nv _ (fun i hi => ?_) h5).1
            have := zt_sc_all (P := zt_id) (B := T.1) (T.2 - zt_at T p) (zt_at T p) (zt_at T p + i) (by omega) (by rw [← enx]; omega)
            unfold zt_id at this
            simpa using this
        · refine Eq.trans ?_ (k5.trans ?_)
          · generalize zt_at T p = A at *
            generalize T.1 A = c at *
            simp (disch := omega) only [hb, hlet, hdig, ↓reduceIte, ↓p_ld, ↓p_st, ↓p_nm, ↓p_nS, ↓p_jn, ↓p_call, ↓p_callv, ↓p_dv, ↓p_rem, h_ldE, h_stE, h_nmE, h_nSE, h_callE, h_callvE, h_dvE, h_remE, if_true, if_false, z_upS, z_upO, z_upK, nI_add, z_mul, z_sub, z_div, Nat.add_zero, Nat.mul_zero, Nat.zero_add, Nat.sub_zero, Nat.zero_mul, z_ltT, z_ltF, z_leT, z_leF, z_eqT, z_eqF, z_inT, z_clT, not_true_eq_false, not_false_eq_true, eq_self, true_or, or_true, z_m_lt, z_m_le, z_lt_m, z_le_m, z_eq_m, z_m_eq, z_rz0, z_rz1, z_m_add, z_of, r_157_0, r_157_1, r_157_2, r_157_3, r_157_6, r_157_7, r_157_8, r_157_9, r_157_10, r_157_11, r_157_27, r_157_28, r_157_29, r_157_30, ↓z_m1, l_0, l_1, l_2, l_3, l_4, l_5, l_6, l_7, l_8, l_9, l_10, l_11, l_12, l_13, l_14, l_15, l_16, l_17, l_18, l_19, l_20, l_21, l_22, l_23, l_24, l_25, l_26, l_27, l_28, l_29, l_30, l_31, l_32, l_33, l_34, l_35, l_36, l_37, l_38, l_39, l_40, l_41, l_42, l_43, l_44, l_45, l_46, l_47, l_48, l_49, l_50, l_51, l_52, l_53, l_54, l_55, l_56, l_57, l_59, l_60, l_61, l_62, l_63, l_64, l_65, l_80, l_86, l_87, l_88, l_89, l_90, l_91, l_92, l_93, l_94, l_95, l_97, l_99, l_100, l_107, l_119, l_122, l_124, l_129, l_140, l_141, l_142, l_143, l_144, l_145, l_147, l_150, l_159, l_160, l_161, l_162, l_205, l_253, l_255, l_256, l_269, l_305, l_380, l_399, l_400, l_420, l_430, l_516, l_600, l_720, l_820, l_905, l_921, l_937, l_953, l_970, l_999, l_1000, l_1790, l_4096, l_9999, l_1000000]
          · by_cases q5 : zt_nx T p - zt_at T p < 5
            · rw [ecd, if_pos q5]
              generalize zt_nx T p = X at *
              generalize zt_at T p = A at *
              simp (disch := omega) only [k3, k19, ↓reduceIte, ↓p_ld, ↓p_st, ↓p_nm, ↓p_nS, ↓p_jn, ↓p_call, ↓p_callv, ↓p_dv, ↓p_rem, h_ldE, h_stE, h_nmE, h_nSE, h_callE, h_callvE, h_dvE, h_remE, if_true, if_false, z_upS, z_upO, z_upK, nI_add, z_mul, z_sub, z_div, Nat.add_zero, Nat.mul_zero, Nat.zero_add, Nat.sub_zero, Nat.zero_mul, z_ltT, z_ltF, z_leT, z_leF, z_eqT, z_eqF, z_inT, z_clT, not_true_eq_false, not_false_eq_true, eq_self, true_or, or_true, z_m_lt, z_m_le, z_lt_m, z_le_m, z_eq_m, z_m_eq, z_rz0, z_rz1, z_m_add, z_of, r_157_0, r_157_1, r_157_2, r_157_3, r_157_6, r_157_7, r_157_8, r_157_9, r_157_10, r_157_11, r_157_27, r_157_28, r_157_29, r_157_30, ↓z_m1, l_0, l_1, l_2, l_3, l_4, l_5, l_6, l_7, l_8, l_9, l_10, l_11, l_12, l_13, l_14, l_15, l_16, l_17, l_18, l_19, l_20, l_21, l_22, l_23, l_24, l_25, l_26, l_27, l_28, l_29, l_30, l_31, l_32, l_33, l_34, l_35, l_36, l_37, l_38, l_39, l_40, l_41, l_42, l_43, l_44, l_45, l_46, l_47, l_48, l_49, l_50, l_51, l_52, l_53, l_54, l_55, l_56, l_57, l_59, l_60, l_61, l_62, l_63, l_64, l_65, l_80, l_86, l_87, l_88, l_89, l_90, l_91, l_92, l_93, l_94, l_95, l_97, l_99, l_100, l_107, l_119, l_122, l_124, l_129, l_140, l_141, l_142, l_143, l_144, l_145, l_147, l_150, l_159, l_160, l_161, l_162, l_205, l_253, l_255, l_256, l_269, l_305, l_380, l_399, l_400, l_420, l_430, l_516, l_600, l_720, l_820, l_905, l_921, l_937, l_953, l_970, l_999, l_1000, l_1790, l_4096, l_9999, l_1000000]
            · rw [ecd, if_neg q5]
              generalize zt_nx T p = X at *
              generalize zt_at T p = A at *
              simp (disch := omega) only [k3, k19, ↓reduceIte, ↓p_ld, ↓p_st, ↓p_nm, ↓p_nS, ↓p_jn, ↓p_call, ↓p_callv, ↓p_dv, ↓p_rem, h_ldE, h_stE, h_nmE, h_nSE, h_callE, h_callvE, h_dvE, h_remE, if_true, if_false, z_upS, z_upO, z_upK, nI_add, z_mul, z_sub, z_div, Nat.add_zero, Nat.mul_zero, Nat.zero_add, Nat.sub_zero, Nat.zero_mul, z_ltT, z_ltF, z_leT, z_leF, z_eqT, z_eqF, z_inT, z_clT, not_true_eq_false, not_false_eq_true, eq_self, true_or, or_true, z_m_lt, z_m_le, z_lt_m, z_le_m, z_eq_m, z_m_eq, z_rz0, z_rz1, z_m_add, z_of, r_157_0, r_157_1, r_157_2, r_157_3, r_157_6, r_157_7, r_157_8, r_157_9, r_157_10, r_157_11, r_157_27, r_157_28, r_157_29, r_157_30, ↓z_m1, l_0, l_1, l_2, l_3, l_4, l_5, l_6, l_7, l_8, l_9, l_10, l_11, l_12, l_13, l_14, l_15, l_16, l_17, l_18, l_19, l_20, l_21, l_22, l_23, l_24, l_25, l_26, l_27, l_28, l_29, l_30, l_31, l_32, l_33, l_34, l_35, l_36, l_37, l_38, l_39, l_40, l_41, l_42, l_43, l_44, l_45, l_46, l_47, l_48, l_49, l_50, l_51, l_52, l_53, l_54, l_55, l_56, l_57, l_59, l_60, l_61, l_62, l_63, l_64, l_65, l_80, l_86, l_87, l_88, l_89, l_90, l_91, l_92, l_93, l_94, l_95, l_97, l_99, l_100, l_107, l_119, l_122, l_124, l_129, l_140, l_141, l_142, l_143, l_144, l_145, l_147, l_150, l_159, l_160, l_161, l_162, l_205, l_253, l_255, l_256, l_269, l_305, l_380, l_399, l_400, l_420, l_430, l_516, l_600, l_720, l_820, l_905, l_921, l_937, l_953, l_970, l_999, l_1000, l_1790, l_4096, l_9999, l_1000000]
      · rw [if_neg q2] at ekd enx
        rw [ekd, if_neg (by omega), if_neg (by omega), if_neg (by omega)] at ecd
        have hdig := fun σ => (hdig σ).trans (by rw [z_bf q2, e0])
        refine ⟨q_up (q_up (q_up (q_up σ 157 17 (nI (zt_at T p))) 157 19 (nI (zt_at T p))) 157 17 (nI (zt_at T p + 1))) 157 18 (nI (zt_cd k T p)), ?_, ?_, ?_, ?_⟩
        · intro o ho
          rw [z_upO ho, z_upO ho, z_upO ho, z_upO ho]
        · intro a a1 a2 a3 a4
          rw [z_upK a2, z_upK a1, z_upK a3, z_upK a1]
        · refine ⟨by rw [z_upO (by omega), z_upO (by omega), z_upO (by omega), z_upO (by omega)]; exact hB, hp, hk, ?_, ?_, ?_, z_upS, ?_, fun h => ?_⟩
          · rw [z_upK (by omega), z_upK (by omega), z_upK (by omega), z_upK (by omega)]; exact hl
          · rw [z_upK (by omega), z_upK (by omega), z_upK (by omega), z_upK (by omega)]; exact h12
          · rw [z_upK (by omega), enx]; exact z_upS
          · rw [z_upK (by omega), z_upK (by omega)]; exact z_upS
          · exfalso
            rw [ecd] at h
            split at h <;> omega
        · generalize zt_cd k T p = cd at *
          generalize zt_at T p = A at *
          generalize T.1 A = c at *
          by_cases qs : c = 59 ∨ c = 43 ∨ c = 45 ∨ c = 42 ∨ c = 47 ∨ c = 40 ∨ c = 41 ∨ c = 60 ∨ c = 61 ∨ c = 62
          · rw [if_pos (zt_sg_T qs)] at ecd
            rcases qs with rfl | rfl | rfl | rfl | rfl | rfl | rfl | rfl | rfl | rfl <;> (subst ecd; simp (disch := omega) only [hb, hlet, hdig, ↓reduceIte, ↓p_ld, ↓p_st, ↓p_nm, ↓p_nS, ↓p_jn, ↓p_call, ↓p_callv, ↓p_dv, ↓p_rem, h_ldE, h_stE, h_nmE, h_nSE, h_callE, h_callvE, h_dvE, h_remE, if_true, if_false, z_upS, z_upO, z_upK, nI_add, z_mul, z_sub, z_div, Nat.add_zero, Nat.mul_zero, Nat.zero_add, Nat.sub_zero, Nat.zero_mul, z_ltT, z_ltF, z_leT, z_leF, z_eqT, z_eqF, z_inT, z_clT, not_true_eq_false, not_false_eq_true, eq_self, true_or, or_true, z_m_lt, z_m_le, z_lt_m, z_le_m, z_eq_m, z_m_eq, z_rz0, z_rz1, z_m_add, z_of, r_157_0, r_157_1, r_157_2, r_157_3, r_157_6, r_157_7, r_157_8, r_157_9, r_157_10, r_157_11, r_157_27, r_157_28, r_157_29, r_157_30, ↓z_m1, l_0, l_1, l_2, l_3, l_4, l_5, l_6, l_7, l_8, l_9, l_10, l_11, l_12, l_13, l_14, l_15, l_16, l_17, l_18, l_19, l_20, l_21, l_22, l_23, l_24, l_25, l_26, l_27, l_28, l_29, l_30, l_31, l_32, l_33, l_34, l_35, l_36, l_37, l_38, l_39, l_40, l_41, l_42, l_43, l_44, l_45, l_46, l_47, l_48, l_49, l_50, l_51, l_52, l_53, l_54, l_55, l_56, l_57, l_59, l_60, l_61, l_62, l_63, l_64, l_65, l_80, l_86, l_87, l_88, l_89, l_90, l_91, l_92, l_93, l_94, l_95, l_97, l_99, l_100, l_107, l_119, l_122, l_124, l_129, l_140, l_141, l_142, l_143, l_144, l_145, l_147, l_150, l_159, l_160, l_161, l_162, l_205, l_253, l_255, l_256, l_269, l_305, l_380, l_399, l_400, l_420, l_430, l_516, l_600, l_720, l_820, l_905, l_921, l_937, l_953, l_970, l_999, l_1000, l_1790, l_4096, l_9999, l_1000000])
          · rw [if_neg (by rw [zt_sg_F qs]; decide)] at ecd
            subst ecd
            simp (disch := omega) only [hb, hlet, hdig, ↓reduceIte, ↓p_ld, ↓p_st, ↓p_nm, ↓p_nS, ↓p_jn, ↓p_call, ↓p_callv, ↓p_dv, ↓p_rem, h_ldE, h_stE, h_nmE, h_nSE, h_callE, h_callvE, h_dvE, h_remE, if_true, if_false, z_upS, z_upO, z_upK, nI_add, z_mul, z_sub, z_div, Nat.add_zero, Nat.mul_zero, Nat.zero_add, Nat.sub_zero, Nat.zero_mul, z_ltT, z_ltF, z_leT, z_leF, z_eqT, z_eqF, z_inT, z_clT, not_true_eq_false, not_false_eq_true, eq_self, true_or, or_true, z_m_lt, z_m_le, z_lt_m, z_le_m, z_eq_m, z_m_eq, z_rz0, z_rz1, z_m_add, z_of, r_157_0, r_157_1, r_157_2, r_157_3, r_157_6, r_157_7, r_157_8, r_157_9, r_157_10, r_157_11, r_157_27, r_157_28, r_157_29, r_157_30, ↓z_m1, l_0, l_1, l_2, l_3, l_4, l_5, l_6, l_7, l_8, l_9, l_10, l_11, l_12, l_13, l_14, l_15, l_16, l_17, l_18, l_19, l_20, l_21, l_22, l_23, l_24, l_25, l_26, l_27, l_28, l_29, l_30, l_31, l_32, l_33, l_34, l_35, l_36, l_37, l_38, l_39, l_40, l_41, l_42, l_43, l_44, l_45, l_46, l_47, l_48, l_49, l_50, l_51, l_52, l_53, l_54, l_55, l_56, l_57, l_59, l_60, l_61, l_62, l_63, l_64, l_65, l_80, l_86, l_87, l_88, l_89, l_90, l_91, l_92, l_93, l_94, l_95, l_97, l_99, l_100, l_107, l_119, l_122, l_124, l_129, l_140, l_141, l_142, l_143, l_144, l_145, l_147, l_150, l_159, l_160, l_161, l_162, l_205, l_253, l_255, l_256, l_269, l_305, l_380, l_399, l_400, l_420, l_430, l_516, l_600, l_720, l_820, l_905, l_921, l_937, l_953, l_970, l_999, l_1000, l_1790, l_4096, l_9999, l_1000000]
  · rw [if_neg q] at ekd enx
    rw [ekd, if_pos rfl] at ecd
    have hb : ∀ σ' : q_Sto, σ' 165 = σ 165 → σ' 157 16 = nI T.2 → f_X12_see n 157 (nI (zt_at T p)) σ' = some (z_m, σ') := fun σ' h1 h2 => m_see0 (by rw [h1]; exact hB) h2 (by omega) (by omega)
    have hb := hb (q_up (q_up σ 157 17 (nI (zt_at T p))) 157 19 (nI (zt_at T p))) (by rw [z_upO (by omega), z_upO (by omega)]) (by rw [z_upK (by omega), z_upK (by omega)]; exact hl)
    refine ⟨q_up (q_up (q_up σ 157 17 (nI (zt_at T p))) 157 19 (nI (zt_at T p))) 157 18 (nI 0), ?_, ?_, ?_, ?_⟩
    · intro o ho
      rw [z_upO ho, z_upO ho, z_upO ho]
    · intro a a1 a2 a3 a4
      rw [z_upK a2, z_upK a3, z_upK a1]
    · refine ⟨by rw [z_upO (by omega), z_upO (by omega), z_upO (by omega)]; exact hB, hp, hk, ?_, ?_, ?_, by rw [ecd]; exact z_upS, ?_, fun h => by omega⟩
      · rw [z_upK (by omega), z_upK (by omega), z_upK (by omega)]; exact hl
      · rw [z_upK (by omega), z_upK (by omega), z_upK (by omega)]; exact h12
      · rw [z_upK (by omega), z_upK (by omega), z_upS, enx]
      · rw [z_upK (by omega)]; exact z_upS
    · generalize zt_at T p = A at *
      simp (disch := omega) only [hb, ↓reduceIte, ↓p_ld, ↓p_st, ↓p_nm, ↓p_nS, ↓p_jn, ↓p_call, ↓p_callv, ↓p_dv, ↓p_rem, h_ldE, h_stE, h_nmE, h_nSE, h_callE, h_callvE, h_dvE, h_remE, if_true, if_false, z_upS, z_upO, z_upK, nI_add, z_mul, z_sub, z_div, Nat.add_zero, Nat.mul_zero, Nat.zero_add, Nat.sub_zero, Nat.zero_mul, z_ltT, z_ltF, z_leT, z_leF, z_eqT, z_eqF, z_inT, z_clT, not_true_eq_false, not_false_eq_true, eq_self, true_or, or_true, z_m_lt, z_m_le, z_lt_m, z_le_m, z_eq_m, z_m_eq, z_rz0, z_rz1, z_m_add, z_of, r_157_0, r_157_1, r_157_2, r_157_3, r_157_6, r_157_7, r_157_8, r_157_9, r_157_10, r_157_11, r_157_27, r_157_28, r_157_29, r_157_30, ↓z_m1, l_0, l_1, l_2, l_3, l_4, l_5, l_6, l_7, l_8, l_9, l_10, l_11, l_12, l_13, l_14, l_15, l_16, l_17, l_18, l_19, l_20, l_21, l_22, l_23, l_24, l_25, l_26, l_27, l_28, l_29, l_30, l_31, l_32, l_33, l_34, l_35, l_36, l_37, l_38, l_39, l_40, l_41, l_42, l_43, l_44, l_45, l_46, l_47, l_48, l_49, l_50, l_51, l_52, l_53, l_54, l_55, l_56, l_57, l_59, l_60, l_61, l_62, l_63, l_64, l_65, l_80, l_86, l_87, l_88, l_89, l_90, l_91, l_92, l_93, l_94, l_95, l_97, l_99, l_100, l_107, l_119, l_122, l_124, l_129, l_140, l_141, l_142, l_143, l_144, l_145, l_147, l_150, l_159, l_160, l_161, l_162, l_205, l_253, l_255, l_256, l_269, l_305, l_380, l_399, l_400, l_420, l_430, l_516, l_600, l_720, l_820, l_905, l_921, l_937, l_953, l_970, l_999, l_1000, l_1790, l_4096, l_9999, l_1000000]
/-! TEXTS: what the class asks of a token, by the reference's codes -/
theorem zt_lk_in2 {t : List (Nat × Nat)} {l : List Nat} : zt_lk t l = 1 ∨ ∃ x ∈ t, zt_lk t l = x.2 ∧ l = zt_w x.1 := by
  induction t with
  | nil => exact Or.inl rfl
  | cons x t ih =>
    obtain ⟨i, c⟩ := x
    have e : zt_lk ((i, c) :: t) l = if l = zt_w i then c else zt_lk t l := rfl
    rw [e]
    by_cases q : l = zt_w i
    · rw [if_pos q]; exact Or.inr ⟨(i, c), List.mem_cons_self .., rfl, q⟩
    · rw [if_neg q]
      rcases ih with h | ⟨x, h1, h2⟩
      · exact Or.inl h
      · exact Or.inr ⟨x, List.mem_cons_of_mem _ h1, h2⟩
/-- the word w is the code c of text k -/
def zt_ok (k w c : Nat) : Bool := decide (w < 57) && (decide (3 ≤ c) && (decide (c < 100) && (decide (zt_lk (zt_tb k) (zt_w w) = c) && (zt_tb k).all (fun x => decide (x.2 = c → zt_w x.1 = zt_w w)))))
theorem zt_kd4 (T : zt_T) (p : Nat) : zt_kd T p < 4 := by
  unfold zt_kd
  split
  · split
    · omega
    · split <;> omega
  · omega
theorem zt_cdE (k : Nat) (T : zt_T) (p : Nat) : zt_cd k T p = if zt_kd T p = 0 then 0 else if zt_kd T p = 1 then zt_lk (zt_tb k) (zt_by T p) else if zt_kd T p = 2 then (if zt_nx T p - zt_at T p < 5 then 2 else 1) else (if zt_sg (T.1 (zt_at T p)) = true then 100 + T.1 (zt_at T p) else 1) := rfl
theorem zt_sg_ge {c : Nat} (h : zt_sg c = true) : 40 ≤ c ∧ c ≤ 62 := by
  unfold zt_sg at h
  have h : c = 59 ∨ c = 43 ∨ c = 45 ∨ c = 42 ∨ c = 47 ∨ c = 40 ∨ c = 41 ∨ c = 60 ∨ c = 61 ∨ c = 62 := by simpa using h
  omega
theorem zt_cd_w {k w c p : Nat} {T : zt_T} (hk : k < 5) (ho : zt_ok k w c = true) : zt_cd k T p = c ↔ (zt_kd T p = 1 ∧ zt_by T p = zt_w w) := by
  unfold zt_ok at ho
  simp only [Bool.and_eq_true, decide_eq_true_eq] at ho
  obtain ⟨h1, h2, h3, h4, h5⟩ := ho
  have h4k := zt_kd4 T p
  rw [zt_cdE]
  by_cases q0 : zt_kd T p = 0
  · rw [if_pos q0]
    exact ⟨fun h => by omega, fun h => by omega⟩
  · rw [if_neg q0]
    by_cases q1 : zt_kd T p = 1
    · rw [if_pos q1]
      constructor
      · intro h
        refine ⟨q1, ?_⟩
        rcases zt_lk_in2 (t := zt_tb k) (l := zt_by T p) with g | ⟨x, g1, g2, g3⟩
        · omega
        · have := List.all_eq_true.mp h5 x g1
          rw [g3]
          exact of_decide_eq_true this (by omega)
      · rintro ⟨-, h⟩
        rw [h]; exact h4
    · rw [if_neg q1]
      refine ⟨fun h => ?_, fun h => absurd h.1 q1⟩
      by_cases q2 : zt_kd T p = 2
      · rw [if_pos q2] at h
        split at h <;> omega
      · rw [if_neg q2] at h
        split at h
        · rename_i hs
          have := zt_sg_ge hs
          omega
        · omega
theorem zt_cd_n {k p : Nat} {T : zt_T} (hk : k < 5) : zt_cd k T p = 2 ↔ (zt_kd T p = 2 ∧ zt_nx T p - zt_at T p < 5) := by
  have h4k := zt_kd4 T p
  rw [zt_cdE]
  by_cases q0 : zt_kd T p = 0
  · rw [if_pos q0]
    exact ⟨fun h => by omega, fun h => by omega⟩
  · rw [if_neg q0]
    by_cases q1 : zt_kd T p = 1
    · rw [if_pos q1]
      have := zt_lk_r (l := zt_by T p) hk
      exact ⟨fun h => by omega, fun h => by omega⟩
    · rw [if_neg q1]
      by_cases q2 : zt_kd T p = 2
      · rw [if_pos q2]
        by_cases q5 : zt_nx T p - zt_at T p < 5
        · rw [if_pos q5]; exact ⟨fun _ => ⟨q2, q5⟩, fun _ => rfl⟩
        · rw [if_neg q5]; exact ⟨fun h => by omega, fun h => absurd h.2 q5⟩
      · rw [if_neg q2]
        refine ⟨fun h => ?_, fun h => absurd h.1 q2⟩
        split at h <;> omega
theorem zt_cd_0 {k p : Nat} {T : zt_T} (hk : k < 5) : zt_cd k T p = 0 ↔ zt_kd T p = 0 := by
  rw [zt_cdE]
  by_cases q0 : zt_kd T p = 0
  · rw [if_pos q0]; exact ⟨fun _ => q0, fun _ => rfl⟩
  · rw [if_neg q0]
    refine ⟨fun h => ?_, fun h => absurd h q0⟩
    by_cases q1 : zt_kd T p = 1
    · rw [if_pos q1] at h
      have := zt_lk_r (l := zt_by T p) hk
      omega
    · rw [if_neg q1] at h
      split at h
      · split at h <;> omega
      · split at h <;> omega
theorem zt_cd_s {k p c : Nat} {T : zt_T} (hk : k < 5) (hc : c = 59 ∨ c = 43 ∨ c = 45 ∨ c = 42 ∨ c = 47 ∨ c = 40 ∨ c = 41 ∨ c = 60 ∨ c = 61 ∨ c = 62) : zt_cd k T p = 100 + c ↔ (zt_kd T p = 3 ∧ T.1 (zt_at T p) = c) := by
  have h4k := zt_kd4 T p
  rw [zt_cdE]
  by_cases q0 : zt_kd T p = 0
  · rw [if_pos q0]
    exact ⟨fun h => by omega, fun h => by omega⟩
  · rw [if_neg q0]
    by_cases q1 : zt_kd T p = 1
    · rw [if_pos q1]
      have := zt_lk_r (l := zt_by T p) hk
      exact ⟨fun h => by omega, fun h => by omega⟩
    · rw [if_neg q1]
      by_cases q2 : zt_kd T p = 2
      · rw [if_pos q2]
        refine ⟨fun h => ?_, fun h => by omega⟩
        split at h <;> omega
      · rw [if_neg q2]
        constructor
        · intro h
          split at h
          · exact ⟨by omega, by omega⟩
          · omega
        · rintro ⟨-, h⟩
          rw [h, if_pos (zt_sg_T hc)]
theorem zt_cd_r {k p : Nat} {T : zt_T} (hk : k < 5) : zt_cd k T p ≤ 162 := by
  rw [zt_cdE]
  split
  · omega
  · split
    · have := zt_lk_r (l := zt_by T p) hk
      omega
    · split
      · split <;> omega
      · split
        · rename_i hs
          have := zt_sg_ge hs
          omega
        · omega
theorem zt_va_lt {k p : Nat} {T : zt_T} (hk : k < 5) (hp : p ≤ T.2) (h : zt_cd k T p = 2) : zt_va T p < 10000 := by
  obtain ⟨h1, h2⟩ := (zt_cd_n hk).mp h
  obtain ⟨b1, b2⟩ := zt_at_b hp
  have ekd : zt_kd T p = if zt_at T p < T.2 then (if zt_il (T.1 (zt_at T p)) = true then 1 else if zt_id (T.1 (zt_at T p)) = true then 2 else 3) else 0 := rfl
  have enx : zt_nx T p = if zt_at T p < T.2 then (if zt_il (T.1 (zt_at T p)) = true then zt_sc zt_il T.1 (T.2 - zt_at T p) (zt_at T p) else if zt_id (T.1 (zt_at T p)) = true then zt_sc zt_id T.1 (T.2 - zt_at T p) (zt_at T p) else zt_at T p + 1) else zt_at T p := rfl
  by_cases q : zt_at T p < T.2
  · rw [if_pos q] at ekd enx
    by_cases q1 : zt_il (T.1 (zt_at T p)) = true
    · rw [if_pos q1] at ekd; omega
    · rw [if_neg q1] at ekd enx
      by_cases q2 : zt_id (T.1 (zt_at T p)) = true
      · rw [if_pos q2] at ekd enx
        have := (zt_vi_nv (B := T.1) (q := zt_at T p) (zt_nx T p - zt_at T p) (fun i hi => by
          have := zt_sc_all (P := zt_id) (B := T.1) (T.2 - zt_at T p) (zt_at T p) (zt_at T p + i) (by omega) (by rw [← enx]; omega)
          unfold zt_id at this
          simpa using this) h2).2
        have hp4 : 10 ^ (zt_nx T p - zt_at T p) ≤ 10 ^ 4 := Nat.pow_le_pow_right (by omega) (by omega)
        have hp5 : (10 : Nat) ^ 4 = 10000 := rfl
        unfold zt_va
        omega
      · rw [if_neg q2] at ekd; omega
  · rw [if_neg q] at ekd; omega
/-- a token that is not the end goes on -/
theorem zt_go {k p : Nat} {T : zt_T} (hk : k < 5) (hp : p ≤ T.2) (h : zt_cd k T p ≠ 0) : p < zt_nx T p ∧ zt_nx T p ≤ T.2 := by
  obtain ⟨b1, b2⟩ := zt_at_b hp
  obtain ⟨b3, b4, b5⟩ := zt_nx_b hp
  have := b5 (fun q => h ((zt_cd_0 hk).mpr q))
  omega
theorem c_wT {k w c p : Nat} {T : zt_T} {σ : q_Sto} (hC : zt_C σ T p) (hk : k < 5) (ho : zt_ok k w c = true) (h : zt_cd k T p = c) : f_X8_isWord q_F 142 w σ = some (nI 1, σ) := by
  have hw : w < 57 := by
    unfold zt_ok at ho
    rw [Bool.and_eq_true, decide_eq_true_eq] at ho
    exact ho.1
  rw [c_isWord z_F402 hw hC, decide_eq_true ((zt_cd_w hk ho).mp h)]
  rfl
theorem c_wF {k w c p : Nat} {T : zt_T} {σ : q_Sto} (hC : zt_C σ T p) (hk : k < 5) (ho : zt_ok k w c = true) (h : ¬ zt_cd k T p = c) : f_X8_isWord q_F 142 w σ = some (nI 0, σ) := by
  have hw : w < 57 := by
    unfold zt_ok at ho
    rw [Bool.and_eq_true, decide_eq_true_eq] at ho
    exact ho.1
  rw [c_isWord z_F402 hw hC, decide_eq_false (fun q => h ((zt_cd_w hk ho).mpr q))]
  rfl
theorem c_sT {k c p : Nat} {T : zt_T} {σ : q_Sto} (hC : zt_C σ T p) (hk : k < 5) (hc : c = 59 ∨ c = 43 ∨ c = 45 ∨ c = 42 ∨ c = 47 ∨ c = 40 ∨ c = 41 ∨ c = 60 ∨ c = 61 ∨ c = 62) (h : zt_cd k T p = 100 + c) : f_X8_isSign q_F 142 (nI c) σ = some (nI 1, σ) := by
  obtain ⟨h1, h2⟩ := (zt_cd_s hk hc).mp h
  obtain ⟨hB, hp, c1, c2, c3, c4, c5, -⟩ := hC
  have c5 := c5 h1
  rw [h1] at c4
  rw [h2] at c5
  unfold f_X8_isSign
  simp (disch := omega) only [c4, c5, ↓reduceIte, ↓p_ld, ↓p_st, ↓p_nm, ↓p_nS, ↓p_jn, ↓p_call, ↓p_callv, ↓p_dv, ↓p_rem, h_ldE, h_stE, h_nmE, h_nSE, h_callE, h_callvE, h_dvE, h_remE, if_true, if_false, z_upS, z_upO, z_upK, nI_add, z_mul, z_sub, z_div, Nat.add_zero, Nat.mul_zero, Nat.zero_add, Nat.sub_zero, Nat.zero_mul, z_ltT, z_ltF, z_leT, z_leF, z_eqT, z_eqF, z_inT, z_clT, not_true_eq_false, not_false_eq_true, eq_self, true_or, or_true, z_m_lt, z_m_le, z_lt_m, z_le_m, z_eq_m, z_m_eq, z_rz0, z_rz1, z_m_add, z_of, r_0_0, r_0_1, r_0_3, r_0_4, r_0_5, r_0_6, r_0_7, r_0_8, r_0_9, r_0_10, r_1_0, r_1_1, r_1_2, r_1_3, r_1_4, r_1_5, r_1_6, r_1_7, r_1_8, r_2_0, r_2_1, r_2_2, r_2_3, r_2_4, r_2_5, r_2_6, r_2_7, r_11_0, r_11_1, r_11_2, r_11_3, r_11_4, r_11_5, r_11_6, r_19_0, r_21_0, r_23_0, r_25_0, r_27_0, r_61_0, r_117_0, r_117_1, r_117_2, r_117_3, r_117_4, r_117_5, r_117_6, r_117_7, r_126_0, r_126_1, r_126_2, r_126_3, r_126_4, r_132_0, r_132_1, r_135_0, r_135_1, r_135_2, r_135_3, r_135_4, r_135_5, r_142_0, r_144_0, r_144_1, r_144_2, r_145_0, r_145_1, r_145_2, r_145_3, r_145_4, r_145_5, r_145_6, r_154_0, r_154_1, r_155_0, ↓z_m1, l_0, l_1, l_2, l_3, l_4, l_5, l_6, l_7, l_8, l_9, l_10, l_11, l_12, l_13, l_14, l_15, l_16, l_17, l_18, l_19, l_20, l_21, l_22, l_23, l_24, l_25, l_26, l_27, l_28, l_29, l_30, l_31, l_32, l_33, l_34, l_35, l_36, l_37, l_38, l_39, l_40, l_41, l_42, l_43, l_44, l_45, l_46, l_47, l_48, l_49, l_50, l_51, l_52, l_53, l_54, l_55, l_56, l_57, l_59, l_60, l_61, l_62, l_63, l_64, l_65, l_80, l_86, l_87, l_88, l_89, l_90, l_91, l_92, l_93, l_94, l_95, l_97, l_99, l_100, l_107, l_119, l_122, l_124, l_129, l_140, l_141, l_142, l_143, l_144, l_145, l_147, l_150, l_159, l_160, l_161, l_162, l_205, l_253, l_255, l_256, l_269, l_305, l_380, l_399, l_400, l_420, l_430, l_516, l_600, l_720, l_820, l_905, l_921, l_937, l_953, l_970, l_999, l_1000, l_1790, l_4096, l_9999, l_1000000]
theorem c_sF {k c p : Nat} {T : zt_T} {σ : q_Sto} (hC : zt_C σ T p) (hk : k < 5) (hc : c = 59 ∨ c = 43 ∨ c = 45 ∨ c = 42 ∨ c = 47 ∨ c = 40 ∨ c = 41 ∨ c = 60 ∨ c = 61 ∨ c = 62) (h : ¬ zt_cd k T p = 100 + c) : f_X8_isSign q_F 142 (nI c) σ = some (nI 0, σ) := by
  have h4k := zt_kd4 T p
  have hn := fun q => h ((zt_cd_s hk hc).mpr q)
  obtain ⟨hB, hp, c1, c2, c3, c4, c5, -⟩ := hC
  unfold f_X8_isSign
  by_cases q : zt_kd T p = 3
  · have c5 := c5 q
    have hne : T.1 (zt_at T p) ≠ c := fun g => hn ⟨q, g⟩
    have hlt : zt_at T p < T.2 := by
      by_cases q1 : zt_at T p < T.2
      · exact q1
      · have : zt_kd T p = 0 := if_neg q1
        omega
    have := (hB.2 _ hlt).2
    rw [q] at c4
    generalize T.1 (zt_at T p) = b at *
    simp (disch := omega) only [c4, c5, ↓reduceIte, ↓p_ld, ↓p_st, ↓p_nm, ↓p_nS, ↓p_jn, ↓p_call, ↓p_callv, ↓p_dv, ↓p_rem, h_ldE, h_stE, h_nmE, h_nSE, h_callE, h_callvE, h_dvE, h_remE, if_true, if_false, z_upS, z_upO, z_upK, nI_add, z_mul, z_sub, z_div, Nat.add_zero, Nat.mul_zero, Nat.zero_add, Nat.sub_zero, Nat.zero_mul, z_ltT, z_ltF, z_leT, z_leF, z_eqT, z_eqF, z_inT, z_clT, not_true_eq_false, not_false_eq_true, eq_self, true_or, or_true, z_m_lt, z_m_le, z_lt_m, z_le_m, z_eq_m, z_m_eq, z_rz0, z_rz1, z_m_add, z_of, r_0_0, r_0_1, r_0_3, r_0_4, r_0_5, r_0_6, r_0_7, r_0_8, r_0_9, r_0_10, r_1_0, r_1_1, r_1_2, r_1_3, r_1_4, r_1_5, r_1_6, r_1_7, r_1_8, r_2_0, r_2_1, r_2_2, r_2_3, r_2_4, r_2_5, r_2_6, r_2_7, r_11_0, r_11_1, r_11_2, r_11_3, r_11_4, r_11_5, r_11_6, r_19_0, r_21_0, r_23_0, r_25_0, r_27_0, r_61_0, r_117_0, r_117_1, r_117_2, r_117_3, r_117_4, r_117_5, r_117_6, r_117_7, r_126_0, r_126_1, r_126_2, r_126_3, r_126_4, r_132_0, r_132_1, r_135_0, r_135_1, r_135_2, r_135_3, r_135_4, r_135_5, r_142_0, r_144_0, r_144_1, r_144_2, r_145_0, r_145_1, r_145_2, r_145_3, r_145_4, r_145_5, r_145_6, r_154_0, r_154_1, r_155_0, ↓z_m1, l_0, l_1, l_2, l_3, l_4, l_5, l_6, l_7, l_8, l_9, l_10, l_11, l_12, l_13, l_14, l_15, l_16, l_17, l_18, l_19, l_20, l_21, l_22, l_23, l_24, l_25, l_26, l_27, l_28, l_29, l_30, l_31, l_32, l_33, l_34, l_35, l_36, l_37, l_38, l_39, l_40, l_41, l_42, l_43, l_44, l_45, l_46, l_47, l_48, l_49, l_50, l_51, l_52, l_53, l_54, l_55, l_56, l_57, l_59, l_60, l_61, l_62, l_63, l_64, l_65, l_80, l_86, l_87, l_88, l_89, l_90, l_91, l_92, l_93, l_94, l_95, l_97, l_99, l_100, l_107, l_119, l_122, l_124, l_129, l_140, l_141, l_142, l_143, l_144, l_145, l_147, l_150, l_159, l_160, l_161, l_162, l_205, l_253, l_255, l_256, l_269, l_305, l_380, l_399, l_400, l_420, l_430, l_516, l_600, l_720, l_820, l_905, l_921, l_937, l_953, l_970, l_999, l_1000, l_1790, l_4096, l_9999, l_1000000]
  · generalize zt_kd T p = kd at *
    simp (disch := omega) only [c4, ↓reduceIte, ↓p_ld, ↓p_st, ↓p_nm, ↓p_nS, ↓p_jn, ↓p_call, ↓p_callv, ↓p_dv, ↓p_rem, h_ldE, h_stE, h_nmE, h_nSE, h_callE, h_callvE, h_dvE, h_remE, if_true, if_false, z_upS, z_upO, z_upK, nI_add, z_mul, z_sub, z_div, Nat.add_zero, Nat.mul_zero, Nat.zero_add, Nat.sub_zero, Nat.zero_mul, z_ltT, z_ltF, z_leT, z_leF, z_eqT, z_eqF, z_inT, z_clT, not_true_eq_false, not_false_eq_true, eq_self, true_or, or_true, z_m_lt, z_m_le, z_lt_m, z_le_m, z_eq_m, z_m_eq, z_rz0, z_rz1, z_m_add, z_of, r_0_0, r_0_1, r_0_3, r_0_4, r_0_5, r_0_6, r_0_7, r_0_8, r_0_9, r_0_10, r_1_0, r_1_1, r_1_2, r_1_3, r_1_4, r_1_5, r_1_6, r_1_7, r_1_8, r_2_0, r_2_1, r_2_2, r_2_3, r_2_4, r_2_5, r_2_6, r_2_7, r_11_0, r_11_1, r_11_2, r_11_3, r_11_4, r_11_5, r_11_6, r_19_0, r_21_0, r_23_0, r_25_0, r_27_0, r_61_0, r_117_0, r_117_1, r_117_2, r_117_3, r_117_4, r_117_5, r_117_6, r_117_7, r_126_0, r_126_1, r_126_2, r_126_3, r_126_4, r_132_0, r_132_1, r_135_0, r_135_1, r_135_2, r_135_3, r_135_4, r_135_5, r_142_0, r_144_0, r_144_1, r_144_2, r_145_0, r_145_1, r_145_2, r_145_3, r_145_4, r_145_5, r_145_6, r_154_0, r_154_1, r_155_0, ↓z_m1, l_0, l_1, l_2, l_3, l_4, l_5, l_6, l_7, l_8, l_9, l_10, l_11, l_12, l_13, l_14, l_15, l_16, l_17, l_18, l_19, l_20, l_21, l_22, l_23, l_24, l_25, l_26, l_27, l_28, l_29, l_30, l_31, l_32, l_33, l_34, l_35, l_36, l_37, l_38, l_39, l_40, l_41, l_42, l_43, l_44, l_45, l_46, l_47, l_48, l_49, l_50, l_51, l_52, l_53, l_54, l_55, l_56, l_57, l_59, l_60, l_61, l_62, l_63, l_64, l_65, l_80, l_86, l_87, l_88, l_89, l_90, l_91, l_92, l_93, l_94, l_95, l_97, l_99, l_100, l_107, l_119, l_122, l_124, l_129, l_140, l_141, l_142, l_143, l_144, l_145, l_147, l_150, l_159, l_160, l_161, l_162, l_205, l_253, l_255, l_256, l_269, l_305, l_380, l_399, l_400, l_420, l_430, l_516, l_600, l_720, l_820, l_905, l_921, l_937, l_953, l_970, l_999, l_1000, l_1790, l_4096, l_9999, l_1000000]
theorem c_nT {k p : Nat} {T : zt_T} {σ : q_Sto} (hC : zt_C σ T p) (hk : k < 5) (h : zt_cd k T p = 2) : f_X8_isNumber q_F 142 σ = some (nI 1, σ) := by
  obtain ⟨h1, h2⟩ := (zt_cd_n hk).mp h
  obtain ⟨hB, hp, c1, c2, c3, c4, -, -⟩ := hC
  obtain ⟨b1, b2⟩ := zt_at_b hp
  obtain ⟨b3, b4, b5⟩ := zt_nx_b hp
  have hL := hB.1
  rw [h1] at c4
  unfold f_X8_isNumber
  generalize zt_at T p = A at *
  generalize zt_nx T p = X at *
  simp (disch := omega) only [c4, c2, c3, ↓reduceIte, ↓p_ld, ↓p_st, ↓p_nm, ↓p_nS, ↓p_jn, ↓p_call, ↓p_callv, ↓p_dv, ↓p_rem, h_ldE, h_stE, h_nmE, h_nSE, h_callE, h_callvE, h_dvE, h_remE, if_true, if_false, z_upS, z_upO, z_upK, nI_add, z_mul, z_sub, z_div, Nat.add_zero, Nat.mul_zero, Nat.zero_add, Nat.sub_zero, Nat.zero_mul, z_ltT, z_ltF, z_leT, z_leF, z_eqT, z_eqF, z_inT, z_clT, not_true_eq_false, not_false_eq_true, eq_self, true_or, or_true, z_m_lt, z_m_le, z_lt_m, z_le_m, z_eq_m, z_m_eq, z_rz0, z_rz1, z_m_add, z_of, r_0_0, r_0_1, r_0_3, r_0_4, r_0_5, r_0_6, r_0_7, r_0_8, r_0_9, r_0_10, r_1_0, r_1_1, r_1_2, r_1_3, r_1_4, r_1_5, r_1_6, r_1_7, r_1_8, r_2_0, r_2_1, r_2_2, r_2_3, r_2_4, r_2_5, r_2_6, r_2_7, r_11_0, r_11_1, r_11_2, r_11_3, r_11_4, r_11_5, r_11_6, r_19_0, r_21_0, r_23_0, r_25_0, r_27_0, r_61_0, r_117_0, r_117_1, r_117_2, r_117_3, r_117_4, r_117_5, r_117_6, r_117_7, r_126_0, r_126_1, r_126_2, r_126_3, r_126_4, r_132_0, r_132_1, r_135_0, r_135_1, r_135_2, r_135_3, r_135_4, r_135_5, r_142_0, r_144_0, r_144_1, r_144_2, r_145_0, r_145_1, r_145_2, r_145_3, r_145_4, r_145_5, r_145_6, r_154_0, r_154_1, r_155_0, ↓z_m1, l_0, l_1, l_2, l_3, l_4, l_5, l_6, l_7, l_8, l_9, l_10, l_11, l_12, l_13, l_14, l_15, l_16, l_17, l_18, l_19, l_20, l_21, l_22, l_23, l_24, l_25, l_26, l_27, l_28, l_29, l_30, l_31, l_32, l_33, l_34, l_35, l_36, l_37, l_38, l_39, l_40, l_41, l_42, l_43, l_44, l_45, l_46, l_47, l_48, l_49, l_50, l_51, l_52, l_53, l_54, l_55, l_56, l_57, l_59, l_60, l_61, l_62, l_63, l_64, l_65, l_80, l_86, l_87, l_88, l_89, l_90, l_91, l_92, l_93, l_94, l_95, l_97, l_99, l_100, l_107, l_119, l_122, l_124, l_129, l_140, l_141, l_142, l_143, l_144, l_145, l_147, l_150, l_159, l_160, l_161, l_162, l_205, l_253, l_255, l_256, l_269, l_305, l_380, l_399, l_400, l_420, l_430, l_516, l_600, l_720, l_820, l_905, l_921, l_937, l_953, l_970, l_999, l_1000, l_1790, l_4096, l_9999, l_1000000]
theorem c_nF {k p : Nat} {T : zt_T} {σ : q_Sto} (hC : zt_C σ T p) (hk : k < 5) (h : ¬ zt_cd k T p = 2) : f_X8_isNumber q_F 142 σ = some (nI 0, σ) := by
  have h4k := zt_kd4 T p
  have hn := fun q => h ((zt_cd_n hk).mpr q)
  obtain ⟨hB, hp, c1, c2, c3, c4, -, -⟩ := hC
  obtain ⟨b1, b2⟩ := zt_at_b hp
  obtain ⟨b3, b4, b5⟩ := zt_nx_b hp
  have hL := hB.1
  unfold f_X8_isNumber
  by_cases q : zt_kd T p = 2
  · have q2 : ¬ zt_nx T p - zt_at T p < 5 := fun g => hn ⟨q, g⟩
    rw [q] at c4
    generalize zt_at T p = A at *
    generalize zt_nx T p = X at *
    simp (disch := omega) only [c4, c2, c3, ↓reduceIte, ↓p_ld, ↓p_st, ↓p_nm, ↓p_nS, ↓p_jn, ↓p_call, ↓p_callv, ↓p_dv, ↓p_rem, h_ldE, h_stE, h_nmE, h_nSE, h_callE, h_callvE, h_dvE, h_remE, if_true, if_false, z_upS, z_upO, z_upK, nI_add, z_mul, z_sub, z_div, Nat.add_zero, Nat.mul_zero, Nat.zero_add, Nat.sub_zero, Nat.zero_mul, z_ltT, z_ltF, z_leT, z_leF, z_eqT, z_eqF, z_inT, z_clT, not_true_eq_false, not_false_eq_true, eq_self, true_or, or_true, z_m_lt, z_m_le, z_lt_m, z_le_m, z_eq_m, z_m_eq, z_rz0, z_rz1, z_m_add, z_of, r_0_0, r_0_1, r_0_3, r_0_4, r_0_5, r_0_6, r_0_7, r_0_8, r_0_9, r_0_10, r_1_0, r_1_1, r_1_2, r_1_3, r_1_4, r_1_5, r_1_6, r_1_7, r_1_8, r_2_0, r_2_1, r_2_2, r_2_3, r_2_4, r_2_5, r_2_6, r_2_7, r_11_0, r_11_1, r_11_2, r_11_3, r_11_4, r_11_5, r_11_6, r_19_0, r_21_0, r_23_0, r_25_0, r_27_0, r_61_0, r_117_0, r_117_1, r_117_2, r_117_3, r_117_4, r_117_5, r_117_6, r_117_7, r_126_0, r_126_1, r_126_2, r_126_3, r_126_4, r_132_0, r_132_1, r_135_0, r_135_1, r_135_2, r_135_3, r_135_4, r_135_5, r_142_0, r_144_0, r_144_1, r_144_2, r_145_0, r_145_1, r_145_2, r_145_3, r_145_4, r_145_5, r_145_6, r_154_0, r_154_1, r_155_0, ↓z_m1, l_0, l_1, l_2, l_3, l_4, l_5, l_6, l_7, l_8, l_9, l_10, l_11, l_12, l_13, l_14, l_15, l_16, l_17, l_18, l_19, l_20, l_21, l_22, l_23, l_24, l_25, l_26, l_27, l_28, l_29, l_30, l_31, l_32, l_33, l_34, l_35, l_36, l_37, l_38, l_39, l_40, l_41, l_42, l_43, l_44, l_45, l_46, l_47, l_48, l_49, l_50, l_51, l_52, l_53, l_54, l_55, l_56, l_57, l_59, l_60, l_61, l_62, l_63, l_64, l_65, l_80, l_86, l_87, l_88, l_89, l_90, l_91, l_92, l_93, l_94, l_95, l_97, l_99, l_100, l_107, l_119, l_122, l_124, l_129, l_140, l_141, l_142, l_143, l_144, l_145, l_147, l_150, l_159, l_160, l_161, l_162, l_205, l_253, l_255, l_256, l_269, l_305, l_380, l_399, l_400, l_420, l_430, l_516, l_600, l_720, l_820, l_905, l_921, l_937, l_953, l_970, l_999, l_1000, l_1790, l_4096, l_9999, l_1000000]
  · generalize zt_kd T p = kd at *
    simp (disch := omega) only [c4, ↓reduceIte, ↓p_ld, ↓p_st, ↓p_nm, ↓p_nS, ↓p_jn, ↓p_call, ↓p_callv, ↓p_dv, ↓p_rem, h_ldE, h_stE, h_nmE, h_nSE, h_callE, h_callvE, h_dvE, h_remE, if_true, if_false, z_upS, z_upO, z_upK, nI_add, z_mul, z_sub, z_div, Nat.add_zero, Nat.mul_zero, Nat.zero_add, Nat.sub_zero, Nat.zero_mul, z_ltT, z_ltF, z_leT, z_leF, z_eqT, z_eqF, z_inT, z_clT, not_true_eq_false, not_false_eq_true, eq_self, true_or, or_true, z_m_lt, z_m_le, z_lt_m, z_le_m, z_eq_m, z_m_eq, z_rz0, z_rz1, z_m_add, z_of, r_0_0, r_0_1, r_0_3, r_0_4, r_0_5, r_0_6, r_0_7, r_0_8, r_0_9, r_0_10, r_1_0, r_1_1, r_1_2, r_1_3, r_1_4, r_1_5, r_1_6, r_1_7, r_1_8, r_2_0, r_2_1, r_2_2, r_2_3, r_2_4, r_2_5, r_2_6, r_2_7, r_11_0, r_11_1, r_11_2, r_11_3, r_11_4, r_11_5, r_11_6, r_19_0, r_21_0, r_23_0, r_25_0, r_27_0, r_61_0, r_117_0, r_117_1, r_117_2, r_117_3, r_117_4, r_117_5, r_117_6, r_117_7, r_126_0, r_126_1, r_126_2, r_126_3, r_126_4, r_132_0, r_132_1, r_135_0, r_135_1, r_135_2, r_135_3, r_135_4, r_135_5, r_142_0, r_144_0, r_144_1, r_144_2, r_145_0, r_145_1, r_145_2, r_145_3, r_145_4, r_145_5, r_145_6, r_154_0, r_154_1, r_155_0, ↓z_m1, l_0, l_1, l_2, l_3, l_4, l_5, l_6, l_7, l_8, l_9, l_10, l_11, l_12, l_13, l_14, l_15, l_16, l_17, l_18, l_19, l_20, l_21, l_22, l_23, l_24, l_25, l_26, l_27, l_28, l_29, l_30, l_31, l_32, l_33, l_34, l_35, l_36, l_37, l_38, l_39, l_40, l_41, l_42, l_43, l_44, l_45, l_46, l_47, l_48, l_49, l_50, l_51, l_52, l_53, l_54, l_55, l_56, l_57, l_59, l_60, l_61, l_62, l_63, l_64, l_65, l_80, l_86, l_87, l_88, l_89, l_90, l_91, l_92, l_93, l_94, l_95, l_97, l_99, l_100, l_107, l_119, l_122, l_124, l_129, l_140, l_141, l_142, l_143, l_144, l_145, l_147, l_150, l_159, l_160, l_161, l_162, l_205, l_253, l_255, l_256, l_269, l_305, l_380, l_399, l_400, l_420, l_430, l_516, l_600, l_720, l_820, l_905, l_921, l_937, l_953, l_970, l_999, l_1000, l_1790, l_4096, l_9999, l_1000000]
theorem c_nV {k p : Nat} {T : zt_T} {σ : q_Sto} (hC : zt_C σ T p) (hk : k < 5) (h : zt_cd k T p = 2) : σ 142 5 = nI (zt_va T p) := by
  obtain ⟨h1, h2⟩ := (zt_cd_n hk).mp h
  exact hC.2.2.2.2.2.2.2 h1 h2
theorem c_eT {k p : Nat} {T : zt_T} {σ : q_Sto} (hC : zt_C σ T p) (hk : k < 5) (h : zt_cd k T p = 0) : f_X8_isEnd q_F 142 σ = some (nI 1, σ) := by
  have c4 := hC.2.2.2.2.2.1
  rw [(zt_cd_0 hk).mp h] at c4
  unfold f_X8_isEnd
  simp (disch := omega) only [c4, ↓reduceIte, ↓p_ld, ↓p_st, ↓p_nm, ↓p_nS, ↓p_jn, ↓p_call, ↓p_callv, ↓p_dv, ↓p_rem, h_ldE, h_stE, h_nmE, h_nSE, h_callE, h_callvE, h_dvE, h_remE, if_true, if_false, z_upS, z_upO, z_upK, nI_add, z_mul, z_sub, z_div, Nat.add_zero, Nat.mul_zero, Nat.zero_add, Nat.sub_zero, Nat.zero_mul, z_ltT, z_ltF, z_leT, z_leF, z_eqT, z_eqF, z_inT, z_clT, not_true_eq_false, not_false_eq_true, eq_self, true_or, or_true, z_m_lt, z_m_le, z_lt_m, z_le_m, z_eq_m, z_m_eq, z_rz0, z_rz1, z_m_add, z_of, r_0_0, r_0_1, r_0_3, r_0_4, r_0_5, r_0_6, r_0_7, r_0_8, r_0_9, r_0_10, r_1_0, r_1_1, r_1_2, r_1_3, r_1_4, r_1_5, r_1_6, r_1_7, r_1_8, r_2_0, r_2_1, r_2_2, r_2_3, r_2_4, r_2_5, r_2_6, r_2_7, r_11_0, r_11_1, r_11_2, r_11_3, r_11_4, r_11_5, r_11_6, r_19_0, r_21_0, r_23_0, r_25_0, r_27_0, r_61_0, r_117_0, r_117_1, r_117_2, r_117_3, r_117_4, r_117_5, r_117_6, r_117_7, r_126_0, r_126_1, r_126_2, r_126_3, r_126_4, r_132_0, r_132_1, r_135_0, r_135_1, r_135_2, r_135_3, r_135_4, r_135_5, r_142_0, r_144_0, r_144_1, r_144_2, r_145_0, r_145_1, r_145_2, r_145_3, r_145_4, r_145_5, r_145_6, r_154_0, r_154_1, r_155_0, ↓z_m1, l_0, l_1, l_2, l_3, l_4, l_5, l_6, l_7, l_8, l_9, l_10, l_11, l_12, l_13, l_14, l_15, l_16, l_17, l_18, l_19, l_20, l_21, l_22, l_23, l_24, l_25, l_26, l_27, l_28, l_29, l_30, l_31, l_32, l_33, l_34, l_35, l_36, l_37, l_38, l_39, l_40, l_41, l_42, l_43, l_44, l_45, l_46, l_47, l_48, l_49, l_50, l_51, l_52, l_53, l_54, l_55, l_56, l_57, l_59, l_60, l_61, l_62, l_63, l_64, l_65, l_80, l_86, l_87, l_88, l_89, l_90, l_91, l_92, l_93, l_94, l_95, l_97, l_99, l_100, l_107, l_119, l_122, l_124, l_129, l_140, l_141, l_142, l_143, l_144, l_145, l_147, l_150, l_159, l_160, l_161, l_162, l_205, l_253, l_255, l_256, l_269, l_305, l_380, l_399, l_400, l_420, l_430, l_516, l_600, l_720, l_820, l_905, l_921, l_937, l_953, l_970, l_999, l_1000, l_1790, l_4096, l_9999, l_1000000]
theorem c_eF {k p : Nat} {T : zt_T} {σ : q_Sto} (hC : zt_C σ T p) (hk : k < 5) (h : ¬ zt_cd k T p = 0) : f_X8_isEnd q_F 142 σ = some (nI 0, σ) := by
  have c4 := hC.2.2.2.2.2.1
  have h4k := zt_kd4 T p
  have : zt_kd T p ≠ 0 := fun q => h ((zt_cd_0 hk).mpr q)
  unfold f_X8_isEnd
  generalize zt_kd T p = kd at *
  simp (disch := omega) only [c4, ↓reduceIte, ↓p_ld, ↓p_st, ↓p_nm, ↓p_nS, ↓p_jn, ↓p_call, ↓p_callv, ↓p_dv, ↓p_rem, h_ldE, h_stE, h_nmE, h_nSE, h_callE, h_callvE, h_dvE, h_remE, if_true, if_false, z_upS, z_upO, z_upK, nI_add, z_mul, z_sub, z_div, Nat.add_zero, Nat.mul_zero, Nat.zero_add, Nat.sub_zero, Nat.zero_mul, z_ltT, z_ltF, z_leT, z_leF, z_eqT, z_eqF, z_inT, z_clT, not_true_eq_false, not_false_eq_true, eq_self, true_or, or_true, z_m_lt, z_m_le, z_lt_m, z_le_m, z_eq_m, z_m_eq, z_rz0, z_rz1, z_m_add, z_of, r_0_0, r_0_1, r_0_3, r_0_4, r_0_5, r_0_6, r_0_7, r_0_8, r_0_9, r_0_10, r_1_0, r_1_1, r_1_2, r_1_3, r_1_4, r_1_5, r_1_6, r_1_7, r_1_8, r_2_0, r_2_1, r_2_2, r_2_3, r_2_4, r_2_5, r_2_6, r_2_7, r_11_0, r_11_1, r_11_2, r_11_3, r_11_4, r_11_5, r_11_6, r_19_0, r_21_0, r_23_0, r_25_0, r_27_0, r_61_0, r_117_0, r_117_1, r_117_2, r_117_3, r_117_4, r_117_5, r_117_6, r_117_7, r_126_0, r_126_1, r_126_2, r_126_3, r_126_4, r_132_0, r_132_1, r_135_0, r_135_1, r_135_2, r_135_3, r_135_4, r_135_5, r_142_0, r_144_0, r_144_1, r_144_2, r_145_0, r_145_1, r_145_2, r_145_3, r_145_4, r_145_5, r_145_6, r_154_0, r_154_1, r_155_0, ↓z_m1, l_0, l_1, l_2, l_3, l_4, l_5, l_6, l_7, l_8, l_9, l_10, l_11, l_12, l_13, l_14, l_15, l_16, l_17, l_18, l_19, l_20, l_21, l_22, l_23, l_24, l_25, l_26, l_27, l_28, l_29, l_30, l_31, l_32, l_33, l_34, l_35, l_36, l_37, l_38, l_39, l_40, l_41, l_42, l_43, l_44, l_45, l_46, l_47, l_48, l_49, l_50, l_51, l_52, l_53, l_54, l_55, l_56, l_57, l_59, l_60, l_61, l_62, l_63, l_64, l_65, l_80, l_86, l_87, l_88, l_89, l_90, l_91, l_92, l_93, l_94, l_95, l_97, l_99, l_100, l_107, l_119, l_122, l_124, l_129, l_140, l_141, l_142, l_143, l_144, l_145, l_147, l_150, l_159, l_160, l_161, l_162, l_205, l_253, l_255, l_256, l_269, l_305, l_380, l_399, l_400, l_420, l_430, l_516, l_600, l_720, l_820, l_905, l_921, l_937, l_953, l_970, l_999, l_1000, l_1790, l_4096, l_9999, l_1000000]
theorem c_nextC {p : Nat} {T : zt_T} {σ : q_Sto} (hC : zt_C σ T p) : ∃ σ', (∀ o, o ≠ 142 → σ' o = σ o) ∧ (∀ a, a ≠ 2 → a ≠ 3 → a ≠ 4 → a ≠ 5 → σ' 142 a = σ 142 a) ∧ zt_C σ' T (zt_nx T p) ∧ f_X8_next q_F 142 σ = some (nI 0, σ') :=
  c_next z_F402 (zt_nx_b hC.2.1).2.1 hC.1 hC.2.2.1 hC.2.2.2.1
theorem m_nextR {k p : Nat} {T : zt_T} {σ : q_Sto} (hR : zt_R σ T k p) : ∃ σ', (∀ o, o ≠ 157 → σ' o = σ o) ∧ (∀ a, a ≠ 17 → a ≠ 18 → a ≠ 19 → a ≠ 20 → σ' 157 a = σ 157 a) ∧ zt_R σ' T k (zt_nx T p) ∧ f_X12_next0 q_F 157 σ = some (nI 0, σ') :=
  m_next z_F402 hR.2.2.1 (zt_nx_b hR.2.1).2.1 hR.1 hR.2.2.2.1 hR.2.2.2.2.1 hR.2.2.2.2.2.1
theorem m_tok {k p : Nat} {T : zt_T} {σ : q_Sto} (hR : zt_R σ T k p) : σ 157 18 = nI (zt_cd k T p) := hR.2.2.2.2.2.2.1
theorem m_nV {k p : Nat} {T : zt_T} {σ : q_Sto} (hR : zt_R σ T k p) (h : zt_cd k T p = 2) : σ 157 20 = nI (zt_va T p) := hR.2.2.2.2.2.2.2.2 h
/-- a FAULT is told -/
theorem c_fail {n p f : Nat} {T : zt_T} {σ : q_Sto} (hC : zt_C σ T p) : ∃ σ', (∀ o, o ≠ 142 → σ' o = σ o) ∧ (∀ a, a ≠ 6 → a ≠ 7 → σ' 142 a = σ 142 a) ∧ σ' 142 6 = nI f ∧ σ' 142 7 = nI (zt_at T p) ∧ f_X8_fail n 142 (nI f) σ = some (nI 0, σ') := by
  have c3 := hC.2.2.2.2.1
  refine ⟨q_up (q_up σ 142 6 (nI f)) 142 7 (nI (zt_at T p)), fun o ho => by rw [z_upO ho, z_upO ho], fun a a1 a2 => by rw [z_upK a2, z_upK a1], by rw [z_upK (by omega)]; exact z_upS, z_upS, ?_⟩
  unfold f_X8_fail
  simp (disch := omega) only [c3, ↓reduceIte, ↓p_ld, ↓p_st, ↓p_nm, ↓p_nS, ↓p_jn, ↓p_call, ↓p_callv, ↓p_dv, ↓p_rem, h_ldE, h_stE, h_nmE, h_nSE, h_callE, h_callvE, h_dvE, h_remE, if_true, if_false, z_upS, z_upO, z_upK, nI_add, z_mul, z_sub, z_div, Nat.add_zero, Nat.mul_zero, Nat.zero_add, Nat.sub_zero, Nat.zero_mul, z_ltT, z_ltF, z_leT, z_leF, z_eqT, z_eqF, z_inT, z_clT, not_true_eq_false, not_false_eq_true, eq_self, true_or, or_true, z_m_lt, z_m_le, z_lt_m, z_le_m, z_eq_m, z_m_eq, z_rz0, z_rz1, z_m_add, z_of, r_0_0, r_0_1, r_0_3, r_0_4, r_0_5, r_0_6, r_0_7, r_0_8, r_0_9, r_0_10, r_1_0, r_1_1, r_1_2, r_1_3, r_1_4, r_1_5, r_1_6, r_1_7, r_1_8, r_2_0, r_2_1, r_2_2, r_2_3, r_2_4, r_2_5, r_2_6, r_2_7, r_11_0, r_11_1, r_11_2, r_11_3, r_11_4, r_11_5, r_11_6, r_19_0, r_21_0, r_23_0, r_25_0, r_27_0, r_61_0, r_117_0, r_117_1, r_117_2, r_117_3, r_117_4, r_117_5, r_117_6, r_117_7, r_126_0, r_126_1, r_126_2, r_126_3, r_126_4, r_132_0, r_132_1, r_135_0, r_135_1, r_135_2, r_135_3, r_135_4, r_135_5, r_142_0, r_144_0, r_144_1, r_144_2, r_145_0, r_145_1, r_145_2, r_145_3, r_145_4, r_145_5, r_145_6, r_154_0, r_154_1, r_155_0, ↓z_m1, l_0, l_1, l_2, l_3, l_4, l_5, l_6, l_7, l_8, l_9, l_10, l_11, l_12, l_13, l_14, l_15, l_16, l_17, l_18, l_19, l_20, l_21, l_22, l_23, l_24, l_25, l_26, l_27, l_28, l_29, l_30, l_31, l_32, l_33, l_34, l_35, l_36, l_37, l_38, l_39, l_40, l_41, l_42, l_43, l_44, l_45, l_46, l_47, l_48, l_49, l_50, l_51, l_52, l_53, l_54, l_55, l_56, l_57, l_59, l_60, l_61, l_62, l_63, l_64, l_65, l_80, l_86, l_87, l_88, l_89, l_90, l_91, l_92, l_93, l_94, l_95, l_97, l_99, l_100, l_107, l_119, l_122, l_124, l_129, l_140, l_141, l_142, l_143, l_144, l_145, l_147, l_150, l_159, l_160, l_161, l_162, l_205, l_253, l_255, l_256, l_269, l_305, l_380, l_399, l_400, l_420, l_430, l_516, l_600, l_720, l_820, l_905, l_921, l_937, l_953, l_970, l_999, l_1000, l_1790, l_4096, l_9999, l_1000000]
theorem m_bad {n k p f : Nat} {T : zt_T} {σ : q_Sto} (hR : zt_R σ T k p) : ∃ σ', (∀ o, o ≠ 157 → σ' o = σ o) ∧ (∀ a, a ≠ 21 → a ≠ 22 → σ' 157 a = σ 157 a) ∧ σ' 157 21 = nI f ∧ σ' 157 22 = nI (zt_at T p) ∧ f_X12_bad n 157 (nI f) σ = some (nI 0, σ') := by
  have c3 := hR.2.2.2.2.2.2.2.1
  refine ⟨q_up (q_up σ 157 21 (nI f)) 157 22 (nI (zt_at T p)), fun o ho => by rw [z_upO ho, z_upO ho], fun a a1 a2 => by rw [z_upK a2, z_upK a1], by rw [z_upK (by omega)]; exact z_upS, z_upS, ?_⟩
  unfold f_X12_bad
  simp (disch := omega) only [c3, ↓reduceIte, ↓p_ld, ↓p_st, ↓p_nm, ↓p_nS, ↓p_jn, ↓p_call, ↓p_callv, ↓p_dv, ↓p_rem, h_ldE, h_stE, h_nmE, h_nSE, h_callE, h_callvE, h_dvE, h_remE, if_true, if_false, z_upS, z_upO, z_upK, nI_add, z_mul, z_sub, z_div, Nat.add_zero, Nat.mul_zero, Nat.zero_add, Nat.sub_zero, Nat.zero_mul, z_ltT, z_ltF, z_leT, z_leF, z_eqT, z_eqF, z_inT, z_clT, not_true_eq_false, not_false_eq_true, eq_self, true_or, or_true, z_m_lt, z_m_le, z_lt_m, z_le_m, z_eq_m, z_m_eq, z_rz0, z_rz1, z_m_add, z_of, r_157_0, r_157_1, r_157_2, r_157_3, r_157_6, r_157_7, r_157_8, r_157_9, r_157_10, r_157_11, r_157_27, r_157_28, r_157_29, r_157_30, ↓z_m1, l_0, l_1, l_2, l_3, l_4, l_5, l_6, l_7, l_8, l_9, l_10, l_11, l_12, l_13, l_14, l_15, l_16, l_17, l_18, l_19, l_20, l_21, l_22, l_23, l_24, l_25, l_26, l_27, l_28, l_29, l_30, l_31, l_32, l_33, l_34, l_35, l_36, l_37, l_38, l_39, l_40, l_41, l_42, l_43, l_44, l_45, l_46, l_47, l_48, l_49, l_50, l_51, l_52, l_53, l_54, l_55, l_56, l_57, l_59, l_60, l_61, l_62, l_63, l_64, l_65, l_80, l_86, l_87, l_88, l_89, l_90, l_91, l_92, l_93, l_94, l_95, l_97, l_99, l_100, l_107, l_119, l_122, l_124, l_129, l_140, l_141, l_142, l_143, l_144, l_145, l_147, l_150, l_159, l_160, l_161, l_162, l_205, l_253, l_255, l_256, l_269, l_305, l_380, l_399, l_400, l_420, l_430, l_516, l_600, l_720, l_820, l_905, l_921, l_937, l_953, l_970, l_999, l_1000, l_1790, l_4096, l_9999, l_1000000]
