/-! the reference's rounds -/
theorem m_aRound_L {n s : Nat} {σc : q_Sto} {V : Nat → Int32} {B : Nat → Nat} {mu me : Nat} (hn : 402 ≤ n) (h : z_R σc V mu me) (h7 : V 7 = nI s) (hs : s < 4096) (hB : ∀ j, B j ≤ 5) (hB0 : ∀ j, B j ≤ me) :
    ∀ j i (σ : q_Sto), i ≤ mu → mu < j + i → σ 158 = z_VB V (z_rd (z_bt V mu me) (fun i => s.testBit i) B i).1 → ∃ σ', (∀ o, o ≠ 158 → o ≠ 166 → o ≠ 167 → σ' o = σ o) ∧ σ' 158 = z_VB V (z_rd (z_bt V mu me) (fun i => s.testBit i) B mu).1 ∧
      f_X12_aRound_L4 n 157 j (nI (if (z_rd (z_bt V mu me) (fun i => s.testBit i) B i).2 = true then 1 else 0)) (nI i) σ = some (nI (if (z_rd (z_bt V mu me) (fun i => s.testBit i) B mu).2 = true then 1 else 0), σ') := by
  have h86 := h.2.2.1
  have hmu := h.1
  have hme := h.2.1
  have hBO := z_bt_ok hmu hme h.2.2.2.2.1
  intro j
  induction j with
  | zero => intro i σ h1 h2; omega
  | succ j ih =>
    intro i σ h1 h2 hV
    by_cases hi : i = mu
    · subst hi
      refine ⟨σ, fun o _ _ _ => rfl, hV, ?_⟩
      by_cases hq : (z_rd (z_bt V i me) (fun i => s.testBit i) B i).2 = true
      · rw [if_pos hq]
        simp (disch := omega) only [f_X12_aRound_L4, hV, z_VBo, h86, ↓reduceIte, ↓p_ld, ↓p_st, ↓p_nm, ↓p_nS, ↓p_jn, ↓p_call, ↓p_callv, ↓p_dv, ↓p_rem, h_ldE, h_stE, h_nmE, h_nSE, h_callE, h_callvE, h_dvE, h_remE, if_true, if_false, z_upS, z_upO, z_upK, nI_add, z_mul, z_sub, z_div, Nat.add_zero, Nat.mul_zero, Nat.zero_add, Nat.sub_zero, Nat.zero_mul, z_ltT, z_ltF, z_leT, z_leF, z_eqT, z_eqF, z_inT, z_clT, not_true_eq_false, not_false_eq_true, eq_self, true_or, or_true, z_m_lt, z_m_le, z_lt_m, z_le_m, z_eq_m, z_m_eq, z_rz0, z_rz1, z_m_add, z_of, r_157_0, r_157_1, r_157_2, r_157_3, r_157_6, r_157_7, r_157_8, r_157_9, r_157_10, r_157_11, r_157_27, r_157_28, r_157_29, r_157_30, ↓z_m1, l_0, l_1, l_2, l_3, l_4, l_5, l_6, l_7, l_8, l_9, l_10, l_11, l_12, l_13, l_14, l_15, l_16, l_17, l_18, l_19, l_20, l_21, l_22, l_23, l_24, l_25, l_26, l_27, l_28, l_29, l_30, l_31, l_32, l_33, l_34, l_35, l_36, l_37, l_38, l_39, l_40, l_41, l_42, l_43, l_44, l_45, l_46, l_47, l_48, l_49, l_50, l_51, l_52, l_53, l_54, l_55, l_56, l_57, l_59, l_60, l_61, l_62, l_63, l_64, l_65, l_80, l_86, l_87, l_88, l_89, l_90, l_91, l_92, l_93, l_94, l_95, l_97, l_99, l_100, l_107, l_119, l_122, l_124, l_129, l_140, l_141, l_142, l_143, l_144, l_145, l_147, l_150, l_159, l_160, l_161, l_162, l_205, l_253, l_255, l_256, l_269, l_305, l_380, l_399, l_400, l_420, l_430, l_516, l_600, l_720, l_820, l_905, l_921, l_937, l_953, l_970, l_999, l_1000, l_1790, l_4096, l_9999, l_1000000]
      · rw [if_neg hq]
        simp (disch := omega) only [f_X12_aRound_L4, hV, z_VBo, h86, ↓reduceIte, ↓p_ld, ↓p_st, ↓p_nm, ↓p_nS, ↓p_jn, ↓p_call, ↓p_callv, ↓p_dv, ↓p_rem, h_ldE, h_stE, h_nmE, h_nSE, h_callE, h_callvE, h_dvE, h_remE, if_true, if_false, z_upS, z_upO, z_upK, nI_add, z_mul, z_sub, z_div, Nat.add_zero, Nat.mul_zero, Nat.zero_add, Nat.sub_zero, Nat.zero_mul, z_ltT, z_ltF, z_leT, z_leF, z_eqT, z_eqF, z_inT, z_clT, not_true_eq_false, not_false_eq_true, eq_self, true_or, or_true, z_m_lt, z_m_le, z_lt_m, z_le_m, z_eq_m, z_m_eq, z_rz0, z_rz1, z_m_add, z_of, r_157_0, r_157_1, r_157_2, r_157_3, r_157_6, r_157_7, r_157_8, r_157_9, r_157_10, r_157_11, r_157_27, r_157_28, r_157_29, r_157_30, ↓z_m1, l_0, l_1, l_2, l_3, l_4, l_5, l_6, l_7, l_8, l_9, l_10, l_11, l_12, l_13, l_14, l_15, l_16, l_17, l_18, l_19, l_20, l_21, l_22, l_23, l_24, l_25, l_26, l_27, l_28, l_29, l_30, l_31, l_32, l_33, l_34, l_35, l_36, l_37, l_38, l_39, l_40, l_41, l_42, l_43, l_44, l_45, l_46, l_47, l_48, l_49, l_50, l_51, l_52, l_53, l_54, l_55, l_56, l_57, l_59, l_60, l_61, l_62, l_63, l_64, l_65, l_80, l_86, l_87, l_88, l_89, l_90, l_91, l_92, l_93, l_94, l_95, l_97, l_99, l_100, l_107, l_119, l_122, l_124, l_129, l_140, l_141, l_142, l_143, l_144, l_145, l_147, l_150, l_159, l_160, l_161, l_162, l_205, l_253, l_255, l_256, l_269, l_305, l_380, l_399, l_400, l_420, l_430, l_516, l_600, l_720, l_820, l_905, l_921, l_937, l_953, l_970, l_999, l_1000, l_1790, l_4096, l_9999, l_1000000]
    · have e : z_rd (z_bt V mu me) (fun i => s.testBit i) B (i+1) = if s.testBit i = true ∨ (z_rd (z_bt V mu me) (fun i => s.testBit i) B i).1 i ≠ 0 then z_rd (z_bt V mu me) (fun i => s.testBit i) B i else (z_upB (z_rd (z_bt V mu me) (fun i => s.testBit i) B i).1 i (z_pick (z_bt V mu me) (z_rd (z_bt V mu me) (fun i => s.testBit i) B i).1 i), (z_rd (z_bt V mu me) (fun i => s.testBit i) B i).2 || decide (z_pick (z_bt V mu me) (z_rd (z_bt V mu me) (fun i => s.testBit i) B i).1 i ≠ 0)) := rfl
      have hle := z_rd_le hBO (out := fun i => s.testBit i) hB i
      have ih := ih (i+1)
      rw [e] at ih
      generalize z_rd (z_bt V mu me) (fun i => s.testBit i) B i = P at *
      obtain ⟨C, ch⟩ := P
      have hle : ∀ j, C j ≤ 5 := hle
      have hV : σ 158 = z_VB V C := hV
      have ebi : z_VB V C (8+i) = z_vw (C i) := z_VBi (by omega)
      have eL := m_isLame (n := n) (m := i) hV (s := s) (by rw [z_VBo (by omega)]; exact h7) (by omega) (by omega)
      by_cases ho : s.testBit i = true
      · rw [if_pos (Or.inl ho)] at ih
        rw [if_pos ho] at eL
        obtain ⟨σ', g1, g2, g3⟩ := ih σ (by omega) (by omega) hV
        refine ⟨σ', g1, g2, ?_⟩
        rw [← g3, f_X12_aRound_L4]
        simp (disch := omega) only [hV, z_VBo, h86, eL, ↓reduceIte, ↓p_ld, ↓p_st, ↓p_nm, ↓p_nS, ↓p_jn, ↓p_call, ↓p_callv, ↓p_dv, ↓p_rem, h_ldE, h_stE, h_nmE, h_nSE, h_callE, h_callvE, h_dvE, h_remE, if_true, if_false, z_upS, z_upO, z_upK, nI_add, z_mul, z_sub, z_div, Nat.add_zero, Nat.mul_zero, Nat.zero_add, Nat.sub_zero, Nat.zero_mul, z_ltT, z_ltF, z_leT, z_leF, z_eqT, z_eqF, z_inT, z_clT, not_true_eq_false, not_false_eq_true, eq_self, true_or, or_true, z_m_lt, z_m_le, z_lt_m, z_le_m, z_eq_m, z_m_eq, z_rz0, z_rz1, z_m_add, z_of, r_157_0, r_157_1, r_157_2, r_157_3, r_157_6, r_157_7, r_157_8, r_157_9, r_157_10, r_157_11, r_157_27, r_157_28, r_157_29, r_157_30, ↓z_m1, l_0, l_1, l_2, l_3, l_4, l_5, l_6, l_7, l_8, l_9, l_10, l_11, l_12, l_13, l_14, l_15, l_16, l_17, l_18, l_19, l_20, l_21, l_22, l_23, l_24, l_25, l_26, l_27, l_28, l_29, l_30, l_31, l_32, l_33, l_34, l_35, l_36, l_37, l_38, l_39, l_40, l_41, l_42, l_43, l_44, l_45, l_46, l_47, l_48, l_49, l_50, l_51, l_52, l_53, l_54, l_55, l_56, l_57, l_59, l_60, l_61, l_62, l_63, l_64, l_65, l_80, l_86, l_87, l_88, l_89, l_90, l_91, l_92, l_93, l_94, l_95, l_97, l_99, l_100, l_107, l_119, l_122, l_124, l_129, l_140, l_141, l_142, l_143, l_144, l_145, l_147, l_150, l_159, l_160, l_161, l_162, l_205, l_253, l_255, l_256, l_269, l_305, l_380, l_399, l_400, l_420, l_430, l_516, l_600, l_720, l_820, l_905, l_921, l_937, l_953, l_970, l_999, l_1000, l_1790, l_4096, l_9999, l_1000000]
      · rw [if_neg ho] at eL
        by_cases hc : C i = 0
        · rw [if_neg (by rintro (q | q); exact ho q; exact q hc)] at ih
          obtain ⟨σ1, f1, f2⟩ := m_leansTo hn h hle (show i < mu by omega) hV
          have ebi : z_VB V C (8+i) = z_m := by rw [z_VBi (by omega), hc]; rfl
          have hp := z_pick_le hBO C i
          have hp5 : z_pick (z_bt V mu me) C i ≤ 5 := Nat.le_trans hp hme
          have hV2 := z_VB_up (v := z_pick (z_bt V mu me) C i) (σ := σ1) (by rw [f1 158 (by omega) (by omega), hV]) (show i < 12 by omega)
          obtain ⟨σ', g1, g2, g3⟩ := ih (q_up σ1 158 (8+i) (z_vw (z_pick (z_bt V mu me) C i))) (by omega) (by omega) hV2
          refine ⟨σ', fun o o1 o2 o3 => by rw [g1 o o1 o2 o3, z_upO o1, f1 o o2 o3], g2, ?_⟩
          rw [← g3, f_X12_aRound_L4]
          have e158 : σ1 158 = z_VB V C := by rw [f1 158 (by omega) (by omega), hV]
          have hf0 : (if false = true then 1 else 0) = 0 := rfl
          have hf1 : (if true = true then 1 else 0) = 1 := rfl
          generalize z_pick (z_bt V mu me) C i = w at *
          cases w with
          | zero =>
            have e0 : z_vw 0 = z_m := rfl
            have ed : ∀ b : Bool, (b || decide (0 ≠ 0)) = b := fun b => by cases b <;> rfl
            cases ch with
            | false =>
              simp (disch := omega) only [hV, z_VBo, h86, eL, ebi, f2, e0, ed, hf0, ↓reduceIte, ↓p_ld, ↓p_st, ↓p_nm, ↓p_nS, ↓p_jn, ↓p_call, ↓p_callv, ↓p_dv, ↓p_rem, h_ldE, h_stE, h_nmE, h_nSE, h_callE, h_callvE, h_dvE, h_remE, if_true, if_false, z_upS, z_upO, z_upK, nI_add, z_mul, z_sub, z_div, Nat.add_zero, Nat.mul_zero, Nat.zero_add, Nat.sub_zero, Nat.zero_mul, z_ltT, z_ltF, z_leT, z_leF, z_eqT, z_eqF, z_inT, z_clT, not_true_eq_false, not_false_eq_true, eq_self, true_or, or_true, z_m_lt, z_m_le, z_lt_m, z_le_m, z_eq_m, z_m_eq, z_rz0, z_rz1, z_m_add, z_of, r_157_0, r_157_1, r_157_2, r_157_3, r_157_6, r_157_7, r_157_8, r_157_9, r_157_10, r_157_11, r_157_27, r_157_28, r_157_29, r_157_30, ↓z_m1, l_0, l_1, l_2, l_3, l_4, l_5, l_6, l_7, l_8, l_9, l_10, l_11, l_12, l_13, l_14, l_15, l_16, l_17, l_18, l_19, l_20, l_21, l_22, l_23, l_24, l_25, l_26, l_27, l_28, l_29, l_30, l_31, l_32, l_33, l_34, l_35, l_36, l_37, l_38, l_39, l_40, l_41, l_42, l_43, l_44, l_45, l_46, l_47, l_48, l_49, l_50, l_51, l_52, l_53, l_54, l_55, l_56, l_57, l_59, l_60, l_61, l_62, l_63, l_64, l_65, l_80, l_86, l_87, l_88, l_89, l_90, l_91, l_92, l_93, l_94, l_95, l_97, l_99, l_100, l_107, l_119, l_122, l_124, l_129, l_140, l_141, l_142, l_143, l_144, l_145, l_147, l_150, l_159, l_160, l_161, l_162, l_205, l_253, l_255, l_256, l_269, l_305, l_380, l_399, l_400, l_420, l_430, l_516, l_600, l_720, l_820, l_905, l_921, l_937, l_953, l_970, l_999, l_1000, l_1790, l_4096, l_9999, l_1000000]
            | true =>
              simp (disch := omega) only [hV, z_VBo, h86, eL, ebi, f2, e0, ed, hf1, ↓reduceIte, ↓p_ld, ↓p_st, ↓p_nm, ↓p_nS, ↓p_jn, ↓p_call, ↓p_callv, ↓p_dv, ↓p_rem, h_ldE, h_stE, h_nmE, h_nSE, h_callE, h_callvE, h_dvE, h_remE, if_true, if_false, z_upS, z_upO, z_upK, nI_add, z_mul, z_sub, z_div, Nat.add_zero, Nat.mul_zero, Nat.zero_add, Nat.sub_zero, Nat.zero_mul, z_ltT, z_ltF, z_leT, z_leF, z_eqT, z_eqF, z_inT, z_clT, not_true_eq_false, not_false_eq_true, eq_self, true_or, or_true, z_m_lt, z_m_le, z_lt_m, z_le_m, z_eq_m, z_m_eq, z_rz0, z_rz1, z_m_add, z_of, r_157_0, r_157_1, r_157_2, r_157_3, r_157_6, r_157_7, r_157_8, r_157_9, r_157_10, r_157_11, r_157_27, r_157_28, r_157_29, r_157_30, ↓z_m1, l_0, l_1, l_2, l_3, l_4, l_5, l_6, l_7, l_8, l_9, l_10, l_11, l_12, l_13, l_14, l_15, l_16, l_17, l_18, l_19, l_20, l_21, l_22, l_23, l_24, l_25, l_26, l_27, l_28, l_29, l_30, l_31, l_32, l_33, l_34, l_35, l_36, l_37, l_38, l_39, l_40, l_41, l_42, l_43, l_44, l_45, l_46, l_47, l_48, l_49, l_50, l_51, l_52, l_53, l_54, l_55, l_56, l_57, l_59, l_60, l_61, l_62, l_63, l_64, l_65, l_80, l_86, l_87, l_88, l_89, l_90, l_91, l_92, l_93, l_94, l_95, l_97, l_99, l_100, l_107, l_119, l_122, l_124, l_129, l_140, l_141, l_142, l_143, l_144, l_145, l_147, l_150, l_159, l_160, l_161, l_162, l_205, l_253, l_255, l_256, l_269, l_305, l_380, l_399, l_400, l_420, l_430, l_516, l_600, l_720, l_820, l_905, l_921, l_937, l_953, l_970, l_999, l_1000, l_1790, l_4096, l_9999, l_1000000]
          | succ w =>
            have e0 : z_vw (w+1) = nI w := rfl
            have ed : ∀ b : Bool, (b || decide (w + 1 ≠ 0)) = true := fun b => by cases b <;> simp
            cases ch with
            | false =>
              simp (disch := omega) only [hV, z_VBo, h86, eL, ebi, f2, e0, ed, hf0, hf1, ↓reduceIte, ↓p_ld, ↓p_st, ↓p_nm, ↓p_nS, ↓p_jn, ↓p_call, ↓p_callv, ↓p_dv, ↓p_rem, h_ldE, h_stE, h_nmE, h_nSE, h_callE, h_callvE, h_dvE, h_remE, if_true, if_false, z_upS, z_upO, z_upK, nI_add, z_mul, z_sub, z_div, Nat.add_zero, Nat.mul_zero, Nat.zero_add, Nat.sub_zero, Nat.zero_mul, z_ltT, z_ltF, z_leT, z_leF, z_eqT, z_eqF, z_inT, z_clT, not_true_eq_false, not_false_eq_true, eq_self, true_or, or_true, z_m_lt, z_m_le, z_lt_m, z_le_m, z_eq_m, z_m_eq, z_rz0, z_rz1, z_m_add, z_of, r_157_0, r_157_1, r_157_2, r_157_3, r_157_6, r_157_7, r_157_8, r_157_9, r_157_10, r_157_11, r_157_27, r_157_28, r_157_29, r_157_30, ↓z_m1, l_0, l_1, l_2, l_3, l_4, l_5, l_6, l_7, l_8, l_9, l_10, l_11, l_12, l_13, l_14, l_15, l_16, l_17, l_18, l_19, l_20, l_21, l_22, l_23, l_24, l_25, l_26, l_27, l_28, l_29, l_30, l_31, l_32, l_33, l_34, l_35, l_36, l_37, l_38, l_39, l_40, l_41, l_42, l_43, l_44, l_45, l_46, l_47, l_48, l_49, l_50, l_51, l_52, l_53, l_54, l_55, l_56, l_57, l_59, l_60, l_61, l_62, l_63, l_64, l_65, l_80, l_86, l_87, l_88, l_89, l_90, l_91, l_92, l_93, l_94, l_95, l_97, l_99, l_100, l_107, l_119, l_122, l_124, l_129, l_140, l_141, l_142, l_143, l_144, l_145, l_147, l_150, l_159, l_160, l_161, l_162, l_205, l_253, l_255, l_256, l_269, l_305, l_380, l_399, l_400, l_420, l_430, l_516, l_600, l_720, l_820, l_905, l_921, l_937, l_953, l_970, l_999, l_1000, l_1790, l_4096, l_9999, l_1000000]
            | true =>
              simp (disch := omega) only [hV, z_VBo, h86, eL, ebi, f2, e0, ed, hf1, ↓reduceIte, ↓p_ld, ↓p_st, ↓p_nm, ↓p_nS, ↓p_jn, ↓p_call, ↓p_callv, ↓p_dv, ↓p_rem, h_ldE, h_stE, h_nmE, h_nSE, h_callE, h_callvE, h_dvE, h_remE, if_true, if_false, z_upS, z_upO, z_upK, nI_add, z_mul, z_sub, z_div, Nat.add_zero, Nat.mul_zero, Nat.zero_add, Nat.sub_zero, Nat.zero_mul, z_ltT, z_ltF, z_leT, z_leF, z_eqT, z_eqF, z_inT, z_clT, not_true_eq_false, not_false_eq_true, eq_self, true_or, or_true, z_m_lt, z_m_le, z_lt_m, z_le_m, z_eq_m, z_m_eq, z_rz0, z_rz1, z_m_add, z_of, r_157_0, r_157_1, r_157_2, r_157_3, r_157_6, r_157_7, r_157_8, r_157_9, r_157_10, r_157_11, r_157_27, r_157_28, r_157_29, r_157_30, ↓z_m1, l_0, l_1, l_2, l_3, l_4, l_5, l_6, l_7, l_8, l_9, l_10, l_11, l_12, l_13, l_14, l_15, l_16, l_17, l_18, l_19, l_20, l_21, l_22, l_23, l_24, l_25, l_26, l_27, l_28, l_29, l_30, l_31, l_32, l_33, l_34, l_35, l_36, l_37, l_38, l_39, l_40, l_41, l_42, l_43, l_44, l_45, l_46, l_47, l_48, l_49, l_50, l_51, l_52, l_53, l_54, l_55, l_56, l_57, l_59, l_60, l_61, l_62, l_63, l_64, l_65, l_80, l_86, l_87, l_88, l_89, l_90, l_91, l_92, l_93, l_94, l_95, l_97, l_99, l_100, l_107, l_119, l_122, l_124, l_129, l_140, l_141, l_142, l_143, l_144, l_145, l_147, l_150, l_159, l_160, l_161, l_162, l_205, l_253, l_255, l_256, l_269, l_305, l_380, l_399, l_400, l_420, l_430, l_516, l_600, l_720, l_820, l_905, l_921, l_937, l_953, l_970, l_999, l_1000, l_1790, l_4096, l_9999, l_1000000]
        · rw [if_pos (Or.inr hc)] at ih
          obtain ⟨σ', g1, g2, g3⟩ := ih σ (by omega) (by omega) hV
          refine ⟨σ', g1, g2, ?_⟩
          rw [← g3, f_X12_aRound_L4]
          have hc5 := hle i
          generalize C i = w at *
          cases w with
          | zero => exact absurd rfl hc
          | succ w =>
            have e0 : z_vw (w+1) = nI w := rfl
            simp (disch := omega) only [hV, z_VBo, h86, eL, ebi, e0, ↓reduceIte, ↓p_ld, ↓p_st, ↓p_nm, ↓p_nS, ↓p_jn, ↓p_call, ↓p_callv, ↓p_dv, ↓p_rem, h_ldE, h_stE, h_nmE, h_nSE, h_callE, h_callvE, h_dvE, h_remE, if_true, if_false, z_upS, z_upO, z_upK, nI_add, z_mul, z_sub, z_div, Nat.add_zero, Nat.mul_zero, Nat.zero_add, Nat.sub_zero, Nat.zero_mul, z_ltT, z_ltF, z_leT, z_leF, z_eqT, z_eqF, z_inT, z_clT, not_true_eq_false, not_false_eq_true, eq_self, true_or, or_true, z_m_lt, z_m_le, z_lt_m, z_le_m, z_eq_m, z_m_eq, z_rz0, z_rz1, z_m_add, z_of, r_157_0, r_157_1, r_157_2, r_157_3, r_157_6, r_157_7, r_157_8, r_157_9, r_157_10, r_157_11, r_157_27, r_157_28, r_157_29, r_157_30, ↓z_m1, l_0, l_1, l_2, l_3, l_4, l_5, l_6, l_7, l_8, l_9, l_10, l_11, l_12, l_13, l_14, l_15, l_16, l_17, l_18, l_19, l_20, l_21, l_22, l_23, l_24, l_25, l_26, l_27, l_28, l_29, l_30, l_31, l_32, l_33, l_34, l_35, l_36, l_37, l_38, l_39, l_40, l_41, l_42, l_43, l_44, l_45, l_46, l_47, l_48, l_49, l_50, l_51, l_52, l_53, l_54, l_55, l_56, l_57, l_59, l_60, l_61, l_62, l_63, l_64, l_65, l_80, l_86, l_87, l_88, l_89, l_90, l_91, l_92, l_93, l_94, l_95, l_97, l_99, l_100, l_107, l_119, l_122, l_124, l_129, l_140, l_141, l_142, l_143, l_144, l_145, l_147, l_150, l_159, l_160, l_161, l_162, l_205, l_253, l_255, l_256, l_269, l_305, l_380, l_399, l_400, l_420, l_430, l_516, l_600, l_720, l_820, l_905, l_921, l_937, l_953, l_970, l_999, l_1000, l_1790, l_4096, l_9999, l_1000000]
theorem z_VB_e {V : Nat → Int32} {B : Nat → Nat} (h : ∀ j, j < 12 → V (8+j) = z_vw (B j)) : V = z_VB V B := by
  funext a
  show _ = (if _ then _ else _)
  by_cases h2 : 8 ≤ a ∧ a < 20
  · rw [if_pos h2, ← h (a - 8) (by omega), show 8 + (a - 8) = a by omega]
  · rw [if_neg h2]
theorem m_aRound {n s : Nat} {σ σc : q_Sto} {V : Nat → Int32} {B : Nat → Nat} {mu me : Nat} (hn : 402 ≤ n) (h : z_R σc V mu me) (h7 : V 7 = nI s) (hs : s < 4096) (hB : ∀ j, B j ≤ me) (hV : σ 158 = z_VB V B) :
    ∃ σ', (∀ o, o ≠ 158 → o ≠ 166 → o ≠ 167 → σ' o = σ o) ∧ σ' 158 = z_VB V (z_rd (z_bt V mu me) (fun i => s.testBit i) B mu).1 ∧
      f_X12_aRound n 157 σ = some (nI (if (z_rd (z_bt V mu me) (fun i => s.testBit i) B mu).2 = true then 1 else 0), σ') :=
  m_aRound_L hn h h7 hs (fun j => Nat.le_trans (hB j) h.2.1) hB n 0 σ (by omega) (by have := h.1; omega) hV
theorem z_rd_me {p : z_Bt} (h : z_BO p) {out : Nat → Bool} {B : Nat → Nat} (hB : ∀ j, B j ≤ p.2.2.2.2) : ∀ m j, (z_rd p out B m).1 j ≤ p.2.2.2.2
  | 0, j => hB j
  | m + 1, j => by
    have ih := z_rd_me h (out := out) hB m
    unfold z_rd
    split
    · exact ih j
    · show (if j = m then _ else _) ≤ _
      have := z_pick_le h (z_rd p out B m).1 m
      split
      · omega
      · exact ih j
theorem z_rs_me {p : z_Bt} (h : z_BO p) {out : Nat → Bool} : ∀ f B, (∀ j, B j ≤ p.2.2.2.2) → (∀ j, (z_rs p out f B).1 j ≤ p.2.2.2.2) ∧ (z_rs p out f B).2 ≤ f
  | 0, B, hB => ⟨hB, Nat.le_refl _⟩
  | f + 1, B, hB => by
    have hr := z_rd_me h (out := out) hB p.2.2.2.1
    have ih := z_rs_me h (out := out) f _ hr
    unfold z_rs
    split
    · exact ⟨ih.1, by have := ih.2; show _ + 1 ≤ _; omega⟩
    · exact ⟨hr, Nat.zero_le _⟩
theorem m_stand_L26 {n s : Nat} {σc : q_Sto} {V : Nat → Int32} {mu me : Nat} {k39 : Int32 → q_Sto → Option (Int32 × q_Sto)} (hn : 402 ≤ n) (h : z_R σc V mu me) (h7 : V 7 = nI s) (hs : s < 4096) :
    ∀ f j r B (σ : q_Sto), z_cnt (z_wt (fun i => s.testBit i) B mu) 12 < f → f ≤ j → (∀ j, B j ≤ me) → σ 158 = z_VB V B → ∃ σ', (∀ o, o ≠ 158 → o ≠ 166 → o ≠ 167 → σ' o = σ o) ∧ σ' 158 = z_VB V (z_rs (z_bt V mu me) (fun i => s.testBit i) f B).1 ∧
      f_X12_stand_L26 n 157 k39 j (nI r) σ = k39 (nI (r + (z_rs (z_bt V mu me) (fun i => s.testBit i) f B).2)) σ' := by
  have hmu := h.1
  have hme := h.2.1
  have hBO := z_bt_ok hmu hme h.2.2.2.2.1
  intro f
  induction f with
  | zero => intro j r B σ h1; omega
  | succ f ih =>
    intro j r B σ h1 h2 hB hV
    cases j with
    | zero => omega
    | succ j =>
      obtain ⟨σ1, f1, f2, f3⟩ := m_aRound hn h h7 hs hB hV
      by_cases hq : (z_rd (z_bt V mu me) (fun i => s.testBit i) B mu).2 = true
      · have hless := z_rd_less (p := z_bt V mu me) (out := fun i => s.testBit i) (B := B) hmu hq
        have hless : z_cnt (z_wt (fun i => s.testBit i) (z_rd (z_bt V mu me) (fun i => s.testBit i) B mu).1 mu) 12 < z_cnt (z_wt (fun i => s.testBit i) B mu) 12 := hless
        obtain ⟨σ', g1, g2, g3⟩ := ih j (r+1) _ σ1 (by omega) (by omega) (z_rd_me hBO hB mu) f2
        have e : z_rs (z_bt V mu me) (fun i => s.testBit i) (f+1) B = ((z_rs (z_bt V mu me) (fun i => s.testBit i) f (z_rd (z_bt V mu me) (fun i => s.testBit i) B mu).1).1, (z_rs (z_bt V mu me) (fun i => s.testBit i) f (z_rd (z_bt V mu me) (fun i => s.testBit i) B mu).1).2 + 1) := if_pos hq
        rw [e]
        refine ⟨σ', fun o o1 o2 o3 => by rw [g1 o o1 o2 o3, f1 o o1 o2 o3], g2, ?_⟩
        rw [if_pos hq] at f3
        show _ = k39 (nI (r + (_ + 1))) σ'
        rw [show ∀ a, r + (a + 1) = r + 1 + a from fun a => by omega, ← g3, f_X12_stand_L26]
        simp (disch := omega) only [f3, ↓reduceIte, ↓p_ld, ↓p_st, ↓p_nm, ↓p_nS, ↓p_jn, ↓p_call, ↓p_callv, ↓p_dv, ↓p_rem, h_ldE, h_stE, h_nmE, h_nSE, h_callE, h_callvE, h_dvE, h_remE, if_true, if_false, z_upS, z_upO, z_upK, nI_add, z_mul, z_sub, z_div, Nat.add_zero, Nat.mul_zero, Nat.zero_add, Nat.sub_zero, Nat.zero_mul, z_ltT, z_ltF, z_leT, z_leF, z_eqT, z_eqF, z_inT, z_clT, not_true_eq_false, not_false_eq_true, eq_self, true_or, or_true, z_m_lt, z_m_le, z_lt_m, z_le_m, z_eq_m, z_m_eq, z_rz0, z_rz1, z_m_add, z_of, r_157_0, r_157_1, r_157_2, r_157_3, r_157_6, r_157_7, r_157_8, r_157_9, r_157_10, r_157_11, r_157_27, r_157_28, r_157_29, r_157_30, ↓z_m1, l_0, l_1, l_2, l_3, l_4, l_5, l_6, l_7, l_8, l_9, l_10, l_11, l_12, l_13, l_14, l_15, l_16, l_17, l_18, l_19, l_20, l_21, l_22, l_23, l_24, l_25, l_26, l_27, l_28, l_29, l_30, l_31, l_32, l_33, l_34, l_35, l_36, l_37, l_38, l_39, l_40, l_41, l_42, l_43, l_44, l_45, l_46, l_47, l_48, l_49, l_50, l_51, l_52, l_53, l_54, l_55, l_56, l_57, l_59, l_60, l_61, l_62, l_63, l_64, l_65, l_80, l_86, l_87, l_88, l_89, l_90, l_91, l_92, l_93, l_94, l_95, l_97, l_99, l_100, l_107, l_119, l_122, l_124, l_129, l_140, l_141, l_142, l_143, l_144, l_145, l_147, l_150, l_159, l_160, l_161, l_162, l_205, l_253, l_255, l_256, l_269, l_305, l_380, l_399, l_400, l_420, l_430, l_516, l_600, l_720, l_820, l_905, l_921, l_937, l_953, l_970, l_999, l_1000, l_1790, l_4096, l_9999, l_1000000]
      · have e : z_rs (z_bt V mu me) (fun i => s.testBit i) (f+1) B = ((z_rd (z_bt V mu me) (fun i => s.testBit i) B mu).1, 0) := if_neg hq
        rw [e]
        refine ⟨σ1, f1, f2, ?_⟩
        rw [if_neg hq] at f3
        show _ = k39 (nI (r + 0)) σ1
        rw [f_X12_stand_L26]
        simp (disch := omega) only [f3, ↓reduceIte, ↓p_ld, ↓p_st, ↓p_nm, ↓p_nS, ↓p_jn, ↓p_call, ↓p_callv, ↓p_dv, ↓p_rem, h_ldE, h_stE, h_nmE, h_nSE, h_callE, h_callvE, h_dvE, h_remE, if_true, if_false, z_upS, z_upO, z_upK, nI_add, z_mul, z_sub, z_div, Nat.add_zero, Nat.mul_zero, Nat.zero_add, Nat.sub_zero, Nat.zero_mul, z_ltT, z_ltF, z_leT, z_leF, z_eqT, z_eqF, z_inT, z_clT, not_true_eq_false, not_false_eq_true, eq_self, true_or, or_true, z_m_lt, z_m_le, z_lt_m, z_le_m, z_eq_m, z_m_eq, z_rz0, z_rz1, z_m_add, z_of, r_157_0, r_157_1, r_157_2, r_157_3, r_157_6, r_157_7, r_157_8, r_157_9, r_157_10, r_157_11, r_157_27, r_157_28, r_157_29, r_157_30, ↓z_m1, l_0, l_1, l_2, l_3, l_4, l_5, l_6, l_7, l_8, l_9, l_10, l_11, l_12, l_13, l_14, l_15, l_16, l_17, l_18, l_19, l_20, l_21, l_22, l_23, l_24, l_25, l_26, l_27, l_28, l_29, l_30, l_31, l_32, l_33, l_34, l_35, l_36, l_37, l_38, l_39, l_40, l_41, l_42, l_43, l_44, l_45, l_46, l_47, l_48, l_49, l_50, l_51, l_52, l_53, l_54, l_55, l_56, l_57, l_59, l_60, l_61, l_62, l_63, l_64, l_65, l_80, l_86, l_87, l_88, l_89, l_90, l_91, l_92, l_93, l_94, l_95, l_97, l_99, l_100, l_107, l_119, l_122, l_124, l_129, l_140, l_141, l_142, l_143, l_144, l_145, l_147, l_150, l_159, l_160, l_161, l_162, l_205, l_253, l_255, l_256, l_269, l_305, l_380, l_399, l_400, l_420, l_430, l_516, l_600, l_720, l_820, l_905, l_921, l_937, l_953, l_970, l_999, l_1000, l_1790, l_4096, l_9999, l_1000000]
theorem z_lea_le {B : Nat → Nat} {mu : Nat} : ∀ k, (z_lea B mu k).1 ≤ k ∧ (z_lea B mu k).2 ≤ 12 ∧ ((z_lea B mu k).2 = 0 → (z_lea B mu k).1 = 0)
  | 0 => ⟨Nat.le_refl _, Nat.zero_le _, fun _ => rfl⟩
  | k + 1 => by
    have ih := z_lea_le (B := B) (mu := mu) k
    have hc := z_cnt_le (z_side B k mu) 12
    unfold z_lea
    split
    · rename_i hlt
      refine ⟨Nat.le_refl _, hc, fun q => ?_⟩
      have q : z_cnt (z_side B k mu) 12 = 0 := q
      omega
    · split
      · exact ⟨Nat.zero_le _, ih.2.1, fun _ => rfl⟩
      · exact ⟨by omega, ih.2⟩
theorem m_mostFollowed_L {n : Nat} {σ : q_Sto} {V : Nat → Int32} {B : Nat → Nat} {mu me : Nat} (hn : 402 ≤ n) (hmu : mu ≤ 12) (hme : me ≤ 5) (h86 : V 86 = nI mu) (h87 : V 87 = nI me) (hB : ∀ j, B j ≤ 5) (hV : σ 158 = z_VB V B) :
    ∀ j i, i ≤ me → me < j + i → f_X12_mostFollowed_L6 n 157 j (z_vw (z_lea B mu i).1) (nI (z_lea B mu i).2) (nI i) σ = some (z_vw (z_lea B mu me).1, σ) := by
  intro j
  induction j with
  | zero => intro i h1 h2; omega
  | succ j ih =>
    intro i h1 h2
    by_cases hi : i = me
    · subst hi
      simp (disch := omega) only [f_X12_mostFollowed_L6, hV, z_VBo, h87, ↓reduceIte, ↓p_ld, ↓p_st, ↓p_nm, ↓p_nS, ↓p_jn, ↓p_call, ↓p_callv, ↓p_dv, ↓p_rem, h_ldE, h_stE, h_nmE, h_nSE, h_callE, h_callvE, h_dvE, h_remE, if_true, if_false, z_upS, z_upO, z_upK, nI_add, z_mul, z_sub, z_div, Nat.add_zero, Nat.mul_zero, Nat.zero_add, Nat.sub_zero, Nat.zero_mul, z_ltT, z_ltF, z_leT, z_leF, z_eqT, z_eqF, z_inT, z_clT, not_true_eq_false, not_false_eq_true, eq_self, true_or, or_true, z_m_lt, z_m_le, z_lt_m, z_le_m, z_eq_m, z_m_eq, z_rz0, z_rz1, z_m_add, z_of, r_157_0, r_157_1, r_157_2, r_157_3, r_157_6, r_157_7, r_157_8, r_157_9, r_157_10, r_157_11, r_157_27, r_157_28, r_157_29, r_157_30, ↓z_m1, l_0, l_1, l_2, l_3, l_4, l_5, l_6, l_7, l_8, l_9, l_10, l_11, l_12, l_13, l_14, l_15, l_16, l_17, l_18, l_19, l_20, l_21, l_22, l_23, l_24, l_25, l_26, l_27, l_28, l_29, l_30, l_31, l_32, l_33, l_34, l_35, l_36, l_37, l_38, l_39, l_40, l_41, l_42, l_43, l_44, l_45, l_46, l_47, l_48, l_49, l_50, l_51, l_52, l_53, l_54, l_55, l_56, l_57, l_59, l_60, l_61, l_62, l_63, l_64, l_65, l_80, l_86, l_87, l_88, l_89, l_90, l_91, l_92, l_93, l_94, l_95, l_97, l_99, l_100, l_107, l_119, l_122, l_124, l_129, l_140, l_141, l_142, l_143, l_144, l_145, l_147, l_150, l_159, l_160, l_161, l_162, l_205, l_253, l_255, l_256, l_269, l_305, l_380, l_399, l_400, l_420, l_430, l_516, l_600, l_720, l_820, l_905, l_921, l_937, l_953, l_970, l_999, l_1000, l_1790, l_4096, l_9999, l_1000000]
    · have ih := ih (i+1) (by omega) (by omega)
      rw [← ih, f_X12_mostFollowed_L6]
      have eb := m_behind (n := n) (x := nI i) (by omega) hV (by rw [z_VBo (by omega)]; exact h86) hmu
      rw [z_bhd_side hmu hB (by omega)] at eb
      have ec := m_count (n := n) (by omega) (σ := σ) (z_set_lt12 (fun j => decide (B j = i + 1)) hmu)
      have ec : f_X12_count n (nI (z_side B i mu)) σ = some (nI (z_cnt (z_side B i mu) 12), σ) := ec
      have e : z_lea B mu (i+1) = if (z_lea B mu i).2 < z_cnt (z_side B i mu) 12 then (i + 1, z_cnt (z_side B i mu) 12) else if (z_lea B mu i).2 = z_cnt (z_side B i mu) 12 then (0, (z_lea B mu i).2) else z_lea B mu i := rfl
      rw [e]
      have hle := z_lea_le (B := B) (mu := mu) i
      have hc := z_cnt_le (z_side B i mu) 12
      generalize z_cnt (z_side B i mu) 12 = c at *
      generalize z_lea B mu i = P at *
      obtain ⟨a, b⟩ := P
      have hle1 : a ≤ i := hle.1
      have hle2 : b ≤ 12 := hle.2.1
      have hle3 : b = 0 → a = 0 := hle.2.2
      by_cases q1 : b < c
      · rw [if_pos q1]
        have e0 : z_vw (i+1, c).1 = nI i := rfl
        rw [e0]
        simp (disch := omega) only [hV, z_VBo, h87, eb, ec, ↓reduceIte, ↓p_ld, ↓p_st, ↓p_nm, ↓p_nS, ↓p_jn, ↓p_call, ↓p_callv, ↓p_dv, ↓p_rem, h_ldE, h_stE, h_nmE, h_nSE, h_callE, h_callvE, h_dvE, h_remE, if_true, if_false, z_upS, z_upO, z_upK, nI_add, z_mul, z_sub, z_div, Nat.add_zero, Nat.mul_zero, Nat.zero_add, Nat.sub_zero, Nat.zero_mul, z_ltT, z_ltF, z_leT, z_leF, z_eqT, z_eqF, z_inT, z_clT, not_true_eq_false, not_false_eq_true, eq_self, true_or, or_true, z_m_lt, z_m_le, z_lt_m, z_le_m, z_eq_m, z_m_eq, z_rz0, z_rz1, z_m_add, z_of, r_157_0, r_157_1, r_157_2, r_157_3, r_157_6, r_157_7, r_157_8, r_157_9, r_157_10, r_157_11, r_157_27, r_157_28, r_157_29, r_157_30, ↓z_m1, l_0, l_1, l_2, l_3, l_4, l_5, l_6, l_7, l_8, l_9, l_10, l_11, l_12, l_13, l_14, l_15, l_16, l_17, l_18, l_19, l_20, l_21, l_22, l_23, l_24, l_25, l_26, l_27, l_28, l_29, l_30, l_31, l_32, l_33, l_34, l_35, l_36, l_37, l_38, l_39, l_40, l_41, l_42, l_43, l_44, l_45, l_46, l_47, l_48, l_49, l_50, l_51, l_52, l_53, l_54, l_55, l_56, l_57, l_59, l_60, l_61, l_62, l_63, l_64, l_65, l_80, l_86, l_87, l_88, l_89, l_90, l_91, l_92, l_93, l_94, l_95, l_97, l_99, l_100, l_107, l_119, l_122, l_124, l_129, l_140, l_141, l_142, l_143, l_144, l_145, l_147, l_150, l_159, l_160, l_161, l_162, l_205, l_253, l_255, l_256, l_269, l_305, l_380, l_399, l_400, l_420, l_430, l_516, l_600, l_720, l_820, l_905, l_921, l_937, l_953, l_970, l_999, l_1000, l_1790, l_4096, l_9999, l_1000000]
      · rw [if_neg q1]
        by_cases q2 : b = c
        · subst q2
          rw [if_pos rfl]
          have e0 : z_vw (0, b).1 = z_m := rfl
          rw [e0]
          by_cases q3 : b = 0
          · subst q3
            have := hle3 rfl
            subst this
            have e1 : z_vw (0, 0).1 = z_m := rfl
            rw [e1]
            simp (disch := omega) only [hV, z_VBo, h87, eb, ec, ↓reduceIte, ↓p_ld, ↓p_st, ↓p_nm, ↓p_nS, ↓p_jn, ↓p_call, ↓p_callv, ↓p_dv, ↓p_rem, h_ldE, h_stE, h_nmE, h_nSE, h_callE, h_callvE, h_dvE, h_remE, if_true, if_false, z_upS, z_upO, z_upK, nI_add, z_mul, z_sub, z_div, Nat.add_zero, Nat.mul_zero, Nat.zero_add, Nat.sub_zero, Nat.zero_mul, z_ltT, z_ltF, z_leT, z_leF, z_eqT, z_eqF, z_inT, z_clT, not_true_eq_false, not_false_eq_true, eq_self, true_or, or_true, z_m_lt, z_m_le, z_lt_m, z_le_m, z_eq_m, z_m_eq, z_rz0, z_rz1, z_m_add, z_of, r_157_0, r_157_1, r_157_2, r_157_3, r_157_6, r_157_7, r_157_8, r_157_9, r_157_10, r_157_11, r_157_27, r_157_28, r_157_29, r_157_30, ↓z_m1, l_0, l_1, l_2, l_3, l_4, l_5, l_6, l_7, l_8, l_9, l_10, l_11, l_12, l_13, l_14, l_15, l_16, l_17, l_18, l_19, l_20, l_21, l_22, l_23, l_24, l_25, l_26, l_27, l_28, l_29, l_30, l_31, l_32, l_33, l_34, l_35, l_36, l_37, l_38, l_39, l_40, l_41, l_42, l_43, l_44, l_45, l_46, l_47, l_48, l_49, l_50, l_51, l_52, l_53, l_54, l_55, l_56, l_57, l_59, l_60, l_61, l_62, l_63, l_64, l_65, l_80, l_86, l_87, l_88, l_89, l_90, l_91, l_92, l_93, l_94, l_95, l_97, l_99, l_100, l_107, l_119, l_122, l_124, l_129, l_140, l_141, l_142, l_143, l_144, l_145, l_147, l_150, l_159, l_160, l_161, l_162, l_205, l_253, l_255, l_256, l_269, l_305, l_380, l_399, l_400, l_420, l_430, l_516, l_600, l_720, l_820, l_905, l_921, l_937, l_953, l_970, l_999, l_1000, l_1790, l_4096, l_9999, l_1000000]
          · simp (disch := omega) only [hV, z_VBo, h87, eb, ec, ↓reduceIte, ↓p_ld, ↓p_st, ↓p_nm, ↓p_nS, ↓p_jn, ↓p_call, ↓p_callv, ↓p_dv, ↓p_rem, h_ldE, h_stE, h_nmE, h_nSE, h_callE, h_callvE, h_dvE, h_remE, if_true, if_false, z_upS, z_upO, z_upK, nI_add, z_mul, z_sub, z_div, Nat.add_zero, Nat.mul_zero, Nat.zero_add, Nat.sub_zero, Nat.zero_mul, z_ltT, z_ltF, z_leT, z_leF, z_eqT, z_eqF, z_inT, z_clT, not_true_eq_false, not_false_eq_true, eq_self, true_or, or_true, z_m_lt, z_m_le, z_lt_m, z_le_m, z_eq_m, z_m_eq, z_rz0, z_rz1, z_m_add, z_of, r_157_0, r_157_1, r_157_2, r_157_3, r_157_6, r_157_7, r_157_8, r_157_9, r_157_10, r_157_11, r_157_27, r_157_28, r_157_29, r_157_30, ↓z_m1, l_0, l_1, l_2, l_3, l_4, l_5, l_6, l_7, l_8, l_9, l_10, l_11, l_12, l_13, l_14, l_15, l_16, l_17, l_18, l_19, l_20, l_21, l_22, l_23, l_24, l_25, l_26, l_27, l_28, l_29, l_30, l_31, l_32, l_33, l_34, l_35, l_36, l_37, l_38, l_39, l_40, l_41, l_42, l_43, l_44, l_45, l_46, l_47, l_48, l_49, l_50, l_51, l_52, l_53, l_54, l_55, l_56, l_57, l_59, l_60, l_61, l_62, l_63, l_64, l_65, l_80, l_86, l_87, l_88, l_89, l_90, l_91, l_92, l_93, l_94, l_95, l_97, l_99, l_100, l_107, l_119, l_122, l_124, l_129, l_140, l_141, l_142, l_143, l_144, l_145, l_147, l_150, l_159, l_160, l_161, l_162, l_205, l_253, l_255, l_256, l_269, l_305, l_380, l_399, l_400, l_420, l_430, l_516, l_600, l_720, l_820, l_905, l_921, l_937, l_953, l_970, l_999, l_1000, l_1790, l_4096, l_9999, l_1000000]
        · rw [if_neg q2]
          simp (disch := omega) only [hV, z_VBo, h87, eb, ec, ↓reduceIte, ↓p_ld, ↓p_st, ↓p_nm, ↓p_nS, ↓p_jn, ↓p_call, ↓p_callv, ↓p_dv, ↓p_rem, h_ldE, h_stE, h_nmE, h_nSE, h_callE, h_callvE, h_dvE, h_remE, if_true, if_false, z_upS, z_upO, z_upK, nI_add, z_mul, z_sub, z_div, Nat.add_zero, Nat.mul_zero, Nat.zero_add, Nat.sub_zero, Nat.zero_mul, z_ltT, z_ltF, z_leT, z_leF, z_eqT, z_eqF, z_inT, z_clT, not_true_eq_false, not_false_eq_true, eq_self, true_or, or_true, z_m_lt, z_m_le, z_lt_m, z_le_m, z_eq_m, z_m_eq, z_rz0, z_rz1, z_m_add, z_of, r_157_0, r_157_1, r_157_2, r_157_3, r_157_6, r_157_7, r_157_8, r_157_9, r_157_10, r_157_11, r_157_27, r_157_28, r_157_29, r_157_30, ↓z_m1, l_0, l_1, l_2, l_3, l_4, l_5, l_6, l_7, l_8, l_9, l_10, l_11, l_12, l_13, l_14, l_15, l_16, l_17, l_18, l_19, l_20, l_21, l_22, l_23, l_24, l_25, l_26, l_27, l_28, l_29, l_30, l_31, l_32, l_33, l_34, l_35, l_36, l_37, l_38, l_39, l_40, l_41, l_42, l_43, l_44, l_45, l_46, l_47, l_48, l_49, l_50, l_51, l_52, l_53, l_54, l_55, l_56, l_57, l_59, l_60, l_61, l_62, l_63, l_64, l_65, l_80, l_86, l_87, l_88, l_89, l_90, l_91, l_92, l_93, l_94, l_95, l_97, l_99, l_100, l_107, l_119, l_122, l_124, l_129, l_140, l_141, l_142, l_143, l_144, l_145, l_147, l_150, l_159, l_160, l_161, l_162, l_205, l_253, l_255, l_256, l_269, l_305, l_380, l_399, l_400, l_420, l_430, l_516, l_600, l_720, l_820, l_905, l_921, l_937, l_953, l_970, l_999, l_1000, l_1790, l_4096, l_9999, l_1000000]
theorem m_stand_L2 {n : Nat} {V : Nat → Int32} {k : q_Sto → Option (Int32 × q_Sto)} : ∀ j i (σ : q_Sto), i ≤ 12 → 12 < j + i → (∀ a, a < 8 ∨ 8 + i ≤ a → a < 8 ∨ 20 ≤ a → σ 158 a = V a) → (∀ m, m < i → σ 158 (8+m) = z_m) →
    ∃ σ', (∀ o, o ≠ 158 → σ' o = σ o) ∧ σ' 158 = z_VB V (fun _ => 0) ∧ f_X12_stand_L2 n 157 k j (nI i) σ = k σ' := by
  intro j
  induction j with
  | zero => intro i σ h1 h2; omega
  | succ j ih =>
    intro i σ h1 h2 ha hb
    by_cases hi : i = 12
    · subst hi
      refine ⟨σ, fun o _ => rfl, ?_, ?_⟩
      · funext a
        show _ = (if _ then _ else _)
        by_cases h3 : 8 ≤ a ∧ a < 20
        · rw [if_pos h3]
          have := hb (a - 8) (by omega)
          rw [show 8 + (a - 8) = a by omega] at this
          exact this
        · rw [if_neg h3]; exact ha a (by omega) (by omega)
      · simp (disch := omega) only [f_X12_stand_L2, ↓reduceIte, ↓p_ld, ↓p_st, ↓p_nm, ↓p_nS, ↓p_jn, ↓p_call, ↓p_callv, ↓p_dv, ↓p_rem, h_ldE, h_stE, h_nmE, h_nSE, h_callE, h_callvE, h_dvE, h_remE, if_true, if_false, z_upS, z_upO, z_upK, nI_add, z_mul, z_sub, z_div, Nat.add_zero, Nat.mul_zero, Nat.zero_add, Nat.sub_zero, Nat.zero_mul, z_ltT, z_ltF, z_leT, z_leF, z_eqT, z_eqF, z_inT, z_clT, not_true_eq_false, not_false_eq_true, eq_self, true_or, or_true, z_m_lt, z_m_le, z_lt_m, z_le_m, z_eq_m, z_m_eq, z_rz0, z_rz1, z_m_add, z_of, r_157_0, r_157_1, r_157_2, r_157_3, r_157_6, r_157_7, r_157_8, r_157_9, r_157_10, r_157_11, r_157_27, r_157_28, r_157_29, r_157_30, ↓z_m1, l_0, l_1, l_2, l_3, l_4, l_5, l_6, l_7, l_8, l_9, l_10, l_11, l_12, l_13, l_14, l_15, l_16, l_17, l_18, l_19, l_20, l_21, l_22, l_23, l_24, l_25, l_26, l_27, l_28, l_29, l_30, l_31, l_32, l_33, l_34, l_35, l_36, l_37, l_38, l_39, l_40, l_41, l_42, l_43, l_44, l_45, l_46, l_47, l_48, l_49, l_50, l_51, l_52, l_53, l_54, l_55, l_56, l_57, l_59, l_60, l_61, l_62, l_63, l_64, l_65, l_80, l_86, l_87, l_88, l_89, l_90, l_91, l_92, l_93, l_94, l_95, l_97, l_99, l_100, l_107, l_119, l_122, l_124, l_129, l_140, l_141, l_142, l_143, l_144, l_145, l_147, l_150, l_159, l_160, l_161, l_162, l_205, l_253, l_255, l_256, l_269, l_305, l_380, l_399, l_400, l_420, l_430, l_516, l_600, l_720, l_820, l_905, l_921, l_937, l_953, l_970, l_999, l_1000, l_1790, l_4096, l_9999, l_1000000]
    · obtain ⟨σ', g1, g2, g3⟩ := ih (i+1) (q_up σ 158 (8+i) z_m) (by omega) (by omega) (fun a h3 h4 => by
        rw [z_upK (by omega)]; exact ha a (by omega) h4) (fun m hm => by
        by_cases e : m = i
        · subst e; exact z_upS
        · rw [z_upK (by omega)]; exact hb m (by omega))
      refine ⟨σ', fun o ho => by rw [g1 o ho, z_upO ho], g2, ?_⟩
      rw [← g3, f_X12_stand_L2]
      simp (disch := omega) only [↓reduceIte, ↓p_ld, ↓p_st, ↓p_nm, ↓p_nS, ↓p_jn, ↓p_call, ↓p_callv, ↓p_dv, ↓p_rem, h_ldE, h_stE, h_nmE, h_nSE, h_callE, h_callvE, h_dvE, h_remE, if_true, if_false, z_upS, z_upO, z_upK, nI_add, z_mul, z_sub, z_div, Nat.add_zero, Nat.mul_zero, Nat.zero_add, Nat.sub_zero, Nat.zero_mul, z_ltT, z_ltF, z_leT, z_leF, z_eqT, z_eqF, z_inT, z_clT, not_true_eq_false, not_false_eq_true, eq_self, true_or, or_true, z_m_lt, z_m_le, z_lt_m, z_le_m, z_eq_m, z_m_eq, z_rz0, z_rz1, z_m_add, z_of, r_157_0, r_157_1, r_157_2, r_157_3, r_157_6, r_157_7, r_157_8, r_157_9, r_157_10, r_157_11, r_157_27, r_157_28, r_157_29, r_157_30, ↓z_m1, l_0, l_1, l_2, l_3, l_4, l_5, l_6, l_7, l_8, l_9, l_10, l_11, l_12, l_13, l_14, l_15, l_16, l_17, l_18, l_19, l_20, l_21, l_22, l_23, l_24, l_25, l_26, l_27, l_28, l_29, l_30, l_31, l_32, l_33, l_34, l_35, l_36, l_37, l_38, l_39, l_40, l_41, l_42, l_43, l_44, l_45, l_46, l_47, l_48, l_49, l_50, l_51, l_52, l_53, l_54, l_55, l_56, l_57, l_59, l_60, l_61, l_62, l_63, l_64, l_65, l_80, l_86, l_87, l_88, l_89, l_90, l_91, l_92, l_93, l_94, l_95, l_97, l_99, l_100, l_107, l_119, l_122, l_124, l_129, l_140, l_141, l_142, l_143, l_144, l_145, l_147, l_150, l_159, l_160, l_161, l_162, l_205, l_253, l_255, l_256, l_269, l_305, l_380, l_399, l_400, l_420, l_430, l_516, l_600, l_720, l_820, l_905, l_921, l_937, l_953, l_970, l_999, l_1000, l_1790, l_4096, l_9999, l_1000000]
/-- V behind a VOTE: BEHIND and DRIVER -/
def z_VV (V : Nat → Int32) (B : Nat → Nat) (d : Int32) : Nat → Int32 := fun a => if a = 2 then d else z_VB V B a
theorem z_VV2 {V : Nat → Int32} {B : Nat → Nat} {d : Int32} : z_VV V B d 2 = d := if_pos rfl
theorem z_VVo {V : Nat → Int32} {B : Nat → Nat} {d : Int32} {a : Nat} (h : a ≠ 2) (h2 : a < 8 ∨ 20 ≤ a) : z_VV V B d a = V a := by
  show (if _ then _ else _) = _
  rw [if_neg h, z_VBo h2]
theorem z_VVi {V : Nat → Int32} {B : Nat → Nat} {d : Int32} {j : Nat} (h : j < 12) : z_VV V B d (8+j) = z_vw (B j) := by
  show (if _ then _ else _) = _
  rw [if_neg (by omega), z_VBi h]
theorem z_wt_le (out : Nat → Bool) (B : Nat → Nat) {mu : Nat} : z_cnt (z_wt out B mu) 12 < 13 := by
  have := z_cnt_le (z_wt out B mu) 12
  omega
theorem m_stand {n s : Nat} {σ σc : q_Sto} {V : Nat → Int32} {mu me : Nat} (hn : 402 ≤ n) (h : z_R σc V mu me) (h7 : V 7 = nI s) (hs : s < 4096) (hV : σ 158 = V) :
    ∃ σ', (∀ o, o ≠ 158 → o ≠ 166 → o ≠ 167 → σ' o = σ o) ∧ σ' 158 = z_VV V (z_vote (z_bt V mu me) (fun i => s.testBit i)).1 (z_vw (z_drv (z_bt V mu me) (fun i => s.testBit i))) ∧
      f_X12_stand n 157 σ = some (nI (z_vote (z_bt V mu me) (fun i => s.testBit i)).2, σ') := by
  have hmu := h.1
  have hme := h.2.1
  have hBO := z_bt_ok hmu hme h.2.2.2.2.1
  have hvm := (z_rs_me hBO (out := fun i => s.testBit i) 13 (fun _ => 0) (fun _ => Nat.zero_le _)).1
  have hvm : ∀ j, (z_vote (z_bt V mu me) (fun i => s.testBit i)).1 j ≤ me := hvm
  have K : ∀ σ0 : q_Sto, σ0 158 = z_VB V (fun _ => 0) → ∃ σ', (∀ o, o ≠ 158 → o ≠ 166 → o ≠ 167 → σ' o = σ0 o) ∧ σ' 158 = z_VV V (z_vote (z_bt V mu me) (fun i => s.testBit i)).1 (z_vw (z_drv (z_bt V mu me) (fun i => s.testBit i))) ∧
      f_X12_stand_L26 n 157 (fun (y7 : Int32) (s8 : q_Sto) => q_call (f_X12_mostFollowed n 157 s8) fun r10 s9 => q_st s9 (q_RF 157 0) 2 1790 r10 fun s11 => some (y7, s11)) n 0 σ0 = some (nI (z_vote (z_bt V mu me) (fun i => s.testBit i)).2, σ') := by
    intro σ0 h0
    obtain ⟨σ1, f1, f2, f3⟩ := m_stand_L26 (k39 := fun (y7 : Int32) (s8 : q_Sto) => q_call (f_X12_mostFollowed n 157 s8) fun r10 s9 => q_st s9 (q_RF 157 0) 2 1790 r10 fun s11 => some (y7, s11)) hn h h7 hs 13 n 0 (fun _ => 0) σ0 (z_wt_le _ _) (by omega) (fun _ => Nat.zero_le _) h0
    have f2 : σ1 158 = z_VB V (z_vote (z_bt V mu me) (fun i => s.testBit i)).1 := f2
    have em := m_mostFollowed_L (n := n) hn hmu hme h.2.2.1 h.2.2.2.1 (fun j => Nat.le_trans (hvm j) hme) f2 n 0 (by omega) (by omega)
    have em : f_X12_mostFollowed n 157 σ1 = some (z_vw (z_drv (z_bt V mu me) (fun i => s.testBit i)), σ1) := em
    refine ⟨q_up σ1 158 2 (z_vw (z_drv (z_bt V mu me) (fun i => s.testBit i))), fun o o1 o2 o3 => by rw [z_upO o1, f1 o o1 o2 o3], ?_, ?_⟩
    · funext a
      show (if 158 = 158 then (if a = 2 then _ else σ1 158 a) else _) = (if a = 2 then _ else _)
      rw [if_pos rfl, f2]
    · have f3 : f_X12_stand_L26 n 157 (fun (y7 : Int32) (s8 : q_Sto) => q_call (f_X12_mostFollowed n 157 s8) fun r10 s9 => q_st s9 (q_RF 157 0) 2 1790 r10 fun s11 => some (y7, s11)) n 0 σ0 = _ := f3
      rw [f3]
      have ev : 0 + (z_rs (z_bt V mu me) (fun i => s.testBit i) 13 (fun _ => 0)).2 = (z_vote (z_bt V mu me) (fun i => s.testBit i)).2 := Nat.zero_add _
      rw [ev]
      simp (disch := omega) only [em, ↓reduceIte, ↓p_ld, ↓p_st, ↓p_nm, ↓p_nS, ↓p_jn, ↓p_call, ↓p_callv, ↓p_dv, ↓p_rem, h_ldE, h_stE, h_nmE, h_nSE, h_callE, h_callvE, h_dvE, h_remE, if_true, if_false, z_upS, z_upO, z_upK, nI_add, z_mul, z_sub, z_div, Nat.add_zero, Nat.mul_zero, Nat.zero_add, Nat.sub_zero, Nat.zero_mul, z_ltT, z_ltF, z_leT, z_leF, z_eqT, z_eqF, z_inT, z_clT, not_true_eq_false, not_false_eq_true, eq_self, true_or, or_true, z_m_lt, z_m_le, z_lt_m, z_le_m, z_eq_m, z_m_eq, z_rz0, z_rz1, z_m_add, z_of, r_157_0, r_157_1, r_157_2, r_157_3, r_157_6, r_157_7, r_157_8, r_157_9, r_157_10, r_157_11, r_157_27, r_157_28, r_157_29, r_157_30, ↓z_m1, l_0, l_1, l_2, l_3, l_4, l_5, l_6, l_7, l_8, l_9, l_10, l_11, l_12, l_13, l_14, l_15, l_16, l_17, l_18, l_19, l_20, l_21, l_22, l_23, l_24, l_25, l_26, l_27, l_28, l_29, l_30, l_31, l_32, l_33, l_34, l_35, l_36, l_37, l_38, l_39, l_40, l_41, l_42, l_43, l_44, l_45, l_46, l_47, l_48, l_49, l_50, l_51, l_52, l_53, l_54, l_55, l_56, l_57, l_59, l_60, l_61, l_62, l_63, l_64, l_65, l_80, l_86, l_87, l_88, l_89, l_90, l_91, l_92, l_93, l_94, l_95, l_97, l_99, l_100, l_107, l_119, l_122, l_124, l_129, l_140, l_141, l_142, l_143, l_144, l_145, l_147, l_150, l_159, l_160, l_161, l_162, l_205, l_253, l_255, l_256, l_269, l_305, l_380, l_399, l_400, l_420, l_430, l_516, l_600, l_720, l_820, l_905, l_921, l_937, l_953, l_970, l_999, l_1000, l_1790, l_4096, l_9999, l_1000000]
  obtain ⟨σ2, g1, g2, g3⟩ := m_stand_L2 (n := n) (V := V) (k := fun (s3 : q_Sto) => f_X12_stand_L26 n 157 (fun (y7 : Int32) (s8 : q_Sto) => q_call (f_X12_mostFollowed n 157 s8) fun r10 s9 => q_st s9 (q_RF 157 0) 2 1790 r10 fun s11 => some (y7, s11)) n 0 s3) n 0 σ (by omega) (by omega) (fun a _ _ => by rw [hV]) (fun m hm => by omega)
  obtain ⟨σ3, k1, k2, k3⟩ := K σ2 g2
  refine ⟨σ3, fun o o1 o2 o3 => by rw [k1 o o1 o2 o3, g1 o o1], k2, ?_⟩
  have g3 : f_X12_stand n 157 σ = _ := g3
  rw [g3, k3]
