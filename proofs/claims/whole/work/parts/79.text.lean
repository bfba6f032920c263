/-! text(k), k = 1 .. 4 -/
theorem m_readsRows {k : Nat} {m : q_Sto} (hk : k = 1 ∨ k = 2 ∨ k = 3 ∨ k = 4) (h12 : m 157 12 = nI k) : f_X12_readsRows q_F 157 m = f_X12_readsRows_L49 q_F 157 (nI (zr_beg k)) q_F (nI 1) (q_up m 157 15 (nI 0)) := by
  rcases hk with rfl | rfl | rfl | rfl
  · show _ = f_X12_readsRows_L49 q_F 157 (nI 7) q_F (nI 1) (q_up m 157 15 (nI 0))
    unfold f_X12_readsRows
    simp (disch := omega) only [h12, ↓reduceIte, ↓p_ld, ↓p_st, ↓p_nm, ↓p_nS, ↓p_jn, ↓p_call, ↓p_callv, ↓p_dv, ↓p_rem, h_ldE, h_stE, h_nmE, h_nSE, h_callE, h_callvE, h_dvE, h_remE, if_true, if_false, z_upS, z_upO, z_upK, nI_add, z_mul, z_sub, z_div, Nat.add_zero, Nat.mul_zero, Nat.zero_add, Nat.sub_zero, Nat.zero_mul, z_ltT, z_ltF, z_leT, z_leF, z_eqT, z_eqF, z_inT, z_clT, not_true_eq_false, not_false_eq_true, eq_self, true_or, or_true, z_m_lt, z_m_le, z_lt_m, z_le_m, z_eq_m, z_m_eq, z_rz0, z_rz1, z_m_add, z_of, r_157_0, r_157_1, r_157_2, r_157_3, r_157_6, r_157_7, r_157_8, r_157_9, r_157_10, r_157_11, r_157_27, r_157_28, r_157_29, r_157_30, ↓z_m1, l_0, l_1, l_2, l_3, l_4, l_5, l_6, l_7, l_8, l_9, l_10, l_11, l_12, l_13, l_14, l_15, l_16, l_17, l_18, l_19, l_20, l_21, l_22, l_23, l_24, l_25, l_26, l_27, l_28, l_29, l_30, l_31, l_32, l_33, l_34, l_35, l_36, l_37, l_38, l_39, l_40, l_41, l_42, l_43, l_44, l_45, l_46, l_47, l_48, l_49, l_50, l_51, l_52, l_53, l_54, l_55, l_56, l_57, l_59, l_60, l_61, l_62, l_63, l_64, l_65, l_80, l_86, l_87, l_88, l_89, l_90, l_91, l_92, l_93, l_94, l_95, l_97, l_99, l_100, l_107, l_119, l_122, l_124, l_129, l_140, l_141, l_142, l_143, l_144, l_145, l_147, l_150, l_159, l_160, l_161, l_162, l_205, l_253, l_255, l_256, l_269, l_305, l_380, l_399, l_400, l_420, l_430, l_516, l_600, l_720, l_820, l_905, l_921, l_937, l_953, l_970, l_999, l_1000, l_1790, l_4096, l_9999, l_1000000]
  · show _ = f_X12_readsRows_L49 q_F 157 (nI 9) q_F (nI 1) (q_up m 157 15 (nI 0))
    unfold f_X12_readsRows
    simp (disch := omega) only [h12, ↓reduceIte, ↓p_ld, ↓p_st, ↓p_nm, ↓p_nS, ↓p_jn, ↓p_call, ↓p_callv, ↓p_dv, ↓p_rem, h_ldE, h_stE, h_nmE, h_nSE, h_callE, h_callvE, h_dvE, h_remE, if_true, if_false, z_upS, z_upO, z_upK, nI_add, z_mul, z_sub, z_div, Nat.add_zero, Nat.mul_zero, Nat.zero_add, Nat.sub_zero, Nat.zero_mul, z_ltT, z_ltF, z_leT, z_leF, z_eqT, z_eqF, z_inT, z_clT, not_true_eq_false, not_false_eq_true, eq_self, true_or, or_true, z_m_lt, z_m_le, z_lt_m, z_le_m, z_eq_m, z_m_eq, z_rz0, z_rz1, z_m_add, z_of, r_157_0, r_157_1, r_157_2, r_157_3, r_157_6, r_157_7, r_157_8, r_157_9, r_157_10, r_157_11, r_157_27, r_157_28, r_157_29, r_157_30, ↓z_m1, l_0, l_1, l_2, l_3, l_4, l_5, l_6, l_7, l_8, l_9, l_10, l_11, l_12, l_13, l_14, l_15, l_16, l_17, l_18, l_19, l_20, l_21, l_22, l_23, l_24, l_25, l_26, l_27, l_28, l_29, l_30, l_31, l_32, l_33, l_34, l_35, l_36, l_37, l_38, l_39, l_40, l_41, l_42, l_43, l_44, l_45, l_46, l_47, l_48, l_49, l_50, l_51, l_52, l_53, l_54, l_55, l_56, l_57, l_59, l_60, l_61, l_62, l_63, l_64, l_65, l_80, l_86, l_87, l_88, l_89, l_90, l_91, l_92, l_93, l_94, l_95, l_97, l_99, l_100, l_107, l_119, l_122, l_124, l_129, l_140, l_141, l_142, l_143, l_144, l_145, l_147, l_150, l_159, l_160, l_161, l_162, l_205, l_253, l_255, l_256, l_269, l_305, l_380, l_399, l_400, l_420, l_430, l_516, l_600, l_720, l_820, l_905, l_921, l_937, l_953, l_970, l_999, l_1000, l_1790, l_4096, l_9999, l_1000000]
  · show _ = f_X12_readsRows_L49 q_F 157 (nI 15) q_F (nI 1) (q_up m 157 15 (nI 0))
    unfold f_X12_readsRows
    simp (disch := omega) only [h12, ↓reduceIte, ↓p_ld, ↓p_st, ↓p_nm, ↓p_nS, ↓p_jn, ↓p_call, ↓p_callv, ↓p_dv, ↓p_rem, h_ldE, h_stE, h_nmE, h_nSE, h_callE, h_callvE, h_dvE, h_remE, if_true, if_false, z_upS, z_upO, z_upK, nI_add, z_mul, z_sub, z_div, Nat.add_zero, Nat.mul_zero, Nat.zero_add, Nat.sub_zero, Nat.zero_mul, z_ltT, z_ltF, z_leT, z_leF, z_eqT, z_eqF, z_inT, z_clT, not_true_eq_false, not_false_eq_true, eq_self, true_or, or_true, z_m_lt, z_m_le, z_lt_m, z_le_m, z_eq_m, z_m_eq, z_rz0, z_rz1, z_m_add, z_of, r_157_0, r_157_1, r_157_2, r_157_3, r_157_6, r_157_7, r_157_8, r_157_9, r_157_10, r_157_11, r_157_27, r_157_28, r_157_29, r_157_30, ↓z_m1, l_0, l_1, l_2, l_3, l_4, l_5, l_6, l_7, l_8, l_9, l_10, l_11, l_12, l_13, l_14, l_15, l_16, l_17, l_18, l_19, l_20, l_21, l_22, l_23, l_24, l_25, l_26, l_27, l_28, l_29, l_30, l_31, l_32, l_33, l_34, l_35, l_36, l_37, l_38, l_39, l_40, l_41, l_42, l_43, l_44, l_45, l_46, l_47, l_48, l_49, l_50, l_51, l_52, l_53, l_54, l_55, l_56, l_57, l_59, l_60, l_61, l_62, l_63, l_64, l_65, l_80, l_86, l_87, l_88, l_89, l_90, l_91, l_92, l_93, l_94, l_95, l_97, l_99, l_100, l_107, l_119, l_122, l_124, l_129, l_140, l_141, l_142, l_143, l_144, l_145, l_147, l_150, l_159, l_160, l_161, l_162, l_205, l_253, l_255, l_256, l_269, l_305, l_380, l_399, l_400, l_420, l_430, l_516, l_600, l_720, l_820, l_905, l_921, l_937, l_953, l_970, l_999, l_1000, l_1790, l_4096, l_9999, l_1000000]
  · show _ = f_X12_readsRows_L49 q_F 157 (nI 17) q_F (nI 1) (q_up m 157 15 (nI 0))
    unfold f_X12_readsRows
    simp (disch := omega) only [h12, ↓reduceIte, ↓p_ld, ↓p_st, ↓p_nm, ↓p_nS, ↓p_jn, ↓p_call, ↓p_callv, ↓p_dv, ↓p_rem, h_ldE, h_stE, h_nmE, h_nSE, h_callE, h_callvE, h_dvE, h_remE, if_true, if_false, z_upS, z_upO, z_upK, nI_add, z_mul, z_sub, z_div, Nat.add_zero, Nat.mul_zero, Nat.zero_add, Nat.sub_zero, Nat.zero_mul, z_ltT, z_ltF, z_leT, z_leF, z_eqT, z_eqF, z_inT, z_clT, not_true_eq_false, not_false_eq_true, eq_self, true_or, or_true, z_m_lt, z_m_le, z_lt_m, z_le_m, z_eq_m, z_m_eq, z_rz0, z_rz1, z_m_add, z_of, r_157_0, r_157_1, r_157_2, r_157_3, r_157_6, r_157_7, r_157_8, r_157_9, r_157_10, r_157_11, r_157_27, r_157_28, r_157_29, r_157_30, ↓z_m1, l_0, l_1, l_2, l_3, l_4, l_5, l_6, l_7, l_8, l_9, l_10, l_11, l_12, l_13, l_14, l_15, l_16, l_17, l_18, l_19, l_20, l_21, l_22, l_23, l_24, l_25, l_26, l_27, l_28, l_29, l_30, l_31, l_32, l_33, l_34, l_35, l_36, l_37, l_38, l_39, l_40, l_41, l_42, l_43, l_44, l_45, l_46, l_47, l_48, l_49, l_50, l_51, l_52, l_53, l_54, l_55, l_56, l_57, l_59, l_60, l_61, l_62, l_63, l_64, l_65, l_80, l_86, l_87, l_88, l_89, l_90, l_91, l_92, l_93, l_94, l_95, l_97, l_99, l_100, l_107, l_119, l_122, l_124, l_129, l_140, l_141, l_142, l_143, l_144, l_145, l_147, l_150, l_159, l_160, l_161, l_162, l_205, l_253, l_255, l_256, l_269, l_305, l_380, l_399, l_400, l_420, l_430, l_516, l_600, l_720, l_820, l_905, l_921, l_937, l_953, l_970, l_999, l_1000, l_1790, l_4096, l_9999, l_1000000]
theorem j_text {k mu me : Nat} {T : zt_T} {s0 m0 : q_Sto} (hk : k = 1 ∨ k = 2 ∨ k = 3 ∨ k = 4) (hmu : mu ≤ 12) (hme : me ≤ 5) (hC : zt_C s0 T 0) (h6 : s0 142 6 = nI 0) (h7 : s0 142 7 = z_m) (h1 : s0 155 1 = nI 16) (g8 : s0 2 8 = nI mu) (g9 : s0 2 9 = nI me)
    (hm0 : zt_R m0 T k 0) (k86 : m0 158 86 = nI mu) (k87 : m0 158 87 = nI me) :
    (∃ s' N, f_X7_read q_F 154 (nI k) 2 s0 = some (nI 1, s') ∧ s' 155 2 = nI N ∧ s' 155 1 = nI 16 ∧ N ≤ zr_cap k ∧ s' 142 6 = nI 0 ∧ s' 142 7 = z_m ∧ zr_fS s0 s' ∧ ∀ m1, zt_R m1 T k 0 → m1 158 86 = nI mu → m1 158 87 = nI me → ∃ m', f_X12_readsRows q_F 157 m1 = some (nI 1, m') ∧ m' 157 15 = nI N ∧ (∀ i, i < N → zr_L k mu me s' m' i) ∧ zr_fQ m1 m') ∨
      (∃ s', f_X7_read q_F 154 (nI k) 2 s0 = some (nI 0, s') ∧ zr_fS s0 s' ∧ ∀ m1, zt_R m1 T k 0 → m1 158 86 = nI mu → m1 158 87 = nI me → ∃ m' ff q, f_X12_readsRows q_F 157 m1 = some (nI 0, m') ∧ s' 142 6 = nI ff ∧ s' 142 7 = nI q ∧ m' 157 21 = nI ff ∧ m' 157 22 = nI q ∧ zr_fQ m1 m') := by
  have hF : q_F = 20000 := rfl
  have hTL := hC.1.1
  have hne : ¬ nI 1 = nI 0 := by decide
  have hcap : zr_cap k ≤ 16 := by rcases hk with rfl | rfl | rfl | rfl <;> decide
  obtain ⟨s1, hs1⟩ : ∃ s1, s1 = q_up s0 155 2 (nI 0) := ⟨_, rfl⟩
  have s1f : ∀ o, o ≠ 155 → s1 o = s0 o := fun o ho => by rw [hs1, z_upO ho]
  have fS1 : zr_fS s0 s1 := ⟨fun o _ o2 _ => s1f o o2, by rw [s1f 142 (by omega)], by rw [hs1, z_upK (by omega)]⟩
  have eR : f_X7_read q_F 154 (nI k) 2 s0 = f_X7_read_L9 q_F 154 (nI k) 2 q_F (nI 0) s1 := by
    rw [hs1]
    unfold f_X7_read f_X6_clear
    simp (disch := omega) only [↓reduceIte, ↓p_ld, ↓p_st, ↓p_nm, ↓p_nS, ↓p_jn, ↓p_call, ↓p_callv, ↓p_dv, ↓p_rem, h_ldE, h_stE, h_nmE, h_nSE, h_callE, h_callvE, h_dvE, h_remE, if_true, if_false, z_upS, z_upO, z_upK, nI_add, z_mul, z_sub, z_div, Nat.add_zero, Nat.mul_zero, Nat.zero_add, Nat.sub_zero, Nat.zero_mul, z_ltT, z_ltF, z_leT, z_leF, z_eqT, z_eqF, z_inT, z_clT, not_true_eq_false, not_false_eq_true, eq_self, true_or, or_true, z_m_lt, z_m_le, z_lt_m, z_le_m, z_eq_m, z_m_eq, z_rz0, z_rz1, z_m_add, z_of, r_0_0, r_0_1, r_0_3, r_0_4, r_0_5, r_0_6, r_0_7, r_0_8, r_0_9, r_0_10, r_1_0, r_1_1, r_1_2, r_1_3, r_1_4, r_1_5, r_1_6, r_1_7, r_1_8, r_2_0, r_2_1, r_2_2, r_2_3, r_2_4, r_2_5, r_2_6, r_2_7, r_11_0, r_11_1, r_11_2, r_11_3, r_11_4, r_11_5, r_11_6, r_19_0, r_21_0, r_23_0, r_25_0, r_27_0, r_31_0, r_31_1, r_31_2, r_31_3, r_31_4, r_31_5, r_31_6, r_31_7, r_31_8, r_32_0, r_32_1, r_32_2, r_32_3, r_32_4, r_32_5, r_32_6, r_32_7, r_41_0, r_41_1, r_41_2, r_41_3, r_41_4, r_41_5, r_41_6, r_49_0, r_51_0, r_53_0, r_55_0, r_57_0, r_61_0, r_63_0, r_63_1, r_63_2, r_63_3, r_63_4, r_63_5, r_63_6, r_63_7, r_72_0, r_72_1, r_72_2, r_72_3, r_72_4, r_72_5, r_72_6, r_72_7, r_81_0, r_81_1, r_81_2, r_81_3, r_81_4, r_81_5, r_81_6, r_81_7, r_90_0, r_90_1, r_90_2, r_90_3, r_90_4, r_90_5, r_90_6, r_90_7, r_99_0, r_99_1, r_99_2, r_99_3, r_99_4, r_99_5, r_99_6, r_99_7, r_108_0, r_108_1, r_108_2, r_108_3, r_108_4, r_108_5, r_108_6, r_108_7, r_117_0, r_117_1, r_117_2, r_117_3, r_117_4, r_117_5, r_117_6, r_117_7, r_126_0, r_126_1, r_126_2, r_126_3, r_126_4, r_132_0, r_132_1, r_135_0, r_135_1, r_135_2, r_135_3, r_135_4, r_135_5, r_142_0, r_144_0, r_144_1, r_144_2, r_145_0, r_145_1, r_145_2, r_145_3, r_145_4, r_145_5, r_145_6, r_154_0, r_154_1, r_155_0, r_157_0, r_157_1, r_157_2, r_157_3, r_157_6, r_157_7, r_157_8, r_157_9, r_157_10, r_157_11, r_157_27, r_157_28, r_157_29, r_157_30, ↓z_m1, l_0, l_1, l_2, l_3, l_4, l_5, l_6, l_7, l_8, l_9, l_10, l_11, l_12, l_13, l_14, l_15, l_16, l_17, l_18, l_19, l_20, l_21, l_22, l_23, l_24, l_25, l_26, l_27, l_28, l_29, l_30, l_31, l_32, l_33, l_34, l_35, l_36, l_37, l_38, l_39, l_40, l_41, l_42, l_43, l_44, l_45, l_46, l_47, l_48, l_49, l_50, l_51, l_52, l_53, l_54, l_55, l_56, l_57, l_59, l_60, l_61, l_62, l_63, l_64, l_65, l_80, l_86, l_87, l_88, l_89, l_90, l_91, l_92, l_93, l_94, l_95, l_97, l_99, l_100, l_107, l_119, l_122, l_124, l_129, l_140, l_141, l_142, l_143, l_144, l_145, l_147, l_150, l_159, l_160, l_161, l_162, l_205, l_253, l_255, l_256, l_269, l_305, l_380, l_399, l_400, l_420, l_430, l_516, l_600, l_720, l_820, l_905, l_921, l_937, l_953, l_970, l_999, l_1000, l_1790, l_4096, l_9999, l_1000000]
  have hJ : ∀ m1, zt_R m1 T k 0 → m1 158 86 = nI mu → m1 158 87 = nI me → zr_J k mu me s1 (q_up m1 157 15 (nI 0)) T 0 0 := fun m1 hR x86 x87 => ⟨hC.fr (s1f 143 (by omega)) (fun a _ _ => by rw [s1f 142 (by omega)]), ⟨by rw [s1f 142 (by omega)]; exact h6, by rw [s1f 142 (by omega)]; exact h7⟩, by rw [hs1]; exact z_upS, by rw [hs1, z_upK (by omega)]; exact h1, hR.fr (z_upO (by omega)) (fun a ha => z_upK (by omega)), z_upS, Nat.zero_le _, fun i hi => by omega, by rw [s1f 2 (by omega)]; exact g8, by rw [s1f 2 (by omega)]; exact g9, by rw [z_upO (by omega)]; exact x86, by rw [z_upO (by omega)]; exact x87⟩
  have hj := fun m1 hR x86 x87 => j_rows hk hmu hme q_F q_F 0 0 s1 (q_up m1 157 15 (nI 0)) (by omega) (Nat.le_refl _) (hJ m1 hR x86 x87)
  have f15 : ∀ m1 : q_Sto, zr_fQ m1 (q_up m1 157 15 (nI 0)) := fun m1 => ⟨fun o o1 _ => z_upO o1, fun a a1 _ _ _ _ _ _ => z_upK a1⟩
  rcases hj m0 hm0 k86 k87 with ⟨s', m', N, q, e1, -, hJ', f1, -⟩ | ⟨s', m', ff, q, e1, -, -, -, -, -, f1, -⟩
  · refine Or.inl ⟨s', N, eR.trans e1, hJ'.2.2.1, hJ'.2.2.2.1, hJ'.2.2.2.2.2.2.1, hJ'.2.1.1, hJ'.2.1.2, fS1.trans f1, fun m1 hR x86 x87 => ?_⟩
    rcases hj m1 hR x86 x87 with ⟨s'', m', N'', q, e1', e2, hJ'', f1', f2⟩ | ⟨s'', m', ff, q, e1', -⟩
    · rw [e1] at e1'
      cases e1'
      have hNN : N'' = N := by
        have a1 := hJ'.2.2.1
        have a2 := hJ''.2.2.1
        have b1 := hJ'.2.2.2.2.2.2.1
        have b2 := hJ''.2.2.2.2.2.2.1
        rw [a1, nI_eq (by omega) (by omega)] at a2
        exact a2.symm
      subst hNN
      exact ⟨m', (m_readsRows hk hR.2.2.2.2.1).trans e2, hJ''.2.2.2.2.2.1, hJ''.2.2.2.2.2.2.2.1, (f15 m1).trans f2⟩
    · rw [e1] at e1'
      exact absurd (congrArg Prod.fst (Option.some.inj e1')) hne
  · refine Or.inr ⟨s', eR.trans e1, fS1.trans f1, fun m1 hR x86 x87 => ?_⟩
    rcases hj m1 hR x86 x87 with ⟨s'', m', N'', q, e1', -⟩ | ⟨s'', m', ff, q, e1', e2, g6, g7, g21, g22, f1', f2⟩
    · rw [e1] at e1'
      exact absurd (congrArg Prod.fst (Option.some.inj e1')).symm hne
    · rw [e1] at e1'
      cases e1'
      exact ⟨m', ff, q, (m_readsRows hk hR.2.2.2.2.1).trans e2, g6, g7, g21, g22, (f15 m1).trans f2⟩
/-- what the reference begins with, over a world of the class that holds the tape -/
theorem m_tstart {k l : Nat} {T : zt_T} {s' : q_Sto} (hk : k < 5) (hB5 : zt_B (s' 165) T) (h16 : s' 157 16 = nI T.2) : ∃ m1, f_X12_next0 q_F 157 (q_up (q_up (q_up (q_up (q_up s' 157 23 (nI 0)) 157 25 z_m) 157 21 (nI 0)) 157 17 (nI 0)) 157 12 (nI k)) = some (nI 0, m1) ∧ zt_R m1 T k 0 ∧ (∀ o, o ≠ 157 → m1 o = s' o) ∧ m1 157 23 = nI 0 ∧ m1 157 25 = z_m ∧ m1 157 4 = s' 157 4 ∧ m1 157 5 = s' 157 5 := by
  obtain ⟨m1, b1, b2, b3, b4⟩ := m_next (n := q_F) (k := k) (p := 0) (T := T) (σ := q_up (q_up (q_up (q_up (q_up s' 157 23 (nI 0)) 157 25 z_m) 157 21 (nI 0)) 157 17 (nI 0)) 157 12 (nI k)) z_F402 hk (Nat.zero_le _) (by rw [z_upO (by omega), z_upO (by omega), z_upO (by omega), z_upO (by omega), z_upO (by omega)]; exact hB5) (by rw [z_upK (by omega), z_upK (by omega), z_upK (by omega), z_upK (by omega), z_upK (by omega)]; exact h16) z_upS (by rw [z_upK (by omega)]; exact z_upS)
  refine ⟨m1, b4, b3, fun o ho => by rw [b1 o ho, z_upO ho, z_upO ho, z_upO ho, z_upO ho, z_upO ho], ?_, ?_, ?_, ?_⟩
  · rw [b2 23 (by omega) (by omega) (by omega) (by omega), z_upK (by omega), z_upK (by omega), z_upK (by omega), z_upK (by omega)]; exact z_upS
  · rw [b2 25 (by omega) (by omega) (by omega) (by omega), z_upK (by omega), z_upK (by omega), z_upK (by omega)]; exact z_upS
  · rw [b2 4 (by omega) (by omega) (by omega) (by omega), z_upK (by omega), z_upK (by omega), z_upK (by omega), z_upK (by omega), z_upK (by omega)]
  · rw [b2 5 (by omega) (by omega) (by omega) (by omega), z_upK (by omega), z_upK (by omega), z_upK (by omega), z_upK (by omega), z_upK (by omega)]
/-- whom a mule heeds, out of the lines -/
theorem zr_hor {N mu me a : Nat} {s m : q_Sto} (h : ∀ i, i < N → zr_L 1 mu me s m i) (hmu : mu ≤ 12) (ha : a < 12) : ∀ i, i ≤ N → ∃ t, t < 2 ^ mu ∧ t.testBit a = false ∧ z_hor (s 156) a i = nI t
  | 0, _ => ⟨0, Nat.pos_of_ne_zero (by have := Nat.one_le_two_pow (n := mu); omega), Nat.zero_testBit _, rfl⟩
  | i + 1, hi => by
    obtain ⟨t, t1, t2, t3⟩ := zr_hor h hmu ha i (by omega)
    obtain ⟨b, u, l1, l2, l3, l4, l5, -, -⟩ := (h i (by omega)).1 rfl
    have e : z_hor (s 156) a (i+1) = if s 156 (i*4) = nI a then z_hor (s 156) a i ||| s 156 (i*4+1) else z_hor (s 156) a i := rfl
    rw [e, l4, l5, t3]
    by_cases q : b = a
    · subst q
      rw [if_pos rfl, z_or]
      refine ⟨t ||| u, Nat.or_lt_two_pow t1 l2, ?_, rfl⟩
      rw [Nat.testBit_or, t2, l3]; rfl
    · rw [if_neg (fun hh => by rw [nI_eq (by omega) (by omega)] at hh; exact q hh)]
      exact ⟨t, t1, t2, rfl⟩
theorem P_text1 {σ : q_Sto} {mu me : Nat} (h : z_SimN σ mu me) : ∃ (r : Int32) (σ1 σ2 : q_Sto), f_X11_text q_F 0 (nI 1) σ = some (r, σ1) ∧ f_X12_text q_F 157 (nI 1) σ1 = some (r, σ2) ∧ z_SimN σ2 mu me := by
  obtain ⟨l, l1, l2, l3, l4, l5, l6⟩ := h.2.2.2.1
  have hC0 := z_Sim.C h
  have hmu := hC0.1.1
  have hme := hC0.1.2.1
  have g8 : σ 2 8 = nI mu := hC0.2.1.1.1
  have g9 : σ 2 9 = nI me := hC0.2.1.1.2.1
  have h86 := hC0.1.2.2.1
  have h87 := hC0.1.2.2.2.1
  have h12 := z_p12 hmu
  have hF : q_F = 20000 := rfl
  have hk : 1 = 1 ∨ 1 = 2 ∨ 1 = 3 ∨ 1 = 4 := by omega
  obtain ⟨T, hT⟩ : ∃ T : zt_T, T = (fun i => zn (σ 143 i), l) := ⟨_, rfl⟩
  have hB3 : zt_B (σ 143) T := by
    subst hT
    refine ⟨l1, fun i hi => ?_⟩
    obtain ⟨x1, x2⟩ := z_leE (l4 i hi).2 (by omega)
    exact ⟨x1, x2⟩
  have hB5 : zt_B (σ 165) T := by
    subst hT
    refine ⟨l1, fun i hi => ?_⟩
    obtain ⟨x1, x2⟩ := z_leE (l4 i hi).2 (by omega)
    exact ⟨(l4 i hi).1.symm.trans x1, x2⟩
  have hT2 : T.2 = l := by rw [hT]
  obtain ⟨s0, c1, c2, c3, c4, c5, c6⟩ := c_begin hB3 (by rw [hT2]; exact l2)
  have f155 : σ 155 1 = nI 16 := h.2.2.2.2.2.2.2
  have ewI : z_w (nI 1) (nI 0) (nI 4) = nI 1 := z_w_in (by omega) (by omega) (by omega)
  have ewC : z_w (nI 1) (nI 1) (nI 4) = nI 1 := z_w_in (by omega) (by omega) (by omega)
  obtain ⟨m0, -, hR0, hm0, -⟩ := m_tstart (k := 1) (l := 0) (s' := σ) (by omega) hB5 (by rw [hT2]; exact l3)
  have hW := h.2.1.2.1
  have hCA := h.2.2.2.2.2.1
  rcases j_text hk hmu hme c2 c3 c4 (by rw [c5 155 (by omega)]; exact f155) (by rw [c5 2 (by omega)]; exact g8) (by rw [c5 2 (by omega)]; exact g9) hR0 (by rw [hm0 158 (by omega)]; exact h86) (by rw [hm0 158 (by omega)]; exact h87) with ⟨s', N, e1, e2, e3, e4, e5, e6, f1, hm⟩ | ⟨s', e1, f1, hm⟩
  · have e4 : N ≤ 16 := e4
    have fs : ∀ o, o ≠ 142 → o ≠ 155 → o ≠ 156 → s' o = σ o := fun o o1 o2 o3 => by rw [f1.1 o o1 o2 o3, c5 o o1]
    have hcap : s' 19 1 = nI 16 := by rw [fs 19 (by omega) (by omega) (by omega)]; exact hCA.1
    obtain ⟨s2, k1, k2, k3, k4, k5⟩ := c_copyRows (n := q_F) (t := 19) (a := 155) (c := N) (cap := 16) (σ := s') rfl rfl (Or.inl (by omega)) e2 hcap e4 (by omega)
    have k3' : s2 19 2 = nI N := k3.trans e2
    have k5' : ∀ j, j < 64 → s2 20 j = s' 156 j := k5
    obtain ⟨s3, hs3⟩ : ∃ s3, s3 = q_up (q_up s2 61 1 (nI 0)) 142 1 (nI 0) := ⟨_, rfl⟩
    have f3 : ∀ o, o ≠ 61 → o ≠ 142 → s3 o = s2 o := fun o o1 o2 => by rw [hs3]; rw [z_upO o2, z_upO o1]
    have fr : ∀ o, o ≠ 61 → o ≠ 142 → o ≠ 155 → o ≠ 156 → o ≠ 19 → o ≠ 20 → s3 o = σ o := fun o o1 o2 o3 o4 o5 o6 => by rw [f3 o o1 o2, k2 o (by omega), fs o o2 o3 o4]
    have eC : f_X11_text q_F 0 (nI 1) σ = some (nI N, s3) := by
      rw [hs3]
      unfold f_X11_text f_X11_takeRows
      simp (disch := omega) only [c1, c_isWithin, ewC, e1, k1, f_X1_forget, k3', ↓reduceIte, ↓p_ld, ↓p_st, ↓p_nm, ↓p_nS, ↓p_jn, ↓p_call, ↓p_callv, ↓p_dv, ↓p_rem, h_ldE, h_stE, h_nmE, h_nSE, h_callE, h_callvE, h_dvE, h_remE, if_true, if_false, z_upS, z_upO, z_upK, nI_add, z_mul, z_sub, z_div, Nat.add_zero, Nat.mul_zero, Nat.zero_add, Nat.sub_zero, Nat.zero_mul, z_ltT, z_ltF, z_leT, z_leF, z_eqT, z_eqF, z_inT, z_clT, not_true_eq_false, not_false_eq_true, eq_self, true_or, or_true, z_m_lt, z_m_le, z_lt_m, z_le_m, z_eq_m, z_m_eq, z_rz0, z_rz1, z_m_add, z_of, r_0_0, r_0_1, r_0_3, r_0_4, r_0_5, r_0_6, r_0_7, r_0_8, r_0_9, r_0_10, r_1_0, r_1_1, r_1_2, r_1_3, r_1_4, r_1_5, r_1_6, r_1_7, r_1_8, r_2_0, r_2_1, r_2_2, r_2_3, r_2_4, r_2_5, r_2_6, r_2_7, r_11_0, r_11_1, r_11_2, r_11_3, r_11_4, r_11_5, r_11_6, r_19_0, r_21_0, r_23_0, r_25_0, r_27_0, r_31_0, r_31_1, r_31_2, r_31_3, r_31_4, r_31_5, r_31_6, r_31_7, r_31_8, r_32_0, r_32_1, r_32_2, r_32_3, r_32_4, r_32_5, r_32_6, r_32_7, r_41_0, r_41_1, r_41_2, r_41_3, r_41_4, r_41_5, r_41_6, r_49_0, r_51_0, r_53_0, r_55_0, r_57_0, r_61_0, r_63_0, r_63_1, r_63_2, r_63_3, r_63_4, r_63_5, r_63_6, r_63_7, r_72_0, r_72_1, r_72_2, r_72_3, r_72_4, r_72_5, r_72_6, r_72_7, r_81_0, r_81_1, r_81_2, r_81_3, r_81_4, r_81_5, r_81_6, r_81_7, r_90_0, r_90_1, r_90_2, r_90_3, r_90_4, r_90_5, r_90_6, r_90_7, r_99_0, r_99_1, r_99_2, r_99_3, r_99_4, r_99_5, r_99_6, r_99_7, r_108_0, r_108_1, r_108_2, r_108_3, r_108_4, r_108_5, r_108_6, r_108_7, r_117_0, r_117_1, r_117_2, r_117_3, r_117_4, r_117_5, r_117_6, r_117_7, r_126_0, r_126_1, r_126_2, r_126_3, r_126_4, r_132_0, r_132_1, r_135_0, r_135_1, r_135_2, r_135_3, r_135_4, r_135_5, r_142_0, r_144_0, r_144_1, r_144_2, r_145_0, r_145_1, r_145_2, r_145_3, r_145_4, r_145_5, r_145_6, r_154_0, r_154_1, r_155_0, r_157_0, r_157_1, r_157_2, r_157_3, r_157_6, r_157_7, r_157_8, r_157_9, r_157_10, r_157_11, r_157_27, r_157_28, r_157_29, r_157_30, ↓z_m1, l_0, l_1, l_2, l_3, l_4, l_5, l_6, l_7, l_8, l_9, l_10, l_11, l_12, l_13, l_14, l_15, l_16, l_17, l_18, l_19, l_20, l_21, l_22, l_23, l_24, l_25, l_26, l_27, l_28, l_29, l_30, l_31, l_32, l_33, l_34, l_35, l_36, l_37, l_38, l_39, l_40, l_41, l_42, l_43, l_44, l_45, l_46, l_47, l_48, l_49, l_50, l_51, l_52, l_53, l_54, l_55, l_56, l_57, l_59, l_60, l_61, l_62, l_63, l_64, l_65, l_80, l_86, l_87, l_88, l_89, l_90, l_91, l_92, l_93, l_94, l_95, l_97, l_99, l_100, l_107, l_119, l_122, l_124, l_129, l_140, l_141, l_142, l_143, l_144, l_145, l_147, l_150, l_159, l_160, l_161, l_162, l_205, l_253, l_255, l_256, l_269, l_305, l_380, l_399, l_400, l_420, l_430, l_516, l_600, l_720, l_820, l_905, l_921, l_937, l_953, l_970, l_999, l_1000, l_1790, l_4096, l_9999, l_1000000]
    obtain ⟨m1, b1, b2, b3, b4, b5, b6, b7⟩ := m_tstart (k := 1) (l := 0) (s' := s3) (T := T) (by omega) (by rw [fr 165 (by omega) (by omega) (by omega) (by omega) (by omega) (by omega)]; exact hB5) (by rw [fr 157 (by omega) (by omega) (by omega) (by omega) (by omega) (by omega), hT2]; exact l3)
    obtain ⟨m', d1, d2, d3, d4⟩ := hm m1 b2 (by rw [b3 158 (by omega), fr 158 (by omega) (by omega) (by omega) (by omega) (by omega) (by omega)]; exact h86) (by rw [b3 158 (by omega), fr 158 (by omega) (by omega) (by omega) (by omega) (by omega) (by omega)]; exact h87)
    have fm : ∀ o, o ≠ 157 → o ≠ 164 → m' o = s3 o := fun o o1 o2 => by rw [d4.1 o o1 o2, b3 o o1]
    obtain ⟨m2, hm2⟩ : ∃ m2, m2 = q_up (q_up m' 157 16 (nI 0)) 157 4 (nI 0) := ⟨_, rfl⟩
    have fm2 : ∀ o, o ≠ 157 → m2 o = m' o := fun o o1 => by rw [hm2]; rw [z_upO o1, z_upO o1]
    have fm27 : ∀ a, a ≠ 4 → a ≠ 16 → m2 157 a = m' 157 a := fun a a1 a2 => by rw [hm2]; rw [z_upK a1, z_upK a2]
    have x16 : m2 157 16 = nI 0 := by rw [hm2]; rw [z_upK (by omega)]; exact z_upS
    have x4 : m2 157 4 = nI 0 := by rw [hm2]; exact z_upS
    have v2 : m2 158 = σ 158 := by rw [fm2 158 (by omega), fm 158 (by omega) (by omega), fr 158 (by omega) (by omega) (by omega) (by omega) (by omega) (by omega)]
    obtain ⟨m3, p1, p2, p3, pE⟩ := m_putsH (N := N) (mu := mu) (me := me) (V := σ 158) (sc := s') (σ := m2) e4 hmu (by rw [fm27 15 (by omega) (by omega)]; exact d2) (fun i hi => by
      have := d3 i hi
      unfold zr_L at *
      rw [fm2 164 (by omega)]
      exact this) v2
    have vo : ∀ a, a < 905 → (a < 129 ∨ 141 ≤ a) ∧ a ≠ 90 → m3 158 a = σ 158 a := fun a _ a2 => by rw [p3 a a2.1, z_uK a2.2]
    have vm : m3 158 90 = nI N := by rw [p3 90 (by omega)]; exact z_uS
    have fr3 : ∀ o, o ≠ 61 → o ≠ 142 → o ≠ 155 → o ≠ 156 → o ≠ 19 → o ≠ 20 → o ≠ 157 → o ≠ 158 → o ≠ 164 → m3 o = σ o := fun o o1 o2 o3 o4 o5 o6 o7 o8 o9 => by rw [p1 o o8, fm2 o o7, fm o o7 o9, fr o o1 o2 o3 o4 o5 o6]
    have fr4 : ∀ o, o ≠ 157 → o ≠ 158 → o ≠ 164 → m3 o = s3 o := fun o o1 o2 o3 => by rw [p1 o o2, fm2 o o1, fm o o1 o3]
    have fr5 : ∀ a, a ≠ 4 → a ≠ 15 → a ≠ 16 → a ≠ 17 → a ≠ 18 → a ≠ 19 → a ≠ 20 → a ≠ 21 → a ≠ 22 → m3 157 a = m1 157 a := fun a a1 a2 a3 a4 a5 a6 a7 a8 a9 => by rw [p1 157 (by omega), fm27 a a1 a3, d4.2 a a2 a4 a5 a6 a7 a8 a9]
    have eM : f_X12_text q_F 157 (nI 1) s3 = some (nI N, m3) := by
      rw [hm2] at pE
      unfold f_X12_text
      simp (disch := omega) only [m_isIn, ewI, b1, d1, f_X12_putsText, f_X12_forgets, pE, ↓reduceIte, ↓p_ld, ↓p_st, ↓p_nm, ↓p_nS, ↓p_jn, ↓p_call, ↓p_callv, ↓p_dv, ↓p_rem, h_ldE, h_stE, h_nmE, h_nSE, h_callE, h_callvE, h_dvE, h_remE, if_true, if_false, z_upS, z_upO, z_upK, nI_add, z_mul, z_sub, z_div, Nat.add_zero, Nat.mul_zero, Nat.zero_add, Nat.sub_zero, Nat.zero_mul, z_ltT, z_ltF, z_leT, z_leF, z_eqT, z_eqF, z_inT, z_clT, not_true_eq_false, not_false_eq_true, eq_self, true_or, or_true, z_m_lt, z_m_le, z_lt_m, z_le_m, z_eq_m, z_m_eq, z_rz0, z_rz1, z_m_add, z_of, r_157_0, r_157_1, r_157_2, r_157_3, r_157_6, r_157_7, r_157_8, r_157_9, r_157_10, r_157_11, r_157_27, r_157_28, r_157_29, r_157_30, ↓z_m1, l_0, l_1, l_2, l_3, l_4, l_5, l_6, l_7, l_8, l_9, l_10, l_11, l_12, l_13, l_14, l_15, l_16, l_17, l_18, l_19, l_20, l_21, l_22, l_23, l_24, l_25, l_26, l_27, l_28, l_29, l_30, l_31, l_32, l_33, l_34, l_35, l_36, l_37, l_38, l_39, l_40, l_41, l_42, l_43, l_44, l_45, l_46, l_47, l_48, l_49, l_50, l_51, l_52, l_53, l_54, l_55, l_56, l_57, l_59, l_60, l_61, l_62, l_63, l_64, l_65, l_80, l_86, l_87, l_88, l_89, l_90, l_91, l_92, l_93, l_94, l_95, l_97, l_99, l_100, l_107, l_119, l_122, l_124, l_129, l_140, l_141, l_142, l_143, l_144, l_145, l_147, l_150, l_159, l_160, l_161, l_162, l_205, l_253, l_255, l_256, l_269, l_305, l_380, l_399, l_400, l_420, l_430, l_516, l_600, l_720, l_820, l_905, l_921, l_937, l_953, l_970, l_999, l_1000, l_1790, l_4096, l_9999, l_1000000]
    refine ⟨nI N, s3, m3, eC, eM, ?_⟩
    have t2 : m3 19 2 = nI N := by rw [fr4 19 (by omega) (by omega) (by omega), f3 19 (by omega) (by omega)]; exact k3'
    have tc : ∀ j, j < 64 → m3 20 j = s' 156 j := fun j hj => by rw [fr4 20 (by omega) (by omega) (by omega), f3 20 (by omega) (by omega)]; exact k5' j hj
    refine z_Sim.text h ⟨hW.1.tr (fun o o1 o2 => fr3 o (by omega) (by omega) (by omega) (by omega) (by omega) (by omega) (by omega) (by omega) (by omega)) (vo 89 (by omega) (by omega)) (fun a ha => by rw [p3 a (by omega), z_uK (by omega)]), ?_, hW.2.2.1.tr (fr3 21 (by omega) (by omega) (by omega) (by omega) (by omega) (by omega) (by omega) (by omega) (by omega)) (fr3 22 (by omega) (by omega) (by omega) (by omega) (by omega) (by omega) (by omega) (by omega) (by omega)) (vo 91 (by omega) (by omega)) (fun a a1 a2 => vo a (by omega) (by omega)), hW.2.2.2.1.tr (fr3 23 (by omega) (by omega) (by omega) (by omega) (by omega) (by omega) (by omega) (by omega) (by omega)) (fr3 24 (by omega) (by omega) (by omega) (by omega) (by omega) (by omega) (by omega) (by omega) (by omega)) (vo 92 (by omega) (by omega)) (fun a a1 a2 => vo a (by omega) (by omega)), hW.2.2.2.2.1.tr (fr3 25 (by omega) (by omega) (by omega) (by omega) (by omega) (by omega) (by omega) (by omega) (by omega)) (fr3 26 (by omega) (by omega) (by omega) (by omega) (by omega) (by omega) (by omega) (by omega) (by omega)) (vo 93 (by omega) (by omega)) (fun a a1 a2 => vo a (by omega) (by omega)), hW.2.2.2.2.2.tr (fr3 27 (by omega) (by omega) (by omega) (by omega) (by omega) (by omega) (by omega) (by omega) (by omega)) (fr3 28 (by omega) (by omega) (by omega) (by omega) (by omega) (by omega) (by omega) (by omega) (by omega)) (vo 94 (by omega) (by omega)) (fun a a1 a2 => vo a (by omega) (by omega))⟩ (z_TP.z ?_ ?_ ?_ ?_) ?_ (fun a ha => vo a (by omega) (by omega)) (fun o ho => fr3 o (by omega) (by omega) (by omega) (by omega) (by omega) (by omega) (by omega) (by omega) (by omega)) ?_ ?_ ?_
    · refine ⟨N, e4, t2, vm, fun i hi => ?_, fun a ha => ?_⟩
      · obtain ⟨b, t, y1, y2, y3, y4, y5, y6, y7⟩ := (d3 i hi).1 rfl
        exact ⟨b, t, y1, y2, (tc _ (by omega)).trans y4, (tc _ (by omega)).trans y5⟩
      · obtain ⟨t, w1, w2, w3⟩ := zr_hor d3 hmu ha N (Nat.le_refl _)
        have eh : z_hor (m3 20) a N = z_hor (s' 156) a N := z_hor_congr N (fun j hj => tc j hj) e4
        refine ⟨?_, t, w1, w2, ?_⟩
        · show _ = z_hor (m3 20) a N
          rw [eh]; exact p2 a ha
        · rw [p2 a ha]; exact w3
    · rw [fr4 142 (by omega) (by omega) (by omega), hs3]; exact z_upS
    · rw [p1 157 (by omega)]; exact x16
    · rw [fr4 142 (by omega) (by omega) (by omega), hs3, z_upK (by omega), z_upO (by omega), k2 142 (by omega), e5, fr5 23 (by omega) (by omega) (by omega) (by omega) (by omega) (by omega) (by omega) (by omega) (by omega)]; exact b4.symm
    · rw [fr4 142 (by omega) (by omega) (by omega), hs3, z_upK (by omega), z_upO (by omega), k2 142 (by omega), e6, fr5 25 (by omega) (by omega) (by omega) (by omega) (by omega) (by omega) (by omega) (by omega) (by omega)]; exact b5.symm
    · exact z_HI.no h.2.2.1 (fr3 62 (by omega) (by omega) (by omega) (by omega) (by omega) (by omega) (by omega) (by omega) (by omega)) (by rw [fr4 61 (by omega) (by omega) (by omega), hs3, z_upO (by omega)]; exact z_upS) (by rw [p1 157 (by omega)]; exact x4)
    · rw [fr5 5 (by omega) (by omega) (by omega) (by omega) (by omega) (by omega) (by omega) (by omega) (by omega), b7, fr 157 (by omega) (by omega) (by omega) (by omega) (by omega) (by omega)]
    · obtain ⟨z1, z2, z3, z4, z5⟩ := hCA
      have ecap : m3 19 1 = σ 19 1 := by rw [fr4 19 (by omega) (by omega) (by omega), f3 19 (by omega) (by omega), k4 1 (by omega), fs 19 (by omega) (by omega) (by omega)]
      have zf : ∀ o, o ≠ 19 → 19 ≤ o → o ≤ 27 → o ≠ 20 → m3 o = σ o := fun o o1 o2 o3 o4 => fr3 o (by omega) (by omega) (by omega) (by omega) o1 o4 (by omega) (by omega) (by omega)
      exact ⟨ecap.trans z1, (congrFun (zf 21 (by omega) (by omega) (by omega) (by omega)) 1).trans z2, (congrFun (zf 23 (by omega) (by omega) (by omega) (by omega)) 1).trans z3, (congrFun (zf 25 (by omega) (by omega) (by omega) (by omega)) 1).trans z4, (congrFun (zf 27 (by omega) (by omega) (by omega) (by omega)) 1).trans z5⟩
    · rw [fr4 155 (by omega) (by omega) (by omega), f3 155 (by omega) (by omega), k2 155 (by omega)]; exact e3
  · have fs : ∀ o, o ≠ 142 → o ≠ 155 → o ≠ 156 → s' o = σ o := fun o o1 o2 o3 => by rw [f1.1 o o1 o2 o3, c5 o o1]
    have eC : f_X11_text q_F 0 (nI 1) σ = some (z_m, q_up s' 142 1 (nI 0)) := by
      unfold f_X11_text
      simp (disch := omega) only [c1, c_isWithin, ewC, e1, ↓reduceIte, ↓p_ld, ↓p_st, ↓p_nm, ↓p_nS, ↓p_jn, ↓p_call, ↓p_callv, ↓p_dv, ↓p_rem, h_ldE, h_stE, h_nmE, h_nSE, h_callE, h_callvE, h_dvE, h_remE, if_true, if_false, z_upS, z_upO, z_upK, nI_add, z_mul, z_sub, z_div, Nat.add_zero, Nat.mul_zero, Nat.zero_add, Nat.sub_zero, Nat.zero_mul, z_ltT, z_ltF, z_leT, z_leF, z_eqT, z_eqF, z_inT, z_clT, not_true_eq_false, not_false_eq_true, eq_self, true_or, or_true, z_m_lt, z_m_le, z_lt_m, z_le_m, z_eq_m, z_m_eq, z_rz0, z_rz1, z_m_add, z_of, r_0_0, r_0_1, r_0_3, r_0_4, r_0_5, r_0_6, r_0_7, r_0_8, r_0_9, r_0_10, r_1_0, r_1_1, r_1_2, r_1_3, r_1_4, r_1_5, r_1_6, r_1_7, r_1_8, r_2_0, r_2_1, r_2_2, r_2_3, r_2_4, r_2_5, r_2_6, r_2_7, r_11_0, r_11_1, r_11_2, r_11_3, r_11_4, r_11_5, r_11_6, r_19_0, r_21_0, r_23_0, r_25_0, r_27_0, r_31_0, r_31_1, r_31_2, r_31_3, r_31_4, r_31_5, r_31_6, r_31_7, r_31_8, r_32_0, r_32_1, r_32_2, r_32_3, r_32_4, r_32_5, r_32_6, r_32_7, r_41_0, r_41_1, r_41_2, r_41_3, r_41_4, r_41_5, r_41_6, r_49_0, r_51_0, r_53_0, r_55_0, r_57_0, r_61_0, r_63_0, r_63_1, r_63_2, r_63_3, r_63_4, r_63_5, r_63_6, r_63_7, r_72_0, r_72_1, r_72_2, r_72_3, r_72_4, r_72_5, r_72_6, r_72_7, r_81_0, r_81_1, r_81_2, r_81_3, r_81_4, r_81_5, r_81_6, r_81_7, r_90_0, r_90_1, r_90_2, r_90_3, r_90_4, r_90_5, r_90_6, r_90_7, r_99_0, r_99_1, r_99_2, r_99_3, r_99_4, r_99_5, r_99_6, r_99_7, r_108_0, r_108_1, r_108_2, r_108_3, r_108_4, r_108_5, r_108_6, r_108_7, r_117_0, r_117_1, r_117_2, r_117_3, r_117_4, r_117_5, r_117_6, r_117_7, r_126_0, r_126_1, r_126_2, r_126_3, r_126_4, r_132_0, r_132_1, r_135_0, r_135_1, r_135_2, r_135_3, r_135_4, r_135_5, r_142_0, r_144_0, r_144_1, r_144_2, r_145_0, r_145_1, r_145_2, r_145_3, r_145_4, r_145_5, r_145_6, r_154_0, r_154_1, r_155_0, r_157_0, r_157_1, r_157_2, r_157_3, r_157_6, r_157_7, r_157_8, r_157_9, r_157_10, r_157_11, r_157_27, r_157_28, r_157_29, r_157_30, ↓z_m1, l_0, l_1, l_2, l_3, l_4, l_5, l_6, l_7, l_8, l_9, l_10, l_11, l_12, l_13, l_14, l_15, l_16, l_17, l_18, l_19, l_20, l_21, l_22, l_23, l_24, l_25, l_26, l_27, l_28, l_29, l_30, l_31, l_32, l_33, l_34, l_35, l_36, l_37, l_38, l_39, l_40, l_41, l_42, l_43, l_44, l_45, l_46, l_47, l_48, l_49, l_50, l_51, l_52, l_53, l_54, l_55, l_56, l_57, l_59, l_60, l_61, l_62, l_63, l_64, l_65, l_80, l_86, l_87, l_88, l_89, l_90, l_91, l_92, l_93, l_94, l_95, l_97, l_99, l_100, l_107, l_119, l_122, l_124, l_129, l_140, l_141, l_142, l_143, l_144, l_145, l_147, l_150, l_159, l_160, l_161, l_162, l_205, l_253, l_255, l_256, l_269, l_305, l_380, l_399, l_400, l_420, l_430, l_516, l_600, l_720, l_820, l_905, l_921, l_937, l_953, l_970, l_999, l_1000, l_1790, l_4096, l_9999, l_1000000]
    have fr : ∀ o, o ≠ 142 → o ≠ 155 → o ≠ 156 → q_up s' 142 1 (nI 0) o = σ o := fun o o1 o2 o3 => by rw [z_upO o1, fs o o1 o2 o3]
    obtain ⟨m1, b1, b2, b3, b4, b5, b6, b7⟩ := m_tstart (k := 1) (l := 0) (s' := q_up s' 142 1 (nI 0)) (T := T) (by omega) (by rw [fr 165 (by omega) (by omega) (by omega)]; exact hB5) (by rw [fr 157 (by omega) (by omega) (by omega), hT2]; exact l3)
    obtain ⟨m', ff, q, d1, g6, g7, g21, g22, d4⟩ := hm m1 b2 (by rw [b3 158 (by omega), fr 158 (by omega) (by omega) (by omega)]; exact h86) (by rw [b3 158 (by omega), fr 158 (by omega) (by omega) (by omega)]; exact h87)
    have eM : f_X12_text q_F 157 (nI 1) (q_up s' 142 1 (nI 0)) = some (z_m, q_up (q_up (q_up m' 157 16 (nI 0)) 157 23 (nI ff)) 157 25 (nI q)) := by
      unfold f_X12_text
      simp (disch := omega) only [m_isIn, ewI, b1, d1, g21, g22, ↓reduceIte, ↓p_ld, ↓p_st, ↓p_nm, ↓p_nS, ↓p_jn, ↓p_call, ↓p_callv, ↓p_dv, ↓p_rem, h_ldE, h_stE, h_nmE, h_nSE, h_callE, h_callvE, h_dvE, h_remE, if_true, if_false, z_upS, z_upO, z_upK, nI_add, z_mul, z_sub, z_div, Nat.add_zero, Nat.mul_zero, Nat.zero_add, Nat.sub_zero, Nat.zero_mul, z_ltT, z_ltF, z_leT, z_leF, z_eqT, z_eqF, z_inT, z_clT, not_true_eq_false, not_false_eq_true, eq_self, true_or, or_true, z_m_lt, z_m_le, z_lt_m, z_le_m, z_eq_m, z_m_eq, z_rz0, z_rz1, z_m_add, z_of, r_157_0, r_157_1, r_157_2, r_157_3, r_157_6, r_157_7, r_157_8, r_157_9, r_157_10, r_157_11, r_157_27, r_157_28, r_157_29, r_157_30, ↓z_m1, l_0, l_1, l_2, l_3, l_4, l_5, l_6, l_7, l_8, l_9, l_10, l_11, l_12, l_13, l_14, l_15, l_16, l_17, l_18, l_19, l_20, l_21, l_22, l_23, l_24, l_25, l_26, l_27, l_28, l_29, l_30, l_31, l_32, l_33, l_34, l_35, l_36, l_37, l_38, l_39, l_40, l_41, l_42, l_43, l_44, l_45, l_46, l_47, l_48, l_49, l_50, l_51, l_52, l_53, l_54, l_55, l_56, l_57, l_59, l_60, l_61, l_62, l_63, l_64, l_65, l_80, l_86, l_87, l_88, l_89, l_90, l_91, l_92, l_93, l_94, l_95, l_97, l_99, l_100, l_107, l_119, l_122, l_124, l_129, l_140, l_141, l_142, l_143, l_144, l_145, l_147, l_150, l_159, l_160, l_161, l_162, l_205, l_253, l_255, l_256, l_269, l_305, l_380, l_399, l_400, l_420, l_430, l_516, l_600, l_720, l_820, l_905, l_921, l_937, l_953, l_970, l_999, l_1000, l_1790, l_4096, l_9999, l_1000000]
    have fm : ∀ o, o ≠ 157 → o ≠ 164 → q_up (q_up (q_up m' 157 16 (nI 0)) 157 23 (nI ff)) 157 25 (nI q) o = q_up s' 142 1 (nI 0) o := fun o o1 o2 => by rw [z_upO o1, z_upO o1, z_upO o1, d4.1 o o1 o2, b3 o o1]
    refine ⟨z_m, _, _, eC, eM, z_Sim.flt h (z_TP.z ?_ ?_ ?_ ?_) (fun o ho => ?_) ?_ ?_ ?_⟩
    · rw [fm 142 (by omega) (by omega)]; exact z_upS
    · rw [z_upK (by omega), z_upK (by omega)]; exact z_upS
    · rw [fm 142 (by omega) (by omega), z_upK (by omega), z_upK (by omega), z_upS]; exact g6
    · rw [fm 142 (by omega) (by omega), z_upK (by omega), z_upS]; exact g7
    · rw [fm o (by omega) (by omega)]; exact fr o (by omega) (by omega) (by omega)
    · rw [z_upK (by omega), z_upK (by omega), z_upK (by omega), d4.2 4 (by omega) (by omega) (by omega) (by omega) (by omega) (by omega) (by omega), b6, fr 157 (by omega) (by omega) (by omega)]
    · rw [z_upK (by omega), z_upK (by omega), z_upK (by omega), d4.2 5 (by omega) (by omega) (by omega) (by omega) (by omega) (by omega) (by omega), b7, fr 157 (by omega) (by omega) (by omega)]
    · rw [fm 155 (by omega) (by omega), z_upO (by omega), f1.2.2, c5 155 (by omega)]; exact f155
theorem P_text2 {σ : q_Sto} {mu me : Nat} (h : z_SimN σ mu me) : ∃ (r : Int32) (σ1 σ2 : q_Sto), f_X11_text q_F 0 (nI 2) σ = some (r, σ1) ∧ f_X12_text q_F 157 (nI 2) σ1 = some (r, σ2) ∧ z_SimN σ2 mu me := by
  obtain ⟨l, l1, l2, l3, l4, l5, l6⟩ := h.2.2.2.1
  have hC0 := z_Sim.C h
  have hmu := hC0.1.1
  have hme := hC0.1.2.1
  have g8 : σ 2 8 = nI mu := hC0.2.1.1.1
  have g9 : σ 2 9 = nI me := hC0.2.1.1.2.1
  have h86 := hC0.1.2.2.1
  have h87 := hC0.1.2.2.2.1
  have h12 := z_p12 hmu
  have hF : q_F = 20000 := rfl
  have hk : 2 = 1 ∨ 2 = 2 ∨ 2 = 3 ∨ 2 = 4 := by omega
  obtain ⟨T, hT⟩ : ∃ T : zt_T, T = (fun i => zn (σ 143 i), l) := ⟨_, rfl⟩
  have hB3 : zt_B (σ 143) T := by
    subst hT
    refine ⟨l1, fun i hi => ?_⟩
    obtain ⟨x1, x2⟩ := z_leE (l4 i hi).2 (by omega)
    exact ⟨x1, x2⟩
  have hB5 : zt_B (σ 165) T := by
    subst hT
    refine ⟨l1, fun i hi => ?_⟩
    obtain ⟨x1, x2⟩ := z_leE (l4 i hi).2 (by omega)
    exact ⟨(l4 i hi).1.symm.trans x1, x2⟩
  have hT2 : T.2 = l := by rw [hT]
  obtain ⟨s0, c1, c2, c3, c4, c5, c6⟩ := c_begin hB3 (by rw [hT2]; exact l2)
  have f155 : σ 155 1 = nI 16 := h.2.2.2.2.2.2.2
  have ewI : z_w (nI 2) (nI 0) (nI 4) = nI 1 := z_w_in (by omega) (by omega) (by omega)
  have ewC : z_w (nI 2) (nI 1) (nI 4) = nI 1 := z_w_in (by omega) (by omega) (by omega)
  obtain ⟨m0, -, hR0, hm0, -⟩ := m_tstart (k := 2) (l := 0) (s' := σ) (by omega) hB5 (by rw [hT2]; exact l3)
  have hW := h.2.1.2.1
  have hCA := h.2.2.2.2.2.1
  rcases j_text hk hmu hme c2 c3 c4 (by rw [c5 155 (by omega)]; exact f155) (by rw [c5 2 (by omega)]; exact g8) (by rw [c5 2 (by omega)]; exact g9) hR0 (by rw [hm0 158 (by omega)]; exact h86) (by rw [hm0 158 (by omega)]; exact h87) with ⟨s', N, e1, e2, e3, e4, e5, e6, f1, hm⟩ | ⟨s', e1, f1, hm⟩
  · have e4 : N ≤ 16 := e4
    have fs : ∀ o, o ≠ 142 → o ≠ 155 → o ≠ 156 → s' o = σ o := fun o o1 o2 o3 => by rw [f1.1 o o1 o2 o3, c5 o o1]
    have hcap : s' 21 1 = nI 16 := by rw [fs 21 (by omega) (by omega) (by omega)]; exact hCA.2.1
    obtain ⟨s2, k1, k2, k3, k4, k5⟩ := c_copyRows (n := q_F) (t := 21) (a := 155) (c := N) (cap := 16) (σ := s') rfl rfl (Or.inl (by omega)) e2 hcap e4 (by omega)
    have k3' : s2 21 2 = nI N := k3.trans e2
    have k5' : ∀ j, j < 64 → s2 22 j = s' 156 j := k5
    obtain ⟨s3, hs3⟩ : ∃ s3, s3 = q_up (q_up s2 61 1 (nI 0)) 142 1 (nI 0) := ⟨_, rfl⟩
    have f3 : ∀ o, o ≠ 61 → o ≠ 142 → s3 o = s2 o := fun o o1 o2 => by rw [hs3]; rw [z_upO o2, z_upO o1]
    have fr : ∀ o, o ≠ 61 → o ≠ 142 → o ≠ 155 → o ≠ 156 → o ≠ 21 → o ≠ 22 → s3 o = σ o := fun o o1 o2 o3 o4 o5 o6 => by rw [f3 o o1 o2, k2 o (by omega), fs o o2 o3 o4]
    have eC : f_X11_text q_F 0 (nI 2) σ = some (nI N, s3) := by
      rw [hs3]
      unfold f_X11_text f_X11_takeRows
      simp (disch := omega) only [c1, c_isWithin, ewC, e1, k1, f_X1_forget, k3', ↓reduceIte, ↓p_ld, ↓p_st, ↓p_nm, ↓p_nS, ↓p_jn, ↓p_call, ↓p_callv, ↓p_dv, ↓p_rem, h_ldE, h_stE, h_nmE, h_nSE, h_callE, h_callvE, h_dvE, h_remE, if_true, if_false, z_upS, z_upO, z_upK, nI_add, z_mul, z_sub, z_div, Nat.add_zero, Nat.mul_zero, Nat.zero_add, Nat.sub_zero, Nat.zero_mul, z_ltT, z_ltF, z_leT, z_leF, z_eqT, z_eqF, z_inT, z_clT, not_true_eq_false, not_false_eq_true, eq_self, true_or, or_true, z_m_lt, z_m_le, z_lt_m, z_le_m, z_eq_m, z_m_eq, z_rz0, z_rz1, z_m_add, z_of, r_0_0, r_0_1, r_0_3, r_0_4, r_0_5, r_0_6, r_0_7, r_0_8, r_0_9, r_0_10, r_1_0, r_1_1, r_1_2, r_1_3, r_1_4, r_1_5, r_1_6, r_1_7, r_1_8, r_2_0, r_2_1, r_2_2, r_2_3, r_2_4, r_2_5, r_2_6, r_2_7, r_11_0, r_11_1, r_11_2, r_11_3, r_11_4, r_11_5, r_11_6, r_19_0, r_21_0, r_23_0, r_25_0, r_27_0, r_31_0, r_31_1, r_31_2, r_31_3, r_31_4, r_31_5, r_31_6, r_31_7, r_31_8, r_32_0, r_32_1, r_32_2, r_32_3, r_32_4, r_32_5, r_32_6, r_32_7, r_41_0, r_41_1, r_41_2, r_41_3, r_41_4, r_41_5, r_41_6, r_49_0, r_51_0, r_53_0, r_55_0, r_57_0, r_61_0, r_63_0, r_63_1, r_63_2, r_63_3, r_63_4, r_63_5, r_63_6, r_63_7, r_72_0, r_72_1, r_72_2, r_72_3, r_72_4, r_72_5, r_72_6, r_72_7, r_81_0, r_81_1, r_81_2, r_81_3, r_81_4, r_81_5, r_81_6, r_81_7, r_90_0, r_90_1, r_90_2, r_90_3, r_90_4, r_90_5, r_90_6, r_90_7, r_99_0, r_99_1, r_99_2, r_99_3, r_99_4, r_99_5, r_99_6, r_99_7, r_108_0, r_108_1, r_108_2, r_108_3, r_108_4, r_108_5, r_108_6, r_108_7, r_117_0, r_117_1, r_117_2, r_117_3, r_117_4, r_117_5, r_117_6, r_117_7, r_126_0, r_126_1, r_126_2, r_126_3, r_126_4, r_132_0, r_132_1, r_135_0, r_135_1, r_135_2, r_135_3, r_135_4, r_135_5, r_142_0, r_144_0, r_144_1, r_144_2, r_145_0, r_145_1, r_145_2, r_145_3, r_145_4, r_145_5, r_145_6, r_154_0, r_154_1, r_155_0, r_157_0, r_157_1, r_157_2, r_157_3, r_157_6, r_157_7, r_157_8, r_157_9, r_157_10, r_157_11, r_157_27, r_157_28, r_157_29, r_157_30, ↓z_m1, l_0, l_1, l_2, l_3, l_4, l_5, l_6, l_7, l_8, l_9, l_10, l_11, l_12, l_13, l_14, l_15, l_16, l_17, l_18, l_19, l_20, l_21, l_22, l_23, l_24, l_25, l_26, l_27, l_28, l_29, l_30, l_31, l_32, l_33, l_34, l_35, l_36, l_37, l_38, l_39, l_40, l_41, l_42, l_43, l_44, l_45, l_46, l_47, l_48, l_49, l_50, l_51, l_52, l_53, l_54, l_55, l_56, l_57, l_59, l_60, l_61, l_62, l_63, l_64, l_65, l_80, l_86, l_87, l_88, l_89, l_90, l_91, l_92, l_93, l_94, l_95, l_97, l_99, l_100, l_107, l_119, l_122, l_124, l_129, l_140, l_141, l_142, l_143, l_144, l_145, l_147, l_150, l_159, l_160, l_161, l_162, l_205, l_253, l_255, l_256, l_269, l_305, l_380, l_399, l_400, l_420, l_430, l_516, l_600, l_720, l_820, l_905, l_921, l_937, l_953, l_970, l_999, l_1000, l_1790, l_4096, l_9999, l_1000000]
    obtain ⟨m1, b1, b2, b3, b4, b5, b6, b7⟩ := m_tstart (k := 2) (l := 0) (s' := s3) (T := T) (by omega) (by rw [fr 165 (by omega) (by omega) (by omega) (by omega) (by omega) (by omega)]; exact hB5) (by rw [fr 157 (by omega) (by omega) (by omega) (by omega) (by omega) (by omega), hT2]; exact l3)
    obtain ⟨m', d1, d2, d3, d4⟩ := hm m1 b2 (by rw [b3 158 (by omega), fr 158 (by omega) (by omega) (by omega) (by omega) (by omega) (by omega)]; exact h86) (by rw [b3 158 (by omega), fr 158 (by omega) (by omega) (by omega) (by omega) (by omega) (by omega)]; exact h87)
    have fm : ∀ o, o ≠ 157 → o ≠ 164 → m' o = s3 o := fun o o1 o2 => by rw [d4.1 o o1 o2, b3 o o1]
    obtain ⟨m2, hm2⟩ : ∃ m2, m2 = q_up (q_up m' 157 16 (nI 0)) 157 4 (nI 0) := ⟨_, rfl⟩
    have fm2 : ∀ o, o ≠ 157 → m2 o = m' o := fun o o1 => by rw [hm2]; rw [z_upO o1, z_upO o1]
    have fm27 : ∀ a, a ≠ 4 → a ≠ 16 → m2 157 a = m' 157 a := fun a a1 a2 => by rw [hm2]; rw [z_upK a1, z_upK a2]
    have x16 : m2 157 16 = nI 0 := by rw [hm2]; rw [z_upK (by omega)]; exact z_upS
    have x4 : m2 157 4 = nI 0 := by rw [hm2]; exact z_upS
    have v2 : m2 158 = σ 158 := by rw [fm2 158 (by omega), fm 158 (by omega) (by omega), fr 158 (by omega) (by omega) (by omega) (by omega) (by omega) (by omega)]
    obtain ⟨m3, p1, p2, pE⟩ := m_puts2 (many := 91) (place := 141) (each := 4) (N := N) (V := σ 158) (R := m' 164) (σ := m2) (by omega) (by omega) (by omega) (by omega) (by rw [fm27 15 (by omega) (by omega)]; exact d2) (fm2 164 (by omega)) v2
    have vo : ∀ a, a < 1790 → (a < 141 ∨ 205 ≤ a) ∧ a ≠ 91 → m3 158 a = σ 158 a := fun a _ a2 => by rw [p2, z_rw_o (by omega), z_uK a2.2]
    have vm : m3 158 91 = nI N := by rw [p2, z_rw_o (by omega)]; exact z_uS
    have vi : ∀ j, j < 4 * N → m3 158 (141+j) = m' 164 j := fun j hj => by rw [p2, z_rw_i hj]
    have fr3 : ∀ o, o ≠ 61 → o ≠ 142 → o ≠ 155 → o ≠ 156 → o ≠ 21 → o ≠ 22 → o ≠ 157 → o ≠ 158 → o ≠ 164 → m3 o = σ o := fun o o1 o2 o3 o4 o5 o6 o7 o8 o9 => by rw [p1 o o8, fm2 o o7, fm o o7 o9, fr o o1 o2 o3 o4 o5 o6]
    have fr4 : ∀ o, o ≠ 157 → o ≠ 158 → o ≠ 164 → m3 o = s3 o := fun o o1 o2 o3 => by rw [p1 o o2, fm2 o o1, fm o o1 o3]
    have fr5 : ∀ a, a ≠ 4 → a ≠ 15 → a ≠ 16 → a ≠ 17 → a ≠ 18 → a ≠ 19 → a ≠ 20 → a ≠ 21 → a ≠ 22 → m3 157 a = m1 157 a := fun a a1 a2 a3 a4 a5 a6 a7 a8 a9 => by rw [p1 157 (by omega), fm27 a a1 a3, d4.2 a a2 a4 a5 a6 a7 a8 a9]
    have eM : f_X12_text q_F 157 (nI 2) s3 = some (nI N, m3) := by
      rw [hm2] at pE
      unfold f_X12_text
      simp (disch := omega) only [m_isIn, ewI, b1, d1, f_X12_putsText, f_X12_forgets, pE, ↓reduceIte, ↓p_ld, ↓p_st, ↓p_nm, ↓p_nS, ↓p_jn, ↓p_call, ↓p_callv, ↓p_dv, ↓p_rem, h_ldE, h_stE, h_nmE, h_nSE, h_callE, h_callvE, h_dvE, h_remE, if_true, if_false, z_upS, z_upO, z_upK, nI_add, z_mul, z_sub, z_div, Nat.add_zero, Nat.mul_zero, Nat.zero_add, Nat.sub_zero, Nat.zero_mul, z_ltT, z_ltF, z_leT, z_leF, z_eqT, z_eqF, z_inT, z_clT, not_true_eq_false, not_false_eq_true, eq_self, true_or, or_true, z_m_lt, z_m_le, z_lt_m, z_le_m, z_eq_m, z_m_eq, z_rz0, z_rz1, z_m_add, z_of, r_157_0, r_157_1, r_157_2, r_157_3, r_157_6, r_157_7, r_157_8, r_157_9, r_157_10, r_157_11, r_157_27, r_157_28, r_157_29, r_157_30, ↓z_m1, l_0, l_1, l_2, l_3, l_4, l_5, l_6, l_7, l_8, l_9, l_10, l_11, l_12, l_13, l_14, l_15, l_16, l_17, l_18, l_19, l_20, l_21, l_22, l_23, l_24, l_25, l_26, l_27, l_28, l_29, l_30, l_31, l_32, l_33, l_34, l_35, l_36, l_37, l_38, l_39, l_40, l_41, l_42, l_43, l_44, l_45, l_46, l_47, l_48, l_49, l_50, l_51, l_52, l_53, l_54, l_55, l_56, l_57, l_59, l_60, l_61, l_62, l_63, l_64, l_65, l_80, l_86, l_87, l_88, l_89, l_90, l_91, l_92, l_93, l_94, l_95, l_97, l_99, l_100, l_107, l_119, l_122, l_124, l_129, l_140, l_141, l_142, l_143, l_144, l_145, l_147, l_150, l_159, l_160, l_161, l_162, l_205, l_253, l_255, l_256, l_269, l_305, l_380, l_399, l_400, l_420, l_430, l_516, l_600, l_720, l_820, l_905, l_921, l_937, l_953, l_970, l_999, l_1000, l_1790, l_4096, l_9999, l_1000000]
    refine ⟨nI N, s3, m3, eC, eM, ?_⟩
    have t2 : m3 21 2 = nI N := by rw [fr4 21 (by omega) (by omega) (by omega), f3 21 (by omega) (by omega)]; exact k3'
    have tc : ∀ j, j < 64 → m3 22 j = s' 156 j := fun j hj => by rw [fr4 22 (by omega) (by omega) (by omega), f3 22 (by omega) (by omega)]; exact k5' j hj
    refine z_Sim.text h ⟨hW.1.tr (fun o o1 o2 => fr3 o (by omega) (by omega) (by omega) (by omega) (by omega) (by omega) (by omega) (by omega) (by omega)) (vo 89 (by omega) (by omega)) (fun a ha => by rw [p2, z_rw_o (by omega), z_uK (by omega)]), hW.2.1.tr (fr3 19 (by omega) (by omega) (by omega) (by omega) (by omega) (by omega) (by omega) (by omega) (by omega)) (fr3 20 (by omega) (by omega) (by omega) (by omega) (by omega) (by omega) (by omega) (by omega) (by omega)) (vo 90 (by omega) (by omega)) (fun a a1 a2 => vo a (by omega) (by omega)), ?_, hW.2.2.2.1.tr (fr3 23 (by omega) (by omega) (by omega) (by omega) (by omega) (by omega) (by omega) (by omega) (by omega)) (fr3 24 (by omega) (by omega) (by omega) (by omega) (by omega) (by omega) (by omega) (by omega) (by omega)) (vo 92 (by omega) (by omega)) (fun a a1 a2 => vo a (by omega) (by omega)), hW.2.2.2.2.1.tr (fr3 25 (by omega) (by omega) (by omega) (by omega) (by omega) (by omega) (by omega) (by omega) (by omega)) (fr3 26 (by omega) (by omega) (by omega) (by omega) (by omega) (by omega) (by omega) (by omega) (by omega)) (vo 93 (by omega) (by omega)) (fun a a1 a2 => vo a (by omega) (by omega)), hW.2.2.2.2.2.tr (fr3 27 (by omega) (by omega) (by omega) (by omega) (by omega) (by omega) (by omega) (by omega) (by omega)) (fr3 28 (by omega) (by omega) (by omega) (by omega) (by omega) (by omega) (by omega) (by omega) (by omega)) (vo 94 (by omega) (by omega)) (fun a a1 a2 => vo a (by omega) (by omega))⟩ (z_TP.z ?_ ?_ ?_ ?_) ?_ (fun a ha => vo a (by omega) (by omega)) (fun o ho => fr3 o (by omega) (by omega) (by omega) (by omega) (by omega) (by omega) (by omega) (by omega) (by omega)) ?_ ?_ ?_
    · refine ⟨N, e4, t2, vm, fun i hi => ?_⟩
      obtain ⟨y1, y2, y3, y4, y5⟩ := (d3 i hi).2.1 rfl
      have w0 := vi (4*i) (by omega)
      have w1 := vi (4*i+1) (by omega)
      have w2 := vi (4*i+2) (by omega)
      have w3 := vi (4*i+3) (by omega)
      rw [← Nat.add_assoc] at w1 w2 w3
      show m3 22 (i*4) = _ ∧ m3 22 (i*4+2) = _ ∧ m3 22 (i*4+3) = _ ∧ _ ∧ ((_ ∧ m3 22 (i*4+1) = _) ∨ (_ ∧ m3 22 (i*4+1) = _ ∧ _) ∨ (_ ∧ m3 22 (i*4+1) = _ ∧ _) ∨ (_ ∧ m3 22 (i*4+1) = _ ∧ _) ∨ (_ ∧ m3 22 (i*4+1) = _ ∧ _))
      rw [tc (i*4) (by omega), tc (i*4+1) (by omega), tc (i*4+2) (by omega), tc (i*4+3) (by omega), w0, w1, w2, w3]
      exact ⟨y1, y2, y3, y4, y5⟩
    · rw [fr4 142 (by omega) (by omega) (by omega), hs3]; exact z_upS
    · rw [p1 157 (by omega)]; exact x16
    · rw [fr4 142 (by omega) (by omega) (by omega), hs3, z_upK (by omega), z_upO (by omega), k2 142 (by omega), e5, fr5 23 (by omega) (by omega) (by omega) (by omega) (by omega) (by omega) (by omega) (by omega) (by omega)]; exact b4.symm
    · rw [fr4 142 (by omega) (by omega) (by omega), hs3, z_upK (by omega), z_upO (by omega), k2 142 (by omega), e6, fr5 25 (by omega) (by omega) (by omega) (by omega) (by omega) (by omega) (by omega) (by omega) (by omega)]; exact b5.symm
    · exact z_HI.no h.2.2.1 (fr3 62 (by omega) (by omega) (by omega) (by omega) (by omega) (by omega) (by omega) (by omega) (by omega)) (by rw [fr4 61 (by omega) (by omega) (by omega), hs3, z_upO (by omega)]; exact z_upS) (by rw [p1 157 (by omega)]; exact x4)
    · rw [fr5 5 (by omega) (by omega) (by omega) (by omega) (by omega) (by omega) (by omega) (by omega) (by omega), b7, fr 157 (by omega) (by omega) (by omega) (by omega) (by omega) (by omega)]
    · obtain ⟨z1, z2, z3, z4, z5⟩ := hCA
      have ecap : m3 21 1 = σ 21 1 := by rw [fr4 21 (by omega) (by omega) (by omega), f3 21 (by omega) (by omega), k4 1 (by omega), fs 21 (by omega) (by omega) (by omega)]
      have zf : ∀ o, o ≠ 21 → 19 ≤ o → o ≤ 27 → o ≠ 22 → m3 o = σ o := fun o o1 o2 o3 o4 => fr3 o (by omega) (by omega) (by omega) (by omega) o1 o4 (by omega) (by omega) (by omega)
      exact ⟨(congrFun (zf 19 (by omega) (by omega) (by omega) (by omega)) 1).trans z1, ecap.trans z2, (congrFun (zf 23 (by omega) (by omega) (by omega) (by omega)) 1).trans z3, (congrFun (zf 25 (by omega) (by omega) (by omega) (by omega)) 1).trans z4, (congrFun (zf 27 (by omega) (by omega) (by omega) (by omega)) 1).trans z5⟩
    · rw [fr4 155 (by omega) (by omega) (by omega), f3 155 (by omega) (by omega), k2 155 (by omega)]; exact e3
  · have fs : ∀ o, o ≠ 142 → o ≠ 155 → o ≠ 156 → s' o = σ o := fun o o1 o2 o3 => by rw [f1.1 o o1 o2 o3, c5 o o1]
    have eC : f_X11_text q_F 0 (nI 2) σ = some (z_m, q_up s' 142 1 (nI 0)) := by
      unfold f_X11_text
      simp (disch := omega) only [c1, c_isWithin, ewC, e1, ↓reduceIte, ↓p_ld, ↓p_st, ↓p_nm, ↓p_nS, ↓p_jn, ↓p_call, ↓p_callv, ↓p_dv, ↓p_rem, h_ldE, h_stE, h_nmE, h_nSE, h_callE, h_callvE, h_dvE, h_remE, if_true, if_false, z_upS, z_upO, z_upK, nI_add, z_mul, z_sub, z_div, Nat.add_zero, Nat.mul_zero, Nat.zero_add, Nat.sub_zero, Nat.zero_mul, z_ltT, z_ltF, z_leT, z_leF, z_eqT, z_eqF, z_inT, z_clT, not_true_eq_false, not_false_eq_true, eq_self, true_or, or_true, z_m_lt, z_m_le, z_lt_m, z_le_m, z_eq_m, z_m_eq, z_rz0, z_rz1, z_m_add, z_of, r_0_0, r_0_1, r_0_3, r_0_4, r_0_5, r_0_6, r_0_7, r_0_8, r_0_9, r_0_10, r_1_0, r_1_1, r_1_2, r_1_3, r_1_4, r_1_5, r_1_6, r_1_7, r_1_8, r_2_0, r_2_1, r_2_2, r_2_3, r_2_4, r_2_5, r_2_6, r_2_7, r_11_0, r_11_1, r_11_2, r_11_3, r_11_4, r_11_5, r_11_6, r_19_0, r_21_0, r_23_0, r_25_0, r_27_0, r_31_0, r_31_1, r_31_2, r_31_3, r_31_4, r_31_5, r_31_6, r_31_7, r_31_8, r_32_0, r_32_1, r_32_2, r_32_3, r_32_4, r_32_5, r_32_6, r_32_7, r_41_0, r_41_1, r_41_2, r_41_3, r_41_4, r_41_5, r_41_6, r_49_0, r_51_0, r_53_0, r_55_0, r_57_0, r_61_0, r_63_0, r_63_1, r_63_2, r_63_3, r_63_4, r_63_5, r_63_6, r_63_7, r_72_0, r_72_1, r_72_2, r_72_3, r_72_4, r_72_5, r_72_6, r_72_7, r_81_0, r_81_1, r_81_2, r_81_3, r_81_4, r_81_5, r_81_6, r_81_7, r_90_0, r_90_1, r_90_2, r_90_3, r_90_4, r_90_5, r_90_6, r_90_7, r_99_0, r_99_1, r_99_2, r_99_3, r_99_4, r_99_5, r_99_6, r_99_7, r_108_0, r_108_1, r_108_2, r_108_3, r_108_4, r_108_5, r_108_6, r_108_7, r_117_0, r_117_1, r_117_2, r_117_3, r_117_4, r_117_5, r_117_6, r_117_7, r_126_0, r_126_1, r_126_2, r_126_3, r_126_4, r_132_0, r_132_1, r_135_0, r_135_1, r_135_2, r_135_3, r_135_4, r_135_5, r_142_0, r_144_0, r_144_1, r_144_2, r_145_0, r_145_1, r_145_2, r_145_3, r_145_4, r_145_5, r_145_6, r_154_0, r_154_1, r_155_0, r_157_0, r_157_1, r_157_2, r_157_3, r_157_6, r_157_7, r_157_8, r_157_9, r_157_10, r_157_11, r_157_27, r_157_28, r_157_29, r_157_30, ↓z_m1, l_0, l_1, l_2, l_3, l_4, l_5, l_6, l_7, l_8, l_9, l_10, l_11, l_12, l_13, l_14, l_15, l_16, l_17, l_18, l_19, l_20, l_21, l_22, l_23, l_24, l_25, l_26, l_27, l_28, l_29, l_30, l_31, l_32, l_33, l_34, l_35, l_36, l_37, l_38, l_39, l_40, l_41, l_42, l_43, l_44, l_45, l_46, l_47, l_48, l_49, l_50, l_51, l_52, l_53, l_54, l_55, l_56, l_57, l_59, l_60, l_61, l_62, l_63, l_64, l_65, l_80, l_86, l_87, l_88, l_89, l_90, l_91, l_92, l_93, l_94, l_95, l_97, l_99, l_100, l_107, l_119, l_122, l_124, l_129, l_140, l_141, l_142, l_143, l_144, l_145, l_147, l_150, l_159, l_160, l_161, l_162, l_205, l_253, l_255, l_256, l_269, l_305, l_380, l_399, l_400, l_420, l_430, l_516, l_600, l_720, l_820, l_905, l_921, l_937, l_953, l_970, l_999, l_1000, l_1790, l_4096, l_9999, l_1000000]
    have fr : ∀ o, o ≠ 142 → o ≠ 155 → o ≠ 156 → q_up s' 142 1 (nI 0) o = σ o := fun o o1 o2 o3 => by rw [z_upO o1, fs o o1 o2 o3]
    obtain ⟨m1, b1, b2, b3, b4, b5, b6, b7⟩ := m_tstart (k := 2) (l := 0) (s' := q_up s' 142 1 (nI 0)) (T := T) (by omega) (by rw [fr 165 (by omega) (by omega) (by omega)]; exact hB5) (by rw [fr 157 (by omega) (by omega) (by omega), hT2]; exact l3)
    obtain ⟨m', ff, q, d1, g6, g7, g21, g22, d4⟩ := hm m1 b2 (by rw [b3 158 (by omega), fr 158 (by omega) (by omega) (by omega)]; exact h86) (by rw [b3 158 (by omega), fr 158 (by omega) (by omega) (by omega)]; exact h87)
    have eM : f_X12_text q_F 157 (nI 2) (q_up s' 142 1 (nI 0)) = some (z_m, q_up (q_up (q_up m' 157 16 (nI 0)) 157 23 (nI ff)) 157 25 (nI q)) := by
      unfold f_X12_text
      simp (disch := omega) only [m_isIn, ewI, b1, d1, g21, g22, ↓reduceIte, ↓p_ld, ↓p_st, ↓p_nm, ↓p_nS, ↓p_jn, ↓p_call, ↓p_callv, ↓p_dv, ↓p_rem, h_ldE, h_stE, h_nmE, h_nSE, h_callE, h_callvE, h_dvE, h_remE, if_true, if_false, z_upS, z_upO, z_upK, nI_add, z_mul, z_sub, z_div, Nat.add_zero, Nat.mul_zero, Nat.zero_add, Nat.sub_zero, Nat.zero_mul, z_ltT, z_ltF, z_leT, z_leF, z_eqT, z_eqF, z_inT, z_clT, not_true_eq_false, not_false_eq_true, eq_self, true_or, or_true, z_m_lt, z_m_le, z_lt_m, z_le_m, z_eq_m, z_m_eq, z_rz0, z_rz1, z_m_add, z_of, r_157_0, r_157_1, r_157_2, r_157_3, r_157_6, r_157_7, r_157_8, r_157_9, r_157_10, r_157_11, r_157_27, r_157_28, r_157_29, r_157_30, ↓z_m1, l_0, l_1, l_2, l_3, l_4, l_5, l_6, l_7, l_8, l_9, l_10, l_11, l_12, l_13, l_14, l_15, l_16, l_17, l_18, l_19, l_20, l_21, l_22, l_23, l_24, l_25, l_26, l_27, l_28, l_29, l_30, l_31, l_32, l_33, l_34, l_35, l_36, l_37, l_38, l_39, l_40, l_41, l_42, l_43, l_44, l_45, l_46, l_47, l_48, l_49, l_50, l_51, l_52, l_53, l_54, l_55, l_56, l_57, l_59, l_60, l_61, l_62, l_63, l_64, l_65, l_80, l_86, l_87, l_88, l_89, l_90, l_91, l_92, l_93, l_94, l_95, l_97, l_99, l_100, l_107, l_119, l_122, l_124, l_129, l_140, l_141, l_142, l_143, l_144, l_145, l_147, l_150, l_159, l_160, l_161, l_162, l_205, l_253, l_255, l_256, l_269, l_305, l_380, l_399, l_400, l_420, l_430, l_516, l_600, l_720, l_820, l_905, l_921, l_937, l_953, l_970, l_999, l_1000, l_1790, l_4096, l_9999, l_1000000]
    have fm : ∀ o, o ≠ 157 → o ≠ 164 → q_up (q_up (q_up m' 157 16 (nI 0)) 157 23 (nI ff)) 157 25 (nI q) o = q_up s' 142 1 (nI 0) o := fun o o1 o2 => by rw [z_upO o1, z_upO o1, z_upO o1, d4.1 o o1 o2, b3 o o1]
    refine ⟨z_m, _, _, eC, eM, z_Sim.flt h (z_TP.z ?_ ?_ ?_ ?_) (fun o ho => ?_) ?_ ?_ ?_⟩
    · rw [fm 142 (by omega) (by omega)]; exact z_upS
    · rw [z_upK (by omega), z_upK (by omega)]; exact z_upS
    · rw [fm 142 (by omega) (by omega), z_upK (by omega), z_upK (by omega), z_upS]; exact g6
    · rw [fm 142 (by omega) (by omega), z_upK (by omega), z_upS]; exact g7
    · rw [fm o (by omega) (by omega)]; exact fr o (by omega) (by omega) (by omega)
    · rw [z_upK (by omega), z_upK (by omega), z_upK (by omega), d4.2 4 (by omega) (by omega) (by omega) (by omega) (by omega) (by omega) (by omega), b6, fr 157 (by omega) (by omega) (by omega)]
    · rw [z_upK (by omega), z_upK (by omega), z_upK (by omega), d4.2 5 (by omega) (by omega) (by omega) (by omega) (by omega) (by omega) (by omega), b7, fr 157 (by omega) (by omega) (by omega)]
    · rw [fm 155 (by omega) (by omega), z_upO (by omega), f1.2.2, c5 155 (by omega)]; exact f155
theorem P_text3 {σ : q_Sto} {mu me : Nat} (h : z_SimN σ mu me) : ∃ (r : Int32) (σ1 σ2 : q_Sto), f_X11_text q_F 0 (nI 3) σ = some (r, σ1) ∧ f_X12_text q_F 157 (nI 3) σ1 = some (r, σ2) ∧ z_SimN σ2 mu me := by
  obtain ⟨l, l1, l2, l3, l4, l5, l6⟩ := h.2.2.2.1
  have hC0 := z_Sim.C h
  have hmu := hC0.1.1
  have hme := hC0.1.2.1
  have g8 : σ 2 8 = nI mu := hC0.2.1.1.1
  have g9 : σ 2 9 = nI me := hC0.2.1.1.2.1
  have h86 := hC0.1.2.2.1
  have h87 := hC0.1.2.2.2.1
  have h12 := z_p12 hmu
  have hF : q_F = 20000 := rfl
  have hk : 3 = 1 ∨ 3 = 2 ∨ 3 = 3 ∨ 3 = 4 := by omega
  obtain ⟨T, hT⟩ : ∃ T : zt_T, T = (fun i => zn (σ 143 i), l) := ⟨_, rfl⟩
  have hB3 : zt_B (σ 143) T := by
    subst hT
    refine ⟨l1, fun i hi => ?_⟩
    obtain ⟨x1, x2⟩ := z_leE (l4 i hi).2 (by omega)
    exact ⟨x1, x2⟩
  have hB5 : zt_B (σ 165) T := by
    subst hT
    refine ⟨l1, fun i hi => ?_⟩
    obtain ⟨x1, x2⟩ := z_leE (l4 i hi).2 (by omega)
    exact ⟨(l4 i hi).1.symm.trans x1, x2⟩
  have hT2 : T.2 = l := by rw [hT]
  obtain ⟨s0, c1, c2, c3, c4, c5, c6⟩ := c_begin hB3 (by rw [hT2]; exact l2)
  have f155 : σ 155 1 = nI 16 := h.2.2.2.2.2.2.2
  have ewI : z_w (nI 3) (nI 0) (nI 4) = nI 1 := z_w_in (by omega) (by omega) (by omega)
  have ewC : z_w (nI 3) (nI 1) (nI 4) = nI 1 := z_w_in (by omega) (by omega) (by omega)
  obtain ⟨m0, -, hR0, hm0, -⟩ := m_tstart (k := 3) (l := 0) (s' := σ) (by omega) hB5 (by rw [hT2]; exact l3)
  have hW := h.2.1.2.1
  have hCA := h.2.2.2.2.2.1
  rcases j_text hk hmu hme c2 c3 c4 (by rw [c5 155 (by omega)]; exact f155) (by rw [c5 2 (by omega)]; exact g8) (by rw [c5 2 (by omega)]; exact g9) hR0 (by rw [hm0 158 (by omega)]; exact h86) (by rw [hm0 158 (by omega)]; exact h87) with ⟨s', N, e1, e2, e3, e4, e5, e6, f1, hm⟩ | ⟨s', e1, f1, hm⟩
  · have e4 : N ≤ 16 := e4
    have fs : ∀ o, o ≠ 142 → o ≠ 155 → o ≠ 156 → s' o = σ o := fun o o1 o2 o3 => by rw [f1.1 o o1 o2 o3, c5 o o1]
    have hcap : s' 23 1 = nI 16 := by rw [fs 23 (by omega) (by omega) (by omega)]; exact hCA.2.2.1
    obtain ⟨s2, k1, k2, k3, k4, k5⟩ := c_copyRows (n := q_F) (t := 23) (a := 155) (c := N) (cap := 16) (σ := s') rfl rfl (Or.inl (by omega)) e2 hcap e4 (by omega)
    have k3' : s2 23 2 = nI N := k3.trans e2
    have k5' : ∀ j, j < 64 → s2 24 j = s' 156 j := k5
    obtain ⟨s3, hs3⟩ : ∃ s3, s3 = q_up (q_up s2 61 1 (nI 0)) 142 1 (nI 0) := ⟨_, rfl⟩
    have f3 : ∀ o, o ≠ 61 → o ≠ 142 → s3 o = s2 o := fun o o1 o2 => by rw [hs3]; rw [z_upO o2, z_upO o1]
    have fr : ∀ o, o ≠ 61 → o ≠ 142 → o ≠ 155 → o ≠ 156 → o ≠ 23 → o ≠ 24 → s3 o = σ o := fun o o1 o2 o3 o4 o5 o6 => by rw [f3 o o1 o2, k2 o (by omega), fs o o2 o3 o4]
    have eC : f_X11_text q_F 0 (nI 3) σ = some (nI N, s3) := by
      rw [hs3]
      unfold f_X11_text f_X11_takeRows
      simp (disch := omega) only [c1, c_isWithin, ewC, e1, k1, f_X1_forget, k3', ↓reduceIte, ↓p_ld, ↓p_st, ↓p_nm, ↓p_nS, ↓p_jn, ↓p_call, ↓p_callv, ↓p_dv, ↓p_rem, h_ldE, h_stE, h_nmE, h_nSE, h_callE, h_callvE, h_dvE, h_remE, if_true, if_false, z_upS, z_upO, z_upK, nI_add, z_mul, z_sub, z_div, Nat.add_zero, Nat.mul_zero, Nat.zero_add, Nat.sub_zero, Nat.zero_mul, z_ltT, z_ltF, z_leT, z_leF, z_eqT, z_eqF, z_inT, z_clT, not_true_eq_false, not_false_eq_true, eq_self, true_or, or_true, z_m_lt, z_m_le, z_lt_m, z_le_m, z_eq_m, z_m_eq, z_rz0, z_rz1, z_m_add, z_of, r_0_0, r_0_1, r_0_3, r_0_4, r_0_5, r_0_6, r_0_7, r_0_8, r_0_9, r_0_10, r_1_0, r_1_1, r_1_2, r_1_3, r_1_4, r_1_5, r_1_6, r_1_7, r_1_8, r_2_0, r_2_1, r_2_2, r_2_3, r_2_4, r_2_5, r_2_6, r_2_7, r_11_0, r_11_1, r_11_2, r_11_3, r_11_4, r_11_5, r_11_6, r_19_0, r_21_0, r_23_0, r_25_0, r_27_0, r_31_0, r_31_1, r_31_2, r_31_3, r_31_4, r_31_5, r_31_6, r_31_7, r_31_8, r_32_0, r_32_1, r_32_2, r_32_3, r_32_4, r_32_5, r_32_6, r_32_7, r_41_0, r_41_1, r_41_2, r_41_3, r_41_4, r_41_5, r_41_6, r_49_0, r_51_0, r_53_0, r_55_0, r_57_0, r_61_0, r_63_0, r_63_1, r_63_2, r_63_3, r_63_4, r_63_5, r_63_6, r_63_7, r_72_0, r_72_1, r_72_2, r_72_3, r_72_4, r_72_5, r_72_6, r_72_7, r_81_0, r_81_1, r_81_2, r_81_3, r_81_4, r_81_5, r_81_6, r_81_7, r_90_0, r_90_1, r_90_2, r_90_3, r_90_4, r_90_5, r_90_6, r_90_7, r_99_0, r_99_1, r_99_2, r_99_3, r_99_4, r_99_5, r_99_6, r_99_7, r_108_0, r_108_1, r_108_2, r_108_3, r_108_4, r_108_5, r_108_6, r_108_7, r_117_0, r_117_1, r_117_2, r_117_3, r_117_4, r_117_5, r_117_6, r_117_7, r_126_0, r_126_1, r_126_2, r_126_3, r_126_4, r_132_0, r_132_1, r_135_0, r_135_1, r_135_2, r_135_3, r_135_4, r_135_5, r_142_0, r_144_0, r_144_1, r_144_2, r_145_0, r_145_1, r_145_2, r_145_3, r_145_4, r_145_5, r_145_6, r_154_0, r_154_1, r_155_0, r_157_0, r_157_1, r_157_2, r_157_3, r_157_6, r_157_7, r_157_8, r_157_9, r_157_10, r_157_11, r_157_27, r_157_28, r_157_29, r_157_30, ↓z_m1, l_0, l_1, l_2, l_3, l_4, l_5, l_6, l_7, l_8, l_9, l_10, l_11, l_12, l_13, l_14, l_15, l_16, l_17, l_18, l_19, l_20, l_21, l_22, l_23, l_24, l_25, l_26, l_27, l_28, l_29, l_30, l_31, l_32, l_33, l_34, l_35, l_36, l_37, l_38, l_39, l_40, l_41, l_42, l_43, l_44, l_45, l_46, l_47, l_48, l_49, l_50, l_51, l_52, l_53, l_54, l_55, l_56, l_57, l_59, l_60, l_61, l_62, l_63, l_64, l_65, l_80, l_86, l_87, l_88, l_89, l_90, l_91, l_92, l_93, l_94, l_95, l_97, l_99, l_100, l_107, l_119, l_122, l_124, l_129, l_140, l_141, l_142, l_143, l_144, l_145, l_147, l_150, l_159, l_160, l_161, l_162, l_205, l_253, l_255, l_256, l_269, l_305, l_380, l_399, l_400, l_420, l_430, l_516, l_600, l_720, l_820, l_905, l_921, l_937, l_953, l_970, l_999, l_1000, l_1790, l_4096, l_9999, l_1000000]
    obtain ⟨m1, b1, b2, b3, b4, b5, b6, b7⟩ := m_tstart (k := 3) (l := 0) (s' := s3) (T := T) (by omega) (by rw [fr 165 (by omega) (by omega) (by omega) (by omega) (by omega) (by omega)]; exact hB5) (by rw [fr 157 (by omega) (by omega) (by omega) (by omega) (by omega) (by omega), hT2]; exact l3)
    obtain ⟨m', d1, d2, d3, d4⟩ := hm m1 b2 (by rw [b3 158 (by omega), fr 158 (by omega) (by omega) (by omega) (by omega) (by omega) (by omega)]; exact h86) (by rw [b3 158 (by omega), fr 158 (by omega) (by omega) (by omega) (by omega) (by omega) (by omega)]; exact h87)
    have fm : ∀ o, o ≠ 157 → o ≠ 164 → m' o = s3 o := fun o o1 o2 => by rw [d4.1 o o1 o2, b3 o o1]
    obtain ⟨m2, hm2⟩ : ∃ m2, m2 = q_up (q_up m' 157 16 (nI 0)) 157 4 (nI 0) := ⟨_, rfl⟩
    have fm2 : ∀ o, o ≠ 157 → m2 o = m' o := fun o o1 => by rw [hm2]; rw [z_upO o1, z_upO o1]
    have fm27 : ∀ a, a ≠ 4 → a ≠ 16 → m2 157 a = m' 157 a := fun a a1 a2 => by rw [hm2]; rw [z_upK a1, z_upK a2]
    have x16 : m2 157 16 = nI 0 := by rw [hm2]; rw [z_upK (by omega)]; exact z_upS
    have x4 : m2 157 4 = nI 0 := by rw [hm2]; exact z_upS
    have v2 : m2 158 = σ 158 := by rw [fm2 158 (by omega), fm 158 (by omega) (by omega), fr 158 (by omega) (by omega) (by omega) (by omega) (by omega) (by omega)]
    obtain ⟨m3, p1, p2, pE⟩ := m_puts2 (many := 92) (place := 205) (each := 3) (N := N) (V := σ 158) (R := m' 164) (σ := m2) (by omega) (by omega) (by omega) (by omega) (by rw [fm27 15 (by omega) (by omega)]; exact d2) (fm2 164 (by omega)) v2
    have vo : ∀ a, a < 1790 → (a < 205 ∨ 253 ≤ a) ∧ a ≠ 92 → m3 158 a = σ 158 a := fun a _ a2 => by rw [p2, z_rw_o (by omega), z_uK a2.2]
    have vm : m3 158 92 = nI N := by rw [p2, z_rw_o (by omega)]; exact z_uS
    have vi : ∀ j, j < 3 * N → m3 158 (205+j) = m' 164 j := fun j hj => by rw [p2, z_rw_i hj]
    have fr3 : ∀ o, o ≠ 61 → o ≠ 142 → o ≠ 155 → o ≠ 156 → o ≠ 23 → o ≠ 24 → o ≠ 157 → o ≠ 158 → o ≠ 164 → m3 o = σ o := fun o o1 o2 o3 o4 o5 o6 o7 o8 o9 => by rw [p1 o o8, fm2 o o7, fm o o7 o9, fr o o1 o2 o3 o4 o5 o6]
    have fr4 : ∀ o, o ≠ 157 → o ≠ 158 → o ≠ 164 → m3 o = s3 o := fun o o1 o2 o3 => by rw [p1 o o2, fm2 o o1, fm o o1 o3]
    have fr5 : ∀ a, a ≠ 4 → a ≠ 15 → a ≠ 16 → a ≠ 17 → a ≠ 18 → a ≠ 19 → a ≠ 20 → a ≠ 21 → a ≠ 22 → m3 157 a = m1 157 a := fun a a1 a2 a3 a4 a5 a6 a7 a8 a9 => by rw [p1 157 (by omega), fm27 a a1 a3, d4.2 a a2 a4 a5 a6 a7 a8 a9]
    have eM : f_X12_text q_F 157 (nI 3) s3 = some (nI N, m3) := by
      rw [hm2] at pE
      unfold f_X12_text
      simp (disch := omega) only [m_isIn, ewI, b1, d1, f_X12_putsText, f_X12_forgets, pE, ↓reduceIte, ↓p_ld, ↓p_st, ↓p_nm, ↓p_nS, ↓p_jn, ↓p_call, ↓p_callv, ↓p_dv, ↓p_rem, h_ldE, h_stE, h_nmE, h_nSE, h_callE, h_callvE, h_dvE, h_remE, if_true, if_false, z_upS, z_upO, z_upK, nI_add, z_mul, z_sub, z_div, Nat.add_zero, Nat.mul_zero, Nat.zero_add, Nat.sub_zero, Nat.zero_mul, z_ltT, z_ltF, z_leT, z_leF, z_eqT, z_eqF, z_inT, z_clT, not_true_eq_false, not_false_eq_true, eq_self, true_or, or_true, z_m_lt, z_m_le, z_lt_m, z_le_m, z_eq_m, z_m_eq, z_rz0, z_rz1, z_m_add, z_of, r_157_0, r_157_1, r_157_2, r_157_3, r_157_6, r_157_7, r_157_8, r_157_9, r_157_10, r_157_11, r_157_27, r_157_28, r_157_29, r_157_30, ↓z_m1, l_0, l_1, l_2, l_3, l_4, l_5, l_6, l_7, l_8, l_9, l_10, l_11, l_12, l_13, l_14, l_15, l_16, l_17, l_18, l_19, l_20, l_21, l_22, l_23, l_24, l_25, l_26, l_27, l_28, l_29, l_30, l_31, l_32, l_33, l_34, l_35, l_36, l_37, l_38, l_39, l_40, l_41, l_42, l_43, l_44, l_45, l_46, l_47, l_48, l_49, l_50, l_51, l_52, l_53, l_54, l_55, l_56, l_57, l_59, l_60, l_61, l_62, l_63, l_64, l_65, l_80, l_86, l_87, l_88, l_89, l_90, l_91, l_92, l_93, l_94, l_95, l_97, l_99, l_100, l_107, l_119, l_122, l_124, l_129, l_140, l_141, l_142, l_143, l_144, l_145, l_147, l_150, l_159, l_160, l_161, l_162, l_205, l_253, l_255, l_256, l_269, l_305, l_380, l_399, l_400, l_420, l_430, l_516, l_600, l_720, l_820, l_905, l_921, l_937, l_953, l_970, l_999, l_1000, l_1790, l_4096, l_9999, l_1000000]
    refine ⟨nI N, s3, m3, eC, eM, ?_⟩
    have t2 : m3 23 2 = nI N := by rw [fr4 23 (by omega) (by omega) (by omega), f3 23 (by omega) (by omega)]; exact k3'
    have tc : ∀ j, j < 64 → m3 24 j = s' 156 j := fun j hj => by rw [fr4 24 (by omega) (by omega) (by omega), f3 24 (by omega) (by omega)]; exact k5' j hj
    refine z_Sim.text h ⟨hW.1.tr (fun o o1 o2 => fr3 o (by omega) (by omega) (by omega) (by omega) (by omega) (by omega) (by omega) (by omega) (by omega)) (vo 89 (by omega) (by omega)) (fun a ha => by rw [p2, z_rw_o (by omega), z_uK (by omega)]), hW.2.1.tr (fr3 19 (by omega) (by omega) (by omega) (by omega) (by omega) (by omega) (by omega) (by omega) (by omega)) (fr3 20 (by omega) (by omega) (by omega) (by omega) (by omega) (by omega) (by omega) (by omega) (by omega)) (vo 90 (by omega) (by omega)) (fun a a1 a2 => vo a (by omega) (by omega)), hW.2.2.1.tr (fr3 21 (by omega) (by omega) (by omega) (by omega) (by omega) (by omega) (by omega) (by omega) (by omega)) (fr3 22 (by omega) (by omega) (by omega) (by omega) (by omega) (by omega) (by omega) (by omega) (by omega)) (vo 91 (by omega) (by omega)) (fun a a1 a2 => vo a (by omega) (by omega)), ?_, hW.2.2.2.2.1.tr (fr3 25 (by omega) (by omega) (by omega) (by omega) (by omega) (by omega) (by omega) (by omega) (by omega)) (fr3 26 (by omega) (by omega) (by omega) (by omega) (by omega) (by omega) (by omega) (by omega) (by omega)) (vo 93 (by omega) (by omega)) (fun a a1 a2 => vo a (by omega) (by omega)), hW.2.2.2.2.2.tr (fr3 27 (by omega) (by omega) (by omega) (by omega) (by omega) (by omega) (by omega) (by omega) (by omega)) (fr3 28 (by omega) (by omega) (by omega) (by omega) (by omega) (by omega) (by omega) (by omega) (by omega)) (vo 94 (by omega) (by omega)) (fun a a1 a2 => vo a (by omega) (by omega))⟩ (z_TP.z ?_ ?_ ?_ ?_) ?_ (fun a ha => vo a (by omega) (by omega)) (fun o ho => fr3 o (by omega) (by omega) (by omega) (by omega) (by omega) (by omega) (by omega) (by omega) (by omega)) ?_ ?_ ?_
    · refine ⟨N, e4, t2, vm, fun i hi => ?_⟩
      obtain ⟨f, t, hh, y1, y2, y3, y4, y5, y6, y7, y8, y9, y10, y11⟩ := (d3 i hi).2.2.1 rfl
      have w0 := vi (3*i) (by omega)
      have w1 := vi (3*i+1) (by omega)
      have w2 := vi (3*i+2) (by omega)
      rw [← Nat.add_assoc] at w1 w2
      exact ⟨f, t, hh, y1, y2, y3, y4, y5, (tc _ (by omega)).trans y6, (tc _ (by omega)).trans y7, (tc _ (by omega)).trans y8, w0.trans y9, w1.trans y10, w2.trans y11⟩
    · rw [fr4 142 (by omega) (by omega) (by omega), hs3]; exact z_upS
    · rw [p1 157 (by omega)]; exact x16
    · rw [fr4 142 (by omega) (by omega) (by omega), hs3, z_upK (by omega), z_upO (by omega), k2 142 (by omega), e5, fr5 23 (by omega) (by omega) (by omega) (by omega) (by omega) (by omega) (by omega) (by omega) (by omega)]; exact b4.symm
    · rw [fr4 142 (by omega) (by omega) (by omega), hs3, z_upK (by omega), z_upO (by omega), k2 142 (by omega), e6, fr5 25 (by omega) (by omega) (by omega) (by omega) (by omega) (by omega) (by omega) (by omega) (by omega)]; exact b5.symm
    · exact z_HI.no h.2.2.1 (fr3 62 (by omega) (by omega) (by omega) (by omega) (by omega) (by omega) (by omega) (by omega) (by omega)) (by rw [fr4 61 (by omega) (by omega) (by omega), hs3, z_upO (by omega)]; exact z_upS) (by rw [p1 157 (by omega)]; exact x4)
    · rw [fr5 5 (by omega) (by omega) (by omega) (by omega) (by omega) (by omega) (by omega) (by omega) (by omega), b7, fr 157 (by omega) (by omega) (by omega) (by omega) (by omega) (by omega)]
    · obtain ⟨z1, z2, z3, z4, z5⟩ := hCA
      have ecap : m3 23 1 = σ 23 1 := by rw [fr4 23 (by omega) (by omega) (by omega), f3 23 (by omega) (by omega), k4 1 (by omega), fs 23 (by omega) (by omega) (by omega)]
      have zf : ∀ o, o ≠ 23 → 19 ≤ o → o ≤ 27 → o ≠ 24 → m3 o = σ o := fun o o1 o2 o3 o4 => fr3 o (by omega) (by omega) (by omega) (by omega) o1 o4 (by omega) (by omega) (by omega)
      exact ⟨(congrFun (zf 19 (by omega) (by omega) (by omega) (by omega)) 1).trans z1, (congrFun (zf 21 (by omega) (by omega) (by omega) (by omega)) 1).trans z2, ecap.trans z3, (congrFun (zf 25 (by omega) (by omega) (by omega) (by omega)) 1).trans z4, (congrFun (zf 27 (by omega) (by omega) (by omega) (by omega)) 1).trans z5⟩
    · rw [fr4 155 (by omega) (by omega) (by omega), f3 155 (by omega) (by omega), k2 155 (by omega)]; exact e3
  · have fs : ∀ o, o ≠ 142 → o ≠ 155 → o ≠ 156 → s' o = σ o := fun o o1 o2 o3 => by rw [f1.1 o o1 o2 o3, c5 o o1]
    have eC : f_X11_text q_F 0 (nI 3) σ = some (z_m, q_up s' 142 1 (nI 0)) := by
      unfold f_X11_text
      simp (disch := omega) only [c1, c_isWithin, ewC, e1, ↓reduceIte, ↓p_ld, ↓p_st, ↓p_nm, ↓p_nS, ↓p_jn, ↓p_call, ↓p_callv, ↓p_dv, ↓p_rem, h_ldE, h_stE, h_nmE, h_nSE, h_callE, h_callvE, h_dvE, h_remE, if_true, if_false, z_upS, z_upO, z_upK, nI_add, z_mul, z_sub, z_div, Nat.add_zero, Nat.mul_zero, Nat.zero_add, Nat.sub_zero, Nat.zero_mul, z_ltT, z_ltF, z_leT, z_leF, z_eqT, z_eqF, z_inT, z_clT, not_true_eq_false, not_false_eq_true, eq_self, true_or, or_true, z_m_lt, z_m_le, z_lt_m, z_le_m, z_eq_m, z_m_eq, z_rz0, z_rz1, z_m_add, z_of, r_0_0, r_0_1, r_0_3, r_0_4, r_0_5, r_0_6, r_0_7, r_0_8, r_0_9, r_0_10, r_1_0, r_1_1, r_1_2, r_1_3, r_1_4, r_1_5, r_1_6, r_1_7, r_1_8, r_2_0, r_2_1, r_2_2, r_2_3, r_2_4, r_2_5, r_2_6, r_2_7, r_11_0, r_11_1, r_11_2, r_11_3, r_11_4, r_11_5, r_11_6, r_19_0, r_21_0, r_23_0, r_25_0, r_27_0, r_31_0, r_31_1, r_31_2, r_31_3, r_31_4, r_31_5, r_31_6, r_31_7, r_31_8, r_32_0, r_32_1, r_32_2, r_32_3, r_32_4, r_32_5, r_32_6, r_32_7, r_41_0, r_41_1, r_41_2, r_41_3, r_41_4, r_41_5, r_41_6, r_49_0, r_51_0, r_53_0, r_55_0, r_57_0, r_61_0, r_63_0, r_63_1, r_63_2, r_63_3, r_63_4, r_63_5, r_63_6, r_63_7, r_72_0, r_72_1, r_72_2, r_72_3, r_72_4, r_72_5, r_72_6, r_72_7, r_81_0, r_81_1, r_81_2, r_81_3, r_81_4, r_81_5, r_81_6, r_81_7, r_90_0, r_90_1, r_90_2, r_90_3, r_90_4, r_90_5, r_90_6, r_90_7, r_99_0, r_99_1, r_99_2, r_99_3, r_99_4, r_99_5, r_99_6, r_99_7, r_108_0, r_108_1, r_108_2, r_108_3, r_108_4, r_108_5, r_108_6, r_108_7, r_117_0, r_117_1, r_117_2, r_117_3, r_117_4, r_117_5, r_117_6, r_117_7, r_126_0, r_126_1, r_126_2, r_126_3, r_126_4, r_132_0, r_132_1, r_135_0, r_135_1, r_135_2, r_135_3, r_135_4, r_135_5, r_142_0, r_144_0, r_144_1, r_144_2, r_145_0, r_145_1, r_145_2, r_145_3, r_145_4, r_145_5, r_145_6, r_154_0, r_154_1, r_155_0, r_157_0, r_157_1, r_157_2, r_157_3, r_157_6, r_157_7, r_157_8, r_157_9, r_157_10, r_157_11, r_157_27, r_157_28, r_157_29, r_157_30, ↓z_m1, l_0, l_1, l_2, l_3, l_4, l_5, l_6, l_7, l_8, l_9, l_10, l_11, l_12, l_13, l_14, l_15, l_16, l_17, l_18, l_19, l_20, l_21, l_22, l_23, l_24, l_25, l_26, l_27, l_28, l_29, l_30, l_31, l_32, l_33, l_34, l_35, l_36, l_37, l_38, l_39, l_40, l_41, l_42, l_43, l_44, l_45, l_46, l_47, l_48, l_49, l_50, l_51, l_52, l_53, l_54, l_55, l_56, l_57, l_59, l_60, l_61, l_62, l_63, l_64, l_65, l_80, l_86, l_87, l_88, l_89, l_90, l_91, l_92, l_93, l_94, l_95, l_97, l_99, l_100, l_107, l_119, l_122, l_124, l_129, l_140, l_141, l_142, l_143, l_144, l_145, l_147, l_150, l_159, l_160, l_161, l_162, l_205, l_253, l_255, l_256, l_269, l_305, l_380, l_399, l_400, l_420, l_430, l_516, l_600, l_720, l_820, l_905, l_921, l_937, l_953, l_970, l_999, l_1000, l_1790, l_4096, l_9999, l_1000000]
    have fr : ∀ o, o ≠ 142 → o ≠ 155 → o ≠ 156 → q_up s' 142 1 (nI 0) o = σ o := fun o o1 o2 o3 => by rw [z_upO o1, fs o o1 o2 o3]
    obtain ⟨m1, b1, b2, b3, b4, b5, b6, b7⟩ := m_tstart (k := 3) (l := 0) (s' := q_up s' 142 1 (nI 0)) (T := T) (by omega) (by rw [fr 165 (by omega) (by omega) (by omega)]; exact hB5) (by rw [fr 157 (by omega) (by omega) (by omega), hT2]; exact l3)
    obtain ⟨m', ff, q, d1, g6, g7, g21, g22, d4⟩ := hm m1 b2 (by rw [b3 158 (by omega), fr 158 (by omega) (by omega) (by omega)]; exact h86) (by rw [b3 158 (by omega), fr 158 (by omega) (by omega) (by omega)]; exact h87)
    have eM : f_X12_text q_F 157 (nI 3) (q_up s' 142 1 (nI 0)) = some (z_m, q_up (q_up (q_up m' 157 16 (nI 0)) 157 23 (nI ff)) 157 25 (nI q)) := by
      unfold f_X12_text
      simp (disch := omega) only [m_isIn, ewI, b1, d1, g21, g22, ↓reduceIte, ↓p_ld, ↓p_st, ↓p_nm, ↓p_nS, ↓p_jn, ↓p_call, ↓p_callv, ↓p_dv, ↓p_rem, h_ldE, h_stE, h_nmE, h_nSE, h_callE, h_callvE, h_dvE, h_remE, if_true, if_false, z_upS, z_upO, z_upK, nI_add, z_mul, z_sub, z_div, Nat.add_zero, Nat.mul_zero, Nat.zero_add, Nat.sub_zero, Nat.zero_mul, z_ltT, z_ltF, z_leT, z_leF, z_eqT, z_eqF, z_inT, z_clT, not_true_eq_false, not_false_eq_true, eq_self, true_or, or_true, z_m_lt, z_m_le, z_lt_m, z_le_m, z_eq_m, z_m_eq, z_rz0, z_rz1, z_m_add, z_of, r_157_0, r_157_1, r_157_2, r_157_3, r_157_6, r_157_7, r_157_8, r_157_9, r_157_10, r_157_11, r_157_27, r_157_28, r_157_29, r_157_30, ↓z_m1, l_0, l_1, l_2, l_3, l_4, l_5, l_6, l_7, l_8, l_9, l_10, l_11, l_12, l_13, l_14, l_15, l_16, l_17, l_18, l_19, l_20, l_21, l_22, l_23, l_24, l_25, l_26, l_27, l_28, l_29, l_30, l_31, l_32, l_33, l_34, l_35, l_36, l_37, l_38, l_39, l_40, l_41, l_42, l_43, l_44, l_45, l_46, l_47, l_48, l_49, l_50, l_51, l_52, l_53, l_54, l_55, l_56, l_57, l_59, l_60, l_61, l_62, l_63, l_64, l_65, l_80, l_86, l_87, l_88, l_89, l_90, l_91, l_92, l_93, l_94, l_95, l_97, l_99, l_100, l_107, l_119, l_122, l_124, l_129, l_140, l_141, l_142, l_143, l_144, l_145, l_147, l_150, l_159, l_160, l_161, l_162, l_205, l_253, l_255, l_256, l_269, l_305, l_380, l_399, l_400, l_420, l_430, l_516, l_600, l_720, l_820, l_905, l_921, l_937, l_953, l_970, l_999, l_1000, l_1790, l_4096, l_9999, l_1000000]
    have fm : ∀ o, o ≠ 157 → o ≠ 164 → q_up (q_up (q_up m' 157 16 (nI 0)) 157 23 (nI ff)) 157 25 (nI q) o = q_up s' 142 1 (nI 0) o := fun o o1 o2 => by rw [z_upO o1, z_upO o1, z_upO o1, d4.1 o o1 o2, b3 o o1]
    refine ⟨z_m, _, _, eC, eM, z_Sim.flt h (z_TP.z ?_ ?_ ?_ ?_) (fun o ho => ?_) ?_ ?_ ?_⟩
    · rw [fm 142 (by omega) (by omega)]; exact z_upS
    · rw [z_upK (by omega), z_upK (by omega)]; exact z_upS
    · rw [fm 142 (by omega) (by omega), z_upK (by omega), z_upK (by omega), z_upS]; exact g6
    · rw [fm 142 (by omega) (by omega), z_upK (by omega), z_upS]; exact g7
    · rw [fm o (by omega) (by omega)]; exact fr o (by omega) (by omega) (by omega)
    · rw [z_upK (by omega), z_upK (by omega), z_upK (by omega), d4.2 4 (by omega) (by omega) (by omega) (by omega) (by omega) (by omega) (by omega), b6, fr 157 (by omega) (by omega) (by omega)]
    · rw [z_upK (by omega), z_upK (by omega), z_upK (by omega), d4.2 5 (by omega) (by omega) (by omega) (by omega) (by omega) (by omega) (by omega), b7, fr 157 (by omega) (by omega) (by omega)]
    · rw [fm 155 (by omega) (by omega), z_upO (by omega), f1.2.2, c5 155 (by omega)]; exact f155
theorem P_text4 {σ : q_Sto} {mu me : Nat} (h : z_SimN σ mu me) : ∃ (r : Int32) (σ1 σ2 : q_Sto), f_X11_text q_F 0 (nI 4) σ = some (r, σ1) ∧ f_X12_text q_F 157 (nI 4) σ1 = some (r, σ2) ∧ z_SimN σ2 mu me := by
  obtain ⟨l, l1, l2, l3, l4, l5, l6⟩ := h.2.2.2.1
  have hC0 := z_Sim.C h
  have hmu := hC0.1.1
  have hme := hC0.1.2.1
  have g8 : σ 2 8 = nI mu := hC0.2.1.1.1
  have g9 : σ 2 9 = nI me := hC0.2.1.1.2.1
  have h86 := hC0.1.2.2.1
  have h87 := hC0.1.2.2.2.1
  have h12 := z_p12 hmu
  have hF : q_F = 20000 := rfl
  have hk : 4 = 1 ∨ 4 = 2 ∨ 4 = 3 ∨ 4 = 4 := by omega
  obtain ⟨T, hT⟩ : ∃ T : zt_T, T = (fun i => zn (σ 143 i), l) := ⟨_, rfl⟩
  have hB3 : zt_B (σ 143) T := by
    subst hT
    refine ⟨l1, fun i hi => ?_⟩
    obtain ⟨x1, x2⟩ := z_leE (l4 i hi).2 (by omega)
    exact ⟨x1, x2⟩
  have hB5 : zt_B (σ 165) T := by
    subst hT
    refine ⟨l1, fun i hi => ?_⟩
    obtain ⟨x1, x2⟩ := z_leE (l4 i hi).2 (by omega)
    exact ⟨(l4 i hi).1.symm.trans x1, x2⟩
  have hT2 : T.2 = l := by rw [hT]
  obtain ⟨s0, c1, c2, c3, c4, c5, c6⟩ := c_begin hB3 (by rw [hT2]; exact l2)
  have f155 : σ 155 1 = nI 16 := h.2.2.2.2.2.2.2
  have ewI : z_w (nI 4) (nI 0) (nI 4) = nI 1 := z_w_in (by omega) (by omega) (by omega)
  have ewC : z_w (nI 4) (nI 1) (nI 4) = nI 1 := z_w_in (by omega) (by omega) (by omega)
  obtain ⟨m0, -, hR0, hm0, -⟩ := m_tstart (k := 4) (l := 0) (s' := σ) (by omega) hB5 (by rw [hT2]; exact l3)
  have hW := h.2.1.2.1
  have hCA := h.2.2.2.2.2.1
  rcases j_text hk hmu hme c2 c3 c4 (by rw [c5 155 (by omega)]; exact f155) (by rw [c5 2 (by omega)]; exact g8) (by rw [c5 2 (by omega)]; exact g9) hR0 (by rw [hm0 158 (by omega)]; exact h86) (by rw [hm0 158 (by omega)]; exact h87) with ⟨s', N, e1, e2, e3, e4, e5, e6, f1, hm⟩ | ⟨s', e1, f1, hm⟩
  · have e4 : N ≤ 8 := e4
    have fs : ∀ o, o ≠ 142 → o ≠ 155 → o ≠ 156 → s' o = σ o := fun o o1 o2 o3 => by rw [f1.1 o o1 o2 o3, c5 o o1]
    have hcap : s' 25 1 = nI 8 := by rw [fs 25 (by omega) (by omega) (by omega)]; exact hCA.2.2.2.1
    obtain ⟨s2, k1, k2, k3, k4, k5⟩ := c_copyRows (n := q_F) (t := 25) (a := 155) (c := N) (cap := 8) (σ := s') rfl rfl (Or.inl (by omega)) e2 hcap e4 (by omega)
    have k3' : s2 25 2 = nI N := k3.trans e2
    have k5' : ∀ j, j < 64 → s2 26 j = s' 156 j := k5
    obtain ⟨s3, hs3⟩ : ∃ s3, s3 = q_up s2 142 1 (nI 0) := ⟨_, rfl⟩
    have f3 : ∀ o, o ≠ 61 → o ≠ 142 → s3 o = s2 o := fun o o1 o2 => by rw [hs3]; rw [z_upO o2]
    have fr : ∀ o, o ≠ 61 → o ≠ 142 → o ≠ 155 → o ≠ 156 → o ≠ 25 → o ≠ 26 → s3 o = σ o := fun o o1 o2 o3 o4 o5 o6 => by rw [f3 o o1 o2, k2 o (by omega), fs o o2 o3 o4]
    have eC : f_X11_text q_F 0 (nI 4) σ = some (nI N, s3) := by
      rw [hs3]
      unfold f_X11_text f_X11_takeRows
      simp (disch := omega) only [c1, c_isWithin, ewC, e1, k1, f_X1_forget, k3', ↓reduceIte, ↓p_ld, ↓p_st, ↓p_nm, ↓p_nS, ↓p_jn, ↓p_call, ↓p_callv, ↓p_dv, ↓p_rem, h_ldE, h_stE, h_nmE, h_nSE, h_callE, h_callvE, h_dvE, h_remE, if_true, if_false, z_upS, z_upO, z_upK, nI_add, z_mul, z_sub, z_div, Nat.add_zero, Nat.mul_zero, Nat.zero_add, Nat.sub_zero, Nat.zero_mul, z_ltT, z_ltF, z_leT, z_leF, z_eqT, z_eqF, z_inT, z_clT, not_true_eq_false, not_false_eq_true, eq_self, true_or, or_true, z_m_lt, z_m_le, z_lt_m, z_le_m, z_eq_m, z_m_eq, z_rz0, z_rz1, z_m_add, z_of, r_0_0, r_0_1, r_0_3, r_0_4, r_0_5, r_0_6, r_0_7, r_0_8, r_0_9, r_0_10, r_1_0, r_1_1, r_1_2, r_1_3, r_1_4, r_1_5, r_1_6, r_1_7, r_1_8, r_2_0, r_2_1, r_2_2, r_2_3, r_2_4, r_2_5, r_2_6, r_2_7, r_11_0, r_11_1, r_11_2, r_11_3, r_11_4, r_11_5, r_11_6, r_19_0, r_21_0, r_23_0, r_25_0, r_27_0, r_31_0, r_31_1, r_31_2, r_31_3, r_31_4, r_31_5, r_31_6, r_31_7, r_31_8, r_32_0, r_32_1, r_32_2, r_32_3, r_32_4, r_32_5, r_32_6, r_32_7, r_41_0, r_41_1, r_41_2, r_41_3, r_41_4, r_41_5, r_41_6, r_49_0, r_51_0, r_53_0, r_55_0, r_57_0, r_61_0, r_63_0, r_63_1, r_63_2, r_63_3, r_63_4, r_63_5, r_63_6, r_63_7, r_72_0, r_72_1, r_72_2, r_72_3, r_72_4, r_72_5, r_72_6, r_72_7, r_81_0, r_81_1, r_81_2, r_81_3, r_81_4, r_81_5, r_81_6, r_81_7, r_90_0, r_90_1, r_90_2, r_90_3, r_90_4, r_90_5, r_90_6, r_90_7, r_99_0, r_99_1, r_99_2, r_99_3, r_99_4, r_99_5, r_99_6, r_99_7, r_108_0, r_108_1, r_108_2, r_108_3, r_108_4, r_108_5, r_108_6, r_108_7, r_117_0, r_117_1, r_117_2, r_117_3, r_117_4, r_117_5, r_117_6, r_117_7, r_126_0, r_126_1, r_126_2, r_126_3, r_126_4, r_132_0, r_132_1, r_135_0, r_135_1, r_135_2, r_135_3, r_135_4, r_135_5, r_142_0, r_144_0, r_144_1, r_144_2, r_145_0, r_145_1, r_145_2, r_145_3, r_145_4, r_145_5, r_145_6, r_154_0, r_154_1, r_155_0, r_157_0, r_157_1, r_157_2, r_157_3, r_157_6, r_157_7, r_157_8, r_157_9, r_157_10, r_157_11, r_157_27, r_157_28, r_157_29, r_157_30, ↓z_m1, l_0, l_1, l_2, l_3, l_4, l_5, l_6, l_7, l_8, l_9, l_10, l_11, l_12, l_13, l_14, l_15, l_16, l_17, l_18, l_19, l_20, l_21, l_22, l_23, l_24, l_25, l_26, l_27, l_28, l_29, l_30, l_31, l_32, l_33, l_34, l_35, l_36, l_37, l_38, l_39, l_40, l_41, l_42, l_43, l_44, l_45, l_46, l_47, l_48, l_49, l_50, l_51, l_52, l_53, l_54, l_55, l_56, l_57, l_59, l_60, l_61, l_62, l_63, l_64, l_65, l_80, l_86, l_87, l_88, l_89, l_90, l_91, l_92, l_93, l_94, l_95, l_97, l_99, l_100, l_107, l_119, l_122, l_124, l_129, l_140, l_141, l_142, l_143, l_144, l_145, l_147, l_150, l_159, l_160, l_161, l_162, l_205, l_253, l_255, l_256, l_269, l_305, l_380, l_399, l_400, l_420, l_430, l_516, l_600, l_720, l_820, l_905, l_921, l_937, l_953, l_970, l_999, l_1000, l_1790, l_4096, l_9999, l_1000000]
    obtain ⟨m1, b1, b2, b3, b4, b5, b6, b7⟩ := m_tstart (k := 4) (l := 0) (s' := s3) (T := T) (by omega) (by rw [fr 165 (by omega) (by omega) (by omega) (by omega) (by omega) (by omega)]; exact hB5) (by rw [fr 157 (by omega) (by omega) (by omega) (by omega) (by omega) (by omega), hT2]; exact l3)
    obtain ⟨m', d1, d2, d3, d4⟩ := hm m1 b2 (by rw [b3 158 (by omega), fr 158 (by omega) (by omega) (by omega) (by omega) (by omega) (by omega)]; exact h86) (by rw [b3 158 (by omega), fr 158 (by omega) (by omega) (by omega) (by omega) (by omega) (by omega)]; exact h87)
    have fm : ∀ o, o ≠ 157 → o ≠ 164 → m' o = s3 o := fun o o1 o2 => by rw [d4.1 o o1 o2, b3 o o1]
    obtain ⟨m2, hm2⟩ : ∃ m2, m2 = q_up m' 157 16 (nI 0) := ⟨_, rfl⟩
    have fm2 : ∀ o, o ≠ 157 → m2 o = m' o := fun o o1 => by rw [hm2]; rw [z_upO o1]
    have fm27 : ∀ a, a ≠ 4 → a ≠ 16 → m2 157 a = m' 157 a := fun a a1 a2 => by rw [hm2]; rw [z_upK a2]
    have x16 : m2 157 16 = nI 0 := by rw [hm2]; exact z_upS
    have x4 : m2 157 4 = m' 157 4 := by rw [hm2]; rw [z_upK (by omega)]
    have v2 : m2 158 = σ 158 := by rw [fm2 158 (by omega), fm 158 (by omega) (by omega), fr 158 (by omega) (by omega) (by omega) (by omega) (by omega) (by omega)]
    obtain ⟨m3, p1, p2, pE⟩ := m_puts2 (many := 93) (place := 253) (each := 2) (N := N) (V := σ 158) (R := m' 164) (σ := m2) (by omega) (by omega) (by omega) (by omega) (by rw [fm27 15 (by omega) (by omega)]; exact d2) (fm2 164 (by omega)) v2
    have vo : ∀ a, a < 1790 → (a < 253 ∨ 269 ≤ a) ∧ a ≠ 93 → m3 158 a = σ 158 a := fun a _ a2 => by rw [p2, z_rw_o (by omega), z_uK a2.2]
    have vm : m3 158 93 = nI N := by rw [p2, z_rw_o (by omega)]; exact z_uS
    have vi : ∀ j, j < 2 * N → m3 158 (253+j) = m' 164 j := fun j hj => by rw [p2, z_rw_i hj]
    have fr3 : ∀ o, o ≠ 61 → o ≠ 142 → o ≠ 155 → o ≠ 156 → o ≠ 25 → o ≠ 26 → o ≠ 157 → o ≠ 158 → o ≠ 164 → m3 o = σ o := fun o o1 o2 o3 o4 o5 o6 o7 o8 o9 => by rw [p1 o o8, fm2 o o7, fm o o7 o9, fr o o1 o2 o3 o4 o5 o6]
    have fr4 : ∀ o, o ≠ 157 → o ≠ 158 → o ≠ 164 → m3 o = s3 o := fun o o1 o2 o3 => by rw [p1 o o2, fm2 o o1, fm o o1 o3]
    have fr5 : ∀ a, a ≠ 4 → a ≠ 15 → a ≠ 16 → a ≠ 17 → a ≠ 18 → a ≠ 19 → a ≠ 20 → a ≠ 21 → a ≠ 22 → m3 157 a = m1 157 a := fun a a1 a2 a3 a4 a5 a6 a7 a8 a9 => by rw [p1 157 (by omega), fm27 a a1 a3, d4.2 a a2 a4 a5 a6 a7 a8 a9]
    have eM : f_X12_text q_F 157 (nI 4) s3 = some (nI N, m3) := by
      rw [hm2] at pE
      unfold f_X12_text
      simp (disch := omega) only [m_isIn, ewI, b1, d1, f_X12_putsText, f_X12_forgets, pE, ↓reduceIte, ↓p_ld, ↓p_st, ↓p_nm, ↓p_nS, ↓p_jn, ↓p_call, ↓p_callv, ↓p_dv, ↓p_rem, h_ldE, h_stE, h_nmE, h_nSE, h_callE, h_callvE, h_dvE, h_remE, if_true, if_false, z_upS, z_upO, z_upK, nI_add, z_mul, z_sub, z_div, Nat.add_zero, Nat.mul_zero, Nat.zero_add, Nat.sub_zero, Nat.zero_mul, z_ltT, z_ltF, z_leT, z_leF, z_eqT, z_eqF, z_inT, z_clT, not_true_eq_false, not_false_eq_true, eq_self, true_or, or_true, z_m_lt, z_m_le, z_lt_m, z_le_m, z_eq_m, z_m_eq, z_rz0, z_rz1, z_m_add, z_of, r_157_0, r_157_1, r_157_2, r_157_3, r_157_6, r_157_7, r_157_8, r_157_9, r_157_10, r_157_11, r_157_27, r_157_28, r_157_29, r_157_30, ↓z_m1, l_0, l_1, l_2, l_3, l_4, l_5, l_6, l_7, l_8, l_9, l_10, l_11, l_12, l_13, l_14, l_15, l_16, l_17, l_18, l_19, l_20, l_21, l_22, l_23, l_24, l_25, l_26, l_27, l_28, l_29, l_30, l_31, l_32, l_33, l_34, l_35, l_36, l_37, l_38, l_39, l_40, l_41, l_42, l_43, l_44, l_45, l_46, l_47, l_48, l_49, l_50, l_51, l_52, l_53, l_54, l_55, l_56, l_57, l_59, l_60, l_61, l_62, l_63, l_64, l_65, l_80, l_86, l_87, l_88, l_89, l_90, l_91, l_92, l_93, l_94, l_95, l_97, l_99, l_100, l_107, l_119, l_122, l_124, l_129, l_140, l_141, l_142, l_143, l_144, l_145, l_147, l_150, l_159, l_160, l_161, l_162, l_205, l_253, l_255, l_256, l_269, l_305, l_380, l_399, l_400, l_420, l_430, l_516, l_600, l_720, l_820, l_905, l_921, l_937, l_953, l_970, l_999, l_1000, l_1790, l_4096, l_9999, l_1000000]
    refine ⟨nI N, s3, m3, eC, eM, ?_⟩
    have t2 : m3 25 2 = nI N := by rw [fr4 25 (by omega) (by omega) (by omega), f3 25 (by omega) (by omega)]; exact k3'
    have tc : ∀ j, j < 64 → m3 26 j = s' 156 j := fun j hj => by rw [fr4 26 (by omega) (by omega) (by omega), f3 26 (by omega) (by omega)]; exact k5' j hj
    refine z_Sim.text h ⟨hW.1.tr (fun o o1 o2 => fr3 o (by omega) (by omega) (by omega) (by omega) (by omega) (by omega) (by omega) (by omega) (by omega)) (vo 89 (by omega) (by omega)) (fun a ha => by rw [p2, z_rw_o (by omega), z_uK (by omega)]), hW.2.1.tr (fr3 19 (by omega) (by omega) (by omega) (by omega) (by omega) (by omega) (by omega) (by omega) (by omega)) (fr3 20 (by omega) (by omega) (by omega) (by omega) (by omega) (by omega) (by omega) (by omega) (by omega)) (vo 90 (by omega) (by omega)) (fun a a1 a2 => vo a (by omega) (by omega)), hW.2.2.1.tr (fr3 21 (by omega) (by omega) (by omega) (by omega) (by omega) (by omega) (by omega) (by omega) (by omega)) (fr3 22 (by omega) (by omega) (by omega) (by omega) (by omega) (by omega) (by omega) (by omega) (by omega)) (vo 91 (by omega) (by omega)) (fun a a1 a2 => vo a (by omega) (by omega)), hW.2.2.2.1.tr (fr3 23 (by omega) (by omega) (by omega) (by omega) (by omega) (by omega) (by omega) (by omega) (by omega)) (fr3 24 (by omega) (by omega) (by omega) (by omega) (by omega) (by omega) (by omega) (by omega) (by omega)) (vo 92 (by omega) (by omega)) (fun a a1 a2 => vo a (by omega) (by omega)), ?_, hW.2.2.2.2.2.tr (fr3 27 (by omega) (by omega) (by omega) (by omega) (by omega) (by omega) (by omega) (by omega) (by omega)) (fr3 28 (by omega) (by omega) (by omega) (by omega) (by omega) (by omega) (by omega) (by omega) (by omega)) (vo 94 (by omega) (by omega)) (fun a a1 a2 => vo a (by omega) (by omega))⟩ (z_TP.z ?_ ?_ ?_ ?_) ?_ (fun a ha => vo a (by omega) (by omega)) (fun o ho => fr3 o (by omega) (by omega) (by omega) (by omega) (by omega) (by omega) (by omega) (by omega) (by omega)) ?_ ?_ ?_
    · refine ⟨N, e4, t2, vm, fun i hi => ?_⟩
      obtain ⟨ll, w, y1, y2, y3, y4, y5, y6, y7, y8⟩ := (d3 i hi).2.2.2 rfl
      have w0 := vi (2*i) (by omega)
      have w1 := vi (2*i+1) (by omega)
      rw [← Nat.add_assoc] at w1
      exact ⟨ll, w, y1, y2, y3, y4, (tc _ (by omega)).trans y5, (tc _ (by omega)).trans y6, w0.trans y7, w1.trans y8⟩
    · rw [fr4 142 (by omega) (by omega) (by omega), hs3]; exact z_upS
    · rw [p1 157 (by omega)]; exact x16
    · rw [fr4 142 (by omega) (by omega) (by omega), hs3, z_upK (by omega), k2 142 (by omega), e5, fr5 23 (by omega) (by omega) (by omega) (by omega) (by omega) (by omega) (by omega) (by omega) (by omega)]; exact b4.symm
    · rw [fr4 142 (by omega) (by omega) (by omega), hs3, z_upK (by omega), k2 142 (by omega), e6, fr5 25 (by omega) (by omega) (by omega) (by omega) (by omega) (by omega) (by omega) (by omega) (by omega)]; exact b5.symm
    · exact z_HI.sam h.2.2.1 (fun o o1 o2 => by
        by_cases q61 : o = 61
        · subst q61
          rw [fr4 61 (by omega) (by omega) (by omega), hs3, z_upO (by omega), k2 61 (by omega), fs 61 (by omega) (by omega) (by omega)]
        · exact fr3 o q61 (by omega) (by omega) (by omega) (by omega) (by omega) (by omega) (by omega) (by omega)) (by rw [p1 157 (by omega), x4, d4.2 4 (by omega) (by omega) (by omega) (by omega) (by omega) (by omega) (by omega), b6, fr 157 (by omega) (by omega) (by omega) (by omega) (by omega) (by omega)]) (fr3 160 (by omega) (by omega) (by omega) (by omega) (by omega) (by omega) (by omega) (by omega) (by omega)) (fun a ha => vo a (by omega) (by omega))
    · rw [fr5 5 (by omega) (by omega) (by omega) (by omega) (by omega) (by omega) (by omega) (by omega) (by omega), b7, fr 157 (by omega) (by omega) (by omega) (by omega) (by omega) (by omega)]
    · obtain ⟨z1, z2, z3, z4, z5⟩ := hCA
      have ecap : m3 25 1 = σ 25 1 := by rw [fr4 25 (by omega) (by omega) (by omega), f3 25 (by omega) (by omega), k4 1 (by omega), fs 25 (by omega) (by omega) (by omega)]
      have zf : ∀ o, o ≠ 25 → 19 ≤ o → o ≤ 27 → o ≠ 26 → m3 o = σ o := fun o o1 o2 o3 o4 => fr3 o (by omega) (by omega) (by omega) (by omega) o1 o4 (by omega) (by omega) (by omega)
      exact ⟨(congrFun (zf 19 (by omega) (by omega) (by omega) (by omega)) 1).trans z1, (congrFun (zf 21 (by omega) (by omega) (by omega) (by omega)) 1).trans z2, (congrFun (zf 23 (by omega) (by omega) (by omega) (by omega)) 1).trans z3, ecap.trans z4, (congrFun (zf 27 (by omega) (by omega) (by omega) (by omega)) 1).trans z5⟩
    · rw [fr4 155 (by omega) (by omega) (by omega), f3 155 (by omega) (by omega), k2 155 (by omega)]; exact e3
  · have fs : ∀ o, o ≠ 142 → o ≠ 155 → o ≠ 156 → s' o = σ o := fun o o1 o2 o3 => by rw [f1.1 o o1 o2 o3, c5 o o1]
    have eC : f_X11_text q_F 0 (nI 4) σ = some (z_m, q_up s' 142 1 (nI 0)) := by
      unfold f_X11_text
      simp (disch := omega) only [c1, c_isWithin, ewC, e1, ↓reduceIte, ↓p_ld, ↓p_st, ↓p_nm, ↓p_nS, ↓p_jn, ↓p_call, ↓p_callv, ↓p_dv, ↓p_rem, h_ldE, h_stE, h_nmE, h_nSE, h_callE, h_callvE, h_dvE, h_remE, if_true, if_false, z_upS, z_upO, z_upK, nI_add, z_mul, z_sub, z_div, Nat.add_zero, Nat.mul_zero, Nat.zero_add, Nat.sub_zero, Nat.zero_mul, z_ltT, z_ltF, z_leT, z_leF, z_eqT, z_eqF, z_inT, z_clT, not_true_eq_false, not_false_eq_true, eq_self, true_or, or_true, z_m_lt, z_m_le, z_lt_m, z_le_m, z_eq_m, z_m_eq, z_rz0, z_rz1, z_m_add, z_of, r_0_0, r_0_1, r_0_3, r_0_4, r_0_5, r_0_6, r_0_7, r_0_8, r_0_9, r_0_10, r_1_0, r_1_1, r_1_2, r_1_3, r_1_4, r_1_5, r_1_6, r_1_7, r_1_8, r_2_0, r_2_1, r_2_2, r_2_3, r_2_4, r_2_5, r_2_6, r_2_7, r_11_0, r_11_1, r_11_2, r_11_3, r_11_4, r_11_5, r_11_6, r_19_0, r_21_0, r_23_0, r_25_0, r_27_0, r_31_0, r_31_1, r_31_2, r_31_3, r_31_4, r_31_5, r_31_6, r_31_7, r_31_8, r_32_0, r_32_1, r_32_2, r_32_3, r_32_4, r_32_5, r_32_6, r_32_7, r_41_0, r_41_1, r_41_2, r_41_3, r_41_4, r_41_5, r_41_6, r_49_0, r_51_0, r_53_0, r_55_0, r_57_0, r_61_0, r_63_0, r_63_1, r_63_2, r_63_3, r_63_4, r_63_5, r_63_6, r_63_7, r_72_0, r_72_1, r_72_2, r_72_3, r_72_4, r_72_5, r_72_6, r_72_7, r_81_0, r_81_1, r_81_2, r_81_3, r_81_4, r_81_5, r_81_6, r_81_7, r_90_0, r_90_1, r_90_2, r_90_3, r_90_4, r_90_5, r_90_6, r_90_7, r_99_0, r_99_1, r_99_2, r_99_3, r_99_4, r_99_5, r_99_6, r_99_7, r_108_0, r_108_1, r_108_2, r_108_3, r_108_4, r_108_5, r_108_6, r_108_7, r_117_0, r_117_1, r_117_2, r_117_3, r_117_4, r_117_5, r_117_6, r_117_7, r_126_0, r_126_1, r_126_2, r_126_3, r_126_4, r_132_0, r_132_1, r_135_0, r_135_1, r_135_2, r_135_3, r_135_4, r_135_5, r_142_0, r_144_0, r_144_1, r_144_2, r_145_0, r_145_1, r_145_2, r_145_3, r_145_4, r_145_5, r_145_6, r_154_0, r_154_1, r_155_0, r_157_0, r_157_1, r_157_2, r_157_3, r_157_6, r_157_7, r_157_8, r_157_9, r_157_10, r_157_11, r_157_27, r_157_28, r_157_29, r_157_30, ↓z_m1, l_0, l_1, l_2, l_3, l_4, l_5, l_6, l_7, l_8, l_9, l_10, l_11, l_12, l_13, l_14, l_15, l_16, l_17, l_18, l_19, l_20, l_21, l_22, l_23, l_24, l_25, l_26, l_27, l_28, l_29, l_30, l_31, l_32, l_33, l_34, l_35, l_36, l_37, l_38, l_39, l_40, l_41, l_42, l_43, l_44, l_45, l_46, l_47, l_48, l_49, l_50, l_51, l_52, l_53, l_54, l_55, l_56, l_57, l_59, l_60, l_61, l_62, l_63, l_64, l_65, l_80, l_86, l_87, l_88, l_89, l_90, l_91, l_92, l_93, l_94, l_95, l_97, l_99, l_100, l_107, l_119, l_122, l_124, l_129, l_140, l_141, l_142, l_143, l_144, l_145, l_147, l_150, l_159, l_160, l_161, l_162, l_205, l_253, l_255, l_256, l_269, l_305, l_380, l_399, l_400, l_420, l_430, l_516, l_600, l_720, l_820, l_905, l_921, l_937, l_953, l_970, l_999, l_1000, l_1790, l_4096, l_9999, l_1000000]
    have fr : ∀ o, o ≠ 142 → o ≠ 155 → o ≠ 156 → q_up s' 142 1 (nI 0) o = σ o := fun o o1 o2 o3 => by rw [z_upO o1, fs o o1 o2 o3]
    obtain ⟨m1, b1, b2, b3, b4, b5, b6, b7⟩ := m_tstart (k := 4) (l := 0) (s' := q_up s' 142 1 (nI 0)) (T := T) (by omega) (by rw [fr 165 (by omega) (by omega) (by omega)]; exact hB5) (by rw [fr 157 (by omega) (by omega) (by omega), hT2]; exact l3)
    obtain ⟨m', ff, q, d1, g6, g7, g21, g22, d4⟩ := hm m1 b2 (by rw [b3 158 (by omega), fr 158 (by omega) (by omega) (by omega)]; exact h86) (by rw [b3 158 (by omega), fr 158 (by omega) (by omega) (by omega)]; exact h87)
    have eM : f_X12_text q_F 157 (nI 4) (q_up s' 142 1 (nI 0)) = some (z_m, q_up (q_up (q_up m' 157 16 (nI 0)) 157 23 (nI ff)) 157 25 (nI q)) := by
      unfold f_X12_text
      simp (disch := omega) only [m_isIn, ewI, b1, d1, g21, g22, ↓reduceIte, ↓p_ld, ↓p_st, ↓p_nm, ↓p_nS, ↓p_jn, ↓p_call, ↓p_callv, ↓p_dv, ↓p_rem, h_ldE, h_stE, h_nmE, h_nSE, h_callE, h_callvE, h_dvE, h_remE, if_true, if_false, z_upS, z_upO, z_upK, nI_add, z_mul, z_sub, z_div, Nat.add_zero, Nat.mul_zero, Nat.zero_add, Nat.sub_zero, Nat.zero_mul, z_ltT, z_ltF, z_leT, z_leF, z_eqT, z_eqF, z_inT, z_clT, not_true_eq_false, not_false_eq_true, eq_self, true_or, or_true, z_m_lt, z_m_le, z_lt_m, z_le_m, z_eq_m, z_m_eq, z_rz0, z_rz1, z_m_add, z_of, r_157_0, r_157_1, r_157_2, r_157_3, r_157_6, r_157_7, r_157_8, r_157_9, r_157_10, r_157_11, r_157_27, r_157_28, r_157_29, r_157_30, ↓z_m1, l_0, l_1, l_2, l_3, l_4, l_5, l_6, l_7, l_8, l_9, l_10, l_11, l_12, l_13, l_14, l_15, l_16, l_17, l_18, l_19, l_20, l_21, l_22, l_23, l_24, l_25, l_26, l_27, l_28, l_29, l_30, l_31, l_32, l_33, l_34, l_35, l_36, l_37, l_38, l_39, l_40, l_41, l_42, l_43, l_44, l_45, l_46, l_47, l_48, l_49, l_50, l_51, l_52, l_53, l_54, l_55, l_56, l_57, l_59, l_60, l_61, l_62, l_63, l_64, l_65, l_80, l_86, l_87, l_88, l_89, l_90, l_91, l_92, l_93, l_94, l_95, l_97, l_99, l_100, l_107, l_119, l_122, l_124, l_129, l_140, l_141, l_142, l_143, l_144, l_145, l_147, l_150, l_159, l_160, l_161, l_162, l_205, l_253, l_255, l_256, l_269, l_305, l_380, l_399, l_400, l_420, l_430, l_516, l_600, l_720, l_820, l_905, l_921, l_937, l_953, l_970, l_999, l_1000, l_1790, l_4096, l_9999, l_1000000]
    have fm : ∀ o, o ≠ 157 → o ≠ 164 → q_up (q_up (q_up m' 157 16 (nI 0)) 157 23 (nI ff)) 157 25 (nI q) o = q_up s' 142 1 (nI 0) o := fun o o1 o2 => by rw [z_upO o1, z_upO o1, z_upO o1, d4.1 o o1 o2, b3 o o1]
    refine ⟨z_m, _, _, eC, eM, z_Sim.flt h (z_TP.z ?_ ?_ ?_ ?_) (fun o ho => ?_) ?_ ?_ ?_⟩
    · rw [fm 142 (by omega) (by omega)]; exact z_upS
    · rw [z_upK (by omega), z_upK (by omega)]; exact z_upS
    · rw [fm 142 (by omega) (by omega), z_upK (by omega), z_upK (by omega), z_upS]; exact g6
    · rw [fm 142 (by omega) (by omega), z_upK (by omega), z_upS]; exact g7
    · rw [fm o (by omega) (by omega)]; exact fr o (by omega) (by omega) (by omega)
    · rw [z_upK (by omega), z_upK (by omega), z_upK (by omega), d4.2 4 (by omega) (by omega) (by omega) (by omega) (by omega) (by omega) (by omega), b6, fr 157 (by omega) (by omega) (by omega)]
    · rw [z_upK (by omega), z_upK (by omega), z_upK (by omega), d4.2 5 (by omega) (by omega) (by omega) (by omega) (by omega) (by omega) (by omega), b7, fr 157 (by omega) (by omega) (by omega)]
    · rw [fm 155 (by omega) (by omega), z_upO (by omega), f1.2.2, c5 155 (by omega)]; exact f155
theorem P_text {σ : q_Sto} (h : q_Sim σ) (a0 : Int32)  : ∃ (r : Int32) (σ1 σ2 : q_Sto), f_X11_text q_F 0 a0 σ = some (r, σ1) ∧ f_X12_text q_F 157 a0 σ1 = some (r, σ2) ∧ q_Sim σ2 := by
  obtain ⟨mu, me, h⟩ := h
  have fin : (∃ (r : Int32) (σ1 σ2 : q_Sto), f_X11_text q_F 0 a0 σ = some (r, σ1) ∧ f_X12_text q_F 157 a0 σ1 = some (r, σ2) ∧ z_SimN σ2 mu me) → ∃ (r : Int32) (σ1 σ2 : q_Sto), f_X11_text q_F 0 a0 σ = some (r, σ1) ∧ f_X12_text q_F 157 a0 σ1 = some (r, σ2) ∧ q_Sim σ2 := fun ⟨r, s1, s2, e1, e2, e3⟩ => ⟨r, s1, s2, e1, e2, mu, me, e3⟩
  refine fin ?_
  rcases z_rng a0 (N := 5) (by omega) with ⟨k, hk, rfl⟩ | hb
  · have hc : k = 0 ∨ k = 1 ∨ k = 2 ∨ k = 3 ∨ k = 4 := by omega
    rcases hc with rfl | rfl | rfl | rfl | rfl
    · exact P_text0 h
    · exact P_text1 h
    · exact P_text2 h
    · exact P_text3 h
    · exact P_text4 h
  · obtain ⟨w1, w2, w3⟩ := z_w_out5 hb
    obtain ⟨l, l1, l2, l3, l4, l5, l6⟩ := h.2.2.2.1
    obtain ⟨T, hT⟩ : ∃ T : zt_T, T = (fun i => zn (σ 143 i), l) := ⟨_, rfl⟩
    have hB3 : zt_B (σ 143) T := by
      subst hT
      refine ⟨l1, fun i hi => ?_⟩
      obtain ⟨x1, x2⟩ := z_leE (l4 i hi).2 (by omega)
      exact ⟨x1, x2⟩
    have hT2 : T.2 = l := by rw [hT]
    obtain ⟨s0, c1, c2, c3, c4, c5, c6⟩ := c_begin hB3 (by rw [hT2]; exact l2)
    refine ⟨z_m, q_up s0 142 1 (nI 0), q_up (q_up (q_up (q_up s0 142 1 (nI 0)) 157 23 (nI 0)) 157 25 z_m) 157 16 (nI 0), ?_, ?_, z_Sim.tape h (z_TP.z ?_ z_upS ?_ ?_) (fun o o1 o2 o3 o4 => by rw [z_upO o4, z_upO o4, z_upO o4, z_upO o1, c5 o o1]) (by rw [z_upK (by omega), z_upK (by omega), z_upK (by omega), z_upO (by omega), c5 157 (by omega)]) (by rw [z_upK (by omega), z_upK (by omega), z_upK (by omega), z_upO (by omega), c5 157 (by omega)])⟩
    · unfold f_X11_text
      simp (disch := omega) only [c1, w3, c_isWithin, w1, ↓reduceIte, ↓p_ld, ↓p_st, ↓p_nm, ↓p_nS, ↓p_jn, ↓p_call, ↓p_callv, ↓p_dv, ↓p_rem, h_ldE, h_stE, h_nmE, h_nSE, h_callE, h_callvE, h_dvE, h_remE, if_true, if_false, z_upS, z_upO, z_upK, nI_add, z_mul, z_sub, z_div, Nat.add_zero, Nat.mul_zero, Nat.zero_add, Nat.sub_zero, Nat.zero_mul, z_ltT, z_ltF, z_leT, z_leF, z_eqT, z_eqF, z_inT, z_clT, not_true_eq_false, not_false_eq_true, eq_self, true_or, or_true, z_m_lt, z_m_le, z_lt_m, z_le_m, z_eq_m, z_m_eq, z_rz0, z_rz1, z_m_add, z_of, r_0_0, r_0_1, r_0_3, r_0_4, r_0_5, r_0_6, r_0_7, r_0_8, r_0_9, r_0_10, r_1_0, r_1_1, r_1_2, r_1_3, r_1_4, r_1_5, r_1_6, r_1_7, r_1_8, r_2_0, r_2_1, r_2_2, r_2_3, r_2_4, r_2_5, r_2_6, r_2_7, r_11_0, r_11_1, r_11_2, r_11_3, r_11_4, r_11_5, r_11_6, r_19_0, r_21_0, r_23_0, r_25_0, r_27_0, r_31_0, r_31_1, r_31_2, r_31_3, r_31_4, r_31_5, r_31_6, r_31_7, r_31_8, r_32_0, r_32_1, r_32_2, r_32_3, r_32_4, r_32_5, r_32_6, r_32_7, r_41_0, r_41_1, r_41_2, r_41_3, r_41_4, r_41_5, r_41_6, r_49_0, r_51_0, r_53_0, r_55_0, r_57_0, r_61_0, r_63_0, r_63_1, r_63_2, r_63_3, r_63_4, r_63_5, r_63_6, r_63_7, r_72_0, r_72_1, r_72_2, r_72_3, r_72_4, r_72_5, r_72_6, r_72_7, r_81_0, r_81_1, r_81_2, r_81_3, r_81_4, r_81_5, r_81_6, r_81_7, r_90_0, r_90_1, r_90_2, r_90_3, r_90_4, r_90_5, r_90_6, r_90_7, r_99_0, r_99_1, r_99_2, r_99_3, r_99_4, r_99_5, r_99_6, r_99_7, r_108_0, r_108_1, r_108_2, r_108_3, r_108_4, r_108_5, r_108_6, r_108_7, r_117_0, r_117_1, r_117_2, r_117_3, r_117_4, r_117_5, r_117_6, r_117_7, r_126_0, r_126_1, r_126_2, r_126_3, r_126_4, r_132_0, r_132_1, r_135_0, r_135_1, r_135_2, r_135_3, r_135_4, r_135_5, r_142_0, r_144_0, r_144_1, r_144_2, r_145_0, r_145_1, r_145_2, r_145_3, r_145_4, r_145_5, r_145_6, r_154_0, r_154_1, r_155_0, r_157_0, r_157_1, r_157_2, r_157_3, r_157_6, r_157_7, r_157_8, r_157_9, r_157_10, r_157_11, r_157_27, r_157_28, r_157_29, r_157_30, ↓z_m1, l_0, l_1, l_2, l_3, l_4, l_5, l_6, l_7, l_8, l_9, l_10, l_11, l_12, l_13, l_14, l_15, l_16, l_17, l_18, l_19, l_20, l_21, l_22, l_23, l_24, l_25, l_26, l_27, l_28, l_29, l_30, l_31, l_32, l_33, l_34, l_35, l_36, l_37, l_38, l_39, l_40, l_41, l_42, l_43, l_44, l_45, l_46, l_47, l_48, l_49, l_50, l_51, l_52, l_53, l_54, l_55, l_56, l_57, l_59, l_60, l_61, l_62, l_63, l_64, l_65, l_80, l_86, l_87, l_88, l_89, l_90, l_91, l_92, l_93, l_94, l_95, l_97, l_99, l_100, l_107, l_119, l_122, l_124, l_129, l_140, l_141, l_142, l_143, l_144, l_145, l_147, l_150, l_159, l_160, l_161, l_162, l_205, l_253, l_255, l_256, l_269, l_305, l_380, l_399, l_400, l_420, l_430, l_516, l_600, l_720, l_820, l_905, l_921, l_937, l_953, l_970, l_999, l_1000, l_1790, l_4096, l_9999, l_1000000]
    · unfold f_X12_text
      simp (disch := omega) only [m_isIn, w2, ↓reduceIte, ↓p_ld, ↓p_st, ↓p_nm, ↓p_nS, ↓p_jn, ↓p_call, ↓p_callv, ↓p_dv, ↓p_rem, h_ldE, h_stE, h_nmE, h_nSE, h_callE, h_callvE, h_dvE, h_remE, if_true, if_false, z_upS, z_upO, z_upK, nI_add, z_mul, z_sub, z_div, Nat.add_zero, Nat.mul_zero, Nat.zero_add, Nat.sub_zero, Nat.zero_mul, z_ltT, z_ltF, z_leT, z_leF, z_eqT, z_eqF, z_inT, z_clT, not_true_eq_false, not_false_eq_true, eq_self, true_or, or_true, z_m_lt, z_m_le, z_lt_m, z_le_m, z_eq_m, z_m_eq, z_rz0, z_rz1, z_m_add, z_of, r_157_0, r_157_1, r_157_2, r_157_3, r_157_6, r_157_7, r_157_8, r_157_9, r_157_10, r_157_11, r_157_27, r_157_28, r_157_29, r_157_30, ↓z_m1, l_0, l_1, l_2, l_3, l_4, l_5, l_6, l_7, l_8, l_9, l_10, l_11, l_12, l_13, l_14, l_15, l_16, l_17, l_18, l_19, l_20, l_21, l_22, l_23, l_24, l_25, l_26, l_27, l_28, l_29, l_30, l_31, l_32, l_33, l_34, l_35, l_36, l_37, l_38, l_39, l_40, l_41, l_42, l_43, l_44, l_45, l_46, l_47, l_48, l_49, l_50, l_51, l_52, l_53, l_54, l_55, l_56, l_57, l_59, l_60, l_61, l_62, l_63, l_64, l_65, l_80, l_86, l_87, l_88, l_89, l_90, l_91, l_92, l_93, l_94, l_95, l_97, l_99, l_100, l_107, l_119, l_122, l_124, l_129, l_140, l_141, l_142, l_143, l_144, l_145, l_147, l_150, l_159, l_160, l_161, l_162, l_205, l_253, l_255, l_256, l_269, l_305, l_380, l_399, l_400, l_420, l_430, l_516, l_600, l_720, l_820, l_905, l_921, l_937, l_953, l_970, l_999, l_1000, l_1790, l_4096, l_9999, l_1000000]
    · rw [z_upO (by omega), z_upO (by omega), z_upO (by omega)]; exact z_upS
    · rw [z_upO (by omega), z_upO (by omega), z_upO (by omega), z_upK (by omega), c3, z_upK (by omega), z_upK (by omega)]; exact z_upS.symm
    · rw [z_upO (by omega), z_upO (by omega), z_upO (by omega), z_upK (by omega), c4, z_upK (by omega)]; exact z_upS.symm
