/-! the class alone: TEXTS 1, 2, 3 told, and what stands then -/
section TX
variable {mu me wn : Nat} {V : Nat → Int32} {hs : z_Hs}
theorem c_txt {k N t : Nat} {T : zt_T} {f : Nat → List Nat} {row : Nat → Nat → Int32} {σ0 σ : q_Sto} (hk : (k = 1 ∧ t = 19) ∨ (k = 2 ∧ t = 21) ∨ (k = 3 ∧ t = 23)) (hN : N ≤ 16) (hz : z_CS mu me σ0 V hs wn) (e : ∀ o, o ≠ 142 → o ≠ 143 → σ o = σ0 o) (hB : zt_B (σ 143) T) (hl : σ 142 1 = nI T.2) (hs : y_sf T 0 (y_cat f N 0))
    (hrow : ∀ i s p rest, i < N → zt_C s T p → y_sf T p (f i ++ rest) → s 155 2 = nI i → s 155 1 = nI 16 → s 2 8 = nI mu → s 2 9 = nI me → y_RG (f_X7_readLine q_F 154 (nI k) 2 s) s T i (row i) rest) :
    ∃ s3, f_X11_text q_F 0 (nI k) σ = some (nI N, s3) ∧ (∀ o, o ≠ 61 → o ≠ 142 → o ≠ 143 → o ≠ 155 → o ≠ 156 → o ≠ t → o ≠ t + 1 → s3 o = σ0 o) ∧ s3 61 1 = nI 0 ∧ s3 142 1 = nI 0 ∧ s3 155 1 = nI 16 ∧ s3 t 1 = nI 16 ∧ s3 t 2 = nI N ∧ ∀ i c, i < N → c < 4 → s3 (t+1) (i*4+c) = row i c := by
  obtain ⟨hmu, hme, g8, g9⟩ := hz.g
  have f155 : σ 155 1 = nI 16 := by rw [e 155 (by omega) (by omega)]; exact hz.2.2.2.2.2.2.1
  obtain ⟨s0, c1, c2, c3, c4, c5, c6⟩ := c_begin hB hl
  have hk2 : k = 1 ∨ k = 2 ∨ k = 3 := by omega
  obtain ⟨s', r1, r2, r3, r4, r5⟩ := c_rd (k := k) (N := N) (T := T) (f := f) (row := row) hk2 hN hrow N 0 (q_up s0 155 2 (nI 0)) 0 q_F (by omega) (by unfold q_F; omega) (c2.fr (by rw [z_upO (by omega)]) (fun a _ _ => by rw [z_upO (by omega)])) hs z_upS (by rw [z_upK (by omega), c5 155 (by omega)]; exact f155) (by rw [z_upO (by omega), c5 2 (by omega), e 2 (by omega) (by omega)]; exact g8) (by rw [z_upO (by omega), c5 2 (by omega), e 2 (by omega) (by omega)]; exact g9) (fun t c ht => by omega)
  have fs : ∀ o, o ≠ 142 → o ≠ 143 → o ≠ 155 → o ≠ 156 → s' o = σ0 o := fun o o1 o2 o3 o4 => by rw [r2.1 o o1 o3 o4, z_upO o3, c5 o o1, e o o1 o2]
  have hcap : σ0 t 1 = nI 16 := by
    obtain ⟨z1, z2, z3, -, -⟩ := hz.2.2.2.2.1
    rcases hk with ⟨-, rfl⟩ | ⟨-, rfl⟩ | ⟨-, rfl⟩
    · exact z1
    · exact z2
    · exact z3
  have htf : t ≠ 142 ∧ t ≠ 143 ∧ t ≠ 155 ∧ t ≠ 156 ∧ t ≠ 61 ∧ t + 1 ≠ 142 ∧ t + 1 ≠ 61 ∧ t + 1 ≠ 143 := by omega
  obtain ⟨s2, k1, k2, k3, k4, k5⟩ := c_copyRows (n := q_F) (t := t) (a := 155) (c := N) (cap := 16) (σ := s') (by rcases hk with ⟨-, rfl⟩ | ⟨-, rfl⟩ | ⟨-, rfl⟩ <;> rfl) rfl (Or.inl (by omega)) r3 (by rw [fs t htf.1 htf.2.1 htf.2.2.1 htf.2.2.2.1]; exact hcap) hN (by omega)
  have k3' : s2 t 2 = nI N := k3.trans r3
  refine ⟨q_up (q_up s2 61 1 (nI 0)) 142 1 (nI 0), ?_, fun o o1 o2 o3 o4 o5 o6 o7 => ?_, ?_, z_upS, ?_, ?_, ?_, fun i c hi hc => ?_⟩
  · have ew : z_w (nI k) (nI 1) (nI 4) = nI 1 := z_w_in (by omega) (by omega) (by omega)
    have er : f_X7_read q_F 154 (nI k) 2 s0 = some (nI 1, s') := by
      unfold f_X7_read f_X6_clear
      simp (disch := omega) only [r1, ↓reduceIte, ↓p_ld, ↓p_st, ↓p_nm, ↓p_nS, ↓p_jn, ↓p_call, ↓p_callv, ↓p_dv, ↓p_rem, h_ldE, h_stE, h_nmE, h_nSE, h_callE, h_callvE, h_dvE, h_remE, if_true, if_false, z_upS, z_upO, z_upK, nI_add, z_mul, z_sub, z_div, Nat.add_zero, Nat.mul_zero, Nat.zero_add, Nat.sub_zero, Nat.zero_mul, z_ltT, z_ltF, z_leT, z_leF, z_eqT, z_eqF, z_inT, z_clT, not_true_eq_false, not_false_eq_true, eq_self, true_or, or_true, z_m_lt, z_m_le, z_lt_m, z_le_m, z_eq_m, z_m_eq, z_rz0, z_rz1, z_m_add, z_of, r_0_0, r_0_1, r_0_3, r_0_4, r_0_5, r_0_6, r_0_7, r_0_8, r_0_9, r_0_10, r_1_0, r_1_1, r_1_2, r_1_3, r_1_4, r_1_5, r_1_6, r_1_7, r_1_8, r_2_0, r_2_1, r_2_2, r_2_3, r_2_4, r_2_5, r_2_6, r_2_7, r_11_0, r_11_1, r_11_2, r_11_3, r_11_4, r_11_5, r_11_6, r_19_0, r_21_0, r_23_0, r_25_0, r_27_0, r_31_0, r_31_1, r_31_2, r_31_3, r_31_4, r_31_5, r_31_6, r_31_7, r_31_8, r_32_0, r_32_1, r_32_2, r_32_3, r_32_4, r_32_5, r_32_6, r_32_7, r_41_0, r_41_1, r_41_2, r_41_3, r_41_4, r_41_5, r_41_6, r_49_0, r_51_0, r_53_0, r_55_0, r_57_0, r_61_0, r_63_0, r_63_1, r_63_2, r_63_3, r_63_4, r_63_5, r_63_6, r_63_7, r_72_0, r_72_1, r_72_2, r_72_3, r_72_4, r_72_5, r_72_6, r_72_7, r_81_0, r_81_1, r_81_2, r_81_3, r_81_4, r_81_5, r_81_6, r_81_7, r_90_0, r_90_1, r_90_2, r_90_3, r_90_4, r_90_5, r_90_6, r_90_7, r_99_0, r_99_1, r_99_2, r_99_3, r_99_4, r_99_5, r_99_6, r_99_7, r_108_0, r_108_1, r_108_2, r_108_3, r_108_4, r_108_5, r_108_6, r_108_7, r_117_0, r_117_1, r_117_2, r_117_3, r_117_4, r_117_5, r_117_6, r_117_7, r_126_0, r_126_1, r_126_2, r_126_3, r_126_4, r_132_0, r_132_1, r_135_0, r_135_1, r_135_2, r_135_3, r_135_4, r_135_5, r_142_0, r_144_0, r_144_1, r_144_2, r_145_0, r_145_1, r_145_2, r_145_3, r_145_4, r_145_5, r_145_6, r_154_0, r_154_1, r_155_0, ↓z_m1, l_0, l_1, l_2, l_3, l_4, l_5, l_6, l_7, l_8, l_9, l_10, l_11, l_12, l_13, l_14, l_15, l_16, l_17, l_18, l_19, l_20, l_21, l_22, l_23, l_24, l_25, l_26, l_27, l_28, l_29, l_30, l_31, l_32, l_33, l_34, l_35, l_36, l_37, l_38, l_39, l_40, l_41, l_42, l_43, l_44, l_45, l_46, l_47, l_48, l_49, l_50, l_51, l_52, l_53, l_54, l_55, l_56, l_57, l_59, l_60, l_61, l_62, l_63, l_64, l_65, l_80, l_86, l_87, l_88, l_89, l_90, l_91, l_92, l_93, l_94, l_95, l_97, l_99, l_100, l_107, l_119, l_122, l_124, l_129, l_140, l_141, l_142, l_143, l_144, l_145, l_147, l_150, l_159, l_160, l_161, l_162, l_205, l_253, l_255, l_256, l_269, l_305, l_380, l_399, l_400, l_420, l_430, l_516, l_600, l_720, l_820, l_905, l_921, l_937, l_953, l_970, l_999, l_1000, l_1790, l_4096, l_9999, l_1000000]
    rcases hk with ⟨rfl, rfl⟩ | ⟨rfl, rfl⟩ | ⟨rfl, rfl⟩
    · unfold f_X11_text f_X11_takeRows
      simp (disch := omega) only [c1, c_isWithin, ew, er, k1, f_X1_forget, k3', ↓reduceIte, ↓p_ld, ↓p_st, ↓p_nm, ↓p_nS, ↓p_jn, ↓p_call, ↓p_callv, ↓p_dv, ↓p_rem, h_ldE, h_stE, h_nmE, h_nSE, h_callE, h_callvE, h_dvE, h_remE, if_true, if_false, z_upS, z_upO, z_upK, nI_add, z_mul, z_sub, z_div, Nat.add_zero, Nat.mul_zero, Nat.zero_add, Nat.sub_zero, Nat.zero_mul, z_ltT, z_ltF, z_leT, z_leF, z_eqT, z_eqF, z_inT, z_clT, not_true_eq_false, not_false_eq_true, eq_self, true_or, or_true, z_m_lt, z_m_le, z_lt_m, z_le_m, z_eq_m, z_m_eq, z_rz0, z_rz1, z_m_add, z_of, r_0_0, r_0_1, r_0_3, r_0_4, r_0_5, r_0_6, r_0_7, r_0_8, r_0_9, r_0_10, r_1_0, r_1_1, r_1_2, r_1_3, r_1_4, r_1_5, r_1_6, r_1_7, r_1_8, r_2_0, r_2_1, r_2_2, r_2_3, r_2_4, r_2_5, r_2_6, r_2_7, r_11_0, r_11_1, r_11_2, r_11_3, r_11_4, r_11_5, r_11_6, r_19_0, r_21_0, r_23_0, r_25_0, r_27_0, r_31_0, r_31_1, r_31_2, r_31_3, r_31_4, r_31_5, r_31_6, r_31_7, r_31_8, r_32_0, r_32_1, r_32_2, r_32_3, r_32_4, r_32_5, r_32_6, r_32_7, r_41_0, r_41_1, r_41_2, r_41_3, r_41_4, r_41_5, r_41_6, r_49_0, r_51_0, r_53_0, r_55_0, r_57_0, r_61_0, r_63_0, r_63_1, r_63_2, r_63_3, r_63_4, r_63_5, r_63_6, r_63_7, r_72_0, r_72_1, r_72_2, r_72_3, r_72_4, r_72_5, r_72_6, r_72_7, r_81_0, r_81_1, r_81_2, r_81_3, r_81_4, r_81_5, r_81_6, r_81_7, r_90_0, r_90_1, r_90_2, r_90_3, r_90_4, r_90_5, r_90_6, r_90_7, r_99_0, r_99_1, r_99_2, r_99_3, r_99_4, r_99_5, r_99_6, r_99_7, r_108_0, r_108_1, r_108_2, r_108_3, r_108_4, r_108_5, r_108_6, r_108_7, r_117_0, r_117_1, r_117_2, r_117_3, r_117_4, r_117_5, r_117_6, r_117_7, r_126_0, r_126_1, r_126_2, r_126_3, r_126_4, r_132_0, r_132_1, r_135_0, r_135_1, r_135_2, r_135_3, r_135_4, r_135_5, r_142_0, r_144_0, r_144_1, r_144_2, r_145_0, r_145_1, r_145_2, r_145_3, r_145_4, r_145_5, r_145_6, r_154_0, r_154_1, r_155_0, ↓z_m1, l_0, l_1, l_2, l_3, l_4, l_5, l_6, l_7, l_8, l_9, l_10, l_11, l_12, l_13, l_14, l_15, l_16, l_17, l_18, l_19, l_20, l_21, l_22, l_23, l_24, l_25, l_26, l_27, l_28, l_29, l_30, l_31, l_32, l_33, l_34, l_35, l_36, l_37, l_38, l_39, l_40, l_41, l_42, l_43, l_44, l_45, l_46, l_47, l_48, l_49, l_50, l_51, l_52, l_53, l_54, l_55, l_56, l_57, l_59, l_60, l_61, l_62, l_63, l_64, l_65, l_80, l_86, l_87, l_88, l_89, l_90, l_91, l_92, l_93, l_94, l_95, l_97, l_99, l_100, l_107, l_119, l_122, l_124, l_129, l_140, l_141, l_142, l_143, l_144, l_145, l_147, l_150, l_159, l_160, l_161, l_162, l_205, l_253, l_255, l_256, l_269, l_305, l_380, l_399, l_400, l_420, l_430, l_516, l_600, l_720, l_820, l_905, l_921, l_937, l_953, l_970, l_999, l_1000, l_1790, l_4096, l_9999, l_1000000]
    · unfold f_X11_text f_X11_takeRows
      simp (disch := omega) only [c1, c_isWithin, ew, er, k1, f_X1_forget, k3', ↓reduceIte, ↓p_ld, ↓p_st, ↓p_nm, ↓p_nS, ↓p_jn, ↓p_call, ↓p_callv, ↓p_dv, ↓p_rem, h_ldE, h_stE, h_nmE, h_nSE, h_callE, h_callvE, h_dvE, h_remE, if_true, if_false, z_upS, z_upO, z_upK, nI_add, z_mul, z_sub, z_div, Nat.add_zero, Nat.mul_zero, Nat.zero_add, Nat.sub_zero, Nat.zero_mul, z_ltT, z_ltF, z_leT, z_leF, z_eqT, z_eqF, z_inT, z_clT, not_true_eq_false, not_false_eq_true, eq_self, true_or, or_true, z_m_lt, z_m_le, z_lt_m, z_le_m, z_eq_m, z_m_eq, z_rz0, z_rz1, z_m_add, z_of, r_0_0, r_0_1, r_0_3, r_0_4, r_0_5, r_0_6, r_0_7, r_0_8, r_0_9, r_0_10, r_1_0, r_1_1, r_1_2, r_1_3, r_1_4, r_1_5, r_1_6, r_1_7, r_1_8, r_2_0, r_2_1, r_2_2, r_2_3, r_2_4, r_2_5, r_2_6, r_2_7, r_11_0, r_11_1, r_11_2, r_11_3, r_11_4, r_11_5, r_11_6, r_19_0, r_21_0, r_23_0, r_25_0, r_27_0, r_31_0, r_31_1, r_31_2, r_31_3, r_31_4, r_31_5, r_31_6, r_31_7, r_31_8, r_32_0, r_32_1, r_32_2, r_32_3, r_32_4, r_32_5, r_32_6, r_32_7, r_41_0, r_41_1, r_41_2, r_41_3, r_41_4, r_41_5, r_41_6, r_49_0, r_51_0, r_53_0, r_55_0, r_57_0, r_61_0, r_63_0, r_63_1, r_63_2, r_63_3, r_63_4, r_63_5, r_63_6, r_63_7, r_72_0, r_72_1, r_72_2, r_72_3, r_72_4, r_72_5, r_72_6, r_72_7, r_81_0, r_81_1, r_81_2, r_81_3, r_81_4, r_81_5, r_81_6, r_81_7, r_90_0, r_90_1, r_90_2, r_90_3, r_90_4, r_90_5, r_90_6, r_90_7, r_99_0, r_99_1, r_99_2, r_99_3, r_99_4, r_99_5, r_99_6, r_99_7, r_108_0, r_108_1, r_108_2, r_108_3, r_108_4, r_108_5, r_108_6, r_108_7, r_117_0, r_117_1, r_117_2, r_117_3, r_117_4, r_117_5, r_117_6, r_117_7, r_126_0, r_126_1, r_126_2, r_126_3, r_126_4, r_132_0, r_132_1, r_135_0, r_135_1, r_135_2, r_135_3, r_135_4, r_135_5, r_142_0, r_144_0, r_144_1, r_144_2, r_145_0, r_145_1, r_145_2, r_145_3, r_145_4, r_145_5, r_145_6, r_154_0, r_154_1, r_155_0, ↓z_m1, l_0, l_1, l_2, l_3, l_4, l_5, l_6, l_7, l_8, l_9, l_10, l_11, l_12, l_13, l_14, l_15, l_16, l_17, l_18, l_19, l_20, l_21, l_22, l_23, l_24, l_25, l_26, l_27, l_28, l_29, l_30, l_31, l_32, l_33, l_34, l_35, l_36, l_37, l_38, l_39, l_40, l_41, l_42, l_43, l_44, l_45, l_46, l_47, l_48, l_49, l_50, l_51, l_52, l_53, l_54, l_55, l_56, l_57, l_59, l_60, l_61, l_62, l_63, l_64, l_65, l_80, l_86, l_87, l_88, l_89, l_90, l_91, l_92, l_93, l_94, l_95, l_97, l_99, l_100, l_107, l_119, l_122, l_124, l_129, l_140, l_141, l_142, l_143, l_144, l_145, l_147, l_150, l_159, l_160, l_161, l_162, l_205, l_253, l_255, l_256, l_269, l_305, l_380, l_399, l_400, l_420, l_430, l_516, l_600, l_720, l_820, l_905, l_921, l_937, l_953, l_970, l_999, l_1000, l_1790, l_4096, l_9999, l_1000000]
    · unfold f_X11_text f_X11_takeRows
      simp (disch := omega) only [c1, c_isWithin, ew, er, k1, f_X1_forget, k3', ↓reduceIte, ↓p_ld, ↓p_st, ↓p_nm, ↓p_nS, ↓p_jn, ↓p_call, ↓p_callv, ↓p_dv, ↓p_rem, h_ldE, h_stE, h_nmE, h_nSE, h_callE, h_callvE, h_dvE, h_remE, if_true, if_false, z_upS, z_upO, z_upK, nI_add, z_mul, z_sub, z_div, Nat.add_zero, Nat.mul_zero, Nat.zero_add, Nat.sub_zero, Nat.zero_mul, z_ltT, z_ltF, z_leT, z_leF, z_eqT, z_eqF, z_inT, z_clT, not_true_eq_false, not_false_eq_true, eq_self, true_or, or_true, z_m_lt, z_m_le, z_lt_m, z_le_m, z_eq_m, z_m_eq, z_rz0, z_rz1, z_m_add, z_of, r_0_0, r_0_1, r_0_3, r_0_4, r_0_5, r_0_6, r_0_7, r_0_8, r_0_9, r_0_10, r_1_0, r_1_1, r_1_2, r_1_3, r_1_4, r_1_5, r_1_6, r_1_7, r_1_8, r_2_0, r_2_1, r_2_2, r_2_3, r_2_4, r_2_5, r_2_6, r_2_7, r_11_0, r_11_1, r_11_2, r_11_3, r_11_4, r_11_5, r_11_6, r_19_0, r_21_0, r_23_0, r_25_0, r_27_0, r_31_0, r_31_1, r_31_2, r_31_3, r_31_4, r_31_5, r_31_6, r_31_7, r_31_8, r_32_0, r_32_1, r_32_2, r_32_3, r_32_4, r_32_5, r_32_6, r_32_7, r_41_0, r_41_1, r_41_2, r_41_3, r_41_4, r_41_5, r_41_6, r_49_0, r_51_0, r_53_0, r_55_0, r_57_0, r_61_0, r_63_0, r_63_1, r_63_2, r_63_3, r_63_4, r_63_5, r_63_6, r_63_7, r_72_0, r_72_1, r_72_2, r_72_3, r_72_4, r_72_5, r_72_6, r_72_7, r_81_0, r_81_1, r_81_2, r_81_3, r_81_4, r_81_5, r_81_6, r_81_7, r_90_0, r_90_1, r_90_2, r_90_3, r_90_4, r_90_5, r_90_6, r_90_7, r_99_0, r_99_1, r_99_2, r_99_3, r_99_4, r_99_5, r_99_6, r_99_7, r_108_0, r_108_1, r_108_2, r_108_3, r_108_4, r_108_5, r_108_6, r_108_7, r_117_0, r_117_1, r_117_2, r_117_3, r_117_4, r_117_5, r_117_6, r_117_7, r_126_0, r_126_1, r_126_2, r_126_3, r_126_4, r_132_0, r_132_1, r_135_0, r_135_1, r_135_2, r_135_3, r_135_4, r_135_5, r_142_0, r_144_0, r_144_1, r_144_2, r_145_0, r_145_1, r_145_2, r_145_3, r_145_4, r_145_5, r_145_6, r_154_0, r_154_1, r_155_0, ↓z_m1, l_0, l_1, l_2, l_3, l_4, l_5, l_6, l_7, l_8, l_9, l_10, l_11, l_12, l_13, l_14, l_15, l_16, l_17, l_18, l_19, l_20, l_21, l_22, l_23, l_24, l_25, l_26, l_27, l_28, l_29, l_30, l_31, l_32, l_33, l_34, l_35, l_36, l_37, l_38, l_39, l_40, l_41, l_42, l_43, l_44, l_45, l_46, l_47, l_48, l_49, l_50, l_51, l_52, l_53, l_54, l_55, l_56, l_57, l_59, l_60, l_61, l_62, l_63, l_64, l_65, l_80, l_86, l_87, l_88, l_89, l_90, l_91, l_92, l_93, l_94, l_95, l_97, l_99, l_100, l_107, l_119, l_122, l_124, l_129, l_140, l_141, l_142, l_143, l_144, l_145, l_147, l_150, l_159, l_160, l_161, l_162, l_205, l_253, l_255, l_256, l_269, l_305, l_380, l_399, l_400, l_420, l_430, l_516, l_600, l_720, l_820, l_905, l_921, l_937, l_953, l_970, l_999, l_1000, l_1790, l_4096, l_9999, l_1000000]
  · rw [z_upO o2, z_upO o1, k2 o (by omega), fs o o2 o3 o4 o5]
  · rw [z_upO (by omega)]; exact z_upS
  · rw [z_upO (by omega), z_upO (by omega), k2 155 (by omega)]; exact r4
  · rw [z_upO htf.1, z_upO htf.2.2.2.2.1, k4 1 (by omega), fs t htf.1 htf.2.1 htf.2.2.1 htf.2.2.2.1]; exact hcap
  · rw [z_upO htf.1, z_upO htf.2.2.2.2.1]; exact k3'
  · rw [z_upO htf.2.2.2.2.2.1, z_upO htf.2.2.2.2.2.2.1, k5 _ (by omega)]; exact r5 i c hi hc
/-- heeds -/
def y_hr (h : Nat → Nat × Nat) (m : Nat) : Nat → Nat
  | 0 => 0
  | i + 1 => if (h i).1 = m then y_hr h m i ||| (h i).2 else y_hr h m i
def y_V1 (V : Nat → Int32) (N : Nat) (h : Nat → Nat × Nat) : Nat → Int32 := fun a => if a = 90 then nI N else if 129 ≤ a ∧ a < 141 then nI (y_hr h (a - 129) N) else V a
def y_V2 (V : Nat → Int32) (N : Nat) (r : Nat → Nat → Int32) : Nat → Int32 := fun a => if a = 91 then nI N else if 141 ≤ a ∧ a < 141 + 4 * N then r ((a - 141) / 4) ((a - 141) % 4) else V a
def y_V3 (V : Nat → Int32) (N : Nat) (r : Nat → Nat → Int32) : Nat → Int32 := fun a => if a = 92 then nI N else if 205 ≤ a ∧ a < 205 + 3 * N then r ((a - 205) / 3) ((a - 205) % 3) else V a
theorem y_hr_hor {c : Nat → Int32} {h : Nat → Nat × Nat} {m N : Nat} (hm : m < 1000) (hh : ∀ i, i < N → (h i).1 < 1000 ∧ c (i*4) = nI (h i).1 ∧ c (i*4+1) = nI (h i).2) : ∀ i, i ≤ N → z_hor c m i = nI (y_hr h m i)
  | 0, _ => rfl
  | i + 1, hi => by
    obtain ⟨h1, h2, h3⟩ := hh i (by omega)
    have e : z_hor c m (i+1) = if c (i*4) = nI m then z_hor c m i ||| c (i*4+1) else z_hor c m i := rfl
    have e2 : y_hr h m (i+1) = if (h i).1 = m then y_hr h m i ||| (h i).2 else y_hr h m i := rfl
    rw [e, e2, h2, h3, y_hr_hor hm hh i (by omega)]
    by_cases q : (h i).1 = m
    · rw [if_pos q, if_pos (by rw [q]), z_or]
    · rw [if_neg q, if_neg (fun x => by rw [nI_eq (by omega) (by omega)] at x; exact q x)]
theorem y_hr_lt {h : Nat → Nat × Nat} {m mu N : Nat} (hh : ∀ i, i < N → (h i).2 < 2 ^ mu ∧ (h i).2.testBit (h i).1 = false) : ∀ i, i ≤ N → y_hr h m i < 2 ^ mu ∧ (y_hr h m i).testBit m = false
  | 0, _ => ⟨Nat.two_pow_pos mu, Nat.zero_testBit _⟩
  | i + 1, hi => by
    obtain ⟨i1, i2⟩ := y_hr_lt (m := m) hh i (by omega)
    obtain ⟨h1, h2⟩ := hh i (by omega)
    have e2 : y_hr h m (i+1) = if (h i).1 = m then y_hr h m i ||| (h i).2 else y_hr h m i := rfl
    rw [e2]
    by_cases q : (h i).1 = m
    · rw [if_pos q]
      rw [q] at h2
      exact ⟨Nat.or_lt_two_pow i1 h1, by rw [Nat.testBit_or, i2, h2]; rfl⟩
    · rw [if_neg q]
      exact ⟨i1, i2⟩
theorem z_TF.cgT {V' : Nat → Int32} (h : z_TF V mu me) (e : ∀ a, a < 89 ∨ (95 ≤ a ∧ a < 129) → V' a = V a) : z_TF V' mu me := by
  obtain ⟨f1, f2, f3, f4, f5, f6, f7, f8, f9, f10, f11, f12⟩ := h
  refine ⟨f1, f2, by rw [e 86 (by omega)]; exact f3, by rw [e 87 (by omega)]; exact f4, by rw [e 7 (by omega)]; exact f5, fun m hm => ?_, fun m k hm hk => ?_, fun k hk => ?_, by rw [e 1 (by omega)]; exact f9, by rw [e 2 (by omega)]; exact f10, by rw [e 6 (by omega)]; exact f11, by rw [e 88 (by omega)]; exact f12⟩
  · rw [e (8+m) (by omega), e (95+m) (by omega), e (107+m) (by omega)]; exact f6 m hm
  · rw [e (20+5*m+k) (by omega)]; exact f7 m k hm hk
  · rw [e (80+k) (by omega), e (119+k) (by omega), e (124+k) (by omega)]; exact f8 k hk
theorem z_BK.cgT {σ : q_Sto} {V' : Nat → Int32} (h : z_BK σ 1 V) (e : ∀ a, a < 89 ∨ (305 ≤ a ∧ a < 905) → V' a = V a) : z_BK σ 1 V' := by
  obtain ⟨w, b1, b2, b3, b4⟩ := h
  exact ⟨w, b1, b2, by rw [e 6 (by omega)]; exact b3, fun i c hi hc => by rw [e _ (by omega)]; exact b4 i c hi hc⟩
theorem c_text1 {N : Nat} {T : zt_T} {M A B : Nat → Nat} {two : Nat → Bool} {σ0 σ : q_Sto} (hN : N ≤ 16) (hz : z_CS mu me σ0 V hs wn) (e : ∀ o, o ≠ 142 → o ≠ 143 → σ o = σ0 o) (hB : zt_B (σ 143) T) (hl : σ 142 1 = nI T.2) (hs : y_sf T 0 (y_cat (fun i => y_hl (M i) (A i) (B i) (two i)) N 0))
    (hb : ∀ i, i < N → M i < mu ∧ A i < mu ∧ B i < mu ∧ A i ≠ M i ∧ B i ≠ M i) :
    ∃ σ', f_X11_text q_F 0 (nI 1) σ = some (nI N, σ') ∧ z_CS mu me σ' (y_V1 V N (fun i => (M i, y_hset (A i) (B i) (two i)))) y_h0 wn := by
  obtain ⟨hmu, hme, g8, g9⟩ := hz.g
  have h12 := z_p12 hmu
  obtain ⟨s3, t1, t2, t3, t4, t5, t6, t7, t8⟩ := c_txt (k := 1) (t := 19) (row := fun i => y_r4 (nI (M i)) (nI (y_hset (A i) (B i) (two i))) (nI 0) (nI 0)) (Or.inl ⟨rfl, rfl⟩) hN hz e hB hl hs (fun i s p rest hi hC hs h2 h1 k8 k9 => by
    obtain ⟨b1, b2, b3, b4, b5⟩ := hb i hi
    exact c_heedLine hmu hC hs k8 h2 h1 (by omega) b1 b2 b3 b4 b5)
  have hset : ∀ i, i < N → y_hset (A i) (B i) (two i) < 2 ^ mu ∧ (y_hset (A i) (B i) (two i)).testBit (M i) = false := fun i hi => by
    obtain ⟨b1, b2, b3, b4, b5⟩ := hb i hi
    unfold y_hset
    refine ⟨Nat.or_lt_two_pow (Nat.pow_lt_pow_right (by omega) b2) ?_, ?_⟩
    · cases two i with
      | false => exact Nat.two_pow_pos mu
      | true => exact Nat.pow_lt_pow_right (by omega) b3
    · rw [Nat.testBit_or, Nat.testBit_two_pow, decide_eq_false b4]
      cases two i with
      | false => exact Nat.zero_testBit _
      | true =>
        show (2 ^ B i).testBit (M i) = false
        rw [Nat.testBit_two_pow, decide_eq_false b5]
  have ev : ∀ a, a ≠ 90 → (a < 129 ∨ 141 ≤ a) → y_V1 V N (fun i => (M i, y_hset (A i) (B i) (two i))) a = V a := fun a a1 a2 => by
    unfold y_V1
    rw [if_neg a1, if_neg (by omega)]
  have ev90 : y_V1 V N (fun i => (M i, y_hset (A i) (B i) (two i))) 90 = nI N := if_pos rfl
  have evm : ∀ m, m < 12 → y_V1 V N (fun i => (M i, y_hset (A i) (B i) (two i))) (129+m) = nI (y_hr (fun i => (M i, y_hset (A i) (B i) (two i))) m N) := fun m hm => by
    unfold y_V1
    rw [if_neg (by omega), if_pos (by omega), show 129 + m - 129 = m by omega]
  generalize y_V1 V N (fun i => (M i, y_hset (A i) (B i) (two i))) = W at *
  have hfr : ∀ o, 2 ≤ o → o ≤ 62 → o ≠ 61 → o ≠ 19 → o ≠ 20 → s3 o = σ0 o := fun o o1 o2 o3 o4 o5 => t2 o o3 (by omega) (by omega) (by omega) (by omega) o4 o5
  have hW := hz.1.1.2.2
  have r0 : ∀ i, i < N → s3 20 (i*4) = nI (M i) ∧ s3 20 (i*4+1) = nI (y_hset (A i) (B i) (two i)) := fun i hi => ⟨t8 i 0 hi (by omega), t8 i 1 hi (by omega)⟩
  refine ⟨s3, t1, hz.told2 ⟨hz.1.1.1.cgT (fun a ha => ev a (by omega) (by omega)), by rw [ev 0 (by omega) (by omega)]; exact hz.2.1⟩ ((hz.1.1.2.1.congr2 hmu hme (fun a ha => ev a (by omega) (by omega))).fr (fun o o1 o2 => hfr o (by omega) (by omega) (by omega) (by omega) (by omega))) ⟨hW.1.tr (fun o o1 o2 => hfr o (by omega) (by omega) (by omega) (by omega) (by omega)) (ev 89 (by omega) (by omega)) (fun a ha => ev a (by omega) (by omega)), ?_, hW.2.2.1.tr (hfr 21 (by omega) (by omega) (by omega) (by omega) (by omega)) (hfr 22 (by omega) (by omega) (by omega) (by omega) (by omega)) (ev 91 (by omega) (by omega)) (fun a a1 a2 => ev a (by omega) (by omega)), hW.2.2.2.1.tr (hfr 23 (by omega) (by omega) (by omega) (by omega) (by omega)) (hfr 24 (by omega) (by omega) (by omega) (by omega) (by omega)) (ev 92 (by omega) (by omega)) (fun a a1 a2 => ev a (by omega) (by omega)), hW.2.2.2.2.1.tr (hfr 25 (by omega) (by omega) (by omega) (by omega) (by omega)) (hfr 26 (by omega) (by omega) (by omega) (by omega) (by omega)) (ev 93 (by omega) (by omega)) (fun a a1 a2 => ev a (by omega) (by omega)), hW.2.2.2.2.2.tr (hfr 27 (by omega) (by omega) (by omega) (by omega) (by omega)) (hfr 28 (by omega) (by omega) (by omega) (by omega) (by omega)) (ev 94 (by omega) (by omega)) (fun a a1 a2 => ev a (by omega) (by omega))⟩ ((hz.1.2.cgT (fun a ha => ev a (by omega) (by omega))).fr (hfr _ (by omega) (by omega) (by omega) (by omega) (by omega)) (hfr _ (by omega) (by omega) (by omega) (by omega) (by omega))) (ev 6 (by omega) (by omega)) ?_ t3 (hfr 62 (by omega) (by omega) (by omega) (by omega) (by omega)) t4 t5⟩
  · refine ⟨N, hN, t7, ev90, fun i hi => ?_, fun m hm => ?_⟩
    · obtain ⟨b1, b2, b3, b4, b5⟩ := hb i hi
      exact ⟨M i, _, b1, (hset i hi).1, (r0 i hi).1, (r0 i hi).2⟩
    · have e1 := y_hr_hor (c := s3 20) (h := fun i => (M i, y_hset (A i) (B i) (two i))) (m := m) (N := N) (by omega) (fun i hi => ⟨by have := (hb i hi).1; show M i < 1000; omega, (r0 i hi).1, (r0 i hi).2⟩) N (Nat.le_refl _)
      obtain ⟨e2, e3⟩ := y_hr_lt (h := fun i => (M i, y_hset (A i) (B i) (two i))) (m := m) (mu := mu) (N := N) (fun i hi => hset i hi) N (Nat.le_refl _)
      rw [evm m hm]
      exact ⟨e1.symm, _, e2, e3, rfl⟩
  · obtain ⟨z1, z2, z3, z4, z5⟩ := hz.2.2.2.2.1
    exact ⟨t6, (congrFun (hfr 21 (by omega) (by omega) (by omega) (by omega) (by omega)) 1).trans z2, (congrFun (hfr 23 (by omega) (by omega) (by omega) (by omega) (by omega)) 1).trans z3, (congrFun (hfr 25 (by omega) (by omega) (by omega) (by omega) (by omega)) 1).trans z4, (congrFun (hfr 27 (by omega) (by omega) (by omega) (by omega) (by omega)) 1).trans z5⟩
theorem c_text2 {N : Nat} {T : zt_T} {D w K M : Nat → Nat} {σ0 σ : q_Sto} (hN : N ≤ 16) (hz : z_CS mu me σ0 V hs wn) (e : ∀ o, o ≠ 142 → o ≠ 143 → σ o = σ0 o) (hB : zt_B (σ 143) T) (hl : σ 142 1 = nI T.2) (hs : y_sf T 0 (y_cat (fun i => y_pl (D i) (w i) (K i) (M i)) N 0))
    (hb : ∀ i, i < N → D i ≤ 999 ∧ w i ≤ 4 ∧ (w i < 3 → K i < me) ∧ (w i = 4 → K i < 10) ∧ (w i = 0 ∨ w i = 2 → M i < mu)) :
    ∃ σ', f_X11_text q_F 0 (nI 2) σ = some (nI N, σ') ∧ z_CS mu me σ' (y_V2 V N (fun i => y_r4 (nI (D i)) (nI (y_cd (w i))) (nI (if w i = 3 then 0 else K i)) (nI (if w i = 0 ∨ w i = 2 then M i else 0)))) y_h0 wn := by
  obtain ⟨hmu, hme, g8, g9⟩ := hz.g
  obtain ⟨s3, t1, t2, t3, t4, t5, t6, t7, t8⟩ := c_txt (k := 2) (t := 21) (row := fun i => y_r4 (nI (D i)) (nI (if w i = 3 then 0 else if w i = 4 then 4 else w i + 1)) (nI (if w i = 3 then 0 else K i)) (nI (if w i = 0 ∨ w i = 2 then M i else 0))) (Or.inr (Or.inl ⟨rfl, rfl⟩)) hN hz e hB hl hs (fun i s p rest hi hC hs h2 h1 k8 k9 => by
    obtain ⟨b1, b2, b3, b4, b5⟩ := hb i hi
    exact c_planLine hmu hme hC hs k8 k9 h2 h1 (by omega) b1 b2 b3 b4 b5)
  have ev : ∀ a, a ≠ 91 → (a < 141 ∨ 205 ≤ a) → y_V2 V N (fun i => y_r4 (nI (D i)) (nI (y_cd (w i))) (nI (if w i = 3 then 0 else K i)) (nI (if w i = 0 ∨ w i = 2 then M i else 0))) a = V a := fun a a1 a2 => by
    unfold y_V2
    rw [if_neg a1, if_neg (by omega)]
  have ev91 : y_V2 V N (fun i => y_r4 (nI (D i)) (nI (y_cd (w i))) (nI (if w i = 3 then 0 else K i)) (nI (if w i = 0 ∨ w i = 2 then M i else 0))) 91 = nI N := if_pos rfl
  have evr : ∀ i c, i < N → c < 4 → y_V2 V N (fun i => y_r4 (nI (D i)) (nI (y_cd (w i))) (nI (if w i = 3 then 0 else K i)) (nI (if w i = 0 ∨ w i = 2 then M i else 0))) (141+4*i+c) = y_r4 (nI (D i)) (nI (y_cd (w i))) (nI (if w i = 3 then 0 else K i)) (nI (if w i = 0 ∨ w i = 2 then M i else 0)) c := fun i c hi hc => by
    unfold y_V2
    rw [if_neg (by omega), if_pos (by omega), show (141 + 4 * i + c - 141) / 4 = i by omega, show (141 + 4 * i + c - 141) % 4 = c by omega]
  generalize y_V2 V N (fun i => y_r4 (nI (D i)) (nI (y_cd (w i))) (nI (if w i = 3 then 0 else K i)) (nI (if w i = 0 ∨ w i = 2 then M i else 0))) = W at *
  have hfr : ∀ o, 2 ≤ o → o ≤ 62 → o ≠ 61 → o ≠ 21 → o ≠ 22 → s3 o = σ0 o := fun o o1 o2 o3 o4 o5 => t2 o o3 (by omega) (by omega) (by omega) (by omega) o4 o5
  have hW := hz.1.1.2.2
  refine ⟨s3, t1, hz.told2 ⟨hz.1.1.1.cgT (fun a ha => ev a (by omega) (by omega)), by rw [ev 0 (by omega) (by omega)]; exact hz.2.1⟩ ((hz.1.1.2.1.congr2 hmu hme (fun a ha => ev a (by omega) (by omega))).fr (fun o o1 o2 => hfr o (by omega) (by omega) (by omega) (by omega) (by omega))) ⟨hW.1.tr (fun o o1 o2 => hfr o (by omega) (by omega) (by omega) (by omega) (by omega)) (ev 89 (by omega) (by omega)) (fun a ha => ev a (by omega) (by omega)), hW.2.1.tr (hfr 19 (by omega) (by omega) (by omega) (by omega) (by omega)) (hfr 20 (by omega) (by omega) (by omega) (by omega) (by omega)) (ev 90 (by omega) (by omega)) (fun a a1 a2 => ev a (by omega) (by omega)), ?_, hW.2.2.2.1.tr (hfr 23 (by omega) (by omega) (by omega) (by omega) (by omega)) (hfr 24 (by omega) (by omega) (by omega) (by omega) (by omega)) (ev 92 (by omega) (by omega)) (fun a a1 a2 => ev a (by omega) (by omega)), hW.2.2.2.2.1.tr (hfr 25 (by omega) (by omega) (by omega) (by omega) (by omega)) (hfr 26 (by omega) (by omega) (by omega) (by omega) (by omega)) (ev 93 (by omega) (by omega)) (fun a a1 a2 => ev a (by omega) (by omega)), hW.2.2.2.2.2.tr (hfr 27 (by omega) (by omega) (by omega) (by omega) (by omega)) (hfr 28 (by omega) (by omega) (by omega) (by omega) (by omega)) (ev 94 (by omega) (by omega)) (fun a a1 a2 => ev a (by omega) (by omega))⟩ ((hz.1.2.cgT (fun a ha => ev a (by omega) (by omega))).fr (hfr _ (by omega) (by omega) (by omega) (by omega) (by omega)) (hfr _ (by omega) (by omega) (by omega) (by omega) (by omega))) (ev 6 (by omega) (by omega)) ?_ t3 (hfr 62 (by omega) (by omega) (by omega) (by omega) (by omega)) t4 t5⟩
  · refine ⟨N, hN, t7, ev91, fun i hi => ?_⟩
    obtain ⟨b1, b2, b3, b4, b5⟩ := hb i hi
    have x0 := t8 i 0 hi (by omega)
    have x1 := t8 i 1 hi (by omega)
    have x2 := t8 i 2 hi (by omega)
    have x3 := t8 i 3 hi (by omega)
    have y0 := evr i 0 hi (by omega)
    have y1 := evr i 1 hi (by omega)
    have y2 := evr i 2 hi (by omega)
    have y3 := evr i 3 hi (by omega)
    have x0 : s3 22 (i*4) = nI (D i) := x0
    have x1 : s3 22 (i*4+1) = nI (if w i = 3 then 0 else if w i = 4 then 4 else w i + 1) := x1
    have x2 : s3 22 (i*4+2) = nI (if w i = 3 then 0 else K i) := x2
    have x3 : s3 22 (i*4+3) = nI (if w i = 0 ∨ w i = 2 then M i else 0) := x3
    have y0 : W (141+4*i) = nI (D i) := y0
    have y1 : W (141+4*i+1) = nI (y_cd (w i)) := y1
    have y2 : W (141+4*i+2) = nI (if w i = 3 then 0 else K i) := y2
    have y3 : W (141+4*i+3) = nI (if w i = 0 ∨ w i = 2 then M i else 0) := y3
    refine ⟨x0.trans y0.symm, x2.trans y2.symm, x3.trans y3.symm, ⟨_, b1, y0⟩, ?_⟩
    have hw : w i = 0 ∨ w i = 1 ∨ w i = 2 ∨ w i = 3 ∨ w i = 4 := by omega
    rcases hw with q | q | q | q | q
    · rw [q] at x1 y1 y2 y3
      exact Or.inr (Or.inl ⟨y1, x1, ⟨K i, b3 (by omega), y2⟩, M i, b5 (by omega), y3⟩)
    · rw [q] at x1 y1 y2 y3
      exact Or.inr (Or.inr (Or.inl ⟨y1, x1, K i, b3 (by omega), y2⟩))
    · rw [q] at x1 y1 y2 y3
      exact Or.inr (Or.inr (Or.inr (Or.inl ⟨y1, x1, ⟨K i, b3 (by omega), y2⟩, M i, b5 (by omega), y3⟩)))
    · rw [q] at x1 y1
      exact Or.inl ⟨y1, x1⟩
    · rw [q] at x1 y1 y2
      exact Or.inr (Or.inr (Or.inr (Or.inr ⟨y1, x1, K i, b4 q, y2⟩)))
  · obtain ⟨z1, z2, z3, z4, z5⟩ := hz.2.2.2.2.1
    exact ⟨(congrFun (hfr 19 (by omega) (by omega) (by omega) (by omega) (by omega)) 1).trans z1, t6, (congrFun (hfr 23 (by omega) (by omega) (by omega) (by omega) (by omega)) 1).trans z3, (congrFun (hfr 25 (by omega) (by omega) (by omega) (by omega) (by omega)) 1).trans z4, (congrFun (hfr 27 (by omega) (by omega) (by omega) (by omega) (by omega)) 1).trans z5⟩
theorem c_text3 {N : Nat} {T : zt_T} {A B H : Nat → Nat} {σ0 σ : q_Sto} (hN : N ≤ 16) (hz : z_CS mu me σ0 V hs wn) (e : ∀ o, o ≠ 142 → o ≠ 143 → σ o = σ0 o) (hB : zt_B (σ 143) T) (hl : σ 142 1 = nI T.2) (hs : y_sf T 0 (y_cat (fun i => y_wl (A i) (B i) (H i)) N 0))
    (hb : ∀ i, i < N → A i < 10 ∧ B i < 10 ∧ A i ≠ B i ∧ 1 ≤ H i ∧ H i ≤ 24) :
    ∃ σ', f_X11_text q_F 0 (nI 3) σ = some (nI N, σ') ∧ z_CS mu me σ' (y_V3 V N (fun i => y_r4 (nI (A i)) (nI (B i)) (nI (H i)) (nI 0))) y_h0 wn := by
  obtain ⟨hmu, hme, g8, g9⟩ := hz.g
  obtain ⟨s3, t1, t2, t3, t4, t5, t6, t7, t8⟩ := c_txt (k := 3) (t := 23) (row := fun i => y_r4 (nI (A i)) (nI (B i)) (nI (H i)) (nI 0)) (Or.inr (Or.inr ⟨rfl, rfl⟩)) hN hz e hB hl hs (fun i s p rest hi hC hs h2 h1 k8 k9 => by
    obtain ⟨b1, b2, b3, b4, b5⟩ := hb i hi
    exact c_pathLine hC hs h2 h1 (by omega) b1 b2 b3 b4 b5)
  have ev : ∀ a, a ≠ 92 → (a < 205 ∨ 253 ≤ a) → y_V3 V N (fun i => y_r4 (nI (A i)) (nI (B i)) (nI (H i)) (nI 0)) a = V a := fun a a1 a2 => by
    unfold y_V3
    rw [if_neg a1, if_neg (by omega)]
  have ev92 : y_V3 V N (fun i => y_r4 (nI (A i)) (nI (B i)) (nI (H i)) (nI 0)) 92 = nI N := if_pos rfl
  have evr : ∀ i c, i < N → c < 3 → y_V3 V N (fun i => y_r4 (nI (A i)) (nI (B i)) (nI (H i)) (nI 0)) (205+3*i+c) = y_r4 (nI (A i)) (nI (B i)) (nI (H i)) (nI 0) c := fun i c hi hc => by
    unfold y_V3
    rw [if_neg (by omega), if_pos (by omega), show (205 + 3 * i + c - 205) / 3 = i by omega, show (205 + 3 * i + c - 205) % 3 = c by omega]
  generalize y_V3 V N (fun i => y_r4 (nI (A i)) (nI (B i)) (nI (H i)) (nI 0)) = W at *
  have hfr : ∀ o, 2 ≤ o → o ≤ 62 → o ≠ 61 → o ≠ 23 → o ≠ 24 → s3 o = σ0 o := fun o o1 o2 o3 o4 o5 => t2 o o3 (by omega) (by omega) (by omega) (by omega) o4 o5
  have hW := hz.1.1.2.2
  refine ⟨s3, t1, hz.told2 ⟨hz.1.1.1.cgT (fun a ha => ev a (by omega) (by omega)), by rw [ev 0 (by omega) (by omega)]; exact hz.2.1⟩ ((hz.1.1.2.1.congr2 hmu hme (fun a ha => ev a (by omega) (by omega))).fr (fun o o1 o2 => hfr o (by omega) (by omega) (by omega) (by omega) (by omega))) ⟨hW.1.tr (fun o o1 o2 => hfr o (by omega) (by omega) (by omega) (by omega) (by omega)) (ev 89 (by omega) (by omega)) (fun a ha => ev a (by omega) (by omega)), hW.2.1.tr (hfr 19 (by omega) (by omega) (by omega) (by omega) (by omega)) (hfr 20 (by omega) (by omega) (by omega) (by omega) (by omega)) (ev 90 (by omega) (by omega)) (fun a a1 a2 => ev a (by omega) (by omega)), hW.2.2.1.tr (hfr 21 (by omega) (by omega) (by omega) (by omega) (by omega)) (hfr 22 (by omega) (by omega) (by omega) (by omega) (by omega)) (ev 91 (by omega) (by omega)) (fun a a1 a2 => ev a (by omega) (by omega)), ?_, hW.2.2.2.2.1.tr (hfr 25 (by omega) (by omega) (by omega) (by omega) (by omega)) (hfr 26 (by omega) (by omega) (by omega) (by omega) (by omega)) (ev 93 (by omega) (by omega)) (fun a a1 a2 => ev a (by omega) (by omega)), hW.2.2.2.2.2.tr (hfr 27 (by omega) (by omega) (by omega) (by omega) (by omega)) (hfr 28 (by omega) (by omega) (by omega) (by omega) (by omega)) (ev 94 (by omega) (by omega)) (fun a a1 a2 => ev a (by omega) (by omega))⟩ ((hz.1.2.cgT (fun a ha => ev a (by omega) (by omega))).fr (hfr _ (by omega) (by omega) (by omega) (by omega) (by omega)) (hfr _ (by omega) (by omega) (by omega) (by omega) (by omega))) (ev 6 (by omega) (by omega)) ?_ t3 (hfr 62 (by omega) (by omega) (by omega) (by omega) (by omega)) t4 t5⟩
  · refine ⟨N, hN, t7, ev92, fun i hi => ?_⟩
    obtain ⟨b1, b2, b3, b4, b5⟩ := hb i hi
    exact ⟨A i, B i, H i, b1, b2, b3, b4, b5, t8 i 0 hi (by omega), t8 i 1 hi (by omega), t8 i 2 hi (by omega), evr i 0 hi (by omega), evr i 1 hi (by omega), evr i 2 hi (by omega)⟩
  · obtain ⟨z1, z2, z3, z4, z5⟩ := hz.2.2.2.2.1
    exact ⟨(congrFun (hfr 19 (by omega) (by omega) (by omega) (by omega) (by omega)) 1).trans z1, (congrFun (hfr 21 (by omega) (by omega) (by omega) (by omega) (by omega)) 1).trans z2, t6, (congrFun (hfr 25 (by omega) (by omega) (by omega) (by omega) (by omega)) 1).trans z4, (congrFun (hfr 27 (by omega) (by omega) (by omega) (by omega) (by omega)) 1).trans z5⟩
end TX
