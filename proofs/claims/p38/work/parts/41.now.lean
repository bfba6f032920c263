/-! the class's tables, and its VOTE in thought -/
theorem c_sN97 {n m k most lk mu me : Nat} {V : Nat → Int32} {K : q_Sto → Option (Int32 × q_Sto)} (hn : 402 ≤ n) (hm : m < mu) (hk : k < me) (hmo : most < 12) :
    ∀ j i (σ : q_Sto), i ≤ most + 1 → most + 1 < j + i → z_C σ V mu me → (∀ h, h < i → σ 129 ((m*5+k)*12+h) = nI (z_lean V m k lk h)) → ∃ σ', (∀ o, o ≠ 18 → o ≠ 30 → o ≠ 129 → σ' o = σ o) ∧ (∀ a, a < (m*5+k)*12 → σ' 129 a = σ 129 a) ∧
      (∀ h, h ≤ most → σ' 129 ((m*5+k)*12+h) = nI (z_lean V m k lk h)) ∧ f_X0_standNow_L97 n 126 1 2 (nI m) (nI most) (nI k) (nI lk) K j (nI i) σ = K σ' := by
  intro j
  induction j with
  | zero => intro i σ h1 h2; omega
  | succ j ih =>
    intro i σ h1 h2 hC hf
    have hmu := hC.1.1
    have hme := hC.1.2.1
    by_cases hi : i = most + 1
    · subst hi
      refine ⟨σ, fun o _ _ _ => rfl, fun a _ => rfl, fun h hh => hf h (by omega), ?_⟩
      rw [f_X0_standNow_L97]
      simp (disch := omega) only [↓reduceIte, ↓p_ld, ↓p_st, ↓p_nm, ↓p_nS, ↓p_jn, ↓p_call, ↓p_callv, ↓p_dv, ↓p_rem, h_ldE, h_stE, h_nmE, h_nSE, h_callE, h_callvE, h_dvE, h_remE, if_true, if_false, z_upS, z_upO, z_upK, nI_add, z_mul, z_sub, z_div, Nat.add_zero, Nat.mul_zero, Nat.zero_add, Nat.sub_zero, Nat.zero_mul, z_ltT, z_ltF, z_leT, z_leF, z_eqT, z_eqF, z_inT, z_clT, not_true_eq_false, not_false_eq_true, eq_self, true_or, or_true, z_m_lt, z_m_le, z_lt_m, z_le_m, z_eq_m, z_m_eq, z_rz0, z_rz1, z_m_add, z_of, r_0_0, r_0_1, r_0_3, r_0_4, r_0_5, r_0_6, r_0_7, r_0_8, r_0_9, r_0_10, r_1_0, r_1_1, r_1_2, r_1_3, r_1_4, r_1_5, r_1_6, r_1_7, r_1_8, r_2_0, r_2_1, r_2_2, r_2_3, r_2_4, r_2_5, r_2_6, r_2_7, r_11_0, r_11_1, r_11_2, r_11_3, r_11_4, r_11_5, r_11_6, r_19_0, r_21_0, r_23_0, r_25_0, r_27_0, r_61_0, r_117_0, r_117_1, r_117_2, r_117_3, r_117_4, r_117_5, r_117_6, r_117_7, r_126_0, r_126_1, r_126_2, r_126_3, r_126_4, r_132_0, r_132_1, r_135_0, r_135_1, r_135_2, r_135_3, r_135_4, r_135_5, r_142_0, r_144_0, r_144_1, r_144_2, r_145_0, r_145_1, r_145_2, r_145_3, r_145_4, r_145_5, r_145_6, r_154_0, r_154_1, r_155_0, ↓z_m1, l_0, l_1, l_2, l_3, l_4, l_5, l_6, l_7, l_8, l_9, l_10, l_11, l_12, l_13, l_14, l_15, l_16, l_17, l_18, l_19, l_20, l_21, l_22, l_23, l_24, l_25, l_26, l_27, l_28, l_29, l_30, l_31, l_32, l_33, l_34, l_35, l_36, l_37, l_38, l_39, l_40, l_41, l_42, l_43, l_44, l_45, l_46, l_47, l_48, l_49, l_50, l_51, l_52, l_53, l_54, l_55, l_56, l_57, l_59, l_60, l_61, l_62, l_63, l_64, l_65, l_80, l_86, l_87, l_88, l_89, l_90, l_91, l_92, l_93, l_94, l_95, l_97, l_99, l_100, l_107, l_119, l_122, l_124, l_129, l_140, l_141, l_142, l_143, l_144, l_145, l_147, l_150, l_159, l_160, l_161, l_162, l_205, l_253, l_255, l_256, l_269, l_305, l_380, l_399, l_400, l_420, l_430, l_516, l_600, l_720, l_820, l_905, l_921, l_937, l_953, l_970, l_999, l_1000, l_1790, l_4096, l_9999, l_1000000]
    · obtain ⟨σ1, f1, f2⟩ := c_leanOf (lk := lk) (hd := i) hC hn hm hk
      obtain ⟨σ', g1, g2, g3, g4⟩ := ih (i+1) (q_up σ1 129 ((m*5+k)*12+i) (nI (z_lean V m k lk i))) (by omega) (by omega) (hC.fr (fun o o1 o2 o3 => by rw [z_upO (by omega), f1 o (by omega) (by omega)])) (fun h hh => by
        by_cases e : h = i
        · subst e; exact z_upS
        · rw [z_upK (by omega), f1 129 (by omega) (by omega)]; exact hf h (by omega))
      refine ⟨σ', fun o o1 o2 o3 => by rw [g1 o o1 o2 o3, z_upO o3, f1 o o1 o2], fun a ha => by rw [g2 a ha, z_upK (by omega), f1 129 (by omega) (by omega)], g3, ?_⟩
      rw [← g4, f_X0_standNow_L97]
      simp (disch := omega) only [f2, ↓reduceIte, ↓p_ld, ↓p_st, ↓p_nm, ↓p_nS, ↓p_jn, ↓p_call, ↓p_callv, ↓p_dv, ↓p_rem, h_ldE, h_stE, h_nmE, h_nSE, h_callE, h_callvE, h_dvE, h_remE, if_true, if_false, z_upS, z_upO, z_upK, nI_add, z_mul, z_sub, z_div, Nat.add_zero, Nat.mul_zero, Nat.zero_add, Nat.sub_zero, Nat.zero_mul, z_ltT, z_ltF, z_leT, z_leF, z_eqT, z_eqF, z_inT, z_clT, not_true_eq_false, not_false_eq_true, eq_self, true_or, or_true, z_m_lt, z_m_le, z_lt_m, z_le_m, z_eq_m, z_m_eq, z_rz0, z_rz1, z_m_add, z_of, r_0_0, r_0_1, r_0_3, r_0_4, r_0_5, r_0_6, r_0_7, r_0_8, r_0_9, r_0_10, r_1_0, r_1_1, r_1_2, r_1_3, r_1_4, r_1_5, r_1_6, r_1_7, r_1_8, r_2_0, r_2_1, r_2_2, r_2_3, r_2_4, r_2_5, r_2_6, r_2_7, r_11_0, r_11_1, r_11_2, r_11_3, r_11_4, r_11_5, r_11_6, r_19_0, r_21_0, r_23_0, r_25_0, r_27_0, r_61_0, r_117_0, r_117_1, r_117_2, r_117_3, r_117_4, r_117_5, r_117_6, r_117_7, r_126_0, r_126_1, r_126_2, r_126_3, r_126_4, r_132_0, r_132_1, r_135_0, r_135_1, r_135_2, r_135_3, r_135_4, r_135_5, r_142_0, r_144_0, r_144_1, r_144_2, r_145_0, r_145_1, r_145_2, r_145_3, r_145_4, r_145_5, r_145_6, r_154_0, r_154_1, r_155_0, ↓z_m1, l_0, l_1, l_2, l_3, l_4, l_5, l_6, l_7, l_8, l_9, l_10, l_11, l_12, l_13, l_14, l_15, l_16, l_17, l_18, l_19, l_20, l_21, l_22, l_23, l_24, l_25, l_26, l_27, l_28, l_29, l_30, l_31, l_32, l_33, l_34, l_35, l_36, l_37, l_38, l_39, l_40, l_41, l_42, l_43, l_44, l_45, l_46, l_47, l_48, l_49, l_50, l_51, l_52, l_53, l_54, l_55, l_56, l_57, l_59, l_60, l_61, l_62, l_63, l_64, l_65, l_80, l_86, l_87, l_88, l_89, l_90, l_91, l_92, l_93, l_94, l_95, l_97, l_99, l_100, l_107, l_119, l_122, l_124, l_129, l_140, l_141, l_142, l_143, l_144, l_145, l_147, l_150, l_159, l_160, l_161, l_162, l_205, l_253, l_255, l_256, l_269, l_305, l_380, l_399, l_400, l_420, l_430, l_516, l_600, l_720, l_820, l_905, l_921, l_937, l_953, l_970, l_999, l_1000, l_1790, l_4096, l_9999, l_1000000]
theorem c_sN76 {n m most mu me : Nat} {V : Nat → Int32} {K : q_Sto → Option (Int32 × q_Sto)} (hn : 402 ≤ n) (hm : m < mu) (hmo : most < 12) :
    ∀ j i (σ : q_Sto), i ≤ me → me < j + i → z_C σ V mu me → σ 126 6 = nI me → (∀ k h, k < i → h ≤ most → σ 129 ((m*5+k)*12+h) = nI (z_lean V m k (z_lk V m k) h)) → ∃ σ', (∀ o, o ≠ 18 → o ≠ 30 → o ≠ 129 → σ' o = σ o) ∧ (∀ a, a < m*5*12 → σ' 129 a = σ 129 a) ∧
      (∀ k h, k < me → h ≤ most → σ' 129 ((m*5+k)*12+h) = nI (z_lean V m k (z_lk V m k) h)) ∧ f_X0_standNow_L76 n 126 1 2 (nI m) (nI most) K j (nI i) σ = K σ' := by
  intro j
  induction j with
  | zero => intro i σ h1 h2; omega
  | succ j ih =>
    intro i σ h1 h2 hC h6 hf
    have hmu := hC.1.1
    have hme := hC.1.2.1
    by_cases hi : i = me
    · subst hi
      refine ⟨σ, fun o _ _ _ => rfl, fun a _ => rfl, hf, ?_⟩
      rw [f_X0_standNow_L76]
      simp (disch := omega) only [h6, ↓reduceIte, ↓p_ld, ↓p_st, ↓p_nm, ↓p_nS, ↓p_jn, ↓p_call, ↓p_callv, ↓p_dv, ↓p_rem, h_ldE, h_stE, h_nmE, h_nSE, h_callE, h_callvE, h_dvE, h_remE, if_true, if_false, z_upS, z_upO, z_upK, nI_add, z_mul, z_sub, z_div, Nat.add_zero, Nat.mul_zero, Nat.zero_add, Nat.sub_zero, Nat.zero_mul, z_ltT, z_ltF, z_leT, z_leF, z_eqT, z_eqF, z_inT, z_clT, not_true_eq_false, not_false_eq_true, eq_self, true_or, or_true, z_m_lt, z_m_le, z_lt_m, z_le_m, z_eq_m, z_m_eq, z_rz0, z_rz1, z_m_add, z_of, r_0_0, r_0_1, r_0_3, r_0_4, r_0_5, r_0_6, r_0_7, r_0_8, r_0_9, r_0_10, r_1_0, r_1_1, r_1_2, r_1_3, r_1_4, r_1_5, r_1_6, r_1_7, r_1_8, r_2_0, r_2_1, r_2_2, r_2_3, r_2_4, r_2_5, r_2_6, r_2_7, r_11_0, r_11_1, r_11_2, r_11_3, r_11_4, r_11_5, r_11_6, r_19_0, r_21_0, r_23_0, r_25_0, r_27_0, r_61_0, r_117_0, r_117_1, r_117_2, r_117_3, r_117_4, r_117_5, r_117_6, r_117_7, r_126_0, r_126_1, r_126_2, r_126_3, r_126_4, r_132_0, r_132_1, r_135_0, r_135_1, r_135_2, r_135_3, r_135_4, r_135_5, r_142_0, r_144_0, r_144_1, r_144_2, r_145_0, r_145_1, r_145_2, r_145_3, r_145_4, r_145_5, r_145_6, r_154_0, r_154_1, r_155_0, ↓z_m1, l_0, l_1, l_2, l_3, l_4, l_5, l_6, l_7, l_8, l_9, l_10, l_11, l_12, l_13, l_14, l_15, l_16, l_17, l_18, l_19, l_20, l_21, l_22, l_23, l_24, l_25, l_26, l_27, l_28, l_29, l_30, l_31, l_32, l_33, l_34, l_35, l_36, l_37, l_38, l_39, l_40, l_41, l_42, l_43, l_44, l_45, l_46, l_47, l_48, l_49, l_50, l_51, l_52, l_53, l_54, l_55, l_56, l_57, l_59, l_60, l_61, l_62, l_63, l_64, l_65, l_80, l_86, l_87, l_88, l_89, l_90, l_91, l_92, l_93, l_94, l_95, l_97, l_99, l_100, l_107, l_119, l_122, l_124, l_129, l_140, l_141, l_142, l_143, l_144, l_145, l_147, l_150, l_159, l_160, l_161, l_162, l_205, l_253, l_255, l_256, l_269, l_305, l_380, l_399, l_400, l_420, l_430, l_516, l_600, l_720, l_820, l_905, l_921, l_937, l_953, l_970, l_999, l_1000, l_1790, l_4096, l_9999, l_1000000]
    · have el := c_likingFor (n := n) hmu hme hC.2.1 hm (show i < me by omega)
      have elk := (z_leE (hC.1.2.2.2.2.2.2.1 m i hm (by omega)) (by omega)).1
      have elk : V (20+5*m+i) = nI (z_lk V m i) := elk
      rw [elk] at el
      obtain ⟨σ1, f1, f2, f3, f4⟩ := c_sN97 (n := n) (m := m) (k := i) (most := most) (lk := z_lk V m i) (K := fun (s21 : q_Sto) => f_X0_standNow_L76 n 126 1 2 (nI m) (nI most) K j (nI (i + 1)) s21) hn hm (show i < me by omega) hmo n 0 σ (by omega) (by omega) hC (fun h hh => by omega)
      obtain ⟨σ', g1, g2, g3, g4⟩ := ih (i+1) σ1 (by omega) (by omega) (hC.fr (fun o o1 o2 o3 => f1 o (by omega) (by omega) (by omega))) (by rw [f1 126 (by omega) (by omega) (by omega)]; exact h6) (fun k h hk hh => by
        by_cases e : k = i
        · subst e; exact f3 h hh
        · rw [f2 _ (by omega)]; exact hf k h (by omega) hh)
      refine ⟨σ', fun o o1 o2 o3 => by rw [g1 o o1 o2 o3, f1 o o1 o2 o3], fun a ha => by rw [g2 a ha, f2 a (by omega)], g3, ?_⟩
      rw [← g4, ← f4, f_X0_standNow_L76]
      simp (disch := omega) only [h6, el, ↓reduceIte, ↓p_ld, ↓p_st, ↓p_nm, ↓p_nS, ↓p_jn, ↓p_call, ↓p_callv, ↓p_dv, ↓p_rem, h_ldE, h_stE, h_nmE, h_nSE, h_callE, h_callvE, h_dvE, h_remE, if_true, if_false, z_upS, z_upO, z_upK, nI_add, z_mul, z_sub, z_div, Nat.add_zero, Nat.mul_zero, Nat.zero_add, Nat.sub_zero, Nat.zero_mul, z_ltT, z_ltF, z_leT, z_leF, z_eqT, z_eqF, z_inT, z_clT, not_true_eq_false, not_false_eq_true, eq_self, true_or, or_true, z_m_lt, z_m_le, z_lt_m, z_le_m, z_eq_m, z_m_eq, z_rz0, z_rz1, z_m_add, z_of, r_0_0, r_0_1, r_0_3, r_0_4, r_0_5, r_0_6, r_0_7, r_0_8, r_0_9, r_0_10, r_1_0, r_1_1, r_1_2, r_1_3, r_1_4, r_1_5, r_1_6, r_1_7, r_1_8, r_2_0, r_2_1, r_2_2, r_2_3, r_2_4, r_2_5, r_2_6, r_2_7, r_11_0, r_11_1, r_11_2, r_11_3, r_11_4, r_11_5, r_11_6, r_19_0, r_21_0, r_23_0, r_25_0, r_27_0, r_61_0, r_117_0, r_117_1, r_117_2, r_117_3, r_117_4, r_117_5, r_117_6, r_117_7, r_126_0, r_126_1, r_126_2, r_126_3, r_126_4, r_132_0, r_132_1, r_135_0, r_135_1, r_135_2, r_135_3, r_135_4, r_135_5, r_142_0, r_144_0, r_144_1, r_144_2, r_145_0, r_145_1, r_145_2, r_145_3, r_145_4, r_145_5, r_145_6, r_154_0, r_154_1, r_155_0, ↓z_m1, l_0, l_1, l_2, l_3, l_4, l_5, l_6, l_7, l_8, l_9, l_10, l_11, l_12, l_13, l_14, l_15, l_16, l_17, l_18, l_19, l_20, l_21, l_22, l_23, l_24, l_25, l_26, l_27, l_28, l_29, l_30, l_31, l_32, l_33, l_34, l_35, l_36, l_37, l_38, l_39, l_40, l_41, l_42, l_43, l_44, l_45, l_46, l_47, l_48, l_49, l_50, l_51, l_52, l_53, l_54, l_55, l_56, l_57, l_59, l_60, l_61, l_62, l_63, l_64, l_65, l_80, l_86, l_87, l_88, l_89, l_90, l_91, l_92, l_93, l_94, l_95, l_97, l_99, l_100, l_107, l_119, l_122, l_124, l_129, l_140, l_141, l_142, l_143, l_144, l_145, l_147, l_150, l_159, l_160, l_161, l_162, l_205, l_253, l_255, l_256, l_269, l_305, l_380, l_399, l_400, l_420, l_430, l_516, l_600, l_720, l_820, l_905, l_921, l_937, l_953, l_970, l_999, l_1000, l_1790, l_4096, l_9999, l_1000000]
theorem z_tabs {σ : q_Sto} {V : Nat → Int32} {mu me : Nat} : True := trivial
theorem c_sN32 {n mu me : Nat} {V : Nat → Int32} {K : q_Sto → Option (Int32 × q_Sto)} (hn : 402 ≤ n) :
    ∀ j i (σ : q_Sto), i ≤ mu → mu < j + i → z_C σ V mu me → σ 126 5 = nI mu → σ 126 6 = nI me → (∀ m, m < i → σ 127 m = nI (z_need V m) ∧ σ 128 m = nI (z_hs V m)) → (∀ m k h, m < i → k < me → h ≤ z_cnt (z_hs V m) 12 → σ 129 ((m*5+k)*12+h) = nI (z_lean V m k (z_lk V m k) h)) →
      ∃ σ', (∀ o, o ≠ 18 → o ≠ 30 → o ≠ 127 → o ≠ 128 → o ≠ 129 → σ' o = σ o) ∧ (∀ m, m < mu → σ' 127 m = nI (z_need V m) ∧ σ' 128 m = nI (z_hs V m)) ∧ (∀ m k h, m < mu → k < me → h ≤ z_cnt (z_hs V m) 12 → σ' 129 ((m*5+k)*12+h) = nI (z_lean V m k (z_lk V m k) h)) ∧
      f_X0_standNow_L32 n 126 1 2 K j (nI i) σ = K σ' := by
  intro j
  induction j with
  | zero => intro i σ h1 h2; omega
  | succ j ih =>
    intro i σ h1 h2 hC h5 h6 ht hf
    have hmu := hC.1.1
    have hme := hC.1.2.1
    by_cases hi : i = mu
    · subst hi
      refine ⟨σ, fun o _ _ _ _ _ => rfl, ht, hf, ?_⟩
      rw [f_X0_standNow_L32]
      simp (disch := omega) only [h5, ↓reduceIte, ↓p_ld, ↓p_st, ↓p_nm, ↓p_nS, ↓p_jn, ↓p_call, ↓p_callv, ↓p_dv, ↓p_rem, h_ldE, h_stE, h_nmE, h_nSE, h_callE, h_callvE, h_dvE, h_remE, if_true, if_false, z_upS, z_upO, z_upK, nI_add, z_mul, z_sub, z_div, Nat.add_zero, Nat.mul_zero, Nat.zero_add, Nat.sub_zero, Nat.zero_mul, z_ltT, z_ltF, z_leT, z_leF, z_eqT, z_eqF, z_inT, z_clT, not_true_eq_false, not_false_eq_true, eq_self, true_or, or_true, z_m_lt, z_m_le, z_lt_m, z_le_m, z_eq_m, z_m_eq, z_rz0, z_rz1, z_m_add, z_of, r_0_0, r_0_1, r_0_3, r_0_4, r_0_5, r_0_6, r_0_7, r_0_8, r_0_9, r_0_10, r_1_0, r_1_1, r_1_2, r_1_3, r_1_4, r_1_5, r_1_6, r_1_7, r_1_8, r_2_0, r_2_1, r_2_2, r_2_3, r_2_4, r_2_5, r_2_6, r_2_7, r_11_0, r_11_1, r_11_2, r_11_3, r_11_4, r_11_5, r_11_6, r_19_0, r_21_0, r_23_0, r_25_0, r_27_0, r_61_0, r_117_0, r_117_1, r_117_2, r_117_3, r_117_4, r_117_5, r_117_6, r_117_7, r_126_0, r_126_1, r_126_2, r_126_3, r_126_4, r_132_0, r_132_1, r_135_0, r_135_1, r_135_2, r_135_3, r_135_4, r_135_5, r_142_0, r_144_0, r_144_1, r_144_2, r_145_0, r_145_1, r_145_2, r_145_3, r_145_4, r_145_5, r_145_6, r_154_0, r_154_1, r_155_0, ↓z_m1, l_0, l_1, l_2, l_3, l_4, l_5, l_6, l_7, l_8, l_9, l_10, l_11, l_12, l_13, l_14, l_15, l_16, l_17, l_18, l_19, l_20, l_21, l_22, l_23, l_24, l_25, l_26, l_27, l_28, l_29, l_30, l_31, l_32, l_33, l_34, l_35, l_36, l_37, l_38, l_39, l_40, l_41, l_42, l_43, l_44, l_45, l_46, l_47, l_48, l_49, l_50, l_51, l_52, l_53, l_54, l_55, l_56, l_57, l_59, l_60, l_61, l_62, l_63, l_64, l_65, l_80, l_86, l_87, l_88, l_89, l_90, l_91, l_92, l_93, l_94, l_95, l_97, l_99, l_100, l_107, l_119, l_122, l_124, l_129, l_140, l_141, l_142, l_143, l_144, l_145, l_147, l_150, l_159, l_160, l_161, l_162, l_205, l_253, l_255, l_256, l_269, l_305, l_380, l_399, l_400, l_420, l_430, l_516, l_600, l_720, l_820, l_905, l_921, l_937, l_953, l_970, l_999, l_1000, l_1790, l_4096, l_9999, l_1000000]
    · obtain ⟨σ1, f1, f2⟩ := c_needOf hC hn (show i < mu by omega)
      obtain ⟨y1, y2, y3⟩ := z_hsE hmu hC.2.2.2.1 (m := i) (by omega)
      have h12 := z_p12 hmu
      have hC2 : z_C (q_up σ1 127 i (nI (z_need V i))) V mu me := hC.fr (fun o o1 o2 o3 => by rw [z_upO (by omega), f1 o (by omega) (by omega)])
      have eh := c_heededBy (n := n) (m := i) (by omega) hC2.2.2.2.1 (by omega)
      rw [y1] at eh
      have hmo : z_cnt (z_hs V i) 12 < 12 := z_cnt_lt y3 12 (by omega)
      have ec := c_bitCount (n := n) (s := z_hs V i) (σ := q_up (q_up σ1 127 i (nI (z_need V i))) 128 i (nI (z_hs V i))) (by omega)
      have hC3 : z_C (q_up (q_up σ1 127 i (nI (z_need V i))) 128 i (nI (z_hs V i))) V mu me := hC2.fr (fun o o1 o2 o3 => by rw [z_upO (by omega)])
      have e126 : q_up (q_up σ1 127 i (nI (z_need V i))) 128 i (nI (z_hs V i)) 126 = σ 126 := by rw [z_upO (by omega), z_upO (by omega), f1 126 (by omega) (by omega)]
      have e129 : q_up (q_up σ1 127 i (nI (z_need V i))) 128 i (nI (z_hs V i)) 129 = σ 129 := by rw [z_upO (by omega), z_upO (by omega), f1 129 (by omega) (by omega)]
      obtain ⟨σ2, g1, g2, g3, g4⟩ := c_sN76 (n := n) (m := i) (most := z_cnt (z_hs V i) 12) (K := fun (s22 : q_Sto) => f_X0_standNow_L32 n 126 1 2 K j (nI (i + 1)) s22) hn (show i < mu by omega) hmo n 0 _ (by omega) (by omega) hC3 (by rw [e126]; exact h6) (fun k h hk hh => by omega)
      obtain ⟨σ', k1, k2, k3, k4⟩ := ih (i+1) σ2 (by omega) (by omega) (hC3.fr (fun o o1 o2 o3 => g1 o (by omega) (by omega) (by omega))) (by rw [g1 126 (by omega) (by omega) (by omega), e126]; exact h5) (by rw [g1 126 (by omega) (by omega) (by omega), e126]; exact h6) (fun m hm => by
        rw [g1 127 (by omega) (by omega) (by omega), g1 128 (by omega) (by omega) (by omega)]
        by_cases e : m = i
        · subst e
          refine ⟨?_, z_upS⟩
          rw [z_upO (by omega)]; exact z_upS
        · have := ht m (by omega)
          rw [z_upO (by omega), z_upK e, z_upK e, z_upO (by omega), f1 127 (by omega) (by omega), f1 128 (by omega) (by omega)]
          exact this) (fun m k h hm hk hh => by
        by_cases e : m = i
        · subst e; exact g3 k h hk hh
        · have hm12 : z_cnt (z_hs V m) 12 ≤ 12 := z_cnt_le _ _
          have := hf m k h (by omega) hk hh
          have hlt : z_cnt (z_hs V m) 12 < 12 := z_cnt_lt (z_hsE hmu hC.2.2.2.1 (m := m) (by omega)).2.2 12 (by omega)
          rw [g2 _ (by omega), e129]
          exact this)
      refine ⟨σ', fun o o1 o2 o3 o4 o5 => by rw [k1 o o1 o2 o3 o4 o5, g1 o o1 o2 o5, z_upO o4, z_upO o3, f1 o o1 o2], k2, k3, ?_⟩
      rw [← k4, ← g4, f_X0_standNow_L32]
      simp (disch := omega) only [h5, f2, eh, ec, ↓reduceIte, ↓p_ld, ↓p_st, ↓p_nm, ↓p_nS, ↓p_jn, ↓p_call, ↓p_callv, ↓p_dv, ↓p_rem, h_ldE, h_stE, h_nmE, h_nSE, h_callE, h_callvE, h_dvE, h_remE, if_true, if_false, z_upS, z_upO, z_upK, nI_add, z_mul, z_sub, z_div, Nat.add_zero, Nat.mul_zero, Nat.zero_add, Nat.sub_zero, Nat.zero_mul, z_ltT, z_ltF, z_leT, z_leF, z_eqT, z_eqF, z_inT, z_clT, not_true_eq_false, not_false_eq_true, eq_self, true_or, or_true, z_m_lt, z_m_le, z_lt_m, z_le_m, z_eq_m, z_m_eq, z_rz0, z_rz1, z_m_add, z_of, r_0_0, r_0_1, r_0_3, r_0_4, r_0_5, r_0_6, r_0_7, r_0_8, r_0_9, r_0_10, r_1_0, r_1_1, r_1_2, r_1_3, r_1_4, r_1_5, r_1_6, r_1_7, r_1_8, r_2_0, r_2_1, r_2_2, r_2_3, r_2_4, r_2_5, r_2_6, r_2_7, r_11_0, r_11_1, r_11_2, r_11_3, r_11_4, r_11_5, r_11_6, r_19_0, r_21_0, r_23_0, r_25_0, r_27_0, r_61_0, r_117_0, r_117_1, r_117_2, r_117_3, r_117_4, r_117_5, r_117_6, r_117_7, r_126_0, r_126_1, r_126_2, r_126_3, r_126_4, r_132_0, r_132_1, r_135_0, r_135_1, r_135_2, r_135_3, r_135_4, r_135_5, r_142_0, r_144_0, r_144_1, r_144_2, r_145_0, r_145_1, r_145_2, r_145_3, r_145_4, r_145_5, r_145_6, r_154_0, r_154_1, r_155_0, ↓z_m1, l_0, l_1, l_2, l_3, l_4, l_5, l_6, l_7, l_8, l_9, l_10, l_11, l_12, l_13, l_14, l_15, l_16, l_17, l_18, l_19, l_20, l_21, l_22, l_23, l_24, l_25, l_26, l_27, l_28, l_29, l_30, l_31, l_32, l_33, l_34, l_35, l_36, l_37, l_38, l_39, l_40, l_41, l_42, l_43, l_44, l_45, l_46, l_47, l_48, l_49, l_50, l_51, l_52, l_53, l_54, l_55, l_56, l_57, l_59, l_60, l_61, l_62, l_63, l_64, l_65, l_80, l_86, l_87, l_88, l_89, l_90, l_91, l_92, l_93, l_94, l_95, l_97, l_99, l_100, l_107, l_119, l_122, l_124, l_129, l_140, l_141, l_142, l_143, l_144, l_145, l_147, l_150, l_159, l_160, l_161, l_162, l_205, l_253, l_255, l_256, l_269, l_305, l_380, l_399, l_400, l_420, l_430, l_516, l_600, l_720, l_820, l_905, l_921, l_937, l_953, l_970, l_999, l_1000, l_1790, l_4096, l_9999, l_1000000]
theorem z_BTof {σ : q_Sto} {V : Nat → Int32} {mu me : Nat} (h5 : σ 126 5 = nI mu) (h6 : σ 126 6 = nI me) (h7 : ∀ m, m < mu → σ 127 m = nI (z_need V m) ∧ σ 128 m = nI (z_hs V m)) (h8 : ∀ m k h, m < mu → k < me → h ≤ z_cnt (z_hs V m) 12 → σ 129 ((m*5+k)*12+h) = nI (z_lean V m k (z_lk V m k) h)) (hme : me ≤ 5) :
    z_B0 σ (z_bt V mu me) ∧ z_B1 σ (z_bt V mu me) 0 z_m :=
  ⟨⟨h5, h6, fun m hm => (h7 m hm).1, fun m hm => (h7 m hm).2⟩, fun m k h hm hk hh => by
    have hk : k < me := hk
    have e : (if (0 : Nat).testBit m = true then z_m else z_m) = z_m := by split <;> rfl
    rw [e, if_neg (fun q => by rw [z_eq_m (by omega)] at q; exact q)]
    exact h8 m k h hm hk hh⟩
/-- the class's VOTE in thought -/
theorem c_standNow {n s mu me : Nat} {V : Nat → Int32} {σ : q_Sto} (hn : 402 ≤ n) (hC : z_C σ V mu me) (h7 : V 7 = nI s) :
    ∃ σ', (∀ o, o ≠ 18 → o ≠ 30 → o < 126 ∨ 131 < o → σ' o = σ o) ∧ z_B0 σ' (z_bt V mu me) ∧ z_B1 σ' (z_bt V mu me) 0 z_m ∧ σ' 126 7 = nI (z_vote (z_bt V mu me) (fun i => s.testBit i)).2 ∧ σ' 126 8 = z_vw (z_drv (z_bt V mu me) (fun i => s.testBit i)) ∧
      (∀ k, k < me → σ' 131 k = nI (z_side (z_vote (z_bt V mu me) (fun i => s.testBit i)).1 k mu)) ∧ f_X0_standNow n 126 1 σ = some (nI 0, σ') := by
  have hmu := hC.1.1
  have hme := hC.1.2.1
  have g8 : σ 2 8 = nI mu := hC.2.1.1.1
  have g9 : σ 2 9 = nI me := hC.2.1.1.2.1
  have hBO := z_bt_ok hmu hme hC.2.2.2.1
  have hC0 : z_C (q_up (q_up σ 126 5 (nI mu)) 126 6 (nI me)) V mu me := hC.fr (fun o o1 o2 o3 => by rw [z_upO (by omega), z_upO (by omega)])
  obtain ⟨σ1, f1, f2, f3, f4⟩ := c_sN32 (n := n) (K := fun (s23 : q_Sto) => q_call (f_X9_lameOnes n 2 s23) fun r25 s24 => q_callv (f_X0_settle n 126 r25 (nI 0) z_m s24) fun s26 => some (nI 0, s26)) hn n 0 _ (by omega) (by omega) hC0 (by simp (disch := omega) only [↓reduceIte, ↓p_ld, ↓p_st, ↓p_nm, ↓p_nS, ↓p_jn, ↓p_call, ↓p_callv, ↓p_dv, ↓p_rem, h_ldE, h_stE, h_nmE, h_nSE, h_callE, h_callvE, h_dvE, h_remE, if_true, if_false, z_upS, z_upO, z_upK, nI_add, z_mul, z_sub, z_div, Nat.add_zero, Nat.mul_zero, Nat.zero_add, Nat.sub_zero, Nat.zero_mul, z_ltT, z_ltF, z_leT, z_leF, z_eqT, z_eqF, z_inT, z_clT, not_true_eq_false, not_false_eq_true, eq_self, true_or, or_true, z_m_lt, z_m_le, z_lt_m, z_le_m, z_eq_m, z_m_eq, z_rz0, z_rz1, z_m_add, z_of, ↓z_m1, l_0, l_1, l_2, l_3, l_4, l_5, l_6, l_7, l_8, l_9, l_10, l_11, l_12, l_13, l_14, l_15, l_16, l_17, l_18, l_19, l_20, l_21, l_22, l_23, l_24, l_25, l_26, l_27, l_28, l_29, l_30, l_31, l_32, l_33, l_34, l_35, l_36, l_37, l_38, l_39, l_40, l_41, l_42, l_43, l_44, l_45, l_46, l_47, l_48, l_49, l_50, l_51, l_52, l_53, l_54, l_55, l_56, l_57, l_59, l_60, l_61, l_62, l_63, l_64, l_65, l_80, l_86, l_87, l_88, l_89, l_90, l_91, l_92, l_93, l_94, l_95, l_97, l_99, l_100, l_107, l_119, l_122, l_124, l_129, l_140, l_141, l_142, l_143, l_144, l_145, l_147, l_150, l_159, l_160, l_161, l_162, l_205, l_253, l_255, l_256, l_269, l_305, l_380, l_399, l_400, l_420, l_430, l_516, l_600, l_720, l_820, l_905, l_921, l_937, l_953, l_970, l_999, l_1000, l_1790, l_4096, l_9999, l_1000000]) z_upS (fun m hm => by omega) (fun m k h hm => by omega)
  have hC1 : z_C σ1 V mu me := hC0.fr (fun o o1 o2 o3 => f1 o (by omega) (by omega) (by omega) (by omega) (by omega))
  have e126 : σ1 126 = q_up (q_up σ 126 5 (nI mu)) 126 6 (nI me) 126 := f1 126 (by omega) (by omega) (by omega) (by omega) (by omega)
  obtain ⟨hb0, hb1⟩ := z_BTof (V := V) (mu := mu) (me := me) (by rw [e126]; simp (disch := omega) only [↓reduceIte, ↓p_ld, ↓p_st, ↓p_nm, ↓p_nS, ↓p_jn, ↓p_call, ↓p_callv, ↓p_dv, ↓p_rem, h_ldE, h_stE, h_nmE, h_nSE, h_callE, h_callvE, h_dvE, h_remE, if_true, if_false, z_upS, z_upO, z_upK, nI_add, z_mul, z_sub, z_div, Nat.add_zero, Nat.mul_zero, Nat.zero_add, Nat.sub_zero, Nat.zero_mul, z_ltT, z_ltF, z_leT, z_leF, z_eqT, z_eqF, z_inT, z_clT, not_true_eq_false, not_false_eq_true, eq_self, true_or, or_true, z_m_lt, z_m_le, z_lt_m, z_le_m, z_eq_m, z_m_eq, z_rz0, z_rz1, z_m_add, z_of, ↓z_m1, l_0, l_1, l_2, l_3, l_4, l_5, l_6, l_7, l_8, l_9, l_10, l_11, l_12, l_13, l_14, l_15, l_16, l_17, l_18, l_19, l_20, l_21, l_22, l_23, l_24, l_25, l_26, l_27, l_28, l_29, l_30, l_31, l_32, l_33, l_34, l_35, l_36, l_37, l_38, l_39, l_40, l_41, l_42, l_43, l_44, l_45, l_46, l_47, l_48, l_49, l_50, l_51, l_52, l_53, l_54, l_55, l_56, l_57, l_59, l_60, l_61, l_62, l_63, l_64, l_65, l_80, l_86, l_87, l_88, l_89, l_90, l_91, l_92, l_93, l_94, l_95, l_97, l_99, l_100, l_107, l_119, l_122, l_124, l_129, l_140, l_141, l_142, l_143, l_144, l_145, l_147, l_150, l_159, l_160, l_161, l_162, l_205, l_253, l_255, l_256, l_269, l_305, l_380, l_399, l_400, l_420, l_430, l_516, l_600, l_720, l_820, l_905, l_921, l_937, l_953, l_970, l_999, l_1000, l_1790, l_4096, l_9999, l_1000000]) (by rw [e126]; exact z_upS) f2 f3 hme
  have eL := c_lameOnes (n := n) (by omega) hC1.1 hC1.2.1
  rw [h7] at eL
  obtain ⟨σ2, k1, k2, k3, k4, k5, k6⟩ := c_settle (n := n) (s := s) (gv := 0) (g := z_m) hn hBO (by omega) hb0 hb1
  have e7 : ∀ o, o ≠ 126 → o ≠ 131 → σ2 o = σ1 o := fun o o1 o2 => k1 o o2 o1
  refine ⟨σ2, fun o o1 o2 o3 => by rw [e7 o (by omega) (by omega), f1 o o1 o2 (by omega) (by omega) (by omega), z_upO (by omega), z_upO (by omega)], hb0.fr (k2 5 (by omega) (by omega)) (k2 6 (by omega) (by omega)) (e7 127 (by omega) (by omega)) (e7 128 (by omega) (by omega)), hb1.fr (e7 129 (by omega) (by omega)) (e7 130 (by omega) (by omega)), k3, k4, k5, ?_⟩
  have e0 : f_X0_standNow n 126 1 σ = f_X0_standNow_L32 n 126 1 2 (fun (s23 : q_Sto) => q_call (f_X9_lameOnes n 2 s23) fun r25 s24 => q_callv (f_X0_settle n 126 r25 (nI 0) z_m s24) fun s26 => some (nI 0, s26)) n (nI 0) (q_up (q_up σ 126 5 (nI mu)) 126 6 (nI me)) := by
    have q1 : q_mn 12 (σ 2 8) = nI mu := by
      rw [g8, show (12 : Int32) = nI 12 from rfl, z_mnE (by omega) (by omega)]
      congr 1; omega
    have q2 : ∀ v, q_mn 5 (q_up σ 126 5 v 2 9) = nI me := by
      intro v
      rw [z_upO (by omega), g9, show (5 : Int32) = nI 5 from rfl, z_mnE (by omega) (by omega)]
      congr 1; omega
    show f_X0_standNow_L32 n 126 1 2 _ n 0 (q_up (q_up σ 126 5 (q_mn 12 (σ 2 8))) 126 6 (q_mn 5 (q_up σ 126 5 (q_mn 12 (σ 2 8)) 2 9))) = _
    rw [q1, q2]
    rfl
  rw [e0, f4]
  simp (disch := omega) only [eL, k6, ↓reduceIte, ↓p_ld, ↓p_st, ↓p_nm, ↓p_nS, ↓p_jn, ↓p_call, ↓p_callv, ↓p_dv, ↓p_rem, h_ldE, h_stE, h_nmE, h_nSE, h_callE, h_callvE, h_dvE, h_remE, if_true, if_false, z_upS, z_upO, z_upK, nI_add, z_mul, z_sub, z_div, Nat.add_zero, Nat.mul_zero, Nat.zero_add, Nat.sub_zero, Nat.zero_mul, z_ltT, z_ltF, z_leT, z_leF, z_eqT, z_eqF, z_inT, z_clT, not_true_eq_false, not_false_eq_true, eq_self, true_or, or_true, z_m_lt, z_m_le, z_lt_m, z_le_m, z_eq_m, z_m_eq, z_rz0, z_rz1, z_m_add, z_of, r_0_0, r_0_1, r_0_3, r_0_4, r_0_5, r_0_6, r_0_7, r_0_8, r_0_9, r_0_10, r_1_0, r_1_1, r_1_2, r_1_3, r_1_4, r_1_5, r_1_6, r_1_7, r_1_8, r_2_0, r_2_1, r_2_2, r_2_3, r_2_4, r_2_5, r_2_6, r_2_7, r_11_0, r_11_1, r_11_2, r_11_3, r_11_4, r_11_5, r_11_6, r_19_0, r_21_0, r_23_0, r_25_0, r_27_0, r_61_0, r_117_0, r_117_1, r_117_2, r_117_3, r_117_4, r_117_5, r_117_6, r_117_7, r_126_0, r_126_1, r_126_2, r_126_3, r_126_4, r_132_0, r_132_1, r_135_0, r_135_1, r_135_2, r_135_3, r_135_4, r_135_5, r_142_0, r_144_0, r_144_1, r_144_2, r_145_0, r_145_1, r_145_2, r_145_3, r_145_4, r_145_5, r_145_6, r_154_0, r_154_1, r_155_0, ↓z_m1, l_0, l_1, l_2, l_3, l_4, l_5, l_6, l_7, l_8, l_9, l_10, l_11, l_12, l_13, l_14, l_15, l_16, l_17, l_18, l_19, l_20, l_21, l_22, l_23, l_24, l_25, l_26, l_27, l_28, l_29, l_30, l_31, l_32, l_33, l_34, l_35, l_36, l_37, l_38, l_39, l_40, l_41, l_42, l_43, l_44, l_45, l_46, l_47, l_48, l_49, l_50, l_51, l_52, l_53, l_54, l_55, l_56, l_57, l_59, l_60, l_61, l_62, l_63, l_64, l_65, l_80, l_86, l_87, l_88, l_89, l_90, l_91, l_92, l_93, l_94, l_95, l_97, l_99, l_100, l_107, l_119, l_122, l_124, l_129, l_140, l_141, l_142, l_143, l_144, l_145, l_147, l_150, l_159, l_160, l_161, l_162, l_205, l_253, l_255, l_256, l_269, l_305, l_380, l_399, l_400, l_420, l_430, l_516, l_600, l_720, l_820, l_905, l_921, l_937, l_953, l_970, l_999, l_1000, l_1790, l_4096, l_9999, l_1000000]
theorem z_vwq {a : Nat} : z_vw (a + 1) = nI a := rfl
theorem c_choiceOf_L {n m mu me : Nat} {B : Nat → Nat} {σ : q_Sto} (hmu : mu ≤ 12) (hme : me ≤ 5) (h6 : σ 126 6 = nI me) (hs : ∀ k, k < me → σ 131 k = nI (z_side B k mu)) (hm : m < mu) (hB : B m ≤ me) : ∀ j i, i ≤ me → me < j + i → (∀ k, k < i → B m ≠ k + 1) → f_X0_choiceOf_L2 n 126 (nI m) j (nI i) σ = some (z_vw (B m), σ) := by
  intro j
  induction j with
  | zero => intro i h1 h2; omega
  | succ j ih =>
    intro i h1 h2 hk
    by_cases hi : i = me
    · have e : B m = 0 := by
        cases hb : B m with
        | zero => rfl
        | succ w => exact absurd hb (hk w (by omega))
      rw [e, hi]
      have e0 : z_vw 0 = z_m := rfl
      rw [f_X0_choiceOf_L2]
      simp (disch := omega) only [h6, e0, ↓reduceIte, ↓p_ld, ↓p_st, ↓p_nm, ↓p_nS, ↓p_jn, ↓p_call, ↓p_callv, ↓p_dv, ↓p_rem, h_ldE, h_stE, h_nmE, h_nSE, h_callE, h_callvE, h_dvE, h_remE, if_true, if_false, z_upS, z_upO, z_upK, nI_add, z_mul, z_sub, z_div, Nat.add_zero, Nat.mul_zero, Nat.zero_add, Nat.sub_zero, Nat.zero_mul, z_ltT, z_ltF, z_leT, z_leF, z_eqT, z_eqF, z_inT, z_clT, not_true_eq_false, not_false_eq_true, eq_self, true_or, or_true, z_m_lt, z_m_le, z_lt_m, z_le_m, z_eq_m, z_m_eq, z_rz0, z_rz1, z_m_add, z_of, r_0_0, r_0_1, r_0_3, r_0_4, r_0_5, r_0_6, r_0_7, r_0_8, r_0_9, r_0_10, r_1_0, r_1_1, r_1_2, r_1_3, r_1_4, r_1_5, r_1_6, r_1_7, r_1_8, r_2_0, r_2_1, r_2_2, r_2_3, r_2_4, r_2_5, r_2_6, r_2_7, r_11_0, r_11_1, r_11_2, r_11_3, r_11_4, r_11_5, r_11_6, r_19_0, r_21_0, r_23_0, r_25_0, r_27_0, r_61_0, r_117_0, r_117_1, r_117_2, r_117_3, r_117_4, r_117_5, r_117_6, r_117_7, r_126_0, r_126_1, r_126_2, r_126_3, r_126_4, r_132_0, r_132_1, r_135_0, r_135_1, r_135_2, r_135_3, r_135_4, r_135_5, r_142_0, r_144_0, r_144_1, r_144_2, r_145_0, r_145_1, r_145_2, r_145_3, r_145_4, r_145_5, r_145_6, r_154_0, r_154_1, r_155_0, ↓z_m1, l_0, l_1, l_2, l_3, l_4, l_5, l_6, l_7, l_8, l_9, l_10, l_11, l_12, l_13, l_14, l_15, l_16, l_17, l_18, l_19, l_20, l_21, l_22, l_23, l_24, l_25, l_26, l_27, l_28, l_29, l_30, l_31, l_32, l_33, l_34, l_35, l_36, l_37, l_38, l_39, l_40, l_41, l_42, l_43, l_44, l_45, l_46, l_47, l_48, l_49, l_50, l_51, l_52, l_53, l_54, l_55, l_56, l_57, l_59, l_60, l_61, l_62, l_63, l_64, l_65, l_80, l_86, l_87, l_88, l_89, l_90, l_91, l_92, l_93, l_94, l_95, l_97, l_99, l_100, l_107, l_119, l_122, l_124, l_129, l_140, l_141, l_142, l_143, l_144, l_145, l_147, l_150, l_159, l_160, l_161, l_162, l_205, l_253, l_255, l_256, l_269, l_305, l_380, l_399, l_400, l_420, l_430, l_516, l_600, l_720, l_820, l_905, l_921, l_937, l_953, l_970, l_999, l_1000, l_1790, l_4096, l_9999, l_1000000]
    · have es := hs i (by omega)
      have hlt := z_set_lt12 (fun j => decide (B j = i + 1)) hmu
      have hlt : z_side B i mu < 4096 := hlt
      have htb : (z_side B i mu).testBit m = decide (B m = i + 1) := by
        unfold z_side
        rw [z_set_tb]
        simp [hm]
      by_cases hb : B m = i + 1
      · have eI := c_isInT (n := n) (σ := σ) (s := z_side B i mu) (m := m) (by omega) (by omega) (by rw [htb]; simp [hb])
        rw [hb, z_vwq, f_X0_choiceOf_L2]
        simp (disch := omega) only [h6, es, eI, ↓reduceIte, ↓p_ld, ↓p_st, ↓p_nm, ↓p_nS, ↓p_jn, ↓p_call, ↓p_callv, ↓p_dv, ↓p_rem, h_ldE, h_stE, h_nmE, h_nSE, h_callE, h_callvE, h_dvE, h_remE, if_true, if_false, z_upS, z_upO, z_upK, nI_add, z_mul, z_sub, z_div, Nat.add_zero, Nat.mul_zero, Nat.zero_add, Nat.sub_zero, Nat.zero_mul, z_ltT, z_ltF, z_leT, z_leF, z_eqT, z_eqF, z_inT, z_clT, not_true_eq_false, not_false_eq_true, eq_self, true_or, or_true, z_m_lt, z_m_le, z_lt_m, z_le_m, z_eq_m, z_m_eq, z_rz0, z_rz1, z_m_add, z_of, r_0_0, r_0_1, r_0_3, r_0_4, r_0_5, r_0_6, r_0_7, r_0_8, r_0_9, r_0_10, r_1_0, r_1_1, r_1_2, r_1_3, r_1_4, r_1_5, r_1_6, r_1_7, r_1_8, r_2_0, r_2_1, r_2_2, r_2_3, r_2_4, r_2_5, r_2_6, r_2_7, r_11_0, r_11_1, r_11_2, r_11_3, r_11_4, r_11_5, r_11_6, r_19_0, r_21_0, r_23_0, r_25_0, r_27_0, r_61_0, r_117_0, r_117_1, r_117_2, r_117_3, r_117_4, r_117_5, r_117_6, r_117_7, r_126_0, r_126_1, r_126_2, r_126_3, r_126_4, r_132_0, r_132_1, r_135_0, r_135_1, r_135_2, r_135_3, r_135_4, r_135_5, r_142_0, r_144_0, r_144_1, r_144_2, r_145_0, r_145_1, r_145_2, r_145_3, r_145_4, r_145_5, r_145_6, r_154_0, r_154_1, r_155_0, ↓z_m1, l_0, l_1, l_2, l_3, l_4, l_5, l_6, l_7, l_8, l_9, l_10, l_11, l_12, l_13, l_14, l_15, l_16, l_17, l_18, l_19, l_20, l_21, l_22, l_23, l_24, l_25, l_26, l_27, l_28, l_29, l_30, l_31, l_32, l_33, l_34, l_35, l_36, l_37, l_38, l_39, l_40, l_41, l_42, l_43, l_44, l_45, l_46, l_47, l_48, l_49, l_50, l_51, l_52, l_53, l_54, l_55, l_56, l_57, l_59, l_60, l_61, l_62, l_63, l_64, l_65, l_80, l_86, l_87, l_88, l_89, l_90, l_91, l_92, l_93, l_94, l_95, l_97, l_99, l_100, l_107, l_119, l_122, l_124, l_129, l_140, l_141, l_142, l_143, l_144, l_145, l_147, l_150, l_159, l_160, l_161, l_162, l_205, l_253, l_255, l_256, l_269, l_305, l_380, l_399, l_400, l_420, l_430, l_516, l_600, l_720, l_820, l_905, l_921, l_937, l_953, l_970, l_999, l_1000, l_1790, l_4096, l_9999, l_1000000]
      · have eI := c_isInF (n := n) (σ := σ) (s := z_side B i mu) (m := m) (by omega) (by omega) (by rw [htb]; simp [hb])
        have ih := ih (i+1) (by omega) (by omega) (fun k hk2 => by
          by_cases e : k = i
          · subst e; exact hb
          · exact hk k (by omega))
        rw [← ih, f_X0_choiceOf_L2]
        simp (disch := omega) only [h6, es, eI, ↓reduceIte, ↓p_ld, ↓p_st, ↓p_nm, ↓p_nS, ↓p_jn, ↓p_call, ↓p_callv, ↓p_dv, ↓p_rem, h_ldE, h_stE, h_nmE, h_nSE, h_callE, h_callvE, h_dvE, h_remE, if_true, if_false, z_upS, z_upO, z_upK, nI_add, z_mul, z_sub, z_div, Nat.add_zero, Nat.mul_zero, Nat.zero_add, Nat.sub_zero, Nat.zero_mul, z_ltT, z_ltF, z_leT, z_leF, z_eqT, z_eqF, z_inT, z_clT, not_true_eq_false, not_false_eq_true, eq_self, true_or, or_true, z_m_lt, z_m_le, z_lt_m, z_le_m, z_eq_m, z_m_eq, z_rz0, z_rz1, z_m_add, z_of, r_0_0, r_0_1, r_0_3, r_0_4, r_0_5, r_0_6, r_0_7, r_0_8, r_0_9, r_0_10, r_1_0, r_1_1, r_1_2, r_1_3, r_1_4, r_1_5, r_1_6, r_1_7, r_1_8, r_2_0, r_2_1, r_2_2, r_2_3, r_2_4, r_2_5, r_2_6, r_2_7, r_11_0, r_11_1, r_11_2, r_11_3, r_11_4, r_11_5, r_11_6, r_19_0, r_21_0, r_23_0, r_25_0, r_27_0, r_61_0, r_117_0, r_117_1, r_117_2, r_117_3, r_117_4, r_117_5, r_117_6, r_117_7, r_126_0, r_126_1, r_126_2, r_126_3, r_126_4, r_132_0, r_132_1, r_135_0, r_135_1, r_135_2, r_135_3, r_135_4, r_135_5, r_142_0, r_144_0, r_144_1, r_144_2, r_145_0, r_145_1, r_145_2, r_145_3, r_145_4, r_145_5, r_145_6, r_154_0, r_154_1, r_155_0, ↓z_m1, l_0, l_1, l_2, l_3, l_4, l_5, l_6, l_7, l_8, l_9, l_10, l_11, l_12, l_13, l_14, l_15, l_16, l_17, l_18, l_19, l_20, l_21, l_22, l_23, l_24, l_25, l_26, l_27, l_28, l_29, l_30, l_31, l_32, l_33, l_34, l_35, l_36, l_37, l_38, l_39, l_40, l_41, l_42, l_43, l_44, l_45, l_46, l_47, l_48, l_49, l_50, l_51, l_52, l_53, l_54, l_55, l_56, l_57, l_59, l_60, l_61, l_62, l_63, l_64, l_65, l_80, l_86, l_87, l_88, l_89, l_90, l_91, l_92, l_93, l_94, l_95, l_97, l_99, l_100, l_107, l_119, l_122, l_124, l_129, l_140, l_141, l_142, l_143, l_144, l_145, l_147, l_150, l_159, l_160, l_161, l_162, l_205, l_253, l_255, l_256, l_269, l_305, l_380, l_399, l_400, l_420, l_430, l_516, l_600, l_720, l_820, l_905, l_921, l_937, l_953, l_970, l_999, l_1000, l_1790, l_4096, l_9999, l_1000000]
theorem c_choiceOf {n m mu me : Nat} {B : Nat → Nat} {σ : q_Sto} (hn : 6 ≤ n) (hmu : mu ≤ 12) (hme : me ≤ 5) (h6 : σ 126 6 = nI me) (hs : ∀ k, k < me → σ 131 k = nI (z_side B k mu)) (hm : m < mu) (hB : B m ≤ me) : f_X0_choiceOf n 126 (nI m) σ = some (z_vw (B m), σ) :=
  c_choiceOf_L hmu hme h6 hs hm hB n 0 (by omega) (by omega) (fun k hk => by omega)
