/-! plans, days: class and train -/
section DA
variable {p b L pl pa : Nat} {d : Nat → Nat}
def y_cd (w : Nat) : Nat := if w = 3 then 13 else if w = 4 then 14 else 10 + w
theorem y_cd_q {w q : Nat} {x : Int32} (hw : w ≤ 4) (hq : q ≤ 14) (h1 : x = nI (y_cd w)) (h2 : x = nI q) : q = y_cd w := by
  have hl : y_cd w ≤ 14 := by
    unfold y_cd
    split
    · omega
    · split <;> omega
  rw [h1, nI_eq (by omega) (by omega)] at h2
  exact h2.symm
theorem q_plan {n mu me w0 i c : Nat} {P V : Nat → Int32} {σc : q_Sto} (hn : 402 ≤ n) (hc : z_X mu me true w0 P σc V) (hK : y_LK L d V) (h91 : V 91 = nI c) (hc16 : c ≤ 16) (hi : i < c) :
    ∃ W r, r ≤ 1 ∧ z_PC mu me true w0 P V W (f_X10_doPlan n 1 (nI i) 126 (nI 1)) (nI r) ∧ z_sam V W ∧ ∀ w, w ≤ 4 → V (141+4*i+1) = nI (y_cd w) → x_PF p b L pl pa mu me d 13 52 V W (F_X12_does n p (nI w) (V (141+4*i+2)) (V (141+4*i+3)) (nI 1)) (nI r) := by
  have hmu := hc.1.1.1
  have hme := hc.1.1.2.1
  obtain ⟨c', c1, -, c3, hrow⟩ := hc.1.2.2.2.2.1.cd
  have hcc : c' = c := by rw [h91, nI_eq (by omega) (by omega)] at c3; exact c3.symm
  subst hcc
  obtain ⟨-, -, -, q, q1, q2, q3, -, q5, q6, q7⟩ := hrow i hi
  have rowC : ∀ σ, z_X mu me true w0 P σ V → (∀ jj, jj < 4 → f_X6_cell n 21 (nI i) (nI jj) σ = some (σ 22 (i*4+jj), σ)) ∧ σ 22 (i*4+1) = nI (z_cd q) ∧ σ 22 (i*4+2) = V (141+4*i+2) ∧ σ 22 (i*4+3) = V (141+4*i+3) := by
    intro σ h
    obtain ⟨d, d1, d2, d3, dr⟩ := h.1.2.2.2.2.1.cd
    have hdc : d = c' := by rw [h91, nI_eq (by omega) (by omega)] at d3; exact d3.symm
    subst hdc
    obtain ⟨-, e2, e3, p, p1, p2, p3, p4, -⟩ := dr i hi
    have hpq : p = q := by rw [q3, nI_eq (by omega) (by omega)] at p3; exact p3.symm
    subst hpq
    exact ⟨fun jj hj => c_cell (n := n) r_21_0 d2 d1 hi hj, p4, e2, e3⟩
  have hwq : ∀ w, w ≤ 4 → V (141+4*i+1) = nI (y_cd w) → q = y_cd w := fun w hw e => y_cd_q hw q2 e q3
  have hw5 : ∀ w, w ≤ 4 → w = 0 ∨ w = 1 ∨ w = 2 ∨ w = 3 ∨ w = 4 := fun w hw => by omega
  have hqq : q = 10 ∨ q = 11 ∨ q = 12 ∨ q = 13 ∨ q = 14 := by omega
  rcases hqq with rfl | rfl | rfl | rfl | rfl
  · obtain ⟨k, hk, ek⟩ := q5 (Or.inl rfl)
    obtain ⟨m, hm, em⟩ := q6 (Or.inl rfl)
    have hw0 : ∀ w, w ≤ 4 → V (141+4*i+1) = nI (y_cd w) → w = 0 := fun w hw e => by
      have := hwq w hw e
      rcases hw5 w hw with rfl | rfl | rfl | rfl | rfl <;> first | rfl | (exact absurd this (by decide))
    obtain ⟨x1, x2⟩ := z_leE (hc.1.1.2.2.2.2.2.2.2.1 k hk).1 (by omega)
    generalize zn (V (80+k)) = sl at *
    cases sl with
    | zero =>
      refine ⟨V, 0, by omega, fun σ h => ⟨σ, z_fX.refl σ, h, ?_⟩, z_sam.refl V, fun w hw e => ?_⟩
      · obtain ⟨cl, e1, e2, e3⟩ := rowC σ h
        have cl1 := cl 1 (by omega)
        have cl2 := cl 2 (by omega)
        have cl3 := cl 3 (by omega)
        rw [e1] at cl1
        rw [e2, ek] at cl2
        rw [e3, em] at cl3
        have g8 : σ 2 8 = nI mu := h.1.2.1.1.1
        have g9 : σ 2 9 = nI me := h.1.2.1.1.2.1
        have e7 : σ 7 k = nI 0 := by rw [← x1]; exact (h.1.2.1.2.2.2.2.1 k hk).1
        have ez : z_cd 10 = 1 := rfl
        unfold f_X10_doPlan
        simp (disch := omega) only [cl1, cl2, cl3, ez, f_X10_canTreat, f_X9_hasMan, f_X9_hasMule, g8, g9, e7, ↓reduceIte, ↓p_ld, ↓p_st, ↓p_nm, ↓p_nS, ↓p_jn, ↓p_call, ↓p_callv, ↓p_dv, ↓p_rem, h_ldE, h_stE, h_nmE, h_nSE, h_callE, h_callvE, h_dvE, h_remE, if_true, if_false, z_upS, z_upO, z_upK, nI_add, z_mul, z_sub, z_div, Nat.add_zero, Nat.mul_zero, Nat.zero_add, Nat.sub_zero, Nat.zero_mul, z_ltT, z_ltF, z_leT, z_leF, z_eqT, z_eqF, z_inT, z_clT, not_true_eq_false, not_false_eq_true, eq_self, true_or, or_true, z_m_lt, z_m_le, z_lt_m, z_le_m, z_eq_m, z_m_eq, z_rz0, z_rz1, z_m_add, z_of, r_0_0, r_0_1, r_0_3, r_0_4, r_0_5, r_0_6, r_0_7, r_0_8, r_0_9, r_0_10, r_1_0, r_1_1, r_1_2, r_1_3, r_1_4, r_1_5, r_1_6, r_1_7, r_1_8, r_2_0, r_2_1, r_2_2, r_2_3, r_2_4, r_2_5, r_2_6, r_2_7, r_11_0, r_11_1, r_11_2, r_11_3, r_11_4, r_11_5, r_11_6, r_19_0, r_21_0, r_23_0, r_25_0, r_27_0, r_61_0, r_117_0, r_117_1, r_117_2, r_117_3, r_117_4, r_117_5, r_117_6, r_117_7, r_126_0, r_126_1, r_126_2, r_126_3, r_126_4, r_132_0, r_132_1, r_135_0, r_135_1, r_135_2, r_135_3, r_135_4, r_135_5, r_142_0, r_144_0, r_144_1, r_144_2, r_145_0, r_145_1, r_145_2, r_145_3, r_145_4, r_145_5, r_145_6, r_154_0, r_154_1, r_155_0, ↓z_m1, l_0, l_1, l_2, l_3, l_4, l_5, l_6, l_7, l_8, l_9, l_10, l_11, l_12, l_13, l_14, l_15, l_16, l_17, l_18, l_19, l_20, l_21, l_22, l_23, l_24, l_25, l_26, l_27, l_28, l_29, l_30, l_31, l_32, l_33, l_34, l_35, l_36, l_37, l_38, l_39, l_40, l_41, l_42, l_43, l_44, l_45, l_46, l_47, l_48, l_49, l_50, l_51, l_52, l_53, l_54, l_55, l_56, l_57, l_59, l_60, l_61, l_62, l_63, l_64, l_65, l_80, l_86, l_87, l_88, l_89, l_90, l_91, l_92, l_93, l_94, l_95, l_97, l_99, l_100, l_107, l_119, l_122, l_124, l_129, l_140, l_141, l_142, l_143, l_144, l_145, l_147, l_150, l_159, l_160, l_161, l_162, l_205, l_253, l_255, l_256, l_269, l_305, l_380, l_399, l_400, l_420, l_430, l_516, l_600, l_720, l_820, l_905, l_921, l_937, l_953, l_970, l_999, l_1000, l_1790, l_4096, l_9999, l_1000000]
      · rw [hw0 w hw e, ek, em]
        exact F_does0 hk x1
    | succ sl =>
      obtain ⟨W, w1, ws, w2⟩ := q_does0 (p := p) (b := b) (L := L) (pl := pl) (pa := pa) (d := d) (n := n) hc hk hm x1 x2
      refine ⟨W, 1, by omega, fun σ h => ?_, ws, fun w hw e => ?_⟩
      · obtain ⟨cl, e1, e2, e3⟩ := rowC σ h
        have cl1 := cl 1 (by omega)
        have cl2 := cl 2 (by omega)
        have cl3 := cl 3 (by omega)
        rw [e1] at cl1
        rw [e2, ek] at cl2
        rw [e3, em] at cl3
        have g8 : σ 2 8 = nI mu := h.1.2.1.1.1
        have g9 : σ 2 9 = nI me := h.1.2.1.1.2.1
        have e7 : σ 7 k = nI (sl+1) := by rw [← x1]; exact (h.1.2.1.2.2.2.2.1 k hk).1
        have ez : z_cd 10 = 1 := rfl
        obtain ⟨σ1, f1, f2, f3⟩ := w1 σ h
        refine ⟨σ1, f1, f2, ?_⟩
        unfold f_X10_doPlan
        simp (disch := omega) only [cl1, cl2, cl3, ez, f_X10_canTreat, f_X10_treat, f_X9_hasMan, f_X9_hasMule, g8, g9, e7, f3, ↓reduceIte, ↓p_ld, ↓p_st, ↓p_nm, ↓p_nS, ↓p_jn, ↓p_call, ↓p_callv, ↓p_dv, ↓p_rem, h_ldE, h_stE, h_nmE, h_nSE, h_callE, h_callvE, h_dvE, h_remE, if_true, if_false, z_upS, z_upO, z_upK, nI_add, z_mul, z_sub, z_div, Nat.add_zero, Nat.mul_zero, Nat.zero_add, Nat.sub_zero, Nat.zero_mul, z_ltT, z_ltF, z_leT, z_leF, z_eqT, z_eqF, z_inT, z_clT, not_true_eq_false, not_false_eq_true, eq_self, true_or, or_true, z_m_lt, z_m_le, z_lt_m, z_le_m, z_eq_m, z_m_eq, z_rz0, z_rz1, z_m_add, z_of, r_0_0, r_0_1, r_0_3, r_0_4, r_0_5, r_0_6, r_0_7, r_0_8, r_0_9, r_0_10, r_1_0, r_1_1, r_1_2, r_1_3, r_1_4, r_1_5, r_1_6, r_1_7, r_1_8, r_2_0, r_2_1, r_2_2, r_2_3, r_2_4, r_2_5, r_2_6, r_2_7, r_11_0, r_11_1, r_11_2, r_11_3, r_11_4, r_11_5, r_11_6, r_19_0, r_21_0, r_23_0, r_25_0, r_27_0, r_61_0, r_117_0, r_117_1, r_117_2, r_117_3, r_117_4, r_117_5, r_117_6, r_117_7, r_126_0, r_126_1, r_126_2, r_126_3, r_126_4, r_132_0, r_132_1, r_135_0, r_135_1, r_135_2, r_135_3, r_135_4, r_135_5, r_142_0, r_144_0, r_144_1, r_144_2, r_145_0, r_145_1, r_145_2, r_145_3, r_145_4, r_145_5, r_145_6, r_154_0, r_154_1, r_155_0, ↓z_m1, l_0, l_1, l_2, l_3, l_4, l_5, l_6, l_7, l_8, l_9, l_10, l_11, l_12, l_13, l_14, l_15, l_16, l_17, l_18, l_19, l_20, l_21, l_22, l_23, l_24, l_25, l_26, l_27, l_28, l_29, l_30, l_31, l_32, l_33, l_34, l_35, l_36, l_37, l_38, l_39, l_40, l_41, l_42, l_43, l_44, l_45, l_46, l_47, l_48, l_49, l_50, l_51, l_52, l_53, l_54, l_55, l_56, l_57, l_59, l_60, l_61, l_62, l_63, l_64, l_65, l_80, l_86, l_87, l_88, l_89, l_90, l_91, l_92, l_93, l_94, l_95, l_97, l_99, l_100, l_107, l_119, l_122, l_124, l_129, l_140, l_141, l_142, l_143, l_144, l_145, l_147, l_150, l_159, l_160, l_161, l_162, l_205, l_253, l_255, l_256, l_269, l_305, l_380, l_399, l_400, l_420, l_430, l_516, l_600, l_720, l_820, l_905, l_921, l_937, l_953, l_970, l_999, l_1000, l_1790, l_4096, l_9999, l_1000000]
      · rw [hw0 w hw e, ek, em]
        exact w2
  · obtain ⟨k, hk, ek⟩ := q5 (Or.inr (Or.inl rfl))
    have hw0 : ∀ w, w ≤ 4 → V (141+4*i+1) = nI (y_cd w) → w = 1 := fun w hw e => by
      have := hwq w hw e
      rcases hw5 w hw with rfl | rfl | rfl | rfl | rfl <;> first | rfl | (exact absurd this (by decide))
    obtain ⟨W, w1, ws, w2⟩ := q_does1 (p := p) (b := b) (L := L) (pl := pl) (pa := pa) (d := d) (n := n) (x4 := V (141+4*i+3)) (by omega) hc hk
    refine ⟨W, 1, by omega, fun σ h => ?_, ws, fun w hw e => ?_⟩
    · obtain ⟨cl, e1, e2, e3⟩ := rowC σ h
      have cl1 := cl 1 (by omega)
      have cl2 := cl 2 (by omega)
      have cl3 := cl 3 (by omega)
      rw [e1] at cl1
      rw [e2, ek] at cl2
      have g9 : σ 2 9 = nI me := h.1.2.1.1.2.1
      have ez : z_cd 11 = 2 := rfl
      obtain ⟨σ1, f1, f2, f3⟩ := w1 σ h
      refine ⟨σ1, f1, f2, ?_⟩
      unfold f_X10_doPlan
      simp (disch := omega) only [cl1, cl2, cl3, ez, f_X10_canTreat, f_X10_treat, f_X9_hasMan, g9, f3, ↓reduceIte, ↓p_ld, ↓p_st, ↓p_nm, ↓p_nS, ↓p_jn, ↓p_call, ↓p_callv, ↓p_dv, ↓p_rem, h_ldE, h_stE, h_nmE, h_nSE, h_callE, h_callvE, h_dvE, h_remE, if_true, if_false, z_upS, z_upO, z_upK, nI_add, z_mul, z_sub, z_div, Nat.add_zero, Nat.mul_zero, Nat.zero_add, Nat.sub_zero, Nat.zero_mul, z_ltT, z_ltF, z_leT, z_leF, z_eqT, z_eqF, z_inT, z_clT, not_true_eq_false, not_false_eq_true, eq_self, true_or, or_true, z_m_lt, z_m_le, z_lt_m, z_le_m, z_eq_m, z_m_eq, z_rz0, z_rz1, z_m_add, z_of, r_0_0, r_0_1, r_0_3, r_0_4, r_0_5, r_0_6, r_0_7, r_0_8, r_0_9, r_0_10, r_1_0, r_1_1, r_1_2, r_1_3, r_1_4, r_1_5, r_1_6, r_1_7, r_1_8, r_2_0, r_2_1, r_2_2, r_2_3, r_2_4, r_2_5, r_2_6, r_2_7, r_11_0, r_11_1, r_11_2, r_11_3, r_11_4, r_11_5, r_11_6, r_19_0, r_21_0, r_23_0, r_25_0, r_27_0, r_61_0, r_117_0, r_117_1, r_117_2, r_117_3, r_117_4, r_117_5, r_117_6, r_117_7, r_126_0, r_126_1, r_126_2, r_126_3, r_126_4, r_132_0, r_132_1, r_135_0, r_135_1, r_135_2, r_135_3, r_135_4, r_135_5, r_142_0, r_144_0, r_144_1, r_144_2, r_145_0, r_145_1, r_145_2, r_145_3, r_145_4, r_145_5, r_145_6, r_154_0, r_154_1, r_155_0, ↓z_m1, l_0, l_1, l_2, l_3, l_4, l_5, l_6, l_7, l_8, l_9, l_10, l_11, l_12, l_13, l_14, l_15, l_16, l_17, l_18, l_19, l_20, l_21, l_22, l_23, l_24, l_25, l_26, l_27, l_28, l_29, l_30, l_31, l_32, l_33, l_34, l_35, l_36, l_37, l_38, l_39, l_40, l_41, l_42, l_43, l_44, l_45, l_46, l_47, l_48, l_49, l_50, l_51, l_52, l_53, l_54, l_55, l_56, l_57, l_59, l_60, l_61, l_62, l_63, l_64, l_65, l_80, l_86, l_87, l_88, l_89, l_90, l_91, l_92, l_93, l_94, l_95, l_97, l_99, l_100, l_107, l_119, l_122, l_124, l_129, l_140, l_141, l_142, l_143, l_144, l_145, l_147, l_150, l_159, l_160, l_161, l_162, l_205, l_253, l_255, l_256, l_269, l_305, l_380, l_399, l_400, l_420, l_430, l_516, l_600, l_720, l_820, l_905, l_921, l_937, l_953, l_970, l_999, l_1000, l_1790, l_4096, l_9999, l_1000000]
    · rw [hw0 w hw e, ek]
      exact w2
  · obtain ⟨k, hk, ek⟩ := q5 (Or.inr (Or.inr rfl))
    obtain ⟨m, hm, em⟩ := q6 (Or.inr rfl)
    have hw0 : ∀ w, w ≤ 4 → V (141+4*i+1) = nI (y_cd w) → w = 2 := fun w hw e => by
      have := hwq w hw e
      rcases hw5 w hw with rfl | rfl | rfl | rfl | rfl <;> first | rfl | (exact absurd this (by decide))
    obtain ⟨W, w1, ws, w2⟩ := q_does2 (p := p) (b := b) (L := L) (pl := pl) (pa := pa) (d := d) (n := n) (by omega) hc hm hk
    refine ⟨W, 1, by omega, fun σ h => ?_, ws, fun w hw e => ?_⟩
    · obtain ⟨cl, e1, e2, e3⟩ := rowC σ h
      have cl1 := cl 1 (by omega)
      have cl2 := cl 2 (by omega)
      have cl3 := cl 3 (by omega)
      rw [e1] at cl1
      rw [e2, ek] at cl2
      rw [e3, em] at cl3
      have g8 : σ 2 8 = nI mu := h.1.2.1.1.1
      have g9 : σ 2 9 = nI me := h.1.2.1.1.2.1
      have ez : z_cd 12 = 3 := rfl
      obtain ⟨σ1, f1, f2, f3⟩ := w1 σ h
      refine ⟨σ1, f1, f2, ?_⟩
      unfold f_X10_doPlan
      simp (disch := omega) only [cl1, cl2, cl3, ez, f_X10_canTreat, f_X10_treat, f_X9_hasMan, f_X9_hasMule, g8, g9, f3, ↓reduceIte, ↓p_ld, ↓p_st, ↓p_nm, ↓p_nS, ↓p_jn, ↓p_call, ↓p_callv, ↓p_dv, ↓p_rem, h_ldE, h_stE, h_nmE, h_nSE, h_callE, h_callvE, h_dvE, h_remE, if_true, if_false, z_upS, z_upO, z_upK, nI_add, z_mul, z_sub, z_div, Nat.add_zero, Nat.mul_zero, Nat.zero_add, Nat.sub_zero, Nat.zero_mul, z_ltT, z_ltF, z_leT, z_leF, z_eqT, z_eqF, z_inT, z_clT, not_true_eq_false, not_false_eq_true, eq_self, true_or, or_true, z_m_lt, z_m_le, z_lt_m, z_le_m, z_eq_m, z_m_eq, z_rz0, z_rz1, z_m_add, z_of, r_0_0, r_0_1, r_0_3, r_0_4, r_0_5, r_0_6, r_0_7, r_0_8, r_0_9, r_0_10, r_1_0, r_1_1, r_1_2, r_1_3, r_1_4, r_1_5, r_1_6, r_1_7, r_1_8, r_2_0, r_2_1, r_2_2, r_2_3, r_2_4, r_2_5, r_2_6, r_2_7, r_11_0, r_11_1, r_11_2, r_11_3, r_11_4, r_11_5, r_11_6, r_19_0, r_21_0, r_23_0, r_25_0, r_27_0, r_61_0, r_117_0, r_117_1, r_117_2, r_117_3, r_117_4, r_117_5, r_117_6, r_117_7, r_126_0, r_126_1, r_126_2, r_126_3, r_126_4, r_132_0, r_132_1, r_135_0, r_135_1, r_135_2, r_135_3, r_135_4, r_135_5, r_142_0, r_144_0, r_144_1, r_144_2, r_145_0, r_145_1, r_145_2, r_145_3, r_145_4, r_145_5, r_145_6, r_154_0, r_154_1, r_155_0, ↓z_m1, l_0, l_1, l_2, l_3, l_4, l_5, l_6, l_7, l_8, l_9, l_10, l_11, l_12, l_13, l_14, l_15, l_16, l_17, l_18, l_19, l_20, l_21, l_22, l_23, l_24, l_25, l_26, l_27, l_28, l_29, l_30, l_31, l_32, l_33, l_34, l_35, l_36, l_37, l_38, l_39, l_40, l_41, l_42, l_43, l_44, l_45, l_46, l_47, l_48, l_49, l_50, l_51, l_52, l_53, l_54, l_55, l_56, l_57, l_59, l_60, l_61, l_62, l_63, l_64, l_65, l_80, l_86, l_87, l_88, l_89, l_90, l_91, l_92, l_93, l_94, l_95, l_97, l_99, l_100, l_107, l_119, l_122, l_124, l_129, l_140, l_141, l_142, l_143, l_144, l_145, l_147, l_150, l_159, l_160, l_161, l_162, l_205, l_253, l_255, l_256, l_269, l_305, l_380, l_399, l_400, l_420, l_430, l_516, l_600, l_720, l_820, l_905, l_921, l_937, l_953, l_970, l_999, l_1000, l_1790, l_4096, l_9999, l_1000000]
    · rw [hw0 w hw e, ek, em]
      exact w2
  · have hw0 : ∀ w, w ≤ 4 → V (141+4*i+1) = nI (y_cd w) → w = 3 := fun w hw e => by
      have := hwq w hw e
      rcases hw5 w hw with rfl | rfl | rfl | rfl | rfl <;> first | rfl | (exact absurd this (by decide))
    obtain ⟨W, w1, ws, w2⟩ := q_vote (p := p) (b := b) (L := L) (pl := pl) (pa := pa) (d := d) (n := n) hn hc (hK.EQ hc.1.1)
    refine ⟨W, 1, by omega, fun σ h => ?_, ws, fun w hw e => ?_⟩
    · obtain ⟨cl, e1, e2, e3⟩ := rowC σ h
      have cl1 := cl 1 (by omega)
      have cl2 := cl 2 (by omega)
      rw [e1] at cl1
      have ez : z_cd 13 = 0 := rfl
      obtain ⟨σ1, f1, f2, f3⟩ := w1 σ h
      refine ⟨σ1, f1, f2, ?_⟩
      unfold f_X10_doPlan
      simp (disch := omega) only [cl1, cl2, ez, f3, ↓reduceIte, ↓p_ld, ↓p_st, ↓p_nm, ↓p_nS, ↓p_jn, ↓p_call, ↓p_callv, ↓p_dv, ↓p_rem, h_ldE, h_stE, h_nmE, h_nSE, h_callE, h_callvE, h_dvE, h_remE, if_true, if_false, z_upS, z_upO, z_upK, nI_add, z_mul, z_sub, z_div, Nat.add_zero, Nat.mul_zero, Nat.zero_add, Nat.sub_zero, Nat.zero_mul, z_ltT, z_ltF, z_leT, z_leF, z_eqT, z_eqF, z_inT, z_clT, not_true_eq_false, not_false_eq_true, eq_self, true_or, or_true, z_m_lt, z_m_le, z_lt_m, z_le_m, z_eq_m, z_m_eq, z_rz0, z_rz1, z_m_add, z_of, r_0_0, r_0_1, r_0_3, r_0_4, r_0_5, r_0_6, r_0_7, r_0_8, r_0_9, r_0_10, r_1_0, r_1_1, r_1_2, r_1_3, r_1_4, r_1_5, r_1_6, r_1_7, r_1_8, r_2_0, r_2_1, r_2_2, r_2_3, r_2_4, r_2_5, r_2_6, r_2_7, r_11_0, r_11_1, r_11_2, r_11_3, r_11_4, r_11_5, r_11_6, r_19_0, r_21_0, r_23_0, r_25_0, r_27_0, r_61_0, r_117_0, r_117_1, r_117_2, r_117_3, r_117_4, r_117_5, r_117_6, r_117_7, r_126_0, r_126_1, r_126_2, r_126_3, r_126_4, r_132_0, r_132_1, r_135_0, r_135_1, r_135_2, r_135_3, r_135_4, r_135_5, r_142_0, r_144_0, r_144_1, r_144_2, r_145_0, r_145_1, r_145_2, r_145_3, r_145_4, r_145_5, r_145_6, r_154_0, r_154_1, r_155_0, ↓z_m1, l_0, l_1, l_2, l_3, l_4, l_5, l_6, l_7, l_8, l_9, l_10, l_11, l_12, l_13, l_14, l_15, l_16, l_17, l_18, l_19, l_20, l_21, l_22, l_23, l_24, l_25, l_26, l_27, l_28, l_29, l_30, l_31, l_32, l_33, l_34, l_35, l_36, l_37, l_38, l_39, l_40, l_41, l_42, l_43, l_44, l_45, l_46, l_47, l_48, l_49, l_50, l_51, l_52, l_53, l_54, l_55, l_56, l_57, l_59, l_60, l_61, l_62, l_63, l_64, l_65, l_80, l_86, l_87, l_88, l_89, l_90, l_91, l_92, l_93, l_94, l_95, l_97, l_99, l_100, l_107, l_119, l_122, l_124, l_129, l_140, l_141, l_142, l_143, l_144, l_145, l_147, l_150, l_159, l_160, l_161, l_162, l_205, l_253, l_255, l_256, l_269, l_305, l_380, l_399, l_400, l_420, l_430, l_516, l_600, l_720, l_820, l_905, l_921, l_937, l_953, l_970, l_999, l_1000, l_1790, l_4096, l_9999, l_1000000]
    · rw [hw0 w hw e]
      exact F_does3 w2
  · obtain ⟨k, hk, ek⟩ := q7 rfl
    have hw0 : ∀ w, w ≤ 4 → V (141+4*i+1) = nI (y_cd w) → w = 4 := fun w hw e => by
      have := hwq w hw e
      rcases hw5 w hw with rfl | rfl | rfl | rfl | rfl <;> first | rfl | (exact absurd this (by decide))
    have ez : z_cd 14 = 4 := rfl
    have hdr := hc.1.1.2.2.2.2.2.2.2.2.2.1
    have ePC : ∀ σ, z_X mu me true w0 P σ V → f_X10_hoursBetween n 1 (V 1) (nI k) σ = some (z_path V (V 1) (nI k), σ) := fun σ h => c_hoursBetween (by omega) h.1.2.2.2.2.2.1
    have hpv : z_path V (V 1) (nI k) = z_m ∨ ∃ h, h ≤ 24 ∧ z_path V (V 1) (nI k) = nI h := by
      rcases z_path_v hc.1.2.2.2.2.2.1 (V 1) (nI k) with hp | ⟨f, t, hh, l1, l2, l3, l4, l5, l6, l7, l8⟩
      · exact Or.inl hp
      · exact Or.inr ⟨hh, l5, l8⟩
    have hno : (∀ σ, z_X mu me true w0 P σ V → f_X10_hoursOfGoing n 1 (nI k) σ = some (z_m, σ)) → (V 2 = z_m ∨ z_path V (V 1) (nI k) = z_m) →
        ∃ W r, r ≤ 1 ∧ z_PC mu me true w0 P V W (f_X10_doPlan n 1 (nI i) 126 (nI 1)) (nI r) ∧ z_sam V W ∧ ∀ w, w ≤ 4 → V (141+4*i+1) = nI (y_cd w) → x_PF p b L pl pa mu me d 13 52 V W (F_X12_does n p (nI w) (V (141+4*i+2)) (V (141+4*i+3)) (nI 1)) (nI r) := by
      intro a1 a2
      refine ⟨V, 0, by omega, fun σ h => ⟨σ, z_fX.refl σ, h, ?_⟩, z_sam.refl V, fun w hw e => ?_⟩
      · obtain ⟨cl, e1, e2, e3⟩ := rowC σ h
        have cl1 := cl 1 (by omega)
        have cl2 := cl 2 (by omega)
        rw [e1] at cl1
        rw [e2, ek] at cl2
        have a1 := a1 σ h
        unfold f_X10_doPlan
        simp (disch := omega) only [cl1, cl2, ez, a1, ↓reduceIte, ↓p_ld, ↓p_st, ↓p_nm, ↓p_nS, ↓p_jn, ↓p_call, ↓p_callv, ↓p_dv, ↓p_rem, h_ldE, h_stE, h_nmE, h_nSE, h_callE, h_callvE, h_dvE, h_remE, if_true, if_false, z_upS, z_upO, z_upK, nI_add, z_mul, z_sub, z_div, Nat.add_zero, Nat.mul_zero, Nat.zero_add, Nat.sub_zero, Nat.zero_mul, z_ltT, z_ltF, z_leT, z_leF, z_eqT, z_eqF, z_inT, z_clT, not_true_eq_false, not_false_eq_true, eq_self, true_or, or_true, z_m_lt, z_m_le, z_lt_m, z_le_m, z_eq_m, z_m_eq, z_rz0, z_rz1, z_m_add, z_of, r_0_0, r_0_1, r_0_3, r_0_4, r_0_5, r_0_6, r_0_7, r_0_8, r_0_9, r_0_10, r_1_0, r_1_1, r_1_2, r_1_3, r_1_4, r_1_5, r_1_6, r_1_7, r_1_8, r_2_0, r_2_1, r_2_2, r_2_3, r_2_4, r_2_5, r_2_6, r_2_7, r_11_0, r_11_1, r_11_2, r_11_3, r_11_4, r_11_5, r_11_6, r_19_0, r_21_0, r_23_0, r_25_0, r_27_0, r_61_0, r_117_0, r_117_1, r_117_2, r_117_3, r_117_4, r_117_5, r_117_6, r_117_7, r_126_0, r_126_1, r_126_2, r_126_3, r_126_4, r_132_0, r_132_1, r_135_0, r_135_1, r_135_2, r_135_3, r_135_4, r_135_5, r_142_0, r_144_0, r_144_1, r_144_2, r_145_0, r_145_1, r_145_2, r_145_3, r_145_4, r_145_5, r_145_6, r_154_0, r_154_1, r_155_0, ↓z_m1, l_0, l_1, l_2, l_3, l_4, l_5, l_6, l_7, l_8, l_9, l_10, l_11, l_12, l_13, l_14, l_15, l_16, l_17, l_18, l_19, l_20, l_21, l_22, l_23, l_24, l_25, l_26, l_27, l_28, l_29, l_30, l_31, l_32, l_33, l_34, l_35, l_36, l_37, l_38, l_39, l_40, l_41, l_42, l_43, l_44, l_45, l_46, l_47, l_48, l_49, l_50, l_51, l_52, l_53, l_54, l_55, l_56, l_57, l_59, l_60, l_61, l_62, l_63, l_64, l_65, l_80, l_86, l_87, l_88, l_89, l_90, l_91, l_92, l_93, l_94, l_95, l_97, l_99, l_100, l_107, l_119, l_122, l_124, l_129, l_140, l_141, l_142, l_143, l_144, l_145, l_147, l_150, l_159, l_160, l_161, l_162, l_205, l_253, l_255, l_256, l_269, l_305, l_380, l_399, l_400, l_420, l_430, l_516, l_600, l_720, l_820, l_905, l_921, l_937, l_953, l_970, l_999, l_1000, l_1790, l_4096, l_9999, l_1000000]
      · rw [hw0 w hw e, ek]
        exact F_does4n (F_goesn (by omega) hdr hme hpv a2)
    rcases hdr with hd | ⟨kd, hkd, hd⟩
    · refine hno (fun σ h => ?_) (Or.inl hd)
      have g13 : σ 2 13 = z_m := (h.1.2.1.1.2.2.2.2.2.1).trans hd
      unfold f_X10_hoursOfGoing
      simp (disch := omega) only [g13, ↓reduceIte, ↓p_ld, ↓p_st, ↓p_nm, ↓p_nS, ↓p_jn, ↓p_call, ↓p_callv, ↓p_dv, ↓p_rem, h_ldE, h_stE, h_nmE, h_nSE, h_callE, h_callvE, h_dvE, h_remE, if_true, if_false, z_upS, z_upO, z_upK, nI_add, z_mul, z_sub, z_div, Nat.add_zero, Nat.mul_zero, Nat.zero_add, Nat.sub_zero, Nat.zero_mul, z_ltT, z_ltF, z_leT, z_leF, z_eqT, z_eqF, z_inT, z_clT, not_true_eq_false, not_false_eq_true, eq_self, true_or, or_true, z_m_lt, z_m_le, z_lt_m, z_le_m, z_eq_m, z_m_eq, z_rz0, z_rz1, z_m_add, z_of, r_0_0, r_0_1, r_0_3, r_0_4, r_0_5, r_0_6, r_0_7, r_0_8, r_0_9, r_0_10, r_1_0, r_1_1, r_1_2, r_1_3, r_1_4, r_1_5, r_1_6, r_1_7, r_1_8, r_2_0, r_2_1, r_2_2, r_2_3, r_2_4, r_2_5, r_2_6, r_2_7, r_11_0, r_11_1, r_11_2, r_11_3, r_11_4, r_11_5, r_11_6, r_19_0, r_21_0, r_23_0, r_25_0, r_27_0, r_61_0, r_117_0, r_117_1, r_117_2, r_117_3, r_117_4, r_117_5, r_117_6, r_117_7, r_126_0, r_126_1, r_126_2, r_126_3, r_126_4, r_132_0, r_132_1, r_135_0, r_135_1, r_135_2, r_135_3, r_135_4, r_135_5, r_142_0, r_144_0, r_144_1, r_144_2, r_145_0, r_145_1, r_145_2, r_145_3, r_145_4, r_145_5, r_145_6, r_154_0, r_154_1, r_155_0, ↓z_m1, l_0, l_1, l_2, l_3, l_4, l_5, l_6, l_7, l_8, l_9, l_10, l_11, l_12, l_13, l_14, l_15, l_16, l_17, l_18, l_19, l_20, l_21, l_22, l_23, l_24, l_25, l_26, l_27, l_28, l_29, l_30, l_31, l_32, l_33, l_34, l_35, l_36, l_37, l_38, l_39, l_40, l_41, l_42, l_43, l_44, l_45, l_46, l_47, l_48, l_49, l_50, l_51, l_52, l_53, l_54, l_55, l_56, l_57, l_59, l_60, l_61, l_62, l_63, l_64, l_65, l_80, l_86, l_87, l_88, l_89, l_90, l_91, l_92, l_93, l_94, l_95, l_97, l_99, l_100, l_107, l_119, l_122, l_124, l_129, l_140, l_141, l_142, l_143, l_144, l_145, l_147, l_150, l_159, l_160, l_161, l_162, l_205, l_253, l_255, l_256, l_269, l_305, l_380, l_399, l_400, l_420, l_430, l_516, l_600, l_720, l_820, l_905, l_921, l_937, l_953, l_970, l_999, l_1000, l_1790, l_4096, l_9999, l_1000000]
    · rcases hpv with hp | ⟨hh, l5, l8⟩
      · refine hno (fun σ h => ?_) (Or.inr hp)
        have g13 : σ 2 13 = nI kd := (h.1.2.1.1.2.2.2.2.2.1).trans hd
        have g12 : σ 2 12 = V 1 := h.1.2.1.1.2.2.2.2.1
        have e := ePC σ h
        rw [hp] at e
        unfold f_X10_hoursOfGoing
        simp (disch := omega) only [g13, g12, e, ↓reduceIte, ↓p_ld, ↓p_st, ↓p_nm, ↓p_nS, ↓p_jn, ↓p_call, ↓p_callv, ↓p_dv, ↓p_rem, h_ldE, h_stE, h_nmE, h_nSE, h_callE, h_callvE, h_dvE, h_remE, if_true, if_false, z_upS, z_upO, z_upK, nI_add, z_mul, z_sub, z_div, Nat.add_zero, Nat.mul_zero, Nat.zero_add, Nat.sub_zero, Nat.zero_mul, z_ltT, z_ltF, z_leT, z_leF, z_eqT, z_eqF, z_inT, z_clT, not_true_eq_false, not_false_eq_true, eq_self, true_or, or_true, z_m_lt, z_m_le, z_lt_m, z_le_m, z_eq_m, z_m_eq, z_rz0, z_rz1, z_m_add, z_of, r_0_0, r_0_1, r_0_3, r_0_4, r_0_5, r_0_6, r_0_7, r_0_8, r_0_9, r_0_10, r_1_0, r_1_1, r_1_2, r_1_3, r_1_4, r_1_5, r_1_6, r_1_7, r_1_8, r_2_0, r_2_1, r_2_2, r_2_3, r_2_4, r_2_5, r_2_6, r_2_7, r_11_0, r_11_1, r_11_2, r_11_3, r_11_4, r_11_5, r_11_6, r_19_0, r_21_0, r_23_0, r_25_0, r_27_0, r_61_0, r_117_0, r_117_1, r_117_2, r_117_3, r_117_4, r_117_5, r_117_6, r_117_7, r_126_0, r_126_1, r_126_2, r_126_3, r_126_4, r_132_0, r_132_1, r_135_0, r_135_1, r_135_2, r_135_3, r_135_4, r_135_5, r_142_0, r_144_0, r_144_1, r_144_2, r_145_0, r_145_1, r_145_2, r_145_3, r_145_4, r_145_5, r_145_6, r_154_0, r_154_1, r_155_0, ↓z_m1, l_0, l_1, l_2, l_3, l_4, l_5, l_6, l_7, l_8, l_9, l_10, l_11, l_12, l_13, l_14, l_15, l_16, l_17, l_18, l_19, l_20, l_21, l_22, l_23, l_24, l_25, l_26, l_27, l_28, l_29, l_30, l_31, l_32, l_33, l_34, l_35, l_36, l_37, l_38, l_39, l_40, l_41, l_42, l_43, l_44, l_45, l_46, l_47, l_48, l_49, l_50, l_51, l_52, l_53, l_54, l_55, l_56, l_57, l_59, l_60, l_61, l_62, l_63, l_64, l_65, l_80, l_86, l_87, l_88, l_89, l_90, l_91, l_92, l_93, l_94, l_95, l_97, l_99, l_100, l_107, l_119, l_122, l_124, l_129, l_140, l_141, l_142, l_143, l_144, l_145, l_147, l_150, l_159, l_160, l_161, l_162, l_205, l_253, l_255, l_256, l_269, l_305, l_380, l_399, l_400, l_420, l_430, l_516, l_600, l_720, l_820, l_905, l_921, l_937, l_953, l_970, l_999, l_1000, l_1790, l_4096, l_9999, l_1000000]
      · obtain ⟨W, r, w1, ws, wr, w2⟩ := q_travel (p := p) (b := b) (L := L) (pl := pl) (pa := pa) (d := d) (n := n) hn hc hK hk l8 l5 ⟨kd, hkd, hd⟩
        refine ⟨W, 1, by omega, fun σ h => ?_, ws, fun w hw e => ?_⟩
        · obtain ⟨cl, e1, e2, e3⟩ := rowC σ h
          have cl1 := cl 1 (by omega)
          have cl2 := cl 2 (by omega)
          rw [e1] at cl1
          rw [e2, ek] at cl2
          have g13 : σ 2 13 = nI kd := (h.1.2.1.1.2.2.2.2.2.1).trans hd
          have g12 : σ 2 12 = V 1 := h.1.2.1.1.2.2.2.2.1
          have e := ePC σ h
          rw [l8] at e
          obtain ⟨σ1, f1, f2, f3⟩ := w1 σ h
          refine ⟨σ1, f1, f2, ?_⟩
          unfold f_X10_doPlan
          simp (disch := omega) only [cl1, cl2, ez, f_X10_hoursOfGoing, g13, g12, e, f3, ↓reduceIte, ↓p_ld, ↓p_st, ↓p_nm, ↓p_nS, ↓p_jn, ↓p_call, ↓p_callv, ↓p_dv, ↓p_rem, h_ldE, h_stE, h_nmE, h_nSE, h_callE, h_callvE, h_dvE, h_remE, if_true, if_false, z_upS, z_upO, z_upK, nI_add, z_mul, z_sub, z_div, Nat.add_zero, Nat.mul_zero, Nat.zero_add, Nat.sub_zero, Nat.zero_mul, z_ltT, z_ltF, z_leT, z_leF, z_eqT, z_eqF, z_inT, z_clT, not_true_eq_false, not_false_eq_true, eq_self, true_or, or_true, z_m_lt, z_m_le, z_lt_m, z_le_m, z_eq_m, z_m_eq, z_rz0, z_rz1, z_m_add, z_of, r_0_0, r_0_1, r_0_3, r_0_4, r_0_5, r_0_6, r_0_7, r_0_8, r_0_9, r_0_10, r_1_0, r_1_1, r_1_2, r_1_3, r_1_4, r_1_5, r_1_6, r_1_7, r_1_8, r_2_0, r_2_1, r_2_2, r_2_3, r_2_4, r_2_5, r_2_6, r_2_7, r_11_0, r_11_1, r_11_2, r_11_3, r_11_4, r_11_5, r_11_6, r_19_0, r_21_0, r_23_0, r_25_0, r_27_0, r_61_0, r_117_0, r_117_1, r_117_2, r_117_3, r_117_4, r_117_5, r_117_6, r_117_7, r_126_0, r_126_1, r_126_2, r_126_3, r_126_4, r_132_0, r_132_1, r_135_0, r_135_1, r_135_2, r_135_3, r_135_4, r_135_5, r_142_0, r_144_0, r_144_1, r_144_2, r_145_0, r_145_1, r_145_2, r_145_3, r_145_4, r_145_5, r_145_6, r_154_0, r_154_1, r_155_0, ↓z_m1, l_0, l_1, l_2, l_3, l_4, l_5, l_6, l_7, l_8, l_9, l_10, l_11, l_12, l_13, l_14, l_15, l_16, l_17, l_18, l_19, l_20, l_21, l_22, l_23, l_24, l_25, l_26, l_27, l_28, l_29, l_30, l_31, l_32, l_33, l_34, l_35, l_36, l_37, l_38, l_39, l_40, l_41, l_42, l_43, l_44, l_45, l_46, l_47, l_48, l_49, l_50, l_51, l_52, l_53, l_54, l_55, l_56, l_57, l_59, l_60, l_61, l_62, l_63, l_64, l_65, l_80, l_86, l_87, l_88, l_89, l_90, l_91, l_92, l_93, l_94, l_95, l_97, l_99, l_100, l_107, l_119, l_122, l_124, l_129, l_140, l_141, l_142, l_143, l_144, l_145, l_147, l_150, l_159, l_160, l_161, l_162, l_205, l_253, l_255, l_256, l_269, l_305, l_380, l_399, l_400, l_420, l_430, l_516, l_600, l_720, l_820, l_905, l_921, l_937, l_953, l_970, l_999, l_1000, l_1790, l_4096, l_9999, l_1000000]
        · rw [hw0 w hw e, ek]
          exact F_does4 wr w2
end DA
