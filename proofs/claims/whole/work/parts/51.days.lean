/-! days: truly, and in thought; undone -/
def z_fY (σ σ' : q_Sto) : Prop := ∀ o, o < 2 ∨ (10 < o ∧ o ≠ 18 ∧ o ≠ 29 ∧ o ≠ 30 ∧ o < 61) ∨ (116 < o ∧ o < 126) ∨ 131 < o → σ' o = σ o
def z_fN (σ σ' : q_Sto) : Prop := (∀ o, o ≠ 158 → o ≠ 160 → o ≠ 166 → o ≠ 167 → o ≠ 157 → σ' o = σ o) ∧ (∀ a, a ≠ 4 → a ≠ 26 → σ' 157 a = σ 157 a)
theorem p_days_L {mu me N : Nat} (hN : N ≤ 60) : ∀ j i cnt (V : Nat → Int32) (hs : z_Hs) (wn D : Nat) (σc : q_Sto), i + j = N → z_XT mu me σc V → V 0 = nI D → D + j ≤ 9999 → z_HPu mu me hs V wn → V 6 = nI wn →
    ∃ W hs' w' r, W 0 = nI (D + j) ∧ z_HPu mu me hs' W w' ∧ W 6 = nI w' ∧ (∃ σd, z_XT mu me σd W) ∧
      (∀ l, j < l → ∀ σ, z_XT mu me σ V → z_HCl mu me σ hs → ∃ σ', z_fY σ σ' ∧ z_XT mu me σ' W ∧ z_HCl mu me σ' hs' ∧ f_X11_days_L34 q_F 0 (nI N) l (nI cnt) (nI i) σ = some (nI r, σ')) ∧
      (∀ l, j < l → ∀ σ, σ 158 = V → z_HRf σ hs → ∃ σ', z_fN σ σ' ∧ σ' 158 = W ∧ z_HRf σ' hs' ∧ f_X12_days_L30 q_F 157 (nI N) l (nI cnt) (nI i) σ = some (nI r, σ')) := by
  intro j
  induction j with
  | zero =>
    intro i cnt V hs wn D σc hi hc h0 hD hu h6
    have hi : i = N := by omega
    subst hi
    refine ⟨V, hs, wn, cnt, by rw [h0]; rfl, hu, h6, ⟨σc, hc⟩, fun l hl σ h1 h2 => ⟨σ, fun o _ => rfl, h1, h2, ?_⟩, fun l hl σ h1 h2 => ⟨σ, ⟨fun o _ _ _ _ _ => rfl, fun a _ _ => rfl⟩, h1, h2, ?_⟩⟩
    · cases l with
      | zero => omega
      | succ l =>
        rw [f_X11_days_L34]
        simp (disch := omega) only [↓reduceIte, ↓p_ld, ↓p_st, ↓p_nm, ↓p_nS, ↓p_jn, ↓p_call, ↓p_callv, ↓p_dv, ↓p_rem, h_ldE, h_stE, h_nmE, h_nSE, h_callE, h_callvE, h_dvE, h_remE, if_true, if_false, z_upS, z_upO, z_upK, nI_add, z_mul, z_sub, z_div, Nat.add_zero, Nat.mul_zero, Nat.zero_add, Nat.sub_zero, Nat.zero_mul, z_ltT, z_ltF, z_leT, z_leF, z_eqT, z_eqF, z_inT, z_clT, not_true_eq_false, not_false_eq_true, eq_self, true_or, or_true, z_m_lt, z_m_le, z_lt_m, z_le_m, z_eq_m, z_m_eq, z_rz0, z_rz1, z_m_add, z_of, r_0_0, r_0_1, r_0_3, r_0_4, r_0_5, r_0_6, r_0_7, r_0_8, r_0_9, r_0_10, r_1_0, r_1_1, r_1_2, r_1_3, r_1_4, r_1_5, r_1_6, r_1_7, r_1_8, r_2_0, r_2_1, r_2_2, r_2_3, r_2_4, r_2_5, r_2_6, r_2_7, r_11_0, r_11_1, r_11_2, r_11_3, r_11_4, r_11_5, r_11_6, r_19_0, r_21_0, r_23_0, r_25_0, r_27_0, r_61_0, r_117_0, r_117_1, r_117_2, r_117_3, r_117_4, r_117_5, r_117_6, r_117_7, r_126_0, r_126_1, r_126_2, r_126_3, r_126_4, r_132_0, r_132_1, r_135_0, r_135_1, r_135_2, r_135_3, r_135_4, r_135_5, r_142_0, r_144_0, r_144_1, r_144_2, r_145_0, r_145_1, r_145_2, r_145_3, r_145_4, r_145_5, r_145_6, r_154_0, r_154_1, r_155_0, ↓z_m1, l_0, l_1, l_2, l_3, l_4, l_5, l_6, l_7, l_8, l_9, l_10, l_11, l_12, l_13, l_14, l_15, l_16, l_17, l_18, l_19, l_20, l_21, l_22, l_23, l_24, l_25, l_26, l_27, l_28, l_29, l_30, l_31, l_32, l_33, l_34, l_35, l_36, l_37, l_38, l_39, l_40, l_41, l_42, l_43, l_44, l_45, l_46, l_47, l_48, l_49, l_50, l_51, l_52, l_53, l_54, l_55, l_56, l_57, l_59, l_60, l_61, l_62, l_63, l_64, l_65, l_80, l_86, l_87, l_88, l_89, l_90, l_91, l_92, l_93, l_94, l_95, l_97, l_99, l_100, l_107, l_119, l_122, l_124, l_129, l_140, l_141, l_142, l_143, l_144, l_145, l_147, l_150, l_159, l_160, l_161, l_162, l_205, l_253, l_255, l_256, l_269, l_305, l_380, l_399, l_400, l_420, l_430, l_516, l_600, l_720, l_820, l_905, l_921, l_937, l_953, l_970, l_999, l_1000, l_1790, l_4096, l_9999, l_1000000]
    · cases l with
      | zero => omega
      | succ l =>
        rw [f_X12_days_L30]
        simp (disch := omega) only [↓reduceIte, ↓p_ld, ↓p_st, ↓p_nm, ↓p_nS, ↓p_jn, ↓p_call, ↓p_callv, ↓p_dv, ↓p_rem, h_ldE, h_stE, h_nmE, h_nSE, h_callE, h_callvE, h_dvE, h_remE, if_true, if_false, z_upS, z_upO, z_upK, nI_add, z_mul, z_sub, z_div, Nat.add_zero, Nat.mul_zero, Nat.zero_add, Nat.sub_zero, Nat.zero_mul, z_ltT, z_ltF, z_leT, z_leF, z_eqT, z_eqF, z_inT, z_clT, not_true_eq_false, not_false_eq_true, eq_self, true_or, or_true, z_m_lt, z_m_le, z_lt_m, z_le_m, z_eq_m, z_m_eq, z_rz0, z_rz1, z_m_add, z_of, r_157_0, r_157_1, r_157_2, r_157_3, r_157_6, r_157_7, r_157_8, r_157_9, r_157_10, r_157_11, r_157_27, r_157_28, r_157_29, r_157_30, ↓z_m1, l_0, l_1, l_2, l_3, l_4, l_5, l_6, l_7, l_8, l_9, l_10, l_11, l_12, l_13, l_14, l_15, l_16, l_17, l_18, l_19, l_20, l_21, l_22, l_23, l_24, l_25, l_26, l_27, l_28, l_29, l_30, l_31, l_32, l_33, l_34, l_35, l_36, l_37, l_38, l_39, l_40, l_41, l_42, l_43, l_44, l_45, l_46, l_47, l_48, l_49, l_50, l_51, l_52, l_53, l_54, l_55, l_56, l_57, l_59, l_60, l_61, l_62, l_63, l_64, l_65, l_80, l_86, l_87, l_88, l_89, l_90, l_91, l_92, l_93, l_94, l_95, l_97, l_99, l_100, l_107, l_119, l_122, l_124, l_129, l_140, l_141, l_142, l_143, l_144, l_145, l_147, l_150, l_159, l_160, l_161, l_162, l_205, l_253, l_255, l_256, l_269, l_305, l_380, l_399, l_400, l_420, l_430, l_516, l_600, l_720, l_820, l_905, l_921, l_937, l_953, l_970, l_999, l_1000, l_1790, l_4096, l_9999, l_1000000]
  | succ j ih =>
    intro i cnt V hs wn D σc hi hc h0 hD hu h6
    have hw := hu.2.2.2.1
    obtain ⟨W1, r1, hr1, e0, v1, v2⟩ := p_day (n := q_F) z_F402 (hc.X h6 hw)
    obtain ⟨σd, -, hd, -⟩ := v1 σc (hc.X h6 hw)
    obtain ⟨hdT, ⟨w1, wa, wb, wc⟩, hst⟩ := hd.XT
    have hst' : ∀ a, 86 ≤ a → a < 305 → W1 a = V a := fun a b1 b2 => by rw [hst a (Or.inr b1) b2, z_uK (by omega), z_PV_hi b2]
    have hu1 := hu.push (z_WFC hc ⟨D, by omega, h0⟩) (fun a b1 b2 => hst' a b1 (by omega)) wa wb wc
    obtain ⟨W, hs', w', r, t1, t2, t3, t4, t5, t6⟩ := ih (i+1) (cnt + r1) W1 (z_push hs V wn) w1 (D+1) σd (by omega) hdT (by rw [e0, h0, nI_add]) (by omega) hu1 wc
    refine ⟨W, hs', w', r, by rw [t1]; congr 1; omega, t2, t3, t4, fun l hl σ h1 h2 => ?_, fun l hl σ h1 h2 => ?_⟩
    · cases l with
      | zero => omega
      | succ l =>
        have h17 : σ 2 17 = nI wn := by
          obtain ⟨w2, x1, x2, x3⟩ := h1.w
          rw [h6] at x2
          rw [x3, ← x2]
        obtain ⟨σ1, k1, k2, k3⟩ := c_keepH (n := q_F) (by unfold q_F; omega) h1.1 h2 hu h17
        have hX1 : z_XT mu me σ1 V := ⟨h1.1.fr (fun o o1 o2 o3 => k2 o (by omega)), h1.2.fr (k2 2 (by omega)) (k2 29 (by omega))⟩
        obtain ⟨σ2, f1, f2, f3⟩ := v1 σ1 (hX1.X h6 hw)
        have hH2 : z_HCl mu me σ2 (z_push hs V wn) := by
          obtain ⟨c1, c2, p, ⟨c3, c4⟩, c5⟩ := k1
          refine ⟨c1, by rw [f1 61 (by omega)]; exact c2, p, ⟨fun i hi => ⟨(c3 i hi).1, by rw [f1 62 (by omega)]; exact (c3 i hi).2⟩, c4⟩, fun i hi => ?_⟩
          have hp := (c3 i (by omega)).1
          refine ⟨(c5 i hi).1.fr (fun o o1 o2 => f1 o (by omega)), ?_⟩
          rw [f1 _ (by omega)]
          exact (c5 i hi).2
        obtain ⟨σ', g1, g2, g3, g4⟩ := t5 l (by omega) σ2 f2.XT.1 hH2
        have f3 : f_X10_passDay q_F 1 126 (nI 1) σ1 = some (nI r1, σ2) := f3
        refine ⟨σ', fun o ho => by rw [g1 o ho, f1 o (by omega), k2 o (by omega)], g2, g3, ?_⟩
        rw [← g4, f_X11_days_L34]
        simp (disch := omega) only [k3, f3, ↓reduceIte, ↓p_ld, ↓p_st, ↓p_nm, ↓p_nS, ↓p_jn, ↓p_call, ↓p_callv, ↓p_dv, ↓p_rem, h_ldE, h_stE, h_nmE, h_nSE, h_callE, h_callvE, h_dvE, h_remE, if_true, if_false, z_upS, z_upO, z_upK, nI_add, z_mul, z_sub, z_div, Nat.add_zero, Nat.mul_zero, Nat.zero_add, Nat.sub_zero, Nat.zero_mul, z_ltT, z_ltF, z_leT, z_leF, z_eqT, z_eqF, z_inT, z_clT, not_true_eq_false, not_false_eq_true, eq_self, true_or, or_true, z_m_lt, z_m_le, z_lt_m, z_le_m, z_eq_m, z_m_eq, z_rz0, z_rz1, z_m_add, z_of, r_0_0, r_0_1, r_0_3, r_0_4, r_0_5, r_0_6, r_0_7, r_0_8, r_0_9, r_0_10, r_1_0, r_1_1, r_1_2, r_1_3, r_1_4, r_1_5, r_1_6, r_1_7, r_1_8, r_2_0, r_2_1, r_2_2, r_2_3, r_2_4, r_2_5, r_2_6, r_2_7, r_11_0, r_11_1, r_11_2, r_11_3, r_11_4, r_11_5, r_11_6, r_19_0, r_21_0, r_23_0, r_25_0, r_27_0, r_61_0, r_117_0, r_117_1, r_117_2, r_117_3, r_117_4, r_117_5, r_117_6, r_117_7, r_126_0, r_126_1, r_126_2, r_126_3, r_126_4, r_132_0, r_132_1, r_135_0, r_135_1, r_135_2, r_135_3, r_135_4, r_135_5, r_142_0, r_144_0, r_144_1, r_144_2, r_145_0, r_145_1, r_145_2, r_145_3, r_145_4, r_145_5, r_145_6, r_154_0, r_154_1, r_155_0, ↓z_m1, l_0, l_1, l_2, l_3, l_4, l_5, l_6, l_7, l_8, l_9, l_10, l_11, l_12, l_13, l_14, l_15, l_16, l_17, l_18, l_19, l_20, l_21, l_22, l_23, l_24, l_25, l_26, l_27, l_28, l_29, l_30, l_31, l_32, l_33, l_34, l_35, l_36, l_37, l_38, l_39, l_40, l_41, l_42, l_43, l_44, l_45, l_46, l_47, l_48, l_49, l_50, l_51, l_52, l_53, l_54, l_55, l_56, l_57, l_59, l_60, l_61, l_62, l_63, l_64, l_65, l_80, l_86, l_87, l_88, l_89, l_90, l_91, l_92, l_93, l_94, l_95, l_97, l_99, l_100, l_107, l_119, l_122, l_124, l_129, l_140, l_141, l_142, l_143, l_144, l_145, l_147, l_150, l_159, l_160, l_161, l_162, l_205, l_253, l_255, l_256, l_269, l_305, l_380, l_399, l_400, l_420, l_430, l_516, l_600, l_720, l_820, l_905, l_921, l_937, l_953, l_970, l_999, l_1000, l_1790, l_4096, l_9999, l_1000000]
    · cases l with
      | zero => omega
      | succ l =>
        obtain ⟨σ1, m1, m2, m3, m4, m5⟩ := m_keepH (n := q_F) (V := V) (wn := wn) (by unfold q_F; omega) hu.1 h2 h1
        obtain ⟨σ2, f1, f2, f3⟩ := v2 σ1 (by rw [m2 158 (by omega) (by omega)]; exact h1) m4
        have hR2 : z_HRf σ2 (z_push hs V wn) := by
          obtain ⟨q1, q2⟩ := m1
          exact ⟨by rw [f1 157 (by omega) (by omega) (by omega)]; exact q1, fun i k hi hk => by rw [f1 160 (by omega) (by omega) (by omega)]; exact q2 i k hi hk⟩
        obtain ⟨σ', ⟨g1, g5⟩, g2, g3, g4⟩ := t6 l (by omega) σ2 f2 hR2
        refine ⟨σ', ⟨fun o o1 o2 o3 o4 o5 => by rw [g1 o o1 o2 o3 o4 o5, f1 o o1 o3 o4, m2 o o2 o5], fun a a1 a2 => by rw [g5 a a1 a2, f1 157 (by omega) (by omega) (by omega), m3 a a1 a2]⟩, g2, g3, ?_⟩
        rw [← g4, f_X12_days_L30]
        simp (disch := omega) only [m5, f3, ↓reduceIte, ↓p_ld, ↓p_st, ↓p_nm, ↓p_nS, ↓p_jn, ↓p_call, ↓p_callv, ↓p_dv, ↓p_rem, h_ldE, h_stE, h_nmE, h_nSE, h_callE, h_callvE, h_dvE, h_remE, if_true, if_false, z_upS, z_upO, z_upK, nI_add, z_mul, z_sub, z_div, Nat.add_zero, Nat.mul_zero, Nat.zero_add, Nat.sub_zero, Nat.zero_mul, z_ltT, z_ltF, z_leT, z_leF, z_eqT, z_eqF, z_inT, z_clT, not_true_eq_false, not_false_eq_true, eq_self, true_or, or_true, z_m_lt, z_m_le, z_lt_m, z_le_m, z_eq_m, z_m_eq, z_rz0, z_rz1, z_m_add, z_of, r_157_0, r_157_1, r_157_2, r_157_3, r_157_6, r_157_7, r_157_8, r_157_9, r_157_10, r_157_11, r_157_27, r_157_28, r_157_29, r_157_30, ↓z_m1, l_0, l_1, l_2, l_3, l_4, l_5, l_6, l_7, l_8, l_9, l_10, l_11, l_12, l_13, l_14, l_15, l_16, l_17, l_18, l_19, l_20, l_21, l_22, l_23, l_24, l_25, l_26, l_27, l_28, l_29, l_30, l_31, l_32, l_33, l_34, l_35, l_36, l_37, l_38, l_39, l_40, l_41, l_42, l_43, l_44, l_45, l_46, l_47, l_48, l_49, l_50, l_51, l_52, l_53, l_54, l_55, l_56, l_57, l_59, l_60, l_61, l_62, l_63, l_64, l_65, l_80, l_86, l_87, l_88, l_89, l_90, l_91, l_92, l_93, l_94, l_95, l_97, l_99, l_100, l_107, l_119, l_122, l_124, l_129, l_140, l_141, l_142, l_143, l_144, l_145, l_147, l_150, l_159, l_160, l_161, l_162, l_205, l_253, l_255, l_256, l_269, l_305, l_380, l_399, l_400, l_420, l_430, l_516, l_600, l_720, l_820, l_905, l_921, l_937, l_953, l_970, l_999, l_1000, l_1790, l_4096, l_9999, l_1000000]
theorem P_days {σ : q_Sto} (h : q_Sim σ) (a0 : Int32)  : ∃ (r : Int32) (σ1 σ2 : q_Sto), f_X11_days q_F 0 a0 σ = some (r, σ1) ∧ f_X12_days q_F 157 a0 σ1 = some (r, σ2) ∧ q_Sim σ2 := by
  obtain ⟨mu, me, h⟩ := h
  have hC := z_Sim.C h
  obtain ⟨hs, wn, hX, h0, a1, a2, a3, w1, w2, w3⟩ := z_Sim.un h
  obtain ⟨D, hD, h0⟩ := h0
  have g16 : σ 2 16 = nI D := (hC.2.1.1.2.2.2.2.2.2.2.2).trans h0
  rcases z_w_cases a0 (lo := 1) (hi := 60) (by omega) (by omega) with ⟨N, n1, n2, rfl, hw⟩ | hw
  · by_cases hq : D + N ≤ 9999
    · obtain ⟨W, hs', w', r, t1, t2, t3, t4, t5, t6⟩ := p_days_L (mu := mu) (me := me) n2 N 0 0 (σ 158) hs wn D σ (by omega) hX h0 hq a3 w2
      obtain ⟨σ1, f1, f2, f3, f4⟩ := t5 q_F (by unfold q_F; omega) σ hX a1
      have hR : z_HRf σ1 hs := by
        obtain ⟨q1, q2⟩ := a2
        exact ⟨by rw [f1 157 (by omega)]; exact q1, fun i k hi hk => by rw [f1 160 (by omega)]; exact q2 i k hi hk⟩
      obtain ⟨σ2, ⟨g1, g5⟩, g2, g3, g4⟩ := t6 q_F (by unfold q_F; omega) σ1 (f1 158 (by omega)) hR
      have e158 : σ1 158 = σ 158 := f1 158 (by omega)
      refine ⟨nI r, σ1, σ2, ?_, ?_, mu, me, ?_⟩
      · unfold f_X11_days
        simp (disch := omega) only [c_isWithin, hw, g16, f4, ↓reduceIte, ↓p_ld, ↓p_st, ↓p_nm, ↓p_nS, ↓p_jn, ↓p_call, ↓p_callv, ↓p_dv, ↓p_rem, h_ldE, h_stE, h_nmE, h_nSE, h_callE, h_callvE, h_dvE, h_remE, if_true, if_false, z_upS, z_upO, z_upK, nI_add, z_mul, z_sub, z_div, Nat.add_zero, Nat.mul_zero, Nat.zero_add, Nat.sub_zero, Nat.zero_mul, z_ltT, z_ltF, z_leT, z_leF, z_eqT, z_eqF, z_inT, z_clT, not_true_eq_false, not_false_eq_true, eq_self, true_or, or_true, z_m_lt, z_m_le, z_lt_m, z_le_m, z_eq_m, z_m_eq, z_rz0, z_rz1, z_m_add, z_of, r_0_0, r_0_1, r_0_3, r_0_4, r_0_5, r_0_6, r_0_7, r_0_8, r_0_9, r_0_10, r_1_0, r_1_1, r_1_2, r_1_3, r_1_4, r_1_5, r_1_6, r_1_7, r_1_8, r_2_0, r_2_1, r_2_2, r_2_3, r_2_4, r_2_5, r_2_6, r_2_7, r_11_0, r_11_1, r_11_2, r_11_3, r_11_4, r_11_5, r_11_6, r_19_0, r_21_0, r_23_0, r_25_0, r_27_0, r_61_0, r_117_0, r_117_1, r_117_2, r_117_3, r_117_4, r_117_5, r_117_6, r_117_7, r_126_0, r_126_1, r_126_2, r_126_3, r_126_4, r_132_0, r_132_1, r_135_0, r_135_1, r_135_2, r_135_3, r_135_4, r_135_5, r_142_0, r_144_0, r_144_1, r_144_2, r_145_0, r_145_1, r_145_2, r_145_3, r_145_4, r_145_5, r_145_6, r_154_0, r_154_1, r_155_0, ↓z_m1, l_0, l_1, l_2, l_3, l_4, l_5, l_6, l_7, l_8, l_9, l_10, l_11, l_12, l_13, l_14, l_15, l_16, l_17, l_18, l_19, l_20, l_21, l_22, l_23, l_24, l_25, l_26, l_27, l_28, l_29, l_30, l_31, l_32, l_33, l_34, l_35, l_36, l_37, l_38, l_39, l_40, l_41, l_42, l_43, l_44, l_45, l_46, l_47, l_48, l_49, l_50, l_51, l_52, l_53, l_54, l_55, l_56, l_57, l_59, l_60, l_61, l_62, l_63, l_64, l_65, l_80, l_86, l_87, l_88, l_89, l_90, l_91, l_92, l_93, l_94, l_95, l_97, l_99, l_100, l_107, l_119, l_122, l_124, l_129, l_140, l_141, l_142, l_143, l_144, l_145, l_147, l_150, l_159, l_160, l_161, l_162, l_205, l_253, l_255, l_256, l_269, l_305, l_380, l_399, l_400, l_420, l_430, l_516, l_600, l_720, l_820, l_905, l_921, l_937, l_953, l_970, l_999, l_1000, l_1790, l_4096, l_9999, l_1000000]
      · unfold f_X12_days
        simp (disch := omega) only [m_isIn, hw, e158, h0, g4, ↓reduceIte, ↓p_ld, ↓p_st, ↓p_nm, ↓p_nS, ↓p_jn, ↓p_call, ↓p_callv, ↓p_dv, ↓p_rem, h_ldE, h_stE, h_nmE, h_nSE, h_callE, h_callvE, h_dvE, h_remE, if_true, if_false, z_upS, z_upO, z_upK, nI_add, z_mul, z_sub, z_div, Nat.add_zero, Nat.mul_zero, Nat.zero_add, Nat.sub_zero, Nat.zero_mul, z_ltT, z_ltF, z_leT, z_leF, z_eqT, z_eqF, z_inT, z_clT, not_true_eq_false, not_false_eq_true, eq_self, true_or, or_true, z_m_lt, z_m_le, z_lt_m, z_le_m, z_eq_m, z_m_eq, z_rz0, z_rz1, z_m_add, z_of, r_157_0, r_157_1, r_157_2, r_157_3, r_157_6, r_157_7, r_157_8, r_157_9, r_157_10, r_157_11, r_157_27, r_157_28, r_157_29, r_157_30, ↓z_m1, l_0, l_1, l_2, l_3, l_4, l_5, l_6, l_7, l_8, l_9, l_10, l_11, l_12, l_13, l_14, l_15, l_16, l_17, l_18, l_19, l_20, l_21, l_22, l_23, l_24, l_25, l_26, l_27, l_28, l_29, l_30, l_31, l_32, l_33, l_34, l_35, l_36, l_37, l_38, l_39, l_40, l_41, l_42, l_43, l_44, l_45, l_46, l_47, l_48, l_49, l_50, l_51, l_52, l_53, l_54, l_55, l_56, l_57, l_59, l_60, l_61, l_62, l_63, l_64, l_65, l_80, l_86, l_87, l_88, l_89, l_90, l_91, l_92, l_93, l_94, l_95, l_97, l_99, l_100, l_107, l_119, l_122, l_124, l_129, l_140, l_141, l_142, l_143, l_144, l_145, l_147, l_150, l_159, l_160, l_161, l_162, l_205, l_253, l_255, l_256, l_269, l_305, l_380, l_399, l_400, l_420, l_430, l_516, l_600, l_720, l_820, l_905, l_921, l_937, l_953, l_970, l_999, l_1000, l_1790, l_4096, l_9999, l_1000000]
      · have hfr : ∀ o, o < 157 → σ2 o = σ1 o := fun o ho => g1 o (by omega) (by omega) (by omega) (by omega) (by omega)
        refine z_Sim.of (V := W) (hs := hs') (wn := w') h ⟨f2.1.fr (fun o o1 o2 o3 => hfr o (by omega)), f2.2.fr (hfr 2 (by omega)) (hfr 29 (by omega))⟩ g2 ⟨D + N, by omega, t1⟩ ?_ g3 t2 (fun o ho => ?_) (fun a b1 b2 => by rw [g5 a b1 b2, f1 157 (by omega)])
        · obtain ⟨c1, c2, p, ⟨c3, c4⟩, c5⟩ := f3
          refine ⟨c1, by rw [hfr 61 (by omega)]; exact c2, p, ⟨fun i hi => ⟨(c3 i hi).1, by rw [hfr 62 (by omega)]; exact (c3 i hi).2⟩, c4⟩, fun i hi => ?_⟩
          have hp := (c3 i (by omega)).1
          refine ⟨(c5 i hi).1.fr (fun o o1 o2 => hfr o (by omega)), ?_⟩
          rw [hfr _ (by omega)]
          exact (c5 i hi).2
        · rw [g1 o (by omega) (by omega) (by omega) (by omega) (by omega), f1 o (by omega)]
    · refine ⟨z_m, σ, σ, ?_, ?_, mu, me, h⟩
      · unfold f_X11_days
        simp (disch := omega) only [c_isWithin, hw, g16, ↓reduceIte, ↓p_ld, ↓p_st, ↓p_nm, ↓p_nS, ↓p_jn, ↓p_call, ↓p_callv, ↓p_dv, ↓p_rem, h_ldE, h_stE, h_nmE, h_nSE, h_callE, h_callvE, h_dvE, h_remE, if_true, if_false, z_upS, z_upO, z_upK, nI_add, z_mul, z_sub, z_div, Nat.add_zero, Nat.mul_zero, Nat.zero_add, Nat.sub_zero, Nat.zero_mul, z_ltT, z_ltF, z_leT, z_leF, z_eqT, z_eqF, z_inT, z_clT, not_true_eq_false, not_false_eq_true, eq_self, true_or, or_true, z_m_lt, z_m_le, z_lt_m, z_le_m, z_eq_m, z_m_eq, z_rz0, z_rz1, z_m_add, z_of, r_0_0, r_0_1, r_0_3, r_0_4, r_0_5, r_0_6, r_0_7, r_0_8, r_0_9, r_0_10, r_1_0, r_1_1, r_1_2, r_1_3, r_1_4, r_1_5, r_1_6, r_1_7, r_1_8, r_2_0, r_2_1, r_2_2, r_2_3, r_2_4, r_2_5, r_2_6, r_2_7, r_11_0, r_11_1, r_11_2, r_11_3, r_11_4, r_11_5, r_11_6, r_19_0, r_21_0, r_23_0, r_25_0, r_27_0, r_61_0, r_117_0, r_117_1, r_117_2, r_117_3, r_117_4, r_117_5, r_117_6, r_117_7, r_126_0, r_126_1, r_126_2, r_126_3, r_126_4, r_132_0, r_132_1, r_135_0, r_135_1, r_135_2, r_135_3, r_135_4, r_135_5, r_142_0, r_144_0, r_144_1, r_144_2, r_145_0, r_145_1, r_145_2, r_145_3, r_145_4, r_145_5, r_145_6, r_154_0, r_154_1, r_155_0, ↓z_m1, l_0, l_1, l_2, l_3, l_4, l_5, l_6, l_7, l_8, l_9, l_10, l_11, l_12, l_13, l_14, l_15, l_16, l_17, l_18, l_19, l_20, l_21, l_22, l_23, l_24, l_25, l_26, l_27, l_28, l_29, l_30, l_31, l_32, l_33, l_34, l_35, l_36, l_37, l_38, l_39, l_40, l_41, l_42, l_43, l_44, l_45, l_46, l_47, l_48, l_49, l_50, l_51, l_52, l_53, l_54, l_55, l_56, l_57, l_59, l_60, l_61, l_62, l_63, l_64, l_65, l_80, l_86, l_87, l_88, l_89, l_90, l_91, l_92, l_93, l_94, l_95, l_97, l_99, l_100, l_107, l_119, l_122, l_124, l_129, l_140, l_141, l_142, l_143, l_144, l_145, l_147, l_150, l_159, l_160, l_161, l_162, l_205, l_253, l_255, l_256, l_269, l_305, l_380, l_399, l_400, l_420, l_430, l_516, l_600, l_720, l_820, l_905, l_921, l_937, l_953, l_970, l_999, l_1000, l_1790, l_4096, l_9999, l_1000000]
      · unfold f_X12_days
        simp (disch := omega) only [m_isIn, hw, h0, ↓reduceIte, ↓p_ld, ↓p_st, ↓p_nm, ↓p_nS, ↓p_jn, ↓p_call, ↓p_callv, ↓p_dv, ↓p_rem, h_ldE, h_stE, h_nmE, h_nSE, h_callE, h_callvE, h_dvE, h_remE, if_true, if_false, z_upS, z_upO, z_upK, nI_add, z_mul, z_sub, z_div, Nat.add_zero, Nat.mul_zero, Nat.zero_add, Nat.sub_zero, Nat.zero_mul, z_ltT, z_ltF, z_leT, z_leF, z_eqT, z_eqF, z_inT, z_clT, not_true_eq_false, not_false_eq_true, eq_self, true_or, or_true, z_m_lt, z_m_le, z_lt_m, z_le_m, z_eq_m, z_m_eq, z_rz0, z_rz1, z_m_add, z_of, r_157_0, r_157_1, r_157_2, r_157_3, r_157_6, r_157_7, r_157_8, r_157_9, r_157_10, r_157_11, r_157_27, r_157_28, r_157_29, r_157_30, ↓z_m1, l_0, l_1, l_2, l_3, l_4, l_5, l_6, l_7, l_8, l_9, l_10, l_11, l_12, l_13, l_14, l_15, l_16, l_17, l_18, l_19, l_20, l_21, l_22, l_23, l_24, l_25, l_26, l_27, l_28, l_29, l_30, l_31, l_32, l_33, l_34, l_35, l_36, l_37, l_38, l_39, l_40, l_41, l_42, l_43, l_44, l_45, l_46, l_47, l_48, l_49, l_50, l_51, l_52, l_53, l_54, l_55, l_56, l_57, l_59, l_60, l_61, l_62, l_63, l_64, l_65, l_80, l_86, l_87, l_88, l_89, l_90, l_91, l_92, l_93, l_94, l_95, l_97, l_99, l_100, l_107, l_119, l_122, l_124, l_129, l_140, l_141, l_142, l_143, l_144, l_145, l_147, l_150, l_159, l_160, l_161, l_162, l_205, l_253, l_255, l_256, l_269, l_305, l_380, l_399, l_400, l_420, l_430, l_516, l_600, l_720, l_820, l_905, l_921, l_937, l_953, l_970, l_999, l_1000, l_1790, l_4096, l_9999, l_1000000]
  · refine ⟨z_m, σ, σ, ?_, ?_, mu, me, h⟩
    · unfold f_X11_days
      simp (disch := omega) only [c_isWithin, hw, ↓reduceIte, ↓p_ld, ↓p_st, ↓p_nm, ↓p_nS, ↓p_jn, ↓p_call, ↓p_callv, ↓p_dv, ↓p_rem, h_ldE, h_stE, h_nmE, h_nSE, h_callE, h_callvE, h_dvE, h_remE, if_true, if_false, z_upS, z_upO, z_upK, nI_add, z_mul, z_sub, z_div, Nat.add_zero, Nat.mul_zero, Nat.zero_add, Nat.sub_zero, Nat.zero_mul, z_ltT, z_ltF, z_leT, z_leF, z_eqT, z_eqF, z_inT, z_clT, not_true_eq_false, not_false_eq_true, eq_self, true_or, or_true, z_m_lt, z_m_le, z_lt_m, z_le_m, z_eq_m, z_m_eq, z_rz0, z_rz1, z_m_add, z_of, r_0_0, r_0_1, r_0_3, r_0_4, r_0_5, r_0_6, r_0_7, r_0_8, r_0_9, r_0_10, r_1_0, r_1_1, r_1_2, r_1_3, r_1_4, r_1_5, r_1_6, r_1_7, r_1_8, r_2_0, r_2_1, r_2_2, r_2_3, r_2_4, r_2_5, r_2_6, r_2_7, r_11_0, r_11_1, r_11_2, r_11_3, r_11_4, r_11_5, r_11_6, r_19_0, r_21_0, r_23_0, r_25_0, r_27_0, r_61_0, r_117_0, r_117_1, r_117_2, r_117_3, r_117_4, r_117_5, r_117_6, r_117_7, r_126_0, r_126_1, r_126_2, r_126_3, r_126_4, r_132_0, r_132_1, r_135_0, r_135_1, r_135_2, r_135_3, r_135_4, r_135_5, r_142_0, r_144_0, r_144_1, r_144_2, r_145_0, r_145_1, r_145_2, r_145_3, r_145_4, r_145_5, r_145_6, r_154_0, r_154_1, r_155_0, ↓z_m1, l_0, l_1, l_2, l_3, l_4, l_5, l_6, l_7, l_8, l_9, l_10, l_11, l_12, l_13, l_14, l_15, l_16, l_17, l_18, l_19, l_20, l_21, l_22, l_23, l_24, l_25, l_26, l_27, l_28, l_29, l_30, l_31, l_32, l_33, l_34, l_35, l_36, l_37, l_38, l_39, l_40, l_41, l_42, l_43, l_44, l_45, l_46, l_47, l_48, l_49, l_50, l_51, l_52, l_53, l_54, l_55, l_56, l_57, l_59, l_60, l_61, l_62, l_63, l_64, l_65, l_80, l_86, l_87, l_88, l_89, l_90, l_91, l_92, l_93, l_94, l_95, l_97, l_99, l_100, l_107, l_119, l_122, l_124, l_129, l_140, l_141, l_142, l_143, l_144, l_145, l_147, l_150, l_159, l_160, l_161, l_162, l_205, l_253, l_255, l_256, l_269, l_305, l_380, l_399, l_400, l_420, l_430, l_516, l_600, l_720, l_820, l_905, l_921, l_937, l_953, l_970, l_999, l_1000, l_1790, l_4096, l_9999, l_1000000]
    · unfold f_X12_days
      simp (disch := omega) only [m_isIn, hw, ↓reduceIte, ↓p_ld, ↓p_st, ↓p_nm, ↓p_nS, ↓p_jn, ↓p_call, ↓p_callv, ↓p_dv, ↓p_rem, h_ldE, h_stE, h_nmE, h_nSE, h_callE, h_callvE, h_dvE, h_remE, if_true, if_false, z_upS, z_upO, z_upK, nI_add, z_mul, z_sub, z_div, Nat.add_zero, Nat.mul_zero, Nat.zero_add, Nat.sub_zero, Nat.zero_mul, z_ltT, z_ltF, z_leT, z_leF, z_eqT, z_eqF, z_inT, z_clT, not_true_eq_false, not_false_eq_true, eq_self, true_or, or_true, z_m_lt, z_m_le, z_lt_m, z_le_m, z_eq_m, z_m_eq, z_rz0, z_rz1, z_m_add, z_of, r_157_0, r_157_1, r_157_2, r_157_3, r_157_6, r_157_7, r_157_8, r_157_9, r_157_10, r_157_11, r_157_27, r_157_28, r_157_29, r_157_30, ↓z_m1, l_0, l_1, l_2, l_3, l_4, l_5, l_6, l_7, l_8, l_9, l_10, l_11, l_12, l_13, l_14, l_15, l_16, l_17, l_18, l_19, l_20, l_21, l_22, l_23, l_24, l_25, l_26, l_27, l_28, l_29, l_30, l_31, l_32, l_33, l_34, l_35, l_36, l_37, l_38, l_39, l_40, l_41, l_42, l_43, l_44, l_45, l_46, l_47, l_48, l_49, l_50, l_51, l_52, l_53, l_54, l_55, l_56, l_57, l_59, l_60, l_61, l_62, l_63, l_64, l_65, l_80, l_86, l_87, l_88, l_89, l_90, l_91, l_92, l_93, l_94, l_95, l_97, l_99, l_100, l_107, l_119, l_122, l_124, l_129, l_140, l_141, l_142, l_143, l_144, l_145, l_147, l_150, l_159, l_160, l_161, l_162, l_205, l_253, l_255, l_256, l_269, l_305, l_380, l_399, l_400, l_420, l_430, l_516, l_600, l_720, l_820, l_905, l_921, l_937, l_953, l_970, l_999, l_1000, l_1790, l_4096, l_9999, l_1000000]
/-- days in thought -/
theorem p_goes_L {mu me w0 N : Nat} {y : Int32} {K1 K2 : q_Sto → Option (Int32 × q_Sto)} (hN : N ≤ 60) : ∀ j i (V P : Nat → Int32) (σc : q_Sto), i + j = N → z_X mu me false w0 P σc V →
    ∃ W Q, (∀ a, 86 ≤ a → W a = V a) ∧ (∀ a, a < 100000 → Q a = P a) ∧ (∃ σd, z_X mu me false w0 Q σd W) ∧ (∀ l, j < l → ∀ σ, z_X mu me false w0 P σ V → ∃ σ', z_fX σ σ' ∧ z_X mu me false w0 Q σ' W ∧ f_X11_goes_L41 q_F 0 (nI N) y 2 K1 l (nI i) σ = K1 σ') ∧
      (∀ l, j < l → ∀ σ, σ 158 = V → z_fl σ false → ∃ σ', z_fM σ σ' ∧ σ' 158 = W ∧ f_X12_goes_L28 q_F 157 (nI N) y K2 l (nI i) σ = K2 σ') := by
  intro j
  induction j with
  | zero =>
    intro i V P σc hi hc
    have hi : i = N := by omega
    subst hi
    refine ⟨V, P, fun a _ => rfl, fun a _ => rfl, ⟨σc, hc⟩, fun l hl σ h1 => ⟨σ, fun o _ => rfl, h1, ?_⟩, fun l hl σ h1 h2 => ⟨σ, z_fM.refl σ, h1, ?_⟩⟩
    · cases l with
      | zero => omega
      | succ l =>
        rw [f_X11_goes_L41]
        simp (disch := omega) only [↓reduceIte, ↓p_ld, ↓p_st, ↓p_nm, ↓p_nS, ↓p_jn, ↓p_call, ↓p_callv, ↓p_dv, ↓p_rem, h_ldE, h_stE, h_nmE, h_nSE, h_callE, h_callvE, h_dvE, h_remE, if_true, if_false, z_upS, z_upO, z_upK, nI_add, z_mul, z_sub, z_div, Nat.add_zero, Nat.mul_zero, Nat.zero_add, Nat.sub_zero, Nat.zero_mul, z_ltT, z_ltF, z_leT, z_leF, z_eqT, z_eqF, z_inT, z_clT, not_true_eq_false, not_false_eq_true, eq_self, true_or, or_true, z_m_lt, z_m_le, z_lt_m, z_le_m, z_eq_m, z_m_eq, z_rz0, z_rz1, z_m_add, z_of, r_0_0, r_0_1, r_0_3, r_0_4, r_0_5, r_0_6, r_0_7, r_0_8, r_0_9, r_0_10, r_1_0, r_1_1, r_1_2, r_1_3, r_1_4, r_1_5, r_1_6, r_1_7, r_1_8, r_2_0, r_2_1, r_2_2, r_2_3, r_2_4, r_2_5, r_2_6, r_2_7, r_11_0, r_11_1, r_11_2, r_11_3, r_11_4, r_11_5, r_11_6, r_19_0, r_21_0, r_23_0, r_25_0, r_27_0, r_61_0, r_117_0, r_117_1, r_117_2, r_117_3, r_117_4, r_117_5, r_117_6, r_117_7, r_126_0, r_126_1, r_126_2, r_126_3, r_126_4, r_132_0, r_132_1, r_135_0, r_135_1, r_135_2, r_135_3, r_135_4, r_135_5, r_142_0, r_144_0, r_144_1, r_144_2, r_145_0, r_145_1, r_145_2, r_145_3, r_145_4, r_145_5, r_145_6, r_154_0, r_154_1, r_155_0, ↓z_m1, l_0, l_1, l_2, l_3, l_4, l_5, l_6, l_7, l_8, l_9, l_10, l_11, l_12, l_13, l_14, l_15, l_16, l_17, l_18, l_19, l_20, l_21, l_22, l_23, l_24, l_25, l_26, l_27, l_28, l_29, l_30, l_31, l_32, l_33, l_34, l_35, l_36, l_37, l_38, l_39, l_40, l_41, l_42, l_43, l_44, l_45, l_46, l_47, l_48, l_49, l_50, l_51, l_52, l_53, l_54, l_55, l_56, l_57, l_59, l_60, l_61, l_62, l_63, l_64, l_65, l_80, l_86, l_87, l_88, l_89, l_90, l_91, l_92, l_93, l_94, l_95, l_97, l_99, l_100, l_107, l_119, l_122, l_124, l_129, l_140, l_141, l_142, l_143, l_144, l_145, l_147, l_150, l_159, l_160, l_161, l_162, l_205, l_253, l_255, l_256, l_269, l_305, l_380, l_399, l_400, l_420, l_430, l_516, l_600, l_720, l_820, l_905, l_921, l_937, l_953, l_970, l_999, l_1000, l_1790, l_4096, l_9999, l_1000000]
    · cases l with
      | zero => omega
      | succ l =>
        rw [f_X12_goes_L28]
        simp (disch := omega) only [↓reduceIte, ↓p_ld, ↓p_st, ↓p_nm, ↓p_nS, ↓p_jn, ↓p_call, ↓p_callv, ↓p_dv, ↓p_rem, h_ldE, h_stE, h_nmE, h_nSE, h_callE, h_callvE, h_dvE, h_remE, if_true, if_false, z_upS, z_upO, z_upK, nI_add, z_mul, z_sub, z_div, Nat.add_zero, Nat.mul_zero, Nat.zero_add, Nat.sub_zero, Nat.zero_mul, z_ltT, z_ltF, z_leT, z_leF, z_eqT, z_eqF, z_inT, z_clT, not_true_eq_false, not_false_eq_true, eq_self, true_or, or_true, z_m_lt, z_m_le, z_lt_m, z_le_m, z_eq_m, z_m_eq, z_rz0, z_rz1, z_m_add, z_of, r_157_0, r_157_1, r_157_2, r_157_3, r_157_6, r_157_7, r_157_8, r_157_9, r_157_10, r_157_11, r_157_27, r_157_28, r_157_29, r_157_30, ↓z_m1, l_0, l_1, l_2, l_3, l_4, l_5, l_6, l_7, l_8, l_9, l_10, l_11, l_12, l_13, l_14, l_15, l_16, l_17, l_18, l_19, l_20, l_21, l_22, l_23, l_24, l_25, l_26, l_27, l_28, l_29, l_30, l_31, l_32, l_33, l_34, l_35, l_36, l_37, l_38, l_39, l_40, l_41, l_42, l_43, l_44, l_45, l_46, l_47, l_48, l_49, l_50, l_51, l_52, l_53, l_54, l_55, l_56, l_57, l_59, l_60, l_61, l_62, l_63, l_64, l_65, l_80, l_86, l_87, l_88, l_89, l_90, l_91, l_92, l_93, l_94, l_95, l_97, l_99, l_100, l_107, l_119, l_122, l_124, l_129, l_140, l_141, l_142, l_143, l_144, l_145, l_147, l_150, l_159, l_160, l_161, l_162, l_205, l_253, l_255, l_256, l_269, l_305, l_380, l_399, l_400, l_420, l_430, l_516, l_600, l_720, l_820, l_905, l_921, l_937, l_953, l_970, l_999, l_1000, l_1790, l_4096, l_9999, l_1000000]
  | succ j ih =>
    intro i V P σc hi hc
    obtain ⟨W1, r1, hr1, e0, v1, v2⟩ := p_day (n := q_F) z_F402 hc
    obtain ⟨σd, -, hd, -⟩ := v1 σc hc
    have hst : ∀ a, 86 ≤ a → W1 a = V a := fun a ha => by
      obtain ⟨-, -, -, -, -, -, -, q1⟩ := hd
      obtain ⟨-, -, -, -, -, -, -, q2⟩ := hc
      rw [q1 a (Or.inr ha) (Or.inr rfl), z_uK (by omega), q2 a (Or.inr ha) (Or.inr rfl)]
    obtain ⟨W, Q, t1, t2, t3, t4, t5⟩ := ih (i+1) W1 _ σd (by omega) hd
    refine ⟨W, Q, fun a ha => by rw [t1 a ha, hst a ha], fun a ha => by rw [t2 a ha, z_uK (by omega)], t3, fun l hl σ h1 => ?_, fun l hl σ h1 h2 => ?_⟩
    · cases l with
      | zero => omega
      | succ l =>
        obtain ⟨σ1, f1, f2, f3⟩ := v1 σ h1
        have f3 : f_X10_passDay q_F 1 126 (nI 0) σ = some (nI r1, σ1) := f3
        obtain ⟨σ', g1, g2, g3⟩ := t4 l (by omega) σ1 f2
        refine ⟨σ', f1.trans g1, g2, ?_⟩
        rw [← g3, f_X11_goes_L41]
        simp (disch := omega) only [f3, ↓reduceIte, ↓p_ld, ↓p_st, ↓p_nm, ↓p_nS, ↓p_jn, ↓p_call, ↓p_callv, ↓p_dv, ↓p_rem, h_ldE, h_stE, h_nmE, h_nSE, h_callE, h_callvE, h_dvE, h_remE, if_true, if_false, z_upS, z_upO, z_upK, nI_add, z_mul, z_sub, z_div, Nat.add_zero, Nat.mul_zero, Nat.zero_add, Nat.sub_zero, Nat.zero_mul, z_ltT, z_ltF, z_leT, z_leF, z_eqT, z_eqF, z_inT, z_clT, not_true_eq_false, not_false_eq_true, eq_self, true_or, or_true, z_m_lt, z_m_le, z_lt_m, z_le_m, z_eq_m, z_m_eq, z_rz0, z_rz1, z_m_add, z_of, r_0_0, r_0_1, r_0_3, r_0_4, r_0_5, r_0_6, r_0_7, r_0_8, r_0_9, r_0_10, r_1_0, r_1_1, r_1_2, r_1_3, r_1_4, r_1_5, r_1_6, r_1_7, r_1_8, r_2_0, r_2_1, r_2_2, r_2_3, r_2_4, r_2_5, r_2_6, r_2_7, r_11_0, r_11_1, r_11_2, r_11_3, r_11_4, r_11_5, r_11_6, r_19_0, r_21_0, r_23_0, r_25_0, r_27_0, r_61_0, r_117_0, r_117_1, r_117_2, r_117_3, r_117_4, r_117_5, r_117_6, r_117_7, r_126_0, r_126_1, r_126_2, r_126_3, r_126_4, r_132_0, r_132_1, r_135_0, r_135_1, r_135_2, r_135_3, r_135_4, r_135_5, r_142_0, r_144_0, r_144_1, r_144_2, r_145_0, r_145_1, r_145_2, r_145_3, r_145_4, r_145_5, r_145_6, r_154_0, r_154_1, r_155_0, ↓z_m1, l_0, l_1, l_2, l_3, l_4, l_5, l_6, l_7, l_8, l_9, l_10, l_11, l_12, l_13, l_14, l_15, l_16, l_17, l_18, l_19, l_20, l_21, l_22, l_23, l_24, l_25, l_26, l_27, l_28, l_29, l_30, l_31, l_32, l_33, l_34, l_35, l_36, l_37, l_38, l_39, l_40, l_41, l_42, l_43, l_44, l_45, l_46, l_47, l_48, l_49, l_50, l_51, l_52, l_53, l_54, l_55, l_56, l_57, l_59, l_60, l_61, l_62, l_63, l_64, l_65, l_80, l_86, l_87, l_88, l_89, l_90, l_91, l_92, l_93, l_94, l_95, l_97, l_99, l_100, l_107, l_119, l_122, l_124, l_129, l_140, l_141, l_142, l_143, l_144, l_145, l_147, l_150, l_159, l_160, l_161, l_162, l_205, l_253, l_255, l_256, l_269, l_305, l_380, l_399, l_400, l_420, l_430, l_516, l_600, l_720, l_820, l_905, l_921, l_937, l_953, l_970, l_999, l_1000, l_1790, l_4096, l_9999, l_1000000]
    · cases l with
      | zero => omega
      | succ l =>
        obtain ⟨σ1, f1, f2, f3⟩ := v2 σ h1 h2
        obtain ⟨σ', g1, g2, g3⟩ := t5 l (by omega) σ1 f2 (h2.fr f1)
        refine ⟨σ', f1.trans g1, g2, ?_⟩
        rw [← g3, f_X12_goes_L28]
        simp (disch := omega) only [f3, ↓reduceIte, ↓p_ld, ↓p_st, ↓p_nm, ↓p_nS, ↓p_jn, ↓p_call, ↓p_callv, ↓p_dv, ↓p_rem, h_ldE, h_stE, h_nmE, h_nSE, h_callE, h_callvE, h_dvE, h_remE, if_true, if_false, z_upS, z_upO, z_upK, nI_add, z_mul, z_sub, z_div, Nat.add_zero, Nat.mul_zero, Nat.zero_add, Nat.sub_zero, Nat.zero_mul, z_ltT, z_ltF, z_leT, z_leF, z_eqT, z_eqF, z_inT, z_clT, not_true_eq_false, not_false_eq_true, eq_self, true_or, or_true, z_m_lt, z_m_le, z_lt_m, z_le_m, z_eq_m, z_m_eq, z_rz0, z_rz1, z_m_add, z_of, r_157_0, r_157_1, r_157_2, r_157_3, r_157_6, r_157_7, r_157_8, r_157_9, r_157_10, r_157_11, r_157_27, r_157_28, r_157_29, r_157_30, ↓z_m1, l_0, l_1, l_2, l_3, l_4, l_5, l_6, l_7, l_8, l_9, l_10, l_11, l_12, l_13, l_14, l_15, l_16, l_17, l_18, l_19, l_20, l_21, l_22, l_23, l_24, l_25, l_26, l_27, l_28, l_29, l_30, l_31, l_32, l_33, l_34, l_35, l_36, l_37, l_38, l_39, l_40, l_41, l_42, l_43, l_44, l_45, l_46, l_47, l_48, l_49, l_50, l_51, l_52, l_53, l_54, l_55, l_56, l_57, l_59, l_60, l_61, l_62, l_63, l_64, l_65, l_80, l_86, l_87, l_88, l_89, l_90, l_91, l_92, l_93, l_94, l_95, l_97, l_99, l_100, l_107, l_119, l_122, l_124, l_129, l_140, l_141, l_142, l_143, l_144, l_145, l_147, l_150, l_159, l_160, l_161, l_162, l_205, l_253, l_255, l_256, l_269, l_305, l_380, l_399, l_400, l_420, l_430, l_516, l_600, l_720, l_820, l_905, l_921, l_937, l_953, l_970, l_999, l_1000, l_1790, l_4096, l_9999, l_1000000]
theorem z_rf117 : ∀ k, k < 8 → q_RF 117 k = 117+1+k := by decide
theorem z_rf2 : ∀ k, k < 8 → q_RF 2 k = 2+1+k := by decide
theorem P_goes {σ : q_Sto} (h : q_Sim σ) (a0 : Int32) (a1 : Int32)  : ∃ (r : Int32) (σ1 σ2 : q_Sto), f_X11_goes q_F 0 a0 a1 σ = some (r, σ1) ∧ f_X12_goes q_F 157 a0 a1 σ1 = some (r, σ2) ∧ q_Sim σ2 := by
  obtain ⟨mu, me, h⟩ := h
  have hC := z_Sim.C h
  have hmu := hC.1.1
  have hme := hC.1.2.1
  have hno : z_w a0 (nI 1) (nI 60) = nI 0 ∨ z_w a1 (nI 0) (nI 3) = nI 0 → ∃ (r : Int32) (σ1 σ2 : q_Sto), f_X11_goes q_F 0 a0 a1 σ = some (r, σ1) ∧ f_X12_goes q_F 157 a0 a1 σ1 = some (r, σ2) ∧ q_Sim σ2 := by
    intro hq
    refine ⟨-2, σ, σ, ?_, ?_, mu, me, h⟩
    · unfold f_X11_goes
      rw [c_isWithin, z_call, c_isWithin, z_call]
      rcases hq with hq | hq
      · rw [l_1, l_60, hq]; rfl
      · rw [l_0, l_3, hq]
        by_cases q : z_w a0 1 60 = nI 0
        · rw [if_pos q]
        · rw [if_neg q, if_pos rfl]
    · unfold f_X12_goes
      rw [m_isIn, z_call, m_isIn, z_call]
      rcases hq with hq | hq
      · rw [l_1, l_60, hq]; rfl
      · rw [l_0, l_3, hq]
        by_cases q : z_w a0 1 60 = nI 0
        · rw [if_pos q]
        · rw [if_neg q, if_pos rfl]
  rcases z_w_cases a0 (lo := 1) (hi := 60) (by omega) (by omega) with ⟨N, n1, n2, rfl, hw⟩ | hw
  · rcases z_w_cases a1 (lo := 0) (hi := 3) (by omega) (by omega) with ⟨y, y1, y2, rfl, hy⟩ | hy
    · obtain ⟨hs, wn, hX, h0, x1, x2, x3, w1, w2, w3⟩ := z_Sim.un h
      obtain ⟨σ1, a2, a3, a4, a5, a6, a7⟩ := c_copyTrain (n := q_F) (σ := σ) z_rf117 z_rf2 (Or.inr (by omega))
      have hx1 : z_X mu me false wn (fun a => if a < 100000 then σ 29 a else σ 158 (a - 100000)) σ1 (σ 158) := by
        refine ⟨hC.fr (fun o o1 o2 o3 => a3 o (by omega)), wn, w1, Nat.le_refl _, by rw [a3 2 (by omega)]; exact w3, fun a ha => ?_, (fun q => by cases q), fun a b1 b2 => ?_⟩
        · rw [a3 29 (by omega)]
          exact (if_pos (by omega)).symm
        · show _ = (if _ then _ else _)
          rw [if_neg (by omega), show 100000 + a - 100000 = a by omega]
      obtain ⟨W, Q, t1, t2, t3, t4, t5⟩ := p_goes_L (mu := mu) (me := me) (w0 := wn) (N := N) (y := nI y) (K1 := fun  (s12 : q_Sto) =>
  if nI y = 0 then (
  q_nm (s12 2 13) fun v14 =>
  q_callv (f_X9_copyFrom q_F 2 117 s12) fun s15 =>
  some (v14, s15))
  else (
  if nI y = 1 then (
  q_nm (s12 2 12) fun v18 =>
  q_callv (f_X9_copyFrom q_F 2 117 s12) fun s19 =>
  some (v18, s19))
  else (
  if nI y = 2 then (
  q_nm (s12 2 15) fun v22 =>
  q_callv (f_X9_copyFrom q_F 2 117 s12) fun s23 =>
  some (v22, s23))
  else (
  q_nm (s12 2 14) fun v25 =>
  q_callv (f_X9_copyFrom q_F 2 117 s12) fun s26 =>
  some (v25, s26))))) (K2 := fun  (s12 : q_Sto) =>
  if nI y = 0 then (
  q_ld s12 158 2 1790 fun v14 =>
  q_callv (f_X12_putsBack q_F 157 s12) fun s15 =>
  some (v14, s15))
  else (
  if nI y = 1 then (
  q_ld s12 158 1 1790 fun v18 =>
  q_callv (f_X12_putsBack q_F 157 s12) fun s19 =>
  some (v18, s19))
  else (
  if nI y = 2 then (
  q_ld s12 158 4 1790 fun v22 =>
  q_callv (f_X12_putsBack q_F 157 s12) fun s23 =>
  some (v22, s23))
  else (
  q_ld s12 158 3 1790 fun v25 =>
  q_callv (f_X12_putsBack q_F 157 s12) fun s26 =>
  some (v25, s26))))) n2 N 0 (σ 158) _ σ1 (by omega) hx1
      obtain ⟨σ2, f1, f2, f3⟩ := t4 q_F (by unfold q_F; omega) σ1 hx1
      obtain ⟨σ3, b2, b3, b4, b5, b6, b7⟩ := c_copyTrain (n := q_F) (σ := σ2) z_rf2 z_rf117 (Or.inl (by omega))
      have e117 : ∀ o, 117 ≤ o → o ≤ 125 → σ2 o = σ1 o := fun o o1 o2 => f1 o (by omega)
      have hT3 : z_TR σ3 2 (σ 158) mu me := by
        refine z_TR.copy hmu hme (a := 117) (σ := σ1) ?_ (fun f g1 g2 => by rw [b4 f g1 g2, e117 117 (by omega) (by omega)]) (fun m hm => by rw [← e117 118 (by omega) (by omega), ← e117 119 (by omega) (by omega), ← e117 120 (by omega) (by omega), ← e117 121 (by omega) (by omega)]; exact b5 m hm) (fun k hk => by rw [← e117 122 (by omega) (by omega), ← e117 123 (by omega) (by omega), ← e117 124 (by omega) (by omega)]; exact b6 k hk) (fun k hk => by rw [← e117 125 (by omega) (by omega)]; exact b7 k hk)
        exact z_TR.copy hmu hme hC.2.1 a4 a5 a6 a7
      have h17 : σ3 2 17 = nI wn := by rw [b4 17 (by omega) (by omega), e117 117 (by omega) (by omega), a4 17 (by omega) (by omega), w3]
      have hpg : ∀ a, a < wn * 4 → σ3 29 a = σ 29 a := fun a ha => by
        obtain ⟨-, w', p1, p2, p3, p4, -, -⟩ := f2
        rw [b3 29 (by omega), p4 a ha, t2 a (by omega)]
        exact if_pos (by omega)
      have hfr : ∀ o, o < 2 ∨ (10 < o ∧ o ≠ 18 ∧ o ≠ 29 ∧ o ≠ 30 ∧ o < 117) ∨ 131 < o → σ3 o = σ o := fun o ho => by
        rw [b3 o (by omega), f1 o (by omega), a3 o (by omega)]
      obtain ⟨σ4, m1, m2, m3, m4, m5⟩ := m_lays (n := q_F) (σ := σ3) (by unfold q_F; omega)
      obtain ⟨σ5, g1, g2, g3⟩ := t5 q_F (by unfold q_F; omega) σ4 (by rw [m1 158 (by omega) (by omega), hfr 158 (by omega)]) m3
      obtain ⟨σ6, q1, q2, q3⟩ := m_puts (n := q_F) (V := σ 158) (σ := σ5) (by unfold q_F; omega) (fun k hk => by rw [g1 161 (by omega) (by omega) (by omega), m4 k hk, hfr 158 (by omega)]) (fun k hk => by rw [g2, t1 k hk])
      have hS : z_SimN σ6 mu me := by
        have h6o : ∀ o, o ≠ 157 → o ≠ 161 → o ≠ 166 → o ≠ 167 → o < 2 ∨ (10 < o ∧ o ≠ 18 ∧ o ≠ 29 ∧ o ≠ 30 ∧ o < 117) ∨ 131 < o → σ6 o = σ o := fun o o1 o2 o3 o4 ho => by
          by_cases q : o = 158
          · subst q; exact q2
          · rw [q1 o q, g1 o q o3 o4, m1 o o2 o1, hfr o ho]
        have h6t : ∀ o, o < 157 → σ6 o = σ3 o := fun o ho => by rw [q1 o (by omega), g1 o (by omega) (by omega) (by omega), m1 o (by omega) (by omega)]
        refine z_Sim.of (V := σ 158) (hs := hs) (wn := wn) h ⟨⟨hC.1, hT3.fr (fun o o1 o2 => h6t o (by omega)), hC.2.2.fr (fun o o1 o2 o3 => h6o o (by omega) (by omega) (by omega) (by omega) (by omega))⟩, ?_⟩ q2 h0 ?_ ?_ x3 (fun o ho => h6o o (by omega) (by omega) (by omega) (by omega) (by omega)) (fun a b1 b2 => by rw [q1 157 (by omega), g1 157 (by omega) (by omega) (by omega), m2 a b2, hfr 157 (by omega)])
        · obtain ⟨w', p1, p2, p3, p4⟩ := hX.2
          have : w' = wn := by rw [w2, nI_eq (by omega) (by omega)] at p3; exact p3.symm
          subst this
          refine ⟨w', p1, by rw [h6t _ (by omega)]; exact h17, p3, fun i c hi hc => ?_⟩
          rw [h6t _ (by omega)]
          exact (hpg _ (by omega)).trans (p4 i c hi hc)
        · obtain ⟨c1, c2, p, ⟨c3, c4⟩, c5⟩ := x1
          have k6 : ∀ o, 61 ≤ o → o ≤ 116 → σ6 o = σ o := fun o o1 o2 => h6o o (by omega) (by omega) (by omega) (by omega) (by omega)
          refine ⟨c1, by rw [k6 61 (by omega) (by omega)]; exact c2, p, ⟨fun i hi => ⟨(c3 i hi).1, by rw [k6 62 (by omega) (by omega)]; exact (c3 i hi).2⟩, c4⟩, fun i hi => ?_⟩
          have hp := (c3 i (by omega)).1
          refine ⟨(c5 i hi).1.fr (fun o o1 o2 => k6 o (by omega) (by omega)), ?_⟩
          rw [k6 _ (by omega) (by omega)]
          exact (c5 i hi).2
        · obtain ⟨r1, r2⟩ := x2
          refine ⟨by rw [q1 157 (by omega), g1 157 (by omega) (by omega) (by omega), m2 4 (by omega), hfr 157 (by omega)]; exact r1, fun i k hi hk => by rw [h6o 160 (by omega) (by omega) (by omega) (by omega) (by omega)]; exact r2 i k hi hk⟩
      obtain ⟨d1, d2, d3, d4, d5, d6, d7, d8, d9⟩ := f2.1.2.1.1
      have d5 : σ2 2 12 = W 1 := d5
      have d6 : σ2 2 13 = W 2 := d6
      have d7 : σ2 2 14 = W 3 := d7
      have d8 : σ2 2 15 = W 4 := d8
      have hy4 : y = 0 ∨ y = 1 ∨ y = 2 ∨ y = 3 := by omega
      rcases hy4 with rfl | rfl | rfl | rfl
      · refine ⟨W 2, σ3, σ6, ?_, ?_, mu, me, hS⟩
        · unfold f_X11_goes
          rw [c_isWithin, z_call, l_1, l_60, hw, if_neg (by decide), c_isWithin, z_call, l_0, l_3, hy, if_neg (by decide), r_0_4, r_0_0, r_1_0, a2, z_callv]
          refine Eq.trans f3 ?_
          simp (disch := omega) only [d6, b2, ↓reduceIte, ↓p_ld, ↓p_st, ↓p_nm, ↓p_nS, ↓p_jn, ↓p_call, ↓p_callv, ↓p_dv, ↓p_rem, h_ldE, h_stE, h_nmE, h_nSE, h_callE, h_callvE, h_dvE, h_remE, if_true, if_false, z_upS, z_upO, z_upK, nI_add, z_mul, z_sub, z_div, Nat.add_zero, Nat.mul_zero, Nat.zero_add, Nat.sub_zero, Nat.zero_mul, z_ltT, z_ltF, z_leT, z_leF, z_eqT, z_eqF, z_inT, z_clT, not_true_eq_false, not_false_eq_true, eq_self, true_or, or_true, z_m_lt, z_m_le, z_lt_m, z_le_m, z_eq_m, z_m_eq, z_rz0, z_rz1, z_m_add, z_of, r_0_0, r_0_1, r_0_3, r_0_4, r_0_5, r_0_6, r_0_7, r_0_8, r_0_9, r_0_10, r_1_0, r_1_1, r_1_2, r_1_3, r_1_4, r_1_5, r_1_6, r_1_7, r_1_8, r_2_0, r_2_1, r_2_2, r_2_3, r_2_4, r_2_5, r_2_6, r_2_7, r_11_0, r_11_1, r_11_2, r_11_3, r_11_4, r_11_5, r_11_6, r_19_0, r_21_0, r_23_0, r_25_0, r_27_0, r_61_0, r_117_0, r_117_1, r_117_2, r_117_3, r_117_4, r_117_5, r_117_6, r_117_7, r_126_0, r_126_1, r_126_2, r_126_3, r_126_4, r_132_0, r_132_1, r_135_0, r_135_1, r_135_2, r_135_3, r_135_4, r_135_5, r_142_0, r_144_0, r_144_1, r_144_2, r_145_0, r_145_1, r_145_2, r_145_3, r_145_4, r_145_5, r_145_6, r_154_0, r_154_1, r_155_0, ↓z_m1, l_0, l_1, l_2, l_3, l_4, l_5, l_6, l_7, l_8, l_9, l_10, l_11, l_12, l_13, l_14, l_15, l_16, l_17, l_18, l_19, l_20, l_21, l_22, l_23, l_24, l_25, l_26, l_27, l_28, l_29, l_30, l_31, l_32, l_33, l_34, l_35, l_36, l_37, l_38, l_39, l_40, l_41, l_42, l_43, l_44, l_45, l_46, l_47, l_48, l_49, l_50, l_51, l_52, l_53, l_54, l_55, l_56, l_57, l_59, l_60, l_61, l_62, l_63, l_64, l_65, l_80, l_86, l_87, l_88, l_89, l_90, l_91, l_92, l_93, l_94, l_95, l_97, l_99, l_100, l_107, l_119, l_122, l_124, l_129, l_140, l_141, l_142, l_143, l_144, l_145, l_147, l_150, l_159, l_160, l_161, l_162, l_205, l_253, l_255, l_256, l_269, l_305, l_380, l_399, l_400, l_420, l_430, l_516, l_600, l_720, l_820, l_905, l_921, l_937, l_953, l_970, l_999, l_1000, l_1790, l_4096, l_9999, l_1000000]
        · unfold f_X12_goes
          rw [m_isIn, z_call, l_1, l_60, hw, if_neg (by decide), m_isIn, z_call, l_0, l_3, hy, if_neg (by decide), m5, z_callv]
          refine Eq.trans g3 ?_
          simp (disch := omega) only [g2, q3, ↓reduceIte, ↓p_ld, ↓p_st, ↓p_nm, ↓p_nS, ↓p_jn, ↓p_call, ↓p_callv, ↓p_dv, ↓p_rem, h_ldE, h_stE, h_nmE, h_nSE, h_callE, h_callvE, h_dvE, h_remE, if_true, if_false, z_upS, z_upO, z_upK, nI_add, z_mul, z_sub, z_div, Nat.add_zero, Nat.mul_zero, Nat.zero_add, Nat.sub_zero, Nat.zero_mul, z_ltT, z_ltF, z_leT, z_leF, z_eqT, z_eqF, z_inT, z_clT, not_true_eq_false, not_false_eq_true, eq_self, true_or, or_true, z_m_lt, z_m_le, z_lt_m, z_le_m, z_eq_m, z_m_eq, z_rz0, z_rz1, z_m_add, z_of, r_157_0, r_157_1, r_157_2, r_157_3, r_157_6, r_157_7, r_157_8, r_157_9, r_157_10, r_157_11, r_157_27, r_157_28, r_157_29, r_157_30, ↓z_m1, l_0, l_1, l_2, l_3, l_4, l_5, l_6, l_7, l_8, l_9, l_10, l_11, l_12, l_13, l_14, l_15, l_16, l_17, l_18, l_19, l_20, l_21, l_22, l_23, l_24, l_25, l_26, l_27, l_28, l_29, l_30, l_31, l_32, l_33, l_34, l_35, l_36, l_37, l_38, l_39, l_40, l_41, l_42, l_43, l_44, l_45, l_46, l_47, l_48, l_49, l_50, l_51, l_52, l_53, l_54, l_55, l_56, l_57, l_59, l_60, l_61, l_62, l_63, l_64, l_65, l_80, l_86, l_87, l_88, l_89, l_90, l_91, l_92, l_93, l_94, l_95, l_97, l_99, l_100, l_107, l_119, l_122, l_124, l_129, l_140, l_141, l_142, l_143, l_144, l_145, l_147, l_150, l_159, l_160, l_161, l_162, l_205, l_253, l_255, l_256, l_269, l_305, l_380, l_399, l_400, l_420, l_430, l_516, l_600, l_720, l_820, l_905, l_921, l_937, l_953, l_970, l_999, l_1000, l_1790, l_4096, l_9999, l_1000000]
      · refine ⟨W 1, σ3, σ6, ?_, ?_, mu, me, hS⟩
        · unfold f_X11_goes
          rw [c_isWithin, z_call, l_1, l_60, hw, if_neg (by decide), c_isWithin, z_call, l_0, l_3, hy, if_neg (by decide), r_0_4, r_0_0, r_1_0, a2, z_callv]
          refine Eq.trans f3 ?_
          simp (disch := omega) only [d5, b2, ↓reduceIte, ↓p_ld, ↓p_st, ↓p_nm, ↓p_nS, ↓p_jn, ↓p_call, ↓p_callv, ↓p_dv, ↓p_rem, h_ldE, h_stE, h_nmE, h_nSE, h_callE, h_callvE, h_dvE, h_remE, if_true, if_false, z_upS, z_upO, z_upK, nI_add, z_mul, z_sub, z_div, Nat.add_zero, Nat.mul_zero, Nat.zero_add, Nat.sub_zero, Nat.zero_mul, z_ltT, z_ltF, z_leT, z_leF, z_eqT, z_eqF, z_inT, z_clT, not_true_eq_false, not_false_eq_true, eq_self, true_or, or_true, z_m_lt, z_m_le, z_lt_m, z_le_m, z_eq_m, z_m_eq, z_rz0, z_rz1, z_m_add, z_of, r_0_0, r_0_1, r_0_3, r_0_4, r_0_5, r_0_6, r_0_7, r_0_8, r_0_9, r_0_10, r_1_0, r_1_1, r_1_2, r_1_3, r_1_4, r_1_5, r_1_6, r_1_7, r_1_8, r_2_0, r_2_1, r_2_2, r_2_3, r_2_4, r_2_5, r_2_6, r_2_7, r_11_0, r_11_1, r_11_2, r_11_3, r_11_4, r_11_5, r_11_6, r_19_0, r_21_0, r_23_0, r_25_0, r_27_0, r_61_0, r_117_0, r_117_1, r_117_2, r_117_3, r_117_4, r_117_5, r_117_6, r_117_7, r_126_0, r_126_1, r_126_2, r_126_3, r_126_4, r_132_0, r_132_1, r_135_0, r_135_1, r_135_2, r_135_3, r_135_4, r_135_5, r_142_0, r_144_0, r_144_1, r_144_2, r_145_0, r_145_1, r_145_2, r_145_3, r_145_4, r_145_5, r_145_6, r_154_0, r_154_1, r_155_0, ↓z_m1, l_0, l_1, l_2, l_3, l_4, l_5, l_6, l_7, l_8, l_9, l_10, l_11, l_12, l_13, l_14, l_15, l_16, l_17, l_18, l_19, l_20, l_21, l_22, l_23, l_24, l_25, l_26, l_27, l_28, l_29, l_30, l_31, l_32, l_33, l_34, l_35, l_36, l_37, l_38, l_39, l_40, l_41, l_42, l_43, l_44, l_45, l_46, l_47, l_48, l_49, l_50, l_51, l_52, l_53, l_54, l_55, l_56, l_57, l_59, l_60, l_61, l_62, l_63, l_64, l_65, l_80, l_86, l_87, l_88, l_89, l_90, l_91, l_92, l_93, l_94, l_95, l_97, l_99, l_100, l_107, l_119, l_122, l_124, l_129, l_140, l_141, l_142, l_143, l_144, l_145, l_147, l_150, l_159, l_160, l_161, l_162, l_205, l_253, l_255, l_256, l_269, l_305, l_380, l_399, l_400, l_420, l_430, l_516, l_600, l_720, l_820, l_905, l_921, l_937, l_953, l_970, l_999, l_1000, l_1790, l_4096, l_9999, l_1000000]
        · unfold f_X12_goes
          rw [m_isIn, z_call, l_1, l_60, hw, if_neg (by decide), m_isIn, z_call, l_0, l_3, hy, if_neg (by decide), m5, z_callv]
          refine Eq.trans g3 ?_
          simp (disch := omega) only [g2, q3, ↓reduceIte, ↓p_ld, ↓p_st, ↓p_nm, ↓p_nS, ↓p_jn, ↓p_call, ↓p_callv, ↓p_dv, ↓p_rem, h_ldE, h_stE, h_nmE, h_nSE, h_callE, h_callvE, h_dvE, h_remE, if_true, if_false, z_upS, z_upO, z_upK, nI_add, z_mul, z_sub, z_div, Nat.add_zero, Nat.mul_zero, Nat.zero_add, Nat.sub_zero, Nat.zero_mul, z_ltT, z_ltF, z_leT, z_leF, z_eqT, z_eqF, z_inT, z_clT, not_true_eq_false, not_false_eq_true, eq_self, true_or, or_true, z_m_lt, z_m_le, z_lt_m, z_le_m, z_eq_m, z_m_eq, z_rz0, z_rz1, z_m_add, z_of, r_157_0, r_157_1, r_157_2, r_157_3, r_157_6, r_157_7, r_157_8, r_157_9, r_157_10, r_157_11, r_157_27, r_157_28, r_157_29, r_157_30, ↓z_m1, l_0, l_1, l_2, l_3, l_4, l_5, l_6, l_7, l_8, l_9, l_10, l_11, l_12, l_13, l_14, l_15, l_16, l_17, l_18, l_19, l_20, l_21, l_22, l_23, l_24, l_25, l_26, l_27, l_28, l_29, l_30, l_31, l_32, l_33, l_34, l_35, l_36, l_37, l_38, l_39, l_40, l_41, l_42, l_43, l_44, l_45, l_46, l_47, l_48, l_49, l_50, l_51, l_52, l_53, l_54, l_55, l_56, l_57, l_59, l_60, l_61, l_62, l_63, l_64, l_65, l_80, l_86, l_87, l_88, l_89, l_90, l_91, l_92, l_93, l_94, l_95, l_97, l_99, l_100, l_107, l_119, l_122, l_124, l_129, l_140, l_141, l_142, l_143, l_144, l_145, l_147, l_150, l_159, l_160, l_161, l_162, l_205, l_253, l_255, l_256, l_269, l_305, l_380, l_399, l_400, l_420, l_430, l_516, l_600, l_720, l_820, l_905, l_921, l_937, l_953, l_970, l_999, l_1000, l_1790, l_4096, l_9999, l_1000000]
      · refine ⟨W 4, σ3, σ6, ?_, ?_, mu, me, hS⟩
        · unfold f_X11_goes
          rw [c_isWithin, z_call, l_1, l_60, hw, if_neg (by decide), c_isWithin, z_call, l_0, l_3, hy, if_neg (by decide), r_0_4, r_0_0, r_1_0, a2, z_callv]
          refine Eq.trans f3 ?_
          simp (disch := omega) only [d8, b2, ↓reduceIte, ↓p_ld, ↓p_st, ↓p_nm, ↓p_nS, ↓p_jn, ↓p_call, ↓p_callv, ↓p_dv, ↓p_rem, h_ldE, h_stE, h_nmE, h_nSE, h_callE, h_callvE, h_dvE, h_remE, if_true, if_false, z_upS, z_upO, z_upK, nI_add, z_mul, z_sub, z_div, Nat.add_zero, Nat.mul_zero, Nat.zero_add, Nat.sub_zero, Nat.zero_mul, z_ltT, z_ltF, z_leT, z_leF, z_eqT, z_eqF, z_inT, z_clT, not_true_eq_false, not_false_eq_true, eq_self, true_or, or_true, z_m_lt, z_m_le, z_lt_m, z_le_m, z_eq_m, z_m_eq, z_rz0, z_rz1, z_m_add, z_of, r_0_0, r_0_1, r_0_3, r_0_4, r_0_5, r_0_6, r_0_7, r_0_8, r_0_9, r_0_10, r_1_0, r_1_1, r_1_2, r_1_3, r_1_4, r_1_5, r_1_6, r_1_7, r_1_8, r_2_0, r_2_1, r_2_2, r_2_3, r_2_4, r_2_5, r_2_6, r_2_7, r_11_0, r_11_1, r_11_2, r_11_3, r_11_4, r_11_5, r_11_6, r_19_0, r_21_0, r_23_0, r_25_0, r_27_0, r_61_0, r_117_0, r_117_1, r_117_2, r_117_3, r_117_4, r_117_5, r_117_6, r_117_7, r_126_0, r_126_1, r_126_2, r_126_3, r_126_4, r_132_0, r_132_1, r_135_0, r_135_1, r_135_2, r_135_3, r_135_4, r_135_5, r_142_0, r_144_0, r_144_1, r_144_2, r_145_0, r_145_1, r_145_2, r_145_3, r_145_4, r_145_5, r_145_6, r_154_0, r_154_1, r_155_0, ↓z_m1, l_0, l_1, l_2, l_3, l_4, l_5, l_6, l_7, l_8, l_9, l_10, l_11, l_12, l_13, l_14, l_15, l_16, l_17, l_18, l_19, l_20, l_21, l_22, l_23, l_24, l_25, l_26, l_27, l_28, l_29, l_30, l_31, l_32, l_33, l_34, l_35, l_36, l_37, l_38, l_39, l_40, l_41, l_42, l_43, l_44, l_45, l_46, l_47, l_48, l_49, l_50, l_51, l_52, l_53, l_54, l_55, l_56, l_57, l_59, l_60, l_61, l_62, l_63, l_64, l_65, l_80, l_86, l_87, l_88, l_89, l_90, l_91, l_92, l_93, l_94, l_95, l_97, l_99, l_100, l_107, l_119, l_122, l_124, l_129, l_140, l_141, l_142, l_143, l_144, l_145, l_147, l_150, l_159, l_160, l_161, l_162, l_205, l_253, l_255, l_256, l_269, l_305, l_380, l_399, l_400, l_420, l_430, l_516, l_600, l_720, l_820, l_905, l_921, l_937, l_953, l_970, l_999, l_1000, l_1790, l_4096, l_9999, l_1000000]
        · unfold f_X12_goes
          rw [m_isIn, z_call, l_1, l_60, hw, if_neg (by decide), m_isIn, z_call, l_0, l_3, hy, if_neg (by decide), m5, z_callv]
          refine Eq.trans g3 ?_
          simp (disch := omega) only [g2, q3, ↓reduceIte, ↓p_ld, ↓p_st, ↓p_nm, ↓p_nS, ↓p_jn, ↓p_call, ↓p_callv, ↓p_dv, ↓p_rem, h_ldE, h_stE, h_nmE, h_nSE, h_callE, h_callvE, h_dvE, h_remE, if_true, if_false, z_upS, z_upO, z_upK, nI_add, z_mul, z_sub, z_div, Nat.add_zero, Nat.mul_zero, Nat.zero_add, Nat.sub_zero, Nat.zero_mul, z_ltT, z_ltF, z_leT, z_leF, z_eqT, z_eqF, z_inT, z_clT, not_true_eq_false, not_false_eq_true, eq_self, true_or, or_true, z_m_lt, z_m_le, z_lt_m, z_le_m, z_eq_m, z_m_eq, z_rz0, z_rz1, z_m_add, z_of, r_157_0, r_157_1, r_157_2, r_157_3, r_157_6, r_157_7, r_157_8, r_157_9, r_157_10, r_157_11, r_157_27, r_157_28, r_157_29, r_157_30, ↓z_m1, l_0, l_1, l_2, l_3, l_4, l_5, l_6, l_7, l_8, l_9, l_10, l_11, l_12, l_13, l_14, l_15, l_16, l_17, l_18, l_19, l_20, l_21, l_22, l_23, l_24, l_25, l_26, l_27, l_28, l_29, l_30, l_31, l_32, l_33, l_34, l_35, l_36, l_37, l_38, l_39, l_40, l_41, l_42, l_43, l_44, l_45, l_46, l_47, l_48, l_49, l_50, l_51, l_52, l_53, l_54, l_55, l_56, l_57, l_59, l_60, l_61, l_62, l_63, l_64, l_65, l_80, l_86, l_87, l_88, l_89, l_90, l_91, l_92, l_93, l_94, l_95, l_97, l_99, l_100, l_107, l_119, l_122, l_124, l_129, l_140, l_141, l_142, l_143, l_144, l_145, l_147, l_150, l_159, l_160, l_161, l_162, l_205, l_253, l_255, l_256, l_269, l_305, l_380, l_399, l_400, l_420, l_430, l_516, l_600, l_720, l_820, l_905, l_921, l_937, l_953, l_970, l_999, l_1000, l_1790, l_4096, l_9999, l_1000000]
      · refine ⟨W 3, σ3, σ6, ?_, ?_, mu, me, hS⟩
        · unfold f_X11_goes
          rw [c_isWithin, z_call, l_1, l_60, hw, if_neg (by decide), c_isWithin, z_call, l_0, l_3, hy, if_neg (by decide), r_0_4, r_0_0, r_1_0, a2, z_callv]
          refine Eq.trans f3 ?_
          simp (disch := omega) only [d7, b2, ↓reduceIte, ↓p_ld, ↓p_st, ↓p_nm, ↓p_nS, ↓p_jn, ↓p_call, ↓p_callv, ↓p_dv, ↓p_rem, h_ldE, h_stE, h_nmE, h_nSE, h_callE, h_callvE, h_dvE, h_remE, if_true, if_false, z_upS, z_upO, z_upK, nI_add, z_mul, z_sub, z_div, Nat.add_zero, Nat.mul_zero, Nat.zero_add, Nat.sub_zero, Nat.zero_mul, z_ltT, z_ltF, z_leT, z_leF, z_eqT, z_eqF, z_inT, z_clT, not_true_eq_false, not_false_eq_true, eq_self, true_or, or_true, z_m_lt, z_m_le, z_lt_m, z_le_m, z_eq_m, z_m_eq, z_rz0, z_rz1, z_m_add, z_of, r_0_0, r_0_1, r_0_3, r_0_4, r_0_5, r_0_6, r_0_7, r_0_8, r_0_9, r_0_10, r_1_0, r_1_1, r_1_2, r_1_3, r_1_4, r_1_5, r_1_6, r_1_7, r_1_8, r_2_0, r_2_1, r_2_2, r_2_3, r_2_4, r_2_5, r_2_6, r_2_7, r_11_0, r_11_1, r_11_2, r_11_3, r_11_4, r_11_5, r_11_6, r_19_0, r_21_0, r_23_0, r_25_0, r_27_0, r_61_0, r_117_0, r_117_1, r_117_2, r_117_3, r_117_4, r_117_5, r_117_6, r_117_7, r_126_0, r_126_1, r_126_2, r_126_3, r_126_4, r_132_0, r_132_1, r_135_0, r_135_1, r_135_2, r_135_3, r_135_4, r_135_5, r_142_0, r_144_0, r_144_1, r_144_2, r_145_0, r_145_1, r_145_2, r_145_3, r_145_4, r_145_5, r_145_6, r_154_0, r_154_1, r_155_0, ↓z_m1, l_0, l_1, l_2, l_3, l_4, l_5, l_6, l_7, l_8, l_9, l_10, l_11, l_12, l_13, l_14, l_15, l_16, l_17, l_18, l_19, l_20, l_21, l_22, l_23, l_24, l_25, l_26, l_27, l_28, l_29, l_30, l_31, l_32, l_33, l_34, l_35, l_36, l_37, l_38, l_39, l_40, l_41, l_42, l_43, l_44, l_45, l_46, l_47, l_48, l_49, l_50, l_51, l_52, l_53, l_54, l_55, l_56, l_57, l_59, l_60, l_61, l_62, l_63, l_64, l_65, l_80, l_86, l_87, l_88, l_89, l_90, l_91, l_92, l_93, l_94, l_95, l_97, l_99, l_100, l_107, l_119, l_122, l_124, l_129, l_140, l_141, l_142, l_143, l_144, l_145, l_147, l_150, l_159, l_160, l_161, l_162, l_205, l_253, l_255, l_256, l_269, l_305, l_380, l_399, l_400, l_420, l_430, l_516, l_600, l_720, l_820, l_905, l_921, l_937, l_953, l_970, l_999, l_1000, l_1790, l_4096, l_9999, l_1000000]
        · unfold f_X12_goes
          rw [m_isIn, z_call, l_1, l_60, hw, if_neg (by decide), m_isIn, z_call, l_0, l_3, hy, if_neg (by decide), m5, z_callv]
          refine Eq.trans g3 ?_
          simp (disch := omega) only [g2, q3, ↓reduceIte, ↓p_ld, ↓p_st, ↓p_nm, ↓p_nS, ↓p_jn, ↓p_call, ↓p_callv, ↓p_dv, ↓p_rem, h_ldE, h_stE, h_nmE, h_nSE, h_callE, h_callvE, h_dvE, h_remE, if_true, if_false, z_upS, z_upO, z_upK, nI_add, z_mul, z_sub, z_div, Nat.add_zero, Nat.mul_zero, Nat.zero_add, Nat.sub_zero, Nat.zero_mul, z_ltT, z_ltF, z_leT, z_leF, z_eqT, z_eqF, z_inT, z_clT, not_true_eq_false, not_false_eq_true, eq_self, true_or, or_true, z_m_lt, z_m_le, z_lt_m, z_le_m, z_eq_m, z_m_eq, z_rz0, z_rz1, z_m_add, z_of, r_157_0, r_157_1, r_157_2, r_157_3, r_157_6, r_157_7, r_157_8, r_157_9, r_157_10, r_157_11, r_157_27, r_157_28, r_157_29, r_157_30, ↓z_m1, l_0, l_1, l_2, l_3, l_4, l_5, l_6, l_7, l_8, l_9, l_10, l_11, l_12, l_13, l_14, l_15, l_16, l_17, l_18, l_19, l_20, l_21, l_22, l_23, l_24, l_25, l_26, l_27, l_28, l_29, l_30, l_31, l_32, l_33, l_34, l_35, l_36, l_37, l_38, l_39, l_40, l_41, l_42, l_43, l_44, l_45, l_46, l_47, l_48, l_49, l_50, l_51, l_52, l_53, l_54, l_55, l_56, l_57, l_59, l_60, l_61, l_62, l_63, l_64, l_65, l_80, l_86, l_87, l_88, l_89, l_90, l_91, l_92, l_93, l_94, l_95, l_97, l_99, l_100, l_107, l_119, l_122, l_124, l_129, l_140, l_141, l_142, l_143, l_144, l_145, l_147, l_150, l_159, l_160, l_161, l_162, l_205, l_253, l_255, l_256, l_269, l_305, l_380, l_399, l_400, l_420, l_430, l_516, l_600, l_720, l_820, l_905, l_921, l_937, l_953, l_970, l_999, l_1000, l_1790, l_4096, l_9999, l_1000000]
    · exact hno (Or.inr hy)
  · exact hno (Or.inl hw)
