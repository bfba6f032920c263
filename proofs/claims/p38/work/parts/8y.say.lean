/-! a text said, whole -/
theorem x_fr.uc {own : Nat → Prop} {a b : x_U} {σ : q_Sto} (h : x_fr own a b) : x_fr own (x_uc a σ) (x_uc b σ) := ⟨rfl, h.2.1, h.2.2.1, h.2.2.2.1, h.2.2.2.2⟩
theorem y_pv4 {m : List Nat} {a : Nat} (h : ∀ j, j < m.length → m.getD j 0 < 128) {c : Nat} (hc : c < 4) : z_by (nI (y_pv m a 4)) c = nI (y_ch m (a + c)) := by
  have b0 := y_ch_lt h (a + 0)
  have b1 := y_ch_lt h (a + 1)
  have b2 := y_ch_lt h (a + 2)
  have b3 := y_ch_lt h (a + 3)
  have e : y_pv m a 4 = 256 * (256 * (256 * (256 * 0 + y_ch m (a + 0)) + y_ch m (a + 1)) + y_ch m (a + 2)) + y_ch m (a + 3) := rfl
  rw [z_byN (by omega) hc, e]
  congr 1
  have : c = 0 ∨ c = 1 ∨ c = 2 ∨ c = 3 := by omega
  rcases this with rfl | rfl | rfl | rfl
  · show _ / 16777216 % 256 = _
    omega
  · show _ / 65536 % 256 = _
    omega
  · show _ / 256 % 256 = _
    omega
  · show _ / 1 % 256 = _
    omega
theorem y_w520 {m : List Nat} {a k : Nat} (hk : k < 5) : y_w5 m a 20 k = y_pv m (a + 4 * k) 4 := by
  unfold y_w5
  rw [if_neg (by omega), show min (20 - 4 * k) 4 = 4 by omega]
section SAY
variable {n : Nat} {u : x_U} {s sv : Nat} {m : List Nat}
theorem S_L2 (hn : n = q_F) (g : y_ST u s sv m) (hm : m.length ≤ 380) (hb : x_n u + 25 ≤ 500000) : ∀ j i w, i ≤ 19 → 20 < j + i → (i = 0 ∨ 20 * (i - 1) < m.length) → x_fr (fun _ => False) (x_uc u (x_c w)) w → x_n w = x_n u + i → x_m w = x_m u + 5 * i → (∀ o, o ≠ 142 → o ≠ 143 → x_c w o = x_c u o) → x_c w 142 1 = nI (20*i) → (∀ t, t < 20*i → x_c w 143 t = nI (y_ch m t)) →
    ∃ w' i', i' ≤ 19 ∧ m.length ≤ 20 * i' ∧ (i' = 0 ∨ 20 * (i' - 1) < m.length) ∧ x_fr (fun _ => False) (x_uc u (x_c w')) w' ∧ x_n w' = x_n u + i' ∧ x_m w' = x_m u + 5 * i' ∧ (∀ o, o ≠ 142 → o ≠ 143 → x_c w' o = x_c u o) ∧ x_c w' 142 1 = nI (20*i') ∧ (∀ t, t < 20*i' → x_c w' 143 t = nI (y_ch m t)) ∧ ∀ K : x_U → Option (Int32 × x_U), F_L_say_L2 n s K j (nI (20*i)) w = K w' := by
  have h128 := g.2.2.2.1
  intro j
  induction j with
  | zero => intro i w h1 h2; omega
  | succ j ih =>
    intro i w h1 h2 hi0 hf hn' hm' hc1 hc2 hc3
    have gw : y_ST w s sv m := by
      have g0 : y_ST (x_uc u (x_c w)) s sv m := g
      exact g0.fr hf (fun h => h) (fun h => h)
    have hks := gw.1.1
    have eL := S_len (n := n) gw
    by_cases c : m.length ≤ 20 * i
    · refine ⟨w, i, h1, c, hi0, hf, hn', hm', hc1, hc2, hc3, fun K => ?_⟩
      rw [F_L_say_L2, p_xo, h_xoE hks, eL, z_xcall, if_neg (by rw [nI_ltI (by omega) (by omega)]; omega)]
    · have hi19 : i < 19 := by omega
      have hsq : s ≠ x_n w := by have := gw.2.2.2.2.1; omega
      have hsvq : sv ≠ x_n w := by have := gw.2.2.2.2.2; omega
      obtain ⟨W, hW⟩ : ∃ W, W = x_un w (.inr (5, 0)) 5 (fun _ => nI 0) := ⟨_, rfl⟩
      have fW : x_fr (fun _ => False) w W := by rw [hW]; exact x_fr.un (by omega)
      have nW : x_n W = x_n w + 1 := by rw [hW]; simp (disch := omega) only [xs_k_ui, xs_k_ur, xs_k_uc, xs_k_un, xs_k_ub, xs_r_ui, xs_r_ur, xs_r_uc, xs_r_un, xs_r_ub, xs_t_ui, xs_t_ur, xs_t_uc, xs_t_un, xs_t_ub, xs_n_ui, xs_n_ur, xs_n_uc, xs_n_un, xs_n_ub, xs_m_ui, xs_m_ur, xs_m_uc, xs_m_un, xs_m_ub, xs_c_ui, xs_c_ur, xs_c_uc, xs_c_un, xs_c_ub, x_up_s, x_up_k, x_up_o, x_fU_s, x_fU_o]
      have mW : x_m W = x_m w + 5 := by rw [hW]; simp (disch := omega) only [xs_k_ui, xs_k_ur, xs_k_uc, xs_k_un, xs_k_ub, xs_r_ui, xs_r_ur, xs_r_uc, xs_r_un, xs_r_ub, xs_t_ui, xs_t_ur, xs_t_uc, xs_t_un, xs_t_ub, xs_n_ui, xs_n_ur, xs_n_uc, xs_n_un, xs_n_ub, xs_m_ui, xs_m_ur, xs_m_uc, xs_m_un, xs_m_ub, xs_c_ui, xs_c_ur, xs_c_uc, xs_c_un, xs_c_ub, x_up_s, x_up_k, x_up_o, x_fU_s, x_fU_o]
      have kWq : x_k W (x_n w) = .inr (5, 0) := by rw [hW]; simp (disch := omega) only [xs_k_ui, xs_k_ur, xs_k_uc, xs_k_un, xs_k_ub, xs_r_ui, xs_r_ur, xs_r_uc, xs_r_un, xs_r_ub, xs_t_ui, xs_t_ur, xs_t_uc, xs_t_un, xs_t_ub, xs_n_ui, xs_n_ur, xs_n_uc, xs_n_un, xs_n_ub, xs_m_ui, xs_m_ur, xs_m_uc, xs_m_un, xs_m_ub, xs_c_ui, xs_c_ur, xs_c_uc, xs_c_un, xs_c_ub, x_up_s, x_up_k, x_up_o, x_fU_s, x_fU_o]
      have tWq : ∀ k, k < 5 → x_t W (x_n w) k = nI (y_w5 m (20*i) 0 k) := fun k hk => by
        rw [hW]
        show x_fU (x_t w) (x_n w) _ (x_n w) k = _
        rw [x_fU_s]
        unfold y_w5
        rw [if_pos (Nat.zero_le _)]
      have gW := gw.fr fW (fun h => h) (fun h => h)
      obtain ⟨w2, f1, f2, f3, f4, f5, f6, f7⟩ := S_L17 (n := n) (q := x_n w) gW (by omega) (20*i) (by omega) hsq hsvq (by omega) n 0 W (by omega) (by rw [hn]; unfold q_F; omega) x_fr.rf rfl rfl rfl kWq tWq
      have cw2 : x_c w2 = x_c w := by rw [f1.1, fW.1]
      obtain ⟨σ', a1, a2, a3, a4, a5⟩ := c_feed (l := 20*i) (w0 := nI (y_w5 m (20*i) 20 0)) (w1 := nI (y_w5 m (20*i) 20 1)) (w2 := nI (y_w5 m (20*i) 20 2)) (w3 := nI (y_w5 m (20*i) 20 3)) (w4 := nI (y_w5 m (20*i) 20 4)) (σ := x_c w) (by omega) hc2
      have hfw : x_fr (fun _ => False) w w2 := (x_fr.tr (fW.mono (own' := fun z => z = x_n w) (fun i hi => hi.elim)) f1).sub (fun z hz hq => by
        have hq : z = x_n w := hq
        omega)
      obtain ⟨w', i', g1, g2, g3, g4, g5, g6, g7, g8, g9, g10⟩ := ih (i+1) (x_uc w2 σ') (by omega) (by omega) (Or.inr (by rw [Nat.add_sub_cancel]; omega)) (by
        have := (hf.uc (σ := σ')).tr (hfw.uc (σ := σ'))
        exact this) (show x_n w2 = x_n u + (i+1) by omega) (show x_m w2 = x_m u + 5 * (i+1) by omega) (fun o o1 o2 => (a1 o o1 o2).trans (hc1 o o1 o2)) (by
        show σ' 142 1 = _
        rw [a2]; congr 1) (fun t ht => by
        show σ' 143 t = _
        by_cases q : t < 20 * i
        · rw [a4 t q]; exact hc3 t q
        · obtain ⟨k, k1, cc, k2, k3⟩ : ∃ k, k < 5 ∧ ∃ c, c < 4 ∧ t = 20 * i + 4 * k + c := ⟨(t - 20 * i) / 4, by omega, (t - 20 * i) % 4, by omega, by omega⟩
          subst k3
          obtain ⟨z0, z1, z2, z3, z4⟩ := a3 cc k2
          have hk : k = 0 ∨ k = 1 ∨ k = 2 ∨ k = 3 ∨ k = 4 := by omega
          rcases hk with rfl | rfl | rfl | rfl | rfl
          · rw [show 20 * i + 4 * 0 + cc = 20 * i + cc by omega, z0, y_w520 (by omega), y_pv4 h128 k2]
            exact congrArg (fun z => nI (y_ch m z)) (by omega)
          · rw [show 20 * i + 4 * 1 + cc = 20 * i + 4 + cc by omega, z1, y_w520 (by omega), y_pv4 h128 k2]
          · rw [show 20 * i + 4 * 2 + cc = 20 * i + 8 + cc by omega, z2, y_w520 (by omega), y_pv4 h128 k2]
          · rw [show 20 * i + 4 * 3 + cc = 20 * i + 12 + cc by omega, z3, y_w520 (by omega), y_pv4 h128 k2]
          · rw [show 20 * i + 4 * 4 + cc = 20 * i + 16 + cc by omega, z4, y_w520 (by omega), y_pv4 h128 k2])
      refine ⟨w', i', g1, g2, g3, g4, g5, g6, g7, g8, g9, fun K => ?_⟩
      have a5 := a5
      rw [← hn, ← cw2] at a5
      rw [← g10 K, F_L_say_L2]
      have e20 : nI (20 * i) + nI 20 = nI (20 * (i+1)) := by rw [nI_add]; congr 1
      have ez : (fun (_ : Nat) => (0 : Int32)) = (fun _ => nI 0) := rfl
      have t60 := f6 0 (by omega)
      have t61 := f6 1 (by omega)
      have t62 := f6 2 (by omega)
      have t63 := f6 3 (by omega)
      have t64 := f6 4 (by omega)
      rw [p_xo, h_xoE hks, eL, z_xcall, if_pos ((nI_ltI (by omega) (by omega)).mpr (by omega)), show (5 : Int32) = nI 5 from rfl, p_xnwa, h_xnwaE (by omega) (by omega), ez, ← hW, show (0 : Int32) = nI 0 from rfl, f7]
      simp (disch := first | omega | ((try simp (disch := omega) only [f5, t60, t61, t62, t63, t64, a5, e20, xs_k_ui, xs_k_ur, xs_k_uc, xs_k_un, xs_k_ub, xs_r_ui, xs_r_ur, xs_r_uc, xs_r_un, xs_r_ub, xs_t_ui, xs_t_ur, xs_t_uc, xs_t_un, xs_t_ub, xs_n_ui, xs_n_ur, xs_n_uc, xs_n_un, xs_n_ub, xs_m_ui, xs_m_ur, xs_m_uc, xs_m_un, xs_m_ub, xs_c_ui, xs_c_ur, xs_c_uc, xs_c_un, xs_c_ub, x_up_s, x_up_k, x_up_o, x_fU_s, x_fU_o]) <;> first | rfl | omega | (refine (?_ : (_ : Bool) = true); with_unfolding_all rfl)) | fail) only [f5, t60, t61, t62, t63, t64, a5, e20, ↓p_xgi, ↓p_xgr, ↓p_xpi, ↓p_xpr, ↓p_xo, ↓p_xld, ↓p_xlb, ↓p_xlr, ↓p_xst, ↓p_xsb, ↓p_xsr, ↓p_xlen, ↓p_xnew, ↓p_xnwa, ↓p_xcln, ↓p_xcst, ↓p_xcall, ↓p_xcalc, ↓p_xnm, ↓p_xdv, ↓p_xrem, h_xgiE, h_xgrE, h_xpiE, h_xprE, h_xoE, h_xldE, h_xlbE, h_xlrE, h_xstE, h_xsbE, h_xsrE, h_xlenE, h_xnewE, h_xnwaE, h_xclnE, h_xcstE, h_xcallE, h_xcalcE, h_xnmE, h_xdvE, h_xremE, xs_k_ui, xs_k_ur, xs_k_uc, xs_k_un, xs_k_ub, xs_r_ui, xs_r_ur, xs_r_uc, xs_r_un, xs_r_ub, xs_t_ui, xs_t_ur, xs_t_uc, xs_t_un, xs_t_ub, xs_n_ui, xs_n_ur, xs_n_uc, xs_n_un, xs_n_ub, xs_m_ui, xs_m_ur, xs_m_uc, xs_m_un, xs_m_ub, xs_c_ui, xs_c_ur, xs_c_uc, xs_c_un, xs_c_ub, x_up_s, x_up_k, x_up_o, x_fU_s, x_fU_o, ↓reduceIte, h_ldE, h_stE, h_nmE, h_nSE, h_callE, h_callvE, h_dvE, h_remE, if_true, if_false, z_upS, z_upO, z_upK, nI_add, z_mul, z_sub, z_div, Nat.add_zero, Nat.mul_zero, Nat.zero_add, Nat.sub_zero, Nat.zero_mul, z_ltT, z_ltF, z_leT, z_leF, z_eqT, z_eqF, z_inT, z_clT, not_true_eq_false, not_false_eq_true, eq_self, true_or, or_true, z_m_lt, z_m_le, z_lt_m, z_le_m, z_eq_m, z_m_eq, z_rz0, z_rz1, z_m_add, z_of, ↓z_m1, l_0, l_1, l_2, l_3, l_4, l_5, l_6, l_7, l_8, l_9, l_10, l_11, l_12, l_13, l_14, l_15, l_16, l_17, l_18, l_19, l_20, l_21, l_22, l_23, l_24, l_25, l_26, l_27, l_28, l_29, l_30, l_31, l_32, l_33, l_34, l_35, l_36, l_37, l_38, l_39, l_40, l_41, l_42, l_43, l_44, l_45, l_46, l_47, l_48, l_49, l_50, l_51, l_52, l_53, l_54, l_55, l_56, l_57, l_59, l_60, l_61, l_62, l_63, l_64, l_65, l_80, l_86, l_87, l_88, l_89, l_90, l_91, l_92, l_93, l_94, l_95, l_97, l_99, l_100, l_107, l_119, l_122, l_124, l_129, l_140, l_141, l_142, l_143, l_144, l_145, l_147, l_150, l_159, l_160, l_161, l_162, l_205, l_253, l_255, l_256, l_269, l_305, l_380, l_399, l_400, l_420, l_430, l_516, l_600, l_720, l_820, l_905, l_921, l_937, l_953, l_970, l_999, l_1000, l_1790, l_4096, l_9999, l_1000000]
theorem F_say (hn : n = q_F) (g : y_ST u s sv m) (hm : m.length ≤ 380) (h0 : x_c u 142 1 = nI 0) (hb : x_n u + 25 ≤ 500000) : ∃ u', x_fr (fun _ => False) (x_uc u (x_c u')) u' ∧ x_n u' ≤ x_n u + 20 ∧ x_m u' ≤ x_m u + 100 ∧ (∀ o, o ≠ 142 → o ≠ 143 → x_c u' o = x_c u o) ∧ x_c u' 142 1 = nI m.length ∧ (∀ t, t < m.length → x_c u' 143 t = nI (m.getD t 0)) ∧ F_L_say n s u = some (nI 0, u') := by
  have h128 := g.2.2.2.1
  obtain ⟨w, i, g1, g2, g3, g4, g5, g6, g7, g8, g9, g10⟩ := S_L2 hn g hm hb n 0 u (by omega) (by rw [hn]; unfold q_F; omega) (Or.inl rfl) x_fr.rf rfl rfl (fun o _ _ => rfl) h0 (fun t ht => by omega)
  have gw : y_ST w s sv m := by
    have g0 : y_ST (x_uc u (x_c w)) s sv m := g
    exact g0.fr g4 (fun h => h) (fun h => h)
  have hks := gw.1.1
  have eL := S_len (n := n) gw
  by_cases c : m.length = 0
  · have hi0 : i = 0 := by omega
    subst hi0
    refine ⟨w, g4, by omega, by omega, g7, by rw [g8, c], fun t ht => by omega, ?_⟩
    unfold F_L_say
    rw [show (0 : Int32) = nI (20 * 0) from rfl, g10, p_xo, h_xoE hks, eL, z_xcall, if_pos (by rw [c]; decide)]
  · have eE := c_end (k := m.length) (σ := x_c w) g8 g2 (by omega)
    rw [← hn] at eE
    refine ⟨x_uc w (q_up (x_c w) 142 1 (nI m.length)), g4.uc (σ := q_up (x_c w) 142 1 (nI m.length)), by show x_n w ≤ _; omega, by show x_m w ≤ _; omega, fun o o1 o2 => (z_upO o1).trans (g7 o o1 o2), (show q_up (x_c w) 142 1 (nI m.length) 142 1 = nI m.length from z_upS), fun t ht => ?_, ?_⟩
    · show q_up (x_c w) 142 1 (nI m.length) 143 t = _
      rw [z_upO (by omega), g9 t (by omega)]
      unfold y_ch
      rw [if_pos ht]
    · unfold F_L_say
      rw [show (0 : Int32) = nI (20 * 0) from rfl, g10, p_xo, h_xoE hks, eL, z_xcall, if_neg (by rw [show nI (20 * 0) = nI 0 from rfl, nI_leI (by omega) (by omega)]; omega), p_xo, h_xoE hks, eL, z_xcall, eE]
      rfl
end SAY
