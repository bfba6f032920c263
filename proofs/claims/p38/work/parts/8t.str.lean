/-! what is appended -/
def y_WC (L : Nat) (xs : Nat → Int32) (u : x_U) : Prop := ((x_k u x_CT = .inr (100, 7) ∧ x_t u x_CT = q_d0) ∧ (x_k u (x_CT+1) = .inr (100, 7) ∧ x_t u (x_CT+1) = q_d1) ∧ x_k u (x_CT+2) = .inr (L, 6) ∧ x_t u (x_CT+2) = xs) ∧
  ∀ i, i < q_nS → x_k u (x_CB+i) = .inl 13 ∧ x_r u (x_CB+i) 0 = x_CV+i ∧ x_t u (x_CB+i) 1 = nI 0 ∧ x_k u (x_CV+i) = .inr ((q_tx i).length, 7) ∧ ∀ j, x_t u (x_CV+i) j = (q_tx i).getD j 0
theorem y_WC.hi {L : Nat} {xs : Nat → Int32} {u u' : x_U} (h : y_WC L xs u) (e : ∀ i, 500000 < i → x_k u' i = x_k u i ∧ x_r u' i = x_r u i ∧ x_t u' i = x_t u i) : y_WC L xs u' := by
  have c1 : x_CB = 1000000000 := rfl
  have c2 : x_CV = 1000001000 := rfl
  have c3 : x_CT = 1000002000 := rfl
  obtain ⟨⟨⟨h1, h2⟩, ⟨h3, h4⟩, h5, h6⟩, h7⟩ := h
  obtain ⟨a1, a2, a3⟩ := e x_CT (by omega)
  obtain ⟨b1, b2, b3⟩ := e (x_CT+1) (by omega)
  obtain ⟨d1, d2, d3⟩ := e (x_CT+2) (by omega)
  refine ⟨⟨⟨a1.trans h1, a3.trans h2⟩, ⟨b1.trans h3, b3.trans h4⟩, d1.trans h5, d3.trans h6⟩, fun i hi => ?_⟩
  obtain ⟨e1, e2, e3⟩ := e (x_CB+i) (by omega)
  obtain ⟨f1, f2, f3⟩ := e (x_CV+i) (by omega)
  rw [e1, e2, e3, f1, f3]
  exact h7 i hi
theorem y_WC.go {L dn dm : Nat} {xs : Nat → Int32} {u u' : x_U} (h : y_WC L xs u) (g : y_go dn dm u u') : y_WC L xs u' := h.hi g.1
theorem y_WC.fr {L : Nat} {xs : Nat → Int32} {own : Nat → Prop} {u u' : x_U} (h : y_WC L xs u) (f : x_fr own u u') (ho : ∀ i, own i → i ≤ 500000) : y_WC L xs u' := h.hi (fun i hi => by
  have := f.2.2.2.2 i (Or.inr hi) (fun q => by have := ho i q; omega)
  exact ⟨f.2.2.2.1 i (Or.inr hi), this.1, this.2⟩)
theorem y_gApp (l m : List Nat) (j : Nat) : (l ++ m).getD j 0 = if j < l.length then l.getD j 0 else m.getD (j - l.length) 0 := by
  simp only [List.getD_eq_getElem?_getD]
  by_cases q : j < l.length
  · rw [if_pos q, List.getElem?_append_left q]
  · rw [if_neg q, List.getElem?_append_right (by omega)]
section STR
variable {n : Nat} {u : x_U} {o v cap s sv : Nat} {l m : List Nat}
theorem S_put (h1 : x_k u o = .inl 14) (h2 : x_r u o 0 = v) (h3 : x_t u o 1 = nI 0) (h5 : x_k u v = .inr (cap, 2)) (hc : cap < 100000) (g : y_ST u s sv m) (hl : l.length + m.length ≤ cap) : F_J5_putStringAt_47b60 n o (nI l.length) s u = some (nI 0, x_ub u v (x_cpy (x_t u sv) (x_t u v) 0 l.length m.length)) := by
  have ec := S_cod (n := n) g
  obtain ⟨⟨g1, g2, g3, g4⟩, ⟨t, ht, g5⟩, g6, g7, -⟩ := g
  have e0 : (0 : Int32) = nI 0 := rfl
  have eB : F_J0_getBytes_840e7 n s v (nI l.length) (nI 0) u = some (nI 0, x_ub u v (x_cpy (x_t u sv) (x_t u v) 0 l.length m.length)) := by
    unfold F_J0_getBytes_840e7
    rw [p_xo, h_xoE g1, ec, z_xcall, if_pos rfl, p_xgr, h_xgrE g1, p_xgr, h_xgrE g1, g2, p_xlen, h_xlenE g5 (by omega), show (31 : Int32) = nI 31 from rfl, x_sl0, e0, z_xcp g5 ht h5 (by omega) (by omega) (by omega) (y_bok (fun j hj => ⟨m.getD j 0, g7 j hj, by rw [Nat.zero_add]; exact g6 j hj⟩))]
  have eI : F_J5_inflateIfNeededFor_a7421 n o s u = some (nI 0, u) := by
    unfold F_J5_inflateIfNeededFor_a7421
    rw [if_neg (by decide), p_xgi, h_xgiE h1, h3, p_xo, h_xoE g1, ec, z_xcall, if_pos rfl]
    rfl
  unfold F_J5_putStringAt_47b60
  rw [p_xo, h_xoE h1, eI, z_xcall, p_xgr, h_xgrE h1, h2, p_xgi, h_xgiE h1, h3, p_xo, h_xoE g1, eB, z_xcall]
  rfl
theorem S_app (h : y_SB u o v cap l) (g : y_ST u s sv m) (hm : l.length + m.length ≤ 2000) (hb : x_n u + 1 ≤ 500000) (hsv : sv ≠ v) : ∃ u' v' cap', x_fr (fun i => i = o ∨ i = v) u u' ∧ x_n u' ≤ x_n u + 1 ∧ x_m u' ≤ x_m u + 2 * (l.length + m.length) + 2 ∧ y_SB u' o v' cap' (l ++ m) ∧ (v' = v ∨ v' = x_n u) ∧ F_J4_append_15ec4 n o s u = some (o, u') := by
  have hSB := h
  obtain ⟨⟨h1, h2, h3, h4⟩, ⟨h5, h6, h7⟩, h8, h9, h10, h11, h12, h13, h14, h15⟩ := h
  have eLen := S_len (n := n) g
  obtain ⟨⟨g1, g2, g3, g4⟩, ⟨t, ht, g5⟩, -, -, g8, g9⟩ := id g
  have hso : s ≠ o := fun q => by rw [q, h1] at g1; cases g1
  have hsvo : sv ≠ o := fun q => by rw [q, h1] at g5; cases g5
  obtain ⟨u1, v', cap', f1, f2, f3, f4, f5, f6, f7, ⟨f8, f9, f10⟩, f11, f12, f13, f14, f15, f16, f17⟩ := S_ens (n := n) (need := l.length + m.length) hSB (by omega) hm hb (by omega)
  have gg : y_ST u1 s sv m := g.fr f1 hso hsvo
  have hv' : v' ≠ sv := by
    rcases f7 with q | q
    · rw [q]; exact Ne.symm hsv
    · omega
  have hcap : cap' < 100000 := by
    have := f6 (l ++ m) (by simp)
    simp at this
    omega
  have eP := S_put (n := n) (l := l) f8 f9 (by rw [f10]; exact h3) f11 hcap gg (by omega)
  obtain ⟨U, hU⟩ : ∃ U, U = x_ui (x_ub u1 v' (x_cpy (x_t u1 sv) (x_t u1 v') 0 l.length m.length)) o 3 (nI (l.length + m.length)) := ⟨_, rfl⟩
  have nU : x_n U = x_n u1 := by rw [hU]; simp (disch := omega) only [xs_k_ui, xs_k_ur, xs_k_uc, xs_k_un, xs_k_ub, xs_r_ui, xs_r_ur, xs_r_uc, xs_r_un, xs_r_ub, xs_t_ui, xs_t_ur, xs_t_uc, xs_t_un, xs_t_ub, xs_n_ui, xs_n_ur, xs_n_uc, xs_n_un, xs_n_ub, xs_m_ui, xs_m_ur, xs_m_uc, xs_m_un, xs_m_ub, xs_c_ui, xs_c_ur, xs_c_uc, xs_c_un, xs_c_ub, x_up_s, x_up_k, x_up_o, x_fU_s, x_fU_o]
  have mU : x_m U = x_m u1 := by rw [hU]; simp (disch := omega) only [xs_k_ui, xs_k_ur, xs_k_uc, xs_k_un, xs_k_ub, xs_r_ui, xs_r_ur, xs_r_uc, xs_r_un, xs_r_ub, xs_t_ui, xs_t_ur, xs_t_uc, xs_t_un, xs_t_ub, xs_n_ui, xs_n_ur, xs_n_uc, xs_n_un, xs_n_ub, xs_m_ui, xs_m_ur, xs_m_uc, xs_m_un, xs_m_ub, xs_c_ui, xs_c_ur, xs_c_uc, xs_c_un, xs_c_ub, x_up_s, x_up_k, x_up_o, x_fU_s, x_fU_o]
  have kU : x_k U = x_k u1 := by rw [hU]; simp (disch := omega) only [xs_k_ui, xs_k_ur, xs_k_uc, xs_k_un, xs_k_ub, xs_r_ui, xs_r_ur, xs_r_uc, xs_r_un, xs_r_ub, xs_t_ui, xs_t_ur, xs_t_uc, xs_t_un, xs_t_ub, xs_n_ui, xs_n_ur, xs_n_uc, xs_n_un, xs_n_ub, xs_m_ui, xs_m_ur, xs_m_uc, xs_m_un, xs_m_ub, xs_c_ui, xs_c_ur, xs_c_uc, xs_c_un, xs_c_ub, x_up_s, x_up_k, x_up_o, x_fU_s, x_fU_o]
  have rU : x_r U = x_r u1 := by rw [hU]; simp (disch := omega) only [xs_k_ui, xs_k_ur, xs_k_uc, xs_k_un, xs_k_ub, xs_r_ui, xs_r_ur, xs_r_uc, xs_r_un, xs_r_ub, xs_t_ui, xs_t_ur, xs_t_uc, xs_t_un, xs_t_ub, xs_n_ui, xs_n_ur, xs_n_uc, xs_n_un, xs_n_ub, xs_m_ui, xs_m_ur, xs_m_uc, xs_m_un, xs_m_ub, xs_c_ui, xs_c_ur, xs_c_uc, xs_c_un, xs_c_ub, x_up_s, x_up_k, x_up_o, x_fU_s, x_fU_o]
  have cU : x_c U = x_c u1 := by rw [hU]; simp (disch := omega) only [xs_k_ui, xs_k_ur, xs_k_uc, xs_k_un, xs_k_ub, xs_r_ui, xs_r_ur, xs_r_uc, xs_r_un, xs_r_ub, xs_t_ui, xs_t_ur, xs_t_uc, xs_t_un, xs_t_ub, xs_n_ui, xs_n_ur, xs_n_uc, xs_n_un, xs_n_ub, xs_m_ui, xs_m_ur, xs_m_uc, xs_m_un, xs_m_ub, xs_c_ui, xs_c_ur, xs_c_uc, xs_c_un, xs_c_ub, x_up_s, x_up_k, x_up_o, x_fU_s, x_fU_o]
  have tv : x_t U v' = x_cpy (x_t u1 sv) (x_t u1 v') 0 l.length m.length := by rw [hU]; simp (disch := omega) only [xs_k_ui, xs_k_ur, xs_k_uc, xs_k_un, xs_k_ub, xs_r_ui, xs_r_ur, xs_r_uc, xs_r_un, xs_r_ub, xs_t_ui, xs_t_ur, xs_t_uc, xs_t_un, xs_t_ub, xs_n_ui, xs_n_ur, xs_n_uc, xs_n_un, xs_n_ub, xs_m_ui, xs_m_ur, xs_m_uc, xs_m_un, xs_m_ub, xs_c_ui, xs_c_ur, xs_c_uc, xs_c_un, xs_c_ub, x_up_s, x_up_k, x_up_o, x_fU_s, x_fU_o]
  have tO : ∀ i, i ≠ o → i ≠ v' → x_t U i = x_t u1 i := fun i i1 i2 => by rw [hU]; simp (disch := omega) only [xs_k_ui, xs_k_ur, xs_k_uc, xs_k_un, xs_k_ub, xs_r_ui, xs_r_ur, xs_r_uc, xs_r_un, xs_r_ub, xs_t_ui, xs_t_ur, xs_t_uc, xs_t_un, xs_t_ub, xs_n_ui, xs_n_ur, xs_n_uc, xs_n_un, xs_n_ub, xs_m_ui, xs_m_ur, xs_m_uc, xs_m_un, xs_m_ub, xs_c_ui, xs_c_ur, xs_c_uc, xs_c_un, xs_c_ub, x_up_s, x_up_k, x_up_o, x_fU_s, x_fU_o]
  have to3 : x_t U o 3 = nI (l.length + m.length) := by rw [hU]; simp (disch := omega) only [xs_k_ui, xs_k_ur, xs_k_uc, xs_k_un, xs_k_ub, xs_r_ui, xs_r_ur, xs_r_uc, xs_r_un, xs_r_ub, xs_t_ui, xs_t_ur, xs_t_uc, xs_t_un, xs_t_ub, xs_n_ui, xs_n_ur, xs_n_uc, xs_n_un, xs_n_ub, xs_m_ui, xs_m_ur, xs_m_uc, xs_m_un, xs_m_ub, xs_c_ui, xs_c_ur, xs_c_uc, xs_c_un, xs_c_ub, x_up_s, x_up_k, x_up_o, x_fU_s, x_fU_o]
  have to1 : x_t U o 1 = nI 0 := by rw [hU]; simp (disch := omega) only [xs_k_ui, xs_k_ur, xs_k_uc, xs_k_un, xs_k_ub, xs_r_ui, xs_r_ur, xs_r_uc, xs_r_un, xs_r_ub, xs_t_ui, xs_t_ur, xs_t_uc, xs_t_un, xs_t_ub, xs_n_ui, xs_n_ur, xs_n_uc, xs_n_un, xs_n_ub, xs_m_ui, xs_m_ur, xs_m_uc, xs_m_un, xs_m_ub, xs_c_ui, xs_c_ur, xs_c_uc, xs_c_un, xs_c_ub, x_up_s, x_up_k, x_up_o, x_fU_s, x_fU_o]; rw [f10]; exact h3
  have hlen : (l ++ m).length = l.length + m.length := List.length_append
  refine ⟨U, v', cap', ⟨by rw [cU, f1.1], by omega, by rw [mU]; exact f1.2.2.1, fun i hi => by rw [kU, f1.2.2.2.1 i hi], fun i hi ho => ?_⟩, by omega, by omega, ⟨⟨by rw [kU]; exact f8, by rw [rU]; exact f9, to1, by rw [hlen]; exact to3⟩, ⟨by rw [kU]; exact f11, by omega, f6 _ hlen⟩, fun j hj => ?_, fun j hj => ?_, h10, by omega, f15, by omega, f16, by omega⟩, f7, ?_⟩
  · have io : ¬ i = o := fun q => ho (Or.inl q)
    have iv : ¬ i = v := fun q => ho (Or.inr q)
    have iv' : i ≠ v' := by
      rcases f7 with q | q
      · rw [q]; exact iv
      · omega
    have := f1.2.2.2.2 i hi io
    exact ⟨by rw [rU]; exact this.1, by rw [tO i io iv']; exact this.2⟩
  · rw [tv, y_gApp]
    rw [hlen] at hj
    obtain ⟨-, -, k1, k2, -⟩ := gg
    unfold x_cpy
    by_cases q : j < l.length
    · rw [if_neg (by omega), if_pos q]; exact ⟨f12 j q, (h8 j q).2⟩
    · rw [if_pos (by omega), if_neg q, Nat.zero_add]; exact ⟨k1 _ (by omega), k2 _ (by omega)⟩
  · rw [tv]
    obtain ⟨-, -, k1, k2, -⟩ := gg
    unfold x_cpy
    by_cases q : l.length ≤ j ∧ j < l.length + m.length
    · rw [if_pos q, Nat.zero_add]
      exact ⟨_, k2 _ (by omega), k1 _ (by omega)⟩
    · rw [if_neg q]; exact f13 j hj
  · have ts0 : x_t u1 o 3 = nI l.length := by rw [f10]; exact h4
    have hko : x_k (x_ub u1 v' (x_cpy (x_t u1 sv) (x_t u1 v') 0 l.length m.length)) o = .inl 14 := by simp (disch := omega) only [xs_k_ui, xs_k_ur, xs_k_uc, xs_k_un, xs_k_ub, xs_r_ui, xs_r_ur, xs_r_uc, xs_r_un, xs_r_ub, xs_t_ui, xs_t_ur, xs_t_uc, xs_t_un, xs_t_ub, xs_n_ui, xs_n_ur, xs_n_uc, xs_n_un, xs_n_ub, xs_m_ui, xs_m_ur, xs_m_uc, xs_m_un, xs_m_ub, xs_c_ui, xs_c_ur, xs_c_uc, xs_c_un, xs_c_ub, x_up_s, x_up_k, x_up_o, x_fU_s, x_fU_o]; exact f8
    have hto : x_t (x_ub u1 v' (x_cpy (x_t u1 sv) (x_t u1 v') 0 l.length m.length)) o 3 = nI l.length := by simp (disch := omega) only [xs_k_ui, xs_k_ur, xs_k_uc, xs_k_un, xs_k_ub, xs_r_ui, xs_r_ur, xs_r_uc, xs_r_un, xs_r_ub, xs_t_ui, xs_t_ur, xs_t_uc, xs_t_un, xs_t_ub, xs_n_ui, xs_n_ur, xs_n_uc, xs_n_un, xs_n_ub, xs_m_ui, xs_m_ur, xs_m_uc, xs_m_un, xs_m_ub, xs_c_ui, xs_c_ur, xs_c_uc, xs_c_un, xs_c_ub, x_up_s, x_up_k, x_up_o, x_fU_s, x_fU_o]; exact ts0
    unfold F_J4_append_15ec4 F_J5_append_cf1ce
    rw [p_xo, h_xoE h1, if_neg g4, p_xo, h_xoE g1, eLen, z_xcall, p_xgi, h_xgiE h1, h4, p_xo, h_xoE h1, nI_add, f17, z_xcall, p_xgi, h_xgiE f8, ts0, p_xo, h_xoE f8, eP, z_xcall, p_xgi, h_xgiE hko, hto, p_xpi, h_xpiE hko (by omega), nI_add, z_xcall, hU]
/-- a number's digits, the JDK's way -/
theorem S_neg : (List.range 1000).all (fun a => decide ((-(nI a) ≤ (-10 : Int32)) ↔ 10 ≤ a) && (decide ((-(nI a) ≤ (-100 : Int32)) ↔ 100 ≤ a) && (decide (¬ (-(nI a) ≤ (-1000 : Int32))) && (decide (-(nI a) / nI 100 = -(nI (a / 100))) && (decide (-(nI (a / 100)) * nI 100 - -(nI a) = nI (a % 100)) && (decide (- -(nI a) = nI a) && (decide (-(nI a) < -nI 9 ↔ 9 < a))))))))= true := by decide +kernel
theorem S_ng {a : Nat} (h : a < 1000) : ((-(nI a) ≤ (-10 : Int32)) ↔ 10 ≤ a) ∧ ((-(nI a) ≤ (-100 : Int32)) ↔ 100 ≤ a) ∧ ¬ (-(nI a) ≤ (-1000 : Int32)) ∧ -(nI a) / nI 100 = -(nI (a / 100)) ∧ -(nI (a / 100)) * nI 100 - -(nI a) = nI (a % 100) ∧ - -(nI a) = nI a ∧ (-(nI a) < -nI 9 ↔ 9 < a) := by
  have := List.all_eq_true.mp S_neg a (List.mem_range.mpr h)
  simp only [Bool.and_eq_true, decide_eq_true_eq] at this
  exact this
theorem S_siz {a : Nat} (hn : 5 ≤ n) (h : a < 1000) : F_J6_stringSize_0f7a4 n (nI a) u = some (nI (y_dg a).length, u) := by
  obtain ⟨e1, e2, e3, -⟩ := S_ng h
  obtain ⟨n, rfl⟩ : ∃ k, n = k + 5 := ⟨n - 5, by omega⟩
  have z0 : ¬ nI a < 0 := by rw [show (0 : Int32) = nI 0 from rfl, nI_ltI (by omega) (by omega)]; omega
  have k1 : (10 : Int32) * (-10) = -100 := by decide
  have k2 : (10 : Int32) * (-100) = -1000 := by decide
  unfold F_J6_stringSize_0f7a4
  rw [if_neg z0, x_nmE]
  unfold y_dg
  by_cases q1 : a < 10
  · rw [if_pos q1, F_J6_stringSize_0f7a4_L16, if_pos (by decide), if_neg (fun h => by have := e1.mp h; omega)]
    rfl
  · rw [if_neg q1, F_J6_stringSize_0f7a4_L16, if_pos (by decide), if_pos (e1.mpr (by omega)), x_nmE, k1, F_J6_stringSize_0f7a4_L16, if_pos (by decide)]
    by_cases q2 : a < 100
    · rw [if_pos q2, if_neg (fun h => by have := e2.mp h; omega)]
      rfl
    · rw [if_neg q2, if_pos (e2.mpr (by omega)), x_nmE, k2, F_J6_stringSize_0f7a4_L16, if_pos (by decide), if_neg e3]
      rfl
end STR
