/-! the law's loop: a step -/
section LP
variable {p b L pl pa mu me Lx wn a B q : Nat} {xs : Nat → Int32} {d : Nat → Nat} {Fz : Nat → Prop} {V : Nat → Int32} {hs : z_Hs} {u : x_U} {S : Nat → Nat → (Nat → Int32) → Prop}
set_option maxHeartbeats 4000000 in
theorem T_step {t : Nat} (hL : Lx ≤ 260) (ht : t < 22) (h : y_I Lx xs a mu me L d u p b pl pa V hs wn Fz S B) (hB : B ≤ 700) (hb : x_n u + 2100 ≤ 499000) : ∃ u' p' b' pl' pa' V' hs' wn' Fz' S', y_I Lx xs a mu me L d u' p' b' pl' pa' V' hs' wn' Fz' S' (B+6) ∧ x_n u' ≤ x_n u + 1450 ∧ x_m u' ≤ x_m u + 84500 ∧ ∀ (K : Nat → x_U → Option (Int32 × x_U)) (j : Nat), F_L_law_L41 q_F (x_CT + 2) a K (j+1) p (nI hs.1) (nI t) u = F_L_law_L41 q_F (x_CT + 2) a K j p' (nI hs'.1) (nI (t+1)) u' := by
  have hT := h.T
  have kp : x_k u p = .inl 12 := hT.k0
  have t7 : x_t u p 7 = nI mu := hT.2.1.1.2.2.2.2.2.2.2.1
  have t8 : x_t u p 8 = nI me := hT.2.1.1.2.2.2.2.2.2.2.2.1
  have hmu := h.2.2.2.1.g.1
  have hme := h.2.2.2.1.g.2.1
  have hW := h.2.2.2.2.2.2.2
  obtain ⟨v, hv⟩ : ∃ v, v = (y_ce Lx xs (6 + t % 12) * ((nI t / nI 12) + 1)) + (191 * nI t) := ⟨_, rfl⟩
  have e6 : (6 : Int32) + nI (t % 12) = nI (6 + t % 12) := by rw [show (6 : Int32) = nI 6 from rfl, nI_add]
  have eC : F_L_cell q_F (x_CT + 2) (6 + nI (t % 12)) u = some (y_ce Lx xs (6 + t % 12), u) := F_cell e6 (by omega) hL hW
  obtain ⟨c, hc⟩ : ∃ c, c = y_bt v 0 13 := ⟨_, rfl⟩
  obtain ⟨m, hm⟩ : ∃ m, m = y_bt (v >>> (3 &&& 31)) 0 mu := ⟨_, rfl⟩
  obtain ⟨k, hk⟩ : ∃ k, k = y_bt (v >>> (5 &&& 31)) 0 me := ⟨_, rfl⟩
  have bc := (y_bt_b (v := v) (lo := 0) (hi := 13) (by omega)).2
  have bm := (y_bt_b (v := v >>> (3 &&& 31)) (lo := 0) (hi := mu) (by omega)).2
  have bk := (y_bt_b (v := v >>> (5 &&& 31)) (lo := 0) (hi := me) (by omega)).2
  rw [← hc] at bc
  rw [← hm] at bm
  rw [← hk] at bk
  have e1 : F_L_between q_F v 0 13 u = some (nI c, u) := by rw [hc]; exact F_btw (lo := 0) (hi := 13) (by omega) (by omega)
  have e2 : F_L_between q_F (v >>> (3 &&& 31)) 0 (nI mu) u = some (nI m, u) := by rw [hm]; exact F_btw (lo := 0) (hi := mu) (by omega) (by omega)
  have e3 : F_L_between q_F (v >>> (5 &&& 31)) 0 (nI me) u = some (nI k, u) := by rw [hk]; exact F_btw (lo := 0) (hi := me) (by omega) (by omega)
  obtain ⟨u1, S1, hI1, hQ1, n1, n2, m2, e4⟩ := h.copy (by omega)
  obtain ⟨u2, p', y25, y26, hON, n3, n4, m4, e5⟩ := T_disp (v := v) (x5 := nI t) (c := c) (k := k) (m := m) bc bk bm hI1 hQ1 (by omega) (by omega)
  obtain ⟨u3, b', pl', pa', V', hs', wn', Fz', S', hI3, n5, m5, e7⟩ := hON.next (x5 := nI t) (by omega)
  refine ⟨u3, p', b', pl', pa', V', hs', wn', Fz', S', hI3, by omega, by omega, fun K j => ?_⟩
  have lt22 : nI t < (22 : Int32) := by
    rw [show (22 : Int32) = nI 22 from rfl]
    exact (nI_ltI (by omega) (by omega)).mpr ht
  have et : nI t + 1 = nI (t + 1) := by rw [show (1 : Int32) = nI 1 from rfl, nI_add]
  rw [F_L_law_L41, if_pos lt22]
  show x_rem (nI t) (nI 12) (fun v8 => _) = _
  rw [p_xrem, h_xremE (by omega) (by omega) (by omega), eC, z_xcall]
  show x_dv (nI t) (nI 12) (fun v11 => _) = _
  rw [p_xdv, h_xdvE (by omega) (by omega), ← hv, x_nmE, e1, z_xcall, p_xgi, h_xgiE kp, t7, e2, z_xcall, p_xgi, h_xgiE kp, t8, e3, z_xcall, p_xo, h_xoE kp, e4, z_xcall]
  refine (x_nm_cg e5).trans ?_
  refine (e7 (fun y28 s32 => F_L_law_L41 q_F (x_CT + 2) a K j p' y28 (nI t + 1) s32)).trans ?_
  rw [et]
end LP
