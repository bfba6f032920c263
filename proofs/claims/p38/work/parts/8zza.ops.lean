/-! the law's loop: going -/
section LP
variable {p b L pl pa mu me Lx wn a B q : Nat} {xs : Nat → Int32} {d : Nat → Nat} {Fz : Nat → Prop} {V : Nat → Int32} {hs : z_Hs} {u : x_U} {S : Nat → Nat → (Nat → Int32) → Prop}
/-- the camp, chosen -/
theorem T_431 {N x10 : Nat} {x4 x5 v : Int32} (hT : x_TN u Fz p b L pl pa mu me d V) (hN : N ≤ 16) (kpa : x_k u pa = .inr (N, 3)) (hr : ∀ i, i < N → x_k u (x_r u pa i) = .inr (3, 0) ∧ ∃ t, t < 10 ∧ x_t u (x_r u pa i) 1 = nI t) : ∀ j i c, i ≤ N → N < j + i → c ≤ 10 → ∃ c', c' ≤ 10 ∧ ∀ K : Int32 → x_U → Option (Int32 × x_U), F_L_law_L431 q_F (x_CT + 2) p a x4 x5 v x10 pa (nI N) K j (nI c) (nI i) u = K (nI c') u := by
  have kp : x_k u p = .inl 12 := hT.k0
  intro j
  induction j with
  | zero => intro i c h1 h2; omega
  | succ j ih =>
    intro i c h1 h2 hc
    by_cases hi : i = N
    · subst hi
      refine ⟨c, hc, fun K => ?_⟩
      rw [F_L_law_L431, if_neg (fun q => by have := (nI_ltI (by omega) (by omega)).mp q; omega)]
    · have hlt : i < N := by omega
      obtain ⟨k1, t, ht, t1⟩ := hr i hlt
      obtain ⟨c1, g1, g2⟩ := ih (i+1) c (by omega) (by omega) hc
      obtain ⟨c2, g3, g4⟩ := ih (i+1) t (by omega) (by omega) (by omega)
      have e1 : nI i + 1 = nI (i+1) := by rw [show (1 : Int32) = nI 1 from rfl, nI_add]
      have l1 : nI i < nI N := (nI_ltI (by omega) (by omega)).mpr hlt
      have eL : ∀ (α : Type) (K : Nat → Option (α × x_U)), x_lr u pa (nI i) K = K (x_r u pa i) := fun α K => by
        rw [p_xlr, h_xlrE kpa (by omega) hlt (by omega)]
      have e0 : ∀ K : Int32 → Option (Int32 × x_U), x_ld u (x_r u pa i) 0 K = K (x_t u (x_r u pa i) 0) := fun K => by
        show x_ld u (x_r u pa i) (nI 0) K = _
        rw [p_xld, h_xldE k1 (by omega) (by omega)]
      have e2 : ∀ K : Int32 → Option (Int32 × x_U), x_ld u (x_r u pa i) 1 K = K (nI t) := fun K => by
        show x_ld u (x_r u pa i) (nI 1) K = _
        rw [p_xld, h_xldE k1 (by omega) (by omega), t1]
      by_cases q1 : x_t u (x_r u pa i) 0 = x_t u p 2
      · by_cases q2 : ((v >>> (8 &&& 31)) &&& 1) = 1
        · refine ⟨c2, g3, fun K => ?_⟩
          rw [← g4 K, F_L_law_L431, if_pos l1, eL, e0, p_xgi, h_xgiE kp, x_nmE, if_pos q1, if_pos q2, e2, e1]
        · refine ⟨c1, g1, fun K => ?_⟩
          rw [← g2 K, F_L_law_L431, if_pos l1, eL, e0, p_xgi, h_xgiE kp, x_nmE, if_pos q1, if_neg q2, e1]
      · refine ⟨c1, g1, fun K => ?_⟩
        rw [← g2 K, F_L_law_L431, if_pos l1, eL, e0, p_xgi, h_xgiE kp, x_nmE, if_neg q1, e1]
set_option maxHeartbeats 4000000 in
/-- gone, or not -/
theorem O_goC {c : Nat} (hc : c ≤ 10) (h : y_I Lx xs a mu me L d u p b pl pa V hs wn Fz S B) (hQ : y_Q a mu me u p q V hs S) (hb : x_n u + 13 ≤ 500000) : ∃ u' y25 y26, y_ON Lx xs a mu me L d u' p q y25 y26 B ∧ x_n u ≤ x_n u' ∧ x_n u' ≤ x_n u + 13 ∧ x_m u' ≤ x_m u + 52 ∧ ∀ J : Nat → Int32 → Int32 → x_U → Option (Int32 × x_U), (x_nm (fun (y97 : Int32) (s98 : x_U) =>
        x_nm (fun (y99 : Int32) (s100 : x_U) =>
          x_calc s100 (f_X11_go q_F 0 (nI c) (x_c s100)) fun r102 s101 =>
          if r102 = y97 then (
          J p (nI hs.1) y99 s101)
          else (
          some (0, s101))) fun j509 =>
        if y97 < 0 then (
        j509 0 s98)
        else (
        j509 1 s98)) fun j497 =>
      if nI c < 10 then (
      x_o u p 12 <|
      x_call (F_X12_goes q_F p (nI c) 1 u) fun r104 s103 =>
      j497 r104 s103)
      else (
      j497 (-1) u)) = J p y25 y26 u' := by
  have hT := h.T
  have hz := h.2.2.2.1
  have hK := h.2.2.2.2.1
  have kp : x_k u p = .inl 12 := hT.k0
  have l10 : (nI c < (10 : Int32)) ↔ c < 10 := by
    rw [show (10 : Int32) = nI 10 from rfl]
    exact nI_ltI (by omega) (by omega)
  have hPA := hz.1.1.2.2.2.2.2.1
  have hpv := z_path_v hPA (V 1) (nI c)
  have hop : z_op (V 2) me := hz.1.1.1.2.2.2.2.2.2.2.2.2.1
  have zm : z_m = (-1 : Int32) := rfl
  have eu : x_uc u (x_c u) = u := rfl
  by_cases c10 : c < 10
  · by_cases hn : V 2 = z_m ∨ z_path V (V 1) (nI c) = z_m
    · have e1 := c_gon (a0 := nI c) hz hn
      obtain ⟨u', Fz', hI, c1, n1, n2, m2, e2⟩ := h.stay (dn := 13) (dm := 52) hb (F_goesn (n := q_F) (c := c) (by unfold q_F; omega) hop hz.1.1.1.2.1 (by
        rcases hpv with q | ⟨f, t, hh, -, -, -, -, q1, -, -, q2⟩
        · exact Or.inl q
        · exact Or.inr ⟨hh, q1, q2⟩) hn)
      have e2' : F_X12_goes q_F p (nI c) 1 u = some (z_m, u') := e2
      refine ⟨u', nI hs.1, 0, Or.inl ⟨rfl, b, pl, pa, V, hs, wn, Fz', _, rfl, hI⟩, n1, n2, m2, fun J => ?_⟩
      have eu' : x_uc u' (x_c u) = u' := by rw [← c1]; rfl
      rw [x_nmE, if_pos (l10.mpr c10), p_xo, h_xoE kp, e2', z_xcall]
      show x_nm _ _ = _
      rw [x_nmE, if_pos (show z_m < (0 : Int32) by decide)]
      show x_calc u' (f_X11_go q_F 0 (nI c) (x_c u')) (fun r102 s101 => _) = _
      rw [c1, e1, z_xcalc, eu', if_pos rfl]
    · rcases hpv with q | ⟨f, t, hh, -, -, -, -, q1, -, -, q2⟩
      · exact absurd (Or.inr q) hn
      · have hdr : ∃ k, k < me ∧ V 2 = nI k := by
          rcases hop with q | q
          · exact absurd (Or.inl q) hn
          · exact q
        obtain ⟨W, σ', w', r, hr, e1, hz1, hk1, hK1, hP⟩ := Q_go (p := p) (b := b) (pl := pl) (pa := pa) hz hK c10 hdr q1 q2
        obtain ⟨u', c1, n1, n2, m2, hJ, -, kp', e2⟩ := h.act hQ hb hz1 hk1 hK1 hP
        refine ⟨x_uc u' σ', nI hs.1, 1, Or.inr ⟨rfl, hs, hz.2.2.2.1.1, rfl, hJ⟩, n1, n2, m2, fun J => ?_⟩
        have e2' : F_X12_goes q_F p (nI c) 1 u = some (nI r, u') := e2
        have hneg : ¬ nI r < (0 : Int32) := fun q => by
          have := (nI_ltI (a := r) (b := 0) (by omega) (by omega)).mp q
          omega
        rw [x_nmE, if_pos (l10.mpr c10), p_xo, h_xoE kp, e2', z_xcall]
        show x_nm _ _ = _
        rw [x_nmE, if_neg hneg]
        show x_calc u' (f_X11_go q_F 0 (nI c) (x_c u')) (fun r102 s101 => _) = _
        rw [c1, e1, z_xcalc, if_pos rfl]
  · have hc10 : c = 10 := by omega
    have hn : z_path V (V 1) (nI c) = z_m := by
      rcases hpv with q | ⟨f, t, hh, -, t1, -, -, -, -, q3, -⟩
      · exact q
      · rw [nI_eq (by omega) (by omega)] at q3
        omega
    have e1 := c_gon (a0 := nI c) hz (Or.inr hn)
    refine ⟨u, nI hs.1, 0, Or.inl ⟨rfl, b, pl, pa, V, hs, wn, Fz, S, rfl, h⟩, Nat.le_refl _, by omega, by omega, fun J => ?_⟩
    rw [x_nmE, if_neg (fun q => c10 (l10.mp q))]
    show x_nm _ _ = _
    rw [x_nmE, if_pos (show (-1 : Int32) < 0 by decide)]
    show x_calc u (f_X11_go q_F 0 (nI c) (x_c u)) (fun r102 s101 => _) = _
    rw [e1, z_xcalc, eu]
    exact if_pos zm
end LP
