/-! the law's loop: one thing told anew; liking; days -/
section LP
variable {p b L pl pa mu me Lx wn a B q : Nat} {xs : Nat → Int32} {d : Nat → Nat} {Fz : Nat → Prop} {V : Nat → Int32} {hs : z_Hs} {u : x_U} {S : Nat → Nat → (Nat → Int32) → Prop}
theorem y_I.tell {W : Nat → Int32} {σ' : q_Sto} {o k : Nat} {v : Int32} (h : y_I Lx xs a mu me L d u p b pl pa V hs wn Fz S B) (ho : x_own p b mu me o) (hT' : x_TN (x_ui u o k v) Fz p b L pl pa mu me d W) (hz : z_CS mu me σ' W y_h0 wn) (h0 : W 0 = V 0) (e : ∀ i, i = 89 ∨ 905 ≤ i → W i = V i) : y_I Lx xs a mu me L d (x_uc (x_ui u o k v) σ') p b pl pa W y_h0 wn Fz (y_set S p b W) B := by
  have hT := h.T
  obtain ⟨hA, hS, hWA, -, hK, hD, ⟨D, hD1, hD2⟩, hW⟩ := h
  have f : x_fr (x_own p b mu me) u (x_ui u o k v) := x_fr.ui ho
  have s1 : x_sp (x_own p b mu me) 0 0 u (x_ui u o k v) Fz Fz := ⟨f, Nat.le_refl _, Nat.le_refl _, fun _ q => q, fun _ q => Or.inl q⟩
  have hA' := hA.act hS s1 hT'
  obtain ⟨g0, -, -, -⟩ := hWA.act (W := W) hS s1
  have hW' : y_WC Lx xs (x_ui u o k v) := hW.fr f (fun i hi => by have := hT.own hi; have := hT.bd; omega)
  refine ⟨hA', Or.inl ⟨rfl, rfl, rfl⟩, ⟨g0, Nat.zero_le _, fun i hi => absurd hi (Nat.not_lt_zero _), fun i j hi => absurd hi (Nat.not_lt_zero _)⟩, hz, hK.of e, fun i hi => absurd hi (Nat.not_lt_zero _), ⟨D, hD1, by rw [h0]; exact hD2⟩, hW'⟩
theorem O_like {m k r : Nat} (h : y_I Lx xs a mu me L d u p b pl pa V hs wn Fz S B) (hm : m ≤ mu) (hk : k ≤ me) (hr : r ≤ 100) : ∃ u' y25, y_ON Lx xs a mu me L d u' p q y25 0 B ∧ x_n u' = x_n u ∧ x_m u' = x_m u ∧ ∀ J : Nat → Int32 → Int32 → x_U → Option (Int32 × x_U), (x_gi u p 12 7 fun v174 =>
    x_nm (fun (y175 : Int32) (s176 : x_U) =>
      x_calc s176 (f_X11_like q_F 0 (nI m) (nI k) (nI r) (x_c s176)) fun r178 s177 =>
      if r178 = y175 then (
      x_nm (fun (y179 : Int32) (s180 : x_U) =>
        J p y179 0 s180) fun j919 =>
      if y175 = 0 then (
      j919 (nI hs.1) s177)
      else (
      x_gr s177 p 12 12 fun o181 =>
      x_lr s177 o181 (nI m) fun o182 =>
      x_st s177 o182 (5 + nI k) (nI r) fun s183 =>
      j919 0 s183))
      else (
      some (0, s177))) fun j878 =>
    x_nm (fun  (s184 : x_U) =>
      j878 0 s184) fun j877 =>
    if nI m < v174 then (
    x_gi u p 12 8 fun v185 =>
    if nI k < v185 then (
    if nI r < 100 then (
    j878 1 u)
    else (
    j877 u))
    else (
    j877 u))
    else (
    j877 u)) = J p y25 0 u' := by
  have hT := h.T
  have hz := h.2.2.2.1
  have hbd := hT.bd
  have kp : x_k u p = .inl 12 := hT.k0
  have t7 : x_t u p 7 = nI mu := hT.2.1.1.2.2.2.2.2.2.2.1
  have t8 : x_t u p 8 = nI me := hT.2.1.1.2.2.2.2.2.2.2.2.1
  have l1 : (nI m < nI mu) ↔ m < mu := nI_ltI (by omega) (by omega)
  have l2 : (nI k < nI me) ↔ k < me := nI_ltI (by omega) (by omega)
  have l3 : (nI r < (100 : Int32)) ↔ r < 100 := by
    rw [show (100 : Int32) = nI 100 from rfl]
    exact nI_ltI (by omega) (by omega)
  have no : f_X11_like q_F 0 (nI m) (nI k) (nI r) (x_c u) = some (nI 0, x_c u) → ∀ J : Nat → Int32 → Int32 → x_U → Option (Int32 × x_U), (x_calc u (f_X11_like q_F 0 (nI m) (nI k) (nI r) (x_c u)) fun r178 s177 =>
      if r178 = 0 then (
      x_nm (fun (y179 : Int32) (s180 : x_U) =>
        J p y179 0 s180) fun j919 =>
      if (0 : Int32) = 0 then (
      j919 (nI hs.1) s177)
      else (
      x_gr s177 p 12 12 fun o181 =>
      x_lr s177 o181 (nI m) fun o182 =>
      x_st s177 o182 (5 + nI k) (nI r) fun s183 =>
      j919 0 s183))
      else (
      some (0, s177))) = J p (nI hs.1) 0 u := fun e J => by
    have eu : x_uc u (x_c u) = u := rfl
    rw [e, z_xcalc, eu, if_pos (show nI 0 = (0 : Int32) from rfl), x_nmE, if_pos rfl]
  have hON : y_ON Lx xs a mu me L d u p q (nI hs.1) 0 B := Or.inl ⟨rfl, b, pl, pa, V, hs, wn, Fz, S, rfl, h⟩
  by_cases c1 : m < mu
  · by_cases c2 : k < me
    · by_cases c3 : r < 100
      · obtain ⟨σ', e1, hz1⟩ := Q_like hz c1 c2 (v := r) (by omega)
        have ho : x_own p b mu me (b+m) := by unfold x_own; omega
        have hT1 := hT.up ho (hT.2.1.like (x := nI r) (by omega) (by omega) (by omega) c1 c2) (fun i hi => z_uK (by omega)) (hT.2.2.2.2.2.2.2.cg (z_uK (by omega)) (fun i i1 i2 => z_uK (by omega)))
        have hI := h.tell (k := 5+k) (v := nI r) ho hT1 hz1 (z_uK (by omega)) (fun i hi => z_uK (by omega))
        refine ⟨_, nI 0, Or.inl ⟨rfl, b, pl, pa, _, y_h0, wn, Fz, _, rfl, hI⟩, rfl, rfl, fun J => ?_⟩
        have kq : x_k (x_uc u σ') (p+1) = .inr (12, 3) := hT.1.2.1.2.1
        have kb : x_k (x_uc u σ') (b+m) = .inr (10, 0) := hT.1.2.1.2.2.2.2.1 m c1
        have rp : x_r (x_uc u σ') p 12 = p+1 := hT.1.2.2.1
        have rb : x_r (x_uc u σ') (p+1) m = b+m := hT.1.2.2.2.2.2.2.2.2.1 m c1
        have kp2 : x_k (x_uc u σ') p = .inl 12 := kp
        have e5 : (5 : Int32) + nI k = nI (5+k) := by rw [show (5 : Int32) = nI 5 from rfl, nI_add]
        rw [p_xgi, h_xgiE kp, t7, x_nmE, x_nmE, if_pos (l1.mpr c1), p_xgi, h_xgiE kp, t8, if_pos (l2.mpr c2), if_pos (l3.mpr c3)]
        show (x_calc u (f_X11_like q_F 0 (nI m) (nI k) (nI r) (x_c u)) fun r178 s177 => _) = _
        rw [e1, z_xcalc]
        refine (if_pos (show nI 1 = (1 : Int32) from rfl)).trans ?_
        rw [x_nmE]
        refine (if_neg (show ¬ (1 : Int32) = 0 by decide)).trans ?_
        rw [p_xgr, h_xgrE kp2, rp, p_xlr, h_xlrE kq (by omega) (by omega) (by omega), rb, e5, p_xst, h_xstE kb (by omega) (by omega)]
        rfl
      · refine ⟨u, nI hs.1, hON, rfl, rfl, fun J => ?_⟩
        have hr2 : r = 100 := by omega
        rw [p_xgi, h_xgiE kp, t7, x_nmE, x_nmE, if_pos (l1.mpr c1), p_xgi, h_xgiE kp, t8, if_pos (l2.mpr c2), if_neg (fun q => c3 (l3.mp q))]
        exact no (by rw [hr2]; exact c_likeV hz c1 c2) J
    · refine ⟨u, nI hs.1, hON, rfl, rfl, fun J => ?_⟩
      rw [p_xgi, h_xgiE kp, t7, x_nmE, x_nmE, if_pos (l1.mpr c1), p_xgi, h_xgiE kp, t8, if_neg (fun q => c2 (l2.mp q))]
      exact no (c_likeK hz c1 (y_ge (by omega) (by omega))) J
  · refine ⟨u, nI hs.1, hON, rfl, rfl, fun J => ?_⟩
    rw [p_xgi, h_xgiE kp, t7, x_nmE, x_nmE, if_neg (fun q => c1 (l1.mp q))]
    exact no (c_likeM hz (y_ge (by omega) (by omega))) J
end LP
