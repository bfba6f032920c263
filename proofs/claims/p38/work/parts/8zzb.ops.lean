/-! the law's loop: going, whole -/
section LP
variable {p b L pl pa mu me Lx wn a B q : Nat} {xs : Nat → Int32} {d : Nat → Nat} {Fz : Nat → Prop} {V : Nat → Int32} {hs : z_Hs} {u : x_U} {S : Nat → Nat → (Nat → Int32) → Prop}
set_option maxHeartbeats 4000000 in
theorem O_go {v x5 : Int32} (h : y_I Lx xs a mu me L d u p b pl pa V hs wn Fz S B) (hQ : y_Q a mu me u p q V hs S) (hb : x_n u + 13 ≤ 500000) : ∃ u' y25 y26, y_ON Lx xs a mu me L d u' p q y25 y26 B ∧ x_n u ≤ x_n u' ∧ x_n u' ≤ x_n u + 13 ∧ x_m u' ≤ x_m u + 52 ∧ ∀ J : Nat → Int32 → Int32 → x_U → Option (Int32 × x_U), (x_gr u p 12 15 fun o83 =>
    x_len u o83 fun v84 =>
    x_nm (fun (y85 : Int32) (s86 : x_U) =>
      x_gr s86 p 12 15 fun o87 =>
      x_len s86 o87 fun v88 =>
      F_L_law_L431 q_F (x_CT + 2) p a (nI hs.1) x5 v q o87 v88 (fun (y95 : Int32) (s96 : x_U) =>
      x_nm (fun (y97 : Int32) (s98 : x_U) =>
        x_nm (fun (y99 : Int32) (s100 : x_U) =>
          x_calc s100 (f_X11_go q_F 0 y95 (x_c s100)) fun r102 s101 =>
          if r102 = y97 then (
          J p (nI hs.1) y99 s101)
          else (
          some (0, s101))) fun j509 =>
        if y97 < 0 then (
        j509 0 s98)
        else (
        j509 1 s98)) fun j497 =>
      if y95 < 10 then (
      x_o s96 p 12 <|
      x_call (F_X12_goes q_F p y95 1 s96) fun r104 s103 =>
      j497 r104 s103)
      else (
      j497 (-1) s96)) q_F y85 0 s86) fun j415 =>
    if v84 = 0 then (
    x_call (F_L_between q_F (v >>> (6 &&& 31)) 0 10 u) fun r107 s106 =>
    j415 r107 s106)
    else (
    x_gr u p 12 15 fun o108 =>
    x_gr u p 12 15 fun o109 =>
    x_len u o109 fun v110 =>
    x_call (F_L_between q_F (v >>> (6 &&& 31)) 0 (v110 - 1) u) fun r112 s111 =>
    x_lr s111 o108 r112 fun o113 =>
    x_ld s111 o113 1 fun v114 =>
    j415 v114 s111)) = J p y25 y26 u' := by
  have hT := h.T
  have hz := h.2.2.2.1
  have kp : x_k u p = .inl 12 := hT.k0
  have rp : x_r u p 15 = pa := hT.1.2.2.2.2.2.2.2.1
  obtain ⟨N, hN, h92, -, kpa, hrow⟩ := hT.2.2.2.2.2.2.1
  obtain ⟨N2, hN2, -, h92b, hPA⟩ := hz.1.1.2.2.2.2.2.1
  have hNN : N = N2 := by
    rw [h92, nI_eq (by omega) (by omega)] at h92b
    exact h92b
  subst hNN
  have hr : ∀ i, i < N → x_k u (x_r u pa i) = .inr (3, 0) ∧ ∃ t, t < 10 ∧ x_t u (x_r u pa i) 1 = nI t := fun i hi => by
    obtain ⟨-, k1, -, t1, -⟩ := hrow i hi
    obtain ⟨f, t, hh, -, ht, -, -, -, -, -, -, -, e, -⟩ := hPA i hi
    exact ⟨k1, t, ht, by rw [t1]; exact e⟩
  have start : ∃ c, c ≤ 10 ∧ ∀ J415 : Int32 → x_U → Option (Int32 × x_U), (if nI N = 0 then (
    x_call (F_L_between q_F (v >>> (6 &&& 31)) 0 10 u) fun r107 s106 =>
    J415 r107 s106)
    else (
    x_gr u p 12 15 fun o108 =>
    x_gr u p 12 15 fun o109 =>
    x_len u o109 fun v110 =>
    x_call (F_L_between q_F (v >>> (6 &&& 31)) 0 (v110 - 1) u) fun r112 s111 =>
    x_lr s111 o108 r112 fun o113 =>
    x_ld s111 o113 1 fun v114 =>
    J415 v114 s111)) = J415 (nI c) u := by
    by_cases c0 : N = 0
    · have eB : F_L_between q_F (v >>> (6 &&& 31)) 0 10 u = some (nI (y_bt (v >>> (6 &&& 31)) 0 10), u) := F_btw (lo := 0) (hi := 10) (by omega) (by omega)
      refine ⟨_, (y_bt_b (v := v >>> (6 &&& 31)) (lo := 0) (hi := 10) (by omega)).2, fun J415 => ?_⟩
      rw [if_pos (by rw [c0]; rfl), eB, z_xcall]
    · have eB : F_L_between q_F (v >>> (6 &&& 31)) 0 (nI (N - 1)) u = some (nI (y_bt (v >>> (6 &&& 31)) 0 (N - 1)), u) := F_btw (lo := 0) (hi := N - 1) (by omega) (by omega)
      have hi := (y_bt_b (v := v >>> (6 &&& 31)) (lo := 0) (hi := N - 1) (by omega)).2
      generalize y_bt (v >>> (6 &&& 31)) 0 (N - 1) = i at *
      obtain ⟨k1, t, ht, t1⟩ := hr i (by omega)
      refine ⟨t, by omega, fun J415 => ?_⟩
      have e1 : nI N - 1 = nI (N - 1) := by
        rw [show (1 : Int32) = nI 1 from rfl]
        exact z_sub (by omega)
      have hne : ¬ nI N = (0 : Int32) := fun q => c0 (by
        have q : nI N = nI 0 := q
        rw [nI_eq (by omega) (by omega)] at q
        exact q)
      rw [if_neg hne, p_xgr, h_xgrE kp, p_xgr, h_xgrE kp, rp, p_xlen, h_xlenE kpa (by omega), e1, eB, z_xcall, p_xlr, h_xlrE kpa (by omega) (by omega) (by omega)]
      show x_ld u (x_r u pa i) (nI 1) (fun v114 => _) = _
      rw [p_xld, h_xldE k1 (by omega) (by omega), t1]
  obtain ⟨c, hc, es⟩ := start
  have hNF : N < q_F + 0 := by unfold q_F; omega
  obtain ⟨c', hc', e4⟩ := T_431 (a := a) (x10 := q) (x4 := nI hs.1) (x5 := x5) (v := v) hT hN kpa hr q_F 0 c (Nat.zero_le _) hNF hc
  obtain ⟨u', y25, y26, g1, g2, g3, g4, g5⟩ := O_goC hc' h hQ hb
  refine ⟨u', y25, y26, g1, g2, g3, g4, fun J => ?_⟩
  rw [p_xgr, h_xgrE kp, rp, p_xlen, h_xlenE kpa (by omega), x_nmE]
  refine (es _).trans ?_
  show x_gr u p 12 15 (fun o87 => _) = _
  rw [p_xgr, h_xgrE kp, rp, p_xlen, h_xlenE kpa (by omega)]
  refine (e4 _).trans ?_
  exact g5 J
end LP
