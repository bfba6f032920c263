/-! the law's loop: acts -/
section LP
variable {p b L pl pa mu me Lx wn a B q : Nat} {xs : Nat → Int32} {d : Nat → Nat} {Fz : Nat → Prop} {V : Nat → Int32} {hs : z_Hs} {u : x_U} {S : Nat → Nat → (Nat → Int32) → Prop}
theorem y_I.stay {dn dm : Nat} {G : x_U → Option (Int32 × x_U)} {r : Int32} (h : y_I Lx xs a mu me L d u p b pl pa V hs wn Fz S B) (hb : x_n u + dn ≤ 500000) (hP : x_PF p b L pl pa mu me d dn dm V V G r) : ∃ u' Fz', y_I Lx xs a mu me L d u' p b pl pa V hs wn Fz' (y_set S p b V) B ∧ x_c u' = x_c u ∧ x_n u ≤ x_n u' ∧ x_n u' ≤ x_n u + dn ∧ x_m u' ≤ x_m u + dm ∧ G u = some (r, u') := by
  have hT := h.T
  obtain ⟨hA, hS, hWA, hz, hK, hD, hB, hW⟩ := h
  obtain ⟨u', Fz', s1, hT', e1⟩ := hP u Fz hT hb
  exact ⟨u', Fz', ⟨hA.act hS s1 hT', Or.inl ⟨rfl, rfl, rfl⟩, hWA.act (W := V) hS s1, by rw [s1.1.1]; exact hz, hK, hD, hB, hW.fr s1.1 (fun i hi => by have := hT.own hi; have := hT.bd; omega)⟩, s1.1.1, s1.1.2.1, s1.2.1, s1.2.2.1, e1⟩
set_option maxHeartbeats 4000000 in
theorem O_act {c k m : Nat} (hc : c ≤ 3) (hk : k ≤ me) (hm : m ≤ mu) (h : y_I Lx xs a mu me L d u p b pl pa V hs wn Fz S B) (hQ : y_Q a mu me u p q V hs S) (hb : x_n u + 13 ≤ 500000) : ∃ u' y25 y26, y_ON Lx xs a mu me L d u' p q y25 y26 B ∧ x_n u ≤ x_n u' ∧ x_n u' ≤ x_n u + 13 ∧ x_m u' ≤ x_m u + 52 ∧ ∀ J : Nat → Int32 → Int32 → x_U → Option (Int32 × x_U), (x_nm (fun (y69 : Int32) (s70 : x_U) =>
      x_nm (fun (y71 : Int32) (s72 : x_U) =>
        x_calc s72 (f_X11_act q_F 0 (nI c) (nI k) (nI m) (x_c s72)) fun r74 s73 =>
        if r74 = y71 then (
        J p (nI hs.1) y71 s73)
        else (
        some (0, s73))) fun j341 =>
      x_nm (fun  (s75 : x_U) =>
        j341 0 s75) fun j340 =>
      if y69 = 0 then (
      j340 s70)
      else (
      x_o s70 p 12 <|
      x_call (F_X12_does q_F p (nI c) (nI k) (nI m) 1 s70) fun r77 s76 =>
      if r77 = 0 then (
      j340 s76)
      else (
      j341 1 s76))) fun j315 =>
    x_nm (fun  (s79 : x_U) =>
      j315 0 s79) fun j314 =>
    if nI c < 3 then (
    x_gi u p 12 8 fun v80 =>
    if nI k < v80 then (
    x_nm (fun  (s81 : x_U) =>
      j315 1 s81) fun j310 =>
    if nI c = 1 then (
    j310 u)
    else (
    x_gi u p 12 7 fun v82 =>
    if nI m < v82 then (
    j310 u)
    else (
    j314 u)))
    else (
    j314 u))
    else (
    j314 u)) = J p y25 y26 u' := by
  have hT := h.T
  have hz := h.2.2.2.1
  have hK := h.2.2.2.2.1
  have hbd := hT.bd
  have kp : x_k u p = .inl 12 := hT.k0
  have t7 : x_t u p 7 = nI mu := hT.2.1.1.2.2.2.2.2.2.2.1
  have t8 : x_t u p 8 = nI me := hT.2.1.1.2.2.2.2.2.2.2.2.1
  have l1 : (nI m < nI mu) ↔ m < mu := nI_ltI (by omega) (by omega)
  have l2 : (nI k < nI me) ↔ k < me := nI_ltI (by omega) (by omega)
  have l3 : (nI c < (3 : Int32)) ↔ c < 3 := by
    rw [show (3 : Int32) = nI 3 from rfl]
    exact nI_ltI (by omega) (by omega)
  have l4 : (nI c = (1 : Int32)) ↔ c = 1 := by
    rw [show (1 : Int32) = nI 1 from rfl]
    exact nI_eq (by omega) (by omega)
  have hON : y_ON Lx xs a mu me L d u p q (nI hs.1) 0 B := Or.inl ⟨rfl, b, pl, pa, V, hs, wn, Fz, S, rfl, h⟩
  -- refused at once
  have no : f_X11_act q_F 0 (nI c) (nI k) (nI m) (x_c u) = some (nI 0, x_c u) → ∀ J : Nat → Int32 → Int32 → x_U → Option (Int32 × x_U), (x_calc u (f_X11_act q_F 0 (nI c) (nI k) (nI m) (x_c u)) fun r74 s73 =>
        if r74 = 0 then (
        J p (nI hs.1) 0 s73)
        else (
        some (0, s73))) = J p (nI hs.1) 0 u := fun e J => by
    have eu : x_uc u (x_c u) = u := rfl
    rw [e, z_xcalc, eu, if_pos (show nI 0 = (0 : Int32) from rfl)]
  -- done in both
  have yes : ∀ W σ' w', f_X11_act q_F 0 (nI c) (nI k) (nI m) (x_c u) = some (nI 1, σ') → z_CS mu me σ' W (z_push hs V wn) w' → y_kd V W wn → y_LK L d W → x_PF p b L pl pa mu me d 13 52 V W (F_X12_does q_F p (nI c) (nI k) (nI m) (nI 1)) (nI 1) → ∃ u' y25 y26, y_ON Lx xs a mu me L d u' p q y25 y26 B ∧ x_n u ≤ x_n u' ∧ x_n u' ≤ x_n u + 13 ∧ x_m u' ≤ x_m u + 52 ∧ ∀ J : Nat → Int32 → Int32 → x_U → Option (Int32 × x_U), (x_o u p 12 <|
      x_call (F_X12_does q_F p (nI c) (nI k) (nI m) 1 u) fun r77 s76 =>
      if r77 = 0 then (
      x_calc s76 (f_X11_act q_F 0 (nI c) (nI k) (nI m) (x_c s76)) fun r74 s73 =>
        if r74 = 0 then (
        J p (nI hs.1) 0 s73)
        else (
        some (0, s73)))
      else (
      x_calc s76 (f_X11_act q_F 0 (nI c) (nI k) (nI m) (x_c s76)) fun r74 s73 =>
        if r74 = 1 then (
        J p (nI hs.1) 1 s73)
        else (
        some (0, s73)))) = J p y25 y26 u' := fun W σ' w' e1 hz1 hk1 hK1 hP => by
    obtain ⟨u', c1, n1, n2, m2, hJ, -, kp', e2⟩ := h.act hQ hb hz1 hk1 hK1 hP
    refine ⟨x_uc u' σ', nI hs.1, 1, Or.inr ⟨rfl, hs, hz.2.2.2.1.1, rfl, hJ⟩, n1, n2, m2, fun J => ?_⟩
    have e2' : F_X12_does q_F p (nI c) (nI k) (nI m) 1 u = some (nI 1, u') := e2
    rw [p_xo, h_xoE kp, e2', z_xcall, if_neg (show ¬ nI 1 = (0 : Int32) by decide), c1, e1, z_xcalc, if_pos (show nI 1 = (1 : Int32) from rfl)]
  by_cases c3 : c < 3
  · by_cases ck : k < me
    · by_cases cm : c = 1 ∨ m < mu
      · have fin : ∃ u' y25 y26, y_ON Lx xs a mu me L d u' p q y25 y26 B ∧ x_n u ≤ x_n u' ∧ x_n u' ≤ x_n u + 13 ∧ x_m u' ≤ x_m u + 52 ∧ ∀ J : Nat → Int32 → Int32 → x_U → Option (Int32 × x_U), (x_o u p 12 <|
      x_call (F_X12_does q_F p (nI c) (nI k) (nI m) 1 u) fun r77 s76 =>
      if r77 = 0 then (
      x_calc s76 (f_X11_act q_F 0 (nI c) (nI k) (nI m) (x_c s76)) fun r74 s73 =>
        if r74 = 0 then (
        J p (nI hs.1) 0 s73)
        else (
        some (0, s73)))
      else (
      x_calc s76 (f_X11_act q_F 0 (nI c) (nI k) (nI m) (x_c s76)) fun r74 s73 =>
        if r74 = 1 then (
        J p (nI hs.1) 1 s73)
        else (
        some (0, s73)))) = J p y25 y26 u' := by
          have hcc : c = 0 ∨ c = 1 ∨ c = 2 := by omega
          rcases hcc with rfl | rfl | rfl
          · have hm2 : m < mu := by omega
            obtain ⟨s, hs9, h80⟩ := (hz.1.1.1.2.2.2.2.2.2.2.1 k ck).1
            by_cases s0 : s = 0
            · subst s0
              obtain ⟨u', Fz', hI, c1, n1, n2, m2, e2⟩ := h.stay (dn := 13) (dm := 52) hb (F_does0 (n := q_F) (m := m) ck h80)
              have e2' : F_X12_does q_F p (nI 0) (nI k) (nI m) 1 u = some (nI 0, u') := e2
              have e3 := c_act0 hz ck hm2 h80
              refine ⟨u', nI hs.1, 0, Or.inl ⟨rfl, b, pl, pa, V, hs, wn, Fz', _, rfl, hI⟩, n1, n2, m2, fun J => ?_⟩
              have eu : x_uc u' (x_c u) = u' := by rw [← c1]; rfl
              rw [p_xo, h_xoE kp, e2', z_xcall, if_pos (show nI 0 = (0 : Int32) from rfl), c1, e3, z_xcalc, eu, if_pos (show nI 0 = (0 : Int32) from rfl)]
            · obtain ⟨s, rfl⟩ : ∃ t, s = t + 1 := ⟨s - 1, by omega⟩
              obtain ⟨W, σ', w', e1, hz1, hk1, hK1, hP⟩ := Q_act0 (p := p) (b := b) (pl := pl) (pa := pa) hz hK ck hm2 h80 hs9
              exact yes W σ' w' e1 hz1 hk1 hK1 hP
          · obtain ⟨W, σ', w', e1, hz1, hk1, hK1, hP⟩ := Q_act1 (p := p) (b := b) (pl := pl) (pa := pa) (a2 := nI m) hz hK ck
            exact yes W σ' w' e1 hz1 hk1 hK1 hP
          · have hm2 : m < mu := by omega
            obtain ⟨W, σ', w', e1, hz1, hk1, hK1, hP⟩ := Q_act2 (p := p) (b := b) (pl := pl) (pa := pa) hz hK ck hm2
            exact yes W σ' w' e1 hz1 hk1 hK1 hP
        obtain ⟨u', y25, y26, g1, g2, g3, g4, g5⟩ := fin
        refine ⟨u', y25, y26, g1, g2, g3, g4, fun J => ?_⟩
        rw [x_nmE, x_nmE, if_pos (l3.mpr c3), p_xgi, h_xgiE kp, t8, if_pos (l2.mpr ck), x_nmE]
        by_cases q1 : c = 1
        · rw [if_pos (l4.mpr q1)]
          exact g5 J
        · rw [if_neg (fun q => q1 (l4.mp q)), p_xgi, h_xgiE kp, t7, if_pos (l1.mpr (by omega))]
          exact g5 J
      · refine ⟨u, nI hs.1, 0, hON, Nat.le_refl _, by omega, by omega, fun J => ?_⟩
        rw [x_nmE, x_nmE, if_pos (l3.mpr c3), p_xgi, h_xgiE kp, t8, if_pos (l2.mpr ck), x_nmE, if_neg (fun q => cm (Or.inl (l4.mp q))), p_xgi, h_xgiE kp, t7, if_neg (fun q => cm (Or.inr (l1.mp q)))]
        exact no (c_actM hz (by omega) ck (y_ge (by omega) (by omega))) J
    · refine ⟨u, nI hs.1, 0, hON, Nat.le_refl _, by omega, by omega, fun J => ?_⟩
      rw [x_nmE, x_nmE, if_pos (l3.mpr c3), p_xgi, h_xgiE kp, t8, if_neg (fun q => ck (l2.mp q))]
      exact no (c_actK hz (by omega) (y_ge (by omega) (by omega))) J
  · refine ⟨u, nI hs.1, 0, hON, Nat.le_refl _, by omega, by omega, fun J => ?_⟩
    have hc3 : c = 3 := by omega
    rw [x_nmE, x_nmE, if_neg (fun q => c3 (l3.mp q))]
    exact no (by rw [hc3]; exact c_act3) J
end LP
