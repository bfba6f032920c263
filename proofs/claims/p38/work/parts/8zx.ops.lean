/-! the law's loop: days; rest -/
section LP
variable {p b L pl pa mu me Lx wn a B q : Nat} {xs : Nat → Int32} {d : Nat → Nat} {Fz : Nat → Prop} {V : Nat → Int32} {hs : z_Hs} {u : x_U} {S : Nat → Nat → (Nat → Int32) → Prop}
theorem y_DB.w {B' : Nat} (h : y_DB hs B) (hB : B ≤ B') : y_DB hs B' := fun i hi => by
  obtain ⟨x, x1, x2⟩ := h i hi
  exact ⟨x, by omega, x2⟩
theorem y_actG {V1 W : Nat → Int32} {σ' : q_Sto} {w' dn dm : Nat} {G : x_U → Option (Int32 × x_U)} {r : Int32} (hA : y_AL L pl pa mu me d u Fz S) (hS : S p b V1) (hWA : y_WA mu me u Fz a S p hs) (hD : y_DB hs B) (hB : ∃ D, D ≤ B ∧ V 0 = nI D) (hW : y_WC Lx xs u) (hQ : y_Q a mu me u p q V hs S) (hb : x_n u + dn ≤ 500000) (hz : z_CS mu me σ' W (z_push hs V wn) w') (h0 : W 0 = V 0) (hK : y_LK L d W) (hP : x_PF p b L pl pa mu me d dn dm V1 W G r) : ∃ u', x_c u' = x_c u ∧ x_n u ≤ x_n u' ∧ x_n u' ≤ x_n u + dn ∧ x_m u' ≤ x_m u + dm ∧ y_J Lx xs a mu me L d (x_uc u' σ') p q hs B ∧ x_k u' p = .inl 12 ∧ G u = some (r, u') := by
  have hT := hA.1 _ _ _ hS
  obtain ⟨D, hD1, hD2⟩ := hB
  obtain ⟨u', Fz', s1, hT', e1⟩ := hP u Fz hT hb
  have hA' := hA.act hS s1 hT'
  have hW' := hWA.act (W := W) hS s1
  have er : x_r u' a = x_r u a := (s1.1.2.2.2.2 a (Or.inl hWA.1.2.1) (hWA.1.2.2.2.2.2 _ _ _ hS)).1
  have hWC' : y_WC Lx xs u' := hW.fr s1.1 (fun i hi => by have := hT.own hi; have := hT.bd; omega)
  obtain ⟨⟨bq, q1⟩, q2, q3⟩ := hQ
  refine ⟨u', s1.1.1, s1.1.2.1, s1.2.1, s1.2.2.1, ⟨b, pl, pa, V, W, wn, w', Fz', _, hA', Or.inl ⟨rfl, rfl, rfl⟩, ⟨⟨bq, Or.inr ⟨q2, q1⟩⟩, q2, fun i hi => ?_⟩, hW', hz, hK, hD, ⟨D, hD1, hD2, by rw [h0]; exact hD2⟩, hWC'⟩, hT'.k0, e1⟩
  show x_r u' a i ≠ q
  rw [er]
  exact q3 i hi
theorem z_u_u {i : Nat} {x y : Int32} : z_u (z_u V i x) i y = z_u V i y := by
  funext j
  by_cases h : j = i
  · subst h; rw [z_uS, z_uS]
  · rw [z_uK h, z_uK h, z_uK h]
theorem T_549 {s x10 : Nat} {x4 x5 x11 x12 : Int32} (hs4 : s < 4096) (hs2 : s < 2 ^ mu) : ∀ j i w y, i ≤ mu → mu < j + i → x_TN w Fz p b L pl pa mu me d (z_u V 7 (nI y)) → y < 4096 → (∀ t, y.testBit t = if t < i then false else s.testBit t) → ∃ w', x_fr (x_own p b mu me) w w' ∧ x_n w' = x_n w ∧ x_m w' = x_m w ∧ x_TN w' Fz p b L pl pa mu me d (z_u V 7 (nI 0)) ∧ ∀ K : x_U → Option (Int32 × x_U), F_L_law_L549 q_F (x_CT + 2) p a x4 x5 x10 x11 x12 K j (nI i) w = K w' := by
  intro j
  induction j with
  | zero => intro i w y h1 h2; omega
  | succ j ih =>
    intro i w y h1 h2 hT hy hbit
    have hbd := hT.bd
    have kp : x_k w p = .inl 12 := hT.k0
    have t7 : x_t w p 7 = nI mu := hT.2.1.1.2.2.2.2.2.2.2.1
    by_cases hi : i = mu
    · subst hi
      have y0 : y = 0 := Nat.eq_of_testBit_eq (fun t => by
        rw [hbit t, Nat.zero_testBit]
        by_cases c : t < i
        · rw [if_pos c]
        · rw [if_neg c]
          exact Nat.testBit_lt_two_pow (Nat.lt_of_lt_of_le hs2 (Nat.pow_le_pow_right (by omega) (by omega))))
      subst y0
      refine ⟨w, x_fr.rf, rfl, rfl, hT, fun K => ?_⟩
      rw [F_L_law_L549, p_xgi, h_xgiE kp, t7, if_neg (fun q => by have := (nI_ltI (by omega) (by omega)).mp q; omega)]
    · have hlt : i < mu := by omega
      have hy2 : (y &&& (2 ^ i ^^^ (2 ^ 12 - 1))) < 4096 := Nat.lt_of_le_of_lt Nat.and_le_left hy
      have hb2 : ∀ t, (y &&& (2 ^ i ^^^ (2 ^ 12 - 1))).testBit t = if t = i then false else y.testBit t := fun t => by
        rw [Nat.testBit_and, Nat.testBit_xor, Nat.testBit_two_pow, Nat.testBit_two_pow_sub_one]
        by_cases c : t = i
        · subst c
          have : t < 12 := by omega
          simp [this]
        · by_cases c2 : t < 12
          · simp [c, c2, Ne.symm c]
          · have : y.testBit t = false := Nat.testBit_lt_two_pow (Nat.lt_of_lt_of_le hy (show 2 ^ 12 ≤ 2 ^ t from Nat.pow_le_pow_right (by omega) (by omega)))
            simp [this]
      have hT2 := hT.lm (m := i) (s := y) (y := y &&& (2 ^ i ^^^ (2 ^ 12 - 1))) (x := nI 0) hlt z_uS hy hy2 (by rw [hb2 i, if_pos rfl]; rfl) (fun t _ hn => by rw [hb2 t, if_neg hn])
      rw [z_u_u] at hT2
      obtain ⟨w', g1, g2, g3, g4, g5⟩ := ih (i+1) _ _ (by omega) (by omega) hT2 hy2 (fun t => by
        rw [hb2 t, hbit t]
        by_cases c : t = i
        · rw [if_pos c, if_pos (by omega)]
        · by_cases c2 : t < i
          · rw [if_neg c, if_pos c2, if_pos (by omega)]
          · rw [if_neg c, if_neg c2, if_neg (by omega)])
      have ho : x_own p b mu me (b+i) := by unfold x_own; omega
      refine ⟨w', (x_fr.ui ho).tr g1, g2, g3, g4, fun K => ?_⟩
      have kq : x_k w (p+1) = .inr (12, 3) := hT.1.2.1.2.1
      have kb : x_k w (b+i) = .inr (10, 0) := hT.1.2.1.2.2.2.2.1 i hlt
      have rp : x_r w p 12 = p+1 := hT.1.2.2.1
      have rb : x_r w (p+1) i = b+i := hT.1.2.2.2.2.2.2.2.2.1 i hlt
      rw [← g5 K, F_L_law_L549, p_xgi, h_xgiE kp, t7, if_pos ((nI_ltI (by omega) (by omega)).mpr hlt), p_xgr, h_xgrE kp, rp, p_xlr, h_xlrE kq (by omega) (by omega) (by omega), rb]
      show x_st w (b+i) (nI 2) (nI 0) (fun s123 => _) = _
      rw [p_xst, h_xstE kb (by omega) (by omega), show (1 : Int32) = nI 1 from rfl, nI_add]
theorem O_rest {x5 : Int32} (h : y_I Lx xs a mu me L d u p b pl pa V hs wn Fz S B) (hQ : y_Q a mu me u p q V hs S) (hb : x_n u + 1 ≤ 500000) : ∃ u' y25, y_ON Lx xs a mu me L d u' p q y25 1 B ∧ x_n u ≤ x_n u' ∧ x_n u' ≤ x_n u + 1 ∧ x_m u' ≤ x_m u + 4 ∧ ∀ J : Nat → Int32 → Int32 → x_U → Option (Int32 × x_U), (x_o u p 12 <|
      x_call (F_X12_lame q_F p u) fun r116 s115 =>
      x_call (F_J6_bitCount_0f7a4 q_F r116 s115) fun r119 s118 =>
      F_L_law_L549 q_F (x_CT + 2) p a (nI hs.1) x5 q 1 r119 (fun  (s124 : x_U) =>
      x_o s124 p 12 <|
      x_call (F_X12_notes q_F p 6 (-1) 0 1 s124) fun r126 s125 =>
      x_calc s125 (f_X11_rest q_F 0  (x_c s125)) fun r129 s128 =>
      if r129 = r119 then (
      J p (nI hs.1) 1 s128)
      else (
      some (0, s128))) q_F 0 s118) = J p y25 1 u' := by
  obtain ⟨W, σ', w', s, h7, hs2, e1, hz, hk, hK, hP⟩ := Q_rest (p := p) (b := b) (pl := pl) (pa := pa) h.2.2.2.1 h.2.2.2.2.1
  have h0 := h
  have hT := h.T
  obtain ⟨hA, hS, hWA, hzz, -, hD, hB, hW⟩ := h
  have hbd := hT.bd
  have hs4 : s < 4096 := by
    have : (2:Nat) ^ mu ≤ 2 ^ 12 := Nat.pow_le_pow_right (by omega) (by omega)
    omega
  have eV : z_u V 7 (nI s) = V := by
    funext i
    by_cases c : i = 7
    · subst c; rw [z_uS, h7]
    · rw [z_uK c]
  have hFm : mu < q_F + 0 := by unfold q_F; omega
  obtain ⟨w, f1, n1, m1, hT1, e2⟩ := T_549 (V := V) (s := s) (a := a) (x4 := nI hs.1) (x5 := x5) (x10 := q) (x11 := 1) (x12 := nI (z_cnt s 12)) hs4 hs2 q_F 0 u s (Nat.zero_le _) hFm (by rw [eV]; exact hT) hs4 (fun t => by rw [if_neg (by omega)])
  have s1 : x_sp (x_own p b mu me) 0 0 u w Fz Fz := ⟨f1, by omega, by omega, fun _ q => q, fun _ q => Or.inl q⟩
  have hA1 := hA.act hS s1 hT1
  have hWA1 := hWA.act (W := z_u V 7 (nI 0)) hS s1
  have er : x_r w a = x_r u a := (f1.2.2.2.2 a (Or.inl hWA.1.2.1) (hWA.1.2.2.2.2.2 _ _ _ hS)).1
  have hW1 : y_WC Lx xs w := hW.fr f1 (fun i hi => by have := hT.own hi; omega)
  obtain ⟨⟨bq, q1⟩, q2, q3⟩ := hQ
  obtain ⟨u', c1, n2, n3, m3, hJ, kp', e3⟩ := y_actG (V := V) (q := q) hA1 (Or.inl ⟨rfl, rfl, rfl⟩) hWA1 hD hB hW1 ⟨⟨bq, Or.inr ⟨q2, q1⟩⟩, q2, fun i hi => by rw [er]; exact q3 i hi⟩ (by omega) hz hk.2 hK hP
  refine ⟨x_uc u' σ', nI hs.1, Or.inr ⟨rfl, hs, hzz.2.2.2.1.1, rfl, hJ⟩, by show x_n u ≤ x_n u'; omega, by show x_n u' ≤ _; omega, by show x_m u' ≤ _; omega, fun J => ?_⟩
  have eL : F_X12_lame q_F p u = some (nI s, u) := by rw [← h7]; exact F_lame (by unfold q_F; omega) hT.V hzz.1.1.1
  have eC : F_J6_bitCount_0f7a4 q_F (nI s) u = some (nI (z_cnt s 12), u) := F_bitCount hs4
  have kw : x_k w p = .inl 12 := hT1.k0
  have e3' : F_X12_notes q_F p 6 (-1) 0 1 w = some (nI 0, u') := e3
  have hcu : x_c u' = x_c u := by rw [c1]; exact f1.1
  rw [p_xo, h_xoE hT.k0, eL, z_xcall, eC, z_xcall]
  refine (e2 _).trans ?_
  rw [p_xo, h_xoE kw, e3', z_xcall, hcu, e1, z_xcalc, if_pos rfl]
end LP
