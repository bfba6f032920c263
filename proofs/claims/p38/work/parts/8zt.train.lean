/-! the train made: all of it -/
section TR
variable {p b L pl pa mu me Lx wn : Nat} {xs : Nat → Int32} {d : Nat → Nat} {Fz : Nat → Prop} {V : Nat → Int32} {hs : z_Hs} {u : x_U}
theorem x_TI.cg0 {τ : q_Sto} {V' : Nat → Int32} (h : x_TI τ p b mu me V) (hmu : mu ≤ 12) (hme : me ≤ 5) (e : ∀ a, a < 905 → a ≠ 89 → V' a = V a) : x_TI τ p b mu me V' := by
  obtain ⟨⟨t0, t1, t2, t3, t4, t5, t6, t7, t8, t9, ta⟩, tm, tk⟩ := h
  refine ⟨?_, fun m hm => ?_, fun k hk => ?_⟩
  · rw [e 5 (by omega) (by omega), e 0 (by omega) (by omega), e 1 (by omega) (by omega), e 2 (by omega) (by omega), e 3 (by omega) (by omega), e 4 (by omega) (by omega), e 88 (by omega) (by omega), e 6 (by omega) (by omega), e 90 (by omega) (by omega)]
    exact ⟨t0, t1, t2, t3, t4, t5, t6, t7, t8, t9, ta⟩
  · obtain ⟨q0, q1, q2, q3, q4, q5⟩ := tm m hm
    rw [e (95+m) (by omega) (by omega), e (107+m) (by omega) (by omega), e 7 (by omega) (by omega), e (8+m) (by omega) (by omega), e (129+m) (by omega) (by omega)]
    exact ⟨q0, q1, q2, q3, q4, fun k hk => by rw [e _ (by omega) (by omega)]; exact q5 k hk⟩
  · obtain ⟨q0, q1, q2⟩ := tk k hk
    rw [e (80+k) (by omega) (by omega), e (119+k) (by omega) (by omega), e (124+k) (by omega) (by omega)]
    exact ⟨q0, q1, q2⟩
theorem x_TB.cg0 {V' : Nat → Int32} (h : x_TB u Fz p b L pl pa mu me d V) (e : ∀ a, a < 905 → a ≠ 89 → V' a = V a) : x_TB u Fz p b L pl pa mu me d V' := by
  have hb := h.bd
  obtain ⟨h1, h2, h3, h4, h5, h8⟩ := h
  exact ⟨h1, h2.cg0 (by omega) (by omega) e, h3, h4, h5, h8.cg (e 6 (by omega) (by omega)) (fun a a1 a2 => e a a2 (by omega))⟩
set_option maxHeartbeats 4000000 in
theorem T_main {r7 : Int32} (hL : Lx ≤ 260) (hT : x_TB u Fz p b L pl pa 0 0 d V) (hz : z_CS 0 0 (x_c u) V hs wn) (hW : y_WC Lx xs u) (hV0 : V 0 = nI 0) (hb : x_n u + 2100 ≤ 500000) : ∃ u' b' pl' pa' mu' me' V' Fz', x_TN u' Fz' p b' L pl' pa' mu' me' d V' ∧ z_CS mu' me' (x_c u') V' y_h0 wn ∧ V' 0 = nI 0 ∧ y_WC Lx xs u' ∧ x_n u' ≤ x_n u + 1020 ∧ x_m u' ≤ x_m u + 84200 ∧ (∀ a, a = 89 ∨ 905 ≤ a → V' a = V a) ∧ (∀ i, Fz' i → Fz i ∨ x_n u ≤ i) ∧ (x_call (F_L_between q_F (r7 >>> (3 &&& 31)) 0 12 u) fun r38 s37 =>
    F_L_train_L296 q_F (x_CT + 2) 0 p r7 r38 (fun  (s80 : x_U) =>
    x_call (F_L_between q_F (r7 >>> (6 &&& 31)) 0 5 s80) fun r82 s81 =>
    F_L_train_L508 q_F (x_CT + 2) 0 p r7 r82 (fun  (s126 : x_U) =>
    x_call (F_L_between q_F (r7 >>> (4 &&& 31)) 0 9 s126) fun r128 s127 =>
    x_pi s127 p 12 6 r128 fun s129 =>
    x_call (F_L_between q_F (r7 >>> (7 &&& 31)) 0 5 s129) fun r131 s130 =>
    x_pi s130 p 12 2 r131 fun s132 =>
    x_gi s132 p 12 6 fun v133 =>
    x_calc s132 (f_X11_set q_F 0 0 0 v133 (x_c s132)) fun r135 s134 =>
    if r135 = 0 then (
    some (0, s134))
    else (
    x_gi s134 p 12 2 fun v136 =>
    x_calc s134 (f_X11_set q_F 0 1 0 v136 (x_c s134)) fun r138 s137 =>
    if r138 = 0 then (
    some (0, s137))
    else (
    x_call (F_L_cell q_F (x_CT + 2) (0 + 4) s137) fun r140 s139 =>
    x_call (F_L_texts q_F p r140 s139) fun r142 s141 =>
    if r142 = 0 then (
    some (0, s141))
    else (
    x_call (F_L_cell q_F (x_CT + 2) (0 + 5) s141) fun r144 s143 =>
    x_pi s143 p 12 0 r144 fun s145 =>
    x_gi s145 p 12 0 fun v146 =>
    x_calc s145 (f_X11_state q_F 0 v146 (x_c s145)) fun _ s147 =>
    some (p, s147))))) q_F 0 s81) q_F 0 s37) = some (p, u') := by
  obtain ⟨N1, hN1⟩ : ∃ N, N = y_bt (r7 >>> (3 &&& 31)) 0 12 := ⟨_, rfl⟩
  obtain ⟨N2, hN2⟩ : ∃ N, N = y_bt (r7 >>> (6 &&& 31)) 0 5 := ⟨_, rfl⟩
  obtain ⟨N3, hN3⟩ : ∃ N, N = y_bt (r7 >>> (4 &&& 31)) 0 9 := ⟨_, rfl⟩
  obtain ⟨N4, hN4⟩ : ∃ N, N = y_bt (r7 >>> (7 &&& 31)) 0 5 := ⟨_, rfl⟩
  have b1 : N1 ≤ 12 := by rw [hN1]; exact (y_bt_b (lo := 0) (hi := 12) (by omega)).2
  have b2 : N2 ≤ 5 := by rw [hN2]; exact (y_bt_b (lo := 0) (hi := 5) (by omega)).2
  have b3 : N3 ≤ 9 := by rw [hN3]; exact (y_bt_b (lo := 0) (hi := 9) (by omega)).2
  have b4 : N4 ≤ 5 := by rw [hN4]; exact (y_bt_b (lo := 0) (hi := 5) (by omega)).2
  have e1 : F_L_between q_F (r7 >>> (3 &&& 31)) 0 12 u = some (nI N1, u) := by rw [hN1]; exact F_btw (lo := 0) (hi := 12) (by omega) (by omega)
  have e2 : ∀ s : x_U, F_L_between q_F (r7 >>> (6 &&& 31)) 0 5 s = some (nI N2, s) := fun s => by rw [hN2]; exact F_btw (lo := 0) (hi := 5) (by omega) (by omega)
  have e3 : ∀ s : x_U, F_L_between q_F (r7 >>> (4 &&& 31)) 0 9 s = some (nI N3, s) := fun s => by rw [hN3]; exact F_btw (lo := 0) (hi := 9) (by omega) (by omega)
  have e4 : ∀ s : x_U, F_L_between q_F (r7 >>> (7 &&& 31)) 0 5 s = some (nI N4, s) := fun s => by rw [hN4]; exact F_btw (lo := 0) (hi := 5) (by omega) (by omega)
  have hbd := hT.bd
  have hF1 : N1 < q_F + 0 := by unfold q_F; omega
  have hF2 : N2 < q_F + 0 := by unfold q_F; omega
  have hTb := hT.b0 (b' := x_n u) (by omega) (Nat.le_refl _)
  obtain ⟨w1, V1, hs1, n1, m1, hT1, hz1, hW1, v1, t1, g1⟩ := T_296 (b := x_n u) (x4 := r7) hL b1 q_F 0 u V hs (Nat.zero_le _) hF1 rfl (by omega) hTb hz hW (fun m hm => by omega)
  obtain ⟨w2, V2, hs2, n2, m2, hT2, hz2, hW2, v2, g2⟩ := T_508 (x4 := r7) hL b2 q_F 0 w1 V1 hs1 (Nat.zero_le _) hF2 n1 (by omega) hT1 hz1 hW1 t1
  obtain ⟨w3, V3, hT3, hz3, hW3, n3, m3, v3, g3⟩ := T_sets b3 b4 hT2 hz2 hW2
  have hV30 : V3 0 = nI 0 := by rw [v3 0 (by omega) (by omega), v2 0 (by omega), v1 0 (by omega)]; exact hV0
  obtain ⟨w4, pl', pa', V4, hT4, hz4, hW4, f4, n4, m4, v4, g4⟩ := F_texts (x := y_ce Lx xs 4) (D := 0) (by omega) hV30 hT3 hz3 hW3 (by omega)
  obtain ⟨w5, hT5, hz5, hW5, n5, m5, g5⟩ := T_end (x := y_ce Lx xs 5) hT4 hz4 hW4
  refine ⟨w5, x_n u, pl', pa', N1, N2, _, _, hT5, hz5, by rw [z_uK (by omega), v4 0 (by omega)]; exact hV30, hW5, by omega, by omega, fun a ha => ?_, fun i hi => ?_, ?_⟩
  · rw [z_uK (by omega), v4 a (by omega), v3 a (by omega) (by omega), v2 a (by omega), v1 a (by omega)]
  · rcases hi with q | q
    · exact Or.inl q
    · exact Or.inr (by omega)
  · rw [e1, z_xcall]
    refine (g1 _).trans ?_
    rw [e2, z_xcall]
    refine (g2 _).trans ?_
    refine (g3 r7 e3 e4 _).trans ?_
    have c4 : F_L_cell q_F (x_CT + 2) (0 + 4) w3 = some (y_ce Lx xs 4, w3) := F_cell (i := 4) rfl (by omega) hL hW3
    have c5 : F_L_cell q_F (x_CT + 2) (0 + 5) w4 = some (y_ce Lx xs 5, w4) := F_cell (i := 5) rfl (by omega) hL hW4
    rw [c4, z_xcall, g4, z_xcall, if_neg (by decide), c5, z_xcall]
    exact g5 (fun a s => some (a, s))
set_option maxHeartbeats 4000000 in
theorem F_train (hL : Lx ≤ 260) (hz : z_CS 0 0 (x_c u) V hs wn) (h0 : hs.1 = 0) (hW : y_WC Lx xs u) (hV : V 5 = nI 0 ∧ V 0 = nI 0 ∧ V 1 = nI 0 ∧ V 2 = z_m ∧ V 3 = nI 0 ∧ V 4 = nI 0 ∧ V 88 = nI 0 ∧ V 6 = nI 0 ∧ V 90 = nI 0) (h89 : V 89 = nI 0) (hu : 157 ≤ x_n u) (hb : x_n u + 2500 ≤ 500000) : ∃ u' p b L pl pa mu me d V' Fz, x_TN u' Fz p b L pl pa mu me d V' ∧ z_CS mu me (x_c u') V' y_h0 wn ∧ V' 0 = nI 0 ∧ y_LK L d V' ∧ y_WC Lx xs u' ∧ x_n u' ≤ x_n u + 1080 ∧ x_m u' ≤ x_m u + 95500 ∧ p = x_n u ∧ (∀ i, Fz i → x_n u ≤ i) ∧ F_L_train q_F (x_CT + 2) 0 u = some (p, u') := by
  obtain ⟨d, hd⟩ : ∃ d, d = y_dd (y_ce Lx xs 1) := ⟨_, rfl⟩
  have hd60 : ∀ j, d j ≤ 60 := fun j => by rw [hd]; exact y_dd_le j
  have hV0 := hV.2.1
  obtain ⟨w1, hT1, f1, n1, m1, g1⟩ := F_made (d := d) hu (by omega) hV
  have hW1 := hW.fr f1 (fun i h => h.elim)
  have hz1 : z_CS 0 0 (x_c w1) V hs wn := by rw [f1.1]; exact hz
  obtain ⟨w2, f2, n2, m2, k2, t2, g2⟩ := T_dd (u := w1) (v := y_ce Lx xs 1) (by omega)
  have hW2 := hW1.fr f2 (fun i h => h.elim)
  have hz2 : z_CS 0 0 (x_c w2) V hs wn := by rw [f2.1]; exact hz1
  rw [← hd] at t2
  have hT2 := (hT1.fr f2 (by omega) (fun _ _ h => h) (fun _ _ h => h)).Fz' (Fz' := fun i => i = x_n w1) (fun i h => h.elim) (fun i hi => by
    have hi : i = x_n w1 := hi
    refine ⟨by omega, fun h => ?_⟩
    unfold x_own at h
    omega)
  have c0 : F_L_cell q_F (x_CT + 2) 0 w1 = some (y_ce Lx xs 0, w1) := F_cell (i := 0) rfl (by omega) hL hW1
  have c1 : F_L_cell q_F (x_CT + 2) (0 + 1) w1 = some (y_ce Lx xs 1, w1) := F_cell (i := 1) rfl (by omega) hL hW1
  by_cases hc : (((y_ce Lx xs 0) >>> (5 &&& 31)) &&& 7) ≤ 0
  · obtain ⟨u', b', pl', pa', mu', me', V', Fz', a1, a2, a0, a3, a4, a5, a6, a7, a8⟩ := T_main (r7 := y_ce Lx xs 0) hL hT2 hz2 hW2 hV0 (by omega)
    refine ⟨u', x_n u, b', 0, pl', pa', mu', me', d, V', Fz', a1, a2, a0, ?_, a3, by omega, by omega, rfl, fun i hi => ?_, ?_⟩
    · exact (show y_LK 0 d V from ⟨hd60, fun _ => h89, fun h => absurd rfl h⟩).of a6
    · rcases a7 i hi with q | q
      · have q : i = x_n w1 := q
        omega
      · omega
    · unfold F_L_train
      refine (g1 _).trans ?_
      rw [c0, z_xcall, c1, z_xcall]
      refine (g2 _).trans ?_
      rw [x_nmE, if_pos hc]
      exact a8
  · have hT3 := hT2.L' (q := x_n w1) rfl k2 t2
    have hp : x_own (x_n u) (x_n u + 6) 0 0 (x_n u) := by unfold x_own; omega
    have hW3 : y_WC Lx xs (x_ur w2 (x_n u) 17 (x_n w1)) := hW2.fr (x_fr.ur (own := x_own (x_n u) (x_n u + 6) 0 0) hp) (fun o hq => by unfold x_own at hq; omega)
    obtain ⟨w4, f4, n4, m4, hW4, hz4, g4⟩ := T_text0 (u := x_ur w2 (x_n u) 17 (x_n w1)) (q := x_n w1) (d := d) hz2 h0 hW3 hd60 (by show 157 ≤ x_n w2; omega) (by show x_n w2 + 100 ≤ _; omega) k2 t2 (by show x_n w1 < x_n w2; omega)
    have n4' : x_n w4 ≤ x_n w2 + 44 := n4
    have m4' : x_m w4 ≤ x_m w2 + 11100 := m4
    have n4l : x_n w2 ≤ x_n w4 := f4.2.1
    have hT3c : x_TB (x_uc (x_ur w2 (x_n u) 17 (x_n w1)) (x_c w4)) (fun i => i = x_n w1) (x_n u) (x_n u + 6) (x_n w1) (x_n u + 3) (x_n u + 4) 0 0 d V := hT3
    have hT4 := (hT3c.fr f4 (by omega) (fun _ _ h => h) (fun _ _ h => h)).cg0 (V' := y_V0 V d) (fun a a1 a2 => by
      unfold y_V0
      rw [if_neg a2, if_pos a1])
    have hL0 : x_n w1 ≠ 0 := by omega
    obtain ⟨u', b', pl', pa', mu', me', V', Fz', a1, a2, a0, a3, a4, a5, a6, a7, a8⟩ := T_main (r7 := y_ce Lx xs 0) hL hT4 hz4 hW4 hV0 (by omega)
    refine ⟨u', x_n u, b', x_n w1, pl', pa', mu', me', d, V', Fz', a1, a2, a0, (y_V0_LK hd60 hL0).of a6, a3, by omega, by omega, rfl, fun i hi => ?_, ?_⟩
    · rcases a7 i hi with q | q
      · have q : i = x_n w1 := q
        omega
      · omega
    · have kp : x_k w2 (x_n u) = .inl 12 := hT2.1.2.1.1
      unfold F_L_train
      refine (g1 _).trans ?_
      rw [c0, z_xcall, c1, z_xcall]
      refine (g2 _).trans ?_
      rw [x_nmE, if_neg hc, p_xpr, h_xprE kp (by omega)]
      refine (g4 _).trans ?_
      exact a8
end TR
