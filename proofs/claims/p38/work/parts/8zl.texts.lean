/-! all three texts -/
section TX
variable {p b L pl pa mu me Lx wn : Nat} {xs : Nat → Int32} {d : Nat → Nat} {Fz : Nat → Prop} {V : Nat → Int32} {hs : z_Hs} {u : x_U} {x : Int32}
theorem T_nm1 {J : Int32 → x_U → Option (Int32 × x_U)} (hmu : mu ≤ 12) : x_nm J (fun j21 => if nI mu < 2 then j21 0 u else x_call (F_L_between q_F (x >>> (3 &&& 31)) 0 12 u) fun r287 s286 => j21 r287 s286) = J (nI (y_N1 x mu)) u := by
  have l2 : (nI mu < (2 : Int32)) ↔ mu < 2 := by
    rw [show (2 : Int32) = nI 2 from rfl]
    exact nI_ltI (by omega) (by omega)
  rw [x_nmE]
  unfold y_N1
  by_cases h : mu < 2
  · rw [if_pos (l2.mpr h), if_pos h]
    rfl
  · have eB : F_L_between q_F (x >>> (3 &&& 31)) 0 12 u = some (nI (y_bt (x >>> (3 &&& 31)) 0 12), u) := F_btw (lo := 0) (hi := 12) (by omega) (by omega)
    rw [if_neg (fun q => h (l2.mp q)), if_neg h, eB, z_xcall]
theorem y_RW_PR {U0 w : x_U} {Fz' : Nat → Prop} {N D : Nat} {W : Nat → Int32} (hmu : mu ≤ 12) (hme : me ≤ 5) (hD : D ≤ 900) (hN : N ≤ 16) (h : y_RW U0 w pl N N 4 (y_rP x D mu me)) (hF : ∀ i, x_n U0 ≤ i → i < x_n w → Fz' i) (h91 : W 91 = nI N) (hV : ∀ i c, i < N → c < 4 → W (141+4*i+c) = y_rowP x D mu me i c) : x_PR w Fz' pl W me mu := by
  obtain ⟨⟨a1, a2, a3, a4⟩, a5⟩ := h
  refine ⟨N, hN, h91, hF _ a2 a3, a1, fun i hi => ?_⟩
  obtain ⟨⟨q1, q2⟩, q3, q4⟩ := a5 i hi
  obtain ⟨b1, b2, b3, b4, b5, b6, b7, b8, b9⟩ := y_p_b (x := x) (D := D) (k := i) hmu hme hD
  refine ⟨hF _ q1 q2, q3, ?_, ?_, ?_, y_pW x mu me i, b2, q4 1 (by omega), hV i 1 hi (by omega)⟩
  · exact (q4 0 (by omega)).trans (hV i 0 hi (by omega)).symm
  · refine (q4 2 (by omega)).trans ?_
    rw [hV i 2 hi (by omega)]
    show nI (y_pK x mu me i) = nI (if y_pW x mu me i = 3 then 0 else y_pK x mu me i)
    split
    · rename_i q; rw [b8 q]
    · rfl
  · refine (q4 3 (by omega)).trans ?_
    rw [hV i 3 hi (by omega)]
    show nI (y_pM x mu me i) = nI (if y_pW x mu me i = 0 ∨ y_pW x mu me i = 2 then y_pM x mu me i else 0)
    split
    · rfl
    · rename_i q; rw [b9 q]
theorem y_RW_WR {U0 w : x_U} {Fz' : Nat → Prop} {N : Nat} {W : Nat → Int32} (hN : N ≤ 16) (h : y_RW U0 w pa N N 3 (y_rW x)) (hF : ∀ i, x_n U0 ≤ i → i < x_n w → Fz' i) (h92 : W 92 = nI N) (hV : ∀ i c, i < N → c < 3 → W (205+3*i+c) = y_rW x i c) : x_WR w Fz' pa W := by
  obtain ⟨⟨a1, a2, a3, a4⟩, a5⟩ := h
  refine ⟨N, hN, h92, hF _ a2 a3, a1, fun i hi => ?_⟩
  obtain ⟨⟨q1, q2⟩, q3, q4⟩ := a5 i hi
  exact ⟨hF _ q1 q2, q3, (q4 0 (by omega)).trans (hV i 0 hi (by omega)).symm, (q4 1 (by omega)).trans (hV i 1 hi (by omega)).symm, (q4 2 (by omega)).trans (hV i 2 hi (by omega)).symm⟩
theorem x_TB.TN {u' : x_U} {Fz' : Nat → Prop} (h : x_TB u' Fz p b L pl pa mu me d V) (hF1 : ∀ i, Fz i → Fz' i) (hF2 : ∀ i, Fz' i → i < x_n u' ∧ ¬ x_own p b mu me i) (hP : x_PR u' Fz' pl V me mu) (hQ : x_WR u' Fz' pa V) : x_TN u' Fz' p b L pl pa mu me d V := by
  obtain ⟨h1, h2, h3, h4, h5, w, w1, w2, w3⟩ := h
  exact ⟨h1, h2, ⟨fun i hi => (hF2 i hi).1, fun i hi q => (hF2 i q).2 hi⟩, fun q => hF1 _ (h4 q), h5, hP, hQ, w, w1, w2, fun i hi => ⟨hF1 _ (w3 i hi).1, (w3 i hi).2⟩⟩
set_option maxHeartbeats 4000000 in
theorem F_texts {D : Nat} (hD : D ≤ 900) (hV0 : V 0 = nI D) (hT : x_TB u Fz p b L pl pa mu me d V) (hz : z_CS mu me (x_c u) V hs wn) (hW : y_WC Lx xs u) (hb : x_n u + 2000 ≤ 500000) :
    ∃ u' pl' pa' V', x_TN u' (fun i => Fz i ∨ (x_n u ≤ i ∧ i < x_n u')) p b L pl' pa' mu me d V' ∧ z_CS mu me (x_c u') V' y_h0 wn ∧ y_WC Lx xs u' ∧ x_fr (x_own p b mu me) (x_uc u (x_c u')) u' ∧ x_n u' ≤ x_n u + 1000 ∧ x_m u' ≤ x_m u + 84000 ∧ (∀ a, a < 90 ∨ (93 ≤ a ∧ a < 129) ∨ 253 ≤ a → V' a = V a) ∧ F_L_texts q_F p x u = some (1, u') := by
  have hbd := hT.bd
  have hown : ∀ i, x_own p b mu me i → i < x_n u := fun i hi => by unfold x_own at hi; omega
  have hN1 : y_N1 x mu = 0 ∨ 2 ≤ mu := by
    unfold y_N1
    by_cases h : mu < 2
    · exact Or.inl (if_pos h)
    · exact Or.inr (by omega)
  have hN1b : y_N1 x mu ≤ 12 := by
    unfold y_N1
    split
    · omega
    · exact (y_bt_b (lo := 0) (hi := 12) (by omega)).2
  have hN2b : y_N2 x ≤ 10 := (y_bt_b (lo := 0) (hi := 10) (by omega)).2
  have hN3b : y_N3 x ≤ 14 := (y_bt_b (lo := 0) (hi := 14) (by omega)).2
  obtain ⟨u1, hT1, hz1, hW1, f1, n1, m1, e1⟩ := T_txt1 (x := x) (N := y_N1 x mu) hN1 hN1b hT hz hW (by omega)
  have f1n : x_n u ≤ x_n u1 := f1.2.1
  obtain ⟨u2, pl', hT2, hR2, hz2, hW2, f2, n2, m2, e2⟩ := T_txt2 (x := x) (D := D) (N := y_N2 x) (by omega) hD (by
    show (y_V1 V (y_N1 x mu) (y_hh x mu)) 0 = nI D
    unfold y_V1
    rw [if_neg (by omega), if_neg (by omega)]
    exact hV0) hT1 hz1 hW1 (by omega)
  have f2n : x_n u1 ≤ x_n u2 := f2.2.1
  obtain ⟨u3, pa', hT3, hR3, hz3, hW3, f3, n3, m3, e3⟩ := T_txt3 (x := x) (N := y_N3 x) hN3b hT2 hz2 hW2 (by omega)
  have f3n : x_n u2 ≤ x_n u3 := f3.2.1
  have hb3 := hT3.bd
  refine ⟨u3, pl', pa', _, hT3.TN (Fz' := fun i => Fz i ∨ (x_n u ≤ i ∧ i < x_n u3)) (fun i hi => Or.inl hi) (fun i hi => ?_) ?_ ?_, hz3, hW3, ?_, by omega, by omega, fun a ha => ?_, ?_⟩
  · rcases hi with q | q
    · exact ⟨hT3.2.2.1.1 i q, fun h => hT3.2.2.1.2 i h q⟩
    · exact ⟨q.2, fun h => by have := hown i h; omega⟩
  · have hR2c : y_RW u1 (x_uc u2 (x_c u3)) pl' (y_N2 x) (y_N2 x) 4 (y_rP x D mu me) := hR2
    have hlo : ∀ i, x_n u1 ≤ i → ¬ x_own p b mu me i := fun i hi h => by have := hown i h; omega
    have hR := hR2c.fr f3 (hlo _ hR2.1.2.1) (fun i hi => hlo _ (hR2.2 i hi).1.1)
    refine y_RW_PR hbd.2.2.2.2.1 hbd.2.2.2.2.2 hD (by omega) hR (fun i q1 q2 => Or.inr ⟨by omega, q2⟩) ?_ (fun i c hi hc => ?_)
    · unfold y_V3
      rw [if_neg (by omega), if_neg (by omega)]
      exact if_pos rfl
    · unfold y_V3
      rw [if_neg (by omega), if_neg (by omega)]
      unfold y_V2
      rw [if_neg (by omega), if_pos (by omega), show (141 + 4 * i + c - 141) / 4 = i by omega, show (141 + 4 * i + c - 141) % 4 = c by omega]
  · refine y_RW_WR (by omega) hR3 (fun i q1 q2 => Or.inr ⟨by omega, q2⟩) (if_pos rfl) (fun i c hi hc => ?_)
    unfold y_V3
    rw [if_neg (by omega), if_pos (by omega), show (205 + 3 * i + c - 205) / 3 = i by omega, show (205 + 3 * i + c - 205) % 3 = c by omega]
  · have g1 : x_fr (x_own p b mu me) (x_uc u (x_c u3)) (x_uc u1 (x_c u3)) := f1.uc (σ := x_c u3)
    have g2 : x_fr (x_own p b mu me) (x_uc u1 (x_c u3)) (x_uc u2 (x_c u3)) := f2.uc (σ := x_c u3)
    exact (g1.tr g2).tr f3
  · unfold y_V3
    rw [if_neg (by omega), if_neg (by omega)]
    unfold y_V2
    rw [if_neg (by omega), if_neg (by omega)]
    unfold y_V1
    rw [if_neg (by omega), if_neg (by omega)]
  · have k1 : x_k u p = .inl 12 := hT.1.2.1.1
    have t7 : x_t u p 7 = nI mu := hT.2.1.1.2.2.2.2.2.2.2.1
    have eB2 : F_L_between q_F (x >>> (5 &&& 31)) 0 10 u1 = some (nI (y_N2 x), u1) := F_btw (lo := 0) (hi := 10) (by omega) (by omega)
    have eB3 : F_L_between q_F (x >>> (6 &&& 31)) 0 14 u2 = some (nI (y_N3 x), u2) := F_btw (lo := 0) (hi := 14) (by omega) (by omega)
    unfold F_L_texts
    rw [p_xgi, h_xgiE k1, t7]
    refine (T_nm1 hbd.2.2.2.2.1).trans ?_
    refine (e1 _).trans ?_
    show x_call (F_L_between q_F (x >>> (5 &&& 31)) 0 10 u1) _ = _
    rw [eB2, z_xcall]
    refine (e2 _).trans ?_
    show x_call (F_L_between q_F (x >>> (6 &&& 31)) 0 14 u2) _ = _
    rw [eB3, z_xcall]
    exact e3 (fun s284 => some (1, s284))
end TX
