/-! the train made -/
section TR
variable {p b L pl pa mu me Lx wn : Nat} {xs : Nat → Int32} {d : Nat → Nat} {Fz : Nat → Prop} {V : Nat → Int32} {hs : z_Hs} {u : x_U}
theorem y_LK.of {V' : Nat → Int32} (h : y_LK L d V) (e : ∀ a, a = 89 ∨ 905 ≤ a → V' a = V a) : y_LK L d V' := by
  refine ⟨h.1, fun h0 => by rw [e 89 (by omega)]; exact h.2.1 h0, fun h0 => ?_⟩
  obtain ⟨h1, h2, h3⟩ := h.2.2 h0
  refine ⟨by rw [e 89 (by omega)]; exact h1, fun i hi => ?_, fun j hj => ?_⟩
  · rw [e (905+i) (by omega), e (921+i) (by omega), e (937+i) (by omega), e (953+i) (by omega)]
    exact h2 i hi
  · rw [e (970+2*j) (by omega), e (970+2*j+1) (by omega)]
    exact h3 j hj
theorem x_TB.L' {q : Nat} (h : x_TB u Fz p b 0 pl pa mu me d V) (hF : Fz q) (hk : x_k u q = .inr (8, 0)) (ht : ∀ j, j < 8 → x_t u q j = nI (d j)) : x_TB (x_ur u p 17 q) Fz p b q pl pa mu me d V := by
  obtain ⟨⟨⟨a1, a2, a3, a4, a5, a6⟩, k, r1, r2, r3, r4, r5, r6, r7, r8⟩, h2, h3, h4, h5, w, w1, w2, w3⟩ := h
  have e : ∀ i, i ≠ p → x_r (x_ur u p 17 q) i = x_r u i := fun i hi => x_up_o hi
  have ek : ∀ j, j ≠ 17 → x_r (x_ur u p 17 q) p j = x_r u p j := fun j hj => x_up_k hj
  have es : x_r (x_ur u p 17 q) p 17 = q := x_up_s
  refine ⟨⟨⟨a1, a2, a3, a4, a5, a6⟩, k, ?_⟩, h2, h3, fun _ => hF, fun _ => ⟨hk, ht⟩, w, w1, w2, ?_⟩
  · rw [ek 12 (by omega), ek 13 (by omega), ek 16 (by omega), ek 14 (by omega), ek 15 (by omega), es, e (p+1) (by omega), e (p+2) (by omega)]
    exact ⟨r1, r2, r3, rfl, r5, r6, r7, r8⟩
  · rw [e (p+5) (by omega)]
    exact w3
theorem x_TB.Fz' {Fz' : Nat → Prop} (h : x_TB u Fz p b L pl pa mu me d V) (h1 : ∀ i, Fz i → Fz' i) (h2 : ∀ i, Fz' i → i < x_n u ∧ ¬ x_own p b mu me i) : x_TB u Fz' p b L pl pa mu me d V := by
  obtain ⟨a1, a2, a3, a4, a5, w, w1, w2, w3⟩ := h
  exact ⟨a1, a2, ⟨fun i hi => (h2 i hi).1, fun i hi q => (h2 i q).2 hi⟩, fun q => h1 _ (a4 q), a5, w, w1, w2, fun i hi => ⟨h1 _ (w3 i hi).1, (w3 i hi).2⟩⟩
/-- the day of one texts' end: the state asked -/
theorem T_end {x : Int32} {pl' pa' : Nat} (hT : x_TN u Fz p b L pl' pa' mu me d V) (hz : z_CS mu me (x_c u) V hs wn) (hW : y_WC Lx xs u) : ∃ u', x_TN u' Fz p b L pl' pa' mu me d (z_u V 5 x) ∧ z_CS mu me (x_c u') (z_u V 5 x) y_h0 wn ∧ y_WC Lx xs u' ∧ x_n u' = x_n u ∧ x_m u' = x_m u ∧ ∀ K : Nat → x_U → Option (Nat × x_U), (x_pi u p 12 0 x fun s145 =>
      x_gi s145 p 12 0 fun v146 =>
      x_calc s145 (f_X11_state q_F 0 v146 (x_c s145)) fun _ s147 => K p s147) = K p u' := by
  obtain ⟨σ', e1, h1⟩ := Q_state (x := x) hz
  have hbd := hT.bd
  have kp : x_k u p = .inl 12 := hT.1.2.1.1
  have kp2 : x_k (x_ui u p 0 x) p = .inl 12 := kp
  have t2 : x_t (x_ui u p 0 x) p 0 = x := x_up_s
  have hT1 := hT.sc (f := 0) (a := 5) (x := x) (Or.inl ⟨rfl, rfl⟩)
  have hp : x_own p b mu me p := by unfold x_own; omega
  have hW1 : y_WC Lx xs (x_ui u p 0 x) := hW.fr (x_fr.ui (own := x_own p b mu me) hp) (fun o hq => by unfold x_own at hq; omega)
  have e2 : f_X11_state q_F 0 x (x_c (x_ui u p 0 x)) = some (V 5, σ') := e1
  refine ⟨x_uc (x_ui u p 0 x) σ', hT1, h1, hW1, rfl, rfl, fun K => ?_⟩
  rw [p_xpi, h_xpiE kp (by omega), p_xgi, h_xgiE kp2, t2, e2, z_xcalc]
set_option maxHeartbeats 4000000 in
theorem T_sets {a c : Nat} (ha : a ≤ 9) (hc : c ≤ 5) (hT : x_TB u Fz p b L pl pa mu me d V) (hz : z_CS mu me (x_c u) V hs wn) (hW : y_WC Lx xs u) : ∃ u' V', x_TB u' Fz p b L pl pa mu me d V' ∧ z_CS mu me (x_c u') V' y_h0 wn ∧ y_WC Lx xs u' ∧ x_n u' = x_n u ∧ x_m u' = x_m u ∧ (∀ i, i ≠ 1 → i ≠ 88 → V' i = V i) ∧ ∀ (r7 : Int32) (e1 : ∀ s, F_L_between q_F (r7 >>> (4 &&& 31)) 0 9 s = some (nI a, s)) (e2 : ∀ s, F_L_between q_F (r7 >>> (7 &&& 31)) 0 5 s = some (nI c, s)) (K : x_U → Option (Nat × x_U)), (x_call (F_L_between q_F (r7 >>> (4 &&& 31)) 0 9 u) fun r128 s127 =>
    x_pi s127 p 12 6 r128 fun s129 =>
    x_call (F_L_between q_F (r7 >>> (7 &&& 31)) 0 5 s129) fun r131 s130 =>
    x_pi s130 p 12 2 r131 fun s132 =>
    x_gi s132 p 12 6 fun v133 =>
    x_calc s132 (f_X11_set q_F 0 0 0 v133 (x_c s132)) fun r135 s134 =>
    if r135 = 0 then (
    some (0, s134))
    else (
    x_gi s134 p 12 2 fun v136 =>
    x_calc s134 (f_X11_set q_F 0 1 0 v136 (x_c s134)) fun r138 s137 =>
    if r138 = 0 then (
    some (0, s137))
    else (
    K s137))) = K u' := by
  have hbd := hT.bd
  have hp : x_own p b mu me p := by unfold x_own; omega
  obtain ⟨σ1, f1, h1⟩ := Q_set0 (v := a) (x := 0) hz ha
  obtain ⟨σ2, f2, h2⟩ := Q_set1 (v := c) (x := 0) h1 (by omega)
  have kp : x_k u p = .inl 12 := hT.1.2.1.1
  have hT1 : x_TB (x_ui u p 6 (nI a)) Fz p b L pl pa mu me d (z_u V 88 (nI a)) := hT.ui hp (hT.2.1.sc (by omega) (by omega) (by omega) (by omega)) (z_uK (by omega)) (fun i i1 i2 => z_uK (by omega))
  have hT2 : x_TB (x_ui (x_ui u p 6 (nI a)) p 2 (nI c)) Fz p b L pl pa mu me d (z_u (z_u V 88 (nI a)) 1 (nI c)) := hT1.ui hp (hT1.2.1.sc (by omega) (by omega) (by omega) (by omega)) (z_uK (by omega)) (fun i i1 i2 => z_uK (by omega))
  have hW1 : y_WC Lx xs (x_ui u p 6 (nI a)) := hW.fr (x_fr.ui (own := x_own p b mu me) hp) (fun o hq => by unfold x_own at hq; omega)
  have hW2 : y_WC Lx xs (x_ui (x_ui u p 6 (nI a)) p 2 (nI c)) := hW1.fr (x_fr.ui (own := x_own p b mu me) hp) (fun o hq => by unfold x_own at hq; omega)
  refine ⟨x_uc (x_ui (x_ui u p 6 (nI a)) p 2 (nI c)) σ2, _, hT2, h2, hW2, rfl, rfl, fun i i1 i2 => by rw [z_uK i1, z_uK i2], fun r7 e1 e2 K => ?_⟩
  have k1 : x_k (x_ui u p 6 (nI a)) p = .inl 12 := kp
  have k2 : x_k (x_ui (x_ui u p 6 (nI a)) p 2 (nI c)) p = .inl 12 := kp
  have k3 : x_k (x_uc (x_ui (x_ui u p 6 (nI a)) p 2 (nI c)) σ1) p = .inl 12 := kp
  have t6 : x_t (x_ui (x_ui u p 6 (nI a)) p 2 (nI c)) p 6 = nI a := (x_up_k (by omega)).trans x_up_s
  have t2 : x_t (x_uc (x_ui (x_ui u p 6 (nI a)) p 2 (nI c)) σ1) p 2 = nI c := x_up_s
  have g1 : f_X11_set q_F 0 0 0 (nI a) (x_c (x_ui (x_ui u p 6 (nI a)) p 2 (nI c))) = some (nI 1, σ1) := f1
  have g2 : f_X11_set q_F 0 1 0 (nI c) (x_c (x_uc (x_ui (x_ui u p 6 (nI a)) p 2 (nI c)) σ1)) = some (nI 1, σ2) := f2
  rw [e1, z_xcall, p_xpi, h_xpiE kp (by omega), e2, z_xcall, p_xpi, h_xpiE k1 (by omega), p_xgi, h_xgiE k2, t6, g1, z_xcalc, if_neg (by decide), p_xgi, h_xgiE k3, t2, g2, z_xcalc, if_neg (by decide)]
  rfl
end TR
