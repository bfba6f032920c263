/-! TEXTS 1, 2, 3: told, and read by the class -/
theorem y_cat_len {f : Nat → List Nat} {c : Nat} (h : ∀ k, (f k).length ≤ c) : ∀ N i, (y_cat f N i).length ≤ c * N
  | 0, i => Nat.zero_le _
  | N + 1, i => by
    have h1 := h i
    have h2 := y_cat_len h N (i+1)
    rw [y_cat_s, List.length_append, Nat.mul_succ]
    omega
theorem x_TI.cgn {τ : q_Sto} {p b mu me : Nat} {V V' : Nat → Int32} (h : x_TI τ p b mu me V) (hmu : mu ≤ 12) (hme : me ≤ 5) (e : ∀ a, a < 129 + mu → a ≠ 91 → a ≠ 92 → V' a = V a) : x_TI τ p b mu me V' := by
  obtain ⟨⟨t0, t1, t2, t3, t4, t5, t6, t7, t8, t9, ta⟩, tm, tk⟩ := h
  refine ⟨?_, fun m hm => ?_, fun k hk => ?_⟩
  · rw [e 5 (by omega) (by omega) (by omega), e 0 (by omega) (by omega) (by omega), e 1 (by omega) (by omega) (by omega), e 2 (by omega) (by omega) (by omega), e 3 (by omega) (by omega) (by omega), e 4 (by omega) (by omega) (by omega), e 88 (by omega) (by omega) (by omega), e 6 (by omega) (by omega) (by omega), e 90 (by omega) (by omega) (by omega)]
    exact ⟨t0, t1, t2, t3, t4, t5, t6, t7, t8, t9, ta⟩
  · obtain ⟨q0, q1, q2, q3, q4, q5⟩ := tm m hm
    rw [e (95+m) (by omega) (by omega) (by omega), e (107+m) (by omega) (by omega) (by omega), e 7 (by omega) (by omega) (by omega), e (8+m) (by omega) (by omega) (by omega), e (129+m) (by omega) (by omega) (by omega)]
    exact ⟨q0, q1, q2, q3, q4, fun k hk => by rw [e _ (by omega) (by omega) (by omega)]; exact q5 k hk⟩
  · obtain ⟨q0, q1, q2⟩ := tk k hk
    rw [e (80+k) (by omega) (by omega) (by omega), e (119+k) (by omega) (by omega) (by omega), e (124+k) (by omega) (by omega) (by omega)]
    exact ⟨q0, q1, q2⟩
theorem x_TB.cgn {u : x_U} {Fz : Nat → Prop} {p b L pl pa mu me : Nat} {d : Nat → Nat} {V V' : Nat → Int32} (h : x_TB u Fz p b L pl pa mu me d V) (e : ∀ a, (a < 129 + mu ∧ a ≠ 91 ∧ a ≠ 92) ∨ 305 ≤ a → V' a = V a) : x_TB u Fz p b L pl pa mu me d V' := by
  have hb := h.bd
  obtain ⟨h1, h2, h3, h4, h5, h8⟩ := h
  exact ⟨h1, h2.cgn (by omega) (by omega) (fun a ha h1 h2 => e a (Or.inl ⟨ha, h1, h2⟩)), h3, h4, h5, h8.cg (e 6 (by omega)) (fun a a1 a2 => e a (Or.inr a1))⟩
/-- the train's own field 14 set -/
theorem x_TB.pl' {u : x_U} {Fz : Nat → Prop} {p b L pl pa mu me q : Nat} {d : Nat → Nat} {V : Nat → Int32} (h : x_TB u Fz p b L pl pa mu me d V) : x_TB (x_ur u p 14 q) Fz p b L q pa mu me d V := by
  obtain ⟨⟨⟨a1, a2, a3, a4, a5, a6⟩, k, r1, r2, r3, r4, r5, r6, r7, r8⟩, h2, h3, h4, h5, w, w1, w2, w3⟩ := h
  have e : ∀ i, i ≠ p → x_r (x_ur u p 14 q) i = x_r u i := fun i hi => x_up_o hi
  have ek : ∀ j, j ≠ 14 → x_r (x_ur u p 14 q) p j = x_r u p j := fun j hj => x_up_k hj
  have es : x_r (x_ur u p 14 q) p 14 = q := x_up_s
  refine ⟨⟨⟨a1, a2, a3, a4, a5, a6⟩, k, ?_⟩, h2, h3, h4, h5, w, w1, w2, ?_⟩
  · rw [ek 12 (by omega), ek 13 (by omega), ek 16 (by omega), ek 17 (by omega), ek 15 (by omega), es, e (p+1) (by omega), e (p+2) (by omega)]
    exact ⟨r1, r2, r3, r4, rfl, r6, r7, r8⟩
  · rw [e (p+5) (by omega)]
    exact w3
theorem x_TB.pa' {u : x_U} {Fz : Nat → Prop} {p b L pl pa mu me q : Nat} {d : Nat → Nat} {V : Nat → Int32} (h : x_TB u Fz p b L pl pa mu me d V) : x_TB (x_ur u p 15 q) Fz p b L pl q mu me d V := by
  obtain ⟨⟨⟨a1, a2, a3, a4, a5, a6⟩, k, r1, r2, r3, r4, r5, r6, r7, r8⟩, h2, h3, h4, h5, w, w1, w2, w3⟩ := h
  have e : ∀ i, i ≠ p → x_r (x_ur u p 15 q) i = x_r u i := fun i hi => x_up_o hi
  have ek : ∀ j, j ≠ 15 → x_r (x_ur u p 15 q) p j = x_r u p j := fun j hj => x_up_k hj
  have es : x_r (x_ur u p 15 q) p 15 = q := x_up_s
  refine ⟨⟨⟨a1, a2, a3, a4, a5, a6⟩, k, ?_⟩, h2, h3, h4, h5, w, w1, w2, ?_⟩
  · rw [ek 12 (by omega), ek 13 (by omega), ek 16 (by omega), ek 17 (by omega), ek 14 (by omega), es, e (p+1) (by omega), e (p+2) (by omega)]
    exact ⟨r1, r2, r3, r4, r5, rfl, r7, r8⟩
  · rw [e (p+5) (by omega)]
    exact w3
def y_N1 (x : Int32) (mu : Nat) : Nat := if mu < 2 then 0 else y_bt (x >>> (3 &&& 31)) 0 12
def y_N2 (x : Int32) : Nat := y_bt (x >>> (5 &&& 31)) 0 10
def y_N3 (x : Int32) : Nat := y_bt (x >>> (6 &&& 31)) 0 14
section TX
variable {p b L pl pa mu me Lx wn : Nat} {xs : Nat → Int32} {d : Nat → Nat} {Fz : Nat → Prop} {V : Nat → Int32} {hs : z_Hs} {u : x_U} {x : Int32}
set_option maxHeartbeats 4000000 in
theorem T_txt1 {N : Nat} (hN : N = 0 ∨ 2 ≤ mu) (hN2 : N ≤ 12) (hT : x_TB u Fz p b L pl pa mu me d V) (hz : z_CS mu me (x_c u) V hs wn) (hW : y_WC Lx xs u) (hb : x_n u + 400 ≤ 500000) :
    ∃ u', x_TB u' Fz p b L pl pa mu me d (y_V1 V N (y_hh x mu)) ∧ z_CS mu me (x_c u') (y_V1 V N (y_hh x mu)) y_h0 wn ∧ y_WC Lx xs u' ∧ x_fr (x_own p b mu me) (x_uc u (x_c u')) u' ∧ x_n u' ≤ x_n u + 270 ∧ x_m u' ≤ x_m u + 22200 ∧
    ∀ K : x_U → Option (Int32 × x_U), (x_new u 14 fun o4 s5 =>
    x_o s5 o4 14 <|
    x_call (F_J4_init_da8c8 q_F o4 s5) fun _ s6 =>
    F_L_texts_L34 q_F p x (nI N) o4 (fun  (s13 : x_U) =>
    x_pi s13 p 12 10 (nI N) fun s14 =>
    F_L_texts_L67 q_F p x (nI N) o4 (fun  (s82 : x_U) =>
    x_o s82 o4 14 <|
    x_call (F_J4_toString_0e30d q_F o4 s82) fun o84 s83 =>
    x_call (F_L_say q_F o84 s83) fun _ s86 =>
    x_calc s86 (f_X11_text q_F 0 1 (x_c s86)) fun r89 s88 =>
    if r89 = nI N then K s88 else some (0, s88)) q_F 0 s14) q_F 0 s6) = K u' := by
  have hbd := hT.bd
  have hF5 : 5 ≤ q_F := by unfold q_F; omega
  have hFm : mu < q_F + 0 := by unfold q_F; omega
  have hFN : N < q_F + 0 := by unfold q_F; omega
  have hFz : ∀ i, Fz i → i < x_n u := hT.2.2.1.1
  have hown : ∀ i, x_own p b mu me i → i < x_n u := fun i hi => by unfold x_own at hi; omega
  obtain ⟨u1, c1, n1, f1, e1⟩ := CH_new (n := q_F) (own := x_own p b mu me) (u := u) (by omega) (by omega)
  have hT1 := hT.fr f1 (by omega) (fun _ _ h => h) (fun _ _ h => h)
  have hf01 : x_fr (x_own p b mu me) u u1 := f1.mono (fun i hi => hi.elim)
  obtain ⟨w2, V2, a1, a2, a3, a4, a5, a6, a7⟩ := T_34 (n := q_F) (x := x) (y := nI N) (o4 := x_n u) (U0 := u) hFz q_F 0 u1 V (Nat.zero_le _) hFm hT1 (fun m hm => by omega) hf01
  have c2 := c1.ext (a := 0) (b := 0) a4 (by omega) (by omega) (by omega) hown
  have hp : x_own p b mu me p := by unfold x_own; omega
  have hT3 : x_TB (x_ui w2 p 10 (nI N)) Fz p b L pl pa mu me d (z_u V2 90 (nI N)) := a1.ui hp (a1.2.1.hn (by omega) (by omega) (by omega)) (z_uK (by omega)) (fun a h1 h2 => z_uK (by omega))
  have c3 := c2.ext (a := 0) (b := 0) (x_fr.ui (k := 10) (v := nI N) hp) (Nat.le_refl _) (Nat.le_refl _) (by show x_n w2 ≤ 500000; omega) hown
  have f03 := c3.1
  have hW3 : y_WC Lx xs (x_ui w2 p 10 (nI N)) := hW.fr f03 (fun i hi => by have := hown i hi; omega)
  obtain ⟨w4, V4, vm, c4, hW4, hT4, b4, b5, b6⟩ := T_67 (n := q_F) (x := x) (N := N) (U0 := u) hF5 hN hN2 hFz hbd.2.2.1 q_F 0 _ _ _ _ _ _ (Nat.zero_le _) hFN c3 hW3 hT3 (fun m hm => by
    rw [z_uK (by omega), a3 m hm]
    rfl) (by omega) (by exact Nat.zero_le _)
  have hlen : ([] ++ y_cat (y_fH x mu) (N - 0) 0).length ≤ 380 := by
    rw [List.nil_append, Nat.sub_zero]
    by_cases q : N = 0
    · subst q
      exact Nat.zero_le _
    · have := y_cat_len (f := y_fH x mu) (c := 30) (fun k => by
        obtain ⟨g1, g2, g3, g4, g5⟩ := y_h_b (x := x) (k := k) (mu := mu) (by omega)
        exact y_hl_len (by omega) (by omega) (by omega)) N 0
      omega
  have c4b := c4.bd
  have c40 := c4.1
  have c41 := c4.2.1
  have c42 := c4.2.2.1
  have hc4 : x_c w4 = x_c u := c40.1
  obtain ⟨w5, T, g1, g2, g3, g4, g5, g6, g7, g8, g9⟩ := T_told (n := q_F) rfl c4 hW4 hlen (by rw [hc4]; exact hz.2.2.2.2.2.1) (by omega)
  rw [List.nil_append, Nat.sub_zero] at g8
  obtain ⟨σ', t1, t2⟩ := c_text1 (N := N) (T := T) (M := fun k => y_hM x mu k) (A := fun k => y_hA x mu k) (B := fun k => y_hB x mu k) (two := fun k => y_hT x k) (σ := x_c w5) (by omega) hz (fun o o1 o2 => by rw [g5 o o1 o2, hc4]) g6 g7 g8 (fun i hi => y_h_b (by omega))
  have fA : x_fr (x_own p b mu me) (x_uc u σ') (x_uc w5 σ') := by
    have q1 : x_fr (x_own p b mu me) (x_uc u (x_c w5)) (x_uc w4 (x_c w5)) := c40.uc
    exact (q1.tr (g1.mono (fun i hi => hi.elim))).uc
  refine ⟨x_uc w5 σ', ?_, t2, g4, fA, by show x_n w5 ≤ _; omega, by show x_m w5 ≤ _; omega, fun K => ?_⟩
  · have hT4c : x_TB (x_uc w4 (x_c w5)) Fz p b L pl pa mu me d V4 := hT4
    have hT5 := hT4c.fr g1 (by omega) (fun _ _ h => h) (fun _ _ h => h)
    have hT6 : x_TB (x_uc w5 σ') Fz p b L pl pa mu me d V4 := hT5
    refine hT6.cg (fun a ha => ?_)
    unfold y_V1
    by_cases q : a = 90
    · rw [if_pos q, b4 a (by omega), q, z_uS]
    · rw [if_neg q]
      by_cases q2 : 129 ≤ a ∧ a < 141
      · rw [if_pos q2]
        have := b5 (a - 129) (by omega)
        rw [show 129 + (a - 129) = a by omega] at this
        exact this.symm
      · rw [if_neg q2, b4 a (by omega), z_uK q, a2 a (by omega)]
  · refine (e1 _ (fun o4 s6 => F_L_texts_L34 q_F p x (nI N) o4 _ q_F 0 s6)).trans ?_
    refine (a7 _).trans ?_
    rw [p_xpi, h_xpiE a1.1.2.1.1 (by omega)]
    refine (b6 _).trans ?_
    refine (g9 _ _).trans ?_
    rw [show (1 : Int32) = nI 1 from rfl, t1, z_xcalc, if_pos rfl]
end TX
