/-! the law's loop: what holds at each step -/
def y_I (Lx : Nat) (xs : Nat → Int32) (a mu me L : Nat) (d : Nat → Nat) (u : x_U) (p b pl pa : Nat) (V : Nat → Int32) (hs : z_Hs) (wn : Nat) (Fz : Nat → Prop) (S : Nat → Nat → (Nat → Int32) → Prop) (B : Nat) : Prop :=
  y_AL L pl pa mu me d u Fz S ∧ S p b V ∧ y_WA mu me u Fz a S p hs ∧ z_CS mu me (x_c u) V hs wn ∧ y_LK L d V ∧ y_DB hs B ∧ (∃ D, D ≤ B ∧ V 0 = nI D) ∧ y_WC Lx xs u
/-- a copy that is not yet kept -/
def y_Q (a mu me : Nat) (u : x_U) (p q : Nat) (V : Nat → Int32) (hs : z_Hs) (S : Nat → Nat → (Nat → Int32) → Prop) : Prop := (∃ bq, S q bq V) ∧ q ≠ p ∧ ∀ i, i < hs.1 → x_r u a i ≠ q
def y_J (Lx : Nat) (xs : Nat → Int32) (a mu me L : Nat) (d : Nat → Nat) (u : x_U) (p q : Nat) (hs : z_Hs) (B : Nat) : Prop :=
  ∃ b pl pa V W wn w' Fz S, y_AL L pl pa mu me d u Fz S ∧ S p b W ∧ y_Q a mu me u p q V hs S ∧ y_WA mu me u Fz a S p hs ∧ z_CS mu me (x_c u) W (z_push hs V wn) w' ∧ y_LK L d W ∧ y_DB hs B ∧ (∃ D, D ≤ B ∧ V 0 = nI D ∧ W 0 = nI D) ∧ y_WC Lx xs u
section LP
variable {p b L pl pa mu me Lx wn a B : Nat} {xs : Nat → Int32} {d : Nat → Nat} {Fz : Nat → Prop} {V : Nat → Int32} {hs : z_Hs} {u : x_U} {S : Nat → Nat → (Nat → Int32) → Prop}
theorem y_I.T (h : y_I Lx xs a mu me L d u p b pl pa V hs wn Fz S B) : x_TN u Fz p b L pl pa mu me d V := h.1.1 _ _ _ h.2.1
theorem y_I.copy (h : y_I Lx xs a mu me L d u p b pl pa V hs wn Fz S B) (hb : x_n u + 40 ≤ 500000) : ∃ u' S', y_I Lx xs a mu me L d u' p b pl pa V hs wn Fz S' B ∧ y_Q a mu me u' p (x_n u) V hs S' ∧ x_n u ≤ x_n u' ∧ x_n u' ≤ x_n u + 23 ∧ x_m u' ≤ x_m u + 400 ∧ F_X12_copy q_F p u = some (x_n u, u') := by
  have hT := h.T
  obtain ⟨hA, hS, hWA, hz, hK, hD, hB, hW⟩ := h
  have hbd := hT.bd
  obtain ⟨u2, c1, c2, c3, c4⟩ := F_copy (n := q_F) (by unfold q_F; omega) hT hb
  have hA2 := hA.copy c1.1 c3
  have hW2 := hWA.copy hA c1.1 (V := V)
  have er2 : x_r u2 a = x_r u a := (c1.1.2.2.2.2 a (Or.inl hWA.1.2.1) (fun q => q)).1
  have hpq : p ≠ x_n u := by omega
  refine ⟨u2, _, ⟨hA2, Or.inr ⟨hpq, hS⟩, hW2, by rw [c1.1.1]; exact hz, hK, hD, hB, hW.fr c1.1 (fun i q => q.elim)⟩, ⟨⟨x_n u + 6, Or.inl ⟨rfl, rfl, rfl⟩⟩, Ne.symm hpq, fun z hz => ?_⟩, c1.1.2.1, c1.2.1, c1.2.2.1, c4⟩
  rw [er2]
  obtain ⟨g1, b1, g2⟩ := hWA.2.2.1 z hz
  have := (hA.1 _ _ _ g2).bd
  omega
/-- looked at -/
theorem y_I.same (h : y_I Lx xs a mu me L d u p b pl pa V hs wn Fz S B) (hb : x_n u + 1 ≤ 500000) : ∃ u', y_I Lx xs a mu me L d u' p b pl pa V hs wn Fz S B ∧ x_n u' = x_n u + 1 ∧ x_m u' = x_m u + 11 ∧ ∀ K : x_U → Option (Int32 × x_U), (x_o u p 12 <| x_call (F_X12_isSame q_F p u) fun r33 s32 => if r33 = 0 then some (0, s32) else K s32) = K u' := by
  have hT := h.T
  obtain ⟨hA, hS, hWA, hz, hK, hD, hB, hW⟩ := h
  obtain ⟨u', f, n1, m1, hz1, e1⟩ := F_isSame (n := q_F) rfl hT hz hK hb
  have hAc : y_AL L pl pa mu me d (x_uc u (x_c u')) Fz S := hA
  have hWc : y_WA mu me (x_uc u (x_c u')) Fz a S p hs := hWA
  have hWC : y_WC Lx xs (x_uc u (x_c u')) := hW
  refine ⟨u', ⟨hAc.fr f (by omega) (fun _ _ _ _ _ _ q => q) (fun _ _ q => q), hS, hWc.fr f, hz1, hK, hD, hB, hWC.fr f (fun i q => q.elim)⟩, n1, m1, fun K => ?_⟩
  rw [p_xo, h_xoE hT.k0, e1, z_xcall, if_neg (by decide)]
theorem y_I.look (h : y_I Lx xs a mu me L d u p b pl pa V hs wn Fz S B) (hb : x_n u + 1 ≤ 500000) : ∃ u', y_I Lx xs a mu me L d u' p b pl pa V hs wn Fz S B ∧ x_n u' = x_n u + 1 ∧ x_m u' = x_m u + 11 ∧ ∀ K : x_U → Option (Int32 × x_U), (x_calc u (f_X11_look q_F 0 17 (x_c u)) fun r31 s30 =>
        if r31 = nI hs.1 then (
        x_o s30 p 12 <|
        x_call (F_X12_isSame q_F p s30) fun r33 s32 =>
        if r33 = 0 then (
        some (0, s32))
        else (
        K s32))
        else (
        some (0, s30))) = K u' := by
  obtain ⟨u', h1, n1, m1, e1⟩ := h.same hb
  refine ⟨u', h1, n1, m1, fun K => ?_⟩
  have eL : f_X11_look q_F 0 17 (x_c u) = some (nI hs.1, x_c u) := c_look (i := 17) h.2.2.2.1 (by omega)
  have eu : x_uc u (x_c u) = u := rfl
  rw [eL, z_xcalc, eu, if_pos rfl]
  exact e1 K
/-- an act of the train, in both -/
theorem y_I.act {W : Nat → Int32} {σ' : q_Sto} {w' q dn dm : Nat} {G : x_U → Option (Int32 × x_U)} {r : Int32} (h : y_I Lx xs a mu me L d u p b pl pa V hs wn Fz S B) (hQ : y_Q a mu me u p q V hs S) (hb : x_n u + dn ≤ 500000) (hz : z_CS mu me σ' W (z_push hs V wn) w') (hk : y_kd V W wn) (hK : y_LK L d W) (hP : x_PF p b L pl pa mu me d dn dm V W G r) : ∃ u', x_c u' = x_c u ∧ x_n u ≤ x_n u' ∧ x_n u' ≤ x_n u + dn ∧ x_m u' ≤ x_m u + dm ∧ y_J Lx xs a mu me L d (x_uc u' σ') p q hs B ∧ (∃ Fz', x_TN u' Fz' p b L pl pa mu me d W) ∧ x_k u' p = .inl 12 ∧ G u = some (r, u') := by
  have hT := h.T
  obtain ⟨hA, hS, hWA, -, -, hD, ⟨D, hD1, hD2⟩, hW⟩ := h
  obtain ⟨u', Fz', s1, hT', e1⟩ := hP u Fz hT hb
  have hA' := hA.act hS s1 hT'
  have hW' := hWA.act (W := W) hS s1
  have er : x_r u' a = x_r u a := (s1.1.2.2.2.2 a (Or.inl hWA.1.2.1) (hWA.1.2.2.2.2.2 _ _ _ hS)).1
  have hWC' : y_WC Lx xs u' := hW.fr s1.1 (fun i hi => by have := hT.own hi; have := hT.bd; omega)
  obtain ⟨⟨bq, q1⟩, q2, q3⟩ := hQ
  refine ⟨u', s1.1.1, s1.1.2.1, s1.2.1, s1.2.2.1, ⟨b, pl, pa, V, W, wn, w', Fz', _, hA', Or.inl ⟨rfl, rfl, rfl⟩, ⟨⟨bq, Or.inr ⟨q2, q1⟩⟩, q2, fun i hi => ?_⟩, hW', hz, hK, hD, ⟨D, hD1, hD2, by rw [hk.2]; exact hD2⟩, hWC'⟩, ⟨Fz', hT'⟩, hT'.k0, e1⟩
  show x_r u' a i ≠ q
  rw [er]
  exact q3 i hi
theorem F_roomB {n x0 x2 x10 : Nat} {x5 : Int32} (hn : 7 ≤ n) (hA : y_AL L pl pa mu me d u Fz S) (hW : y_WA mu me u Fz a S p hs) : ∃ v, x_fr (fun z => z = a) u v ∧ x_n v = x_n u ∧ x_m v = x_m u ∧ x_k v = x_k u ∧ y_WA mu me v Fz a S p (y_sh hs) ∧ (∀ i, i < (y_sh hs).1 → ∃ j, j < hs.1 ∧ x_r v a i = x_r u a j) ∧
    ∀ J : Int32 → x_U → Option (Int32 × x_U), (if nI hs.1 = 6 then (F_L_law_L1004 n x0 x2 a (nI hs.1) x5 x10 (fun  (s55 : x_U) => J (nI hs.1 + (-1)) s55) n 1 u) else (J (nI hs.1) u)) = J (nI (y_sh hs).1) v := by
  have h6 := hW.2.1
  by_cases c : hs.1 = 6
  · have hk : ∀ t, t < 6 → x_k u (x_r u a t) = .inl 12 := fun t ht => by
      obtain ⟨g1, b1, g2⟩ := hW.2.2.1 t (by omega)
      exact (hA.1 _ _ _ g2).k0
    obtain ⟨v, f1, f2, f3, f4, f5, f6⟩ := F_sh1004 (n := n) (x0 := x0) (x2 := x2) (x10 := x10) (x4 := nI hs.1) (x5 := x5) hW.1.2.2.2.1 ⟨hW.1.2.1, hW.1.2.2.1⟩ hk n 1 u (by omega) (by omega) (by omega) x_fr.rf rfl rfl rfl (fun t ht => by rw [if_neg (by omega)])
    have e5 : (y_sh hs).1 = 5 := by
      unfold y_sh
      rw [if_pos c]
    refine ⟨v, f1, f2, f3, f4, hW.shift c f1 f5, fun i hi => ⟨i+1, by omega, f5 i (by omega)⟩, fun J => ?_⟩
    rw [e5, c]
    rw [c] at f6
    have e1 : (nI 6 : Int32) = 6 := by decide
    have e2 : nI 6 + (-1) = nI 5 := by decide
    rw [if_pos e1, e2]
    exact f6 _
  · have es : y_sh hs = hs := by
      unfold y_sh
      rw [if_neg c]
    refine ⟨u, x_fr.rf, rfl, rfl, rfl, by rw [es]; exact hW, fun i hi => ⟨i, by rw [es] at hi; exact hi, rfl⟩, fun J => ?_⟩
    rw [es, if_neg (by rw [show (6 : Int32) = nI 6 from rfl, nI_eq (by omega) (by omega)]; exact c)]
/-- the copy is kept -/
theorem y_J.keep {q : Nat} {x5 : Int32} (h : y_J Lx xs a mu me L d u p q hs B) (hu6 : hs.1 ≤ 6) : ∃ u' b pl pa V hs' wn Fz S, y_I Lx xs a mu me L d u' p b pl pa V hs' wn Fz S B ∧ x_n u' = x_n u ∧ x_m u' = x_m u ∧ ∀ J : Int32 → x_U → Option (Int32 × x_U), (x_nm (fun (y35 : Int32) (s36 : x_U) =>
        x_sr s36 a y35 q fun s37 =>
        J (y35 + 1) s37) fun j1030 =>
      if nI hs.1 = 6 then (
      F_L_law_L1004 q_F (x_CT + 2) p a (nI hs.1) x5 q (fun  (s40 : x_U) =>
      j1030 (nI hs.1 + (-1)) s40) q_F 1 u)
      else (
      j1030 (nI hs.1) u)) = J (nI hs'.1) u' := by
  obtain ⟨b, pl, pa, V, W, wn, w', Fz, S, hA, hS, ⟨⟨bq, q1⟩, q2, q3⟩, hWA, hz, hK, hD, ⟨D, hD1, hD2, hD3⟩, hW⟩ := h
  obtain ⟨v, f1, n1, m1, k1, hWv, hr, e1⟩ := F_roomB (n := q_F) (x0 := x_CT + 2) (x2 := p) (x10 := q) (x5 := x5) (by unfold q_F; omega) hA hWA
  have hAa := hWA.1
  have hbd := (hA.1 _ _ _ hS).bd
  have hAv := hA.fr f1 (by omega) (fun p1 b1 V1 h1 z hz hq => by
    have hq : z = a := hq
    subst hq
    exact hAa.2.2.2.2.2 _ _ _ h1 hz) (fun z hz hq => by
    have hq : z = a := hq
    subst hq
    exact hAa.2.2.2.2.1 hz)
  have h5 := y_shle hu6
  have hW3 := hWv.store (q := q) (bq := bq) (V := V) (wn := wn) q1 q2 (fun z hz => by
    obtain ⟨j, j1, j2⟩ := hr z hz
    rw [j2]
    exact q3 j j1) hu6
  have fa : x_fr (fun z => z = a) v (x_ur v a (y_sh hs).1 q) := x_fr.ur rfl
  have hA3 := hAv.fr fa (by show x_n v ≤ 500000; omega) (fun p1 b1 V1 h1 z hz hq => by
    have hq : z = a := hq
    subst hq
    exact hWv.1.2.2.2.2.2 _ _ _ h1 hz) (fun z hz hq => by
    have hq : z = a := hq
    subst hq
    exact hWv.1.2.2.2.2.1 hz)
  have ha5 : ∀ z, z = a → z ≤ 500000 := fun z hz => by have := hAa.2.2.1; omega
  have hc : x_c (x_ur v a (y_sh hs).1 q) = x_c u := f1.1
  have ez : (z_push hs V wn).1 = (y_sh hs).1 + 1 := by
    unfold y_sh
    by_cases c : hs.1 = 6
    · rw [if_pos c]
      exact (z_push_1 (hs := hs) (V := V) (wn := wn) (c := 6) (d := 5) (sh := 1) c (by omega) (by omega) (by omega) (fun _ => rfl)).1
    · rw [if_neg c]
      exact (z_push_1 (hs := hs) (V := V) (wn := wn) (c := hs.1) (d := hs.1) (sh := 0) rfl (by omega) (by omega) (by omega) (fun q => by omega)).1
  refine ⟨x_ur v a (y_sh hs).1 q, b, pl, pa, W, z_push hs V wn, w', Fz, S, ⟨hA3, hS, hW3, by rw [hc]; exact hz, hK, hD.push hu6 hD2 hD1, ⟨D, hD1, hD3⟩, (hW.fr f1 ha5).fr fa ha5⟩, n1, m1, fun J => ?_⟩
  rw [x_nmE]
  refine (e1 (fun (y35 : Int32) (s36 : x_U) => x_sr s36 a y35 q fun s37 => J (y35 + 1) s37)).trans ?_
  have ka : x_k v a = .inr (6, 4) := hWv.1.2.2.2.1
  have kq : x_k v q = .inl 12 := (hAv.1 _ _ _ q1).k0
  show x_sr v a (nI (y_sh hs).1) q _ = _
  rw [p_xsr, h_xsrE ka (by omega) (by omega) (by rw [kq]; rfl) (by omega), show (1 : Int32) = nI 1 from rfl, nI_add, ez]
end LP
