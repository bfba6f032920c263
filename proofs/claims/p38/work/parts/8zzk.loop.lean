/-! the law's loop: all steps -/
section LP
variable {L a mu me Lx : Nat} {xs : Nat → Int32} {d : Nat → Nat}
theorem T_loop (hL : Lx ≤ 260) : ∀ i t u p b pl pa V hs wn Fz S B, t + i = 22 → y_I Lx xs a mu me L d u p b pl pa V hs wn Fz S B → B + 6 * i ≤ 700 → x_n u + 1450 * i + 2100 ≤ 499000 → ∃ u' p' b' pl' pa' V' hs' wn' Fz' S', y_I Lx xs a mu me L d u' p' b' pl' pa' V' hs' wn' Fz' S' (B + 6 * i) ∧ x_n u' ≤ x_n u + 1450 * i ∧ x_m u' ≤ x_m u + 84500 * i ∧ ∀ (K : Nat → x_U → Option (Int32 × x_U)) (j : Nat), i < j → F_L_law_L41 q_F (x_CT + 2) a K j p (nI hs.1) (nI t) u = K p' u' := by
  intro i
  induction i with
  | zero =>
    intro t u p b pl pa V hs wn Fz S B ht h hB hb
    refine ⟨u, p, b, pl, pa, V, hs, wn, Fz, S, h, by omega, by omega, fun K j hj => ?_⟩
    obtain ⟨j, rfl⟩ : ∃ z, j = z + 1 := ⟨j - 1, by omega⟩
    have n22 : ¬ nI t < (22 : Int32) := by
      rw [show (22 : Int32) = nI 22 from rfl]
      exact fun q => by
        have := (nI_ltI (by omega) (by omega)).mp q
        omega
    rw [F_L_law_L41, if_neg n22]
  | succ i ih =>
    intro t u p b pl pa V hs wn Fz S B ht h hB hb
    obtain ⟨u1, p1, b1, pl1, pa1, V1, hs1, wn1, Fz1, S1, h1, n1, m1, e1⟩ := T_step (t := t) hL (by omega) h (by omega) (by omega)
    obtain ⟨u', p', b', pl', pa', V', hs', wn', Fz', S', h2, n2, m2, e2⟩ := ih (t+1) u1 p1 b1 pl1 pa1 V1 hs1 wn1 Fz1 S1 (B+6) (by omega) h1 (by omega) (by omega)
    refine ⟨u', p', b', pl', pa', V', hs', wn', Fz', S', ?_, by omega, by omega, fun K j hj => ?_⟩
    · have eB : B + 6 + 6 * i = B + 6 * (i + 1) := by omega
      rw [← eB]
      exact h2
    · obtain ⟨j, rfl⟩ : ∃ z, j = z + 1 := ⟨j - 1, by omega⟩
      rw [e1 K j]
      exact e2 K j (by omega)
end LP
