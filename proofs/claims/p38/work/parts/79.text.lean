/-- whom a mule heeds, out of the lines -/
theorem zr_hor {N mu me a : Nat} {s m : q_Sto} (h : ∀ i, i < N → zr_L 1 mu me s m i) (hmu : mu ≤ 12) (ha : a < 12) : ∀ i, i ≤ N → ∃ t, t < 2 ^ mu ∧ t.testBit a = false ∧ z_hor (s 156) a i = nI t
  | 0, _ => ⟨0, Nat.pos_of_ne_zero (by have := Nat.one_le_two_pow (n := mu); omega), Nat.zero_testBit _, rfl⟩
  | i + 1, hi => by
    obtain ⟨t, t1, t2, t3⟩ := zr_hor h hmu ha i (by omega)
    obtain ⟨b, u, l1, l2, l3, l4, l5, -, -⟩ := (h i (by omega)).1 rfl
    have e : z_hor (s 156) a (i+1) = if s 156 (i*4) = nI a then z_hor (s 156) a i ||| s 156 (i*4+1) else z_hor (s 156) a i := rfl
    rw [e, l4, l5, t3]
    by_cases q : b = a
    · subst q
      rw [if_pos rfl, z_or]
      refine ⟨t ||| u, Nat.or_lt_two_pow t1 l2, ?_, rfl⟩
      rw [Nat.testBit_or, t2, l3]; rfl
    · rw [if_neg (fun hh => by rw [nI_eq (by omega) (by omega)] at hh; exact q hh)]
      exact ⟨t, t1, t2, rfl⟩