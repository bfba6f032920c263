/-! mules and men made; what is set, seen; the tape fed -/
theorem z_hor0 {c : Nat → Int32} {m mu : Nat} (hm : m < 2147483648) (hmu : mu ≤ m) : ∀ n, (∀ i, i < n → ∃ a, a < mu ∧ c (i*4) = nI a) → z_hor c m n = nI 0
  | 0, _ => rfl
  | n + 1, h => by
    obtain ⟨a, ha, e⟩ := h n (by omega)
    unfold z_hor
    rw [e, if_neg (by rw [nI_eq (by omega) (by omega)]; omega)]
    exact z_hor0 hm hmu n (fun i hi => h i (by omega))
theorem z_WT.grow {σ : q_Sto} {b : Nat} {V V' : Nat → Int32} {mu mu' me me' : Nat} (h : z_WT σ b V mu me) (h1 : mu ≤ mu') (h2 : me ≤ me') (e : ∀ a, (89 ≤ a ∧ a < 95) ∨ (141 ≤ a ∧ a < 305) ∨ 905 ≤ a → V' a = V a) (hh : ∀ m, m < 12 → V' (129+m) = V (129+m) ∨ (mu ≤ m ∧ V' (129+m) = nI 0)) : z_WT σ b V' mu' me' := by
  have hp : 2 ^ mu ≤ 2 ^ mu' := Nat.pow_le_pow_right (by omega) h1
  obtain ⟨⟨c, z, l1, l2, l3, l4, l5, l6⟩, ⟨c2, a1, a2, a3, a4, a5⟩, ⟨c3, p1, p2, p3, p4⟩, ⟨c4, b1, b2, b3, b4⟩, ⟨c5, o1, o2, o3, o4⟩, ⟨c6, s1, s2, s3, s4⟩⟩ := h
  refine ⟨⟨c, z, l1, l2, l3, by rw [e 89 (by omega)]; exact l4, fun i hi => ?_, fun j hj => ?_⟩, ⟨c2, a1, a2, by rw [e 90 (by omega)]; exact a3, fun i hi => ?_, fun m hm => ?_⟩, ⟨c3, p1, p2, by rw [e 91 (by omega)]; exact p3, fun i hi => ?_⟩, ⟨c4, b1, b2, by rw [e 92 (by omega)]; exact b3, fun i hi => ?_⟩, ⟨c5, o1, o2, by rw [e 93 (by omega)]; exact o3, fun i hi => ?_⟩, ⟨c6, s1, s2, by rw [e 94 (by omega)]; exact s3, fun i hi => ?_⟩⟩
  · rw [e (905+i) (by omega), e (921+i) (by omega), e (937+i) (by omega), e (953+i) (by omega)]; exact l5 i hi
  · rw [e (970+2*j) (by omega), e (970+2*j+1) (by omega)]; exact l6 j hj
  · obtain ⟨m, s, x1, x2, x3, x4⟩ := a4 i hi
    exact ⟨m, s, by omega, by omega, x3, x4⟩
  · rcases hh m hm with q | ⟨q1, q2⟩
    · rw [q]
      obtain ⟨y1, s, y2, y3, y4⟩ := a5 m hm
      exact ⟨y1, s, by omega, y3, y4⟩
    · rw [q2]
      refine ⟨(z_hor0 (by omega) q1 c2 (fun i hi => ?_)).symm, 0, Nat.two_pow_pos mu', Nat.zero_testBit _, rfl⟩
      obtain ⟨m', s, x1, x2, x3, x4⟩ := a4 i hi
      exact ⟨m', x1, x3⟩
  · rw [e (141+4*i) (by omega), e (141+4*i+1) (by omega), e (141+4*i+2) (by omega), e (141+4*i+3) (by omega)]
    obtain ⟨y1, y2, y3, y4, y5⟩ := p4 i hi
    refine ⟨y1, y2, y3, y4, ?_⟩
    rcases y5 with q | ⟨q1, q2, ⟨k, q3, q4⟩, m, q5, q6⟩ | ⟨q1, q2, k, q3, q4⟩ | ⟨q1, q2, ⟨k, q3, q4⟩, m, q5, q6⟩ | q
    · exact Or.inl q
    · exact Or.inr (Or.inl ⟨q1, q2, ⟨k, by omega, q4⟩, m, by omega, q6⟩)
    · exact Or.inr (Or.inr (Or.inl ⟨q1, q2, k, by omega, q4⟩))
    · exact Or.inr (Or.inr (Or.inr (Or.inl ⟨q1, q2, ⟨k, by omega, q4⟩, m, by omega, q6⟩)))
    · exact Or.inr (Or.inr (Or.inr (Or.inr q)))
  · rw [e (205+3*i) (by omega), e (205+3*i+1) (by omega), e (205+3*i+2) (by omega)]; exact b4 i hi
  · rw [e (253+2*i) (by omega), e (253+2*i+1) (by omega)]; exact o4 i hi
  · rw [e (269+3*i) (by omega), e (269+3*i+1) (by omega), e (269+3*i+2) (by omega)]
    obtain ⟨m, k, zz, y1, y2, y3, y4⟩ := s4 i hi
    exact ⟨m, k, zz, by omega, by omega, y3, y4⟩