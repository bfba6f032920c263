/-! in thought -/
theorem z_scF {o : Nat} (h : z_sc o = false) : o ≠ 18 ∧ o ≠ 30 ∧ o ≠ 48 ∧ o ≠ 60 ∧ (o < 117 ∨ 141 < o) ∧ (o < 144 ∨ 154 < o) ∧ o ≠ 156 ∧ (o < 161 ∨ 164 < o) ∧ o < 166 := by
  have b : ∀ x y : Nat, Nat.ble x y = false → y < x := fun x y q => by
    by_cases h : x ≤ y
    · rw [Nat.ble_eq_true_of_le h] at q; cases q
    · omega
  unfold z_sc at h
  simp only [Bool.or_eq_false_iff, Bool.and_eq_false_iff] at h
  obtain ⟨⟨⟨⟨⟨⟨⟨⟨h1, h2⟩, h3⟩, h4⟩, h5⟩, h6⟩, h7⟩, h8⟩, h9⟩ := h
  have n1 : o ≠ 18 := fun q => by subst q; cases h1
  have n2 : o ≠ 30 := fun q => by subst q; cases h2
  have n3 : o ≠ 48 := fun q => by subst q; cases h3
  have n4 : o ≠ 60 := fun q => by subst q; cases h4
  have n7 : o ≠ 156 := fun q => by subst q; cases h7
  have n9 := b _ _ h9
  refine ⟨n1, n2, n3, n4, ?_, ?_, n7, ?_, n9⟩
  · rcases h5 with q | q
    · exact Or.inl (b _ _ q)
    · exact Or.inr (b _ _ q)
  · rcases h6 with q | q
    · exact Or.inl (b _ _ q)
    · exact Or.inr (b _ _ q)
  · rcases h8 with q | q
    · exact Or.inl (b _ _ q)
    · exact Or.inr (b _ _ q)
/-- behind a thought: only what tells nothing was touched -/
theorem z_Sim.th {σ σ' : q_Sto} {mu me : Nat} (h : z_SimN σ mu me) (e : ∀ o, o ≠ 18 → o ≠ 30 → (o < 117 ∨ 141 < o) → o ≠ 157 → o ≠ 161 → o < 166 → σ' o = σ o) (e1 : ∀ a, a ≠ 26 → σ' 157 a = σ 157 a) : z_SimN σ' mu me :=
  z_Sim.fr h (fun o ho h7 => by
    obtain ⟨a1, a2, a3, a4, a5, a6, a7, a8, a9⟩ := z_scF ho
    exact e o a1 a2 a5 h7 (by omega) a9) (e1 4 (by omega)) (e1 5 (by omega)) (e1 16 (by omega)) (e1 23 (by omega)) (e1 25 (by omega))
theorem z_p86 (V : Nat → Int32) (B : Nat → Nat) (d : Int32) : ∀ k, 86 ≤ k → z_VV V B d k = V k := fun k hk => z_VVo (by omega) (by omega)