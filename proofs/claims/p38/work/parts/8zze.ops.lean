/-! the law's loop: one thing told, and refused -/
section LP
variable {p b L pl pa mu me Lx wn a B q : Nat} {xs : Nat → Int32} {d : Nat → Nat} {Fz : Nat → Prop} {V : Nat → Int32} {hs : z_Hs} {u : x_U} {S : Nat → Nat → (Nat → Int32) → Prop} {σ : q_Sto}
theorem c_setN {w k m r : Nat} (hz : z_CS mu me σ V hs wn) (hw : w ≤ 6) (hk : k ≤ me) (hm : m ≤ mu) (hr : r ≤ 100) (hn : ¬ ((w ≤ 1 ∧ r ≤ 9) ∨ (w = 2 ∧ m < mu ∧ r ≤ 1) ∨ (3 ≤ w ∧ w ≤ 5 ∧ k < me ∧ r ≤ (if w = 3 then 99 else 9)))) : f_X11_set q_F 0 (nI w) (nI (if w = 2 then m else k)) (nI r) σ = some (nI 0, σ) := by
  obtain ⟨hmu, hme, -, -⟩ := hz.g
  by_cases c1 : w ≤ 1
  · rw [if_neg (by omega)]
    exact c_set01n c1 (by omega) (by omega)
  · by_cases c2 : w = 2
    · subst c2
      rw [if_pos rfl]
      refine c_set2n hz ?_
      by_cases c3 : m < mu
      · exact Or.inr ⟨⟨m, c3, rfl⟩, by omega, by omega⟩
      · exact Or.inl (y_ge (by omega) (by omega))
    · rw [if_neg c2]
      by_cases c6 : w = 6
      · subst c6
        exact c_set6 hz
      · refine c_setMn hz (by omega) ?_
        by_cases c3 : k < me
        · refine Or.inr ⟨⟨k, c3, rfl⟩, ?_, by omega⟩
          by_cases c4 : w = 3
          · rw [if_pos c4]
            rw [if_pos c4] at hn
            omega
          · rw [if_neg c4]
            rw [if_neg c4] at hn
            omega
        · exact Or.inl (y_ge (by omega) (by omega))
/-- the seven bounds' row, one cell -/
theorem y_I.cell {kd : x_Kd} {sl : Nat} {f : Nat → Int32} (h : y_I Lx xs a mu me L d u p b pl pa V hs wn Fz S B) (hb : x_n u + 1 ≤ 500000) : y_I Lx xs a mu me L d (x_un u kd sl f) p b pl pa V hs wn Fz S B := by
  obtain ⟨hA, hS, hWA, hz, hK, hD, hB, hW⟩ := h
  have fr : x_fr (fun _ => False) u (x_un u kd sl f) := x_fr.un (by omega)
  exact ⟨hA.fr fr (by show x_n u + 1 ≤ _; omega) (fun _ _ _ _ _ _ q => q) (fun _ _ q => q), hS, hWA.fr fr, hz, hK, hD, hB, hW.fr fr (fun i q => q.elim)⟩
end LP
