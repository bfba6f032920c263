/-! days: truly, and in thought; undone -/
def z_fY (σ σ' : q_Sto) : Prop := ∀ o, o < 2 ∨ (10 < o ∧ o ≠ 18 ∧ o ≠ 29 ∧ o ≠ 30 ∧ o < 61) ∨ (116 < o ∧ o < 126) ∨ 131 < o → σ' o = σ o
def z_fN (σ σ' : q_Sto) : Prop := (∀ o, o ≠ 158 → o ≠ 160 → o ≠ 166 → o ≠ 167 → o ≠ 157 → σ' o = σ o) ∧ (∀ a, a ≠ 4 → a ≠ 26 → σ' 157 a = σ 157 a)
theorem z_rf117 : ∀ k, k < 8 → q_RF 117 k = 117+1+k := by decide
theorem z_rf2 : ∀ k, k < 8 → q_RF 2 k = 2+1+k := by decide