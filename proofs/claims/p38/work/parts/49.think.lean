/-! thoughts, and what is done by days -/
theorem z_Sim.C {σ : q_Sto} {mu me : Nat} (h : z_SimN σ mu me) : z_C σ (σ 158) mu me := ⟨h.1.1, h.2.1.1, h.2.1.2.1⟩
theorem z_F402 : 402 ≤ q_F := by unfold q_F; omega