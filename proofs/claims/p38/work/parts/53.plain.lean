/-! the plain calls -/
theorem z_Sim.told {σ σ' : q_Sto} {mu me mu' me' : Nat} (h : z_SimN σ mu me) (hF : z_WF (σ' 158) mu' me') (hR : z_WR σ' 1 (σ' 158) mu' me') (hCA : z_CA σ' 1) (e61 : σ' 61 1 = nI 0) (e4 : σ' 157 4 = nI 0) (e : ∀ o, o = 0 ∨ (31 ≤ o ∧ o ≤ 60) ∨ o = 62 ∨ o = 142 ∨ o = 143 ∨ o = 155 ∨ o = 159 ∨ o = 165 → σ' o = σ o) (e157 : ∀ a, a ≠ 4 → a ≠ 26 → σ' 157 a = σ 157 a) : z_SimN σ' mu' me' := by
  obtain ⟨s1, s2, s3, s4, s5, s6, s7, s8⟩ := h
  refine ⟨hF, hR, z_HI.no s3 (e 62 (by omega)) e61 e4, s4.fr (by rw [e 142 (by omega)]) (by rw [e 142 (by omega)]) (by rw [e 142 (by omega)]) (e 143 (by omega)) (e 165 (by omega)) (e157 16 (by omega) (by omega)) (e157 23 (by omega) (by omega)) (e157 25 (by omega) (by omega)),
    s5.fr (fun o o1 o2 o3 => e o (by omega)) (by rw [e 0 (by omega)]) (e157 5 (by omega) (by omega)) (e 159 (by omega)), hCA, s7.fr (fun o o1 o2 => e o (by omega)), by rw [e 155 (by omega)]; exact s8⟩
theorem z_BK.u {σ : q_Sto} {V : Nat → Int32} {a : Nat} {x : Int32} (h : z_BK σ 1 V) (ha : a ≠ 6) (h2 : a < 305 ∨ 905 ≤ a) : z_BK σ 1 (z_u V a x) := by
  obtain ⟨w, b1, b2, b3, b4⟩ := h
  exact ⟨w, b1, b2, by rw [z_uK (by omega)]; exact b3, fun i c hi hc => by rw [z_uK (by omega)]; exact b4 i c hi hc⟩
theorem z_BK.fr2 {σ σ' : q_Sto} {V : Nat → Int32} (h : z_BK σ 1 V) (e1 : σ' 2 17 = σ 2 17) (e : σ' 29 = σ 29) : z_BK σ' 1 V := by
  obtain ⟨w, b1, b2, b3, b4⟩ := h
  exact ⟨w, b1, e1.trans b2, b3, fun i c hi hc => (congrFun e (i*4+c)).trans (b4 i c hi hc)⟩