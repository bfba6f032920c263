/-! the world that the constructors leave shows the reference's first rows -/
theorem zi_mk {σ : q_Sto} (h2 : σ 2 8 = nI 0 ∧ σ 2 9 = nI 0 ∧ σ 2 10 = nI 0 ∧ σ 2 11 = nI 0 ∧ σ 2 12 = nI 0 ∧ σ 2 13 = z_m ∧ σ 2 14 = nI 0 ∧ σ 2 15 = nI 0 ∧ σ 2 16 = nI 0 ∧ σ 2 17 = nI 0)
    (h5 : ∀ m, m < 12 → σ 5 m = nI 0) (h6 : ∀ m, m < 12 → σ 6 m = z_m) (h10 : ∀ j, j < 60 → σ 10 j = nI 30) (h11 : σ 11 8 = nI 0)
    (hc : σ 19 2 = nI 0 ∧ σ 21 2 = nI 0 ∧ σ 23 2 = nI 0 ∧ σ 25 2 = nI 0 ∧ σ 27 2 = nI 0) (hA : z_CA σ 1) (hB : z_CA σ 31) (h155 : σ 155 1 = nI 16)
    (h61 : σ 61 1 = nI 0 ∧ σ 157 4 = nI 0) (h62 : ∀ i, i < 6 → σ 62 i = nI (63 + 9 * i)) (h142 : σ 142 1 = nI 0 ∧ σ 157 16 = nI 0 ∧ σ 142 6 = σ 157 23 ∧ σ 142 7 = σ 157 25) (h0 : σ 0 2 = nI 0 ∧ σ 157 5 = nI 0)
    (v2 : σ 158 2 = z_m) (v0 : ∀ k, k < 8 → k = 2 ∨ σ 158 k = nI 0) (v8 : ∀ k, k < 9 → σ 158 (86+k) = nI 0) (v1 : ∀ m, m < 12 → σ 158 (129+m) = nI 0) : q_Sim σ := by
  have w0 : ∀ k, k < 8 → k ≠ 2 → σ 158 k = nI 0 := fun k hk h => (v0 k hk).resolve_left h
  have b0 : ∀ m, m < 12 → z_bit (nI 0) m = nI 0 := by decide +kernel
  have t0 : ∀ m, m < 12 → Nat.testBit 0 m = false := by decide +kernel
  obtain ⟨a1, a2, a3, a4, a5, a6, a7, a8, a9, a10⟩ := h2
  obtain ⟨c1, c2, c3, c4, c5⟩ := hc
  have HF : z_WF (σ 158) 0 0 :=
    ⟨⟨Nat.zero_le _, Nat.zero_le _, v8 0 (by omega), v8 1 (by omega), ⟨0, by decide, w0 7 (by omega) (by omega)⟩, fun m hm => absurd hm (by omega), fun m k hm => absurd hm (by omega), fun k hk => absurd hk (by omega), ⟨0, by omega, w0 1 (by omega) (by omega)⟩, Or.inl v2, ⟨0, by omega, w0 6 (by omega) (by omega)⟩, ⟨0, by omega, v8 2 (by omega)⟩⟩, ⟨0, by omega, w0 0 (by omega) (by omega)⟩⟩
  have HT : z_TR σ 2 (σ 158) 0 0 :=
    ⟨⟨a1, a2, a3.trans (w0 5 (by omega) (by omega)).symm, a4.trans (v8 2 (by omega)).symm, a5.trans (w0 1 (by omega) (by omega)).symm, a6.trans v2.symm, a7.trans (w0 3 (by omega) (by omega)).symm, a8.trans (w0 4 (by omega) (by omega)).symm, a9.trans (w0 0 (by omega) (by omega)).symm⟩, fun m hm => absurd hm (by omega), fun m hm => by rw [w0 7 (by omega) (by omega), b0 m hm]; exact h5 m hm, fun m _ hm => h6 m hm, fun k hk => absurd hk (by omega), fun m k hm => absurd hm (by omega), fun m k hm hk _ => h10 (m*5+k) (by omega)⟩
  have HL : z_LW σ 1 (σ 158) := ⟨0, 0, by omega, by omega, h11, v8 3 (by omega), fun i hi => absurd hi (by omega), fun j hj => absurd hj (by omega)⟩
  have HH : z_HE σ 1 (σ 158) 0 := ⟨0, by omega, c1, v8 4 (by omega), fun i hi => absurd hi (by omega), fun m hm => ⟨v1 m hm, 0, by decide, t0 m hm, v1 m hm⟩⟩
  have HP : z_PL σ 1 (σ 158) 0 0 := ⟨0, by omega, c2, v8 5 (by omega), fun i hi => absurd hi (by omega)⟩
  have HQ : z_PA σ 1 (σ 158) := ⟨0, by omega, c3, v8 6 (by omega), fun i hi => absurd hi (by omega)⟩
  have HO : z_LO σ 1 (σ 158) := ⟨0, by omega, c4, v8 7 (by omega), fun i hi => absurd hi (by omega)⟩
  have HS : z_SI σ 1 (σ 158) 0 0 := ⟨0, by omega, c5, v8 8 (by omega), fun i hi => absurd hi (by omega)⟩
  have HB : z_BK σ 1 (σ 158) := ⟨0, by omega, a10, w0 6 (by omega) (by omega), fun i c hi => absurd hi (by omega)⟩
  have HI : z_HI σ 0 0 := ⟨0, fun i => i, fun _ => 0, by omega, h61.1, h61.2, fun i hi => ⟨hi, h62 i hi⟩, fun i j _ _ h => h, fun i hi => absurd hi (by omega), fun i j _ _ => Nat.le_refl _, Nat.zero_le _⟩
  have HTP : z_TP σ := ⟨0, by omega, h142.1, h142.2.1, fun i hi => absurd hi (by omega), h142.2.2⟩
  exact ⟨0, 0, HF, ⟨HT, ⟨HL, HH, HP, HQ, HO, HS⟩, HB⟩, HI, HTP, Or.inl h0, hA, hB, h155⟩
set_option maxRecDepth 100000 in
set_option maxHeartbeats 4000000 in
theorem P_init : q_Sim ((q_St 501).2.2.2) :=
  zi_mk (by decide +kernel) (by decide +kernel) (by decide +kernel) (by decide +kernel) (by decide +kernel) (by decide +kernel) (show _ ∧ _ ∧ _ ∧ _ ∧ _ from by decide +kernel) (show _ ∧ _ ∧ _ ∧ _ ∧ _ from by decide +kernel) (by decide +kernel)
    (by decide +kernel) (by decide +kernel) (by decide +kernel) (by decide +kernel) (by decide +kernel) (by decide +kernel) (by decide +kernel) (by decide +kernel)
