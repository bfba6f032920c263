/-! the start: the class fresh -/
def y_Vs (a : Nat) : Int32 := if a = 2 then z_m else nI 0
theorem y_s0_mk {σ : q_Sto} (h2 : σ 2 8 = nI 0 ∧ σ 2 9 = nI 0 ∧ σ 2 10 = nI 0 ∧ σ 2 11 = nI 0 ∧ σ 2 12 = nI 0 ∧ σ 2 13 = z_m ∧ σ 2 14 = nI 0 ∧ σ 2 15 = nI 0 ∧ σ 2 16 = nI 0 ∧ σ 2 17 = nI 0)
    (h5 : ∀ m, m < 12 → σ 5 m = nI 0) (h6 : ∀ m, m < 12 → σ 6 m = z_m) (h10 : ∀ j, j < 60 → σ 10 j = nI 30) (h11 : σ 11 8 = nI 0)
    (hc : σ 19 2 = nI 0 ∧ σ 21 2 = nI 0 ∧ σ 23 2 = nI 0 ∧ σ 25 2 = nI 0 ∧ σ 27 2 = nI 0) (hA : z_CA σ 1) (h155 : σ 155 1 = nI 16)
    (h61 : σ 61 1 = nI 0) (h62 : ∀ i, i < 6 → σ 62 i = nI (63 + 9 * i)) (h142 : σ 142 1 = nI 0) : z_CS 0 0 σ y_Vs y_h0 0 := by
  have v0 : ∀ k, k ≠ 2 → y_Vs k = nI 0 := fun k hk => by unfold y_Vs; rw [if_neg hk]
  have v2 : y_Vs 2 = z_m := by unfold y_Vs; rw [if_pos rfl]
  have b0 : ∀ m, m < 12 → z_bit (nI 0) m = nI 0 := by decide +kernel
  have t0 : ∀ m, m < 12 → Nat.testBit 0 m = false := by decide +kernel
  obtain ⟨a1, a2, a3, a4, a5, a6, a7, a8, a9, a10⟩ := h2
  obtain ⟨c1, c2, c3, c4, c5⟩ := hc
  have HF : z_WF y_Vs 0 0 :=
    ⟨⟨Nat.zero_le _, Nat.zero_le _, v0 86 (by omega), v0 87 (by omega), ⟨0, by decide, v0 7 (by omega)⟩, fun m hm => absurd hm (by omega), fun m k hm => absurd hm (by omega), fun k hk => absurd hk (by omega), ⟨0, by omega, v0 1 (by omega)⟩, Or.inl v2, ⟨0, by omega, v0 6 (by omega)⟩, ⟨0, by omega, v0 88 (by omega)⟩⟩, ⟨0, by omega, v0 0 (by omega)⟩⟩
  have HT : z_TR σ 2 y_Vs 0 0 :=
    ⟨⟨a1, a2, a3.trans (v0 5 (by omega)).symm, a4.trans (v0 88 (by omega)).symm, a5.trans (v0 1 (by omega)).symm, a6.trans v2.symm, a7.trans (v0 3 (by omega)).symm, a8.trans (v0 4 (by omega)).symm, a9.trans (v0 0 (by omega)).symm⟩, fun m hm => absurd hm (by omega), fun m hm => by rw [v0 7 (by omega), b0 m hm]; exact h5 m hm, fun m _ hm => h6 m hm, fun k hk => absurd hk (by omega), fun m k hm => absurd hm (by omega), fun m k hm hk _ => h10 (m*5+k) (by omega)⟩
  have HL : z_LW σ 1 y_Vs := ⟨0, 0, by omega, by omega, h11, v0 89 (by omega), fun i hi => absurd hi (by omega), fun j hj => absurd hj (by omega)⟩
  have HH : z_HE σ 1 y_Vs 0 := ⟨0, by omega, c1, v0 90 (by omega), fun i hi => absurd hi (by omega), fun m hm => ⟨v0 (129+m) (by omega), 0, by decide, t0 m hm, v0 (129+m) (by omega)⟩⟩
  have HP : z_PL σ 1 y_Vs 0 0 := ⟨0, by omega, c2, v0 91 (by omega), fun i hi => absurd hi (by omega)⟩
  have HQ : z_PA σ 1 y_Vs := ⟨0, by omega, c3, v0 92 (by omega), fun i hi => absurd hi (by omega)⟩
  have HO : z_LO σ 1 y_Vs := ⟨0, by omega, c4, v0 93 (by omega), fun i hi => absurd hi (by omega)⟩
  have HS : z_SI σ 1 y_Vs 0 0 := ⟨0, by omega, c5, v0 94 (by omega), fun i hi => absurd hi (by omega)⟩
  have HB : z_BK σ 1 y_Vs := ⟨0, by omega, a10, v0 6 (by omega), fun i c hi => absurd hi (by omega)⟩
  exact ⟨⟨⟨HF.1, HT, ⟨HL, HH, HP, HQ, HO, HS⟩⟩, HB⟩, HF.2, ⟨Nat.zero_le _, h61, fun i => i, ⟨fun i hi => ⟨hi, h62 i hi⟩, fun i j _ _ h => h⟩, fun i hi => absurd hi (Nat.not_lt_zero _)⟩, ⟨Nat.zero_le _, fun i hi => absurd hi (Nat.not_lt_zero _), fun i j _ hj => absurd hj (Nat.not_lt_zero _), Nat.zero_le _, v0 6 (by omega)⟩, hA, h142, h155, fun i hi => absurd hi (Nat.not_lt_zero _)⟩
set_option maxRecDepth 100000 in
set_option maxHeartbeats 4000000 in
theorem y_s0_CS : z_CS 0 0 q_s0 y_Vs y_h0 0 :=
  y_s0_mk (by decide +kernel) (by decide +kernel) (by decide +kernel) (by decide +kernel) (by decide +kernel) (by decide +kernel) (show _ ∧ _ ∧ _ ∧ _ ∧ _ from by decide +kernel) (by decide +kernel) (by decide +kernel) (by decide +kernel) (by decide +kernel)
theorem y_s0_WC {Lx : Nat} {xs : Nat → Int32} : y_WC Lx xs (x_u0 Lx xs) := by
  refine ⟨⟨⟨?_, ?_⟩, ⟨?_, ?_⟩, ?_, ?_⟩, fun i hi => ⟨?_, ?_, ?_, ?_, fun j => ?_⟩⟩
  · show x_k0 Lx x_CT = _
    unfold x_k0 x_CB x_CV x_CT q_nS
    rw [if_neg (by omega), if_neg (by omega), if_neg (by omega), if_neg (by omega), if_neg (by omega), if_pos (by omega)]
  · show (fun k => x_t0 xs x_CT k) = q_d0
    funext k
    unfold x_t0 x_CV x_CT
    rw [if_neg (by omega), if_neg (by omega), if_pos (by omega)]
  · show x_k0 Lx (x_CT+1) = _
    unfold x_k0 x_CB x_CV x_CT q_nS
    rw [if_neg (by omega), if_neg (by omega), if_neg (by omega), if_neg (by omega), if_neg (by omega), if_pos (by omega)]
  · show (fun k => x_t0 xs (x_CT+1) k) = q_d1
    funext k
    unfold x_t0 x_CV x_CT
    rw [if_neg (by omega), if_neg (by omega), if_neg (by omega), if_pos (by omega)]
  · show x_k0 Lx (x_CT+2) = _
    unfold x_k0 x_CB x_CV x_CT q_nS
    rw [if_neg (by omega), if_neg (by omega), if_neg (by omega), if_neg (by omega), if_neg (by omega), if_neg (by omega), if_pos (by omega)]
  · show (fun k => x_t0 xs (x_CT+2) k) = xs
    funext k
    unfold x_t0 x_CV x_CT
    rw [if_neg (by omega), if_neg (by omega), if_neg (by omega), if_neg (by omega)]
  · show x_k0 Lx (x_CB+i) = _
    unfold q_nS at hi
    unfold x_k0 x_CB q_nS
    rw [if_neg (by omega), if_pos (by omega)]
  · show x_r0 (x_CB+i) 0 = _
    unfold x_r0
    rw [if_pos ⟨by omega, by omega, rfl⟩]
    omega
  · show x_t0 xs (x_CB+i) 1 = _
    unfold q_nS at hi
    unfold x_t0 x_CB x_CV
    rw [if_pos (by omega)]
    rfl
  · show x_k0 Lx (x_CV+i) = _
    unfold q_nS at hi
    have e : x_CV + i - x_CV = i := by omega
    unfold x_k0
    rw [e]
    unfold x_CB x_CV q_nS
    rw [if_neg (by omega), if_neg (by omega), if_neg (by omega), if_pos (by omega)]
  · show x_t0 xs (x_CV+i) j = _
    unfold q_nS at hi
    have e : x_CV + i - x_CV = i := by omega
    unfold x_t0
    rw [e]
    unfold x_CV x_CT
    rw [if_neg (by omega), if_pos (by omega)]
theorem x_u0c {Lx : Nat} {xs : Nat → Int32} : x_c (x_u0 Lx xs) = q_s0 := by simp only [x_u0, x_c]
/-! the law, from its first line to its last -/
set_option maxHeartbeats 4000000 in
theorem P_law {Lx : Nat} {xs : Nat → Int32} (hL : Lx ≤ 260) : ∃ u', F_L_law q_F (x_u0 Lx xs) = some (1, u') ∧ x_n u' ≤ 600000 ∧ x_m u' ≤ 7302250 := by
  have hz : z_CS 0 0 (x_c (x_u0 Lx xs)) y_Vs y_h0 0 := by rw [x_u0c]; exact y_s0_CS
  have hW : y_WC Lx xs (x_u0 Lx xs) := y_s0_WC
  have n0 : x_n (x_u0 Lx xs) = 157 := rfl
  have m0 : x_m (x_u0 Lx xs) = 13741 := rfl
  obtain ⟨u, hu⟩ : ∃ u, u = x_u0 Lx xs := ⟨_, rfl⟩
  rw [← hu] at hz hW n0 m0 ⊢
  have v0 : ∀ k, k ≠ 2 → y_Vs k = nI 0 := fun k hk => by unfold y_Vs; rw [if_neg hk]
  have v2 : y_Vs 2 = z_m := by unfold y_Vs; rw [if_pos rfl]
  obtain ⟨u1, p, b, L, pl, pa, mu, me, d, V, Fz, hT, hz1, hV0, hK, hW1, n1, m1, hp, hFz, e1⟩ := F_train hL hz rfl hW ⟨v0 5 (by omega), v0 0 (by omega), v0 1 (by omega), v2, v0 3 (by omega), v0 4 (by omega), v0 88 (by omega), v0 6 (by omega), v0 90 (by omega)⟩ (v0 89 (by omega)) (by omega) (by omega)
  obtain ⟨u2, f2, n2, m2, hz2, e2⟩ := F_isSame (n := q_F) rfl hT hz1 hK (by omega)
  obtain ⟨u3, hu3⟩ : ∃ v, v = x_un u2 (.inr (6, 4)) 6 (fun _ => 0) := ⟨_, rfl⟩
  have f3 : x_fr (fun _ => False) u2 u3 := by rw [hu3]; exact x_fr.un (by omega)
  have n3 : x_n u3 = x_n u2 + 1 := by rw [hu3]; rfl
  have m3 : x_m u3 = x_m u2 + 6 := by rw [hu3]; rfl
  have k3 : x_k u3 (x_n u2) = .inr (6, 4) := by rw [hu3]; exact x_fU_s
  have hbd := hT.bd
  have hFo := hT.2.2.1
  have hTc : x_TN (x_uc u1 (x_c u2)) Fz p b L pl pa mu me d V := hT
  have hT2 : x_TN u2 Fz p b L pl pa mu me d V := hTc.fr f2 (by omega) (fun _ _ q => q) (fun _ _ q => q) (fun _ q => q) (fun i hi => ⟨by have := hFo.1 i hi; omega, fun q => hFo.2 i q hi⟩)
  have hT3 : x_TN u3 Fz p b L pl pa mu me d V := hT2.fr f3 (by omega) (fun _ _ q => q) (fun _ _ q => q) (fun _ q => q) (fun i hi => ⟨by have := hFo.1 i hi; omega, fun q => hFo.2 i q hi⟩)
  have hz3 : z_CS mu me (x_c u3) V y_h0 0 := by rw [f3.1]; exact hz2
  have hWc : y_WC Lx xs (x_uc u1 (x_c u2)) := hW1
  have hW3 : y_WC Lx xs u3 := (hWc.fr f2 (fun i q => q.elim)).fr f3 (fun i q => q.elim)
  have hI : y_I Lx xs (x_n u2) mu me L d u3 p b pl pa V y_h0 0 Fz (fun p1 b1 V1 => p1 = p ∧ b1 = b ∧ V1 = V) 0 := by
    refine ⟨⟨?_, ?_⟩, ⟨rfl, rfl, rfl⟩, ⟨⟨by omega, by omega, by omega, k3, ?_, ?_⟩, Nat.zero_le _, fun i hi => absurd hi (Nat.not_lt_zero _), fun i j hi => absurd hi (Nat.not_lt_zero _)⟩, hz3, hK, fun i hi => absurd hi (Nat.not_lt_zero _), ⟨0, Nat.le_refl _, hV0⟩, hW3⟩
    · rintro p1 b1 V1 ⟨rfl, rfl, rfl⟩
      exact hT3
    · rintro p1 b1 V1 p2 b2 V2 ⟨rfl, rfl, rfl⟩ ⟨rfl, rfl, rfl⟩ hne
      exact absurd rfl hne
    · intro q
      have := hFo.1 _ q
      omega
    · rintro p1 b1 V1 ⟨rfl, rfl, rfl⟩ q
      have := (hT.own q).1
      omega
  obtain ⟨u4, p', b', pl', pa', V', hs', wn', Fz', S', hI4, n4, m4, e4⟩ := T_loop hL 22 0 u3 p b pl pa V y_h0 0 Fz _ 0 rfl hI (by omega) (by omega)
  obtain ⟨u5, n5, m5, e5⟩ := T_refuse hI4 (by omega)
  refine ⟨u5, ?_, by omega, by omega⟩
  have e4' : ∀ (K : Nat → x_U → Option (Int32 × x_U)) (j : Nat), 22 < j → F_L_law_L41 q_F (x_CT + 2) (x_n u2) K j p 0 0 u3 = K p' u4 := e4
  unfold F_L_law
  rw [e1, z_xcall, if_neg (show ¬ p = 0 from by omega), p_xo, h_xoE hT.k0, e2, z_xcall, if_neg (by decide), p_xnwa, show (6 : Int32) = nI 6 from rfl, h_xnwaE (by omega) (by omega), ← hu3]
  refine (e4' _ q_F (by unfold q_F; omega)).trans ?_
  exact e5
