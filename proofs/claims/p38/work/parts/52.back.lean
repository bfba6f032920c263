theorem z_fc_c2 {V V' : Nat → Int32} (h : ∀ a, a = 0 ∨ 20 ≤ a → V' a = V a) (m : Nat) (lk hd ha so ho : Int32) : z_fc V' m lk hd ha so ho = z_fc V m lk hd ha so ho := by
  funext f
  unfold z_fc
  split <;> first | rfl | exact h _ (by omega)
theorem z_bt_c2 {V V' : Nat → Int32} (h : ∀ a, a = 0 ∨ 20 ≤ a → V' a = V a) (mu me : Nat) : z_bt V' mu me = z_bt V mu me := by
  have e1 : (fun m k hh => z_lean V' m k (z_lk V' m k) hh) = fun m k hh => z_lean V m k (z_lk V m k) hh := by
    funext m k hh
    have : z_lk V' m k = z_lk V m k := by
      unfold z_lk
      rw [h _ (by omega)]
    rw [this]
    unfold z_lean
    rw [z_fc_c2 h, h (119+k) (by omega), h (124+k) (by omega), h 89 (by omega), z_tl_congr (fun a ha => h a (by omega))]
  have e2 : (fun m => z_need V' m) = fun m => z_need V m := by
    funext m
    unfold z_need
    rw [z_fc_c2 h, h 89 (by omega), z_tl_congr (fun a ha => h a (by omega))]
  have e3 : z_hs V' = z_hs V := by
    funext m
    show (if _ then _ else _) = (if _ then _ else _)
    rw [h (129+m) (by omega)]
  show (_, _, _, mu, me) = (_, _, _, mu, me)
  rw [e1, e2, e3]
theorem z_ty_congr {c d : Nat → Int32} : ∀ n i ts, (∀ j, i ≤ j → j < i + n → d j = c j) → z_ty d n i ts = z_ty c n i ts
  | 0, _, _, _ => rfl
  | n + 1, i, ts, h => by
    unfold z_ty
    rw [h i (by omega) (by omega)]
    cases z_ty1 (c i) ts with
    | none => rfl
    | some us => exact z_ty_congr n (i+1) us (fun j h1 h2 => h j (by omega) (by omega))
theorem z_hor_congr {c d : Nat → Int32} {m : Nat} : ∀ n, (∀ j, j < 64 → d j = c j) → n ≤ 16 → z_hor d m n = z_hor c m n
  | 0, _, _ => rfl
  | n + 1, h, hn => by
    unfold z_hor
    rw [h (n*4) (by omega), h (n*4+1) (by omega), z_hor_congr n h (by omega)]
/-- the texts, copied from a to t -/
theorem z_WT.copy {σ σ' : q_Sto} {t a : Nat} {V : Nat → Int32} {mu me : Nat} (h : z_WT σ a V mu me) (e8 : σ' (t+10) 8 = σ (a+10) 8) (e16 : ∀ i, i < 16 → σ' (t+11) i = σ (a+11) i ∧ σ' (t+12) i = σ (a+12) i ∧ σ' (t+13) i = σ (a+13) i ∧ σ' (t+14) i = σ (a+14) i)
    (e400 : ∀ j, j < 400 → σ' (t+15) j = σ (a+15) j ∧ σ' (t+16) j = σ (a+16) j) (c18 : σ' (t+18) 2 = σ (a+18) 2) (c20 : σ' (t+20) 2 = σ (a+20) 2) (c22 : σ' (t+22) 2 = σ (a+22) 2) (c24 : σ' (t+24) 2 = σ (a+24) 2) (c26 : σ' (t+26) 2 = σ (a+26) 2)
    (r : ∀ k, k < 64 → σ' (t+19) k = σ (a+19) k ∧ σ' (t+21) k = σ (a+21) k ∧ σ' (t+23) k = σ (a+23) k ∧ σ' (t+25) k = σ (a+25) k ∧ σ' (t+27) k = σ (a+27) k) : z_WT σ' t V mu me := by
  obtain ⟨⟨c, z, l1, l2, l3, l4, l5, l6⟩, ⟨c2, h1, h2, h3, h4, h5⟩, ⟨c3, p1, p2, p3, p4⟩, ⟨c4, a1, a2, a3, a4⟩, ⟨c5, o1, o2, o3, o4⟩, ⟨c6, s1, s2, s3, s4⟩⟩ := h
  refine ⟨⟨c, z, l1, l2, e8.trans l3, l4, fun i hi => ?_, fun j hj => ?_⟩, ⟨c2, h1, c18.trans h2, h3, fun i hi => ?_, fun m hm => ?_⟩, ⟨c3, p1, c20.trans p2, p3, fun i hi => ?_⟩, ⟨c4, a1, c22.trans a2, a3, fun i hi => ?_⟩, ⟨c5, o1, c24.trans o2, o3, fun i hi => ?_⟩, ⟨c6, s1, c26.trans s2, s3, fun i hi => ?_⟩⟩
  · obtain ⟨x1, x2, x3, x4⟩ := e16 i (by omega)
    obtain ⟨f, m, tt, w, y1, y2, y3, y4, y5, y6, y7, y8, y9, y10, y11, y12, y13⟩ := l5 i hi
    refine ⟨f, m, tt, w, y1, y2, y3, y4, y5, y6, y7, y8, x1.trans y9, x2.trans y10, x4.trans y11, ?_, ?_⟩
    · rcases y12 with ⟨z1, z2⟩ | ⟨z1, z2, z3⟩
      · exact Or.inl ⟨z1, x3.trans z2⟩
      · refine Or.inr ⟨z1, x3.trans z2, ?_⟩
        rw [z_ty_congr _ _ _ (fun j j1 j2 => (e400 j (by omega)).1)]
        exact z3
    · rw [z_ty_congr _ _ _ (fun j j1 j2 => (e400 j (by omega)).1)]
      exact y13
  · rw [(e400 j (by omega)).1, (e400 j (by omega)).2]; exact l6 j hj
  · rw [(r _ (by omega)).1, (r _ (by omega)).1]; exact h4 i hi
  · rw [z_hor_congr c2 (fun j hj => (r j hj).1) h1]; exact h5 m hm
  · rw [(r _ (by omega)).2.1, (r _ (by omega)).2.1, (r _ (by omega)).2.1, (r _ (by omega)).2.1]; exact p4 i hi
  · rw [(r _ (by omega)).2.2.1, (r _ (by omega)).2.2.1, (r _ (by omega)).2.2.1]; exact a4 i hi
  · rw [(r _ (by omega)).2.2.2.1, (r _ (by omega)).2.2.2.1]; exact o4 i hi
  · rw [(r _ (by omega)).2.2.2.2, (r _ (by omega)).2.2.2.2, (r _ (by omega)).2.2.2.2]; exact s4 i hi
theorem c_copyLaw {n t a : Nat} {σ : q_Sto} (ht : ∀ k, k < 6 → q_RF t k = t+1+k) (ha : ∀ k, k < 6 → q_RF a k = a+1+k) (hd : t + 8 ≤ a ∨ a + 8 ≤ t) : ∃ σ', f_X2_copyFrom n t a σ = some (nI 0, σ') ∧ (∀ o, o < t ∨ t + 6 < o → σ' o = σ o) ∧
    σ' t 8 = σ a 8 ∧ (∀ i, i < 16 → σ' (t+1) i = σ (a+1) i ∧ σ' (t+2) i = σ (a+2) i ∧ σ' (t+3) i = σ (a+3) i ∧ σ' (t+4) i = σ (a+4) i) ∧ (∀ j, j < 400 → σ' (t+5) j = σ (a+5) j ∧ σ' (t+6) j = σ (a+6) j) := by
  obtain ⟨s1, e1⟩ : ∃ s, s = q_cpy σ (a+1+0) (t+1+0) 16 := ⟨_, rfl⟩
  have F1 : ∀ o, o ≠ t+1 → s1 o = σ o := fun o ho => by rw [e1]; exact z_cpyO (by omega)
  have G1 : ∀ k, k < 16 → s1 (t+1) k = σ (a+1) k := fun k hk => by rw [e1]; exact z_cpyI hk
  obtain ⟨s2, e2⟩ : ∃ s, s = q_cpy s1 (a+1+1) (t+1+1) 16 := ⟨_, rfl⟩
  have F2 : ∀ o, o ≠ t+2 → s2 o = s1 o := fun o ho => by rw [e2]; exact z_cpyO (by omega)
  have G2 : ∀ k, k < 16 → s2 (t+2) k = s1 (a+2) k := fun k hk => by rw [e2]; exact z_cpyI hk
  obtain ⟨s3, e3⟩ : ∃ s, s = q_cpy s2 (a+1+2) (t+1+2) 16 := ⟨_, rfl⟩
  have F3 : ∀ o, o ≠ t+3 → s3 o = s2 o := fun o ho => by rw [e3]; exact z_cpyO (by omega)
  have G3 : ∀ k, k < 16 → s3 (t+3) k = s2 (a+3) k := fun k hk => by rw [e3]; exact z_cpyI hk
  obtain ⟨s4, e4⟩ : ∃ s, s = q_cpy s3 (a+1+3) (t+1+3) 16 := ⟨_, rfl⟩
  have F4 : ∀ o, o ≠ t+4 → s4 o = s3 o := fun o ho => by rw [e4]; exact z_cpyO (by omega)
  have G4 : ∀ k, k < 16 → s4 (t+4) k = s3 (a+4) k := fun k hk => by rw [e4]; exact z_cpyI hk
  obtain ⟨s5, e5⟩ : ∃ s, s = q_cpy s4 (a+1+4) (t+1+4) 400 := ⟨_, rfl⟩
  have F5 : ∀ o, o ≠ t+5 → s5 o = s4 o := fun o ho => by rw [e5]; exact z_cpyO (by omega)
  have G5 : ∀ k, k < 400 → s5 (t+5) k = s4 (a+5) k := fun k hk => by rw [e5]; exact z_cpyI hk
  obtain ⟨s6, e6⟩ : ∃ s, s = q_cpy s5 (a+1+5) (t+1+5) 400 := ⟨_, rfl⟩
  have F6 : ∀ o, o ≠ t+6 → s6 o = s5 o := fun o ho => by rw [e6]; exact z_cpyO (by omega)
  have G6 : ∀ k, k < 400 → s6 (t+6) k = s5 (a+6) k := fun k hk => by rw [e6]; exact z_cpyI hk
  refine ⟨q_up (q_up s6 t 7 (s6 a 7)) t 8 (q_up s6 t 7 (s6 a 7) a 8), ?_, fun o ho => by rw [z_upO (by omega), z_upO (by omega), F6 _ (by omega), F5 _ (by omega), F4 _ (by omega), F3 _ (by omega), F2 _ (by omega), F1 _ (by omega)], by rw [z_upS, z_upO (by omega), F6 _ (by omega), F5 _ (by omega), F4 _ (by omega), F3 _ (by omega), F2 _ (by omega), F1 _ (by omega)], fun i hi => ⟨by rw [z_upO (by omega), z_upO (by omega), F6 _ (by omega), F5 _ (by omega), F4 _ (by omega), F3 _ (by omega), F2 _ (by omega), G1 i hi], by rw [z_upO (by omega), z_upO (by omega), F6 _ (by omega), F5 _ (by omega), F4 _ (by omega), F3 _ (by omega), G2 i hi, F1 _ (by omega)], by rw [z_upO (by omega), z_upO (by omega), F6 _ (by omega), F5 _ (by omega), F4 _ (by omega), G3 i hi, F2 _ (by omega), F1 _ (by omega)], by rw [z_upO (by omega), z_upO (by omega), F6 _ (by omega), F5 _ (by omega), G4 i hi, F3 _ (by omega), F2 _ (by omega), F1 _ (by omega)]⟩, fun j hj => ⟨by rw [z_upO (by omega), z_upO (by omega), F6 _ (by omega), G5 j hj, F4 _ (by omega), F3 _ (by omega), F2 _ (by omega), F1 _ (by omega)], by rw [z_upO (by omega), z_upO (by omega), G6 j hj, F5 _ (by omega), F4 _ (by omega), F3 _ (by omega), F2 _ (by omega), F1 _ (by omega)]⟩⟩
  unfold f_X2_copyFrom
  rw [ht 0 (by omega), ht 1 (by omega), ht 2 (by omega), ht 3 (by omega), ht 4 (by omega), ht 5 (by omega), ha 0 (by omega), ha 1 (by omega), ha 2 (by omega), ha 3 (by omega), ha 4 (by omega), ha 5 (by omega)]
  rw [c_copyRow (by omega), z_callv, ← e1, c_copyRow (by omega), z_callv, ← e2, c_copyRow (by omega), z_callv, ← e3, c_copyRow (by omega), z_callv, ← e4, c_copyRow (by omega), z_callv, ← e5, c_copyRow (by omega), z_callv, ← e6]
  rfl
theorem c_copyRows {n t a c cap : Nat} {σ : q_Sto} (ht : q_RF t 0 = t+1) (ha : q_RF a 0 = a+1) (hd : t + 2 ≤ a ∨ a + 2 ≤ t) (hc : σ a 2 = nI c) (hcap : σ t 1 = nI cap) (h1 : c ≤ cap) (h2 : cap ≤ 16) : ∃ σ', f_X6_copyFrom n t a σ = some (nI 0, σ') ∧ (∀ o, o < t ∨ t + 1 < o → σ' o = σ o) ∧ σ' t 2 = σ a 2 ∧ (∀ f, f ≠ 2 → σ' t f = σ t f) ∧ (∀ k, k < 64 → σ' (t+1) k = σ (a+1) k) := by
  refine ⟨q_up (q_cpy σ (a+1) (t+1) 64) t 2 (nI c), ?_, fun o ho => by rw [z_upO (by omega), z_cpyO (by omega)], by rw [hc]; exact z_upS, fun f hf => by rw [z_upK hf, z_cpyO (by omega)], fun k hk => by rw [z_upO (by omega), z_cpyI hk]⟩
  unfold f_X6_copyFrom
  have e1 : q_cpy σ (a+1) (t+1) 64 a 2 = nI c := by rw [z_cpyO (by omega)]; exact hc
  have e2 : q_cpy σ (a+1) (t+1) 64 t 1 = nI cap := by rw [z_cpyO (by omega)]; exact hcap
  have e3 : min c cap = c := by omega
  rw [ht, ha, c_copyRow (by omega), z_callv, e1, e2, z_mnE (by omega) (by omega), e3]
  rfl
theorem z_cA1 : ∀ k, k < 6 → q_RF 11 k = 11+1+k := by decide
theorem z_cA31 : ∀ k, k < 6 → q_RF 41 k = 41+1+k := by decide
theorem z_rf32 : ∀ k, k < 8 → q_RF 32 k = 32+1+k := by decide

theorem z_WR.row {σ : q_Sto} {b mu me : Nat} {V V' : Nat → Int32} (hF : z_WF V mu me) (h : z_WR σ b V mu me) (e : ∀ k, k < 1790 → V' k = V k) : z_WF V' mu me ∧ z_WR σ b V' mu me := by
  have e2 : z_WT σ b V' mu me := by
    obtain ⟨⟨c, z, l1, l2, l3, l4, l5, l6⟩, ⟨c2, h1, h2, h3, h4, h5⟩, ⟨c3, p1, p2, p3, p4⟩, ⟨c4, a1, a2, a3, a4⟩, ⟨c5, o1, o2, o3, o4⟩, ⟨c6, s1, s2, s3, s4⟩⟩ := h.2.1
    refine ⟨⟨c, z, l1, l2, l3, by rw [e 89 (by omega)]; exact l4, fun i hi => ?_, fun j hj => ?_⟩, ⟨c2, h1, h2, by rw [e 90 (by omega)]; exact h3, h4, fun m hm => ?_⟩, ⟨c3, p1, p2, by rw [e 91 (by omega)]; exact p3, fun i hi => ?_⟩, ⟨c4, a1, a2, by rw [e 92 (by omega)]; exact a3, fun i hi => ?_⟩, ⟨c5, o1, o2, by rw [e 93 (by omega)]; exact o3, fun i hi => ?_⟩, ⟨c6, s1, s2, by rw [e 94 (by omega)]; exact s3, fun i hi => ?_⟩⟩
    · rw [e (905+i) (by omega), e (921+i) (by omega), e (937+i) (by omega), e (953+i) (by omega)]; exact l5 i hi
    · rw [e (970+2*j) (by omega), e (970+2*j+1) (by omega)]; exact l6 j hj
    · rw [e (129+m) (by omega)]; exact h5 m hm
    · rw [e (141+4*i) (by omega), e (141+4*i+1) (by omega), e (141+4*i+2) (by omega), e (141+4*i+3) (by omega)]; exact p4 i hi
    · rw [e (205+3*i) (by omega), e (205+3*i+1) (by omega), e (205+3*i+2) (by omega)]; exact a4 i hi
    · rw [e (253+2*i) (by omega), e (253+2*i+1) (by omega)]; exact o4 i hi
    · rw [e (269+3*i) (by omega), e (269+3*i+1) (by omega), e (269+3*i+2) (by omega)]; exact s4 i hi
  refine ⟨hF.congr (fun a ha => e a (by omega)), h.1.congr hF.1.1 hF.1.2.1 (fun a ha => e a (by omega)), e2, ?_⟩
  obtain ⟨w, b1, b2, b3, b4⟩ := h.2.2
  exact ⟨w, b1, b2, by rw [e 6 (by omega)]; exact b3, fun i c hi hc => by rw [e _ (by omega)]; exact b4 i c hi hc⟩
theorem z_HI.no {σ : q_Sto} {mu me mu' me' : Nat} {σ' : q_Sto} (h : z_HI σ mu me) (e62 : σ' 62 = σ 62) (e61 : σ' 61 1 = nI 0) (e4 : σ' 157 4 = nI 0) : z_HI σ' mu' me' := by
  obtain ⟨c, p, w, h1, h2, h3, h4, h5, h6, h7, h8⟩ := h
  exact ⟨0, p, fun _ => 0, by omega, e61, e4, fun i hi => ⟨(h4 i hi).1, by rw [e62]; exact (h4 i hi).2⟩, h5, fun i hi => by omega, fun i j _ _ => Nat.le_refl _, Nat.zero_le _⟩