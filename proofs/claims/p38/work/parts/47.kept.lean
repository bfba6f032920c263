/-! what was kept, and given back -/
theorem z_rfT : ∀ p, p < 6 → ∀ k, k < 8 → q_RF (63+9*p) k = 63+9*p+1+k := by decide
theorem z_cpE {σ : q_Sto} {a b m : Nat} {k : q_Sto → Option (Int32 × q_Sto)} (h : m < 2147483000) : q_cp σ a b (nI m) m m k = k (q_cpy σ a b m) := by
  unfold q_cp
  rw [if_pos (z_in (by omega) (by omega)), if_pos (z_in (by omega) (by omega)), nI_clamp (by omega)]
theorem c_copyRow {n a b m : Nat} {σ : q_Sto} (h : m < 2147483000) : f_X11_copyRow n a m b m σ = some (nI 0, q_cpy σ a b m) := by
  unfold f_X11_copyRow
  rw [z_of, z_mnE (by omega) (by omega), Nat.min_self, z_cpE h]
  rfl
theorem z_cpyI {σ : q_Sto} {a b m k : Nat} (h : k < m) : q_cpy σ a b m b k = σ a k := by
  show (if b = b then (if k < m then _ else _) else _) = _
  rw [if_pos rfl, if_pos h]
theorem z_cpyO {σ : q_Sto} {a b m o : Nat} (h : o ≠ b) : q_cpy σ a b m o = σ o := by
  funext k
  show (if o = b then _ else _) = _
  rw [if_neg h]
/-- the ten numbers of a train copied -/
def z_sc10 (s : q_Sto) (t a : Nat) : q_Sto :=
  let s8 := q_up s t 8 (s a 8)
  let s9 := q_up s8 t 9 (s8 a 9)
  let s10 := q_up s9 t 10 (s9 a 10)
  let s11 := q_up s10 t 11 (s10 a 11)
  let s12 := q_up s11 t 12 (s11 a 12)
  let s13 := q_up s12 t 13 (s12 a 13)
  let s14 := q_up s13 t 14 (s13 a 14)
  let s15 := q_up s14 t 15 (s14 a 15)
  let s16 := q_up s15 t 16 (s15 a 16)
  let s17 := q_up s16 t 17 (s16 a 17)
  s17
theorem z_sc10_o {s : q_Sto} {t a o : Nat} (h : o ≠ t) : z_sc10 s t a o = s o := by
  unfold z_sc10
  simp only [q_up_o h]
theorem z_sc10_f {s : q_Sto} {t a f : Nat} (h : a ≠ t) (h1 : 8 ≤ f) (h2 : f ≤ 17) : z_sc10 s t a t f = s a f := by
  unfold z_sc10
  simp only [q_up_o h]
  have : f = 8 ∨ f = 9 ∨ f = 10 ∨ f = 11 ∨ f = 12 ∨ f = 13 ∨ f = 14 ∨ f = 15 ∨ f = 16 ∨ f = 17 := by omega
  rcases this with rfl | rfl | rfl | rfl | rfl | rfl | rfl | rfl | rfl | rfl <;> simp (disch := omega) only [q_up_s, q_up_k]
theorem z_cp8 {σ : q_Sto} {t a : Nat} (hd : t + 9 ≤ a ∨ a + 9 ≤ t) : ∃ s, s = q_cpy (q_cpy (q_cpy (q_cpy (q_cpy (q_cpy (q_cpy (q_cpy σ (a+1+0) (t+1+0) 12) (a+1+1) (t+1+1) 12) (a+1+2) (t+1+2) 12) (a+1+3) (t+1+3) 12) (a+1+4) (t+1+4) 5) (a+1+5) (t+1+5) 5) (a+1+6) (t+1+6) 5) (a+1+7) (t+1+7) 60 ∧ (∀ o, o ≤ t ∨ t + 8 < o → s o = σ o) ∧
    (∀ m, m < 12 → s (t+1) m = σ (a+1) m ∧ s (t+2) m = σ (a+2) m ∧ s (t+3) m = σ (a+3) m ∧ s (t+4) m = σ (a+4) m) ∧ (∀ k, k < 5 → s (t+5) k = σ (a+5) k ∧ s (t+6) k = σ (a+6) k ∧ s (t+7) k = σ (a+7) k) ∧ (∀ k, k < 60 → s (t+8) k = σ (a+8) k) := by
  obtain ⟨s1, e1⟩ : ∃ s, s = q_cpy σ (a+1+0) (t+1+0) 12 := ⟨_, rfl⟩
  have F1 : ∀ o, o ≠ t+1 → s1 o = σ o := fun o ho => by rw [e1]; exact z_cpyO (by omega)
  have G1 : ∀ k, k < 12 → s1 (t+1) k = σ (a+1) k := fun k hk => by rw [e1]; exact z_cpyI hk
  obtain ⟨s2, e2⟩ : ∃ s, s = q_cpy s1 (a+1+1) (t+1+1) 12 := ⟨_, rfl⟩
  have F2 : ∀ o, o ≠ t+2 → s2 o = s1 o := fun o ho => by rw [e2]; exact z_cpyO (by omega)
  have G2 : ∀ k, k < 12 → s2 (t+2) k = s1 (a+2) k := fun k hk => by rw [e2]; exact z_cpyI hk
  obtain ⟨s3, e3⟩ : ∃ s, s = q_cpy s2 (a+1+2) (t+1+2) 12 := ⟨_, rfl⟩
  have F3 : ∀ o, o ≠ t+3 → s3 o = s2 o := fun o ho => by rw [e3]; exact z_cpyO (by omega)
  have G3 : ∀ k, k < 12 → s3 (t+3) k = s2 (a+3) k := fun k hk => by rw [e3]; exact z_cpyI hk
  obtain ⟨s4, e4⟩ : ∃ s, s = q_cpy s3 (a+1+3) (t+1+3) 12 := ⟨_, rfl⟩
  have F4 : ∀ o, o ≠ t+4 → s4 o = s3 o := fun o ho => by rw [e4]; exact z_cpyO (by omega)
  have G4 : ∀ k, k < 12 → s4 (t+4) k = s3 (a+4) k := fun k hk => by rw [e4]; exact z_cpyI hk
  obtain ⟨s5, e5⟩ : ∃ s, s = q_cpy s4 (a+1+4) (t+1+4) 5 := ⟨_, rfl⟩
  have F5 : ∀ o, o ≠ t+5 → s5 o = s4 o := fun o ho => by rw [e5]; exact z_cpyO (by omega)
  have G5 : ∀ k, k < 5 → s5 (t+5) k = s4 (a+5) k := fun k hk => by rw [e5]; exact z_cpyI hk
  obtain ⟨s6, e6⟩ : ∃ s, s = q_cpy s5 (a+1+5) (t+1+5) 5 := ⟨_, rfl⟩
  have F6 : ∀ o, o ≠ t+6 → s6 o = s5 o := fun o ho => by rw [e6]; exact z_cpyO (by omega)
  have G6 : ∀ k, k < 5 → s6 (t+6) k = s5 (a+6) k := fun k hk => by rw [e6]; exact z_cpyI hk
  obtain ⟨s7, e7⟩ : ∃ s, s = q_cpy s6 (a+1+6) (t+1+6) 5 := ⟨_, rfl⟩
  have F7 : ∀ o, o ≠ t+7 → s7 o = s6 o := fun o ho => by rw [e7]; exact z_cpyO (by omega)
  have G7 : ∀ k, k < 5 → s7 (t+7) k = s6 (a+7) k := fun k hk => by rw [e7]; exact z_cpyI hk
  obtain ⟨s8, e8⟩ : ∃ s, s = q_cpy s7 (a+1+7) (t+1+7) 60 := ⟨_, rfl⟩
  have F8 : ∀ o, o ≠ t+8 → s8 o = s7 o := fun o ho => by rw [e8]; exact z_cpyO (by omega)
  have G8 : ∀ k, k < 60 → s8 (t+8) k = s7 (a+8) k := fun k hk => by rw [e8]; exact z_cpyI hk
  refine ⟨s8, by rw [e8, e7, e6, e5, e4, e3, e2, e1], fun o ho => by rw [F8 _ (by omega), F7 _ (by omega), F6 _ (by omega), F5 _ (by omega), F4 _ (by omega), F3 _ (by omega), F2 _ (by omega), F1 _ (by omega)], fun m hm => ⟨by rw [F8 _ (by omega), F7 _ (by omega), F6 _ (by omega), F5 _ (by omega), F4 _ (by omega), F3 _ (by omega), F2 _ (by omega), G1 m hm], by rw [F8 _ (by omega), F7 _ (by omega), F6 _ (by omega), F5 _ (by omega), F4 _ (by omega), F3 _ (by omega), G2 m hm, F1 _ (by omega)], by rw [F8 _ (by omega), F7 _ (by omega), F6 _ (by omega), F5 _ (by omega), F4 _ (by omega), G3 m hm, F2 _ (by omega), F1 _ (by omega)], by rw [F8 _ (by omega), F7 _ (by omega), F6 _ (by omega), F5 _ (by omega), G4 m hm, F3 _ (by omega), F2 _ (by omega), F1 _ (by omega)]⟩, fun k hk => ⟨by rw [F8 _ (by omega), F7 _ (by omega), F6 _ (by omega), G5 k hk, F4 _ (by omega), F3 _ (by omega), F2 _ (by omega), F1 _ (by omega)], by rw [F8 _ (by omega), F7 _ (by omega), G6 k hk, F5 _ (by omega), F4 _ (by omega), F3 _ (by omega), F2 _ (by omega), F1 _ (by omega)], by rw [F8 _ (by omega), G7 k hk, F6 _ (by omega), F5 _ (by omega), F4 _ (by omega), F3 _ (by omega), F2 _ (by omega), F1 _ (by omega)]⟩, fun k hk => by rw [G8 k hk, F7 _ (by omega), F6 _ (by omega), F5 _ (by omega), F4 _ (by omega), F3 _ (by omega), F2 _ (by omega), F1 _ (by omega)]⟩
/-- a train copied: t and a are trains -/
theorem c_copyTrain {n t a : Nat} {σ : q_Sto} (ht : ∀ k, k < 8 → q_RF t k = t+1+k) (ha : ∀ k, k < 8 → q_RF a k = a+1+k) (hd : t + 9 ≤ a ∨ a + 9 ≤ t) : ∃ σ', f_X9_copyFrom n t a σ = some (nI 0, σ') ∧ (∀ o, o < t ∨ t + 8 < o → σ' o = σ o) ∧
    (∀ f, 8 ≤ f → f ≤ 17 → σ' t f = σ a f) ∧ (∀ m, m < 12 → σ' (t+1) m = σ (a+1) m ∧ σ' (t+2) m = σ (a+2) m ∧ σ' (t+3) m = σ (a+3) m ∧ σ' (t+4) m = σ (a+4) m) ∧ (∀ k, k < 5 → σ' (t+5) k = σ (a+5) k ∧ σ' (t+6) k = σ (a+6) k ∧ σ' (t+7) k = σ (a+7) k) ∧ (∀ k, k < 60 → σ' (t+8) k = σ (a+8) k) := by
  obtain ⟨s, e, f1, f2, f3, f4⟩ := z_cp8 (σ := σ) hd
  refine ⟨z_sc10 s t a, ?_, fun o ho => by rw [z_sc10_o (by omega), f1 o (by omega)], fun f h1 h2 => by rw [z_sc10_f (by omega) h1 h2, f1 a (by omega)], fun m hm => by rw [z_sc10_o (by omega), z_sc10_o (by omega), z_sc10_o (by omega), z_sc10_o (by omega)]; exact f2 m hm, fun k hk => by rw [z_sc10_o (by omega), z_sc10_o (by omega), z_sc10_o (by omega)]; exact f3 k hk, fun k hk => by rw [z_sc10_o (by omega)]; exact f4 k hk⟩
  unfold f_X9_copyFrom
  rw [ht 0 (by omega), ht 1 (by omega), ht 2 (by omega), ht 3 (by omega), ht 4 (by omega), ht 5 (by omega), ht 6 (by omega), ht 7 (by omega), ha 0 (by omega), ha 1 (by omega), ha 2 (by omega), ha 3 (by omega), ha 4 (by omega), ha 5 (by omega), ha 6 (by omega), ha 7 (by omega)]
  rw [c_copyRow (by omega), z_callv, c_copyRow (by omega), z_callv, c_copyRow (by omega), z_callv, c_copyRow (by omega), z_callv, c_copyRow (by omega), z_callv, c_copyRow (by omega), z_callv, c_copyRow (by omega), z_callv, c_copyRow (by omega), z_callv, ← e]
  rfl
theorem z_TR.copy {σ σ' : q_Sto} {t a : Nat} {V : Nat → Int32} {mu me : Nat} (hmu : mu ≤ 12) (hme : me ≤ 5) (h : z_TR σ a V mu me) (hs : ∀ f, 8 ≤ f → f ≤ 17 → σ' t f = σ a f) (h12 : ∀ m, m < 12 → σ' (t+1) m = σ (a+1) m ∧ σ' (t+2) m = σ (a+2) m ∧ σ' (t+3) m = σ (a+3) m ∧ σ' (t+4) m = σ (a+4) m)
    (h5 : ∀ k, k < 5 → σ' (t+5) k = σ (a+5) k ∧ σ' (t+6) k = σ (a+6) k ∧ σ' (t+7) k = σ (a+7) k) (h60 : ∀ k, k < 60 → σ' (t+8) k = σ (a+8) k) : z_TR σ' t V mu me := by
  obtain ⟨⟨g1, g2, g3, g4, g5, g6, g7, g8, g9⟩, t1, t2, t3, t4, t5, t6⟩ := h
  refine ⟨⟨(hs 8 (by omega) (by omega)).trans g1, (hs 9 (by omega) (by omega)).trans g2, (hs 10 (by omega) (by omega)).trans g3, (hs 11 (by omega) (by omega)).trans g4, (hs 12 (by omega) (by omega)).trans g5, (hs 13 (by omega) (by omega)).trans g6, (hs 14 (by omega) (by omega)).trans g7, (hs 15 (by omega) (by omega)).trans g8, (hs 16 (by omega) (by omega)).trans g9⟩, fun m hm => ?_, fun m hm => ?_, fun m m1 m2 => ?_, fun k hk => ?_, fun m k hm hk => ?_, fun m k hm hk hq => ?_⟩
  · obtain ⟨x1, x2, x3, x4⟩ := h12 m (by omega)
    rw [x1, x2, x4]; exact t1 m hm
  · rw [(h12 m hm).2.2.1]; exact t2 m hm
  · rw [(h12 m m2).2.2.2]; exact t3 m m1 m2
  · obtain ⟨x1, x2, x3⟩ := h5 k (by omega)
    rw [x1, x2, x3]; exact t4 k hk
  · rw [h60 _ (by omega)]; exact t5 m k hm hk
  · rw [h60 _ (by omega)]; exact t6 m k hm hk hq
theorem z_TR.congr {σ : q_Sto} {t : Nat} {V V' : Nat → Int32} {mu me : Nat} (hmu : mu ≤ 12) (hme : me ≤ 5) (h : z_TR σ t V mu me) (e : ∀ a, a < 129 → V' a = V a) : z_TR σ t V' mu me := by
  obtain ⟨⟨g1, g2, g3, g4, g5, g6, g7, g8, g9⟩, t1, t2, t3, t4, t5, t6⟩ := h
  refine ⟨by rw [e 5 (by omega), e 88 (by omega), e 1 (by omega), e 2 (by omega), e 3 (by omega), e 4 (by omega), e 0 (by omega)]; exact ⟨g1, g2, g3, g4, g5, g6, g7, g8, g9⟩, fun m hm => ?_, fun m hm => ?_, t3, fun k hk => ?_, fun m k hm hk => ?_, t6⟩
  · rw [e (95+m) (by omega), e (107+m) (by omega), e (8+m) (by omega)]; exact t1 m hm
  · rw [e 7 (by omega)]; exact t2 m hm
  · rw [e (80+k) (by omega), e (119+k) (by omega), e (124+k) (by omega)]; exact t4 k hk
  · rw [e (20+5*m+k) (by omega)]; exact t5 m k hm hk
theorem z_WF.congr {V V' : Nat → Int32} {mu me : Nat} (h : z_WF V mu me) (e : ∀ a, a < 129 → V' a = V a) : z_WF V' mu me := by
  obtain ⟨⟨f1, f2, f3, f4, f5, f6, f7, f8, f9, f10, f11, f12⟩, h0⟩ := h
  refine ⟨⟨f1, f2, by rw [e 86 (by omega)]; exact f3, by rw [e 87 (by omega)]; exact f4, by rw [e 7 (by omega)]; exact f5, fun m hm => ?_, fun m k hm hk => ?_, fun k hk => ?_, by rw [e 1 (by omega)]; exact f9, by rw [e 2 (by omega)]; exact f10, by rw [e 6 (by omega)]; exact f11, by rw [e 88 (by omega)]; exact f12⟩, by rw [e 0 (by omega)]; exact h0⟩
  · rw [e (8+m) (by omega), e (95+m) (by omega), e (107+m) (by omega)]; exact f6 m hm
  · rw [e (20+5*m+k) (by omega)]; exact f7 m k hm hk
  · rw [e (80+k) (by omega), e (119+k) (by omega), e (124+k) (by omega)]; exact f8 k hk
/-- the slots -/
def z_HP (σ : q_Sto) (p : Nat → Nat) : Prop := (∀ i, i < 6 → p i < 6 ∧ σ 62 i = nI (63 + 9 * p i)) ∧ (∀ i j, i < 6 → j < 6 → p i = p j → i = j)
/-- what the history tells, with V the row now -/
def z_HV (σ : q_Sto) (V : Nat → Int32) (c : Nat) (p w : Nat → Nat) (mu me : Nat) : Prop := c ≤ 6 ∧ σ 61 1 = nI c ∧ z_HP σ p ∧
  (∀ i, i < c → z_TR σ (63 + 9 * p i) (fun k => if k < 86 then σ 160 (86*i+k) else V k) mu me ∧ z_WF (fun k => if k < 86 then σ 160 (86*i+k) else V k) mu me ∧ σ (63 + 9 * p i) 17 = nI (w i) ∧ σ 160 (86*i+6) = nI (w i)) ∧
  (∀ i j, i ≤ j → j ≤ c → w i ≤ w j) ∧ w c ≤ 150
theorem z_HI.V {σ : q_Sto} {mu me : Nat} (h : z_HI σ mu me) : ∃ c p w, z_HV σ (σ 158) c p w mu me ∧ σ 157 4 = nI c ∧ (0 < c → σ 158 6 = nI (w c)) := by
  obtain ⟨c, p, w, h1, h2, h3, h4, h5, h6, h7, h8⟩ := h
  refine ⟨c, p, w, ⟨h1, h2, ⟨h4, h5⟩, fun i hi => ?_, h7, h8⟩, h3, fun hc => (h6 0 hc).2.2.2.2⟩
  obtain ⟨g1, g2, g3, g4, g5⟩ := h6 i hi
  exact ⟨g1, g2, g3, g4⟩
theorem z_HV.I {σ : q_Sto} {V : Nat → Int32} {c mu me : Nat} {p w : Nat → Nat} (h : z_HV σ V c p w mu me) (h4 : σ 157 4 = nI c) (hV : ∀ a, 86 ≤ a → a < 129 → σ 158 a = V a) (h6 : 0 < c → σ 158 6 = nI (w c)) : z_HI σ mu me := by
  obtain ⟨h1, h2, ⟨h3, h5⟩, h7, h8, h9⟩ := h
  refine ⟨c, p, w, h1, h2, h4, h3, h5, fun i hi => ?_, h8, h9⟩
  obtain ⟨g1, g2, g3, g4⟩ := h7 i hi
  have e : ∀ a, a < 129 → z_bk σ i a = (fun k => if k < 86 then σ 160 (86*i+k) else V k) a := fun a ha => by
    show (if _ then _ else _) = (if _ then _ else _)
    by_cases q : a < 86
    · rw [if_pos q, if_pos q]
    · rw [if_neg q, if_neg q]; exact hV a (by omega) ha
  exact ⟨g1.congr g2.1.1 g2.1.2.1 e, g2.congr e, g3, g4, h6 (by omega)⟩
theorem c_dropOldest_L {n : Nat} {p : Nat → Nat} {K : q_Sto → Option (Int32 × q_Sto)} (hp : ∀ i, i < 6 → p i < 6) : ∀ j i (σ : q_Sto), 1 ≤ i → i ≤ 6 → 6 < j + i → (∀ k, k < 6 → σ 62 k = nI (63 + 9 * p (if k + 1 < i then k + 1 else k))) →
    ∃ σ', (∀ o, o ≠ 62 → σ' o = σ o) ∧ (∀ k, k < 6 → σ' 62 k = nI (63 + 9 * p (if k + 1 < 6 then k + 1 else k))) ∧ f_X1_dropOldest_L9 n 61 (63 + 9 * p 0) K j (nI i) σ = K σ' := by
  intro j
  induction j with
  | zero => intro i σ h0 h1 h2; omega
  | succ j ih =>
    intro i σ h0 h1 h2 hs
    by_cases hi : i = 6
    · subst hi
      refine ⟨σ, fun o _ => rfl, hs, ?_⟩
      rw [f_X1_dropOldest_L9]
      simp (disch := omega) only [↓reduceIte, ↓p_ld, ↓p_st, ↓p_nm, ↓p_nS, ↓p_jn, ↓p_call, ↓p_callv, ↓p_dv, ↓p_rem, h_ldE, h_stE, h_nmE, h_nSE, h_callE, h_callvE, h_dvE, h_remE, if_true, if_false, z_upS, z_upO, z_upK, nI_add, z_mul, z_sub, z_div, Nat.add_zero, Nat.mul_zero, Nat.zero_add, Nat.sub_zero, Nat.zero_mul, z_ltT, z_ltF, z_leT, z_leF, z_eqT, z_eqF, z_inT, z_clT, not_true_eq_false, not_false_eq_true, eq_self, true_or, or_true, z_m_lt, z_m_le, z_lt_m, z_le_m, z_eq_m, z_m_eq, z_rz0, z_rz1, z_m_add, z_of, ↓z_m1, l_0, l_1, l_2, l_3, l_4, l_5, l_6, l_7, l_8, l_9, l_10, l_11, l_12, l_13, l_14, l_15, l_16, l_17, l_18, l_19, l_20, l_21, l_22, l_23, l_24, l_25, l_26, l_27, l_28, l_29, l_30, l_31, l_32, l_33, l_34, l_35, l_36, l_37, l_38, l_39, l_40, l_41, l_42, l_43, l_44, l_45, l_46, l_47, l_48, l_49, l_50, l_51, l_52, l_53, l_54, l_55, l_56, l_57, l_59, l_60, l_61, l_62, l_63, l_64, l_65, l_80, l_86, l_87, l_88, l_89, l_90, l_91, l_92, l_93, l_94, l_95, l_97, l_99, l_100, l_107, l_119, l_122, l_124, l_129, l_140, l_141, l_142, l_143, l_144, l_145, l_147, l_150, l_159, l_160, l_161, l_162, l_205, l_253, l_255, l_256, l_269, l_305, l_380, l_399, l_400, l_420, l_430, l_516, l_600, l_720, l_820, l_905, l_921, l_937, l_953, l_970, l_999, l_1000, l_1790, l_4096, l_9999, l_1000000]
    · have hpi := hp i (by omega)
      have es : σ 62 i = nI (63 + 9 * p i) := by rw [hs i (by omega), if_neg (by omega)]
      obtain ⟨σ', g1, g2, g3⟩ := ih (i+1) (q_up σ 62 (i-1) (nI (63 + 9 * p i))) (by omega) (by omega) (by omega) (fun k hk => by
        by_cases e : k = i - 1
        · subst e
          rw [z_upS, if_pos (by omega), show i - 1 + 1 = i by omega]
        · rw [z_upK e, hs k hk]
          by_cases e2 : k + 1 < i
          · rw [if_pos e2, if_pos (by omega)]
          · rw [if_neg e2, if_neg (by omega)])
      refine ⟨σ', fun o ho => by rw [g1 o ho, z_upO ho], g2, ?_⟩
      rw [← g3, f_X1_dropOldest_L9, l_6, if_pos ((nI_ltI (by omega) (by omega)).mpr (show i < 6 by omega))]
      have hK : q_KD (63 + 9 * p i) = .inl 9 := by
        have : ∀ x, x < 6 → q_KD (63 + 9 * x) = .inl 9 := by decide
        exact this _ hpi
      have e1 : ∀ k, q_ldr σ (q_RF 61 0) (nI i) 6 k = k (63 + 9 * p i) := fun k => by
        rw [r_61_0]
        unfold q_ldr
        rw [if_pos (z_in (by omega) (by omega)), nI_clamp (by omega), es, if_neg (by rw [l_0, nI_ltI (by omega) (by omega)]; omega), nI_clamp (by omega)]
      rw [e1]
      unfold q_if
      rw [hK]
      show (if (9 : Nat) = 9 then _ else none) = _
      rw [if_pos rfl]
      simp (disch := omega) only [r_61_0, ↓reduceIte, ↓p_ld, ↓p_st, ↓p_nm, ↓p_nS, ↓p_jn, ↓p_call, ↓p_callv, ↓p_dv, ↓p_rem, h_ldE, h_stE, h_nmE, h_nSE, h_callE, h_callvE, h_dvE, h_remE, if_true, if_false, z_upS, z_upO, z_upK, nI_add, z_mul, z_sub, z_div, Nat.add_zero, Nat.mul_zero, Nat.zero_add, Nat.sub_zero, Nat.zero_mul, z_ltT, z_ltF, z_leT, z_leF, z_eqT, z_eqF, z_inT, z_clT, not_true_eq_false, not_false_eq_true, eq_self, true_or, or_true, z_m_lt, z_m_le, z_lt_m, z_le_m, z_eq_m, z_m_eq, z_rz0, z_rz1, z_m_add, z_of, ↓z_m1, l_0, l_1, l_2, l_3, l_4, l_5, l_6, l_7, l_8, l_9, l_10, l_11, l_12, l_13, l_14, l_15, l_16, l_17, l_18, l_19, l_20, l_21, l_22, l_23, l_24, l_25, l_26, l_27, l_28, l_29, l_30, l_31, l_32, l_33, l_34, l_35, l_36, l_37, l_38, l_39, l_40, l_41, l_42, l_43, l_44, l_45, l_46, l_47, l_48, l_49, l_50, l_51, l_52, l_53, l_54, l_55, l_56, l_57, l_59, l_60, l_61, l_62, l_63, l_64, l_65, l_80, l_86, l_87, l_88, l_89, l_90, l_91, l_92, l_93, l_94, l_95, l_97, l_99, l_100, l_107, l_119, l_122, l_124, l_129, l_140, l_141, l_142, l_143, l_144, l_145, l_147, l_150, l_159, l_160, l_161, l_162, l_205, l_253, l_255, l_256, l_269, l_305, l_380, l_399, l_400, l_420, l_430, l_516, l_600, l_720, l_820, l_905, l_921, l_937, l_953, l_970, l_999, l_1000, l_1790, l_4096, l_9999, l_1000000]
theorem z_ldr {σ : q_Sto} {a i len x : Nat} {k : Nat → Option (Int32 × q_Sto)} (h : i < len) (hl : len < 2147483648) (hx : x < 2147483648) (e : σ a i = nI x) : q_ldr σ a (nI i) len k = k x := by
  unfold q_ldr
  rw [if_pos (z_in h hl), nI_clamp (by omega), e, if_neg (by rw [l_0, nI_ltI (by omega) (by omega)]; omega), nI_clamp (by omega)]
theorem z_KDT {x : Nat} (h : x < 6) : q_KD (63 + 9 * x) = .inl 9 := by
  have : ∀ x, x < 6 → q_KD (63 + 9 * x) = .inl 9 := by decide
  exact this x h
theorem z_qif {x : Nat} {k : Option (Int32 × q_Sto)} (h : x < 6) : q_if (63 + 9 * x) 9 k = k := by
  unfold q_if
  rw [z_KDT h]
  exact if_pos rfl
theorem c_dropOldest {n : Nat} {p : Nat → Nat} {σ : q_Sto} (hn : 7 ≤ n) (h : z_HP σ p) : ∃ σ' p', z_HP σ' p' ∧ (∀ i, i < 5 → p' i = p (i+1)) ∧ p' 5 = p 0 ∧ (∀ o, o ≠ 62 → o ≠ 61 → σ' o = σ o) ∧ σ' 61 1 = nI 5 ∧ f_X1_dropOldest n 61 σ = some (nI 0, σ') := by
  obtain ⟨h1, h2⟩ := h
  obtain ⟨σ1, f1, f2, f3⟩ := c_dropOldest_L (n := n) (p := p) (K := fun  (s5 : q_Sto) =>
  q_st s5 (q_RF 61 0) 5 6 (Int32.ofNat (63 + 9 * p 0)) fun s6 =>
  q_nS1 (q_up s6 61 1 5) fun s7 =>
  some (0, s7)) (fun i hi => (h1 i hi).1) n 1 σ (by omega) (by omega) (by omega) (fun k hk => by rw [if_neg (by omega)]; exact (h1 k hk).2)
  have h0 := h1 0 (by omega)
  refine ⟨q_up (q_up σ1 62 5 (nI (63 + 9 * p 0))) 61 1 (nI 5), fun i => if i < 5 then p (i+1) else p 0, ⟨fun i hi => ?_, fun i j hi hj hp => ?_⟩, fun i hi => if_pos hi, if_neg (by omega), fun o o1 o2 => by rw [z_upO o2, z_upO o1, f1 o o1], z_upS, ?_⟩
  · by_cases q : i < 5
    · simp only [if_pos q]
      refine ⟨(h1 (i+1) (by omega)).1, ?_⟩
      rw [z_upO (by omega), z_upK (by omega), f2 i hi, if_pos (by omega)]
    · simp only [if_neg q]
      have : i = 5 := by omega
      subst this
      exact ⟨h0.1, by rw [z_upO (by omega)]; exact z_upS⟩
  · by_cases q1 : i < 5
    · by_cases q2 : j < 5
      · simp only [if_pos q1, if_pos q2] at hp
        have := h2 _ _ (by omega) (by omega) hp
        omega
      · simp only [if_pos q1, if_neg q2] at hp
        have := h2 _ _ (by omega) (by omega) hp
        omega
    · by_cases q2 : j < 5
      · simp only [if_neg q1, if_pos q2] at hp
        have := h2 _ _ (by omega) (by omega) hp
        omega
      · omega
  · unfold f_X1_dropOldest
    rw [r_61_0, l_0, z_ldr (by omega) (by omega) (by omega) h0.2, z_qif h0.1]
    have f3 : f_X1_dropOldest_L9 n 61 (63 + 9 * p 0) _ n 1 σ = _ := f3
    rw [r_61_0] at f3
    rw [← l_0, f3]
    simp (disch := omega) only [↓reduceIte, ↓p_ld, ↓p_st, ↓p_nm, ↓p_nS, ↓p_jn, ↓p_call, ↓p_callv, ↓p_dv, ↓p_rem, h_ldE, h_stE, h_nmE, h_nSE, h_callE, h_callvE, h_dvE, h_remE, if_true, if_false, z_upS, z_upO, z_upK, nI_add, z_mul, z_sub, z_div, Nat.add_zero, Nat.mul_zero, Nat.zero_add, Nat.sub_zero, Nat.zero_mul, z_ltT, z_ltF, z_leT, z_leF, z_eqT, z_eqF, z_inT, z_clT, not_true_eq_false, not_false_eq_true, eq_self, true_or, or_true, z_m_lt, z_m_le, z_lt_m, z_le_m, z_eq_m, z_m_eq, z_rz0, z_rz1, z_m_add, z_of, ↓z_m1, l_0, l_1, l_2, l_3, l_4, l_5, l_6, l_7, l_8, l_9, l_10, l_11, l_12, l_13, l_14, l_15, l_16, l_17, l_18, l_19, l_20, l_21, l_22, l_23, l_24, l_25, l_26, l_27, l_28, l_29, l_30, l_31, l_32, l_33, l_34, l_35, l_36, l_37, l_38, l_39, l_40, l_41, l_42, l_43, l_44, l_45, l_46, l_47, l_48, l_49, l_50, l_51, l_52, l_53, l_54, l_55, l_56, l_57, l_59, l_60, l_61, l_62, l_63, l_64, l_65, l_80, l_86, l_87, l_88, l_89, l_90, l_91, l_92, l_93, l_94, l_95, l_97, l_99, l_100, l_107, l_119, l_122, l_124, l_129, l_140, l_141, l_142, l_143, l_144, l_145, l_147, l_150, l_159, l_160, l_161, l_162, l_205, l_253, l_255, l_256, l_269, l_305, l_380, l_399, l_400, l_420, l_430, l_516, l_600, l_720, l_820, l_905, l_921, l_937, l_953, l_970, l_999, l_1000, l_1790, l_4096, l_9999, l_1000000]
theorem c_keep {n mu me c wn : Nat} {V : Nat → Int32} {p : Nat → Nat} {σ : q_Sto} (hn : 7 ≤ n) (hC : z_C σ V mu me) (h1 : c ≤ 6) (h2 : σ 61 1 = nI c) (hP : z_HP σ p) (h17 : σ 2 17 = nI wn) :
    ∃ σ' p' d sh, d + sh = c ∧ d ≤ 5 ∧ sh ≤ 1 ∧ (sh = 1 → c = 6) ∧ z_HP σ' p' ∧ (∀ i, i < d → p' i = p (i + sh)) ∧ σ' 61 1 = nI (d + 1) ∧ z_TR σ' (63 + 9 * p' d) V mu me ∧ σ' (63 + 9 * p' d) 17 = nI wn ∧
      (∀ i, i < 6 → i ≠ d → ∀ o, 63 + 9 * p' i ≤ o → o ≤ 63 + 9 * p' i + 8 → σ' o = σ o) ∧ (∀ o, o < 61 ∨ 116 < o → σ' o = σ o) ∧ f_X1_keep n 61 2 σ = some (nI 0, σ') := by
  have hmu := hC.1.1
  have hme := hC.1.2.1
  have r2 : ∀ k, k < 8 → q_RF 2 k = 2+1+k := by decide
  have hcopy : ∀ (σ1 : q_Sto) (q : Nat → Nat) (d : Nat), z_HP σ1 q → d ≤ 5 → σ1 61 1 = nI d → (∀ o, o < 61 ∨ 62 < o → σ1 o = σ o) → ∃ σ', z_HP σ' q ∧ σ' 61 1 = nI (d + 1) ∧ z_TR σ' (63 + 9 * q d) V mu me ∧ σ' (63 + 9 * q d) 17 = nI wn ∧
      (∀ i, i < 6 → i ≠ d → ∀ o, 63 + 9 * q i ≤ o → o ≤ 63 + 9 * q i + 8 → σ' o = σ o) ∧ (∀ o, o < 61 ∨ 116 < o → σ' o = σ o) ∧
      (q_ldr σ1 62 (nI d) 6 fun o4 => q_if o4 9 (q_callv (f_X9_copyFrom n o4 2 σ1) fun s5 => some (nI 0, q_up s5 61 1 (s5 61 1 + nI 1)))) = some (nI 0, σ') := by
    intro σ1 q d hq hd hc1 hfr
    have hqd := hq.1 d (by omega)
    obtain ⟨σ2, e1, e2, e3, e4, e5, e6⟩ := c_copyTrain (n := n) (σ := σ1) (z_rfT (q d) hqd.1) r2 (Or.inr (by omega))
    have hb2 : ∀ o, 2 ≤ o → o ≤ 10 → σ1 o = σ o := fun o o1 o2 => hfr o (by omega)
    have hTR : z_TR σ1 2 V mu me := hC.2.1.fr (fun o o1 o2 => hb2 o (by omega) (by omega))
    have hT2 := z_TR.copy hmu hme hTR e3 e4 e5 e6
    refine ⟨q_up σ2 61 1 (nI (d+1)), ⟨fun i hi => ⟨(hq.1 i hi).1, ?_⟩, hq.2⟩, z_upS, hT2.fr (fun o o1 o2 => z_upO (by omega)), ?_, fun i hi hne o o1 o2 => ?_, fun o ho => ?_, ?_⟩
    · rw [z_upO (by omega), e2 62 (by omega)]; exact (hq.1 i hi).2
    · rw [z_upO (by omega), e3 17 (by omega) (by omega), hb2 2 (by omega) (by omega)]; exact h17
    · have hne2 : q i ≠ q d := fun q' => hne (hq.2 i d hi (by omega) q')
      rw [z_upO (by omega), e2 o (by omega), hfr o (by omega)]
    · rw [z_upO (by omega), e2 o (by omega), hfr o (by omega)]
    · rw [z_ldr (by omega) (by omega) (by omega) hqd.2, z_qif hqd.1, e1, z_callv, e2 61 (by omega), hc1, nI_add]
  by_cases hc : c = 6
  · subst hc
    obtain ⟨σ1, p', a1, a2, a3, a4, a5, a6⟩ := c_dropOldest hn hP
    obtain ⟨σ', b1, b2, b3, b4, b5, b6, b7⟩ := hcopy σ1 p' 5 a1 (by omega) a5 (fun o ho => a4 o (by omega) (by omega))
    refine ⟨σ', p', 5, 1, rfl, by omega, by omega, fun _ => rfl, b1, a2, b2, b3, b4, b5, b6, ?_⟩
    unfold f_X1_keep
    have k1 : ¬ nI 6 < (6 : Int32) := by decide
    have k2 : ¬ nI 5 < (0 : Int32) := by decide
    have k3 : nI 5 < (6 : Int32) := by decide
    rw [h2, if_neg k1, a6, z_callv, a5, if_neg k2, if_pos k3, r_61_0]
    exact b7
  · obtain ⟨σ', b1, b2, b3, b4, b5, b6, b7⟩ := hcopy σ p c hP (by omega) h2 (fun o ho => rfl)
    refine ⟨σ', p, c, 0, rfl, by omega, by omega, fun q => by omega, b1, fun i hi => rfl, b2, b3, b4, b5, b6, ?_⟩
    unfold f_X1_keep
    have k1 : nI c < (6 : Int32) := by rw [l_6, nI_ltI (by omega) (by omega)]; omega
    have k2 : ¬ nI c < (0 : Int32) := by rw [l_0, nI_ltI (by omega) (by omega)]; omega
    rw [h2, if_pos k1, if_neg k2, if_pos k1, r_61_0]
    exact b7