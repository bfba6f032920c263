/-! THE LAW's reader: the reference -/
def zl_os (a : Nat → Int32) : List (Nat × Nat) → Prop
  | [] => True
  | x :: O => z_st1 (nI x.1) (nI x.2) (a (2 * O.length)) (a (2 * O.length + 1)) ∧ zl_os a O
theorem zl_os_up {a b : Nat → Int32} : ∀ {O : List (Nat × Nat)}, zl_os a O → (∀ i, i < 2 * O.length → b i = a i) → zl_os b O
  | [], _, _ => trivial
  | x :: O, h, e => ⟨by rw [e (2 * O.length) (by simp only [List.length_cons]; omega), e (2 * O.length + 1) (by simp only [List.length_cons]; omega)]; exact h.1, zl_os_up h.2 (fun i hi => e i (by simp only [List.length_cons]; omega))⟩
def zl_R (σ : q_Sto) (T : zt_T) (p : Nat) (O : List (Nat × Nat)) (d : Nat) : Prop := zt_R σ T 0 p ∧ σ 157 14 = nI O.length ∧ zl_os (σ 163) O ∧ σ 157 24 = nI d ∧ d ≤ 8
def zl_fR (σ σ' : q_Sto) : Prop := (∀ o, o ≠ 157 → o ≠ 163 → σ' o = σ o) ∧ ∀ a, a ≠ 14 → a ≠ 17 → a ≠ 18 → a ≠ 19 → a ≠ 20 → a ≠ 21 → a ≠ 22 → a ≠ 24 → σ' 157 a = σ 157 a
theorem zl_fR.refl (σ : q_Sto) : zl_fR σ σ := ⟨fun _ _ _ => rfl, fun _ _ _ _ _ _ _ _ _ => rfl⟩
theorem zl_fR.trans {a b c : q_Sto} (h : zl_fR a b) (g : zl_fR b c) : zl_fR a c := ⟨fun o o1 o2 => (g.1 o o1 o2).trans (h.1 o o1 o2), fun x x1 x2 x3 x4 x5 x6 x7 x8 => (g.2 x x1 x2 x3 x4 x5 x6 x7 x8).trans (h.2 x x1 x2 x3 x4 x5 x6 x7 x8)⟩
theorem zl_fR.next {σ σ' : q_Sto} (h : ∀ o, o ≠ 157 → σ' o = σ o) (g : ∀ a, a ≠ 17 → a ≠ 18 → a ≠ 19 → a ≠ 20 → σ' 157 a = σ 157 a) : zl_fR σ σ' := ⟨fun o o1 _ => h o o1, fun a _ a1 a2 a3 a4 _ _ _ => g a a1 a2 a3 a4⟩
/-- it goes well, or not -/
def zl_RG (F : Option (Int32 × q_Sto)) (σ : q_Sto) (T : zt_T) (O : List (Nat × Nat)) (d : Nat) (Q : List (Nat × Nat) → Nat → Prop) : Prop := ∃ c q σ', F = some (nI 1, σ') ∧ Q c q ∧ zl_R σ' T q (c ++ O) d ∧ zl_fR σ σ'
def zl_RB (F : Option (Int32 × q_Sto)) (σ : q_Sto) (E : Nat → Nat → Prop) : Prop := ∃ f q σ', F = some (nI 0, σ') ∧ E f q ∧ σ' 157 21 = nI f ∧ σ' 157 22 = nI q ∧ zl_fR σ σ'
theorem zl_st_n {v : Int32} : z_st1 (nI 0) v (nI 0) v := Or.inl ⟨rfl, rfl, rfl⟩
theorem zl_st_f {f : Nat} {v : Int32} (h : f < 10) : z_st1 (nI 1) (nI f) (nI (f+1)) v := Or.inr (Or.inl ⟨f, h, rfl, rfl, rfl⟩)
theorem zl_st_p {d : Nat} (h1 : 1 ≤ d) (h2 : d < 10000) : z_st1 (nI 2) (nI d) (nI 26) (nI d) := Or.inr (Or.inr (Or.inl ⟨d, h1, h2, rfl, rfl, rfl, rfl⟩))
theorem zl_st_o {x s : Nat} {a v : Int32} (h : (x = 3 ∧ s = 25) ∨ (x = 4 ∧ s = 23) ∨ (x = 5 ∧ s = 24) ∨ (x = 6 ∧ s = 27) ∨ (x = 7 ∧ s = 28) ∨ (x = 8 ∧ s = 29) ∨ (x = 9 ∧ s = 30) ∨ (x = 10 ∧ s = 31) ∨ (x = 11 ∧ s = 32)) : z_st1 (nI x) a (nI s) v := by
  unfold z_st1
  rcases h with ⟨rfl, rfl⟩ | ⟨rfl, rfl⟩ | ⟨rfl, rfl⟩ | ⟨rfl, rfl⟩ | ⟨rfl, rfl⟩ | ⟨rfl, rfl⟩ | ⟨rfl, rfl⟩ | ⟨rfl, rfl⟩ | ⟨rfl, rfl⟩ <;> simp
theorem zl_R.lt {p d : Nat} {T : zt_T} {O : List (Nat × Nat)} {σ : q_Sto} (h : zl_R σ T p O d) (hl : O.length ≤ p) (hg : zt_cd 0 T p ≠ 0) : O.length < 400 ∧ p ≤ T.2 ∧ p < zt_nx T p ∧ zt_nx T p ≤ T.2 := by
  have hL := h.1.1.1
  have hpL := h.1.2.1
  have := zt_go (k := 0) (by omega) hpL hg
  omega
/-- what one test of the reference does -/
def zl_OT (ot : q_Sto → Option (Int32 × q_Sto)) (T : zt_T) (d : Nat) : Prop := ∀ p O (σ : q_Sto), zl_R σ T p O d → O.length ≤ p → zl_RG (ot σ) σ T O d (fun c q => zl_te T p c q d) ∨ zl_RB (ot σ) σ (fun f q => zl_f T 4 p f q d)
theorem zl_R.dep {p d : Nat} {T : zt_T} {O : List (Nat × Nat)} {σ : q_Sto} (h : zl_R σ T p O (d+1)) : zl_R (q_up σ 157 24 (nI d)) T p O d ∧ zl_fR σ (q_up σ 157 24 (nI d)) := by
  obtain ⟨hR, h14, hos, h24, hd8⟩ := h
  exact ⟨⟨hR.fr (by rw [z_upO (by omega)]) (fun a ha => by rw [z_upK (by omega)]), by rw [z_upK (by omega)]; exact h14, by rw [z_upO (by omega)]; exact hos, z_upS, by omega⟩, ⟨fun o o1 o2 => z_upO o1, fun a _ _ _ _ _ _ _ a8 => z_upK a8⟩⟩