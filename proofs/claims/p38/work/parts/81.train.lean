/-! THE LAW'S TRAIN at p, its rows from b: it shows V -/
def x_TK (u : x_U) (p b L pl pa mu me : Nat) : Prop :=
  (157 ≤ p ∧ p + 6 ≤ b ∧ b + mu + me ≤ x_n u ∧ x_n u ≤ 500000 ∧ mu ≤ 12 ∧ me ≤ 5) ∧
  (x_k u p = .inl 12 ∧ x_k u (p+1) = .inr (12, 3) ∧ x_k u (p+2) = .inr (5, 3) ∧ x_k u (p+5) = .inr (150, 3) ∧ (∀ m, m < mu → x_k u (b+m) = .inr (10, 0)) ∧ (∀ k, k < me → x_k u (b+mu+k) = .inr (3, 0))) ∧
  (x_r u p 12 = p+1 ∧ x_r u p 13 = p+2 ∧ x_r u p 16 = p+5 ∧ x_r u p 17 = L ∧ x_r u p 14 = pl ∧ x_r u p 15 = pa ∧ (∀ m, m < mu → x_r u (p+1) m = b+m) ∧ (∀ k, k < me → x_r u (p+2) k = b+mu+k))
/-- the ints of the train alone -/
def x_TI (τ : q_Sto) (p b mu me : Nat) (V : Nat → Int32) : Prop :=
  (τ p 0 = V 5 ∧ τ p 1 = V 0 ∧ τ p 2 = V 1 ∧ τ p 3 = V 2 ∧ τ p 4 = V 3 ∧ τ p 5 = V 4 ∧ τ p 6 = V 88 ∧ τ p 7 = nI mu ∧ τ p 8 = nI me ∧ τ p 9 = V 6 ∧ τ p 10 = V 90) ∧
  (∀ m, m < mu → τ (b+m) 0 = V (95+m) ∧ τ (b+m) 1 = V (107+m) ∧ τ (b+m) 2 = z_bit (V 7) m ∧ τ (b+m) 3 = V (8+m) ∧ τ (b+m) 4 = V (129+m) ∧ ∀ k, k < me → τ (b+m) (5+k) = V (20+5*m+k)) ∧
  (∀ k, k < me → τ (b+mu+k) 0 = V (80+k) ∧ τ (b+mu+k) 1 = V (119+k) ∧ τ (b+mu+k) 2 = V (124+k))
def x_own (p b mu me i : Nat) : Prop := (p ≤ i ∧ i < p+6) ∨ (b ≤ i ∧ i < b+mu+me)
/-- what is never written again once it stands: the law's row, the plans, the paths, the book's lines -/
def x_LR (u : x_U) (L : Nat) (d : Nat → Nat) : Prop := L ≠ 0 → x_k u L = .inr (8, 0) ∧ ∀ j, j < 8 → x_t u L j = nI (d j)
def x_PR (u : x_U) (Fz : Nat → Prop) (pl : Nat) (V : Nat → Int32) (me mu : Nat) : Prop := ∃ c, c ≤ 16 ∧ V 91 = nI c ∧ Fz pl ∧ x_k u pl = .inr (c, 3) ∧ ∀ i, i < c → Fz (x_r u pl i) ∧ x_k u (x_r u pl i) = .inr (4, 0) ∧
  x_t u (x_r u pl i) 0 = V (141+4*i) ∧ x_t u (x_r u pl i) 2 = V (141+4*i+2) ∧ x_t u (x_r u pl i) 3 = V (141+4*i+3) ∧ ∃ w, w ≤ 4 ∧ x_t u (x_r u pl i) 1 = nI w ∧ V (141+4*i+1) = nI (if w = 3 then 13 else if w = 4 then 14 else 10 + w)
def x_WR (u : x_U) (Fz : Nat → Prop) (pa : Nat) (V : Nat → Int32) : Prop := ∃ c, c ≤ 16 ∧ V 92 = nI c ∧ Fz pa ∧ x_k u pa = .inr (c, 3) ∧ ∀ i, i < c → Fz (x_r u pa i) ∧ x_k u (x_r u pa i) = .inr (3, 0) ∧
  x_t u (x_r u pa i) 0 = V (205+3*i) ∧ x_t u (x_r u pa i) 1 = V (205+3*i+1) ∧ x_t u (x_r u pa i) 2 = V (205+3*i+2)
def x_BR (u : x_U) (Fz : Nat → Prop) (p : Nat) (V : Nat → Int32) : Prop := ∃ w, w ≤ 150 ∧ V 6 = nI w ∧ ∀ i, i < w → Fz (x_r u (p+5) i) ∧ x_k u (x_r u (p+5) i) = .inr (4, 0) ∧ ∀ c, c < 4 → x_t u (x_r u (p+5) i) c = V (305+4*i+c)
def x_Fo (u : x_U) (Fz : Nat → Prop) (p b mu me : Nat) : Prop := (∀ i, Fz i → i < x_n u) ∧ ∀ i, x_own p b mu me i → ¬ Fz i
/-- what never changes again: which cells there are, of what kind; the cells that are not the train's own -/
def x_fr (own : Nat → Prop) (u u' : x_U) : Prop := x_c u' = x_c u ∧ x_n u ≤ x_n u' ∧ x_m u ≤ x_m u' ∧ (∀ i, i < x_n u ∨ 500000 < i → x_k u' i = x_k u i) ∧ ∀ i, i < x_n u ∨ 500000 < i → ¬ own i → x_r u' i = x_r u i ∧ x_t u' i = x_t u i
theorem x_fr.rf {own : Nat → Prop} {u : x_U} : x_fr own u u := ⟨rfl, Nat.le_refl _, Nat.le_refl _, fun _ _ => rfl, fun _ _ _ => ⟨rfl, rfl⟩⟩
theorem x_fr.tr {own : Nat → Prop} {a b c : x_U} (h : x_fr own a b) (g : x_fr own b c) : x_fr own a c := by
  refine ⟨g.1.trans h.1, Nat.le_trans h.2.1 g.2.1, Nat.le_trans h.2.2.1 g.2.2.1, fun i hi => ?_, fun i hi ho => ?_⟩
  · rw [g.2.2.2.1 i (by have := h.2.1; omega), h.2.2.2.1 i hi]
  · have h1 := h.2.2.2.2 i hi ho
    have h2 := g.2.2.2.2 i (by have := h.2.1; omega) ho
    exact ⟨h2.1.trans h1.1, h2.2.trans h1.2⟩
theorem x_fr.ui {own : Nat → Prop} {u : x_U} {o k : Nat} {v : Int32} (h : own o) : x_fr own u (x_ui u o k v) := by
  refine ⟨rfl, Nat.le_refl _, Nat.le_refl _, fun _ _ => rfl, fun i _ ho => ⟨rfl, x_up_o (fun e => ho (e ▸ h))⟩⟩
theorem x_fr.ur {own : Nat → Prop} {u : x_U} {o k v : Nat} (h : own o) : x_fr own u (x_ur u o k v) := by
  refine ⟨rfl, Nat.le_refl _, Nat.le_refl _, fun _ _ => rfl, fun i _ ho => ⟨x_up_o (fun e => ho (e ▸ h)), rfl⟩⟩
theorem x_fr.un {own : Nat → Prop} {u : x_U} {kd : x_Kd} {sl : Nat} {f : Nat → Int32} (h : x_n u ≤ 500000) : x_fr own u (x_un u kd sl f) :=
  ⟨rfl, Nat.le_succ _, Nat.le_add_right _ _, fun i hi => x_fU_o (by omega), fun i hi _ => ⟨x_fU_o (by omega), x_fU_o (by omega)⟩⟩
theorem x_fr.mono {own own' : Nat → Prop} {u u' : x_U} (h : x_fr own u u') (g : ∀ i, own i → own' i) : x_fr own' u u' :=
  ⟨h.1, h.2.1, h.2.2.1, h.2.2.2.1, fun i hi ho => h.2.2.2.2 i hi (fun q => ho (g i q))⟩
/-- the train as a whole -/
def x_TN (u : x_U) (Fz : Nat → Prop) (p b L pl pa mu me : Nat) (d : Nat → Nat) (V : Nat → Int32) : Prop :=
  x_TK u p b L pl pa mu me ∧ x_TI (x_t u) p b mu me V ∧ x_Fo u Fz p b mu me ∧ (L ≠ 0 → Fz L) ∧ x_LR u L d ∧ x_PR u Fz pl V me mu ∧ x_WR u Fz pa V ∧ x_BR u Fz p V
theorem x_TK.fr {u u' : x_U} {p b L pl pa mu me : Nat} {own : Nat → Prop} (h : x_TK u p b L pl pa mu me) (f : x_fr own u u') (hn : x_n u' ≤ 500000) (ho : ∀ i, x_own p b mu me i → ¬ own i) : x_TK u' p b L pl pa mu me := by
  obtain ⟨⟨a1, a2, a3, a4, a5, a6⟩, ⟨k1, k2, k3, k4, k5, k6⟩, ⟨r1, r2, r3, r4, r5, r6, r7, r8⟩⟩ := h
  obtain ⟨f1, f2, f3, f4, f5⟩ := f
  have g : ∀ i, x_own p b mu me i → x_r u' i = x_r u i := fun i hi => (f5 i (by unfold x_own at hi; omega) (ho i hi)).1
  have e0 := g p (by unfold x_own; omega)
  have e1 := g (p+1) (by unfold x_own; omega)
  have e2 := g (p+2) (by unfold x_own; omega)
  refine ⟨⟨a1, a2, by omega, hn, a5, a6⟩, ⟨by rw [f4 _ (by omega)]; exact k1, by rw [f4 _ (by omega)]; exact k2, by rw [f4 _ (by omega)]; exact k3, by rw [f4 _ (by omega)]; exact k4, fun m hm => by rw [f4 _ (by omega)]; exact k5 m hm, fun k hk => by rw [f4 _ (by omega)]; exact k6 k hk⟩, ?_⟩
  rw [e0, e1, e2]
  exact ⟨r1, r2, r3, r4, r5, r6, r7, r8⟩
theorem x_TI.of {τ τ' : q_Sto} {p b mu me : Nat} {V : Nat → Int32} (h : x_TI τ p b mu me V) (e : ∀ i, x_own p b mu me i → τ' i = τ i) : x_TI τ' p b mu me V := by
  have e0 := e p (by unfold x_own; omega)
  obtain ⟨h1, h2, h3⟩ := h
  refine ⟨by rw [e0]; exact h1, fun m hm => ?_, fun k hk => ?_⟩
  · rw [e (b+m) (by unfold x_own; omega)]; exact h2 m hm
  · rw [e (b+mu+k) (by unfold x_own; omega)]; exact h3 k hk
theorem x_LR.fr {u u' : x_U} {L : Nat} {d : Nat → Nat} {own : Nat → Prop} (h : x_LR u L d) (f : x_fr own u u') (hL : L ≠ 0 → L < x_n u ∧ ¬ own L) : x_LR u' L d := by
  intro h0
  obtain ⟨h1, h2⟩ := h h0
  obtain ⟨g1, g2⟩ := hL h0
  rw [f.2.2.2.1 L (Or.inl g1), (f.2.2.2.2 L (Or.inl g1) g2).2]
  exact ⟨h1, h2⟩
theorem x_PR.fr {u u' : x_U} {pl me mu : Nat} {V : Nat → Int32} {own Fz Fz' : Nat → Prop} (h : x_PR u Fz pl V me mu) (f : x_fr own u u') (hF : ∀ i, Fz i → i < x_n u ∧ ¬ own i) (hG : ∀ i, Fz i → Fz' i) : x_PR u' Fz' pl V me mu := by
  obtain ⟨c, c1, c2, c3, c4, c5⟩ := h
  have e := f.2.2.2.2 pl (Or.inl (hF _ c3).1) (hF _ c3).2
  refine ⟨c, c1, c2, hG _ c3, by rw [f.2.2.2.1 pl (Or.inl (hF _ c3).1)]; exact c4, fun i hi => ?_⟩
  obtain ⟨q1, q2, q3⟩ := c5 i hi
  rw [e.1, f.2.2.2.1 _ (Or.inl (hF _ q1).1), (f.2.2.2.2 _ (Or.inl (hF _ q1).1) (hF _ q1).2).2]
  exact ⟨hG _ q1, q2, q3⟩
theorem x_WR.fr {u u' : x_U} {pa : Nat} {V : Nat → Int32} {own Fz Fz' : Nat → Prop} (h : x_WR u Fz pa V) (f : x_fr own u u') (hF : ∀ i, Fz i → i < x_n u ∧ ¬ own i) (hG : ∀ i, Fz i → Fz' i) : x_WR u' Fz' pa V := by
  obtain ⟨c, c1, c2, c3, c4, c5⟩ := h
  have e := f.2.2.2.2 pa (Or.inl (hF _ c3).1) (hF _ c3).2
  refine ⟨c, c1, c2, hG _ c3, by rw [f.2.2.2.1 pa (Or.inl (hF _ c3).1)]; exact c4, fun i hi => ?_⟩
  obtain ⟨q1, q2, q3⟩ := c5 i hi
  rw [e.1, f.2.2.2.1 _ (Or.inl (hF _ q1).1), (f.2.2.2.2 _ (Or.inl (hF _ q1).1) (hF _ q1).2).2]
  exact ⟨hG _ q1, q2, q3⟩
theorem x_BR.fr {u u' : x_U} {p : Nat} {V : Nat → Int32} {own Fz Fz' : Nat → Prop} (h : x_BR u Fz p V) (f : x_fr own u u') (e5 : x_r u' (p+5) = x_r u (p+5)) (hF : ∀ i, Fz i → i < x_n u ∧ ¬ own i) (hG : ∀ i, Fz i → Fz' i) : x_BR u' Fz' p V := by
  obtain ⟨c, c1, c2, c5⟩ := h
  refine ⟨c, c1, c2, fun i hi => ?_⟩
  obtain ⟨q1, q2, q3⟩ := c5 i hi
  rw [e5, f.2.2.2.1 _ (Or.inl (hF _ q1).1), (f.2.2.2.2 _ (Or.inl (hF _ q1).1) (hF _ q1).2).2]
  exact ⟨hG _ q1, q2, q3⟩
/-- another train's work leaves this one -/
theorem x_TN.fr {u u' : x_U} {Fz Fz' : Nat → Prop} {p b L pl pa mu me : Nat} {d : Nat → Nat} {V : Nat → Int32} {own : Nat → Prop} (h : x_TN u Fz p b L pl pa mu me d V) (f : x_fr own u u') (hn : x_n u' ≤ 500000) (ho : ∀ i, x_own p b mu me i → ¬ own i) (hF : ∀ i, Fz i → ¬ own i) (hG : ∀ i, Fz i → Fz' i) (hG2 : ∀ i, Fz' i → i < x_n u' ∧ ¬ x_own p b mu me i) : x_TN u' Fz' p b L pl pa mu me d V := by
  obtain ⟨h1, h2, h3, h4, h5, h6, h7, h8⟩ := h
  have hF2 : ∀ i, Fz i → i < x_n u ∧ ¬ own i := fun i hi => ⟨h3.1 i hi, hF i hi⟩
  have hlt : ∀ i, x_own p b mu me i → i < x_n u := fun i hi => by
    obtain ⟨⟨a1, a2, a3, a4, a5, a6⟩, -⟩ := h1
    unfold x_own at hi
    omega
  refine ⟨h1.fr f hn ho, h2.of (fun i hi => (f.2.2.2.2 i (Or.inl (hlt i hi)) (ho i hi)).2), ⟨fun i hi => (hG2 i hi).1, fun i hi hz => (hG2 i hz).2 hi⟩, fun hL => hG _ (h4 hL), h5.fr f (fun hL => hF2 _ (h4 hL)), h6.fr f hF2 hG, h7.fr f hF2 hG, h8.fr f ?_ hF2 hG⟩
  have hq : x_own p b mu me (p+5) := by unfold x_own; omega
  exact (f.2.2.2.2 _ (Or.inl (hlt _ hq)) (ho _ hq)).1
