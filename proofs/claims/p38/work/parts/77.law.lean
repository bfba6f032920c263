/-! THE LAW's reader: line by line, both -/
theorem zl_ot_d {k v : Nat → Int32} {O : List (Nat × Nat)} : ∀ c : List (Nat × Nat), zl_ot k v (c ++ O) → zl_ot k v O
  | [], h => h
  | _ :: c, h => zl_ot_d c h.2
theorem zl_ot_eq {k v k' v' : Nat → Int32} : ∀ {O : List (Nat × Nat)}, zl_ot k v O → zl_ot k' v' O → ∀ j, j < O.length → k' j = k j
  | [], _, _, j, hj => by simp at hj
  | x :: O, h, g, j, hj => by
    by_cases q : j = O.length
    · subst q
      rw [h.1.1, g.1.1]
    · exact zl_ot_eq h.2 g.2 j (by simp only [List.length_cons] at hj; omega)
theorem z_ty_last {c : Nat → Int32} : ∀ n i ts, z_ty c (n+1) i ts = match z_ty c n i ts with
    | none => none
    | some us => z_ty1 (c (i+n)) us
  | 0, i, ts => by
    show (match z_ty1 (c i) ts with | none => none | some us => some us) = z_ty1 (c (i+0)) ts
    rw [Nat.add_zero]
    cases z_ty1 (c i) ts <;> rfl
  | n + 1, i, ts => by
    have e : ∀ n, z_ty c (n+1) i ts = match z_ty1 (c i) ts with | none => none | some us => z_ty c n (i+1) us := fun _ => rfl
    rw [e (n+1), e n]
    cases z_ty1 (c i) ts with
    | none => rfl
    | some us =>
      show z_ty c (n+1) (i+1) us = _
      rw [z_ty_last n (i+1) us, show i + 1 + n = i + (n + 1) by omega]
theorem zl_ty_z {k v : Nat → Int32} {O : List (Nat × Nat)} : ∀ (c : List (Nat × Nat)) (ts : List Bool), zl_ot k v (c ++ O) → z_ty k c.length O.length ts = zl_ty c ts
  | [], ts, _ => rfl
  | x :: c, ts, h => by
    have ih := zl_ty_z c ts h.2
    have e : z_ty k (x :: c).length O.length ts = z_ty k (c.length + 1) O.length ts := rfl
    have h1 : k (c ++ O).length = nI x.1 := h.1.1
    rw [List.length_append] at h1
    rw [e, z_ty_last, ih, show O.length + c.length = c.length + O.length by omega, h1]
    rfl
/-- the lines of the law so far -/
def zl_lns (s m : q_Sto) (O : List (Nat × Nat)) (N : Nat) : Prop := ∀ i, i < N → ∃ f mm t w, f ≤ mm ∧ mm ≤ t ∧ t ≤ O.length ∧ w < 3 ∧ m 162 (4*i) = nI f ∧ m 162 (4*i+1) = nI mm ∧ m 162 (4*i+2) = nI t ∧ m 162 (4*i+3) = nI (20+w) ∧ s 146 i = nI w ∧ s 147 i = nI f ∧ s 149 i = nI t ∧ ((mm = t ∧ s 148 i = z_m) ∨ (mm < t ∧ s 148 i = nI mm ∧ z_ty (s 150) (t - mm) mm [] = some [true])) ∧ z_ty (s 150) (mm - f) f [] = some [false]
theorem zl_lns.up {s m s' m' : q_Sto} {O O' : List (Nat × Nat)} {N : Nat} (h : zl_lns s m O N) (e : ∀ i, i < N → s' 146 i = s 146 i ∧ s' 147 i = s 147 i ∧ s' 148 i = s 148 i ∧ s' 149 i = s 149 i) (em : ∀ k, k < 4*N → m' 162 k = m 162 k) (hO : O.length ≤ O'.length) (e0 : ∀ j, j < O.length → s' 150 j = s 150 j) : zl_lns s' m' O' N := by
  intro i hi
  obtain ⟨f, mm, t, w, h1, h2, h3, h4, h5, h6, h7, h8, h9, h10, h11, h12, h13⟩ := h i hi
  obtain ⟨e1, e2, e3, e4⟩ := e i hi
  refine ⟨f, mm, t, w, h1, h2, by omega, h4, by rw [em _ (by omega)]; exact h5, by rw [em _ (by omega)]; exact h6, by rw [em _ (by omega)]; exact h7, by rw [em _ (by omega)]; exact h8, e1.trans h9, e2.trans h10, e4.trans h11, ?_, ?_⟩
  · rcases h12 with ⟨x1, x2⟩ | ⟨x1, x2, x3⟩
    · exact Or.inl ⟨x1, e3.trans x2⟩
    · refine Or.inr ⟨x1, e3.trans x2, ?_⟩
      rw [z_ty_congr _ _ _ (fun j j1 j2 => e0 j (by omega))]; exact x3
  · rw [z_ty_congr _ _ _ (fun j j1 j2 => e0 j (by omega))]; exact h13
def zl_J (s m : q_Sto) (T : zt_T) (p : Nat) (O : List (Nat × Nat)) (N : Nat) : Prop := zt_C s T p ∧ (s 142 6 = nI 0 ∧ s 142 7 = z_m) ∧ s 145 7 = nI O.length ∧ zl_ot (s 150) (s 151) O ∧ s 145 8 = nI N ∧ zt_R m T 0 p ∧ m 157 14 = nI O.length ∧ zl_os (m 163) O ∧ m 157 13 = nI N ∧ O.length ≤ p ∧ N ≤ 16 ∧ zl_lns s m O N
def zl_fS (s s' : q_Sto) : Prop := (∀ o, o ≠ 142 → (o < 144 ∨ 153 < o) → s' o = s o) ∧ s' 142 1 = s 142 1
def zl_fQ (m m' : q_Sto) : Prop := (∀ o, o ≠ 157 → o ≠ 162 → o ≠ 163 → m' o = m o) ∧ ∀ a, a ≠ 13 → a ≠ 14 → a ≠ 17 → a ≠ 18 → a ≠ 19 → a ≠ 20 → a ≠ 21 → a ≠ 22 → a ≠ 24 → m' 157 a = m 157 a
theorem zl_fS.refl (s : q_Sto) : zl_fS s s := ⟨fun _ _ _ => rfl, rfl⟩
theorem zl_fQ.refl (s : q_Sto) : zl_fQ s s := ⟨fun _ _ _ _ => rfl, fun _ _ _ _ _ _ _ _ _ _ => rfl⟩
theorem zl_fS.trans {a b c : q_Sto} (h : zl_fS a b) (g : zl_fS b c) : zl_fS a c := ⟨fun o o1 o2 => (g.1 o o1 o2).trans (h.1 o o1 o2), g.2.trans h.2⟩
theorem zl_fQ.trans {a b c : q_Sto} (h : zl_fQ a b) (g : zl_fQ b c) : zl_fQ a c := ⟨fun o o1 o2 o3 => (g.1 o o1 o2 o3).trans (h.1 o o1 o2 o3), fun x x0 x1 x2 x3 x4 x5 x6 x7 x8 => (g.2 x x0 x1 x2 x3 x4 x5 x6 x7 x8).trans (h.2 x x0 x1 x2 x3 x4 x5 x6 x7 x8)⟩
theorem zl_fM.Q {N : Nat} {m m' : q_Sto} (h : zl_fM N m m') : zl_fQ m m' := ⟨h.1, fun x _ x1 x2 x3 x4 x5 x6 x7 x8 => h.2.1 x x1 x2 x3 x4 x5 x6 x7 x8⟩
/-- both fall -/
def zl_BF (F G : Option (Int32 × q_Sto)) (s m : q_Sto) : Prop := ∃ s' m' f q, F = some (nI 0, s') ∧ G = some (nI 0, m') ∧ s' 142 6 = nI f ∧ s' 142 7 = nI q ∧ m' 157 21 = nI f ∧ m' 157 22 = nI q ∧ zl_fS s s' ∧ zl_fQ m m'