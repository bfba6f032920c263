/-! the law's law, line by line -/
def y_L0 (d : Nat → Nat) : List (Nat × Nat) := [(4, 0), (7, 0), (0, d 2), (25, 0), (23, 0), (6, 0), (24, 0)]
def y_C0 (d : Nat → Nat) : List (Nat × Nat) := [(2, 0), (0, d 0), (29, 0), (5, 0), (0, 1), (29, 0), (6, 0), (0, d 1), (28, 0), (32, 0), (30, 0), (31, 0)]
def y_L1 (d : Nat → Nat) : List (Nat × Nat) := [(4, 0), (26, 2), (5, 0), (0, d 3), (25, 0), (23, 0)]
def y_L2 (d : Nat → Nat) : List (Nat × Nat) := [(0, d 4), (3, 0), (26, 9), (23, 0), (8, 0), (24, 0)]
def y_L3 (_ : Nat → Nat) : List (Nat × Nat) := [(8, 0), (0, 60), (25, 0), (2, 0), (0, 3), (25, 0), (23, 0), (6, 0), (0, 9), (25, 0), (24, 0)]
def y_C3 (d : Nat → Nat) : List (Nat × Nat) := [(9, 0), (0, d 5), (29, 0), (1, 0), (0, d 6), (28, 0), (32, 0)]
def y_L4 (d : Nat → Nat) : List (Nat × Nat) := [(9, 0), (0, d 7), (25, 0), (7, 0), (24, 0)]
def y_st (d : Nat → Nat) : List (Nat × Nat) := y_L0 d ++ (y_C0 d ++ (y_L1 d ++ (y_L2 d ++ (y_L3 d ++ (y_C3 d ++ y_L4 d)))))
def y_ln (i : Nat) : Nat × Nat × Nat × Nat := [(0, 7, 19, 20), (19, 25, 25, 20), (25, 31, 31, 21), (31, 42, 49, 22), (49, 54, 54, 22)].getD i (0, 0, 0, 0)
def y_LK (L : Nat) (d : Nat → Nat) (V : Nat → Int32) : Prop := (∀ j, d j ≤ 60) ∧ (L = 0 → V 89 = nI 0) ∧ (L ≠ 0 → V 89 = nI 5 ∧ (∀ i, i < 5 → V (905+i) = nI (y_ln i).1 ∧ V (921+i) = nI (y_ln i).2.1 ∧ V (937+i) = nI (y_ln i).2.2.1 ∧ V (953+i) = nI (y_ln i).2.2.2) ∧
  ∀ j, j < 54 → V (970+2*j) = nI ((y_st d).getD j (0, 0)).1 ∧ V (970+2*j+1) = nI ((y_st d).getD j (0, 0)).2)
theorem y_LK.sam {L : Nat} {d : Nat → Nat} {V V' : Nat → Int32} (h : y_LK L d V) (e : z_sam V V') : y_LK L d V' := by
  refine ⟨h.1, fun h0 => by rw [e 89 (by omega)]; exact h.2.1 h0, fun h0 => ?_⟩
  obtain ⟨h1, h2, h3⟩ := h.2.2 h0
  refine ⟨by rw [e 89 (by omega)]; exact h1, fun i hi => ?_, fun j hj => ?_⟩
  · rw [e (905+i) (by omega), e (921+i) (by omega), e (937+i) (by omega), e (953+i) (by omega)]
    exact h2 i hi
  · rw [e (970+2*j) (by omega), e (970+2*j+1) (by omega)]
    exact h3 j hj
def y_ev (fc : Nat → Int32) : List (Nat × Nat) → List Int32 → List Int32
  | [], st => st
  | (s, v) :: r, st => y_ev fc r (z_ev1 (nI s) (nI v) fc st)
theorem z_ev_y {V fc : Nat → Int32} : ∀ (l : List (Nat × Nat)) i st, (∀ j, j < l.length → V (970+2*(i+j)) = nI (l.getD j (0, 0)).1 ∧ V (970+2*(i+j)+1) = nI (l.getD j (0, 0)).2) → z_ev V fc l.length i st = y_ev fc l st
  | [], i, st, _ => rfl
  | (s, v) :: r, i, st, h => by
    have h0 := h 0 (by simp)
    have ih := z_ev_y (V := V) (fc := fc) r (i+1) (z_ev1 (nI s) (nI v) fc st) (fun j hj => by
      have := h (j+1) (by simp; omega)
      rw [show i + 1 + j = i + (j + 1) by omega]
      exact this)
    show z_ev V fc r.length (i+1) (z_ev1 (V (970+2*i)) (V (970+2*i+1)) fc st) = y_ev fc r (z_ev1 (nI s) (nI v) fc st)
    rw [← ih]
    have h1 : V (970+2*i) = nI s := h0.1
    have h2 : V (970+2*i+1) = nI v := h0.2
    rw [h1, h2]
theorem y_run {V fc : Nat → Int32} {d : Nat → Nat} {A B C : List (Nat × Nat)} {a b : Nat} (h : ∀ j, j < 54 → V (970+2*j) = nI ((y_st d).getD j (0, 0)).1 ∧ V (970+2*j+1) = nI ((y_st d).getD j (0, 0)).2) (he : y_st d = A ++ (B ++ C)) (ha : A.length = a) (hb : a + B.length = b) (hc : b ≤ 54) : z_run V fc a b = z_hd (y_ev fc B []) := by
  unfold z_run
  rw [show b - a = B.length by omega]
  rw [z_ev_y B a [] (fun j hj => ?_)]
  have := h (a + j) (by omega)
  rw [he] at this
  have e : (A ++ (B ++ C)).getD (a + j) (0, 0) = B.getD j (0, 0) := by
    rw [List.getD_eq_getElem?_getD, List.getD_eq_getElem?_getD, List.getElem?_append_right (by omega), List.getElem?_append_left (by omega)]
    congr 2
    omega
  rw [e] at this
  exact this
theorem y_e1n {v : Nat} {fc : Nat → Int32} {st : List Int32} : z_ev1 (nI 0) (nI v) fc st = nI v :: st := rfl
theorem y_e1f {f v : Nat} {fc : Nat → Int32} {st : List Int32} (h : f < 10) : z_ev1 (nI (f+1)) (nI v) fc st = fc f :: st := by
  have : f = 0 ∨ f = 1 ∨ f = 2 ∨ f = 3 ∨ f = 4 ∨ f = 5 ∨ f = 6 ∨ f = 7 ∨ f = 8 ∨ f = 9 := by omega
  rcases this with rfl | rfl | rfl | rfl | rfl | rfl | rfl | rfl | rfl | rfl <;> rfl
theorem y_e1d {v : Nat} {fc : Nat → Int32} {x : Int32} {st : List Int32} : z_ev1 (nI 26) (nI v) fc (x :: st) = (x / nI v) :: st := rfl
theorem y_e1o {v : Nat} {fc : Nat → Int32} {x : Int32} {st : List Int32} : z_ev1 (nI 30) (nI v) fc (x :: st) = (nI 1 - x) :: st := rfl
theorem y_e1b {s v : Nat} {fc : Nat → Int32} {x y : Int32} {st : List Int32} (h : s = 23 ∨ s = 24 ∨ s = 25 ∨ s = 28 ∨ s = 29 ∨ s = 31 ∨ s = 32) : z_ev1 (nI s) (nI v) fc (y :: x :: st) = z_bo (nI s) x y :: st := by
  rcases h with rfl | rfl | rfl | rfl | rfl | rfl | rfl <;> rfl
theorem y_b23 {x y : Int32} : z_bo (nI 23) x y = x + y := rfl
theorem y_b24 {x y : Int32} : z_bo (nI 24) x y = x - y := rfl
theorem y_b25 {x y : Int32} : z_bo (nI 25) x y = x * y := rfl
theorem y_b28 {x y : Int32} : z_bo (nI 28) x y = if x = y then nI 1 else nI 0 := rfl
theorem y_b29 {x y : Int32} : z_bo (nI 29) x y = if x ≤ y then nI 0 else nI 1 := rfl
theorem y_b31 {x y : Int32} : z_bo (nI 31) x y = x &&& y := rfl
theorem y_b32 {x y : Int32} : z_bo (nI 32) x y = x ||| y := rfl
theorem y_rL0 {d : Nat → Nat} {fc : Nat → Int32} : z_hd (y_ev fc (y_L0 d) []) = fc 3 + fc 6 * nI (d 2) - fc 5 := rfl
theorem y_rC0 {d : Nat → Nat} {fc : Nat → Int32} : z_hd (y_ev fc (y_C0 d) []) = (if fc 1 ≤ nI (d 0) then nI 0 else nI 1) &&& (nI 1 - ((if fc 4 ≤ nI 1 then nI 0 else nI 1) ||| (if fc 5 = nI (d 1) then nI 1 else nI 0))) := rfl
theorem y_rL1 {d : Nat → Nat} {fc : Nat → Int32} : z_hd (y_ev fc (y_L1 d) []) = fc 3 / nI 2 + fc 4 * nI (d 3) := rfl
theorem y_rL2 {d : Nat → Nat} {fc : Nat → Int32} : z_hd (y_ev fc (y_L2 d) []) = nI (d 4) + fc 2 / nI 9 - fc 7 := rfl
theorem y_rL3 {d : Nat → Nat} {fc : Nat → Int32} : z_hd (y_ev fc (y_L3 d) []) = fc 7 * nI 60 + fc 1 * nI 3 - fc 5 * nI 9 := rfl
theorem y_rC3 {d : Nat → Nat} {fc : Nat → Int32} : z_hd (y_ev fc (y_C3 d) []) = (if fc 8 ≤ nI (d 5) then nI 0 else nI 1) ||| (if fc 0 = nI (d 6) then nI 1 else nI 0) := rfl
theorem y_rL4 {d : Nat → Nat} {fc : Nat → Int32} : z_hd (y_ev fc (y_L4 d) []) = fc 8 * nI (d 7) - fc 6 := rfl
theorem y_tl1 {V fc : Nat → Int32} {w n i f m t q : Nat} {dd : Int32} (h1 : V (905+i) = nI f) (h2 : V (921+i) = nI m) (h3 : V (937+i) = nI t) (h4 : V (953+i) = nI q) (hb : f < 1000 ∧ m < 1000 ∧ t < 1000 ∧ q < 1000 ∧ w < 1000) :
    z_tl V fc w dd (n+1) i = if q = 20 + w ∧ (t = m ∨ z_run V fc m t = nI 1) then z_run V fc f m else z_tl V fc w dd n (i+1) := by
  show (if _ then _ else _) = _
  rw [h1, h2, h3, h4, zn_nI (by omega), zn_nI (by omega), zn_nI (by omega)]
  by_cases h : q = 20 + w ∧ (t = m ∨ z_run V fc m t = nI 1)
  · rw [if_pos h, if_pos]
    rw [nI_eq (by omega) (by omega), nI_eq (by omega) (by omega)]
    exact h
  · rw [if_neg h, if_neg]
    rw [nI_eq (by omega) (by omega), nI_eq (by omega) (by omega)]
    exact h
theorem y_01 {a b c : Prop} [Decidable a] [Decidable b] [Decidable c] : ((if a then nI 0 else nI 1) &&& (nI 1 - ((if b then nI 0 else nI 1) ||| (if c then nI 1 else nI 0))) = nI 1) ↔ (¬ a ∧ b ∧ ¬ c) := by
  by_cases ha : a <;> by_cases hb : b <;> by_cases hc : c <;> simp only [ha, hb, hc, if_true, if_false] <;> decide
theorem y_02 {a b : Prop} [Decidable a] [Decidable b] : ((if a then nI 0 else nI 1) ||| (if b then nI 1 else nI 0) = nI 1) ↔ (¬ a ∨ b) := by
  by_cases ha : a <;> by_cases hb : b <;> simp only [ha, hb, if_true, if_false] <;> decide
theorem y_tls {L : Nat} {d : Nat → Nat} {V fc : Nat → Int32} {dd : Int32} (h : y_LK L d V) (h0 : L ≠ 0) :
    z_tl V fc 0 dd 5 0 = (if ¬ fc 1 ≤ nI (d 0) ∧ fc 4 ≤ nI 1 ∧ ¬ fc 5 = nI (d 1) then fc 3 + fc 6 * nI (d 2) - fc 5 else fc 3 / nI 2 + fc 4 * nI (d 3)) ∧
    z_tl V fc 1 dd 5 0 = nI (d 4) + fc 2 / nI 9 - fc 7 ∧
    z_tl V fc 2 dd 5 0 = (if ¬ fc 8 ≤ nI (d 5) ∨ fc 0 = nI (d 6) then fc 7 * nI 60 + fc 1 * nI 3 - fc 5 * nI 9 else fc 8 * nI (d 7) - fc 6) := by
  obtain ⟨-, h2, h3⟩ := h.2.2 h0
  have g0 := h2 0 (by omega)
  have g1 := h2 1 (by omega)
  have g2 := h2 2 (by omega)
  have g3 := h2 3 (by omega)
  have g4 := h2 4 (by omega)
  have r0 := (y_run (fc := fc) (A := []) (B := y_L0 d) (C := y_C0 d ++ (y_L1 d ++ (y_L2 d ++ (y_L3 d ++ (y_C3 d ++ y_L4 d))))) (a := 0) (b := 7) h3 rfl rfl rfl (by omega)).trans y_rL0
  have c0 := (y_run (fc := fc) (A := y_L0 d) (B := y_C0 d) (C := y_L1 d ++ (y_L2 d ++ (y_L3 d ++ (y_C3 d ++ y_L4 d)))) (a := 7) (b := 19) h3 rfl rfl rfl (by omega)).trans y_rC0
  have r1 := (y_run (fc := fc) (A := y_L0 d ++ y_C0 d) (B := y_L1 d) (C := y_L2 d ++ (y_L3 d ++ (y_C3 d ++ y_L4 d))) (a := 19) (b := 25) h3 rfl rfl rfl (by omega)).trans y_rL1
  have r2 := (y_run (fc := fc) (A := y_L0 d ++ (y_C0 d ++ y_L1 d)) (B := y_L2 d) (C := y_L3 d ++ (y_C3 d ++ y_L4 d)) (a := 25) (b := 31) h3 rfl rfl rfl (by omega)).trans y_rL2
  have r3 := (y_run (fc := fc) (A := y_L0 d ++ (y_C0 d ++ (y_L1 d ++ y_L2 d))) (B := y_L3 d) (C := y_C3 d ++ y_L4 d) (a := 31) (b := 42) h3 rfl rfl rfl (by omega)).trans y_rL3
  have c3 := (y_run (fc := fc) (A := y_L0 d ++ (y_C0 d ++ (y_L1 d ++ (y_L2 d ++ y_L3 d)))) (B := y_C3 d) (C := y_L4 d) (a := 42) (b := 49) h3 rfl rfl rfl (by omega)).trans y_rC3
  have r4 := (y_run (fc := fc) (A := y_L0 d ++ (y_C0 d ++ (y_L1 d ++ (y_L2 d ++ (y_L3 d ++ y_C3 d))))) (B := y_L4 d) (C := []) (a := 49) (b := 54) h3 (by simp [y_st]) rfl rfl (by omega)).trans y_rL4
  have t0 : ∀ w n, w < 3 → z_tl V fc w dd (n+1) 0 = if 20 = 20 + w ∧ (19 = 7 ∨ z_run V fc 7 19 = nI 1) then z_run V fc 0 7 else z_tl V fc w dd n 1 := fun w n hw => y_tl1 g0.1 g0.2.1 g0.2.2.1 g0.2.2.2 ⟨by decide, by decide, by decide, by decide, by omega⟩
  have t1 : ∀ w n, w < 3 → z_tl V fc w dd (n+1) 1 = if 20 = 20 + w ∧ (25 = 25 ∨ z_run V fc 25 25 = nI 1) then z_run V fc 19 25 else z_tl V fc w dd n 2 := fun w n hw => y_tl1 g1.1 g1.2.1 g1.2.2.1 g1.2.2.2 ⟨by decide, by decide, by decide, by decide, by omega⟩
  have t2 : ∀ w n, w < 3 → z_tl V fc w dd (n+1) 2 = if 21 = 20 + w ∧ (31 = 31 ∨ z_run V fc 31 31 = nI 1) then z_run V fc 25 31 else z_tl V fc w dd n 3 := fun w n hw => y_tl1 g2.1 g2.2.1 g2.2.2.1 g2.2.2.2 ⟨by decide, by decide, by decide, by decide, by omega⟩
  have t3 : ∀ w n, w < 3 → z_tl V fc w dd (n+1) 3 = if 22 = 20 + w ∧ (49 = 42 ∨ z_run V fc 42 49 = nI 1) then z_run V fc 31 42 else z_tl V fc w dd n 4 := fun w n hw => y_tl1 g3.1 g3.2.1 g3.2.2.1 g3.2.2.2 ⟨by decide, by decide, by decide, by decide, by omega⟩
  have t4 : ∀ w n, w < 3 → z_tl V fc w dd (n+1) 4 = if 22 = 20 + w ∧ (54 = 54 ∨ z_run V fc 54 54 = nI 1) then z_run V fc 49 54 else z_tl V fc w dd n 5 := fun w n hw => y_tl1 g4.1 g4.2.1 g4.2.2.1 g4.2.2.2 ⟨by decide, by decide, by decide, by decide, by omega⟩
  refine ⟨?_, ?_, ?_⟩
  · rw [t0 0 4 (by omega), t1 0 3 (by omega), c0, r0, r1]
    by_cases q : ¬ fc 1 ≤ nI (d 0) ∧ fc 4 ≤ nI 1 ∧ ¬ fc 5 = nI (d 1)
    · rw [if_pos q, if_pos ⟨rfl, Or.inr (y_01.mpr q)⟩]
    · rw [if_neg q, if_neg (fun z => z.2.elim (by omega) (fun z => q (y_01.mp z))), if_pos ⟨rfl, Or.inl rfl⟩]
  · rw [t0 1 4 (by omega), if_neg (by omega), t1 1 3 (by omega), if_neg (by omega), t2 1 2 (by omega), if_pos ⟨rfl, Or.inl rfl⟩, r2]
  · rw [t0 2 4 (by omega), if_neg (by omega), t1 2 3 (by omega), if_neg (by omega), t2 2 2 (by omega), if_neg (by omega), t3 2 1 (by omega), t4 2 0 (by omega), c3, r3, r4]
    by_cases q : ¬ fc 8 ≤ nI (d 5) ∨ fc 0 = nI (d 6)
    · rw [if_pos q, if_pos ⟨rfl, Or.inr (y_02.mpr q)⟩]
    · rw [if_neg q, if_neg (fun z => z.2.elim (by omega) (fun z => q (y_02.mp z))), if_pos ⟨rfl, Or.inl rfl⟩]
theorem y_LK.EQ {L mu me : Nat} {d : Nat → Nat} {V : Nat → Int32} (h : y_LK L d V) (hF : z_TF V mu me) : y_EQ L d V mu me := by
  have hmu := hF.1
  have hme := hF.2.1
  have hd := h.1
  refine ⟨fun m k hh hm hk h12 => ?_, fun m hm => ?_, fun m hh dr hm hhh hdr => ?_⟩
  · obtain ⟨x1, x2⟩ := z_leE (hF.2.2.2.2.2.2.1 m k hm hk) (by omega)
    have x1 : V (20+5*m+k) = nI (z_lk V m k) := x1
    unfold z_lean y_lean
    by_cases h0 : L = 0
    · rw [if_pos h0, h.2.1 h0]
      show z_cl (nI _) 999 = _
      rw [x1, nI_add]
    · rw [if_neg h0, (h.2.2 h0).1, zn_nI (by omega), (y_tls h h0).1]
      show z_cl (if ¬ V (107+m) ≤ nI (d 0) ∧ nI hh ≤ nI 1 ∧ ¬ V (119+k) = nI (d 1) then nI (z_lk V m k) + V (124+k) * nI (d 2) - V (119+k) else nI (z_lk V m k) / nI 2 + nI hh * nI (d 3)) 999 = _
      rw [← x1, z_mul]
      by_cases q : ¬ V (107+m) ≤ nI (d 0) ∧ hh ≤ 1 ∧ ¬ V (119+k) = nI (d 1)
      · rw [if_pos q, if_pos ⟨q.1, by rw [z_leT q.2.1 (by omega)]; trivial, q.2.2⟩]
      · rw [if_neg q, if_neg (fun z => q ⟨z.1, (nI_leI (by omega) (by omega)).mp z.2.1, z.2.2⟩)]
  · unfold z_need y_need
    by_cases h0 : L = 0
    · rw [if_pos h0, h.2.1 h0]
      rfl
    · rw [if_neg h0, (h.2.2 h0).1, zn_nI (by omega), (y_tls h h0).2.1]
      rfl
  · unfold z_risk y_risk
    by_cases h0 : L = 0
    · rw [if_pos h0, h.2.1 h0]
      rfl
    · rw [if_neg h0, (h.2.2 h0).1, zn_nI (by omega), (y_tls h h0).2.2]
      have d6 := hd 6
      show z_cl (if ¬ nI hh ≤ nI (d 5) ∨ nI m = nI (d 6) then V 88 * nI 60 + V (107+m) * nI 3 - z_skl V 119 dr * nI 9 else nI hh * nI (d 7) - z_skl V 124 dr) 1000 = _
      by_cases q : nI hh ≤ nI (d 5) ∧ ¬ m = d 6
      · rw [if_pos q, if_neg (by rintro (z | z); exact z q.1; exact q.2 ((nI_eq (by omega) (by omega)).mp z))]
      · rw [if_neg q, if_pos]
        by_cases z : nI hh ≤ nI (d 5)
        · exact Or.inr (by rw [nI_eq (by omega) (by omega)]; exact Classical.not_not.mp (fun r => q ⟨z, r⟩))
        · exact Or.inl z
