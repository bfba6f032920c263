/-! the law's law, line by line -/
def y_L0 (d : Nat → Nat) : List (Nat × Nat) := [(4, 0), (7, 0), (0, d 2), (25, 0), (23, 0), (6, 0), (24, 0)]
def y_C0 (d : Nat → Nat) : List (Nat × Nat) := [(2, 0), (0, d 0), (29, 0), (5, 0), (0, 1), (29, 0), (6, 0), (0, d 1), (28, 0), (32, 0), (30, 0), (31, 0)]
def y_L1 (d : Nat → Nat) : List (Nat × Nat) := [(4, 0), (26, 2), (5, 0), (0, d 3), (25, 0), (23, 0)]
def y_L2 (d : Nat → Nat) : List (Nat × Nat) := [(0, d 4), (3, 0), (26, 9), (23, 0), (8, 0), (24, 0)]
def y_L3 (_ : Nat → Nat) : List (Nat × Nat) := [(8, 0), (0, 60), (25, 0), (2, 0), (0, 3), (25, 0), (23, 0), (6, 0), (0, 9), (25, 0), (24, 0)]
def y_C3 (d : Nat → Nat) : List (Nat × Nat) := [(9, 0), (0, d 5), (29, 0), (1, 0), (0, d 6), (28, 0), (32, 0)]
def y_L4 (d : Nat → Nat) : List (Nat × Nat) := [(9, 0), (0, d 7), (25, 0), (7, 0), (24, 0)]
def y_st (d : Nat → Nat) : List (Nat × Nat) := y_L0 d ++ (y_C0 d ++ (y_L1 d ++ (y_L2 d ++ (y_L3 d ++ (y_C3 d ++ y_L4 d)))))
def y_ln (i : Nat) : Nat × Nat × Nat × Nat := [(0, 7, 19, 20), (19, 25, 25, 20), (25, 31, 31, 21), (31, 42, 49, 22), (49, 54, 54, 22)].getD i (0, 0, 0, 0)
def y_LK (L : Nat) (d : Nat → Nat) (V : Nat → Int32) : Prop := (∀ j, d j ≤ 60) ∧ (L = 0 → V 89 = nI 0) ∧ (L ≠ 0 → V 89 = nI 5 ∧ (∀ i, i < 5 → V (905+i) = nI (y_ln i).1 ∧ V (921+i) = nI (y_ln i).2.1 ∧ V (937+i) = nI (y_ln i).2.2.1 ∧ V (953+i) = nI (y_ln i).2.2.2) ∧
  ∀ j, j < 54 → V (970+2*j) = nI ((y_st d).getD j (0, 0)).1 ∧ V (970+2*j+1) = nI ((y_st d).getD j (0, 0)).2)
theorem y_LK.sam {L : Nat} {d : Nat → Nat} {V V' : Nat → Int32} (h : y_LK L d V) (e : z_sam V V') : y_LK L d V' := by
  refine ⟨h.1, fun h0 => by rw [e 89 (by omega)]; exact h.2.1 h0, fun h0 => ?_⟩
  obtain ⟨h1, h2, h3⟩ := h.2.2 h0
  refine ⟨by rw [e 89 (by omega)]; exact h1, fun i hi => ?_, fun j hj => ?_⟩
  · rw [e (905+i) (by omega), e (921+i) (by omega), e (937+i) (by omega), e (953+i) (by omega)]
    exact h2 i hi
  · rw [e (970+2*j) (by omega), e (970+2*j+1) (by omega)]
    exact h3 j hj
def y_ev (fc : Nat → Int32) : List (Nat × Nat) → List Int32 → List Int32
  | [], st => st
  | (s, v) :: r, st => y_ev fc r (z_ev1 (nI s) (nI v) fc st)
theorem z_ev_y {V fc : Nat → Int32} : ∀ (l : List (Nat × Nat)) i st, (∀ j, j < l.length → V (970+2*(i+j)) = nI (l.getD j (0, 0)).1 ∧ V (970+2*(i+j)+1) = nI (l.getD j (0, 0)).2) → z_ev V fc l.length i st = y_ev fc l st
  | [], i, st, _ => rfl
  | (s, v) :: r, i, st, h => by
    have h0 := h 0 (by simp)
    have ih := z_ev_y (V := V) (fc := fc) r (i+1) (z_ev1 (nI s) (nI v) fc st) (fun j hj => by
      have := h (j+1) (by simp; omega)
      rw [show i + 1 + j = i + (j + 1) by omega]
      exact this)
    show z_ev V fc r.length (i+1) (z_ev1 (V (970+2*i)) (V (970+2*i+1)) fc st) = y_ev fc r (z_ev1 (nI s) (nI v) fc st)
    rw [← ih]
    have h1 : V (970+2*i) = nI s := h0.1
    have h2 : V (970+2*i+1) = nI v := h0.2
    rw [h1, h2]
theorem y_run {V fc : Nat → Int32} {d : Nat → Nat} {A B C : List (Nat × Nat)} {a b : Nat} (h : ∀ j, j < 54 → V (970+2*j) = nI ((y_st d).getD j (0, 0)).1 ∧ V (970+2*j+1) = nI ((y_st d).getD j (0, 0)).2) (he : y_st d = A ++ (B ++ C)) (ha : A.length = a) (hb : a + B.length = b) (hc : b ≤ 54) : z_run V fc a b = z_hd (y_ev fc B []) := by
  unfold z_run
  rw [show b - a = B.length by omega]
  rw [z_ev_y B a [] (fun j hj => ?_)]
  have := h (a + j) (by omega)
  rw [he] at this
  have e : (A ++ (B ++ C)).getD (a + j) (0, 0) = B.getD j (0, 0) := by
    rw [List.getD_eq_getElem?_getD, List.getD_eq_getElem?_getD, List.getElem?_append_right (by omega), List.getElem?_append_left (by omega)]
    congr 2
    omega
  rw [e] at this
  exact this
theorem y_e1n {v : Nat} {fc : Nat → Int32} {st : List Int32} : z_ev1 (nI 0) (nI v) fc st = nI v :: st := rfl
theorem y_e1f {f v : Nat} {fc : Nat → Int32} {st : List Int32} (h : f < 10) : z_ev1 (nI (f+1)) (nI v) fc st = fc f :: st := by
  have : f = 0 ∨ f = 1 ∨ f = 2 ∨ f = 3 ∨ f = 4 ∨ f = 5 ∨ f = 6 ∨ f = 7 ∨ f = 8 ∨ f = 9 := by omega
  rcases this with rfl | rfl | rfl | rfl | rfl | rfl | rfl | rfl | rfl | rfl <;> rfl
theorem y_e1d {v : Nat} {fc : Nat → Int32} {x : Int32} {st : List Int32} : z_ev1 (nI 26) (nI v) fc (x :: st) = (x / nI v) :: st := rfl
theorem y_e1o {v : Nat} {fc : Nat → Int32} {x : Int32} {st : List Int32} : z_ev1 (nI 30) (nI v) fc (x :: st) = (nI 1 - x) :: st := rfl
theorem y_e1b {s v : Nat} {fc : Nat → Int32} {x y : Int32} {st : List Int32} (h : s = 23 ∨ s = 24 ∨ s = 25 ∨ s = 28 ∨ s = 29 ∨ s = 31 ∨ s = 32) : z_ev1 (nI s) (nI v) fc (y :: x :: st) = z_bo (nI s) x y :: st := by
  rcases h with rfl | rfl | rfl | rfl | rfl | rfl | rfl <;> rfl
theorem y_b23 {x y : Int32} : z_bo (nI 23) x y = x + y := rfl
theorem y_b24 {x y : Int32} : z_bo (nI 24) x y = x - y := rfl
theorem y_b25 {x y : Int32} : z_bo (nI 25) x y = x * y := rfl
theorem y_b28 {x y : Int32} : z_bo (nI 28) x y = if x = y then nI 1 else nI 0 := rfl
theorem y_b29 {x y : Int32} : z_bo (nI 29) x y = if x ≤ y then nI 0 else nI 1 := rfl
theorem y_b31 {x y : Int32} : z_bo (nI 31) x y = x &&& y := rfl
theorem y_b32 {x y : Int32} : z_bo (nI 32) x y = x ||| y := rfl
theorem y_rL0 {d : Nat → Nat} {fc : Nat → Int32} : z_hd (y_ev fc (y_L0 d) []) = fc 3 + fc 6 * nI (d 2) - fc 5 := rfl
theorem y_rC0 {d : Nat → Nat} {fc : Nat → Int32} : z_hd (y_ev fc (y_C0 d) []) = (if fc 1 ≤ nI (d 0) then nI 0 else nI 1) &&& (nI 1 - ((if fc 4 ≤ nI 1 then nI 0 else nI 1) ||| (if fc 5 = nI (d 1) then nI 1 else nI 0))) := rfl
theorem y_rL1 {d : Nat → Nat} {fc : Nat → Int32} : z_hd (y_ev fc (y_L1 d) []) = fc 3 / nI 2 + fc 4 * nI (d 3) := rfl
theorem y_rL2 {d : Nat → Nat} {fc : Nat → Int32} : z_hd (y_ev fc (y_L2 d) []) = nI (d 4) + fc 2 / nI 9 - fc 7 := rfl
theorem y_rL3 {d : Nat → Nat} {fc : Nat → Int32} : z_hd (y_ev fc (y_L3 d) []) = fc 7 * nI 60 + fc 1 * nI 3 - fc 5 * nI 9 := rfl
theorem y_rC3 {d : Nat → Nat} {fc : Nat → Int32} : z_hd (y_ev fc (y_C3 d) []) = (if fc 8 ≤ nI (d 5) then nI 0 else nI 1) ||| (if fc 0 = nI (d 6) then nI 1 else nI 0) := rfl
theorem y_rL4 {d : Nat → Nat} {fc : Nat → Int32} : z_hd (y_ev fc (y_L4 d) []) = fc 8 * nI (d 7) - fc 6 := rfl
