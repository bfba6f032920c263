/-! the law's steps on a pile of numbers -/
def z_bo (s x y : Int32) : Int32 :=
  if s = nI 23 then x + y else if s = nI 24 then x - y else if s = nI 25 then x * y
  else if s = nI 27 then (if x < y then nI 1 else nI 0) else if s = nI 28 then (if x = y then nI 1 else nI 0)
  else if s = nI 29 then (if x ≤ y then nI 0 else nI 1) else if s = nI 31 then x &&& y else x ||| y
def z_ev1 (s v : Int32) (fc : Nat → Int32) (st : List Int32) : List Int32 :=
  if s < nI 23 then (if s = nI 0 then v else fc (s.toNatClampNeg - 1)) :: st
  else if s = nI 26 then (match st with
    | x :: r => (x / v) :: r
    | [] => [])
  else if s = nI 30 then (match st with
    | x :: r => (nI 1 - x) :: r
    | [] => [])
  else (match st with
    | y :: x :: r => z_bo s x y :: r
    | r => r)
def z_ev (V : Nat → Int32) (fc : Nat → Int32) : Nat → Nat → List Int32 → List Int32
  | 0, _, st => st
  | n + 1, i, st => z_ev V fc n (i + 1) (z_ev1 (V (970+2*i)) (V (970+2*i+1)) fc st)
def z_hd : List Int32 → Int32
  | [] => nI 0
  | x :: _ => x
/-- the steps from a up to b -/
def z_run (V fc : Nat → Int32) (a b : Nat) : Int32 := z_hd (z_ev V fc (b - a) a [])
def z_ok : List Bool → List Int32 → Prop
  | [], [] => True
  | b :: ts, x :: st => (b = true → x = nI 0 ∨ x = nI 1) ∧ z_ok ts st
  | [], _ :: _ => False
  | _ :: _, [] => False
def z_mem (A : Nat → Int32) : List Int32 → Prop
  | [] => True
  | x :: r => A r.length = x ∧ z_mem A r
def z_tp : Nat → Int32
  | 0 => z_m
  | k + 1 => nI k
theorem z_mem_up {A : Nat → Int32} {k : Nat} {v : Int32} : ∀ {st : List Int32}, z_mem A st → st.length ≤ k → z_mem (fun j => if j = k then v else A j) st
  | [], _, _ => trivial
  | x :: r, h, hl => by
    have hl' : r.length + 1 ≤ k := hl
    exact ⟨(if_neg (by omega)).trans h.1, z_mem_up h.2 (by omega)⟩
theorem z_mem_push {σ : q_Sto} {o : Nat} {v : Int32} {st : List Int32} (h : z_mem (σ o) st) : z_mem (q_up σ o st.length v o) (v :: st) := by
  refine ⟨z_upS, ?_⟩
  have e : q_up σ o st.length v o = fun j => if j = st.length then v else σ o j := by funext j; simp [q_up]
  rw [e]
  exact z_mem_up h (Nat.le_refl _)
/-- what a step does: five kinds -/
def z_K (fc : Nat → Int32) (op val s v : Int32) (st st' : List Int32) : Prop :=
  (op = nI 0 ∧ s = nI 0 ∧ val = v ∧ st' = v :: st) ∨
  (∃ f, f < 10 ∧ op = nI 1 ∧ val = nI f ∧ s = nI (f+1) ∧ st' = fc f :: st) ∨
  (∃ d x r, 1 ≤ d ∧ d < 10000 ∧ op = nI 2 ∧ s = nI 26 ∧ val = nI d ∧ v = nI d ∧ st = x :: r ∧ st' = (x / nI d) :: r) ∨
  (∃ x r, op = nI 9 ∧ s = nI 30 ∧ st = x :: r ∧ st' = (nI 1 - x) :: r) ∨
  (∃ y x r, st = y :: x :: r ∧ st' = z_bo s x y :: r ∧
    ((op = nI 3 ∧ s = nI 25) ∨ (op = nI 4 ∧ s = nI 23) ∨ (op = nI 5 ∧ s = nI 24) ∨ (op = nI 6 ∧ s = nI 27) ∨ (op = nI 7 ∧ s = nI 28) ∨ (op = nI 8 ∧ s = nI 29) ∨ (op = nI 10 ∧ s = nI 31) ∨ (op = nI 11 ∧ s = nI 32)))
theorem z_01 {x : Int32} (h : x = nI 0 ∨ x = nI 1) : nI 1 - x = nI 0 ∨ nI 1 - x = nI 1 := by
  rcases h with rfl | rfl
  · right; rfl
  · left; rfl
theorem z_and01 {x y : Int32} (h : x = nI 0 ∨ x = nI 1) (h2 : y = nI 0 ∨ y = nI 1) : x &&& y = nI 0 ∨ x &&& y = nI 1 := by
  rcases h with rfl | rfl <;> rcases h2 with rfl | rfl
  · left; rfl
  · left; rfl
  · left; rfl
  · right; rfl
theorem z_or01 {x y : Int32} (h : x = nI 0 ∨ x = nI 1) (h2 : y = nI 0 ∨ y = nI 1) : x ||| y = nI 0 ∨ x ||| y = nI 1 := by
  rcases h with rfl | rfl <;> rcases h2 with rfl | rfl
  · left; rfl
  · right; rfl
  · right; rfl
  · right; rfl
theorem z_ok2 {a b : Bool} {ts : List Bool} {st : List Int32} (h : z_ok (a :: b :: ts) st) : ∃ y x r, st = y :: x :: r ∧ (a = true → y = nI 0 ∨ y = nI 1) ∧ (b = true → x = nI 0 ∨ x = nI 1) ∧ z_ok ts r := by
  cases st with
  | nil => exact h.elim
  | cons y st =>
    obtain ⟨h1, h⟩ := h
    cases st with
    | nil => exact h.elim
    | cons x r => exact ⟨y, x, r, rfl, h1, h.1, h.2⟩
theorem z_ok1 {a : Bool} {ts : List Bool} {st : List Int32} (h : z_ok (a :: ts) st) : ∃ y r, st = y :: r ∧ (a = true → y = nI 0 ∨ y = nI 1) ∧ z_ok ts r := by
  cases st with
  | nil => exact h.elim
  | cons y st => exact ⟨y, st, rfl, h.1, h.2⟩
theorem z_pop1_e {a o : Bool} {ts us : List Bool} (h : z_pop1 a o ts = some us) : ∃ r, ts = a :: r ∧ us = o :: r := by
  cases ts with
  | nil => cases h
  | cons x r =>
    have h : (if x = a then some (o :: r) else none) = some us := h
    by_cases hx : x = a
    · rw [if_pos hx] at h; cases h; exact ⟨r, by rw [hx], rfl⟩
    · rw [if_neg hx] at h; cases h
theorem z_pop2_e {a o : Bool} {ts us : List Bool} (h : z_pop2 a o ts = some us) : ∃ r, ts = a :: a :: r ∧ us = o :: r := by
  cases ts with
  | nil => cases h
  | cons x r =>
    cases r with
    | nil => cases h
    | cons y r =>
      have h : (if x = a ∧ y = a then some (o :: r) else none) = some us := h
      by_cases hx : x = a ∧ y = a
      · rw [if_pos hx] at h; cases h; exact ⟨r, by rw [hx.1, hx.2], rfl⟩
      · rw [if_neg hx] at h; cases h
theorem z_tyA {op : Int32} {ts us : List Bool} (hop : op = nI 3 ∨ op = nI 4 ∨ op = nI 5) (h : z_ty1 op ts = some us) : ∃ r, ts = false :: false :: r ∧ us = false :: r :=
  z_pop2_e (by rcases hop with rfl | rfl | rfl <;> exact h)
theorem z_tyB {op : Int32} {ts us : List Bool} (hop : op = nI 6 ∨ op = nI 7 ∨ op = nI 8) (h : z_ty1 op ts = some us) : ∃ r, ts = false :: false :: r ∧ us = true :: r :=
  z_pop2_e (by rcases hop with rfl | rfl | rfl <;> exact h)
theorem z_tyC {op : Int32} {ts us : List Bool} (hop : op = nI 10 ∨ op = nI 11) (h : z_ty1 op ts = some us) : ∃ r, ts = true :: true :: r ∧ us = true :: r :=
  z_pop2_e (by rcases hop with rfl | rfl <;> exact h)
theorem z_tyD {ts us : List Bool} (h : z_ty1 (nI 2) ts = some us) : ∃ r, ts = false :: r ∧ us = false :: r := z_pop1_e h
theorem z_tyE {ts us : List Bool} (h : z_ty1 (nI 9) ts = some us) : ∃ r, ts = true :: r ∧ us = true :: r := z_pop1_e h
theorem z_evB {s v : Int32} {fc : Nat → Int32} {y x : Int32} {r : List Int32} (hs : s = nI 25 ∨ s = nI 23 ∨ s = nI 24 ∨ s = nI 27 ∨ s = nI 28 ∨ s = nI 29 ∨ s = nI 31 ∨ s = nI 32) : z_ev1 s v fc (y :: x :: r) = z_bo s x y :: r := by
  rcases hs with rfl | rfl | rfl | rfl | rfl | rfl | rfl | rfl <;> rfl
theorem z_step {fc : Nat → Int32} {op val s v : Int32} {ts us : List Bool} {st : List Int32} (h : z_st1 op val s v) (ht : z_ty1 op ts = some us) (ho : z_ok ts st) : z_ok us (z_ev1 s v fc st) ∧ z_K fc op val s v st (z_ev1 s v fc st) := by
  rcases h with ⟨rfl, rfl, rfl⟩ | ⟨f, hf, rfl, rfl, rfl⟩ | ⟨d, hd1, hd2, rfl, rfl, rfl, rfl⟩ | h
  · have e : us = false :: ts := by
      have : z_ty1 (nI 0) ts = some (false :: ts) := rfl
      rw [this] at ht; cases ht; rfl
    subst e
    have e2 : z_ev1 (nI 0) val fc st = val :: st := rfl
    rw [e2]
    exact ⟨⟨(fun q => by cases q), ho⟩, Or.inl ⟨rfl, rfl, rfl, rfl⟩⟩
  · have e : us = false :: ts := by
      have : z_ty1 (nI 1) ts = some (false :: ts) := rfl
      rw [this] at ht; cases ht; rfl
    subst e
    have e2 : z_ev1 (nI (f+1)) v fc st = fc f :: st := by
      unfold z_ev1
      rw [if_pos (by rw [nI_ltI (by omega) (by omega)]; omega), if_neg (by rw [nI_eq (by omega) (by omega)]; omega), nI_clamp (by omega)]
      rfl
    rw [e2]
    exact ⟨⟨(fun q => by cases q), ho⟩, Or.inr (Or.inl ⟨f, hf, rfl, rfl, rfl, rfl⟩)⟩
  · obtain ⟨r, rfl, rfl⟩ := z_tyD ht
    obtain ⟨x, q, rfl, -, h2⟩ := z_ok1 ho
    have e2 : z_ev1 (nI 26) (nI d) fc (x :: q) = (x / nI d) :: q := rfl
    rw [e2]
    exact ⟨⟨(fun q => by cases q), h2⟩, Or.inr (Or.inr (Or.inl ⟨d, x, q, hd1, hd2, rfl, rfl, rfl, rfl, rfl, rfl⟩))⟩
  · by_cases h9 : op = nI 9 ∧ s = nI 30
    · obtain ⟨rfl, rfl⟩ := h9
      obtain ⟨r, rfl, rfl⟩ := z_tyE ht
      obtain ⟨x, q, rfl, h1, h2⟩ := z_ok1 ho
      have e2 : z_ev1 (nI 30) v fc (x :: q) = (nI 1 - x) :: q := rfl
      rw [e2]
      exact ⟨⟨(fun _ => z_01 (h1 rfl)), h2⟩, Or.inr (Or.inr (Or.inr (Or.inl ⟨x, q, rfl, rfl, rfl, rfl⟩)))⟩
    · have h : (op = nI 3 ∧ s = nI 25) ∨ (op = nI 4 ∧ s = nI 23) ∨ (op = nI 5 ∧ s = nI 24) ∨ (op = nI 6 ∧ s = nI 27) ∨ (op = nI 7 ∧ s = nI 28) ∨ (op = nI 8 ∧ s = nI 29) ∨ (op = nI 10 ∧ s = nI 31) ∨ (op = nI 11 ∧ s = nI 32) := by
        rcases h with h | h | h | h | h | h | h | h | h
        · exact Or.inl h
        · exact Or.inr (Or.inl h)
        · exact Or.inr (Or.inr (Or.inl h))
        · exact Or.inr (Or.inr (Or.inr (Or.inl h)))
        · exact Or.inr (Or.inr (Or.inr (Or.inr (Or.inl h))))
        · exact Or.inr (Or.inr (Or.inr (Or.inr (Or.inr (Or.inl h)))))
        · exact absurd h h9
        · exact Or.inr (Or.inr (Or.inr (Or.inr (Or.inr (Or.inr (Or.inl h))))))
        · exact Or.inr (Or.inr (Or.inr (Or.inr (Or.inr (Or.inr (Or.inr h))))))
      have key : ∃ y x r, st = y :: x :: r ∧ z_ok us (z_bo s x y :: r) := by
        rcases h with ⟨h, h'⟩ | ⟨h, h'⟩ | ⟨h, h'⟩ | ⟨h, h'⟩ | ⟨h, h'⟩ | ⟨h, h'⟩ | ⟨h, h'⟩ | ⟨h, h'⟩
        · obtain ⟨r, rfl, rfl⟩ := z_tyA (Or.inl h) ht
          obtain ⟨y, x, q, rfl, h1, h2, h3⟩ := z_ok2 ho
          exact ⟨y, x, q, rfl, (fun q => by cases q), h3⟩
        · obtain ⟨r, rfl, rfl⟩ := z_tyA (Or.inr (Or.inl h)) ht
          obtain ⟨y, x, q, rfl, h1, h2, h3⟩ := z_ok2 ho
          exact ⟨y, x, q, rfl, (fun q => by cases q), h3⟩
        · obtain ⟨r, rfl, rfl⟩ := z_tyA (Or.inr (Or.inr h)) ht
          obtain ⟨y, x, q, rfl, h1, h2, h3⟩ := z_ok2 ho
          exact ⟨y, x, q, rfl, (fun q => by cases q), h3⟩
        · obtain ⟨r, rfl, rfl⟩ := z_tyB (Or.inl h) ht
          obtain ⟨y, x, q, rfl, h1, h2, h3⟩ := z_ok2 ho
          subst h'
          refine ⟨y, x, q, rfl, (fun _ => ?_), h3⟩
          show (if x < y then nI 1 else nI 0) = nI 0 ∨ (if x < y then nI 1 else nI 0) = nI 1
          split
          · right; rfl
          · left; rfl
        · obtain ⟨r, rfl, rfl⟩ := z_tyB (Or.inr (Or.inl h)) ht
          obtain ⟨y, x, q, rfl, h1, h2, h3⟩ := z_ok2 ho
          subst h'
          refine ⟨y, x, q, rfl, (fun _ => ?_), h3⟩
          show (if x = y then nI 1 else nI 0) = nI 0 ∨ (if x = y then nI 1 else nI 0) = nI 1
          split
          · right; rfl
          · left; rfl
        · obtain ⟨r, rfl, rfl⟩ := z_tyB (Or.inr (Or.inr h)) ht
          obtain ⟨y, x, q, rfl, h1, h2, h3⟩ := z_ok2 ho
          subst h'
          refine ⟨y, x, q, rfl, (fun _ => ?_), h3⟩
          show (if x ≤ y then nI 0 else nI 1) = nI 0 ∨ (if x ≤ y then nI 0 else nI 1) = nI 1
          split
          · left; rfl
          · right; rfl
        · obtain ⟨r, rfl, rfl⟩ := z_tyC (Or.inl h) ht
          obtain ⟨y, x, q, rfl, h1, h2, h3⟩ := z_ok2 ho
          subst h'
          exact ⟨y, x, q, rfl, (fun _ => z_and01 (h2 rfl) (h1 rfl)), h3⟩
        · obtain ⟨r, rfl, rfl⟩ := z_tyC (Or.inr h) ht
          obtain ⟨y, x, q, rfl, h1, h2, h3⟩ := z_ok2 ho
          subst h'
          exact ⟨y, x, q, rfl, (fun _ => z_or01 (h2 rfl) (h1 rfl)), h3⟩
      obtain ⟨y, x, r, rfl, hk⟩ := key
      have e2 : z_ev1 s v fc (y :: x :: r) = z_bo s x y :: r := z_evB (by
        rcases h with ⟨-, h⟩ | ⟨-, h⟩ | ⟨-, h⟩ | ⟨-, h⟩ | ⟨-, h⟩ | ⟨-, h⟩ | ⟨-, h⟩ | ⟨-, h⟩ <;> simp [h])
      rw [e2]
      exact ⟨hk, Or.inr (Or.inr (Or.inr (Or.inr ⟨y, x, r, rfl, rfl, h⟩)))⟩
