/-! THE LAW's reader: the class's row of waiting signs, by itself -/
def zl_rk (x : Nat) : Nat := if x = 2 ∨ x = 3 then 6 else if x = 4 ∨ x = 5 then 5 else if x = 9 then 3 else if x = 10 then 2 else if x = 11 then 1 else if x = 12 then 0 else 4
def zl_rel (r : Nat) : List Nat → List (Nat × Nat) → List Nat × List (Nat × Nat)
  | [], O => ([], O)
  | x :: W, O => if r ≤ zl_rk x then zl_rel r W ((x, 0) :: O) else (x :: W, O)
def zl_hd (r : Nat) : List Nat → Prop
  | [] => True
  | x :: _ => zl_rk x < r
/-- how many ( and not wait; how many ( -/
def zl_cn : List Nat → Nat
  | [] => 0
  | x :: W => zl_cn W + (if x = 9 ∨ x = 12 then 1 else 0)
def zl_cb : List Nat → Nat
  | [] => 0
  | x :: W => zl_cb W + (if x = 12 then 1 else 0)
theorem zl_rel_hd {r : Nat} {W : List Nat} (h : zl_hd r W) (O : List (Nat × Nat)) : zl_rel r W O = (W, O) := by
  cases W with
  | nil => rfl
  | cons x W =>
    have h : zl_rk x < r := h
    show (if r ≤ zl_rk x then _ else _) = _
    rw [if_neg (by omega)]
theorem zl_rel_rel {a b : Nat} (h : a ≤ b) : ∀ (W : List Nat) (O : List (Nat × Nat)), zl_rel a (zl_rel b W O).1 (zl_rel b W O).2 = zl_rel a W O
  | [], O => rfl
  | x :: W, O => by
    have e : ∀ r, zl_rel r (x :: W) O = if r ≤ zl_rk x then zl_rel r W ((x, 0) :: O) else (x :: W, O) := fun _ => rfl
    rw [e b]
    by_cases q : b ≤ zl_rk x
    · rw [if_pos q, zl_rel_rel h W, e a, if_pos (by omega)]
    · rw [if_neg q]
theorem zl_rel_of {a b : Nat} (h : a ≤ b) {W W' : List Nat} {O O' : List (Nat × Nat)} (e : zl_rel b W' O' = (W, O)) : zl_rel a W' O' = zl_rel a W O := by
  rw [← zl_rel_rel h W' O', e]
theorem zl_hd_mono {a b : Nat} (h : a ≤ b) {W : List Nat} (g : zl_hd a W) : zl_hd b W := by
  cases W with
  | nil => trivial
  | cons x W =>
    have g : zl_rk x < a := g
    show zl_rk x < b
    omega
theorem zl_rel_out {r : Nat} : ∀ (W : List Nat) (O : List (Nat × Nat)), zl_hd r (zl_rel r W O).1
  | [], O => trivial
  | x :: W, O => by
    have e : zl_rel r (x :: W) O = if r ≤ zl_rk x then zl_rel r W ((x, 0) :: O) else (x :: W, O) := rfl
    rw [e]
    by_cases q : r ≤ zl_rk x
    · rw [if_pos q]; exact zl_rel_out W _
    · rw [if_neg q]
      show zl_rk x < r
      omega
theorem zl_rel_cb {r : Nat} (h : 1 ≤ r) : ∀ (W : List Nat) (O : List (Nat × Nat)), zl_cb (zl_rel r W O).1 = zl_cb W
  | [], O => rfl
  | x :: W, O => by
    have e : zl_rel r (x :: W) O = if r ≤ zl_rk x then zl_rel r W ((x, 0) :: O) else (x :: W, O) := rfl
    rw [e]
    by_cases q : r ≤ zl_rk x
    · rw [if_pos q, zl_rel_cb h W]
      have hx : x ≠ 12 := fun hx => by subst hx; have : zl_rk 12 = 0 := rfl; omega
      show zl_cb W = zl_cb W + (if x = 12 then 1 else 0)
      rw [if_neg hx]
      rfl
    · rw [if_neg q]
theorem zl_rel_len {r : Nat} : ∀ (W : List Nat) (O : List (Nat × Nat)), (zl_rel r W O).1.length + (zl_rel r W O).2.length = W.length + O.length
  | [], O => rfl
  | x :: W, O => by
    have e : zl_rel r (x :: W) O = if r ≤ zl_rk x then zl_rel r W ((x, 0) :: O) else (x :: W, O) := rfl
    rw [e]
    by_cases q : r ≤ zl_rk x
    · rw [if_pos q, zl_rel_len W]
      simp only [List.length_cons]
      omega
    · rw [if_neg q]
/-- where, what waits, what was told (the latest first), what is expected, behind when (its place and one more), compared -/
abbrev zl_S : Type := Nat × List Nat × List (Nat × Nat) × Nat × Nat × Int32
abbrev zl_Rs : Type := Sum (Nat × Nat) (Bool × zl_S)
def zl_opd (T : zt_T) (p : Nat) (W : List Nat) (O : List (Nat × Nat)) (iw : Nat) (ic : Int32) : zl_Rs := if zt_cd 0 T p = 2 then Sum.inr (true, (zt_nx T p, W, (0, zt_va T p) :: O, 2, iw, ic)) else if 41 ≤ zt_cd 0 T p ∧ zt_cd 0 T p ≤ 50 then Sum.inr (true, (zt_nx T p, W, (1, zt_cd 0 T p - 41) :: O, 2, iw, ic)) else Sum.inl (1, zt_at T p)
def zl_opn (T : zt_T) (x p : Nat) (W : List Nat) (O : List (Nat × Nat)) (iw : Nat) : zl_Rs := if zl_cn W < 8 then Sum.inr (true, (zt_nx T p, x :: W, O, 1, iw, nI 0)) else Sum.inl (3, zt_at T p)
def zl_join (T : zt_T) (x ex p : Nat) (W : List Nat) (O : List (Nat × Nat)) (iw : Nat) (ic : Int32) : zl_Rs := Sum.inr (true, (zt_nx T p, x :: (zl_rel (zl_rk x) W O).1, (zl_rel (zl_rk x) W O).2, ex, iw, ic))
def zl_endl (T : zt_T) (p : Nat) (W : List Nat) (O : List (Nat × Nat)) (ex iw : Nat) (ic : Int32) : zl_Rs := if zt_cd 0 T p = 159 then Sum.inr (false, (zt_nx T p, (zl_rel 1 W O).1, (zl_rel 1 W O).2, ex, iw, ic)) else Sum.inl (1, zt_at T p)
def zl_clos (T : zt_T) (p : Nat) (W : List Nat) (O : List (Nat × Nat)) (iw : Nat) (ic : Int32) : zl_Rs := if zt_cd 0 T p = 141 then Sum.inr (true, (zt_nx T p, (zl_rel 1 W O).1.tail, (zl_rel 1 W O).2, 3, iw, ic)) else Sum.inl (1, zt_at T p)
def zl_part (T : zt_T) (p : Nat) (W : List Nat) (O : List (Nat × Nat)) (iw : Nat) (ic : Int32) : zl_Rs := if zt_cd 0 T (zt_nx T p) = 2 then (if zt_va T (zt_nx T p) = 0 then Sum.inl (2, zt_at T (zt_nx T p)) else Sum.inr (true, (zt_nx T (zt_nx T p), (zl_rel 6 W O).1, (2, zt_va T (zt_nx T p)) :: (zl_rel 6 W O).2, 2, iw, ic))) else Sum.inl (1, zt_at T (zt_nx T p))
def zl_when (T : zt_T) (p : Nat) (W : List Nat) (O : List (Nat × Nat)) (iw : Nat) (ic : Int32) : zl_Rs := if zt_cd 0 T p = 3 then Sum.inr (true, (zt_nx T p, (zl_rel 1 W O).1, (zl_rel 1 W O).2, 1, (zl_rel 1 W O).2.length + 1, ic)) else zl_endl T p W O 2 iw ic
def zl_cmp (T : zt_T) (p : Nat) (W : List Nat) (O : List (Nat × Nat)) (iw : Nat) : zl_Rs := if zt_cd 0 T p = 160 then zl_join T 6 0 p W O iw (nI 1) else if zt_cd 0 T p = 161 then zl_join T 7 0 p W O iw (nI 1) else if zt_cd 0 T p = 162 then zl_join T 8 0 p W O iw (nI 1) else Sum.inl (1, zt_at T p)
def zl_tail (T : zt_T) (p : Nat) (W : List Nat) (O : List (Nat × Nat)) (ex iw : Nat) (ic : Int32) : zl_Rs := if zt_cd 0 T p = 5 then zl_join T 10 1 p W O iw ic else if zt_cd 0 T p = 4 then zl_join T 11 1 p W O iw ic else if zl_cb W = 0 then zl_endl T p W O ex iw ic else zl_clos T p W O iw ic
def zl_sgn (T : zt_T) (p : Nat) (W : List Nat) (O : List (Nat × Nat)) (iw : Nat) (ic : Int32) : zl_Rs := if zt_cd 0 T p = 147 then zl_part T p W O iw ic else if zt_cd 0 T p = 142 then zl_join T 3 0 p W O iw ic else if zt_cd 0 T p = 143 then zl_join T 4 0 p W O iw ic else if zt_cd 0 T p = 145 then zl_join T 5 0 p W O iw ic else if iw = 0 then zl_when T p W O iw ic else if ic = nI 0 then zl_cmp T p W O iw else zl_tail T p W O 2 iw ic
def zl_stp (T : zt_T) : zl_S → zl_Rs
  | (p, W, O, ex, iw, ic) => if ex = 0 then zl_opd T p W O iw ic else if ex = 1 then (if zt_cd 0 T p = 6 then zl_opn T 9 p W O iw else if zt_cd 0 T p = 140 then zl_opn T 12 p W O iw else zl_opd T p W O iw (nI 0)) else if ex = 2 then zl_sgn T p W O iw ic else zl_tail T p W O ex iw ic
def zl_it (T : zt_T) : Nat → zl_S → Option zl_S
  | 0, a => some a
  | k + 1, a => match zl_stp T a with
    | Sum.inr (true, b) => zl_it T k b
    | _ => none
def zl_rch (T : zt_T) (a b : zl_S) : Prop := ∃ k, zl_it T k a = some b
theorem zl_rch.refl {T : zt_T} (a : zl_S) : zl_rch T a a := ⟨0, rfl⟩
theorem zl_it_s {T : zt_T} {a b : zl_S} {k : Nat} (h : zl_stp T a = Sum.inr (true, b)) : zl_it T (k+1) a = zl_it T k b := by
  show (match zl_stp T a with | Sum.inr (true, b) => zl_it T k b | _ => none) = _
  rw [h]
theorem zl_rch.cons {T : zt_T} {a b c : zl_S} (h : zl_stp T a = Sum.inr (true, b)) (g : zl_rch T b c) : zl_rch T a c := by
  obtain ⟨k, hk⟩ := g
  exact ⟨k + 1, (zl_it_s h).trans hk⟩
theorem zl_it_app {T : zt_T} {b c : zl_S} {j : Nat} (g : zl_it T j b = some c) : ∀ k a, zl_it T k a = some b → zl_it T (k + j) a = some c
  | 0, a, h => by
    have h : some a = some b := h
    cases h
    rw [Nat.zero_add]; exact g
  | k + 1, a, h => by
    cases hs : zl_stp T a with
    | inl x =>
      have h : (match zl_stp T a with | Sum.inr (true, b) => zl_it T k b | _ => none) = some b := h
      rw [hs] at h; cases h
    | inr x =>
      obtain ⟨u, v⟩ := x
      cases u with
      | false =>
        have h : (match zl_stp T a with | Sum.inr (true, b) => zl_it T k b | _ => none) = some b := h
        rw [hs] at h; cases h
      | true =>
        rw [zl_it_s hs] at h
        rw [show k + 1 + j = (k + j) + 1 by omega, zl_it_s hs]
        exact zl_it_app g k v h
theorem zl_rch.trans {T : zt_T} {a b c : zl_S} (h : zl_rch T a b) (g : zl_rch T b c) : zl_rch T a c := by
  obtain ⟨k, hk⟩ := h
  obtain ⟨j, hj⟩ := g
  exact ⟨k + j, zl_it_app hj k a hk⟩
def zl_flt (T : zt_T) (a : zl_S) (f q : Nat) : Prop := ∃ b, zl_rch T a b ∧ zl_stp T b = Sum.inl (f, q)
theorem zl_flt.of {T : zt_T} {a b : zl_S} {f q : Nat} (h : zl_rch T a b) (g : zl_flt T b f q) : zl_flt T a f q := by
  obtain ⟨c, h1, h2⟩ := g
  exact ⟨c, h.trans h1, h2⟩
theorem zl_flt.now {T : zt_T} {a b : zl_S} {f q : Nat} (h : zl_rch T a b) (g : zl_stp T b = Sum.inl (f, q)) : zl_flt T a f q := ⟨b, h, g⟩
/-- the kinds on the pile behind the steps (the latest first) -/
def zl_ty : List (Nat × Nat) → List Bool → Option (List Bool)
  | [], ts => some ts
  | x :: c, ts => match zl_ty c ts with
    | none => none
    | some us => z_ty1 (nI x.1) us
theorem zl_ty_c {x : Nat × Nat} {c : List (Nat × Nat)} {ts us : List Bool} (h : zl_ty c ts = some us) : zl_ty (x :: c) ts = z_ty1 (nI x.1) us := by
  show (match zl_ty c ts with | none => none | some us => z_ty1 (nI x.1) us) = _
  rw [h]
theorem zl_ty_app {b : List (Nat × Nat)} {ts us : List Bool} (h : zl_ty b ts = some us) : ∀ a : List (Nat × Nat), zl_ty (a ++ b) ts = zl_ty a us
  | [] => h
  | x :: a => by
    have ih := zl_ty_app h a
    show (match zl_ty (a ++ b) ts with | none => none | some us => z_ty1 (nI x.1) us) = (match zl_ty a us with | none => none | some us => z_ty1 (nI x.1) us)
    rw [ih]
theorem zl_t1n {ts : List Bool} {x : Nat} (h : x = 0 ∨ x = 1) : z_ty1 (nI x) ts = some (false :: ts) := by
  rcases h with rfl | rfl <;> rfl
theorem zl_t1p {ts : List Bool} : z_ty1 (nI 2) (false :: ts) = some (false :: ts) := rfl
theorem zl_t1a {ts : List Bool} {x : Nat} (h : x = 3 ∨ x = 4 ∨ x = 5) : z_ty1 (nI x) (false :: false :: ts) = some (false :: ts) := by
  rcases h with rfl | rfl | rfl <;> rfl
theorem zl_t1c {ts : List Bool} {x : Nat} (h : x = 6 ∨ x = 7 ∨ x = 8) : z_ty1 (nI x) (false :: false :: ts) = some (true :: ts) := by
  rcases h with rfl | rfl | rfl <;> rfl
theorem zl_t1o {ts : List Bool} : z_ty1 (nI 9) (true :: ts) = some (true :: ts) := rfl
theorem zl_t1b {ts : List Bool} {x : Nat} (h : x = 10 ∨ x = 11) : z_ty1 (nI x) (true :: true :: ts) = some (true :: ts) := by
  rcases h with rfl | rfl <;> rfl
/-- the steps c stand from p to q, over whatever waits that binds less than r -/
def zl_m (T : zt_T) (r p : Nat) (c : List (Nat × Nat)) (q : Nat) : Prop := (p < q ∧ q ≤ T.2 ∧ c.length + p ≤ q ∧ ∀ ts, zl_ty c ts = some (false :: ts)) ∧ ∀ W O ex iw ic, zl_hd r W → (ex = 0 ∨ (ex = 1 ∧ zt_cd 0 T p ≠ 6 ∧ zt_cd 0 T p ≠ 140)) → ∃ W' O', zl_rch T (p, W, O, ex, iw, ic) (q, W', O', 2, iw, (if ex = 0 then ic else nI 0)) ∧ zl_rel r W' O' = (W, c ++ O)
def zl_e (T : zt_T) (r p f q : Nat) : Prop := ∀ W O ex iw ic, zl_hd r W → (ex = 0 ∨ (ex = 1 ∧ zt_cd 0 T p ≠ 6 ∧ zt_cd 0 T p ≠ 140)) → zl_flt T (p, W, O, ex, iw, ic) f q
theorem zl_m.weak {T : zt_T} {r p q : Nat} {c : List (Nat × Nat)} (h : zl_m T (r+1) p c q) : zl_m T r p c q := by
  refine ⟨h.1, fun W O ex iw ic hW hex => ?_⟩
  obtain ⟨W', O', h1, h2⟩ := h.2 W O ex iw ic (zl_hd_mono (by omega) hW) hex
  refine ⟨W', O', h1, ?_⟩
  rw [zl_rel_of (show r ≤ r + 1 by omega) h2, zl_rel_hd hW]
theorem zl_e.weak {T : zt_T} {r p f q : Nat} (h : zl_e T (r+1) p f q) : zl_e T r p f q :=
  fun W O ex iw ic hW hex => h W O ex iw ic (zl_hd_mono (by omega) hW) hex
theorem zl_stp_u {T : zt_T} {p ex iw : Nat} {W : List Nat} {O : List (Nat × Nat)} {ic : Int32} (hex : ex = 0 ∨ (ex = 1 ∧ zt_cd 0 T p ≠ 6 ∧ zt_cd 0 T p ≠ 140)) : zl_stp T (p, W, O, ex, iw, ic) = zl_opd T p W O iw (if ex = 0 then ic else nI 0) := by
  show (if ex = 0 then _ else _) = _
  rcases hex with rfl | ⟨rfl, h1, h2⟩
  · rw [if_pos rfl]
    rfl
  · rw [if_neg (by omega), if_pos rfl, if_neg h1, if_neg h2]
    rfl
theorem zl_u_num {T : zt_T} {p : Nat} (hp : p ≤ T.2) (h : zt_cd 0 T p = 2) : zl_m T 7 p [(0, zt_va T p)] (zt_nx T p) := by
  obtain ⟨g1, g2⟩ := zt_go (k := 0) (by omega) hp (by omega)
  refine ⟨⟨g1, g2, by show 1 + p ≤ _; omega, fun ts => zl_t1n (Or.inl rfl)⟩, fun W O ex iw ic hW hex => ?_⟩
  refine ⟨W, (0, zt_va T p) :: O, zl_rch.cons ?_ (zl_rch.refl _), zl_rel_hd hW _⟩
  rw [zl_stp_u hex]
  unfold zl_opd
  rw [if_pos h]
theorem zl_u_fact {T : zt_T} {p : Nat} (hp : p ≤ T.2) (h : 41 ≤ zt_cd 0 T p ∧ zt_cd 0 T p ≤ 50) : zl_m T 7 p [(1, zt_cd 0 T p - 41)] (zt_nx T p) := by
  obtain ⟨g1, g2⟩ := zt_go (k := 0) (by omega) hp (by omega)
  refine ⟨⟨g1, g2, by show 1 + p ≤ _; omega, fun ts => zl_t1n (Or.inr rfl)⟩, fun W O ex iw ic hW hex => ?_⟩
  refine ⟨W, (1, zt_cd 0 T p - 41) :: O, zl_rch.cons ?_ (zl_rch.refl _), zl_rel_hd hW _⟩
  rw [zl_stp_u hex]
  unfold zl_opd
  rw [if_neg (by omega), if_pos h]
theorem zl_u_bad {T : zt_T} {p : Nat} (h1 : zt_cd 0 T p ≠ 2) (h2 : ¬ (41 ≤ zt_cd 0 T p ∧ zt_cd 0 T p ≤ 50)) : zl_e T 7 p 1 (zt_at T p) := by
  intro W O ex iw ic hW hex
  refine zl_flt.now (zl_rch.refl _) ?_
  rw [zl_stp_u hex]
  unfold zl_opd
  rw [if_neg h1, if_neg h2]
theorem zl_stp_s {T : zt_T} {p iw : Nat} {W : List Nat} {O : List (Nat × Nat)} {ic : Int32} : zl_stp T (p, W, O, 2, iw, ic) = zl_sgn T p W O iw ic := rfl
theorem zl_sgn_j {T : zt_T} {p iw x : Nat} {W : List Nat} {O : List (Nat × Nat)} {ic : Int32} (h : (x = 3 ∧ zt_cd 0 T p = 142) ∨ (x = 4 ∧ zt_cd 0 T p = 143) ∨ (x = 5 ∧ zt_cd 0 T p = 145)) : zl_sgn T p W O iw ic = zl_join T x 0 p W O iw ic := by
  unfold zl_sgn
  rcases h with ⟨rfl, h⟩ | ⟨rfl, h⟩ | ⟨rfl, h⟩
  · rw [if_neg (by omega), if_pos h]
  · rw [if_neg (by omega), if_neg (by omega), if_pos h]
  · rw [if_neg (by omega), if_neg (by omega), if_neg (by omega), if_pos h]
theorem zl_m_join {T : zt_T} {r p q q2 x : Nat} {c u : List (Nat × Nat)} (h : zl_m T r p c q) (hx : (x = 3 ∧ zt_cd 0 T q = 142) ∨ (x = 4 ∧ zt_cd 0 T q = 143) ∨ (x = 5 ∧ zt_cd 0 T q = 145)) (hr : zl_rk x = r) (g : zl_m T (r+1) (zt_nx T q) u q2) : zl_m T r p ((x, 0) :: (u ++ c)) q2 := by
  obtain ⟨⟨h1, h2, h3, h4⟩, hh⟩ := h
  obtain ⟨⟨g1, g2, g3, g4⟩, gg⟩ := g
  obtain ⟨n1, n2⟩ := zt_go (k := 0) (T := T) (by omega) h2 (by omega)
  refine ⟨⟨by omega, g2, ?_, fun ts => ?_⟩, fun W O ex iw ic hW hex => ?_⟩
  · simp only [List.length_cons, List.length_append]; omega
  · rw [zl_ty_c (us := false :: false :: ts)]
    · exact zl_t1a (by omega)
    · rw [zl_ty_app (h4 ts)]; exact g4 _
  · obtain ⟨W', O', k1, k2⟩ := hh W O ex iw ic hW hex
    have hs : zl_stp T (q, W', O', 2, iw, (if ex = 0 then ic else nI 0)) = Sum.inr (true, (zt_nx T q, x :: W, c ++ O, 0, iw, (if ex = 0 then ic else nI 0))) := by
      rw [zl_stp_s, zl_sgn_j hx]
      unfold zl_join
      rw [hr, k2]
    obtain ⟨W2, O2, m1, m2⟩ := gg (x :: W) (c ++ O) 0 iw (if ex = 0 then ic else nI 0) (by show zl_rk x < r + 1; omega) (Or.inl rfl)
    rw [if_pos (rfl : 0 = 0)] at m1
    refine ⟨W2, O2, k1.trans (zl_rch.cons hs m1), ?_⟩
    rw [zl_rel_of (show r ≤ r + 1 by omega) m2]
    show (if r ≤ zl_rk x then zl_rel r W ((x, 0) :: (u ++ (c ++ O))) else _) = _
    rw [if_pos (by omega), zl_rel_hd hW, ← List.append_assoc]
    rfl
theorem zl_m_joinE {T : zt_T} {r p q f q2 x : Nat} {c : List (Nat × Nat)} (h : zl_m T r p c q) (hx : (x = 3 ∧ zt_cd 0 T q = 142) ∨ (x = 4 ∧ zt_cd 0 T q = 143) ∨ (x = 5 ∧ zt_cd 0 T q = 145)) (hr : zl_rk x = r) (g : zl_e T (r+1) (zt_nx T q) f q2) : zl_e T r p f q2 := by
  intro W O ex iw ic hW hex
  obtain ⟨W', O', k1, k2⟩ := h.2 W O ex iw ic hW hex
  have hs : zl_stp T (q, W', O', 2, iw, (if ex = 0 then ic else nI 0)) = Sum.inr (true, (zt_nx T q, x :: W, c ++ O, 0, iw, (if ex = 0 then ic else nI 0))) := by
    rw [zl_stp_s, zl_sgn_j hx]
    unfold zl_join
    rw [hr, k2]
  exact zl_flt.of (k1.trans (zl_rch.cons hs (zl_rch.refl _))) (g (x :: W) (c ++ O) 0 iw _ (by show zl_rk x < r + 1; omega) (Or.inl rfl))
theorem zl_m_part {T : zt_T} {p q : Nat} {c : List (Nat × Nat)} (h : zl_m T 6 p c q) (hq : zt_cd 0 T q = 147) (h2 : zt_cd 0 T (zt_nx T q) = 2) (hv : zt_va T (zt_nx T q) ≠ 0) : zl_m T 6 p ((2, zt_va T (zt_nx T q)) :: c) (zt_nx T (zt_nx T q)) := by
  obtain ⟨⟨h1, h2', h3, h4⟩, hh⟩ := h
  obtain ⟨n1, n2⟩ := zt_go (k := 0) (T := T) (by omega) h2' (by omega)
  obtain ⟨n3, n4⟩ := zt_go (k := 0) (T := T) (by omega) n2 (by omega)
  refine ⟨⟨by omega, n4, ?_, fun ts => ?_⟩, fun W O ex iw ic hW hex => ?_⟩
  · simp only [List.length_cons]; omega
  · rw [zl_ty_c (h4 ts)]; exact zl_t1p
  · obtain ⟨W', O', k1, k2⟩ := hh W O ex iw ic hW hex
    refine ⟨W, (2, zt_va T (zt_nx T q)) :: (c ++ O), k1.trans (zl_rch.cons ?_ (zl_rch.refl _)), zl_rel_hd hW _⟩
    rw [zl_stp_s]
    unfold zl_sgn zl_part
    rw [if_pos hq, if_pos h2, if_neg hv, k2]
theorem zl_m_partE1 {T : zt_T} {p q : Nat} {c : List (Nat × Nat)} (h : zl_m T 6 p c q) (hq : zt_cd 0 T q = 147) (h2 : zt_cd 0 T (zt_nx T q) ≠ 2) : zl_e T 6 p 1 (zt_at T (zt_nx T q)) := by
  intro W O ex iw ic hW hex
  obtain ⟨W', O', k1, k2⟩ := h.2 W O ex iw ic hW hex
  refine zl_flt.now k1 ?_
  rw [zl_stp_s]
  unfold zl_sgn zl_part
  rw [if_pos hq, if_neg h2]
theorem zl_m_partE2 {T : zt_T} {p q : Nat} {c : List (Nat × Nat)} (h : zl_m T 6 p c q) (hq : zt_cd 0 T q = 147) (h2 : zt_cd 0 T (zt_nx T q) = 2) (hv : zt_va T (zt_nx T q) = 0) : zl_e T 6 p 2 (zt_at T (zt_nx T q)) := by
  intro W O ex iw ic hW hex
  obtain ⟨W', O', k1, k2⟩ := h.2 W O ex iw ic hW hex
  refine zl_flt.now k1 ?_
  rw [zl_stp_s]
  unfold zl_sgn zl_part
  rw [if_pos hq, if_pos h2, if_pos hv]
/-! conditions -/
def zl_ar (x : Nat) : Prop := x = 142 ∨ x = 143 ∨ x = 145 ∨ x = 147
def zl_ex (T : zt_T) (q ex : Nat) (ic : Int32) : Prop := (ex = 2 ∧ ic = nI 1 ∧ ¬ zl_ar (zt_cd 0 T q)) ∨ ex = 3
/-- one test -/
def zl_te (T : zt_T) (p : Nat) (c : List (Nat × Nat)) (q d : Nat) : Prop := (p < q ∧ q ≤ T.2 ∧ c.length + p ≤ q ∧ ∀ ts, zl_ty c ts = some (true :: ts)) ∧ ∀ W O iw ic, zl_hd 4 W → zl_cn W = d → iw ≠ 0 → ∃ W' O' ex' ic', zl_rch T (p, W, O, 1, iw, ic) (q, W', O', ex', iw, ic') ∧ zl_rel 3 W' O' = zl_rel 3 W (c ++ O) ∧ zl_ex T q ex' ic'
/-- tests with and (2), with or (1) -/
def zl_t (T : zt_T) (r p : Nat) (c : List (Nat × Nat)) (q d : Nat) : Prop := (p < q ∧ q ≤ T.2 ∧ c.length + p ≤ q ∧ ∀ ts, zl_ty c ts = some (true :: ts)) ∧ ∀ W O iw ic, zl_hd r W → zl_cn W = d → iw ≠ 0 → ∃ W' O' ex' ic', zl_rch T (p, W, O, 1, iw, ic) (q, W', O', ex', iw, ic') ∧ zl_rel r W' O' = (W, c ++ O) ∧ zl_ex T q ex' ic'
def zl_f (T : zt_T) (r p f q d : Nat) : Prop := ∀ W O iw ic, zl_hd r W → zl_cn W = d → iw ≠ 0 → zl_flt T (p, W, O, 1, iw, ic) f q
theorem zl_f.weak {T : zt_T} {a b p f q d : Nat} (h : zl_f T b p f q d) (hab : a ≤ b) : zl_f T a p f q d :=
  fun W O iw ic hW hd hi => h W O iw ic (zl_hd_mono hab hW) hd hi
theorem zl_sgn_c {T : zt_T} {p iw x : Nat} {W : List Nat} {O : List (Nat × Nat)} (hi : iw ≠ 0) (h : (x = 6 ∧ zt_cd 0 T p = 160) ∨ (x = 7 ∧ zt_cd 0 T p = 161) ∨ (x = 8 ∧ zt_cd 0 T p = 162)) : zl_sgn T p W O iw (nI 0) = zl_join T x 0 p W O iw (nI 1) := by
  unfold zl_sgn
  rw [if_neg (by omega), if_neg (by omega), if_neg (by omega), if_neg (by omega), if_neg hi, if_pos rfl]
  unfold zl_cmp
  rcases h with ⟨rfl, h⟩ | ⟨rfl, h⟩ | ⟨rfl, h⟩
  · rw [if_pos h]
  · rw [if_neg (by omega), if_pos h]
  · rw [if_neg (by omega), if_neg (by omega), if_pos h]
theorem zl_te_cmp {T : zt_T} {p q q2 x d : Nat} {c u : List (Nat × Nat)} (h0 : zt_cd 0 T p ≠ 6 ∧ zt_cd 0 T p ≠ 140) (h : zl_m T 5 p c q) (hx : (x = 6 ∧ zt_cd 0 T q = 160) ∨ (x = 7 ∧ zt_cd 0 T q = 161) ∨ (x = 8 ∧ zt_cd 0 T q = 162)) (g : zl_m T 5 (zt_nx T q) u q2) (hq : ¬ zl_ar (zt_cd 0 T q2)) : zl_te T p ((x, 0) :: (u ++ c)) q2 d := by
  obtain ⟨⟨h1, h2, h3, h4⟩, hh⟩ := h
  obtain ⟨⟨g1, g2, g3, g4⟩, gg⟩ := g
  obtain ⟨n1, n2⟩ := zt_go (k := 0) (T := T) (by omega) h2 (by omega)
  have hr : zl_rk x = 4 := by rcases hx with ⟨rfl, -⟩ | ⟨rfl, -⟩ | ⟨rfl, -⟩ <;> rfl
  refine ⟨⟨by omega, g2, ?_, fun ts => ?_⟩, fun W O iw ic hW hd hi => ?_⟩
  · simp only [List.length_cons, List.length_append]; omega
  · rw [zl_ty_c (us := false :: false :: ts)]
    · exact zl_t1c (by omega)
    · rw [zl_ty_app (h4 ts)]; exact g4 _
  · obtain ⟨W', O', k1, k2⟩ := hh W O 1 iw ic (zl_hd_mono (by omega) hW) (Or.inr ⟨rfl, h0⟩)
    rw [if_neg (show ¬ 1 = 0 by omega)] at k1
    have k3 := zl_rel_of (show 4 ≤ 5 by omega) k2
    rw [zl_rel_hd hW] at k3
    have hs : zl_stp T (q, W', O', 2, iw, nI 0) = Sum.inr (true, (zt_nx T q, x :: W, c ++ O, 0, iw, nI 1)) := by
      rw [zl_stp_s, zl_sgn_c hi hx]
      unfold zl_join
      rw [hr, k3]
    obtain ⟨W2, O2, m1, m2⟩ := gg (x :: W) (c ++ O) 0 iw (nI 1) (by show zl_rk x < 5; omega) (Or.inl rfl)
    rw [if_pos (rfl : 0 = 0)] at m1
    refine ⟨W2, O2, 2, nI 1, k1.trans (zl_rch.cons hs m1), ?_, Or.inl ⟨rfl, rfl, hq⟩⟩
    rw [zl_rel_of (show 3 ≤ 5 by omega) m2]
    show (if 3 ≤ zl_rk x then zl_rel 3 W ((x, 0) :: (u ++ (c ++ O))) else _) = _
    rw [if_pos (by omega), ← List.append_assoc]
    rfl
theorem zl_te_E1 {T : zt_T} {p f q d : Nat} (h0 : zt_cd 0 T p ≠ 6 ∧ zt_cd 0 T p ≠ 140) (h : zl_e T 5 p f q) : zl_f T 4 p f q d :=
  fun W O iw ic hW _ _ => h W O 1 iw ic (zl_hd_mono (by omega) hW) (Or.inr ⟨rfl, h0⟩)
theorem zl_te_E2 {T : zt_T} {p q d : Nat} {c : List (Nat × Nat)} (h0 : zt_cd 0 T p ≠ 6 ∧ zt_cd 0 T p ≠ 140) (h : zl_m T 5 p c q) (ha : ¬ zl_ar (zt_cd 0 T q)) (hq : zt_cd 0 T q ≠ 160 ∧ zt_cd 0 T q ≠ 161 ∧ zt_cd 0 T q ≠ 162) : zl_f T 4 p 1 (zt_at T q) d := by
  intro W O iw ic hW hd hi
  obtain ⟨W', O', k1, k2⟩ := h.2 W O 1 iw ic (zl_hd_mono (by omega) hW) (Or.inr ⟨rfl, h0⟩)
  rw [if_neg (show ¬ 1 = 0 by omega)] at k1
  refine zl_flt.now k1 ?_
  unfold zl_ar at ha
  rw [zl_stp_s]
  unfold zl_sgn
  rw [if_neg (by omega), if_neg (by omega), if_neg (by omega), if_neg (by omega), if_neg hi, if_pos rfl]
  unfold zl_cmp
  rw [if_neg hq.1, if_neg hq.2.1, if_neg hq.2.2]
theorem zl_te_E3 {T : zt_T} {p q f q2 x d : Nat} {c : List (Nat × Nat)} (h0 : zt_cd 0 T p ≠ 6 ∧ zt_cd 0 T p ≠ 140) (h : zl_m T 5 p c q) (hx : (x = 6 ∧ zt_cd 0 T q = 160) ∨ (x = 7 ∧ zt_cd 0 T q = 161) ∨ (x = 8 ∧ zt_cd 0 T q = 162)) (g : zl_e T 5 (zt_nx T q) f q2) : zl_f T 4 p f q2 d := by
  have hr : zl_rk x = 4 := by rcases hx with ⟨rfl, -⟩ | ⟨rfl, -⟩ | ⟨rfl, -⟩ <;> rfl
  intro W O iw ic hW hd hi
  obtain ⟨W', O', k1, k2⟩ := h.2 W O 1 iw ic (zl_hd_mono (by omega) hW) (Or.inr ⟨rfl, h0⟩)
  rw [if_neg (show ¬ 1 = 0 by omega)] at k1
  have k3 := zl_rel_of (show 4 ≤ 5 by omega) k2
  rw [zl_rel_hd hW] at k3
  have hs : zl_stp T (q, W', O', 2, iw, nI 0) = Sum.inr (true, (zt_nx T q, x :: W, c ++ O, 0, iw, nI 1)) := by
    rw [zl_stp_s, zl_sgn_c hi hx]
    unfold zl_join
    rw [hr, k3]
  exact zl_flt.of (k1.trans (zl_rch.cons hs (zl_rch.refl _))) (g (x :: W) (c ++ O) 0 iw (nI 1) (by show zl_rk x < 5; omega) (Or.inl rfl))
theorem zl_stp_o {T : zt_T} {p iw x : Nat} {W : List Nat} {O : List (Nat × Nat)} {ic : Int32} (hx : (x = 9 ∧ zt_cd 0 T p = 6) ∨ (x = 12 ∧ zt_cd 0 T p = 140)) : zl_stp T (p, W, O, 1, iw, ic) = zl_opn T x p W O iw := by
  show (if zt_cd 0 T p = 6 then zl_opn T 9 p W O iw else if zt_cd 0 T p = 140 then zl_opn T 12 p W O iw else zl_opd T p W O iw (nI 0)) = _
  rcases hx with ⟨rfl, h⟩ | ⟨rfl, h⟩
  · rw [if_pos h]
  · rw [if_neg (by omega), if_pos h]
theorem zl_te_full {T : zt_T} {p x d : Nat} (hx : (x = 9 ∧ zt_cd 0 T p = 6) ∨ (x = 12 ∧ zt_cd 0 T p = 140)) (hd : ¬ d < 8) : zl_f T 4 p 3 (zt_at T p) d := by
  intro W O iw ic hW hcn hi
  refine zl_flt.now (zl_rch.refl _) ?_
  rw [zl_stp_o hx]
  unfold zl_opn
  rw [if_neg (by omega)]
theorem zl_te_not {T : zt_T} {p q d : Nat} {c : List (Nat × Nat)} (hp : p ≤ T.2) (h6 : zt_cd 0 T p = 6) (hd : d < 8) (h : zl_te T (zt_nx T p) c q (d+1)) : zl_te T p ((9, 0) :: c) q d := by
  obtain ⟨⟨h1, h2, h3, h4⟩, hh⟩ := h
  obtain ⟨n1, n2⟩ := zt_go (k := 0) (T := T) (by omega) hp (by omega)
  refine ⟨⟨by omega, h2, ?_, fun ts => ?_⟩, fun W O iw ic hW hcn hi => ?_⟩
  · simp only [List.length_cons]; omega
  · rw [zl_ty_c (h4 ts)]; exact zl_t1o
  · have hs : zl_stp T (p, W, O, 1, iw, ic) = Sum.inr (true, (zt_nx T p, 9 :: W, O, 1, iw, nI 0)) := by
      rw [zl_stp_o (Or.inl ⟨rfl, h6⟩)]
      unfold zl_opn
      rw [if_pos (by omega)]
    obtain ⟨W', O', ex', ic', k1, k2, k3⟩ := hh (9 :: W) O iw (nI 0) (by show zl_rk 9 < 4; decide) (by show zl_cn W + 1 = d + 1; omega) hi
    refine ⟨W', O', ex', ic', zl_rch.cons hs k1, ?_, k3⟩
    rw [k2]
    rfl
theorem zl_te_notE {T : zt_T} {p f q d : Nat} (h6 : zt_cd 0 T p = 6) (hd : d < 8) (h : zl_f T 4 (zt_nx T p) f q (d+1)) : zl_f T 4 p f q d := by
  intro W O iw ic hW hcn hi
  have hs : zl_stp T (p, W, O, 1, iw, ic) = Sum.inr (true, (zt_nx T p, 9 :: W, O, 1, iw, nI 0)) := by
    rw [zl_stp_o (Or.inl ⟨rfl, h6⟩)]
    unfold zl_opn
    rw [if_pos (by omega)]
  exact zl_flt.of (zl_rch.cons hs (zl_rch.refl _)) (h (9 :: W) O iw (nI 0) (by show zl_rk 9 < 4; decide) (by show zl_cn W + 1 = d + 1; omega) hi)
/-- behind a test: and, or, ) and the rest -/
theorem zl_stp_t {T : zt_T} {p ex iw : Nat} {W : List Nat} {O : List (Nat × Nat)} {ic : Int32} (hi : iw ≠ 0) (h : (ex = 2 ∧ ic = nI 1 ∧ ¬ zl_ar (zt_cd 0 T p)) ∨ ex = 3) : zl_stp T (p, W, O, ex, iw, ic) = zl_tail T p W O ex iw ic := by
  rcases h with ⟨rfl, rfl, h⟩ | rfl
  · unfold zl_ar at h
    rw [zl_stp_s]
    unfold zl_sgn
    rw [if_neg (by omega), if_neg (by omega), if_neg (by omega), if_neg (by omega), if_neg hi, if_neg (by decide)]
  · rfl
theorem zl_te_par {T : zt_T} {p q d : Nat} {c : List (Nat × Nat)} (hp : p ≤ T.2) (h6 : zt_cd 0 T p = 140) (hd : d < 8) (h : zl_t T 1 (zt_nx T p) c q (d+1)) (hq : zt_cd 0 T q = 141) : zl_te T p c (zt_nx T q) d := by
  obtain ⟨⟨h1, h2, h3, h4⟩, hh⟩ := h
  obtain ⟨n1, n2⟩ := zt_go (k := 0) (T := T) (by omega) hp (by omega)
  obtain ⟨n3, n4⟩ := zt_go (k := 0) (T := T) (by omega) h2 (by omega)
  refine ⟨⟨by omega, n4, by omega, h4⟩, fun W O iw ic hW hcn hi => ?_⟩
  have hs : zl_stp T (p, W, O, 1, iw, ic) = Sum.inr (true, (zt_nx T p, 12 :: W, O, 1, iw, nI 0)) := by
    rw [zl_stp_o (Or.inr ⟨rfl, h6⟩)]
    unfold zl_opn
    rw [if_pos (by omega)]
  obtain ⟨W', O', ex', ic', k1, k2, k3⟩ := hh (12 :: W) O iw (nI 0) (by show zl_rk 12 < 1; decide) (by show zl_cn W + 1 = d + 1; omega) hi
  have hcb : zl_cb W' = zl_cb W + 1 := by
    have := zl_rel_cb (r := 1) (Nat.le_refl _) W' O'
    rw [k2] at this
    exact this.symm
  have hs2 : zl_stp T (q, W', O', ex', iw, ic') = Sum.inr (true, (zt_nx T q, W, c ++ O, 3, iw, ic')) := by
    rw [zl_stp_t hi k3]
    unfold zl_tail zl_clos
    rw [if_neg (by omega), if_neg (by omega), if_neg (by omega), if_pos hq, k2]
    rfl
  exact ⟨W, c ++ O, 3, ic', zl_rch.cons hs (k1.trans (zl_rch.cons hs2 (zl_rch.refl _))), rfl, Or.inr rfl⟩
theorem zl_te_parE {T : zt_T} {p f q d : Nat} (h6 : zt_cd 0 T p = 140) (hd : d < 8) (h : zl_f T 1 (zt_nx T p) f q (d+1)) : zl_f T 4 p f q d := by
  intro W O iw ic hW hcn hi
  have hs : zl_stp T (p, W, O, 1, iw, ic) = Sum.inr (true, (zt_nx T p, 12 :: W, O, 1, iw, nI 0)) := by
    rw [zl_stp_o (Or.inr ⟨rfl, h6⟩)]
    unfold zl_opn
    rw [if_pos (by omega)]
  exact zl_flt.of (zl_rch.cons hs (zl_rch.refl _)) (h (12 :: W) O iw (nI 0) (by show zl_rk 12 < 1; decide) (by show zl_cn W + 1 = d + 1; omega) hi)
theorem zl_te_parE2 {T : zt_T} {p q d : Nat} {c : List (Nat × Nat)} (h6 : zt_cd 0 T p = 140) (hd : d < 8) (h : zl_t T 1 (zt_nx T p) c q (d+1)) (hq : zt_cd 0 T q ≠ 141 ∧ zt_cd 0 T q ≠ 4 ∧ zt_cd 0 T q ≠ 5) : zl_f T 4 p 1 (zt_at T q) d := by
  intro W O iw ic hW hcn hi
  have hs : zl_stp T (p, W, O, 1, iw, ic) = Sum.inr (true, (zt_nx T p, 12 :: W, O, 1, iw, nI 0)) := by
    rw [zl_stp_o (Or.inr ⟨rfl, h6⟩)]
    unfold zl_opn
    rw [if_pos (by omega)]
  obtain ⟨W', O', ex', ic', k1, k2, k3⟩ := h.2 (12 :: W) O iw (nI 0) (by show zl_rk 12 < 1; decide) (by show zl_cn W + 1 = d + 1; omega) hi
  have hcb : zl_cb W' = zl_cb W + 1 := by
    have := zl_rel_cb (r := 1) (Nat.le_refl _) W' O'
    rw [k2] at this
    exact this.symm
  refine zl_flt.now (zl_rch.cons hs k1) ?_
  rw [zl_stp_t hi k3]
  unfold zl_tail zl_clos
  rw [if_neg hq.2.2, if_neg hq.2.1, if_neg (by omega), if_neg hq.1]
theorem zl_t2_of {T : zt_T} {p q d : Nat} {c : List (Nat × Nat)} (h : zl_te T p c q d) : zl_t T 2 p c q d := by
  refine ⟨h.1, fun W O iw ic hW hcn hi => ?_⟩
  obtain ⟨W', O', ex', ic', k1, k2, k3⟩ := h.2 W O iw ic (zl_hd_mono (by omega) hW) hcn hi
  refine ⟨W', O', ex', ic', k1, ?_, k3⟩
  have h3 := zl_rel_hd (zl_hd_mono (show 2 ≤ 3 by omega) hW) (c ++ O)
  rw [h3] at k2
  rw [zl_rel_of (show 2 ≤ 3 by omega) k2, zl_rel_hd hW]
theorem zl_t1_of {T : zt_T} {p q d : Nat} {c : List (Nat × Nat)} (h : zl_t T 2 p c q d) : zl_t T 1 p c q d := by
  refine ⟨h.1, fun W O iw ic hW hcn hi => ?_⟩
  obtain ⟨W', O', ex', ic', k1, k2, k3⟩ := h.2 W O iw ic (zl_hd_mono (by omega) hW) hcn hi
  refine ⟨W', O', ex', ic', k1, ?_, k3⟩
  rw [zl_rel_of (show 1 ≤ 2 by omega) k2, zl_rel_hd hW]
theorem zl_tl_j {T : zt_T} {p ex iw x : Nat} {W : List Nat} {O : List (Nat × Nat)} {ic : Int32} (hx : (x = 10 ∧ zt_cd 0 T p = 5) ∨ (x = 11 ∧ zt_cd 0 T p = 4)) : zl_tail T p W O ex iw ic = zl_join T x 1 p W O iw ic := by
  unfold zl_tail
  rcases hx with ⟨rfl, h⟩ | ⟨rfl, h⟩
  · rw [if_pos h]
  · rw [if_neg (by omega), if_pos h]
theorem zl_t_and {T : zt_T} {p q q2 d : Nat} {c u : List (Nat × Nat)} (h : zl_t T 2 p c q d) (hq : zt_cd 0 T q = 5) (g : zl_te T (zt_nx T q) u q2 d) : zl_t T 2 p ((10, 0) :: (u ++ c)) q2 d := by
  obtain ⟨⟨h1, h2, h3, h4⟩, hh⟩ := h
  obtain ⟨⟨g1, g2, g3, g4⟩, gg⟩ := g
  obtain ⟨n1, n2⟩ := zt_go (k := 0) (T := T) (by omega) h2 (by omega)
  refine ⟨⟨by omega, g2, ?_, fun ts => ?_⟩, fun W O iw ic hW hcn hi => ?_⟩
  · simp only [List.length_cons, List.length_append]; omega
  · rw [zl_ty_c (us := true :: true :: ts)]
    · exact zl_t1b (by omega)
    · rw [zl_ty_app (h4 ts)]; exact g4 _
  · obtain ⟨W', O', ex', ic', k1, k2, k3⟩ := hh W O iw ic hW hcn hi
    have hs : zl_stp T (q, W', O', ex', iw, ic') = Sum.inr (true, (zt_nx T q, 10 :: W, c ++ O, 1, iw, ic')) := by
      rw [zl_stp_t hi k3, zl_tl_j (Or.inl ⟨rfl, hq⟩)]
      unfold zl_join
      rw [show zl_rk 10 = 2 from rfl, k2]
    obtain ⟨W2, O2, ex2, ic2, m1, m2, m3⟩ := gg (10 :: W) (c ++ O) iw ic' (by show zl_rk 10 < 4; decide) (by show zl_cn W + 0 = d; omega) hi
    refine ⟨W2, O2, ex2, ic2, k1.trans (zl_rch.cons hs m1), ?_, m3⟩
    have e3 : zl_rel 3 (10 :: W) (u ++ (c ++ O)) = (10 :: W, u ++ (c ++ O)) := rfl
    rw [e3] at m2
    rw [zl_rel_of (show 2 ≤ 3 by omega) m2]
    show zl_rel 2 W ((10, 0) :: (u ++ (c ++ O))) = _
    rw [zl_rel_hd hW, ← List.append_assoc]
    rfl
theorem zl_t_andE {T : zt_T} {p q f q2 d : Nat} {c : List (Nat × Nat)} (h : zl_t T 2 p c q d) (hq : zt_cd 0 T q = 5) (g : zl_f T 4 (zt_nx T q) f q2 d) : zl_f T 2 p f q2 d := by
  intro W O iw ic hW hcn hi
  obtain ⟨W', O', ex', ic', k1, k2, k3⟩ := h.2 W O iw ic hW hcn hi
  have hs : zl_stp T (q, W', O', ex', iw, ic') = Sum.inr (true, (zt_nx T q, 10 :: W, c ++ O, 1, iw, ic')) := by
    rw [zl_stp_t hi k3, zl_tl_j (Or.inl ⟨rfl, hq⟩)]
    unfold zl_join
    rw [show zl_rk 10 = 2 from rfl, k2]
  exact zl_flt.of (k1.trans (zl_rch.cons hs (zl_rch.refl _))) (g (10 :: W) (c ++ O) iw ic' (by show zl_rk 10 < 4; decide) (by show zl_cn W + 0 = d; omega) hi)
theorem zl_t_or {T : zt_T} {p q q2 d : Nat} {c u : List (Nat × Nat)} (h : zl_t T 1 p c q d) (hq : zt_cd 0 T q = 4) (g : zl_t T 2 (zt_nx T q) u q2 d) : zl_t T 1 p ((11, 0) :: (u ++ c)) q2 d := by
  obtain ⟨⟨h1, h2, h3, h4⟩, hh⟩ := h
  obtain ⟨⟨g1, g2, g3, g4⟩, gg⟩ := g
  obtain ⟨n1, n2⟩ := zt_go (k := 0) (T := T) (by omega) h2 (by omega)
  refine ⟨⟨by omega, g2, ?_, fun ts => ?_⟩, fun W O iw ic hW hcn hi => ?_⟩
  · simp only [List.length_cons, List.length_append]; omega
  · rw [zl_ty_c (us := true :: true :: ts)]
    · exact zl_t1b (by omega)
    · rw [zl_ty_app (h4 ts)]; exact g4 _
  · obtain ⟨W', O', ex', ic', k1, k2, k3⟩ := hh W O iw ic hW hcn hi
    have hs : zl_stp T (q, W', O', ex', iw, ic') = Sum.inr (true, (zt_nx T q, 11 :: W, c ++ O, 1, iw, ic')) := by
      rw [zl_stp_t hi k3, zl_tl_j (Or.inr ⟨rfl, hq⟩)]
      unfold zl_join
      rw [show zl_rk 11 = 1 from rfl, k2]
    obtain ⟨W2, O2, ex2, ic2, m1, m2, m3⟩ := gg (11 :: W) (c ++ O) iw ic' (by show zl_rk 11 < 2; decide) (by show zl_cn W + 0 = d; omega) hi
    refine ⟨W2, O2, ex2, ic2, k1.trans (zl_rch.cons hs m1), ?_, m3⟩
    rw [zl_rel_of (show 1 ≤ 2 by omega) m2]
    show zl_rel 1 W ((11, 0) :: (u ++ (c ++ O))) = _
    rw [zl_rel_hd hW, ← List.append_assoc]
    rfl
theorem zl_t_orE {T : zt_T} {p q f q2 d : Nat} {c : List (Nat × Nat)} (h : zl_t T 1 p c q d) (hq : zt_cd 0 T q = 4) (g : zl_f T 2 (zt_nx T q) f q2 d) : zl_f T 1 p f q2 d := by
  intro W O iw ic hW hcn hi
  obtain ⟨W', O', ex', ic', k1, k2, k3⟩ := h.2 W O iw ic hW hcn hi
  have hs : zl_stp T (q, W', O', ex', iw, ic') = Sum.inr (true, (zt_nx T q, 11 :: W, c ++ O, 1, iw, ic')) := by
    rw [zl_stp_t hi k3, zl_tl_j (Or.inr ⟨rfl, hq⟩)]
    unfold zl_join
    rw [show zl_rk 11 = 1 from rfl, k2]
  exact zl_flt.of (k1.trans (zl_rch.cons hs (zl_rch.refl _))) (g (11 :: W) (c ++ O) iw ic' (by show zl_rk 11 < 2; decide) (by show zl_cn W + 0 = d; omega) hi)
