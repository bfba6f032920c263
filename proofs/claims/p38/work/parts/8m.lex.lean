/-! tokens of a text that is told as a row of bytes -/
def y_sf (T : zt_T) (p : Nat) (l : List Nat) : Prop := p + l.length = T.2 ∧ ∀ i, i < l.length → T.1 (p+i) = l.getD i 0
theorem y_sf.tl {T : zt_T} {p c : Nat} {r : List Nat} (h : y_sf T p (c :: r)) : T.1 p = c ∧ p < T.2 ∧ y_sf T (p+1) r := by
  obtain ⟨h1, h2⟩ := h
  have h1' : p + (r.length + 1) = T.2 := h1
  refine ⟨?_, by omega, by omega, fun i hi => ?_⟩
  · have := h2 0 (Nat.succ_pos _)
    exact this
  · have := h2 (i+1) (Nat.succ_lt_succ hi)
    rw [show p + 1 + i = p + (i + 1) by omega]
    exact this
theorem y_sf.app {T : zt_T} : ∀ (a b : List Nat) (p : Nat), y_sf T p (a ++ b) → y_sf T (p + a.length) b
  | [], b, p, h => h
  | c :: r, b, p, h => by
    have := y_sf.app r b (p+1) (y_sf.tl h).2.2
    rw [show p + (c :: r).length = p + 1 + r.length by simp; omega]
    exact this
theorem y_tw (P : Nat → Bool) : ∀ l : List Nat, l.takeWhile P ++ l.dropWhile P = l := fun l => List.takeWhile_append_dropWhile
theorem y_sf.dw {T : zt_T} {p : Nat} {l : List Nat} (P : Nat → Bool) (h : y_sf T p l) : y_sf T (p + (l.takeWhile P).length) (l.dropWhile P) := by
  have h' : y_sf T p (l.takeWhile P ++ l.dropWhile P) := by rw [y_tw]; exact h
  exact y_sf.app _ _ _ h'
theorem y_scL {T : zt_T} {P : Nat → Bool} : ∀ (l : List Nat) (p : Nat), y_sf T p l → zt_sc P T.1 (T.2 - p) p = p + (l.takeWhile P).length
  | [], p, h => by
    have : p + 0 = T.2 := h.1
    rw [show T.2 - p = 0 by omega]
    rfl
  | c :: r, p, h => by
    obtain ⟨h1, h2, h3⟩ := h.tl
    obtain ⟨j, hj⟩ : ∃ j, T.2 - p = j + 1 := ⟨T.2 - p - 1, by omega⟩
    rw [hj]
    have e : zt_sc P T.1 (j+1) p = if P (T.1 p) = true then zt_sc P T.1 j (p+1) else p := rfl
    rw [e, h1]
    by_cases q : P c = true
    · rw [if_pos q, show j = T.2 - (p+1) by omega, y_scL r (p+1) h3, List.takeWhile_cons_of_pos q, List.length_cons]
      omega
    · rw [if_neg q, List.takeWhile_cons_of_neg q]
      rfl
def y_d1 (k : Nat) : List Nat → Nat
  | [] => 0
  | c :: r => if zt_il c = true then zt_lk (zt_tb k) ((c :: r).takeWhile zt_il) else if zt_id c = true then (if ((c :: r).takeWhile zt_id).length < 5 then 2 else 1) else (if zt_sg c = true then 100 + c else 1)
theorem y_d1c {k c : Nat} {r : List Nat} : y_d1 k (c :: r) = if zt_il c = true then zt_lk (zt_tb k) ((c :: r).takeWhile zt_il) else if zt_id c = true then (if ((c :: r).takeWhile zt_id).length < 5 then 2 else 1) else (if zt_sg c = true then 100 + c else 1) := rfl
def y_c1 (k : Nat) (l : List Nat) : Nat := y_d1 k (l.dropWhile zt_bl)
def y_nl : List Nat → Nat → Nat
  | [], a => a
  | c :: r, a => y_nl r (10 * a + (c - 48))
def y_v1 (l : List Nat) : Nat := y_nl ((l.dropWhile zt_bl).takeWhile zt_id) 0
def y_dn : List Nat → List Nat
  | [] => []
  | c :: r => if zt_il c = true then (c :: r).dropWhile zt_il else if zt_id c = true then (c :: r).dropWhile zt_id else r
theorem y_dnc {c : Nat} {r : List Nat} : y_dn (c :: r) = if zt_il c = true then (c :: r).dropWhile zt_il else if zt_id c = true then (c :: r).dropWhile zt_id else r := rfl
def y_n1 (l : List Nat) : List Nat := y_dn (l.dropWhile zt_bl)
theorem y_nv {T : zt_T} : ∀ (l : List Nat) (q n : Nat), (∀ i, i < l.length → T.1 (q+n+i) = l.getD i 0) → zt_nv T.1 q (n + l.length) = y_nl l (zt_nv T.1 q n)
  | [], q, n, h => rfl
  | c :: r, q, n, h => by
    have h0 : T.1 (q+n) = c := h 0 (Nat.succ_pos _)
    have ih := y_nv (T := T) r q (n+1) (fun i hi => by
      have := h (i+1) (Nat.succ_lt_succ hi)
      rw [show q + (n+1) + i = q + n + (i+1) by omega]
      exact this)
    rw [show n + (c :: r).length = n + 1 + r.length by simp; omega, ih]
    show y_nl r (10 * zt_nv T.1 q n + (T.1 (q+n) - 48)) = y_nl r (10 * zt_nv T.1 q n + (c - 48))
    rw [h0]
theorem y_by {T : zt_T} {q : Nat} : ∀ (l : List Nat), (∀ i, i < l.length → T.1 (q+i) = l.getD i 0) → (List.range l.length).map (fun i => T.1 (q + i)) = l := by
  intro l h
  apply List.ext_getElem
  · simp
  · intro i h1 h2
    simp only [List.getElem_map, List.getElem_range]
    rw [h i h2]
    simp [List.getD, h2]
/-- what the first token is, and where the rest stands -/
theorem y_tok {k p : Nat} {T : zt_T} {l : List Nat} (h : y_sf T p l) : zt_cd k T p = y_c1 k l ∧ (zt_kd T p = 2 → zt_va T p = y_v1 l) ∧ y_sf T (zt_nx T p) (y_n1 l) := by
  have ea : zt_at T p = p + (l.takeWhile zt_bl).length := y_scL l p h
  have hd := h.dw zt_bl
  rw [← ea] at hd
  unfold y_c1 y_v1 y_n1
  generalize l.dropWhile zt_bl = m at *
  cases m with
  | nil =>
    have e0 : zt_at T p + 0 = T.2 := hd.1
    have ek : zt_kd T p = 0 := by
      unfold zt_kd
      rw [if_neg (by omega)]
    have en : zt_nx T p = zt_at T p := by
      unfold zt_nx
      rw [if_neg (by omega)]
    have ec : zt_cd k T p = 0 := by
      unfold zt_cd
      rw [if_pos ek]
    rw [en, ek]
    exact ⟨ec, fun q => absurd q (by decide), hd⟩
  | cons c r =>
    obtain ⟨h1, h2, h3⟩ := hd.tl
    rw [y_d1c, y_dnc]
    by_cases q1 : zt_il c = true
    · have ek : zt_kd T p = 1 := by
        unfold zt_kd
        rw [if_pos h2, h1, if_pos q1]
      have hn : zt_nx T p = zt_at T p + ((c :: r).takeWhile zt_il).length := by
        unfold zt_nx
        rw [if_pos h2, h1, if_pos q1, y_scL _ _ hd]
      have hw := hd.dw zt_il
      rw [← hn] at hw
      have eb : zt_by T p = (c :: r).takeWhile zt_il := by
        unfold zt_by
        rw [hn, show zt_at T p + ((c :: r).takeWhile zt_il).length - zt_at T p = ((c :: r).takeWhile zt_il).length by omega]
        refine y_by _ (fun i hi => ?_)
        have hle : ((c :: r).takeWhile zt_il).length ≤ (c :: r).length := (List.takeWhile_sublist _).length_le
        rw [hd.2 i (by omega)]
        have : (c :: r) = (c :: r).takeWhile zt_il ++ (c :: r).dropWhile zt_il := (y_tw _ _).symm
        conv => lhs; rw [this]
        simp only [List.getD_eq_getElem?_getD, List.getElem?_append_left hi]
      have ec : zt_cd k T p = zt_lk (zt_tb k) ((c :: r).takeWhile zt_il) := by
        unfold zt_cd
        rw [if_neg (by omega), if_pos ek, eb]
      rw [if_pos q1, if_pos q1, ek]
      exact ⟨ec, fun q => absurd q (by decide), hw⟩
    · by_cases q2 : zt_id c = true
      · have ek : zt_kd T p = 2 := by
          unfold zt_kd
          rw [if_pos h2, h1, if_neg q1, if_pos q2]
        have hn : zt_nx T p = zt_at T p + ((c :: r).takeWhile zt_id).length := by
          unfold zt_nx
          rw [if_pos h2, h1, if_neg q1, if_pos q2, y_scL _ _ hd]
        have hw := hd.dw zt_id
        rw [← hn] at hw
        have el : zt_nx T p - zt_at T p = ((c :: r).takeWhile zt_id).length := by omega
        have ec : zt_cd k T p = if ((c :: r).takeWhile zt_id).length < 5 then 2 else 1 := by
          unfold zt_cd
          rw [if_neg (by omega), if_neg (by omega), if_pos ek, el]
        rw [if_neg q1, if_pos q2, if_neg q1, if_pos q2]
        refine ⟨ec, fun _ => ?_, hw⟩
        unfold zt_va
        rw [el]
        have := y_nv (T := T) ((c :: r).takeWhile zt_id) (zt_at T p) 0 (fun i hi => by
          have hle : ((c :: r).takeWhile zt_id).length ≤ (c :: r).length := (List.takeWhile_sublist _).length_le
          rw [show zt_at T p + 0 + i = zt_at T p + i by omega, hd.2 i (by omega)]
          have : (c :: r) = (c :: r).takeWhile zt_id ++ (c :: r).dropWhile zt_id := (y_tw _ _).symm
          conv => lhs; rw [this]
          simp only [List.getD_eq_getElem?_getD, List.getElem?_append_left hi])
        rw [Nat.zero_add] at this
        exact this
      · have ek : zt_kd T p = 3 := by
          unfold zt_kd
          rw [if_pos h2, h1, if_neg q1, if_neg q2]
        have hn : zt_nx T p = zt_at T p + 1 := by
          unfold zt_nx
          rw [if_pos h2, h1, if_neg q1, if_neg q2]
        have ec : zt_cd k T p = if zt_sg c = true then 100 + c else 1 := by
          unfold zt_cd
          rw [if_neg (by omega), if_neg (by omega), if_neg (by omega), h1]
        rw [if_neg q1, if_neg q2, if_neg q1, if_neg q2, ek, hn]
        exact ⟨ec, fun q => absurd q (by decide), h3⟩
/-- a blank ahead -/
theorem y_blk {k : Nat} {l : List Nat} : y_c1 k (32 :: l) = y_c1 k l ∧ y_v1 (32 :: l) = y_v1 l ∧ y_n1 (32 :: l) = y_n1 l := ⟨rfl, rfl, rfl⟩
theorem y_twp {P : Nat → Bool} {c : Nat} {r : List Nat} (hc : P c = false) : ∀ w : List Nat, w.all P = true → (w ++ c :: r).takeWhile P = w ∧ (w ++ c :: r).dropWhile P = c :: r
  | [], _ => by
    have : ¬ P c = true := by rw [hc]; exact Bool.false_ne_true
    exact ⟨List.takeWhile_cons_of_neg this, List.dropWhile_cons_of_neg this⟩
  | x :: w, h => by
    have hx : P x = true ∧ w.all P = true := by simpa [List.all_cons] using h
    obtain ⟨i1, i2⟩ := y_twp hc w hx.2
    show (x :: (w ++ c :: r)).takeWhile P = x :: w ∧ (x :: (w ++ c :: r)).dropWhile P = c :: r
    rw [List.takeWhile_cons_of_pos hx.1, List.dropWhile_cons_of_pos hx.1, i1]
    exact ⟨rfl, i2⟩
theorem y_nbl {c : Nat} {r : List Nat} (h : zt_bl c = false) : (c :: r).dropWhile zt_bl = c :: r := List.dropWhile_cons_of_neg (by rw [h]; exact Bool.false_ne_true)
/-- a word, ended by what is no letter -/
theorem y_wd {k c code : Nat} {w r : List Nat} (hw : ((w.all zt_il && decide (0 < w.length)) && w.all (fun x => !zt_bl x)) = true) (hc : zt_il c = false) (hk : zt_lk (zt_tb k) w = code) : y_c1 k (w ++ c :: r) = code ∧ y_n1 (w ++ c :: r) = c :: r := by
  simp only [Bool.and_eq_true] at hw
  obtain ⟨⟨h1, h2⟩, h3⟩ := hw
  obtain ⟨i1, i2⟩ := y_twp (r := r) hc w h1
  cases w with
  | nil => simp at h2
  | cons x w =>
    have hx : zt_il x = true := by simp only [List.all_cons, Bool.and_eq_true] at h1; exact h1.1
    have hb : zt_bl x = false := by simp only [List.all_cons, Bool.and_eq_true, Bool.not_eq_true'] at h3; exact h3.1
    have ed : ((x :: w) ++ c :: r).dropWhile zt_bl = x :: (w ++ c :: r) := y_nbl hb
    have i1 : (x :: (w ++ c :: r)).takeWhile zt_il = x :: w := i1
    have i2 : (x :: (w ++ c :: r)).dropWhile zt_il = c :: r := i2
    unfold y_c1 y_n1
    rw [ed, y_d1c, y_dnc, if_pos hx, if_pos hx, i1, i2]
    exact ⟨hk, rfl⟩
/-- a sign -/
theorem y_sn {k c : Nat} {r : List Nat} (h : (((!zt_bl c && !zt_il c) && !zt_id c) && zt_sg c) = true) : y_c1 k (c :: r) = 100 + c ∧ y_n1 (c :: r) = r := by
  simp only [Bool.and_eq_true, Bool.not_eq_true'] at h
  obtain ⟨⟨⟨h1, h2⟩, h3⟩, h4⟩ := h
  have n2 : ¬ zt_il c = true := by rw [h2]; exact Bool.false_ne_true
  have n3 : ¬ zt_id c = true := by rw [h3]; exact Bool.false_ne_true
  unfold y_c1 y_n1
  rw [y_nbl h1, y_d1c, y_dnc, if_neg n2, if_neg n3, if_pos h4, if_neg n2, if_neg n3]
  exact ⟨rfl, rfl⟩
/-- a number's digits -/
def y_dg (n : Nat) : List Nat := if n < 10 then [48 + n] else if n < 100 then [48 + n / 10, 48 + n % 10] else [48 + n / 100, 48 + n / 10 % 10, 48 + n % 10]
theorem y_dgd {x : Nat} (h : x < 10) : zt_id (48 + x) = true ∧ zt_il (48 + x) = false ∧ zt_bl (48 + x) = false := by
  have : x = 0 ∨ x = 1 ∨ x = 2 ∨ x = 3 ∨ x = 4 ∨ x = 5 ∨ x = 6 ∨ x = 7 ∨ x = 8 ∨ x = 9 := by omega
  rcases this with rfl | rfl | rfl | rfl | rfl | rfl | rfl | rfl | rfl | rfl <;> exact ⟨rfl, rfl, rfl⟩
theorem y_nm {k n c : Nat} {r : List Nat} (hn : n < 1000) (hc : zt_id c = false) : y_c1 k (y_dg n ++ c :: r) = 2 ∧ y_v1 (y_dg n ++ c :: r) = n ∧ y_n1 (y_dg n ++ c :: r) = c :: r := by
  have key : ∀ x (w : List Nat), x < 10 → w.all zt_id = true → w.length < 4 → y_c1 k (((48 + x) :: w) ++ c :: r) = 2 ∧ y_v1 (((48 + x) :: w) ++ c :: r) = y_nl ((48 + x) :: w) 0 ∧ y_n1 (((48 + x) :: w) ++ c :: r) = c :: r := by
    intro x w hx hw hl
    obtain ⟨d1, d2, d3⟩ := y_dgd hx
    have n2 : ¬ zt_il (48 + x) = true := by rw [d2]; exact Bool.false_ne_true
    obtain ⟨i1, i2⟩ := y_twp (r := r) hc ((48 + x) :: w) (by rw [List.all_cons, d1, hw]; rfl)
    have ed : (((48 + x) :: w) ++ c :: r).dropWhile zt_bl = (48 + x) :: (w ++ c :: r) := y_nbl d3
    have i1 : ((48 + x) :: (w ++ c :: r)).takeWhile zt_id = (48 + x) :: w := i1
    have i2 : ((48 + x) :: (w ++ c :: r)).dropWhile zt_id = c :: r := i2
    have hll : ((48 + x) :: w).length < 5 := by rw [List.length_cons]; omega
    unfold y_c1 y_n1 y_v1
    rw [ed, y_d1c, y_dnc, if_neg n2, if_pos d1, if_neg n2, if_pos d1, i1, i2, if_pos hll]
    exact ⟨rfl, rfl, rfl⟩
  unfold y_dg
  by_cases q1 : n < 10
  · rw [if_pos q1]
    obtain ⟨k1, k2, k3⟩ := key n [] q1 rfl (by decide)
    refine ⟨k1, k2.trans ?_, k3⟩
    show 10 * 0 + (48 + n - 48) = n
    omega
  · rw [if_neg q1]
    by_cases q2 : n < 100
    · rw [if_pos q2]
      have m1 := (y_dgd (x := n % 10) (by omega)).1
      obtain ⟨k1, k2, k3⟩ := key (n / 10) [48 + n % 10] (by omega) (by rw [List.all_cons, m1]; rfl) (by simp)
      refine ⟨k1, k2.trans ?_, k3⟩
      show 10 * (10 * 0 + (48 + n / 10 - 48)) + (48 + n % 10 - 48) = n
      omega
    · rw [if_neg q2]
      have m1 := (y_dgd (x := n % 10) (by omega)).1
      have m2 := (y_dgd (x := n / 10 % 10) (by omega)).1
      obtain ⟨k1, k2, k3⟩ := key (n / 100) [48 + n / 10 % 10, 48 + n % 10] (by omega) (by rw [List.all_cons, List.all_cons, m1, m2]; rfl) (by simp)
      refine ⟨k1, k2.trans ?_, k3⟩
      show 10 * (10 * (10 * 0 + (48 + n / 100 - 48)) + (48 + n / 10 % 10 - 48)) + (48 + n % 10 - 48) = n
      omega
theorem y_kd2 {k p : Nat} {T : zt_T} (hk : k < 5) (h : zt_cd k T p = 2) : zt_kd T p = 2 := ((zt_cd_n hk).mp h).1
/-- step over a word, over a sign, over a number: with a blank ahead or without -/
theorem y_tw1 {k p c code : Nat} {T : zt_T} {w r : List Nat} (h : y_sf T p (w ++ c :: r)) (hw : ((w.all zt_il && decide (0 < w.length)) && w.all (fun x => !zt_bl x)) = true) (hc : zt_il c = false) (hk : zt_lk (zt_tb k) w = code) : zt_cd k T p = code ∧ y_sf T (zt_nx T p) (c :: r) := by
  obtain ⟨h1, h2, h3⟩ := y_tok (k := k) h
  obtain ⟨e1, e2⟩ := y_wd (k := k) (r := r) hw hc hk
  exact ⟨h1.trans e1, by rw [e2] at h3; exact h3⟩
theorem y_tw2 {k p c code : Nat} {T : zt_T} {w r : List Nat} (h : y_sf T p (32 :: (w ++ c :: r))) (hw : ((w.all zt_il && decide (0 < w.length)) && w.all (fun x => !zt_bl x)) = true) (hc : zt_il c = false) (hk : zt_lk (zt_tb k) w = code) : zt_cd k T p = code ∧ y_sf T (zt_nx T p) (c :: r) := by
  obtain ⟨h1, h2, h3⟩ := y_tok (k := k) h
  obtain ⟨b1, b2, b3⟩ := y_blk (k := k) (l := w ++ c :: r)
  obtain ⟨e1, e2⟩ := y_wd (k := k) (r := r) hw hc hk
  exact ⟨h1.trans (b1.trans e1), by rw [b3, e2] at h3; exact h3⟩
theorem y_ts1 {k p c : Nat} {T : zt_T} {r : List Nat} (h : y_sf T p (c :: r)) (hc : (((!zt_bl c && !zt_il c) && !zt_id c) && zt_sg c) = true) : zt_cd k T p = 100 + c ∧ y_sf T (zt_nx T p) r := by
  obtain ⟨h1, h2, h3⟩ := y_tok (k := k) h
  obtain ⟨e1, e2⟩ := y_sn (k := k) (r := r) hc
  exact ⟨h1.trans e1, by rw [e2] at h3; exact h3⟩
theorem y_ts2 {k p c : Nat} {T : zt_T} {r : List Nat} (h : y_sf T p (32 :: c :: r)) (hc : (((!zt_bl c && !zt_il c) && !zt_id c) && zt_sg c) = true) : zt_cd k T p = 100 + c ∧ y_sf T (zt_nx T p) r := by
  obtain ⟨h1, h2, h3⟩ := y_tok (k := k) h
  obtain ⟨b1, b2, b3⟩ := y_blk (k := k) (l := c :: r)
  obtain ⟨e1, e2⟩ := y_sn (k := k) (r := r) hc
  exact ⟨h1.trans (b1.trans e1), by rw [b3, e2] at h3; exact h3⟩
theorem y_tn1 {k p n c : Nat} {T : zt_T} {r : List Nat} (hk : k < 5) (h : y_sf T p (y_dg n ++ c :: r)) (hn : n < 1000) (hc : zt_id c = false) : zt_cd k T p = 2 ∧ zt_va T p = n ∧ y_sf T (zt_nx T p) (c :: r) := by
  obtain ⟨h1, h2, h3⟩ := y_tok (k := k) h
  obtain ⟨e1, e2, e3⟩ := y_nm (k := k) (r := r) hn hc
  have h1 := h1.trans e1
  exact ⟨h1, (h2 (y_kd2 hk h1)).trans e2, by rw [e3] at h3; exact h3⟩
theorem y_tn2 {k p n c : Nat} {T : zt_T} {r : List Nat} (hk : k < 5) (h : y_sf T p (32 :: (y_dg n ++ c :: r))) (hn : n < 1000) (hc : zt_id c = false) : zt_cd k T p = 2 ∧ zt_va T p = n ∧ y_sf T (zt_nx T p) (c :: r) := by
  obtain ⟨h1, h2, h3⟩ := y_tok (k := k) h
  obtain ⟨b1, b2, b3⟩ := y_blk (k := k) (l := y_dg n ++ c :: r)
  obtain ⟨e1, e2, e3⟩ := y_nm (k := k) (r := r) hn hc
  have h1 := h1.trans (b1.trans e1)
  exact ⟨h1, (h2 (y_kd2 hk h1)).trans (b2.trans e2), by rw [b3, e3] at h3; exact h3⟩
theorem y_te {k p : Nat} {T : zt_T} (h : y_sf T p []) : zt_cd k T p = 0 := (y_tok (k := k) h).1
