/-! A VOTE in numbers: B tells behind whom each mule is (0: none, k+1: the man k) -/
def z_vw : Nat → Int32
  | 0 => z_m
  | k + 1 => nI k
theorem z_vw_eq {a b : Nat} (ha : a ≤ 5) (hb : b ≤ 5) : (z_vw a = z_vw b) = (a = b) := by
  apply propext
  constructor
  · intro h
    cases a with
    | zero =>
      cases b with
      | zero => rfl
      | succ b => rw [show z_vw 0 = z_m from rfl, show z_vw (b+1) = nI b from rfl, z_m_eq (by omega)] at h; exact h.elim
    | succ a =>
      cases b with
      | zero => rw [show z_vw 0 = z_m from rfl, show z_vw (a+1) = nI a from rfl, z_eq_m (by omega)] at h; exact h.elim
      | succ b => rw [show z_vw (a+1) = nI a from rfl, show z_vw (b+1) = nI b from rfl, nI_eq (by omega) (by omega)] at h; omega
  · intro h; rw [h]
def z_side (B : Nat → Nat) (k mu : Nat) : Nat := z_set (fun j => decide (B j = k + 1)) mu
def z_bm (lean : Nat → Nat) : Nat → Nat × Nat
  | 0 => (0, 0)
  | k + 1 => if (z_bm lean k).1 = 0 ∨ (z_bm lean k).2 < lean k then (k + 1, lean k) else z_bm lean k
def z_ch (lean : Nat → Nat) (need me : Nat) : Nat := if (z_bm lean me).1 = 0 ∨ (z_bm lean me).2 < need then 0 else (z_bm lean me).1
/-- leans, needs, whom each heeds, mules, men -/
abbrev z_Bt : Type := (Nat → Nat → Nat → Nat) × (Nat → Nat) × (Nat → Nat) × Nat × Nat
def z_hn (p : z_Bt) (B : Nat → Nat) (m k : Nat) : Nat := z_cnt (p.2.2.1 m &&& z_side B k p.2.2.2.1) 12
def z_pick (p : z_Bt) (B : Nat → Nat) (m : Nat) : Nat := z_ch (fun k => p.1 m k (z_hn p B m k)) (p.2.1 m) p.2.2.2.2
def z_upB (B : Nat → Nat) (m v : Nat) : Nat → Nat := fun j => if j = m then v else B j
def z_rd (p : z_Bt) (out : Nat → Bool) (B : Nat → Nat) : Nat → (Nat → Nat) × Bool
  | 0 => (B, false)
  | m + 1 => if out m = true ∨ (z_rd p out B m).1 m ≠ 0 then z_rd p out B m else (z_upB (z_rd p out B m).1 m (z_pick p (z_rd p out B m).1 m), (z_rd p out B m).2 || decide (z_pick p (z_rd p out B m).1 m ≠ 0))
def z_rs (p : z_Bt) (out : Nat → Bool) : Nat → (Nat → Nat) → (Nat → Nat) × Nat
  | 0, B => (B, 0)
  | f + 1, B => if (z_rd p out B p.2.2.2.1).2 = true then ((z_rs p out f (z_rd p out B p.2.2.2.1).1).1, (z_rs p out f (z_rd p out B p.2.2.2.1).1).2 + 1) else ((z_rd p out B p.2.2.2.1).1, 0)
def z_vote (p : z_Bt) (out : Nat → Bool) : (Nat → Nat) × Nat := z_rs p out 13 (fun _ => 0)
def z_lea (B : Nat → Nat) (mu : Nat) : Nat → Nat × Nat
  | 0 => (0, 0)
  | k + 1 => if (z_lea B mu k).2 < z_cnt (z_side B k mu) 12 then (k + 1, z_cnt (z_side B k mu) 12) else if (z_lea B mu k).2 = z_cnt (z_side B k mu) 12 then (0, (z_lea B mu k).2) else z_lea B mu k
def z_drv (p : z_Bt) (out : Nat → Bool) : Nat := (z_lea (z_vote p out).1 p.2.2.2.1 p.2.2.2.2).1
theorem z_bm_le {lean : Nat → Nat} {M : Nat} (h : ∀ k, lean k ≤ M) : ∀ k, (z_bm lean k).1 ≤ k ∧ (z_bm lean k).2 ≤ M
  | 0 => ⟨Nat.le_refl _, Nat.zero_le _⟩
  | k + 1 => by
    have ih := z_bm_le h k
    unfold z_bm
    split
    · exact ⟨Nat.le_refl _, h k⟩
    · exact ⟨by omega, ih.2⟩
theorem z_ch_le {lean : Nat → Nat} {M : Nat} (h : ∀ k, lean k ≤ M) (need me : Nat) : z_ch lean need me ≤ me := by
  have := (z_bm_le h me).1
  unfold z_ch
  split <;> omega
theorem z_ch_congr {l1 l2 : Nat → Nat} : ∀ me, (∀ k, k < me → l1 k = l2 k) → z_bm l1 me = z_bm l2 me
  | 0, _ => rfl
  | k + 1, h => by
    have ih := z_ch_congr k (fun j hj => h j (by omega))
    unfold z_bm
    rw [ih, h k (by omega)]
/-- a ballot's numbers are in their bounds -/
def z_BO (p : z_Bt) : Prop := p.2.2.2.1 ≤ 12 ∧ p.2.2.2.2 ≤ 5 ∧ (∀ m k h, p.1 m k h ≤ 999) ∧ (∀ m, p.2.1 m ≤ 999) ∧ (∀ m, p.2.2.1 m < 4096 ∧ (p.2.2.1 m).testBit m = false)
theorem z_pick_le {p : z_Bt} (h : z_BO p) (B : Nat → Nat) (m : Nat) : z_pick p B m ≤ p.2.2.2.2 := z_ch_le (fun k => h.2.2.1 m k _) _ _
theorem z_rd_le {p : z_Bt} (h : z_BO p) {out : Nat → Bool} {B : Nat → Nat} (hB : ∀ j, B j ≤ 5) : ∀ m j, (z_rd p out B m).1 j ≤ 5
  | 0, j => hB j
  | m + 1, j => by
    have ih := z_rd_le h (out := out) hB m
    have h5 := h.2.1
    unfold z_rd
    split
    · exact ih j
    · show (if j = m then _ else _) ≤ 5
      have := z_pick_le h (z_rd p out B m).1 m
      split
      · omega
      · exact ih j
/-- those that wait still -/
def z_wt (out : Nat → Bool) (B : Nat → Nat) (mu : Nat) : Nat := z_set (fun j => !out j && decide (B j = 0)) mu
theorem z_cnt_mono {a b : Nat} (h : ∀ i, a.testBit i = true → b.testBit i = true) : ∀ N, z_cnt a N ≤ z_cnt b N
  | 0 => Nat.le_refl _
  | N + 1 => by
    have ih := z_cnt_mono h N
    unfold z_cnt
    by_cases h1 : a.testBit N = true
    · rw [if_pos h1, if_pos (h N h1)]; omega
    · rw [if_neg h1]; split <;> omega
theorem z_cnt_strict {a b : Nat} (h : ∀ i, a.testBit i = true → b.testBit i = true) {j : Nat} (h1 : ¬ a.testBit j = true) (h2 : b.testBit j = true) : ∀ N, j < N → z_cnt a N < z_cnt b N
  | 0, hj => by omega
  | N + 1, hj => by
    have hm := z_cnt_mono h N
    unfold z_cnt
    by_cases e : j = N
    · subst e; rw [if_neg h1, if_pos h2]; omega
    · have ih := z_cnt_strict h h1 h2 N (by omega)
      by_cases h3 : a.testBit N = true
      · rw [if_pos h3, if_pos (h N h3)]; omega
      · rw [if_neg h3]; split <;> omega
theorem z_cnt_lt {a i : Nat} (h : a.testBit i = false) (N : Nat) (hi : i < N) : z_cnt a N < N := by
  have h1 : z_cnt (2 ^ N - 1) N ≤ N := z_cnt_le _ _
  have h2 := z_cnt_strict (a := a &&& (2 ^ N - 1)) (b := 2 ^ N - 1) (fun j hj => by rw [Nat.testBit_and] at hj; simp at hj; simp [hj]) (j := i) (by rw [Nat.testBit_and, h]; simp) (by simp [hi]) N hi
  have h3 : ∀ M, M ≤ N → z_cnt (a &&& (2 ^ N - 1)) M = z_cnt a M := by
    intro M
    induction M with
    | zero => intro _; rfl
    | succ M ih =>
      intro hM
      have e : (a &&& (2 ^ N - 1)).testBit M = a.testBit M := by
        rw [Nat.testBit_and]; have : M < N := by omega
        simp [this]
      unfold z_cnt
      rw [ih (by omega), e]
  rw [← h3 N (Nat.le_refl _)]
  omega
theorem z_rd_keep {p : z_Bt} {out : Nat → Bool} {B : Nat → Nat} {j : Nat} (hj : B j ≠ 0) : ∀ m, (z_rd p out B m).1 j ≠ 0
  | 0 => hj
  | m + 1 => by
    have ih := z_rd_keep (p := p) (out := out) hj m
    unfold z_rd
    split
    · exact ih
    · rename_i h
      show (if j = m then _ else _) ≠ 0
      by_cases e : j = m
      · subst e; exact absurd (Or.inr ih) h
      · rw [if_neg e]; exact ih
theorem z_rd_hi {p : z_Bt} {out : Nat → Bool} {B : Nat → Nat} {j : Nat} : ∀ m, m ≤ j → (z_rd p out B m).1 j = B j
  | 0, _ => rfl
  | m + 1, h => by
    have ih := z_rd_hi (p := p) (out := out) (B := B) (j := j) m (by omega)
    unfold z_rd
    split
    · exact ih
    · show (if j = m then _ else _) = _
      rw [if_neg (by omega)]; exact ih
theorem z_rd_no {p : z_Bt} {out : Nat → Bool} {B : Nat → Nat} : ∀ m, (z_rd p out B m).2 = false → (z_rd p out B m).1 = B
  | 0, _ => rfl
  | m + 1, h => by
    have ih := z_rd_no (p := p) (out := out) (B := B) m
    unfold z_rd at h ⊢
    by_cases hc : out m = true ∨ (z_rd p out B m).1 m ≠ 0
    · rw [if_pos hc] at h ⊢; exact ih h
    · rw [if_neg hc] at h ⊢
      have h' : ((z_rd p out B m).2 || decide (z_pick p (z_rd p out B m).1 m ≠ 0)) = false := h
      rw [Bool.or_eq_false_iff] at h'
      have e := ih h'.1
      have e0 : z_pick p (z_rd p out B m).1 m = 0 := by
        have := h'.2
        simpa using this
      show z_upB (z_rd p out B m).1 m (z_pick p (z_rd p out B m).1 m) = B
      rw [e0]
      funext j
      show (if j = m then 0 else _) = _
      by_cases ej : j = m
      · subst ej
        rw [if_pos rfl]
        have : (z_rd p out B j).1 j = 0 := by
          by_cases q : (z_rd p out B j).1 j = 0
          · exact q
          · exact absurd (Or.inr q) hc
        rw [e] at this
        exact this.symm
      · rw [if_neg ej, e]
theorem z_rd_yes {p : z_Bt} {out : Nat → Bool} {B : Nat → Nat} : ∀ m, (z_rd p out B m).2 = true → ∃ j, j < m ∧ out j = false ∧ B j = 0 ∧ (z_rd p out B m).1 j ≠ 0
  | 0, h => by cases h
  | m + 1, h => by
    have ih := z_rd_yes (p := p) (out := out) (B := B) m
    unfold z_rd at h ⊢
    by_cases hc : out m = true ∨ (z_rd p out B m).1 m ≠ 0
    · rw [if_pos hc] at h ⊢
      obtain ⟨j, h1, h2⟩ := ih h
      exact ⟨j, by omega, h2⟩
    · rw [if_neg hc] at h ⊢
      have h' : ((z_rd p out B m).2 || decide (z_pick p (z_rd p out B m).1 m ≠ 0)) = true := h
      rw [Bool.or_eq_true] at h'
      rcases h' with h' | h'
      · obtain ⟨j, h1, h2, h3, h4⟩ := ih h'
        refine ⟨j, by omega, h2, h3, ?_⟩
        show (if j = m then _ else _) ≠ 0
        rw [if_neg (by omega)]; exact h4
      · have ho : out m = false := by
          cases hq : out m with
          | false => rfl
          | true => exact absurd (Or.inl hq) hc
        have h0 : (z_rd p out B m).1 m = 0 := by
          by_cases q : (z_rd p out B m).1 m = 0
          · exact q
          · exact absurd (Or.inr q) hc
        rw [z_rd_hi m (Nat.le_refl _)] at h0
        refine ⟨m, by omega, ho, h0, ?_⟩
        show (if m = m then _ else _) ≠ 0
        rw [if_pos rfl]
        simpa using h'
theorem z_wt_tb {out : Nat → Bool} {B : Nat → Nat} {mu i : Nat} : (z_wt out B mu).testBit i = true ↔ i < mu ∧ out i = false ∧ B i = 0 := by
  unfold z_wt
  rw [z_set_tb]
  simp
theorem z_rd_less {p : z_Bt} {out : Nat → Bool} {B : Nat → Nat} (hmu : p.2.2.2.1 ≤ 12) (h : (z_rd p out B p.2.2.2.1).2 = true) : z_cnt (z_wt out (z_rd p out B p.2.2.2.1).1 p.2.2.2.1) 12 < z_cnt (z_wt out B p.2.2.2.1) 12 := by
  obtain ⟨j, h1, h2, h3, h4⟩ := z_rd_yes _ h
  refine z_cnt_strict (fun i hi => ?_) (j := j) ?_ ?_ 12 (by omega)
  · rw [z_wt_tb] at hi ⊢
    refine ⟨hi.1, hi.2.1, ?_⟩
    by_cases q : B i = 0
    · exact q
    · exact absurd hi.2.2 (z_rd_keep q _)
  · rw [z_wt_tb]
    intro q
    exact h4 q.2.2
  · rw [z_wt_tb]
    exact ⟨h1, h2, h3⟩
/-! the reference's VOTE -/
def z_VB (V : Nat → Int32) (B : Nat → Nat) : Nat → Int32 := fun a => if 8 ≤ a ∧ a < 20 then z_vw (B (a - 8)) else V a
theorem z_VBo {V : Nat → Int32} {B : Nat → Nat} {a : Nat} (h : a < 8 ∨ 20 ≤ a) : z_VB V B a = V a := if_neg (by omega)
theorem z_VBi {V : Nat → Int32} {B : Nat → Nat} {j : Nat} (h : j < 12) : z_VB V B (8 + j) = z_vw (B j) := by
  show (if _ then _ else _) = _
  rw [if_pos (by omega), show 8 + j - 8 = j by omega]
theorem z_VB_up {V : Nat → Int32} {B : Nat → Nat} {m v : Nat} {σ : q_Sto} (hV : σ 158 = z_VB V B) (hm : m < 12) : q_up σ 158 (8+m) (z_vw v) 158 = z_VB V (z_upB B m v) := by
  funext a
  show (if 158 = 158 then (if a = 8 + m then z_vw v else σ 158 a) else _) = _
  rw [if_pos rfl, hV]
  by_cases h : a = 8 + m
  · subst h
    rw [if_pos rfl, z_VBi hm]
    show _ = z_vw (if m = m then v else _)
    rw [if_pos rfl]
  · rw [if_neg h]
    by_cases h2 : 8 ≤ a ∧ a < 20
    · show (if _ then _ else _) = (if _ then _ else _)
      rw [if_pos h2, if_pos h2]
      show _ = z_vw (if a - 8 = m then v else _)
      rw [if_neg (by omega)]
    · show (if _ then _ else _) = (if _ then _ else _)
      rw [if_neg h2, if_neg h2]
theorem z_ev_congr {V V' fc : Nat → Int32} (h : ∀ a, 905 ≤ a → V' a = V a) : ∀ n i st, z_ev V' fc n i st = z_ev V fc n i st
  | 0, _, _ => rfl
  | n + 1, i, st => by
    unfold z_ev
    rw [h _ (by omega), h _ (by omega), z_ev_congr h n]
theorem z_run_congr {V V' fc : Nat → Int32} (h : ∀ a, 905 ≤ a → V' a = V a) (a b : Nat) : z_run V' fc a b = z_run V fc a b := by
  unfold z_run
  rw [z_ev_congr h]
theorem z_tl_congr {V V' fc : Nat → Int32} {w : Nat} {d : Int32} (h : ∀ a, 905 ≤ a → V' a = V a) : ∀ n i, z_tl V' fc w d n i = z_tl V fc w d n i
  | 0, _ => rfl
  | n + 1, i => by
    unfold z_tl
    rw [h _ (by omega), h _ (by omega), h _ (by omega), h _ (by omega), z_run_congr h, z_run_congr h, z_tl_congr h n]
/-- what the law tells of V holds of V' too -/
def z_same (V V' : Nat → Int32) : Prop := ∀ a, a = 0 ∨ (86 ≤ a ∧ a < 305) ∨ 905 ≤ a → V' a = V a
theorem z_fc_congr {V V' : Nat → Int32} (h : z_same V V') {m : Nat} (hm : m < 12) (lk hd ha so ho : Int32) : z_fc V' m lk hd ha so ho = z_fc V m lk hd ha so ho := by
  funext f
  unfold z_fc
  split <;> first | rfl | exact h _ (by omega)
theorem z_lean_congr {V V' : Nat → Int32} (h : z_same V V') {m k : Nat} (hm : m < 12) (hk : k < 5) (lk hd : Nat) : z_lean V' m k lk hd = z_lean V m k lk hd := by
  unfold z_lean
  rw [z_fc_congr h hm, h (119+k) (by omega), h (124+k) (by omega), h 89 (by omega), z_tl_congr (fun a ha => h a (by omega))]
theorem z_need_congr {V V' : Nat → Int32} (h : z_same V V') {m : Nat} (hm : m < 12) : z_need V' m = z_need V m := by
  unfold z_need
  rw [z_fc_congr h hm, h 89 (by omega), z_tl_congr (fun a ha => h a (by omega))]
theorem z_risk_congr {V V' : Nat → Int32} (h : z_same V V') {m me : Nat} {ho dr : Int32} (hm : m < 12) (hme : me ≤ 5) (hd : z_op dr me) : z_risk V' m ho dr = z_risk V m ho dr := by
  unfold z_risk
  have e : ∀ q, q = 119 ∨ q = 124 → z_skl V' q dr = z_skl V q dr := by
    intro q hq
    rcases hd with rfl | ⟨k, hk, rfl⟩
    · rfl
    · rw [z_sklE (by omega), z_sklE (by omega), h _ (by omega)]
  rw [z_fc_congr h hm, e 119 (by omega), e 124 (by omega), h 89 (by omega), h 88 (by omega), z_tl_congr (fun a ha => h a (by omega))]
theorem z_WT.congr {σ : q_Sto} {b : Nat} {V V' : Nat → Int32} {mu me : Nat} (h : z_WT σ b V mu me) (e : z_same V V') : z_WT σ b V' mu me := by
  obtain ⟨⟨c, z, l1, l2, l3, l4, l5, l6⟩, ⟨c2, h1, h2, h3, h4, h5⟩, ⟨c3, p1, p2, p3, p4⟩, ⟨c4, a1, a2, a3, a4⟩, ⟨c5, o1, o2, o3, o4⟩, ⟨c6, s1, s2, s3, s4⟩⟩ := h
  refine ⟨⟨c, z, l1, l2, l3, by rw [e 89 (by omega)]; exact l4, fun i hi => ?_, fun j hj => ?_⟩, ⟨c2, h1, h2, by rw [e 90 (by omega)]; exact h3, h4, fun m hm => ?_⟩, ⟨c3, p1, p2, by rw [e 91 (by omega)]; exact p3, fun i hi => ?_⟩, ⟨c4, a1, a2, by rw [e 92 (by omega)]; exact a3, fun i hi => ?_⟩, ⟨c5, o1, o2, by rw [e 93 (by omega)]; exact o3, fun i hi => ?_⟩, ⟨c6, s1, s2, by rw [e 94 (by omega)]; exact s3, fun i hi => ?_⟩⟩
  · rw [e (905+i) (by omega), e (921+i) (by omega), e (937+i) (by omega), e (953+i) (by omega)]; exact l5 i hi
  · rw [e (970+2*j) (by omega), e (970+2*j+1) (by omega)]; exact l6 j hj
  · rw [e (129+m) (by omega)]; exact h5 m hm
  · rw [e (141+4*i) (by omega), e (141+4*i+1) (by omega), e (141+4*i+2) (by omega), e (141+4*i+3) (by omega)]; exact p4 i hi
  · rw [e (205+3*i) (by omega), e (205+3*i+1) (by omega), e (205+3*i+2) (by omega)]; exact a4 i hi
  · rw [e (253+2*i) (by omega), e (253+2*i+1) (by omega)]; exact o4 i hi
  · rw [e (269+3*i) (by omega), e (269+3*i+1) (by omega), e (269+3*i+2) (by omega)]; exact s4 i hi
theorem z_same_VB (V : Nat → Int32) (B : Nat → Nat) : z_same V (z_VB V B) := fun a ha => z_VBo (by omega)
/-- the ballot that V tells -/
def z_hs (V : Nat → Int32) (m : Nat) : Nat := if m < 12 then zn (V (129+m)) else 0
def z_lk (V : Nat → Int32) (m k : Nat) : Nat := zn (V (20+5*m+k))
def z_bt (V : Nat → Int32) (mu me : Nat) : z_Bt := (fun m k h => z_lean V m k (z_lk V m k) h, fun m => z_need V m, z_hs V, mu, me)
theorem z_hsE {σ : q_Sto} {V : Nat → Int32} {mu m : Nat} (hmu : mu ≤ 12) (h : z_HE σ 1 V mu) (hm : m < 12) : V (129+m) = nI (z_hs V m) ∧ z_hs V m < 2 ^ mu ∧ (z_hs V m).testBit m = false := by
  obtain ⟨c, -, -, -, -, h5⟩ := h
  obtain ⟨-, s, h1, h2, h3⟩ := h5 m hm
  have := z_p12 hmu
  have e : z_hs V m = s := by
    show (if _ then _ else _) = _
    rw [if_pos hm, h3, zn_nI (by omega)]
  rw [e]
  exact ⟨h3, h1, h2⟩
theorem z_bt_ok {σ : q_Sto} {V : Nat → Int32} {mu me : Nat} (hmu : mu ≤ 12) (hme : me ≤ 5) (h : z_HE σ 1 V mu) : z_BO (z_bt V mu me) := by
  refine ⟨hmu, hme, fun m k hh => z_cl_le _ _, fun m => z_cl_le _ _, fun m => ?_⟩
  show z_hs V m < 4096 ∧ (z_hs V m).testBit m = false
  by_cases hm : m < 12
  · have := z_hsE hmu h hm
    have h12 := z_p12 hmu
    exact ⟨by omega, this.2.2⟩
  · have e : z_hs V m = 0 := by
      show (if _ then _ else _) = _
      rw [if_neg hm]
    rw [e]
    exact ⟨by omega, Nat.zero_testBit _⟩
theorem z_bhd_side {V : Nat → Int32} {B : Nat → Nat} {mu k : Nat} (hmu : mu ≤ 12) (hB : ∀ j, B j ≤ 5) (hk : k < 5) : z_bhd (z_VB V B) (nI k) mu = z_side B k mu := by
  unfold z_bhd z_side
  refine z_set_congr (fun i hi => ?_)
  rw [z_VBi (by omega), show nI k = z_vw (k+1) from rfl]
  have := z_vw_eq (a := B i) (b := k + 1) (hB i) (by omega)
  exact decide_eq_decide.mpr (iff_of_eq this)
/-- what stays: the mules' and men's numbers, likings, heeds -/
def z_R (σc : q_Sto) (V : Nat → Int32) (mu me : Nat) : Prop := mu ≤ 12 ∧ me ≤ 5 ∧ V 86 = nI mu ∧ V 87 = nI me ∧ z_HE σc 1 V mu ∧ z_LW σc 1 V ∧ (∀ m k, m < mu → k < me → z_le (V (20+5*m+k)) 99)