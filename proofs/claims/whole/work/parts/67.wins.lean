/-! the fewest that are to be given salt: whom it moves -/
theorem z_bm_spec (l : Nat → Nat) : ∀ n, 0 < n → ∃ b, b < n ∧ z_bm l n = (b+1, l b) ∧ (∀ j, j < n → l j ≤ l b) ∧ (∀ j, j < b → l j < l b)
  | 0, h => by omega
  | n + 1, _ => by
    have e : z_bm l (n+1) = if (z_bm l n).1 = 0 ∨ (z_bm l n).2 < l n then (n + 1, l n) else z_bm l n := rfl
    by_cases q : n = 0
    · subst q
      refine ⟨0, by omega, ?_, fun j hj => ?_, fun j hj => by omega⟩
      · rw [e]; exact if_pos (Or.inl rfl)
      · have : j = 0 := by omega
        subst this; exact Nat.le_refl _
    · obtain ⟨b, b1, b2, b3, b4⟩ := z_bm_spec l n (by omega)
      rw [e, b2]
      by_cases q2 : l b < l n
      · refine ⟨n, by omega, if_pos (Or.inr q2), fun j hj => ?_, fun j hj => ?_⟩
        · by_cases q3 : j = n
          · subst q3; exact Nat.le_refl _
          · have := b3 j (by omega); omega
        · have := b3 j (by omega); omega
      · refine ⟨b, by omega, if_neg (fun h => by
          rcases h with h | h
          · exact absurd h (Nat.succ_ne_zero b)
          · exact q2 h), fun j hj => ?_, b4⟩
        by_cases q3 : j = n
        · subst q3; omega
        · exact b3 j (by omega)
theorem z_bm_uni {l : Nat → Nat} {n b : Nat} (hb : b < n) (h1 : ∀ j, j < n → l j ≤ l b) (h2 : ∀ j, j < b → l j < l b) : z_bm l n = (b+1, l b) := by
  obtain ⟨c, c1, c2, c3, c4⟩ := z_bm_spec l n (by omega)
  have e : c = b := by
    rcases Nat.lt_trichotomy c b with h | h | h
    · have := h2 c h; have := c3 b hb; omega
    · exact h
    · have := c4 b h; have := h1 c c1; omega
  subst e
  exact c2
theorem z_ch_uni {l : Nat → Nat} {n b need : Nat} (hb : b < n) (h1 : ∀ j, j < n → l j ≤ l b) (h2 : ∀ j, j < b → l j < l b) : z_ch l need n = if l b < need then 0 else b + 1 := by
  unfold z_ch
  rw [z_bm_uni hb h1 h2]
  by_cases q : l b < need
  · rw [if_pos q, if_pos (Or.inr q)]
  · rw [if_neg q, if_neg (fun h => by
      rcases h with h | h
      · exact absurd h (Nat.succ_ne_zero b)
      · exact q h)]
theorem z_ch_move {l1 l2 : Nat → Nat} {need me man : Nat} (hne : ∀ k, k < me → k ≠ man → l1 k = l2 k) (h : l1 man = l2 man ∨ (l1 man < need ∧ l2 man < need) ∨ ∃ o, o < me ∧ o ≠ man ∧ (l1 man < l1 o ∨ (l1 man = l1 o ∧ o < man)) ∧ (l2 man < l2 o ∨ (l2 man = l2 o ∧ o < man))) : z_ch l1 need me = z_ch l2 need me := by
  by_cases hm0 : me = 0
  · subst hm0; rfl
  obtain ⟨b, b1, b2, b3, b4⟩ := z_bm_spec l1 me (by omega)
  rw [z_ch_uni b1 b3 b4]
  rcases h with h | ⟨h1, h2⟩ | ⟨o, o1, o2, o3, o4⟩
  · have e : ∀ k, k < me → l1 k = l2 k := fun k hk => by
      by_cases q : k = man
      · subst q; exact h
      · exact hne k hk q
    have eb := e b b1
    rw [z_ch_uni b1 (fun j hj => by have := b3 j hj; have := e j hj; omega) (fun j hj => by have := b4 j hj; have := e j (by omega); omega), eb]
  · by_cases q : l1 b < need
    · rw [if_pos q]
      obtain ⟨c, c1, c2, c3, c4⟩ := z_bm_spec l2 me (by omega)
      have hc : l2 c < need := by
        by_cases q2 : c = man
        · subst q2; exact h2
        · have := hne c c1 q2; have := b3 c c1; omega
      rw [z_ch_uni c1 c3 c4, if_pos hc]
    · have qm : b ≠ man := fun e => q (by subst e; exact h1)
      have eb := hne b b1 qm
      have k1 : ∀ j, j < me → l2 j ≤ l2 b := fun j hj => by
        by_cases q2 : j = man
        · subst q2; omega
        · have := hne j hj q2; have := b3 j hj; omega
      have k2 : ∀ j, j < b → l2 j < l2 b := fun j hj => by
        by_cases q2 : j = man
        · subst q2; omega
        · have := hne j (by omega) q2; have := b4 j hj; omega
      rw [z_ch_uni b1 k1 k2, eb]
  · have qo := hne o o1 o2
    have qm : b ≠ man := fun e => by
      subst e
      have := b3 o o1
      rcases o3 with h | ⟨h, h'⟩
      · omega
      · have := b4 o h'; omega
    have eb := hne b b1 qm
    have bo := b3 o o1
    have k1 : ∀ j, j < me → l2 j ≤ l2 b := fun j hj => by
      by_cases q2 : j = man
      · subst q2
        rcases o4 with h | ⟨h, h'⟩ <;> omega
      · have := hne j hj q2; have := b3 j hj; omega
    have k2 : ∀ j, j < b → l2 j < l2 b := fun j hj => by
      by_cases q2 : j = man
      · subst q2
        rcases o4 with h | ⟨h, h'⟩
        · omega
        · have := b4 o (by omega); omega
      · have := hne j (by omega) q2; have := b4 j hj; omega
    rw [z_ch_uni b1 k1 k2, eb]
/-- alike choices make alike votes -/
theorem z_rd_pick {p p' : z_Bt} {out : Nat → Bool} (h : ∀ B m, m < p.2.2.2.1 → out m = false → z_pick p' B m = z_pick p B m) (B : Nat → Nat) : ∀ m, m ≤ p.2.2.2.1 → z_rd p' out B m = z_rd p out B m
  | 0, _ => rfl
  | m + 1, hm => by
    have ih := z_rd_pick h B m (by omega)
    have e : ∀ p, z_rd p out B (m+1) = if out m = true ∨ (z_rd p out B m).1 m ≠ 0 then z_rd p out B m else (z_upB (z_rd p out B m).1 m (z_pick p (z_rd p out B m).1 m), (z_rd p out B m).2 || decide (z_pick p (z_rd p out B m).1 m ≠ 0)) := fun _ => rfl
    rw [e, e, ih]
    by_cases q : out m = true ∨ (z_rd p out B m).1 m ≠ 0
    · rw [if_pos q, if_pos q]
    · have hf : out m = false := z_bf (fun hh => q (Or.inl hh))
      rw [if_neg q, if_neg q, h _ m (by omega) hf]
theorem z_rs_pick {p p' : z_Bt} {out : Nat → Bool} {mu : Nat} (e : p.2.2.2.1 = mu) (e' : p'.2.2.2.1 = mu) (h : ∀ B m, m < mu → out m = false → z_pick p' B m = z_pick p B m) : ∀ f B, z_rs p' out f B = z_rs p out f B
  | 0, _ => rfl
  | f + 1, B => by
    have er : z_rd p' out B p'.2.2.2.1 = z_rd p out B p.2.2.2.1 := by rw [e', ← e]; exact z_rd_pick (fun B m hm => h B m (by rw [← e]; exact hm)) B _ (Nat.le_refl _)
    have ih := fun B => z_rs_pick e e' h f B
    unfold z_rs
    rw [er, ih]
theorem z_drv_pick {p p' : z_Bt} {out : Nat → Bool} {mu me : Nat} (e : p.2.2.2.1 = mu) (e' : p'.2.2.2.1 = mu) (e2 : p.2.2.2.2 = me) (e2' : p'.2.2.2.2 = me) (h : ∀ B m, m < mu → out m = false → z_pick p' B m = z_pick p B m) : z_drv p' out = z_drv p out := by
  unfold z_drv z_vote
  rw [z_rs_pick e e' h, e, e', e2, e2']
/-- the lean with salt -/
def z_sl (V : Nat → Int32) (m man : Nat) : Nat := min 99 (z_lk V m man + 15)
/-- the ballot where the mules of S have his salt -/
def z_pw (V : Nat → Int32) (man S mu me : Nat) : z_Bt := (fun m k h => z_lean V m k (if k = man ∧ S.testBit m = true then z_sl V m man else z_lk V m k) h, fun m => z_need V m, z_hs V, mu, me)
theorem z_pw_ok {σ : q_Sto} {V : Nat → Int32} {man S mu me : Nat} (hmu : mu ≤ 12) (hme : me ≤ 5) (h : z_HE σ 1 V mu) : z_BO (z_pw V man S mu me) := by
  have hb := z_bt_ok (me := me) hmu hme h
  exact ⟨hmu, hme, fun m k hh => z_cl_le _ _, hb.2.2.2.1, hb.2.2.2.2⟩
theorem z_pw_mu {V : Nat → Int32} {man S mu me : Nat} : (z_pw V man S mu me).2.2.2.1 = mu := rfl
theorem z_pw_me {V : Nat → Int32} {man S mu me : Nat} : (z_pw V man S mu me).2.2.2.2 = me := rfl
theorem z_bt_mu {V : Nat → Int32} {mu me : Nat} : (z_bt V mu me).2.2.2.1 = mu := rfl
theorem z_bt_me {V : Nat → Int32} {mu me : Nat} : (z_bt V mu me).2.2.2.2 = me := rfl
theorem z_pw_pk {V : Nat → Int32} {man S mu me : Nat} {B : Nat → Nat} {m : Nat} : z_pick (z_pw V man S mu me) B m = z_ch (fun k => z_lean V m k (if k = man ∧ S.testBit m = true then z_sl V m man else z_lk V m k) (z_cnt (z_hs V m &&& z_side B k mu) 12)) (z_need V m) me := rfl
theorem z_bt_pk {V : Nat → Int32} {mu me : Nat} {B : Nat → Nat} {m : Nat} : z_pick (z_bt V mu me) B m = z_ch (fun k => z_lean V m k (z_lk V m k) (z_cnt (z_hs V m &&& z_side B k mu) 12)) (z_need V m) me := rfl
theorem z_pw_B0 {σ : q_Sto} {V : Nat → Int32} {man S mu me : Nat} : z_B0 σ (z_pw V man S mu me) = (σ 126 5 = nI mu ∧ σ 126 6 = nI me ∧ (∀ m, m < mu → σ 127 m = nI (z_need V m)) ∧ (∀ m, m < mu → σ 128 m = nI (z_hs V m))) := rfl
theorem z_bt_B0 {σ : q_Sto} {V : Nat → Int32} {mu me : Nat} : z_B0 σ (z_bt V mu me) = (σ 126 5 = nI mu ∧ σ 126 6 = nI me ∧ (∀ m, m < mu → σ 127 m = nI (z_need V m)) ∧ (∀ m, m < mu → σ 128 m = nI (z_hs V m))) := rfl
theorem z_pw_le {V : Nat → Int32} {man S mu me : Nat} {out : Nat → Bool} : z_drv (z_pw V man S mu me) out ≤ me := by
  unfold z_drv
  rw [z_pw_me]
  exact (z_lea_le me).1
/-- does it make a difference for one that so many of those it heeds stand there -/
def z_df (V : Nat → Int32) (m man : Nat) : Nat → Bool
  | 0 => false
  | h + 1 => z_df V m man h || decide (z_lean V m man (z_sl V m man) h ≠ z_lean V m man (z_lk V m man) h)
def z_tp2 (V : Nat → Int32) (m man : Nat) : Nat → Nat
  | 0 => 0
  | h + 1 => max (z_tp2 V m man h) (max (z_lean V m man (z_sl V m man) h) (z_lean V m man (z_lk V m man) h))
def z_ls (V : Nat → Int32) (m k : Nat) : Nat → Nat
  | 0 => 999
  | h + 1 => min (z_ls V m k h) (z_lean V m k (z_lk V m k) h)
def z_pf (V : Nat → Int32) (m man top N : Nat) : Nat → Nat → Bool
  | 0, _ => false
  | j + 1, k => if k ≠ man ∧ (top < z_ls V m k N ∨ (z_ls V m k N = top ∧ k < man)) then true else z_pf V m man top N j (k+1)
theorem z_df_no {V : Nat → Int32} {m man : Nat} : ∀ N, z_df V m man N = false → ∀ h, h < N → z_lean V m man (z_sl V m man) h = z_lean V m man (z_lk V m man) h
  | 0, _, h, hh => by omega
  | N + 1, e, h, hh => by
    have e : (z_df V m man N || decide (z_lean V m man (z_sl V m man) N ≠ z_lean V m man (z_lk V m man) N)) = false := e
    rw [Bool.or_eq_false_iff] at e
    by_cases q : h = N
    · subst q
      have := of_decide_eq_false e.2
      exact Decidable.of_not_not this
    · exact z_df_no N e.1 h (by omega)
theorem z_tp2_ge {V : Nat → Int32} {m man : Nat} : ∀ N h, h < N → z_lean V m man (z_sl V m man) h ≤ z_tp2 V m man N ∧ z_lean V m man (z_lk V m man) h ≤ z_tp2 V m man N
  | 0, h, hh => by omega
  | N + 1, h, hh => by
    have e : z_tp2 V m man (N+1) = max (z_tp2 V m man N) (max (z_lean V m man (z_sl V m man) N) (z_lean V m man (z_lk V m man) N)) := rfl
    rw [e]
    by_cases q : h = N
    · subst q; omega
    · have := z_tp2_ge (V := V) (m := m) (man := man) N h (by omega); omega
theorem z_tp2_le {V : Nat → Int32} {m man : Nat} : ∀ N, z_tp2 V m man N ≤ 999
  | 0 => Nat.zero_le _
  | N + 1 => by
    have h1 : z_lean V m man (z_sl V m man) N ≤ 999 := z_cl_le _ _
    have h2 : z_lean V m man (z_lk V m man) N ≤ 999 := z_cl_le _ _
    have h3 := z_tp2_le (V := V) (m := m) (man := man) N
    have e : z_tp2 V m man (N+1) = max (z_tp2 V m man N) (max (z_lean V m man (z_sl V m man) N) (z_lean V m man (z_lk V m man) N)) := rfl
    rw [e]; omega
theorem z_ls_le {V : Nat → Int32} {m k : Nat} : ∀ N h, h < N → z_ls V m k N ≤ z_lean V m k (z_lk V m k) h
  | 0, h, hh => by omega
  | N + 1, h, hh => by
    have e : z_ls V m k (N+1) = min (z_ls V m k N) (z_lean V m k (z_lk V m k) N) := rfl
    rw [e]
    by_cases q : h = N
    · subst q; omega
    · have := z_ls_le (V := V) (m := m) (k := k) N h (by omega); omega
theorem z_ls_9 {V : Nat → Int32} {m k : Nat} : ∀ N, z_ls V m k N ≤ 999
  | 0 => Nat.le_refl _
  | N + 1 => by
    have h3 := z_ls_9 (V := V) (m := m) (k := k) N
    have e : z_ls V m k (N+1) = min (z_ls V m k N) (z_lean V m k (z_lk V m k) N) := rfl
    rw [e]; omega
theorem z_pf_yes {V : Nat → Int32} {m man top N : Nat} : ∀ j k, z_pf V m man top N j k = true → ∃ o, o < k + j ∧ o ≠ man ∧ (top < z_ls V m o N ∨ (z_ls V m o N = top ∧ o < man))
  | 0, k, h => by cases h
  | j + 1, k, h => by
    have e : z_pf V m man top N (j+1) k = if k ≠ man ∧ (top < z_ls V m k N ∨ (z_ls V m k N = top ∧ k < man)) then true else z_pf V m man top N j (k+1) := rfl
    by_cases q : k ≠ man ∧ (top < z_ls V m k N ∨ (z_ls V m k N = top ∧ k < man))
    · exact ⟨k, by omega, q.1, q.2⟩
    · rw [e, if_neg q] at h
      obtain ⟨o, o1, o2, o3⟩ := z_pf_yes j (k+1) h
      exact ⟨o, by omega, o2, o3⟩
/-- one whom his salt may move (LAME or not) -/
def z_mq (V : Nat → Int32) (man me m : Nat) : Bool := z_df V m man (z_cnt (z_hs V m) 12 + 1) && (decide (z_need V m ≤ z_tp2 V m man (z_cnt (z_hs V m) 12 + 1)) && !z_pf V m man (z_tp2 V m man (z_cnt (z_hs V m) 12 + 1)) (z_cnt (z_hs V m) 12 + 1) me 0)
def z_mv (V : Nat → Int32) (man mu me lame : Nat) : Nat := z_set (fun m => z_mq V man me m && !lame.testBit m) mu
theorem z_pw_pick {V : Nat → Int32} {man mu me lame S : Nat} (B : Nat → Nat) (m : Nat) (hm : m < mu) (hl : lame.testBit m = false) : z_pick (z_pw V man (S &&& z_mv V man mu me lame) mu me) B m = z_pick (z_pw V man S mu me) B m := by
  rw [z_pw_pk, z_pw_pk]
  by_cases q : (S &&& z_mv V man mu me lame).testBit m = S.testBit m
  · rw [q]
  · have hS : S.testBit m = true := by
      cases h : S.testBit m with
      | true => rfl
      | false => exact absurd (by rw [Nat.testBit_and, h, Bool.false_and]) q
    have hS' : (S &&& z_mv V man mu me lame).testBit m = false := z_bf (fun h => q (h.trans hS.symm))
    have hmq : z_mq V man me m = false := by
      rw [Nat.testBit_and, hS, Bool.true_and] at hS'
      unfold z_mv at hS'
      rw [z_set_tb, decide_eq_true hm, Bool.true_and, hl] at hS'
      simpa using hS'
    rw [hS, hS']
    have e1 : (fun k => z_lean V m k (if k = man ∧ false = true then z_sl V m man else z_lk V m k) (z_cnt (z_hs V m &&& z_side B k mu) 12)) = fun k => z_lean V m k (z_lk V m k) (z_cnt (z_hs V m &&& z_side B k mu) 12) := by
      funext k
      rw [if_neg (fun h => by cases h.2)]
    have e2 : (fun k => z_lean V m k (if k = man ∧ true = true then z_sl V m man else z_lk V m k) (z_cnt (z_hs V m &&& z_side B k mu) 12)) = fun k => z_lean V m k (if k = man then z_sl V m man else z_lk V m k) (z_cnt (z_hs V m &&& z_side B k mu) 12) := by
      funext k
      by_cases q : k = man
      · rw [if_pos ⟨q, rfl⟩, if_pos q]
      · rw [if_neg (fun h => q h.1), if_neg q]
    rw [e1, e2]
    have hh : ∀ k, z_cnt (z_hs V m &&& z_side B k mu) 12 < z_cnt (z_hs V m) 12 + 1 := fun k => by
      have : z_cnt (z_hs V m &&& z_side B k mu) 12 ≤ z_cnt (z_hs V m) 12 := z_cnt_mono (fun i hi => by
        rw [Nat.testBit_and] at hi
        cases h : (z_hs V m).testBit i with
        | true => rfl
        | false => rw [h] at hi; cases hi) 12
      exact Nat.lt_succ_of_le this
    have a1 : (if man = man then z_sl V m man else z_lk V m man) = z_sl V m man := if_pos rfl
    refine z_ch_move (man := man) (fun k hk hkm => ?_) ?_
    · show z_lean V m k (z_lk V m k) _ = z_lean V m k (if k = man then z_sl V m man else z_lk V m k) _
      rw [if_neg hkm]
    · have hk := hh man
      obtain ⟨t1, t2⟩ := z_tp2_ge (V := V) (m := m) (man := man) _ _ hk
      unfold z_mq at hmq
      rw [Bool.and_eq_false_iff, Bool.and_eq_false_iff] at hmq
      rcases hmq with h | h | h
      · refine Or.inl ?_
        show z_lean V m man (z_lk V m man) _ = z_lean V m man (if man = man then z_sl V m man else z_lk V m man) _
        rw [a1]
        exact (z_df_no _ h _ hk).symm
      · have := of_decide_eq_false h
        refine Or.inr (Or.inl ⟨?_, ?_⟩)
        · show z_lean V m man (z_lk V m man) _ < z_need V m
          omega
        · show z_lean V m man (if man = man then z_sl V m man else z_lk V m man) _ < z_need V m
          rw [a1]
          omega
      · have h : z_pf V m man (z_tp2 V m man (z_cnt (z_hs V m) 12 + 1)) (z_cnt (z_hs V m) 12 + 1) me 0 = true := by
          cases hq : z_pf V m man (z_tp2 V m man (z_cnt (z_hs V m) 12 + 1)) (z_cnt (z_hs V m) 12 + 1) me 0 with
          | true => rfl
          | false => rw [hq] at h; cases h
        obtain ⟨o, o1, o2, o3⟩ := z_pf_yes _ _ h
        have ho := z_ls_le (V := V) (m := m) (k := o) _ _ (hh o)
        refine Or.inr (Or.inr ⟨o, by omega, o2, ?_, ?_⟩)
        · show z_lean V m man (z_lk V m man) _ < z_lean V m o (z_lk V m o) _ ∨ (z_lean V m man (z_lk V m man) _ = z_lean V m o (z_lk V m o) _ ∧ o < man)
          omega
        · show z_lean V m man (if man = man then z_sl V m man else z_lk V m man) _ < z_lean V m o (if o = man then z_sl V m man else z_lk V m o) _ ∨ (z_lean V m man (if man = man then z_sl V m man else z_lk V m man) _ = z_lean V m o (if o = man then z_sl V m man else z_lk V m o) _ ∧ o < man)
          rw [a1, if_neg o2]
          omega
/-- salt for those whom it doesn't move is of no account -/
theorem z_pw_moved {V : Nat → Int32} {man mu me lame S : Nat} : z_drv (z_pw V man (S &&& z_mv V man mu me lame) mu me) (fun i => lame.testBit i) = z_drv (z_pw V man S mu me) (fun i => lame.testBit i) :=
  z_drv_pick (p := z_pw V man S mu me) z_pw_mu z_pw_mu z_pw_me z_pw_me (fun B m hm hl => z_pw_pick B m hm hl)
/-! the search -/
def z_wr (d : Nat → Bool) : Nat → Nat
  | 0 => 0
  | i + 1 => if (z_wr d i = 0 ∨ z_cnt i 12 < z_cnt (z_wr d i - 1) 12) ∧ d i = true then i + 1 else z_wr d i
theorem z_wr_spec {d : Nat → Bool} : ∀ i, (z_wr d i = 0 → ∀ s, s < i → d s = false) ∧ (∀ t, z_wr d i = t + 1 → t < i ∧ d t = true ∧ ∀ s, s < i → d s = true → z_cnt t 12 ≤ z_cnt s 12 ∧ (z_cnt s 12 = z_cnt t 12 → t ≤ s))
  | 0 => ⟨fun _ s hs => by omega, fun t ht => by cases ht⟩
  | i + 1 => by
    obtain ⟨h1, h2⟩ := z_wr_spec (d := d) i
    have e : z_wr d (i+1) = if (z_wr d i = 0 ∨ z_cnt i 12 < z_cnt (z_wr d i - 1) 12) ∧ d i = true then i + 1 else z_wr d i := rfl
    by_cases q : (z_wr d i = 0 ∨ z_cnt i 12 < z_cnt (z_wr d i - 1) 12) ∧ d i = true
    · rw [e, if_pos q]
      refine ⟨fun h => by omega, fun t ht => ?_⟩
      have ht : t = i := by omega
      subst ht
      refine ⟨by omega, q.2, fun s hs hd => ?_⟩
      by_cases q2 : s = t
      · subst q2; exact ⟨Nat.le_refl _, fun _ => Nat.le_refl _⟩
      · rcases q.1 with h0 | h0
        · have := h1 h0 s (by omega)
          rw [this] at hd; cases hd
        · cases hw : z_wr d t with
          | zero =>
            have := h1 hw s (by omega)
            rw [this] at hd; cases hd
          | succ u =>
            obtain ⟨u1, u2, u3⟩ := h2 u hw
            have := (u3 s (by omega) hd).1
            rw [hw, show u + 1 - 1 = u by omega] at h0
            exact ⟨by omega, fun h => by omega⟩
    · rw [e, if_neg q]
      refine ⟨fun h0 s hs => ?_, fun t ht => ?_⟩
      · by_cases q2 : s = i
        · subst q2
          exact z_bf (fun hd => q ⟨Or.inl h0, hd⟩)
        · exact h1 h0 s (by omega)
      · obtain ⟨u1, u2, u3⟩ := h2 t ht
        refine ⟨by omega, u2, fun s hs hd => ?_⟩
        by_cases q2 : s = i
        · subst q2
          have : ¬ z_cnt s 12 < z_cnt t 12 := fun hc => q ⟨Or.inr (by rw [ht, show t + 1 - 1 = t by omega]; exact hc), hd⟩
          exact ⟨by omega, fun h => by omega⟩
        · exact u3 s (by omega) hd
theorem z_cnt_and {a b : Nat} (ha : a < 4096) (h : z_cnt a 12 ≤ z_cnt (a &&& b) 12) : a &&& b = a := by
  apply Nat.eq_of_testBit_eq
  intro i
  rw [Nat.testBit_and]
  cases ha1 : a.testBit i with
  | false => rfl
  | true =>
    cases hb : b.testBit i with
    | true => rfl
    | false =>
      have hi : i < 12 := by
        by_cases q : i < 12
        · exact q
        · rw [z_tb_lt (N := 12) ha (by omega)] at ha1; cases ha1
      have := z_cnt_strict (a := a &&& b) (b := a) (fun j hj => by
        rw [Nat.testBit_and] at hj
        cases hq : a.testBit j with
        | true => rfl
        | false => rw [hq] at hj; cases hj) (j := i) (by rw [Nat.testBit_and, hb, Bool.and_false]; decide) ha1 12 hi
      omega
theorem z_cnt_and_le {a b : Nat} : z_cnt (a &&& b) 12 ≤ z_cnt a 12 ∧ z_cnt (a &&& b) 12 ≤ z_cnt b 12 :=
  ⟨z_cnt_mono (fun i hi => by
    rw [Nat.testBit_and] at hi
    cases hq : a.testBit i with
    | true => rfl
    | false => rw [hq] at hi; cases hi) 12, z_cnt_mono (fun i hi => by
    rw [Nat.testBit_and] at hi
    cases hq : b.testBit i with
    | true => rfl
    | false => rw [hq, Bool.and_false] at hi; cases hi) 12⟩
/-- the best set lies in the moved ones -/
theorem z_wr_mv {d : Nat → Bool} {N M : Nat} (hN : N ≤ 4096) (hd : ∀ s, s < N → d (s &&& M) = d s) {t : Nat} (ht : z_wr d N = t + 1) : t &&& M = t := by
  obtain ⟨t1, t2, t3⟩ := (z_wr_spec N).2 t ht
  have hlt : t &&& M ≤ t := Nat.and_le_left
  have := (t3 (t &&& M) (by omega) (by rw [hd t t1]; exact t2)).1
  exact z_cnt_and (by omega) this
/-! the fewest that are to be given salt: the class's tables -/
theorem c_prepH {m man N lk mu me : Nat} {x3 : Int32} {V : Nat → Int32} {K : Int32 → Int32 → q_Sto → Option (Int32 × q_Sto)} (hm : m < mu) (hk : man < me) (hN : N < 12) (hlk : lk = z_lk V m man) :
    ∀ j i (σ : q_Sto), i ≤ N + 1 → N + 1 < j + i → z_C σ V mu me → (∀ h, h < N + 1 → σ 129 ((m*5+man)*12+h) = nI (z_lean V m man lk h)) → (∀ h, h < i → σ 130 (m*12+h) = nI (z_lean V m man (z_sl V m man) h)) →
    ∃ σ', (∀ o, o ≠ 18 → o ≠ 30 → o ≠ 130 → σ' o = σ o) ∧ (∀ a, a < m*12 → σ' 130 a = σ 130 a) ∧ (∀ h, h < N + 1 → σ' 130 (m*12+h) = nI (z_lean V m man (z_sl V m man) h)) ∧
      f_X0_prepareSalted_L64 q_F 126 1 (nI man) x3 (nI m) (nI (z_sl V m man)) (nI N) K j (z_fb (z_df V m man i)) (nI (z_tp2 V m man i)) (nI i) σ = K (z_fb (z_df V m man (N+1))) (nI (z_tp2 V m man (N+1))) σ' := by
  intro j
  induction j with
  | zero => intro i σ h1 h2; omega
  | succ j ih =>
    intro i σ h1 h2 hC h9 h0
    have hmu := hC.1.1
    have hme := hC.1.2.1
    by_cases hi : i = N + 1
    · subst hi
      refine ⟨σ, fun o _ _ _ => rfl, fun a _ => rfl, h0, ?_⟩
      generalize z_fb (z_df V m man (N+1)) = y
      generalize z_tp2 V m man (N+1) = z
      rw [f_X0_prepareSalted_L64]
      simp (disch := omega) only [↓reduceIte, ↓p_ld, ↓p_st, ↓p_nm, ↓p_nS, ↓p_jn, ↓p_call, ↓p_callv, ↓p_dv, ↓p_rem, h_ldE, h_stE, h_nmE, h_nSE, h_callE, h_callvE, h_dvE, h_remE, if_true, if_false, z_upS, z_upO, z_upK, nI_add, z_mul, z_sub, z_div, Nat.add_zero, Nat.mul_zero, Nat.zero_add, Nat.sub_zero, Nat.zero_mul, z_ltT, z_ltF, z_leT, z_leF, z_eqT, z_eqF, z_inT, z_clT, not_true_eq_false, not_false_eq_true, eq_self, true_or, or_true, z_m_lt, z_m_le, z_lt_m, z_le_m, z_eq_m, z_m_eq, z_rz0, z_rz1, z_m_add, z_of, r_0_0, r_0_1, r_0_3, r_0_4, r_0_5, r_0_6, r_0_7, r_0_8, r_0_9, r_0_10, r_1_0, r_1_1, r_1_2, r_1_3, r_1_4, r_1_5, r_1_6, r_1_7, r_1_8, r_2_0, r_2_1, r_2_2, r_2_3, r_2_4, r_2_5, r_2_6, r_2_7, r_11_0, r_11_1, r_11_2, r_11_3, r_11_4, r_11_5, r_11_6, r_19_0, r_21_0, r_23_0, r_25_0, r_27_0, r_61_0, r_117_0, r_117_1, r_117_2, r_117_3, r_117_4, r_117_5, r_117_6, r_117_7, r_126_0, r_126_1, r_126_2, r_126_3, r_126_4, r_132_0, r_132_1, r_135_0, r_135_1, r_135_2, r_135_3, r_135_4, r_135_5, r_142_0, r_144_0, r_144_1, r_144_2, r_145_0, r_145_1, r_145_2, r_145_3, r_145_4, r_145_5, r_145_6, r_154_0, r_154_1, r_155_0, ↓z_m1, l_0, l_1, l_2, l_3, l_4, l_5, l_6, l_7, l_8, l_9, l_10, l_11, l_12, l_13, l_14, l_15, l_16, l_17, l_18, l_19, l_20, l_21, l_22, l_23, l_24, l_25, l_26, l_27, l_28, l_29, l_30, l_31, l_32, l_33, l_34, l_35, l_36, l_37, l_38, l_39, l_40, l_41, l_42, l_43, l_44, l_45, l_46, l_47, l_48, l_49, l_50, l_51, l_52, l_53, l_54, l_55, l_56, l_57, l_59, l_60, l_61, l_62, l_63, l_64, l_65, l_80, l_86, l_87, l_88, l_89, l_90, l_91, l_92, l_93, l_94, l_95, l_97, l_99, l_100, l_107, l_119, l_122, l_124, l_129, l_140, l_141, l_142, l_143, l_144, l_145, l_147, l_150, l_159, l_160, l_161, l_162, l_205, l_253, l_255, l_256, l_269, l_305, l_380, l_399, l_400, l_420, l_430, l_516, l_600, l_720, l_820, l_905, l_921, l_937, l_953, l_970, l_999, l_1000, l_1790, l_4096, l_9999, l_1000000]
    · obtain ⟨σ1, f1, f2⟩ := c_leanOf (lk := z_sl V m man) (hd := i) hC z_F402 hm hk
      have g9 : σ1 129 ((m*5+man)*12+i) = nI (z_lean V m man lk i) := by rw [f1 129 (by omega) (by omega)]; exact h9 i (by omega)
      obtain ⟨σ', g1, g2, g3, g4⟩ := ih (i+1) (q_up σ1 130 (m*12+i) (nI (z_lean V m man (z_sl V m man) i))) (by omega) (by omega) (hC.fr (fun o o1 o2 o3 => by rw [z_upO (by omega), f1 o (by omega) (by omega)])) (fun h hh => by rw [z_upO (by omega), f1 129 (by omega) (by omega)]; exact h9 h hh) (fun h hh => by
        by_cases e : h = i
        · subst e; exact z_upS
        · rw [z_upK (by omega), f1 130 (by omega) (by omega)]; exact h0 h (by omega))
      refine ⟨σ', fun o o1 o2 o3 => by rw [g1 o o1 o2 o3, z_upO o3, f1 o o1 o2], fun a ha => by rw [g2 a ha, z_upK (by omega), f1 130 (by omega) (by omega)], g3, ?_⟩
      have e1 : z_df V m man (i+1) = (z_df V m man i || decide (z_lean V m man (z_sl V m man) i ≠ z_lean V m man (z_lk V m man) i)) := rfl
      have e2 : z_tp2 V m man (i+1) = max (z_tp2 V m man i) (max (z_lean V m man (z_sl V m man) i) (z_lean V m man (z_lk V m man) i)) := rfl
      have b1 : z_lean V m man (z_sl V m man) i ≤ 999 := z_cl_le _ _
      have b2 : z_lean V m man lk i ≤ 999 := z_cl_le _ _
      have b3 := z_tp2_le (V := V) (m := m) (man := man) i
      rw [e1, e2, ← hlk] at g4
      rw [← g4, f_X0_prepareSalted_L64]
      have hsl : z_sl V m man ≤ 99 := by unfold z_sl; omega
      generalize z_lean V m man (z_sl V m man) i = A at *
      generalize z_lean V m man lk i = A2 at *
      generalize z_tp2 V m man i = T at *
      generalize z_df V m man i = D at *
      generalize z_sl V m man = sl at *
      have ez : z_fb false = nI 0 := rfl
      have ez1 : z_fb true = nI 1 := rfl
      cases D with
      | true =>
        rw [Bool.true_or, ez1]
        simp (disch := omega) only [f2, g9, z_mxE, ↓reduceIte, ↓p_ld, ↓p_st, ↓p_nm, ↓p_nS, ↓p_jn, ↓p_call, ↓p_callv, ↓p_dv, ↓p_rem, h_ldE, h_stE, h_nmE, h_nSE, h_callE, h_callvE, h_dvE, h_remE, if_true, if_false, z_upS, z_upO, z_upK, nI_add, z_mul, z_sub, z_div, Nat.add_zero, Nat.mul_zero, Nat.zero_add, Nat.sub_zero, Nat.zero_mul, z_ltT, z_ltF, z_leT, z_leF, z_eqT, z_eqF, z_inT, z_clT, not_true_eq_false, not_false_eq_true, eq_self, true_or, or_true, z_m_lt, z_m_le, z_lt_m, z_le_m, z_eq_m, z_m_eq, z_rz0, z_rz1, z_m_add, z_of, r_0_0, r_0_1, r_0_3, r_0_4, r_0_5, r_0_6, r_0_7, r_0_8, r_0_9, r_0_10, r_1_0, r_1_1, r_1_2, r_1_3, r_1_4, r_1_5, r_1_6, r_1_7, r_1_8, r_2_0, r_2_1, r_2_2, r_2_3, r_2_4, r_2_5, r_2_6, r_2_7, r_11_0, r_11_1, r_11_2, r_11_3, r_11_4, r_11_5, r_11_6, r_19_0, r_21_0, r_23_0, r_25_0, r_27_0, r_61_0, r_117_0, r_117_1, r_117_2, r_117_3, r_117_4, r_117_5, r_117_6, r_117_7, r_126_0, r_126_1, r_126_2, r_126_3, r_126_4, r_132_0, r_132_1, r_135_0, r_135_1, r_135_2, r_135_3, r_135_4, r_135_5, r_142_0, r_144_0, r_144_1, r_144_2, r_145_0, r_145_1, r_145_2, r_145_3, r_145_4, r_145_5, r_145_6, r_154_0, r_154_1, r_155_0, ↓z_m1, l_0, l_1, l_2, l_3, l_4, l_5, l_6, l_7, l_8, l_9, l_10, l_11, l_12, l_13, l_14, l_15, l_16, l_17, l_18, l_19, l_20, l_21, l_22, l_23, l_24, l_25, l_26, l_27, l_28, l_29, l_30, l_31, l_32, l_33, l_34, l_35, l_36, l_37, l_38, l_39, l_40, l_41, l_42, l_43, l_44, l_45, l_46, l_47, l_48, l_49, l_50, l_51, l_52, l_53, l_54, l_55, l_56, l_57, l_59, l_60, l_61, l_62, l_63, l_64, l_65, l_80, l_86, l_87, l_88, l_89, l_90, l_91, l_92, l_93, l_94, l_95, l_97, l_99, l_100, l_107, l_119, l_122, l_124, l_129, l_140, l_141, l_142, l_143, l_144, l_145, l_147, l_150, l_159, l_160, l_161, l_162, l_205, l_253, l_255, l_256, l_269, l_305, l_380, l_399, l_400, l_420, l_430, l_516, l_600, l_720, l_820, l_905, l_921, l_937, l_953, l_970, l_999, l_1000, l_1790, l_4096, l_9999, l_1000000]
      | false =>
        rw [Bool.false_or, ez]
        by_cases q : A = A2
        · subst q
          rw [decide_eq_false (show ¬ A ≠ A from fun h => h rfl), ez]
          simp (disch := omega) only [f2, g9, z_mxE, ↓reduceIte, ↓p_ld, ↓p_st, ↓p_nm, ↓p_nS, ↓p_jn, ↓p_call, ↓p_callv, ↓p_dv, ↓p_rem, h_ldE, h_stE, h_nmE, h_nSE, h_callE, h_callvE, h_dvE, h_remE, if_true, if_false, z_upS, z_upO, z_upK, nI_add, z_mul, z_sub, z_div, Nat.add_zero, Nat.mul_zero, Nat.zero_add, Nat.sub_zero, Nat.zero_mul, z_ltT, z_ltF, z_leT, z_leF, z_eqT, z_eqF, z_inT, z_clT, not_true_eq_false, not_false_eq_true, eq_self, true_or, or_true, z_m_lt, z_m_le, z_lt_m, z_le_m, z_eq_m, z_m_eq, z_rz0, z_rz1, z_m_add, z_of, r_0_0, r_0_1, r_0_3, r_0_4, r_0_5, r_0_6, r_0_7, r_0_8, r_0_9, r_0_10, r_1_0, r_1_1, r_1_2, r_1_3, r_1_4, r_1_5, r_1_6, r_1_7, r_1_8, r_2_0, r_2_1, r_2_2, r_2_3, r_2_4, r_2_5, r_2_6, r_2_7, r_11_0, r_11_1, r_11_2, r_11_3, r_11_4, r_11_5, r_11_6, r_19_0, r_21_0, r_23_0, r_25_0, r_27_0, r_61_0, r_117_0, r_117_1, r_117_2, r_117_3, r_117_4, r_117_5, r_117_6, r_117_7, r_126_0, r_126_1, r_126_2, r_126_3, r_126_4, r_132_0, r_132_1, r_135_0, r_135_1, r_135_2, r_135_3, r_135_4, r_135_5, r_142_0, r_144_0, r_144_1, r_144_2, r_145_0, r_145_1, r_145_2, r_145_3, r_145_4, r_145_5, r_145_6, r_154_0, r_154_1, r_155_0, ↓z_m1, l_0, l_1, l_2, l_3, l_4, l_5, l_6, l_7, l_8, l_9, l_10, l_11, l_12, l_13, l_14, l_15, l_16, l_17, l_18, l_19, l_20, l_21, l_22, l_23, l_24, l_25, l_26, l_27, l_28, l_29, l_30, l_31, l_32, l_33, l_34, l_35, l_36, l_37, l_38, l_39, l_40, l_41, l_42, l_43, l_44, l_45, l_46, l_47, l_48, l_49, l_50, l_51, l_52, l_53, l_54, l_55, l_56, l_57, l_59, l_60, l_61, l_62, l_63, l_64, l_65, l_80, l_86, l_87, l_88, l_89, l_90, l_91, l_92, l_93, l_94, l_95, l_97, l_99, l_100, l_107, l_119, l_122, l_124, l_129, l_140, l_141, l_142, l_143, l_144, l_145, l_147, l_150, l_159, l_160, l_161, l_162, l_205, l_253, l_255, l_256, l_269, l_305, l_380, l_399, l_400, l_420, l_430, l_516, l_600, l_720, l_820, l_905, l_921, l_937, l_953, l_970, l_999, l_1000, l_1790, l_4096, l_9999, l_1000000]
        · rw [decide_eq_true q, ez1]
          simp (disch := omega) only [f2, g9, z_mxE, ↓reduceIte, ↓p_ld, ↓p_st, ↓p_nm, ↓p_nS, ↓p_jn, ↓p_call, ↓p_callv, ↓p_dv, ↓p_rem, h_ldE, h_stE, h_nmE, h_nSE, h_callE, h_callvE, h_dvE, h_remE, if_true, if_false, z_upS, z_upO, z_upK, nI_add, z_mul, z_sub, z_div, Nat.add_zero, Nat.mul_zero, Nat.zero_add, Nat.sub_zero, Nat.zero_mul, z_ltT, z_ltF, z_leT, z_leF, z_eqT, z_eqF, z_inT, z_clT, not_true_eq_false, not_false_eq_true, eq_self, true_or, or_true, z_m_lt, z_m_le, z_lt_m, z_le_m, z_eq_m, z_m_eq, z_rz0, z_rz1, z_m_add, z_of, r_0_0, r_0_1, r_0_3, r_0_4, r_0_5, r_0_6, r_0_7, r_0_8, r_0_9, r_0_10, r_1_0, r_1_1, r_1_2, r_1_3, r_1_4, r_1_5, r_1_6, r_1_7, r_1_8, r_2_0, r_2_1, r_2_2, r_2_3, r_2_4, r_2_5, r_2_6, r_2_7, r_11_0, r_11_1, r_11_2, r_11_3, r_11_4, r_11_5, r_11_6, r_19_0, r_21_0, r_23_0, r_25_0, r_27_0, r_61_0, r_117_0, r_117_1, r_117_2, r_117_3, r_117_4, r_117_5, r_117_6, r_117_7, r_126_0, r_126_1, r_126_2, r_126_3, r_126_4, r_132_0, r_132_1, r_135_0, r_135_1, r_135_2, r_135_3, r_135_4, r_135_5, r_142_0, r_144_0, r_144_1, r_144_2, r_145_0, r_145_1, r_145_2, r_145_3, r_145_4, r_145_5, r_145_6, r_154_0, r_154_1, r_155_0, ↓z_m1, l_0, l_1, l_2, l_3, l_4, l_5, l_6, l_7, l_8, l_9, l_10, l_11, l_12, l_13, l_14, l_15, l_16, l_17, l_18, l_19, l_20, l_21, l_22, l_23, l_24, l_25, l_26, l_27, l_28, l_29, l_30, l_31, l_32, l_33, l_34, l_35, l_36, l_37, l_38, l_39, l_40, l_41, l_42, l_43, l_44, l_45, l_46, l_47, l_48, l_49, l_50, l_51, l_52, l_53, l_54, l_55, l_56, l_57, l_59, l_60, l_61, l_62, l_63, l_64, l_65, l_80, l_86, l_87, l_88, l_89, l_90, l_91, l_92, l_93, l_94, l_95, l_97, l_99, l_100, l_107, l_119, l_122, l_124, l_129, l_140, l_141, l_142, l_143, l_144, l_145, l_147, l_150, l_159, l_160, l_161, l_162, l_205, l_253, l_255, l_256, l_269, l_305, l_380, l_399, l_400, l_420, l_430, l_516, l_600, l_720, l_820, l_905, l_921, l_937, l_953, l_970, l_999, l_1000, l_1790, l_4096, l_9999, l_1000000]
theorem c_pref47 {m man k top N : Nat} {V : Nat → Int32} {σ : q_Sto} {K : Int32 → q_Sto → Option (Int32 × q_Sto)} (hm : m < 12) (hk : k < 5) (hN : N < 12) (h9 : ∀ h, h < N + 1 → σ 129 ((m*5+k)*12+h) = nI (z_lean V m k (z_lk V m k) h)) :
    ∀ j i, i ≤ N + 1 → N + 1 < j + i → f_X0_prefersAnother_L47 q_F 126 (nI m) (nI man) (nI top) (nI k) (nI N) K j (nI (z_ls V m k i)) (nI i) σ = K (nI (z_ls V m k (N+1))) σ := by
  intro j
  induction j with
  | zero => intro i h1 h2; omega
  | succ j ih =>
    intro i h1 h2
    by_cases hi : i = N + 1
    · subst hi
      generalize z_ls V m k (N+1) = z
      rw [f_X0_prefersAnother_L47]
      simp (disch := omega) only [↓reduceIte, ↓p_ld, ↓p_st, ↓p_nm, ↓p_nS, ↓p_jn, ↓p_call, ↓p_callv, ↓p_dv, ↓p_rem, h_ldE, h_stE, h_nmE, h_nSE, h_callE, h_callvE, h_dvE, h_remE, if_true, if_false, z_upS, z_upO, z_upK, nI_add, z_mul, z_sub, z_div, Nat.add_zero, Nat.mul_zero, Nat.zero_add, Nat.sub_zero, Nat.zero_mul, z_ltT, z_ltF, z_leT, z_leF, z_eqT, z_eqF, z_inT, z_clT, not_true_eq_false, not_false_eq_true, eq_self, true_or, or_true, z_m_lt, z_m_le, z_lt_m, z_le_m, z_eq_m, z_m_eq, z_rz0, z_rz1, z_m_add, z_of, r_0_0, r_0_1, r_0_3, r_0_4, r_0_5, r_0_6, r_0_7, r_0_8, r_0_9, r_0_10, r_1_0, r_1_1, r_1_2, r_1_3, r_1_4, r_1_5, r_1_6, r_1_7, r_1_8, r_2_0, r_2_1, r_2_2, r_2_3, r_2_4, r_2_5, r_2_6, r_2_7, r_11_0, r_11_1, r_11_2, r_11_3, r_11_4, r_11_5, r_11_6, r_19_0, r_21_0, r_23_0, r_25_0, r_27_0, r_61_0, r_117_0, r_117_1, r_117_2, r_117_3, r_117_4, r_117_5, r_117_6, r_117_7, r_126_0, r_126_1, r_126_2, r_126_3, r_126_4, r_132_0, r_132_1, r_135_0, r_135_1, r_135_2, r_135_3, r_135_4, r_135_5, r_142_0, r_144_0, r_144_1, r_144_2, r_145_0, r_145_1, r_145_2, r_145_3, r_145_4, r_145_5, r_145_6, r_154_0, r_154_1, r_155_0, ↓z_m1, l_0, l_1, l_2, l_3, l_4, l_5, l_6, l_7, l_8, l_9, l_10, l_11, l_12, l_13, l_14, l_15, l_16, l_17, l_18, l_19, l_20, l_21, l_22, l_23, l_24, l_25, l_26, l_27, l_28, l_29, l_30, l_31, l_32, l_33, l_34, l_35, l_36, l_37, l_38, l_39, l_40, l_41, l_42, l_43, l_44, l_45, l_46, l_47, l_48, l_49, l_50, l_51, l_52, l_53, l_54, l_55, l_56, l_57, l_59, l_60, l_61, l_62, l_63, l_64, l_65, l_80, l_86, l_87, l_88, l_89, l_90, l_91, l_92, l_93, l_94, l_95, l_97, l_99, l_100, l_107, l_119, l_122, l_124, l_129, l_140, l_141, l_142, l_143, l_144, l_145, l_147, l_150, l_159, l_160, l_161, l_162, l_205, l_253, l_255, l_256, l_269, l_305, l_380, l_399, l_400, l_420, l_430, l_516, l_600, l_720, l_820, l_905, l_921, l_937, l_953, l_970, l_999, l_1000, l_1790, l_4096, l_9999, l_1000000]
    · have ih := ih (i+1) (by omega) (by omega)
      have e : z_ls V m k (i+1) = min (z_ls V m k i) (z_lean V m k (z_lk V m k) i) := rfl
      have g := h9 i (by omega)
      have b1 : z_lean V m k (z_lk V m k) i ≤ 999 := z_cl_le _ _
      have b2 := z_ls_9 (V := V) (m := m) (k := k) i
      rw [e] at ih
      rw [← ih, f_X0_prefersAnother_L47]
      generalize z_lean V m k (z_lk V m k) i = A at *
      generalize z_ls V m k i = L at *
      simp (disch := omega) only [g, z_mnE, ↓reduceIte, ↓p_ld, ↓p_st, ↓p_nm, ↓p_nS, ↓p_jn, ↓p_call, ↓p_callv, ↓p_dv, ↓p_rem, h_ldE, h_stE, h_nmE, h_nSE, h_callE, h_callvE, h_dvE, h_remE, if_true, if_false, z_upS, z_upO, z_upK, nI_add, z_mul, z_sub, z_div, Nat.add_zero, Nat.mul_zero, Nat.zero_add, Nat.sub_zero, Nat.zero_mul, z_ltT, z_ltF, z_leT, z_leF, z_eqT, z_eqF, z_inT, z_clT, not_true_eq_false, not_false_eq_true, eq_self, true_or, or_true, z_m_lt, z_m_le, z_lt_m, z_le_m, z_eq_m, z_m_eq, z_rz0, z_rz1, z_m_add, z_of, r_0_0, r_0_1, r_0_3, r_0_4, r_0_5, r_0_6, r_0_7, r_0_8, r_0_9, r_0_10, r_1_0, r_1_1, r_1_2, r_1_3, r_1_4, r_1_5, r_1_6, r_1_7, r_1_8, r_2_0, r_2_1, r_2_2, r_2_3, r_2_4, r_2_5, r_2_6, r_2_7, r_11_0, r_11_1, r_11_2, r_11_3, r_11_4, r_11_5, r_11_6, r_19_0, r_21_0, r_23_0, r_25_0, r_27_0, r_61_0, r_117_0, r_117_1, r_117_2, r_117_3, r_117_4, r_117_5, r_117_6, r_117_7, r_126_0, r_126_1, r_126_2, r_126_3, r_126_4, r_132_0, r_132_1, r_135_0, r_135_1, r_135_2, r_135_3, r_135_4, r_135_5, r_142_0, r_144_0, r_144_1, r_144_2, r_145_0, r_145_1, r_145_2, r_145_3, r_145_4, r_145_5, r_145_6, r_154_0, r_154_1, r_155_0, ↓z_m1, l_0, l_1, l_2, l_3, l_4, l_5, l_6, l_7, l_8, l_9, l_10, l_11, l_12, l_13, l_14, l_15, l_16, l_17, l_18, l_19, l_20, l_21, l_22, l_23, l_24, l_25, l_26, l_27, l_28, l_29, l_30, l_31, l_32, l_33, l_34, l_35, l_36, l_37, l_38, l_39, l_40, l_41, l_42, l_43, l_44, l_45, l_46, l_47, l_48, l_49, l_50, l_51, l_52, l_53, l_54, l_55, l_56, l_57, l_59, l_60, l_61, l_62, l_63, l_64, l_65, l_80, l_86, l_87, l_88, l_89, l_90, l_91, l_92, l_93, l_94, l_95, l_97, l_99, l_100, l_107, l_119, l_122, l_124, l_129, l_140, l_141, l_142, l_143, l_144, l_145, l_147, l_150, l_159, l_160, l_161, l_162, l_205, l_253, l_255, l_256, l_269, l_305, l_380, l_399, l_400, l_420, l_430, l_516, l_600, l_720, l_820, l_905, l_921, l_937, l_953, l_970, l_999, l_1000, l_1790, l_4096, l_9999, l_1000000]
theorem c_pref_L {m man top N mu me : Nat} {V : Nat → Int32} {σ : q_Sto} (hmu : mu ≤ 12) (hm : m < mu) (hme : me ≤ 5) (hman : man < me) (htop : top ≤ 999) (hs : z_hs V m < 4096) (hcn : z_cnt (z_hs V m) 12 = N) (hN : N < 12) (h6 : σ 126 6 = nI me) (h8 : σ 128 m = nI (z_hs V m)) (h9 : ∀ k h, k < me → h < N + 1 → σ 129 ((m*5+k)*12+h) = nI (z_lean V m k (z_lk V m k) h)) :
    ∀ i k f, k + i = me → f_X0_prefersAnother_L3 q_F 126 (nI m) (nI man) (nI top) (i+1+f) (nI k) σ = some (z_fb (z_pf V m man top (N+1) i k), σ) := by
  have ec := c_bitCount (n := q_F) (σ := σ) hs
  rw [hcn] at ec
  intro i
  induction i with
  | zero =>
    intro k f hk
    rw [show 0 + 1 + f = f + 1 by omega, f_X0_prefersAnother_L3]
    have ez : z_fb (z_pf V m man top (N+1) 0 k) = nI 0 := rfl
    rw [ez]
    simp (disch := omega) only [h6, ↓reduceIte, ↓p_ld, ↓p_st, ↓p_nm, ↓p_nS, ↓p_jn, ↓p_call, ↓p_callv, ↓p_dv, ↓p_rem, h_ldE, h_stE, h_nmE, h_nSE, h_callE, h_callvE, h_dvE, h_remE, if_true, if_false, z_upS, z_upO, z_upK, nI_add, z_mul, z_sub, z_div, Nat.add_zero, Nat.mul_zero, Nat.zero_add, Nat.sub_zero, Nat.zero_mul, z_ltT, z_ltF, z_leT, z_leF, z_eqT, z_eqF, z_inT, z_clT, not_true_eq_false, not_false_eq_true, eq_self, true_or, or_true, z_m_lt, z_m_le, z_lt_m, z_le_m, z_eq_m, z_m_eq, z_rz0, z_rz1, z_m_add, z_of, r_0_0, r_0_1, r_0_3, r_0_4, r_0_5, r_0_6, r_0_7, r_0_8, r_0_9, r_0_10, r_1_0, r_1_1, r_1_2, r_1_3, r_1_4, r_1_5, r_1_6, r_1_7, r_1_8, r_2_0, r_2_1, r_2_2, r_2_3, r_2_4, r_2_5, r_2_6, r_2_7, r_11_0, r_11_1, r_11_2, r_11_3, r_11_4, r_11_5, r_11_6, r_19_0, r_21_0, r_23_0, r_25_0, r_27_0, r_61_0, r_117_0, r_117_1, r_117_2, r_117_3, r_117_4, r_117_5, r_117_6, r_117_7, r_126_0, r_126_1, r_126_2, r_126_3, r_126_4, r_132_0, r_132_1, r_135_0, r_135_1, r_135_2, r_135_3, r_135_4, r_135_5, r_142_0, r_144_0, r_144_1, r_144_2, r_145_0, r_145_1, r_145_2, r_145_3, r_145_4, r_145_5, r_145_6, r_154_0, r_154_1, r_155_0, ↓z_m1, l_0, l_1, l_2, l_3, l_4, l_5, l_6, l_7, l_8, l_9, l_10, l_11, l_12, l_13, l_14, l_15, l_16, l_17, l_18, l_19, l_20, l_21, l_22, l_23, l_24, l_25, l_26, l_27, l_28, l_29, l_30, l_31, l_32, l_33, l_34, l_35, l_36, l_37, l_38, l_39, l_40, l_41, l_42, l_43, l_44, l_45, l_46, l_47, l_48, l_49, l_50, l_51, l_52, l_53, l_54, l_55, l_56, l_57, l_59, l_60, l_61, l_62, l_63, l_64, l_65, l_80, l_86, l_87, l_88, l_89, l_90, l_91, l_92, l_93, l_94, l_95, l_97, l_99, l_100, l_107, l_119, l_122, l_124, l_129, l_140, l_141, l_142, l_143, l_144, l_145, l_147, l_150, l_159, l_160, l_161, l_162, l_205, l_253, l_255, l_256, l_269, l_305, l_380, l_399, l_400, l_420, l_430, l_516, l_600, l_720, l_820, l_905, l_921, l_937, l_953, l_970, l_999, l_1000, l_1790, l_4096, l_9999, l_1000000]
  | succ i ih =>
    intro k f hk
    have ih := ih (k+1) f (by omega)
    have e : z_pf V m man top (N+1) (i+1) k = if k ≠ man ∧ (top < z_ls V m k (N+1) ∨ (z_ls V m k (N+1) = top ∧ k < man)) then true else z_pf V m man top (N+1) i (k+1) := rfl
    have b2 := z_ls_9 (V := V) (m := m) (k := k) (N+1)
    have e47 := fun K => c_pref47 (man := man) (top := top) (σ := σ) (K := K) (show m < 12 by omega) (show k < 5 by omega) hN (fun h hh => h9 k h (by omega) hh) q_F 0 (Nat.zero_le _) (by unfold q_F; omega)
    have e0 : z_ls V m k 0 = 999 := rfl
    rw [e0] at e47
    have ez : z_fb true = nI 1 := rfl
    generalize z_ls V m k (N+1) = L at *
    by_cases q : k = man
    · subst q
      have e := e.trans (if_neg (fun h => h.1 rfl))
      rw [e, ← ih, show i + 1 + 1 + f = (i + 1 + f) + 1 by omega, f_X0_prefersAnother_L3]
      simp (disch := omega) only [h6, h8, ec, e47, ↓reduceIte, ↓p_ld, ↓p_st, ↓p_nm, ↓p_nS, ↓p_jn, ↓p_call, ↓p_callv, ↓p_dv, ↓p_rem, h_ldE, h_stE, h_nmE, h_nSE, h_callE, h_callvE, h_dvE, h_remE, if_true, if_false, z_upS, z_upO, z_upK, nI_add, z_mul, z_sub, z_div, Nat.add_zero, Nat.mul_zero, Nat.zero_add, Nat.sub_zero, Nat.zero_mul, z_ltT, z_ltF, z_leT, z_leF, z_eqT, z_eqF, z_inT, z_clT, not_true_eq_false, not_false_eq_true, eq_self, true_or, or_true, z_m_lt, z_m_le, z_lt_m, z_le_m, z_eq_m, z_m_eq, z_rz0, z_rz1, z_m_add, z_of, r_0_0, r_0_1, r_0_3, r_0_4, r_0_5, r_0_6, r_0_7, r_0_8, r_0_9, r_0_10, r_1_0, r_1_1, r_1_2, r_1_3, r_1_4, r_1_5, r_1_6, r_1_7, r_1_8, r_2_0, r_2_1, r_2_2, r_2_3, r_2_4, r_2_5, r_2_6, r_2_7, r_11_0, r_11_1, r_11_2, r_11_3, r_11_4, r_11_5, r_11_6, r_19_0, r_21_0, r_23_0, r_25_0, r_27_0, r_61_0, r_117_0, r_117_1, r_117_2, r_117_3, r_117_4, r_117_5, r_117_6, r_117_7, r_126_0, r_126_1, r_126_2, r_126_3, r_126_4, r_132_0, r_132_1, r_135_0, r_135_1, r_135_2, r_135_3, r_135_4, r_135_5, r_142_0, r_144_0, r_144_1, r_144_2, r_145_0, r_145_1, r_145_2, r_145_3, r_145_4, r_145_5, r_145_6, r_154_0, r_154_1, r_155_0, ↓z_m1, l_0, l_1, l_2, l_3, l_4, l_5, l_6, l_7, l_8, l_9, l_10, l_11, l_12, l_13, l_14, l_15, l_16, l_17, l_18, l_19, l_20, l_21, l_22, l_23, l_24, l_25, l_26, l_27, l_28, l_29, l_30, l_31, l_32, l_33, l_34, l_35, l_36, l_37, l_38, l_39, l_40, l_41, l_42, l_43, l_44, l_45, l_46, l_47, l_48, l_49, l_50, l_51, l_52, l_53, l_54, l_55, l_56, l_57, l_59, l_60, l_61, l_62, l_63, l_64, l_65, l_80, l_86, l_87, l_88, l_89, l_90, l_91, l_92, l_93, l_94, l_95, l_97, l_99, l_100, l_107, l_119, l_122, l_124, l_129, l_140, l_141, l_142, l_143, l_144, l_145, l_147, l_150, l_159, l_160, l_161, l_162, l_205, l_253, l_255, l_256, l_269, l_305, l_380, l_399, l_400, l_420, l_430, l_516, l_600, l_720, l_820, l_905, l_921, l_937, l_953, l_970, l_999, l_1000, l_1790, l_4096, l_9999, l_1000000]
    · by_cases q2 : top < L
      · have e := e.trans (if_pos ⟨q, Or.inl q2⟩)
        rw [e, ez, show i + 1 + 1 + f = (i + 1 + f) + 1 by omega, f_X0_prefersAnother_L3]
        simp (disch := omega) only [h6, h8, ec, e47, ↓reduceIte, ↓p_ld, ↓p_st, ↓p_nm, ↓p_nS, ↓p_jn, ↓p_call, ↓p_callv, ↓p_dv, ↓p_rem, h_ldE, h_stE, h_nmE, h_nSE, h_callE, h_callvE, h_dvE, h_remE, if_true, if_false, z_upS, z_upO, z_upK, nI_add, z_mul, z_sub, z_div, Nat.add_zero, Nat.mul_zero, Nat.zero_add, Nat.sub_zero, Nat.zero_mul, z_ltT, z_ltF, z_leT, z_leF, z_eqT, z_eqF, z_inT, z_clT, not_true_eq_false, not_false_eq_true, eq_self, true_or, or_true, z_m_lt, z_m_le, z_lt_m, z_le_m, z_eq_m, z_m_eq, z_rz0, z_rz1, z_m_add, z_of, r_0_0, r_0_1, r_0_3, r_0_4, r_0_5, r_0_6, r_0_7, r_0_8, r_0_9, r_0_10, r_1_0, r_1_1, r_1_2, r_1_3, r_1_4, r_1_5, r_1_6, r_1_7, r_1_8, r_2_0, r_2_1, r_2_2, r_2_3, r_2_4, r_2_5, r_2_6, r_2_7, r_11_0, r_11_1, r_11_2, r_11_3, r_11_4, r_11_5, r_11_6, r_19_0, r_21_0, r_23_0, r_25_0, r_27_0, r_61_0, r_117_0, r_117_1, r_117_2, r_117_3, r_117_4, r_117_5, r_117_6, r_117_7, r_126_0, r_126_1, r_126_2, r_126_3, r_126_4, r_132_0, r_132_1, r_135_0, r_135_1, r_135_2, r_135_3, r_135_4, r_135_5, r_142_0, r_144_0, r_144_1, r_144_2, r_145_0, r_145_1, r_145_2, r_145_3, r_145_4, r_145_5, r_145_6, r_154_0, r_154_1, r_155_0, ↓z_m1, l_0, l_1, l_2, l_3, l_4, l_5, l_6, l_7, l_8, l_9, l_10, l_11, l_12, l_13, l_14, l_15, l_16, l_17, l_18, l_19, l_20, l_21, l_22, l_23, l_24, l_25, l_26, l_27, l_28, l_29, l_30, l_31, l_32, l_33, l_34, l_35, l_36, l_37, l_38, l_39, l_40, l_41, l_42, l_43, l_44, l_45, l_46, l_47, l_48, l_49, l_50, l_51, l_52, l_53, l_54, l_55, l_56, l_57, l_59, l_60, l_61, l_62, l_63, l_64, l_65, l_80, l_86, l_87, l_88, l_89, l_90, l_91, l_92, l_93, l_94, l_95, l_97, l_99, l_100, l_107, l_119, l_122, l_124, l_129, l_140, l_141, l_142, l_143, l_144, l_145, l_147, l_150, l_159, l_160, l_161, l_162, l_205, l_253, l_255, l_256, l_269, l_305, l_380, l_399, l_400, l_420, l_430, l_516, l_600, l_720, l_820, l_905, l_921, l_937, l_953, l_970, l_999, l_1000, l_1790, l_4096, l_9999, l_1000000]
      · by_cases q3 : L = top
        · by_cases q4 : k < man
          · have e := e.trans (if_pos ⟨q, Or.inr ⟨q3, q4⟩⟩)
            rw [e, ez, show i + 1 + 1 + f = (i + 1 + f) + 1 by omega, f_X0_prefersAnother_L3]
            simp (disch := omega) only [h6, h8, ec, e47, ↓reduceIte, ↓p_ld, ↓p_st, ↓p_nm, ↓p_nS, ↓p_jn, ↓p_call, ↓p_callv, ↓p_dv, ↓p_rem, h_ldE, h_stE, h_nmE, h_nSE, h_callE, h_callvE, h_dvE, h_remE, if_true, if_false, z_upS, z_upO, z_upK, nI_add, z_mul, z_sub, z_div, Nat.add_zero, Nat.mul_zero, Nat.zero_add, Nat.sub_zero, Nat.zero_mul, z_ltT, z_ltF, z_leT, z_leF, z_eqT, z_eqF, z_inT, z_clT, not_true_eq_false, not_false_eq_true, eq_self, true_or, or_true, z_m_lt, z_m_le, z_lt_m, z_le_m, z_eq_m, z_m_eq, z_rz0, z_rz1, z_m_add, z_of, r_0_0, r_0_1, r_0_3, r_0_4, r_0_5, r_0_6, r_0_7, r_0_8, r_0_9, r_0_10, r_1_0, r_1_1, r_1_2, r_1_3, r_1_4, r_1_5, r_1_6, r_1_7, r_1_8, r_2_0, r_2_1, r_2_2, r_2_3, r_2_4, r_2_5, r_2_6, r_2_7, r_11_0, r_11_1, r_11_2, r_11_3, r_11_4, r_11_5, r_11_6, r_19_0, r_21_0, r_23_0, r_25_0, r_27_0, r_61_0, r_117_0, r_117_1, r_117_2, r_117_3, r_117_4, r_117_5, r_117_6, r_117_7, r_126_0, r_126_1, r_126_2, r_126_3, r_126_4, r_132_0, r_132_1, r_135_0, r_135_1, r_135_2, r_135_3, r_135_4, r_135_5, r_142_0, r_144_0, r_144_1, r_144_2, r_145_0, r_145_1, r_145_2, r_145_3, r_145_4, r_145_5, r_145_6, r_154_0, r_154_1, r_155_0, ↓z_m1, l_0, l_1, l_2, l_3, l_4, l_5, l_6, l_7, l_8, l_9, l_10, l_11, l_12, l_13, l_14, l_15, l_16, l_17, l_18, l_19, l_20, l_21, l_22, l_23, l_24, l_25, l_26, l_27, l_28, l_29, l_30, l_31, l_32, l_33, l_34, l_35, l_36, l_37, l_38, l_39, l_40, l_41, l_42, l_43, l_44, l_45, l_46, l_47, l_48, l_49, l_50, l_51, l_52, l_53, l_54, l_55, l_56, l_57, l_59, l_60, l_61, l_62, l_63, l_64, l_65, l_80, l_86, l_87, l_88, l_89, l_90, l_91, l_92, l_93, l_94, l_95, l_97, l_99, l_100, l_107, l_119, l_122, l_124, l_129, l_140, l_141, l_142, l_143, l_144, l_145, l_147, l_150, l_159, l_160, l_161, l_162, l_205, l_253, l_255, l_256, l_269, l_305, l_380, l_399, l_400, l_420, l_430, l_516, l_600, l_720, l_820, l_905, l_921, l_937, l_953, l_970, l_999, l_1000, l_1790, l_4096, l_9999, l_1000000]
          · have e := e.trans (if_neg (fun h => by rcases h.2 with h | h <;> omega))
            rw [e, ← ih, show i + 1 + 1 + f = (i + 1 + f) + 1 by omega, f_X0_prefersAnother_L3]
            simp (disch := omega) only [h6, h8, ec, e47, ↓reduceIte, ↓p_ld, ↓p_st, ↓p_nm, ↓p_nS, ↓p_jn, ↓p_call, ↓p_callv, ↓p_dv, ↓p_rem, h_ldE, h_stE, h_nmE, h_nSE, h_callE, h_callvE, h_dvE, h_remE, if_true, if_false, z_upS, z_upO, z_upK, nI_add, z_mul, z_sub, z_div, Nat.add_zero, Nat.mul_zero, Nat.zero_add, Nat.sub_zero, Nat.zero_mul, z_ltT, z_ltF, z_leT, z_leF, z_eqT, z_eqF, z_inT, z_clT, not_true_eq_false, not_false_eq_true, eq_self, true_or, or_true, z_m_lt, z_m_le, z_lt_m, z_le_m, z_eq_m, z_m_eq, z_rz0, z_rz1, z_m_add, z_of, r_0_0, r_0_1, r_0_3, r_0_4, r_0_5, r_0_6, r_0_7, r_0_8, r_0_9, r_0_10, r_1_0, r_1_1, r_1_2, r_1_3, r_1_4, r_1_5, r_1_6, r_1_7, r_1_8, r_2_0, r_2_1, r_2_2, r_2_3, r_2_4, r_2_5, r_2_6, r_2_7, r_11_0, r_11_1, r_11_2, r_11_3, r_11_4, r_11_5, r_11_6, r_19_0, r_21_0, r_23_0, r_25_0, r_27_0, r_61_0, r_117_0, r_117_1, r_117_2, r_117_3, r_117_4, r_117_5, r_117_6, r_117_7, r_126_0, r_126_1, r_126_2, r_126_3, r_126_4, r_132_0, r_132_1, r_135_0, r_135_1, r_135_2, r_135_3, r_135_4, r_135_5, r_142_0, r_144_0, r_144_1, r_144_2, r_145_0, r_145_1, r_145_2, r_145_3, r_145_4, r_145_5, r_145_6, r_154_0, r_154_1, r_155_0, ↓z_m1, l_0, l_1, l_2, l_3, l_4, l_5, l_6, l_7, l_8, l_9, l_10, l_11, l_12, l_13, l_14, l_15, l_16, l_17, l_18, l_19, l_20, l_21, l_22, l_23, l_24, l_25, l_26, l_27, l_28, l_29, l_30, l_31, l_32, l_33, l_34, l_35, l_36, l_37, l_38, l_39, l_40, l_41, l_42, l_43, l_44, l_45, l_46, l_47, l_48, l_49, l_50, l_51, l_52, l_53, l_54, l_55, l_56, l_57, l_59, l_60, l_61, l_62, l_63, l_64, l_65, l_80, l_86, l_87, l_88, l_89, l_90, l_91, l_92, l_93, l_94, l_95, l_97, l_99, l_100, l_107, l_119, l_122, l_124, l_129, l_140, l_141, l_142, l_143, l_144, l_145, l_147, l_150, l_159, l_160, l_161, l_162, l_205, l_253, l_255, l_256, l_269, l_305, l_380, l_399, l_400, l_420, l_430, l_516, l_600, l_720, l_820, l_905, l_921, l_937, l_953, l_970, l_999, l_1000, l_1790, l_4096, l_9999, l_1000000]
        · have e := e.trans (if_neg (fun h => by rcases h.2 with h | h <;> omega))
          rw [e, ← ih, show i + 1 + 1 + f = (i + 1 + f) + 1 by omega, f_X0_prefersAnother_L3]
          simp (disch := omega) only [h6, h8, ec, e47, ↓reduceIte, ↓p_ld, ↓p_st, ↓p_nm, ↓p_nS, ↓p_jn, ↓p_call, ↓p_callv, ↓p_dv, ↓p_rem, h_ldE, h_stE, h_nmE, h_nSE, h_callE, h_callvE, h_dvE, h_remE, if_true, if_false, z_upS, z_upO, z_upK, nI_add, z_mul, z_sub, z_div, Nat.add_zero, Nat.mul_zero, Nat.zero_add, Nat.sub_zero, Nat.zero_mul, z_ltT, z_ltF, z_leT, z_leF, z_eqT, z_eqF, z_inT, z_clT, not_true_eq_false, not_false_eq_true, eq_self, true_or, or_true, z_m_lt, z_m_le, z_lt_m, z_le_m, z_eq_m, z_m_eq, z_rz0, z_rz1, z_m_add, z_of, r_0_0, r_0_1, r_0_3, r_0_4, r_0_5, r_0_6, r_0_7, r_0_8, r_0_9, r_0_10, r_1_0, r_1_1, r_1_2, r_1_3, r_1_4, r_1_5, r_1_6, r_1_7, r_1_8, r_2_0, r_2_1, r_2_2, r_2_3, r_2_4, r_2_5, r_2_6, r_2_7, r_11_0, r_11_1, r_11_2, r_11_3, r_11_4, r_11_5, r_11_6, r_19_0, r_21_0, r_23_0, r_25_0, r_27_0, r_61_0, r_117_0, r_117_1, r_117_2, r_117_3, r_117_4, r_117_5, r_117_6, r_117_7, r_126_0, r_126_1, r_126_2, r_126_3, r_126_4, r_132_0, r_132_1, r_135_0, r_135_1, r_135_2, r_135_3, r_135_4, r_135_5, r_142_0, r_144_0, r_144_1, r_144_2, r_145_0, r_145_1, r_145_2, r_145_3, r_145_4, r_145_5, r_145_6, r_154_0, r_154_1, r_155_0, ↓z_m1, l_0, l_1, l_2, l_3, l_4, l_5, l_6, l_7, l_8, l_9, l_10, l_11, l_12, l_13, l_14, l_15, l_16, l_17, l_18, l_19, l_20, l_21, l_22, l_23, l_24, l_25, l_26, l_27, l_28, l_29, l_30, l_31, l_32, l_33, l_34, l_35, l_36, l_37, l_38, l_39, l_40, l_41, l_42, l_43, l_44, l_45, l_46, l_47, l_48, l_49, l_50, l_51, l_52, l_53, l_54, l_55, l_56, l_57, l_59, l_60, l_61, l_62, l_63, l_64, l_65, l_80, l_86, l_87, l_88, l_89, l_90, l_91, l_92, l_93, l_94, l_95, l_97, l_99, l_100, l_107, l_119, l_122, l_124, l_129, l_140, l_141, l_142, l_143, l_144, l_145, l_147, l_150, l_159, l_160, l_161, l_162, l_205, l_253, l_255, l_256, l_269, l_305, l_380, l_399, l_400, l_420, l_430, l_516, l_600, l_720, l_820, l_905, l_921, l_937, l_953, l_970, l_999, l_1000, l_1790, l_4096, l_9999, l_1000000]
theorem c_prep_L {man mu me : Nat} {V : Nat → Int32} {K : Int32 → q_Sto → Option (Int32 × q_Sto)} (hman : man < me) :
    ∀ j i (σ : q_Sto), i ≤ mu → mu < j + i → z_C σ V mu me → z_B0 σ (z_bt V mu me) → z_B1 σ (z_bt V mu me) 0 z_m → (∀ m h, m < i → h < z_cnt (z_hs V m) 12 + 1 → σ 130 (m*12+h) = nI (z_lean V m man (z_sl V m man) h)) →
    ∃ σ', (∀ o, o ≠ 18 → o ≠ 30 → o ≠ 130 → σ' o = σ o) ∧ (∀ m h, m < mu → h < z_cnt (z_hs V m) 12 + 1 → σ' 130 (m*12+h) = nI (z_lean V m man (z_sl V m man) h)) ∧
      f_X0_prepareSalted_L5 q_F 126 1 (nI man) K j (nI (z_set (z_mq V man me) i)) (nI i) σ = K (nI (z_set (z_mq V man me) mu)) σ' := by
  intro j
  induction j with
  | zero => intro i σ h1 h2; omega
  | succ j ih =>
    intro i σ h1 h2 hC hB0 hB1 h0
    have hmu := hC.1.1
    have hme := hC.1.2.1
    have h5 : σ 126 5 = nI mu := hB0.1
    have h6 : σ 126 6 = nI me := hB0.2.1
    by_cases hi : i = mu
    · subst hi
      refine ⟨σ, fun o _ _ _ => rfl, h0, ?_⟩
      generalize z_set (z_mq V man me) i = y
      rw [f_X0_prepareSalted_L5]
      simp (disch := omega) only [h5, ↓reduceIte, ↓p_ld, ↓p_st, ↓p_nm, ↓p_nS, ↓p_jn, ↓p_call, ↓p_callv, ↓p_dv, ↓p_rem, h_ldE, h_stE, h_nmE, h_nSE, h_callE, h_callvE, h_dvE, h_remE, if_true, if_false, z_upS, z_upO, z_upK, nI_add, z_mul, z_sub, z_div, Nat.add_zero, Nat.mul_zero, Nat.zero_add, Nat.sub_zero, Nat.zero_mul, z_ltT, z_ltF, z_leT, z_leF, z_eqT, z_eqF, z_inT, z_clT, not_true_eq_false, not_false_eq_true, eq_self, true_or, or_true, z_m_lt, z_m_le, z_lt_m, z_le_m, z_eq_m, z_m_eq, z_rz0, z_rz1, z_m_add, z_of, r_0_0, r_0_1, r_0_3, r_0_4, r_0_5, r_0_6, r_0_7, r_0_8, r_0_9, r_0_10, r_1_0, r_1_1, r_1_2, r_1_3, r_1_4, r_1_5, r_1_6, r_1_7, r_1_8, r_2_0, r_2_1, r_2_2, r_2_3, r_2_4, r_2_5, r_2_6, r_2_7, r_11_0, r_11_1, r_11_2, r_11_3, r_11_4, r_11_5, r_11_6, r_19_0, r_21_0, r_23_0, r_25_0, r_27_0, r_61_0, r_117_0, r_117_1, r_117_2, r_117_3, r_117_4, r_117_5, r_117_6, r_117_7, r_126_0, r_126_1, r_126_2, r_126_3, r_126_4, r_132_0, r_132_1, r_135_0, r_135_1, r_135_2, r_135_3, r_135_4, r_135_5, r_142_0, r_144_0, r_144_1, r_144_2, r_145_0, r_145_1, r_145_2, r_145_3, r_145_4, r_145_5, r_145_6, r_154_0, r_154_1, r_155_0, ↓z_m1, l_0, l_1, l_2, l_3, l_4, l_5, l_6, l_7, l_8, l_9, l_10, l_11, l_12, l_13, l_14, l_15, l_16, l_17, l_18, l_19, l_20, l_21, l_22, l_23, l_24, l_25, l_26, l_27, l_28, l_29, l_30, l_31, l_32, l_33, l_34, l_35, l_36, l_37, l_38, l_39, l_40, l_41, l_42, l_43, l_44, l_45, l_46, l_47, l_48, l_49, l_50, l_51, l_52, l_53, l_54, l_55, l_56, l_57, l_59, l_60, l_61, l_62, l_63, l_64, l_65, l_80, l_86, l_87, l_88, l_89, l_90, l_91, l_92, l_93, l_94, l_95, l_97, l_99, l_100, l_107, l_119, l_122, l_124, l_129, l_140, l_141, l_142, l_143, l_144, l_145, l_147, l_150, l_159, l_160, l_161, l_162, l_205, l_253, l_255, l_256, l_269, l_305, l_380, l_399, l_400, l_420, l_430, l_516, l_600, l_720, l_820, l_905, l_921, l_937, l_953, l_970, l_999, l_1000, l_1790, l_4096, l_9999, l_1000000]
    · obtain ⟨y1, y2, y3⟩ := z_hsE hmu hC.2.2.2.1 (m := i) (by omega)
      have h12 := z_p12 hmu
      have hmo : z_cnt (z_hs V i) 12 < 12 := z_cnt_lt y3 12 (by omega)
      have t9 : ∀ k h, k < me → h < z_cnt (z_hs V i) 12 + 1 → σ 129 ((i*5+k)*12+h) = nI (z_lean V i k (z_lk V i k) h) := fun k h hk hh => by
        have := hB1 i k h (show i < mu by omega) hk (Nat.le_of_lt_succ hh)
        rw [Nat.zero_testBit, if_neg (show ¬ false = true by decide), if_neg (fun q => by rw [z_eq_m (by omega)] at q; exact q)] at this
        exact this
      have t8 : σ 128 i = nI (z_hs V i) := hB0.2.2.2 i (show i < mu by omega)
      have t7 : σ 127 i = nI (z_need V i) := hB0.2.2.1 i (show i < mu by omega)
      have hnd : z_need V i ≤ 999 := z_cl_le _ _
      have el := c_likingFor (n := q_F) hmu hme hC.2.1 (show i < mu by omega) hman
      have elk := (z_leE (hC.1.2.2.2.2.2.2.1 i man (by omega) hman) (by omega)).1
      have elk2 := (z_leE (hC.1.2.2.2.2.2.2.1 i man (by omega) hman) (by omega)).2
      have elk : V (20+5*i+man) = nI (z_lk V i man) := elk
      have elk2 : z_lk V i man ≤ 99 := elk2
      rw [elk] at el
      have ec := c_bitCount (n := q_F) (s := z_hs V i) (σ := σ) (by omega)
      obtain ⟨σ1, f1, f2, f3, f4⟩ := c_prepH (N := z_cnt (z_hs V i) 12) (x3 := nI (z_set (z_mq V man me) i)) (K := fun (y21 : Int32) (y22 : Int32) (s23 : q_Sto) =>
    if y21 = 0 then (
    f_X0_prepareSalted_L5 q_F 126 1 (nI man) K j (nI (z_set (z_mq V man me) i)) (nI i + 1) s23)
    else (
    q_ld s23 (q_RF 126 0) (nI i) 12 fun v25 =>
    if y22 < v25 then (
    f_X0_prepareSalted_L5 q_F 126 1 (nI man) K j (nI (z_set (z_mq V man me) i)) (nI i + 1) s23)
    else (
    q_call (f_X0_prefersAnother q_F 126 (nI i) (nI man) y22 s23) fun r28 s27 =>
    if r28 = 0 then (
    q_nm (nI (z_set (z_mq V man me) i) ||| (1 <<< (nI i &&& 31))) fun v30 =>
    f_X0_prepareSalted_L5 q_F 126 1 (nI man) K j v30 (nI i + 1) s27)
    else (
    f_X0_prepareSalted_L5 q_F 126 1 (nI man) K j (nI (z_set (z_mq V man me) i)) (nI i + 1) s27)))) (show i < mu by omega) hman hmo rfl q_F 0 σ (Nat.zero_le _) (by unfold q_F; omega) hC (fun h hh => t9 man h hman hh) (fun h hh => by omega)
      have hC1 : z_C σ1 V mu me := hC.fr (fun o o1 o2 o3 => f1 o (by omega) (by omega) (by omega))
      have e126 := f1 126 (by omega) (by omega) (by omega)
      have e127 := f1 127 (by omega) (by omega) (by omega)
      have e128 := f1 128 (by omega) (by omega) (by omega)
      have e129 := f1 129 (by omega) (by omega) (by omega)
      have hB1' : z_B1 σ1 (z_bt V mu me) 0 z_m := fun m k h hm hk hh => by
        have := hB1 m k h hm hk hh
        have hk5 : k < me := hk
        rw [Nat.zero_testBit, if_neg (show ¬ false = true by decide), if_neg (fun q => by rw [z_eq_m (by omega)] at q; exact q)] at this ⊢
        rw [e129]; exact this
      obtain ⟨σ', g1, g2, g3⟩ := ih (i+1) σ1 (by omega) (by omega) hC1 (hB0.fr (by rw [e126]) (by rw [e126]) e127 e128) hB1' (fun m h hm hh => by
        by_cases q : m = i
        · subst q; exact f3 h hh
        · have hlt : z_cnt (z_hs V m) 12 < 12 := z_cnt_lt (z_hsE hmu hC.2.2.2.1 (m := m) (by omega)).2.2 12 (by omega)
          rw [f2 _ (by omega)]; exact h0 m h (by omega) hh)
      refine ⟨σ', fun o o1 o2 o3 => by rw [g1 o o1 o2 o3, f1 o o1 o2 o3], g2, ?_⟩
      have esl : q_mn (nI 99) (nI (z_lk V i man + 15)) = nI (z_sl V i man) := by
        rw [z_mnE (by omega) (by omega)]; rfl
      have esh := z_shl (m := i) (by omega)
      have ed0 : z_fb (z_df V i man 0) = nI 0 := rfl
      have et0 : z_tp2 V i man 0 = 0 := rfl
      rw [ed0, et0] at f4
      have htp := z_tp2_le (V := V) (m := i) (man := man) (z_cnt (z_hs V i) 12 + 1)
      have epf := c_pref_L (σ := σ1) hmu (show i < mu by omega) hme hman htp (show z_hs V i < 4096 by omega) rfl hmo (by rw [e126]; exact h6) (by rw [e128]; exact t8) (fun k h hk hh => by rw [e129]; exact t9 k h hk hh) me 0 (q_F - me - 1) (by omega)
      rw [show me + 1 + (q_F - me - 1) = q_F by unfold q_F; omega] at epf
      have epf : f_X0_prefersAnother q_F 126 (nI i) (nI man) (nI (z_tp2 V i man (z_cnt (z_hs V i) 12 + 1))) σ1 = _ := epf
      have t71 : σ1 127 i = nI (z_need V i) := by rw [e127]; exact t7
      have fin : f_X0_prepareSalted_L5 q_F 126 1 (nI man) K (j+1) (nI (z_set (z_mq V man me) i)) (nI i) σ = f_X0_prepareSalted_L64 q_F 126 1 (nI man) (nI (z_set (z_mq V man me) i)) (nI i) (nI (z_sl V i man)) (nI (z_cnt (z_hs V i) 12)) (fun (y21 : Int32) (y22 : Int32) (s23 : q_Sto) =>
    if y21 = 0 then (
    f_X0_prepareSalted_L5 q_F 126 1 (nI man) K j (nI (z_set (z_mq V man me) i)) (nI i + 1) s23)
    else (
    q_ld s23 (q_RF 126 0) (nI i) 12 fun v25 =>
    if y22 < v25 then (
    f_X0_prepareSalted_L5 q_F 126 1 (nI man) K j (nI (z_set (z_mq V man me) i)) (nI i + 1) s23)
    else (
    q_call (f_X0_prefersAnother q_F 126 (nI i) (nI man) y22 s23) fun r28 s27 =>
    if r28 = 0 then (
    q_nm (nI (z_set (z_mq V man me) i) ||| (1 <<< (nI i &&& 31))) fun v30 =>
    f_X0_prepareSalted_L5 q_F 126 1 (nI man) K j v30 (nI i + 1) s27)
    else (
    f_X0_prepareSalted_L5 q_F 126 1 (nI man) K j (nI (z_set (z_mq V man me) i)) (nI i + 1) s27)))) q_F (nI 0) (nI 0) (nI 0) σ := by
        generalize z_set (z_mq V man me) i = y at *
        rw [f_X0_prepareSalted_L5]
        simp (disch := omega) only [h5, el, esl, t8, ec, ↓reduceIte, ↓p_ld, ↓p_st, ↓p_nm, ↓p_nS, ↓p_jn, ↓p_call, ↓p_callv, ↓p_dv, ↓p_rem, h_ldE, h_stE, h_nmE, h_nSE, h_callE, h_callvE, h_dvE, h_remE, if_true, if_false, z_upS, z_upO, z_upK, nI_add, z_mul, z_sub, z_div, Nat.add_zero, Nat.mul_zero, Nat.zero_add, Nat.sub_zero, Nat.zero_mul, z_ltT, z_ltF, z_leT, z_leF, z_eqT, z_eqF, z_inT, z_clT, not_true_eq_false, not_false_eq_true, eq_self, true_or, or_true, z_m_lt, z_m_le, z_lt_m, z_le_m, z_eq_m, z_m_eq, z_rz0, z_rz1, z_m_add, z_of, r_0_0, r_0_1, r_0_3, r_0_4, r_0_5, r_0_6, r_0_7, r_0_8, r_0_9, r_0_10, r_1_0, r_1_1, r_1_2, r_1_3, r_1_4, r_1_5, r_1_6, r_1_7, r_1_8, r_2_0, r_2_1, r_2_2, r_2_3, r_2_4, r_2_5, r_2_6, r_2_7, r_11_0, r_11_1, r_11_2, r_11_3, r_11_4, r_11_5, r_11_6, r_19_0, r_21_0, r_23_0, r_25_0, r_27_0, r_61_0, r_117_0, r_117_1, r_117_2, r_117_3, r_117_4, r_117_5, r_117_6, r_117_7, r_126_0, r_126_1, r_126_2, r_126_3, r_126_4, r_132_0, r_132_1, r_135_0, r_135_1, r_135_2, r_135_3, r_135_4, r_135_5, r_142_0, r_144_0, r_144_1, r_144_2, r_145_0, r_145_1, r_145_2, r_145_3, r_145_4, r_145_5, r_145_6, r_154_0, r_154_1, r_155_0, ↓z_m1, l_0, l_1, l_2, l_3, l_4, l_5, l_6, l_7, l_8, l_9, l_10, l_11, l_12, l_13, l_14, l_15, l_16, l_17, l_18, l_19, l_20, l_21, l_22, l_23, l_24, l_25, l_26, l_27, l_28, l_29, l_30, l_31, l_32, l_33, l_34, l_35, l_36, l_37, l_38, l_39, l_40, l_41, l_42, l_43, l_44, l_45, l_46, l_47, l_48, l_49, l_50, l_51, l_52, l_53, l_54, l_55, l_56, l_57, l_59, l_60, l_61, l_62, l_63, l_64, l_65, l_80, l_86, l_87, l_88, l_89, l_90, l_91, l_92, l_93, l_94, l_95, l_97, l_99, l_100, l_107, l_119, l_122, l_124, l_129, l_140, l_141, l_142, l_143, l_144, l_145, l_147, l_150, l_159, l_160, l_161, l_162, l_205, l_253, l_255, l_256, l_269, l_305, l_380, l_399, l_400, l_420, l_430, l_516, l_600, l_720, l_820, l_905, l_921, l_937, l_953, l_970, l_999, l_1000, l_1790, l_4096, l_9999, l_1000000]
      rw [fin, f4, ← g3]
      have emq : z_mq V man me i = (z_df V i man (z_cnt (z_hs V i) 12 + 1) && (decide (z_need V i ≤ z_tp2 V i man (z_cnt (z_hs V i) 12 + 1)) && !z_pf V i man (z_tp2 V i man (z_cnt (z_hs V i) 12 + 1)) (z_cnt (z_hs V i) 12 + 1) me 0)) := rfl
      have ez : z_fb false = nI 0 := rfl
      have ez1 : z_fb true = nI 1 := rfl
      by_cases qm : z_mq V man me i = true
      · rw [z_setT qm]
        rw [emq, Bool.and_eq_true, Bool.and_eq_true, decide_eq_true_eq] at qm
        obtain ⟨q1, q2, q3⟩ := qm
        have q3 : z_pf V i man (z_tp2 V i man (z_cnt (z_hs V i) 12 + 1)) (z_cnt (z_hs V i) 12 + 1) me 0 = false := by
          cases hq : z_pf V i man (z_tp2 V i man (z_cnt (z_hs V i) 12 + 1)) (z_cnt (z_hs V i) 12 + 1) me 0 with
          | false => rfl
          | true => rw [hq] at q3; cases q3
        rw [q3, ez] at epf
        rw [q1, ez1]
        generalize z_set (z_mq V man me) i = y at *
        generalize z_tp2 V i man (z_cnt (z_hs V i) 12 + 1) = T at *
        generalize z_need V i = nd at *
        simp (disch := omega) only [t71, epf, esh, z_or, ↓reduceIte, ↓p_ld, ↓p_st, ↓p_nm, ↓p_nS, ↓p_jn, ↓p_call, ↓p_callv, ↓p_dv, ↓p_rem, h_ldE, h_stE, h_nmE, h_nSE, h_callE, h_callvE, h_dvE, h_remE, if_true, if_false, z_upS, z_upO, z_upK, nI_add, z_mul, z_sub, z_div, Nat.add_zero, Nat.mul_zero, Nat.zero_add, Nat.sub_zero, Nat.zero_mul, z_ltT, z_ltF, z_leT, z_leF, z_eqT, z_eqF, z_inT, z_clT, not_true_eq_false, not_false_eq_true, eq_self, true_or, or_true, z_m_lt, z_m_le, z_lt_m, z_le_m, z_eq_m, z_m_eq, z_rz0, z_rz1, z_m_add, z_of, r_0_0, r_0_1, r_0_3, r_0_4, r_0_5, r_0_6, r_0_7, r_0_8, r_0_9, r_0_10, r_1_0, r_1_1, r_1_2, r_1_3, r_1_4, r_1_5, r_1_6, r_1_7, r_1_8, r_2_0, r_2_1, r_2_2, r_2_3, r_2_4, r_2_5, r_2_6, r_2_7, r_11_0, r_11_1, r_11_2, r_11_3, r_11_4, r_11_5, r_11_6, r_19_0, r_21_0, r_23_0, r_25_0, r_27_0, r_61_0, r_117_0, r_117_1, r_117_2, r_117_3, r_117_4, r_117_5, r_117_6, r_117_7, r_126_0, r_126_1, r_126_2, r_126_3, r_126_4, r_132_0, r_132_1, r_135_0, r_135_1, r_135_2, r_135_3, r_135_4, r_135_5, r_142_0, r_144_0, r_144_1, r_144_2, r_145_0, r_145_1, r_145_2, r_145_3, r_145_4, r_145_5, r_145_6, r_154_0, r_154_1, r_155_0, ↓z_m1, l_0, l_1, l_2, l_3, l_4, l_5, l_6, l_7, l_8, l_9, l_10, l_11, l_12, l_13, l_14, l_15, l_16, l_17, l_18, l_19, l_20, l_21, l_22, l_23, l_24, l_25, l_26, l_27, l_28, l_29, l_30, l_31, l_32, l_33, l_34, l_35, l_36, l_37, l_38, l_39, l_40, l_41, l_42, l_43, l_44, l_45, l_46, l_47, l_48, l_49, l_50, l_51, l_52, l_53, l_54, l_55, l_56, l_57, l_59, l_60, l_61, l_62, l_63, l_64, l_65, l_80, l_86, l_87, l_88, l_89, l_90, l_91, l_92, l_93, l_94, l_95, l_97, l_99, l_100, l_107, l_119, l_122, l_124, l_129, l_140, l_141, l_142, l_143, l_144, l_145, l_147, l_150, l_159, l_160, l_161, l_162, l_205, l_253, l_255, l_256, l_269, l_305, l_380, l_399, l_400, l_420, l_430, l_516, l_600, l_720, l_820, l_905, l_921, l_937, l_953, l_970, l_999, l_1000, l_1790, l_4096, l_9999, l_1000000]
      · rw [z_setF qm]
        rw [emq] at qm
        generalize z_set (z_mq V man me) i = y at *
        generalize z_pf V i man (z_tp2 V i man (z_cnt (z_hs V i) 12 + 1)) (z_cnt (z_hs V i) 12 + 1) me 0 = P at *
        generalize z_tp2 V i man (z_cnt (z_hs V i) 12 + 1) = T at *
        generalize z_need V i = nd at *
        cases hd : z_df V i man (z_cnt (z_hs V i) 12 + 1) with
        | false =>
          rw [ez]
          simp (disch := omega) only [↓reduceIte, ↓p_ld, ↓p_st, ↓p_nm, ↓p_nS, ↓p_jn, ↓p_call, ↓p_callv, ↓p_dv, ↓p_rem, h_ldE, h_stE, h_nmE, h_nSE, h_callE, h_callvE, h_dvE, h_remE, if_true, if_false, z_upS, z_upO, z_upK, nI_add, z_mul, z_sub, z_div, Nat.add_zero, Nat.mul_zero, Nat.zero_add, Nat.sub_zero, Nat.zero_mul, z_ltT, z_ltF, z_leT, z_leF, z_eqT, z_eqF, z_inT, z_clT, not_true_eq_false, not_false_eq_true, eq_self, true_or, or_true, z_m_lt, z_m_le, z_lt_m, z_le_m, z_eq_m, z_m_eq, z_rz0, z_rz1, z_m_add, z_of, r_0_0, r_0_1, r_0_3, r_0_4, r_0_5, r_0_6, r_0_7, r_0_8, r_0_9, r_0_10, r_1_0, r_1_1, r_1_2, r_1_3, r_1_4, r_1_5, r_1_6, r_1_7, r_1_8, r_2_0, r_2_1, r_2_2, r_2_3, r_2_4, r_2_5, r_2_6, r_2_7, r_11_0, r_11_1, r_11_2, r_11_3, r_11_4, r_11_5, r_11_6, r_19_0, r_21_0, r_23_0, r_25_0, r_27_0, r_61_0, r_117_0, r_117_1, r_117_2, r_117_3, r_117_4, r_117_5, r_117_6, r_117_7, r_126_0, r_126_1, r_126_2, r_126_3, r_126_4, r_132_0, r_132_1, r_135_0, r_135_1, r_135_2, r_135_3, r_135_4, r_135_5, r_142_0, r_144_0, r_144_1, r_144_2, r_145_0, r_145_1, r_145_2, r_145_3, r_145_4, r_145_5, r_145_6, r_154_0, r_154_1, r_155_0, ↓z_m1, l_0, l_1, l_2, l_3, l_4, l_5, l_6, l_7, l_8, l_9, l_10, l_11, l_12, l_13, l_14, l_15, l_16, l_17, l_18, l_19, l_20, l_21, l_22, l_23, l_24, l_25, l_26, l_27, l_28, l_29, l_30, l_31, l_32, l_33, l_34, l_35, l_36, l_37, l_38, l_39, l_40, l_41, l_42, l_43, l_44, l_45, l_46, l_47, l_48, l_49, l_50, l_51, l_52, l_53, l_54, l_55, l_56, l_57, l_59, l_60, l_61, l_62, l_63, l_64, l_65, l_80, l_86, l_87, l_88, l_89, l_90, l_91, l_92, l_93, l_94, l_95, l_97, l_99, l_100, l_107, l_119, l_122, l_124, l_129, l_140, l_141, l_142, l_143, l_144, l_145, l_147, l_150, l_159, l_160, l_161, l_162, l_205, l_253, l_255, l_256, l_269, l_305, l_380, l_399, l_400, l_420, l_430, l_516, l_600, l_720, l_820, l_905, l_921, l_937, l_953, l_970, l_999, l_1000, l_1790, l_4096, l_9999, l_1000000]
        | true =>
          rw [hd, Bool.true_and] at qm
          rw [ez1]
          by_cases qn : nd ≤ T
          · rw [decide_eq_true qn, Bool.true_and] at qm
            have hP : P = true := by cases P with | true => rfl | false => exact absurd rfl qm
            rw [hP, ez1] at epf
            simp (disch := omega) only [t71, epf, ↓reduceIte, ↓p_ld, ↓p_st, ↓p_nm, ↓p_nS, ↓p_jn, ↓p_call, ↓p_callv, ↓p_dv, ↓p_rem, h_ldE, h_stE, h_nmE, h_nSE, h_callE, h_callvE, h_dvE, h_remE, if_true, if_false, z_upS, z_upO, z_upK, nI_add, z_mul, z_sub, z_div, Nat.add_zero, Nat.mul_zero, Nat.zero_add, Nat.sub_zero, Nat.zero_mul, z_ltT, z_ltF, z_leT, z_leF, z_eqT, z_eqF, z_inT, z_clT, not_true_eq_false, not_false_eq_true, eq_self, true_or, or_true, z_m_lt, z_m_le, z_lt_m, z_le_m, z_eq_m, z_m_eq, z_rz0, z_rz1, z_m_add, z_of, r_0_0, r_0_1, r_0_3, r_0_4, r_0_5, r_0_6, r_0_7, r_0_8, r_0_9, r_0_10, r_1_0, r_1_1, r_1_2, r_1_3, r_1_4, r_1_5, r_1_6, r_1_7, r_1_8, r_2_0, r_2_1, r_2_2, r_2_3, r_2_4, r_2_5, r_2_6, r_2_7, r_11_0, r_11_1, r_11_2, r_11_3, r_11_4, r_11_5, r_11_6, r_19_0, r_21_0, r_23_0, r_25_0, r_27_0, r_61_0, r_117_0, r_117_1, r_117_2, r_117_3, r_117_4, r_117_5, r_117_6, r_117_7, r_126_0, r_126_1, r_126_2, r_126_3, r_126_4, r_132_0, r_132_1, r_135_0, r_135_1, r_135_2, r_135_3, r_135_4, r_135_5, r_142_0, r_144_0, r_144_1, r_144_2, r_145_0, r_145_1, r_145_2, r_145_3, r_145_4, r_145_5, r_145_6, r_154_0, r_154_1, r_155_0, ↓z_m1, l_0, l_1, l_2, l_3, l_4, l_5, l_6, l_7, l_8, l_9, l_10, l_11, l_12, l_13, l_14, l_15, l_16, l_17, l_18, l_19, l_20, l_21, l_22, l_23, l_24, l_25, l_26, l_27, l_28, l_29, l_30, l_31, l_32, l_33, l_34, l_35, l_36, l_37, l_38, l_39, l_40, l_41, l_42, l_43, l_44, l_45, l_46, l_47, l_48, l_49, l_50, l_51, l_52, l_53, l_54, l_55, l_56, l_57, l_59, l_60, l_61, l_62, l_63, l_64, l_65, l_80, l_86, l_87, l_88, l_89, l_90, l_91, l_92, l_93, l_94, l_95, l_97, l_99, l_100, l_107, l_119, l_122, l_124, l_129, l_140, l_141, l_142, l_143, l_144, l_145, l_147, l_150, l_159, l_160, l_161, l_162, l_205, l_253, l_255, l_256, l_269, l_305, l_380, l_399, l_400, l_420, l_430, l_516, l_600, l_720, l_820, l_905, l_921, l_937, l_953, l_970, l_999, l_1000, l_1790, l_4096, l_9999, l_1000000]
          · simp (disch := omega) only [t71, ↓reduceIte, ↓p_ld, ↓p_st, ↓p_nm, ↓p_nS, ↓p_jn, ↓p_call, ↓p_callv, ↓p_dv, ↓p_rem, h_ldE, h_stE, h_nmE, h_nSE, h_callE, h_callvE, h_dvE, h_remE, if_true, if_false, z_upS, z_upO, z_upK, nI_add, z_mul, z_sub, z_div, Nat.add_zero, Nat.mul_zero, Nat.zero_add, Nat.sub_zero, Nat.zero_mul, z_ltT, z_ltF, z_leT, z_leF, z_eqT, z_eqF, z_inT, z_clT, not_true_eq_false, not_false_eq_true, eq_self, true_or, or_true, z_m_lt, z_m_le, z_lt_m, z_le_m, z_eq_m, z_m_eq, z_rz0, z_rz1, z_m_add, z_of, r_0_0, r_0_1, r_0_3, r_0_4, r_0_5, r_0_6, r_0_7, r_0_8, r_0_9, r_0_10, r_1_0, r_1_1, r_1_2, r_1_3, r_1_4, r_1_5, r_1_6, r_1_7, r_1_8, r_2_0, r_2_1, r_2_2, r_2_3, r_2_4, r_2_5, r_2_6, r_2_7, r_11_0, r_11_1, r_11_2, r_11_3, r_11_4, r_11_5, r_11_6, r_19_0, r_21_0, r_23_0, r_25_0, r_27_0, r_61_0, r_117_0, r_117_1, r_117_2, r_117_3, r_117_4, r_117_5, r_117_6, r_117_7, r_126_0, r_126_1, r_126_2, r_126_3, r_126_4, r_132_0, r_132_1, r_135_0, r_135_1, r_135_2, r_135_3, r_135_4, r_135_5, r_142_0, r_144_0, r_144_1, r_144_2, r_145_0, r_145_1, r_145_2, r_145_3, r_145_4, r_145_5, r_145_6, r_154_0, r_154_1, r_155_0, ↓z_m1, l_0, l_1, l_2, l_3, l_4, l_5, l_6, l_7, l_8, l_9, l_10, l_11, l_12, l_13, l_14, l_15, l_16, l_17, l_18, l_19, l_20, l_21, l_22, l_23, l_24, l_25, l_26, l_27, l_28, l_29, l_30, l_31, l_32, l_33, l_34, l_35, l_36, l_37, l_38, l_39, l_40, l_41, l_42, l_43, l_44, l_45, l_46, l_47, l_48, l_49, l_50, l_51, l_52, l_53, l_54, l_55, l_56, l_57, l_59, l_60, l_61, l_62, l_63, l_64, l_65, l_80, l_86, l_87, l_88, l_89, l_90, l_91, l_92, l_93, l_94, l_95, l_97, l_99, l_100, l_107, l_119, l_122, l_124, l_129, l_140, l_141, l_142, l_143, l_144, l_145, l_147, l_150, l_159, l_160, l_161, l_162, l_205, l_253, l_255, l_256, l_269, l_305, l_380, l_399, l_400, l_420, l_430, l_516, l_600, l_720, l_820, l_905, l_921, l_937, l_953, l_970, l_999, l_1000, l_1790, l_4096, l_9999, l_1000000]
