/-! the law's loop: the bounds' row, and whether it is taken -/
section LP
variable {p b L pl pa mu me Lx wn a B q : Nat} {xs : Nat → Int32} {d : Nat → Nat} {Fz : Nat → Prop} {V : Nat → Int32} {hs : z_Hs} {u : x_U} {S : Nat → Nat → (Nat → Int32) → Prop}
theorem y_I.frF {w : x_U} (h : y_I Lx xs a mu me L d u p b pl pa V hs wn Fz S B) (f : x_fr (fun _ => False) u w) (hb : x_n w ≤ 500000) : y_I Lx xs a mu me L d w p b pl pa V hs wn Fz S B := by
  obtain ⟨hA, hS, hWA, hz, hK, hD, hB, hW⟩ := h
  exact ⟨hA.fr f hb (fun _ _ _ _ _ _ q => q) (fun _ _ q => q), hS, hWA.fr f, by rw [f.1]; exact hz, hK, hD, hB, hW.fr f (fun i q => q.elim)⟩
/-- is it taken? -/
theorem T_take {J : Int32 → x_U → Option (Int32 × x_U)} {w m k r : Nat} {v : Int32} (hw : w ≤ 6) (hk : k ≤ me) (hm : m ≤ mu) (hr : r ≤ 100) (hmu : mu ≤ 12) (hme : me ≤ 5) (kp : x_k u p = .inl 12) (t7 : x_t u p 7 = nI mu) (t8 : x_t u p 8 = nI me) (hv : v = (if w = 6 then z_m else if w = 2 then nI 1 else if w = 3 then nI 99 else nI 9)) : (x_nm (fun (y148 : Int32) (s149 : x_U) => J y148 s149) fun j738 =>
        x_nm (fun  (s166 : x_U) =>
          j738 0 s166) fun j737 =>
        if nI r ≤ v then (
        x_nm (fun  (s167 : x_U) =>
          j738 1 s167) fun j733 =>
        if nI w < 2 then (
        j733 u)
        else (
        x_nm (fun (y168 : Int32) (s169 : x_U) =>
          if nI (if w = 2 then m else k) < y168 then (
          j733 s169)
          else (
          j737 s169)) fun j730 =>
        if nI w = 2 then (
        x_gi u p 12 7 fun v170 =>
        j730 v170 u)
        else (
        x_gi u p 12 8 fun v171 =>
        j730 v171 u)))
        else (
        j737 u)) = if ((w ≤ 1 ∧ r ≤ 9) ∨ (w = 2 ∧ m < mu ∧ r ≤ 1) ∨ (3 ≤ w ∧ w ≤ 5 ∧ k < me ∧ r ≤ (if w = 3 then 99 else 9))) then J 1 u else J 0 u := by
  have l2 : (nI w < (2 : Int32)) ↔ w < 2 := by
    rw [show (2 : Int32) = nI 2 from rfl]
    exact nI_ltI (by omega) (by omega)
  have e2 : (nI w = (2 : Int32)) ↔ w = 2 := by
    rw [show (2 : Int32) = nI 2 from rfl]
    exact nI_eq (by omega) (by omega)
  have lm : (nI m < nI mu) ↔ m < mu := nI_ltI (by omega) (by omega)
  have lk : (nI k < nI me) ↔ k < me := nI_ltI (by omega) (by omega)
  have lr : ∀ t, t < 1000 → ((nI r ≤ nI t) ↔ r ≤ t) := fun t ht => nI_leI (by omega) (by omega)
  subst hv
  rw [x_nmE, x_nmE]
  by_cases c6 : w = 6
  · subst c6
    rw [if_pos rfl, if_neg (show ¬ nI r ≤ z_m from fun q => by
      have h0 : nI 0 ≤ nI r := (nI_leI (by omega) (by omega)).mpr (by omega)
      have := Int32.le_trans h0 q
      exact absurd this (by decide)), if_neg (by omega)]
  · rw [if_neg c6]
    by_cases c2 : w = 2
    · rw [if_pos c2]
      by_cases cr : r ≤ 1
      · rw [if_pos ((lr 1 (by omega)).mpr cr), x_nmE, if_neg (fun q => by have := l2.mp q; omega), x_nmE, if_pos (e2.mpr c2), p_xgi, h_xgiE kp, t7, if_pos c2]
        by_cases cm : m < mu
        · rw [if_pos (Or.inr (Or.inl ⟨c2, cm, cr⟩))]
          exact if_pos (lm.mpr cm)
        · rw [if_neg (by omega)]
          exact if_neg (fun q => cm (lm.mp q))
      · rw [if_neg (fun q => cr ((lr 1 (by omega)).mp q)), if_neg (by omega)]
    · rw [if_neg c2]
      obtain ⟨t, ht, ht2⟩ : ∃ t, t = (if w = 3 then 99 else 9) ∧ t < 1000 := ⟨_, rfl, by split <;> omega⟩
      have et : (if w = 3 then nI 99 else nI 9) = nI t := by
        rw [ht]
        split <;> rfl
      rw [et, ← ht]
      by_cases cr : r ≤ t
      · rw [if_pos ((lr t ht2).mpr cr), x_nmE]
        by_cases c1 : w < 2
        · have ht9 : t = 9 := by rw [ht, if_neg (by omega)]
          rw [if_pos (l2.mpr c1), if_pos (Or.inl ⟨by omega, by omega⟩)]
        · rw [if_neg (fun q => c1 (l2.mp q)), x_nmE, if_neg (fun q => c2 (e2.mp q)), p_xgi, h_xgiE kp, t8, if_neg c2]
          by_cases ck : k < me
          · rw [if_pos (Or.inr (Or.inr ⟨by omega, by omega, ck, cr⟩))]
            exact if_pos (lk.mpr ck)
          · rw [if_neg (by omega)]
            exact if_neg (fun q => ck (lk.mp q))
      · rw [if_neg (fun q => cr ((lr t ht2).mp q)), if_neg (fun q => by
          rcases q with ⟨q1, q2⟩ | ⟨q1, q2, q3⟩ | ⟨q1, q2, q3, q4⟩
          · have : t = 9 := by rw [ht, if_neg (by omega)]
            omega
          · omega
          · omega)]
end LP
