/-! plans told, line by line -/
def y_ph (x : Int32) (k : Nat) : Int32 := (x * (nI k + 5)) + (283 * nI k)
def y_pW0 (x : Int32) (k : Nat) : Nat := y_bt (y_ph x k >>> (3 &&& 31)) 0 4
def y_pW (x : Int32) (mu me k : Nat) : Nat := if (me = 0 ∧ y_pW0 x k < 3) ∨ (mu = 0 ∧ y_pW0 x k % 2 = 0 ∧ y_pW0 x k < 3) then 3 else y_pW0 x k
def y_pK (x : Int32) (mu me k : Nat) : Nat := if y_pW x mu me k = 3 then 0 else if y_pW x mu me k = 4 then y_bt (y_ph x k >>> (6 &&& 31)) 0 5 else y_bt (y_ph x k >>> (6 &&& 31)) 0 (me - 1)
def y_pM (x : Int32) (mu me k : Nat) : Nat := if y_pW x mu me k = 0 ∨ y_pW x mu me k = 2 then y_bt (y_ph x k >>> (5 &&& 31)) 0 (mu - 1) else 0
def y_pD (x : Int32) (D k : Nat) : Nat := D + y_bt (y_ph x k) 0 6
theorem y_p_b {x : Int32} {D mu me k : Nat} (hmu : mu ≤ 12) (hme : me ≤ 5) (hD : D ≤ 900) : y_pD x D k ≤ 999 ∧ y_pW x mu me k ≤ 4 ∧ (y_pW x mu me k < 3 → y_pK x mu me k < me) ∧ (y_pW x mu me k = 4 → y_pK x mu me k < 10) ∧ (y_pW x mu me k = 0 ∨ y_pW x mu me k = 2 → y_pM x mu me k < mu) ∧ y_pK x mu me k < 100 ∧ y_pM x mu me k < 100 ∧ (y_pW x mu me k = 3 → y_pK x mu me k = 0) ∧ (¬ (y_pW x mu me k = 0 ∨ y_pW x mu me k = 2) → y_pM x mu me k = 0) := by
  have b0 := y_bt_b (v := y_ph x k >>> (3 &&& 31)) (lo := 0) (hi := 4) (by omega)
  have b1 := y_bt_b (v := y_ph x k) (lo := 0) (hi := 6) (by omega)
  have b2 := y_bt_b (v := y_ph x k >>> (6 &&& 31)) (lo := 0) (hi := 5) (by omega)
  have b3 := y_bt_b (v := y_ph x k >>> (6 &&& 31)) (lo := 0) (hi := me - 1) (by omega)
  have b4 := y_bt_b (v := y_ph x k >>> (5 &&& 31)) (lo := 0) (hi := mu - 1) (by omega)
  have hW0 : y_pW0 x k ≤ 4 := b0.2
  have hW : y_pW x mu me k ≤ 4 := by
    unfold y_pW
    split <;> omega
  have hWme : y_pW x mu me k < 3 → me ≠ 0 ∧ (mu = 0 → y_pW x mu me k % 2 ≠ 0) := by
    unfold y_pW
    split
    · intro h; omega
    · intro h; omega
  refine ⟨by unfold y_pD; omega, hW, fun h => ?_, fun h => ?_, fun h => ?_, ?_, ?_, fun h => ?_, fun h => ?_⟩
  · have := hWme h
    unfold y_pK
    rw [if_neg (by omega), if_neg (by omega)]
    omega
  · unfold y_pK
    rw [if_neg (by omega), if_pos h]
    omega
  · have := hWme (by omega)
    unfold y_pM
    rw [if_pos h]
    omega
  · unfold y_pK
    split
    · omega
    · split <;> omega
  · unfold y_pM
    split <;> omega
  · unfold y_pK
    rw [if_pos h]
  · unfold y_pM
    rw [if_neg h]
def y_fP (x : Int32) (D mu me k : Nat) : List Nat := y_pl (y_pD x D k) (y_pW x mu me k) (y_pK x mu me k) (y_pM x mu me k)
def y_rP (x : Int32) (D mu me k : Nat) : Nat → Int32 := y_r4 (nI (y_pD x D k)) (nI (y_pW x mu me k)) (nI (y_pK x mu me k)) (nI (y_pM x mu me k))
theorem y_pl_len {D w K M : Nat} (hD : D < 1000) (hK : K < 1000) (hM : M < 1000) : (y_pl D w K M).length ≤ 30 := by
  obtain ⟨m1, -⟩ := y_dgl hD
  obtain ⟨a1, -⟩ := y_dgl hK
  obtain ⟨b1, -⟩ := y_dgl hM
  have hw : (y_pw w).length ≤ 4 := by
    unfold y_pw
    split
    · decide
    · split
      · decide
      · split
        · decide
        · split <;> decide
  unfold y_pl
  simp only [List.length_append, List.length_cons, List.length_nil]
  split
  · simp only [List.length_cons, List.length_nil]; omega
  · simp only [List.length_append, List.length_cons]
    split
    · simp only [List.length_append, List.length_cons, List.length_nil]; omega
    · simp only [List.length_cons, List.length_nil]; omega
/-- rows laid into an array -/
def y_RW (U0 w : x_U) (pl N k nn : Nat) (row : Nat → Nat → Int32) : Prop := (x_k w pl = .inr (N, 3) ∧ x_n U0 ≤ pl ∧ pl < x_n w ∧ N < 100) ∧ ∀ i, i < k → (x_n U0 ≤ x_r w pl i ∧ x_r w pl i < x_n w) ∧ x_k w (x_r w pl i) = .inr (nn, 0) ∧ ∀ c, c < nn → x_t w (x_r w pl i) c = row i c
theorem y_RW.fr {U0 w w' : x_U} {own : Nat → Prop} {pl N k nn : Nat} {row : Nat → Nat → Int32} (h : y_RW U0 w pl N k nn row) (f : x_fr own w w') (h1 : ¬ own pl) (h2 : ∀ i, i < k → ¬ own (x_r w pl i)) : y_RW U0 w' pl N k nn row := by
  obtain ⟨⟨a1, a2, a3, a4⟩, a5⟩ := h
  have e := f.2.2.2.2 pl (Or.inl a3) h1
  have hf := f.2.1
  refine ⟨⟨by rw [f.2.2.2.1 pl (Or.inl a3)]; exact a1, a2, by omega, a4⟩, fun i hi => ?_⟩
  obtain ⟨⟨b1, b2⟩, b3, b4⟩ := a5 i hi
  have e2 := f.2.2.2.2 _ (Or.inl b2) (h2 i hi)
  rw [e.1, f.2.2.2.1 _ (Or.inl b2), e2.2]
  exact ⟨⟨b1, by omega⟩, b3, b4⟩
theorem y_RW.frB {U0 w w' : x_U} {o v cap pl N k nn : Nat} {row : Nat → Nat → Int32} (h : y_RW U0 w pl N k nn row) (f : x_fr (fun i => i = o ∨ i = v) w w') (ho : x_k w o = .inl 14) (hv : x_k w v = .inr (cap, 2)) : y_RW U0 w' pl N k nn row := by
  refine h.fr f (fun q => ?_) (fun i hi q => ?_)
  · have a1 := h.1.1
    rcases q with q | q
    · rw [q, ho] at a1; cases a1
    · rw [q, hv] at a1; cases a1
  · have a1 := (h.2 i hi).2.1
    rcases q with q | q
    · rw [q, ho] at a1; cases a1
    · rw [q, hv] at a1; cases a1
theorem y_CH.vk {own : Nat → Prop} {u0 u : x_U} {o v dn dm : Nat} {l : List Nat} (h : y_CH own u0 u o v l dn dm) : x_k u o = .inl 14 ∧ ∃ cap, x_k u v = .inr (cap, 2) := by
  obtain ⟨-, -, -, -, -, -, cap, ⟨h1, -⟩, ⟨h2, -⟩, -⟩ := h
  exact ⟨h1, cap, h2⟩
theorem y_CH.ext2 {own own2 : Nat → Prop} {u0 u u' : x_U} {o v dn dm a b : Nat} {l : List Nat} (h : y_CH own u0 u o v l dn dm) (f : x_fr own2 u u') (hn : x_n u' ≤ x_n u + a) (hm : x_m u' ≤ x_m u + b) (h5 : x_n u' ≤ 500000) (ho : ¬ own2 o) (hv : ¬ own2 v) (hw : ∀ i, own2 i → own i ∨ (x_n u0 ≤ i ∧ i ≤ 500000)) : y_CH own u0 u' o v l (dn + a) (dm + b) := by
  obtain ⟨f0, h1, h2, h3, h4, -, cap, hS⟩ := h
  refine ⟨?_, by omega, by omega, h3, h4, h5, cap, hS.fr f ho hv h5⟩
  refine (x_fr.tr (f0.mono (own' := fun i => own i ∨ own2 i) (fun i hi => Or.inl hi)) (f.mono (fun i hi => Or.inr hi))).sub (fun i hi hq => ?_)
  rcases hq with q | q
  · exact q
  · rcases hw i q with r | r
    · exact r
    · omega
section PL
variable {n p b L pl pa mu me : Nat} {d : Nat → Nat} {Fz : Nat → Prop}
/-- which of the five -/
theorem T_pw {x : Int32} {k : Nat} {w : x_U} (k1 : x_k w p = .inl 12) (t7 : x_t w p 7 = nI mu) (hmu : mu ≤ 12) (hme : me ≤ 5) (J : Int32 → x_U → Option (Int32 × x_U)) : (x_nm (fun (s203 : x_U) => J 3 s203) fun j425 =>
    x_nm (fun  (s204 : x_U) =>
      x_gi s204 p 12 7 fun v205 =>
      if v205 = 0 then (
      x_rem (nI (y_pW0 x k)) 2 fun v206 =>
      if v206 = 0 then (
      if nI (y_pW0 x k) < 3 then (
      j425 s204)
      else (
      J (nI (y_pW0 x k)) s204))
      else (
      J (nI (y_pW0 x k)) s204))
      else (
      J (nI (y_pW0 x k)) s204)) fun j405 =>
    if nI me = 0 then (
    if nI (y_pW0 x k) < 3 then (
    j425 w)
    else (
    j405 w))
    else (
    j405 w)) = J (nI (y_pW x mu me k)) w := by
  have hW0 : y_pW0 x k ≤ 4 := (y_bt_b (v := y_ph x k >>> (3 &&& 31)) (lo := 0) (hi := 4) (by omega)).2
  have e0 : (0 : Int32) = nI 0 := rfl
  have e2 : (2 : Int32) = nI 2 := rfl
  have e3 : (3 : Int32) = nI 3 := rfl
  have l3 : (nI (y_pW0 x k) < (3 : Int32)) ↔ y_pW0 x k < 3 := by rw [e3]; exact nI_ltI (by omega) (by omega)
  have z1 : (nI me = (0 : Int32)) ↔ me = 0 := by rw [e0]; exact nI_eq (by omega) (by omega)
  have z2 : (nI mu = (0 : Int32)) ↔ mu = 0 := by rw [e0]; exact nI_eq (by omega) (by omega)
  have z3 : (nI (y_pW0 x k % 2) = (0 : Int32)) ↔ y_pW0 x k % 2 = 0 := by rw [e0]; exact nI_eq (by omega) (by omega)
  have ej : (fun (s204 : x_U) =>
      x_gi s204 p 12 7 fun v205 =>
      if v205 = 0 then (
      x_rem (nI (y_pW0 x k)) 2 fun v206 =>
      if v206 = 0 then (
      if nI (y_pW0 x k) < 3 then (
      J 3 s204)
      else (
      J (nI (y_pW0 x k)) s204))
      else (
      J (nI (y_pW0 x k)) s204))
      else (
      J (nI (y_pW0 x k)) s204)) w = J (nI (if mu = 0 ∧ y_pW0 x k % 2 = 0 ∧ y_pW0 x k < 3 then 3 else y_pW0 x k)) w := by
    show (x_gi w p 12 7 fun v205 => _) = _
    rw [p_xgi, h_xgiE k1, t7]
    by_cases c1 : mu = 0
    · rw [if_pos (z2.mpr c1), e2, p_xrem, h_xremE (by omega) (by omega) (by omega)]
      by_cases c2 : y_pW0 x k % 2 = 0
      · rw [if_pos (z3.mpr c2)]
        by_cases c3 : y_pW0 x k < 3
        · rw [if_pos (l3.mpr c3), if_pos ⟨c1, c2, c3⟩]
          rfl
        · rw [if_neg (fun h => c3 (l3.mp h)), if_neg (fun h => c3 h.2.2)]
      · rw [if_neg (fun h => c2 (z3.mp h)), if_neg (fun h => c2 h.2.1)]
    · rw [if_neg (fun h => c1 (z2.mp h)), if_neg (fun h => c1 h.1)]
  rw [x_nmE, x_nmE]
  unfold y_pW
  by_cases c1 : me = 0
  · rw [if_pos (z1.mpr c1)]
    by_cases c2 : y_pW0 x k < 3
    · rw [if_pos (l3.mpr c2), if_pos (Or.inl ⟨c1, c2⟩)]
      rfl
    · rw [if_neg (fun h => c2 (l3.mp h))]
      refine ej.trans ?_
      rw [if_neg (fun h => c2 h.2.2), if_neg (fun h => by rcases h with h | h; exact c2 h.2; exact c2 h.2.2)]
  · rw [if_neg (fun h => c1 (z1.mp h))]
    refine ej.trans ?_
    by_cases c3 : mu = 0 ∧ y_pW0 x k % 2 = 0 ∧ y_pW0 x k < 3
    · rw [if_pos c3, if_pos (Or.inr c3)]
    · rw [if_neg c3, if_neg (fun h => by rcases h with h | h; exact c1 h.1; exact c3 h)]
end PL
