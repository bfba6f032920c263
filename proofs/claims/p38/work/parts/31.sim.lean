/-! the world of the class shows the rows of the reference -/
def z_TR (σ : q_Sto) (t : Nat) (V : Nat → Int32) (mu me : Nat) : Prop :=
  (σ t 8 = nI mu ∧ σ t 9 = nI me ∧ σ t 10 = V 5 ∧ σ t 11 = V 88 ∧ σ t 12 = V 1 ∧ σ t 13 = V 2 ∧ σ t 14 = V 3 ∧ σ t 15 = V 4 ∧ σ t 16 = V 0) ∧
  (∀ m, m < mu → σ (t+1) m = V (95+m) ∧ σ (t+2) m = V (107+m) ∧ σ (t+4) m = V (8+m)) ∧
  (∀ m, m < 12 → σ (t+3) m = z_bit (V 7) m) ∧
  (∀ m, mu ≤ m → m < 12 → σ (t+4) m = z_m) ∧
  (∀ k, k < me → σ (t+5) k = V (80+k) ∧ σ (t+6) k = V (119+k) ∧ σ (t+7) k = V (124+k)) ∧
  (∀ m k, m < mu → k < me → σ (t+8) (m*5+k) = V (20+5*m+k)) ∧
  (∀ m k, m < 12 → k < 5 → mu ≤ m ∨ me ≤ k → σ (t+8) (m*5+k) = nI 30)
def z_TF (V : Nat → Int32) (mu me : Nat) : Prop :=
  mu ≤ 12 ∧ me ≤ 5 ∧ V 86 = nI mu ∧ V 87 = nI me ∧ (∃ s, s < 2 ^ mu ∧ V 7 = nI s) ∧
  (∀ m, m < mu → z_op (V (8+m)) me ∧ z_le (V (95+m)) 40 ∧ z_le (V (107+m)) 40) ∧
  (∀ m k, m < mu → k < me → z_le (V (20+5*m+k)) 99) ∧
  (∀ k, k < me → z_le (V (80+k)) 99 ∧ z_le (V (119+k)) 9 ∧ z_le (V (124+k)) 9) ∧
  z_le (V 1) 9 ∧ z_op (V 2) me ∧ z_le (V 6) 150 ∧ z_le (V 88) 9
/-- what a mule heeds, out of the lines -/
def z_hor (c : Nat → Int32) (m : Nat) : Nat → Int32
  | 0 => nI 0
  | i + 1 => if c (i*4) = nI m then z_hor c m i ||| c (i*4+1) else z_hor c m i
def z_HE (σ : q_Sto) (b : Nat) (V : Nat → Int32) (mu : Nat) : Prop := ∃ c, c ≤ 16 ∧ σ (b+18) 2 = nI c ∧ V 90 = nI c ∧
  (∀ i, i < c → ∃ m s, m < mu ∧ s < 2 ^ mu ∧ σ (b+19) (i*4) = nI m ∧ σ (b+19) (i*4+1) = nI s) ∧
  (∀ m, m < 12 → V (129+m) = z_hor (σ (b+19)) m c ∧ ∃ s, s < 2 ^ mu ∧ s.testBit m = false ∧ V (129+m) = nI s)
def z_PL (σ : q_Sto) (b : Nat) (V : Nat → Int32) (mu me : Nat) : Prop := ∃ c, c ≤ 16 ∧ σ (b+20) 2 = nI c ∧ V 91 = nI c ∧
  (∀ i, i < c → σ (b+21) (i*4) = V (141+4*i) ∧ σ (b+21) (i*4+2) = V (141+4*i+2) ∧ σ (b+21) (i*4+3) = V (141+4*i+3) ∧ z_le (V (141+4*i)) 999 ∧
    ((V (141+4*i+1) = nI 13 ∧ σ (b+21) (i*4+1) = nI 0) ∨
     (V (141+4*i+1) = nI 10 ∧ σ (b+21) (i*4+1) = nI 1 ∧ (∃ k, k < me ∧ V (141+4*i+2) = nI k) ∧ ∃ m, m < mu ∧ V (141+4*i+3) = nI m) ∨
     (V (141+4*i+1) = nI 11 ∧ σ (b+21) (i*4+1) = nI 2 ∧ ∃ k, k < me ∧ V (141+4*i+2) = nI k) ∨
     (V (141+4*i+1) = nI 12 ∧ σ (b+21) (i*4+1) = nI 3 ∧ (∃ k, k < me ∧ V (141+4*i+2) = nI k) ∧ ∃ m, m < mu ∧ V (141+4*i+3) = nI m) ∨
     (V (141+4*i+1) = nI 14 ∧ σ (b+21) (i*4+1) = nI 4 ∧ ∃ k, k < 10 ∧ V (141+4*i+2) = nI k)))
def z_PA (σ : q_Sto) (b : Nat) (V : Nat → Int32) : Prop := ∃ c, c ≤ 16 ∧ σ (b+22) 2 = nI c ∧ V 92 = nI c ∧
  (∀ i, i < c → ∃ f t h, f < 10 ∧ t < 10 ∧ f ≠ t ∧ 1 ≤ h ∧ h ≤ 24 ∧ σ (b+23) (i*4) = nI f ∧ σ (b+23) (i*4+1) = nI t ∧ σ (b+23) (i*4+2) = nI h ∧
    V (205+3*i) = nI f ∧ V (205+3*i+1) = nI t ∧ V (205+3*i+2) = nI h)
def z_LO (σ : q_Sto) (b : Nat) (V : Nat → Int32) : Prop := ∃ c, c ≤ 8 ∧ σ (b+24) 2 = nI c ∧ V 93 = nI c ∧
  (∀ i, i < c → ∃ l w, 1 ≤ l ∧ l ≤ 40 ∧ 1 ≤ w ∧ w ≤ 99 ∧ σ (b+25) (i*4) = nI l ∧ σ (b+25) (i*4+1) = nI w ∧ V (253+2*i) = nI l ∧ V (253+2*i+1) = nI w)
def z_SI (σ : q_Sto) (b : Nat) (V : Nat → Int32) (mu me : Nat) : Prop := ∃ c, c ≤ 12 ∧ σ (b+26) 2 = nI c ∧ V 94 = nI c ∧
  (∀ i, i < c → ∃ m k z, m < mu ∧ k < me ∧ z ≤ 1 ∧ σ (b+27) (i*4) = nI m ∧ σ (b+27) (i*4+1) = nI k ∧ σ (b+27) (i*4+2) = nI z ∧
    V (269+3*i) = nI m ∧ V (269+3*i+1) = nI k ∧ V (269+3*i+2) = nI z)
/-- one step of the code: the class's sign and value, the reference's -/
def z_st1 (op val s v : Int32) : Prop :=
  (op = nI 0 ∧ s = nI 0 ∧ val = v) ∨ (∃ f, f < 10 ∧ op = nI 1 ∧ val = nI f ∧ s = nI (f+1)) ∨ (∃ d, 1 ≤ d ∧ d < 10000 ∧ op = nI 2 ∧ s = nI 26 ∧ val = nI d ∧ v = nI d) ∨
  (op = nI 3 ∧ s = nI 25) ∨ (op = nI 4 ∧ s = nI 23) ∨ (op = nI 5 ∧ s = nI 24) ∨ (op = nI 6 ∧ s = nI 27) ∨ (op = nI 7 ∧ s = nI 28) ∨ (op = nI 8 ∧ s = nI 29) ∨
  (op = nI 9 ∧ s = nI 30) ∨ (op = nI 10 ∧ s = nI 31) ∨ (op = nI 11 ∧ s = nI 32)
/-- kinds on the pile: true is a condition -/
def z_pop1 (a o : Bool) : List Bool → Option (List Bool)
  | x :: r => if x = a then some (o :: r) else none
  | [] => none
def z_pop2 (a o : Bool) : List Bool → Option (List Bool)
  | x :: y :: r => if x = a ∧ y = a then some (o :: r) else none
  | _ => none
def z_ty1 (op : Int32) (ts : List Bool) : Option (List Bool) :=
  if op = nI 0 ∨ op = nI 1 then some (false :: ts)
  else if op = nI 2 then z_pop1 false false ts
  else if op = nI 3 ∨ op = nI 4 ∨ op = nI 5 then z_pop2 false false ts
  else if op = nI 6 ∨ op = nI 7 ∨ op = nI 8 then z_pop2 false true ts
  else if op = nI 9 then z_pop1 true true ts
  else if op = nI 10 ∨ op = nI 11 then z_pop2 true true ts
  else none
/-- the kinds behind the steps from i, n of them -/
def z_ty (c : Nat → Int32) : Nat → Nat → List Bool → Option (List Bool)
  | 0, _, ts => some ts
  | n + 1, i, ts => match z_ty1 (c i) ts with
    | none => none
    | some us => z_ty c n (i + 1) us
def z_LW (σ : q_Sto) (b : Nat) (V : Nat → Int32) : Prop := ∃ c z, c ≤ 16 ∧ z ≤ 400 ∧ σ (b+10) 8 = nI c ∧ V 89 = nI c ∧
  (∀ i, i < c → ∃ f m t w, f ≤ m ∧ m ≤ t ∧ t ≤ z ∧ w < 3 ∧ V (905+i) = nI f ∧ V (921+i) = nI m ∧ V (937+i) = nI t ∧ V (953+i) = nI (20+w) ∧
    σ (b+11) i = nI w ∧ σ (b+12) i = nI f ∧ σ (b+14) i = nI t ∧ ((m = t ∧ σ (b+13) i = z_m) ∨ (m < t ∧ σ (b+13) i = nI m ∧ z_ty (σ (b+15)) (t - m) m [] = some [true])) ∧
    z_ty (σ (b+15)) (m - f) f [] = some [false]) ∧
  (∀ j, j < z → z_st1 (σ (b+15) j) (σ (b+16) j) (V (970+2*j)) (V (970+2*j+1)))
def z_BK (σ : q_Sto) (b : Nat) (V : Nat → Int32) : Prop := ∃ w, w ≤ 150 ∧ σ (b+1) 17 = nI w ∧ V 6 = nI w ∧ (∀ i c, i < w → c < 4 → σ (b+28) (i*4+c) = V (305+4*i+c))
def z_CA (σ : q_Sto) (b : Nat) : Prop := σ (b+18) 1 = nI 16 ∧ σ (b+20) 1 = nI 16 ∧ σ (b+22) 1 = nI 16 ∧ σ (b+24) 1 = nI 8 ∧ σ (b+26) 1 = nI 12
/-- the TEXTS and what was seen -/
def z_WT (σ : q_Sto) (b : Nat) (V : Nat → Int32) (mu me : Nat) : Prop := z_LW σ b V ∧ z_HE σ b V mu ∧ z_PL σ b V mu me ∧ z_PA σ b V ∧ z_LO σ b V ∧ z_SI σ b V mu me
def z_WR (σ : q_Sto) (b : Nat) (V : Nat → Int32) (mu me : Nat) : Prop := z_TR σ (b+1) V mu me ∧ z_WT σ b V mu me ∧ z_BK σ b V
def z_WF (V : Nat → Int32) (mu me : Nat) : Prop := z_TF V mu me ∧ z_le (V 0) 9999
/-- the reference's row as it was kept at i -/
def z_bk (σ : q_Sto) (i : Nat) (k : Nat) : Int32 := if k < 86 then σ 160 (86*i+k) else σ 158 k
def z_HI (σ : q_Sto) (mu me : Nat) : Prop := ∃ c, ∃ p : Nat → Nat, ∃ w : Nat → Nat, c ≤ 6 ∧ σ 61 1 = nI c ∧ σ 157 4 = nI c ∧ (∀ i, i < 6 → p i < 6 ∧ σ 62 i = nI (63 + 9 * p i)) ∧
  (∀ i j, i < 6 → j < 6 → p i = p j → i = j) ∧
  (∀ i, i < c → z_TR σ (63 + 9 * p i) (z_bk σ i) mu me ∧ z_WF (z_bk σ i) mu me ∧ σ (63 + 9 * p i) 17 = nI (w i) ∧ z_bk σ i 6 = nI (w i) ∧ σ 158 6 = nI (w c)) ∧
  (∀ i j, i ≤ j → j ≤ c → w i ≤ w j) ∧ w c ≤ 150
def z_TP (σ : q_Sto) : Prop := ∃ l, l ≤ 400 ∧ σ 142 1 = nI l ∧ σ 157 16 = nI l ∧ (∀ i, i < l → σ 143 i = σ 165 i ∧ z_le (σ 143 i) 255) ∧ σ 142 6 = σ 157 23 ∧ σ 142 7 = σ 157 25
def z_IM (σ : q_Sto) : Prop := (σ 0 2 = nI 0 ∧ σ 157 5 = nI 0) ∨ (σ 0 2 = nI 1 ∧ σ 157 5 = nI 1 ∧ ∃ mu me, z_WF (σ 159) mu me ∧ z_WR σ 31 (σ 159) mu me)
def z_SimN (σ : q_Sto) (mu me : Nat) : Prop := z_WF (σ 158) mu me ∧ z_WR σ 1 (σ 158) mu me ∧ z_HI σ mu me ∧ z_TP σ ∧ z_IM σ ∧ z_CA σ 1 ∧ z_CA σ 31 ∧ σ 155 1 = nI 16
def q_Sim (σ : q_Sto) : Prop := ∃ mu me, z_SimN σ mu me
/-! frames -/
theorem z_TR.fr {σ σ' : q_Sto} {t : Nat} {V : Nat → Int32} {mu me : Nat} (h : z_TR σ t V mu me) (e : ∀ o, t ≤ o → o ≤ t+8 → σ' o = σ o) : z_TR σ' t V mu me := by
  have e0 := e t (by omega) (by omega)
  have e1 := e (t+1) (by omega) (by omega)
  have e2 := e (t+2) (by omega) (by omega)
  have e3 := e (t+3) (by omega) (by omega)
  have e4 := e (t+4) (by omega) (by omega)
  have e5 := e (t+5) (by omega) (by omega)
  have e6 := e (t+6) (by omega) (by omega)
  have e7 := e (t+7) (by omega) (by omega)
  have e8 := e (t+8) (by omega) (by omega)
  unfold z_TR
  rw [e0, e1, e2, e3, e4, e5, e6, e7, e8]
  exact h
theorem z_WT.fr {σ σ' : q_Sto} {b : Nat} {V : Nat → Int32} {mu me : Nat} (h : z_WT σ b V mu me) (e : ∀ o, b+10 ≤ o → o ≤ b+27 → o ≠ b+17 → σ' o = σ o) : z_WT σ' b V mu me := by
  have e0 := e (b+10) (by omega) (by omega) (by omega)
  have e1 := e (b+11) (by omega) (by omega) (by omega)
  have e2 := e (b+12) (by omega) (by omega) (by omega)
  have e3 := e (b+13) (by omega) (by omega) (by omega)
  have e4 := e (b+14) (by omega) (by omega) (by omega)
  have e5 := e (b+15) (by omega) (by omega) (by omega)
  have e6 := e (b+16) (by omega) (by omega) (by omega)
  have e8 := e (b+18) (by omega) (by omega) (by omega)
  have e9 := e (b+19) (by omega) (by omega) (by omega)
  have e10 := e (b+20) (by omega) (by omega) (by omega)
  have e11 := e (b+21) (by omega) (by omega) (by omega)
  have e12 := e (b+22) (by omega) (by omega) (by omega)
  have e13 := e (b+23) (by omega) (by omega) (by omega)
  have e14 := e (b+24) (by omega) (by omega) (by omega)
  have e15 := e (b+25) (by omega) (by omega) (by omega)
  have e16 := e (b+26) (by omega) (by omega) (by omega)
  have e17 := e (b+27) (by omega) (by omega) (by omega)
  unfold z_WT z_LW z_HE z_PL z_PA z_LO z_SI
  rw [e0, e1, e2, e3, e4, e5, e6, e8, e9, e10, e11, e12, e13, e14, e15, e16, e17]
  exact h
theorem z_BK.fr {σ σ' : q_Sto} {b : Nat} {V : Nat → Int32} (h : z_BK σ b V) (e1 : σ' (b+1) = σ (b+1)) (e : σ' (b+28) = σ (b+28)) : z_BK σ' b V := by
  unfold z_BK
  rw [e1, e]
  exact h
theorem z_CA.fr {σ σ' : q_Sto} {b : Nat} (h : z_CA σ b) (e : ∀ o, b+18 ≤ o → o ≤ b+26 → σ' o = σ o) : z_CA σ' b := by
  have e8 := e (b+18) (by omega) (by omega)
  have e10 := e (b+20) (by omega) (by omega)
  have e12 := e (b+22) (by omega) (by omega)
  have e14 := e (b+24) (by omega) (by omega)
  have e16 := e (b+26) (by omega) (by omega)
  unfold z_CA
  rw [e8, e10, e12, e14, e16]
  exact h
theorem z_WR.fr {σ σ' : q_Sto} {b : Nat} {V : Nat → Int32} {mu me : Nat} (h : z_WR σ b V mu me) (e : ∀ o, b+1 ≤ o → o ≤ b+28 → o ≠ b+17 → σ' o = σ o) : z_WR σ' b V mu me :=
  ⟨h.1.fr (fun o h1 h2 => e o h1 (by omega) (by omega)), h.2.1.fr (fun o h1 h2 h3 => e o (by omega) (by omega) h3), h.2.2.fr (e _ (by omega) (by omega) (by omega)) (e _ (by omega) (by omega) (by omega))⟩
theorem z_HI.fr {σ σ' : q_Sto} {mu me : Nat} (h : z_HI σ mu me) (e : ∀ o, 61 ≤ o → o ≤ 116 → σ' o = σ o) (e4 : σ' 157 4 = σ 157 4) (ew : σ' 158 = σ 158) (eb : σ' 160 = σ 160) : z_HI σ' mu me := by
  obtain ⟨c, p, w, h1, h2, h3, h4, h5, h6, h7, h8⟩ := h
  have eb' : ∀ i, z_bk σ' i = z_bk σ i := fun i => by funext k; unfold z_bk; rw [eb, ew]
  refine ⟨c, p, w, h1, by rw [e 61 (by omega) (by omega)]; exact h2, by rw [e4]; exact h3, by rw [e 62 (by omega) (by omega)]; exact h4, h5, fun i hi => ?_, h7, h8⟩
  have hp := (h4 i (by omega)).1
  obtain ⟨g1, g2, g3, g4, g5⟩ := h6 i hi
  rw [eb', ew, e (63 + 9 * p i) (by omega) (by omega)]
  exact ⟨g1.fr (fun o ho1 ho2 => e o (by omega) (by omega)), g2, g3, g4, g5⟩
theorem z_TP.fr {σ σ' : q_Sto} (h : z_TP σ) (e1 : σ' 142 1 = σ 142 1) (e6 : σ' 142 6 = σ 142 6) (e7 : σ' 142 7 = σ 142 7) (e143 : σ' 143 = σ 143) (e165 : σ' 165 = σ 165) (e16 : σ' 157 16 = σ 157 16) (e23 : σ' 157 23 = σ 157 23) (e25 : σ' 157 25 = σ 157 25) : z_TP σ' := by
  unfold z_TP
  rw [e1, e6, e7, e143, e165, e16, e23, e25]
  exact h
theorem z_IM.fr {σ σ' : q_Sto} (h : z_IM σ) (e : ∀ o, 31 ≤ o → o ≤ 59 → o ≠ 48 → σ' o = σ o) (e0 : σ' 0 2 = σ 0 2) (e5 : σ' 157 5 = σ 157 5) (e159 : σ' 159 = σ 159) : z_IM σ' := by
  unfold z_IM at *
  rw [e0, e5, e159]
  rcases h with h | ⟨h1, h2, mu, me, h3, h4⟩
  · exact Or.inl h
  · exact Or.inr ⟨h1, h2, mu, me, h3, h4.fr (fun o ho1 ho2 ho3 => e o (by omega) (by omega) (by omega))⟩
/-- the cells that don't tell anything -/
def z_sc (o : Nat) : Bool := o == 18 || o == 30 || o == 48 || o == 60 || (Nat.ble 117 o && Nat.ble o 141) || (Nat.ble 144 o && Nat.ble o 154) || o == 156 || (Nat.ble 161 o && Nat.ble o 164) || Nat.ble 166 o
theorem z_Sim.fr {σ σ' : q_Sto} {mu me : Nat} (h : z_SimN σ mu me) (e : ∀ o, z_sc o = false → o ≠ 157 → σ' o = σ o) (e4 : σ' 157 4 = σ 157 4) (e5 : σ' 157 5 = σ 157 5) (e16 : σ' 157 16 = σ 157 16) (e23 : σ' 157 23 = σ 157 23) (e25 : σ' 157 25 = σ 157 25) : z_SimN σ' mu me := by
  have ew := e 158 rfl (by omega)
  have g : ∀ o, o ≤ 116 → o ≠ 18 → o ≠ 30 → o ≠ 48 → o ≠ 60 → σ' o = σ o := fun o h1 h2 h3 h4 h5 => e o (by
    have a1 : Nat.ble 117 o = false := by rw [Bool.eq_false_iff]; intro hh; have := Nat.le_of_ble_eq_true hh; omega
    have a2 : Nat.ble 144 o = false := by rw [Bool.eq_false_iff]; intro hh; have := Nat.le_of_ble_eq_true hh; omega
    have a3 : Nat.ble 161 o = false := by rw [Bool.eq_false_iff]; intro hh; have := Nat.le_of_ble_eq_true hh; omega
    have a4 : Nat.ble 166 o = false := by rw [Bool.eq_false_iff]; intro hh; have := Nat.le_of_ble_eq_true hh; omega
    have a5 : (o == 18) = false := by simp; omega
    have a6 : (o == 30) = false := by simp; omega
    have a7 : (o == 48) = false := by simp; omega
    have a8 : (o == 60) = false := by simp; omega
    have a9 : (o == 156) = false := by simp; omega
    unfold z_sc
    rw [a1, a2, a3, a4, a5, a6, a7, a8, a9]; rfl) (by omega)
  obtain ⟨h1, h2, h3, h4, h5, h6, h7, h8⟩ := h
  refine ⟨by rw [ew]; exact h1, ?_, ?_, ?_, ?_, ?_, ?_, ?_⟩
  · rw [ew]; exact h2.fr (fun o a b c => g o (by omega) (by omega) (by omega) (by omega) (by omega))
  · refine h3.fr (fun o a b => g o (by omega) (by omega) (by omega) (by omega) (by omega)) e4 ew (e 160 rfl (by omega))
  · exact h4.fr (by rw [e 142 rfl (by omega)]) (by rw [e 142 rfl (by omega)]) (by rw [e 142 rfl (by omega)]) (e 143 rfl (by omega)) (e 165 rfl (by omega)) e16 e23 e25
  · exact h5.fr (fun o a b c => g o (by omega) (by omega) (by omega) (by omega) (by omega)) (by rw [e 0 rfl (by omega)]) e5 (e 159 rfl (by omega))
  · exact h6.fr (fun o a b => g o (by omega) (by omega) (by omega) (by omega) (by omega))
  · exact h7.fr (fun o a b => g o (by omega) (by omega) (by omega) (by omega) (by omega))
  · rw [e 155 rfl (by omega)]; exact h8
