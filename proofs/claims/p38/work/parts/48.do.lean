/-! what is truly done, with its history -/
def z_PV (V : Nat → Int32) : Nat → Int32 := fun a => if a < 100000 then V (305+a) else V (a - 100000)
def z_XT (mu me : Nat) (σ : q_Sto) (V : Nat → Int32) : Prop := z_C σ V mu me ∧ z_BK σ 1 V
theorem z_XT.X {mu me w : Nat} {V : Nat → Int32} {σ : q_Sto} (h : z_XT mu me σ V) (h6 : V 6 = nI w) (hw : w ≤ 150) : z_X mu me true w (z_PV V) σ V := by
  obtain ⟨hC, w', h1, h2, h3, h4⟩ := h
  have e : w' = w := by rw [h6, nI_eq (by omega) (by omega)] at h3; exact h3.symm
  subst e
  refine ⟨hC, w', h1, by omega, h2, fun a ha => ?_, fun _ => ⟨h3, h4⟩, fun a a1 a2 => ?_⟩
  · have := h4 (a / 4) (a % 4) (by omega) (by omega)
    have e2 : a / 4 * 4 + a % 4 = a := by omega
    have e3 : 305 + 4 * (a / 4) + a % 4 = 305 + a := by omega
    rw [e3] at this
    have this : σ 29 (a / 4 * 4 + a % 4) = V (305 + a) := this
    rw [e2] at this
    rw [this]
    exact (if_pos (by omega)).symm
  · show _ = (if _ then _ else _)
    rw [if_neg (by omega), show 100000 + a - 100000 = a by omega]
theorem z_XT.w {mu me : Nat} {V : Nat → Int32} {σ : q_Sto} (h : z_XT mu me σ V) : ∃ w, w ≤ 150 ∧ V 6 = nI w ∧ σ 2 17 = nI w := by
  obtain ⟨hC, w', h1, h2, h3, h4⟩ := h
  exact ⟨w', h1, h3, h2⟩
theorem z_X.XT {mu me w0 : Nat} {P V : Nat → Int32} {σ : q_Sto} (h : z_X mu me true w0 P σ V) : z_XT mu me σ V ∧ (∃ w, w0 ≤ w ∧ w ≤ 150 ∧ V 6 = nI w) ∧ (∀ a, a = 0 ∨ 86 ≤ a → a < 305 → V a = P (100000 + a)) := by
  obtain ⟨hC, w', h1, h2, h3, h4, h5, h6⟩ := h
  obtain ⟨h7, h8⟩ := h5 rfl
  exact ⟨⟨hC, w', h1, h3, h7, h8⟩, ⟨w', h2, h1, h7⟩, fun a a1 a2 => h6 a a1 (Or.inl a2)⟩
theorem z_PV_hi {V : Nat → Int32} {a : Nat} (h : a < 305) : z_PV V (100000 + a) = V a := by
  show (if _ then _ else _) = _
  rw [if_neg (by omega), show 100000 + a - 100000 = a by omega]
abbrev z_Hs : Type := Nat × (Nat → Nat → Int32) × (Nat → Nat)
def z_HCl (mu me : Nat) (σ : q_Sto) (hs : z_Hs) : Prop := hs.1 ≤ 6 ∧ σ 61 1 = nI hs.1 ∧ ∃ p, z_HP σ p ∧ ∀ i, i < hs.1 → z_TR σ (63 + 9 * p i) (hs.2.1 i) mu me ∧ σ (63 + 9 * p i) 17 = nI (hs.2.2 i)
def z_HRf (σ : q_Sto) (hs : z_Hs) : Prop := σ 157 4 = nI hs.1 ∧ ∀ i k, i < hs.1 → k < 86 → σ 160 (86*i+k) = hs.2.1 i k
def z_HPu (mu me : Nat) (hs : z_Hs) (V : Nat → Int32) (wn : Nat) : Prop := hs.1 ≤ 6 ∧ (∀ i, i < hs.1 → z_WF (hs.2.1 i) mu me ∧ (∀ a, 86 ≤ a → a < 129 → hs.2.1 i a = V a) ∧ hs.2.1 i 6 = nI (hs.2.2 i) ∧ hs.2.2 i ≤ wn) ∧ (∀ i j, i ≤ j → j < hs.1 → hs.2.2 i ≤ hs.2.2 j) ∧ wn ≤ 150 ∧ V 6 = nI wn
def z_push (hs : z_Hs) (V : Nat → Int32) (wn : Nat) : z_Hs := if hs.1 = 6 then (6, fun i => if i < 5 then hs.2.1 (i+1) else V, fun i => if i < 5 then hs.2.2 (i+1) else wn) else (hs.1 + 1, fun i => if i < hs.1 then hs.2.1 i else V, fun i => if i < hs.1 then hs.2.2 i else wn)
theorem z_push_1 {hs : z_Hs} {V : Nat → Int32} {wn c d sh : Nat} (hc : hs.1 = c) (h1 : d + sh = c) (h2 : d ≤ 5) (h3 : sh ≤ 1) (h4 : sh = 1 → c = 6) : (z_push hs V wn).1 = d + 1 ∧ (∀ i, i < d → (z_push hs V wn).2.1 i = hs.2.1 (i+sh) ∧ (z_push hs V wn).2.2 i = hs.2.2 (i+sh)) ∧ (z_push hs V wn).2.1 d = V ∧ (z_push hs V wn).2.2 d = wn := by
  unfold z_push
  by_cases h6 : c = 6
  · have hs1 : sh = 1 := by omega
    have hd : d = 5 := by omega
    subst hs1 hd
    rw [if_pos (by rw [hc, h6])]
    exact ⟨rfl, fun i hi => ⟨if_pos hi, if_pos hi⟩, by simp, by simp⟩
  · have hs0 : sh = 0 := by
      by_cases q : sh = 1
      · exact absurd (h4 q) h6
      · omega
    subst hs0
    have hd : d = hs.1 := by omega
    subst hd
    rw [if_neg (by omega)]
    exact ⟨rfl, fun i hi => ⟨if_pos hi, if_pos hi⟩, by simp, by simp⟩
theorem z_HI.hs {σ : q_Sto} {mu me wn : Nat} (h : z_HI σ mu me) (h6 : σ 158 6 = nI wn) (hw : wn ≤ 150) : ∃ hs, z_HCl mu me σ hs ∧ z_HRf σ hs ∧ z_HPu mu me hs (σ 158) wn := by
  obtain ⟨c, p, w, ⟨g1, g2, g3, g4, g5, g6⟩, g7, g8⟩ := h.V
  refine ⟨(c, fun i k => if k < 86 then σ 160 (86*i+k) else σ 158 k, w), ⟨g1, g2, p, g3, fun i hi => ⟨(g4 i hi).1, (g4 i hi).2.2.1⟩⟩, ⟨g7, fun i k hi hk => (if_pos hk).symm⟩, g1, fun i hi => ⟨(g4 i hi).2.1, fun a a1 a2 => if_neg (by omega), ?_, ?_⟩, fun i j hij hj => g5 i j hij (Nat.le_of_lt hj), hw, h6⟩
  · show (if 6 < 86 then σ 160 (86*i+6) else σ 158 6) = nI (w i)
    rw [if_pos (by omega)]
    exact (g4 i hi).2.2.2
  · have hi : i < c := hi
    have e := g8 (by omega)
    have hwc : w c = wn := by
      rw [h6, nI_eq (by omega) (by omega)] at e
      exact e.symm
    rw [← hwc]
    exact g5 i c (by omega) (by omega)
theorem z_HI.of {σ : q_Sto} {mu me wn : Nat} {hs : z_Hs} {V : Nat → Int32} (h1 : z_HCl mu me σ hs) (h2 : z_HRf σ hs) (h3 : z_HPu mu me hs V wn) (hV : ∀ a, 86 ≤ a → a < 129 → σ 158 a = V a) (h6 : σ 158 6 = nI wn) : z_HI σ mu me := by
  obtain ⟨c1, c2, p, ⟨c3, c4⟩, c5⟩ := h1
  obtain ⟨r1, r2⟩ := h2
  obtain ⟨-, u1, u2, u3, u4⟩ := h3
  refine ⟨hs.1, p, fun i => if i < hs.1 then hs.2.2 i else wn, c1, c2, r1, c3, c4, fun i hi => ?_, fun i j hij hj => ?_, ?_⟩
  · obtain ⟨g1, g2⟩ := c5 i hi
    obtain ⟨v1, v2, v3, v4⟩ := u1 i hi
    have e : ∀ a, a < 129 → z_bk σ i a = hs.2.1 i a := fun a ha => by
      show (if _ then _ else _) = _
      by_cases q : a < 86
      · rw [if_pos q]; exact r2 i a hi q
      · rw [if_neg q, hV a (by omega) ha, v2 a (by omega) ha]
    refine ⟨g1.congr v1.1.1 v1.1.2.1 e, v1.congr e, ?_, ?_, ?_⟩
    · simp only [if_pos hi]; exact g2
    · simp only [if_pos hi]; rw [e 6 (by omega)]; exact v3
    · simp only [if_neg (Nat.lt_irrefl hs.1)]; exact h6
  · by_cases q : j < hs.1
    · simp only [if_pos (Nat.lt_of_le_of_lt hij q), if_pos q]; exact u2 i j hij q
    · simp only [if_neg q]
      by_cases q2 : i < hs.1
      · simp only [if_pos q2]; exact (u1 i q2).2.2.2
      · simp only [if_neg q2]; exact Nat.le_refl _
  · simp only [if_neg (Nat.lt_irrefl hs.1)]; exact u3
theorem c_keepH {n mu me wn : Nat} {V : Nat → Int32} {hs : z_Hs} {σ : q_Sto} (hn : 7 ≤ n) (hC : z_C σ V mu me) (hH : z_HCl mu me σ hs) (hu : z_HPu mu me hs V wn) (h17 : σ 2 17 = nI wn) :
    ∃ σ', z_HCl mu me σ' (z_push hs V wn) ∧ (∀ o, o < 61 ∨ 116 < o → σ' o = σ o) ∧ f_X1_keep n 61 2 σ = some (nI 0, σ') := by
  obtain ⟨c1, c2, p, c3, c5⟩ := hH
  obtain ⟨-, u1, u2, u3, u4⟩ := hu
  obtain ⟨σ', p', d, sh, a1, a2, a3, a4, a5, a6, a7, a8, a9, a10, a11, a12⟩ := c_keep hn hC c1 c2 c3 h17
  obtain ⟨b1, b2, b3, b4⟩ := z_push_1 (hs := hs) (V := V) (wn := wn) rfl a1 a2 a3 a4
  refine ⟨σ', ⟨by omega, by rw [b1]; exact a7, p', a5, fun i hi => ?_⟩, a11, a12⟩
  by_cases q : i = d
  · subst q
    rw [b3, b4]
    exact ⟨a8, a9⟩
  · have hid : i < d := by omega
    have hfr := a10 i (by omega) q
    obtain ⟨g1, g2⟩ := c5 (i + sh) (by omega)
    rw [(b2 i hid).1, (b2 i hid).2]
    rw [a6 i hid] at hfr ⊢
    refine ⟨g1.fr hfr, ?_⟩
    rw [hfr _ (by omega) (by omega)]
    exact g2
theorem z_HPu.push {mu me wn w2 : Nat} {V W : Nat → Int32} {hs : z_Hs} (h : z_HPu mu me hs V wn) (hF : z_WF V mu me) (hst : ∀ a, 86 ≤ a → a < 129 → W a = V a) (hw : wn ≤ w2) (hw2 : w2 ≤ 150) (h6 : W 6 = nI w2) : z_HPu mu me (z_push hs V wn) W w2 := by
  obtain ⟨h1, u1, u2, u3, u4⟩ := h
  have hd : ∃ d sh, d + sh = hs.1 ∧ d ≤ 5 ∧ sh ≤ 1 ∧ (sh = 1 → hs.1 = 6) := by
    by_cases q : hs.1 = 6
    · exact ⟨5, 1, by omega, by omega, by omega, fun _ => q⟩
    · exact ⟨hs.1, 0, by omega, by omega, by omega, fun q => by omega⟩
  obtain ⟨d, sh, a1, a2, a3, a4⟩ := hd
  obtain ⟨b1, b2, b3, b4⟩ := z_push_1 (hs := hs) (V := V) (wn := wn) rfl a1 a2 a3 a4
  refine ⟨by omega, fun i hi => ?_, fun i j hij hj => ?_, hw2, h6⟩
  · by_cases q : i = d
    · subst q
      rw [b3, b4]
      exact ⟨hF, fun a x1 x2 => (hst a x1 x2).symm, u4, hw⟩
    · rw [(b2 i (by omega)).1, (b2 i (by omega)).2]
      obtain ⟨v1, v2, v3, v4⟩ := u1 (i+sh) (by omega)
      exact ⟨v1, fun a x1 x2 => (v2 a x1 x2).trans (hst a x1 x2).symm, v3, by omega⟩
  · by_cases q : j = d
    · subst q
      rw [b4]
      by_cases q2 : i = j
      · subst q2; rw [b4]; exact Nat.le_refl _
      · rw [(b2 i (by omega)).2]; exact (u1 (i+sh) (by omega)).2.2.2
    · rw [(b2 j (by omega)).2, (b2 i (by omega)).2]
      exact u2 (i+sh) (j+sh) (by omega) (by omega)
/-- Sim out of its parts -/
theorem z_Sim.of {σ σ' : q_Sto} {mu me wn : Nat} {V : Nat → Int32} {hs : z_Hs} (h : z_SimN σ mu me) (hX : z_XT mu me σ' V) (hV : σ' 158 = V) (h0 : z_le (V 0) 9999) (h1 : z_HCl mu me σ' hs) (h2 : z_HRf σ' hs) (h3 : z_HPu mu me hs V wn)
    (e : ∀ o, o = 0 ∨ (31 ≤ o ∧ o ≤ 59 ∧ o ≠ 48) ∨ o = 142 ∨ o = 143 ∨ o = 155 ∨ o = 159 ∨ o = 165 ∨ (19 ≤ o ∧ o ≤ 27) → σ' o = σ o) (e157 : ∀ a, a ≠ 4 → a ≠ 26 → σ' 157 a = σ 157 a) : z_SimN σ' mu me := by
  obtain ⟨s1, s2, s3, s4, s5, s6, s7, s8⟩ := h
  obtain ⟨⟨x1, x2, x3⟩, x4⟩ := hX
  refine ⟨by rw [hV]; exact ⟨x1, h0⟩, by rw [hV]; exact ⟨x2, x3, x4⟩, h1 |>.2.1 |> fun _ => z_HI.of h1 h2 h3 (fun a _ _ => by rw [hV]) (by rw [hV]; exact h3.2.2.2.2), s4.fr (by rw [e 142 (by omega)]) (by rw [e 142 (by omega)]) (by rw [e 142 (by omega)]) (e 143 (by omega)) (e 165 (by omega)) (e157 16 (by omega) (by omega)) (e157 23 (by omega) (by omega)) (e157 25 (by omega) (by omega)),
    s5.fr (fun o o1 o2 o3 => e o (by omega)) (by rw [e 0 (by omega)]) (e157 5 (by omega) (by omega)) (e 159 (by omega)), s6.fr (fun o o1 o2 => e o (by omega)), s7.fr (fun o o1 o2 => by
      by_cases q : o = 48
      · omega
      · exact e o (by omega)), by rw [e 155 (by omega)]; exact s8⟩
theorem z_Sim.un {σ : q_Sto} {mu me : Nat} (h : z_SimN σ mu me) : ∃ hs wn, z_XT mu me σ (σ 158) ∧ z_le (σ 158 0) 9999 ∧ z_HCl mu me σ hs ∧ z_HRf σ hs ∧ z_HPu mu me hs (σ 158) wn ∧ wn ≤ 150 ∧ σ 158 6 = nI wn ∧ σ 2 17 = nI wn := by
  obtain ⟨s1, s2, s3, s4, s5, s6, s7, s8⟩ := h
  have hX : z_XT mu me σ (σ 158) := ⟨⟨s1.1, s2.1, s2.2.1⟩, s2.2.2⟩
  obtain ⟨wn, w1, w2, w3⟩ := hX.w
  obtain ⟨hs, a1, a2, a3⟩ := s3.hs w2 w1
  exact ⟨hs, wn, hX, s1.2, a1, a2, a3, w1, w2, w3⟩
theorem z_WFC {σ : q_Sto} {V : Nat → Int32} {mu me : Nat} (h : z_XT mu me σ V) (h0 : z_le (V 0) 9999) : z_WF V mu me := ⟨h.1.1, h0⟩