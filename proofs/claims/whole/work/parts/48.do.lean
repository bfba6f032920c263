/-! what is truly done, with its history -/
def z_PV (V : Nat → Int32) : Nat → Int32 := fun a => if a < 100000 then V (305+a) else V (a - 100000)
def z_XT (mu me : Nat) (σ : q_Sto) (V : Nat → Int32) : Prop := z_C σ V mu me ∧ z_BK σ 1 V
theorem z_XT.X {mu me w : Nat} {V : Nat → Int32} {σ : q_Sto} (h : z_XT mu me σ V) (h6 : V 6 = nI w) (hw : w ≤ 150) : z_X mu me true w (z_PV V) σ V := by
  obtain ⟨hC, w', h1, h2, h3, h4⟩ := h
  have e : w' = w := by rw [h6, nI_eq (by omega) (by omega)] at h3; exact h3.symm
  subst e
  refine ⟨hC, w', h1, by omega, h2, fun a ha => ?_, fun _ => ⟨h3, h4⟩, fun a a1 a2 => ?_⟩
  · have := h4 (a / 4) (a % 4) (by omega) (by omega)
    have e2 : a / 4 * 4 + a % 4 = a := by omega
    have e3 : 305 + 4 * (a / 4) + a % 4 = 305 + a := by omega
    rw [e3] at this
    have this : σ 29 (a / 4 * 4 + a % 4) = V (305 + a) := this
    rw [e2] at this
    rw [this]
    exact (if_pos (by omega)).symm
  · show _ = (if _ then _ else _)
    rw [if_neg (by omega), show 100000 + a - 100000 = a by omega]
theorem z_XT.w {mu me : Nat} {V : Nat → Int32} {σ : q_Sto} (h : z_XT mu me σ V) : ∃ w, w ≤ 150 ∧ V 6 = nI w ∧ σ 2 17 = nI w := by
  obtain ⟨hC, w', h1, h2, h3, h4⟩ := h
  exact ⟨w', h1, h3, h2⟩
theorem z_X.XT {mu me w0 : Nat} {P V : Nat → Int32} {σ : q_Sto} (h : z_X mu me true w0 P σ V) : z_XT mu me σ V ∧ (∃ w, w0 ≤ w ∧ w ≤ 150 ∧ V 6 = nI w) ∧ (∀ a, a = 0 ∨ 86 ≤ a → a < 305 → V a = P (100000 + a)) := by
  obtain ⟨hC, w', h1, h2, h3, h4, h5, h6⟩ := h
  obtain ⟨h7, h8⟩ := h5 rfl
  exact ⟨⟨hC, w', h1, h3, h7, h8⟩, ⟨w', h2, h1, h7⟩, fun a a1 a2 => h6 a a1 (Or.inl a2)⟩
theorem z_PV_hi {V : Nat → Int32} {a : Nat} (h : a < 305) : z_PV V (100000 + a) = V a := by
  show (if _ then _ else _) = _
  rw [if_neg (by omega), show 100000 + a - 100000 = a by omega]
abbrev z_Hs : Type := Nat × (Nat → Nat → Int32) × (Nat → Nat)
def z_HCl (mu me : Nat) (σ : q_Sto) (hs : z_Hs) : Prop := hs.1 ≤ 6 ∧ σ 61 1 = nI hs.1 ∧ ∃ p, z_HP σ p ∧ ∀ i, i < hs.1 → z_TR σ (63 + 9 * p i) (hs.2.1 i) mu me ∧ σ (63 + 9 * p i) 17 = nI (hs.2.2 i)
def z_HRf (σ : q_Sto) (hs : z_Hs) : Prop := σ 157 4 = nI hs.1 ∧ ∀ i k, i < hs.1 → k < 86 → σ 160 (86*i+k) = hs.2.1 i k
def z_HPu (mu me : Nat) (hs : z_Hs) (V : Nat → Int32) (wn : Nat) : Prop := hs.1 ≤ 6 ∧ (∀ i, i < hs.1 → z_WF (hs.2.1 i) mu me ∧ (∀ a, 86 ≤ a → a < 129 → hs.2.1 i a = V a) ∧ hs.2.1 i 6 = nI (hs.2.2 i) ∧ hs.2.2 i ≤ wn) ∧ (∀ i j, i ≤ j → j < hs.1 → hs.2.2 i ≤ hs.2.2 j) ∧ wn ≤ 150 ∧ V 6 = nI wn
def z_push (hs : z_Hs) (V : Nat → Int32) (wn : Nat) : z_Hs := if hs.1 = 6 then (6, fun i => if i < 5 then hs.2.1 (i+1) else V, fun i => if i < 5 then hs.2.2 (i+1) else wn) else (hs.1 + 1, fun i => if i < hs.1 then hs.2.1 i else V, fun i => if i < hs.1 then hs.2.2 i else wn)
theorem z_push_1 {hs : z_Hs} {V : Nat → Int32} {wn c d sh : Nat} (hc : hs.1 = c) (h1 : d + sh = c) (h2 : d ≤ 5) (h3 : sh ≤ 1) (h4 : sh = 1 → c = 6) : (z_push hs V wn).1 = d + 1 ∧ (∀ i, i < d → (z_push hs V wn).2.1 i = hs.2.1 (i+sh) ∧ (z_push hs V wn).2.2 i = hs.2.2 (i+sh)) ∧ (z_push hs V wn).2.1 d = V ∧ (z_push hs V wn).2.2 d = wn := by
  unfold z_push
  by_cases h6 : c = 6
  · have hs1 : sh = 1 := by omega
    have hd : d = 5 := by omega
    subst hs1 hd
    rw [if_pos (by rw [hc, h6])]
    exact ⟨rfl, fun i hi => ⟨if_pos hi, if_pos hi⟩, by simp, by simp⟩
  · have hs0 : sh = 0 := by
      by_cases q : sh = 1
      · exact absurd (h4 q) h6
      · omega
    subst hs0
    have hd : d = hs.1 := by omega
    subst hd
    rw [if_neg (by omega)]
    exact ⟨rfl, fun i hi => ⟨if_pos hi, if_pos hi⟩, by simp, by simp⟩
theorem z_HI.hs {σ : q_Sto} {mu me wn : Nat} (h : z_HI σ mu me) (h6 : σ 158 6 = nI wn) (hw : wn ≤ 150) : ∃ hs, z_HCl mu me σ hs ∧ z_HRf σ hs ∧ z_HPu mu me hs (σ 158) wn := by
  obtain ⟨c, p, w, ⟨g1, g2, g3, g4, g5, g6⟩, g7, g8⟩ := h.V
  refine ⟨(c, fun i k => if k < 86 then σ 160 (86*i+k) else σ 158 k, w), ⟨g1, g2, p, g3, fun i hi => ⟨(g4 i hi).1, (g4 i hi).2.2.1⟩⟩, ⟨g7, fun i k hi hk => (if_pos hk).symm⟩, g1, fun i hi => ⟨(g4 i hi).2.1, fun a a1 a2 => if_neg (by omega), ?_, ?_⟩, fun i j hij hj => g5 i j hij (Nat.le_of_lt hj), hw, h6⟩
  · show (if 6 < 86 then σ 160 (86*i+6) else σ 158 6) = nI (w i)
    rw [if_pos (by omega)]
    exact (g4 i hi).2.2.2
  · have hi : i < c := hi
    have e := g8 (by omega)
    have hwc : w c = wn := by
      rw [h6, nI_eq (by omega) (by omega)] at e
      exact e.symm
    rw [← hwc]
    exact g5 i c (by omega) (by omega)
theorem z_HI.of {σ : q_Sto} {mu me wn : Nat} {hs : z_Hs} {V : Nat → Int32} (h1 : z_HCl mu me σ hs) (h2 : z_HRf σ hs) (h3 : z_HPu mu me hs V wn) (hV : ∀ a, 86 ≤ a → a < 129 → σ 158 a = V a) (h6 : σ 158 6 = nI wn) : z_HI σ mu me := by
  obtain ⟨c1, c2, p, ⟨c3, c4⟩, c5⟩ := h1
  obtain ⟨r1, r2⟩ := h2
  obtain ⟨-, u1, u2, u3, u4⟩ := h3
  refine ⟨hs.1, p, fun i => if i < hs.1 then hs.2.2 i else wn, c1, c2, r1, c3, c4, fun i hi => ?_, fun i j hij hj => ?_, ?_⟩
  · obtain ⟨g1, g2⟩ := c5 i hi
    obtain ⟨v1, v2, v3, v4⟩ := u1 i hi
    have e : ∀ a, a < 129 → z_bk σ i a = hs.2.1 i a := fun a ha => by
      show (if _ then _ else _) = _
      by_cases q : a < 86
      · rw [if_pos q]; exact r2 i a hi q
      · rw [if_neg q, hV a (by omega) ha, v2 a (by omega) ha]
    refine ⟨g1.congr v1.1.1 v1.1.2.1 e, v1.congr e, ?_, ?_, ?_⟩
    · simp only [if_pos hi]; exact g2
    · simp only [if_pos hi]; rw [e 6 (by omega)]; exact v3
    · simp only [if_neg (Nat.lt_irrefl hs.1)]; exact h6
  · by_cases q : j < hs.1
    · simp only [if_pos (Nat.lt_of_le_of_lt hij q), if_pos q]; exact u2 i j hij q
    · simp only [if_neg q]
      by_cases q2 : i < hs.1
      · simp only [if_pos q2]; exact (u1 i q2).2.2.2
      · simp only [if_neg q2]; exact Nat.le_refl _
  · simp only [if_neg (Nat.lt_irrefl hs.1)]; exact u3
theorem c_keepH {n mu me wn : Nat} {V : Nat → Int32} {hs : z_Hs} {σ : q_Sto} (hn : 7 ≤ n) (hC : z_C σ V mu me) (hH : z_HCl mu me σ hs) (hu : z_HPu mu me hs V wn) (h17 : σ 2 17 = nI wn) :
    ∃ σ', z_HCl mu me σ' (z_push hs V wn) ∧ (∀ o, o < 61 ∨ 116 < o → σ' o = σ o) ∧ f_X1_keep n 61 2 σ = some (nI 0, σ') := by
  obtain ⟨c1, c2, p, c3, c5⟩ := hH
  obtain ⟨-, u1, u2, u3, u4⟩ := hu
  obtain ⟨σ', p', d, sh, a1, a2, a3, a4, a5, a6, a7, a8, a9, a10, a11, a12⟩ := c_keep hn hC c1 c2 c3 h17
  obtain ⟨b1, b2, b3, b4⟩ := z_push_1 (hs := hs) (V := V) (wn := wn) rfl a1 a2 a3 a4
  refine ⟨σ', ⟨by omega, by rw [b1]; exact a7, p', a5, fun i hi => ?_⟩, a11, a12⟩
  by_cases q : i = d
  · subst q
    rw [b3, b4]
    exact ⟨a8, a9⟩
  · have hid : i < d := by omega
    have hfr := a10 i (by omega) q
    obtain ⟨g1, g2⟩ := c5 (i + sh) (by omega)
    rw [(b2 i hid).1, (b2 i hid).2]
    rw [a6 i hid] at hfr ⊢
    refine ⟨g1.fr hfr, ?_⟩
    rw [hfr _ (by omega) (by omega)]
    exact g2
theorem m_keepH {n : Nat} {V : Nat → Int32} {wn : Nat} {hs : z_Hs} {σ : q_Sto} (hn : 431 ≤ n) (h6 : hs.1 ≤ 6) (hH : z_HRf σ hs) (hV : σ 158 = V) :
    ∃ σ', z_HRf σ' (z_push hs V wn) ∧ (∀ o, o ≠ 160 → o ≠ 157 → σ' o = σ o) ∧ (∀ a, a ≠ 4 → a ≠ 26 → σ' 157 a = σ 157 a) ∧ z_fl σ' true ∧ f_X12_keeps n 157 σ = some (nI 0, σ') := by
  obtain ⟨r1, r2⟩ := hH
  obtain ⟨σ', d, sh, a1, a2, a3, a4, a5, a6, a7, a8, a9, a10, a11⟩ := m_keeps hn h6 r1
  obtain ⟨b1, b2, b3, b4⟩ := z_push_1 (hs := hs) (V := V) (wn := wn) rfl a1 a2 a3 a4
  refine ⟨σ', ⟨by rw [b1]; exact a7, fun i k hi hk => ?_⟩, a5, a6, a8, a11⟩
  by_cases q : i = d
  · subst q
    rw [b3, a10 k hk, hV]
  · have hid : i < d := by omega
    rw [(b2 i hid).1, a9 _ (by omega), ← r2 (i+sh) k (by omega) hk]
    congr 1
    have : 86 * (i + sh) = 86 * i + 86 * sh := Nat.mul_add _ _ _
    omega
theorem z_HPu.push {mu me wn w2 : Nat} {V W : Nat → Int32} {hs : z_Hs} (h : z_HPu mu me hs V wn) (hF : z_WF V mu me) (hst : ∀ a, 86 ≤ a → a < 129 → W a = V a) (hw : wn ≤ w2) (hw2 : w2 ≤ 150) (h6 : W 6 = nI w2) : z_HPu mu me (z_push hs V wn) W w2 := by
  obtain ⟨h1, u1, u2, u3, u4⟩ := h
  have hd : ∃ d sh, d + sh = hs.1 ∧ d ≤ 5 ∧ sh ≤ 1 ∧ (sh = 1 → hs.1 = 6) := by
    by_cases q : hs.1 = 6
    · exact ⟨5, 1, by omega, by omega, by omega, fun _ => q⟩
    · exact ⟨hs.1, 0, by omega, by omega, by omega, fun q => by omega⟩
  obtain ⟨d, sh, a1, a2, a3, a4⟩ := hd
  obtain ⟨b1, b2, b3, b4⟩ := z_push_1 (hs := hs) (V := V) (wn := wn) rfl a1 a2 a3 a4
  refine ⟨by omega, fun i hi => ?_, fun i j hij hj => ?_, hw2, h6⟩
  · by_cases q : i = d
    · subst q
      rw [b3, b4]
      exact ⟨hF, fun a x1 x2 => (hst a x1 x2).symm, u4, hw⟩
    · rw [(b2 i (by omega)).1, (b2 i (by omega)).2]
      obtain ⟨v1, v2, v3, v4⟩ := u1 (i+sh) (by omega)
      exact ⟨v1, fun a x1 x2 => (v2 a x1 x2).trans (hst a x1 x2).symm, v3, by omega⟩
  · by_cases q : j = d
    · subst q
      rw [b4]
      by_cases q2 : i = j
      · subst q2; rw [b4]; exact Nat.le_refl _
      · rw [(b2 i (by omega)).2]; exact (u1 (i+sh) (by omega)).2.2.2
    · rw [(b2 j (by omega)).2, (b2 i (by omega)).2]
      exact u2 (i+sh) (j+sh) (by omega) (by omega)
/-- Sim out of its parts -/
theorem z_Sim.of {σ σ' : q_Sto} {mu me wn : Nat} {V : Nat → Int32} {hs : z_Hs} (h : z_SimN σ mu me) (hX : z_XT mu me σ' V) (hV : σ' 158 = V) (h0 : z_le (V 0) 9999) (h1 : z_HCl mu me σ' hs) (h2 : z_HRf σ' hs) (h3 : z_HPu mu me hs V wn)
    (e : ∀ o, o = 0 ∨ (31 ≤ o ∧ o ≤ 59 ∧ o ≠ 48) ∨ o = 142 ∨ o = 143 ∨ o = 155 ∨ o = 159 ∨ o = 165 ∨ (19 ≤ o ∧ o ≤ 27) → σ' o = σ o) (e157 : ∀ a, a ≠ 4 → a ≠ 26 → σ' 157 a = σ 157 a) : z_SimN σ' mu me := by
  obtain ⟨s1, s2, s3, s4, s5, s6, s7, s8⟩ := h
  obtain ⟨⟨x1, x2, x3⟩, x4⟩ := hX
  refine ⟨by rw [hV]; exact ⟨x1, h0⟩, by rw [hV]; exact ⟨x2, x3, x4⟩, h1 |>.2.1 |> fun _ => z_HI.of h1 h2 h3 (fun a _ _ => by rw [hV]) (by rw [hV]; exact h3.2.2.2.2), s4.fr (by rw [e 142 (by omega)]) (by rw [e 142 (by omega)]) (by rw [e 142 (by omega)]) (e 143 (by omega)) (e 165 (by omega)) (e157 16 (by omega) (by omega)) (e157 23 (by omega) (by omega)) (e157 25 (by omega) (by omega)),
    s5.fr (fun o o1 o2 o3 => e o (by omega)) (by rw [e 0 (by omega)]) (e157 5 (by omega) (by omega)) (e 159 (by omega)), s6.fr (fun o o1 o2 => e o (by omega)), s7.fr (fun o o1 o2 => by
      by_cases q : o = 48
      · omega
      · exact e o (by omega)), by rw [e 155 (by omega)]; exact s8⟩
theorem z_Sim.un {σ : q_Sto} {mu me : Nat} (h : z_SimN σ mu me) : ∃ hs wn, z_XT mu me σ (σ 158) ∧ z_le (σ 158 0) 9999 ∧ z_HCl mu me σ hs ∧ z_HRf σ hs ∧ z_HPu mu me hs (σ 158) wn ∧ wn ≤ 150 ∧ σ 158 6 = nI wn ∧ σ 2 17 = nI wn := by
  obtain ⟨s1, s2, s3, s4, s5, s6, s7, s8⟩ := h
  have hX : z_XT mu me σ (σ 158) := ⟨⟨s1.1, s2.1, s2.2.1⟩, s2.2.2⟩
  obtain ⟨wn, w1, w2, w3⟩ := hX.w
  obtain ⟨hs, a1, a2, a3⟩ := s3.hs w2 w1
  exact ⟨hs, wn, hX, s1.2, a1, a2, a3, w1, w2, w3⟩
theorem z_WFC {σ : q_Sto} {V : Nat → Int32} {mu me : Nat} (h : z_XT mu me σ V) (h0 : z_le (V 0) 9999) : z_WF V mu me := ⟨h.1.1, h0⟩
/-- one thing, kept and done, in both -/
theorem p_do {σ : q_Sto} {mu me : Nat} {F G : q_Sto → Option (Int32 × q_Sto)} {r q : Int32} (h : z_SimN σ mu me) (hop : ∀ w, z_X mu me true w (z_PV (σ 158)) σ (σ 158) → ∃ W, z_PC mu me true w (z_PV (σ 158)) (σ 158) W F r ∧ z_PM true (σ 158) W G q) :
    ∃ σ1 σ2 σ3 σ4 W, f_X1_keep q_F 61 2 σ = some (nI 0, σ1) ∧ F σ1 = some (r, σ2) ∧ f_X12_keeps q_F 157 σ2 = some (nI 0, σ3) ∧ G σ3 = some (q, σ4) ∧ z_SimN σ4 mu me ∧ σ4 158 = W ∧ z_C σ2 W mu me ∧ σ2 158 = σ 158 := by
  obtain ⟨hs, wn, hX, h0, a1, a2, a3, w1, w2, w3⟩ := z_Sim.un h
  obtain ⟨W, op1, op2⟩ := hop wn (hX.X w2 w1)
  obtain ⟨σ1, k1, k2, k3⟩ := c_keepH (n := q_F) (by unfold q_F; omega) hX.1 a1 a3 w3
  have hX1 : z_XT mu me σ1 (σ 158) := ⟨hX.1.fr (fun o o1 o2 o3 => k2 o (by omega)), hX.2.fr (k2 2 (by omega)) (k2 29 (by omega))⟩
  obtain ⟨σ2, f1, f2, f3⟩ := op1 σ1 (hX1.X w2 w1)
  have hV2 : σ2 158 = σ 158 := by rw [f1 158 (by omega), k2 158 (by omega)]
  have hR2 : z_HRf σ2 hs := by
    obtain ⟨r1, r2⟩ := a2
    refine ⟨by rw [f1 157 (by omega), k2 157 (by omega)]; exact r1, fun i k hi hk => by rw [f1 160 (by omega), k2 160 (by omega)]; exact r2 i k hi hk⟩
  obtain ⟨σ3, m1, m2, m3, m4, m5⟩ := m_keepH (n := q_F) (V := σ 158) (wn := wn) (by unfold q_F; omega) a1.1 hR2 hV2
  obtain ⟨σ4, g1, g2, g3⟩ := op2 σ3 (by rw [m2 158 (by omega) (by omega)]; exact hV2) m4
  obtain ⟨hX2, ⟨w', wa, wb, wc⟩, hst⟩ := f2.XT
  have hst' : ∀ a, a = 0 ∨ 86 ≤ a → a < 305 → W a = σ 158 a := fun a b1 b2 => by rw [hst a b1 b2, z_PV_hi b2]
  have hfr : ∀ o, o < 157 → σ4 o = σ2 o := fun o ho => by rw [g1 o (by omega) (by omega) (by omega), m2 o (by omega) (by omega)]
  refine ⟨σ1, σ2, σ3, σ4, W, k3, f3, m5, g3, ?_, g2, f2.1, hV2⟩
  refine z_Sim.of (V := W) (hs := z_push hs (σ 158) wn) (wn := w') h ⟨hX2.1.fr (fun o o1 o2 o3 => hfr o (by omega)), hX2.2.fr (hfr 2 (by omega)) (hfr 29 (by omega))⟩ g2 (by rw [hst' 0 (by omega) (by omega)]; exact h0) ?_ ?_ (a3.push (z_WFC hX h0) (fun a b1 b2 => hst' a (by omega) (by omega)) wa wb wc) (fun o ho => ?_) (fun a b1 b2 => ?_)
  · obtain ⟨c1, c2, p, ⟨c3, c4⟩, c5⟩ := k1
    have hfr2 : ∀ o, 61 ≤ o → o ≤ 116 → σ4 o = σ1 o := fun o o1 o2 => by rw [hfr o (by omega), f1 o (by omega)]
    refine ⟨c1, by rw [hfr2 61 (by omega) (by omega)]; exact c2, p, ⟨fun i hi => ⟨(c3 i hi).1, by rw [hfr2 62 (by omega) (by omega)]; exact (c3 i hi).2⟩, c4⟩, fun i hi => ?_⟩
    have hp := (c3 i (by omega)).1
    refine ⟨(c5 i hi).1.fr (fun o o1 o2 => hfr2 o (by omega) (by omega)), ?_⟩
    rw [hfr2 _ (by omega) (by omega)]
    exact (c5 i hi).2
  · obtain ⟨r1, r2⟩ := m1
    exact ⟨by rw [g1 157 (by omega) (by omega) (by omega)]; exact r1, fun i k hi hk => by rw [g1 160 (by omega) (by omega) (by omega)]; exact r2 i k hi hk⟩
  · rcases (by omega : o < 157 ∨ o = 159 ∨ o = 165) with q | q | q
    · rw [hfr o q, f1 o (by omega), k2 o (by omega)]
    · subst q
      rw [g1 159 (by omega) (by omega) (by omega), m2 159 (by omega) (by omega), f1 159 (by omega), k2 159 (by omega)]
    · subst q
      rw [g1 165 (by omega) (by omega) (by omega), m2 165 (by omega) (by omega), f1 165 (by omega), k2 165 (by omega)]
  · rw [g1 157 (by omega) (by omega) (by omega), m3 a b1 b2, f1 157 (by omega), k2 157 (by omega)]
theorem P_vote {σ : q_Sto} (h : q_Sim σ)   : ∃ (r : Int32) (σ1 σ2 : q_Sto), f_X11_vote q_F 0  σ = some (r, σ1) ∧ f_X12_vote q_F 157  σ1 = some (r, σ2) ∧ q_Sim σ2 := by
  obtain ⟨mu, me, h⟩ := h
  obtain ⟨σ1, σ2, σ3, σ4, W, k1, k2, k3, k4, k5, k6, k7, hs2⟩ := p_do (F := f_X10_castVote q_F 1 126) (G := f_X12_votes q_F 157) (r := nI 0) (q := nI 0) h (fun w hX => p_vote (by unfold q_F; omega) hX)
  have e13 : σ2 2 13 = W 2 := k7.2.1.1.2.2.2.2.2.1
  refine ⟨W 2, σ2, σ4, ?_, ?_, mu, me, k5⟩
  · unfold f_X11_vote
    rw [r_0_3, r_0_0, r_1_0, k1, z_callv, r_0_5, k2, z_callv, e13]
  · unfold f_X12_vote
    rw [k3, z_callv, k4, z_callv]
    simp (disch := omega) only [k6, ↓reduceIte, ↓p_ld, ↓p_st, ↓p_nm, ↓p_nS, ↓p_jn, ↓p_call, ↓p_callv, ↓p_dv, ↓p_rem, h_ldE, h_stE, h_nmE, h_nSE, h_callE, h_callvE, h_dvE, h_remE, if_true, if_false, z_upS, z_upO, z_upK, nI_add, z_mul, z_sub, z_div, Nat.add_zero, Nat.mul_zero, Nat.zero_add, Nat.sub_zero, Nat.zero_mul, z_ltT, z_ltF, z_leT, z_leF, z_eqT, z_eqF, z_inT, z_clT, not_true_eq_false, not_false_eq_true, eq_self, true_or, or_true, z_m_lt, z_m_le, z_lt_m, z_le_m, z_eq_m, z_m_eq, z_rz0, z_rz1, z_m_add, z_of, r_157_0, r_157_1, r_157_2, r_157_3, r_157_6, r_157_7, r_157_8, r_157_9, r_157_10, r_157_11, r_157_27, r_157_28, r_157_29, r_157_30, ↓z_m1, l_0, l_1, l_2, l_3, l_4, l_5, l_6, l_7, l_8, l_9, l_10, l_11, l_12, l_13, l_14, l_15, l_16, l_17, l_18, l_19, l_20, l_21, l_22, l_23, l_24, l_25, l_26, l_27, l_28, l_29, l_30, l_31, l_32, l_33, l_34, l_35, l_36, l_37, l_38, l_39, l_40, l_41, l_42, l_43, l_44, l_45, l_46, l_47, l_48, l_49, l_50, l_51, l_52, l_53, l_54, l_55, l_56, l_57, l_59, l_60, l_61, l_62, l_63, l_64, l_65, l_80, l_86, l_87, l_88, l_89, l_90, l_91, l_92, l_93, l_94, l_95, l_97, l_99, l_100, l_107, l_119, l_122, l_124, l_129, l_140, l_141, l_142, l_143, l_144, l_145, l_147, l_150, l_159, l_160, l_161, l_162, l_205, l_253, l_255, l_256, l_269, l_305, l_380, l_399, l_400, l_420, l_430, l_516, l_600, l_720, l_820, l_905, l_921, l_937, l_953, l_970, l_999, l_1000, l_1790, l_4096, l_9999, l_1000000]
theorem P_rest {σ : q_Sto} (h : q_Sim σ)   : ∃ (r : Int32) (σ1 σ2 : q_Sto), f_X11_rest q_F 0  σ = some (r, σ1) ∧ f_X12_rest q_F 157  σ1 = some (r, σ2) ∧ q_Sim σ2 := by
  obtain ⟨mu, me, h⟩ := h
  have hR : ∃ r, ∀ w, z_X mu me true w (z_PV (σ 158)) σ (σ 158) → ∃ W, z_PC mu me true w (z_PV (σ 158)) (σ 158) W (f_X10_restAll q_F 1) r ∧ z_PM true (σ 158) W (fun σ => q_ld σ 158 7 1790 fun v3 => q_call (f_X12_count q_F v3 σ) fun r5 s4 => q_st s4 158 7 1790 0 fun s6 => q_callv (f_X12_notes q_F 157 6 (-1) 0 s6) fun s7 => some (r5, s7)) r := by
    obtain ⟨s, hs, h7⟩ := h.1.1.2.2.2.2.1
    refine ⟨nI (z_cnt s 12), fun w hX => ?_⟩
    obtain ⟨W, r, w1, w2⟩ := p_rest (n := q_F) (by unfold q_F; omega) hX
    obtain ⟨σ', g1, g2, g3⟩ := w1 σ hX
    have eL := c_lameOnes (n := q_F) (by unfold q_F; omega) hX.1.1 hX.1.2.1
    rw [h7] at eL
    have h12 := z_p12 hX.1.1.1
    have eb := c_bitCount (n := q_F) (s := s) (σ := σ) (by omega)
    obtain ⟨σ1, f1, f2, f3⟩ := c_fill12_L (n := q_F) q_F 0 σ (by omega) (by unfold q_F; omega) (fun k hk => by omega)
    have f3 : f_J7_fill_53178 q_F 5 12 (nI 0) σ = some (nI 0, σ1) := f3
    have er : r = nI (z_cnt s 12) := by
      have g3' := g3
      unfold f_X10_restAll at g3'
      rw [r_1_0, eL, z_call, eb, z_call, r_2_2, l_0, f3, z_callv] at g3'
      generalize f_X10_write q_F 1 6 (-1) (nI 0) σ1 = o at g3'
      cases o with
      | none => cases g3'
      | some x =>
        obtain ⟨a, b⟩ := x
        have g3' : some (nI (z_cnt s 12), b) = some (r, σ') := g3'
        cases g3'
        rfl
    subst er
    exact ⟨W, w1, w2⟩
  obtain ⟨r, hR⟩ := hR
  obtain ⟨σ1, σ2, σ3, σ4, W, k1, k2, k3, k4, k5, k6, k7, hs2⟩ := p_do h hR
  refine ⟨r, σ2, σ4, ?_, ?_, mu, me, k5⟩
  · unfold f_X11_rest
    rw [r_0_3, r_0_0, r_1_0, k1, z_callv, k2]
    rfl
  · unfold f_X12_rest
    rw [k3, z_callv, r_157_0]
    exact k4
