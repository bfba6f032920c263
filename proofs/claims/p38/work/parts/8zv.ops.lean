/-! the law's loop: what follows each act; vote, texts, undo -/
def y_ON (Lx : Nat) (xs : Nat → Int32) (a mu me L : Nat) (d : Nat → Nat) (u : x_U) (p q : Nat) (y25 y26 : Int32) (B : Nat) : Prop :=
  (y26 = 0 ∧ ∃ b pl pa V hs wn Fz S, y25 = nI hs.1 ∧ y_I Lx xs a mu me L d u p b pl pa V hs wn Fz S B) ∨ (y26 = 1 ∧ ∃ hs : z_Hs, hs.1 ≤ 6 ∧ y25 = nI hs.1 ∧ y_J Lx xs a mu me L d u p q hs B)
section LP
variable {p b L pl pa mu me Lx wn a B q : Nat} {xs : Nat → Int32} {d : Nat → Nat} {Fz : Nat → Prop} {V : Nat → Int32} {hs : z_Hs} {u : x_U} {S : Nat → Nat → (Nat → Int32) → Prop}
theorem y_ON.next {y25 y26 x5 : Int32} (h : y_ON Lx xs a mu me L d u p q y25 y26 B) (hb : x_n u + 1 ≤ 500000) : ∃ u' b pl pa V hs wn Fz S, y_I Lx xs a mu me L d u' p b pl pa V hs wn Fz S B ∧ x_n u' = x_n u + 1 ∧ x_m u' = x_m u + 11 ∧ ∀ (M : Int32 → x_U → Option (Int32 × x_U)), (x_nm (fun (y28 : Int32) (s29 : x_U) =>
        x_calc s29 (f_X11_look q_F 0 17 (x_c s29)) fun r31 s30 =>
        if r31 = y28 then (
        x_o s30 p 12 <|
        x_call (F_X12_isSame q_F p s30) fun r33 s32 =>
        if r33 = 0 then (
        some (0, s32))
        else (
        M y28 s32))
        else (
        some (0, s30))) fun j1039 =>
      if y26 = 0 then (
      j1039 y25 u)
      else (
      x_nm (fun (y35 : Int32) (s36 : x_U) =>
        x_sr s36 a y35 q fun s37 =>
        j1039 (y35 + 1) s37) fun j1030 =>
      if y25 = 6 then (
      F_L_law_L1004 q_F (x_CT + 2) p a y25 x5 q (fun  (s40 : x_U) =>
      j1030 (y25 + (-1)) s40) q_F 1 u)
      else (
      j1030 y25 u))) = M (nI hs.1) u' := by
  rcases h with ⟨h26, b, pl, pa, V, hs, wn, Fz, S, h25, hI⟩ | ⟨h26, hs, h6, h25, hJ⟩
  · obtain ⟨u', h1, n1, m1, e1⟩ := hI.look hb
    refine ⟨u', b, pl, pa, V, hs, wn, Fz, S, h1, n1, m1, fun M => ?_⟩
    rw [x_nmE, if_pos h26, h25]
    exact e1 _
  · obtain ⟨u1, b, pl, pa, V, hs', wn, Fz, S, hI, n0, m0, e0⟩ := hJ.keep (x5 := x5) h6
    obtain ⟨u', h1, n1, m1, e1⟩ := hI.look (by omega)
    refine ⟨u', b, pl, pa, V, hs', wn, Fz, S, h1, by omega, by omega, fun M => ?_⟩
    rw [x_nmE, if_neg (by rw [h26]; decide), h25]
    refine (e0 (fun (y28 : Int32) (s29 : x_U) => x_calc s29 (f_X11_look q_F 0 17 (x_c s29)) fun r31 s30 => if r31 = y28 then (x_o s30 p 12 <| x_call (F_X12_isSame q_F p s30) fun r33 s32 => if r33 = 0 then (some (0, s32)) else (M y28 s32)) else (some (0, s30)))).trans ?_
    exact e1 _
theorem O_vote (h : y_I Lx xs a mu me L d u p b pl pa V hs wn Fz S B) (hQ : y_Q a mu me u p q V hs S) (hb : x_n u + 1 ≤ 500000) : ∃ u' y25 y26, y_ON Lx xs a mu me L d u' p q y25 y26 B ∧ x_n u ≤ x_n u' ∧ x_n u' ≤ x_n u + 1 ∧ x_m u' ≤ x_m u + 4 ∧ ∀ J : Nat → Int32 → Int32 → x_U → Option (Int32 × x_U), (x_o u p 12 <|
    x_call (F_X12_votes q_F p 1 u) fun r62 s61 =>
    x_calc s61 (f_X11_vote q_F 0  (x_c s61)) fun r65 s64 =>
    x_gi s64 p 12 3 fun v66 =>
    if r65 = v66 then (
    J p (nI hs.1) 1 s64)
    else (
    some (0, s64))) = J p y25 y26 u' := by
  obtain ⟨W, σ', w', e1, hz, hk, hK, hP⟩ := Q_vote (p := p) (b := b) (pl := pl) (pa := pa) h.2.2.2.1 h.2.2.2.2.1
  obtain ⟨u', c1, n1, n2, m2, hJ, ⟨Fz', hT'⟩, kp, e2⟩ := h.act hQ hb hz hk hK hP
  refine ⟨x_uc u' σ', nI hs.1, 1, Or.inr ⟨rfl, hs, h.2.2.2.1.2.2.2.1.1, rfl, hJ⟩, n1, n2, m2, fun J => ?_⟩
  have t3 : x_t (x_uc u' σ') p 3 = W 2 := hT'.2.1.1.2.2.2.1
  have kp2 : x_k (x_uc u' σ') p = .inl 12 := kp
  have e2' : F_X12_votes q_F p 1 u = some (nI 0, u') := e2
  rw [p_xo, h_xoE h.T.k0, e2', z_xcall, c1, e1, z_xcalc, p_xgi, h_xgiE kp2, t3, if_pos rfl]
theorem O_texts {v : Int32} (h : y_I Lx xs a mu me L d u p b pl pa V hs wn Fz S B) (hb : x_n u + 2000 ≤ 500000) (hB : B ≤ 900) : ∃ u' y25, y_ON Lx xs a mu me L d u' p q y25 0 B ∧ x_n u ≤ x_n u' ∧ x_n u' ≤ x_n u + 1000 ∧ x_m u' ≤ x_m u + 84000 ∧ ∀ J : Nat → Int32 → Int32 → x_U → Option (Int32 × x_U), (if ((v >>> (6 &&& 31)) &&& 1) = 0 then (
    x_call (F_L_texts q_F p v u) fun r187 s186 =>
    if r187 = 0 then (
    some (0, s186))
    else (
    J p 0 0 s186))
    else (
    J p (nI hs.1) 0 u)) = J p y25 0 u' := by
  by_cases c : ((v >>> (6 &&& 31)) &&& 1) = 0
  · have hT := h.T
    obtain ⟨hA, hS, hWA, hz, hK, hD, ⟨D, hD1, hD2⟩, hW⟩ := h
    obtain ⟨u', pl', pa', V', hT', hz', hW', f, n1, m1, v1, e1⟩ := F_texts (x := v) (D := D) (by omega) hD2 hT.TB hz hW hb
    have hn : x_n u ≤ x_n u' := f.2.1
    have hbd' := hT'.bd
    obtain ⟨⟨g1, g2, g3, g4, g5, g6⟩, -⟩ := hWA
    refine ⟨u', nI 0, Or.inl ⟨rfl, b, pl', pa', V', y_h0, wn, (fun i => Fz i ∨ (x_n u ≤ i ∧ i < x_n u')), fun p1 b1 V1 => p1 = p ∧ b1 = b ∧ V1 = V', rfl, ⟨?_, ?_⟩, ⟨rfl, rfl, rfl⟩, ⟨⟨g1, by omega, g3, ?_, ?_, ?_⟩, ?_, ?_, ?_⟩, hz', hK.of (fun i hi => v1 i (by omega)), ?_, ⟨D, hD1, by rw [v1 0 (by omega)]; exact hD2⟩, hW'⟩, hn, by omega, by omega, fun J => ?_⟩
    · rintro p1 b1 V1 ⟨rfl, rfl, rfl⟩
      exact hT'
    · rintro p1 b1 V1 p2 b2 V2 ⟨rfl, rfl, rfl⟩ ⟨rfl, rfl, rfl⟩ hne
      exact absurd rfl hne
    · rw [f.2.2.2.1 a (Or.inl g2)]
      exact g4
    · intro hq
      rcases hq with hq | hq
      · exact g5 hq
      · omega
    · rintro p1 b1 V1 ⟨rfl, rfl, rfl⟩
      exact g6 _ _ _ hS
    · exact Nat.zero_le _
    · intro i hi
      exact absurd hi (Nat.not_lt_zero _)
    · intro i j hi
      exact absurd hi (Nat.not_lt_zero _)
    · intro i hi
      exact absurd hi (Nat.not_lt_zero _)
    · rw [if_pos c, e1, z_xcall, if_neg (by decide)]
      rfl
  · refine ⟨u, nI hs.1, Or.inl ⟨rfl, b, pl, pa, V, hs, wn, Fz, S, rfl, h⟩, Nat.le_refl _, by omega, by omega, fun J => ?_⟩
    rw [if_neg c]
theorem O_undo (h : y_I Lx xs a mu me L d u p b pl pa V hs wn Fz S B) : ∃ u' p' y25, y_ON Lx xs a mu me L d u' p' q y25 0 B ∧ x_n u' = x_n u ∧ x_m u' = x_m u ∧ ∀ J : Nat → Int32 → Int32 → x_U → Option (Int32 × x_U), (x_calc u (f_X11_undo q_F 0  (x_c u)) fun r189 s188 =>
    x_nm (fun (y190 : Int32) (s191 : x_U) =>
      if r189 = y190 then (
      if nI hs.1 ≤ 0 then (
      J p (nI hs.1) 0 s191)
      else (
      x_lr s191 a (nI hs.1 + (-1)) fun o192 =>
      J o192 (nI hs.1 + (-1)) 0 s191))
      else (
      some (0, s191))) fun j971 =>
    if nI hs.1 ≤ 0 then (
    j971 0 s188)
    else (
    j971 1 s188)) = J p' y25 0 u' := by
  have h0 := h
  obtain ⟨hA, hS, hWA, hz, hK, hD, ⟨D, hD1, hD2⟩, hW⟩ := h
  have hu6 := hz.2.2.2.1.1
  by_cases c : hs.1 = 0
  · have e1 := Q_undo0 hz c
    refine ⟨u, p, nI hs.1, Or.inl ⟨rfl, b, pl, pa, V, hs, wn, Fz, S, rfl, h0⟩, rfl, rfl, fun J => ?_⟩
    have hle : nI hs.1 ≤ 0 := by rw [c]; decide
    have eu : x_uc u (x_c u) = u := rfl
    rw [e1, z_xcalc, eu, x_nmE, if_pos hle]
    refine (if_pos (show nI 0 = (0 : Int32) from rfl)).trans ?_
    rw [if_pos hle]
  · obtain ⟨n, rows, w⟩ := hs
    obtain ⟨n, rfl⟩ : ∃ m, n = m + 1 := ⟨n - 1, by have c : n ≠ 0 := c; omega⟩
    obtain ⟨σ', e1, hz1, hK1⟩ := Q_undo1 hz hK
    have hu6 : n + 1 ≤ 6 := hu6
    obtain ⟨g0, g1, g2, g3⟩ := hWA
    obtain ⟨q1, b', q2⟩ := g2 n (by show n < n + 1; omega)
    obtain ⟨x, x1, x2⟩ := hD n (by show n < n + 1; omega)
    have hI : y_I Lx xs a mu me L d (x_uc u σ') (x_r u a n) b' pl pa (rows n) (n, rows, w) (w n) Fz S B := by
      refine ⟨hA, q2, ⟨g0, by show n ≤ 6; omega, fun i hi => ⟨fun he => ?_, ?_⟩, fun i j hi hj he => ?_⟩, hz1, hK1, fun i hi => hD i (by have hi : i < n := hi; show i < n + 1; omega), ⟨x, x1, x2⟩, hW⟩
      · have hi : i < n := hi
        have := g3 i n (by show i < n + 1; omega) (by show n < n + 1; omega) he
        omega
      · exact (g2 i (by have hi : i < n := hi; show i < n + 1; omega)).2
      · exact g3 i j (by have hi : i < n := hi; show i < n + 1; omega) (by have hj : j < n := hj; show j < n + 1; omega) he
    refine ⟨x_uc u σ', x_r u a n, nI n, Or.inl ⟨rfl, b', pl, pa, rows n, (n, rows, w), w n, Fz, S, rfl, hI⟩, rfl, rfl, fun J => ?_⟩
    have hle : ¬ nI (n + 1) ≤ 0 := fun q => by
      have := (nI_leI (a := n + 1) (b := 0) (by omega) (by omega)).mp q
      omega
    have ka : x_k (x_uc u σ') a = .inr (6, 4) := g0.2.2.2.1
    have e3 : nI (n + 1) + (-1) = nI n := by
      have : n = 0 ∨ n = 1 ∨ n = 2 ∨ n = 3 ∨ n = 4 ∨ n = 5 := by omega
      rcases this with rfl | rfl | rfl | rfl | rfl | rfl <;> decide
    show (x_calc u (f_X11_undo q_F 0 (x_c u)) fun r189 s188 => x_nm (fun (y190 : Int32) (s191 : x_U) => if r189 = y190 then (if nI (n+1) ≤ 0 then J p (nI (n+1)) 0 s191 else x_lr s191 a (nI (n+1) + (-1)) fun o192 => J o192 (nI (n+1) + (-1)) 0 s191) else some (0, s191)) fun j971 => if nI (n+1) ≤ 0 then j971 0 s188 else j971 1 s188) = _
    rw [e1, z_xcalc, x_nmE, if_neg hle]
    refine (if_pos (show nI 1 = (1 : Int32) from rfl)).trans ?_
    rw [if_neg hle, e3, p_xlr, h_xlrE ka (by omega) (by omega) (by omega)]
    rfl
end LP
