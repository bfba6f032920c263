/-! the law's trains, all of them, and the row of those kept -/
def y_AL (L pl pa mu me : Nat) (d : Nat → Nat) (u : x_U) (Fz : Nat → Prop) (S : Nat → Nat → (Nat → Int32) → Prop) : Prop :=
  (∀ p b V, S p b V → x_TN u Fz p b L pl pa mu me d V) ∧ ∀ p b V p' b' V', S p b V → S p' b' V' → p ≠ p' → ∀ z, x_own p b mu me z → ¬ x_own p' b' mu me z
def y_set (S : Nat → Nat → (Nat → Int32) → Prop) (p b : Nat) (W : Nat → Int32) : Nat → Nat → (Nat → Int32) → Prop := fun p' b' V' => (p' = p ∧ b' = b ∧ V' = W) ∨ (p' ≠ p ∧ S p' b' V')
def y_WA (mu me : Nat) (u : x_U) (Fz : Nat → Prop) (a : Nat) (S : Nat → Nat → (Nat → Int32) → Prop) (p : Nat) (hs : z_Hs) : Prop :=
  (157 ≤ a ∧ a < x_n u ∧ a < 500000 ∧ x_k u a = .inr (6, 4) ∧ ¬ Fz a ∧ ∀ p b V, S p b V → ¬ x_own p b mu me a) ∧ hs.1 ≤ 6 ∧
  (∀ i, i < hs.1 → x_r u a i ≠ p ∧ ∃ b, S (x_r u a i) b (hs.2.1 i)) ∧ ∀ i j, i < hs.1 → j < hs.1 → x_r u a i = x_r u a j → i = j
section KP
variable {L pl pa mu me : Nat} {d : Nat → Nat} {u u' : x_U} {Fz Fz' : Nat → Prop} {S S' : Nat → Nat → (Nat → Int32) → Prop} {p b a : Nat} {V W : Nat → Int32} {hs : z_Hs}
theorem x_TN.own {z : Nat} (h : x_TN u Fz p b L pl pa mu me d V) (hz : x_own p b mu me z) : z < x_n u ∧ 157 ≤ z := by
  have := h.bd
  unfold x_own at hz
  omega
theorem y_AL.act {dn dm : Nat} (h : y_AL L pl pa mu me d u Fz S) (hp : S p b V) (f : x_sp (x_own p b mu me) dn dm u u' Fz Fz') (hT : x_TN u' Fz' p b L pl pa mu me d W) : y_AL L pl pa mu me d u' Fz' (y_set S p b W) := by
  constructor
  · intro p' b' V' hS
    rcases hS with ⟨rfl, rfl, rfl⟩ | ⟨hne, hS⟩
    · exact hT
    · have hT' := h.1 _ _ _ hS
      have hT0 := h.1 _ _ _ hp
      refine hT'.fr f.1 hT.bd.2.2.2.1 (fun z hz hq => h.2 _ _ _ _ _ _ hp hS (Ne.symm hne) z hq hz) (fun z hz hq => hT0.2.2.1.2 z hq hz) f.2.2.2.1 (fun z hz => ⟨hT.2.2.1.1 z hz, fun hq => ?_⟩)
      rcases f.2.2.2.2 z hz with q | q
      · exact hT'.2.2.1.2 z hq q
      · have := hT'.own hq
        omega
  · intro p1 b1 V1 p2 b2 V2 h1 h2 hne z hz hz2
    rcases h1 with ⟨rfl, rfl, rfl⟩ | ⟨n1, h1⟩
    · rcases h2 with ⟨rfl, rfl, rfl⟩ | ⟨n2, h2⟩
      · exact hne rfl
      · exact h.2 _ _ _ _ _ _ hp h2 hne z hz hz2
    · rcases h2 with ⟨rfl, rfl, rfl⟩ | ⟨n2, h2⟩
      · exact h.2 _ _ _ _ _ _ h1 hp hne z hz hz2
      · exact h.2 _ _ _ _ _ _ h1 h2 hne z hz hz2
theorem y_AL.fr {own : Nat → Prop} (h : y_AL L pl pa mu me d u Fz S) (f : x_fr own u u') (hn : x_n u' ≤ 500000) (ho : ∀ p b V, S p b V → ∀ z, x_own p b mu me z → ¬ own z) (hF : ∀ z, Fz z → ¬ own z) : y_AL L pl pa mu me d u' Fz S := by
  refine ⟨fun p b V hS => ?_, h.2⟩
  have hT := h.1 _ _ _ hS
  exact hT.fr f hn (ho _ _ _ hS) hF (fun _ q => q) (fun z hz => ⟨Nat.lt_of_lt_of_le (hT.2.2.1.1 z hz) f.2.1, fun hq => hT.2.2.1.2 z hq hz⟩)
theorem y_AL.sub (h : y_AL L pl pa mu me d u Fz S) (g : ∀ p b V, S' p b V → S p b V) : y_AL L pl pa mu me d u Fz S' :=
  ⟨fun p b V hS => h.1 _ _ _ (g _ _ _ hS), fun p b V p' b' V' h1 h2 hne => h.2 _ _ _ _ _ _ (g _ _ _ h1) (g _ _ _ h2) hne⟩
theorem y_AL.uc {σ : q_Sto} (h : y_AL L pl pa mu me d u Fz S) : y_AL L pl pa mu me d (x_uc u σ) Fz S := h
theorem y_WA.uc {σ : q_Sto} (h : y_WA mu me u Fz a S p hs) : y_WA mu me (x_uc u σ) Fz a S p hs := h
theorem y_AL.copy (h : y_AL L pl pa mu me d u Fz S) (f : x_fr (fun _ => False) u u') (hT : x_TN u' Fz (x_n u) (x_n u + 6) L pl pa mu me d V) : y_AL L pl pa mu me d u' Fz (y_set S (x_n u) (x_n u + 6) V) := by
  have h' := h.fr f hT.bd.2.2.2.1 (fun _ _ _ _ _ _ q => q) (fun _ _ q => q)
  have ho : ∀ z, x_own (x_n u) (x_n u + 6) mu me z → x_n u ≤ z := fun z hz => by unfold x_own at hz; omega
  refine ⟨fun p1 b1 V1 hS => ?_, fun p1 b1 V1 p2 b2 V2 h1 h2 hne z hz hz2 => ?_⟩
  · rcases hS with ⟨rfl, rfl, rfl⟩ | ⟨n1, h1⟩
    · exact hT
    · exact h'.1 _ _ _ h1
  · rcases h1 with ⟨rfl, rfl, rfl⟩ | ⟨n1, h1⟩
    · rcases h2 with ⟨rfl, rfl, rfl⟩ | ⟨n2, h2⟩
      · exact hne rfl
      · have := ho z hz
        have := (h.1 _ _ _ h2).own hz2
        omega
    · rcases h2 with ⟨rfl, rfl, rfl⟩ | ⟨n2, h2⟩
      · have := ho z hz2
        have := (h.1 _ _ _ h1).own hz
        omega
      · exact h.2 _ _ _ _ _ _ h1 h2 hne z hz hz2
theorem y_WA.act {dn dm : Nat} (h : y_WA mu me u Fz a S p hs) (hp : S p b V) (f : x_sp (x_own p b mu me) dn dm u u' Fz Fz') : y_WA mu me u' Fz' a (y_set S p b W) p hs := by
  obtain ⟨⟨h0, h1, h2, h3, h4, h5⟩, h6, h7, h8⟩ := h
  have e := f.1.2.2.2.2 a (Or.inl h1) (h5 _ _ _ hp)
  refine ⟨⟨h0, Nat.lt_of_lt_of_le h1 f.1.2.1, h2, by rw [f.1.2.2.2.1 a (Or.inl h1)]; exact h3, fun q => ?_, fun p1 b1 V1 hS => ?_⟩, h6, ?_, ?_⟩
  · rcases f.2.2.2.2 a q with q | q
    · exact h4 q
    · omega
  · rcases hS with ⟨rfl, rfl, rfl⟩ | ⟨n1, h1⟩
    · exact h5 _ _ _ hp
    · exact h5 _ _ _ h1
  · rw [e.1]
    intro i hi
    obtain ⟨g1, b1, g2⟩ := h7 i hi
    exact ⟨g1, b1, Or.inr ⟨g1, g2⟩⟩
  · rw [e.1]
    exact h8
theorem y_WA.fr (h : y_WA mu me u Fz a S p hs) (f : x_fr (fun _ => False) u u') : y_WA mu me u' Fz a S p hs := by
  obtain ⟨⟨h0, h1, h2, h3, h4, h5⟩, h6, h7, h8⟩ := h
  have e := f.2.2.2.2 a (Or.inl h1) (fun q => q)
  refine ⟨⟨h0, Nat.lt_of_lt_of_le h1 f.2.1, h2, by rw [f.2.2.2.1 a (Or.inl h1)]; exact h3, h4, h5⟩, h6, ?_, ?_⟩
  · rw [e.1]; exact h7
  · rw [e.1]; exact h8
theorem y_WA.copy (h : y_WA mu me u Fz a S p hs) (hA : y_AL L pl pa mu me d u Fz S) (f : x_fr (fun _ => False) u u') : y_WA mu me u' Fz a (y_set S (x_n u) (x_n u + 6) V) p hs := by
  obtain ⟨⟨h0, h1, h2, h3, h4, h5⟩, h6, h7, h8⟩ := h.fr f
  have ha := h.1.2.1
  refine ⟨⟨h0, h1, h2, h3, h4, fun p1 b1 V1 hS => ?_⟩, h6, fun i hi => ?_, h8⟩
  · rcases hS with ⟨rfl, rfl, rfl⟩ | ⟨n1, h1⟩
    · unfold x_own
      omega
    · exact h5 _ _ _ h1
  · obtain ⟨g1, b1, g2⟩ := h7 i hi
    have := (hA.1 _ _ _ g2).bd
    exact ⟨g1, b1, Or.inr ⟨by omega, g2⟩⟩
theorem y_WA.cg {hs' : z_Hs} (h : y_WA mu me u Fz a S p hs) (e1 : hs'.1 = hs.1) (e : ∀ i, i < hs.1 → hs'.2.1 i = hs.2.1 i) : y_WA mu me u Fz a S p hs' := by
  obtain ⟨h1, h2, h3, h4⟩ := h
  refine ⟨h1, by omega, fun i hi => ?_, fun i j hi hj => h4 i j (by omega) (by omega)⟩
  rw [e i (by omega)]
  exact h3 i (by omega)
/-- the oldest goes -/
def y_sh (hs : z_Hs) : z_Hs := if hs.1 = 6 then (5, fun i => hs.2.1 (i+1), fun i => hs.2.2 (i+1)) else hs
theorem y_WA.shift (h : y_WA mu me u Fz a S p hs) (h6 : hs.1 = 6) (f : x_fr (fun i => i = a) u u') (hr : ∀ t, t < 5 → x_r u' a t = x_r u a (t+1)) : y_WA mu me u' Fz a S p (y_sh hs) := by
  obtain ⟨⟨h0, h1, h2, h3, h4, h5⟩, -, h7, h8⟩ := h
  unfold y_sh
  rw [if_pos h6]
  refine ⟨⟨h0, Nat.lt_of_lt_of_le h1 f.2.1, h2, by rw [f.2.2.2.1 a (Or.inl h1)]; exact h3, h4, h5⟩, by show 5 ≤ 6; omega, fun i hi => ?_, fun i j hi hj he => ?_⟩
  · have hi : i < 5 := hi
    rw [hr i hi]
    exact h7 (i+1) (by omega)
  · have hi : i < 5 := hi
    have hj : j < 5 := hj
    rw [hr i hi, hr j hj] at he
    have := h8 (i+1) (j+1) (by omega) (by omega) he
    omega
/-- one more is kept -/
theorem y_WA.store {q bq wn : Nat} (h : y_WA mu me u Fz a S p (y_sh hs)) (hq : S q bq V) (hqp : q ≠ p) (hn : ∀ i, i < (y_sh hs).1 → x_r u a i ≠ q) (h6 : hs.1 ≤ 6) : y_WA mu me (x_ur u a (y_sh hs).1 q) Fz a S p (z_push hs V wn) := by
  have h5' : (y_sh hs).1 ≤ 5 := by
    unfold y_sh
    split
    · exact Nat.le_refl 5
    · omega
  obtain ⟨⟨h0, h1, h2, h3, h4, h5⟩, -, h7, h8⟩ := h
  have hp1 : (z_push hs V wn).1 = (y_sh hs).1 + 1 ∧ (∀ i, i < (y_sh hs).1 → (z_push hs V wn).2.1 i = (y_sh hs).2.1 i) ∧ (z_push hs V wn).2.1 (y_sh hs).1 = V := by
    unfold y_sh
    by_cases c : hs.1 = 6
    · rw [if_pos c]
      obtain ⟨b1, b2, b3, b4⟩ := z_push_1 (hs := hs) (V := V) (wn := wn) (c := 6) (d := 5) (sh := 1) c (by omega) (by omega) (by omega) (fun _ => rfl)
      exact ⟨b1, fun i hi => (b2 i hi).1, b3⟩
    · rw [if_neg c]
      obtain ⟨b1, b2, b3, b4⟩ := z_push_1 (hs := hs) (V := V) (wn := wn) (c := hs.1) (d := hs.1) (sh := 0) rfl (by omega) (by omega) (by omega) (fun q => by omega)
      exact ⟨b1, fun i hi => (b2 i hi).1, b3⟩
  generalize y_sh hs = ks at *
  obtain ⟨e1, e2, e3⟩ := hp1
  have er : ∀ i, i ≠ ks.1 → x_r (x_ur u a ks.1 q) a i = x_r u a i := fun i hi => x_up_k hi
  have er2 : x_r (x_ur u a ks.1 q) a ks.1 = q := x_up_s
  refine ⟨⟨h0, h1, h2, h3, h4, h5⟩, by omega, fun i hi => ?_, fun i j hi hj he => ?_⟩
  · by_cases c : i = ks.1
    · subst c
      rw [er2, e3]
      exact ⟨hqp, bq, hq⟩
    · rw [er i c, e2 i (by omega)]
      exact h7 i (by omega)
  · by_cases c : i = ks.1
    · by_cases c2 : j = ks.1
      · omega
      · subst c
        rw [er2, er j c2] at he
        exact absurd he.symm (hn j (by omega))
    · by_cases c2 : j = ks.1
      · subst c2
        rw [er2, er i c] at he
        exact absurd he (hn i (by omega))
      · rw [er i c, er j c2] at he
        exact h8 i j (by omega) (by omega) he
theorem F_sh1004 {n x0 x2 x10 : Nat} {x4 x5 : Int32} (ha : x_k u a = .inr (6, 4)) (h0 : a < x_n u ∧ a < 500000) (hk : ∀ t, t < 6 → x_k u (x_r u a t) = .inl 12) : ∀ j i v, 1 ≤ i → i ≤ 6 → 6 < j + i → x_fr (fun z => z = a) u v → x_n v = x_n u → x_m v = x_m u → x_k v = x_k u → (∀ t, t < 6 → x_r v a t = x_r u a (if t + 1 < i then t + 1 else t)) →
    ∃ v', x_fr (fun z => z = a) u v' ∧ x_n v' = x_n u ∧ x_m v' = x_m u ∧ x_k v' = x_k u ∧ (∀ t, t < 5 → x_r v' a t = x_r u a (t+1)) ∧ ∀ K : x_U → Option (Int32 × x_U), F_L_law_L1004 n x0 x2 a x4 x5 x10 K j (nI i) v = K v' := by
  intro j
  induction j with
  | zero => intro i v h1 h2 h3; omega
  | succ j ih =>
    intro i v h1 h2 h3 hf hn hm hkk hr
    by_cases hi : i = 6
    · subst hi
      refine ⟨v, hf, hn, hm, hkk, fun t ht => by rw [hr t (by omega), if_pos (by omega)], fun K => ?_⟩
      rw [F_L_law_L1004]
      simp (disch := first | omega | ((try simp (disch := omega) only [xs_k_ui, xs_k_ur, xs_k_uc, xs_k_un, xs_k_ub, xs_r_ui, xs_r_ur, xs_r_uc, xs_r_un, xs_r_ub, xs_t_ui, xs_t_ur, xs_t_uc, xs_t_un, xs_t_ub, xs_n_ui, xs_n_ur, xs_n_uc, xs_n_un, xs_n_ub, xs_m_ui, xs_m_ur, xs_m_uc, xs_m_un, xs_m_ub, xs_c_ui, xs_c_ur, xs_c_uc, xs_c_un, xs_c_ub, x_up_s, x_up_k, x_up_o, x_fU_s, x_fU_o]) <;> first | rfl | omega | (refine (?_ : (_ : Bool) = true); with_unfolding_all rfl)) | fail) only [↓p_xgi, ↓p_xgr, ↓p_xpi, ↓p_xpr, ↓p_xo, ↓p_xld, ↓p_xlb, ↓p_xlr, ↓p_xst, ↓p_xsb, ↓p_xsr, ↓p_xlen, ↓p_xnew, ↓p_xnwa, ↓p_xcln, ↓p_xcst, ↓p_xcall, ↓p_xcalc, ↓p_xnm, ↓p_xdv, ↓p_xrem, h_xgiE, h_xgrE, h_xpiE, h_xprE, h_xoE, h_xldE, h_xlbE, h_xlrE, h_xstE, h_xsbE, h_xsrE, h_xlenE, h_xnewE, h_xnwaE, h_xclnE, h_xcstE, h_xcallE, h_xcalcE, h_xnmE, h_xdvE, h_xremE, xs_k_ui, xs_k_ur, xs_k_uc, xs_k_un, xs_k_ub, xs_r_ui, xs_r_ur, xs_r_uc, xs_r_un, xs_r_ub, xs_t_ui, xs_t_ur, xs_t_uc, xs_t_un, xs_t_ub, xs_n_ui, xs_n_ur, xs_n_uc, xs_n_un, xs_n_ub, xs_m_ui, xs_m_ur, xs_m_uc, xs_m_un, xs_m_ub, xs_c_ui, xs_c_ur, xs_c_uc, xs_c_un, xs_c_ub, x_up_s, x_up_k, x_up_o, x_fU_s, x_fU_o, ↓reduceIte, h_ldE, h_stE, h_nmE, h_nSE, h_callE, h_callvE, h_dvE, h_remE, if_true, if_false, z_upS, z_upO, z_upK, nI_add, z_mul, z_sub, z_div, Nat.add_zero, Nat.mul_zero, Nat.zero_add, Nat.sub_zero, Nat.zero_mul, z_ltT, z_ltF, z_leT, z_leF, z_eqT, z_eqF, z_inT, z_clT, not_true_eq_false, not_false_eq_true, eq_self, true_or, or_true, z_m_lt, z_m_le, z_lt_m, z_le_m, z_eq_m, z_m_eq, z_rz0, z_rz1, z_m_add, z_of, ↓z_m1, l_0, l_1, l_2, l_3, l_4, l_5, l_6, l_7, l_8, l_9, l_10, l_11, l_12, l_13, l_14, l_15, l_16, l_17, l_18, l_19, l_20, l_21, l_22, l_23, l_24, l_25, l_26, l_27, l_28, l_29, l_30, l_31, l_32, l_33, l_34, l_35, l_36, l_37, l_38, l_39, l_40, l_41, l_42, l_43, l_44, l_45, l_46, l_47, l_48, l_49, l_50, l_51, l_52, l_53, l_54, l_55, l_56, l_57, l_59, l_60, l_61, l_62, l_63, l_64, l_65, l_80, l_86, l_87, l_88, l_89, l_90, l_91, l_92, l_93, l_94, l_95, l_97, l_99, l_100, l_107, l_119, l_122, l_124, l_129, l_140, l_141, l_142, l_143, l_144, l_145, l_147, l_150, l_159, l_160, l_161, l_162, l_205, l_253, l_255, l_256, l_269, l_305, l_380, l_399, l_400, l_420, l_430, l_516, l_600, l_720, l_820, l_905, l_921, l_937, l_953, l_970, l_999, l_1000, l_1790, l_4096, l_9999, l_1000000]
    · have ei : x_r v a i = x_r u a i := by rw [hr i (by omega), if_neg (by omega)]
      have e12 : x_k v (x_r u a i) = .inl 12 := by rw [hkk]; exact hk i (by omega)
      have eA : x_k v a = .inr (6, 4) := by rw [hkk]; exact ha
      obtain ⟨v', g1, g2, g3, g4, g5, g6⟩ := ih (i+1) (x_ur v a (i-1) (x_r u a i)) (by omega) (by omega) (by omega) (hf.tr (x_fr.ur rfl)) hn hm hkk (fun t ht => by
        by_cases e : t = i - 1
        · subst e
          rw [if_pos (by omega), show i - 1 + 1 = i by omega]
          exact x_up_s
        · have : x_r (x_ur v a (i-1) (x_r u a i)) a t = x_r v a t := x_up_k e
          rw [this, hr t ht]
          by_cases e2 : t + 1 < i
          · rw [if_pos e2, if_pos (by omega)]
          · rw [if_neg e2, if_neg (by omega)])
      refine ⟨v', g1, g2, g3, g4, g5, fun K => ?_⟩
      rw [← g6 K, F_L_law_L1004]
      simp (disch := first | omega | ((try simp (disch := omega) only [eA, ei, e12, xs_k_ui, xs_k_ur, xs_k_uc, xs_k_un, xs_k_ub, xs_r_ui, xs_r_ur, xs_r_uc, xs_r_un, xs_r_ub, xs_t_ui, xs_t_ur, xs_t_uc, xs_t_un, xs_t_ub, xs_n_ui, xs_n_ur, xs_n_uc, xs_n_un, xs_n_ub, xs_m_ui, xs_m_ur, xs_m_uc, xs_m_un, xs_m_ub, xs_c_ui, xs_c_ur, xs_c_uc, xs_c_un, xs_c_ub, x_up_s, x_up_k, x_up_o, x_fU_s, x_fU_o]) <;> first | rfl | omega | (refine (?_ : (_ : Bool) = true); with_unfolding_all rfl)) | fail) only [eA, ei, e12, ↓p_xgi, ↓p_xgr, ↓p_xpi, ↓p_xpr, ↓p_xo, ↓p_xld, ↓p_xlb, ↓p_xlr, ↓p_xst, ↓p_xsb, ↓p_xsr, ↓p_xlen, ↓p_xnew, ↓p_xnwa, ↓p_xcln, ↓p_xcst, ↓p_xcall, ↓p_xcalc, ↓p_xnm, ↓p_xdv, ↓p_xrem, h_xgiE, h_xgrE, h_xpiE, h_xprE, h_xoE, h_xldE, h_xlbE, h_xlrE, h_xstE, h_xsbE, h_xsrE, h_xlenE, h_xnewE, h_xnwaE, h_xclnE, h_xcstE, h_xcallE, h_xcalcE, h_xnmE, h_xdvE, h_xremE, xs_k_ui, xs_k_ur, xs_k_uc, xs_k_un, xs_k_ub, xs_r_ui, xs_r_ur, xs_r_uc, xs_r_un, xs_r_ub, xs_t_ui, xs_t_ur, xs_t_uc, xs_t_un, xs_t_ub, xs_n_ui, xs_n_ur, xs_n_uc, xs_n_un, xs_n_ub, xs_m_ui, xs_m_ur, xs_m_uc, xs_m_un, xs_m_ub, xs_c_ui, xs_c_ur, xs_c_uc, xs_c_un, xs_c_ub, x_up_s, x_up_k, x_up_o, x_fU_s, x_fU_o, ↓reduceIte, h_ldE, h_stE, h_nmE, h_nSE, h_callE, h_callvE, h_dvE, h_remE, if_true, if_false, z_upS, z_upO, z_upK, nI_add, z_mul, z_sub, z_div, Nat.add_zero, Nat.mul_zero, Nat.zero_add, Nat.sub_zero, Nat.zero_mul, z_ltT, z_ltF, z_leT, z_leF, z_eqT, z_eqF, z_inT, z_clT, not_true_eq_false, not_false_eq_true, eq_self, true_or, or_true, z_m_lt, z_m_le, z_lt_m, z_le_m, z_eq_m, z_m_eq, z_rz0, z_rz1, z_m_add, z_of, ↓z_m1, l_0, l_1, l_2, l_3, l_4, l_5, l_6, l_7, l_8, l_9, l_10, l_11, l_12, l_13, l_14, l_15, l_16, l_17, l_18, l_19, l_20, l_21, l_22, l_23, l_24, l_25, l_26, l_27, l_28, l_29, l_30, l_31, l_32, l_33, l_34, l_35, l_36, l_37, l_38, l_39, l_40, l_41, l_42, l_43, l_44, l_45, l_46, l_47, l_48, l_49, l_50, l_51, l_52, l_53, l_54, l_55, l_56, l_57, l_59, l_60, l_61, l_62, l_63, l_64, l_65, l_80, l_86, l_87, l_88, l_89, l_90, l_91, l_92, l_93, l_94, l_95, l_97, l_99, l_100, l_107, l_119, l_122, l_124, l_129, l_140, l_141, l_142, l_143, l_144, l_145, l_147, l_150, l_159, l_160, l_161, l_162, l_205, l_253, l_255, l_256, l_269, l_305, l_380, l_399, l_400, l_420, l_430, l_516, l_600, l_720, l_820, l_905, l_921, l_937, l_953, l_970, l_999, l_1000, l_1790, l_4096, l_9999, l_1000000]
theorem F_sh165 {n x0 x2 x10 : Nat} {x4 x5 x11 x12 x13 x14 : Int32} (ha : x_k u a = .inr (6, 4)) (h0 : a < x_n u ∧ a < 500000) (hk : ∀ t, t < 6 → x_k u (x_r u a t) = .inl 12) : ∀ j i v, 1 ≤ i → i ≤ 6 → 6 < j + i → x_fr (fun z => z = a) u v → x_n v = x_n u → x_m v = x_m u → x_k v = x_k u → (∀ t, t < 6 → x_r v a t = x_r u a (if t + 1 < i then t + 1 else t)) →
    ∃ v', x_fr (fun z => z = a) u v' ∧ x_n v' = x_n u ∧ x_m v' = x_m u ∧ x_k v' = x_k u ∧ (∀ t, t < 5 → x_r v' a t = x_r u a (t+1)) ∧ ∀ K : x_U → Option (Int32 × x_U), F_L_law_L165 n x0 x2 a x4 x5 x10 x11 x12 x13 x14 K j (nI i) v = K v' := by
  intro j
  induction j with
  | zero => intro i v h1 h2 h3; omega
  | succ j ih =>
    intro i v h1 h2 h3 hf hn hm hkk hr
    by_cases hi : i = 6
    · subst hi
      refine ⟨v, hf, hn, hm, hkk, fun t ht => by rw [hr t (by omega), if_pos (by omega)], fun K => ?_⟩
      rw [F_L_law_L165]
      simp (disch := first | omega | ((try simp (disch := omega) only [xs_k_ui, xs_k_ur, xs_k_uc, xs_k_un, xs_k_ub, xs_r_ui, xs_r_ur, xs_r_uc, xs_r_un, xs_r_ub, xs_t_ui, xs_t_ur, xs_t_uc, xs_t_un, xs_t_ub, xs_n_ui, xs_n_ur, xs_n_uc, xs_n_un, xs_n_ub, xs_m_ui, xs_m_ur, xs_m_uc, xs_m_un, xs_m_ub, xs_c_ui, xs_c_ur, xs_c_uc, xs_c_un, xs_c_ub, x_up_s, x_up_k, x_up_o, x_fU_s, x_fU_o]) <;> first | rfl | omega | (refine (?_ : (_ : Bool) = true); with_unfolding_all rfl)) | fail) only [↓p_xgi, ↓p_xgr, ↓p_xpi, ↓p_xpr, ↓p_xo, ↓p_xld, ↓p_xlb, ↓p_xlr, ↓p_xst, ↓p_xsb, ↓p_xsr, ↓p_xlen, ↓p_xnew, ↓p_xnwa, ↓p_xcln, ↓p_xcst, ↓p_xcall, ↓p_xcalc, ↓p_xnm, ↓p_xdv, ↓p_xrem, h_xgiE, h_xgrE, h_xpiE, h_xprE, h_xoE, h_xldE, h_xlbE, h_xlrE, h_xstE, h_xsbE, h_xsrE, h_xlenE, h_xnewE, h_xnwaE, h_xclnE, h_xcstE, h_xcallE, h_xcalcE, h_xnmE, h_xdvE, h_xremE, xs_k_ui, xs_k_ur, xs_k_uc, xs_k_un, xs_k_ub, xs_r_ui, xs_r_ur, xs_r_uc, xs_r_un, xs_r_ub, xs_t_ui, xs_t_ur, xs_t_uc, xs_t_un, xs_t_ub, xs_n_ui, xs_n_ur, xs_n_uc, xs_n_un, xs_n_ub, xs_m_ui, xs_m_ur, xs_m_uc, xs_m_un, xs_m_ub, xs_c_ui, xs_c_ur, xs_c_uc, xs_c_un, xs_c_ub, x_up_s, x_up_k, x_up_o, x_fU_s, x_fU_o, ↓reduceIte, h_ldE, h_stE, h_nmE, h_nSE, h_callE, h_callvE, h_dvE, h_remE, if_true, if_false, z_upS, z_upO, z_upK, nI_add, z_mul, z_sub, z_div, Nat.add_zero, Nat.mul_zero, Nat.zero_add, Nat.sub_zero, Nat.zero_mul, z_ltT, z_ltF, z_leT, z_leF, z_eqT, z_eqF, z_inT, z_clT, not_true_eq_false, not_false_eq_true, eq_self, true_or, or_true, z_m_lt, z_m_le, z_lt_m, z_le_m, z_eq_m, z_m_eq, z_rz0, z_rz1, z_m_add, z_of, ↓z_m1, l_0, l_1, l_2, l_3, l_4, l_5, l_6, l_7, l_8, l_9, l_10, l_11, l_12, l_13, l_14, l_15, l_16, l_17, l_18, l_19, l_20, l_21, l_22, l_23, l_24, l_25, l_26, l_27, l_28, l_29, l_30, l_31, l_32, l_33, l_34, l_35, l_36, l_37, l_38, l_39, l_40, l_41, l_42, l_43, l_44, l_45, l_46, l_47, l_48, l_49, l_50, l_51, l_52, l_53, l_54, l_55, l_56, l_57, l_59, l_60, l_61, l_62, l_63, l_64, l_65, l_80, l_86, l_87, l_88, l_89, l_90, l_91, l_92, l_93, l_94, l_95, l_97, l_99, l_100, l_107, l_119, l_122, l_124, l_129, l_140, l_141, l_142, l_143, l_144, l_145, l_147, l_150, l_159, l_160, l_161, l_162, l_205, l_253, l_255, l_256, l_269, l_305, l_380, l_399, l_400, l_420, l_430, l_516, l_600, l_720, l_820, l_905, l_921, l_937, l_953, l_970, l_999, l_1000, l_1790, l_4096, l_9999, l_1000000]
    · have ei : x_r v a i = x_r u a i := by rw [hr i (by omega), if_neg (by omega)]
      have e12 : x_k v (x_r u a i) = .inl 12 := by rw [hkk]; exact hk i (by omega)
      have eA : x_k v a = .inr (6, 4) := by rw [hkk]; exact ha
      obtain ⟨v', g1, g2, g3, g4, g5, g6⟩ := ih (i+1) (x_ur v a (i-1) (x_r u a i)) (by omega) (by omega) (by omega) (hf.tr (x_fr.ur rfl)) hn hm hkk (fun t ht => by
        by_cases e : t = i - 1
        · subst e
          rw [if_pos (by omega), show i - 1 + 1 = i by omega]
          exact x_up_s
        · have : x_r (x_ur v a (i-1) (x_r u a i)) a t = x_r v a t := x_up_k e
          rw [this, hr t ht]
          by_cases e2 : t + 1 < i
          · rw [if_pos e2, if_pos (by omega)]
          · rw [if_neg e2, if_neg (by omega)])
      refine ⟨v', g1, g2, g3, g4, g5, fun K => ?_⟩
      rw [← g6 K, F_L_law_L165]
      simp (disch := first | omega | ((try simp (disch := omega) only [eA, ei, e12, xs_k_ui, xs_k_ur, xs_k_uc, xs_k_un, xs_k_ub, xs_r_ui, xs_r_ur, xs_r_uc, xs_r_un, xs_r_ub, xs_t_ui, xs_t_ur, xs_t_uc, xs_t_un, xs_t_ub, xs_n_ui, xs_n_ur, xs_n_uc, xs_n_un, xs_n_ub, xs_m_ui, xs_m_ur, xs_m_uc, xs_m_un, xs_m_ub, xs_c_ui, xs_c_ur, xs_c_uc, xs_c_un, xs_c_ub, x_up_s, x_up_k, x_up_o, x_fU_s, x_fU_o]) <;> first | rfl | omega | (refine (?_ : (_ : Bool) = true); with_unfolding_all rfl)) | fail) only [eA, ei, e12, ↓p_xgi, ↓p_xgr, ↓p_xpi, ↓p_xpr, ↓p_xo, ↓p_xld, ↓p_xlb, ↓p_xlr, ↓p_xst, ↓p_xsb, ↓p_xsr, ↓p_xlen, ↓p_xnew, ↓p_xnwa, ↓p_xcln, ↓p_xcst, ↓p_xcall, ↓p_xcalc, ↓p_xnm, ↓p_xdv, ↓p_xrem, h_xgiE, h_xgrE, h_xpiE, h_xprE, h_xoE, h_xldE, h_xlbE, h_xlrE, h_xstE, h_xsbE, h_xsrE, h_xlenE, h_xnewE, h_xnwaE, h_xclnE, h_xcstE, h_xcallE, h_xcalcE, h_xnmE, h_xdvE, h_xremE, xs_k_ui, xs_k_ur, xs_k_uc, xs_k_un, xs_k_ub, xs_r_ui, xs_r_ur, xs_r_uc, xs_r_un, xs_r_ub, xs_t_ui, xs_t_ur, xs_t_uc, xs_t_un, xs_t_ub, xs_n_ui, xs_n_ur, xs_n_uc, xs_n_un, xs_n_ub, xs_m_ui, xs_m_ur, xs_m_uc, xs_m_un, xs_m_ub, xs_c_ui, xs_c_ur, xs_c_uc, xs_c_un, xs_c_ub, x_up_s, x_up_k, x_up_o, x_fU_s, x_fU_o, ↓reduceIte, h_ldE, h_stE, h_nmE, h_nSE, h_callE, h_callvE, h_dvE, h_remE, if_true, if_false, z_upS, z_upO, z_upK, nI_add, z_mul, z_sub, z_div, Nat.add_zero, Nat.mul_zero, Nat.zero_add, Nat.sub_zero, Nat.zero_mul, z_ltT, z_ltF, z_leT, z_leF, z_eqT, z_eqF, z_inT, z_clT, not_true_eq_false, not_false_eq_true, eq_self, true_or, or_true, z_m_lt, z_m_le, z_lt_m, z_le_m, z_eq_m, z_m_eq, z_rz0, z_rz1, z_m_add, z_of, ↓z_m1, l_0, l_1, l_2, l_3, l_4, l_5, l_6, l_7, l_8, l_9, l_10, l_11, l_12, l_13, l_14, l_15, l_16, l_17, l_18, l_19, l_20, l_21, l_22, l_23, l_24, l_25, l_26, l_27, l_28, l_29, l_30, l_31, l_32, l_33, l_34, l_35, l_36, l_37, l_38, l_39, l_40, l_41, l_42, l_43, l_44, l_45, l_46, l_47, l_48, l_49, l_50, l_51, l_52, l_53, l_54, l_55, l_56, l_57, l_59, l_60, l_61, l_62, l_63, l_64, l_65, l_80, l_86, l_87, l_88, l_89, l_90, l_91, l_92, l_93, l_94, l_95, l_97, l_99, l_100, l_107, l_119, l_122, l_124, l_129, l_140, l_141, l_142, l_143, l_144, l_145, l_147, l_150, l_159, l_160, l_161, l_162, l_205, l_253, l_255, l_256, l_269, l_305, l_380, l_399, l_400, l_420, l_430, l_516, l_600, l_720, l_820, l_905, l_921, l_937, l_953, l_970, l_999, l_1000, l_1790, l_4096, l_9999, l_1000000]
end KP
