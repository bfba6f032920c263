/-! who leads the law's train; its votes -/
def y_cn (B : Nat → Nat) (mu k : Nat) : Nat := z_cnt (z_side B k mu) 12
def y_al (c : Nat → Nat) (k : Nat) (b : Bool) : Nat → Bool
  | 0 => b
  | i + 1 => y_al c k b i && (decide (i = k) || decide (c i < c k))
def y_ms (B : Nat → Nat) (mu me k : Nat) : Bool := y_al (y_cn B mu) k (decide (z_side B k mu ≠ 0)) me
def y_dr (B : Nat → Nat) (mu me : Nat) : Nat → Nat
  | 0 => 0
  | k + 1 => if y_ms B mu me k = true then k + 1 else y_dr B mu me k
theorem y_al_p {c : Nat → Nat} {k : Nat} {b : Bool} : ∀ i, y_al c k b i = true ↔ (b = true ∧ ∀ t, t < i → t ≠ k → c t < c k)
  | 0 => ⟨fun h => ⟨h, fun t ht => by omega⟩, fun h => h.1⟩
  | i + 1 => by
    have ih := y_al_p (c := c) (k := k) (b := b) i
    show (y_al c k b i && _) = true ↔ _
    rw [Bool.and_eq_true, ih, Bool.or_eq_true, decide_eq_true_eq, decide_eq_true_eq]
    constructor
    · rintro ⟨⟨h1, h2⟩, h3⟩
      refine ⟨h1, fun t ht hk => ?_⟩
      by_cases e : t = i
      · subst e
        rcases h3 with h3 | h3
        · exact absurd h3 hk
        · exact h3
      · exact h2 t (by omega) hk
    · rintro ⟨h1, h2⟩
      refine ⟨⟨h1, fun t ht hk => h2 t (by omega) hk⟩, ?_⟩
      by_cases e : i = k
      · exact Or.inl e
      · exact Or.inr (h2 i (by omega) e)
theorem y_cnt0 {s : Nat} (hs : s < 4096) : ∀ N, N = 12 → (z_cnt s N = 0 ↔ s = 0) := by
  intro N hN
  subst hN
  constructor
  · intro h
    have h2 : ∀ i, i < 12 → s.testBit i = false := by
      have key : ∀ M i, i < M → z_cnt s M = 0 → s.testBit i = false := by
        intro M
        induction M with
        | zero => intro i hi; omega
        | succ M ih =>
          intro i hi h
          have h : z_cnt s M + (if s.testBit M then 1 else 0) = 0 := h
          by_cases e : i = M
          · subst e
            cases hb : s.testBit i with
            | false => rfl
            | true => rw [hb, if_pos rfl] at h; omega
          · exact ih i (by omega) (by omega)
      exact fun i hi => key 12 i hi h
    apply Nat.eq_of_testBit_eq
    intro i
    rw [Nat.zero_testBit]
    by_cases hi : i < 12
    · exact h2 i hi
    · exact z_tb_lt (N := 12) hs (by omega)
  · intro h
    subst h
    have key : ∀ M, z_cnt 0 M = 0 := by
      intro M
      induction M with
      | zero => rfl
      | succ M ih =>
        show z_cnt 0 M + (if (0 : Nat).testBit M = true then 1 else 0) = 0
        rw [ih, Nat.zero_testBit]
        rfl
    exact key 12
theorem y_side0 {B : Nat → Nat} {mu k : Nat} (hmu : mu ≤ 12) : z_side B k mu ≠ 0 ↔ 0 < y_cn B mu k := by
  have := y_cnt0 (s := z_side B k mu) (z_set_lt12 _ hmu) 12 rfl
  unfold y_cn
  omega
theorem y_ms_p {B : Nat → Nat} {mu me k : Nat} (hmu : mu ≤ 12) : y_ms B mu me k = true ↔ (0 < y_cn B mu k ∧ ∀ t, t < me → t ≠ k → y_cn B mu t < y_cn B mu k) := by
  unfold y_ms
  rw [y_al_p, decide_eq_true_eq, y_side0 hmu]
theorem y_lea_p (B : Nat → Nat) (mu : Nat) : ∀ i, (∀ k, k < i → y_cn B mu k ≤ (z_lea B mu i).2) ∧ ((z_lea B mu i).1 = 0 → (z_lea B mu i).2 = 0 ∨ ∃ k1 k2, k1 < i ∧ k2 < i ∧ k1 ≠ k2 ∧ y_cn B mu k1 = (z_lea B mu i).2 ∧ y_cn B mu k2 = (z_lea B mu i).2) ∧
    (∀ k, (z_lea B mu i).1 = k + 1 → k < i ∧ y_cn B mu k = (z_lea B mu i).2 ∧ 0 < y_cn B mu k ∧ ∀ t, t < i → t ≠ k → y_cn B mu t < y_cn B mu k) ∧ ((z_lea B mu i).2 = 0 ∨ ∃ k, k < i ∧ y_cn B mu k = (z_lea B mu i).2)
  | 0 => ⟨fun k hk => by omega, fun _ => Or.inl rfl, fun k hk => (Nat.succ_ne_zero k hk.symm).elim, Or.inl rfl⟩
  | i + 1 => by
    obtain ⟨h1, h2, h3, h4⟩ := y_lea_p B mu i
    have e : z_lea B mu (i+1) = if (z_lea B mu i).2 < y_cn B mu i then (i + 1, y_cn B mu i) else if (z_lea B mu i).2 = y_cn B mu i then (0, (z_lea B mu i).2) else z_lea B mu i := rfl
    rw [e]
    generalize z_lea B mu i = P at *
    obtain ⟨a, c⟩ := P
    have h1 : ∀ k, k < i → y_cn B mu k ≤ c := h1
    by_cases q1 : c < y_cn B mu i
    · have q1' : (a, c).2 < y_cn B mu i := q1
      rw [if_pos q1']
      refine ⟨fun k hk => ?_, fun h => (Nat.succ_ne_zero i h).elim, fun k hk => ?_, Or.inr ⟨i, by omega, rfl⟩⟩
      · show y_cn B mu k ≤ y_cn B mu i
        by_cases e : k = i
        · rw [e]; exact Nat.le_refl _
        · have := h1 k (by omega); omega
      · have hk : i + 1 = k + 1 := hk
        have : k = i := by omega
        subst this
        refine ⟨by omega, rfl, by omega, fun t ht hn => ?_⟩
        have := h1 t (by omega)
        omega
    · have q1' : ¬ (a, c).2 < y_cn B mu i := q1
      rw [if_neg q1']
      by_cases q2 : c = y_cn B mu i
      · have q2' : (a, c).2 = y_cn B mu i := q2
        rw [if_pos q2']
        refine ⟨fun k hk => ?_, fun _ => ?_, fun k hk => (Nat.succ_ne_zero k hk.symm).elim, Or.inr ⟨i, by omega, q2.symm⟩⟩
        · show y_cn B mu k ≤ c
          by_cases e : k = i
          · rw [e]; omega
          · exact h1 k (by omega)
        · show c = 0 ∨ _
          rcases h4 with h4 | ⟨k, hk, hk2⟩
          · exact Or.inl h4
          · have hk2 : y_cn B mu k = c := hk2
            exact Or.inr ⟨k, i, by omega, by omega, by omega, hk2, q2.symm⟩
      · have q2' : ¬ (a, c).2 = y_cn B mu i := q2
        rw [if_neg q2']
        refine ⟨fun k hk => ?_, fun h => ?_, fun k hk => ?_, ?_⟩
        · show y_cn B mu k ≤ c
          by_cases e : k = i
          · rw [e]; omega
          · exact h1 k (by omega)
        · rcases h2 h with h | ⟨k1, k2, a1, a2, a3, a4, a5⟩
          · exact Or.inl h
          · exact Or.inr ⟨k1, k2, by omega, by omega, a3, a4, a5⟩
        · obtain ⟨b1, b2, b3, b4⟩ := h3 k hk
          have b2 : y_cn B mu k = c := b2
          refine ⟨by omega, b2, b3, fun t ht hn => ?_⟩
          by_cases e : t = i
          · rw [e, b2]; omega
          · exact b4 t (by omega) hn
        · rcases h4 with h | ⟨k, a1, a2⟩
          · exact Or.inl h
          · exact Or.inr ⟨k, by omega, a2⟩
theorem y_dr_lea {B : Nat → Nat} {mu me : Nat} (hmu : mu ≤ 12) : y_dr B mu me me = (z_lea B mu me).1 := by
  obtain ⟨h1, h2, h3, -⟩ := y_lea_p B mu me
  cases ha : (z_lea B mu me).1 with
  | zero =>
    have hno : ∀ k, k < me → y_ms B mu me k ≠ true := by
      intro k hk q
      obtain ⟨q1, q2⟩ := (y_ms_p hmu).mp q
      have hk1 := h1 k hk
      rcases h2 ha with h | ⟨k1, k2, a1, a2, a3, a4, a5⟩
      · omega
      · by_cases e : k1 = k
        · have := q2 k2 a2 (by omega)
          rw [e] at a4
          omega
        · have := q2 k1 a1 e
          omega
    have key : ∀ i, i ≤ me → y_dr B mu me i = 0 := by
      intro i
      induction i with
      | zero => intro _; rfl
      | succ i ih =>
        intro hi
        show (if _ then _ else _) = 0
        rw [if_neg (hno i (by omega))]
        exact ih (by omega)
    exact key me (Nat.le_refl _)
  | succ k =>
    obtain ⟨b1, b2, b3, b4⟩ := h3 k ha
    have hk : y_ms B mu me k = true := (y_ms_p hmu).mpr ⟨b3, b4⟩
    have hno : ∀ t, t < me → t ≠ k → y_ms B mu me t ≠ true := by
      intro t ht hn q
      have q2 := ((y_ms_p hmu).mp q).2 k b1 (by omega)
      have := b4 t ht hn
      omega
    have key : ∀ i, i ≤ me → y_dr B mu me i = if k < i then k + 1 else 0 := by
      intro i
      induction i with
      | zero => intro _; rw [if_neg (by omega)]; rfl
      | succ i ih =>
        intro hi
        have ih := ih (by omega)
        show (if _ then _ else _) = _
        by_cases e : i = k
        · subst e
          rw [if_pos hk, if_pos (by omega)]
        · rw [if_neg (hno i (by omega) e), ih]
          by_cases q : k < i
          · rw [if_pos q, if_pos (by omega)]
          · rw [if_neg q, if_neg (by omega)]
    rw [key me (Nat.le_refl _), if_pos b1]
section VT
variable {p b L pl pa : Nat} {d : Nat → Nat}
theorem x_TN.no {u : x_U} {Fz : Nat → Prop} {mu me : Nat} {V : Nat → Int32} {x : Int32} (hT : x_TN u Fz p b L pl pa mu me d V) : x_TN (x_ui u p 11 x) Fz p b L pl pa mu me d V := by
  have hb := hT.bd
  exact hT.up (by unfold x_own; omega) (hT.2.1.no (by omega)) (fun c hc => rfl) hT.2.2.2.2.2.2.2
theorem F_rounds_L {n s mu me : Nat} {K : x_U → Option (Int32 × x_U)} {V : Nat → Int32} {σc : q_Sto} {Fz : Nat → Prop} (hn : 402 ≤ n) (hR : z_R σc V mu me) (hE : y_EQ L d V mu me) (h7 : V 7 = nI s) (hs : s < 4096) :
    ∀ f j B (u : x_U), z_cnt (z_wt (fun i => s.testBit i) B mu) 12 < f → f + 1 ≤ j → (∀ j, B j ≤ me) → x_TN u Fz p b L pl pa mu me d (z_VB V B) → ∃ u', x_sp (x_own p b mu me) 0 0 u u' Fz Fz ∧ x_TN u' Fz p b L pl pa mu me d (z_VB V (z_rs (z_bt V mu me) (fun i => s.testBit i) f B).1) ∧
      F_X12_stand_L32 n p z_m K j (nI 1) u = K u' := by
  have hmu := hR.1
  have hme := hR.2.1
  have hBO := z_bt_ok hmu hme hR.2.2.2.2.1
  intro f
  induction f with
  | zero => intro j B u h1; omega
  | succ f ih =>
    intro j B u h1 h2 hB hT
    cases j with
    | zero => omega
    | succ j =>
      obtain ⟨u1, f1, f2, f3⟩ := F_round_L (n := n) (K := fun (y33 : Int32) (s34 : x_U) =>
    if y33 = 0 then (
    F_X12_stand_L32 n p z_m K j y33 s34)
    else (
    x_gi s34 p 12 11 fun v35 =>
    x_pi s34 p 12 11 (v35 + 1) fun s36 =>
    F_X12_stand_L32 n p z_m K j y33 s36)) (B := B) hn hR hE h7 hs (fun j => Nat.le_trans (hB j) hme) n 0 u (by omega) (by omega) hT
      rw [F_X12_stand_L32]
      have e1 : F_X12_stand_L40 n p z_m _ n 0 0 u = _ := f3
      have hk := f2.1.2.1.1
      have hbd := f2.bd
      by_cases hq : (z_rd (z_bt V mu me) (fun i => s.testBit i) B mu).2 = true
      · have hless := z_rd_less (p := z_bt V mu me) (out := fun i => s.testBit i) (B := B) hmu hq
        have hless : z_cnt (z_wt (fun i => s.testBit i) (z_rd (z_bt V mu me) (fun i => s.testBit i) B mu).1 mu) 12 < z_cnt (z_wt (fun i => s.testBit i) B mu) 12 := hless
        have hT2 := f2.no (x := x_t u1 p 11 + nI 1)
        obtain ⟨u', g1, g2, g3⟩ := ih j _ _ (by omega) (by omega) (z_rd_me hBO hB mu) hT2
        have e : z_rs (z_bt V mu me) (fun i => s.testBit i) (f+1) B = ((z_rs (z_bt V mu me) (fun i => s.testBit i) f (z_rd (z_bt V mu me) (fun i => s.testBit i) B mu).1).1, (z_rs (z_bt V mu me) (fun i => s.testBit i) f (z_rd (z_bt V mu me) (fun i => s.testBit i) B mu).1).2 + 1) := if_pos hq
        rw [e]
        refine ⟨u', f1.tr ((x_sp.ui (dn := 0) (dm := 0) (by unfold x_own; omega)).tr g1 (Nat.le_refl _) (Nat.le_refl _)) (Nat.le_refl _) (Nat.le_refl _), g2, ?_⟩
        rw [if_pos hq] at e1
        rw [← g3, if_neg (by decide), e1]
        simp (disch := first | omega | ((try simp (disch := omega) only [hk, xs_k_ui, xs_k_ur, xs_k_uc, xs_k_un, xs_k_ub, xs_r_ui, xs_r_ur, xs_r_uc, xs_r_un, xs_r_ub, xs_t_ui, xs_t_ur, xs_t_uc, xs_t_un, xs_t_ub, xs_n_ui, xs_n_ur, xs_n_uc, xs_n_un, xs_n_ub, xs_m_ui, xs_m_ur, xs_m_uc, xs_m_un, xs_m_ub, xs_c_ui, xs_c_ur, xs_c_uc, xs_c_un, xs_c_ub, x_up_s, x_up_k, x_up_o, x_fU_s, x_fU_o]) <;> first | rfl | omega | (refine (?_ : (_ : Bool) = true); with_unfolding_all rfl)) | fail) only [hk, ↓p_xgi, ↓p_xgr, ↓p_xpi, ↓p_xpr, ↓p_xo, ↓p_xld, ↓p_xlb, ↓p_xlr, ↓p_xst, ↓p_xsb, ↓p_xsr, ↓p_xlen, ↓p_xnew, ↓p_xnwa, ↓p_xcln, ↓p_xcst, ↓p_xcall, ↓p_xcalc, ↓p_xnm, ↓p_xdv, ↓p_xrem, h_xgiE, h_xgrE, h_xpiE, h_xprE, h_xoE, h_xldE, h_xlbE, h_xlrE, h_xstE, h_xsbE, h_xsrE, h_xlenE, h_xnewE, h_xnwaE, h_xclnE, h_xcstE, h_xcallE, h_xcalcE, h_xnmE, h_xdvE, h_xremE, xs_k_ui, xs_k_ur, xs_k_uc, xs_k_un, xs_k_ub, xs_r_ui, xs_r_ur, xs_r_uc, xs_r_un, xs_r_ub, xs_t_ui, xs_t_ur, xs_t_uc, xs_t_un, xs_t_ub, xs_n_ui, xs_n_ur, xs_n_uc, xs_n_un, xs_n_ub, xs_m_ui, xs_m_ur, xs_m_uc, xs_m_un, xs_m_ub, xs_c_ui, xs_c_ur, xs_c_uc, xs_c_un, xs_c_ub, x_up_s, x_up_k, x_up_o, x_fU_s, x_fU_o, ↓reduceIte, h_ldE, h_stE, h_nmE, h_nSE, h_callE, h_callvE, h_dvE, h_remE, if_true, if_false, z_upS, z_upO, z_upK, nI_add, z_mul, z_sub, z_div, Nat.add_zero, Nat.mul_zero, Nat.zero_add, Nat.sub_zero, Nat.zero_mul, z_ltT, z_ltF, z_leT, z_leF, z_eqT, z_eqF, z_inT, z_clT, not_true_eq_false, not_false_eq_true, eq_self, true_or, or_true, z_m_lt, z_m_le, z_lt_m, z_le_m, z_eq_m, z_m_eq, z_rz0, z_rz1, z_m_add, z_of, ↓z_m1, l_0, l_1, l_2, l_3, l_4, l_5, l_6, l_7, l_8, l_9, l_10, l_11, l_12, l_13, l_14, l_15, l_16, l_17, l_18, l_19, l_20, l_21, l_22, l_23, l_24, l_25, l_26, l_27, l_28, l_29, l_30, l_31, l_32, l_33, l_34, l_35, l_36, l_37, l_38, l_39, l_40, l_41, l_42, l_43, l_44, l_45, l_46, l_47, l_48, l_49, l_50, l_51, l_52, l_53, l_54, l_55, l_56, l_57, l_59, l_60, l_61, l_62, l_63, l_64, l_65, l_80, l_86, l_87, l_88, l_89, l_90, l_91, l_92, l_93, l_94, l_95, l_97, l_99, l_100, l_107, l_119, l_122, l_124, l_129, l_140, l_141, l_142, l_143, l_144, l_145, l_147, l_150, l_159, l_160, l_161, l_162, l_205, l_253, l_255, l_256, l_269, l_305, l_380, l_399, l_400, l_420, l_430, l_516, l_600, l_720, l_820, l_905, l_921, l_937, l_953, l_970, l_999, l_1000, l_1790, l_4096, l_9999, l_1000000]
      · have e : z_rs (z_bt V mu me) (fun i => s.testBit i) (f+1) B = ((z_rd (z_bt V mu me) (fun i => s.testBit i) B mu).1, 0) := if_neg hq
        rw [e]
        refine ⟨u1, f1, f2, ?_⟩
        rw [if_neg hq] at e1
        rw [if_neg (by decide), e1]
        cases j with
        | zero => omega
        | succ j =>
          rw [l_0, if_pos rfl, F_X12_stand_L32, l_0, if_pos rfl]
theorem y_behindVV {V : Nat → Int32} {B : Nat → Nat} {x : Int32} {mu k : Nat} (hmu : mu ≤ 12) (hB : ∀ j, B j ≤ 5) (hk : k < 5) : z_bhd (z_VV V B x) (nI k) mu = z_side B k mu := by
  rw [← z_bhd_side (V := V) hmu hB hk]
  unfold z_bhd
  exact z_set_congr (fun i hi => by rw [z_VVi (by omega), z_VBi (by omega)])
theorem F_most_L {u : x_U} {n mu me k : Nat} {V : Nat → Int32} {B : Nat → Nat} {x : Int32} {b0 : Bool} {K : Int32 → x_U → Option (Int32 × x_U)} {Fz : Nat → Prop} (hn : 13 ≤ n) (hB : ∀ j, B j ≤ 5) (hT : x_TN u Fz p b L pl pa mu me d (z_VV V B x)) (hk : k < me) :
    ∀ j i, i ≤ me → me < j + i → F_X12_stand_L218 n p (nI k) K j (z_fb (y_al (y_cn B mu) k b0 i)) (nI i) u = K (z_fb (y_al (y_cn B mu) k b0 me)) u := by
  have hb := hT.bd
  have hbh := fun t (ht : t < me) => (F_behind (x := nI t) hn hT.V).trans (by rw [y_behindVV (by omega) hB (by omega)])
  have hbc := fun t => F_bitCount (n := n) (u := u) (s := z_side B t mu) (z_set_lt12 _ (by omega))
  have hbc : ∀ t, F_J6_bitCount_0f7a4 n (nI (z_side B t mu)) u = some (nI (y_cn B mu t), u) := hbc
  have hc12 : ∀ t, y_cn B mu t ≤ 12 := fun t => z_cnt_le _ _
  have hV := hT.V
  obtain ⟨⟨⟨a1, a2, a3, a4, a5, a6⟩, ⟨k1, k2, k3, k4, k5, k6⟩, ⟨r1, r2, r3, r4, r5, r6, r7, r8⟩⟩, ⟨t0, t1, t2, t3, t4, t5, t6, t7, t8, t9, ta⟩, tm, tk⟩ := hV
  intro j
  induction j with
  | zero => intro i h1 h2; omega
  | succ j ih =>
    intro i h1 h2
    rw [F_X12_stand_L218]
    by_cases hi : i = me
    · subst hi
      simp (disch := first | omega | ((try simp (disch := omega) only [k1, t8, xs_k_ui, xs_k_ur, xs_k_uc, xs_k_un, xs_k_ub, xs_r_ui, xs_r_ur, xs_r_uc, xs_r_un, xs_r_ub, xs_t_ui, xs_t_ur, xs_t_uc, xs_t_un, xs_t_ub, xs_n_ui, xs_n_ur, xs_n_uc, xs_n_un, xs_n_ub, xs_m_ui, xs_m_ur, xs_m_uc, xs_m_un, xs_m_ub, xs_c_ui, xs_c_ur, xs_c_uc, xs_c_un, xs_c_ub, x_up_s, x_up_k, x_up_o, x_fU_s, x_fU_o]) <;> first | rfl | omega | (refine (?_ : (_ : Bool) = true); with_unfolding_all rfl)) | fail) only [k1, t8, ↓p_xgi, ↓p_xgr, ↓p_xpi, ↓p_xpr, ↓p_xo, ↓p_xld, ↓p_xlb, ↓p_xlr, ↓p_xst, ↓p_xsb, ↓p_xsr, ↓p_xlen, ↓p_xnew, ↓p_xnwa, ↓p_xcln, ↓p_xcst, ↓p_xcall, ↓p_xcalc, ↓p_xnm, ↓p_xdv, ↓p_xrem, h_xgiE, h_xgrE, h_xpiE, h_xprE, h_xoE, h_xldE, h_xlbE, h_xlrE, h_xstE, h_xsbE, h_xsrE, h_xlenE, h_xnewE, h_xnwaE, h_xclnE, h_xcstE, h_xcallE, h_xcalcE, h_xnmE, h_xdvE, h_xremE, xs_k_ui, xs_k_ur, xs_k_uc, xs_k_un, xs_k_ub, xs_r_ui, xs_r_ur, xs_r_uc, xs_r_un, xs_r_ub, xs_t_ui, xs_t_ur, xs_t_uc, xs_t_un, xs_t_ub, xs_n_ui, xs_n_ur, xs_n_uc, xs_n_un, xs_n_ub, xs_m_ui, xs_m_ur, xs_m_uc, xs_m_un, xs_m_ub, xs_c_ui, xs_c_ur, xs_c_uc, xs_c_un, xs_c_ub, x_up_s, x_up_k, x_up_o, x_fU_s, x_fU_o, ↓reduceIte, h_ldE, h_stE, h_nmE, h_nSE, h_callE, h_callvE, h_dvE, h_remE, if_true, if_false, z_upS, z_upO, z_upK, nI_add, z_mul, z_sub, z_div, Nat.add_zero, Nat.mul_zero, Nat.zero_add, Nat.sub_zero, Nat.zero_mul, z_ltT, z_ltF, z_leT, z_leF, z_eqT, z_eqF, z_inT, z_clT, not_true_eq_false, not_false_eq_true, eq_self, true_or, or_true, z_m_lt, z_m_le, z_lt_m, z_le_m, z_eq_m, z_m_eq, z_rz0, z_rz1, z_m_add, z_of, ↓z_m1, l_0, l_1, l_2, l_3, l_4, l_5, l_6, l_7, l_8, l_9, l_10, l_11, l_12, l_13, l_14, l_15, l_16, l_17, l_18, l_19, l_20, l_21, l_22, l_23, l_24, l_25, l_26, l_27, l_28, l_29, l_30, l_31, l_32, l_33, l_34, l_35, l_36, l_37, l_38, l_39, l_40, l_41, l_42, l_43, l_44, l_45, l_46, l_47, l_48, l_49, l_50, l_51, l_52, l_53, l_54, l_55, l_56, l_57, l_59, l_60, l_61, l_62, l_63, l_64, l_65, l_80, l_86, l_87, l_88, l_89, l_90, l_91, l_92, l_93, l_94, l_95, l_97, l_99, l_100, l_107, l_119, l_122, l_124, l_129, l_140, l_141, l_142, l_143, l_144, l_145, l_147, l_150, l_159, l_160, l_161, l_162, l_205, l_253, l_255, l_256, l_269, l_305, l_380, l_399, l_400, l_420, l_430, l_516, l_600, l_720, l_820, l_905, l_921, l_937, l_953, l_970, l_999, l_1000, l_1790, l_4096, l_9999, l_1000000]
    · have ih := ih (i+1) (by omega) (by omega)
      have e : y_al (y_cn B mu) k b0 (i+1) = (y_al (y_cn B mu) k b0 i && (decide (i = k) || decide (y_cn B mu i < y_cn B mu k))) := rfl
      rw [e] at ih
      rw [← ih]
      generalize y_al (y_cn B mu) k b0 i = f
      by_cases q : i = k
      · subst q
        have e2 : (f && (decide (i = i) || decide (y_cn B mu i < y_cn B mu i))) = f := by simp
        rw [e2]
        simp (disch := first | omega | ((try simp (disch := omega) only [k1, t8, xs_k_ui, xs_k_ur, xs_k_uc, xs_k_un, xs_k_ub, xs_r_ui, xs_r_ur, xs_r_uc, xs_r_un, xs_r_ub, xs_t_ui, xs_t_ur, xs_t_uc, xs_t_un, xs_t_ub, xs_n_ui, xs_n_ur, xs_n_uc, xs_n_un, xs_n_ub, xs_m_ui, xs_m_ur, xs_m_uc, xs_m_un, xs_m_ub, xs_c_ui, xs_c_ur, xs_c_uc, xs_c_un, xs_c_ub, x_up_s, x_up_k, x_up_o, x_fU_s, x_fU_o]) <;> first | rfl | omega | (refine (?_ : (_ : Bool) = true); with_unfolding_all rfl)) | fail) only [k1, t8, ↓p_xgi, ↓p_xgr, ↓p_xpi, ↓p_xpr, ↓p_xo, ↓p_xld, ↓p_xlb, ↓p_xlr, ↓p_xst, ↓p_xsb, ↓p_xsr, ↓p_xlen, ↓p_xnew, ↓p_xnwa, ↓p_xcln, ↓p_xcst, ↓p_xcall, ↓p_xcalc, ↓p_xnm, ↓p_xdv, ↓p_xrem, h_xgiE, h_xgrE, h_xpiE, h_xprE, h_xoE, h_xldE, h_xlbE, h_xlrE, h_xstE, h_xsbE, h_xsrE, h_xlenE, h_xnewE, h_xnwaE, h_xclnE, h_xcstE, h_xcallE, h_xcalcE, h_xnmE, h_xdvE, h_xremE, xs_k_ui, xs_k_ur, xs_k_uc, xs_k_un, xs_k_ub, xs_r_ui, xs_r_ur, xs_r_uc, xs_r_un, xs_r_ub, xs_t_ui, xs_t_ur, xs_t_uc, xs_t_un, xs_t_ub, xs_n_ui, xs_n_ur, xs_n_uc, xs_n_un, xs_n_ub, xs_m_ui, xs_m_ur, xs_m_uc, xs_m_un, xs_m_ub, xs_c_ui, xs_c_ur, xs_c_uc, xs_c_un, xs_c_ub, x_up_s, x_up_k, x_up_o, x_fU_s, x_fU_o, ↓reduceIte, h_ldE, h_stE, h_nmE, h_nSE, h_callE, h_callvE, h_dvE, h_remE, if_true, if_false, z_upS, z_upO, z_upK, nI_add, z_mul, z_sub, z_div, Nat.add_zero, Nat.mul_zero, Nat.zero_add, Nat.sub_zero, Nat.zero_mul, z_ltT, z_ltF, z_leT, z_leF, z_eqT, z_eqF, z_inT, z_clT, not_true_eq_false, not_false_eq_true, eq_self, true_or, or_true, z_m_lt, z_m_le, z_lt_m, z_le_m, z_eq_m, z_m_eq, z_rz0, z_rz1, z_m_add, z_of, ↓z_m1, l_0, l_1, l_2, l_3, l_4, l_5, l_6, l_7, l_8, l_9, l_10, l_11, l_12, l_13, l_14, l_15, l_16, l_17, l_18, l_19, l_20, l_21, l_22, l_23, l_24, l_25, l_26, l_27, l_28, l_29, l_30, l_31, l_32, l_33, l_34, l_35, l_36, l_37, l_38, l_39, l_40, l_41, l_42, l_43, l_44, l_45, l_46, l_47, l_48, l_49, l_50, l_51, l_52, l_53, l_54, l_55, l_56, l_57, l_59, l_60, l_61, l_62, l_63, l_64, l_65, l_80, l_86, l_87, l_88, l_89, l_90, l_91, l_92, l_93, l_94, l_95, l_97, l_99, l_100, l_107, l_119, l_122, l_124, l_129, l_140, l_141, l_142, l_143, l_144, l_145, l_147, l_150, l_159, l_160, l_161, l_162, l_205, l_253, l_255, l_256, l_269, l_305, l_380, l_399, l_400, l_420, l_430, l_516, l_600, l_720, l_820, l_905, l_921, l_937, l_953, l_970, l_999, l_1000, l_1790, l_4096, l_9999, l_1000000]
      · have l1 := hbh i (by omega)
        have l2 := hbh k hk
        have l3 := hbc i
        have l4 := hbc k
        have m1 := hc12 i
        have m2 := hc12 k
        by_cases q2 : y_cn B mu i < y_cn B mu k
        · have e2 : (f && (decide (i = k) || decide (y_cn B mu i < y_cn B mu k))) = f := by simp [q2]
          rw [e2]
          simp (disch := first | omega | ((try simp (disch := omega) only [k1, t8, l1, l2, l3, l4, xs_k_ui, xs_k_ur, xs_k_uc, xs_k_un, xs_k_ub, xs_r_ui, xs_r_ur, xs_r_uc, xs_r_un, xs_r_ub, xs_t_ui, xs_t_ur, xs_t_uc, xs_t_un, xs_t_ub, xs_n_ui, xs_n_ur, xs_n_uc, xs_n_un, xs_n_ub, xs_m_ui, xs_m_ur, xs_m_uc, xs_m_un, xs_m_ub, xs_c_ui, xs_c_ur, xs_c_uc, xs_c_un, xs_c_ub, x_up_s, x_up_k, x_up_o, x_fU_s, x_fU_o]) <;> first | rfl | omega | (refine (?_ : (_ : Bool) = true); with_unfolding_all rfl)) | fail) only [k1, t8, l1, l2, l3, l4, ↓p_xgi, ↓p_xgr, ↓p_xpi, ↓p_xpr, ↓p_xo, ↓p_xld, ↓p_xlb, ↓p_xlr, ↓p_xst, ↓p_xsb, ↓p_xsr, ↓p_xlen, ↓p_xnew, ↓p_xnwa, ↓p_xcln, ↓p_xcst, ↓p_xcall, ↓p_xcalc, ↓p_xnm, ↓p_xdv, ↓p_xrem, h_xgiE, h_xgrE, h_xpiE, h_xprE, h_xoE, h_xldE, h_xlbE, h_xlrE, h_xstE, h_xsbE, h_xsrE, h_xlenE, h_xnewE, h_xnwaE, h_xclnE, h_xcstE, h_xcallE, h_xcalcE, h_xnmE, h_xdvE, h_xremE, xs_k_ui, xs_k_ur, xs_k_uc, xs_k_un, xs_k_ub, xs_r_ui, xs_r_ur, xs_r_uc, xs_r_un, xs_r_ub, xs_t_ui, xs_t_ur, xs_t_uc, xs_t_un, xs_t_ub, xs_n_ui, xs_n_ur, xs_n_uc, xs_n_un, xs_n_ub, xs_m_ui, xs_m_ur, xs_m_uc, xs_m_un, xs_m_ub, xs_c_ui, xs_c_ur, xs_c_uc, xs_c_un, xs_c_ub, x_up_s, x_up_k, x_up_o, x_fU_s, x_fU_o, ↓reduceIte, h_ldE, h_stE, h_nmE, h_nSE, h_callE, h_callvE, h_dvE, h_remE, if_true, if_false, z_upS, z_upO, z_upK, nI_add, z_mul, z_sub, z_div, Nat.add_zero, Nat.mul_zero, Nat.zero_add, Nat.sub_zero, Nat.zero_mul, z_ltT, z_ltF, z_leT, z_leF, z_eqT, z_eqF, z_inT, z_clT, not_true_eq_false, not_false_eq_true, eq_self, true_or, or_true, z_m_lt, z_m_le, z_lt_m, z_le_m, z_eq_m, z_m_eq, z_rz0, z_rz1, z_m_add, z_of, ↓z_m1, l_0, l_1, l_2, l_3, l_4, l_5, l_6, l_7, l_8, l_9, l_10, l_11, l_12, l_13, l_14, l_15, l_16, l_17, l_18, l_19, l_20, l_21, l_22, l_23, l_24, l_25, l_26, l_27, l_28, l_29, l_30, l_31, l_32, l_33, l_34, l_35, l_36, l_37, l_38, l_39, l_40, l_41, l_42, l_43, l_44, l_45, l_46, l_47, l_48, l_49, l_50, l_51, l_52, l_53, l_54, l_55, l_56, l_57, l_59, l_60, l_61, l_62, l_63, l_64, l_65, l_80, l_86, l_87, l_88, l_89, l_90, l_91, l_92, l_93, l_94, l_95, l_97, l_99, l_100, l_107, l_119, l_122, l_124, l_129, l_140, l_141, l_142, l_143, l_144, l_145, l_147, l_150, l_159, l_160, l_161, l_162, l_205, l_253, l_255, l_256, l_269, l_305, l_380, l_399, l_400, l_420, l_430, l_516, l_600, l_720, l_820, l_905, l_921, l_937, l_953, l_970, l_999, l_1000, l_1790, l_4096, l_9999, l_1000000]
        · have e2 : (f && (decide (i = k) || decide (y_cn B mu i < y_cn B mu k))) = false := by simp [q, q2]
          have e3 : z_fb false = nI 0 := rfl
          rw [e2, e3]
          simp (disch := first | omega | ((try simp (disch := omega) only [k1, t8, l1, l2, l3, l4, xs_k_ui, xs_k_ur, xs_k_uc, xs_k_un, xs_k_ub, xs_r_ui, xs_r_ur, xs_r_uc, xs_r_un, xs_r_ub, xs_t_ui, xs_t_ur, xs_t_uc, xs_t_un, xs_t_ub, xs_n_ui, xs_n_ur, xs_n_uc, xs_n_un, xs_n_ub, xs_m_ui, xs_m_ur, xs_m_uc, xs_m_un, xs_m_ub, xs_c_ui, xs_c_ur, xs_c_uc, xs_c_un, xs_c_ub, x_up_s, x_up_k, x_up_o, x_fU_s, x_fU_o]) <;> first | rfl | omega | (refine (?_ : (_ : Bool) = true); with_unfolding_all rfl)) | fail) only [k1, t8, l1, l2, l3, l4, ↓p_xgi, ↓p_xgr, ↓p_xpi, ↓p_xpr, ↓p_xo, ↓p_xld, ↓p_xlb, ↓p_xlr, ↓p_xst, ↓p_xsb, ↓p_xsr, ↓p_xlen, ↓p_xnew, ↓p_xnwa, ↓p_xcln, ↓p_xcst, ↓p_xcall, ↓p_xcalc, ↓p_xnm, ↓p_xdv, ↓p_xrem, h_xgiE, h_xgrE, h_xpiE, h_xprE, h_xoE, h_xldE, h_xlbE, h_xlrE, h_xstE, h_xsbE, h_xsrE, h_xlenE, h_xnewE, h_xnwaE, h_xclnE, h_xcstE, h_xcallE, h_xcalcE, h_xnmE, h_xdvE, h_xremE, xs_k_ui, xs_k_ur, xs_k_uc, xs_k_un, xs_k_ub, xs_r_ui, xs_r_ur, xs_r_uc, xs_r_un, xs_r_ub, xs_t_ui, xs_t_ur, xs_t_uc, xs_t_un, xs_t_ub, xs_n_ui, xs_n_ur, xs_n_uc, xs_n_un, xs_n_ub, xs_m_ui, xs_m_ur, xs_m_uc, xs_m_un, xs_m_ub, xs_c_ui, xs_c_ur, xs_c_uc, xs_c_un, xs_c_ub, x_up_s, x_up_k, x_up_o, x_fU_s, x_fU_o, ↓reduceIte, h_ldE, h_stE, h_nmE, h_nSE, h_callE, h_callvE, h_dvE, h_remE, if_true, if_false, z_upS, z_upO, z_upK, nI_add, z_mul, z_sub, z_div, Nat.add_zero, Nat.mul_zero, Nat.zero_add, Nat.sub_zero, Nat.zero_mul, z_ltT, z_ltF, z_leT, z_leF, z_eqT, z_eqF, z_inT, z_clT, not_true_eq_false, not_false_eq_true, eq_self, true_or, or_true, z_m_lt, z_m_le, z_lt_m, z_le_m, z_eq_m, z_m_eq, z_rz0, z_rz1, z_m_add, z_of, ↓z_m1, l_0, l_1, l_2, l_3, l_4, l_5, l_6, l_7, l_8, l_9, l_10, l_11, l_12, l_13, l_14, l_15, l_16, l_17, l_18, l_19, l_20, l_21, l_22, l_23, l_24, l_25, l_26, l_27, l_28, l_29, l_30, l_31, l_32, l_33, l_34, l_35, l_36, l_37, l_38, l_39, l_40, l_41, l_42, l_43, l_44, l_45, l_46, l_47, l_48, l_49, l_50, l_51, l_52, l_53, l_54, l_55, l_56, l_57, l_59, l_60, l_61, l_62, l_63, l_64, l_65, l_80, l_86, l_87, l_88, l_89, l_90, l_91, l_92, l_93, l_94, l_95, l_97, l_99, l_100, l_107, l_119, l_122, l_124, l_129, l_140, l_141, l_142, l_143, l_144, l_145, l_147, l_150, l_159, l_160, l_161, l_162, l_205, l_253, l_255, l_256, l_269, l_305, l_380, l_399, l_400, l_420, l_430, l_516, l_600, l_720, l_820, l_905, l_921, l_937, l_953, l_970, l_999, l_1000, l_1790, l_4096, l_9999, l_1000000]
theorem x_TN.dr {u : x_U} {Fz : Nat → Prop} {mu me : Nat} {V : Nat → Int32} {B : Nat → Nat} {x y : Int32} (hT : x_TN u Fz p b L pl pa mu me d (z_VV V B x)) : x_TN (x_ui u p 3 y) Fz p b L pl pa mu me d (z_VV V B y) := by
  have e : z_u (z_VV V B x) 2 y = z_VV V B y := by
    funext a
    unfold z_u z_VV
    by_cases h : a = 2
    · subst h; rw [if_pos rfl, if_pos rfl]
    · rw [if_neg h, if_neg h, if_neg h]
  rw [← e]
  exact hT.sc (Or.inr (Or.inr (Or.inr (Or.inl ⟨rfl, rfl⟩))))
theorem F_lead_L {n mu me : Nat} {V : Nat → Int32} {B : Nat → Nat} {Fz : Nat → Prop} (hn : 13 ≤ n) (hB : ∀ j, B j ≤ 5) :
    ∀ j i (u : x_U), i ≤ me → me < j + i → x_TN u Fz p b L pl pa mu me d (z_VV V B (z_vw (y_dr B mu me i))) → ∃ u', x_sp (x_own p b mu me) 0 0 u u' Fz Fz ∧ x_TN u' Fz p b L pl pa mu me d (z_VV V B (z_vw (y_dr B mu me me))) ∧ F_X12_stand_L192 n p j (nI i) u = some (nI 0, u') := by
  intro j
  induction j with
  | zero => intro i u h1 h2; omega
  | succ j ih =>
    intro i u h1 h2 hT
    have hb := hT.bd
    rw [F_X12_stand_L192]
    by_cases hi : i = me
    · subst hi
      refine ⟨u, x_sp.rf, hT, ?_⟩
      obtain ⟨⟨⟨a1, a2, a3, a4, a5, a6⟩, ⟨k1, k2, k3, k4, k5, k6⟩, ⟨r1, r2, r3, r4, r5, r6, r7, r8⟩⟩, ⟨t0, t1, t2, t3, t4, t5, t6, t7, t8, t9, ta⟩, tm, tk⟩ := hT.V
      simp (disch := first | omega | ((try simp (disch := omega) only [k1, t8, xs_k_ui, xs_k_ur, xs_k_uc, xs_k_un, xs_k_ub, xs_r_ui, xs_r_ur, xs_r_uc, xs_r_un, xs_r_ub, xs_t_ui, xs_t_ur, xs_t_uc, xs_t_un, xs_t_ub, xs_n_ui, xs_n_ur, xs_n_uc, xs_n_un, xs_n_ub, xs_m_ui, xs_m_ur, xs_m_uc, xs_m_un, xs_m_ub, xs_c_ui, xs_c_ur, xs_c_uc, xs_c_un, xs_c_ub, x_up_s, x_up_k, x_up_o, x_fU_s, x_fU_o]) <;> first | rfl | omega | (refine (?_ : (_ : Bool) = true); with_unfolding_all rfl)) | fail) only [k1, t8, ↓p_xgi, ↓p_xgr, ↓p_xpi, ↓p_xpr, ↓p_xo, ↓p_xld, ↓p_xlb, ↓p_xlr, ↓p_xst, ↓p_xsb, ↓p_xsr, ↓p_xlen, ↓p_xnew, ↓p_xnwa, ↓p_xcln, ↓p_xcst, ↓p_xcall, ↓p_xcalc, ↓p_xnm, ↓p_xdv, ↓p_xrem, h_xgiE, h_xgrE, h_xpiE, h_xprE, h_xoE, h_xldE, h_xlbE, h_xlrE, h_xstE, h_xsbE, h_xsrE, h_xlenE, h_xnewE, h_xnwaE, h_xclnE, h_xcstE, h_xcallE, h_xcalcE, h_xnmE, h_xdvE, h_xremE, xs_k_ui, xs_k_ur, xs_k_uc, xs_k_un, xs_k_ub, xs_r_ui, xs_r_ur, xs_r_uc, xs_r_un, xs_r_ub, xs_t_ui, xs_t_ur, xs_t_uc, xs_t_un, xs_t_ub, xs_n_ui, xs_n_ur, xs_n_uc, xs_n_un, xs_n_ub, xs_m_ui, xs_m_ur, xs_m_uc, xs_m_un, xs_m_ub, xs_c_ui, xs_c_ur, xs_c_uc, xs_c_un, xs_c_ub, x_up_s, x_up_k, x_up_o, x_fU_s, x_fU_o, ↓reduceIte, h_ldE, h_stE, h_nmE, h_nSE, h_callE, h_callvE, h_dvE, h_remE, if_true, if_false, z_upS, z_upO, z_upK, nI_add, z_mul, z_sub, z_div, Nat.add_zero, Nat.mul_zero, Nat.zero_add, Nat.sub_zero, Nat.zero_mul, z_ltT, z_ltF, z_leT, z_leF, z_eqT, z_eqF, z_inT, z_clT, not_true_eq_false, not_false_eq_true, eq_self, true_or, or_true, z_m_lt, z_m_le, z_lt_m, z_le_m, z_eq_m, z_m_eq, z_rz0, z_rz1, z_m_add, z_of, ↓z_m1, l_0, l_1, l_2, l_3, l_4, l_5, l_6, l_7, l_8, l_9, l_10, l_11, l_12, l_13, l_14, l_15, l_16, l_17, l_18, l_19, l_20, l_21, l_22, l_23, l_24, l_25, l_26, l_27, l_28, l_29, l_30, l_31, l_32, l_33, l_34, l_35, l_36, l_37, l_38, l_39, l_40, l_41, l_42, l_43, l_44, l_45, l_46, l_47, l_48, l_49, l_50, l_51, l_52, l_53, l_54, l_55, l_56, l_57, l_59, l_60, l_61, l_62, l_63, l_64, l_65, l_80, l_86, l_87, l_88, l_89, l_90, l_91, l_92, l_93, l_94, l_95, l_97, l_99, l_100, l_107, l_119, l_122, l_124, l_129, l_140, l_141, l_142, l_143, l_144, l_145, l_147, l_150, l_159, l_160, l_161, l_162, l_205, l_253, l_255, l_256, l_269, l_305, l_380, l_399, l_400, l_420, l_430, l_516, l_600, l_720, l_820, l_905, l_921, l_937, l_953, l_970, l_999, l_1000, l_1790, l_4096, l_9999, l_1000000]
    · have hbh := (F_behind (x := nI i) hn hT.V).trans (by rw [y_behindVV (by omega) hB (by omega)])
      have hs12 : z_side B i mu < 4096 := z_set_lt12 _ (by omega)
      have hml := fun (b0 : Bool) (K : Int32 → x_U → Option (Int32 × x_U)) => F_most_L (n := n) (k := i) (b0 := b0) (K := K) hn hB hT (by omega) n 0 (by omega) (by omega)
      have hml : ∀ (b0 : Bool) (K : Int32 → x_U → Option (Int32 × x_U)), F_X12_stand_L218 n p (nI i) K n (z_fb b0) (nI 0) u = K (z_fb (y_al (y_cn B mu) i b0 me)) u := hml
      have hT1 := hT.dr (y := nI i)
      have e : y_dr B mu me (i+1) = if y_ms B mu me i = true then i + 1 else y_dr B mu me i := rfl
      have ih := ih (i+1)
      rw [e] at ih
      have hd : y_ms B mu me i = y_al (y_cn B mu) i (decide (z_side B i mu ≠ 0)) me := rfl
      have hf0 : z_fb false = nI 0 := rfl
      have hf1 : z_fb true = nI 1 := rfl
      have hm0 := hml false
      have hm1 := hml true
      rw [hf0] at hm0
      rw [hf1] at hm1
      have hx := hT.1.2.1.1
      have ht8 := hT.2.1.1.2.2.2.2.2.2.2.2.1
      by_cases q0 : z_side B i mu = 0
      · rw [show decide (z_side B i mu ≠ 0) = false by simp [q0]] at hd
        have hno : y_ms B mu me i ≠ true := fun q => by
          have := (y_ms_p (by omega)).mp q
          have := (y_side0 (B := B) (k := i) (mu := mu) (by omega)).mpr this.1
          exact this q0
        rw [if_neg hno] at ih
        obtain ⟨u', g1, g2, g3⟩ := ih u (by omega) (by omega) hT
        refine ⟨u', g1, g2, ?_⟩
        rw [← hd, show y_ms B mu me i = false from z_bf hno, hf0] at hm0
        rw [q0] at hbh
        rw [← g3]
        simp (disch := first | omega | ((try simp (disch := omega) only [hx, ht8, hbh, hm0, xs_k_ui, xs_k_ur, xs_k_uc, xs_k_un, xs_k_ub, xs_r_ui, xs_r_ur, xs_r_uc, xs_r_un, xs_r_ub, xs_t_ui, xs_t_ur, xs_t_uc, xs_t_un, xs_t_ub, xs_n_ui, xs_n_ur, xs_n_uc, xs_n_un, xs_n_ub, xs_m_ui, xs_m_ur, xs_m_uc, xs_m_un, xs_m_ub, xs_c_ui, xs_c_ur, xs_c_uc, xs_c_un, xs_c_ub, x_up_s, x_up_k, x_up_o, x_fU_s, x_fU_o]) <;> first | rfl | omega | (refine (?_ : (_ : Bool) = true); with_unfolding_all rfl)) | fail) only [hx, ht8, hbh, hm0, ↓p_xgi, ↓p_xgr, ↓p_xpi, ↓p_xpr, ↓p_xo, ↓p_xld, ↓p_xlb, ↓p_xlr, ↓p_xst, ↓p_xsb, ↓p_xsr, ↓p_xlen, ↓p_xnew, ↓p_xnwa, ↓p_xcln, ↓p_xcst, ↓p_xcall, ↓p_xcalc, ↓p_xnm, ↓p_xdv, ↓p_xrem, h_xgiE, h_xgrE, h_xpiE, h_xprE, h_xoE, h_xldE, h_xlbE, h_xlrE, h_xstE, h_xsbE, h_xsrE, h_xlenE, h_xnewE, h_xnwaE, h_xclnE, h_xcstE, h_xcallE, h_xcalcE, h_xnmE, h_xdvE, h_xremE, xs_k_ui, xs_k_ur, xs_k_uc, xs_k_un, xs_k_ub, xs_r_ui, xs_r_ur, xs_r_uc, xs_r_un, xs_r_ub, xs_t_ui, xs_t_ur, xs_t_uc, xs_t_un, xs_t_ub, xs_n_ui, xs_n_ur, xs_n_uc, xs_n_un, xs_n_ub, xs_m_ui, xs_m_ur, xs_m_uc, xs_m_un, xs_m_ub, xs_c_ui, xs_c_ur, xs_c_uc, xs_c_un, xs_c_ub, x_up_s, x_up_k, x_up_o, x_fU_s, x_fU_o, ↓reduceIte, h_ldE, h_stE, h_nmE, h_nSE, h_callE, h_callvE, h_dvE, h_remE, if_true, if_false, z_upS, z_upO, z_upK, nI_add, z_mul, z_sub, z_div, Nat.add_zero, Nat.mul_zero, Nat.zero_add, Nat.sub_zero, Nat.zero_mul, z_ltT, z_ltF, z_leT, z_leF, z_eqT, z_eqF, z_inT, z_clT, not_true_eq_false, not_false_eq_true, eq_self, true_or, or_true, z_m_lt, z_m_le, z_lt_m, z_le_m, z_eq_m, z_m_eq, z_rz0, z_rz1, z_m_add, z_of, ↓z_m1, l_0, l_1, l_2, l_3, l_4, l_5, l_6, l_7, l_8, l_9, l_10, l_11, l_12, l_13, l_14, l_15, l_16, l_17, l_18, l_19, l_20, l_21, l_22, l_23, l_24, l_25, l_26, l_27, l_28, l_29, l_30, l_31, l_32, l_33, l_34, l_35, l_36, l_37, l_38, l_39, l_40, l_41, l_42, l_43, l_44, l_45, l_46, l_47, l_48, l_49, l_50, l_51, l_52, l_53, l_54, l_55, l_56, l_57, l_59, l_60, l_61, l_62, l_63, l_64, l_65, l_80, l_86, l_87, l_88, l_89, l_90, l_91, l_92, l_93, l_94, l_95, l_97, l_99, l_100, l_107, l_119, l_122, l_124, l_129, l_140, l_141, l_142, l_143, l_144, l_145, l_147, l_150, l_159, l_160, l_161, l_162, l_205, l_253, l_255, l_256, l_269, l_305, l_380, l_399, l_400, l_420, l_430, l_516, l_600, l_720, l_820, l_905, l_921, l_937, l_953, l_970, l_999, l_1000, l_1790, l_4096, l_9999, l_1000000]
      · rw [show decide (z_side B i mu ≠ 0) = true by simp [q0]] at hd
        rw [← hd] at hm1
        by_cases q1 : y_ms B mu me i = true
        · rw [if_pos q1] at ih
          obtain ⟨u', g1, g2, g3⟩ := ih (x_ui u p 3 (nI i)) (by omega) (by omega) hT1
          refine ⟨u', (x_sp.ui (dn := 0) (dm := 0) (by unfold x_own; omega)).tr g1 (Nat.le_refl _) (Nat.le_refl _), g2, ?_⟩
          rw [q1, hf1] at hm1
          rw [← g3]
          simp (disch := first | omega | ((try simp (disch := omega) only [hx, ht8, hbh, hm1, xs_k_ui, xs_k_ur, xs_k_uc, xs_k_un, xs_k_ub, xs_r_ui, xs_r_ur, xs_r_uc, xs_r_un, xs_r_ub, xs_t_ui, xs_t_ur, xs_t_uc, xs_t_un, xs_t_ub, xs_n_ui, xs_n_ur, xs_n_uc, xs_n_un, xs_n_ub, xs_m_ui, xs_m_ur, xs_m_uc, xs_m_un, xs_m_ub, xs_c_ui, xs_c_ur, xs_c_uc, xs_c_un, xs_c_ub, x_up_s, x_up_k, x_up_o, x_fU_s, x_fU_o]) <;> first | rfl | omega | (refine (?_ : (_ : Bool) = true); with_unfolding_all rfl)) | fail) only [hx, ht8, hbh, hm1, ↓p_xgi, ↓p_xgr, ↓p_xpi, ↓p_xpr, ↓p_xo, ↓p_xld, ↓p_xlb, ↓p_xlr, ↓p_xst, ↓p_xsb, ↓p_xsr, ↓p_xlen, ↓p_xnew, ↓p_xnwa, ↓p_xcln, ↓p_xcst, ↓p_xcall, ↓p_xcalc, ↓p_xnm, ↓p_xdv, ↓p_xrem, h_xgiE, h_xgrE, h_xpiE, h_xprE, h_xoE, h_xldE, h_xlbE, h_xlrE, h_xstE, h_xsbE, h_xsrE, h_xlenE, h_xnewE, h_xnwaE, h_xclnE, h_xcstE, h_xcallE, h_xcalcE, h_xnmE, h_xdvE, h_xremE, xs_k_ui, xs_k_ur, xs_k_uc, xs_k_un, xs_k_ub, xs_r_ui, xs_r_ur, xs_r_uc, xs_r_un, xs_r_ub, xs_t_ui, xs_t_ur, xs_t_uc, xs_t_un, xs_t_ub, xs_n_ui, xs_n_ur, xs_n_uc, xs_n_un, xs_n_ub, xs_m_ui, xs_m_ur, xs_m_uc, xs_m_un, xs_m_ub, xs_c_ui, xs_c_ur, xs_c_uc, xs_c_un, xs_c_ub, x_up_s, x_up_k, x_up_o, x_fU_s, x_fU_o, ↓reduceIte, h_ldE, h_stE, h_nmE, h_nSE, h_callE, h_callvE, h_dvE, h_remE, if_true, if_false, z_upS, z_upO, z_upK, nI_add, z_mul, z_sub, z_div, Nat.add_zero, Nat.mul_zero, Nat.zero_add, Nat.sub_zero, Nat.zero_mul, z_ltT, z_ltF, z_leT, z_leF, z_eqT, z_eqF, z_inT, z_clT, not_true_eq_false, not_false_eq_true, eq_self, true_or, or_true, z_m_lt, z_m_le, z_lt_m, z_le_m, z_eq_m, z_m_eq, z_rz0, z_rz1, z_m_add, z_of, ↓z_m1, l_0, l_1, l_2, l_3, l_4, l_5, l_6, l_7, l_8, l_9, l_10, l_11, l_12, l_13, l_14, l_15, l_16, l_17, l_18, l_19, l_20, l_21, l_22, l_23, l_24, l_25, l_26, l_27, l_28, l_29, l_30, l_31, l_32, l_33, l_34, l_35, l_36, l_37, l_38, l_39, l_40, l_41, l_42, l_43, l_44, l_45, l_46, l_47, l_48, l_49, l_50, l_51, l_52, l_53, l_54, l_55, l_56, l_57, l_59, l_60, l_61, l_62, l_63, l_64, l_65, l_80, l_86, l_87, l_88, l_89, l_90, l_91, l_92, l_93, l_94, l_95, l_97, l_99, l_100, l_107, l_119, l_122, l_124, l_129, l_140, l_141, l_142, l_143, l_144, l_145, l_147, l_150, l_159, l_160, l_161, l_162, l_205, l_253, l_255, l_256, l_269, l_305, l_380, l_399, l_400, l_420, l_430, l_516, l_600, l_720, l_820, l_905, l_921, l_937, l_953, l_970, l_999, l_1000, l_1790, l_4096, l_9999, l_1000000]
        · rw [if_neg q1] at ih
          obtain ⟨u', g1, g2, g3⟩ := ih u (by omega) (by omega) hT
          refine ⟨u', g1, g2, ?_⟩
          rw [z_bf q1, hf0] at hm1
          rw [← g3]
          simp (disch := first | omega | ((try simp (disch := omega) only [hx, ht8, hbh, hm1, xs_k_ui, xs_k_ur, xs_k_uc, xs_k_un, xs_k_ub, xs_r_ui, xs_r_ur, xs_r_uc, xs_r_un, xs_r_ub, xs_t_ui, xs_t_ur, xs_t_uc, xs_t_un, xs_t_ub, xs_n_ui, xs_n_ur, xs_n_uc, xs_n_un, xs_n_ub, xs_m_ui, xs_m_ur, xs_m_uc, xs_m_un, xs_m_ub, xs_c_ui, xs_c_ur, xs_c_uc, xs_c_un, xs_c_ub, x_up_s, x_up_k, x_up_o, x_fU_s, x_fU_o]) <;> first | rfl | omega | (refine (?_ : (_ : Bool) = true); with_unfolding_all rfl)) | fail) only [hx, ht8, hbh, hm1, ↓p_xgi, ↓p_xgr, ↓p_xpi, ↓p_xpr, ↓p_xo, ↓p_xld, ↓p_xlb, ↓p_xlr, ↓p_xst, ↓p_xsb, ↓p_xsr, ↓p_xlen, ↓p_xnew, ↓p_xnwa, ↓p_xcln, ↓p_xcst, ↓p_xcall, ↓p_xcalc, ↓p_xnm, ↓p_xdv, ↓p_xrem, h_xgiE, h_xgrE, h_xpiE, h_xprE, h_xoE, h_xldE, h_xlbE, h_xlrE, h_xstE, h_xsbE, h_xsrE, h_xlenE, h_xnewE, h_xnwaE, h_xclnE, h_xcstE, h_xcallE, h_xcalcE, h_xnmE, h_xdvE, h_xremE, xs_k_ui, xs_k_ur, xs_k_uc, xs_k_un, xs_k_ub, xs_r_ui, xs_r_ur, xs_r_uc, xs_r_un, xs_r_ub, xs_t_ui, xs_t_ur, xs_t_uc, xs_t_un, xs_t_ub, xs_n_ui, xs_n_ur, xs_n_uc, xs_n_un, xs_n_ub, xs_m_ui, xs_m_ur, xs_m_uc, xs_m_un, xs_m_ub, xs_c_ui, xs_c_ur, xs_c_uc, xs_c_un, xs_c_ub, x_up_s, x_up_k, x_up_o, x_fU_s, x_fU_o, ↓reduceIte, h_ldE, h_stE, h_nmE, h_nSE, h_callE, h_callvE, h_dvE, h_remE, if_true, if_false, z_upS, z_upO, z_upK, nI_add, z_mul, z_sub, z_div, Nat.add_zero, Nat.mul_zero, Nat.zero_add, Nat.sub_zero, Nat.zero_mul, z_ltT, z_ltF, z_leT, z_leF, z_eqT, z_eqF, z_inT, z_clT, not_true_eq_false, not_false_eq_true, eq_self, true_or, or_true, z_m_lt, z_m_le, z_lt_m, z_le_m, z_eq_m, z_m_eq, z_rz0, z_rz1, z_m_add, z_of, ↓z_m1, l_0, l_1, l_2, l_3, l_4, l_5, l_6, l_7, l_8, l_9, l_10, l_11, l_12, l_13, l_14, l_15, l_16, l_17, l_18, l_19, l_20, l_21, l_22, l_23, l_24, l_25, l_26, l_27, l_28, l_29, l_30, l_31, l_32, l_33, l_34, l_35, l_36, l_37, l_38, l_39, l_40, l_41, l_42, l_43, l_44, l_45, l_46, l_47, l_48, l_49, l_50, l_51, l_52, l_53, l_54, l_55, l_56, l_57, l_59, l_60, l_61, l_62, l_63, l_64, l_65, l_80, l_86, l_87, l_88, l_89, l_90, l_91, l_92, l_93, l_94, l_95, l_97, l_99, l_100, l_107, l_119, l_122, l_124, l_129, l_140, l_141, l_142, l_143, l_144, l_145, l_147, l_150, l_159, l_160, l_161, l_162, l_205, l_253, l_255, l_256, l_269, l_305, l_380, l_399, l_400, l_420, l_430, l_516, l_600, l_720, l_820, l_905, l_921, l_937, l_953, l_970, l_999, l_1000, l_1790, l_4096, l_9999, l_1000000]
theorem F_none_L {n mu me : Nat} {x1 : Int32} {V : Nat → Int32} {K : x_U → Option (Int32 × x_U)} {Fz : Nat → Prop} {B : Nat → Nat} :
    ∀ j i (u : x_U), i ≤ mu → mu < j + i → x_TN u Fz p b L pl pa mu me d (z_VB V (fun j => if j < i then 0 else B j)) → ∃ u', x_sp (x_own p b mu me) 0 0 u u' Fz Fz ∧ x_TN u' Fz p b L pl pa mu me d (z_VB V (fun j => if j < mu then 0 else B j)) ∧ F_X12_stand_L2 n p x1 K j (nI i) u = K u' := by
  intro j
  induction j with
  | zero => intro i u h1 h2; omega
  | succ j ih =>
    intro i u h1 h2 hT
    have hb := hT.bd
    rw [F_X12_stand_L2]
    by_cases hi : i = mu
    · subst hi
      refine ⟨u, x_sp.rf, hT, ?_⟩
      obtain ⟨⟨⟨a1, a2, a3, a4, a5, a6⟩, ⟨k1, k2, k3, k4, k5, k6⟩, ⟨r1, r2, r3, r4, r5, r6, r7, r8⟩⟩, ⟨t0, t1, t2, t3, t4, t5, t6, t7, t8, t9, ta⟩, tm, tk⟩ := hT.V
      simp (disch := first | omega | ((try simp (disch := omega) only [k1, t7, xs_k_ui, xs_k_ur, xs_k_uc, xs_k_un, xs_k_ub, xs_r_ui, xs_r_ur, xs_r_uc, xs_r_un, xs_r_ub, xs_t_ui, xs_t_ur, xs_t_uc, xs_t_un, xs_t_ub, xs_n_ui, xs_n_ur, xs_n_uc, xs_n_un, xs_n_ub, xs_m_ui, xs_m_ur, xs_m_uc, xs_m_un, xs_m_ub, xs_c_ui, xs_c_ur, xs_c_uc, xs_c_un, xs_c_ub, x_up_s, x_up_k, x_up_o, x_fU_s, x_fU_o]) <;> first | rfl | omega | (refine (?_ : (_ : Bool) = true); with_unfolding_all rfl)) | fail) only [k1, t7, ↓p_xgi, ↓p_xgr, ↓p_xpi, ↓p_xpr, ↓p_xo, ↓p_xld, ↓p_xlb, ↓p_xlr, ↓p_xst, ↓p_xsb, ↓p_xsr, ↓p_xlen, ↓p_xnew, ↓p_xnwa, ↓p_xcln, ↓p_xcst, ↓p_xcall, ↓p_xcalc, ↓p_xnm, ↓p_xdv, ↓p_xrem, h_xgiE, h_xgrE, h_xpiE, h_xprE, h_xoE, h_xldE, h_xlbE, h_xlrE, h_xstE, h_xsbE, h_xsrE, h_xlenE, h_xnewE, h_xnwaE, h_xclnE, h_xcstE, h_xcallE, h_xcalcE, h_xnmE, h_xdvE, h_xremE, xs_k_ui, xs_k_ur, xs_k_uc, xs_k_un, xs_k_ub, xs_r_ui, xs_r_ur, xs_r_uc, xs_r_un, xs_r_ub, xs_t_ui, xs_t_ur, xs_t_uc, xs_t_un, xs_t_ub, xs_n_ui, xs_n_ur, xs_n_uc, xs_n_un, xs_n_ub, xs_m_ui, xs_m_ur, xs_m_uc, xs_m_un, xs_m_ub, xs_c_ui, xs_c_ur, xs_c_uc, xs_c_un, xs_c_ub, x_up_s, x_up_k, x_up_o, x_fU_s, x_fU_o, ↓reduceIte, h_ldE, h_stE, h_nmE, h_nSE, h_callE, h_callvE, h_dvE, h_remE, if_true, if_false, z_upS, z_upO, z_upK, nI_add, z_mul, z_sub, z_div, Nat.add_zero, Nat.mul_zero, Nat.zero_add, Nat.sub_zero, Nat.zero_mul, z_ltT, z_ltF, z_leT, z_leF, z_eqT, z_eqF, z_inT, z_clT, not_true_eq_false, not_false_eq_true, eq_self, true_or, or_true, z_m_lt, z_m_le, z_lt_m, z_le_m, z_eq_m, z_m_eq, z_rz0, z_rz1, z_m_add, z_of, ↓z_m1, l_0, l_1, l_2, l_3, l_4, l_5, l_6, l_7, l_8, l_9, l_10, l_11, l_12, l_13, l_14, l_15, l_16, l_17, l_18, l_19, l_20, l_21, l_22, l_23, l_24, l_25, l_26, l_27, l_28, l_29, l_30, l_31, l_32, l_33, l_34, l_35, l_36, l_37, l_38, l_39, l_40, l_41, l_42, l_43, l_44, l_45, l_46, l_47, l_48, l_49, l_50, l_51, l_52, l_53, l_54, l_55, l_56, l_57, l_59, l_60, l_61, l_62, l_63, l_64, l_65, l_80, l_86, l_87, l_88, l_89, l_90, l_91, l_92, l_93, l_94, l_95, l_97, l_99, l_100, l_107, l_119, l_122, l_124, l_129, l_140, l_141, l_142, l_143, l_144, l_145, l_147, l_150, l_159, l_160, l_161, l_162, l_205, l_253, l_255, l_256, l_269, l_305, l_380, l_399, l_400, l_420, l_430, l_516, l_600, l_720, l_820, l_905, l_921, l_937, l_953, l_970, l_999, l_1000, l_1790, l_4096, l_9999, l_1000000]
    · have hT2 := hT.bh (v := 0) (show i < mu by omega)
      have e0 : z_upB (fun j => if j < i then 0 else B j) i 0 = fun j => if j < i + 1 then 0 else B j := by
        funext t
        unfold z_upB
        by_cases h : t = i
        · subst h; rw [if_pos rfl, if_pos (by omega)]
        · rw [if_neg h]
          show (if t < i then 0 else B t) = _
          by_cases h2 : t < i
          · rw [if_pos h2, if_pos (by omega)]
          · rw [if_neg h2, if_neg (by omega)]
      rw [e0] at hT2
      obtain ⟨u', g1, g2, g3⟩ := ih (i+1) _ (by omega) (by omega) hT2
      refine ⟨u', (x_sp.ui (dn := 0) (dm := 0) (by unfold x_own; omega)).tr g1 (Nat.le_refl _) (Nat.le_refl _), g2, ?_⟩
      have e1 : z_vw 0 = z_m := rfl
      rw [e1] at g3
      rw [← g3]
      obtain ⟨⟨⟨a1, a2, a3, a4, a5, a6⟩, ⟨k1, k2, k3, k4, k5, k6⟩, ⟨r1, r2, r3, r4, r5, r6, r7, r8⟩⟩, ⟨t0, t1, t2, t3, t4, t5, t6, t7, t8, t9, ta⟩, tm, tk⟩ := hT.V
      simp (disch := first | omega | ((try simp (disch := omega) only [k1, t7, r1, r7, k2, k5, xs_k_ui, xs_k_ur, xs_k_uc, xs_k_un, xs_k_ub, xs_r_ui, xs_r_ur, xs_r_uc, xs_r_un, xs_r_ub, xs_t_ui, xs_t_ur, xs_t_uc, xs_t_un, xs_t_ub, xs_n_ui, xs_n_ur, xs_n_uc, xs_n_un, xs_n_ub, xs_m_ui, xs_m_ur, xs_m_uc, xs_m_un, xs_m_ub, xs_c_ui, xs_c_ur, xs_c_uc, xs_c_un, xs_c_ub, x_up_s, x_up_k, x_up_o, x_fU_s, x_fU_o]) <;> first | rfl | omega | (refine (?_ : (_ : Bool) = true); with_unfolding_all rfl)) | fail) only [k1, t7, r1, r7, k2, k5, ↓p_xgi, ↓p_xgr, ↓p_xpi, ↓p_xpr, ↓p_xo, ↓p_xld, ↓p_xlb, ↓p_xlr, ↓p_xst, ↓p_xsb, ↓p_xsr, ↓p_xlen, ↓p_xnew, ↓p_xnwa, ↓p_xcln, ↓p_xcst, ↓p_xcall, ↓p_xcalc, ↓p_xnm, ↓p_xdv, ↓p_xrem, h_xgiE, h_xgrE, h_xpiE, h_xprE, h_xoE, h_xldE, h_xlbE, h_xlrE, h_xstE, h_xsbE, h_xsrE, h_xlenE, h_xnewE, h_xnwaE, h_xclnE, h_xcstE, h_xcallE, h_xcalcE, h_xnmE, h_xdvE, h_xremE, xs_k_ui, xs_k_ur, xs_k_uc, xs_k_un, xs_k_ub, xs_r_ui, xs_r_ur, xs_r_uc, xs_r_un, xs_r_ub, xs_t_ui, xs_t_ur, xs_t_uc, xs_t_un, xs_t_ub, xs_n_ui, xs_n_ur, xs_n_uc, xs_n_un, xs_n_ub, xs_m_ui, xs_m_ur, xs_m_uc, xs_m_un, xs_m_ub, xs_c_ui, xs_c_ur, xs_c_uc, xs_c_un, xs_c_ub, x_up_s, x_up_k, x_up_o, x_fU_s, x_fU_o, ↓reduceIte, h_ldE, h_stE, h_nmE, h_nSE, h_callE, h_callvE, h_dvE, h_remE, if_true, if_false, z_upS, z_upO, z_upK, nI_add, z_mul, z_sub, z_div, Nat.add_zero, Nat.mul_zero, Nat.zero_add, Nat.sub_zero, Nat.zero_mul, z_ltT, z_ltF, z_leT, z_leF, z_eqT, z_eqF, z_inT, z_clT, not_true_eq_false, not_false_eq_true, eq_self, true_or, or_true, z_m_lt, z_m_le, z_lt_m, z_le_m, z_eq_m, z_m_eq, z_rz0, z_rz1, z_m_add, z_of, ↓z_m1, l_0, l_1, l_2, l_3, l_4, l_5, l_6, l_7, l_8, l_9, l_10, l_11, l_12, l_13, l_14, l_15, l_16, l_17, l_18, l_19, l_20, l_21, l_22, l_23, l_24, l_25, l_26, l_27, l_28, l_29, l_30, l_31, l_32, l_33, l_34, l_35, l_36, l_37, l_38, l_39, l_40, l_41, l_42, l_43, l_44, l_45, l_46, l_47, l_48, l_49, l_50, l_51, l_52, l_53, l_54, l_55, l_56, l_57, l_59, l_60, l_61, l_62, l_63, l_64, l_65, l_80, l_86, l_87, l_88, l_89, l_90, l_91, l_92, l_93, l_94, l_95, l_97, l_99, l_100, l_107, l_119, l_122, l_124, l_129, l_140, l_141, l_142, l_143, l_144, l_145, l_147, l_150, l_159, l_160, l_161, l_162, l_205, l_253, l_255, l_256, l_269, l_305, l_380, l_399, l_400, l_420, l_430, l_516, l_600, l_720, l_820, l_905, l_921, l_937, l_953, l_970, l_999, l_1000, l_1790, l_4096, l_9999, l_1000000]
end VT
