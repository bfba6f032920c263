/-! the train while it is told; what is drawn; heeds told -/
def x_TB (u : x_U) (Fz : Nat → Prop) (p b L pl pa mu me : Nat) (d : Nat → Nat) (V : Nat → Int32) : Prop :=
  x_TK u p b L pl pa mu me ∧ x_TI (x_t u) p b mu me V ∧ x_Fo u Fz p b mu me ∧ (L ≠ 0 → Fz L) ∧ x_LR u L d ∧ x_BR u Fz p V
theorem x_TI.cgm {τ : q_Sto} {p b mu me : Nat} {V V' : Nat → Int32} (h : x_TI τ p b mu me V) (hmu : mu ≤ 12) (hme : me ≤ 5) (e : ∀ a, a < 129 + mu → V' a = V a) : x_TI τ p b mu me V' := by
  obtain ⟨⟨t0, t1, t2, t3, t4, t5, t6, t7, t8, t9, ta⟩, tm, tk⟩ := h
  refine ⟨?_, fun m hm => ?_, fun k hk => ?_⟩
  · rw [e 5 (by omega), e 0 (by omega), e 1 (by omega), e 2 (by omega), e 3 (by omega), e 4 (by omega), e 88 (by omega), e 6 (by omega), e 90 (by omega)]
    exact ⟨t0, t1, t2, t3, t4, t5, t6, t7, t8, t9, ta⟩
  · obtain ⟨q0, q1, q2, q3, q4, q5⟩ := tm m hm
    rw [e (95+m) (by omega), e (107+m) (by omega), e 7 (by omega), e (8+m) (by omega), e (129+m) (by omega)]
    exact ⟨q0, q1, q2, q3, q4, fun k hk => by rw [e _ (by omega)]; exact q5 k hk⟩
  · obtain ⟨q0, q1, q2⟩ := tk k hk
    rw [e (80+k) (by omega), e (119+k) (by omega), e (124+k) (by omega)]
    exact ⟨q0, q1, q2⟩
theorem x_TI.hd {τ : q_Sto} {p b mu me m : Nat} {V : Nat → Int32} {x : Int32} (h : x_TI τ p b mu me V) (hb : p + 6 ≤ b) (hmu : mu ≤ 12) (hme : me ≤ 5) (hm : m < mu) : x_TI (x_up τ (b+m) 4 x) p b mu me (z_u V (129+m) x) := by
  obtain ⟨⟨t0, t1, t2, t3, t4, t5, t6, t7, t8, t9, ta⟩, tm, tk⟩ := h
  have hp : x_up τ (b+m) 4 x p = τ p := x_up_o (by omega)
  refine ⟨?_, fun m' hm' => ?_, fun k' hk' => ?_⟩
  · rw [hp, z_uK (by omega), z_uK (by omega), z_uK (by omega), z_uK (by omega), z_uK (by omega), z_uK (by omega), z_uK (by omega), z_uK (by omega), z_uK (by omega)]
    exact ⟨t0, t1, t2, t3, t4, t5, t6, t7, t8, t9, ta⟩
  · obtain ⟨q0, q1, q2, q3, q4, q5⟩ := tm m' hm'
    by_cases e : m' = m
    · subst e
      exact ⟨by rw [x_up_k (by omega), z_uK (by omega)]; exact q0, by rw [x_up_k (by omega), z_uK (by omega)]; exact q1, by rw [x_up_k (by omega), z_uK (by omega)]; exact q2, by rw [x_up_k (by omega), z_uK (by omega)]; exact q3, by rw [x_up_s, z_uS], fun k' hk' => by rw [x_up_k (by omega), z_uK (by omega)]; exact q5 k' hk'⟩
    · rw [x_up_o (by omega)]
      exact ⟨by rw [z_uK (by omega)]; exact q0, by rw [z_uK (by omega)]; exact q1, by rw [z_uK (by omega)]; exact q2, by rw [z_uK (by omega)]; exact q3, by rw [z_uK (by omega)]; exact q4, fun k' hk' => by rw [z_uK (by omega)]; exact q5 k' hk'⟩
  · rw [x_up_o (by omega)]
    obtain ⟨q0, q1, q2⟩ := tk k' hk'
    exact ⟨by rw [z_uK (by omega)]; exact q0, by rw [z_uK (by omega)]; exact q1, by rw [z_uK (by omega)]; exact q2⟩
theorem x_TI.hn {τ : q_Sto} {p b mu me : Nat} {V : Nat → Int32} {x : Int32} (h : x_TI τ p b mu me V) (hb : p + 6 ≤ b) (hmu : mu ≤ 12) (hme : me ≤ 5) : x_TI (x_up τ p 10 x) p b mu me (z_u V 90 x) := by
  obtain ⟨⟨t0, t1, t2, t3, t4, t5, t6, t7, t8, t9, ta⟩, tm, tk⟩ := h
  refine ⟨?_, fun m' hm' => ?_, fun k' hk' => ?_⟩
  · rw [x_up_k (by omega), x_up_k (by omega), x_up_k (by omega), x_up_k (by omega), x_up_k (by omega), x_up_k (by omega), x_up_k (by omega), x_up_k (by omega), x_up_k (by omega), x_up_k (by omega), x_up_s, z_uS, z_uK (by omega), z_uK (by omega), z_uK (by omega), z_uK (by omega), z_uK (by omega), z_uK (by omega), z_uK (by omega), z_uK (by omega)]
    exact ⟨t0, t1, t2, t3, t4, t5, t6, t7, t8, t9, rfl⟩
  · obtain ⟨q0, q1, q2, q3, q4, q5⟩ := tm m' hm'
    rw [x_up_o (by omega)]
    exact ⟨by rw [z_uK (by omega)]; exact q0, by rw [z_uK (by omega)]; exact q1, by rw [z_uK (by omega)]; exact q2, by rw [z_uK (by omega)]; exact q3, by rw [z_uK (by omega)]; exact q4, fun k' hk' => by rw [z_uK (by omega)]; exact q5 k' hk'⟩
  · rw [x_up_o (by omega)]
    obtain ⟨q0, q1, q2⟩ := tk k' hk'
    exact ⟨by rw [z_uK (by omega)]; exact q0, by rw [z_uK (by omega)]; exact q1, by rw [z_uK (by omega)]; exact q2⟩
section TB
variable {u u' : x_U} {Fz Fz' : Nat → Prop} {p b L pl pa mu me : Nat} {d : Nat → Nat} {V V' : Nat → Int32}
theorem x_TN.TB (h : x_TN u Fz p b L pl pa mu me d V) : x_TB u Fz p b L pl pa mu me d V := ⟨h.1, h.2.1, h.2.2.1, h.2.2.2.1, h.2.2.2.2.1, h.2.2.2.2.2.2.2⟩
theorem x_TB.TV (h : x_TB u Fz p b L pl pa mu me d V) : x_TV u p b L pl pa mu me V := ⟨h.1, h.2.1⟩
theorem x_TB.bd (h : x_TB u Fz p b L pl pa mu me d V) : (157 ≤ p ∧ p + 6 ≤ b ∧ b + mu + me ≤ x_n u ∧ x_n u ≤ 500000 ∧ mu ≤ 12 ∧ me ≤ 5) := h.1.1
theorem x_TB.uc {σ : q_Sto} (h : x_TB u Fz p b L pl pa mu me d V) : x_TB (x_uc u σ) Fz p b L pl pa mu me d V := h
theorem x_TB.fr {own : Nat → Prop} (h : x_TB u Fz p b L pl pa mu me d V) (f : x_fr own u u') (hn : x_n u' ≤ 500000) (ho : ∀ i, x_own p b mu me i → ¬ own i) (hF : ∀ i, Fz i → ¬ own i) : x_TB u' Fz p b L pl pa mu me d V := by
  obtain ⟨h1, h2, h3, h4, h5, h8⟩ := h
  have hF2 : ∀ i, Fz i → i < x_n u ∧ ¬ own i := fun i hi => ⟨h3.1 i hi, hF i hi⟩
  have hlt : ∀ i, x_own p b mu me i → i < x_n u := fun i hi => by
    obtain ⟨⟨a1, a2, a3, a4, a5, a6⟩, -⟩ := h1
    unfold x_own at hi
    omega
  refine ⟨h1.fr f hn ho, h2.of (fun i hi => (f.2.2.2.2 i (Or.inl (hlt i hi)) (ho i hi)).2), ⟨fun i hi => Nat.lt_of_lt_of_le (h3.1 i hi) f.2.1, h3.2⟩, h4, h5.fr f (fun hL => hF2 _ (h4 hL)), h8.fr f ?_ hF2 (fun _ h => h)⟩
  have hq : x_own p b mu me (p+5) := by unfold x_own; omega
  exact (f.2.2.2.2 _ (Or.inl (hlt _ hq)) (ho _ hq)).1
theorem x_TB.ui {o k : Nat} {v : Int32} (h : x_TB u Fz p b L pl pa mu me d V) (ho : x_own p b mu me o) (hI : x_TI (x_up (x_t u) o k v) p b mu me V') (e6 : V' 6 = V 6) (e : ∀ a, 305 ≤ a → a < 905 → V' a = V a) : x_TB (x_ui u o k v) Fz p b L pl pa mu me d V' := by
  obtain ⟨h1, h2, h3, h4, h5, h8⟩ := h
  have hf : x_fr (x_own p b mu me) u (x_ui u o k v) := x_fr.ui ho
  have hF : ∀ i, Fz i → i < x_n u ∧ ¬ x_own p b mu me i := fun i hi => ⟨h3.1 i hi, fun q => h3.2 i q hi⟩
  exact ⟨h1, hI, h3, h4, h5.fr hf (fun hL => hF _ (h4 hL)), (h8.cg e6 e).fr hf rfl hF (fun _ q => q)⟩
theorem x_TB.cg (h : x_TB u Fz p b L pl pa mu me d V) (e : ∀ a, a < 129 + mu ∨ 305 ≤ a → V' a = V a) : x_TB u Fz p b L pl pa mu me d V' := by
  have hb := h.bd
  obtain ⟨h1, h2, h3, h4, h5, h8⟩ := h
  exact ⟨h1, h2.cgm (by omega) (by omega) (fun a ha => e a (Or.inl ha)), h3, h4, h5, h8.cg (e 6 (by omega)) (fun a a1 a2 => e a (Or.inr a1))⟩
end TB
/-- what is drawn -/
def y_x20 (v : Int32) : Nat := v.toBitVec.toNat % 2 ^ 20
def y_bt (v : Int32) (lo hi : Nat) : Nat := lo + y_x20 v % (hi - lo + 1)
theorem y_bt_b {v : Int32} {lo hi : Nat} (h : lo ≤ hi) : lo ≤ y_bt v lo hi ∧ y_bt v lo hi ≤ hi := by
  unfold y_bt
  have := Nat.mod_lt (y_x20 v) (show 0 < hi - lo + 1 by omega)
  omega
theorem F_btw {n lo hi : Nat} {v : Int32} {u : x_U} (h : lo ≤ hi) (hh : hi < 1000000) : F_L_between n v (nI lo) (nI hi) u = some (nI (y_bt v lo hi), u) := by
  have hm : (1048575 : Int32).toBitVec.toNat = 2 ^ 20 - 1 := by decide
  have e1 : (1 : Int32) = nI 1 := rfl
  have hlt : v.toBitVec.toNat % 2 ^ 20 < 2 ^ 20 := Nat.mod_lt _ (by decide)
  unfold F_L_between y_bt y_x20
  rw [pk_and _ 20 hm, z_sub h, e1, nI_add, p_xrem, h_xremE (by omega) (by omega) (by omega), nI_add]
def y_vh (x : Int32) (k : Nat) : Int32 := (x * (nI k + 3)) + (281 * nI k)
def y_hM (x : Int32) (mu k : Nat) : Nat := y_bt (y_vh x k) 0 (mu - 1)
def y_hA (x : Int32) (mu k : Nat) : Nat := (y_hM x mu k + y_bt (y_vh x k >>> (4 &&& 31)) 1 (mu - 1)) % mu
def y_hB (x : Int32) (mu k : Nat) : Nat := (y_hM x mu k + y_bt (y_vh x k >>> (6 &&& 31)) 1 (mu - 1)) % mu
def y_hT (x : Int32) (k : Nat) : Bool := decide ((y_vh x k >>> (8 &&& 31)) &&& 1 = 1)
def y_hh (x : Int32) (mu : Nat) (k : Nat) : Nat × Nat := (y_hM x mu k, y_hset (y_hA x mu k) (y_hB x mu k) (y_hT x k))
theorem y_modne {mu M r : Nat} (hM : M < mu) (h1 : 1 ≤ r) (h2 : r ≤ mu - 1) : (M + r) % mu < mu ∧ (M + r) % mu ≠ M := by
  refine ⟨Nat.mod_lt _ (by omega), ?_⟩
  by_cases q : M + r < mu
  · rw [Nat.mod_eq_of_lt q]; omega
  · rw [Nat.mod_eq_sub_mod (by omega), Nat.mod_eq_of_lt (by omega)]; omega
theorem y_h_b {x : Int32} {mu k : Nat} (h : 2 ≤ mu) : y_hM x mu k < mu ∧ y_hA x mu k < mu ∧ y_hB x mu k < mu ∧ y_hA x mu k ≠ y_hM x mu k ∧ y_hB x mu k ≠ y_hM x mu k := by
  have hM : y_hM x mu k < mu := by
    have := (y_bt_b (v := y_vh x k) (lo := 0) (hi := mu - 1) (by omega)).2
    unfold y_hM
    omega
  have h1 := y_bt_b (v := y_vh x k >>> (4 &&& 31)) (lo := 1) (hi := mu - 1) (by omega)
  have h2 := y_bt_b (v := y_vh x k >>> (6 &&& 31)) (lo := 1) (hi := mu - 1) (by omega)
  have a1 := y_modne hM h1.1 h1.2
  have a2 := y_modne hM h2.1 h2.2
  exact ⟨hM, a1.1, a2.1, a1.2, a2.2⟩
section HE
variable {n p b L pl pa mu me : Nat} {d : Nat → Nat} {Fz : Nat → Prop}
theorem T_34 {x : Int32} {y : Int32} {o4 : Nat} {U0 : x_U} (hFz : ∀ i, Fz i → i < x_n U0) : ∀ j i w V, i ≤ mu → mu < j + i → x_TB w Fz p b L pl pa mu me d V → (∀ m, m < i → V (129+m) = nI 0) → x_fr (x_own p b mu me) U0 w →
    ∃ w' V', x_TB w' Fz p b L pl pa mu me d V' ∧ (∀ a, a < 129 ∨ 141 ≤ a → V' a = V a) ∧ (∀ m, m < mu → V' (129+m) = nI 0) ∧ x_fr (x_own p b mu me) w w' ∧ x_n w' = x_n w ∧ x_m w' = x_m w ∧ ∀ K : x_U → Option (Int32 × x_U), F_L_texts_L34 n p x y o4 K j (nI i) w = K w' := by
  intro j
  induction j with
  | zero => intro i w V h1 h2; omega
  | succ j ih =>
    intro i w V h1 h2 hT hz hf
    have hb := hT.bd
    have hV := hT.TV
    by_cases hi : i = mu
    · subst hi
      refine ⟨w, V, hT, fun _ _ => rfl, hz, x_fr.rf, rfl, rfl, fun K => ?_⟩
      obtain ⟨⟨⟨a1, a2, a3, a4, a5, a6⟩, ⟨k1, k2, k3, k4, k5, k6⟩, ⟨r1, r2, r3, r4, r5, r6, r7, r8⟩⟩, ⟨t0, t1, t2, t3, t4, t5, t6, t7, t8, t9, ta⟩, tm, tk⟩ := hV
      rw [F_L_texts_L34]
      simp (disch := first | omega | ((try simp (disch := omega) only [k1, t7, xs_k_ui, xs_k_ur, xs_k_uc, xs_k_un, xs_k_ub, xs_r_ui, xs_r_ur, xs_r_uc, xs_r_un, xs_r_ub, xs_t_ui, xs_t_ur, xs_t_uc, xs_t_un, xs_t_ub, xs_n_ui, xs_n_ur, xs_n_uc, xs_n_un, xs_n_ub, xs_m_ui, xs_m_ur, xs_m_uc, xs_m_un, xs_m_ub, xs_c_ui, xs_c_ur, xs_c_uc, xs_c_un, xs_c_ub, x_up_s, x_up_k, x_up_o, x_fU_s, x_fU_o]) <;> first | rfl | omega | (refine (?_ : (_ : Bool) = true); with_unfolding_all rfl)) | fail) only [k1, t7, ↓p_xgi, ↓p_xgr, ↓p_xpi, ↓p_xpr, ↓p_xo, ↓p_xld, ↓p_xlb, ↓p_xlr, ↓p_xst, ↓p_xsb, ↓p_xsr, ↓p_xlen, ↓p_xnew, ↓p_xnwa, ↓p_xcln, ↓p_xcst, ↓p_xcall, ↓p_xcalc, ↓p_xnm, ↓p_xdv, ↓p_xrem, h_xgiE, h_xgrE, h_xpiE, h_xprE, h_xoE, h_xldE, h_xlbE, h_xlrE, h_xstE, h_xsbE, h_xsrE, h_xlenE, h_xnewE, h_xnwaE, h_xclnE, h_xcstE, h_xcallE, h_xcalcE, h_xnmE, h_xdvE, h_xremE, xs_k_ui, xs_k_ur, xs_k_uc, xs_k_un, xs_k_ub, xs_r_ui, xs_r_ur, xs_r_uc, xs_r_un, xs_r_ub, xs_t_ui, xs_t_ur, xs_t_uc, xs_t_un, xs_t_ub, xs_n_ui, xs_n_ur, xs_n_uc, xs_n_un, xs_n_ub, xs_m_ui, xs_m_ur, xs_m_uc, xs_m_un, xs_m_ub, xs_c_ui, xs_c_ur, xs_c_uc, xs_c_un, xs_c_ub, x_up_s, x_up_k, x_up_o, x_fU_s, x_fU_o, ↓reduceIte, h_ldE, h_stE, h_nmE, h_nSE, h_callE, h_callvE, h_dvE, h_remE, if_true, if_false, z_upS, z_upO, z_upK, nI_add, z_mul, z_sub, z_div, Nat.add_zero, Nat.mul_zero, Nat.zero_add, Nat.sub_zero, Nat.zero_mul, z_ltT, z_ltF, z_leT, z_leF, z_eqT, z_eqF, z_inT, z_clT, not_true_eq_false, not_false_eq_true, eq_self, true_or, or_true, z_m_lt, z_m_le, z_lt_m, z_le_m, z_eq_m, z_m_eq, z_rz0, z_rz1, z_m_add, z_of, ↓z_m1, l_0, l_1, l_2, l_3, l_4, l_5, l_6, l_7, l_8, l_9, l_10, l_11, l_12, l_13, l_14, l_15, l_16, l_17, l_18, l_19, l_20, l_21, l_22, l_23, l_24, l_25, l_26, l_27, l_28, l_29, l_30, l_31, l_32, l_33, l_34, l_35, l_36, l_37, l_38, l_39, l_40, l_41, l_42, l_43, l_44, l_45, l_46, l_47, l_48, l_49, l_50, l_51, l_52, l_53, l_54, l_55, l_56, l_57, l_59, l_60, l_61, l_62, l_63, l_64, l_65, l_80, l_86, l_87, l_88, l_89, l_90, l_91, l_92, l_93, l_94, l_95, l_97, l_99, l_100, l_107, l_119, l_122, l_124, l_129, l_140, l_141, l_142, l_143, l_144, l_145, l_147, l_150, l_159, l_160, l_161, l_162, l_205, l_253, l_255, l_256, l_269, l_305, l_380, l_399, l_400, l_420, l_430, l_516, l_600, l_720, l_820, l_905, l_921, l_937, l_953, l_970, l_999, l_1000, l_1790, l_4096, l_9999, l_1000000]
    · have hlt : i < mu := by omega
      have ho : x_own p b mu me (b+i) := by unfold x_own; omega
      have hT2 : x_TB (x_ui w (b+i) 4 (nI 0)) Fz p b L pl pa mu me d (z_u V (129+i) (nI 0)) := hT.ui ho (hT.2.1.hd (by omega) (by omega) (by omega) hlt) (z_uK (by omega)) (fun a a1 a2 => z_uK (by omega))
      obtain ⟨w', V', g1, g2, g3, g4, g5, g6, g7⟩ := ih (i+1) _ _ (by omega) (by omega) hT2 (fun m hm => by
        by_cases e : m = i
        · subst e; exact z_uS
        · rw [z_uK (by omega)]; exact hz m (by omega)) (hf.tr (x_fr.ui ho))
      refine ⟨w', V', g1, fun a ha => by rw [g2 a ha, z_uK (by omega)], g3, (x_fr.ui ho).tr g4, g5, g6, fun K => ?_⟩
      obtain ⟨⟨⟨a1, a2, a3, a4, a5, a6⟩, ⟨k1, k2, k3, k4, k5, k6⟩, ⟨r1, r2, r3, r4, r5, r6, r7, r8⟩⟩, ⟨t0, t1, t2, t3, t4, t5, t6, t7, t8, t9, ta⟩, tm, tk⟩ := hV
      have r7i := r7 i hlt
      have k5i := k5 i hlt
      rw [← g7 K, F_L_texts_L34]
      simp (disch := first | omega | ((try simp (disch := omega) only [k1, k2, t7, r1, r7i, k5i, xs_k_ui, xs_k_ur, xs_k_uc, xs_k_un, xs_k_ub, xs_r_ui, xs_r_ur, xs_r_uc, xs_r_un, xs_r_ub, xs_t_ui, xs_t_ur, xs_t_uc, xs_t_un, xs_t_ub, xs_n_ui, xs_n_ur, xs_n_uc, xs_n_un, xs_n_ub, xs_m_ui, xs_m_ur, xs_m_uc, xs_m_un, xs_m_ub, xs_c_ui, xs_c_ur, xs_c_uc, xs_c_un, xs_c_ub, x_up_s, x_up_k, x_up_o, x_fU_s, x_fU_o]) <;> first | rfl | omega | (refine (?_ : (_ : Bool) = true); with_unfolding_all rfl)) | fail) only [k1, k2, t7, r1, r7i, k5i, ↓p_xgi, ↓p_xgr, ↓p_xpi, ↓p_xpr, ↓p_xo, ↓p_xld, ↓p_xlb, ↓p_xlr, ↓p_xst, ↓p_xsb, ↓p_xsr, ↓p_xlen, ↓p_xnew, ↓p_xnwa, ↓p_xcln, ↓p_xcst, ↓p_xcall, ↓p_xcalc, ↓p_xnm, ↓p_xdv, ↓p_xrem, h_xgiE, h_xgrE, h_xpiE, h_xprE, h_xoE, h_xldE, h_xlbE, h_xlrE, h_xstE, h_xsbE, h_xsrE, h_xlenE, h_xnewE, h_xnwaE, h_xclnE, h_xcstE, h_xcallE, h_xcalcE, h_xnmE, h_xdvE, h_xremE, xs_k_ui, xs_k_ur, xs_k_uc, xs_k_un, xs_k_ub, xs_r_ui, xs_r_ur, xs_r_uc, xs_r_un, xs_r_ub, xs_t_ui, xs_t_ur, xs_t_uc, xs_t_un, xs_t_ub, xs_n_ui, xs_n_ur, xs_n_uc, xs_n_un, xs_n_ub, xs_m_ui, xs_m_ur, xs_m_uc, xs_m_un, xs_m_ub, xs_c_ui, xs_c_ur, xs_c_uc, xs_c_un, xs_c_ub, x_up_s, x_up_k, x_up_o, x_fU_s, x_fU_o, ↓reduceIte, h_ldE, h_stE, h_nmE, h_nSE, h_callE, h_callvE, h_dvE, h_remE, if_true, if_false, z_upS, z_upO, z_upK, nI_add, z_mul, z_sub, z_div, Nat.add_zero, Nat.mul_zero, Nat.zero_add, Nat.sub_zero, Nat.zero_mul, z_ltT, z_ltF, z_leT, z_leF, z_eqT, z_eqF, z_inT, z_clT, not_true_eq_false, not_false_eq_true, eq_self, true_or, or_true, z_m_lt, z_m_le, z_lt_m, z_le_m, z_eq_m, z_m_eq, z_rz0, z_rz1, z_m_add, z_of, ↓z_m1, l_0, l_1, l_2, l_3, l_4, l_5, l_6, l_7, l_8, l_9, l_10, l_11, l_12, l_13, l_14, l_15, l_16, l_17, l_18, l_19, l_20, l_21, l_22, l_23, l_24, l_25, l_26, l_27, l_28, l_29, l_30, l_31, l_32, l_33, l_34, l_35, l_36, l_37, l_38, l_39, l_40, l_41, l_42, l_43, l_44, l_45, l_46, l_47, l_48, l_49, l_50, l_51, l_52, l_53, l_54, l_55, l_56, l_57, l_59, l_60, l_61, l_62, l_63, l_64, l_65, l_80, l_86, l_87, l_88, l_89, l_90, l_91, l_92, l_93, l_94, l_95, l_97, l_99, l_100, l_107, l_119, l_122, l_124, l_129, l_140, l_141, l_142, l_143, l_144, l_145, l_147, l_150, l_159, l_160, l_161, l_162, l_205, l_253, l_255, l_256, l_269, l_305, l_380, l_399, l_400, l_420, l_430, l_516, l_600, l_720, l_820, l_905, l_921, l_937, l_953, l_970, l_999, l_1000, l_1790, l_4096, l_9999, l_1000000]
end HE
