/-! how the law's train stands -/
def y_bd (lean : Nat → Nat) (me : Nat) : Nat → Nat
  | 0 => 0
  | t + 1 => if y_bd lean me t = 0 ∨ lean (y_bd lean me t - 1) ≤ lean (me - 1 - t) then me - t else y_bd lean me t
theorem y_bd_p (lean : Nat → Nat) (me : Nat) : ∀ t, t ≤ me → 1 ≤ t → ∃ a, y_bd lean me t = a + 1 ∧ me - t ≤ a ∧ a < me ∧ (∀ k, me - t ≤ k → k < me → lean k ≤ lean a) ∧ ∀ k, me - t ≤ k → k < a → lean k < lean a
  | 0, _, h => by omega
  | t + 1, h1, _ => by
    by_cases h0 : t = 0
    · subst h0
      refine ⟨me - 1, ?_, by omega, by omega, fun k k1 k2 => ?_, fun k k1 k2 => by omega⟩
      · show (if _ then _ else _) = _
        rw [if_pos (Or.inl (show y_bd lean me 0 = 0 from rfl)), Nat.sub_zero]
        omega
      · have : k = me - 1 := by omega
        rw [this]
        exact Nat.le_refl _
    · obtain ⟨a, e, a1, a2, a3, a4⟩ := y_bd_p lean me t (by omega) (by omega)
      have hs : y_bd lean me (t+1) = if y_bd lean me t = 0 ∨ lean (y_bd lean me t - 1) ≤ lean (me - 1 - t) then me - t else y_bd lean me t := rfl
      rw [hs, e, Nat.add_sub_cancel]
      by_cases q : lean a ≤ lean (me - 1 - t)
      · rw [if_pos (Or.inr q)]
        refine ⟨me - 1 - t, by omega, by omega, by omega, fun k k1 k2 => ?_, fun k k1 k2 => by omega⟩
        by_cases hk : k = me - 1 - t
        · rw [hk]; exact Nat.le_refl _
        · exact Nat.le_trans (a3 k (by omega) k2) q
      · rw [if_neg (by rintro (z | z); omega; exact q z)]
        refine ⟨a, rfl, by omega, a2, fun k k1 k2 => ?_, fun k k1 k2 => ?_⟩
        · by_cases hk : k = me - 1 - t
          · rw [hk]; omega
          · exact a3 k (by omega) k2
        · by_cases hk : k = me - 1 - t
          · rw [hk]; omega
          · exact a4 k (by omega) k2
theorem y_bm_p (lean : Nat → Nat) : ∀ i, 1 ≤ i → ∃ a, z_bm lean i = (a + 1, lean a) ∧ a < i ∧ (∀ k, k < i → lean k ≤ lean a) ∧ ∀ k, k < a → lean k < lean a
  | 0, h => by omega
  | i + 1, _ => by
    have hs : z_bm lean (i+1) = if (z_bm lean i).1 = 0 ∨ (z_bm lean i).2 < lean i then (i+1, lean i) else z_bm lean i := rfl
    by_cases h0 : i = 0
    · subst h0
      exact ⟨0, by rw [hs]; exact if_pos (Or.inl rfl), by omega, fun k hk => by have : k = 0 := by omega
                                                                                rw [this]; exact Nat.le_refl _, fun k hk => by omega⟩
    · obtain ⟨a, e, a1, a2, a3⟩ := y_bm_p lean i (by omega)
      rw [hs, e]
      by_cases q : lean a < lean i
      · rw [if_pos (Or.inr q)]
        refine ⟨i, rfl, by omega, fun k hk => ?_, fun k hk => Nat.lt_of_le_of_lt (a2 k hk) q⟩
        by_cases hk2 : k = i
        · rw [hk2]; exact Nat.le_refl _
        · exact Nat.le_of_lt (Nat.lt_of_le_of_lt (a2 k (by omega)) q)
      · rw [if_neg (by rintro (z | z); omega; exact q z)]
        refine ⟨a, rfl, by omega, fun k hk => ?_, a3⟩
        by_cases hk2 : k = i
        · rw [hk2]; omega
        · exact a2 k (by omega)
theorem y_bd_bm (lean : Nat → Nat) (me : Nat) : y_bd lean me me = (z_bm lean me).1 ∧ (me ≠ 0 → lean (y_bd lean me me - 1) = (z_bm lean me).2) := by
  by_cases h : me = 0
  · subst h
    exact ⟨rfl, fun q => absurd rfl q⟩
  · obtain ⟨a, e, a1, a2, a3, a4⟩ := y_bd_p lean me me (Nat.le_refl _) (by omega)
    obtain ⟨c, f, c1, c2, c3⟩ := y_bm_p lean me (by omega)
    have hac : a = c := by
      rcases Nat.lt_trichotomy a c with q | q | q
      · have h1 := c3 a q
        have h2 := a3 c (by omega) c1
        omega
      · exact q
      · have h1 := a4 c (by omega) q
        have h2 := c2 a a2
        omega
    subst hac
    rw [e, f]
    exact ⟨rfl, fun _ => rfl⟩
theorem y_dec (a : Nat) : nI a + z_m = z_vw a := by
  cases a with
  | zero => rfl
  | succ a =>
    rw [Int32.add_comm, z_m_add]
    rfl
theorem y_pred (a : Nat) : nI a - nI 1 = z_vw a := by
  cases a with
  | zero => rfl
  | succ a => exact z_sub (by omega)
theorem y_vw0 {a : Nat} (h : a < 2147483648) : (z_vw a < nI 0) = (a = 0) := by
  cases a with
  | zero => exact propext ⟨fun _ => rfl, fun _ => by rw [show z_vw 0 = z_m from rfl, z_m_lt (by omega)]; trivial⟩
  | succ a =>
    rw [show z_vw (a+1) = nI a from rfl, z_ltF (by omega) (by omega)]
    simp
/-- what the law's law says is what the lines say -/
def y_EQ (L : Nat) (d : Nat → Nat) (V : Nat → Int32) (mu me : Nat) : Prop := (∀ m k h, m < mu → k < me → h ≤ 12 → z_lean V m k (z_lk V m k) h = y_lean L d V m k h) ∧ (∀ m, m < mu → z_need V m = y_need L d V m) ∧ ∀ m h dr, m < mu → h < 2147483648 → z_op dr me → z_risk V m (nI h) dr = y_risk L d V m (nI h) dr
section ST
variable {p b L pl pa : Nat} {d : Nat → Nat}
theorem y_lean_VB {V : Nat → Int32} {B : Nat → Nat} {m k h : Nat} : y_lean L d (z_VB V B) m k h = y_lean L d V m k h := by
  unfold y_lean
  rw [z_VBo (by omega), z_VBo (by omega), z_VBo (by omega), z_VBo (by omega)]
theorem y_need_VB {V : Nat → Int32} {B : Nat → Nat} {m : Nat} : y_need L d (z_VB V B) m = y_need L d V m := by
  unfold y_need
  rw [z_VBo (by omega), z_VBo (by omega)]
theorem F_leanB {u : x_U} {n m k mu me : Nat} {Fz : Nat → Prop} {V : Nat → Int32} {B : Nat → Nat} {σc : q_Sto} (hn : 13 ≤ n) (hR : z_R σc V mu me) (hE : y_EQ L d V mu me) (hB : ∀ j, B j ≤ 5) (hT : x_TN u Fz p b L pl pa mu me d (z_VB V B)) (hm : m < mu) (hk : k < me) :
    F_X12_lean n p (nI m) (nI k) u = some (nI (z_lean V m k (z_lk V m k) (z_hn (z_bt V mu me) B m k)), u) := by
  have hb := hT.bd
  obtain ⟨y1, y2, y3⟩ := z_hsE hR.1 hR.2.2.2.2.1 (m := m) (by omega)
  have h12 := z_p12 hR.1
  have e := F_lean (n := n) (m := m) (k := k) (hs := z_hs V m) hn hT.V hT.2.2.2.2.1 hm hk (by rw [z_VBo (by omega)]; exact y1) (by omega)
  rw [z_bhd_side hR.1 hB (by omega), y_lean_VB] at e
  have hc : z_cnt (z_hs V m &&& z_side B k mu) 12 = z_hn (z_bt V mu me) B m k := rfl
  rw [hc] at e
  rw [e, hE.1 m k _ hm hk (by rw [← hc]; exact z_cnt_le _ _)]
theorem F_best_L {u : x_U} {n m mu me : Nat} {lean : Nat → Nat} {x1 x2 : Int32} {K : Int32 → x_U → Option (Int32 × x_U)} {Fz : Nat → Prop} {V : Nat → Int32} (hT : x_TN u Fz p b L pl pa mu me d V) (hm : m < mu)
    (hl : ∀ k, k < me → F_X12_lean n p (nI m) (nI k) u = some (nI (lean k), u)) (hl9 : ∀ k, lean k ≤ 999) : ∀ j t, t ≤ me → me < j + t → F_X12_stand_L90 n p x1 x2 (nI m) K j (z_vw (y_bd lean me t)) (z_vw (me - t)) u = K (z_vw (y_bd lean me me)) u := by
  have hb := hT.bd
  intro j
  induction j with
  | zero => intro t h1 h2; omega
  | succ j ih =>
    intro t h1 h2
    rw [F_X12_stand_L90]
    by_cases ht : t = me
    · subst ht
      rw [Nat.sub_self, l_0, if_pos (by rw [y_vw0 (by omega)])]
    · have ih := ih (t+1) (by omega) (by omega)
      have e1 : me - t = (me - t - 1) + 1 := by omega
      have e2 : z_vw (me - t) = nI (me - t - 1) := by rw [e1]; rfl
      have e3 : me - (t + 1) = me - t - 1 := by omega
      have e4 : me - 1 - t = me - t - 1 := by omega
      rw [e3] at ih
      have hs : y_bd lean me (t+1) = if y_bd lean me t = 0 ∨ lean (y_bd lean me t - 1) ≤ lean (me - 1 - t) then me - t else y_bd lean me t := rfl
      have hbd : y_bd lean me t ≤ me := by
        by_cases h0 : t = 0
        · subst h0; exact Nat.zero_le _
        · obtain ⟨a, e, a1, a2, -⟩ := y_bd_p lean me t h1 (by omega)
          omega
      rw [hs, e4] at ih
      generalize y_bd lean me t = a at *
      have hk : me - t - 1 < me := by omega
      rw [e2]
      have hx : x_k u p = .inl 12 := hT.1.2.1.1
      generalize me - t - 1 = i at *
      have l1 := hl i hk
      cases a with
      | zero =>
        rw [if_pos (Or.inl rfl), e2] at ih
        have e0 : z_vw 0 = z_m := rfl
        rw [e0, ← ih]
        simp (disch := first | omega | ((try simp (disch := omega) only [y_dec, xs_k_ui, xs_k_ur, xs_k_uc, xs_k_un, xs_k_ub, xs_r_ui, xs_r_ur, xs_r_uc, xs_r_un, xs_r_ub, xs_t_ui, xs_t_ur, xs_t_uc, xs_t_un, xs_t_ub, xs_n_ui, xs_n_ur, xs_n_uc, xs_n_un, xs_n_ub, xs_m_ui, xs_m_ur, xs_m_uc, xs_m_un, xs_m_ub, xs_c_ui, xs_c_ur, xs_c_uc, xs_c_un, xs_c_ub, x_up_s, x_up_k, x_up_o, x_fU_s, x_fU_o]) <;> first | rfl | omega | (refine (?_ : (_ : Bool) = true); with_unfolding_all rfl)) | fail) only [y_dec, ↓p_xgi, ↓p_xgr, ↓p_xpi, ↓p_xpr, ↓p_xo, ↓p_xld, ↓p_xlb, ↓p_xlr, ↓p_xst, ↓p_xsb, ↓p_xsr, ↓p_xlen, ↓p_xnew, ↓p_xnwa, ↓p_xcln, ↓p_xcst, ↓p_xcall, ↓p_xcalc, ↓p_xnm, ↓p_xdv, ↓p_xrem, h_xgiE, h_xgrE, h_xpiE, h_xprE, h_xoE, h_xldE, h_xlbE, h_xlrE, h_xstE, h_xsbE, h_xsrE, h_xlenE, h_xnewE, h_xnwaE, h_xclnE, h_xcstE, h_xcallE, h_xcalcE, h_xnmE, h_xdvE, h_xremE, xs_k_ui, xs_k_ur, xs_k_uc, xs_k_un, xs_k_ub, xs_r_ui, xs_r_ur, xs_r_uc, xs_r_un, xs_r_ub, xs_t_ui, xs_t_ur, xs_t_uc, xs_t_un, xs_t_ub, xs_n_ui, xs_n_ur, xs_n_uc, xs_n_un, xs_n_ub, xs_m_ui, xs_m_ur, xs_m_uc, xs_m_un, xs_m_ub, xs_c_ui, xs_c_ur, xs_c_uc, xs_c_un, xs_c_ub, x_up_s, x_up_k, x_up_o, x_fU_s, x_fU_o, ↓reduceIte, h_ldE, h_stE, h_nmE, h_nSE, h_callE, h_callvE, h_dvE, h_remE, if_true, if_false, z_upS, z_upO, z_upK, nI_add, z_mul, z_sub, z_div, Nat.add_zero, Nat.mul_zero, Nat.zero_add, Nat.sub_zero, Nat.zero_mul, z_ltT, z_ltF, z_leT, z_leF, z_eqT, z_eqF, z_inT, z_clT, not_true_eq_false, not_false_eq_true, eq_self, true_or, or_true, z_m_lt, z_m_le, z_lt_m, z_le_m, z_eq_m, z_m_eq, z_rz0, z_rz1, z_m_add, z_of, ↓z_m1, l_0, l_1, l_2, l_3, l_4, l_5, l_6, l_7, l_8, l_9, l_10, l_11, l_12, l_13, l_14, l_15, l_16, l_17, l_18, l_19, l_20, l_21, l_22, l_23, l_24, l_25, l_26, l_27, l_28, l_29, l_30, l_31, l_32, l_33, l_34, l_35, l_36, l_37, l_38, l_39, l_40, l_41, l_42, l_43, l_44, l_45, l_46, l_47, l_48, l_49, l_50, l_51, l_52, l_53, l_54, l_55, l_56, l_57, l_59, l_60, l_61, l_62, l_63, l_64, l_65, l_80, l_86, l_87, l_88, l_89, l_90, l_91, l_92, l_93, l_94, l_95, l_97, l_99, l_100, l_107, l_119, l_122, l_124, l_129, l_140, l_141, l_142, l_143, l_144, l_145, l_147, l_150, l_159, l_160, l_161, l_162, l_205, l_253, l_255, l_256, l_269, l_305, l_380, l_399, l_400, l_420, l_430, l_516, l_600, l_720, l_820, l_905, l_921, l_937, l_953, l_970, l_999, l_1000, l_1790, l_4096, l_9999, l_1000000]
      | succ a =>
        have e0 : z_vw (a+1) = nI a := rfl
        have l2 := hl a (by omega)
        have q1 := hl9 i
        have q2 := hl9 a
        rw [Nat.add_sub_cancel] at ih
        rw [e0]
        by_cases q : lean a ≤ lean i
        · rw [if_pos (Or.inr q), e2] at ih
          rw [← ih]
          simp (disch := first | omega | ((try simp (disch := omega) only [y_dec, hx, l1, l2, xs_k_ui, xs_k_ur, xs_k_uc, xs_k_un, xs_k_ub, xs_r_ui, xs_r_ur, xs_r_uc, xs_r_un, xs_r_ub, xs_t_ui, xs_t_ur, xs_t_uc, xs_t_un, xs_t_ub, xs_n_ui, xs_n_ur, xs_n_uc, xs_n_un, xs_n_ub, xs_m_ui, xs_m_ur, xs_m_uc, xs_m_un, xs_m_ub, xs_c_ui, xs_c_ur, xs_c_uc, xs_c_un, xs_c_ub, x_up_s, x_up_k, x_up_o, x_fU_s, x_fU_o]) <;> first | rfl | omega | (refine (?_ : (_ : Bool) = true); with_unfolding_all rfl)) | fail) only [y_dec, hx, l1, l2, ↓p_xgi, ↓p_xgr, ↓p_xpi, ↓p_xpr, ↓p_xo, ↓p_xld, ↓p_xlb, ↓p_xlr, ↓p_xst, ↓p_xsb, ↓p_xsr, ↓p_xlen, ↓p_xnew, ↓p_xnwa, ↓p_xcln, ↓p_xcst, ↓p_xcall, ↓p_xcalc, ↓p_xnm, ↓p_xdv, ↓p_xrem, h_xgiE, h_xgrE, h_xpiE, h_xprE, h_xoE, h_xldE, h_xlbE, h_xlrE, h_xstE, h_xsbE, h_xsrE, h_xlenE, h_xnewE, h_xnwaE, h_xclnE, h_xcstE, h_xcallE, h_xcalcE, h_xnmE, h_xdvE, h_xremE, xs_k_ui, xs_k_ur, xs_k_uc, xs_k_un, xs_k_ub, xs_r_ui, xs_r_ur, xs_r_uc, xs_r_un, xs_r_ub, xs_t_ui, xs_t_ur, xs_t_uc, xs_t_un, xs_t_ub, xs_n_ui, xs_n_ur, xs_n_uc, xs_n_un, xs_n_ub, xs_m_ui, xs_m_ur, xs_m_uc, xs_m_un, xs_m_ub, xs_c_ui, xs_c_ur, xs_c_uc, xs_c_un, xs_c_ub, x_up_s, x_up_k, x_up_o, x_fU_s, x_fU_o, ↓reduceIte, h_ldE, h_stE, h_nmE, h_nSE, h_callE, h_callvE, h_dvE, h_remE, if_true, if_false, z_upS, z_upO, z_upK, nI_add, z_mul, z_sub, z_div, Nat.add_zero, Nat.mul_zero, Nat.zero_add, Nat.sub_zero, Nat.zero_mul, z_ltT, z_ltF, z_leT, z_leF, z_eqT, z_eqF, z_inT, z_clT, not_true_eq_false, not_false_eq_true, eq_self, true_or, or_true, z_m_lt, z_m_le, z_lt_m, z_le_m, z_eq_m, z_m_eq, z_rz0, z_rz1, z_m_add, z_of, ↓z_m1, l_0, l_1, l_2, l_3, l_4, l_5, l_6, l_7, l_8, l_9, l_10, l_11, l_12, l_13, l_14, l_15, l_16, l_17, l_18, l_19, l_20, l_21, l_22, l_23, l_24, l_25, l_26, l_27, l_28, l_29, l_30, l_31, l_32, l_33, l_34, l_35, l_36, l_37, l_38, l_39, l_40, l_41, l_42, l_43, l_44, l_45, l_46, l_47, l_48, l_49, l_50, l_51, l_52, l_53, l_54, l_55, l_56, l_57, l_59, l_60, l_61, l_62, l_63, l_64, l_65, l_80, l_86, l_87, l_88, l_89, l_90, l_91, l_92, l_93, l_94, l_95, l_97, l_99, l_100, l_107, l_119, l_122, l_124, l_129, l_140, l_141, l_142, l_143, l_144, l_145, l_147, l_150, l_159, l_160, l_161, l_162, l_205, l_253, l_255, l_256, l_269, l_305, l_380, l_399, l_400, l_420, l_430, l_516, l_600, l_720, l_820, l_905, l_921, l_937, l_953, l_970, l_999, l_1000, l_1790, l_4096, l_9999, l_1000000]
        · rw [if_neg (by rintro (z | z); omega; exact q z), e0] at ih
          rw [← ih]
          simp (disch := first | omega | ((try simp (disch := omega) only [y_dec, hx, l1, l2, xs_k_ui, xs_k_ur, xs_k_uc, xs_k_un, xs_k_ub, xs_r_ui, xs_r_ur, xs_r_uc, xs_r_un, xs_r_ub, xs_t_ui, xs_t_ur, xs_t_uc, xs_t_un, xs_t_ub, xs_n_ui, xs_n_ur, xs_n_uc, xs_n_un, xs_n_ub, xs_m_ui, xs_m_ur, xs_m_uc, xs_m_un, xs_m_ub, xs_c_ui, xs_c_ur, xs_c_uc, xs_c_un, xs_c_ub, x_up_s, x_up_k, x_up_o, x_fU_s, x_fU_o]) <;> first | rfl | omega | (refine (?_ : (_ : Bool) = true); with_unfolding_all rfl)) | fail) only [y_dec, hx, l1, l2, ↓p_xgi, ↓p_xgr, ↓p_xpi, ↓p_xpr, ↓p_xo, ↓p_xld, ↓p_xlb, ↓p_xlr, ↓p_xst, ↓p_xsb, ↓p_xsr, ↓p_xlen, ↓p_xnew, ↓p_xnwa, ↓p_xcln, ↓p_xcst, ↓p_xcall, ↓p_xcalc, ↓p_xnm, ↓p_xdv, ↓p_xrem, h_xgiE, h_xgrE, h_xpiE, h_xprE, h_xoE, h_xldE, h_xlbE, h_xlrE, h_xstE, h_xsbE, h_xsrE, h_xlenE, h_xnewE, h_xnwaE, h_xclnE, h_xcstE, h_xcallE, h_xcalcE, h_xnmE, h_xdvE, h_xremE, xs_k_ui, xs_k_ur, xs_k_uc, xs_k_un, xs_k_ub, xs_r_ui, xs_r_ur, xs_r_uc, xs_r_un, xs_r_ub, xs_t_ui, xs_t_ur, xs_t_uc, xs_t_un, xs_t_ub, xs_n_ui, xs_n_ur, xs_n_uc, xs_n_un, xs_n_ub, xs_m_ui, xs_m_ur, xs_m_uc, xs_m_un, xs_m_ub, xs_c_ui, xs_c_ur, xs_c_uc, xs_c_un, xs_c_ub, x_up_s, x_up_k, x_up_o, x_fU_s, x_fU_o, ↓reduceIte, h_ldE, h_stE, h_nmE, h_nSE, h_callE, h_callvE, h_dvE, h_remE, if_true, if_false, z_upS, z_upO, z_upK, nI_add, z_mul, z_sub, z_div, Nat.add_zero, Nat.mul_zero, Nat.zero_add, Nat.sub_zero, Nat.zero_mul, z_ltT, z_ltF, z_leT, z_leF, z_eqT, z_eqF, z_inT, z_clT, not_true_eq_false, not_false_eq_true, eq_self, true_or, or_true, z_m_lt, z_m_le, z_lt_m, z_le_m, z_eq_m, z_m_eq, z_rz0, z_rz1, z_m_add, z_of, ↓z_m1, l_0, l_1, l_2, l_3, l_4, l_5, l_6, l_7, l_8, l_9, l_10, l_11, l_12, l_13, l_14, l_15, l_16, l_17, l_18, l_19, l_20, l_21, l_22, l_23, l_24, l_25, l_26, l_27, l_28, l_29, l_30, l_31, l_32, l_33, l_34, l_35, l_36, l_37, l_38, l_39, l_40, l_41, l_42, l_43, l_44, l_45, l_46, l_47, l_48, l_49, l_50, l_51, l_52, l_53, l_54, l_55, l_56, l_57, l_59, l_60, l_61, l_62, l_63, l_64, l_65, l_80, l_86, l_87, l_88, l_89, l_90, l_91, l_92, l_93, l_94, l_95, l_97, l_99, l_100, l_107, l_119, l_122, l_124, l_129, l_140, l_141, l_142, l_143, l_144, l_145, l_147, l_150, l_159, l_160, l_161, l_162, l_205, l_253, l_255, l_256, l_269, l_305, l_380, l_399, l_400, l_420, l_430, l_516, l_600, l_720, l_820, l_905, l_921, l_937, l_953, l_970, l_999, l_1000, l_1790, l_4096, l_9999, l_1000000]
theorem z_VB_uu {V : Nat → Int32} {B : Nat → Nat} {m v : Nat} (hm : m < 12) : z_u (z_VB V B) (8+m) (z_vw v) = z_VB V (z_upB B m v) := by
  funext a
  unfold z_u z_VB z_upB
  by_cases h : a = 8 + m
  · subst h
    rw [if_pos rfl, if_pos (by omega)]
    rw [show 8 + m - 8 = m by omega, if_pos rfl]
  · rw [if_neg h]
    by_cases h2 : 8 ≤ a ∧ a < 20
    · rw [if_pos h2, if_pos h2, if_neg (by omega)]
    · rw [if_neg h2, if_neg h2]
theorem x_TN.bh {u : x_U} {Fz : Nat → Prop} {mu me m v : Nat} {V : Nat → Int32} {B : Nat → Nat} (hT : x_TN u Fz p b L pl pa mu me d (z_VB V B)) (hm : m < mu) : x_TN (x_ui u (b+m) 3 (z_vw v)) Fz p b L pl pa mu me d (z_VB V (z_upB B m v)) := by
  have hb := hT.bd
  rw [← z_VB_uu (by omega)]
  exact hT.up (by unfold x_own; omega) (hT.2.1.bh (by omega) (by omega) (by omega) hm) (fun c hc => z_uK (by omega)) (hT.2.2.2.2.2.2.2.cg (z_uK (by omega)) (fun c a1 a2 => z_uK (by omega)))
theorem F_round_L {n s mu me : Nat} {K : Int32 → x_U → Option (Int32 × x_U)} {V : Nat → Int32} {B : Nat → Nat} {σc : q_Sto} {Fz : Nat → Prop} (hn : 402 ≤ n) (hR : z_R σc V mu me) (hE : y_EQ L d V mu me) (h7 : V 7 = nI s) (hs : s < 4096) (hB : ∀ j, B j ≤ 5) :
    ∀ j i (u : x_U), i ≤ mu → mu < j + i → x_TN u Fz p b L pl pa mu me d (z_VB V (z_rd (z_bt V mu me) (fun i => s.testBit i) B i).1) → ∃ u', x_sp (x_own p b mu me) 0 0 u u' Fz Fz ∧ x_TN u' Fz p b L pl pa mu me d (z_VB V (z_rd (z_bt V mu me) (fun i => s.testBit i) B mu).1) ∧
      F_X12_stand_L40 n p z_m K j (nI (if (z_rd (z_bt V mu me) (fun i => s.testBit i) B i).2 = true then 1 else 0)) (nI i) u = K (nI (if (z_rd (z_bt V mu me) (fun i => s.testBit i) B mu).2 = true then 1 else 0)) u' := by
  have hmu := hR.1
  have hme := hR.2.1
  have hBO := z_bt_ok hmu hme hR.2.2.2.2.1
  intro j
  induction j with
  | zero => intro i u h1 h2; omega
  | succ j ih =>
    intro i u h1 h2 hT
    rw [F_X12_stand_L40]
    by_cases hi : i = mu
    · subst hi
      refine ⟨u, x_sp.rf, hT, ?_⟩
      obtain ⟨⟨⟨a1, a2, a3, a4, a5, a6⟩, ⟨k1, k2, k3, k4, k5, k6⟩, ⟨r1, r2, r3, r4, r5, r6, r7, r8⟩⟩, ⟨t0, t1, t2, t3, t4, t5, t6, t7, t8, t9, ta⟩, tm, tk⟩ := hT.V
      simp (disch := first | omega | ((try simp (disch := omega) only [k1, t7, xs_k_ui, xs_k_ur, xs_k_uc, xs_k_un, xs_k_ub, xs_r_ui, xs_r_ur, xs_r_uc, xs_r_un, xs_r_ub, xs_t_ui, xs_t_ur, xs_t_uc, xs_t_un, xs_t_ub, xs_n_ui, xs_n_ur, xs_n_uc, xs_n_un, xs_n_ub, xs_m_ui, xs_m_ur, xs_m_uc, xs_m_un, xs_m_ub, xs_c_ui, xs_c_ur, xs_c_uc, xs_c_un, xs_c_ub, x_up_s, x_up_k, x_up_o, x_fU_s, x_fU_o]) <;> first | rfl | omega | (refine (?_ : (_ : Bool) = true); with_unfolding_all rfl)) | fail) only [k1, t7, ↓p_xgi, ↓p_xgr, ↓p_xpi, ↓p_xpr, ↓p_xo, ↓p_xld, ↓p_xlb, ↓p_xlr, ↓p_xst, ↓p_xsb, ↓p_xsr, ↓p_xlen, ↓p_xnew, ↓p_xnwa, ↓p_xcln, ↓p_xcst, ↓p_xcall, ↓p_xcalc, ↓p_xnm, ↓p_xdv, ↓p_xrem, h_xgiE, h_xgrE, h_xpiE, h_xprE, h_xoE, h_xldE, h_xlbE, h_xlrE, h_xstE, h_xsbE, h_xsrE, h_xlenE, h_xnewE, h_xnwaE, h_xclnE, h_xcstE, h_xcallE, h_xcalcE, h_xnmE, h_xdvE, h_xremE, xs_k_ui, xs_k_ur, xs_k_uc, xs_k_un, xs_k_ub, xs_r_ui, xs_r_ur, xs_r_uc, xs_r_un, xs_r_ub, xs_t_ui, xs_t_ur, xs_t_uc, xs_t_un, xs_t_ub, xs_n_ui, xs_n_ur, xs_n_uc, xs_n_un, xs_n_ub, xs_m_ui, xs_m_ur, xs_m_uc, xs_m_un, xs_m_ub, xs_c_ui, xs_c_ur, xs_c_uc, xs_c_un, xs_c_ub, x_up_s, x_up_k, x_up_o, x_fU_s, x_fU_o, ↓reduceIte, h_ldE, h_stE, h_nmE, h_nSE, h_callE, h_callvE, h_dvE, h_remE, if_true, if_false, z_upS, z_upO, z_upK, nI_add, z_mul, z_sub, z_div, Nat.add_zero, Nat.mul_zero, Nat.zero_add, Nat.sub_zero, Nat.zero_mul, z_ltT, z_ltF, z_leT, z_leF, z_eqT, z_eqF, z_inT, z_clT, not_true_eq_false, not_false_eq_true, eq_self, true_or, or_true, z_m_lt, z_m_le, z_lt_m, z_le_m, z_eq_m, z_m_eq, z_rz0, z_rz1, z_m_add, z_of, ↓z_m1, l_0, l_1, l_2, l_3, l_4, l_5, l_6, l_7, l_8, l_9, l_10, l_11, l_12, l_13, l_14, l_15, l_16, l_17, l_18, l_19, l_20, l_21, l_22, l_23, l_24, l_25, l_26, l_27, l_28, l_29, l_30, l_31, l_32, l_33, l_34, l_35, l_36, l_37, l_38, l_39, l_40, l_41, l_42, l_43, l_44, l_45, l_46, l_47, l_48, l_49, l_50, l_51, l_52, l_53, l_54, l_55, l_56, l_57, l_59, l_60, l_61, l_62, l_63, l_64, l_65, l_80, l_86, l_87, l_88, l_89, l_90, l_91, l_92, l_93, l_94, l_95, l_97, l_99, l_100, l_107, l_119, l_122, l_124, l_129, l_140, l_141, l_142, l_143, l_144, l_145, l_147, l_150, l_159, l_160, l_161, l_162, l_205, l_253, l_255, l_256, l_269, l_305, l_380, l_399, l_400, l_420, l_430, l_516, l_600, l_720, l_820, l_905, l_921, l_937, l_953, l_970, l_999, l_1000, l_1790, l_4096, l_9999, l_1000000]
    · have e : z_rd (z_bt V mu me) (fun i => s.testBit i) B (i+1) = if s.testBit i = true ∨ (z_rd (z_bt V mu me) (fun i => s.testBit i) B i).1 i ≠ 0 then z_rd (z_bt V mu me) (fun i => s.testBit i) B i else (z_upB (z_rd (z_bt V mu me) (fun i => s.testBit i) B i).1 i (z_pick (z_bt V mu me) (z_rd (z_bt V mu me) (fun i => s.testBit i) B i).1 i), (z_rd (z_bt V mu me) (fun i => s.testBit i) B i).2 || decide (z_pick (z_bt V mu me) (z_rd (z_bt V mu me) (fun i => s.testBit i) B i).1 i ≠ 0)) := rfl
      have hle := z_rd_le hBO (out := fun i => s.testBit i) hB i
      have ih := ih (i+1)
      rw [e] at ih
      generalize z_rd (z_bt V mu me) (fun i => s.testBit i) B i = P at *
      obtain ⟨C, ch⟩ := P
      have hle : ∀ j, C j ≤ 5 := hle
      have hT : x_TN u Fz p b L pl pa mu me d (z_VB V C) := hT
      have ebi : z_VB V C (8+i) = z_vw (C i) := z_VBi (by omega)
      have eL : z_bit (z_VB V C 7) i = nI (if s.testBit i = true then 1 else 0) := by rw [z_VBo (by omega), h7, z_bitE (by omega) (by omega)]
      have hlt : i < mu := by omega
      have hV := hT.V
      obtain ⟨⟨⟨a1, a2, a3, a4, a5, a6⟩, ⟨k1, k2, k3, k4, k5, k6⟩, ⟨r1, r2, r3, r4, r5, r6, r7, r8⟩⟩, ⟨t0, t1, t2, t3, t4, t5, t6, t7, t8, t9, ta⟩, tm, tk⟩ := hV
      have tm2 := (tm i hlt).2.2.1
      have tm3 := (tm i hlt).2.2.2.1
      rw [eL] at tm2
      rw [ebi] at tm3
      by_cases ho : s.testBit i = true
      · rw [if_pos (Or.inl ho)] at ih
        rw [if_pos ho] at tm2
        obtain ⟨u', g1, g2, g3⟩ := ih u (by omega) (by omega) hT
        refine ⟨u', g1, g2, ?_⟩
        rw [← g3]
        simp (disch := first | omega | ((try simp (disch := omega) only [k1, k2, k5, r1, r7, t7, tm2, xs_k_ui, xs_k_ur, xs_k_uc, xs_k_un, xs_k_ub, xs_r_ui, xs_r_ur, xs_r_uc, xs_r_un, xs_r_ub, xs_t_ui, xs_t_ur, xs_t_uc, xs_t_un, xs_t_ub, xs_n_ui, xs_n_ur, xs_n_uc, xs_n_un, xs_n_ub, xs_m_ui, xs_m_ur, xs_m_uc, xs_m_un, xs_m_ub, xs_c_ui, xs_c_ur, xs_c_uc, xs_c_un, xs_c_ub, x_up_s, x_up_k, x_up_o, x_fU_s, x_fU_o]) <;> first | rfl | omega | (refine (?_ : (_ : Bool) = true); with_unfolding_all rfl)) | fail) only [k1, k2, k5, r1, r7, t7, tm2, ↓p_xgi, ↓p_xgr, ↓p_xpi, ↓p_xpr, ↓p_xo, ↓p_xld, ↓p_xlb, ↓p_xlr, ↓p_xst, ↓p_xsb, ↓p_xsr, ↓p_xlen, ↓p_xnew, ↓p_xnwa, ↓p_xcln, ↓p_xcst, ↓p_xcall, ↓p_xcalc, ↓p_xnm, ↓p_xdv, ↓p_xrem, h_xgiE, h_xgrE, h_xpiE, h_xprE, h_xoE, h_xldE, h_xlbE, h_xlrE, h_xstE, h_xsbE, h_xsrE, h_xlenE, h_xnewE, h_xnwaE, h_xclnE, h_xcstE, h_xcallE, h_xcalcE, h_xnmE, h_xdvE, h_xremE, xs_k_ui, xs_k_ur, xs_k_uc, xs_k_un, xs_k_ub, xs_r_ui, xs_r_ur, xs_r_uc, xs_r_un, xs_r_ub, xs_t_ui, xs_t_ur, xs_t_uc, xs_t_un, xs_t_ub, xs_n_ui, xs_n_ur, xs_n_uc, xs_n_un, xs_n_ub, xs_m_ui, xs_m_ur, xs_m_uc, xs_m_un, xs_m_ub, xs_c_ui, xs_c_ur, xs_c_uc, xs_c_un, xs_c_ub, x_up_s, x_up_k, x_up_o, x_fU_s, x_fU_o, ↓reduceIte, h_ldE, h_stE, h_nmE, h_nSE, h_callE, h_callvE, h_dvE, h_remE, if_true, if_false, z_upS, z_upO, z_upK, nI_add, z_mul, z_sub, z_div, Nat.add_zero, Nat.mul_zero, Nat.zero_add, Nat.sub_zero, Nat.zero_mul, z_ltT, z_ltF, z_leT, z_leF, z_eqT, z_eqF, z_inT, z_clT, not_true_eq_false, not_false_eq_true, eq_self, true_or, or_true, z_m_lt, z_m_le, z_lt_m, z_le_m, z_eq_m, z_m_eq, z_rz0, z_rz1, z_m_add, z_of, ↓z_m1, l_0, l_1, l_2, l_3, l_4, l_5, l_6, l_7, l_8, l_9, l_10, l_11, l_12, l_13, l_14, l_15, l_16, l_17, l_18, l_19, l_20, l_21, l_22, l_23, l_24, l_25, l_26, l_27, l_28, l_29, l_30, l_31, l_32, l_33, l_34, l_35, l_36, l_37, l_38, l_39, l_40, l_41, l_42, l_43, l_44, l_45, l_46, l_47, l_48, l_49, l_50, l_51, l_52, l_53, l_54, l_55, l_56, l_57, l_59, l_60, l_61, l_62, l_63, l_64, l_65, l_80, l_86, l_87, l_88, l_89, l_90, l_91, l_92, l_93, l_94, l_95, l_97, l_99, l_100, l_107, l_119, l_122, l_124, l_129, l_140, l_141, l_142, l_143, l_144, l_145, l_147, l_150, l_159, l_160, l_161, l_162, l_205, l_253, l_255, l_256, l_269, l_305, l_380, l_399, l_400, l_420, l_430, l_516, l_600, l_720, l_820, l_905, l_921, l_937, l_953, l_970, l_999, l_1000, l_1790, l_4096, l_9999, l_1000000]
      · rw [if_neg ho] at tm2
        by_cases hc : C i = 0
        · rw [if_neg (by rintro (q | q); exact ho q; exact q hc)] at ih
          have e0 : z_vw 0 = z_m := rfl
          rw [hc, e0] at tm3
          have hl9 : ∀ k, z_lean V i k (z_lk V i k) (z_hn (z_bt V mu me) C i k) ≤ 999 := fun k => z_cl_le _ _
          have hbl := fun K2 : Int32 → x_U → Option (Int32 × x_U) => F_best_L (n := n) (x1 := z_m) (x2 := nI (if ch = true then 1 else 0)) (K := K2) (lean := fun k => z_lean V i k (z_lk V i k) (z_hn (z_bt V mu me) C i k)) hT hlt (fun k hk => F_leanB (by omega) hR hE hle hT hlt hk) hl9 n 0 (by omega) (by omega)
          have epk : z_pick (z_bt V mu me) C i = if (z_bm (fun k => z_lean V i k (z_lk V i k) (z_hn (z_bt V mu me) C i k)) me).1 = 0 ∨ (z_bm (fun k => z_lean V i k (z_lk V i k) (z_hn (z_bt V mu me) C i k)) me).2 < z_need V i then 0 else (z_bm (fun k => z_lean V i k (z_lk V i k) (z_hn (z_bt V mu me) C i k)) me).1 := rfl
          obtain ⟨eb1, eb2⟩ := y_bd_bm (fun k => z_lean V i k (z_lk V i k) (z_hn (z_bt V mu me) C i k)) me
          have hble := (z_bm_le (lean := fun k => z_lean V i k (z_lk V i k) (z_hn (z_bt V mu me) C i k)) (M := 999) hl9 me).1
          have hlk := fun k (hk : k < me) => F_leanB (n := n) (m := i) (k := k) (by omega) hR hE hle hT hlt hk
          have hnd := F_need (n := n) (m := i) hT.V hT.2.2.2.2.1 hlt
          rw [y_need_VB, ← hE.2.1 i hlt] at hnd
          have hn9 : z_need V i ≤ 999 := z_cl_le _ _
          rw [epk] at ih
          generalize hP : z_bm (fun k => z_lean V i k (z_lk V i k) (z_hn (z_bt V mu me) C i k)) me = P at *
          obtain ⟨a, bb⟩ := P
          have hble : a ≤ me := hble
          have eb1 : y_bd (fun k => z_lean V i k (z_lk V i k) (z_hn (z_bt V mu me) C i k)) me me = a := eb1
          rw [eb1] at hbl eb2
          have hbl2 : ∀ K2 : Int32 → x_U → Option (Int32 × x_U), F_X12_stand_L90 n p z_m (nI (if ch = true then 1 else 0)) (nI i) K2 n z_m (z_vw me) u = K2 (z_vw a) u := hbl
          have hcup : z_upB C i 0 = C := z_upB0 hc
          have hf0 : (if false = true then 1 else 0) = 0 := rfl
          have hf1 : (if true = true then 1 else 0) = 1 := rfl
          have edc : (ch || decide (0 ≠ 0)) = ch := by cases ch <;> rfl
          cases a with
          | zero =>
            rw [if_pos (Or.inl rfl), hcup, edc] at ih
            obtain ⟨u', g1, g2, g3⟩ := ih u (by omega) (by omega) hT
            refine ⟨u', g1, g2, ?_⟩
            rw [← g3]
            simp (disch := first | omega | ((try simp (disch := omega) only [k1, k2, k5, r1, r7, t7, t8, tm2, tm3, y_pred, hbl2, e0, xs_k_ui, xs_k_ur, xs_k_uc, xs_k_un, xs_k_ub, xs_r_ui, xs_r_ur, xs_r_uc, xs_r_un, xs_r_ub, xs_t_ui, xs_t_ur, xs_t_uc, xs_t_un, xs_t_ub, xs_n_ui, xs_n_ur, xs_n_uc, xs_n_un, xs_n_ub, xs_m_ui, xs_m_ur, xs_m_uc, xs_m_un, xs_m_ub, xs_c_ui, xs_c_ur, xs_c_uc, xs_c_un, xs_c_ub, x_up_s, x_up_k, x_up_o, x_fU_s, x_fU_o]) <;> first | rfl | omega | (refine (?_ : (_ : Bool) = true); with_unfolding_all rfl)) | fail) only [k1, k2, k5, r1, r7, t7, t8, tm2, tm3, y_pred, hbl2, e0, ↓p_xgi, ↓p_xgr, ↓p_xpi, ↓p_xpr, ↓p_xo, ↓p_xld, ↓p_xlb, ↓p_xlr, ↓p_xst, ↓p_xsb, ↓p_xsr, ↓p_xlen, ↓p_xnew, ↓p_xnwa, ↓p_xcln, ↓p_xcst, ↓p_xcall, ↓p_xcalc, ↓p_xnm, ↓p_xdv, ↓p_xrem, h_xgiE, h_xgrE, h_xpiE, h_xprE, h_xoE, h_xldE, h_xlbE, h_xlrE, h_xstE, h_xsbE, h_xsrE, h_xlenE, h_xnewE, h_xnwaE, h_xclnE, h_xcstE, h_xcallE, h_xcalcE, h_xnmE, h_xdvE, h_xremE, xs_k_ui, xs_k_ur, xs_k_uc, xs_k_un, xs_k_ub, xs_r_ui, xs_r_ur, xs_r_uc, xs_r_un, xs_r_ub, xs_t_ui, xs_t_ur, xs_t_uc, xs_t_un, xs_t_ub, xs_n_ui, xs_n_ur, xs_n_uc, xs_n_un, xs_n_ub, xs_m_ui, xs_m_ur, xs_m_uc, xs_m_un, xs_m_ub, xs_c_ui, xs_c_ur, xs_c_uc, xs_c_un, xs_c_ub, x_up_s, x_up_k, x_up_o, x_fU_s, x_fU_o, ↓reduceIte, h_ldE, h_stE, h_nmE, h_nSE, h_callE, h_callvE, h_dvE, h_remE, if_true, if_false, z_upS, z_upO, z_upK, nI_add, z_mul, z_sub, z_div, Nat.add_zero, Nat.mul_zero, Nat.zero_add, Nat.sub_zero, Nat.zero_mul, z_ltT, z_ltF, z_leT, z_leF, z_eqT, z_eqF, z_inT, z_clT, not_true_eq_false, not_false_eq_true, eq_self, true_or, or_true, z_m_lt, z_m_le, z_lt_m, z_le_m, z_eq_m, z_m_eq, z_rz0, z_rz1, z_m_add, z_of, ↓z_m1, l_0, l_1, l_2, l_3, l_4, l_5, l_6, l_7, l_8, l_9, l_10, l_11, l_12, l_13, l_14, l_15, l_16, l_17, l_18, l_19, l_20, l_21, l_22, l_23, l_24, l_25, l_26, l_27, l_28, l_29, l_30, l_31, l_32, l_33, l_34, l_35, l_36, l_37, l_38, l_39, l_40, l_41, l_42, l_43, l_44, l_45, l_46, l_47, l_48, l_49, l_50, l_51, l_52, l_53, l_54, l_55, l_56, l_57, l_59, l_60, l_61, l_62, l_63, l_64, l_65, l_80, l_86, l_87, l_88, l_89, l_90, l_91, l_92, l_93, l_94, l_95, l_97, l_99, l_100, l_107, l_119, l_122, l_124, l_129, l_140, l_141, l_142, l_143, l_144, l_145, l_147, l_150, l_159, l_160, l_161, l_162, l_205, l_253, l_255, l_256, l_269, l_305, l_380, l_399, l_400, l_420, l_430, l_516, l_600, l_720, l_820, l_905, l_921, l_937, l_953, l_970, l_999, l_1000, l_1790, l_4096, l_9999, l_1000000]
          | succ a =>
            have ha : a < me := hble
            have e1 : z_vw (a+1) = nI a := rfl
            have l1 := hlk a ha
            have eb2 : z_lean V i a (z_lk V i a) (z_hn (z_bt V mu me) C i a) = bb := eb2 (by omega)
            have h99 := hl9 a
            have ez : z_vw me = nI (me - 1) := by rw [← y_pred, z_sub (by omega)]
            rw [ez] at hbl2
            rw [eb2] at l1 h99
            by_cases q : bb < z_need V i
            · rw [if_pos (Or.inr q), hcup, edc] at ih
              obtain ⟨u', g1, g2, g3⟩ := ih u (by omega) (by omega) hT
              refine ⟨u', g1, g2, ?_⟩
              rw [← g3]
              simp (disch := first | omega | ((try simp (disch := omega) only [k1, k2, k5, r1, r7, t7, t8, tm2, tm3, y_pred, hbl2, e1, l1, hnd, xs_k_ui, xs_k_ur, xs_k_uc, xs_k_un, xs_k_ub, xs_r_ui, xs_r_ur, xs_r_uc, xs_r_un, xs_r_ub, xs_t_ui, xs_t_ur, xs_t_uc, xs_t_un, xs_t_ub, xs_n_ui, xs_n_ur, xs_n_uc, xs_n_un, xs_n_ub, xs_m_ui, xs_m_ur, xs_m_uc, xs_m_un, xs_m_ub, xs_c_ui, xs_c_ur, xs_c_uc, xs_c_un, xs_c_ub, x_up_s, x_up_k, x_up_o, x_fU_s, x_fU_o]) <;> first | rfl | omega | (refine (?_ : (_ : Bool) = true); with_unfolding_all rfl)) | fail) only [k1, k2, k5, r1, r7, t7, t8, tm2, tm3, y_pred, hbl2, e1, l1, hnd, ↓p_xgi, ↓p_xgr, ↓p_xpi, ↓p_xpr, ↓p_xo, ↓p_xld, ↓p_xlb, ↓p_xlr, ↓p_xst, ↓p_xsb, ↓p_xsr, ↓p_xlen, ↓p_xnew, ↓p_xnwa, ↓p_xcln, ↓p_xcst, ↓p_xcall, ↓p_xcalc, ↓p_xnm, ↓p_xdv, ↓p_xrem, h_xgiE, h_xgrE, h_xpiE, h_xprE, h_xoE, h_xldE, h_xlbE, h_xlrE, h_xstE, h_xsbE, h_xsrE, h_xlenE, h_xnewE, h_xnwaE, h_xclnE, h_xcstE, h_xcallE, h_xcalcE, h_xnmE, h_xdvE, h_xremE, xs_k_ui, xs_k_ur, xs_k_uc, xs_k_un, xs_k_ub, xs_r_ui, xs_r_ur, xs_r_uc, xs_r_un, xs_r_ub, xs_t_ui, xs_t_ur, xs_t_uc, xs_t_un, xs_t_ub, xs_n_ui, xs_n_ur, xs_n_uc, xs_n_un, xs_n_ub, xs_m_ui, xs_m_ur, xs_m_uc, xs_m_un, xs_m_ub, xs_c_ui, xs_c_ur, xs_c_uc, xs_c_un, xs_c_ub, x_up_s, x_up_k, x_up_o, x_fU_s, x_fU_o, ↓reduceIte, h_ldE, h_stE, h_nmE, h_nSE, h_callE, h_callvE, h_dvE, h_remE, if_true, if_false, z_upS, z_upO, z_upK, nI_add, z_mul, z_sub, z_div, Nat.add_zero, Nat.mul_zero, Nat.zero_add, Nat.sub_zero, Nat.zero_mul, z_ltT, z_ltF, z_leT, z_leF, z_eqT, z_eqF, z_inT, z_clT, not_true_eq_false, not_false_eq_true, eq_self, true_or, or_true, z_m_lt, z_m_le, z_lt_m, z_le_m, z_eq_m, z_m_eq, z_rz0, z_rz1, z_m_add, z_of, ↓z_m1, l_0, l_1, l_2, l_3, l_4, l_5, l_6, l_7, l_8, l_9, l_10, l_11, l_12, l_13, l_14, l_15, l_16, l_17, l_18, l_19, l_20, l_21, l_22, l_23, l_24, l_25, l_26, l_27, l_28, l_29, l_30, l_31, l_32, l_33, l_34, l_35, l_36, l_37, l_38, l_39, l_40, l_41, l_42, l_43, l_44, l_45, l_46, l_47, l_48, l_49, l_50, l_51, l_52, l_53, l_54, l_55, l_56, l_57, l_59, l_60, l_61, l_62, l_63, l_64, l_65, l_80, l_86, l_87, l_88, l_89, l_90, l_91, l_92, l_93, l_94, l_95, l_97, l_99, l_100, l_107, l_119, l_122, l_124, l_129, l_140, l_141, l_142, l_143, l_144, l_145, l_147, l_150, l_159, l_160, l_161, l_162, l_205, l_253, l_255, l_256, l_269, l_305, l_380, l_399, l_400, l_420, l_430, l_516, l_600, l_720, l_820, l_905, l_921, l_937, l_953, l_970, l_999, l_1000, l_1790, l_4096, l_9999, l_1000000]
            · have epi : (if a + 1 = 0 ∨ bb < z_need V i then 0 else a + 1) = a + 1 := if_neg (by omega)
              have edd : (ch || decide (a + 1 ≠ 0)) = true := by cases ch <;> simp
              rw [epi, edd] at ih
              have hT2 := hT.bh (v := a + 1) hlt
              obtain ⟨u', g1, g2, g3⟩ := ih (x_ui u (b+i) 3 (z_vw (a+1))) (by omega) (by omega) hT2
              refine ⟨u', (x_sp.ui (dn := 0) (dm := 0) (by unfold x_own; omega)).tr g1 (by omega) (by omega), g2, ?_⟩
              rw [← g3]
              simp (disch := first | omega | ((try simp (disch := omega) only [k1, k2, k5, r1, r7, t7, t8, tm2, tm3, y_pred, hbl2, e1, l1, hnd, hf1, xs_k_ui, xs_k_ur, xs_k_uc, xs_k_un, xs_k_ub, xs_r_ui, xs_r_ur, xs_r_uc, xs_r_un, xs_r_ub, xs_t_ui, xs_t_ur, xs_t_uc, xs_t_un, xs_t_ub, xs_n_ui, xs_n_ur, xs_n_uc, xs_n_un, xs_n_ub, xs_m_ui, xs_m_ur, xs_m_uc, xs_m_un, xs_m_ub, xs_c_ui, xs_c_ur, xs_c_uc, xs_c_un, xs_c_ub, x_up_s, x_up_k, x_up_o, x_fU_s, x_fU_o]) <;> first | rfl | omega | (refine (?_ : (_ : Bool) = true); with_unfolding_all rfl)) | fail) only [k1, k2, k5, r1, r7, t7, t8, tm2, tm3, y_pred, hbl2, e1, l1, hnd, hf1, ↓p_xgi, ↓p_xgr, ↓p_xpi, ↓p_xpr, ↓p_xo, ↓p_xld, ↓p_xlb, ↓p_xlr, ↓p_xst, ↓p_xsb, ↓p_xsr, ↓p_xlen, ↓p_xnew, ↓p_xnwa, ↓p_xcln, ↓p_xcst, ↓p_xcall, ↓p_xcalc, ↓p_xnm, ↓p_xdv, ↓p_xrem, h_xgiE, h_xgrE, h_xpiE, h_xprE, h_xoE, h_xldE, h_xlbE, h_xlrE, h_xstE, h_xsbE, h_xsrE, h_xlenE, h_xnewE, h_xnwaE, h_xclnE, h_xcstE, h_xcallE, h_xcalcE, h_xnmE, h_xdvE, h_xremE, xs_k_ui, xs_k_ur, xs_k_uc, xs_k_un, xs_k_ub, xs_r_ui, xs_r_ur, xs_r_uc, xs_r_un, xs_r_ub, xs_t_ui, xs_t_ur, xs_t_uc, xs_t_un, xs_t_ub, xs_n_ui, xs_n_ur, xs_n_uc, xs_n_un, xs_n_ub, xs_m_ui, xs_m_ur, xs_m_uc, xs_m_un, xs_m_ub, xs_c_ui, xs_c_ur, xs_c_uc, xs_c_un, xs_c_ub, x_up_s, x_up_k, x_up_o, x_fU_s, x_fU_o, ↓reduceIte, h_ldE, h_stE, h_nmE, h_nSE, h_callE, h_callvE, h_dvE, h_remE, if_true, if_false, z_upS, z_upO, z_upK, nI_add, z_mul, z_sub, z_div, Nat.add_zero, Nat.mul_zero, Nat.zero_add, Nat.sub_zero, Nat.zero_mul, z_ltT, z_ltF, z_leT, z_leF, z_eqT, z_eqF, z_inT, z_clT, not_true_eq_false, not_false_eq_true, eq_self, true_or, or_true, z_m_lt, z_m_le, z_lt_m, z_le_m, z_eq_m, z_m_eq, z_rz0, z_rz1, z_m_add, z_of, ↓z_m1, l_0, l_1, l_2, l_3, l_4, l_5, l_6, l_7, l_8, l_9, l_10, l_11, l_12, l_13, l_14, l_15, l_16, l_17, l_18, l_19, l_20, l_21, l_22, l_23, l_24, l_25, l_26, l_27, l_28, l_29, l_30, l_31, l_32, l_33, l_34, l_35, l_36, l_37, l_38, l_39, l_40, l_41, l_42, l_43, l_44, l_45, l_46, l_47, l_48, l_49, l_50, l_51, l_52, l_53, l_54, l_55, l_56, l_57, l_59, l_60, l_61, l_62, l_63, l_64, l_65, l_80, l_86, l_87, l_88, l_89, l_90, l_91, l_92, l_93, l_94, l_95, l_97, l_99, l_100, l_107, l_119, l_122, l_124, l_129, l_140, l_141, l_142, l_143, l_144, l_145, l_147, l_150, l_159, l_160, l_161, l_162, l_205, l_253, l_255, l_256, l_269, l_305, l_380, l_399, l_400, l_420, l_430, l_516, l_600, l_720, l_820, l_905, l_921, l_937, l_953, l_970, l_999, l_1000, l_1790, l_4096, l_9999, l_1000000]
        · rw [if_pos (Or.inr hc)] at ih
          obtain ⟨u', g1, g2, g3⟩ := ih u (by omega) (by omega) hT
          refine ⟨u', g1, g2, ?_⟩
          rw [← g3]
          have hc5 := hle i
          generalize C i = w at *
          cases w with
          | zero => exact absurd rfl hc
          | succ w =>
            have e0 : z_vw (w+1) = nI w := rfl
            rw [e0] at tm3
            simp (disch := first | omega | ((try simp (disch := omega) only [k1, k2, k5, r1, r7, t7, tm2, tm3, xs_k_ui, xs_k_ur, xs_k_uc, xs_k_un, xs_k_ub, xs_r_ui, xs_r_ur, xs_r_uc, xs_r_un, xs_r_ub, xs_t_ui, xs_t_ur, xs_t_uc, xs_t_un, xs_t_ub, xs_n_ui, xs_n_ur, xs_n_uc, xs_n_un, xs_n_ub, xs_m_ui, xs_m_ur, xs_m_uc, xs_m_un, xs_m_ub, xs_c_ui, xs_c_ur, xs_c_uc, xs_c_un, xs_c_ub, x_up_s, x_up_k, x_up_o, x_fU_s, x_fU_o]) <;> first | rfl | omega | (refine (?_ : (_ : Bool) = true); with_unfolding_all rfl)) | fail) only [k1, k2, k5, r1, r7, t7, tm2, tm3, ↓p_xgi, ↓p_xgr, ↓p_xpi, ↓p_xpr, ↓p_xo, ↓p_xld, ↓p_xlb, ↓p_xlr, ↓p_xst, ↓p_xsb, ↓p_xsr, ↓p_xlen, ↓p_xnew, ↓p_xnwa, ↓p_xcln, ↓p_xcst, ↓p_xcall, ↓p_xcalc, ↓p_xnm, ↓p_xdv, ↓p_xrem, h_xgiE, h_xgrE, h_xpiE, h_xprE, h_xoE, h_xldE, h_xlbE, h_xlrE, h_xstE, h_xsbE, h_xsrE, h_xlenE, h_xnewE, h_xnwaE, h_xclnE, h_xcstE, h_xcallE, h_xcalcE, h_xnmE, h_xdvE, h_xremE, xs_k_ui, xs_k_ur, xs_k_uc, xs_k_un, xs_k_ub, xs_r_ui, xs_r_ur, xs_r_uc, xs_r_un, xs_r_ub, xs_t_ui, xs_t_ur, xs_t_uc, xs_t_un, xs_t_ub, xs_n_ui, xs_n_ur, xs_n_uc, xs_n_un, xs_n_ub, xs_m_ui, xs_m_ur, xs_m_uc, xs_m_un, xs_m_ub, xs_c_ui, xs_c_ur, xs_c_uc, xs_c_un, xs_c_ub, x_up_s, x_up_k, x_up_o, x_fU_s, x_fU_o, ↓reduceIte, h_ldE, h_stE, h_nmE, h_nSE, h_callE, h_callvE, h_dvE, h_remE, if_true, if_false, z_upS, z_upO, z_upK, nI_add, z_mul, z_sub, z_div, Nat.add_zero, Nat.mul_zero, Nat.zero_add, Nat.sub_zero, Nat.zero_mul, z_ltT, z_ltF, z_leT, z_leF, z_eqT, z_eqF, z_inT, z_clT, not_true_eq_false, not_false_eq_true, eq_self, true_or, or_true, z_m_lt, z_m_le, z_lt_m, z_le_m, z_eq_m, z_m_eq, z_rz0, z_rz1, z_m_add, z_of, ↓z_m1, l_0, l_1, l_2, l_3, l_4, l_5, l_6, l_7, l_8, l_9, l_10, l_11, l_12, l_13, l_14, l_15, l_16, l_17, l_18, l_19, l_20, l_21, l_22, l_23, l_24, l_25, l_26, l_27, l_28, l_29, l_30, l_31, l_32, l_33, l_34, l_35, l_36, l_37, l_38, l_39, l_40, l_41, l_42, l_43, l_44, l_45, l_46, l_47, l_48, l_49, l_50, l_51, l_52, l_53, l_54, l_55, l_56, l_57, l_59, l_60, l_61, l_62, l_63, l_64, l_65, l_80, l_86, l_87, l_88, l_89, l_90, l_91, l_92, l_93, l_94, l_95, l_97, l_99, l_100, l_107, l_119, l_122, l_124, l_129, l_140, l_141, l_142, l_143, l_144, l_145, l_147, l_150, l_159, l_160, l_161, l_162, l_205, l_253, l_255, l_256, l_269, l_305, l_380, l_399, l_400, l_420, l_430, l_516, l_600, l_720, l_820, l_905, l_921, l_937, l_953, l_970, l_999, l_1000, l_1790, l_4096, l_9999, l_1000000]
end ST
