/-! the law's train is held against the class -/
theorem x_uc2 {u : x_U} {a b : q_Sto} : x_uc (x_uc u a) b = x_uc u b := rfl
theorem x_ucS {u : x_U} : x_uc u (x_c u) = u := rfl
theorem x_TV.uc {u : x_U} {σ : q_Sto} {p b L pl pa mu me : Nat} {V : Nat → Int32} (h : x_TV u p b L pl pa mu me V) : x_TV (x_uc u σ) p b L pl pa mu me V := h
theorem x_LR.uc {u : x_U} {σ : q_Sto} {L : Nat} {d : Nat → Nat} (h : x_LR u L d) : x_LR (x_uc u σ) L d := h
theorem x_TN.uc {u : x_U} {σ : q_Sto} {Fz : Nat → Prop} {p b L pl pa mu me : Nat} {d : Nat → Nat} {V : Nat → Int32} (h : x_TN u Fz p b L pl pa mu me d V) : x_TN (x_uc u σ) Fz p b L pl pa mu me d V := h
section SA
variable {mu me wn : Nat} {V : Nat → Int32} {hs : z_Hs} {p b L pl pa : Nat} {d : Nat → Nat} {u : x_U}
theorem F_s12 {n m : Nat} (hn : n = q_F) (hT : x_TV u p b L pl pa mu me V) (hm : m < mu) {σ : q_Sto} (h : z_CS mu me σ V hs wn) (K : x_U → Option (Int32 × x_U)) : ∀ j i, i ≤ 5 → 5 < j + i → F_X12_isSame_L12 n p (nI m) K j (nI i) (x_uc u σ) = K (x_uc u σ) := by
  obtain ⟨⟨⟨a1, a2, a3, a4, a5, a6⟩, ⟨k1, k2, k3, k4, k5, k6⟩, ⟨r1, r2, r3, r4, r5, r6, r7, r8⟩⟩, ⟨t0, t1, t2, t3, t4, t5, t6, t7, t8, t9, ta⟩, tm, tk⟩ := hT
  intro j
  induction j with
  | zero => intro i h1 h2; omega
  | succ j ih =>
    intro i h1 h2
    by_cases hi : i = 5
    · subst hi
      rw [F_X12_isSame_L12]
      simp (disch := first | omega | ((try simp (disch := omega) only [xs_k_ui, xs_k_ur, xs_k_uc, xs_k_un, xs_k_ub, xs_r_ui, xs_r_ur, xs_r_uc, xs_r_un, xs_r_ub, xs_t_ui, xs_t_ur, xs_t_uc, xs_t_un, xs_t_ub, xs_n_ui, xs_n_ur, xs_n_uc, xs_n_un, xs_n_ub, xs_m_ui, xs_m_ur, xs_m_uc, xs_m_un, xs_m_ub, xs_c_ui, xs_c_ur, xs_c_uc, xs_c_un, xs_c_ub, x_up_s, x_up_k, x_up_o, x_fU_s, x_fU_o]) <;> first | rfl | omega | (refine (?_ : (_ : Bool) = true); with_unfolding_all rfl)) | fail) only [↓p_xgi, ↓p_xgr, ↓p_xpi, ↓p_xpr, ↓p_xo, ↓p_xld, ↓p_xlb, ↓p_xlr, ↓p_xst, ↓p_xsb, ↓p_xsr, ↓p_xlen, ↓p_xnew, ↓p_xnwa, ↓p_xcln, ↓p_xcst, ↓p_xcall, ↓p_xcalc, ↓p_xnm, ↓p_xdv, ↓p_xrem, h_xgiE, h_xgrE, h_xpiE, h_xprE, h_xoE, h_xldE, h_xlbE, h_xlrE, h_xstE, h_xsbE, h_xsrE, h_xlenE, h_xnewE, h_xnwaE, h_xclnE, h_xcstE, h_xcallE, h_xcalcE, h_xnmE, h_xdvE, h_xremE, xs_k_ui, xs_k_ur, xs_k_uc, xs_k_un, xs_k_ub, xs_r_ui, xs_r_ur, xs_r_uc, xs_r_un, xs_r_ub, xs_t_ui, xs_t_ur, xs_t_uc, xs_t_un, xs_t_ub, xs_n_ui, xs_n_ur, xs_n_uc, xs_n_un, xs_n_ub, xs_m_ui, xs_m_ur, xs_m_uc, xs_m_un, xs_m_ub, xs_c_ui, xs_c_ur, xs_c_uc, xs_c_un, xs_c_ub, x_up_s, x_up_k, x_up_o, x_fU_s, x_fU_o, ↓reduceIte, h_ldE, h_stE, h_nmE, h_nSE, h_callE, h_callvE, h_dvE, h_remE, if_true, if_false, z_upS, z_upO, z_upK, nI_add, z_mul, z_sub, z_div, Nat.add_zero, Nat.mul_zero, Nat.zero_add, Nat.sub_zero, Nat.zero_mul, z_ltT, z_ltF, z_leT, z_leF, z_eqT, z_eqF, z_inT, z_clT, not_true_eq_false, not_false_eq_true, eq_self, true_or, or_true, z_m_lt, z_m_le, z_lt_m, z_le_m, z_eq_m, z_m_eq, z_rz0, z_rz1, z_m_add, z_of, ↓z_m1, l_0, l_1, l_2, l_3, l_4, l_5, l_6, l_7, l_8, l_9, l_10, l_11, l_12, l_13, l_14, l_15, l_16, l_17, l_18, l_19, l_20, l_21, l_22, l_23, l_24, l_25, l_26, l_27, l_28, l_29, l_30, l_31, l_32, l_33, l_34, l_35, l_36, l_37, l_38, l_39, l_40, l_41, l_42, l_43, l_44, l_45, l_46, l_47, l_48, l_49, l_50, l_51, l_52, l_53, l_54, l_55, l_56, l_57, l_59, l_60, l_61, l_62, l_63, l_64, l_65, l_80, l_86, l_87, l_88, l_89, l_90, l_91, l_92, l_93, l_94, l_95, l_97, l_99, l_100, l_107, l_119, l_122, l_124, l_129, l_140, l_141, l_142, l_143, l_144, l_145, l_147, l_150, l_159, l_160, l_161, l_162, l_205, l_253, l_255, l_256, l_269, l_305, l_380, l_399, l_400, l_420, l_430, l_516, l_600, l_720, l_820, l_905, l_921, l_937, l_953, l_970, l_999, l_1000, l_1790, l_4096, l_9999, l_1000000]
    · have e := c_of4 h hm (show i < 5 by omega)
      rw [← hn] at e
      obtain ⟨m0, m1, m2, m3, m4, m5⟩ := tm m hm
      have ev : x_t u (b+m) i = (if i = 0 then V (95+m) else if i = 1 then V (107+m) else if i = 2 then z_bit (V 7) m else if i = 3 then V (8+m) else V (129+m)) := by
        have : i = 0 ∨ i = 1 ∨ i = 2 ∨ i = 3 ∨ i = 4 := by omega
        rcases this with rfl | rfl | rfl | rfl | rfl <;> assumption
      generalize (if i = 0 then V (95+m) else if i = 1 then V (107+m) else if i = 2 then z_bit (V 7) m else if i = 3 then V (8+m) else V (129+m)) = y at e ev
      have k5m := k5 m hm
      have r7m := r7 m hm
      rw [← ih (i+1) (by omega) (by omega), F_X12_isSame_L12]
      simp (disch := first | omega | ((try simp (disch := omega) only [k1, k2, r1, k5m, r7m, e, ev, x_uc2, xs_k_ui, xs_k_ur, xs_k_uc, xs_k_un, xs_k_ub, xs_r_ui, xs_r_ur, xs_r_uc, xs_r_un, xs_r_ub, xs_t_ui, xs_t_ur, xs_t_uc, xs_t_un, xs_t_ub, xs_n_ui, xs_n_ur, xs_n_uc, xs_n_un, xs_n_ub, xs_m_ui, xs_m_ur, xs_m_uc, xs_m_un, xs_m_ub, xs_c_ui, xs_c_ur, xs_c_uc, xs_c_un, xs_c_ub, x_up_s, x_up_k, x_up_o, x_fU_s, x_fU_o]) <;> first | rfl | omega | (refine (?_ : (_ : Bool) = true); with_unfolding_all rfl)) | fail) only [k1, k2, r1, k5m, r7m, e, ev, x_uc2, ↓p_xgi, ↓p_xgr, ↓p_xpi, ↓p_xpr, ↓p_xo, ↓p_xld, ↓p_xlb, ↓p_xlr, ↓p_xst, ↓p_xsb, ↓p_xsr, ↓p_xlen, ↓p_xnew, ↓p_xnwa, ↓p_xcln, ↓p_xcst, ↓p_xcall, ↓p_xcalc, ↓p_xnm, ↓p_xdv, ↓p_xrem, h_xgiE, h_xgrE, h_xpiE, h_xprE, h_xoE, h_xldE, h_xlbE, h_xlrE, h_xstE, h_xsbE, h_xsrE, h_xlenE, h_xnewE, h_xnwaE, h_xclnE, h_xcstE, h_xcallE, h_xcalcE, h_xnmE, h_xdvE, h_xremE, xs_k_ui, xs_k_ur, xs_k_uc, xs_k_un, xs_k_ub, xs_r_ui, xs_r_ur, xs_r_uc, xs_r_un, xs_r_ub, xs_t_ui, xs_t_ur, xs_t_uc, xs_t_un, xs_t_ub, xs_n_ui, xs_n_ur, xs_n_uc, xs_n_un, xs_n_ub, xs_m_ui, xs_m_ur, xs_m_uc, xs_m_un, xs_m_ub, xs_c_ui, xs_c_ur, xs_c_uc, xs_c_un, xs_c_ub, x_up_s, x_up_k, x_up_o, x_fU_s, x_fU_o, ↓reduceIte, h_ldE, h_stE, h_nmE, h_nSE, h_callE, h_callvE, h_dvE, h_remE, if_true, if_false, z_upS, z_upO, z_upK, nI_add, z_mul, z_sub, z_div, Nat.add_zero, Nat.mul_zero, Nat.zero_add, Nat.sub_zero, Nat.zero_mul, z_ltT, z_ltF, z_leT, z_leF, z_eqT, z_eqF, z_inT, z_clT, not_true_eq_false, not_false_eq_true, eq_self, true_or, or_true, z_m_lt, z_m_le, z_lt_m, z_le_m, z_eq_m, z_m_eq, z_rz0, z_rz1, z_m_add, z_of, ↓z_m1, l_0, l_1, l_2, l_3, l_4, l_5, l_6, l_7, l_8, l_9, l_10, l_11, l_12, l_13, l_14, l_15, l_16, l_17, l_18, l_19, l_20, l_21, l_22, l_23, l_24, l_25, l_26, l_27, l_28, l_29, l_30, l_31, l_32, l_33, l_34, l_35, l_36, l_37, l_38, l_39, l_40, l_41, l_42, l_43, l_44, l_45, l_46, l_47, l_48, l_49, l_50, l_51, l_52, l_53, l_54, l_55, l_56, l_57, l_59, l_60, l_61, l_62, l_63, l_64, l_65, l_80, l_86, l_87, l_88, l_89, l_90, l_91, l_92, l_93, l_94, l_95, l_97, l_99, l_100, l_107, l_119, l_122, l_124, l_129, l_140, l_141, l_142, l_143, l_144, l_145, l_147, l_150, l_159, l_160, l_161, l_162, l_205, l_253, l_255, l_256, l_269, l_305, l_380, l_399, l_400, l_420, l_430, l_516, l_600, l_720, l_820, l_905, l_921, l_937, l_953, l_970, l_999, l_1000, l_1790, l_4096, l_9999, l_1000000]
theorem F_s101 {n m : Nat} (hn : n = q_F) (hT : x_TV u p b L pl pa mu me V) (hL : x_LR u L d) (hE : y_EQ L d V mu me) (hm : m < mu) (K : x_U → Option (Int32 × x_U)) : ∀ j i σ, i ≤ me → me < j + i → z_CS mu me σ V hs wn → ∃ σ', z_CS mu me σ' V hs wn ∧ F_X12_isSame_L101 n p (nI m) K j (nI i) (x_uc u σ) = K (x_uc u σ') := by
  have hT0 := hT
  obtain ⟨⟨⟨a1, a2, a3, a4, a5, a6⟩, ⟨k1, k2, k3, k4, k5, k6⟩, ⟨r1, r2, r3, r4, r5, r6, r7, r8⟩⟩, ⟨t0, t1, t2, t3, t4, t5, t6, t7, t8, t9, ta⟩, tm, tk⟩ := hT
  intro j
  induction j with
  | zero => intro i σ h1 h2; omega
  | succ j ih =>
    intro i σ h1 h2 h
    by_cases hi : i = me
    · subst hi
      refine ⟨σ, h, ?_⟩
      rw [F_X12_isSame_L101]
      simp (disch := first | omega | ((try simp (disch := omega) only [k1, t8, xs_k_ui, xs_k_ur, xs_k_uc, xs_k_un, xs_k_ub, xs_r_ui, xs_r_ur, xs_r_uc, xs_r_un, xs_r_ub, xs_t_ui, xs_t_ur, xs_t_uc, xs_t_un, xs_t_ub, xs_n_ui, xs_n_ur, xs_n_uc, xs_n_un, xs_n_ub, xs_m_ui, xs_m_ur, xs_m_uc, xs_m_un, xs_m_ub, xs_c_ui, xs_c_ur, xs_c_uc, xs_c_un, xs_c_ub, x_up_s, x_up_k, x_up_o, x_fU_s, x_fU_o]) <;> first | rfl | omega | (refine (?_ : (_ : Bool) = true); with_unfolding_all rfl)) | fail) only [k1, t8, ↓p_xgi, ↓p_xgr, ↓p_xpi, ↓p_xpr, ↓p_xo, ↓p_xld, ↓p_xlb, ↓p_xlr, ↓p_xst, ↓p_xsb, ↓p_xsr, ↓p_xlen, ↓p_xnew, ↓p_xnwa, ↓p_xcln, ↓p_xcst, ↓p_xcall, ↓p_xcalc, ↓p_xnm, ↓p_xdv, ↓p_xrem, h_xgiE, h_xgrE, h_xpiE, h_xprE, h_xoE, h_xldE, h_xlbE, h_xlrE, h_xstE, h_xsbE, h_xsrE, h_xlenE, h_xnewE, h_xnwaE, h_xclnE, h_xcstE, h_xcallE, h_xcalcE, h_xnmE, h_xdvE, h_xremE, xs_k_ui, xs_k_ur, xs_k_uc, xs_k_un, xs_k_ub, xs_r_ui, xs_r_ur, xs_r_uc, xs_r_un, xs_r_ub, xs_t_ui, xs_t_ur, xs_t_uc, xs_t_un, xs_t_ub, xs_n_ui, xs_n_ur, xs_n_uc, xs_n_un, xs_n_ub, xs_m_ui, xs_m_ur, xs_m_uc, xs_m_un, xs_m_ub, xs_c_ui, xs_c_ur, xs_c_uc, xs_c_un, xs_c_ub, x_up_s, x_up_k, x_up_o, x_fU_s, x_fU_o, ↓reduceIte, h_ldE, h_stE, h_nmE, h_nSE, h_callE, h_callvE, h_dvE, h_remE, if_true, if_false, z_upS, z_upO, z_upK, nI_add, z_mul, z_sub, z_div, Nat.add_zero, Nat.mul_zero, Nat.zero_add, Nat.sub_zero, Nat.zero_mul, z_ltT, z_ltF, z_leT, z_leF, z_eqT, z_eqF, z_inT, z_clT, not_true_eq_false, not_false_eq_true, eq_self, true_or, or_true, z_m_lt, z_m_le, z_lt_m, z_le_m, z_eq_m, z_m_eq, z_rz0, z_rz1, z_m_add, z_of, ↓z_m1, l_0, l_1, l_2, l_3, l_4, l_5, l_6, l_7, l_8, l_9, l_10, l_11, l_12, l_13, l_14, l_15, l_16, l_17, l_18, l_19, l_20, l_21, l_22, l_23, l_24, l_25, l_26, l_27, l_28, l_29, l_30, l_31, l_32, l_33, l_34, l_35, l_36, l_37, l_38, l_39, l_40, l_41, l_42, l_43, l_44, l_45, l_46, l_47, l_48, l_49, l_50, l_51, l_52, l_53, l_54, l_55, l_56, l_57, l_59, l_60, l_61, l_62, l_63, l_64, l_65, l_80, l_86, l_87, l_88, l_89, l_90, l_91, l_92, l_93, l_94, l_95, l_97, l_99, l_100, l_107, l_119, l_122, l_124, l_129, l_140, l_141, l_142, l_143, l_144, l_145, l_147, l_150, l_159, l_160, l_161, l_162, l_205, l_253, l_255, l_256, l_269, l_305, l_380, l_399, l_400, l_420, l_430, l_516, l_600, l_720, l_820, l_905, l_921, l_937, l_953, l_970, l_999, l_1000, l_1790, l_4096, l_9999, l_1000000]
    · have hlt : i < me := by omega
      have h12 := z_p12 a5
      have e := c_of10 h hm hlt
      obtain ⟨σ1, hc1, e2⟩ := c_of20 h hm hlt
      rw [← hn] at e e2
      obtain ⟨y1, y2, y3⟩ := z_hsE a5 h.1.1.2.2.2.1 (m := m) (by omega)
      have eF := F_lean (n := n) (u := x_uc u σ1) (by rw [hn]; unfold q_F; omega) hT0.uc hL.uc hm hlt y1 (by omega)
      rw [hE.1 m i _ hm hlt (z_cnt_le _ _)] at e2
      obtain ⟨m0, m1, m2, m3, m4, m5⟩ := tm m hm
      have ev := m5 i hlt
      have k5m := k5 m hm
      have r7m := r7 m hm
      obtain ⟨σ', g1, g2⟩ := ih (i+1) σ1 (by omega) (by omega) hc1
      refine ⟨σ', g1, ?_⟩
      rw [← g2, F_X12_isSame_L101]
      simp (disch := first | omega | ((try simp (disch := omega) only [k1, k2, r1, t8, k5m, r7m, e, ev, x_uc2, e2, eF, xs_k_ui, xs_k_ur, xs_k_uc, xs_k_un, xs_k_ub, xs_r_ui, xs_r_ur, xs_r_uc, xs_r_un, xs_r_ub, xs_t_ui, xs_t_ur, xs_t_uc, xs_t_un, xs_t_ub, xs_n_ui, xs_n_ur, xs_n_uc, xs_n_un, xs_n_ub, xs_m_ui, xs_m_ur, xs_m_uc, xs_m_un, xs_m_ub, xs_c_ui, xs_c_ur, xs_c_uc, xs_c_un, xs_c_ub, x_up_s, x_up_k, x_up_o, x_fU_s, x_fU_o]) <;> first | rfl | omega | (refine (?_ : (_ : Bool) = true); with_unfolding_all rfl)) | fail) only [k1, k2, r1, t8, k5m, r7m, e, ev, x_uc2, e2, eF, ↓p_xgi, ↓p_xgr, ↓p_xpi, ↓p_xpr, ↓p_xo, ↓p_xld, ↓p_xlb, ↓p_xlr, ↓p_xst, ↓p_xsb, ↓p_xsr, ↓p_xlen, ↓p_xnew, ↓p_xnwa, ↓p_xcln, ↓p_xcst, ↓p_xcall, ↓p_xcalc, ↓p_xnm, ↓p_xdv, ↓p_xrem, h_xgiE, h_xgrE, h_xpiE, h_xprE, h_xoE, h_xldE, h_xlbE, h_xlrE, h_xstE, h_xsbE, h_xsrE, h_xlenE, h_xnewE, h_xnwaE, h_xclnE, h_xcstE, h_xcallE, h_xcalcE, h_xnmE, h_xdvE, h_xremE, xs_k_ui, xs_k_ur, xs_k_uc, xs_k_un, xs_k_ub, xs_r_ui, xs_r_ur, xs_r_uc, xs_r_un, xs_r_ub, xs_t_ui, xs_t_ur, xs_t_uc, xs_t_un, xs_t_ub, xs_n_ui, xs_n_ur, xs_n_uc, xs_n_un, xs_n_ub, xs_m_ui, xs_m_ur, xs_m_uc, xs_m_un, xs_m_ub, xs_c_ui, xs_c_ur, xs_c_uc, xs_c_un, xs_c_ub, x_up_s, x_up_k, x_up_o, x_fU_s, x_fU_o, ↓reduceIte, h_ldE, h_stE, h_nmE, h_nSE, h_callE, h_callvE, h_dvE, h_remE, if_true, if_false, z_upS, z_upO, z_upK, nI_add, z_mul, z_sub, z_div, Nat.add_zero, Nat.mul_zero, Nat.zero_add, Nat.sub_zero, Nat.zero_mul, z_ltT, z_ltF, z_leT, z_leF, z_eqT, z_eqF, z_inT, z_clT, not_true_eq_false, not_false_eq_true, eq_self, true_or, or_true, z_m_lt, z_m_le, z_lt_m, z_le_m, z_eq_m, z_m_eq, z_rz0, z_rz1, z_m_add, z_of, ↓z_m1, l_0, l_1, l_2, l_3, l_4, l_5, l_6, l_7, l_8, l_9, l_10, l_11, l_12, l_13, l_14, l_15, l_16, l_17, l_18, l_19, l_20, l_21, l_22, l_23, l_24, l_25, l_26, l_27, l_28, l_29, l_30, l_31, l_32, l_33, l_34, l_35, l_36, l_37, l_38, l_39, l_40, l_41, l_42, l_43, l_44, l_45, l_46, l_47, l_48, l_49, l_50, l_51, l_52, l_53, l_54, l_55, l_56, l_57, l_59, l_60, l_61, l_62, l_63, l_64, l_65, l_80, l_86, l_87, l_88, l_89, l_90, l_91, l_92, l_93, l_94, l_95, l_97, l_99, l_100, l_107, l_119, l_122, l_124, l_129, l_140, l_141, l_142, l_143, l_144, l_145, l_147, l_150, l_159, l_160, l_161, l_162, l_205, l_253, l_255, l_256, l_269, l_305, l_380, l_399, l_400, l_420, l_430, l_516, l_600, l_720, l_820, l_905, l_921, l_937, l_953, l_970, l_999, l_1000, l_1790, l_4096, l_9999, l_1000000]
theorem F_s163 {n m : Nat} (hn : n = q_F) (hT : x_TV u p b L pl pa mu me V) (hL : x_LR u L d) (hd6 : d 6 < 2147483648) (hE : y_EQ L d V mu me) (hm : m < mu) (K : x_U → Option (Int32 × x_U)) : ∀ j i σ, 1 ≤ i → i ≤ 28 → 28 < j + i → z_CS mu me σ V hs wn → ∃ σ', z_CS mu me σ' V hs wn ∧ F_X12_isSame_L163 n p (nI m) K j (nI i) (x_uc u σ) = K (x_uc u σ') := by
  have hT0 := hT
  obtain ⟨⟨⟨a1, a2, a3, a4, a5, a6⟩, ⟨k1, k2, k3, k4, k5, k6⟩, ⟨r1, r2, r3, r4, r5, r6, r7, r8⟩⟩, ⟨t0, t1, t2, t3, t4, t5, t6, t7, t8, t9, ta⟩, tm, tk⟩ := hT
  intro j
  induction j with
  | zero => intro i σ h0 h1 h2; omega
  | succ j ih =>
    intro i σ h0 h1 h2 h
    by_cases hi : 25 ≤ i
    · refine ⟨σ, h, ?_⟩
      rw [F_X12_isSame_L163]
      simp (disch := first | omega | ((try simp (disch := omega) only [xs_k_ui, xs_k_ur, xs_k_uc, xs_k_un, xs_k_ub, xs_r_ui, xs_r_ur, xs_r_uc, xs_r_un, xs_r_ub, xs_t_ui, xs_t_ur, xs_t_uc, xs_t_un, xs_t_ub, xs_n_ui, xs_n_ur, xs_n_uc, xs_n_un, xs_n_ub, xs_m_ui, xs_m_ur, xs_m_uc, xs_m_un, xs_m_ub, xs_c_ui, xs_c_ur, xs_c_uc, xs_c_un, xs_c_ub, x_up_s, x_up_k, x_up_o, x_fU_s, x_fU_o]) <;> first | rfl | omega | (refine (?_ : (_ : Bool) = true); with_unfolding_all rfl)) | fail) only [↓p_xgi, ↓p_xgr, ↓p_xpi, ↓p_xpr, ↓p_xo, ↓p_xld, ↓p_xlb, ↓p_xlr, ↓p_xst, ↓p_xsb, ↓p_xsr, ↓p_xlen, ↓p_xnew, ↓p_xnwa, ↓p_xcln, ↓p_xcst, ↓p_xcall, ↓p_xcalc, ↓p_xnm, ↓p_xdv, ↓p_xrem, h_xgiE, h_xgrE, h_xpiE, h_xprE, h_xoE, h_xldE, h_xlbE, h_xlrE, h_xstE, h_xsbE, h_xsrE, h_xlenE, h_xnewE, h_xnwaE, h_xclnE, h_xcstE, h_xcallE, h_xcalcE, h_xnmE, h_xdvE, h_xremE, xs_k_ui, xs_k_ur, xs_k_uc, xs_k_un, xs_k_ub, xs_r_ui, xs_r_ur, xs_r_uc, xs_r_un, xs_r_ub, xs_t_ui, xs_t_ur, xs_t_uc, xs_t_un, xs_t_ub, xs_n_ui, xs_n_ur, xs_n_uc, xs_n_un, xs_n_ub, xs_m_ui, xs_m_ur, xs_m_uc, xs_m_un, xs_m_ub, xs_c_ui, xs_c_ur, xs_c_uc, xs_c_un, xs_c_ub, x_up_s, x_up_k, x_up_o, x_fU_s, x_fU_o, ↓reduceIte, h_ldE, h_stE, h_nmE, h_nSE, h_callE, h_callvE, h_dvE, h_remE, if_true, if_false, z_upS, z_upO, z_upK, nI_add, z_mul, z_sub, z_div, Nat.add_zero, Nat.mul_zero, Nat.zero_add, Nat.sub_zero, Nat.zero_mul, z_ltT, z_ltF, z_leT, z_leF, z_eqT, z_eqF, z_inT, z_clT, not_true_eq_false, not_false_eq_true, eq_self, true_or, or_true, z_m_lt, z_m_le, z_lt_m, z_le_m, z_eq_m, z_m_eq, z_rz0, z_rz1, z_m_add, z_of, ↓z_m1, l_0, l_1, l_2, l_3, l_4, l_5, l_6, l_7, l_8, l_9, l_10, l_11, l_12, l_13, l_14, l_15, l_16, l_17, l_18, l_19, l_20, l_21, l_22, l_23, l_24, l_25, l_26, l_27, l_28, l_29, l_30, l_31, l_32, l_33, l_34, l_35, l_36, l_37, l_38, l_39, l_40, l_41, l_42, l_43, l_44, l_45, l_46, l_47, l_48, l_49, l_50, l_51, l_52, l_53, l_54, l_55, l_56, l_57, l_59, l_60, l_61, l_62, l_63, l_64, l_65, l_80, l_86, l_87, l_88, l_89, l_90, l_91, l_92, l_93, l_94, l_95, l_97, l_99, l_100, l_107, l_119, l_122, l_124, l_129, l_140, l_141, l_142, l_143, l_144, l_145, l_147, l_150, l_159, l_160, l_161, l_162, l_205, l_253, l_255, l_256, l_269, l_305, l_380, l_399, l_400, l_420, l_430, l_516, l_600, l_720, l_820, l_905, l_921, l_937, l_953, l_970, l_999, l_1000, l_1790, l_4096, l_9999, l_1000000]
    · obtain ⟨σ1, hc1, e2⟩ := c_of30 h hm h0 (show i ≤ 24 by omega)
      have hdr := h.1.1.1.2.2.2.2.2.2.2.2.2.1
      rw [← hn, hE.2.2 m i _ hm (by omega) hdr] at e2
      have eF := F_risk (n := n) (u := x_uc u σ1) (h := i) hT0.uc hL.uc hm hdr hd6
      obtain ⟨σ', g1, g2⟩ := ih (i+4) σ1 (by omega) (by omega) (by omega) hc1
      refine ⟨σ', g1, ?_⟩
      rw [← g2, F_X12_isSame_L163]
      simp (disch := first | omega | ((try simp (disch := omega) only [k1, t3, x_uc2, e2, eF, xs_k_ui, xs_k_ur, xs_k_uc, xs_k_un, xs_k_ub, xs_r_ui, xs_r_ur, xs_r_uc, xs_r_un, xs_r_ub, xs_t_ui, xs_t_ur, xs_t_uc, xs_t_un, xs_t_ub, xs_n_ui, xs_n_ur, xs_n_uc, xs_n_un, xs_n_ub, xs_m_ui, xs_m_ur, xs_m_uc, xs_m_un, xs_m_ub, xs_c_ui, xs_c_ur, xs_c_uc, xs_c_un, xs_c_ub, x_up_s, x_up_k, x_up_o, x_fU_s, x_fU_o]) <;> first | rfl | omega | (refine (?_ : (_ : Bool) = true); with_unfolding_all rfl)) | fail) only [k1, t3, x_uc2, e2, eF, ↓p_xgi, ↓p_xgr, ↓p_xpi, ↓p_xpr, ↓p_xo, ↓p_xld, ↓p_xlb, ↓p_xlr, ↓p_xst, ↓p_xsb, ↓p_xsr, ↓p_xlen, ↓p_xnew, ↓p_xnwa, ↓p_xcln, ↓p_xcst, ↓p_xcall, ↓p_xcalc, ↓p_xnm, ↓p_xdv, ↓p_xrem, h_xgiE, h_xgrE, h_xpiE, h_xprE, h_xoE, h_xldE, h_xlbE, h_xlrE, h_xstE, h_xsbE, h_xsrE, h_xlenE, h_xnewE, h_xnwaE, h_xclnE, h_xcstE, h_xcallE, h_xcalcE, h_xnmE, h_xdvE, h_xremE, xs_k_ui, xs_k_ur, xs_k_uc, xs_k_un, xs_k_ub, xs_r_ui, xs_r_ur, xs_r_uc, xs_r_un, xs_r_ub, xs_t_ui, xs_t_ur, xs_t_uc, xs_t_un, xs_t_ub, xs_n_ui, xs_n_ur, xs_n_uc, xs_n_un, xs_n_ub, xs_m_ui, xs_m_ur, xs_m_uc, xs_m_un, xs_m_ub, xs_c_ui, xs_c_ur, xs_c_uc, xs_c_un, xs_c_ub, x_up_s, x_up_k, x_up_o, x_fU_s, x_fU_o, ↓reduceIte, h_ldE, h_stE, h_nmE, h_nSE, h_callE, h_callvE, h_dvE, h_remE, if_true, if_false, z_upS, z_upO, z_upK, nI_add, z_mul, z_sub, z_div, Nat.add_zero, Nat.mul_zero, Nat.zero_add, Nat.sub_zero, Nat.zero_mul, z_ltT, z_ltF, z_leT, z_leF, z_eqT, z_eqF, z_inT, z_clT, not_true_eq_false, not_false_eq_true, eq_self, true_or, or_true, z_m_lt, z_m_le, z_lt_m, z_le_m, z_eq_m, z_m_eq, z_rz0, z_rz1, z_m_add, z_of, ↓z_m1, l_0, l_1, l_2, l_3, l_4, l_5, l_6, l_7, l_8, l_9, l_10, l_11, l_12, l_13, l_14, l_15, l_16, l_17, l_18, l_19, l_20, l_21, l_22, l_23, l_24, l_25, l_26, l_27, l_28, l_29, l_30, l_31, l_32, l_33, l_34, l_35, l_36, l_37, l_38, l_39, l_40, l_41, l_42, l_43, l_44, l_45, l_46, l_47, l_48, l_49, l_50, l_51, l_52, l_53, l_54, l_55, l_56, l_57, l_59, l_60, l_61, l_62, l_63, l_64, l_65, l_80, l_86, l_87, l_88, l_89, l_90, l_91, l_92, l_93, l_94, l_95, l_97, l_99, l_100, l_107, l_119, l_122, l_124, l_129, l_140, l_141, l_142, l_143, l_144, l_145, l_147, l_150, l_159, l_160, l_161, l_162, l_205, l_253, l_255, l_256, l_269, l_305, l_380, l_399, l_400, l_420, l_430, l_516, l_600, l_720, l_820, l_905, l_921, l_937, l_953, l_970, l_999, l_1000, l_1790, l_4096, l_9999, l_1000000]
theorem F_s2 {n : Nat} (hn : n = q_F) (hT : x_TV u p b L pl pa mu me V) (hL : x_LR u L d) (hd6 : d 6 < 2147483648) (hE : y_EQ L d V mu me) (K : x_U → Option (Int32 × x_U)) : ∀ j i σ, i ≤ mu → mu < j + i → z_CS mu me σ V hs wn → ∃ σ', z_CS mu me σ' V hs wn ∧ F_X12_isSame_L2 n p K j (nI i) (x_uc u σ) = K (x_uc u σ') := by
  have hT0 := hT
  obtain ⟨⟨⟨a1, a2, a3, a4, a5, a6⟩, ⟨k1, k2, k3, k4, k5, k6⟩, ⟨r1, r2, r3, r4, r5, r6, r7, r8⟩⟩, ⟨t0, t1, t2, t3, t4, t5, t6, t7, t8, t9, ta⟩, tm, tk⟩ := hT
  intro j
  induction j with
  | zero => intro i σ h1 h2; omega
  | succ j ih =>
    intro i σ h1 h2 h
    by_cases hi : i = mu
    · subst hi
      refine ⟨σ, h, ?_⟩
      rw [F_X12_isSame_L2]
      simp (disch := first | omega | ((try simp (disch := omega) only [k1, t7, xs_k_ui, xs_k_ur, xs_k_uc, xs_k_un, xs_k_ub, xs_r_ui, xs_r_ur, xs_r_uc, xs_r_un, xs_r_ub, xs_t_ui, xs_t_ur, xs_t_uc, xs_t_un, xs_t_ub, xs_n_ui, xs_n_ur, xs_n_uc, xs_n_un, xs_n_ub, xs_m_ui, xs_m_ur, xs_m_uc, xs_m_un, xs_m_ub, xs_c_ui, xs_c_ur, xs_c_uc, xs_c_un, xs_c_ub, x_up_s, x_up_k, x_up_o, x_fU_s, x_fU_o]) <;> first | rfl | omega | (refine (?_ : (_ : Bool) = true); with_unfolding_all rfl)) | fail) only [k1, t7, ↓p_xgi, ↓p_xgr, ↓p_xpi, ↓p_xpr, ↓p_xo, ↓p_xld, ↓p_xlb, ↓p_xlr, ↓p_xst, ↓p_xsb, ↓p_xsr, ↓p_xlen, ↓p_xnew, ↓p_xnwa, ↓p_xcln, ↓p_xcst, ↓p_xcall, ↓p_xcalc, ↓p_xnm, ↓p_xdv, ↓p_xrem, h_xgiE, h_xgrE, h_xpiE, h_xprE, h_xoE, h_xldE, h_xlbE, h_xlrE, h_xstE, h_xsbE, h_xsrE, h_xlenE, h_xnewE, h_xnwaE, h_xclnE, h_xcstE, h_xcallE, h_xcalcE, h_xnmE, h_xdvE, h_xremE, xs_k_ui, xs_k_ur, xs_k_uc, xs_k_un, xs_k_ub, xs_r_ui, xs_r_ur, xs_r_uc, xs_r_un, xs_r_ub, xs_t_ui, xs_t_ur, xs_t_uc, xs_t_un, xs_t_ub, xs_n_ui, xs_n_ur, xs_n_uc, xs_n_un, xs_n_ub, xs_m_ui, xs_m_ur, xs_m_uc, xs_m_un, xs_m_ub, xs_c_ui, xs_c_ur, xs_c_uc, xs_c_un, xs_c_ub, x_up_s, x_up_k, x_up_o, x_fU_s, x_fU_o, ↓reduceIte, h_ldE, h_stE, h_nmE, h_nSE, h_callE, h_callvE, h_dvE, h_remE, if_true, if_false, z_upS, z_upO, z_upK, nI_add, z_mul, z_sub, z_div, Nat.add_zero, Nat.mul_zero, Nat.zero_add, Nat.sub_zero, Nat.zero_mul, z_ltT, z_ltF, z_leT, z_leF, z_eqT, z_eqF, z_inT, z_clT, not_true_eq_false, not_false_eq_true, eq_self, true_or, or_true, z_m_lt, z_m_le, z_lt_m, z_le_m, z_eq_m, z_m_eq, z_rz0, z_rz1, z_m_add, z_of, ↓z_m1, l_0, l_1, l_2, l_3, l_4, l_5, l_6, l_7, l_8, l_9, l_10, l_11, l_12, l_13, l_14, l_15, l_16, l_17, l_18, l_19, l_20, l_21, l_22, l_23, l_24, l_25, l_26, l_27, l_28, l_29, l_30, l_31, l_32, l_33, l_34, l_35, l_36, l_37, l_38, l_39, l_40, l_41, l_42, l_43, l_44, l_45, l_46, l_47, l_48, l_49, l_50, l_51, l_52, l_53, l_54, l_55, l_56, l_57, l_59, l_60, l_61, l_62, l_63, l_64, l_65, l_80, l_86, l_87, l_88, l_89, l_90, l_91, l_92, l_93, l_94, l_95, l_97, l_99, l_100, l_107, l_119, l_122, l_124, l_129, l_140, l_141, l_142, l_143, l_144, l_145, l_147, l_150, l_159, l_160, l_161, l_162, l_205, l_253, l_255, l_256, l_269, l_305, l_380, l_399, l_400, l_420, l_430, l_516, l_600, l_720, l_820, l_905, l_921, l_937, l_953, l_970, l_999, l_1000, l_1790, l_4096, l_9999, l_1000000]
    · have hlt : i < mu := by omega
      have hn5 : 28 < n := by rw [hn]; unfold q_F; omega
      obtain ⟨σ1, c1, e5⟩ := c_of5 h hlt
      rw [← hn, hE.2.1 i hlt] at e5
      have eN := F_need (n := n) (u := x_uc u σ1) hT0.uc hL.uc hlt
      have e6 := c_ofn c1 hlt (w := 6) (Or.inl rfl)
      have e10 := c_ofn c1 hlt (w := 10 + me) (Or.inr (Or.inl rfl))
      have e30 := c_ofn c1 hlt (w := 30) (Or.inr (Or.inr rfl))
      rw [← hn] at e6 e10 e30
      have e12 := fun K => F_s12 (m := i) hn hT0 hlt h K n 0 (by omega) (by omega)
      let K3 : q_Sto → x_U → Option (Int32 × x_U) := fun _ s40 => F_X12_isSame_L2 n p K j (nI (i + 1)) s40
      obtain ⟨σ2, c2, e101⟩ := F_s101 (m := i) hn hT0 hL hE hlt (fun (s31 : x_U) =>
    F_X12_isSame_L163 n p (nI i) (fun (s40 : x_U) => F_X12_isSame_L2 n p K j (nI (i + 1)) s40) n (nI (1 + i % 3)) s31) n 0 σ1 (Nat.zero_le _) (by omega) c1
      obtain ⟨σ3, c3, e163⟩ := F_s163 (m := i) hn hT0 hL hd6 hE hlt (fun (s40 : x_U) => F_X12_isSame_L2 n p K j (nI (i + 1)) s40) n (1 + i % 3) σ2 (by omega) (by omega) (by omega) c2
      obtain ⟨σ', g1, g2⟩ := ih (i+1) σ3 (by omega) (by omega) c3
      refine ⟨σ', g1, ?_⟩
      rw [F_X12_isSame_L2]
      simp (disch := first | omega | ((try simp (disch := omega) only [k1, t7, t8, e12, e5, eN, e6, e10, e30, x_uc2, e101, e163, g2, xs_k_ui, xs_k_ur, xs_k_uc, xs_k_un, xs_k_ub, xs_r_ui, xs_r_ur, xs_r_uc, xs_r_un, xs_r_ub, xs_t_ui, xs_t_ur, xs_t_uc, xs_t_un, xs_t_ub, xs_n_ui, xs_n_ur, xs_n_uc, xs_n_un, xs_n_ub, xs_m_ui, xs_m_ur, xs_m_uc, xs_m_un, xs_m_ub, xs_c_ui, xs_c_ur, xs_c_uc, xs_c_un, xs_c_ub, x_up_s, x_up_k, x_up_o, x_fU_s, x_fU_o]) <;> first | rfl | omega | (refine (?_ : (_ : Bool) = true); with_unfolding_all rfl)) | fail) only [k1, t7, t8, e12, e5, eN, e6, e10, e30, x_uc2, e101, e163, g2, ↓p_xgi, ↓p_xgr, ↓p_xpi, ↓p_xpr, ↓p_xo, ↓p_xld, ↓p_xlb, ↓p_xlr, ↓p_xst, ↓p_xsb, ↓p_xsr, ↓p_xlen, ↓p_xnew, ↓p_xnwa, ↓p_xcln, ↓p_xcst, ↓p_xcall, ↓p_xcalc, ↓p_xnm, ↓p_xdv, ↓p_xrem, h_xgiE, h_xgrE, h_xpiE, h_xprE, h_xoE, h_xldE, h_xlbE, h_xlrE, h_xstE, h_xsbE, h_xsrE, h_xlenE, h_xnewE, h_xnwaE, h_xclnE, h_xcstE, h_xcallE, h_xcalcE, h_xnmE, h_xdvE, h_xremE, xs_k_ui, xs_k_ur, xs_k_uc, xs_k_un, xs_k_ub, xs_r_ui, xs_r_ur, xs_r_uc, xs_r_un, xs_r_ub, xs_t_ui, xs_t_ur, xs_t_uc, xs_t_un, xs_t_ub, xs_n_ui, xs_n_ur, xs_n_uc, xs_n_un, xs_n_ub, xs_m_ui, xs_m_ur, xs_m_uc, xs_m_un, xs_m_ub, xs_c_ui, xs_c_ur, xs_c_uc, xs_c_un, xs_c_ub, x_up_s, x_up_k, x_up_o, x_fU_s, x_fU_o, ↓reduceIte, h_ldE, h_stE, h_nmE, h_nSE, h_callE, h_callvE, h_dvE, h_remE, if_true, if_false, z_upS, z_upO, z_upK, nI_add, z_mul, z_sub, z_div, Nat.add_zero, Nat.mul_zero, Nat.zero_add, Nat.sub_zero, Nat.zero_mul, z_ltT, z_ltF, z_leT, z_leF, z_eqT, z_eqF, z_inT, z_clT, not_true_eq_false, not_false_eq_true, eq_self, true_or, or_true, z_m_lt, z_m_le, z_lt_m, z_le_m, z_eq_m, z_m_eq, z_rz0, z_rz1, z_m_add, z_of, ↓z_m1, l_0, l_1, l_2, l_3, l_4, l_5, l_6, l_7, l_8, l_9, l_10, l_11, l_12, l_13, l_14, l_15, l_16, l_17, l_18, l_19, l_20, l_21, l_22, l_23, l_24, l_25, l_26, l_27, l_28, l_29, l_30, l_31, l_32, l_33, l_34, l_35, l_36, l_37, l_38, l_39, l_40, l_41, l_42, l_43, l_44, l_45, l_46, l_47, l_48, l_49, l_50, l_51, l_52, l_53, l_54, l_55, l_56, l_57, l_59, l_60, l_61, l_62, l_63, l_64, l_65, l_80, l_86, l_87, l_88, l_89, l_90, l_91, l_92, l_93, l_94, l_95, l_97, l_99, l_100, l_107, l_119, l_122, l_124, l_129, l_140, l_141, l_142, l_143, l_144, l_145, l_147, l_150, l_159, l_160, l_161, l_162, l_205, l_253, l_255, l_256, l_269, l_305, l_380, l_399, l_400, l_420, l_430, l_516, l_600, l_720, l_820, l_905, l_921, l_937, l_953, l_970, l_999, l_1000, l_1790, l_4096, l_9999, l_1000000]
theorem F_s217 {n m : Nat} (hn : n = q_F) (hT : x_TV u p b L pl pa mu me V) (hm : m < me) {σ : q_Sto} (h : z_CS mu me σ V hs wn) (K : x_U → Option (Int32 × x_U)) : ∀ j i, i ≤ 3 → 3 < j + i → F_X12_isSame_L217 n p (nI m) K j (nI i) (x_uc u σ) = K (x_uc u σ) := by
  obtain ⟨⟨⟨a1, a2, a3, a4, a5, a6⟩, ⟨k1, k2, k3, k4, k5, k6⟩, ⟨r1, r2, r3, r4, r5, r6, r7, r8⟩⟩, ⟨t0, t1, t2, t3, t4, t5, t6, t7, t8, t9, ta⟩, tm, tk⟩ := hT
  intro j
  induction j with
  | zero => intro i h1 h2; omega
  | succ j ih =>
    intro i h1 h2
    by_cases hi : i = 3
    · subst hi
      rw [F_X12_isSame_L217]
      simp (disch := first | omega | ((try simp (disch := omega) only [xs_k_ui, xs_k_ur, xs_k_uc, xs_k_un, xs_k_ub, xs_r_ui, xs_r_ur, xs_r_uc, xs_r_un, xs_r_ub, xs_t_ui, xs_t_ur, xs_t_uc, xs_t_un, xs_t_ub, xs_n_ui, xs_n_ur, xs_n_uc, xs_n_un, xs_n_ub, xs_m_ui, xs_m_ur, xs_m_uc, xs_m_un, xs_m_ub, xs_c_ui, xs_c_ur, xs_c_uc, xs_c_un, xs_c_ub, x_up_s, x_up_k, x_up_o, x_fU_s, x_fU_o]) <;> first | rfl | omega | (refine (?_ : (_ : Bool) = true); with_unfolding_all rfl)) | fail) only [↓p_xgi, ↓p_xgr, ↓p_xpi, ↓p_xpr, ↓p_xo, ↓p_xld, ↓p_xlb, ↓p_xlr, ↓p_xst, ↓p_xsb, ↓p_xsr, ↓p_xlen, ↓p_xnew, ↓p_xnwa, ↓p_xcln, ↓p_xcst, ↓p_xcall, ↓p_xcalc, ↓p_xnm, ↓p_xdv, ↓p_xrem, h_xgiE, h_xgrE, h_xpiE, h_xprE, h_xoE, h_xldE, h_xlbE, h_xlrE, h_xstE, h_xsbE, h_xsrE, h_xlenE, h_xnewE, h_xnwaE, h_xclnE, h_xcstE, h_xcallE, h_xcalcE, h_xnmE, h_xdvE, h_xremE, xs_k_ui, xs_k_ur, xs_k_uc, xs_k_un, xs_k_ub, xs_r_ui, xs_r_ur, xs_r_uc, xs_r_un, xs_r_ub, xs_t_ui, xs_t_ur, xs_t_uc, xs_t_un, xs_t_ub, xs_n_ui, xs_n_ur, xs_n_uc, xs_n_un, xs_n_ub, xs_m_ui, xs_m_ur, xs_m_uc, xs_m_un, xs_m_ub, xs_c_ui, xs_c_ur, xs_c_uc, xs_c_un, xs_c_ub, x_up_s, x_up_k, x_up_o, x_fU_s, x_fU_o, ↓reduceIte, h_ldE, h_stE, h_nmE, h_nSE, h_callE, h_callvE, h_dvE, h_remE, if_true, if_false, z_upS, z_upO, z_upK, nI_add, z_mul, z_sub, z_div, Nat.add_zero, Nat.mul_zero, Nat.zero_add, Nat.sub_zero, Nat.zero_mul, z_ltT, z_ltF, z_leT, z_leF, z_eqT, z_eqF, z_inT, z_clT, not_true_eq_false, not_false_eq_true, eq_self, true_or, or_true, z_m_lt, z_m_le, z_lt_m, z_le_m, z_eq_m, z_m_eq, z_rz0, z_rz1, z_m_add, z_of, ↓z_m1, l_0, l_1, l_2, l_3, l_4, l_5, l_6, l_7, l_8, l_9, l_10, l_11, l_12, l_13, l_14, l_15, l_16, l_17, l_18, l_19, l_20, l_21, l_22, l_23, l_24, l_25, l_26, l_27, l_28, l_29, l_30, l_31, l_32, l_33, l_34, l_35, l_36, l_37, l_38, l_39, l_40, l_41, l_42, l_43, l_44, l_45, l_46, l_47, l_48, l_49, l_50, l_51, l_52, l_53, l_54, l_55, l_56, l_57, l_59, l_60, l_61, l_62, l_63, l_64, l_65, l_80, l_86, l_87, l_88, l_89, l_90, l_91, l_92, l_93, l_94, l_95, l_97, l_99, l_100, l_107, l_119, l_122, l_124, l_129, l_140, l_141, l_142, l_143, l_144, l_145, l_147, l_150, l_159, l_160, l_161, l_162, l_205, l_253, l_255, l_256, l_269, l_305, l_380, l_399, l_400, l_420, l_430, l_516, l_600, l_720, l_820, l_905, l_921, l_937, l_953, l_970, l_999, l_1000, l_1790, l_4096, l_9999, l_1000000]
    · have e := c_manOf3 h hm (show i < 3 by omega)
      rw [← hn] at e
      obtain ⟨m0, m1, m2⟩ := tk m hm
      have ev : x_t u (b+mu+m) i = (if i = 0 then V (80+m) else if i = 1 then V (119+m) else V (124+m)) := by
        have : i = 0 ∨ i = 1 ∨ i = 2 := by omega
        rcases this with rfl | rfl | rfl <;> assumption
      generalize (if i = 0 then V (80+m) else if i = 1 then V (119+m) else V (124+m)) = y at e ev
      have k6m := k6 m hm
      have r8m := r8 m hm
      rw [← ih (i+1) (by omega) (by omega), F_X12_isSame_L217]
      simp (disch := first | omega | ((try simp (disch := omega) only [k1, k3, r2, k6m, r8m, e, ev, x_uc2, xs_k_ui, xs_k_ur, xs_k_uc, xs_k_un, xs_k_ub, xs_r_ui, xs_r_ur, xs_r_uc, xs_r_un, xs_r_ub, xs_t_ui, xs_t_ur, xs_t_uc, xs_t_un, xs_t_ub, xs_n_ui, xs_n_ur, xs_n_uc, xs_n_un, xs_n_ub, xs_m_ui, xs_m_ur, xs_m_uc, xs_m_un, xs_m_ub, xs_c_ui, xs_c_ur, xs_c_uc, xs_c_un, xs_c_ub, x_up_s, x_up_k, x_up_o, x_fU_s, x_fU_o]) <;> first | rfl | omega | (refine (?_ : (_ : Bool) = true); with_unfolding_all rfl)) | fail) only [k1, k3, r2, k6m, r8m, e, ev, x_uc2, ↓p_xgi, ↓p_xgr, ↓p_xpi, ↓p_xpr, ↓p_xo, ↓p_xld, ↓p_xlb, ↓p_xlr, ↓p_xst, ↓p_xsb, ↓p_xsr, ↓p_xlen, ↓p_xnew, ↓p_xnwa, ↓p_xcln, ↓p_xcst, ↓p_xcall, ↓p_xcalc, ↓p_xnm, ↓p_xdv, ↓p_xrem, h_xgiE, h_xgrE, h_xpiE, h_xprE, h_xoE, h_xldE, h_xlbE, h_xlrE, h_xstE, h_xsbE, h_xsrE, h_xlenE, h_xnewE, h_xnwaE, h_xclnE, h_xcstE, h_xcallE, h_xcalcE, h_xnmE, h_xdvE, h_xremE, xs_k_ui, xs_k_ur, xs_k_uc, xs_k_un, xs_k_ub, xs_r_ui, xs_r_ur, xs_r_uc, xs_r_un, xs_r_ub, xs_t_ui, xs_t_ur, xs_t_uc, xs_t_un, xs_t_ub, xs_n_ui, xs_n_ur, xs_n_uc, xs_n_un, xs_n_ub, xs_m_ui, xs_m_ur, xs_m_uc, xs_m_un, xs_m_ub, xs_c_ui, xs_c_ur, xs_c_uc, xs_c_un, xs_c_ub, x_up_s, x_up_k, x_up_o, x_fU_s, x_fU_o, ↓reduceIte, h_ldE, h_stE, h_nmE, h_nSE, h_callE, h_callvE, h_dvE, h_remE, if_true, if_false, z_upS, z_upO, z_upK, nI_add, z_mul, z_sub, z_div, Nat.add_zero, Nat.mul_zero, Nat.zero_add, Nat.sub_zero, Nat.zero_mul, z_ltT, z_ltF, z_leT, z_leF, z_eqT, z_eqF, z_inT, z_clT, not_true_eq_false, not_false_eq_true, eq_self, true_or, or_true, z_m_lt, z_m_le, z_lt_m, z_le_m, z_eq_m, z_m_eq, z_rz0, z_rz1, z_m_add, z_of, ↓z_m1, l_0, l_1, l_2, l_3, l_4, l_5, l_6, l_7, l_8, l_9, l_10, l_11, l_12, l_13, l_14, l_15, l_16, l_17, l_18, l_19, l_20, l_21, l_22, l_23, l_24, l_25, l_26, l_27, l_28, l_29, l_30, l_31, l_32, l_33, l_34, l_35, l_36, l_37, l_38, l_39, l_40, l_41, l_42, l_43, l_44, l_45, l_46, l_47, l_48, l_49, l_50, l_51, l_52, l_53, l_54, l_55, l_56, l_57, l_59, l_60, l_61, l_62, l_63, l_64, l_65, l_80, l_86, l_87, l_88, l_89, l_90, l_91, l_92, l_93, l_94, l_95, l_97, l_99, l_100, l_107, l_119, l_122, l_124, l_129, l_140, l_141, l_142, l_143, l_144, l_145, l_147, l_150, l_159, l_160, l_161, l_162, l_205, l_253, l_255, l_256, l_269, l_305, l_380, l_399, l_400, l_420, l_430, l_516, l_600, l_720, l_820, l_905, l_921, l_937, l_953, l_970, l_999, l_1000, l_1790, l_4096, l_9999, l_1000000]
theorem F_s207 {n : Nat} (hn : n = q_F) (hT : x_TV u p b L pl pa mu me V) {σ : q_Sto} (h : z_CS mu me σ V hs wn) (K : x_U → Option (Int32 × x_U)) : ∀ j i, i ≤ me → me < j + i → F_X12_isSame_L207 n p K j (nI i) (x_uc u σ) = K (x_uc u σ) := by
  have hT0 := hT
  obtain ⟨⟨⟨a1, a2, a3, a4, a5, a6⟩, ⟨k1, k2, k3, k4, k5, k6⟩, ⟨r1, r2, r3, r4, r5, r6, r7, r8⟩⟩, ⟨t0, t1, t2, t3, t4, t5, t6, t7, t8, t9, ta⟩, tm, tk⟩ := hT
  intro j
  induction j with
  | zero => intro i h1 h2; omega
  | succ j ih =>
    intro i h1 h2
    by_cases hi : i = me
    · subst hi
      rw [F_X12_isSame_L207]
      simp (disch := first | omega | ((try simp (disch := omega) only [k1, t8, xs_k_ui, xs_k_ur, xs_k_uc, xs_k_un, xs_k_ub, xs_r_ui, xs_r_ur, xs_r_uc, xs_r_un, xs_r_ub, xs_t_ui, xs_t_ur, xs_t_uc, xs_t_un, xs_t_ub, xs_n_ui, xs_n_ur, xs_n_uc, xs_n_un, xs_n_ub, xs_m_ui, xs_m_ur, xs_m_uc, xs_m_un, xs_m_ub, xs_c_ui, xs_c_ur, xs_c_uc, xs_c_un, xs_c_ub, x_up_s, x_up_k, x_up_o, x_fU_s, x_fU_o]) <;> first | rfl | omega | (refine (?_ : (_ : Bool) = true); with_unfolding_all rfl)) | fail) only [k1, t8, ↓p_xgi, ↓p_xgr, ↓p_xpi, ↓p_xpr, ↓p_xo, ↓p_xld, ↓p_xlb, ↓p_xlr, ↓p_xst, ↓p_xsb, ↓p_xsr, ↓p_xlen, ↓p_xnew, ↓p_xnwa, ↓p_xcln, ↓p_xcst, ↓p_xcall, ↓p_xcalc, ↓p_xnm, ↓p_xdv, ↓p_xrem, h_xgiE, h_xgrE, h_xpiE, h_xprE, h_xoE, h_xldE, h_xlbE, h_xlrE, h_xstE, h_xsbE, h_xsrE, h_xlenE, h_xnewE, h_xnwaE, h_xclnE, h_xcstE, h_xcallE, h_xcalcE, h_xnmE, h_xdvE, h_xremE, xs_k_ui, xs_k_ur, xs_k_uc, xs_k_un, xs_k_ub, xs_r_ui, xs_r_ur, xs_r_uc, xs_r_un, xs_r_ub, xs_t_ui, xs_t_ur, xs_t_uc, xs_t_un, xs_t_ub, xs_n_ui, xs_n_ur, xs_n_uc, xs_n_un, xs_n_ub, xs_m_ui, xs_m_ur, xs_m_uc, xs_m_un, xs_m_ub, xs_c_ui, xs_c_ur, xs_c_uc, xs_c_un, xs_c_ub, x_up_s, x_up_k, x_up_o, x_fU_s, x_fU_o, ↓reduceIte, h_ldE, h_stE, h_nmE, h_nSE, h_callE, h_callvE, h_dvE, h_remE, if_true, if_false, z_upS, z_upO, z_upK, nI_add, z_mul, z_sub, z_div, Nat.add_zero, Nat.mul_zero, Nat.zero_add, Nat.sub_zero, Nat.zero_mul, z_ltT, z_ltF, z_leT, z_leF, z_eqT, z_eqF, z_inT, z_clT, not_true_eq_false, not_false_eq_true, eq_self, true_or, or_true, z_m_lt, z_m_le, z_lt_m, z_le_m, z_eq_m, z_m_eq, z_rz0, z_rz1, z_m_add, z_of, ↓z_m1, l_0, l_1, l_2, l_3, l_4, l_5, l_6, l_7, l_8, l_9, l_10, l_11, l_12, l_13, l_14, l_15, l_16, l_17, l_18, l_19, l_20, l_21, l_22, l_23, l_24, l_25, l_26, l_27, l_28, l_29, l_30, l_31, l_32, l_33, l_34, l_35, l_36, l_37, l_38, l_39, l_40, l_41, l_42, l_43, l_44, l_45, l_46, l_47, l_48, l_49, l_50, l_51, l_52, l_53, l_54, l_55, l_56, l_57, l_59, l_60, l_61, l_62, l_63, l_64, l_65, l_80, l_86, l_87, l_88, l_89, l_90, l_91, l_92, l_93, l_94, l_95, l_97, l_99, l_100, l_107, l_119, l_122, l_124, l_129, l_140, l_141, l_142, l_143, l_144, l_145, l_147, l_150, l_159, l_160, l_161, l_162, l_205, l_253, l_255, l_256, l_269, l_305, l_380, l_399, l_400, l_420, l_430, l_516, l_600, l_720, l_820, l_905, l_921, l_937, l_953, l_970, l_999, l_1000, l_1790, l_4096, l_9999, l_1000000]
    · have hlt : i < me := by omega
      have hn5 : 28 < n := by rw [hn]; unfold q_F; omega
      have e := c_manOfB h hlt
      rw [← hn] at e
      have eb := F_behind (n := n) (x := nI i) (u := x_uc u σ) (by omega) hT0.uc
      have e217 := fun K => F_s217 (m := i) hn hT0 hlt h K n 0 (by omega) (by omega)
      rw [← ih (i+1) (by omega) (by omega), F_X12_isSame_L207]
      simp (disch := first | omega | ((try simp (disch := omega) only [k1, t8, e217, e, eb, x_uc2, xs_k_ui, xs_k_ur, xs_k_uc, xs_k_un, xs_k_ub, xs_r_ui, xs_r_ur, xs_r_uc, xs_r_un, xs_r_ub, xs_t_ui, xs_t_ur, xs_t_uc, xs_t_un, xs_t_ub, xs_n_ui, xs_n_ur, xs_n_uc, xs_n_un, xs_n_ub, xs_m_ui, xs_m_ur, xs_m_uc, xs_m_un, xs_m_ub, xs_c_ui, xs_c_ur, xs_c_uc, xs_c_un, xs_c_ub, x_up_s, x_up_k, x_up_o, x_fU_s, x_fU_o]) <;> first | rfl | omega | (refine (?_ : (_ : Bool) = true); with_unfolding_all rfl)) | fail) only [k1, t8, e217, e, eb, x_uc2, ↓p_xgi, ↓p_xgr, ↓p_xpi, ↓p_xpr, ↓p_xo, ↓p_xld, ↓p_xlb, ↓p_xlr, ↓p_xst, ↓p_xsb, ↓p_xsr, ↓p_xlen, ↓p_xnew, ↓p_xnwa, ↓p_xcln, ↓p_xcst, ↓p_xcall, ↓p_xcalc, ↓p_xnm, ↓p_xdv, ↓p_xrem, h_xgiE, h_xgrE, h_xpiE, h_xprE, h_xoE, h_xldE, h_xlbE, h_xlrE, h_xstE, h_xsbE, h_xsrE, h_xlenE, h_xnewE, h_xnwaE, h_xclnE, h_xcstE, h_xcallE, h_xcalcE, h_xnmE, h_xdvE, h_xremE, xs_k_ui, xs_k_ur, xs_k_uc, xs_k_un, xs_k_ub, xs_r_ui, xs_r_ur, xs_r_uc, xs_r_un, xs_r_ub, xs_t_ui, xs_t_ur, xs_t_uc, xs_t_un, xs_t_ub, xs_n_ui, xs_n_ur, xs_n_uc, xs_n_un, xs_n_ub, xs_m_ui, xs_m_ur, xs_m_uc, xs_m_un, xs_m_ub, xs_c_ui, xs_c_ur, xs_c_uc, xs_c_un, xs_c_ub, x_up_s, x_up_k, x_up_o, x_fU_s, x_fU_o, ↓reduceIte, h_ldE, h_stE, h_nmE, h_nSE, h_callE, h_callvE, h_dvE, h_remE, if_true, if_false, z_upS, z_upO, z_upK, nI_add, z_mul, z_sub, z_div, Nat.add_zero, Nat.mul_zero, Nat.zero_add, Nat.sub_zero, Nat.zero_mul, z_ltT, z_ltF, z_leT, z_leF, z_eqT, z_eqF, z_inT, z_clT, not_true_eq_false, not_false_eq_true, eq_self, true_or, or_true, z_m_lt, z_m_le, z_lt_m, z_le_m, z_eq_m, z_m_eq, z_rz0, z_rz1, z_m_add, z_of, ↓z_m1, l_0, l_1, l_2, l_3, l_4, l_5, l_6, l_7, l_8, l_9, l_10, l_11, l_12, l_13, l_14, l_15, l_16, l_17, l_18, l_19, l_20, l_21, l_22, l_23, l_24, l_25, l_26, l_27, l_28, l_29, l_30, l_31, l_32, l_33, l_34, l_35, l_36, l_37, l_38, l_39, l_40, l_41, l_42, l_43, l_44, l_45, l_46, l_47, l_48, l_49, l_50, l_51, l_52, l_53, l_54, l_55, l_56, l_57, l_59, l_60, l_61, l_62, l_63, l_64, l_65, l_80, l_86, l_87, l_88, l_89, l_90, l_91, l_92, l_93, l_94, l_95, l_97, l_99, l_100, l_107, l_119, l_122, l_124, l_129, l_140, l_141, l_142, l_143, l_144, l_145, l_147, l_150, l_159, l_160, l_161, l_162, l_205, l_253, l_255, l_256, l_269, l_305, l_380, l_399, l_400, l_420, l_430, l_516, l_600, l_720, l_820, l_905, l_921, l_937, l_953, l_970, l_999, l_1000, l_1790, l_4096, l_9999, l_1000000]
theorem F_s281 {n m : Nat} (hn : n = q_F) (hT : x_TV u p b L pl pa mu me V) {Fz : Nat → Prop} {σ : q_Sto} (h : z_CS mu me σ V hs wn) (hB : ∀ i, i < wn → Fz (x_r u (p+5) i) ∧ x_k u (x_r u (p+5) i) = .inr (4, 0) ∧ ∀ c, c < 4 → x_t u (x_r u (p+5) i) c = V (305+4*i+c)) (hm : m < wn) (K : x_U → Option (Int32 × x_U)) : ∀ j i, i ≤ 4 → 4 < j + i → F_X12_isSame_L281 n p (nI m) K j (nI i) (x_uc u σ) = K (x_uc u σ) := by
  obtain ⟨⟨⟨a1, a2, a3, a4, a5, a6⟩, ⟨k1, k2, k3, k4, k5, k6⟩, ⟨r1, r2, r3, r4, r5, r6, r7, r8⟩⟩, ⟨t0, t1, t2, t3, t4, t5, t6, t7, t8, t9, ta⟩, tm, tk⟩ := hT
  have hw := h.wn.1
  intro j
  induction j with
  | zero => intro i h1 h2; omega
  | succ j ih =>
    intro i h1 h2
    by_cases hi : i = 4
    · subst hi
      rw [F_X12_isSame_L281]
      simp (disch := first | omega | ((try simp (disch := omega) only [xs_k_ui, xs_k_ur, xs_k_uc, xs_k_un, xs_k_ub, xs_r_ui, xs_r_ur, xs_r_uc, xs_r_un, xs_r_ub, xs_t_ui, xs_t_ur, xs_t_uc, xs_t_un, xs_t_ub, xs_n_ui, xs_n_ur, xs_n_uc, xs_n_un, xs_n_ub, xs_m_ui, xs_m_ur, xs_m_uc, xs_m_un, xs_m_ub, xs_c_ui, xs_c_ur, xs_c_uc, xs_c_un, xs_c_ub, x_up_s, x_up_k, x_up_o, x_fU_s, x_fU_o]) <;> first | rfl | omega | (refine (?_ : (_ : Bool) = true); with_unfolding_all rfl)) | fail) only [↓p_xgi, ↓p_xgr, ↓p_xpi, ↓p_xpr, ↓p_xo, ↓p_xld, ↓p_xlb, ↓p_xlr, ↓p_xst, ↓p_xsb, ↓p_xsr, ↓p_xlen, ↓p_xnew, ↓p_xnwa, ↓p_xcln, ↓p_xcst, ↓p_xcall, ↓p_xcalc, ↓p_xnm, ↓p_xdv, ↓p_xrem, h_xgiE, h_xgrE, h_xpiE, h_xprE, h_xoE, h_xldE, h_xlbE, h_xlrE, h_xstE, h_xsbE, h_xsrE, h_xlenE, h_xnewE, h_xnwaE, h_xclnE, h_xcstE, h_xcallE, h_xcalcE, h_xnmE, h_xdvE, h_xremE, xs_k_ui, xs_k_ur, xs_k_uc, xs_k_un, xs_k_ub, xs_r_ui, xs_r_ur, xs_r_uc, xs_r_un, xs_r_ub, xs_t_ui, xs_t_ur, xs_t_uc, xs_t_un, xs_t_ub, xs_n_ui, xs_n_ur, xs_n_uc, xs_n_un, xs_n_ub, xs_m_ui, xs_m_ur, xs_m_uc, xs_m_un, xs_m_ub, xs_c_ui, xs_c_ur, xs_c_uc, xs_c_un, xs_c_ub, x_up_s, x_up_k, x_up_o, x_fU_s, x_fU_o, ↓reduceIte, h_ldE, h_stE, h_nmE, h_nSE, h_callE, h_callvE, h_dvE, h_remE, if_true, if_false, z_upS, z_upO, z_upK, nI_add, z_mul, z_sub, z_div, Nat.add_zero, Nat.mul_zero, Nat.zero_add, Nat.sub_zero, Nat.zero_mul, z_ltT, z_ltF, z_leT, z_leF, z_eqT, z_eqF, z_inT, z_clT, not_true_eq_false, not_false_eq_true, eq_self, true_or, or_true, z_m_lt, z_m_le, z_lt_m, z_le_m, z_eq_m, z_m_eq, z_rz0, z_rz1, z_m_add, z_of, ↓z_m1, l_0, l_1, l_2, l_3, l_4, l_5, l_6, l_7, l_8, l_9, l_10, l_11, l_12, l_13, l_14, l_15, l_16, l_17, l_18, l_19, l_20, l_21, l_22, l_23, l_24, l_25, l_26, l_27, l_28, l_29, l_30, l_31, l_32, l_33, l_34, l_35, l_36, l_37, l_38, l_39, l_40, l_41, l_42, l_43, l_44, l_45, l_46, l_47, l_48, l_49, l_50, l_51, l_52, l_53, l_54, l_55, l_56, l_57, l_59, l_60, l_61, l_62, l_63, l_64, l_65, l_80, l_86, l_87, l_88, l_89, l_90, l_91, l_92, l_93, l_94, l_95, l_97, l_99, l_100, l_107, l_119, l_122, l_124, l_129, l_140, l_141, l_142, l_143, l_144, l_145, l_147, l_150, l_159, l_160, l_161, l_162, l_205, l_253, l_255, l_256, l_269, l_305, l_380, l_399, l_400, l_420, l_430, l_516, l_600, l_720, l_820, l_905, l_921, l_937, l_953, l_970, l_999, l_1000, l_1790, l_4096, l_9999, l_1000000]
    · have e := c_book4 h hm (show i < 4 by omega)
      rw [← hn] at e
      obtain ⟨m0, m1, m2⟩ := hB m hm
      have ev := m2 i (by omega)
      rw [← ih (i+1) (by omega) (by omega), F_X12_isSame_L281]
      simp (disch := first | omega | ((try simp (disch := omega) only [k1, k4, r3, m1, e, ev, x_uc2, xs_k_ui, xs_k_ur, xs_k_uc, xs_k_un, xs_k_ub, xs_r_ui, xs_r_ur, xs_r_uc, xs_r_un, xs_r_ub, xs_t_ui, xs_t_ur, xs_t_uc, xs_t_un, xs_t_ub, xs_n_ui, xs_n_ur, xs_n_uc, xs_n_un, xs_n_ub, xs_m_ui, xs_m_ur, xs_m_uc, xs_m_un, xs_m_ub, xs_c_ui, xs_c_ur, xs_c_uc, xs_c_un, xs_c_ub, x_up_s, x_up_k, x_up_o, x_fU_s, x_fU_o]) <;> first | rfl | omega | (refine (?_ : (_ : Bool) = true); with_unfolding_all rfl)) | fail) only [k1, k4, r3, m1, e, ev, x_uc2, ↓p_xgi, ↓p_xgr, ↓p_xpi, ↓p_xpr, ↓p_xo, ↓p_xld, ↓p_xlb, ↓p_xlr, ↓p_xst, ↓p_xsb, ↓p_xsr, ↓p_xlen, ↓p_xnew, ↓p_xnwa, ↓p_xcln, ↓p_xcst, ↓p_xcall, ↓p_xcalc, ↓p_xnm, ↓p_xdv, ↓p_xrem, h_xgiE, h_xgrE, h_xpiE, h_xprE, h_xoE, h_xldE, h_xlbE, h_xlrE, h_xstE, h_xsbE, h_xsrE, h_xlenE, h_xnewE, h_xnwaE, h_xclnE, h_xcstE, h_xcallE, h_xcalcE, h_xnmE, h_xdvE, h_xremE, xs_k_ui, xs_k_ur, xs_k_uc, xs_k_un, xs_k_ub, xs_r_ui, xs_r_ur, xs_r_uc, xs_r_un, xs_r_ub, xs_t_ui, xs_t_ur, xs_t_uc, xs_t_un, xs_t_ub, xs_n_ui, xs_n_ur, xs_n_uc, xs_n_un, xs_n_ub, xs_m_ui, xs_m_ur, xs_m_uc, xs_m_un, xs_m_ub, xs_c_ui, xs_c_ur, xs_c_uc, xs_c_un, xs_c_ub, x_up_s, x_up_k, x_up_o, x_fU_s, x_fU_o, ↓reduceIte, h_ldE, h_stE, h_nmE, h_nSE, h_callE, h_callvE, h_dvE, h_remE, if_true, if_false, z_upS, z_upO, z_upK, nI_add, z_mul, z_sub, z_div, Nat.add_zero, Nat.mul_zero, Nat.zero_add, Nat.sub_zero, Nat.zero_mul, z_ltT, z_ltF, z_leT, z_leF, z_eqT, z_eqF, z_inT, z_clT, not_true_eq_false, not_false_eq_true, eq_self, true_or, or_true, z_m_lt, z_m_le, z_lt_m, z_le_m, z_eq_m, z_m_eq, z_rz0, z_rz1, z_m_add, z_of, ↓z_m1, l_0, l_1, l_2, l_3, l_4, l_5, l_6, l_7, l_8, l_9, l_10, l_11, l_12, l_13, l_14, l_15, l_16, l_17, l_18, l_19, l_20, l_21, l_22, l_23, l_24, l_25, l_26, l_27, l_28, l_29, l_30, l_31, l_32, l_33, l_34, l_35, l_36, l_37, l_38, l_39, l_40, l_41, l_42, l_43, l_44, l_45, l_46, l_47, l_48, l_49, l_50, l_51, l_52, l_53, l_54, l_55, l_56, l_57, l_59, l_60, l_61, l_62, l_63, l_64, l_65, l_80, l_86, l_87, l_88, l_89, l_90, l_91, l_92, l_93, l_94, l_95, l_97, l_99, l_100, l_107, l_119, l_122, l_124, l_129, l_140, l_141, l_142, l_143, l_144, l_145, l_147, l_150, l_159, l_160, l_161, l_162, l_205, l_253, l_255, l_256, l_269, l_305, l_380, l_399, l_400, l_420, l_430, l_516, l_600, l_720, l_820, l_905, l_921, l_937, l_953, l_970, l_999, l_1000, l_1790, l_4096, l_9999, l_1000000]
theorem F_s271 {n : Nat} (hn : n = q_F) (hT : x_TV u p b L pl pa mu me V) {Fz : Nat → Prop} {σ : q_Sto} (h : z_CS mu me σ V hs wn) (hB : ∀ i, i < wn → Fz (x_r u (p+5) i) ∧ x_k u (x_r u (p+5) i) = .inr (4, 0) ∧ ∀ c, c < 4 → x_t u (x_r u (p+5) i) c = V (305+4*i+c)) (K : x_U → Option (Int32 × x_U)) : ∀ j i, i ≤ wn → wn < j + i → F_X12_isSame_L271 n p K j (nI i) (x_uc u σ) = K (x_uc u σ) := by
  have hT0 := hT
  obtain ⟨⟨⟨a1, a2, a3, a4, a5, a6⟩, ⟨k1, k2, k3, k4, k5, k6⟩, ⟨r1, r2, r3, r4, r5, r6, r7, r8⟩⟩, ⟨t0, t1, t2, t3, t4, t5, t6, t7, t8, t9, ta⟩, tm, tk⟩ := hT
  have hw := h.wn
  have t9 := t9.trans hw.2.1
  intro j
  induction j with
  | zero => intro i h1 h2; omega
  | succ j ih =>
    intro i h1 h2
    by_cases hi : i = wn
    · subst hi
      rw [F_X12_isSame_L271]
      simp (disch := first | omega | ((try simp (disch := omega) only [k1, t9, xs_k_ui, xs_k_ur, xs_k_uc, xs_k_un, xs_k_ub, xs_r_ui, xs_r_ur, xs_r_uc, xs_r_un, xs_r_ub, xs_t_ui, xs_t_ur, xs_t_uc, xs_t_un, xs_t_ub, xs_n_ui, xs_n_ur, xs_n_uc, xs_n_un, xs_n_ub, xs_m_ui, xs_m_ur, xs_m_uc, xs_m_un, xs_m_ub, xs_c_ui, xs_c_ur, xs_c_uc, xs_c_un, xs_c_ub, x_up_s, x_up_k, x_up_o, x_fU_s, x_fU_o]) <;> first | rfl | omega | (refine (?_ : (_ : Bool) = true); with_unfolding_all rfl)) | fail) only [k1, t9, ↓p_xgi, ↓p_xgr, ↓p_xpi, ↓p_xpr, ↓p_xo, ↓p_xld, ↓p_xlb, ↓p_xlr, ↓p_xst, ↓p_xsb, ↓p_xsr, ↓p_xlen, ↓p_xnew, ↓p_xnwa, ↓p_xcln, ↓p_xcst, ↓p_xcall, ↓p_xcalc, ↓p_xnm, ↓p_xdv, ↓p_xrem, h_xgiE, h_xgrE, h_xpiE, h_xprE, h_xoE, h_xldE, h_xlbE, h_xlrE, h_xstE, h_xsbE, h_xsrE, h_xlenE, h_xnewE, h_xnwaE, h_xclnE, h_xcstE, h_xcallE, h_xcalcE, h_xnmE, h_xdvE, h_xremE, xs_k_ui, xs_k_ur, xs_k_uc, xs_k_un, xs_k_ub, xs_r_ui, xs_r_ur, xs_r_uc, xs_r_un, xs_r_ub, xs_t_ui, xs_t_ur, xs_t_uc, xs_t_un, xs_t_ub, xs_n_ui, xs_n_ur, xs_n_uc, xs_n_un, xs_n_ub, xs_m_ui, xs_m_ur, xs_m_uc, xs_m_un, xs_m_ub, xs_c_ui, xs_c_ur, xs_c_uc, xs_c_un, xs_c_ub, x_up_s, x_up_k, x_up_o, x_fU_s, x_fU_o, ↓reduceIte, h_ldE, h_stE, h_nmE, h_nSE, h_callE, h_callvE, h_dvE, h_remE, if_true, if_false, z_upS, z_upO, z_upK, nI_add, z_mul, z_sub, z_div, Nat.add_zero, Nat.mul_zero, Nat.zero_add, Nat.sub_zero, Nat.zero_mul, z_ltT, z_ltF, z_leT, z_leF, z_eqT, z_eqF, z_inT, z_clT, not_true_eq_false, not_false_eq_true, eq_self, true_or, or_true, z_m_lt, z_m_le, z_lt_m, z_le_m, z_eq_m, z_m_eq, z_rz0, z_rz1, z_m_add, z_of, ↓z_m1, l_0, l_1, l_2, l_3, l_4, l_5, l_6, l_7, l_8, l_9, l_10, l_11, l_12, l_13, l_14, l_15, l_16, l_17, l_18, l_19, l_20, l_21, l_22, l_23, l_24, l_25, l_26, l_27, l_28, l_29, l_30, l_31, l_32, l_33, l_34, l_35, l_36, l_37, l_38, l_39, l_40, l_41, l_42, l_43, l_44, l_45, l_46, l_47, l_48, l_49, l_50, l_51, l_52, l_53, l_54, l_55, l_56, l_57, l_59, l_60, l_61, l_62, l_63, l_64, l_65, l_80, l_86, l_87, l_88, l_89, l_90, l_91, l_92, l_93, l_94, l_95, l_97, l_99, l_100, l_107, l_119, l_122, l_124, l_129, l_140, l_141, l_142, l_143, l_144, l_145, l_147, l_150, l_159, l_160, l_161, l_162, l_205, l_253, l_255, l_256, l_269, l_305, l_380, l_399, l_400, l_420, l_430, l_516, l_600, l_720, l_820, l_905, l_921, l_937, l_953, l_970, l_999, l_1000, l_1790, l_4096, l_9999, l_1000000]
    · have hlt : i < wn := by omega
      have hn5 : 28 < n := by rw [hn]; unfold q_F; omega
      have e281 := fun K => F_s281 (m := i) hn hT0 h hB hlt K n 0 (by omega) (by omega)
      rw [← ih (i+1) (by omega) (by omega), F_X12_isSame_L271]
      simp (disch := first | omega | ((try simp (disch := omega) only [k1, t9, e281, xs_k_ui, xs_k_ur, xs_k_uc, xs_k_un, xs_k_ub, xs_r_ui, xs_r_ur, xs_r_uc, xs_r_un, xs_r_ub, xs_t_ui, xs_t_ur, xs_t_uc, xs_t_un, xs_t_ub, xs_n_ui, xs_n_ur, xs_n_uc, xs_n_un, xs_n_ub, xs_m_ui, xs_m_ur, xs_m_uc, xs_m_un, xs_m_ub, xs_c_ui, xs_c_ur, xs_c_uc, xs_c_un, xs_c_ub, x_up_s, x_up_k, x_up_o, x_fU_s, x_fU_o]) <;> first | rfl | omega | (refine (?_ : (_ : Bool) = true); with_unfolding_all rfl)) | fail) only [k1, t9, e281, ↓p_xgi, ↓p_xgr, ↓p_xpi, ↓p_xpr, ↓p_xo, ↓p_xld, ↓p_xlb, ↓p_xlr, ↓p_xst, ↓p_xsb, ↓p_xsr, ↓p_xlen, ↓p_xnew, ↓p_xnwa, ↓p_xcln, ↓p_xcst, ↓p_xcall, ↓p_xcalc, ↓p_xnm, ↓p_xdv, ↓p_xrem, h_xgiE, h_xgrE, h_xpiE, h_xprE, h_xoE, h_xldE, h_xlbE, h_xlrE, h_xstE, h_xsbE, h_xsrE, h_xlenE, h_xnewE, h_xnwaE, h_xclnE, h_xcstE, h_xcallE, h_xcalcE, h_xnmE, h_xdvE, h_xremE, xs_k_ui, xs_k_ur, xs_k_uc, xs_k_un, xs_k_ub, xs_r_ui, xs_r_ur, xs_r_uc, xs_r_un, xs_r_ub, xs_t_ui, xs_t_ur, xs_t_uc, xs_t_un, xs_t_ub, xs_n_ui, xs_n_ur, xs_n_uc, xs_n_un, xs_n_ub, xs_m_ui, xs_m_ur, xs_m_uc, xs_m_un, xs_m_ub, xs_c_ui, xs_c_ur, xs_c_uc, xs_c_un, xs_c_ub, x_up_s, x_up_k, x_up_o, x_fU_s, x_fU_o, ↓reduceIte, h_ldE, h_stE, h_nmE, h_nSE, h_callE, h_callvE, h_dvE, h_remE, if_true, if_false, z_upS, z_upO, z_upK, nI_add, z_mul, z_sub, z_div, Nat.add_zero, Nat.mul_zero, Nat.zero_add, Nat.sub_zero, Nat.zero_mul, z_ltT, z_ltF, z_leT, z_leF, z_eqT, z_eqF, z_inT, z_clT, not_true_eq_false, not_false_eq_true, eq_self, true_or, or_true, z_m_lt, z_m_le, z_lt_m, z_le_m, z_eq_m, z_m_eq, z_rz0, z_rz1, z_m_add, z_of, ↓z_m1, l_0, l_1, l_2, l_3, l_4, l_5, l_6, l_7, l_8, l_9, l_10, l_11, l_12, l_13, l_14, l_15, l_16, l_17, l_18, l_19, l_20, l_21, l_22, l_23, l_24, l_25, l_26, l_27, l_28, l_29, l_30, l_31, l_32, l_33, l_34, l_35, l_36, l_37, l_38, l_39, l_40, l_41, l_42, l_43, l_44, l_45, l_46, l_47, l_48, l_49, l_50, l_51, l_52, l_53, l_54, l_55, l_56, l_57, l_59, l_60, l_61, l_62, l_63, l_64, l_65, l_80, l_86, l_87, l_88, l_89, l_90, l_91, l_92, l_93, l_94, l_95, l_97, l_99, l_100, l_107, l_119, l_122, l_124, l_129, l_140, l_141, l_142, l_143, l_144, l_145, l_147, l_150, l_159, l_160, l_161, l_162, l_205, l_253, l_255, l_256, l_269, l_305, l_380, l_399, l_400, l_420, l_430, l_516, l_600, l_720, l_820, l_905, l_921, l_937, l_953, l_970, l_999, l_1000, l_1790, l_4096, l_9999, l_1000000]
theorem F_s406 {n q : Nat} (hn : n = q_F) {U : x_U} (hq : x_k U q = .inr (11, 0)) (h : z_CS mu me (x_c U) V hs wn) (hv : ∀ i, i < 11 → x_t U q i = y_look V hs.1 i) (K : x_U → Option (Int32 × x_U)) : ∀ j i, i ≤ 11 → 11 < j + i → F_X12_isSame_L406 n p q K j (nI i) U = K U := by
  intro j
  induction j with
  | zero => intro i h1 h2; omega
  | succ j ih =>
    intro i h1 h2
    by_cases hi : i = 11
    · subst hi
      rw [F_X12_isSame_L406]
      simp (disch := first | omega | ((try simp (disch := omega) only [xs_k_ui, xs_k_ur, xs_k_uc, xs_k_un, xs_k_ub, xs_r_ui, xs_r_ur, xs_r_uc, xs_r_un, xs_r_ub, xs_t_ui, xs_t_ur, xs_t_uc, xs_t_un, xs_t_ub, xs_n_ui, xs_n_ur, xs_n_uc, xs_n_un, xs_n_ub, xs_m_ui, xs_m_ur, xs_m_uc, xs_m_un, xs_m_ub, xs_c_ui, xs_c_ur, xs_c_uc, xs_c_un, xs_c_ub, x_up_s, x_up_k, x_up_o, x_fU_s, x_fU_o]) <;> first | rfl | omega | (refine (?_ : (_ : Bool) = true); with_unfolding_all rfl)) | fail) only [↓p_xgi, ↓p_xgr, ↓p_xpi, ↓p_xpr, ↓p_xo, ↓p_xld, ↓p_xlb, ↓p_xlr, ↓p_xst, ↓p_xsb, ↓p_xsr, ↓p_xlen, ↓p_xnew, ↓p_xnwa, ↓p_xcln, ↓p_xcst, ↓p_xcall, ↓p_xcalc, ↓p_xnm, ↓p_xdv, ↓p_xrem, h_xgiE, h_xgrE, h_xpiE, h_xprE, h_xoE, h_xldE, h_xlbE, h_xlrE, h_xstE, h_xsbE, h_xsrE, h_xlenE, h_xnewE, h_xnwaE, h_xclnE, h_xcstE, h_xcallE, h_xcalcE, h_xnmE, h_xdvE, h_xremE, xs_k_ui, xs_k_ur, xs_k_uc, xs_k_un, xs_k_ub, xs_r_ui, xs_r_ur, xs_r_uc, xs_r_un, xs_r_ub, xs_t_ui, xs_t_ur, xs_t_uc, xs_t_un, xs_t_ub, xs_n_ui, xs_n_ur, xs_n_uc, xs_n_un, xs_n_ub, xs_m_ui, xs_m_ur, xs_m_uc, xs_m_un, xs_m_ub, xs_c_ui, xs_c_ur, xs_c_uc, xs_c_un, xs_c_ub, x_up_s, x_up_k, x_up_o, x_fU_s, x_fU_o, ↓reduceIte, h_ldE, h_stE, h_nmE, h_nSE, h_callE, h_callvE, h_dvE, h_remE, if_true, if_false, z_upS, z_upO, z_upK, nI_add, z_mul, z_sub, z_div, Nat.add_zero, Nat.mul_zero, Nat.zero_add, Nat.sub_zero, Nat.zero_mul, z_ltT, z_ltF, z_leT, z_leF, z_eqT, z_eqF, z_inT, z_clT, not_true_eq_false, not_false_eq_true, eq_self, true_or, or_true, z_m_lt, z_m_le, z_lt_m, z_le_m, z_eq_m, z_m_eq, z_rz0, z_rz1, z_m_add, z_of, ↓z_m1, l_0, l_1, l_2, l_3, l_4, l_5, l_6, l_7, l_8, l_9, l_10, l_11, l_12, l_13, l_14, l_15, l_16, l_17, l_18, l_19, l_20, l_21, l_22, l_23, l_24, l_25, l_26, l_27, l_28, l_29, l_30, l_31, l_32, l_33, l_34, l_35, l_36, l_37, l_38, l_39, l_40, l_41, l_42, l_43, l_44, l_45, l_46, l_47, l_48, l_49, l_50, l_51, l_52, l_53, l_54, l_55, l_56, l_57, l_59, l_60, l_61, l_62, l_63, l_64, l_65, l_80, l_86, l_87, l_88, l_89, l_90, l_91, l_92, l_93, l_94, l_95, l_97, l_99, l_100, l_107, l_119, l_122, l_124, l_129, l_140, l_141, l_142, l_143, l_144, l_145, l_147, l_150, l_159, l_160, l_161, l_162, l_205, l_253, l_255, l_256, l_269, l_305, l_380, l_399, l_400, l_420, l_430, l_516, l_600, l_720, l_820, l_905, l_921, l_937, l_953, l_970, l_999, l_1000, l_1790, l_4096, l_9999, l_1000000]
    · have e := c_look h (i := i) (by omega)
      rw [← hn] at e
      have ev := hv i (by omega)
      have ec : ∀ u : x_U, x_c u = x_c U → True := fun _ _ => trivial
      rw [← ih (i+1) (by omega) (by omega), F_X12_isSame_L406]
      simp (disch := first | omega | ((try simp (disch := omega) only [e, ev, x_ucS, hq, xs_k_ui, xs_k_ur, xs_k_uc, xs_k_un, xs_k_ub, xs_r_ui, xs_r_ur, xs_r_uc, xs_r_un, xs_r_ub, xs_t_ui, xs_t_ur, xs_t_uc, xs_t_un, xs_t_ub, xs_n_ui, xs_n_ur, xs_n_uc, xs_n_un, xs_n_ub, xs_m_ui, xs_m_ur, xs_m_uc, xs_m_un, xs_m_ub, xs_c_ui, xs_c_ur, xs_c_uc, xs_c_un, xs_c_ub, x_up_s, x_up_k, x_up_o, x_fU_s, x_fU_o]) <;> first | rfl | omega | (refine (?_ : (_ : Bool) = true); with_unfolding_all rfl)) | fail) only [e, ev, x_ucS, hq, ↓p_xgi, ↓p_xgr, ↓p_xpi, ↓p_xpr, ↓p_xo, ↓p_xld, ↓p_xlb, ↓p_xlr, ↓p_xst, ↓p_xsb, ↓p_xsr, ↓p_xlen, ↓p_xnew, ↓p_xnwa, ↓p_xcln, ↓p_xcst, ↓p_xcall, ↓p_xcalc, ↓p_xnm, ↓p_xdv, ↓p_xrem, h_xgiE, h_xgrE, h_xpiE, h_xprE, h_xoE, h_xldE, h_xlbE, h_xlrE, h_xstE, h_xsbE, h_xsrE, h_xlenE, h_xnewE, h_xnwaE, h_xclnE, h_xcstE, h_xcallE, h_xcalcE, h_xnmE, h_xdvE, h_xremE, xs_k_ui, xs_k_ur, xs_k_uc, xs_k_un, xs_k_ub, xs_r_ui, xs_r_ur, xs_r_uc, xs_r_un, xs_r_ub, xs_t_ui, xs_t_ur, xs_t_uc, xs_t_un, xs_t_ub, xs_n_ui, xs_n_ur, xs_n_uc, xs_n_un, xs_n_ub, xs_m_ui, xs_m_ur, xs_m_uc, xs_m_un, xs_m_ub, xs_c_ui, xs_c_ur, xs_c_uc, xs_c_un, xs_c_ub, x_up_s, x_up_k, x_up_o, x_fU_s, x_fU_o, ↓reduceIte, h_ldE, h_stE, h_nmE, h_nSE, h_callE, h_callvE, h_dvE, h_remE, if_true, if_false, z_upS, z_upO, z_upK, nI_add, z_mul, z_sub, z_div, Nat.add_zero, Nat.mul_zero, Nat.zero_add, Nat.sub_zero, Nat.zero_mul, z_ltT, z_ltF, z_leT, z_leF, z_eqT, z_eqF, z_inT, z_clT, not_true_eq_false, not_false_eq_true, eq_self, true_or, or_true, z_m_lt, z_m_le, z_lt_m, z_le_m, z_eq_m, z_m_eq, z_rz0, z_rz1, z_m_add, z_of, ↓z_m1, l_0, l_1, l_2, l_3, l_4, l_5, l_6, l_7, l_8, l_9, l_10, l_11, l_12, l_13, l_14, l_15, l_16, l_17, l_18, l_19, l_20, l_21, l_22, l_23, l_24, l_25, l_26, l_27, l_28, l_29, l_30, l_31, l_32, l_33, l_34, l_35, l_36, l_37, l_38, l_39, l_40, l_41, l_42, l_43, l_44, l_45, l_46, l_47, l_48, l_49, l_50, l_51, l_52, l_53, l_54, l_55, l_56, l_57, l_59, l_60, l_61, l_62, l_63, l_64, l_65, l_80, l_86, l_87, l_88, l_89, l_90, l_91, l_92, l_93, l_94, l_95, l_97, l_99, l_100, l_107, l_119, l_122, l_124, l_129, l_140, l_141, l_142, l_143, l_144, l_145, l_147, l_150, l_159, l_160, l_161, l_162, l_205, l_253, l_255, l_256, l_269, l_305, l_380, l_399, l_400, l_420, l_430, l_516, l_600, l_720, l_820, l_905, l_921, l_937, l_953, l_970, l_999, l_1000, l_1790, l_4096, l_9999, l_1000000]
/-- the last look -/
theorem F_sEnd {n : Nat} (hn : n = q_F) {U : x_U} {Fz : Nat → Prop} (hT : x_TN U Fz p b L pl pa mu me d V) (h : z_CS mu me (x_c U) V hs wn) : (x_gi U p 12 7 fun v93 =>
  x_calc U (f_X11_of n 0 v93 0 (x_c U)) fun r95 s94 =>
  if r95 = (-2) then (
  x_gi s94 p 12 8 fun v96 =>
  x_calc s94 (f_X11_manOf n 0 v96 0 (x_c s94)) fun r98 s97 =>
  if r98 = (-1) then (
  x_gi s97 p 12 9 fun v99 =>
  x_calc s97 (f_X11_book n 0 v99 0 (x_c s97)) fun r101 s100 =>
  if r101 = (-2) then (
  x_calc s100 (f_X11_look n 0 12 (x_c s100)) fun r103 s102 =>
  x_gi s102 p 12 10 fun v104 =>
  if r103 = v104 then (
  x_calc s102 (f_X11_look n 0 13 (x_c s102)) fun r106 s105 =>
  x_gr s105 p 12 14 fun o107 =>
  x_len s105 o107 fun v108 =>
  if r106 = v108 then (
  x_calc s105 (f_X11_look n 0 14 (x_c s105)) fun r110 s109 =>
  x_gr s109 p 12 15 fun o111 =>
  x_len s109 o111 fun v112 =>
  if r110 = v112 then (
  some ((1 : Int32), s109))
  else (
  some (0, s109)))
  else (
  some (0, s105)))
  else (
  some (0, s102)))
  else (
  some (0, s100)))
  else (
  some (0, s97)))
  else (
  some (0, s94))) = some (nI 1, U) := by
  have hw := h.wn
  obtain ⟨h1, h2, h3, h4, h5, ⟨c, c1, c2, c3, c4, -⟩, ⟨c', d1, d2, d3, d4, -⟩, h8⟩ := hT
  obtain ⟨⟨⟨a1, a2, a3, a4, a5, a6⟩, ⟨k1, k2, k3, k4, k5, k6⟩, ⟨r1, r2, r3, r4, r5, r6, r7, r8⟩⟩, ⟨t0, t1, t2, t3, t4, t5, t6, t7, t8, t9, ta⟩, tm, tk⟩ : x_TV U p b L pl pa mu me V := ⟨h1, h2⟩
  have t9 := t9.trans hw.2.1
  have e1 := c_ofN (x := nI 0) h
  have e2 := c_manOfN (x := nI 0) h
  have e3 := c_bookN (x := nI 0) h
  have e4 : f_X11_look q_F 0 (nI 12) (x_c U) = some (V 90, x_c U) := c_look h (i := 12) (by omega)
  have e5 : f_X11_look q_F 0 (nI 13) (x_c U) = some (V 91, x_c U) := c_look h (i := 13) (by omega)
  have e6 : f_X11_look q_F 0 (nI 14) (x_c U) = some (V 92, x_c U) := c_look h (i := 14) (by omega)
  rw [← hn] at e1 e2 e3 e4 e5 e6
  rw [c2] at e5
  rw [d2] at e6
  simp (disch := first | omega | ((try simp (disch := omega) only [k1, t7, t8, t9, ta, e1, e2, e3, e4, e5, e6, x_ucS, r5, r6, c4, d4, xs_k_ui, xs_k_ur, xs_k_uc, xs_k_un, xs_k_ub, xs_r_ui, xs_r_ur, xs_r_uc, xs_r_un, xs_r_ub, xs_t_ui, xs_t_ur, xs_t_uc, xs_t_un, xs_t_ub, xs_n_ui, xs_n_ur, xs_n_uc, xs_n_un, xs_n_ub, xs_m_ui, xs_m_ur, xs_m_uc, xs_m_un, xs_m_ub, xs_c_ui, xs_c_ur, xs_c_uc, xs_c_un, xs_c_ub, x_up_s, x_up_k, x_up_o, x_fU_s, x_fU_o]) <;> first | rfl | omega | (refine (?_ : (_ : Bool) = true); with_unfolding_all rfl)) | fail) only [k1, t7, t8, t9, ta, e1, e2, e3, e4, e5, e6, x_ucS, r5, r6, c4, d4, ↓p_xgi, ↓p_xgr, ↓p_xpi, ↓p_xpr, ↓p_xo, ↓p_xld, ↓p_xlb, ↓p_xlr, ↓p_xst, ↓p_xsb, ↓p_xsr, ↓p_xlen, ↓p_xnew, ↓p_xnwa, ↓p_xcln, ↓p_xcst, ↓p_xcall, ↓p_xcalc, ↓p_xnm, ↓p_xdv, ↓p_xrem, h_xgiE, h_xgrE, h_xpiE, h_xprE, h_xoE, h_xldE, h_xlbE, h_xlrE, h_xstE, h_xsbE, h_xsrE, h_xlenE, h_xnewE, h_xnwaE, h_xclnE, h_xcstE, h_xcallE, h_xcalcE, h_xnmE, h_xdvE, h_xremE, xs_k_ui, xs_k_ur, xs_k_uc, xs_k_un, xs_k_ub, xs_r_ui, xs_r_ur, xs_r_uc, xs_r_un, xs_r_ub, xs_t_ui, xs_t_ur, xs_t_uc, xs_t_un, xs_t_ub, xs_n_ui, xs_n_ur, xs_n_uc, xs_n_un, xs_n_ub, xs_m_ui, xs_m_ur, xs_m_uc, xs_m_un, xs_m_ub, xs_c_ui, xs_c_ur, xs_c_uc, xs_c_un, xs_c_ub, x_up_s, x_up_k, x_up_o, x_fU_s, x_fU_o, ↓reduceIte, h_ldE, h_stE, h_nmE, h_nSE, h_callE, h_callvE, h_dvE, h_remE, if_true, if_false, z_upS, z_upO, z_upK, nI_add, z_mul, z_sub, z_div, Nat.add_zero, Nat.mul_zero, Nat.zero_add, Nat.sub_zero, Nat.zero_mul, z_ltT, z_ltF, z_leT, z_leF, z_eqT, z_eqF, z_inT, z_clT, not_true_eq_false, not_false_eq_true, eq_self, true_or, or_true, z_m_lt, z_m_le, z_lt_m, z_le_m, z_eq_m, z_m_eq, z_rz0, z_rz1, z_m_add, z_of, ↓z_m1, l_0, l_1, l_2, l_3, l_4, l_5, l_6, l_7, l_8, l_9, l_10, l_11, l_12, l_13, l_14, l_15, l_16, l_17, l_18, l_19, l_20, l_21, l_22, l_23, l_24, l_25, l_26, l_27, l_28, l_29, l_30, l_31, l_32, l_33, l_34, l_35, l_36, l_37, l_38, l_39, l_40, l_41, l_42, l_43, l_44, l_45, l_46, l_47, l_48, l_49, l_50, l_51, l_52, l_53, l_54, l_55, l_56, l_57, l_59, l_60, l_61, l_62, l_63, l_64, l_65, l_80, l_86, l_87, l_88, l_89, l_90, l_91, l_92, l_93, l_94, l_95, l_97, l_99, l_100, l_107, l_119, l_122, l_124, l_129, l_140, l_141, l_142, l_143, l_144, l_145, l_147, l_150, l_159, l_160, l_161, l_162, l_205, l_253, l_255, l_256, l_269, l_305, l_380, l_399, l_400, l_420, l_430, l_516, l_600, l_720, l_820, l_905, l_921, l_937, l_953, l_970, l_999, l_1000, l_1790, l_4096, l_9999, l_1000000]
theorem F_isSame {n : Nat} (hn : n = q_F) {Fz : Nat → Prop} (hT : x_TN u Fz p b L pl pa mu me d V) (h : z_CS mu me (x_c u) V hs wn) (hK : y_LK L d V) (hb : x_n u + 1 ≤ 500000) : ∃ u', x_fr (fun _ => False) (x_uc u (x_c u')) u' ∧ x_n u' = x_n u + 1 ∧ x_m u' = x_m u + 11 ∧ z_CS mu me (x_c u') V hs wn ∧ F_X12_isSame n p u = some (nI 1, u') := by
  have hE : y_EQ L d V mu me := hK.EQ h.1.1.1
  have hd6 : d 6 < 2147483648 := by have := hK.1 6; omega
  have hn5 : 200 < n := by rw [hn]; unfold q_F; omega
  have hw := h.wn
  have hbd := hT.bd
  obtain ⟨w', w1, w2, hB⟩ := hT.2.2.2.2.2.2.2
  have hww : w' = wn := by rw [hw.2.1, nI_eq (by omega) (by omega)] at w2; exact w2.symm
  subst hww
  have hV := hT.V
  obtain ⟨σ1, c1, eA⟩ := F_s2 hn hV hT.2.2.2.2.1 hd6 hE (fun (s41 : x_U) =>
  F_X12_isSame_L207 n p (fun  (s54 : x_U) =>
  F_X12_isSame_L271 n p (fun  (s62 : x_U) =>
  x_nwa s62 0 11 fun o63 s64 =>
  x_gi s64 p 12 7 fun v65 =>
  x_st s64 o63 0 v65 fun s66 =>
  x_gi s66 p 12 8 fun v67 =>
  x_st s66 o63 1 v67 fun s68 =>
  x_gi s68 p 12 1 fun v69 =>
  x_st s68 o63 2 v69 fun s70 =>
  x_gi s70 p 12 6 fun v71 =>
  x_st s70 o63 3 v71 fun s72 =>
  x_gi s72 p 12 2 fun v73 =>
  x_st s72 o63 4 v73 fun s74 =>
  x_gi s74 p 12 3 fun v75 =>
  x_st s74 o63 5 v75 fun s76 =>
  x_gi s76 p 12 4 fun v77 =>
  x_st s76 o63 6 v77 fun s78 =>
  x_gi s78 p 12 5 fun v79 =>
  x_st s78 o63 7 v79 fun s80 =>
  x_o s80 p 12 <|
  x_call (F_X12_lame n p s80) fun r82 s81 =>
  x_st s81 o63 8 r82 fun s84 =>
  x_gi s84 p 12 9 fun v85 =>
  x_st s84 o63 9 v85 fun s86 =>
  x_gi s86 p 12 0 fun v87 =>
  x_st s86 o63 10 v87 fun s88 =>
  F_X12_isSame_L406 n p o63 (fun  (s92 : x_U) =>
  x_gi s92 p 12 7 fun v93 =>
  x_calc s92 (f_X11_of n 0 v93 0 (x_c s92)) fun r95 s94 =>
  if r95 = (-2) then (
  x_gi s94 p 12 8 fun v96 =>
  x_calc s94 (f_X11_manOf n 0 v96 0 (x_c s94)) fun r98 s97 =>
  if r98 = (-1) then (
  x_gi s97 p 12 9 fun v99 =>
  x_calc s97 (f_X11_book n 0 v99 0 (x_c s97)) fun r101 s100 =>
  if r101 = (-2) then (
  x_calc s100 (f_X11_look n 0 12 (x_c s100)) fun r103 s102 =>
  x_gi s102 p 12 10 fun v104 =>
  if r103 = v104 then (
  x_calc s102 (f_X11_look n 0 13 (x_c s102)) fun r106 s105 =>
  x_gr s105 p 12 14 fun o107 =>
  x_len s105 o107 fun v108 =>
  if r106 = v108 then (
  x_calc s105 (f_X11_look n 0 14 (x_c s105)) fun r110 s109 =>
  x_gr s109 p 12 15 fun o111 =>
  x_len s109 o111 fun v112 =>
  if r110 = v112 then (
  some (1, s109))
  else (
  some (0, s109)))
  else (
  some (0, s105)))
  else (
  some (0, s102)))
  else (
  some (0, s100)))
  else (
  some (0, s97)))
  else (
  some (0, s94))) n 0 s88) n 0 s54) n 0 s41) n 0 (x_c u) (Nat.zero_le _) (by omega) h
  rw [x_ucS] at eA
  have eBC := fun K => F_s207 hn hV c1 K n 0 (Nat.zero_le _) (by omega)
  have eC := fun K => F_s271 hn hV c1 hB K n 0 (Nat.zero_le _) (by omega)
  have h86 : V 86 = nI mu := h.1.1.1.2.2.1
  have h87 : V 87 = nI me := h.1.1.1.2.2.2.1
  obtain ⟨U, hU⟩ : ∃ U, U = x_ui (x_ui (x_ui (x_ui (x_ui (x_ui (x_ui (x_ui (x_ui (x_ui (x_ui (x_un (x_uc u σ1) (.inr (11, 0)) 11 (fun _ => nI 0)) (x_n u) 0 (nI mu)) (x_n u) 1 (nI me)) (x_n u) 2 (V 0)) (x_n u) 3 (V 88)) (x_n u) 4 (V 1)) (x_n u) 5 (V 2)) (x_n u) 6 (V 3)) (x_n u) 7 (V 4)) (x_n u) 8 (V 7)) (x_n u) 9 (V 6)) (x_n u) 10 (V 5) := ⟨_, rfl⟩
  have cU : x_c U = σ1 := by rw [hU]; simp (disch := omega) only [xs_k_ui, xs_k_ur, xs_k_uc, xs_k_un, xs_k_ub, xs_r_ui, xs_r_ur, xs_r_uc, xs_r_un, xs_r_ub, xs_t_ui, xs_t_ur, xs_t_uc, xs_t_un, xs_t_ub, xs_n_ui, xs_n_ur, xs_n_uc, xs_n_un, xs_n_ub, xs_m_ui, xs_m_ur, xs_m_uc, xs_m_un, xs_m_ub, xs_c_ui, xs_c_ur, xs_c_uc, xs_c_un, xs_c_ub, x_up_s, x_up_k, x_up_o, x_fU_s, x_fU_o]
  have nU : x_n U = x_n u + 1 := by rw [hU]; simp (disch := omega) only [xs_k_ui, xs_k_ur, xs_k_uc, xs_k_un, xs_k_ub, xs_r_ui, xs_r_ur, xs_r_uc, xs_r_un, xs_r_ub, xs_t_ui, xs_t_ur, xs_t_uc, xs_t_un, xs_t_ub, xs_n_ui, xs_n_ur, xs_n_uc, xs_n_un, xs_n_ub, xs_m_ui, xs_m_ur, xs_m_uc, xs_m_un, xs_m_ub, xs_c_ui, xs_c_ur, xs_c_uc, xs_c_un, xs_c_ub, x_up_s, x_up_k, x_up_o, x_fU_s, x_fU_o]
  have mU : x_m U = x_m u + 11 := by rw [hU]; simp (disch := omega) only [xs_k_ui, xs_k_ur, xs_k_uc, xs_k_un, xs_k_ub, xs_r_ui, xs_r_ur, xs_r_uc, xs_r_un, xs_r_ub, xs_t_ui, xs_t_ur, xs_t_uc, xs_t_un, xs_t_ub, xs_n_ui, xs_n_ur, xs_n_uc, xs_n_un, xs_n_ub, xs_m_ui, xs_m_ur, xs_m_uc, xs_m_un, xs_m_ub, xs_c_ui, xs_c_ur, xs_c_uc, xs_c_un, xs_c_ub, x_up_s, x_up_k, x_up_o, x_fU_s, x_fU_o]
  have kU : x_k U (x_n u) = .inr (11, 0) := by rw [hU]; simp (disch := omega) only [xs_k_ui, xs_k_ur, xs_k_uc, xs_k_un, xs_k_ub, xs_r_ui, xs_r_ur, xs_r_uc, xs_r_un, xs_r_ub, xs_t_ui, xs_t_ur, xs_t_uc, xs_t_un, xs_t_ub, xs_n_ui, xs_n_ur, xs_n_uc, xs_n_un, xs_n_ub, xs_m_ui, xs_m_ur, xs_m_uc, xs_m_un, xs_m_ub, xs_c_ui, xs_c_ur, xs_c_uc, xs_c_un, xs_c_ub, x_up_s, x_up_k, x_up_o, x_fU_s, x_fU_o]
  have hf : x_fr (fun _ => False) (x_uc u (x_c U)) U := by
    refine ⟨rfl, by rw [nU]; exact Nat.le_succ _, by rw [mU]; exact Nat.le_add_right _ _, fun i hi => ?_, fun i hi _ => ⟨?_, ?_⟩⟩
    · have hi : i < x_n u ∨ 500000 < i := hi
      rw [hU]; simp (disch := omega) only [xs_k_ui, xs_k_ur, xs_k_uc, xs_k_un, xs_k_ub, xs_r_ui, xs_r_ur, xs_r_uc, xs_r_un, xs_r_ub, xs_t_ui, xs_t_ur, xs_t_uc, xs_t_un, xs_t_ub, xs_n_ui, xs_n_ur, xs_n_uc, xs_n_un, xs_n_ub, xs_m_ui, xs_m_ur, xs_m_uc, xs_m_un, xs_m_ub, xs_c_ui, xs_c_ur, xs_c_uc, xs_c_un, xs_c_ub, x_up_s, x_up_k, x_up_o, x_fU_s, x_fU_o]
    · have hi : i < x_n u ∨ 500000 < i := hi
      rw [hU]; simp (disch := omega) only [xs_k_ui, xs_k_ur, xs_k_uc, xs_k_un, xs_k_ub, xs_r_ui, xs_r_ur, xs_r_uc, xs_r_un, xs_r_ub, xs_t_ui, xs_t_ur, xs_t_uc, xs_t_un, xs_t_ub, xs_n_ui, xs_n_ur, xs_n_uc, xs_n_un, xs_n_ub, xs_m_ui, xs_m_ur, xs_m_uc, xs_m_un, xs_m_ub, xs_c_ui, xs_c_ur, xs_c_uc, xs_c_un, xs_c_ub, x_up_s, x_up_k, x_up_o, x_fU_s, x_fU_o]
    · have hi : i < x_n u ∨ 500000 < i := hi
      rw [hU]; simp (disch := omega) only [xs_k_ui, xs_k_ur, xs_k_uc, xs_k_un, xs_k_ub, xs_r_ui, xs_r_ur, xs_r_uc, xs_r_un, xs_r_ub, xs_t_ui, xs_t_ur, xs_t_uc, xs_t_un, xs_t_ub, xs_n_ui, xs_n_ur, xs_n_uc, xs_n_un, xs_n_ub, xs_m_ui, xs_m_ur, xs_m_uc, xs_m_un, xs_m_ub, xs_c_ui, xs_c_ur, xs_c_uc, xs_c_un, xs_c_ub, x_up_s, x_up_k, x_up_o, x_fU_s, x_fU_o]
  have hF0 := hT.2.2.1
  have hTU : x_TN U Fz p b L pl pa mu me d V := (hT.uc (σ := x_c U)).fr hf (by omega) (fun _ _ h => h) (fun _ _ h => h) (fun _ h => h) (fun i hi => ⟨by have := hF0.1 i hi; omega, fun h => hF0.2 i h hi⟩)
  have hvU : ∀ i, i < 11 → x_t U (x_n u) i = y_look V hs.1 i := by
    intro i hi
    have : i = 0 ∨ i = 1 ∨ i = 2 ∨ i = 3 ∨ i = 4 ∨ i = 5 ∨ i = 6 ∨ i = 7 ∨ i = 8 ∨ i = 9 ∨ i = 10 := by omega
    rw [hU]
    rcases this with rfl | rfl | rfl | rfl | rfl | rfl | rfl | rfl | rfl | rfl | rfl
    · show _ = V 86
      rw [h86]; simp (disch := omega) only [xs_k_ui, xs_k_ur, xs_k_uc, xs_k_un, xs_k_ub, xs_r_ui, xs_r_ur, xs_r_uc, xs_r_un, xs_r_ub, xs_t_ui, xs_t_ur, xs_t_uc, xs_t_un, xs_t_ub, xs_n_ui, xs_n_ur, xs_n_uc, xs_n_un, xs_n_ub, xs_m_ui, xs_m_ur, xs_m_uc, xs_m_un, xs_m_ub, xs_c_ui, xs_c_ur, xs_c_uc, xs_c_un, xs_c_ub, x_up_s, x_up_k, x_up_o, x_fU_s, x_fU_o]
    · show _ = V 87
      rw [h87]; simp (disch := omega) only [xs_k_ui, xs_k_ur, xs_k_uc, xs_k_un, xs_k_ub, xs_r_ui, xs_r_ur, xs_r_uc, xs_r_un, xs_r_ub, xs_t_ui, xs_t_ur, xs_t_uc, xs_t_un, xs_t_ub, xs_n_ui, xs_n_ur, xs_n_uc, xs_n_un, xs_n_ub, xs_m_ui, xs_m_ur, xs_m_uc, xs_m_un, xs_m_ub, xs_c_ui, xs_c_ur, xs_c_uc, xs_c_un, xs_c_ub, x_up_s, x_up_k, x_up_o, x_fU_s, x_fU_o]
    · show _ = V 0
      simp (disch := omega) only [xs_k_ui, xs_k_ur, xs_k_uc, xs_k_un, xs_k_ub, xs_r_ui, xs_r_ur, xs_r_uc, xs_r_un, xs_r_ub, xs_t_ui, xs_t_ur, xs_t_uc, xs_t_un, xs_t_ub, xs_n_ui, xs_n_ur, xs_n_uc, xs_n_un, xs_n_ub, xs_m_ui, xs_m_ur, xs_m_uc, xs_m_un, xs_m_ub, xs_c_ui, xs_c_ur, xs_c_uc, xs_c_un, xs_c_ub, x_up_s, x_up_k, x_up_o, x_fU_s, x_fU_o]
    · show _ = V 88
      simp (disch := omega) only [xs_k_ui, xs_k_ur, xs_k_uc, xs_k_un, xs_k_ub, xs_r_ui, xs_r_ur, xs_r_uc, xs_r_un, xs_r_ub, xs_t_ui, xs_t_ur, xs_t_uc, xs_t_un, xs_t_ub, xs_n_ui, xs_n_ur, xs_n_uc, xs_n_un, xs_n_ub, xs_m_ui, xs_m_ur, xs_m_uc, xs_m_un, xs_m_ub, xs_c_ui, xs_c_ur, xs_c_uc, xs_c_un, xs_c_ub, x_up_s, x_up_k, x_up_o, x_fU_s, x_fU_o]
    · show _ = V 1
      simp (disch := omega) only [xs_k_ui, xs_k_ur, xs_k_uc, xs_k_un, xs_k_ub, xs_r_ui, xs_r_ur, xs_r_uc, xs_r_un, xs_r_ub, xs_t_ui, xs_t_ur, xs_t_uc, xs_t_un, xs_t_ub, xs_n_ui, xs_n_ur, xs_n_uc, xs_n_un, xs_n_ub, xs_m_ui, xs_m_ur, xs_m_uc, xs_m_un, xs_m_ub, xs_c_ui, xs_c_ur, xs_c_uc, xs_c_un, xs_c_ub, x_up_s, x_up_k, x_up_o, x_fU_s, x_fU_o]
    · show _ = V 2
      simp (disch := omega) only [xs_k_ui, xs_k_ur, xs_k_uc, xs_k_un, xs_k_ub, xs_r_ui, xs_r_ur, xs_r_uc, xs_r_un, xs_r_ub, xs_t_ui, xs_t_ur, xs_t_uc, xs_t_un, xs_t_ub, xs_n_ui, xs_n_ur, xs_n_uc, xs_n_un, xs_n_ub, xs_m_ui, xs_m_ur, xs_m_uc, xs_m_un, xs_m_ub, xs_c_ui, xs_c_ur, xs_c_uc, xs_c_un, xs_c_ub, x_up_s, x_up_k, x_up_o, x_fU_s, x_fU_o]
    · show _ = V 3
      simp (disch := omega) only [xs_k_ui, xs_k_ur, xs_k_uc, xs_k_un, xs_k_ub, xs_r_ui, xs_r_ur, xs_r_uc, xs_r_un, xs_r_ub, xs_t_ui, xs_t_ur, xs_t_uc, xs_t_un, xs_t_ub, xs_n_ui, xs_n_ur, xs_n_uc, xs_n_un, xs_n_ub, xs_m_ui, xs_m_ur, xs_m_uc, xs_m_un, xs_m_ub, xs_c_ui, xs_c_ur, xs_c_uc, xs_c_un, xs_c_ub, x_up_s, x_up_k, x_up_o, x_fU_s, x_fU_o]
    · show _ = V 4
      simp (disch := omega) only [xs_k_ui, xs_k_ur, xs_k_uc, xs_k_un, xs_k_ub, xs_r_ui, xs_r_ur, xs_r_uc, xs_r_un, xs_r_ub, xs_t_ui, xs_t_ur, xs_t_uc, xs_t_un, xs_t_ub, xs_n_ui, xs_n_ur, xs_n_uc, xs_n_un, xs_n_ub, xs_m_ui, xs_m_ur, xs_m_uc, xs_m_un, xs_m_ub, xs_c_ui, xs_c_ur, xs_c_uc, xs_c_un, xs_c_ub, x_up_s, x_up_k, x_up_o, x_fU_s, x_fU_o]
    · show _ = V 7
      simp (disch := omega) only [xs_k_ui, xs_k_ur, xs_k_uc, xs_k_un, xs_k_ub, xs_r_ui, xs_r_ur, xs_r_uc, xs_r_un, xs_r_ub, xs_t_ui, xs_t_ur, xs_t_uc, xs_t_un, xs_t_ub, xs_n_ui, xs_n_ur, xs_n_uc, xs_n_un, xs_n_ub, xs_m_ui, xs_m_ur, xs_m_uc, xs_m_un, xs_m_ub, xs_c_ui, xs_c_ur, xs_c_uc, xs_c_un, xs_c_ub, x_up_s, x_up_k, x_up_o, x_fU_s, x_fU_o]
    · show _ = V 6
      simp (disch := omega) only [xs_k_ui, xs_k_ur, xs_k_uc, xs_k_un, xs_k_ub, xs_r_ui, xs_r_ur, xs_r_uc, xs_r_un, xs_r_ub, xs_t_ui, xs_t_ur, xs_t_uc, xs_t_un, xs_t_ub, xs_n_ui, xs_n_ur, xs_n_uc, xs_n_un, xs_n_ub, xs_m_ui, xs_m_ur, xs_m_uc, xs_m_un, xs_m_ub, xs_c_ui, xs_c_ur, xs_c_uc, xs_c_un, xs_c_ub, x_up_s, x_up_k, x_up_o, x_fU_s, x_fU_o]
    · show _ = V 5
      simp (disch := omega) only [xs_k_ui, xs_k_ur, xs_k_uc, xs_k_un, xs_k_ub, xs_r_ui, xs_r_ur, xs_r_uc, xs_r_un, xs_r_ub, xs_t_ui, xs_t_ur, xs_t_uc, xs_t_un, xs_t_ub, xs_n_ui, xs_n_ur, xs_n_uc, xs_n_un, xs_n_ub, xs_m_ui, xs_m_ur, xs_m_uc, xs_m_un, xs_m_ub, xs_c_ui, xs_c_ur, xs_c_uc, xs_c_un, xs_c_ub, x_up_s, x_up_k, x_up_o, x_fU_s, x_fU_o]
  have eD := fun K => F_s406 (p := p) hn (U := U) kU (by rw [cU]; exact c1) hvU K n 0 (Nat.zero_le _) (by omega)
  have eE := F_sEnd hn hTU (hs := hs) (wn := w') (by rw [cU]; exact c1)
  have eLm : ∀ v : x_U, x_TV v p b L pl pa mu me V → F_X12_lame n p v = some (V 7, v) := fun v hv => F_lame (by omega) hv h.1.1.1
  have eL8 := eLm (x_ui (x_ui (x_ui (x_ui (x_ui (x_ui (x_ui (x_ui (x_un (x_uc u σ1) (.inr (11, 0)) 11 (fun _ => nI 0)) (x_n u) 0 (nI mu)) (x_n u) 1 (nI me)) (x_n u) 2 (V 0)) (x_n u) 3 (V 88)) (x_n u) 4 (V 1)) (x_n u) 5 (V 2)) (x_n u) 6 (V 3)) (x_n u) 7 (V 4)) (by
    have e8 : x_fr (fun _ => False) (x_uc u σ1) (x_ui (x_ui (x_ui (x_ui (x_ui (x_ui (x_ui (x_ui (x_un (x_uc u σ1) (.inr (11, 0)) 11 (fun _ => nI 0)) (x_n u) 0 (nI mu)) (x_n u) 1 (nI me)) (x_n u) 2 (V 0)) (x_n u) 3 (V 88)) (x_n u) 4 (V 1)) (x_n u) 5 (V 2)) (x_n u) 6 (V 3)) (x_n u) 7 (V 4)) := by
      refine ⟨rfl, Nat.le_succ _, Nat.le_add_right _ _, fun i hi => ?_, fun i hi _ => ⟨?_, ?_⟩⟩
      · have hi : i < x_n u ∨ 500000 < i := hi
        simp (disch := omega) only [xs_k_ui, xs_k_ur, xs_k_uc, xs_k_un, xs_k_ub, xs_r_ui, xs_r_ur, xs_r_uc, xs_r_un, xs_r_ub, xs_t_ui, xs_t_ur, xs_t_uc, xs_t_un, xs_t_ub, xs_n_ui, xs_n_ur, xs_n_uc, xs_n_un, xs_n_ub, xs_m_ui, xs_m_ur, xs_m_uc, xs_m_un, xs_m_ub, xs_c_ui, xs_c_ur, xs_c_uc, xs_c_un, xs_c_ub, x_up_s, x_up_k, x_up_o, x_fU_s, x_fU_o]
      · have hi : i < x_n u ∨ 500000 < i := hi
        simp (disch := omega) only [xs_k_ui, xs_k_ur, xs_k_uc, xs_k_un, xs_k_ub, xs_r_ui, xs_r_ur, xs_r_uc, xs_r_un, xs_r_ub, xs_t_ui, xs_t_ur, xs_t_uc, xs_t_un, xs_t_ub, xs_n_ui, xs_n_ur, xs_n_uc, xs_n_un, xs_n_ub, xs_m_ui, xs_m_ur, xs_m_uc, xs_m_un, xs_m_ub, xs_c_ui, xs_c_ur, xs_c_uc, xs_c_un, xs_c_ub, x_up_s, x_up_k, x_up_o, x_fU_s, x_fU_o]
      · have hi : i < x_n u ∨ 500000 < i := hi
        simp (disch := omega) only [xs_k_ui, xs_k_ur, xs_k_uc, xs_k_un, xs_k_ub, xs_r_ui, xs_r_ur, xs_r_uc, xs_r_un, xs_r_ub, xs_t_ui, xs_t_ur, xs_t_uc, xs_t_un, xs_t_ub, xs_n_ui, xs_n_ur, xs_n_uc, xs_n_un, xs_n_ub, xs_m_ui, xs_m_ur, xs_m_uc, xs_m_un, xs_m_ub, xs_c_ui, xs_c_ur, xs_c_uc, xs_c_un, xs_c_ub, x_up_s, x_up_k, x_up_o, x_fU_s, x_fU_o]
    exact ((hT.uc (σ := σ1)).fr e8 hb (fun _ _ h => h) (fun _ _ h => h) (fun _ h => h) (fun i hi => ⟨by have := hF0.1 i hi; show i < x_n u + 1; omega, fun h => hF0.2 i h hi⟩)).V)
  refine ⟨U, hf, nU, mU, by rw [cU]; exact c1, ?_⟩
  have eDE : ∀ K : x_U → Option (Int32 × x_U), K U = some (nI 1, U) → F_X12_isSame_L406 n p (x_n u) K n (nI 0) U = some (nI 1, U) := fun K h => (eD K).trans h
  refine Eq.trans (show F_X12_isSame n p u = _ from eA) ?_
  obtain ⟨⟨⟨a1, a2, a3, a4, a5, a6⟩, ⟨k1, k2, k3, k4, k5, k6⟩, ⟨r1, r2, r3, r4, r5, r6, r7, r8⟩⟩, ⟨t0, t1, t2, t3, t4, t5, t6, t7, t8, t9, ta⟩, tm, tk⟩ := hV
  simp (disch := first | omega | ((try simp (disch := omega) only [eBC, eC, k1, k2, k3, k4, k5, k6, r1, r2, r3, r4, r5, r6, r7, r8, t0, t1, t2, t3, t4, t5, t6, t7, t8, t9, ta, tm, tk, eL8, xs_k_ui, xs_k_ur, xs_k_uc, xs_k_un, xs_k_ub, xs_r_ui, xs_r_ur, xs_r_uc, xs_r_un, xs_r_ub, xs_t_ui, xs_t_ur, xs_t_uc, xs_t_un, xs_t_ub, xs_n_ui, xs_n_ur, xs_n_uc, xs_n_un, xs_n_ub, xs_m_ui, xs_m_ur, xs_m_uc, xs_m_un, xs_m_ub, xs_c_ui, xs_c_ur, xs_c_uc, xs_c_un, xs_c_ub, x_up_s, x_up_k, x_up_o, x_fU_s, x_fU_o]) <;> first | rfl | omega | (refine (?_ : (_ : Bool) = true); with_unfolding_all rfl)) | fail) only [eBC, eC, k1, k2, k3, k4, k5, k6, r1, r2, r3, r4, r5, r6, r7, r8, t0, t1, t2, t3, t4, t5, t6, t7, t8, t9, ta, tm, tk, eL8, ↓p_xgi, ↓p_xgr, ↓p_xpi, ↓p_xpr, ↓p_xo, ↓p_xld, ↓p_xlb, ↓p_xlr, ↓p_xst, ↓p_xsb, ↓p_xsr, ↓p_xlen, ↓p_xnew, ↓p_xnwa, ↓p_xcln, ↓p_xcst, ↓p_xcall, ↓p_xcalc, ↓p_xnm, ↓p_xdv, ↓p_xrem, h_xgiE, h_xgrE, h_xpiE, h_xprE, h_xoE, h_xldE, h_xlbE, h_xlrE, h_xstE, h_xsbE, h_xsrE, h_xlenE, h_xnewE, h_xnwaE, h_xclnE, h_xcstE, h_xcallE, h_xcalcE, h_xnmE, h_xdvE, h_xremE, xs_k_ui, xs_k_ur, xs_k_uc, xs_k_un, xs_k_ub, xs_r_ui, xs_r_ur, xs_r_uc, xs_r_un, xs_r_ub, xs_t_ui, xs_t_ur, xs_t_uc, xs_t_un, xs_t_ub, xs_n_ui, xs_n_ur, xs_n_uc, xs_n_un, xs_n_ub, xs_m_ui, xs_m_ur, xs_m_uc, xs_m_un, xs_m_ub, xs_c_ui, xs_c_ur, xs_c_uc, xs_c_un, xs_c_ub, x_up_s, x_up_k, x_up_o, x_fU_s, x_fU_o, ↓reduceIte, h_ldE, h_stE, h_nmE, h_nSE, h_callE, h_callvE, h_dvE, h_remE, if_true, if_false, z_upS, z_upO, z_upK, nI_add, z_mul, z_sub, z_div, Nat.add_zero, Nat.mul_zero, Nat.zero_add, Nat.sub_zero, Nat.zero_mul, z_ltT, z_ltF, z_leT, z_leF, z_eqT, z_eqF, z_inT, z_clT, not_true_eq_false, not_false_eq_true, eq_self, true_or, or_true, z_m_lt, z_m_le, z_lt_m, z_le_m, z_eq_m, z_m_eq, z_rz0, z_rz1, z_m_add, z_of, ↓z_m1, l_0, l_1, l_2, l_3, l_4, l_5, l_6, l_7, l_8, l_9, l_10, l_11, l_12, l_13, l_14, l_15, l_16, l_17, l_18, l_19, l_20, l_21, l_22, l_23, l_24, l_25, l_26, l_27, l_28, l_29, l_30, l_31, l_32, l_33, l_34, l_35, l_36, l_37, l_38, l_39, l_40, l_41, l_42, l_43, l_44, l_45, l_46, l_47, l_48, l_49, l_50, l_51, l_52, l_53, l_54, l_55, l_56, l_57, l_59, l_60, l_61, l_62, l_63, l_64, l_65, l_80, l_86, l_87, l_88, l_89, l_90, l_91, l_92, l_93, l_94, l_95, l_97, l_99, l_100, l_107, l_119, l_122, l_124, l_129, l_140, l_141, l_142, l_143, l_144, l_145, l_147, l_150, l_159, l_160, l_161, l_162, l_205, l_253, l_255, l_256, l_269, l_305, l_380, l_399, l_400, l_420, l_430, l_516, l_600, l_720, l_820, l_905, l_921, l_937, l_953, l_970, l_999, l_1000, l_1790, l_4096, l_9999, l_1000000]
  rw [← hU]
  exact eDE _ eE
end SA
