/-! going: class and train -/
section GO
variable {p b L pl pa : Nat} {d : Nat → Nat}
theorem x_TN.lm {u : x_U} {Fz : Nat → Prop} {mu me m s : Nat} {V : Nat → Int32} {y : Nat} {x : Int32} (hT : x_TN u Fz p b L pl pa mu me d V) (hm : m < mu) (h7 : V 7 = nI s) (hs : s < 4096) (hy : y < 4096) (h1 : nI (if y.testBit m = true then 1 else 0) = x) (h2 : ∀ t, t < 12 → t ≠ m → y.testBit t = s.testBit t) : x_TN (x_ui u (b+m) 2 x) Fz p b L pl pa mu me d (z_u V 7 (nI y)) := by
  have hb := hT.bd
  refine hT.up (by unfold x_own; omega) (hT.2.1.lm (by omega) (by omega) (by omega) hm (by rw [z_bitE (by omega) (by omega)]; exact h1) (fun t ht hn => by rw [h7, z_bitE (by omega) (by omega), z_bitE (by omega) (by omega), h2 t ht hn])) (fun c hc => z_uK (by omega)) (hT.2.2.2.2.2.2.2.cg (z_uK (by omega)) (fun c a1 a2 => z_uK (by omega)))
theorem y_risk_5 {V : Nat → Int32} {m : Nat} {h dr x : Int32} : y_risk L d (z_u V 5 x) m h (z_u V 5 x 2) = y_risk L d V m h (V 2) := by
  have e : z_u V 5 x 2 = V 2 := z_uK (by omega)
  rw [e]
  have ek : ∀ q, q = 119 ∨ q = 124 → z_skl (z_u V 5 x) q (V 2) = z_skl V q (V 2) := fun q hq => by
    unfold z_skl
    split
    · rfl
    · exact z_uK (by omega)
  unfold y_risk
  rw [z_uK (by omega), z_uK (by omega), ek 119 (Or.inl rfl), ek 124 (Or.inr rfl)]
theorem q_trav_L {n mu me w0 h : Nat} {P : Nat → Int32} {cc x1 : Int32} {K1 : Int32 → q_Sto → Option (Int32 × q_Sto)} {K2 : Int32 → x_U → Option (Int32 × x_U)} (hn : 402 ≤ n) (hh : h ≤ 24) : ∀ j i cnt (V : Nat → Int32) (σc : q_Sto), i + j = mu → z_X mu me true w0 P σc V → y_LK L d V →
    ∃ W r, (∀ l, j < l → ∀ σ, z_X mu me true w0 P σ V → ∃ σ', z_fX σ σ' ∧ z_X mu me true w0 P σ' W ∧ f_X10_travel_L26 n 1 cc (nI h) (nI 1) K1 l (nI cnt) (nI i) σ = K1 (nI r) σ') ∧
      (∀ l, j < l → ∀ u Fz, x_TN u Fz p b L pl pa mu me d V → x_n u + j ≤ 500000 → ∃ u' Fz', x_sp (x_own p b mu me) j (4*j) u u' Fz Fz' ∧ x_TN u' Fz' p b L pl pa mu me d W ∧ F_X12_goes_L47 n p x1 (nI 1) (nI h) K2 l (nI cnt) (nI i) u = K2 (nI r) u') ∧ z_sam V W ∧ (∃ σd, z_X mu me true w0 P σd W) ∧ W 1 = V 1 ∧ r ≤ cnt + j := by
  intro j
  induction j with
  | zero =>
    intro i cnt V σc hi hc hK
    have hmu := hc.1.1.1
    have hi : i = mu := by omega
    subst hi
    refine ⟨V, cnt, fun l hl σ h => ⟨σ, z_fX.refl σ, h, ?_⟩, fun l hl u Fz hT hn5 => ⟨u, Fz, x_sp.rf, hT, ?_⟩, z_sam.refl V, ⟨σc, hc⟩, rfl, by omega⟩
    · cases l with
      | zero => omega
      | succ l =>
        have g8 : σ 2 8 = nI i := h.1.2.1.1.1
        rw [f_X10_travel_L26]
        simp (disch := omega) only [g8, ↓reduceIte, ↓p_ld, ↓p_st, ↓p_nm, ↓p_nS, ↓p_jn, ↓p_call, ↓p_callv, ↓p_dv, ↓p_rem, h_ldE, h_stE, h_nmE, h_nSE, h_callE, h_callvE, h_dvE, h_remE, if_true, if_false, z_upS, z_upO, z_upK, nI_add, z_mul, z_sub, z_div, Nat.add_zero, Nat.mul_zero, Nat.zero_add, Nat.sub_zero, Nat.zero_mul, z_ltT, z_ltF, z_leT, z_leF, z_eqT, z_eqF, z_inT, z_clT, not_true_eq_false, not_false_eq_true, eq_self, true_or, or_true, z_m_lt, z_m_le, z_lt_m, z_le_m, z_eq_m, z_m_eq, z_rz0, z_rz1, z_m_add, z_of, r_0_0, r_0_1, r_0_3, r_0_4, r_0_5, r_0_6, r_0_7, r_0_8, r_0_9, r_0_10, r_1_0, r_1_1, r_1_2, r_1_3, r_1_4, r_1_5, r_1_6, r_1_7, r_1_8, r_2_0, r_2_1, r_2_2, r_2_3, r_2_4, r_2_5, r_2_6, r_2_7, r_11_0, r_11_1, r_11_2, r_11_3, r_11_4, r_11_5, r_11_6, r_19_0, r_21_0, r_23_0, r_25_0, r_27_0, r_61_0, r_117_0, r_117_1, r_117_2, r_117_3, r_117_4, r_117_5, r_117_6, r_117_7, r_126_0, r_126_1, r_126_2, r_126_3, r_126_4, r_132_0, r_132_1, r_135_0, r_135_1, r_135_2, r_135_3, r_135_4, r_135_5, r_142_0, r_144_0, r_144_1, r_144_2, r_145_0, r_145_1, r_145_2, r_145_3, r_145_4, r_145_5, r_145_6, r_154_0, r_154_1, r_155_0, ↓z_m1, l_0, l_1, l_2, l_3, l_4, l_5, l_6, l_7, l_8, l_9, l_10, l_11, l_12, l_13, l_14, l_15, l_16, l_17, l_18, l_19, l_20, l_21, l_22, l_23, l_24, l_25, l_26, l_27, l_28, l_29, l_30, l_31, l_32, l_33, l_34, l_35, l_36, l_37, l_38, l_39, l_40, l_41, l_42, l_43, l_44, l_45, l_46, l_47, l_48, l_49, l_50, l_51, l_52, l_53, l_54, l_55, l_56, l_57, l_59, l_60, l_61, l_62, l_63, l_64, l_65, l_80, l_86, l_87, l_88, l_89, l_90, l_91, l_92, l_93, l_94, l_95, l_97, l_99, l_100, l_107, l_119, l_122, l_124, l_129, l_140, l_141, l_142, l_143, l_144, l_145, l_147, l_150, l_159, l_160, l_161, l_162, l_205, l_253, l_255, l_256, l_269, l_305, l_380, l_399, l_400, l_420, l_430, l_516, l_600, l_720, l_820, l_905, l_921, l_937, l_953, l_970, l_999, l_1000, l_1790, l_4096, l_9999, l_1000000]
    · cases l with
      | zero => omega
      | succ l =>
        obtain ⟨⟨⟨a1, a2, a3, a4, a5, a6⟩, ⟨k1, k2, k3, k4, k5, k6⟩, ⟨r1, r2, r3, r4, r5, r6, r7, r8⟩⟩, ⟨t0, t1, t2, t3, t4, t5, t6, t7, t8, t9, ta⟩, tm, tk⟩ := hT.V
        rw [F_X12_goes_L47]
        simp (disch := first | omega | ((try simp (disch := omega) only [k1, t7, xs_k_ui, xs_k_ur, xs_k_uc, xs_k_un, xs_k_ub, xs_r_ui, xs_r_ur, xs_r_uc, xs_r_un, xs_r_ub, xs_t_ui, xs_t_ur, xs_t_uc, xs_t_un, xs_t_ub, xs_n_ui, xs_n_ur, xs_n_uc, xs_n_un, xs_n_ub, xs_m_ui, xs_m_ur, xs_m_uc, xs_m_un, xs_m_ub, xs_c_ui, xs_c_ur, xs_c_uc, xs_c_un, xs_c_ub, x_up_s, x_up_k, x_up_o, x_fU_s, x_fU_o]) <;> first | rfl | omega | (refine (?_ : (_ : Bool) = true); with_unfolding_all rfl)) | fail) only [k1, t7, ↓p_xgi, ↓p_xgr, ↓p_xpi, ↓p_xpr, ↓p_xo, ↓p_xld, ↓p_xlb, ↓p_xlr, ↓p_xst, ↓p_xsb, ↓p_xsr, ↓p_xlen, ↓p_xnew, ↓p_xnwa, ↓p_xcln, ↓p_xcst, ↓p_xcall, ↓p_xcalc, ↓p_xnm, ↓p_xdv, ↓p_xrem, h_xgiE, h_xgrE, h_xpiE, h_xprE, h_xoE, h_xldE, h_xlbE, h_xlrE, h_xstE, h_xsbE, h_xsrE, h_xlenE, h_xnewE, h_xnwaE, h_xclnE, h_xcstE, h_xcallE, h_xcalcE, h_xnmE, h_xdvE, h_xremE, xs_k_ui, xs_k_ur, xs_k_uc, xs_k_un, xs_k_ub, xs_r_ui, xs_r_ur, xs_r_uc, xs_r_un, xs_r_ub, xs_t_ui, xs_t_ur, xs_t_uc, xs_t_un, xs_t_ub, xs_n_ui, xs_n_ur, xs_n_uc, xs_n_un, xs_n_ub, xs_m_ui, xs_m_ur, xs_m_uc, xs_m_un, xs_m_ub, xs_c_ui, xs_c_ur, xs_c_uc, xs_c_un, xs_c_ub, x_up_s, x_up_k, x_up_o, x_fU_s, x_fU_o, ↓reduceIte, h_ldE, h_stE, h_nmE, h_nSE, h_callE, h_callvE, h_dvE, h_remE, if_true, if_false, z_upS, z_upO, z_upK, nI_add, z_mul, z_sub, z_div, Nat.add_zero, Nat.mul_zero, Nat.zero_add, Nat.sub_zero, Nat.zero_mul, z_ltT, z_ltF, z_leT, z_leF, z_eqT, z_eqF, z_inT, z_clT, not_true_eq_false, not_false_eq_true, eq_self, true_or, or_true, z_m_lt, z_m_le, z_lt_m, z_le_m, z_eq_m, z_m_eq, z_rz0, z_rz1, z_m_add, z_of, ↓z_m1, l_0, l_1, l_2, l_3, l_4, l_5, l_6, l_7, l_8, l_9, l_10, l_11, l_12, l_13, l_14, l_15, l_16, l_17, l_18, l_19, l_20, l_21, l_22, l_23, l_24, l_25, l_26, l_27, l_28, l_29, l_30, l_31, l_32, l_33, l_34, l_35, l_36, l_37, l_38, l_39, l_40, l_41, l_42, l_43, l_44, l_45, l_46, l_47, l_48, l_49, l_50, l_51, l_52, l_53, l_54, l_55, l_56, l_57, l_59, l_60, l_61, l_62, l_63, l_64, l_65, l_80, l_86, l_87, l_88, l_89, l_90, l_91, l_92, l_93, l_94, l_95, l_97, l_99, l_100, l_107, l_119, l_122, l_124, l_129, l_140, l_141, l_142, l_143, l_144, l_145, l_147, l_150, l_159, l_160, l_161, l_162, l_205, l_253, l_255, l_256, l_269, l_305, l_380, l_399, l_400, l_420, l_430, l_516, l_600, l_720, l_820, l_905, l_921, l_937, l_953, l_970, l_999, l_1000, l_1790, l_4096, l_9999, l_1000000]
  | succ j ih =>
    intro i cnt V σc hi hc hK
    have hmu := hc.1.1.1
    have hme := hc.1.1.2.1
    have h6 := hc.h6
    have hdr := hc.1.1.2.2.2.2.2.2.2.2.2.1
    obtain ⟨s, hs, h7⟩ := hc.1.1.2.2.2.2.1
    have h12 := z_p12 hmu
    have hlt : i < mu := by omega
    have hE := (hK.EQ hc.1.1).2.2 i h (V 2) hlt (by omega) hdr
    have hd6 := hK.1 6
    have ebit : z_bit (V 7) i = nI (if s.testBit i = true then 1 else 0) := by rw [h7, z_bitE (by omega) (by omega)]
    by_cases hl : s.testBit i = true
    · obtain ⟨W, r, w1, w2, w5, w3, w4, w6⟩ := ih (i+1) cnt V σc (by omega) hc hK
      refine ⟨W, r, fun l hl2 σ h => ?_, fun l hl2 u Fz hT hn5 => ?_, w5, w3, w4, by omega⟩
      · cases l with
        | zero => omega
        | succ l =>
          obtain ⟨σ', k1, k2, k3⟩ := w1 l (by omega) σ h
          have g8 : σ 2 8 = nI mu := h.1.2.1.1.1
          have e5 : σ 5 i = nI 1 := by
            have := h.1.2.1.2.2.1 i (by omega)
            rw [h7, z_bitE (by omega) (by omega), if_pos hl] at this
            exact this
          refine ⟨σ', k1, k2, ?_⟩
          rw [← k3, f_X10_travel_L26]
          simp (disch := omega) only [g8, e5, ↓reduceIte, ↓p_ld, ↓p_st, ↓p_nm, ↓p_nS, ↓p_jn, ↓p_call, ↓p_callv, ↓p_dv, ↓p_rem, h_ldE, h_stE, h_nmE, h_nSE, h_callE, h_callvE, h_dvE, h_remE, if_true, if_false, z_upS, z_upO, z_upK, nI_add, z_mul, z_sub, z_div, Nat.add_zero, Nat.mul_zero, Nat.zero_add, Nat.sub_zero, Nat.zero_mul, z_ltT, z_ltF, z_leT, z_leF, z_eqT, z_eqF, z_inT, z_clT, not_true_eq_false, not_false_eq_true, eq_self, true_or, or_true, z_m_lt, z_m_le, z_lt_m, z_le_m, z_eq_m, z_m_eq, z_rz0, z_rz1, z_m_add, z_of, r_0_0, r_0_1, r_0_3, r_0_4, r_0_5, r_0_6, r_0_7, r_0_8, r_0_9, r_0_10, r_1_0, r_1_1, r_1_2, r_1_3, r_1_4, r_1_5, r_1_6, r_1_7, r_1_8, r_2_0, r_2_1, r_2_2, r_2_3, r_2_4, r_2_5, r_2_6, r_2_7, r_11_0, r_11_1, r_11_2, r_11_3, r_11_4, r_11_5, r_11_6, r_19_0, r_21_0, r_23_0, r_25_0, r_27_0, r_61_0, r_117_0, r_117_1, r_117_2, r_117_3, r_117_4, r_117_5, r_117_6, r_117_7, r_126_0, r_126_1, r_126_2, r_126_3, r_126_4, r_132_0, r_132_1, r_135_0, r_135_1, r_135_2, r_135_3, r_135_4, r_135_5, r_142_0, r_144_0, r_144_1, r_144_2, r_145_0, r_145_1, r_145_2, r_145_3, r_145_4, r_145_5, r_145_6, r_154_0, r_154_1, r_155_0, ↓z_m1, l_0, l_1, l_2, l_3, l_4, l_5, l_6, l_7, l_8, l_9, l_10, l_11, l_12, l_13, l_14, l_15, l_16, l_17, l_18, l_19, l_20, l_21, l_22, l_23, l_24, l_25, l_26, l_27, l_28, l_29, l_30, l_31, l_32, l_33, l_34, l_35, l_36, l_37, l_38, l_39, l_40, l_41, l_42, l_43, l_44, l_45, l_46, l_47, l_48, l_49, l_50, l_51, l_52, l_53, l_54, l_55, l_56, l_57, l_59, l_60, l_61, l_62, l_63, l_64, l_65, l_80, l_86, l_87, l_88, l_89, l_90, l_91, l_92, l_93, l_94, l_95, l_97, l_99, l_100, l_107, l_119, l_122, l_124, l_129, l_140, l_141, l_142, l_143, l_144, l_145, l_147, l_150, l_159, l_160, l_161, l_162, l_205, l_253, l_255, l_256, l_269, l_305, l_380, l_399, l_400, l_420, l_430, l_516, l_600, l_720, l_820, l_905, l_921, l_937, l_953, l_970, l_999, l_1000, l_1790, l_4096, l_9999, l_1000000]
      · cases l with
        | zero => omega
        | succ l =>
          obtain ⟨u', Fz', q1, q2, q3⟩ := w2 l (by omega) u Fz hT (by omega)
          refine ⟨u', Fz', q1.w (by omega) (by omega), q2, ?_⟩
          obtain ⟨⟨⟨a1, a2, a3, a4, a5, a6⟩, ⟨k1, k2, k3, k4, k5, k6⟩, ⟨r1, r2, r3, r4, r5, r6, r7, r8⟩⟩, ⟨t0, t1, t2, t3, t4, t5, t6, t7, t8, t9, ta⟩, tm, tk⟩ := hT.V
          have tm2 := (tm i hlt).2.2.1
          rw [ebit, if_pos hl] at tm2
          rw [← q3, F_X12_goes_L47]
          simp (disch := first | omega | ((try simp (disch := omega) only [k1, t7, r1, r7, k2, k5, tm2, xs_k_ui, xs_k_ur, xs_k_uc, xs_k_un, xs_k_ub, xs_r_ui, xs_r_ur, xs_r_uc, xs_r_un, xs_r_ub, xs_t_ui, xs_t_ur, xs_t_uc, xs_t_un, xs_t_ub, xs_n_ui, xs_n_ur, xs_n_uc, xs_n_un, xs_n_ub, xs_m_ui, xs_m_ur, xs_m_uc, xs_m_un, xs_m_ub, xs_c_ui, xs_c_ur, xs_c_uc, xs_c_un, xs_c_ub, x_up_s, x_up_k, x_up_o, x_fU_s, x_fU_o]) <;> first | rfl | omega | (refine (?_ : (_ : Bool) = true); with_unfolding_all rfl)) | fail) only [k1, t7, r1, r7, k2, k5, tm2, ↓p_xgi, ↓p_xgr, ↓p_xpi, ↓p_xpr, ↓p_xo, ↓p_xld, ↓p_xlb, ↓p_xlr, ↓p_xst, ↓p_xsb, ↓p_xsr, ↓p_xlen, ↓p_xnew, ↓p_xnwa, ↓p_xcln, ↓p_xcst, ↓p_xcall, ↓p_xcalc, ↓p_xnm, ↓p_xdv, ↓p_xrem, h_xgiE, h_xgrE, h_xpiE, h_xprE, h_xoE, h_xldE, h_xlbE, h_xlrE, h_xstE, h_xsbE, h_xsrE, h_xlenE, h_xnewE, h_xnwaE, h_xclnE, h_xcstE, h_xcallE, h_xcalcE, h_xnmE, h_xdvE, h_xremE, xs_k_ui, xs_k_ur, xs_k_uc, xs_k_un, xs_k_ub, xs_r_ui, xs_r_ur, xs_r_uc, xs_r_un, xs_r_ub, xs_t_ui, xs_t_ur, xs_t_uc, xs_t_un, xs_t_ub, xs_n_ui, xs_n_ur, xs_n_uc, xs_n_un, xs_n_ub, xs_m_ui, xs_m_ur, xs_m_uc, xs_m_un, xs_m_ub, xs_c_ui, xs_c_ur, xs_c_uc, xs_c_un, xs_c_ub, x_up_s, x_up_k, x_up_o, x_fU_s, x_fU_o, ↓reduceIte, h_ldE, h_stE, h_nmE, h_nSE, h_callE, h_callvE, h_dvE, h_remE, if_true, if_false, z_upS, z_upO, z_upK, nI_add, z_mul, z_sub, z_div, Nat.add_zero, Nat.mul_zero, Nat.zero_add, Nat.sub_zero, Nat.zero_mul, z_ltT, z_ltF, z_leT, z_leF, z_eqT, z_eqF, z_inT, z_clT, not_true_eq_false, not_false_eq_true, eq_self, true_or, or_true, z_m_lt, z_m_le, z_lt_m, z_le_m, z_eq_m, z_m_eq, z_rz0, z_rz1, z_m_add, z_of, ↓z_m1, l_0, l_1, l_2, l_3, l_4, l_5, l_6, l_7, l_8, l_9, l_10, l_11, l_12, l_13, l_14, l_15, l_16, l_17, l_18, l_19, l_20, l_21, l_22, l_23, l_24, l_25, l_26, l_27, l_28, l_29, l_30, l_31, l_32, l_33, l_34, l_35, l_36, l_37, l_38, l_39, l_40, l_41, l_42, l_43, l_44, l_45, l_46, l_47, l_48, l_49, l_50, l_51, l_52, l_53, l_54, l_55, l_56, l_57, l_59, l_60, l_61, l_62, l_63, l_64, l_65, l_80, l_86, l_87, l_88, l_89, l_90, l_91, l_92, l_93, l_94, l_95, l_97, l_99, l_100, l_107, l_119, l_122, l_124, l_129, l_140, l_141, l_142, l_143, l_144, l_145, l_147, l_150, l_159, l_160, l_161, l_162, l_205, l_253, l_255, l_256, l_269, l_305, l_380, l_399, l_400, l_420, l_430, l_516, l_600, l_720, l_820, l_905, l_921, l_937, l_953, l_970, l_999, l_1000, l_1790, l_4096, l_9999, l_1000000]
    · have eC : ∀ σ, z_X mu me true w0 P σ V → σ 5 i = nI 0 := fun σ h => by
        have := h.1.2.1.2.2.1 i (by omega)
        rw [h7, z_bitE (by omega) (by omega), if_neg hl] at this
        exact this
      have rC : ∀ σ, z_X mu me true w0 P σ V → ∃ σ', (∀ o, o ≠ 18 → o ≠ 30 → σ' o = σ o) ∧ f_X10_riskOf n 1 (nI i) (nI h) (V 2) σ = some (nI (z_risk V i (nI h) (V 2)), σ') := fun σ h => c_riskOf h.1 hn (by omega) hdr
      have rF : ∀ u Fz, x_TN u Fz p b L pl pa mu me d V → F_X12_risk n p (nI i) (nI h) (V 2) u = some (nI (z_risk V i (nI h) (V 2)), u) := fun u Fz hT => by
        rw [hE]
        exact F_risk hT.V hT.2.2.2.2.1 hlt hdr (by omega)
      have rF2 : ∀ u Fz x, x_TN u Fz p b L pl pa mu me d (z_u V 5 x) → F_X12_risk n p (nI i) (nI h) (V 2) u = some (nI (z_risk V i (nI h) (V 2)), u) := fun u Fz x hT => by
        have e2 : z_u V 5 x 2 = V 2 := z_uK (by omega)
        have := F_risk (n := n) (h := h) hT.V hT.2.2.2.2.1 hlt (dr := z_u V 5 x 2) (by rw [e2]; exact hdr) (by omega)
        rw [y_risk_5 (dr := V 2), e2, ← hE] at this
        exact this
      have hR : z_risk V i (nI h) (V 2) ≤ 1000 := z_cl_le _ _
      generalize z_risk V i (nI h) (V 2) = R at *
      by_cases hR0 : R = 0
      · subst hR0
        obtain ⟨W, r, w1, w2, w5, w3, w4, w6⟩ := ih (i+1) cnt V σc (by omega) hc hK
        refine ⟨W, r, fun l hl2 σ h => ?_, fun l hl2 u Fz hT hn5 => ?_, w5, w3, w4, by omega⟩
        · cases l with
          | zero => omega
          | succ l =>
            obtain ⟨σ1, f1, f2⟩ := rC σ h
            obtain ⟨σ', k1, k2, k3⟩ := w1 l (by omega) σ1 (h.fr (fun o o1 o2 o3 => f1 o o3 (by omega)))
            have g8 : σ 2 8 = nI mu := h.1.2.1.1.1
            have g13 : σ 2 13 = V 2 := h.1.2.1.1.2.2.2.2.2.1
            have e5 := eC σ h
            refine ⟨σ', z_fX.trans (fun o ho => f1 o (by omega) (by omega)) k1, k2, ?_⟩
            rw [← k3, f_X10_travel_L26]
            simp (disch := omega) only [g8, e5, g13, f2, ↓reduceIte, ↓p_ld, ↓p_st, ↓p_nm, ↓p_nS, ↓p_jn, ↓p_call, ↓p_callv, ↓p_dv, ↓p_rem, h_ldE, h_stE, h_nmE, h_nSE, h_callE, h_callvE, h_dvE, h_remE, if_true, if_false, z_upS, z_upO, z_upK, nI_add, z_mul, z_sub, z_div, Nat.add_zero, Nat.mul_zero, Nat.zero_add, Nat.sub_zero, Nat.zero_mul, z_ltT, z_ltF, z_leT, z_leF, z_eqT, z_eqF, z_inT, z_clT, not_true_eq_false, not_false_eq_true, eq_self, true_or, or_true, z_m_lt, z_m_le, z_lt_m, z_le_m, z_eq_m, z_m_eq, z_rz0, z_rz1, z_m_add, z_of, r_0_0, r_0_1, r_0_3, r_0_4, r_0_5, r_0_6, r_0_7, r_0_8, r_0_9, r_0_10, r_1_0, r_1_1, r_1_2, r_1_3, r_1_4, r_1_5, r_1_6, r_1_7, r_1_8, r_2_0, r_2_1, r_2_2, r_2_3, r_2_4, r_2_5, r_2_6, r_2_7, r_11_0, r_11_1, r_11_2, r_11_3, r_11_4, r_11_5, r_11_6, r_19_0, r_21_0, r_23_0, r_25_0, r_27_0, r_61_0, r_117_0, r_117_1, r_117_2, r_117_3, r_117_4, r_117_5, r_117_6, r_117_7, r_126_0, r_126_1, r_126_2, r_126_3, r_126_4, r_132_0, r_132_1, r_135_0, r_135_1, r_135_2, r_135_3, r_135_4, r_135_5, r_142_0, r_144_0, r_144_1, r_144_2, r_145_0, r_145_1, r_145_2, r_145_3, r_145_4, r_145_5, r_145_6, r_154_0, r_154_1, r_155_0, ↓z_m1, l_0, l_1, l_2, l_3, l_4, l_5, l_6, l_7, l_8, l_9, l_10, l_11, l_12, l_13, l_14, l_15, l_16, l_17, l_18, l_19, l_20, l_21, l_22, l_23, l_24, l_25, l_26, l_27, l_28, l_29, l_30, l_31, l_32, l_33, l_34, l_35, l_36, l_37, l_38, l_39, l_40, l_41, l_42, l_43, l_44, l_45, l_46, l_47, l_48, l_49, l_50, l_51, l_52, l_53, l_54, l_55, l_56, l_57, l_59, l_60, l_61, l_62, l_63, l_64, l_65, l_80, l_86, l_87, l_88, l_89, l_90, l_91, l_92, l_93, l_94, l_95, l_97, l_99, l_100, l_107, l_119, l_122, l_124, l_129, l_140, l_141, l_142, l_143, l_144, l_145, l_147, l_150, l_159, l_160, l_161, l_162, l_205, l_253, l_255, l_256, l_269, l_305, l_380, l_399, l_400, l_420, l_430, l_516, l_600, l_720, l_820, l_905, l_921, l_937, l_953, l_970, l_999, l_1000, l_1790, l_4096, l_9999, l_1000000]
        · cases l with
          | zero => omega
          | succ l =>
            obtain ⟨u', Fz', q1, q2, q3⟩ := w2 l (by omega) u Fz hT (by omega)
            refine ⟨u', Fz', q1.w (by omega) (by omega), q2, ?_⟩
            have er := rF u Fz hT
            obtain ⟨⟨⟨a1, a2, a3, a4, a5, a6⟩, ⟨k1, k2, k3, k4, k5, k6⟩, ⟨r1, r2, r3, r4, r5, r6, r7, r8⟩⟩, ⟨t0, t1, t2, t3, t4, t5, t6, t7, t8, t9, ta⟩, tm, tk⟩ := hT.V
            have tm2 := (tm i hlt).2.2.1
            rw [ebit, if_neg hl] at tm2
            rw [← q3, F_X12_goes_L47]
            simp (disch := first | omega | ((try simp (disch := omega) only [k1, t3, t7, r1, r7, k2, k5, tm2, er, xs_k_ui, xs_k_ur, xs_k_uc, xs_k_un, xs_k_ub, xs_r_ui, xs_r_ur, xs_r_uc, xs_r_un, xs_r_ub, xs_t_ui, xs_t_ur, xs_t_uc, xs_t_un, xs_t_ub, xs_n_ui, xs_n_ur, xs_n_uc, xs_n_un, xs_n_ub, xs_m_ui, xs_m_ur, xs_m_uc, xs_m_un, xs_m_ub, xs_c_ui, xs_c_ur, xs_c_uc, xs_c_un, xs_c_ub, x_up_s, x_up_k, x_up_o, x_fU_s, x_fU_o]) <;> first | rfl | omega | (refine (?_ : (_ : Bool) = true); with_unfolding_all rfl)) | fail) only [k1, t3, t7, r1, r7, k2, k5, tm2, er, ↓p_xgi, ↓p_xgr, ↓p_xpi, ↓p_xpr, ↓p_xo, ↓p_xld, ↓p_xlb, ↓p_xlr, ↓p_xst, ↓p_xsb, ↓p_xsr, ↓p_xlen, ↓p_xnew, ↓p_xnwa, ↓p_xcln, ↓p_xcst, ↓p_xcall, ↓p_xcalc, ↓p_xnm, ↓p_xdv, ↓p_xrem, h_xgiE, h_xgrE, h_xpiE, h_xprE, h_xoE, h_xldE, h_xlbE, h_xlrE, h_xstE, h_xsbE, h_xsrE, h_xlenE, h_xnewE, h_xnwaE, h_xclnE, h_xcstE, h_xcallE, h_xcalcE, h_xnmE, h_xdvE, h_xremE, xs_k_ui, xs_k_ur, xs_k_uc, xs_k_un, xs_k_ub, xs_r_ui, xs_r_ur, xs_r_uc, xs_r_un, xs_r_ub, xs_t_ui, xs_t_ur, xs_t_uc, xs_t_un, xs_t_ub, xs_n_ui, xs_n_ur, xs_n_uc, xs_n_un, xs_n_ub, xs_m_ui, xs_m_ur, xs_m_uc, xs_m_un, xs_m_ub, xs_c_ui, xs_c_ur, xs_c_uc, xs_c_un, xs_c_ub, x_up_s, x_up_k, x_up_o, x_fU_s, x_fU_o, ↓reduceIte, h_ldE, h_stE, h_nmE, h_nSE, h_callE, h_callvE, h_dvE, h_remE, if_true, if_false, z_upS, z_upO, z_upK, nI_add, z_mul, z_sub, z_div, Nat.add_zero, Nat.mul_zero, Nat.zero_add, Nat.sub_zero, Nat.zero_mul, z_ltT, z_ltF, z_leT, z_leF, z_eqT, z_eqF, z_inT, z_clT, not_true_eq_false, not_false_eq_true, eq_self, true_or, or_true, z_m_lt, z_m_le, z_lt_m, z_le_m, z_eq_m, z_m_eq, z_rz0, z_rz1, z_m_add, z_of, ↓z_m1, l_0, l_1, l_2, l_3, l_4, l_5, l_6, l_7, l_8, l_9, l_10, l_11, l_12, l_13, l_14, l_15, l_16, l_17, l_18, l_19, l_20, l_21, l_22, l_23, l_24, l_25, l_26, l_27, l_28, l_29, l_30, l_31, l_32, l_33, l_34, l_35, l_36, l_37, l_38, l_39, l_40, l_41, l_42, l_43, l_44, l_45, l_46, l_47, l_48, l_49, l_50, l_51, l_52, l_53, l_54, l_55, l_56, l_57, l_59, l_60, l_61, l_62, l_63, l_64, l_65, l_80, l_86, l_87, l_88, l_89, l_90, l_91, l_92, l_93, l_94, l_95, l_97, l_99, l_100, l_107, l_119, l_122, l_124, l_129, l_140, l_141, l_142, l_143, l_144, l_145, l_147, l_150, l_159, l_160, l_161, l_162, l_205, l_253, l_255, l_256, l_269, l_305, l_380, l_399, l_400, l_420, l_430, l_516, l_600, l_720, l_820, l_905, l_921, l_937, l_953, l_970, l_999, l_1000, l_1790, l_4096, l_9999, l_1000000]
      · by_cases hD : z_dr (V 5) < nI R
        · have hs2 : s ||| 2 ^ i < 2 ^ mu := Nat.or_lt_two_pow hs (Nat.pow_lt_pow_right (by omega) (by omega))
          have hbt : ∀ t, (s ||| 2 ^ i).testBit t = (s.testBit t || decide (i = t)) := fun t => by rw [Nat.testBit_or, Nat.testBit_two_pow]
          have hX2 : ∀ σ, z_X mu me true w0 P σ V → z_X mu me true w0 P (q_up (q_up σ 2 10 (z_nx (V 5))) 5 i (nI 1)) (z_u (z_u V 5 (z_nx (V 5))) 7 (nI (s ||| 2 ^ i))) := fun σ h => by
            have h1 := h.sc (f := 10) (a := 5) (x := z_nx (V 5)) (Or.inl ⟨rfl, rfl⟩)
            refine ⟨h1.1.lm hs2 (fun o o1 o2 o3 o4 => z_upO o3) (fun m hm => ?_), h1.2.fr (by rw [z_upO (by omega)]) (z_upO (by omega)) (z_uK (by omega)) (fun b b1 b2 => z_uK (by omega))⟩
            by_cases e : m = i
            · subst e
              rw [z_upS, if_pos (by rw [Nat.testBit_or, Nat.testBit_two_pow]; simp)]
            · rw [z_upK e]
              have := h1.1.2.1.2.2.1 m hm
              rw [z_uK (by omega), h7, z_bitE (by omega) (by omega)] at this
              have e2 : (s ||| 2 ^ i).testBit m = s.testBit m := by
                rw [Nat.testBit_or, Nat.testBit_two_pow]
                have : ¬ i = m := fun q => e q.symm
                simp [this]
              rw [e2]
              exact this
          obtain ⟨σd, -, hd2, -⟩ := c_write (n := n) (a := nI 5) (b := nI i) (c := nI 0) (hX2 σc hc)
          have h6' : z_le (z_u (z_u V 5 (z_nx (V 5))) 7 (nI (s ||| 2 ^ i)) 6) 150 := by rw [z_uK (by omega), z_uK (by omega)]; exact h6
          have hsm : z_sam V (z_note true (z_u (z_u V 5 (z_nx (V 5))) 7 (nI (s ||| 2 ^ i))) (nI 5) (nI i) (nI 0)) := (z_sam.u (by omega)).trans ((z_sam.u (by omega)).trans (z_note_sam h6'))
          obtain ⟨W, r, w1, w2, w5, w3, w4, w6⟩ := ih (i+1) (cnt+1) _ σd (by omega) hd2 (hK.sam hsm)
          refine ⟨W, r, fun l hl2 σ h => ?_, fun l hl2 u Fz hT hn5 => ?_, hsm.trans w5, w3, by rw [w4, z_note_o h6' (by omega) (by omega), z_uK (by omega), z_uK (by omega)], by omega⟩
          · cases l with
            | zero => omega
            | succ l =>
              obtain ⟨σ1, f1, f2⟩ := rC σ h
              have h1 := h.fr (σ' := σ1) (fun o o1 o2 o3 => f1 o o3 (by omega))
              have g10 : σ1 2 10 = V 5 := h1.1.2.1.1.2.2.1
              have ed := c_draw (n := n) (σ := σ1)
              rw [g10] at ed
              obtain ⟨σ2, p1, p2, p3⟩ := c_write (n := n) (a := nI 5) (b := nI i) (c := nI 0) (hX2 σ1 h1)
              obtain ⟨σ', k1, k2, k3⟩ := w1 l (by omega) σ2 p2
              have g8 : σ 2 8 = nI mu := h.1.2.1.1.1
              have g13 : σ 2 13 = V 2 := h.1.2.1.1.2.2.2.2.2.1
              have e5 := eC σ h
              refine ⟨σ', z_fX.trans (fun o ho => f1 o (by omega) (by omega)) (z_fX.trans (fun o ho => by rw [z_upO (by omega), z_upO (by omega)]) (p1.trans k1)), k2, ?_⟩
              rw [← k3, f_X10_travel_L26]
              simp (disch := omega) only [g8, e5, g13, f2, ed, hD, p3, ↓reduceIte, ↓p_ld, ↓p_st, ↓p_nm, ↓p_nS, ↓p_jn, ↓p_call, ↓p_callv, ↓p_dv, ↓p_rem, h_ldE, h_stE, h_nmE, h_nSE, h_callE, h_callvE, h_dvE, h_remE, if_true, if_false, z_upS, z_upO, z_upK, nI_add, z_mul, z_sub, z_div, Nat.add_zero, Nat.mul_zero, Nat.zero_add, Nat.sub_zero, Nat.zero_mul, z_ltT, z_ltF, z_leT, z_leF, z_eqT, z_eqF, z_inT, z_clT, not_true_eq_false, not_false_eq_true, eq_self, true_or, or_true, z_m_lt, z_m_le, z_lt_m, z_le_m, z_eq_m, z_m_eq, z_rz0, z_rz1, z_m_add, z_of, r_0_0, r_0_1, r_0_3, r_0_4, r_0_5, r_0_6, r_0_7, r_0_8, r_0_9, r_0_10, r_1_0, r_1_1, r_1_2, r_1_3, r_1_4, r_1_5, r_1_6, r_1_7, r_1_8, r_2_0, r_2_1, r_2_2, r_2_3, r_2_4, r_2_5, r_2_6, r_2_7, r_11_0, r_11_1, r_11_2, r_11_3, r_11_4, r_11_5, r_11_6, r_19_0, r_21_0, r_23_0, r_25_0, r_27_0, r_61_0, r_117_0, r_117_1, r_117_2, r_117_3, r_117_4, r_117_5, r_117_6, r_117_7, r_126_0, r_126_1, r_126_2, r_126_3, r_126_4, r_132_0, r_132_1, r_135_0, r_135_1, r_135_2, r_135_3, r_135_4, r_135_5, r_142_0, r_144_0, r_144_1, r_144_2, r_145_0, r_145_1, r_145_2, r_145_3, r_145_4, r_145_5, r_145_6, r_154_0, r_154_1, r_155_0, ↓z_m1, l_0, l_1, l_2, l_3, l_4, l_5, l_6, l_7, l_8, l_9, l_10, l_11, l_12, l_13, l_14, l_15, l_16, l_17, l_18, l_19, l_20, l_21, l_22, l_23, l_24, l_25, l_26, l_27, l_28, l_29, l_30, l_31, l_32, l_33, l_34, l_35, l_36, l_37, l_38, l_39, l_40, l_41, l_42, l_43, l_44, l_45, l_46, l_47, l_48, l_49, l_50, l_51, l_52, l_53, l_54, l_55, l_56, l_57, l_59, l_60, l_61, l_62, l_63, l_64, l_65, l_80, l_86, l_87, l_88, l_89, l_90, l_91, l_92, l_93, l_94, l_95, l_97, l_99, l_100, l_107, l_119, l_122, l_124, l_129, l_140, l_141, l_142, l_143, l_144, l_145, l_147, l_150, l_159, l_160, l_161, l_162, l_205, l_253, l_255, l_256, l_269, l_305, l_380, l_399, l_400, l_420, l_430, l_516, l_600, l_720, l_820, l_905, l_921, l_937, l_953, l_970, l_999, l_1000, l_1790, l_4096, l_9999, l_1000000]
          · cases l with
            | zero => omega
            | succ l =>
              have hb := hT.bd
              have hT1 := hT.sc (f := 0) (a := 5) (x := z_nx (V 5)) (Or.inl ⟨rfl, rfl⟩)
              have hT2 := hT1.lm (x := nI 1) (s := s) (y := s ||| 2 ^ i) hlt (by rw [z_uK (by omega)]; exact h7) (by omega) (by omega) (by rw [hbt, if_pos (by simp)]) (fun t ht hne => by rw [hbt]; simp; intro q; omega)
              have en : x_n (x_ui (x_ui u p 0 (z_nx (V 5))) (b+i) 2 (nI 1)) = x_n u := rfl
              obtain ⟨u3, Fz3, p1, p2, p3⟩ := F_notes (n := n) (x := nI 5) (y := nI i) (z := nI 0) hT2 (by omega)
              obtain ⟨u', Fz', q1, q2, q3⟩ := w2 l (by omega) u3 Fz3 p2 (by have := p1.2.1; omega)
              refine ⟨u', Fz', (x_sp.ui (dn := 0) (dm := 0) (by unfold x_own; omega)).tr ((x_sp.ui (dn := 0) (dm := 0) (by unfold x_own; omega)).tr (p1.tr q1 (Nat.le_refl _) (Nat.le_refl _)) (Nat.le_refl _) (Nat.le_refl _)) (by omega) (by omega), q2, ?_⟩
              have er := rF u Fz hT
              have er2 := rF2 _ _ _ hT1
              have ed := F_draw (n := n) hT.V
              obtain ⟨⟨⟨a1, a2, a3, a4, a5, a6⟩, ⟨k1, k2, k3, k4, k5, k6⟩, ⟨r1, r2, r3, r4, r5, r6, r7, r8⟩⟩, ⟨t0, t1, t2, t3, t4, t5, t6, t7, t8, t9, ta⟩, tm, tk⟩ := hT.V
              have tm2 := (tm i hlt).2.2.1
              rw [ebit, if_neg hl] at tm2
              rw [← q3, F_X12_goes_L47]
              simp (disch := first | omega | ((try simp (disch := omega) only [k1, t3, t7, r1, r7, k2, k5, tm2, er, ed, er2, hD, p3, xs_k_ui, xs_k_ur, xs_k_uc, xs_k_un, xs_k_ub, xs_r_ui, xs_r_ur, xs_r_uc, xs_r_un, xs_r_ub, xs_t_ui, xs_t_ur, xs_t_uc, xs_t_un, xs_t_ub, xs_n_ui, xs_n_ur, xs_n_uc, xs_n_un, xs_n_ub, xs_m_ui, xs_m_ur, xs_m_uc, xs_m_un, xs_m_ub, xs_c_ui, xs_c_ur, xs_c_uc, xs_c_un, xs_c_ub, x_up_s, x_up_k, x_up_o, x_fU_s, x_fU_o]) <;> first | rfl | omega | (refine (?_ : (_ : Bool) = true); with_unfolding_all rfl)) | fail) only [k1, t3, t7, r1, r7, k2, k5, tm2, er, ed, er2, hD, p3, ↓p_xgi, ↓p_xgr, ↓p_xpi, ↓p_xpr, ↓p_xo, ↓p_xld, ↓p_xlb, ↓p_xlr, ↓p_xst, ↓p_xsb, ↓p_xsr, ↓p_xlen, ↓p_xnew, ↓p_xnwa, ↓p_xcln, ↓p_xcst, ↓p_xcall, ↓p_xcalc, ↓p_xnm, ↓p_xdv, ↓p_xrem, h_xgiE, h_xgrE, h_xpiE, h_xprE, h_xoE, h_xldE, h_xlbE, h_xlrE, h_xstE, h_xsbE, h_xsrE, h_xlenE, h_xnewE, h_xnwaE, h_xclnE, h_xcstE, h_xcallE, h_xcalcE, h_xnmE, h_xdvE, h_xremE, xs_k_ui, xs_k_ur, xs_k_uc, xs_k_un, xs_k_ub, xs_r_ui, xs_r_ur, xs_r_uc, xs_r_un, xs_r_ub, xs_t_ui, xs_t_ur, xs_t_uc, xs_t_un, xs_t_ub, xs_n_ui, xs_n_ur, xs_n_uc, xs_n_un, xs_n_ub, xs_m_ui, xs_m_ur, xs_m_uc, xs_m_un, xs_m_ub, xs_c_ui, xs_c_ur, xs_c_uc, xs_c_un, xs_c_ub, x_up_s, x_up_k, x_up_o, x_fU_s, x_fU_o, ↓reduceIte, h_ldE, h_stE, h_nmE, h_nSE, h_callE, h_callvE, h_dvE, h_remE, if_true, if_false, z_upS, z_upO, z_upK, nI_add, z_mul, z_sub, z_div, Nat.add_zero, Nat.mul_zero, Nat.zero_add, Nat.sub_zero, Nat.zero_mul, z_ltT, z_ltF, z_leT, z_leF, z_eqT, z_eqF, z_inT, z_clT, not_true_eq_false, not_false_eq_true, eq_self, true_or, or_true, z_m_lt, z_m_le, z_lt_m, z_le_m, z_eq_m, z_m_eq, z_rz0, z_rz1, z_m_add, z_of, ↓z_m1, l_0, l_1, l_2, l_3, l_4, l_5, l_6, l_7, l_8, l_9, l_10, l_11, l_12, l_13, l_14, l_15, l_16, l_17, l_18, l_19, l_20, l_21, l_22, l_23, l_24, l_25, l_26, l_27, l_28, l_29, l_30, l_31, l_32, l_33, l_34, l_35, l_36, l_37, l_38, l_39, l_40, l_41, l_42, l_43, l_44, l_45, l_46, l_47, l_48, l_49, l_50, l_51, l_52, l_53, l_54, l_55, l_56, l_57, l_59, l_60, l_61, l_62, l_63, l_64, l_65, l_80, l_86, l_87, l_88, l_89, l_90, l_91, l_92, l_93, l_94, l_95, l_97, l_99, l_100, l_107, l_119, l_122, l_124, l_129, l_140, l_141, l_142, l_143, l_144, l_145, l_147, l_150, l_159, l_160, l_161, l_162, l_205, l_253, l_255, l_256, l_269, l_305, l_380, l_399, l_400, l_420, l_430, l_516, l_600, l_720, l_820, l_905, l_921, l_937, l_953, l_970, l_999, l_1000, l_1790, l_4096, l_9999, l_1000000]
        · have hX2 : ∀ σ, z_X mu me true w0 P σ V → z_X mu me true w0 P (q_up σ 2 10 (z_nx (V 5))) (z_u V 5 (z_nx (V 5))) := fun σ h => h.sc (Or.inl ⟨rfl, rfl⟩)
          have hsm : z_sam V (z_u V 5 (z_nx (V 5))) := z_sam.u (by omega)
          obtain ⟨W, r, w1, w2, w5, w3, w4, w6⟩ := ih (i+1) cnt _ _ (by omega) (hX2 σc hc) (hK.sam hsm)
          refine ⟨W, r, fun l hl2 σ h => ?_, fun l hl2 u Fz hT hn5 => ?_, hsm.trans w5, w3, by rw [w4, z_uK (by omega)], by omega⟩
          · cases l with
            | zero => omega
            | succ l =>
              obtain ⟨σ1, f1, f2⟩ := rC σ h
              have h1 := h.fr (σ' := σ1) (fun o o1 o2 o3 => f1 o o3 (by omega))
              have g10 : σ1 2 10 = V 5 := h1.1.2.1.1.2.2.1
              have ed := c_draw (n := n) (σ := σ1)
              rw [g10] at ed
              obtain ⟨σ', k1, k2, k3⟩ := w1 l (by omega) _ (hX2 σ1 h1)
              have g8 : σ 2 8 = nI mu := h.1.2.1.1.1
              have g13 : σ 2 13 = V 2 := h.1.2.1.1.2.2.2.2.2.1
              have e5 := eC σ h
              refine ⟨σ', z_fX.trans (fun o ho => f1 o (by omega) (by omega)) (z_fX.trans (fun o ho => by rw [z_upO (by omega)]) k1), k2, ?_⟩
              rw [← k3, f_X10_travel_L26]
              simp (disch := omega) only [g8, e5, g13, f2, ed, hD, ↓reduceIte, ↓p_ld, ↓p_st, ↓p_nm, ↓p_nS, ↓p_jn, ↓p_call, ↓p_callv, ↓p_dv, ↓p_rem, h_ldE, h_stE, h_nmE, h_nSE, h_callE, h_callvE, h_dvE, h_remE, if_true, if_false, z_upS, z_upO, z_upK, nI_add, z_mul, z_sub, z_div, Nat.add_zero, Nat.mul_zero, Nat.zero_add, Nat.sub_zero, Nat.zero_mul, z_ltT, z_ltF, z_leT, z_leF, z_eqT, z_eqF, z_inT, z_clT, not_true_eq_false, not_false_eq_true, eq_self, true_or, or_true, z_m_lt, z_m_le, z_lt_m, z_le_m, z_eq_m, z_m_eq, z_rz0, z_rz1, z_m_add, z_of, r_0_0, r_0_1, r_0_3, r_0_4, r_0_5, r_0_6, r_0_7, r_0_8, r_0_9, r_0_10, r_1_0, r_1_1, r_1_2, r_1_3, r_1_4, r_1_5, r_1_6, r_1_7, r_1_8, r_2_0, r_2_1, r_2_2, r_2_3, r_2_4, r_2_5, r_2_6, r_2_7, r_11_0, r_11_1, r_11_2, r_11_3, r_11_4, r_11_5, r_11_6, r_19_0, r_21_0, r_23_0, r_25_0, r_27_0, r_61_0, r_117_0, r_117_1, r_117_2, r_117_3, r_117_4, r_117_5, r_117_6, r_117_7, r_126_0, r_126_1, r_126_2, r_126_3, r_126_4, r_132_0, r_132_1, r_135_0, r_135_1, r_135_2, r_135_3, r_135_4, r_135_5, r_142_0, r_144_0, r_144_1, r_144_2, r_145_0, r_145_1, r_145_2, r_145_3, r_145_4, r_145_5, r_145_6, r_154_0, r_154_1, r_155_0, ↓z_m1, l_0, l_1, l_2, l_3, l_4, l_5, l_6, l_7, l_8, l_9, l_10, l_11, l_12, l_13, l_14, l_15, l_16, l_17, l_18, l_19, l_20, l_21, l_22, l_23, l_24, l_25, l_26, l_27, l_28, l_29, l_30, l_31, l_32, l_33, l_34, l_35, l_36, l_37, l_38, l_39, l_40, l_41, l_42, l_43, l_44, l_45, l_46, l_47, l_48, l_49, l_50, l_51, l_52, l_53, l_54, l_55, l_56, l_57, l_59, l_60, l_61, l_62, l_63, l_64, l_65, l_80, l_86, l_87, l_88, l_89, l_90, l_91, l_92, l_93, l_94, l_95, l_97, l_99, l_100, l_107, l_119, l_122, l_124, l_129, l_140, l_141, l_142, l_143, l_144, l_145, l_147, l_150, l_159, l_160, l_161, l_162, l_205, l_253, l_255, l_256, l_269, l_305, l_380, l_399, l_400, l_420, l_430, l_516, l_600, l_720, l_820, l_905, l_921, l_937, l_953, l_970, l_999, l_1000, l_1790, l_4096, l_9999, l_1000000]
          · cases l with
            | zero => omega
            | succ l =>
              have hb := hT.bd
              have hT1 := hT.sc (f := 0) (a := 5) (x := z_nx (V 5)) (Or.inl ⟨rfl, rfl⟩)
              have en : x_n (x_ui u p 0 (z_nx (V 5))) = x_n u := rfl
              obtain ⟨u', Fz', q1, q2, q3⟩ := w2 l (by omega) _ Fz hT1 (by omega)
              refine ⟨u', Fz', (x_sp.ui (dn := 0) (dm := 0) (by unfold x_own; omega)).tr q1 (by omega) (by omega), q2, ?_⟩
              have er := rF u Fz hT
              have er2 := rF2 _ _ _ hT1
              have ed := F_draw (n := n) hT.V
              obtain ⟨⟨⟨a1, a2, a3, a4, a5, a6⟩, ⟨k1, k2, k3, k4, k5, k6⟩, ⟨r1, r2, r3, r4, r5, r6, r7, r8⟩⟩, ⟨t0, t1, t2, t3, t4, t5, t6, t7, t8, t9, ta⟩, tm, tk⟩ := hT.V
              have tm2 := (tm i hlt).2.2.1
              rw [ebit, if_neg hl] at tm2
              rw [← q3, F_X12_goes_L47]
              simp (disch := first | omega | ((try simp (disch := omega) only [k1, t3, t7, r1, r7, k2, k5, tm2, er, ed, er2, hD, xs_k_ui, xs_k_ur, xs_k_uc, xs_k_un, xs_k_ub, xs_r_ui, xs_r_ur, xs_r_uc, xs_r_un, xs_r_ub, xs_t_ui, xs_t_ur, xs_t_uc, xs_t_un, xs_t_ub, xs_n_ui, xs_n_ur, xs_n_uc, xs_n_un, xs_n_ub, xs_m_ui, xs_m_ur, xs_m_uc, xs_m_un, xs_m_ub, xs_c_ui, xs_c_ur, xs_c_uc, xs_c_un, xs_c_ub, x_up_s, x_up_k, x_up_o, x_fU_s, x_fU_o]) <;> first | rfl | omega | (refine (?_ : (_ : Bool) = true); with_unfolding_all rfl)) | fail) only [k1, t3, t7, r1, r7, k2, k5, tm2, er, ed, er2, hD, ↓p_xgi, ↓p_xgr, ↓p_xpi, ↓p_xpr, ↓p_xo, ↓p_xld, ↓p_xlb, ↓p_xlr, ↓p_xst, ↓p_xsb, ↓p_xsr, ↓p_xlen, ↓p_xnew, ↓p_xnwa, ↓p_xcln, ↓p_xcst, ↓p_xcall, ↓p_xcalc, ↓p_xnm, ↓p_xdv, ↓p_xrem, h_xgiE, h_xgrE, h_xpiE, h_xprE, h_xoE, h_xldE, h_xlbE, h_xlrE, h_xstE, h_xsbE, h_xsrE, h_xlenE, h_xnewE, h_xnwaE, h_xclnE, h_xcstE, h_xcallE, h_xcalcE, h_xnmE, h_xdvE, h_xremE, xs_k_ui, xs_k_ur, xs_k_uc, xs_k_un, xs_k_ub, xs_r_ui, xs_r_ur, xs_r_uc, xs_r_un, xs_r_ub, xs_t_ui, xs_t_ur, xs_t_uc, xs_t_un, xs_t_ub, xs_n_ui, xs_n_ur, xs_n_uc, xs_n_un, xs_n_ub, xs_m_ui, xs_m_ur, xs_m_uc, xs_m_un, xs_m_ub, xs_c_ui, xs_c_ur, xs_c_uc, xs_c_un, xs_c_ub, x_up_s, x_up_k, x_up_o, x_fU_s, x_fU_o, ↓reduceIte, h_ldE, h_stE, h_nmE, h_nSE, h_callE, h_callvE, h_dvE, h_remE, if_true, if_false, z_upS, z_upO, z_upK, nI_add, z_mul, z_sub, z_div, Nat.add_zero, Nat.mul_zero, Nat.zero_add, Nat.sub_zero, Nat.zero_mul, z_ltT, z_ltF, z_leT, z_leF, z_eqT, z_eqF, z_inT, z_clT, not_true_eq_false, not_false_eq_true, eq_self, true_or, or_true, z_m_lt, z_m_le, z_lt_m, z_le_m, z_eq_m, z_m_eq, z_rz0, z_rz1, z_m_add, z_of, ↓z_m1, l_0, l_1, l_2, l_3, l_4, l_5, l_6, l_7, l_8, l_9, l_10, l_11, l_12, l_13, l_14, l_15, l_16, l_17, l_18, l_19, l_20, l_21, l_22, l_23, l_24, l_25, l_26, l_27, l_28, l_29, l_30, l_31, l_32, l_33, l_34, l_35, l_36, l_37, l_38, l_39, l_40, l_41, l_42, l_43, l_44, l_45, l_46, l_47, l_48, l_49, l_50, l_51, l_52, l_53, l_54, l_55, l_56, l_57, l_59, l_60, l_61, l_62, l_63, l_64, l_65, l_80, l_86, l_87, l_88, l_89, l_90, l_91, l_92, l_93, l_94, l_95, l_97, l_99, l_100, l_107, l_119, l_122, l_124, l_129, l_140, l_141, l_142, l_143, l_144, l_145, l_147, l_150, l_159, l_160, l_161, l_162, l_205, l_253, l_255, l_256, l_269, l_305, l_380, l_399, l_400, l_420, l_430, l_516, l_600, l_720, l_820, l_905, l_921, l_937, l_953, l_970, l_999, l_1000, l_1790, l_4096, l_9999, l_1000000]
end GO
