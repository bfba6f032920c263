/-! behind the loop: what is refused -/
section RF
variable {p b L pl pa mu me Lx wn a B : Nat} {xs : Nat → Int32} {d : Nat → Nat} {Fz : Nat → Prop} {V : Nat → Int32} {hs : z_Hs} {u : x_U} {S : Nat → Nat → (Nat → Int32) → Prop} {σ : q_Sto}
theorem c_days0 : f_X11_days q_F 0 0 σ = some (z_m, σ) := by
  have hw : z_w (nI 0) (nI 1) (nI 60) = nI 0 := by decide
  unfold f_X11_days
  simp (disch := omega) only [c_isWithin, hw, ↓reduceIte, ↓p_ld, ↓p_st, ↓p_nm, ↓p_nS, ↓p_jn, ↓p_call, ↓p_callv, ↓p_dv, ↓p_rem, h_ldE, h_stE, h_nmE, h_nSE, h_callE, h_callvE, h_dvE, h_remE, if_true, if_false, z_upS, z_upO, z_upK, nI_add, z_mul, z_sub, z_div, Nat.add_zero, Nat.mul_zero, Nat.zero_add, Nat.sub_zero, Nat.zero_mul, z_ltT, z_ltF, z_leT, z_leF, z_eqT, z_eqF, z_inT, z_clT, not_true_eq_false, not_false_eq_true, eq_self, true_or, or_true, z_m_lt, z_m_le, z_lt_m, z_le_m, z_eq_m, z_m_eq, z_rz0, z_rz1, z_m_add, z_of, r_0_0, r_0_1, r_0_3, r_0_4, r_0_5, r_0_6, r_0_7, r_0_8, r_0_9, r_0_10, r_1_0, r_1_1, r_1_2, r_1_3, r_1_4, r_1_5, r_1_6, r_1_7, r_1_8, r_2_0, r_2_1, r_2_2, r_2_3, r_2_4, r_2_5, r_2_6, r_2_7, r_11_0, r_11_1, r_11_2, r_11_3, r_11_4, r_11_5, r_11_6, r_19_0, r_21_0, r_23_0, r_25_0, r_27_0, r_61_0, r_117_0, r_117_1, r_117_2, r_117_3, r_117_4, r_117_5, r_117_6, r_117_7, r_126_0, r_126_1, r_126_2, r_126_3, r_126_4, r_132_0, r_132_1, r_135_0, r_135_1, r_135_2, r_135_3, r_135_4, r_135_5, r_142_0, r_144_0, r_144_1, r_144_2, r_145_0, r_145_1, r_145_2, r_145_3, r_145_4, r_145_5, r_145_6, r_154_0, r_154_1, r_155_0, ↓z_m1, l_0, l_1, l_2, l_3, l_4, l_5, l_6, l_7, l_8, l_9, l_10, l_11, l_12, l_13, l_14, l_15, l_16, l_17, l_18, l_19, l_20, l_21, l_22, l_23, l_24, l_25, l_26, l_27, l_28, l_29, l_30, l_31, l_32, l_33, l_34, l_35, l_36, l_37, l_38, l_39, l_40, l_41, l_42, l_43, l_44, l_45, l_46, l_47, l_48, l_49, l_50, l_51, l_52, l_53, l_54, l_55, l_56, l_57, l_59, l_60, l_61, l_62, l_63, l_64, l_65, l_80, l_86, l_87, l_88, l_89, l_90, l_91, l_92, l_93, l_94, l_95, l_97, l_99, l_100, l_107, l_119, l_122, l_124, l_129, l_140, l_141, l_142, l_143, l_144, l_145, l_147, l_150, l_159, l_160, l_161, l_162, l_205, l_253, l_255, l_256, l_269, l_305, l_380, l_399, l_400, l_420, l_430, l_516, l_600, l_720, l_820, l_905, l_921, l_937, l_953, l_970, l_999, l_1000, l_1790, l_4096, l_9999, l_1000000]
theorem c_days61 : f_X11_days q_F 0 (nI 61) σ = some (z_m, σ) := by
  have hw : z_w (nI 61) (nI 1) (nI 60) = nI 0 := by decide
  unfold f_X11_days
  simp (disch := omega) only [c_isWithin, hw, ↓reduceIte, ↓p_ld, ↓p_st, ↓p_nm, ↓p_nS, ↓p_jn, ↓p_call, ↓p_callv, ↓p_dv, ↓p_rem, h_ldE, h_stE, h_nmE, h_nSE, h_callE, h_callvE, h_dvE, h_remE, if_true, if_false, z_upS, z_upO, z_upK, nI_add, z_mul, z_sub, z_div, Nat.add_zero, Nat.mul_zero, Nat.zero_add, Nat.sub_zero, Nat.zero_mul, z_ltT, z_ltF, z_leT, z_leF, z_eqT, z_eqF, z_inT, z_clT, not_true_eq_false, not_false_eq_true, eq_self, true_or, or_true, z_m_lt, z_m_le, z_lt_m, z_le_m, z_eq_m, z_m_eq, z_rz0, z_rz1, z_m_add, z_of, r_0_0, r_0_1, r_0_3, r_0_4, r_0_5, r_0_6, r_0_7, r_0_8, r_0_9, r_0_10, r_1_0, r_1_1, r_1_2, r_1_3, r_1_4, r_1_5, r_1_6, r_1_7, r_1_8, r_2_0, r_2_1, r_2_2, r_2_3, r_2_4, r_2_5, r_2_6, r_2_7, r_11_0, r_11_1, r_11_2, r_11_3, r_11_4, r_11_5, r_11_6, r_19_0, r_21_0, r_23_0, r_25_0, r_27_0, r_61_0, r_117_0, r_117_1, r_117_2, r_117_3, r_117_4, r_117_5, r_117_6, r_117_7, r_126_0, r_126_1, r_126_2, r_126_3, r_126_4, r_132_0, r_132_1, r_135_0, r_135_1, r_135_2, r_135_3, r_135_4, r_135_5, r_142_0, r_144_0, r_144_1, r_144_2, r_145_0, r_145_1, r_145_2, r_145_3, r_145_4, r_145_5, r_145_6, r_154_0, r_154_1, r_155_0, ↓z_m1, l_0, l_1, l_2, l_3, l_4, l_5, l_6, l_7, l_8, l_9, l_10, l_11, l_12, l_13, l_14, l_15, l_16, l_17, l_18, l_19, l_20, l_21, l_22, l_23, l_24, l_25, l_26, l_27, l_28, l_29, l_30, l_31, l_32, l_33, l_34, l_35, l_36, l_37, l_38, l_39, l_40, l_41, l_42, l_43, l_44, l_45, l_46, l_47, l_48, l_49, l_50, l_51, l_52, l_53, l_54, l_55, l_56, l_57, l_59, l_60, l_61, l_62, l_63, l_64, l_65, l_80, l_86, l_87, l_88, l_89, l_90, l_91, l_92, l_93, l_94, l_95, l_97, l_99, l_100, l_107, l_119, l_122, l_124, l_129, l_140, l_141, l_142, l_143, l_144, l_145, l_147, l_150, l_159, l_160, l_161, l_162, l_205, l_253, l_255, l_256, l_269, l_305, l_380, l_399, l_400, l_420, l_430, l_516, l_600, l_720, l_820, l_905, l_921, l_937, l_953, l_970, l_999, l_1000, l_1790, l_4096, l_9999, l_1000000]
theorem c_mule00 : f_X11_mule q_F 0 (nI 0) (nI 0) σ = some (z_m, σ) := by
  have hw : z_w (nI 0) (nI 1) (nI 40) = nI 0 := by decide
  unfold f_X11_mule
  simp (disch := omega) only [c_isWithin, hw, ↓reduceIte, ↓p_ld, ↓p_st, ↓p_nm, ↓p_nS, ↓p_jn, ↓p_call, ↓p_callv, ↓p_dv, ↓p_rem, h_ldE, h_stE, h_nmE, h_nSE, h_callE, h_callvE, h_dvE, h_remE, if_true, if_false, z_upS, z_upO, z_upK, nI_add, z_mul, z_sub, z_div, Nat.add_zero, Nat.mul_zero, Nat.zero_add, Nat.sub_zero, Nat.zero_mul, z_ltT, z_ltF, z_leT, z_leF, z_eqT, z_eqF, z_inT, z_clT, not_true_eq_false, not_false_eq_true, eq_self, true_or, or_true, z_m_lt, z_m_le, z_lt_m, z_le_m, z_eq_m, z_m_eq, z_rz0, z_rz1, z_m_add, z_of, r_0_0, r_0_1, r_0_3, r_0_4, r_0_5, r_0_6, r_0_7, r_0_8, r_0_9, r_0_10, r_1_0, r_1_1, r_1_2, r_1_3, r_1_4, r_1_5, r_1_6, r_1_7, r_1_8, r_2_0, r_2_1, r_2_2, r_2_3, r_2_4, r_2_5, r_2_6, r_2_7, r_11_0, r_11_1, r_11_2, r_11_3, r_11_4, r_11_5, r_11_6, r_19_0, r_21_0, r_23_0, r_25_0, r_27_0, r_61_0, r_117_0, r_117_1, r_117_2, r_117_3, r_117_4, r_117_5, r_117_6, r_117_7, r_126_0, r_126_1, r_126_2, r_126_3, r_126_4, r_132_0, r_132_1, r_135_0, r_135_1, r_135_2, r_135_3, r_135_4, r_135_5, r_142_0, r_144_0, r_144_1, r_144_2, r_145_0, r_145_1, r_145_2, r_145_3, r_145_4, r_145_5, r_145_6, r_154_0, r_154_1, r_155_0, ↓z_m1, l_0, l_1, l_2, l_3, l_4, l_5, l_6, l_7, l_8, l_9, l_10, l_11, l_12, l_13, l_14, l_15, l_16, l_17, l_18, l_19, l_20, l_21, l_22, l_23, l_24, l_25, l_26, l_27, l_28, l_29, l_30, l_31, l_32, l_33, l_34, l_35, l_36, l_37, l_38, l_39, l_40, l_41, l_42, l_43, l_44, l_45, l_46, l_47, l_48, l_49, l_50, l_51, l_52, l_53, l_54, l_55, l_56, l_57, l_59, l_60, l_61, l_62, l_63, l_64, l_65, l_80, l_86, l_87, l_88, l_89, l_90, l_91, l_92, l_93, l_94, l_95, l_97, l_99, l_100, l_107, l_119, l_122, l_124, l_129, l_140, l_141, l_142, l_143, l_144, l_145, l_147, l_150, l_159, l_160, l_161, l_162, l_205, l_253, l_255, l_256, l_269, l_305, l_380, l_399, l_400, l_420, l_430, l_516, l_600, l_720, l_820, l_905, l_921, l_937, l_953, l_970, l_999, l_1000, l_1790, l_4096, l_9999, l_1000000]
theorem c_mule41 : f_X11_mule q_F 0 (nI 41) (nI 0) σ = some (z_m, σ) := by
  have hw : z_w (nI 41) (nI 1) (nI 40) = nI 0 := by decide
  unfold f_X11_mule
  simp (disch := omega) only [c_isWithin, hw, ↓reduceIte, ↓p_ld, ↓p_st, ↓p_nm, ↓p_nS, ↓p_jn, ↓p_call, ↓p_callv, ↓p_dv, ↓p_rem, h_ldE, h_stE, h_nmE, h_nSE, h_callE, h_callvE, h_dvE, h_remE, if_true, if_false, z_upS, z_upO, z_upK, nI_add, z_mul, z_sub, z_div, Nat.add_zero, Nat.mul_zero, Nat.zero_add, Nat.sub_zero, Nat.zero_mul, z_ltT, z_ltF, z_leT, z_leF, z_eqT, z_eqF, z_inT, z_clT, not_true_eq_false, not_false_eq_true, eq_self, true_or, or_true, z_m_lt, z_m_le, z_lt_m, z_le_m, z_eq_m, z_m_eq, z_rz0, z_rz1, z_m_add, z_of, r_0_0, r_0_1, r_0_3, r_0_4, r_0_5, r_0_6, r_0_7, r_0_8, r_0_9, r_0_10, r_1_0, r_1_1, r_1_2, r_1_3, r_1_4, r_1_5, r_1_6, r_1_7, r_1_8, r_2_0, r_2_1, r_2_2, r_2_3, r_2_4, r_2_5, r_2_6, r_2_7, r_11_0, r_11_1, r_11_2, r_11_3, r_11_4, r_11_5, r_11_6, r_19_0, r_21_0, r_23_0, r_25_0, r_27_0, r_61_0, r_117_0, r_117_1, r_117_2, r_117_3, r_117_4, r_117_5, r_117_6, r_117_7, r_126_0, r_126_1, r_126_2, r_126_3, r_126_4, r_132_0, r_132_1, r_135_0, r_135_1, r_135_2, r_135_3, r_135_4, r_135_5, r_142_0, r_144_0, r_144_1, r_144_2, r_145_0, r_145_1, r_145_2, r_145_3, r_145_4, r_145_5, r_145_6, r_154_0, r_154_1, r_155_0, ↓z_m1, l_0, l_1, l_2, l_3, l_4, l_5, l_6, l_7, l_8, l_9, l_10, l_11, l_12, l_13, l_14, l_15, l_16, l_17, l_18, l_19, l_20, l_21, l_22, l_23, l_24, l_25, l_26, l_27, l_28, l_29, l_30, l_31, l_32, l_33, l_34, l_35, l_36, l_37, l_38, l_39, l_40, l_41, l_42, l_43, l_44, l_45, l_46, l_47, l_48, l_49, l_50, l_51, l_52, l_53, l_54, l_55, l_56, l_57, l_59, l_60, l_61, l_62, l_63, l_64, l_65, l_80, l_86, l_87, l_88, l_89, l_90, l_91, l_92, l_93, l_94, l_95, l_97, l_99, l_100, l_107, l_119, l_122, l_124, l_129, l_140, l_141, l_142, l_143, l_144, l_145, l_147, l_150, l_159, l_160, l_161, l_162, l_205, l_253, l_255, l_256, l_269, l_305, l_380, l_399, l_400, l_420, l_430, l_516, l_600, l_720, l_820, l_905, l_921, l_937, l_953, l_970, l_999, l_1000, l_1790, l_4096, l_9999, l_1000000]
theorem c_mule141 : f_X11_mule q_F 0 (nI 1) (nI 41) σ = some (z_m, σ) := by
  have hw : z_w (nI 1) (nI 1) (nI 40) = nI 1 := by decide
  have hw2 : z_w (nI 41) (nI 0) (nI 40) = nI 0 := by decide
  unfold f_X11_mule
  simp (disch := omega) only [c_isWithin, hw, hw2, ↓reduceIte, ↓p_ld, ↓p_st, ↓p_nm, ↓p_nS, ↓p_jn, ↓p_call, ↓p_callv, ↓p_dv, ↓p_rem, h_ldE, h_stE, h_nmE, h_nSE, h_callE, h_callvE, h_dvE, h_remE, if_true, if_false, z_upS, z_upO, z_upK, nI_add, z_mul, z_sub, z_div, Nat.add_zero, Nat.mul_zero, Nat.zero_add, Nat.sub_zero, Nat.zero_mul, z_ltT, z_ltF, z_leT, z_leF, z_eqT, z_eqF, z_inT, z_clT, not_true_eq_false, not_false_eq_true, eq_self, true_or, or_true, z_m_lt, z_m_le, z_lt_m, z_le_m, z_eq_m, z_m_eq, z_rz0, z_rz1, z_m_add, z_of, r_0_0, r_0_1, r_0_3, r_0_4, r_0_5, r_0_6, r_0_7, r_0_8, r_0_9, r_0_10, r_1_0, r_1_1, r_1_2, r_1_3, r_1_4, r_1_5, r_1_6, r_1_7, r_1_8, r_2_0, r_2_1, r_2_2, r_2_3, r_2_4, r_2_5, r_2_6, r_2_7, r_11_0, r_11_1, r_11_2, r_11_3, r_11_4, r_11_5, r_11_6, r_19_0, r_21_0, r_23_0, r_25_0, r_27_0, r_61_0, r_117_0, r_117_1, r_117_2, r_117_3, r_117_4, r_117_5, r_117_6, r_117_7, r_126_0, r_126_1, r_126_2, r_126_3, r_126_4, r_132_0, r_132_1, r_135_0, r_135_1, r_135_2, r_135_3, r_135_4, r_135_5, r_142_0, r_144_0, r_144_1, r_144_2, r_145_0, r_145_1, r_145_2, r_145_3, r_145_4, r_145_5, r_145_6, r_154_0, r_154_1, r_155_0, ↓z_m1, l_0, l_1, l_2, l_3, l_4, l_5, l_6, l_7, l_8, l_9, l_10, l_11, l_12, l_13, l_14, l_15, l_16, l_17, l_18, l_19, l_20, l_21, l_22, l_23, l_24, l_25, l_26, l_27, l_28, l_29, l_30, l_31, l_32, l_33, l_34, l_35, l_36, l_37, l_38, l_39, l_40, l_41, l_42, l_43, l_44, l_45, l_46, l_47, l_48, l_49, l_50, l_51, l_52, l_53, l_54, l_55, l_56, l_57, l_59, l_60, l_61, l_62, l_63, l_64, l_65, l_80, l_86, l_87, l_88, l_89, l_90, l_91, l_92, l_93, l_94, l_95, l_97, l_99, l_100, l_107, l_119, l_122, l_124, l_129, l_140, l_141, l_142, l_143, l_144, l_145, l_147, l_150, l_159, l_160, l_161, l_162, l_205, l_253, l_255, l_256, l_269, l_305, l_380, l_399, l_400, l_420, l_430, l_516, l_600, l_720, l_820, l_905, l_921, l_937, l_953, l_970, l_999, l_1000, l_1790, l_4096, l_9999, l_1000000]
theorem c_man100 : f_X11_man q_F 0 (nI 100) (nI 0) (nI 0) σ = some (z_m, σ) := by
  have hw : z_w (nI 100) (nI 0) (nI 99) = nI 0 := by decide
  unfold f_X11_man
  simp (disch := omega) only [c_isWithin, hw, ↓reduceIte, ↓p_ld, ↓p_st, ↓p_nm, ↓p_nS, ↓p_jn, ↓p_call, ↓p_callv, ↓p_dv, ↓p_rem, h_ldE, h_stE, h_nmE, h_nSE, h_callE, h_callvE, h_dvE, h_remE, if_true, if_false, z_upS, z_upO, z_upK, nI_add, z_mul, z_sub, z_div, Nat.add_zero, Nat.mul_zero, Nat.zero_add, Nat.sub_zero, Nat.zero_mul, z_ltT, z_ltF, z_leT, z_leF, z_eqT, z_eqF, z_inT, z_clT, not_true_eq_false, not_false_eq_true, eq_self, true_or, or_true, z_m_lt, z_m_le, z_lt_m, z_le_m, z_eq_m, z_m_eq, z_rz0, z_rz1, z_m_add, z_of, r_0_0, r_0_1, r_0_3, r_0_4, r_0_5, r_0_6, r_0_7, r_0_8, r_0_9, r_0_10, r_1_0, r_1_1, r_1_2, r_1_3, r_1_4, r_1_5, r_1_6, r_1_7, r_1_8, r_2_0, r_2_1, r_2_2, r_2_3, r_2_4, r_2_5, r_2_6, r_2_7, r_11_0, r_11_1, r_11_2, r_11_3, r_11_4, r_11_5, r_11_6, r_19_0, r_21_0, r_23_0, r_25_0, r_27_0, r_61_0, r_117_0, r_117_1, r_117_2, r_117_3, r_117_4, r_117_5, r_117_6, r_117_7, r_126_0, r_126_1, r_126_2, r_126_3, r_126_4, r_132_0, r_132_1, r_135_0, r_135_1, r_135_2, r_135_3, r_135_4, r_135_5, r_142_0, r_144_0, r_144_1, r_144_2, r_145_0, r_145_1, r_145_2, r_145_3, r_145_4, r_145_5, r_145_6, r_154_0, r_154_1, r_155_0, ↓z_m1, l_0, l_1, l_2, l_3, l_4, l_5, l_6, l_7, l_8, l_9, l_10, l_11, l_12, l_13, l_14, l_15, l_16, l_17, l_18, l_19, l_20, l_21, l_22, l_23, l_24, l_25, l_26, l_27, l_28, l_29, l_30, l_31, l_32, l_33, l_34, l_35, l_36, l_37, l_38, l_39, l_40, l_41, l_42, l_43, l_44, l_45, l_46, l_47, l_48, l_49, l_50, l_51, l_52, l_53, l_54, l_55, l_56, l_57, l_59, l_60, l_61, l_62, l_63, l_64, l_65, l_80, l_86, l_87, l_88, l_89, l_90, l_91, l_92, l_93, l_94, l_95, l_97, l_99, l_100, l_107, l_119, l_122, l_124, l_129, l_140, l_141, l_142, l_143, l_144, l_145, l_147, l_150, l_159, l_160, l_161, l_162, l_205, l_253, l_255, l_256, l_269, l_305, l_380, l_399, l_400, l_420, l_430, l_516, l_600, l_720, l_820, l_905, l_921, l_937, l_953, l_970, l_999, l_1000, l_1790, l_4096, l_9999, l_1000000]
theorem c_man010 : f_X11_man q_F 0 (nI 0) (nI 10) (nI 0) σ = some (z_m, σ) := by
  have hw : z_w (nI 0) (nI 0) (nI 99) = nI 1 := by decide
  have hw2 : z_w (nI 10) (nI 0) (nI 9) = nI 0 := by decide
  unfold f_X11_man
  simp (disch := omega) only [c_isWithin, hw, hw2, ↓reduceIte, ↓p_ld, ↓p_st, ↓p_nm, ↓p_nS, ↓p_jn, ↓p_call, ↓p_callv, ↓p_dv, ↓p_rem, h_ldE, h_stE, h_nmE, h_nSE, h_callE, h_callvE, h_dvE, h_remE, if_true, if_false, z_upS, z_upO, z_upK, nI_add, z_mul, z_sub, z_div, Nat.add_zero, Nat.mul_zero, Nat.zero_add, Nat.sub_zero, Nat.zero_mul, z_ltT, z_ltF, z_leT, z_leF, z_eqT, z_eqF, z_inT, z_clT, not_true_eq_false, not_false_eq_true, eq_self, true_or, or_true, z_m_lt, z_m_le, z_lt_m, z_le_m, z_eq_m, z_m_eq, z_rz0, z_rz1, z_m_add, z_of, r_0_0, r_0_1, r_0_3, r_0_4, r_0_5, r_0_6, r_0_7, r_0_8, r_0_9, r_0_10, r_1_0, r_1_1, r_1_2, r_1_3, r_1_4, r_1_5, r_1_6, r_1_7, r_1_8, r_2_0, r_2_1, r_2_2, r_2_3, r_2_4, r_2_5, r_2_6, r_2_7, r_11_0, r_11_1, r_11_2, r_11_3, r_11_4, r_11_5, r_11_6, r_19_0, r_21_0, r_23_0, r_25_0, r_27_0, r_61_0, r_117_0, r_117_1, r_117_2, r_117_3, r_117_4, r_117_5, r_117_6, r_117_7, r_126_0, r_126_1, r_126_2, r_126_3, r_126_4, r_132_0, r_132_1, r_135_0, r_135_1, r_135_2, r_135_3, r_135_4, r_135_5, r_142_0, r_144_0, r_144_1, r_144_2, r_145_0, r_145_1, r_145_2, r_145_3, r_145_4, r_145_5, r_145_6, r_154_0, r_154_1, r_155_0, ↓z_m1, l_0, l_1, l_2, l_3, l_4, l_5, l_6, l_7, l_8, l_9, l_10, l_11, l_12, l_13, l_14, l_15, l_16, l_17, l_18, l_19, l_20, l_21, l_22, l_23, l_24, l_25, l_26, l_27, l_28, l_29, l_30, l_31, l_32, l_33, l_34, l_35, l_36, l_37, l_38, l_39, l_40, l_41, l_42, l_43, l_44, l_45, l_46, l_47, l_48, l_49, l_50, l_51, l_52, l_53, l_54, l_55, l_56, l_57, l_59, l_60, l_61, l_62, l_63, l_64, l_65, l_80, l_86, l_87, l_88, l_89, l_90, l_91, l_92, l_93, l_94, l_95, l_97, l_99, l_100, l_107, l_119, l_122, l_124, l_129, l_140, l_141, l_142, l_143, l_144, l_145, l_147, l_150, l_159, l_160, l_161, l_162, l_205, l_253, l_255, l_256, l_269, l_305, l_380, l_399, l_400, l_420, l_430, l_516, l_600, l_720, l_820, l_905, l_921, l_937, l_953, l_970, l_999, l_1000, l_1790, l_4096, l_9999, l_1000000]
theorem c_man001 : f_X11_man q_F 0 (nI 0) (nI 0) (nI 10) σ = some (z_m, σ) := by
  have hw : z_w (nI 0) (nI 0) (nI 99) = nI 1 := by decide
  have hw1 : z_w (nI 0) (nI 0) (nI 9) = nI 1 := by decide
  have hw2 : z_w (nI 10) (nI 0) (nI 9) = nI 0 := by decide
  unfold f_X11_man
  simp (disch := omega) only [c_isWithin, hw, hw1, hw2, ↓reduceIte, ↓p_ld, ↓p_st, ↓p_nm, ↓p_nS, ↓p_jn, ↓p_call, ↓p_callv, ↓p_dv, ↓p_rem, h_ldE, h_stE, h_nmE, h_nSE, h_callE, h_callvE, h_dvE, h_remE, if_true, if_false, z_upS, z_upO, z_upK, nI_add, z_mul, z_sub, z_div, Nat.add_zero, Nat.mul_zero, Nat.zero_add, Nat.sub_zero, Nat.zero_mul, z_ltT, z_ltF, z_leT, z_leF, z_eqT, z_eqF, z_inT, z_clT, not_true_eq_false, not_false_eq_true, eq_self, true_or, or_true, z_m_lt, z_m_le, z_lt_m, z_le_m, z_eq_m, z_m_eq, z_rz0, z_rz1, z_m_add, z_of, r_0_0, r_0_1, r_0_3, r_0_4, r_0_5, r_0_6, r_0_7, r_0_8, r_0_9, r_0_10, r_1_0, r_1_1, r_1_2, r_1_3, r_1_4, r_1_5, r_1_6, r_1_7, r_1_8, r_2_0, r_2_1, r_2_2, r_2_3, r_2_4, r_2_5, r_2_6, r_2_7, r_11_0, r_11_1, r_11_2, r_11_3, r_11_4, r_11_5, r_11_6, r_19_0, r_21_0, r_23_0, r_25_0, r_27_0, r_61_0, r_117_0, r_117_1, r_117_2, r_117_3, r_117_4, r_117_5, r_117_6, r_117_7, r_126_0, r_126_1, r_126_2, r_126_3, r_126_4, r_132_0, r_132_1, r_135_0, r_135_1, r_135_2, r_135_3, r_135_4, r_135_5, r_142_0, r_144_0, r_144_1, r_144_2, r_145_0, r_145_1, r_145_2, r_145_3, r_145_4, r_145_5, r_145_6, r_154_0, r_154_1, r_155_0, ↓z_m1, l_0, l_1, l_2, l_3, l_4, l_5, l_6, l_7, l_8, l_9, l_10, l_11, l_12, l_13, l_14, l_15, l_16, l_17, l_18, l_19, l_20, l_21, l_22, l_23, l_24, l_25, l_26, l_27, l_28, l_29, l_30, l_31, l_32, l_33, l_34, l_35, l_36, l_37, l_38, l_39, l_40, l_41, l_42, l_43, l_44, l_45, l_46, l_47, l_48, l_49, l_50, l_51, l_52, l_53, l_54, l_55, l_56, l_57, l_59, l_60, l_61, l_62, l_63, l_64, l_65, l_80, l_86, l_87, l_88, l_89, l_90, l_91, l_92, l_93, l_94, l_95, l_97, l_99, l_100, l_107, l_119, l_122, l_124, l_129, l_140, l_141, l_142, l_143, l_144, l_145, l_147, l_150, l_159, l_160, l_161, l_162, l_205, l_253, l_255, l_256, l_269, l_305, l_380, l_399, l_400, l_420, l_430, l_516, l_600, l_720, l_820, l_905, l_921, l_937, l_953, l_970, l_999, l_1000, l_1790, l_4096, l_9999, l_1000000]
theorem c_path10 {x : Int32} (hP : z_PA σ 1 V) : z_path V x (nI 10) = z_m := by
  rcases z_path_v hP x (nI 10) with q | ⟨f, t, h, h1, h2, h3, h4, h5, h6, h7, h8⟩
  · exact q
  · rw [nI_eq (by omega) (by omega)] at h7
    omega
theorem c_pathm {x : Int32} (hP : z_PA σ 1 V) : z_path V x z_m = z_m := by
  rcases z_path_v hP x z_m with q | ⟨f, t, h, h1, h2, h3, h4, h5, h6, h7, h8⟩
  · exact q
  · rw [z_m_eq (by omega)] at h7
    exact h7.elim
theorem c_like0m (h : z_CS mu me σ V hs wn) : f_X11_like q_F 0 (nI 0) z_m (nI 0) σ = some (nI 0, σ) := by
  by_cases c : mu = 0
  · subst c
    exact c_likeM h (y_ge (Nat.le_refl _) (by omega))
  · exact c_likeK h (by omega) (Or.inl (by rw [z_m_lt (by omega)]; trivial))
theorem T_refuse (h : y_I Lx xs a mu me L d u p b pl pa V hs wn Fz S B) (hb : x_n u + 1 ≤ 500000) : ∃ u', x_n u' = x_n u + 1 ∧ x_m u' = x_m u + 11 ∧ ((x_calc u (f_X11_days q_F 0 0 (x_c u)) fun r196 s195 =>
  if r196 = (-1) then (
  x_calc s195 (f_X11_days q_F 0 61 (x_c s195)) fun r198 s197 =>
  if r198 = (-1) then (
  x_calc s197 (f_X11_mule q_F 0 0 0 (x_c s197)) fun r200 s199 =>
  if r200 = (-1) then (
  x_calc s199 (f_X11_mule q_F 0 41 0 (x_c s199)) fun r202 s201 =>
  if r202 = (-1) then (
  x_calc s201 (f_X11_mule q_F 0 1 41 (x_c s201)) fun r204 s203 =>
  if r204 = (-1) then (
  x_calc s203 (f_X11_man q_F 0 100 0 0 (x_c s203)) fun r206 s205 =>
  if r206 = (-1) then (
  x_calc s205 (f_X11_man q_F 0 0 10 0 (x_c s205)) fun r208 s207 =>
  if r208 = (-1) then (
  x_calc s207 (f_X11_man q_F 0 0 0 10 (x_c s207)) fun r210 s209 =>
  if r210 = (-1) then (
  x_calc s209 (f_X11_set q_F 0 1 0 10 (x_c s209)) fun r212 s211 =>
  if r212 = 0 then (
  x_gi s211 p 12 7 fun v213 =>
  x_calc s211 (f_X11_set q_F 0 2 v213 0 (x_c s211)) fun r215 s214 =>
  if r215 = 0 then (
  x_calc s214 (f_X11_like q_F 0 0 (-1) 0 (x_c s214)) fun r217 s216 =>
  if r217 = 0 then (
  x_calc s216 (f_X11_act q_F 0 3 0 0 (x_c s216)) fun r219 s218 =>
  if r219 = 0 then (
  x_calc s218 (f_X11_act q_F 0 1 (-1) 0 (x_c s218)) fun r221 s220 =>
  if r221 = 0 then (
  x_calc s220 (f_X11_go q_F 0 (-1) (x_c s220)) fun r223 s222 =>
  if r223 = (-1) then (
  x_calc s222 (f_X11_go q_F 0 10 (x_c s222)) fun r225 s224 =>
  if r225 = (-1) then (
  x_calc s224 (f_X11_path q_F 0 0 10 (x_c s224)) fun r227 s226 =>
  if r227 = (-1) then (
  x_calc s226 (f_X11_book q_F 0 0 4 (x_c s226)) fun r229 s228 =>
  if r229 = (-2) then (
  x_calc s228 (f_X11_look q_F 0 18 (x_c s228)) fun r231 s230 =>
  if r231 = (-1) then (
  x_o s230 p 12 <|
  x_call (F_X12_isSame q_F p s230) fun r233 s232 =>
  if r233 = 0 then (
  some (0, s232))
  else (
  some (1, s232)))
  else (
  some (0, s230)))
  else (
  some (0, s228)))
  else (
  some (0, s226)))
  else (
  some (0, s224)))
  else (
  some (0, s222)))
  else (
  some (0, s220)))
  else (
  some (0, s218)))
  else (
  some (0, s216)))
  else (
  some (0, s214)))
  else (
  some (0, s211)))
  else (
  some (0, s209)))
  else (
  some (0, s207)))
  else (
  some (0, s205)))
  else (
  some (0, s203)))
  else (
  some (0, s201)))
  else (
  some (0, s199)))
  else (
  some (0, s197)))
  else (
  some (0, s195))) : Option (Int32 × x_U)) = some (1, u') := by
  have hz := h.2.2.2.1
  have hPA := hz.1.1.2.2.2.2.2.1
  have kp : x_k u p = .inl 12 := h.T.k0
  have t7 : x_t u p 7 = nI mu := h.T.2.1.1.2.2.2.2.2.2.2.1
  have em : z_m = (-1 : Int32) := rfl
  have e0 : nI 0 = (0 : Int32) := rfl
  have eu : x_uc u (x_c u) = u := rfl
  obtain ⟨u', h1, n1, m1, e1⟩ := h.same hb
  have g0 : f_X11_days q_F 0 0 (x_c u) = some (z_m, x_c u) := c_days0
  have g1 : f_X11_days q_F 0 61 (x_c u) = some (z_m, x_c u) := c_days61
  have g2 : f_X11_mule q_F 0 0 0 (x_c u) = some (z_m, x_c u) := c_mule00
  have g3 : f_X11_mule q_F 0 41 0 (x_c u) = some (z_m, x_c u) := c_mule41
  have g4 : f_X11_mule q_F 0 1 41 (x_c u) = some (z_m, x_c u) := c_mule141
  have g5 : f_X11_man q_F 0 100 0 0 (x_c u) = some (z_m, x_c u) := c_man100
  have g6 : f_X11_man q_F 0 0 10 0 (x_c u) = some (z_m, x_c u) := c_man010
  have g7 : f_X11_man q_F 0 0 0 10 (x_c u) = some (z_m, x_c u) := c_man001
  have g8 : f_X11_set q_F 0 1 0 10 (x_c u) = some (nI 0, x_c u) := c_set01n (w := 1) (v := 10) (x := 0) (by omega) (by omega) (by omega)
  have g9 : f_X11_set q_F 0 2 (nI mu) 0 (x_c u) = some (nI 0, x_c u) := c_set2n (x := nI mu) (v := 0) hz (Or.inl (y_ge (Nat.le_refl _) (by have := hz.g.1; omega)))
  have g10 : f_X11_like q_F 0 0 (-1) 0 (x_c u) = some (nI 0, x_c u) := c_like0m hz
  have g11 : f_X11_act q_F 0 3 0 0 (x_c u) = some (nI 0, x_c u) := c_act3
  have g12 : f_X11_act q_F 0 1 (-1) 0 (x_c u) = some (nI 0, x_c u) := c_actK (w := 1) (a1 := z_m) (a2 := 0) hz (by omega) (Or.inl (by rw [z_m_lt (by omega)]; trivial))
  have g13 : f_X11_go q_F 0 (-1) (x_c u) = some (z_m, x_c u) := c_gon (a0 := z_m) hz (Or.inr (c_pathm hPA))
  have g14 : f_X11_go q_F 0 10 (x_c u) = some (z_m, x_c u) := c_gon (a0 := nI 10) hz (Or.inr (c_path10 hPA))
  have g15 : f_X11_path q_F 0 0 10 (x_c u) = some (z_m, x_c u) := (c_path (x := 0) (y := nI 10) hz).trans (by rw [c_path10 hPA])
  have g16 : f_X11_book q_F 0 0 4 (x_c u) = some (-2, x_c u) := c_bookC (x := nI 4) hz (by decide)
  have g17 : f_X11_look q_F 0 18 (x_c u) = some (z_m, x_c u) := c_look (i := 18) hz (by omega)
  refine ⟨u', n1, m1, ?_⟩
  rw [g0, z_xcalc, eu, if_pos em]
  rw [g1, z_xcalc, eu, if_pos em]
  rw [g2, z_xcalc, eu, if_pos em]
  rw [g3, z_xcalc, eu, if_pos em]
  rw [g4, z_xcalc, eu, if_pos em]
  rw [g5, z_xcalc, eu, if_pos em]
  rw [g6, z_xcalc, eu, if_pos em]
  rw [g7, z_xcalc, eu, if_pos em]
  rw [g8, z_xcalc, eu, if_pos e0]
  rw [p_xgi, h_xgiE kp, t7]
  rw [g9, z_xcalc, eu, if_pos e0]
  rw [g10, z_xcalc, eu, if_pos e0]
  rw [g11, z_xcalc, eu, if_pos e0]
  rw [g12, z_xcalc, eu, if_pos e0]
  rw [g13, z_xcalc, eu, if_pos em]
  rw [g14, z_xcalc, eu, if_pos em]
  rw [g15, z_xcalc, eu, if_pos em]
  rw [g16, z_xcalc, eu, if_pos (rfl : (-2 : Int32) = -2)]
  rw [g17, z_xcalc, eu, if_pos em]
  exact e1 (fun s => some (1, s))
end RF
