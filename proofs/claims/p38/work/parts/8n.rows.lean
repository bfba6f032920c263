/-! the class reads the lines that the law writes -/
section RW
variable {mu me N k p : Nat} {T : zt_T} {s : q_Sto}
/-- a number as it should be -/
theorem c_num {lo H : Nat} {hi : Int32} (hk : k < 5) (hC : zt_C s T p) (h2 : zt_cd k T p = 2) (hlo : lo ≤ zt_va T p) (hH : ∀ v, v < 10000 → (nI v ≤ hi) = (v < H)) (hv : zt_va T p < H) : ∃ s', f_X8_expectNumber q_F 142 (nI lo) hi z_m s = some (nI (zt_va T p), s') ∧ zt_C s' T (zt_nx T p) ∧ zr_tS s s' := by
  have hv4 := zt_va_lt hk hC.2.1 h2
  obtain ⟨s', b1, b2, b3, b4⟩ := c_expOK (lo := nI lo) (hi := hi) (b := z_m) hC hk h2 (z_ltF hlo (by omega)) ((hH _ hv4).trans (eq_true hv)) (z_eq_m (by omega))
  exact ⟨s', b4, b3, b1, b2⟩
theorem c_kwd {w c : Nat} (hk : k < 5) (hC : zt_C s T p) (ho : zt_ok k w c = true) (h : zt_cd k T p = c) : ∃ s', f_X8_expectWord q_F 142 w s = some (nI 1, s') ∧ f_X8_takeWord q_F 142 w s = some (nI 1, s') ∧ zt_C s' T (zt_nx T p) ∧ zr_tS s s' := by
  have tw := c_wT hC hk ho h
  obtain ⟨s', b1, b2, b3⟩ := c_nextS hC
  have e : f_X8_takeWord q_F 142 w s = some (nI 1, s') := by
    unfold f_X8_takeWord
    simp (disch := omega) only [tw, b3, ↓reduceIte, ↓p_ld, ↓p_st, ↓p_nm, ↓p_nS, ↓p_jn, ↓p_call, ↓p_callv, ↓p_dv, ↓p_rem, h_ldE, h_stE, h_nmE, h_nSE, h_callE, h_callvE, h_dvE, h_remE, if_true, if_false, z_upS, z_upO, z_upK, nI_add, z_mul, z_sub, z_div, Nat.add_zero, Nat.mul_zero, Nat.zero_add, Nat.sub_zero, Nat.zero_mul, z_ltT, z_ltF, z_leT, z_leF, z_eqT, z_eqF, z_inT, z_clT, not_true_eq_false, not_false_eq_true, eq_self, true_or, or_true, z_m_lt, z_m_le, z_lt_m, z_le_m, z_eq_m, z_m_eq, z_rz0, z_rz1, z_m_add, z_of, r_0_0, r_0_1, r_0_3, r_0_4, r_0_5, r_0_6, r_0_7, r_0_8, r_0_9, r_0_10, r_1_0, r_1_1, r_1_2, r_1_3, r_1_4, r_1_5, r_1_6, r_1_7, r_1_8, r_2_0, r_2_1, r_2_2, r_2_3, r_2_4, r_2_5, r_2_6, r_2_7, r_11_0, r_11_1, r_11_2, r_11_3, r_11_4, r_11_5, r_11_6, r_19_0, r_21_0, r_23_0, r_25_0, r_27_0, r_61_0, r_117_0, r_117_1, r_117_2, r_117_3, r_117_4, r_117_5, r_117_6, r_117_7, r_126_0, r_126_1, r_126_2, r_126_3, r_126_4, r_132_0, r_132_1, r_135_0, r_135_1, r_135_2, r_135_3, r_135_4, r_135_5, r_142_0, r_144_0, r_144_1, r_144_2, r_145_0, r_145_1, r_145_2, r_145_3, r_145_4, r_145_5, r_145_6, r_154_0, r_154_1, r_155_0, ↓z_m1, l_0, l_1, l_2, l_3, l_4, l_5, l_6, l_7, l_8, l_9, l_10, l_11, l_12, l_13, l_14, l_15, l_16, l_17, l_18, l_19, l_20, l_21, l_22, l_23, l_24, l_25, l_26, l_27, l_28, l_29, l_30, l_31, l_32, l_33, l_34, l_35, l_36, l_37, l_38, l_39, l_40, l_41, l_42, l_43, l_44, l_45, l_46, l_47, l_48, l_49, l_50, l_51, l_52, l_53, l_54, l_55, l_56, l_57, l_59, l_60, l_61, l_62, l_63, l_64, l_65, l_80, l_86, l_87, l_88, l_89, l_90, l_91, l_92, l_93, l_94, l_95, l_97, l_99, l_100, l_107, l_119, l_122, l_124, l_129, l_140, l_141, l_142, l_143, l_144, l_145, l_147, l_150, l_159, l_160, l_161, l_162, l_205, l_253, l_255, l_256, l_269, l_305, l_380, l_399, l_400, l_420, l_430, l_516, l_600, l_720, l_820, l_905, l_921, l_937, l_953, l_970, l_999, l_1000, l_1790, l_4096, l_9999, l_1000000]
  refine ⟨s', ?_, e, b1, b2⟩
  unfold f_X8_expectWord
  simp (disch := omega) only [e, ↓reduceIte, ↓p_ld, ↓p_st, ↓p_nm, ↓p_nS, ↓p_jn, ↓p_call, ↓p_callv, ↓p_dv, ↓p_rem, h_ldE, h_stE, h_nmE, h_nSE, h_callE, h_callvE, h_dvE, h_remE, if_true, if_false, z_upS, z_upO, z_upK, nI_add, z_mul, z_sub, z_div, Nat.add_zero, Nat.mul_zero, Nat.zero_add, Nat.sub_zero, Nat.zero_mul, z_ltT, z_ltF, z_leT, z_leF, z_eqT, z_eqF, z_inT, z_clT, not_true_eq_false, not_false_eq_true, eq_self, true_or, or_true, z_m_lt, z_m_le, z_lt_m, z_le_m, z_eq_m, z_m_eq, z_rz0, z_rz1, z_m_add, z_of, r_0_0, r_0_1, r_0_3, r_0_4, r_0_5, r_0_6, r_0_7, r_0_8, r_0_9, r_0_10, r_1_0, r_1_1, r_1_2, r_1_3, r_1_4, r_1_5, r_1_6, r_1_7, r_1_8, r_2_0, r_2_1, r_2_2, r_2_3, r_2_4, r_2_5, r_2_6, r_2_7, r_11_0, r_11_1, r_11_2, r_11_3, r_11_4, r_11_5, r_11_6, r_19_0, r_21_0, r_23_0, r_25_0, r_27_0, r_61_0, r_117_0, r_117_1, r_117_2, r_117_3, r_117_4, r_117_5, r_117_6, r_117_7, r_126_0, r_126_1, r_126_2, r_126_3, r_126_4, r_132_0, r_132_1, r_135_0, r_135_1, r_135_2, r_135_3, r_135_4, r_135_5, r_142_0, r_144_0, r_144_1, r_144_2, r_145_0, r_145_1, r_145_2, r_145_3, r_145_4, r_145_5, r_145_6, r_154_0, r_154_1, r_155_0, ↓z_m1, l_0, l_1, l_2, l_3, l_4, l_5, l_6, l_7, l_8, l_9, l_10, l_11, l_12, l_13, l_14, l_15, l_16, l_17, l_18, l_19, l_20, l_21, l_22, l_23, l_24, l_25, l_26, l_27, l_28, l_29, l_30, l_31, l_32, l_33, l_34, l_35, l_36, l_37, l_38, l_39, l_40, l_41, l_42, l_43, l_44, l_45, l_46, l_47, l_48, l_49, l_50, l_51, l_52, l_53, l_54, l_55, l_56, l_57, l_59, l_60, l_61, l_62, l_63, l_64, l_65, l_80, l_86, l_87, l_88, l_89, l_90, l_91, l_92, l_93, l_94, l_95, l_97, l_99, l_100, l_107, l_119, l_122, l_124, l_129, l_140, l_141, l_142, l_143, l_144, l_145, l_147, l_150, l_159, l_160, l_161, l_162, l_205, l_253, l_255, l_256, l_269, l_305, l_380, l_399, l_400, l_420, l_430, l_516, l_600, l_720, l_820, l_905, l_921, l_937, l_953, l_970, l_999, l_1000, l_1790, l_4096, l_9999, l_1000000]
theorem c_kwn {w c : Nat} (hk : k < 5) (hC : zt_C s T p) (ho : zt_ok k w c = true) (h : ¬ zt_cd k T p = c) : f_X8_takeWord q_F 142 w s = some (nI 0, s) := by
  have tw := c_wF hC hk ho h
  unfold f_X8_takeWord
  simp (disch := omega) only [tw, ↓reduceIte, ↓p_ld, ↓p_st, ↓p_nm, ↓p_nS, ↓p_jn, ↓p_call, ↓p_callv, ↓p_dv, ↓p_rem, h_ldE, h_stE, h_nmE, h_nSE, h_callE, h_callvE, h_dvE, h_remE, if_true, if_false, z_upS, z_upO, z_upK, nI_add, z_mul, z_sub, z_div, Nat.add_zero, Nat.mul_zero, Nat.zero_add, Nat.sub_zero, Nat.zero_mul, z_ltT, z_ltF, z_leT, z_leF, z_eqT, z_eqF, z_inT, z_clT, not_true_eq_false, not_false_eq_true, eq_self, true_or, or_true, z_m_lt, z_m_le, z_lt_m, z_le_m, z_eq_m, z_m_eq, z_rz0, z_rz1, z_m_add, z_of, r_0_0, r_0_1, r_0_3, r_0_4, r_0_5, r_0_6, r_0_7, r_0_8, r_0_9, r_0_10, r_1_0, r_1_1, r_1_2, r_1_3, r_1_4, r_1_5, r_1_6, r_1_7, r_1_8, r_2_0, r_2_1, r_2_2, r_2_3, r_2_4, r_2_5, r_2_6, r_2_7, r_11_0, r_11_1, r_11_2, r_11_3, r_11_4, r_11_5, r_11_6, r_19_0, r_21_0, r_23_0, r_25_0, r_27_0, r_61_0, r_117_0, r_117_1, r_117_2, r_117_3, r_117_4, r_117_5, r_117_6, r_117_7, r_126_0, r_126_1, r_126_2, r_126_3, r_126_4, r_132_0, r_132_1, r_135_0, r_135_1, r_135_2, r_135_3, r_135_4, r_135_5, r_142_0, r_144_0, r_144_1, r_144_2, r_145_0, r_145_1, r_145_2, r_145_3, r_145_4, r_145_5, r_145_6, r_154_0, r_154_1, r_155_0, ↓z_m1, l_0, l_1, l_2, l_3, l_4, l_5, l_6, l_7, l_8, l_9, l_10, l_11, l_12, l_13, l_14, l_15, l_16, l_17, l_18, l_19, l_20, l_21, l_22, l_23, l_24, l_25, l_26, l_27, l_28, l_29, l_30, l_31, l_32, l_33, l_34, l_35, l_36, l_37, l_38, l_39, l_40, l_41, l_42, l_43, l_44, l_45, l_46, l_47, l_48, l_49, l_50, l_51, l_52, l_53, l_54, l_55, l_56, l_57, l_59, l_60, l_61, l_62, l_63, l_64, l_65, l_80, l_86, l_87, l_88, l_89, l_90, l_91, l_92, l_93, l_94, l_95, l_97, l_99, l_100, l_107, l_119, l_122, l_124, l_129, l_140, l_141, l_142, l_143, l_144, l_145, l_147, l_150, l_159, l_160, l_161, l_162, l_205, l_253, l_255, l_256, l_269, l_305, l_380, l_399, l_400, l_420, l_430, l_516, l_600, l_720, l_820, l_905, l_921, l_937, l_953, l_970, l_999, l_1000, l_1790, l_4096, l_9999, l_1000000]
theorem c_smc (hk : k < 5) (hC : zt_C s T p) (h : zt_cd k T p = 159) : ∃ s', f_X8_expectSign q_F 142 (nI 59) s = some (nI 1, s') ∧ zt_C s' T (zt_nx T p) ∧ zr_tS s s' := by
  have tw := c_sT (c := 59) hC hk (by omega) h
  obtain ⟨s', b1, b2, b3⟩ := c_nextS hC
  refine ⟨s', ?_, b1, b2⟩
  unfold f_X8_expectSign f_X8_takeSign
  simp (disch := omega) only [tw, b3, ↓reduceIte, ↓p_ld, ↓p_st, ↓p_nm, ↓p_nS, ↓p_jn, ↓p_call, ↓p_callv, ↓p_dv, ↓p_rem, h_ldE, h_stE, h_nmE, h_nSE, h_callE, h_callvE, h_dvE, h_remE, if_true, if_false, z_upS, z_upO, z_upK, nI_add, z_mul, z_sub, z_div, Nat.add_zero, Nat.mul_zero, Nat.zero_add, Nat.sub_zero, Nat.zero_mul, z_ltT, z_ltF, z_leT, z_leF, z_eqT, z_eqF, z_inT, z_clT, not_true_eq_false, not_false_eq_true, eq_self, true_or, or_true, z_m_lt, z_m_le, z_lt_m, z_le_m, z_eq_m, z_m_eq, z_rz0, z_rz1, z_m_add, z_of, r_0_0, r_0_1, r_0_3, r_0_4, r_0_5, r_0_6, r_0_7, r_0_8, r_0_9, r_0_10, r_1_0, r_1_1, r_1_2, r_1_3, r_1_4, r_1_5, r_1_6, r_1_7, r_1_8, r_2_0, r_2_1, r_2_2, r_2_3, r_2_4, r_2_5, r_2_6, r_2_7, r_11_0, r_11_1, r_11_2, r_11_3, r_11_4, r_11_5, r_11_6, r_19_0, r_21_0, r_23_0, r_25_0, r_27_0, r_61_0, r_117_0, r_117_1, r_117_2, r_117_3, r_117_4, r_117_5, r_117_6, r_117_7, r_126_0, r_126_1, r_126_2, r_126_3, r_126_4, r_132_0, r_132_1, r_135_0, r_135_1, r_135_2, r_135_3, r_135_4, r_135_5, r_142_0, r_144_0, r_144_1, r_144_2, r_145_0, r_145_1, r_145_2, r_145_3, r_145_4, r_145_5, r_145_6, r_154_0, r_154_1, r_155_0, ↓z_m1, l_0, l_1, l_2, l_3, l_4, l_5, l_6, l_7, l_8, l_9, l_10, l_11, l_12, l_13, l_14, l_15, l_16, l_17, l_18, l_19, l_20, l_21, l_22, l_23, l_24, l_25, l_26, l_27, l_28, l_29, l_30, l_31, l_32, l_33, l_34, l_35, l_36, l_37, l_38, l_39, l_40, l_41, l_42, l_43, l_44, l_45, l_46, l_47, l_48, l_49, l_50, l_51, l_52, l_53, l_54, l_55, l_56, l_57, l_59, l_60, l_61, l_62, l_63, l_64, l_65, l_80, l_86, l_87, l_88, l_89, l_90, l_91, l_92, l_93, l_94, l_95, l_97, l_99, l_100, l_107, l_119, l_122, l_124, l_129, l_140, l_141, l_142, l_143, l_144, l_145, l_147, l_150, l_159, l_160, l_161, l_162, l_205, l_253, l_255, l_256, l_269, l_305, l_380, l_399, l_400, l_420, l_430, l_516, l_600, l_720, l_820, l_905, l_921, l_937, l_953, l_970, l_999, l_1000, l_1790, l_4096, l_9999, l_1000000]
/-- what a line leaves -/
def y_RG (F : Option (Int32 × q_Sto)) (s : q_Sto) (T : zt_T) (N : Nat) (row : Nat → Int32) (rest : List Nat) : Prop := ∃ s' q, F = some (nI 1, s') ∧ zt_C s' T q ∧ y_sf T q (59 :: rest) ∧ zr_fS s s' ∧ s' 155 2 = nI (N+1) ∧ s' 155 1 = nI 16 ∧ (∀ c, c < 4 → s' 156 (N*4+c) = row c) ∧ ∀ j, j < N*4 → s' 156 j = s 156 j
def y_r4 (a b c d : Int32) : Nat → Int32 := fun i => if i = 0 then a else if i = 1 then b else if i = 2 then c else d
theorem y_r4E {a b c d : Int32} {f : Nat → Int32} {o : Nat} (h0 : f o = a) (h1 : f (o+1) = b) (h2 : f (o+2) = c) (h3 : f (o+3) = d) : ∀ i, i < 4 → f (o+i) = y_r4 a b c d i := by
  intro i hi
  have : i = 0 ∨ i = 1 ∨ i = 2 ∨ i = 3 := by omega
  rcases this with rfl | rfl | rfl | rfl
  · exact h0
  · exact h1
  · exact h2
  · exact h3
/-- the row is laid down -/
theorem c_lay {s0 : q_Sto} {a b c d : Int32} {rest : List Nat} (hC : zt_C s T p) (hts : zr_tS s0 s) (h2 : s0 155 2 = nI N) (h1 : s0 155 1 = nI 16) (hN : N < 16) (hs : y_sf T p (59 :: rest)) : ∃ s', f_X6_add q_F 155 a b c d s = some (nI 0, s') ∧ ∀ F : Option (Int32 × q_Sto), F = some (nI 1, s') → y_RG F s0 T N (y_r4 a b c d) rest := by
  obtain ⟨s4, e1, e2, e3, e4, e5, e6, e7, e8, e9, e10⟩ := c_addR (a := a) (b := b) (c := c) (d := d) (by rw [hts.1 155 (by omega)]; exact h2) (by rw [hts.1 155 (by omega)]; exact h1) hN hC
  refine ⟨s4, e1, fun F hF => ⟨s4, p, hF, e10, hs, ⟨fun o o1 o2 o3 => by rw [e2 o o2 o3, hts.1 o o1], by rw [e2 142 (by omega) (by omega), hts.2 1 (by omega) (by omega) (by omega) (by omega)], e4.trans h1.symm⟩, e3, e4, y_r4E e5 e6 e7 e8, fun j hj => by rw [e9 j hj, hts.1 156 (by omega)]⟩⟩
/-- one whom a mule heeds: the last, and one before another -/
theorem c_hd1 {M A st i f : Nat} {K : Int32 → q_Sto → Option (Int32 × q_Sto)} (hmu : mu ≤ 12) (hC : zt_C s T p) (g8 : s 2 8 = nI mu) (h2 : zt_cd 1 T p = 2) (hv : zt_va T p = A) (hA : A < mu) (hM : M < mu) (hAM : A ≠ M) (hi : i < 400) (h5 : ¬ zt_cd 1 T (zt_nx T p) = 5) :
    ∃ s', f_X7_readHeed_L43 q_F 154 2 (nI M) K (f+2) (nI st) (nI 1) (nI i) s = K (nI (st ||| 2 ^ A)) s' ∧ zt_C s' T (zt_nx T p) ∧ zr_tS s s' := by
  obtain ⟨o1, o2, o3, o4, o5, o6, o7, o8, o9, o10, o11, o12, o13⟩ := zr_wok
  obtain ⟨hj, hhj⟩ : ∃ hj, hj = nI mu - nI 1 := ⟨_, rfl⟩
  have hHj : ∀ v, v < 10000 → (nI v ≤ hj) = (v < mu) := by rw [hhj]; exact zr_hi (by omega)
  have g8h : s 2 8 - nI 1 = hj := by rw [g8, hhj]
  obtain ⟨s1, b1, b2, b3, b4⟩ := c_expOK (lo := nI 0) (hi := hj) (b := nI M) hC (by omega) h2 (z_ltF (by omega) (by omega)) ((hHj _ (by omega)).trans (eq_true (by omega))) (z_eqF (by omega) (by omega) (by omega))
  rw [hv] at b4
  have esh := z_shl (m := A) (by omega)
  have eor : nI st ||| nI (2 ^ A) = nI (st ||| 2 ^ A) := z_or _ _
  have ek := c_kwn (by omega) b3 o3 h5
  refine ⟨s1, ?_, b3, b1, b2⟩
  have eC : f_X7_readHeed_L43 q_F 154 2 (nI M) K (f+2) (nI st) (nI 1) (nI i) s = f_X7_readHeed_L43 q_F 154 2 (nI M) K (f+1) (nI (st ||| 2 ^ A)) (nI 0) (nI (i+1)) s1 := by
    rw [show f + 2 = (f + 1) + 1 by omega, f_X7_readHeed_L43]
    generalize st ||| 2 ^ A = w at *
    generalize 2 ^ A = pw at *
    simp (disch := omega) only [g8h, b4, esh, eor, ek, ↓reduceIte, ↓p_ld, ↓p_st, ↓p_nm, ↓p_nS, ↓p_jn, ↓p_call, ↓p_callv, ↓p_dv, ↓p_rem, h_ldE, h_stE, h_nmE, h_nSE, h_callE, h_callvE, h_dvE, h_remE, if_true, if_false, z_upS, z_upO, z_upK, nI_add, z_mul, z_sub, z_div, Nat.add_zero, Nat.mul_zero, Nat.zero_add, Nat.sub_zero, Nat.zero_mul, z_ltT, z_ltF, z_leT, z_leF, z_eqT, z_eqF, z_inT, z_clT, not_true_eq_false, not_false_eq_true, eq_self, true_or, or_true, z_m_lt, z_m_le, z_lt_m, z_le_m, z_eq_m, z_m_eq, z_rz0, z_rz1, z_m_add, z_of, r_0_0, r_0_1, r_0_3, r_0_4, r_0_5, r_0_6, r_0_7, r_0_8, r_0_9, r_0_10, r_1_0, r_1_1, r_1_2, r_1_3, r_1_4, r_1_5, r_1_6, r_1_7, r_1_8, r_2_0, r_2_1, r_2_2, r_2_3, r_2_4, r_2_5, r_2_6, r_2_7, r_11_0, r_11_1, r_11_2, r_11_3, r_11_4, r_11_5, r_11_6, r_19_0, r_21_0, r_23_0, r_25_0, r_27_0, r_31_0, r_31_1, r_31_2, r_31_3, r_31_4, r_31_5, r_31_6, r_31_7, r_31_8, r_32_0, r_32_1, r_32_2, r_32_3, r_32_4, r_32_5, r_32_6, r_32_7, r_41_0, r_41_1, r_41_2, r_41_3, r_41_4, r_41_5, r_41_6, r_49_0, r_51_0, r_53_0, r_55_0, r_57_0, r_61_0, r_63_0, r_63_1, r_63_2, r_63_3, r_63_4, r_63_5, r_63_6, r_63_7, r_72_0, r_72_1, r_72_2, r_72_3, r_72_4, r_72_5, r_72_6, r_72_7, r_81_0, r_81_1, r_81_2, r_81_3, r_81_4, r_81_5, r_81_6, r_81_7, r_90_0, r_90_1, r_90_2, r_90_3, r_90_4, r_90_5, r_90_6, r_90_7, r_99_0, r_99_1, r_99_2, r_99_3, r_99_4, r_99_5, r_99_6, r_99_7, r_108_0, r_108_1, r_108_2, r_108_3, r_108_4, r_108_5, r_108_6, r_108_7, r_117_0, r_117_1, r_117_2, r_117_3, r_117_4, r_117_5, r_117_6, r_117_7, r_126_0, r_126_1, r_126_2, r_126_3, r_126_4, r_132_0, r_132_1, r_135_0, r_135_1, r_135_2, r_135_3, r_135_4, r_135_5, r_142_0, r_144_0, r_144_1, r_144_2, r_145_0, r_145_1, r_145_2, r_145_3, r_145_4, r_145_5, r_145_6, r_154_0, r_154_1, r_155_0, ↓z_m1, l_0, l_1, l_2, l_3, l_4, l_5, l_6, l_7, l_8, l_9, l_10, l_11, l_12, l_13, l_14, l_15, l_16, l_17, l_18, l_19, l_20, l_21, l_22, l_23, l_24, l_25, l_26, l_27, l_28, l_29, l_30, l_31, l_32, l_33, l_34, l_35, l_36, l_37, l_38, l_39, l_40, l_41, l_42, l_43, l_44, l_45, l_46, l_47, l_48, l_49, l_50, l_51, l_52, l_53, l_54, l_55, l_56, l_57, l_59, l_60, l_61, l_62, l_63, l_64, l_65, l_80, l_86, l_87, l_88, l_89, l_90, l_91, l_92, l_93, l_94, l_95, l_97, l_99, l_100, l_107, l_119, l_122, l_124, l_129, l_140, l_141, l_142, l_143, l_144, l_145, l_147, l_150, l_159, l_160, l_161, l_162, l_205, l_253, l_255, l_256, l_269, l_305, l_380, l_399, l_400, l_420, l_430, l_516, l_600, l_720, l_820, l_905, l_921, l_937, l_953, l_970, l_999, l_1000, l_1790, l_4096, l_9999, l_1000000]
  rw [eC, f_X7_readHeed_L43]
  generalize st ||| 2 ^ A = w at *
  simp (disch := omega) only [↓reduceIte, ↓p_ld, ↓p_st, ↓p_nm, ↓p_nS, ↓p_jn, ↓p_call, ↓p_callv, ↓p_dv, ↓p_rem, h_ldE, h_stE, h_nmE, h_nSE, h_callE, h_callvE, h_dvE, h_remE, if_true, if_false, z_upS, z_upO, z_upK, nI_add, z_mul, z_sub, z_div, Nat.add_zero, Nat.mul_zero, Nat.zero_add, Nat.sub_zero, Nat.zero_mul, z_ltT, z_ltF, z_leT, z_leF, z_eqT, z_eqF, z_inT, z_clT, not_true_eq_false, not_false_eq_true, eq_self, true_or, or_true, z_m_lt, z_m_le, z_lt_m, z_le_m, z_eq_m, z_m_eq, z_rz0, z_rz1, z_m_add, z_of, r_0_0, r_0_1, r_0_3, r_0_4, r_0_5, r_0_6, r_0_7, r_0_8, r_0_9, r_0_10, r_1_0, r_1_1, r_1_2, r_1_3, r_1_4, r_1_5, r_1_6, r_1_7, r_1_8, r_2_0, r_2_1, r_2_2, r_2_3, r_2_4, r_2_5, r_2_6, r_2_7, r_11_0, r_11_1, r_11_2, r_11_3, r_11_4, r_11_5, r_11_6, r_19_0, r_21_0, r_23_0, r_25_0, r_27_0, r_31_0, r_31_1, r_31_2, r_31_3, r_31_4, r_31_5, r_31_6, r_31_7, r_31_8, r_32_0, r_32_1, r_32_2, r_32_3, r_32_4, r_32_5, r_32_6, r_32_7, r_41_0, r_41_1, r_41_2, r_41_3, r_41_4, r_41_5, r_41_6, r_49_0, r_51_0, r_53_0, r_55_0, r_57_0, r_61_0, r_63_0, r_63_1, r_63_2, r_63_3, r_63_4, r_63_5, r_63_6, r_63_7, r_72_0, r_72_1, r_72_2, r_72_3, r_72_4, r_72_5, r_72_6, r_72_7, r_81_0, r_81_1, r_81_2, r_81_3, r_81_4, r_81_5, r_81_6, r_81_7, r_90_0, r_90_1, r_90_2, r_90_3, r_90_4, r_90_5, r_90_6, r_90_7, r_99_0, r_99_1, r_99_2, r_99_3, r_99_4, r_99_5, r_99_6, r_99_7, r_108_0, r_108_1, r_108_2, r_108_3, r_108_4, r_108_5, r_108_6, r_108_7, r_117_0, r_117_1, r_117_2, r_117_3, r_117_4, r_117_5, r_117_6, r_117_7, r_126_0, r_126_1, r_126_2, r_126_3, r_126_4, r_132_0, r_132_1, r_135_0, r_135_1, r_135_2, r_135_3, r_135_4, r_135_5, r_142_0, r_144_0, r_144_1, r_144_2, r_145_0, r_145_1, r_145_2, r_145_3, r_145_4, r_145_5, r_145_6, r_154_0, r_154_1, r_155_0, ↓z_m1, l_0, l_1, l_2, l_3, l_4, l_5, l_6, l_7, l_8, l_9, l_10, l_11, l_12, l_13, l_14, l_15, l_16, l_17, l_18, l_19, l_20, l_21, l_22, l_23, l_24, l_25, l_26, l_27, l_28, l_29, l_30, l_31, l_32, l_33, l_34, l_35, l_36, l_37, l_38, l_39, l_40, l_41, l_42, l_43, l_44, l_45, l_46, l_47, l_48, l_49, l_50, l_51, l_52, l_53, l_54, l_55, l_56, l_57, l_59, l_60, l_61, l_62, l_63, l_64, l_65, l_80, l_86, l_87, l_88, l_89, l_90, l_91, l_92, l_93, l_94, l_95, l_97, l_99, l_100, l_107, l_119, l_122, l_124, l_129, l_140, l_141, l_142, l_143, l_144, l_145, l_147, l_150, l_159, l_160, l_161, l_162, l_205, l_253, l_255, l_256, l_269, l_305, l_380, l_399, l_400, l_420, l_430, l_516, l_600, l_720, l_820, l_905, l_921, l_937, l_953, l_970, l_999, l_1000, l_1790, l_4096, l_9999, l_1000000]
theorem c_hd2 {M A st i f : Nat} {K : Int32 → q_Sto → Option (Int32 × q_Sto)} (hmu : mu ≤ 12) (hC : zt_C s T p) (g8 : s 2 8 = nI mu) (h2 : zt_cd 1 T p = 2) (hv : zt_va T p = A) (hA : A < mu) (hM : M < mu) (hAM : A ≠ M) (hi : i < 400) (h5 : zt_cd 1 T (zt_nx T p) = 5) :
    ∃ s', f_X7_readHeed_L43 q_F 154 2 (nI M) K (f+1) (nI st) (nI 1) (nI i) s = f_X7_readHeed_L43 q_F 154 2 (nI M) K f (nI (st ||| 2 ^ A)) (nI 1) (nI (i+1)) s' ∧ zt_C s' T (zt_nx T (zt_nx T p)) ∧ zr_tS s s' := by
  obtain ⟨o1, o2, o3, o4, o5, o6, o7, o8, o9, o10, o11, o12, o13⟩ := zr_wok
  obtain ⟨hj, hhj⟩ : ∃ hj, hj = nI mu - nI 1 := ⟨_, rfl⟩
  have hHj : ∀ v, v < 10000 → (nI v ≤ hj) = (v < mu) := by rw [hhj]; exact zr_hi (by omega)
  have g8h : s 2 8 - nI 1 = hj := by rw [g8, hhj]
  obtain ⟨s1, b1, b2, b3, b4⟩ := c_expOK (lo := nI 0) (hi := hj) (b := nI M) hC (by omega) h2 (z_ltF (by omega) (by omega)) ((hHj _ (by omega)).trans (eq_true (by omega))) (z_eqF (by omega) (by omega) (by omega))
  rw [hv] at b4
  have esh := z_shl (m := A) (by omega)
  have eor : nI st ||| nI (2 ^ A) = nI (st ||| 2 ^ A) := z_or _ _
  obtain ⟨s2, -, ek, x2, x3⟩ := c_kwd (by omega) b3 o3 h5
  refine ⟨s2, ?_, x2, zr_tS.trans ⟨b1, b2⟩ x3⟩
  rw [f_X7_readHeed_L43]
  generalize st ||| 2 ^ A = w at *
  generalize 2 ^ A = pw at *
  simp (disch := omega) only [g8h, b4, esh, eor, ek, ↓reduceIte, ↓p_ld, ↓p_st, ↓p_nm, ↓p_nS, ↓p_jn, ↓p_call, ↓p_callv, ↓p_dv, ↓p_rem, h_ldE, h_stE, h_nmE, h_nSE, h_callE, h_callvE, h_dvE, h_remE, if_true, if_false, z_upS, z_upO, z_upK, nI_add, z_mul, z_sub, z_div, Nat.add_zero, Nat.mul_zero, Nat.zero_add, Nat.sub_zero, Nat.zero_mul, z_ltT, z_ltF, z_leT, z_leF, z_eqT, z_eqF, z_inT, z_clT, not_true_eq_false, not_false_eq_true, eq_self, true_or, or_true, z_m_lt, z_m_le, z_lt_m, z_le_m, z_eq_m, z_m_eq, z_rz0, z_rz1, z_m_add, z_of, r_0_0, r_0_1, r_0_3, r_0_4, r_0_5, r_0_6, r_0_7, r_0_8, r_0_9, r_0_10, r_1_0, r_1_1, r_1_2, r_1_3, r_1_4, r_1_5, r_1_6, r_1_7, r_1_8, r_2_0, r_2_1, r_2_2, r_2_3, r_2_4, r_2_5, r_2_6, r_2_7, r_11_0, r_11_1, r_11_2, r_11_3, r_11_4, r_11_5, r_11_6, r_19_0, r_21_0, r_23_0, r_25_0, r_27_0, r_31_0, r_31_1, r_31_2, r_31_3, r_31_4, r_31_5, r_31_6, r_31_7, r_31_8, r_32_0, r_32_1, r_32_2, r_32_3, r_32_4, r_32_5, r_32_6, r_32_7, r_41_0, r_41_1, r_41_2, r_41_3, r_41_4, r_41_5, r_41_6, r_49_0, r_51_0, r_53_0, r_55_0, r_57_0, r_61_0, r_63_0, r_63_1, r_63_2, r_63_3, r_63_4, r_63_5, r_63_6, r_63_7, r_72_0, r_72_1, r_72_2, r_72_3, r_72_4, r_72_5, r_72_6, r_72_7, r_81_0, r_81_1, r_81_2, r_81_3, r_81_4, r_81_5, r_81_6, r_81_7, r_90_0, r_90_1, r_90_2, r_90_3, r_90_4, r_90_5, r_90_6, r_90_7, r_99_0, r_99_1, r_99_2, r_99_3, r_99_4, r_99_5, r_99_6, r_99_7, r_108_0, r_108_1, r_108_2, r_108_3, r_108_4, r_108_5, r_108_6, r_108_7, r_117_0, r_117_1, r_117_2, r_117_3, r_117_4, r_117_5, r_117_6, r_117_7, r_126_0, r_126_1, r_126_2, r_126_3, r_126_4, r_132_0, r_132_1, r_135_0, r_135_1, r_135_2, r_135_3, r_135_4, r_135_5, r_142_0, r_144_0, r_144_1, r_144_2, r_145_0, r_145_1, r_145_2, r_145_3, r_145_4, r_145_5, r_145_6, r_154_0, r_154_1, r_155_0, ↓z_m1, l_0, l_1, l_2, l_3, l_4, l_5, l_6, l_7, l_8, l_9, l_10, l_11, l_12, l_13, l_14, l_15, l_16, l_17, l_18, l_19, l_20, l_21, l_22, l_23, l_24, l_25, l_26, l_27, l_28, l_29, l_30, l_31, l_32, l_33, l_34, l_35, l_36, l_37, l_38, l_39, l_40, l_41, l_42, l_43, l_44, l_45, l_46, l_47, l_48, l_49, l_50, l_51, l_52, l_53, l_54, l_55, l_56, l_57, l_59, l_60, l_61, l_62, l_63, l_64, l_65, l_80, l_86, l_87, l_88, l_89, l_90, l_91, l_92, l_93, l_94, l_95, l_97, l_99, l_100, l_107, l_119, l_122, l_124, l_129, l_140, l_141, l_142, l_143, l_144, l_145, l_147, l_150, l_159, l_160, l_161, l_162, l_205, l_253, l_255, l_256, l_269, l_305, l_380, l_399, l_400, l_420, l_430, l_516, l_600, l_720, l_820, l_905, l_921, l_937, l_953, l_970, l_999, l_1000, l_1790, l_4096, l_9999, l_1000000]
/-- HEEDS -/
def y_hl (M A B : Nat) (two : Bool) : List Nat := [109, 117, 108, 101] ++ 32 :: (y_dg M ++ 32 :: ([104, 101, 101, 100, 115] ++ 32 :: (y_dg A ++ (if two = true then 32 :: ([97, 110, 100] ++ 32 :: (y_dg B ++ [59])) else [59]))))
def y_hset (A B : Nat) (two : Bool) : Nat := 2 ^ A ||| (if two = true then 2 ^ B else 0)
theorem c_heedLine {M A B : Nat} {two : Bool} {rest : List Nat} (hmu : mu ≤ 12) (hC : zt_C s T p) (hs : y_sf T p (y_hl M A B two ++ rest)) (g8 : s 2 8 = nI mu) (h2 : s 155 2 = nI N) (h1 : s 155 1 = nI 16) (hN : N < 16) (hM : M < mu) (hA : A < mu) (hB : B < mu) (hAM : A ≠ M) (hBM : B ≠ M) : y_RG (f_X7_readLine q_F 154 (nI 1) 2 s) s T N (y_r4 (nI M) (nI (y_hset A B two)) (nI 0) (nI 0)) rest := by
  obtain ⟨o1, o2, o3, o4, o5, o6, o7, o8, o9, o10, o11, o12, o13⟩ := zr_wok
  have hF : q_F = (q_F - 3) + 3 := rfl
  obtain ⟨hj, hhj⟩ : ∃ hj, hj = nI mu - nI 1 := ⟨_, rfl⟩
  have hHj : ∀ v, v < 10000 → (nI v ≤ hj) = (v < mu) := by rw [hhj]; exact zr_hi (by omega)
  have hs0 : y_sf T p ([109, 117, 108, 101] ++ 32 :: (y_dg M ++ 32 :: ([104, 101, 101, 100, 115] ++ 32 :: (y_dg A ++ ((if two = true then 32 :: ([97, 110, 100] ++ 32 :: (y_dg B ++ [59])) else [59]) ++ rest))))) := by
    have e : y_hl M A B two ++ rest = [109, 117, 108, 101] ++ 32 :: (y_dg M ++ 32 :: ([104, 101, 101, 100, 115] ++ 32 :: (y_dg A ++ ((if two = true then 32 :: ([97, 110, 100] ++ 32 :: (y_dg B ++ [59])) else [59]) ++ rest)))) := by
      unfold y_hl
      simp only [List.append_assoc, List.cons_append, List.nil_append]
    rw [← e]; exact hs
  obtain ⟨t0, hs1⟩ := y_tw1 (k := 1) (code := 7) hs0 (by decide) (by decide) (by decide +kernel)
  obtain ⟨s1, b1, b2, b3⟩ := c_nextS hC
  obtain ⟨t1, v1, hs2⟩ := y_tn2 (k := 1) (by omega) hs1 (by omega) (by decide)
  obtain ⟨t2, hs3⟩ := y_tw2 (k := 1) (code := 8) hs2 (by decide) (by decide) (by decide +kernel)
  have g81 : s1 2 8 = nI mu := by rw [b2.1 2 (by omega)]; exact g8
  have g8h : s1 2 8 - nI 1 = hj := by rw [g81, hhj]
  obtain ⟨s2, d1, d2, d3⟩ := c_num (lo := 0) (by omega) b1 t1 (Nat.zero_le _) hHj (by omega)
  rw [v1] at d1
  obtain ⟨s3, e1, -, e2, e3⟩ := c_kwd (by omega) d2 o2 t2
  have hts3 : zr_tS s s3 := b2.trans (d3.trans e3)
  have g83 : s3 2 8 = nI mu := by rw [hts3.1 2 (by omega)]; exact g8
  rw [c_rowLine (k := 1) (Or.inl rfl) hC t0 h2 hN b3]
  have eF : ∀ r, f_X7_readHeed q_F 154 2 s1 = r → (q_call (zr_FX 1 s1) fun r x => q_rz r x) = q_call r fun r x => q_rz r x := fun r hr => by rw [← hr]; rfl
  have eH : f_X7_readHeed q_F 154 2 s1 = f_X7_readHeed_L43 q_F 154 2 (nI M) (fun (y15 : Int32) (s16 : q_Sto) =>
  q_callv (f_X6_add q_F (q_RF 154 1) (nI M) y15 0 0 s16) fun s17 =>
  some (1, s17)) q_F (nI 0) (nI 1) (nI 0) s3 := by
    unfold f_X7_readHeed
    simp (disch := omega) only [g8h, d1, e1, ↓reduceIte, ↓p_ld, ↓p_st, ↓p_nm, ↓p_nS, ↓p_jn, ↓p_call, ↓p_callv, ↓p_dv, ↓p_rem, h_ldE, h_stE, h_nmE, h_nSE, h_callE, h_callvE, h_dvE, h_remE, if_true, if_false, z_upS, z_upO, z_upK, nI_add, z_mul, z_sub, z_div, Nat.add_zero, Nat.mul_zero, Nat.zero_add, Nat.sub_zero, Nat.zero_mul, z_ltT, z_ltF, z_leT, z_leF, z_eqT, z_eqF, z_inT, z_clT, not_true_eq_false, not_false_eq_true, eq_self, true_or, or_true, z_m_lt, z_m_le, z_lt_m, z_le_m, z_eq_m, z_m_eq, z_rz0, z_rz1, z_m_add, z_of, r_0_0, r_0_1, r_0_3, r_0_4, r_0_5, r_0_6, r_0_7, r_0_8, r_0_9, r_0_10, r_1_0, r_1_1, r_1_2, r_1_3, r_1_4, r_1_5, r_1_6, r_1_7, r_1_8, r_2_0, r_2_1, r_2_2, r_2_3, r_2_4, r_2_5, r_2_6, r_2_7, r_11_0, r_11_1, r_11_2, r_11_3, r_11_4, r_11_5, r_11_6, r_19_0, r_21_0, r_23_0, r_25_0, r_27_0, r_31_0, r_31_1, r_31_2, r_31_3, r_31_4, r_31_5, r_31_6, r_31_7, r_31_8, r_32_0, r_32_1, r_32_2, r_32_3, r_32_4, r_32_5, r_32_6, r_32_7, r_41_0, r_41_1, r_41_2, r_41_3, r_41_4, r_41_5, r_41_6, r_49_0, r_51_0, r_53_0, r_55_0, r_57_0, r_61_0, r_63_0, r_63_1, r_63_2, r_63_3, r_63_4, r_63_5, r_63_6, r_63_7, r_72_0, r_72_1, r_72_2, r_72_3, r_72_4, r_72_5, r_72_6, r_72_7, r_81_0, r_81_1, r_81_2, r_81_3, r_81_4, r_81_5, r_81_6, r_81_7, r_90_0, r_90_1, r_90_2, r_90_3, r_90_4, r_90_5, r_90_6, r_90_7, r_99_0, r_99_1, r_99_2, r_99_3, r_99_4, r_99_5, r_99_6, r_99_7, r_108_0, r_108_1, r_108_2, r_108_3, r_108_4, r_108_5, r_108_6, r_108_7, r_117_0, r_117_1, r_117_2, r_117_3, r_117_4, r_117_5, r_117_6, r_117_7, r_126_0, r_126_1, r_126_2, r_126_3, r_126_4, r_132_0, r_132_1, r_135_0, r_135_1, r_135_2, r_135_3, r_135_4, r_135_5, r_142_0, r_144_0, r_144_1, r_144_2, r_145_0, r_145_1, r_145_2, r_145_3, r_145_4, r_145_5, r_145_6, r_154_0, r_154_1, r_155_0, ↓z_m1, l_0, l_1, l_2, l_3, l_4, l_5, l_6, l_7, l_8, l_9, l_10, l_11, l_12, l_13, l_14, l_15, l_16, l_17, l_18, l_19, l_20, l_21, l_22, l_23, l_24, l_25, l_26, l_27, l_28, l_29, l_30, l_31, l_32, l_33, l_34, l_35, l_36, l_37, l_38, l_39, l_40, l_41, l_42, l_43, l_44, l_45, l_46, l_47, l_48, l_49, l_50, l_51, l_52, l_53, l_54, l_55, l_56, l_57, l_59, l_60, l_61, l_62, l_63, l_64, l_65, l_80, l_86, l_87, l_88, l_89, l_90, l_91, l_92, l_93, l_94, l_95, l_97, l_99, l_100, l_107, l_119, l_122, l_124, l_129, l_140, l_141, l_142, l_143, l_144, l_145, l_147, l_150, l_159, l_160, l_161, l_162, l_205, l_253, l_255, l_256, l_269, l_305, l_380, l_399, l_400, l_420, l_430, l_516, l_600, l_720, l_820, l_905, l_921, l_937, l_953, l_970, l_999, l_1000, l_1790, l_4096, l_9999, l_1000000]
  cases two with
  | false =>
    have hs3' : y_sf T (zt_nx T (zt_nx T (zt_nx T p))) (32 :: (y_dg A ++ 59 :: rest)) := hs3
    obtain ⟨t3, v3, hs4⟩ := y_tn2 (k := 1) (by omega) hs3' (by omega) (by decide)
    obtain ⟨t4, -⟩ := y_ts1 (k := 1) hs4 (by decide)
    obtain ⟨s4, f1, f2, f3⟩ := c_hd1 (f := q_F - 2) (st := 0) (i := 0) (K := fun (y15 : Int32) (s16 : q_Sto) =>
  q_callv (f_X6_add q_F (q_RF 154 1) (nI M) y15 0 0 s16) fun s17 =>
  some (1, s17)) hmu e2 g83 t3 v3 hA hM hAM (by omega) (by omega)
    obtain ⟨s5, x1, x2⟩ := c_lay (a := nI M) (b := nI (y_hset A B false)) (c := nI 0) (d := nI 0) f2 (hts3.trans f3) h2 h1 hN hs4
    refine x2 _ ?_
    have e0 : 0 ||| 2 ^ A = y_hset A B false := by
      unfold y_hset
      rw [Nat.zero_or]
      exact (Nat.or_zero _).symm
    rw [e0] at f1
    rw [eF _ eH]
    have f1 : f_X7_readHeed_L43 q_F 154 2 (nI M) (fun (y15 : Int32) (s16 : q_Sto) =>
  q_callv (f_X6_add q_F (q_RF 154 1) (nI M) y15 0 0 s16) fun s17 =>
  some (1, s17)) q_F (nI 0) (nI 1) (nI 0) s3 = _ := f1
    rw [f1]
    generalize y_hset A B false = w at *
    simp (disch := omega) only [x1, ↓reduceIte, ↓p_ld, ↓p_st, ↓p_nm, ↓p_nS, ↓p_jn, ↓p_call, ↓p_callv, ↓p_dv, ↓p_rem, h_ldE, h_stE, h_nmE, h_nSE, h_callE, h_callvE, h_dvE, h_remE, if_true, if_false, z_upS, z_upO, z_upK, nI_add, z_mul, z_sub, z_div, Nat.add_zero, Nat.mul_zero, Nat.zero_add, Nat.sub_zero, Nat.zero_mul, z_ltT, z_ltF, z_leT, z_leF, z_eqT, z_eqF, z_inT, z_clT, not_true_eq_false, not_false_eq_true, eq_self, true_or, or_true, z_m_lt, z_m_le, z_lt_m, z_le_m, z_eq_m, z_m_eq, z_rz0, z_rz1, z_m_add, z_of, r_0_0, r_0_1, r_0_3, r_0_4, r_0_5, r_0_6, r_0_7, r_0_8, r_0_9, r_0_10, r_1_0, r_1_1, r_1_2, r_1_3, r_1_4, r_1_5, r_1_6, r_1_7, r_1_8, r_2_0, r_2_1, r_2_2, r_2_3, r_2_4, r_2_5, r_2_6, r_2_7, r_11_0, r_11_1, r_11_2, r_11_3, r_11_4, r_11_5, r_11_6, r_19_0, r_21_0, r_23_0, r_25_0, r_27_0, r_31_0, r_31_1, r_31_2, r_31_3, r_31_4, r_31_5, r_31_6, r_31_7, r_31_8, r_32_0, r_32_1, r_32_2, r_32_3, r_32_4, r_32_5, r_32_6, r_32_7, r_41_0, r_41_1, r_41_2, r_41_3, r_41_4, r_41_5, r_41_6, r_49_0, r_51_0, r_53_0, r_55_0, r_57_0, r_61_0, r_63_0, r_63_1, r_63_2, r_63_3, r_63_4, r_63_5, r_63_6, r_63_7, r_72_0, r_72_1, r_72_2, r_72_3, r_72_4, r_72_5, r_72_6, r_72_7, r_81_0, r_81_1, r_81_2, r_81_3, r_81_4, r_81_5, r_81_6, r_81_7, r_90_0, r_90_1, r_90_2, r_90_3, r_90_4, r_90_5, r_90_6, r_90_7, r_99_0, r_99_1, r_99_2, r_99_3, r_99_4, r_99_5, r_99_6, r_99_7, r_108_0, r_108_1, r_108_2, r_108_3, r_108_4, r_108_5, r_108_6, r_108_7, r_117_0, r_117_1, r_117_2, r_117_3, r_117_4, r_117_5, r_117_6, r_117_7, r_126_0, r_126_1, r_126_2, r_126_3, r_126_4, r_132_0, r_132_1, r_135_0, r_135_1, r_135_2, r_135_3, r_135_4, r_135_5, r_142_0, r_144_0, r_144_1, r_144_2, r_145_0, r_145_1, r_145_2, r_145_3, r_145_4, r_145_5, r_145_6, r_154_0, r_154_1, r_155_0, ↓z_m1, l_0, l_1, l_2, l_3, l_4, l_5, l_6, l_7, l_8, l_9, l_10, l_11, l_12, l_13, l_14, l_15, l_16, l_17, l_18, l_19, l_20, l_21, l_22, l_23, l_24, l_25, l_26, l_27, l_28, l_29, l_30, l_31, l_32, l_33, l_34, l_35, l_36, l_37, l_38, l_39, l_40, l_41, l_42, l_43, l_44, l_45, l_46, l_47, l_48, l_49, l_50, l_51, l_52, l_53, l_54, l_55, l_56, l_57, l_59, l_60, l_61, l_62, l_63, l_64, l_65, l_80, l_86, l_87, l_88, l_89, l_90, l_91, l_92, l_93, l_94, l_95, l_97, l_99, l_100, l_107, l_119, l_122, l_124, l_129, l_140, l_141, l_142, l_143, l_144, l_145, l_147, l_150, l_159, l_160, l_161, l_162, l_205, l_253, l_255, l_256, l_269, l_305, l_380, l_399, l_400, l_420, l_430, l_516, l_600, l_720, l_820, l_905, l_921, l_937, l_953, l_970, l_999, l_1000, l_1790, l_4096, l_9999, l_1000000]
  | true =>
    have hs3' : y_sf T (zt_nx T (zt_nx T (zt_nx T p))) (32 :: (y_dg A ++ 32 :: ([97, 110, 100] ++ 32 :: (y_dg B ++ 59 :: rest)))) := by
      have e : (if true = true then 32 :: ([97, 110, 100] ++ 32 :: (y_dg B ++ [59])) else [59]) ++ rest = 32 :: ([97, 110, 100] ++ 32 :: (y_dg B ++ 59 :: rest)) := by
        rw [if_pos rfl]
        simp only [List.append_assoc, List.cons_append, List.nil_append]
      rw [e] at hs3
      exact hs3
    obtain ⟨t3, v3, hs4⟩ := y_tn2 (k := 1) (by omega) hs3' (by omega) (by decide)
    obtain ⟨t4, hs5⟩ := y_tw2 (k := 1) (code := 5) hs4 (by decide) (by decide) (by decide +kernel)
    obtain ⟨t5, v5, hs6⟩ := y_tn2 (k := 1) (by omega) hs5 (by omega) (by decide)
    obtain ⟨t6, -⟩ := y_ts1 (k := 1) hs6 (by decide)
    obtain ⟨s4, f1, f2, f3⟩ := c_hd2 (f := q_F - 1) (st := 0) (i := 0) (K := fun (y15 : Int32) (s16 : q_Sto) =>
  q_callv (f_X6_add q_F (q_RF 154 1) (nI M) y15 0 0 s16) fun s17 =>
  some (1, s17)) hmu e2 g83 t3 v3 hA hM hAM (by omega) t4
    obtain ⟨s5, k1, k2, k3⟩ := c_hd1 (f := q_F - 3) (st := 0 ||| 2 ^ A) (i := 1) (K := fun (y15 : Int32) (s16 : q_Sto) =>
  q_callv (f_X6_add q_F (q_RF 154 1) (nI M) y15 0 0 s16) fun s17 =>
  some (1, s17)) hmu f2 (by rw [f3.1 2 (by omega)]; exact g83) t5 v5 hB hM hBM (by omega) (by omega)
    obtain ⟨s6, x1, x2⟩ := c_lay (a := nI M) (b := nI (y_hset A B true)) (c := nI 0) (d := nI 0) k2 (hts3.trans (f3.trans k3)) h2 h1 hN hs6
    refine x2 _ ?_
    have e0 : 0 ||| 2 ^ A ||| 2 ^ B = y_hset A B true := by
      unfold y_hset
      rw [Nat.zero_or, if_pos rfl]
    rw [e0] at k1
    rw [eF _ eH]
    have f1 : f_X7_readHeed_L43 q_F 154 2 (nI M) (fun (y15 : Int32) (s16 : q_Sto) =>
  q_callv (f_X6_add q_F (q_RF 154 1) (nI M) y15 0 0 s16) fun s17 =>
  some (1, s17)) q_F (nI 0) (nI 1) (nI 0) s3 = f_X7_readHeed_L43 q_F 154 2 (nI M) (fun (y15 : Int32) (s16 : q_Sto) =>
  q_callv (f_X6_add q_F (q_RF 154 1) (nI M) y15 0 0 s16) fun s17 =>
  some (1, s17)) (q_F - 1) (nI (0 ||| 2 ^ A)) (nI 1) (nI 1) s4 := f1
    have k1 : f_X7_readHeed_L43 q_F 154 2 (nI M) (fun (y15 : Int32) (s16 : q_Sto) =>
  q_callv (f_X6_add q_F (q_RF 154 1) (nI M) y15 0 0 s16) fun s17 =>
  some (1, s17)) (q_F - 1) (nI (0 ||| 2 ^ A)) (nI 1) (nI 1) s4 = _ := k1
    rw [f1, k1]
    generalize y_hset A B true = w at *
    simp (disch := omega) only [x1, ↓reduceIte, ↓p_ld, ↓p_st, ↓p_nm, ↓p_nS, ↓p_jn, ↓p_call, ↓p_callv, ↓p_dv, ↓p_rem, h_ldE, h_stE, h_nmE, h_nSE, h_callE, h_callvE, h_dvE, h_remE, if_true, if_false, z_upS, z_upO, z_upK, nI_add, z_mul, z_sub, z_div, Nat.add_zero, Nat.mul_zero, Nat.zero_add, Nat.sub_zero, Nat.zero_mul, z_ltT, z_ltF, z_leT, z_leF, z_eqT, z_eqF, z_inT, z_clT, not_true_eq_false, not_false_eq_true, eq_self, true_or, or_true, z_m_lt, z_m_le, z_lt_m, z_le_m, z_eq_m, z_m_eq, z_rz0, z_rz1, z_m_add, z_of, r_0_0, r_0_1, r_0_3, r_0_4, r_0_5, r_0_6, r_0_7, r_0_8, r_0_9, r_0_10, r_1_0, r_1_1, r_1_2, r_1_3, r_1_4, r_1_5, r_1_6, r_1_7, r_1_8, r_2_0, r_2_1, r_2_2, r_2_3, r_2_4, r_2_5, r_2_6, r_2_7, r_11_0, r_11_1, r_11_2, r_11_3, r_11_4, r_11_5, r_11_6, r_19_0, r_21_0, r_23_0, r_25_0, r_27_0, r_31_0, r_31_1, r_31_2, r_31_3, r_31_4, r_31_5, r_31_6, r_31_7, r_31_8, r_32_0, r_32_1, r_32_2, r_32_3, r_32_4, r_32_5, r_32_6, r_32_7, r_41_0, r_41_1, r_41_2, r_41_3, r_41_4, r_41_5, r_41_6, r_49_0, r_51_0, r_53_0, r_55_0, r_57_0, r_61_0, r_63_0, r_63_1, r_63_2, r_63_3, r_63_4, r_63_5, r_63_6, r_63_7, r_72_0, r_72_1, r_72_2, r_72_3, r_72_4, r_72_5, r_72_6, r_72_7, r_81_0, r_81_1, r_81_2, r_81_3, r_81_4, r_81_5, r_81_6, r_81_7, r_90_0, r_90_1, r_90_2, r_90_3, r_90_4, r_90_5, r_90_6, r_90_7, r_99_0, r_99_1, r_99_2, r_99_3, r_99_4, r_99_5, r_99_6, r_99_7, r_108_0, r_108_1, r_108_2, r_108_3, r_108_4, r_108_5, r_108_6, r_108_7, r_117_0, r_117_1, r_117_2, r_117_3, r_117_4, r_117_5, r_117_6, r_117_7, r_126_0, r_126_1, r_126_2, r_126_3, r_126_4, r_132_0, r_132_1, r_135_0, r_135_1, r_135_2, r_135_3, r_135_4, r_135_5, r_142_0, r_144_0, r_144_1, r_144_2, r_145_0, r_145_1, r_145_2, r_145_3, r_145_4, r_145_5, r_145_6, r_154_0, r_154_1, r_155_0, ↓z_m1, l_0, l_1, l_2, l_3, l_4, l_5, l_6, l_7, l_8, l_9, l_10, l_11, l_12, l_13, l_14, l_15, l_16, l_17, l_18, l_19, l_20, l_21, l_22, l_23, l_24, l_25, l_26, l_27, l_28, l_29, l_30, l_31, l_32, l_33, l_34, l_35, l_36, l_37, l_38, l_39, l_40, l_41, l_42, l_43, l_44, l_45, l_46, l_47, l_48, l_49, l_50, l_51, l_52, l_53, l_54, l_55, l_56, l_57, l_59, l_60, l_61, l_62, l_63, l_64, l_65, l_80, l_86, l_87, l_88, l_89, l_90, l_91, l_92, l_93, l_94, l_95, l_97, l_99, l_100, l_107, l_119, l_122, l_124, l_129, l_140, l_141, l_142, l_143, l_144, l_145, l_147, l_150, l_159, l_160, l_161, l_162, l_205, l_253, l_255, l_256, l_269, l_305, l_380, l_399, l_400, l_420, l_430, l_516, l_600, l_720, l_820, l_905, l_921, l_937, l_953, l_970, l_999, l_1000, l_1790, l_4096, l_9999, l_1000000]
/-- PATHS -/
def y_wl (A B H : Nat) : List Nat := [112, 97, 116, 104] ++ 32 :: (y_dg A ++ 32 :: (y_dg B ++ 32 :: ([104, 111, 117, 114, 115] ++ 32 :: (y_dg H ++ [59]))))
theorem c_pathLine {A B H : Nat} {rest : List Nat} (hC : zt_C s T p) (hs : y_sf T p (y_wl A B H ++ rest)) (h2 : s 155 2 = nI N) (h1 : s 155 1 = nI 16) (hN : N < 16) (hA : A < 10) (hB : B < 10) (hAB : A ≠ B) (hH1 : 1 ≤ H) (hH : H ≤ 24) : y_RG (f_X7_readLine q_F 154 (nI 3) 2 s) s T N (y_r4 (nI A) (nI B) (nI H) (nI 0)) rest := by
  obtain ⟨o1, o2, o3, o4, o5, o6, o7, o8, o9, o10, o11, o12, o13⟩ := zr_wok
  have hs0 : y_sf T p ([112, 97, 116, 104] ++ 32 :: (y_dg A ++ 32 :: (y_dg B ++ 32 :: ([104, 111, 117, 114, 115] ++ 32 :: (y_dg H ++ 59 :: rest))))) := by
    have e : y_wl A B H ++ rest = [112, 97, 116, 104] ++ 32 :: (y_dg A ++ 32 :: (y_dg B ++ 32 :: ([104, 111, 117, 114, 115] ++ 32 :: (y_dg H ++ 59 :: rest)))) := by
      unfold y_wl
      simp only [List.append_assoc, List.cons_append, List.nil_append]
    rw [← e]; exact hs
  obtain ⟨t0, hs1⟩ := y_tw1 (k := 3) (code := 15) hs0 (by decide) (by decide) (by decide +kernel)
  obtain ⟨t1, v1, hs2⟩ := y_tn2 (k := 3) (by omega) hs1 (by omega) (by decide)
  obtain ⟨t2, v2, hs3⟩ := y_tn2 (k := 3) (by omega) hs2 (by omega) (by decide)
  obtain ⟨t3, hs4⟩ := y_tw2 (k := 3) (code := 16) hs3 (by decide) (by decide) (by decide +kernel)
  obtain ⟨t4, v4, hs5⟩ := y_tn2 (k := 3) (by omega) hs4 (by omega) (by decide)
  obtain ⟨s1, b1, b2, b3⟩ := c_nextS hC
  obtain ⟨s2, d1, d2, d3⟩ := c_num (lo := 0) (by omega) b1 t1 (Nat.zero_le _) (zr_c9 (c := 9) (by omega)) (by omega)
  rw [v1] at d1
  obtain ⟨s3, x1, x2, x3, x4⟩ := c_expOK (lo := nI 0) (hi := nI 9) (b := nI A) d2 (by omega) t2 (z_ltF (by omega) (by omega)) (z_leT (by omega) (by omega)) (z_eqF (by omega) (by omega) (by omega))
  rw [v2] at x4
  obtain ⟨s4, e1, -, e2, e3⟩ := c_kwd (by omega) x3 o11 t3
  obtain ⟨s5, f1, f2, f3⟩ := c_num (lo := 1) (by omega) e2 t4 (by omega) (zr_c9 (c := 24) (by omega)) (by omega)
  rw [v4] at f1
  have hts : zr_tS s s5 := b2.trans (d3.trans (zr_tS.trans ⟨x1, x2⟩ (e3.trans f3)))
  obtain ⟨s6, g1, g2⟩ := c_lay (a := nI A) (b := nI B) (c := nI H) (d := nI 0) f2 hts h2 h1 hN hs5
  refine g2 _ ?_
  rw [c_rowLine (k := 3) (Or.inr (Or.inr (Or.inl rfl))) hC t0 h2 hN b3]
  have eF : zr_FX 3 s1 = f_X7_readPath q_F 154 s1 := rfl
  rw [eF]
  unfold f_X7_readPath
  simp (disch := omega) only [d1, x4, e1, f1, g1, ↓reduceIte, ↓p_ld, ↓p_st, ↓p_nm, ↓p_nS, ↓p_jn, ↓p_call, ↓p_callv, ↓p_dv, ↓p_rem, h_ldE, h_stE, h_nmE, h_nSE, h_callE, h_callvE, h_dvE, h_remE, if_true, if_false, z_upS, z_upO, z_upK, nI_add, z_mul, z_sub, z_div, Nat.add_zero, Nat.mul_zero, Nat.zero_add, Nat.sub_zero, Nat.zero_mul, z_ltT, z_ltF, z_leT, z_leF, z_eqT, z_eqF, z_inT, z_clT, not_true_eq_false, not_false_eq_true, eq_self, true_or, or_true, z_m_lt, z_m_le, z_lt_m, z_le_m, z_eq_m, z_m_eq, z_rz0, z_rz1, z_m_add, z_of, r_0_0, r_0_1, r_0_3, r_0_4, r_0_5, r_0_6, r_0_7, r_0_8, r_0_9, r_0_10, r_1_0, r_1_1, r_1_2, r_1_3, r_1_4, r_1_5, r_1_6, r_1_7, r_1_8, r_2_0, r_2_1, r_2_2, r_2_3, r_2_4, r_2_5, r_2_6, r_2_7, r_11_0, r_11_1, r_11_2, r_11_3, r_11_4, r_11_5, r_11_6, r_19_0, r_21_0, r_23_0, r_25_0, r_27_0, r_31_0, r_31_1, r_31_2, r_31_3, r_31_4, r_31_5, r_31_6, r_31_7, r_31_8, r_32_0, r_32_1, r_32_2, r_32_3, r_32_4, r_32_5, r_32_6, r_32_7, r_41_0, r_41_1, r_41_2, r_41_3, r_41_4, r_41_5, r_41_6, r_49_0, r_51_0, r_53_0, r_55_0, r_57_0, r_61_0, r_63_0, r_63_1, r_63_2, r_63_3, r_63_4, r_63_5, r_63_6, r_63_7, r_72_0, r_72_1, r_72_2, r_72_3, r_72_4, r_72_5, r_72_6, r_72_7, r_81_0, r_81_1, r_81_2, r_81_3, r_81_4, r_81_5, r_81_6, r_81_7, r_90_0, r_90_1, r_90_2, r_90_3, r_90_4, r_90_5, r_90_6, r_90_7, r_99_0, r_99_1, r_99_2, r_99_3, r_99_4, r_99_5, r_99_6, r_99_7, r_108_0, r_108_1, r_108_2, r_108_3, r_108_4, r_108_5, r_108_6, r_108_7, r_117_0, r_117_1, r_117_2, r_117_3, r_117_4, r_117_5, r_117_6, r_117_7, r_126_0, r_126_1, r_126_2, r_126_3, r_126_4, r_132_0, r_132_1, r_135_0, r_135_1, r_135_2, r_135_3, r_135_4, r_135_5, r_142_0, r_144_0, r_144_1, r_144_2, r_145_0, r_145_1, r_145_2, r_145_3, r_145_4, r_145_5, r_145_6, r_154_0, r_154_1, r_155_0, ↓z_m1, l_0, l_1, l_2, l_3, l_4, l_5, l_6, l_7, l_8, l_9, l_10, l_11, l_12, l_13, l_14, l_15, l_16, l_17, l_18, l_19, l_20, l_21, l_22, l_23, l_24, l_25, l_26, l_27, l_28, l_29, l_30, l_31, l_32, l_33, l_34, l_35, l_36, l_37, l_38, l_39, l_40, l_41, l_42, l_43, l_44, l_45, l_46, l_47, l_48, l_49, l_50, l_51, l_52, l_53, l_54, l_55, l_56, l_57, l_59, l_60, l_61, l_62, l_63, l_64, l_65, l_80, l_86, l_87, l_88, l_89, l_90, l_91, l_92, l_93, l_94, l_95, l_97, l_99, l_100, l_107, l_119, l_122, l_124, l_129, l_140, l_141, l_142, l_143, l_144, l_145, l_147, l_150, l_159, l_160, l_161, l_162, l_205, l_253, l_255, l_256, l_269, l_305, l_380, l_399, l_400, l_420, l_430, l_516, l_600, l_720, l_820, l_905, l_921, l_937, l_953, l_970, l_999, l_1000, l_1790, l_4096, l_9999, l_1000000]
/-- PLANS -/
def y_pw (w : Nat) : List Nat := if w = 0 then [115, 97, 108, 116] else if w = 1 then [115, 105, 110, 103] else if w = 2 then [119, 104, 105, 112] else if w = 3 then [118, 111, 116, 101] else [103, 111]
def y_pl (D w K M : Nat) : List Nat := [111, 110] ++ 32 :: (y_dg D ++ 32 :: (y_pw w ++ (if w = 3 then [59] else 32 :: (y_dg K ++ (if w = 0 ∨ w = 2 then 32 :: (y_dg M ++ [59]) else [59])))))
theorem c_planLine {D w K M : Nat} {rest : List Nat} (hmu : mu ≤ 12) (hme : me ≤ 5) (hC : zt_C s T p) (hs : y_sf T p (y_pl D w K M ++ rest)) (g8 : s 2 8 = nI mu) (g9 : s 2 9 = nI me) (h2 : s 155 2 = nI N) (h1 : s 155 1 = nI 16) (hN : N < 16) (hD : D ≤ 999) (hw : w ≤ 4) (hK : w < 3 → K < me) (hK4 : w = 4 → K < 10) (hM : w = 0 ∨ w = 2 → M < mu) : y_RG (f_X7_readLine q_F 154 (nI 2) 2 s) s T N (y_r4 (nI D) (nI (if w = 3 then 0 else if w = 4 then 4 else w + 1)) (nI (if w = 3 then 0 else K)) (nI (if w = 0 ∨ w = 2 then M else 0))) rest := by
  obtain ⟨o1, o2, o3, o4, o5, o6, o7, o8, o9, o10, o11, o12, o13⟩ := zr_wok
  obtain ⟨hj, hhj⟩ : ∃ hj, hj = nI mu - nI 1 := ⟨_, rfl⟩
  have hHj : ∀ v, v < 10000 → (nI v ≤ hj) = (v < mu) := by rw [hhj]; exact zr_hi (by omega)
  obtain ⟨ej, hej⟩ : ∃ ej, ej = nI me - nI 1 := ⟨_, rfl⟩
  have hEj : ∀ v, v < 10000 → (nI v ≤ ej) = (v < me) := by rw [hej]; exact zr_hi (by omega)
  have hs0 : y_sf T p ([111, 110] ++ 32 :: (y_dg D ++ 32 :: (y_pw w ++ ((if w = 3 then [59] else 32 :: (y_dg K ++ (if w = 0 ∨ w = 2 then 32 :: (y_dg M ++ [59]) else [59]))) ++ rest)))) := by
    have e : y_pl D w K M ++ rest = [111, 110] ++ 32 :: (y_dg D ++ 32 :: (y_pw w ++ ((if w = 3 then [59] else 32 :: (y_dg K ++ (if w = 0 ∨ w = 2 then 32 :: (y_dg M ++ [59]) else [59]))) ++ rest))) := by
      unfold y_pl
      simp only [List.append_assoc, List.cons_append, List.nil_append]
    rw [← e]; exact hs
  obtain ⟨t0, hs1⟩ := y_tw1 (k := 2) (code := 9) hs0 (by decide) (by decide) (by decide +kernel)
  obtain ⟨t1, v1, hs2⟩ := y_tn2 (k := 2) (by omega) hs1 (by omega) (by decide)
  obtain ⟨s1, b1, b2, b3⟩ := c_nextS hC
  obtain ⟨s2, d1, d2, d3⟩ := c_num (lo := 0) (by omega) b1 t1 (Nat.zero_le _) (zr_c9 (c := 999) (by omega)) (by omega)
  rw [v1] at d1
  have hts2 : zr_tS s s2 := b2.trans d3
  have eF : zr_FX 2 s1 = f_X7_readPlan q_F 154 2 s1 := rfl
  rw [c_rowLine (k := 2) (Or.inr (Or.inl rfl)) hC t0 h2 hN b3, eF]
  have hww : w = 3 ∨ w = 0 ∨ w = 1 ∨ w = 2 ∨ w = 4 := by omega
  rcases hww with rfl | rfl | rfl | rfl | rfl
  · have hs2' : y_sf T (zt_nx T (zt_nx T p)) (32 :: ([118, 111, 116, 101] ++ 59 :: rest)) := hs2
    obtain ⟨t2, hs3⟩ := y_tw2 (k := 2) (code := 13) hs2' (by decide) (by decide) (by decide +kernel)
    obtain ⟨s3, -, e1, e2, e3⟩ := c_kwd (by omega) d2 o5 t2
    obtain ⟨s6, g1, g2⟩ := c_lay (a := nI D) (b := nI 0) (c := nI 0) (d := nI 0) e2 (hts2.trans e3) h2 h1 hN hs3
    refine g2 _ ?_
    unfold f_X7_readPlan
    simp (disch := omega) only [d1, e1, g1, ↓reduceIte, ↓p_ld, ↓p_st, ↓p_nm, ↓p_nS, ↓p_jn, ↓p_call, ↓p_callv, ↓p_dv, ↓p_rem, h_ldE, h_stE, h_nmE, h_nSE, h_callE, h_callvE, h_dvE, h_remE, if_true, if_false, z_upS, z_upO, z_upK, nI_add, z_mul, z_sub, z_div, Nat.add_zero, Nat.mul_zero, Nat.zero_add, Nat.sub_zero, Nat.zero_mul, z_ltT, z_ltF, z_leT, z_leF, z_eqT, z_eqF, z_inT, z_clT, not_true_eq_false, not_false_eq_true, eq_self, true_or, or_true, z_m_lt, z_m_le, z_lt_m, z_le_m, z_eq_m, z_m_eq, z_rz0, z_rz1, z_m_add, z_of, r_0_0, r_0_1, r_0_3, r_0_4, r_0_5, r_0_6, r_0_7, r_0_8, r_0_9, r_0_10, r_1_0, r_1_1, r_1_2, r_1_3, r_1_4, r_1_5, r_1_6, r_1_7, r_1_8, r_2_0, r_2_1, r_2_2, r_2_3, r_2_4, r_2_5, r_2_6, r_2_7, r_11_0, r_11_1, r_11_2, r_11_3, r_11_4, r_11_5, r_11_6, r_19_0, r_21_0, r_23_0, r_25_0, r_27_0, r_31_0, r_31_1, r_31_2, r_31_3, r_31_4, r_31_5, r_31_6, r_31_7, r_31_8, r_32_0, r_32_1, r_32_2, r_32_3, r_32_4, r_32_5, r_32_6, r_32_7, r_41_0, r_41_1, r_41_2, r_41_3, r_41_4, r_41_5, r_41_6, r_49_0, r_51_0, r_53_0, r_55_0, r_57_0, r_61_0, r_63_0, r_63_1, r_63_2, r_63_3, r_63_4, r_63_5, r_63_6, r_63_7, r_72_0, r_72_1, r_72_2, r_72_3, r_72_4, r_72_5, r_72_6, r_72_7, r_81_0, r_81_1, r_81_2, r_81_3, r_81_4, r_81_5, r_81_6, r_81_7, r_90_0, r_90_1, r_90_2, r_90_3, r_90_4, r_90_5, r_90_6, r_90_7, r_99_0, r_99_1, r_99_2, r_99_3, r_99_4, r_99_5, r_99_6, r_99_7, r_108_0, r_108_1, r_108_2, r_108_3, r_108_4, r_108_5, r_108_6, r_108_7, r_117_0, r_117_1, r_117_2, r_117_3, r_117_4, r_117_5, r_117_6, r_117_7, r_126_0, r_126_1, r_126_2, r_126_3, r_126_4, r_132_0, r_132_1, r_135_0, r_135_1, r_135_2, r_135_3, r_135_4, r_135_5, r_142_0, r_144_0, r_144_1, r_144_2, r_145_0, r_145_1, r_145_2, r_145_3, r_145_4, r_145_5, r_145_6, r_154_0, r_154_1, r_155_0, ↓z_m1, l_0, l_1, l_2, l_3, l_4, l_5, l_6, l_7, l_8, l_9, l_10, l_11, l_12, l_13, l_14, l_15, l_16, l_17, l_18, l_19, l_20, l_21, l_22, l_23, l_24, l_25, l_26, l_27, l_28, l_29, l_30, l_31, l_32, l_33, l_34, l_35, l_36, l_37, l_38, l_39, l_40, l_41, l_42, l_43, l_44, l_45, l_46, l_47, l_48, l_49, l_50, l_51, l_52, l_53, l_54, l_55, l_56, l_57, l_59, l_60, l_61, l_62, l_63, l_64, l_65, l_80, l_86, l_87, l_88, l_89, l_90, l_91, l_92, l_93, l_94, l_95, l_97, l_99, l_100, l_107, l_119, l_122, l_124, l_129, l_140, l_141, l_142, l_143, l_144, l_145, l_147, l_150, l_159, l_160, l_161, l_162, l_205, l_253, l_255, l_256, l_269, l_305, l_380, l_399, l_400, l_420, l_430, l_516, l_600, l_720, l_820, l_905, l_921, l_937, l_953, l_970, l_999, l_1000, l_1790, l_4096, l_9999, l_1000000]
  · have hs2' : y_sf T (zt_nx T (zt_nx T p)) (32 :: ([115, 97, 108, 116] ++ 32 :: (y_dg K ++ 32 :: (y_dg M ++ 59 :: rest)))) := by
      have e : ((if (0 : Nat) = 3 then [59] else 32 :: (y_dg K ++ (if (0 : Nat) = 0 ∨ (0 : Nat) = 2 then 32 :: (y_dg M ++ [59]) else [59]))) ++ rest) = 32 :: (y_dg K ++ 32 :: (y_dg M ++ 59 :: rest)) := by
        simp
      rw [e] at hs2
      exact hs2
    obtain ⟨t2, hs3⟩ := y_tw2 (k := 2) (code := 10) hs2' (by decide) (by decide) (by decide +kernel)
    obtain ⟨t3, v3, hs4⟩ := y_tn2 (k := 2) (by omega) hs3 (by have := hK (by omega); omega) (by decide)
    obtain ⟨t4, v4, hs5⟩ := y_tn2 (k := 2) (by omega) hs4 (by have := hM (by omega); omega) (by decide)
    have etk := c_kwn (by omega) d2 o5 (show ¬ zt_cd 2 T _ = 13 by omega)
    have tt := c_wT d2 (by omega) o6 t2
    obtain ⟨s3, e1, e2, e3⟩ := c_nextS d2
    have g93 : s3 2 9 - nI 1 = ej := by rw [e2.1 2 (by omega), hts2.1 2 (by omega), g9, hej]
    obtain ⟨s4, f1, f2, f3⟩ := c_num (lo := 0) (by omega) e1 t3 (Nat.zero_le _) hEj (by have := hK (by omega); omega)
    rw [v3] at f1
    have hts4 : zr_tS s s4 := hts2.trans (e2.trans f3)
    have g84 : s4 2 8 - nI 1 = hj := by rw [hts4.1 2 (by omega), g8, hhj]
    obtain ⟨s5, x1, x2, x3⟩ := c_num (lo := 0) (by omega) f2 t4 (Nat.zero_le _) hHj (by have := hM (by omega); omega)
    rw [v4] at x1
    obtain ⟨s6, g1, g2⟩ := c_lay (a := nI D) (b := nI 1) (c := nI K) (d := nI M) x2 (hts4.trans x3) h2 h1 hN hs5
    have hKb := hK (by omega)
    have hMb := hM (by omega)
    refine g2 _ ?_
    unfold f_X7_readPlan
    simp (disch := omega) only [d1, etk, tt, e3, g93, f1, g84, x1, g1, ↓reduceIte, ↓p_ld, ↓p_st, ↓p_nm, ↓p_nS, ↓p_jn, ↓p_call, ↓p_callv, ↓p_dv, ↓p_rem, h_ldE, h_stE, h_nmE, h_nSE, h_callE, h_callvE, h_dvE, h_remE, if_true, if_false, z_upS, z_upO, z_upK, nI_add, z_mul, z_sub, z_div, Nat.add_zero, Nat.mul_zero, Nat.zero_add, Nat.sub_zero, Nat.zero_mul, z_ltT, z_ltF, z_leT, z_leF, z_eqT, z_eqF, z_inT, z_clT, not_true_eq_false, not_false_eq_true, eq_self, true_or, or_true, z_m_lt, z_m_le, z_lt_m, z_le_m, z_eq_m, z_m_eq, z_rz0, z_rz1, z_m_add, z_of, r_0_0, r_0_1, r_0_3, r_0_4, r_0_5, r_0_6, r_0_7, r_0_8, r_0_9, r_0_10, r_1_0, r_1_1, r_1_2, r_1_3, r_1_4, r_1_5, r_1_6, r_1_7, r_1_8, r_2_0, r_2_1, r_2_2, r_2_3, r_2_4, r_2_5, r_2_6, r_2_7, r_11_0, r_11_1, r_11_2, r_11_3, r_11_4, r_11_5, r_11_6, r_19_0, r_21_0, r_23_0, r_25_0, r_27_0, r_31_0, r_31_1, r_31_2, r_31_3, r_31_4, r_31_5, r_31_6, r_31_7, r_31_8, r_32_0, r_32_1, r_32_2, r_32_3, r_32_4, r_32_5, r_32_6, r_32_7, r_41_0, r_41_1, r_41_2, r_41_3, r_41_4, r_41_5, r_41_6, r_49_0, r_51_0, r_53_0, r_55_0, r_57_0, r_61_0, r_63_0, r_63_1, r_63_2, r_63_3, r_63_4, r_63_5, r_63_6, r_63_7, r_72_0, r_72_1, r_72_2, r_72_3, r_72_4, r_72_5, r_72_6, r_72_7, r_81_0, r_81_1, r_81_2, r_81_3, r_81_4, r_81_5, r_81_6, r_81_7, r_90_0, r_90_1, r_90_2, r_90_3, r_90_4, r_90_5, r_90_6, r_90_7, r_99_0, r_99_1, r_99_2, r_99_3, r_99_4, r_99_5, r_99_6, r_99_7, r_108_0, r_108_1, r_108_2, r_108_3, r_108_4, r_108_5, r_108_6, r_108_7, r_117_0, r_117_1, r_117_2, r_117_3, r_117_4, r_117_5, r_117_6, r_117_7, r_126_0, r_126_1, r_126_2, r_126_3, r_126_4, r_132_0, r_132_1, r_135_0, r_135_1, r_135_2, r_135_3, r_135_4, r_135_5, r_142_0, r_144_0, r_144_1, r_144_2, r_145_0, r_145_1, r_145_2, r_145_3, r_145_4, r_145_5, r_145_6, r_154_0, r_154_1, r_155_0, ↓z_m1, l_0, l_1, l_2, l_3, l_4, l_5, l_6, l_7, l_8, l_9, l_10, l_11, l_12, l_13, l_14, l_15, l_16, l_17, l_18, l_19, l_20, l_21, l_22, l_23, l_24, l_25, l_26, l_27, l_28, l_29, l_30, l_31, l_32, l_33, l_34, l_35, l_36, l_37, l_38, l_39, l_40, l_41, l_42, l_43, l_44, l_45, l_46, l_47, l_48, l_49, l_50, l_51, l_52, l_53, l_54, l_55, l_56, l_57, l_59, l_60, l_61, l_62, l_63, l_64, l_65, l_80, l_86, l_87, l_88, l_89, l_90, l_91, l_92, l_93, l_94, l_95, l_97, l_99, l_100, l_107, l_119, l_122, l_124, l_129, l_140, l_141, l_142, l_143, l_144, l_145, l_147, l_150, l_159, l_160, l_161, l_162, l_205, l_253, l_255, l_256, l_269, l_305, l_380, l_399, l_400, l_420, l_430, l_516, l_600, l_720, l_820, l_905, l_921, l_937, l_953, l_970, l_999, l_1000, l_1790, l_4096, l_9999, l_1000000]
  · have hs2' : y_sf T (zt_nx T (zt_nx T p)) (32 :: ([115, 105, 110, 103] ++ 32 :: (y_dg K ++ 59 :: rest))) := by
      have e : ((if (1 : Nat) = 3 then [59] else 32 :: (y_dg K ++ (if (1 : Nat) = 0 ∨ (1 : Nat) = 2 then 32 :: (y_dg M ++ [59]) else [59]))) ++ rest) = 32 :: (y_dg K ++ 59 :: rest) := by
        simp
      rw [e] at hs2
      exact hs2
    obtain ⟨t2, hs3⟩ := y_tw2 (k := 2) (code := 11) hs2' (by decide) (by decide) (by decide +kernel)
    obtain ⟨t3, v3, hs4⟩ := y_tn2 (k := 2) (by omega) hs3 (by have := hK (by omega); omega) (by decide)
    have etk := c_kwn (by omega) d2 o5 (show ¬ zt_cd 2 T _ = 13 by omega)
    have u0 := c_wF d2 (by omega) o6 (show ¬ zt_cd 2 T _ = 10 by omega)
    have tt := c_wT d2 (by omega) o7 t2
    obtain ⟨s3, e1, e2, e3⟩ := c_nextS d2
    have g93 : s3 2 9 - nI 1 = ej := by rw [e2.1 2 (by omega), hts2.1 2 (by omega), g9, hej]
    obtain ⟨s4, f1, f2, f3⟩ := c_num (lo := 0) (by omega) e1 t3 (Nat.zero_le _) hEj (by have := hK (by omega); omega)
    rw [v3] at f1
    have hts4 : zr_tS s s4 := hts2.trans (e2.trans f3)
    obtain ⟨s6, g1, g2⟩ := c_lay (a := nI D) (b := nI 2) (c := nI K) (d := nI 0) f2 hts4 h2 h1 hN hs4
    have hKb := hK (by omega)
    refine g2 _ ?_
    unfold f_X7_readPlan
    simp (disch := omega) only [d1, etk, u0, tt, e3, g93, f1, g1, ↓reduceIte, ↓p_ld, ↓p_st, ↓p_nm, ↓p_nS, ↓p_jn, ↓p_call, ↓p_callv, ↓p_dv, ↓p_rem, h_ldE, h_stE, h_nmE, h_nSE, h_callE, h_callvE, h_dvE, h_remE, if_true, if_false, z_upS, z_upO, z_upK, nI_add, z_mul, z_sub, z_div, Nat.add_zero, Nat.mul_zero, Nat.zero_add, Nat.sub_zero, Nat.zero_mul, z_ltT, z_ltF, z_leT, z_leF, z_eqT, z_eqF, z_inT, z_clT, not_true_eq_false, not_false_eq_true, eq_self, true_or, or_true, z_m_lt, z_m_le, z_lt_m, z_le_m, z_eq_m, z_m_eq, z_rz0, z_rz1, z_m_add, z_of, r_0_0, r_0_1, r_0_3, r_0_4, r_0_5, r_0_6, r_0_7, r_0_8, r_0_9, r_0_10, r_1_0, r_1_1, r_1_2, r_1_3, r_1_4, r_1_5, r_1_6, r_1_7, r_1_8, r_2_0, r_2_1, r_2_2, r_2_3, r_2_4, r_2_5, r_2_6, r_2_7, r_11_0, r_11_1, r_11_2, r_11_3, r_11_4, r_11_5, r_11_6, r_19_0, r_21_0, r_23_0, r_25_0, r_27_0, r_31_0, r_31_1, r_31_2, r_31_3, r_31_4, r_31_5, r_31_6, r_31_7, r_31_8, r_32_0, r_32_1, r_32_2, r_32_3, r_32_4, r_32_5, r_32_6, r_32_7, r_41_0, r_41_1, r_41_2, r_41_3, r_41_4, r_41_5, r_41_6, r_49_0, r_51_0, r_53_0, r_55_0, r_57_0, r_61_0, r_63_0, r_63_1, r_63_2, r_63_3, r_63_4, r_63_5, r_63_6, r_63_7, r_72_0, r_72_1, r_72_2, r_72_3, r_72_4, r_72_5, r_72_6, r_72_7, r_81_0, r_81_1, r_81_2, r_81_3, r_81_4, r_81_5, r_81_6, r_81_7, r_90_0, r_90_1, r_90_2, r_90_3, r_90_4, r_90_5, r_90_6, r_90_7, r_99_0, r_99_1, r_99_2, r_99_3, r_99_4, r_99_5, r_99_6, r_99_7, r_108_0, r_108_1, r_108_2, r_108_3, r_108_4, r_108_5, r_108_6, r_108_7, r_117_0, r_117_1, r_117_2, r_117_3, r_117_4, r_117_5, r_117_6, r_117_7, r_126_0, r_126_1, r_126_2, r_126_3, r_126_4, r_132_0, r_132_1, r_135_0, r_135_1, r_135_2, r_135_3, r_135_4, r_135_5, r_142_0, r_144_0, r_144_1, r_144_2, r_145_0, r_145_1, r_145_2, r_145_3, r_145_4, r_145_5, r_145_6, r_154_0, r_154_1, r_155_0, ↓z_m1, l_0, l_1, l_2, l_3, l_4, l_5, l_6, l_7, l_8, l_9, l_10, l_11, l_12, l_13, l_14, l_15, l_16, l_17, l_18, l_19, l_20, l_21, l_22, l_23, l_24, l_25, l_26, l_27, l_28, l_29, l_30, l_31, l_32, l_33, l_34, l_35, l_36, l_37, l_38, l_39, l_40, l_41, l_42, l_43, l_44, l_45, l_46, l_47, l_48, l_49, l_50, l_51, l_52, l_53, l_54, l_55, l_56, l_57, l_59, l_60, l_61, l_62, l_63, l_64, l_65, l_80, l_86, l_87, l_88, l_89, l_90, l_91, l_92, l_93, l_94, l_95, l_97, l_99, l_100, l_107, l_119, l_122, l_124, l_129, l_140, l_141, l_142, l_143, l_144, l_145, l_147, l_150, l_159, l_160, l_161, l_162, l_205, l_253, l_255, l_256, l_269, l_305, l_380, l_399, l_400, l_420, l_430, l_516, l_600, l_720, l_820, l_905, l_921, l_937, l_953, l_970, l_999, l_1000, l_1790, l_4096, l_9999, l_1000000]
  · have hs2' : y_sf T (zt_nx T (zt_nx T p)) (32 :: ([119, 104, 105, 112] ++ 32 :: (y_dg K ++ 32 :: (y_dg M ++ 59 :: rest)))) := by
      have e : ((if (2 : Nat) = 3 then [59] else 32 :: (y_dg K ++ (if (2 : Nat) = 0 ∨ (2 : Nat) = 2 then 32 :: (y_dg M ++ [59]) else [59]))) ++ rest) = 32 :: (y_dg K ++ 32 :: (y_dg M ++ 59 :: rest)) := by
        simp
      rw [e] at hs2
      exact hs2
    obtain ⟨t2, hs3⟩ := y_tw2 (k := 2) (code := 12) hs2' (by decide) (by decide) (by decide +kernel)
    obtain ⟨t3, v3, hs4⟩ := y_tn2 (k := 2) (by omega) hs3 (by have := hK (by omega); omega) (by decide)
    obtain ⟨t4, v4, hs5⟩ := y_tn2 (k := 2) (by omega) hs4 (by have := hM (by omega); omega) (by decide)
    have etk := c_kwn (by omega) d2 o5 (show ¬ zt_cd 2 T _ = 13 by omega)
    have u0 := c_wF d2 (by omega) o6 (show ¬ zt_cd 2 T _ = 10 by omega)
    have u1 := c_wF d2 (by omega) o7 (show ¬ zt_cd 2 T _ = 11 by omega)
    have tt := c_wT d2 (by omega) o8 t2
    obtain ⟨s3, e1, e2, e3⟩ := c_nextS d2
    have g93 : s3 2 9 - nI 1 = ej := by rw [e2.1 2 (by omega), hts2.1 2 (by omega), g9, hej]
    obtain ⟨s4, f1, f2, f3⟩ := c_num (lo := 0) (by omega) e1 t3 (Nat.zero_le _) hEj (by have := hK (by omega); omega)
    rw [v3] at f1
    have hts4 : zr_tS s s4 := hts2.trans (e2.trans f3)
    have g84 : s4 2 8 - nI 1 = hj := by rw [hts4.1 2 (by omega), g8, hhj]
    obtain ⟨s5, x1, x2, x3⟩ := c_num (lo := 0) (by omega) f2 t4 (Nat.zero_le _) hHj (by have := hM (by omega); omega)
    rw [v4] at x1
    obtain ⟨s6, g1, g2⟩ := c_lay (a := nI D) (b := nI 3) (c := nI K) (d := nI M) x2 (hts4.trans x3) h2 h1 hN hs5
    have hKb := hK (by omega)
    have hMb := hM (by omega)
    refine g2 _ ?_
    unfold f_X7_readPlan
    simp (disch := omega) only [d1, etk, u0, u1, tt, e3, g93, f1, g84, x1, g1, ↓reduceIte, ↓p_ld, ↓p_st, ↓p_nm, ↓p_nS, ↓p_jn, ↓p_call, ↓p_callv, ↓p_dv, ↓p_rem, h_ldE, h_stE, h_nmE, h_nSE, h_callE, h_callvE, h_dvE, h_remE, if_true, if_false, z_upS, z_upO, z_upK, nI_add, z_mul, z_sub, z_div, Nat.add_zero, Nat.mul_zero, Nat.zero_add, Nat.sub_zero, Nat.zero_mul, z_ltT, z_ltF, z_leT, z_leF, z_eqT, z_eqF, z_inT, z_clT, not_true_eq_false, not_false_eq_true, eq_self, true_or, or_true, z_m_lt, z_m_le, z_lt_m, z_le_m, z_eq_m, z_m_eq, z_rz0, z_rz1, z_m_add, z_of, r_0_0, r_0_1, r_0_3, r_0_4, r_0_5, r_0_6, r_0_7, r_0_8, r_0_9, r_0_10, r_1_0, r_1_1, r_1_2, r_1_3, r_1_4, r_1_5, r_1_6, r_1_7, r_1_8, r_2_0, r_2_1, r_2_2, r_2_3, r_2_4, r_2_5, r_2_6, r_2_7, r_11_0, r_11_1, r_11_2, r_11_3, r_11_4, r_11_5, r_11_6, r_19_0, r_21_0, r_23_0, r_25_0, r_27_0, r_31_0, r_31_1, r_31_2, r_31_3, r_31_4, r_31_5, r_31_6, r_31_7, r_31_8, r_32_0, r_32_1, r_32_2, r_32_3, r_32_4, r_32_5, r_32_6, r_32_7, r_41_0, r_41_1, r_41_2, r_41_3, r_41_4, r_41_5, r_41_6, r_49_0, r_51_0, r_53_0, r_55_0, r_57_0, r_61_0, r_63_0, r_63_1, r_63_2, r_63_3, r_63_4, r_63_5, r_63_6, r_63_7, r_72_0, r_72_1, r_72_2, r_72_3, r_72_4, r_72_5, r_72_6, r_72_7, r_81_0, r_81_1, r_81_2, r_81_3, r_81_4, r_81_5, r_81_6, r_81_7, r_90_0, r_90_1, r_90_2, r_90_3, r_90_4, r_90_5, r_90_6, r_90_7, r_99_0, r_99_1, r_99_2, r_99_3, r_99_4, r_99_5, r_99_6, r_99_7, r_108_0, r_108_1, r_108_2, r_108_3, r_108_4, r_108_5, r_108_6, r_108_7, r_117_0, r_117_1, r_117_2, r_117_3, r_117_4, r_117_5, r_117_6, r_117_7, r_126_0, r_126_1, r_126_2, r_126_3, r_126_4, r_132_0, r_132_1, r_135_0, r_135_1, r_135_2, r_135_3, r_135_4, r_135_5, r_142_0, r_144_0, r_144_1, r_144_2, r_145_0, r_145_1, r_145_2, r_145_3, r_145_4, r_145_5, r_145_6, r_154_0, r_154_1, r_155_0, ↓z_m1, l_0, l_1, l_2, l_3, l_4, l_5, l_6, l_7, l_8, l_9, l_10, l_11, l_12, l_13, l_14, l_15, l_16, l_17, l_18, l_19, l_20, l_21, l_22, l_23, l_24, l_25, l_26, l_27, l_28, l_29, l_30, l_31, l_32, l_33, l_34, l_35, l_36, l_37, l_38, l_39, l_40, l_41, l_42, l_43, l_44, l_45, l_46, l_47, l_48, l_49, l_50, l_51, l_52, l_53, l_54, l_55, l_56, l_57, l_59, l_60, l_61, l_62, l_63, l_64, l_65, l_80, l_86, l_87, l_88, l_89, l_90, l_91, l_92, l_93, l_94, l_95, l_97, l_99, l_100, l_107, l_119, l_122, l_124, l_129, l_140, l_141, l_142, l_143, l_144, l_145, l_147, l_150, l_159, l_160, l_161, l_162, l_205, l_253, l_255, l_256, l_269, l_305, l_380, l_399, l_400, l_420, l_430, l_516, l_600, l_720, l_820, l_905, l_921, l_937, l_953, l_970, l_999, l_1000, l_1790, l_4096, l_9999, l_1000000]
  · have hs2' : y_sf T (zt_nx T (zt_nx T p)) (32 :: ([103, 111] ++ 32 :: (y_dg K ++ 59 :: rest))) := by
      have e : ((if (4 : Nat) = 3 then [59] else 32 :: (y_dg K ++ (if (4 : Nat) = 0 ∨ (4 : Nat) = 2 then 32 :: (y_dg M ++ [59]) else [59]))) ++ rest) = 32 :: (y_dg K ++ 59 :: rest) := by
        simp
      rw [e] at hs2
      exact hs2
    obtain ⟨t2, hs3⟩ := y_tw2 (k := 2) (code := 14) hs2' (by decide) (by decide) (by decide +kernel)
    obtain ⟨t3, v3, hs4⟩ := y_tn2 (k := 2) (by omega) hs3 (by have := hK4 rfl; omega) (by decide)
    have etk := c_kwn (by omega) d2 o5 (show ¬ zt_cd 2 T _ = 13 by omega)
    have u0 := c_wF d2 (by omega) o6 (show ¬ zt_cd 2 T _ = 10 by omega)
    have u1 := c_wF d2 (by omega) o7 (show ¬ zt_cd 2 T _ = 11 by omega)
    have u2 := c_wF d2 (by omega) o8 (show ¬ zt_cd 2 T _ = 12 by omega)
    have tt := c_wT d2 (by omega) o9 t2
    obtain ⟨s3, e1, e2, e3⟩ := c_nextS d2
    have g93 : s3 2 9 - nI 1 = ej := by rw [e2.1 2 (by omega), hts2.1 2 (by omega), g9, hej]
    obtain ⟨s4, f1, f2, f3⟩ := c_num (lo := 0) (by omega) e1 t3 (Nat.zero_le _) (zr_c9 (c := 9) (by omega)) (by have := hK4 rfl; omega)
    rw [v3] at f1
    have hts4 : zr_tS s s4 := hts2.trans (e2.trans f3)
    obtain ⟨s6, g1, g2⟩ := c_lay (a := nI D) (b := nI 4) (c := nI K) (d := nI 0) f2 hts4 h2 h1 hN hs4
    have hKb := hK4 rfl
    refine g2 _ ?_
    unfold f_X7_readPlan
    simp (disch := omega) only [d1, etk, u0, u1, u2, tt, e3, g93, f1, g1, ↓reduceIte, ↓p_ld, ↓p_st, ↓p_nm, ↓p_nS, ↓p_jn, ↓p_call, ↓p_callv, ↓p_dv, ↓p_rem, h_ldE, h_stE, h_nmE, h_nSE, h_callE, h_callvE, h_dvE, h_remE, if_true, if_false, z_upS, z_upO, z_upK, nI_add, z_mul, z_sub, z_div, Nat.add_zero, Nat.mul_zero, Nat.zero_add, Nat.sub_zero, Nat.zero_mul, z_ltT, z_ltF, z_leT, z_leF, z_eqT, z_eqF, z_inT, z_clT, not_true_eq_false, not_false_eq_true, eq_self, true_or, or_true, z_m_lt, z_m_le, z_lt_m, z_le_m, z_eq_m, z_m_eq, z_rz0, z_rz1, z_m_add, z_of, r_0_0, r_0_1, r_0_3, r_0_4, r_0_5, r_0_6, r_0_7, r_0_8, r_0_9, r_0_10, r_1_0, r_1_1, r_1_2, r_1_3, r_1_4, r_1_5, r_1_6, r_1_7, r_1_8, r_2_0, r_2_1, r_2_2, r_2_3, r_2_4, r_2_5, r_2_6, r_2_7, r_11_0, r_11_1, r_11_2, r_11_3, r_11_4, r_11_5, r_11_6, r_19_0, r_21_0, r_23_0, r_25_0, r_27_0, r_31_0, r_31_1, r_31_2, r_31_3, r_31_4, r_31_5, r_31_6, r_31_7, r_31_8, r_32_0, r_32_1, r_32_2, r_32_3, r_32_4, r_32_5, r_32_6, r_32_7, r_41_0, r_41_1, r_41_2, r_41_3, r_41_4, r_41_5, r_41_6, r_49_0, r_51_0, r_53_0, r_55_0, r_57_0, r_61_0, r_63_0, r_63_1, r_63_2, r_63_3, r_63_4, r_63_5, r_63_6, r_63_7, r_72_0, r_72_1, r_72_2, r_72_3, r_72_4, r_72_5, r_72_6, r_72_7, r_81_0, r_81_1, r_81_2, r_81_3, r_81_4, r_81_5, r_81_6, r_81_7, r_90_0, r_90_1, r_90_2, r_90_3, r_90_4, r_90_5, r_90_6, r_90_7, r_99_0, r_99_1, r_99_2, r_99_3, r_99_4, r_99_5, r_99_6, r_99_7, r_108_0, r_108_1, r_108_2, r_108_3, r_108_4, r_108_5, r_108_6, r_108_7, r_117_0, r_117_1, r_117_2, r_117_3, r_117_4, r_117_5, r_117_6, r_117_7, r_126_0, r_126_1, r_126_2, r_126_3, r_126_4, r_132_0, r_132_1, r_135_0, r_135_1, r_135_2, r_135_3, r_135_4, r_135_5, r_142_0, r_144_0, r_144_1, r_144_2, r_145_0, r_145_1, r_145_2, r_145_3, r_145_4, r_145_5, r_145_6, r_154_0, r_154_1, r_155_0, ↓z_m1, l_0, l_1, l_2, l_3, l_4, l_5, l_6, l_7, l_8, l_9, l_10, l_11, l_12, l_13, l_14, l_15, l_16, l_17, l_18, l_19, l_20, l_21, l_22, l_23, l_24, l_25, l_26, l_27, l_28, l_29, l_30, l_31, l_32, l_33, l_34, l_35, l_36, l_37, l_38, l_39, l_40, l_41, l_42, l_43, l_44, l_45, l_46, l_47, l_48, l_49, l_50, l_51, l_52, l_53, l_54, l_55, l_56, l_57, l_59, l_60, l_61, l_62, l_63, l_64, l_65, l_80, l_86, l_87, l_88, l_89, l_90, l_91, l_92, l_93, l_94, l_95, l_97, l_99, l_100, l_107, l_119, l_122, l_124, l_129, l_140, l_141, l_142, l_143, l_144, l_145, l_147, l_150, l_159, l_160, l_161, l_162, l_205, l_253, l_255, l_256, l_269, l_305, l_380, l_399, l_400, l_420, l_430, l_516, l_600, l_720, l_820, l_905, l_921, l_937, l_953, l_970, l_999, l_1000, l_1790, l_4096, l_9999, l_1000000]
end RW
