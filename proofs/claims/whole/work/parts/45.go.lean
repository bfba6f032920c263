/-! going, resting, days -/
theorem z_C.sc {σ : q_Sto} {V : Nat → Int32} {mu me f a : Nat} {x : Int32} (h : z_C σ V mu me) (hf : (f = 10 ∧ a = 5) ∨ (f = 12 ∧ a = 1 ∧ z_le x 9) ∨ (f = 14 ∧ a = 3) ∨ (f = 15 ∧ a = 4) ∨ (f = 16 ∧ a = 0)) : z_C (q_up σ 2 f x) (z_u V a x) mu me := by
  obtain ⟨⟨f1, f2, f3, f4, f5, f6, f7, f8, f9, f10, f11, f12⟩, hT, hW⟩ := h
  obtain ⟨⟨g1, g2, g3, g4, g5, g6, g7, g8, g9⟩, t1, t2, t3, t4, t5, t6⟩ := hT.un
  have ha : a ≤ 5 ∧ a ≠ 2 := by omega
  have hff : f ≤ 16 ∧ 10 ≤ f := by omega
  refine ⟨⟨f1, f2, by rw [z_uK (by omega)]; exact f3, by rw [z_uK (by omega)]; exact f4, by rw [z_uK (by omega)]; exact f5, fun m hm => ?_, fun m k hm hk => ?_, fun k hk => ?_, ?_, by rw [z_uK (by omega)]; exact f10, by rw [z_uK (by omega)]; exact f11, by rw [z_uK (by omega)]; exact f12⟩, z_TR.mk ?_ (fun m hm => ?_) (fun m hm => ?_) (fun m m1 m2 => by rw [z_upO (by omega)]; exact t3 m m1 m2) (fun k hk => ?_) (fun m k hm hk => ?_) (fun m k hm hk hq => by rw [z_upO (by omega)]; exact t6 m k hm hk hq), z_sam.WT (z_sam.u (by omega)) (hW.fr (fun o o1 o2 o3 => z_upO (by omega)))⟩
  · rw [z_uK (by omega), z_uK (by omega), z_uK (by omega)]; exact f6 m hm
  · rw [z_uK (by omega)]; exact f7 m k hm hk
  · rw [z_uK (by omega), z_uK (by omega), z_uK (by omega)]; exact f8 k hk
  · rcases hf with ⟨rfl, rfl⟩ | ⟨rfl, rfl, hx⟩ | ⟨rfl, rfl⟩ | ⟨rfl, rfl⟩ | ⟨rfl, rfl⟩
    · rw [z_uK (by omega)]; exact f9
    · rw [z_uS]; exact hx
    · rw [z_uK (by omega)]; exact f9
    · rw [z_uK (by omega)]; exact f9
    · rw [z_uK (by omega)]; exact f9
  · rcases hf with ⟨rfl, rfl⟩ | ⟨rfl, rfl, hx⟩ | ⟨rfl, rfl⟩ | ⟨rfl, rfl⟩ | ⟨rfl, rfl⟩
    · refine ⟨?_, ?_, ?_, ?_, ?_, ?_, ?_, ?_, ?_⟩ <;> simp (disch := omega) only [z_uK, z_uS, g1, g2, g3, g4, g5, g6, g7, g8, g9, ↓reduceIte, ↓p_ld, ↓p_st, ↓p_nm, ↓p_nS, ↓p_jn, ↓p_call, ↓p_callv, ↓p_dv, ↓p_rem, h_ldE, h_stE, h_nmE, h_nSE, h_callE, h_callvE, h_dvE, h_remE, if_true, if_false, z_upS, z_upO, z_upK, nI_add, z_mul, z_sub, z_div, Nat.add_zero, Nat.mul_zero, Nat.zero_add, Nat.sub_zero, Nat.zero_mul, z_ltT, z_ltF, z_leT, z_leF, z_eqT, z_eqF, z_inT, z_clT, not_true_eq_false, not_false_eq_true, eq_self, true_or, or_true, z_m_lt, z_m_le, z_lt_m, z_le_m, z_eq_m, z_m_eq, z_rz0, z_rz1, z_m_add, z_of, ↓z_m1, l_0, l_1, l_2, l_3, l_4, l_5, l_6, l_7, l_8, l_9, l_10, l_11, l_12, l_13, l_14, l_15, l_16, l_17, l_18, l_19, l_20, l_21, l_22, l_23, l_24, l_25, l_26, l_27, l_28, l_29, l_30, l_31, l_32, l_33, l_34, l_35, l_36, l_37, l_38, l_39, l_40, l_41, l_42, l_43, l_44, l_45, l_46, l_47, l_48, l_49, l_50, l_51, l_52, l_53, l_54, l_55, l_56, l_57, l_59, l_60, l_61, l_62, l_63, l_64, l_65, l_80, l_86, l_87, l_88, l_89, l_90, l_91, l_92, l_93, l_94, l_95, l_97, l_99, l_100, l_107, l_119, l_122, l_124, l_129, l_140, l_141, l_142, l_143, l_144, l_145, l_147, l_150, l_159, l_160, l_161, l_162, l_205, l_253, l_255, l_256, l_269, l_305, l_380, l_399, l_400, l_420, l_430, l_516, l_600, l_720, l_820, l_905, l_921, l_937, l_953, l_970, l_999, l_1000, l_1790, l_4096, l_9999, l_1000000]
    · refine ⟨?_, ?_, ?_, ?_, ?_, ?_, ?_, ?_, ?_⟩ <;> simp (disch := omega) only [z_uK, z_uS, g1, g2, g3, g4, g5, g6, g7, g8, g9, ↓reduceIte, ↓p_ld, ↓p_st, ↓p_nm, ↓p_nS, ↓p_jn, ↓p_call, ↓p_callv, ↓p_dv, ↓p_rem, h_ldE, h_stE, h_nmE, h_nSE, h_callE, h_callvE, h_dvE, h_remE, if_true, if_false, z_upS, z_upO, z_upK, nI_add, z_mul, z_sub, z_div, Nat.add_zero, Nat.mul_zero, Nat.zero_add, Nat.sub_zero, Nat.zero_mul, z_ltT, z_ltF, z_leT, z_leF, z_eqT, z_eqF, z_inT, z_clT, not_true_eq_false, not_false_eq_true, eq_self, true_or, or_true, z_m_lt, z_m_le, z_lt_m, z_le_m, z_eq_m, z_m_eq, z_rz0, z_rz1, z_m_add, z_of, ↓z_m1, l_0, l_1, l_2, l_3, l_4, l_5, l_6, l_7, l_8, l_9, l_10, l_11, l_12, l_13, l_14, l_15, l_16, l_17, l_18, l_19, l_20, l_21, l_22, l_23, l_24, l_25, l_26, l_27, l_28, l_29, l_30, l_31, l_32, l_33, l_34, l_35, l_36, l_37, l_38, l_39, l_40, l_41, l_42, l_43, l_44, l_45, l_46, l_47, l_48, l_49, l_50, l_51, l_52, l_53, l_54, l_55, l_56, l_57, l_59, l_60, l_61, l_62, l_63, l_64, l_65, l_80, l_86, l_87, l_88, l_89, l_90, l_91, l_92, l_93, l_94, l_95, l_97, l_99, l_100, l_107, l_119, l_122, l_124, l_129, l_140, l_141, l_142, l_143, l_144, l_145, l_147, l_150, l_159, l_160, l_161, l_162, l_205, l_253, l_255, l_256, l_269, l_305, l_380, l_399, l_400, l_420, l_430, l_516, l_600, l_720, l_820, l_905, l_921, l_937, l_953, l_970, l_999, l_1000, l_1790, l_4096, l_9999, l_1000000]
    · refine ⟨?_, ?_, ?_, ?_, ?_, ?_, ?_, ?_, ?_⟩ <;> simp (disch := omega) only [z_uK, z_uS, g1, g2, g3, g4, g5, g6, g7, g8, g9, ↓reduceIte, ↓p_ld, ↓p_st, ↓p_nm, ↓p_nS, ↓p_jn, ↓p_call, ↓p_callv, ↓p_dv, ↓p_rem, h_ldE, h_stE, h_nmE, h_nSE, h_callE, h_callvE, h_dvE, h_remE, if_true, if_false, z_upS, z_upO, z_upK, nI_add, z_mul, z_sub, z_div, Nat.add_zero, Nat.mul_zero, Nat.zero_add, Nat.sub_zero, Nat.zero_mul, z_ltT, z_ltF, z_leT, z_leF, z_eqT, z_eqF, z_inT, z_clT, not_true_eq_false, not_false_eq_true, eq_self, true_or, or_true, z_m_lt, z_m_le, z_lt_m, z_le_m, z_eq_m, z_m_eq, z_rz0, z_rz1, z_m_add, z_of, ↓z_m1, l_0, l_1, l_2, l_3, l_4, l_5, l_6, l_7, l_8, l_9, l_10, l_11, l_12, l_13, l_14, l_15, l_16, l_17, l_18, l_19, l_20, l_21, l_22, l_23, l_24, l_25, l_26, l_27, l_28, l_29, l_30, l_31, l_32, l_33, l_34, l_35, l_36, l_37, l_38, l_39, l_40, l_41, l_42, l_43, l_44, l_45, l_46, l_47, l_48, l_49, l_50, l_51, l_52, l_53, l_54, l_55, l_56, l_57, l_59, l_60, l_61, l_62, l_63, l_64, l_65, l_80, l_86, l_87, l_88, l_89, l_90, l_91, l_92, l_93, l_94, l_95, l_97, l_99, l_100, l_107, l_119, l_122, l_124, l_129, l_140, l_141, l_142, l_143, l_144, l_145, l_147, l_150, l_159, l_160, l_161, l_162, l_205, l_253, l_255, l_256, l_269, l_305, l_380, l_399, l_400, l_420, l_430, l_516, l_600, l_720, l_820, l_905, l_921, l_937, l_953, l_970, l_999, l_1000, l_1790, l_4096, l_9999, l_1000000]
    · refine ⟨?_, ?_, ?_, ?_, ?_, ?_, ?_, ?_, ?_⟩ <;> simp (disch := omega) only [z_uK, z_uS, g1, g2, g3, g4, g5, g6, g7, g8, g9, ↓reduceIte, ↓p_ld, ↓p_st, ↓p_nm, ↓p_nS, ↓p_jn, ↓p_call, ↓p_callv, ↓p_dv, ↓p_rem, h_ldE, h_stE, h_nmE, h_nSE, h_callE, h_callvE, h_dvE, h_remE, if_true, if_false, z_upS, z_upO, z_upK, nI_add, z_mul, z_sub, z_div, Nat.add_zero, Nat.mul_zero, Nat.zero_add, Nat.sub_zero, Nat.zero_mul, z_ltT, z_ltF, z_leT, z_leF, z_eqT, z_eqF, z_inT, z_clT, not_true_eq_false, not_false_eq_true, eq_self, true_or, or_true, z_m_lt, z_m_le, z_lt_m, z_le_m, z_eq_m, z_m_eq, z_rz0, z_rz1, z_m_add, z_of, ↓z_m1, l_0, l_1, l_2, l_3, l_4, l_5, l_6, l_7, l_8, l_9, l_10, l_11, l_12, l_13, l_14, l_15, l_16, l_17, l_18, l_19, l_20, l_21, l_22, l_23, l_24, l_25, l_26, l_27, l_28, l_29, l_30, l_31, l_32, l_33, l_34, l_35, l_36, l_37, l_38, l_39, l_40, l_41, l_42, l_43, l_44, l_45, l_46, l_47, l_48, l_49, l_50, l_51, l_52, l_53, l_54, l_55, l_56, l_57, l_59, l_60, l_61, l_62, l_63, l_64, l_65, l_80, l_86, l_87, l_88, l_89, l_90, l_91, l_92, l_93, l_94, l_95, l_97, l_99, l_100, l_107, l_119, l_122, l_124, l_129, l_140, l_141, l_142, l_143, l_144, l_145, l_147, l_150, l_159, l_160, l_161, l_162, l_205, l_253, l_255, l_256, l_269, l_305, l_380, l_399, l_400, l_420, l_430, l_516, l_600, l_720, l_820, l_905, l_921, l_937, l_953, l_970, l_999, l_1000, l_1790, l_4096, l_9999, l_1000000]
    · refine ⟨?_, ?_, ?_, ?_, ?_, ?_, ?_, ?_, ?_⟩ <;> simp (disch := omega) only [z_uK, z_uS, g1, g2, g3, g4, g5, g6, g7, g8, g9, ↓reduceIte, ↓p_ld, ↓p_st, ↓p_nm, ↓p_nS, ↓p_jn, ↓p_call, ↓p_callv, ↓p_dv, ↓p_rem, h_ldE, h_stE, h_nmE, h_nSE, h_callE, h_callvE, h_dvE, h_remE, if_true, if_false, z_upS, z_upO, z_upK, nI_add, z_mul, z_sub, z_div, Nat.add_zero, Nat.mul_zero, Nat.zero_add, Nat.sub_zero, Nat.zero_mul, z_ltT, z_ltF, z_leT, z_leF, z_eqT, z_eqF, z_inT, z_clT, not_true_eq_false, not_false_eq_true, eq_self, true_or, or_true, z_m_lt, z_m_le, z_lt_m, z_le_m, z_eq_m, z_m_eq, z_rz0, z_rz1, z_m_add, z_of, ↓z_m1, l_0, l_1, l_2, l_3, l_4, l_5, l_6, l_7, l_8, l_9, l_10, l_11, l_12, l_13, l_14, l_15, l_16, l_17, l_18, l_19, l_20, l_21, l_22, l_23, l_24, l_25, l_26, l_27, l_28, l_29, l_30, l_31, l_32, l_33, l_34, l_35, l_36, l_37, l_38, l_39, l_40, l_41, l_42, l_43, l_44, l_45, l_46, l_47, l_48, l_49, l_50, l_51, l_52, l_53, l_54, l_55, l_56, l_57, l_59, l_60, l_61, l_62, l_63, l_64, l_65, l_80, l_86, l_87, l_88, l_89, l_90, l_91, l_92, l_93, l_94, l_95, l_97, l_99, l_100, l_107, l_119, l_122, l_124, l_129, l_140, l_141, l_142, l_143, l_144, l_145, l_147, l_150, l_159, l_160, l_161, l_162, l_205, l_253, l_255, l_256, l_269, l_305, l_380, l_399, l_400, l_420, l_430, l_516, l_600, l_720, l_820, l_905, l_921, l_937, l_953, l_970, l_999, l_1000, l_1790, l_4096, l_9999, l_1000000]
  · rw [z_upO (by omega), z_upO (by omega), z_upO (by omega), z_uK (by omega), z_uK (by omega), z_uK (by omega)]; exact t1 m hm
  · rw [z_upO (by omega), z_uK (by omega)]; exact t2 m hm
  · rw [z_upO (by omega), z_upO (by omega), z_upO (by omega), z_uK (by omega), z_uK (by omega), z_uK (by omega)]; exact t4 k hk
  · rw [z_upO (by omega), z_uK (by omega)]; exact t5 m k hm hk
/-- the lame ones told anew -/
theorem z_C.lm {σ σ' : q_Sto} {V : Nat → Int32} {mu me s : Nat} (h : z_C σ V mu me) (hs : s < 2 ^ mu) (e : ∀ o, 2 ≤ o → o ≤ 28 → o ≠ 5 → o ≠ 18 → σ' o = σ o) (e5 : ∀ m, m < 12 → σ' 5 m = nI (if s.testBit m = true then 1 else 0)) : z_C σ' (z_u V 7 (nI s)) mu me := by
  obtain ⟨⟨f1, f2, f3, f4, f5, f6, f7, f8, f9, f10, f11, f12⟩, hT, hW⟩ := h
  obtain ⟨⟨g1, g2, g3, g4, g5, g6, g7, g8, g9⟩, t1, t2, t3, t4, t5, t6⟩ := hT.un
  have h12 := z_p12 f1
  have e2 := e 2 (by omega) (by omega) (by omega) (by omega)
  have e3 := e 3 (by omega) (by omega) (by omega) (by omega)
  have e4 := e 4 (by omega) (by omega) (by omega) (by omega)
  have e6 := e 6 (by omega) (by omega) (by omega) (by omega)
  have e7 := e 7 (by omega) (by omega) (by omega) (by omega)
  have e8 := e 8 (by omega) (by omega) (by omega) (by omega)
  have e9 := e 9 (by omega) (by omega) (by omega) (by omega)
  have e10 := e 10 (by omega) (by omega) (by omega) (by omega)
  refine ⟨⟨f1, f2, by rw [z_uK (by omega)]; exact f3, by rw [z_uK (by omega)]; exact f4, ⟨s, hs, z_uS⟩, fun m hm => ?_, fun m k hm hk => ?_, fun k hk => ?_, by rw [z_uK (by omega)]; exact f9, by rw [z_uK (by omega)]; exact f10, by rw [z_uK (by omega)]; exact f11, by rw [z_uK (by omega)]; exact f12⟩, z_TR.mk ?_ (fun m hm => ?_) (fun m hm => ?_) (fun m m1 m2 => by rw [e6]; exact t3 m m1 m2) (fun k hk => ?_) (fun m k hm hk => ?_) (fun m k hm hk hq => by rw [e10]; exact t6 m k hm hk hq), z_sam.WT (z_sam.u (by omega)) (hW.fr (fun o o1 o2 o3 => e o (by omega) (by omega) (by omega) (by omega)))⟩
  · rw [z_uK (by omega), z_uK (by omega), z_uK (by omega)]; exact f6 m hm
  · rw [z_uK (by omega)]; exact f7 m k hm hk
  · rw [z_uK (by omega), z_uK (by omega), z_uK (by omega)]; exact f8 k hk
  · rw [e2, z_uK (by omega), z_uK (by omega), z_uK (by omega), z_uK (by omega), z_uK (by omega), z_uK (by omega), z_uK (by omega)]; exact ⟨g1, g2, g3, g4, g5, g6, g7, g8, g9⟩
  · rw [e3, e4, e6, z_uK (by omega), z_uK (by omega), z_uK (by omega)]; exact t1 m hm
  · rw [e5 m hm, z_uS, z_bitE (by omega) (by omega)]
  · rw [e7, e8, e9, z_uK (by omega), z_uK (by omega), z_uK (by omega)]; exact t4 k hk
  · rw [e10, z_uK (by omega)]; exact t5 m k hm hk
theorem z_X.fr {mu me w0 : Nat} {tr : Bool} {P V : Nat → Int32} {σ σ' : q_Sto} (h : z_X mu me tr w0 P σ V) (e : ∀ o, 2 ≤ o → o ≤ 29 → o ≠ 18 → σ' o = σ o) : z_X mu me tr w0 P σ' V :=
  ⟨h.1.fr (fun o o1 o2 o3 => e o (by omega) (by omega) o3), h.2.fr (by rw [e 2 (by omega) (by omega) (by omega)]) (e 29 (by omega) (by omega) (by omega)) rfl (fun a _ _ => rfl)⟩
theorem z_X.sc {mu me w0 f a : Nat} {tr : Bool} {P V : Nat → Int32} {σ : q_Sto} {x : Int32} (h : z_X mu me tr w0 P σ V) (hf : (f = 10 ∧ a = 5) ∨ (f = 12 ∧ a = 1 ∧ z_le x 9) ∨ (f = 14 ∧ a = 3) ∨ (f = 15 ∧ a = 4) ∨ (f = 16 ∧ a = 0)) (ha : a ≠ 0 := by omega) : z_X mu me tr w0 P (q_up σ 2 f x) (z_u V a x) :=
  ⟨h.1.sc hf, h.2.fr (z_upK (by omega)) (z_upO (by omega)) (z_uK (by omega)) (fun b b1 b2 => z_uK (by omega))⟩
def z_nx (s : Int32) : Int32 := nI 1664525 * s + nI 1013904223
def z_dr (s : Int32) : Int32 := q_ushr (z_nx s) (nI 8) - q_ushr (z_nx s) (nI 8) / nI 1000 * nI 1000
theorem c_draw {n : Nat} {σ : q_Sto} : f_X9_draw n 2 (nI 1000) σ = some (z_dr (σ 2 10), q_up σ 2 10 (z_nx (σ 2 10))) := by
  have h : ¬ nI 1000 ≤ (0 : Int32) := by decide
  have h2 : ¬ nI 1000 = (0 : Int32) := by decide
  have e1 : (1664525 : Int32) = nI 1664525 := by rfl
  have e2 : (1013904223 : Int32) = nI 1013904223 := by rfl
  have e3 : (8 : Int32) = nI 8 := by rfl
  unfold f_X9_draw
  show (if nI 1000 ≤ 0 then some (0, q_up σ 2 10 ((1664525 * (σ 2 10)) + 1013904223)) else q_rem (q_ushr (q_up σ 2 10 ((1664525 * (σ 2 10)) + 1013904223) 2 10) 8) (nI 1000) fun v3 => some (v3, q_up σ 2 10 ((1664525 * (σ 2 10)) + 1013904223))) = _
  rw [if_neg h, z_upS]
  unfold q_rem z_dr z_nx
  rw [if_neg h2, e1, e2, e3]
theorem m_draw {n : Nat} {V : Nat → Int32} {σ : q_Sto} (hV : σ 158 = V) : f_X12_draw n 157 (nI 1000) σ = some (z_dr (V 5), q_up σ 158 5 (z_nx (V 5))) := by
  have h2 : ¬ nI 1000 = (0 : Int32) := by decide
  have e1 : (1664525 : Int32) = nI 1664525 := by rfl
  have e2 : (1013904223 : Int32) = nI 1013904223 := by rfl
  have e3 : (8 : Int32) = nI 8 := by rfl
  have e5 : (5 : Int32) = nI 5 := by rfl
  unfold f_X12_draw
  rw [e5, r_157_0, z_ld (by omega) (by omega), z_st (by omega) (by omega), z_ld (by omega) (by omega), z_upS, hV]
  unfold q_rem z_dr z_nx
  rw [if_neg h2, e1, e2, e3]
theorem p_trav_L {n mu me w0 h : Nat} {P : Nat → Int32} {cc : Int32} {K1 K2 : Int32 → q_Sto → Option (Int32 × q_Sto)} (hn : 402 ≤ n) : ∀ j i cnt (V : Nat → Int32) (σc : q_Sto), i + j = mu → z_X mu me true w0 P σc V →
    ∃ W r, (∀ l, j < l → ∀ σ, z_X mu me true w0 P σ V → ∃ σ', z_fX σ σ' ∧ z_X mu me true w0 P σ' W ∧ f_X10_travel_L26 n 1 cc (nI h) (nI 1) K1 l (nI cnt) (nI i) σ = K1 (nI r) σ') ∧ (∀ l, j < l → ∀ σ, σ 158 = V → z_fl σ true → ∃ σ', z_fM σ σ' ∧ σ' 158 = W ∧ f_X12_goesTo_L34 n 157 cc (nI h) K2 l (nI cnt) (nI i) σ = K2 (nI r) σ') ∧ (∃ σd, z_X mu me true w0 P σd W) ∧ W 1 = V 1 := by
  intro j
  induction j with
  | zero =>
    intro i cnt V σc hi hc
    have hmu := hc.1.1.1
    have h86 := hc.1.1.2.2.1
    have hi : i = mu := by omega
    subst hi
    refine ⟨V, cnt, fun l hl σ h => ⟨σ, z_fX.refl σ, h, ?_⟩, fun l hl σ hV hf => ⟨σ, z_fM.refl σ, hV, ?_⟩, ⟨σc, hc⟩, rfl⟩
    · cases l with
      | zero => omega
      | succ l =>
        have g8 : σ 2 8 = nI i := h.1.2.1.1.1
        rw [f_X10_travel_L26]
        simp (disch := omega) only [g8, ↓reduceIte, ↓p_ld, ↓p_st, ↓p_nm, ↓p_nS, ↓p_jn, ↓p_call, ↓p_callv, ↓p_dv, ↓p_rem, h_ldE, h_stE, h_nmE, h_nSE, h_callE, h_callvE, h_dvE, h_remE, if_true, if_false, z_upS, z_upO, z_upK, nI_add, z_mul, z_sub, z_div, Nat.add_zero, Nat.mul_zero, Nat.zero_add, Nat.sub_zero, Nat.zero_mul, z_ltT, z_ltF, z_leT, z_leF, z_eqT, z_eqF, z_inT, z_clT, not_true_eq_false, not_false_eq_true, eq_self, true_or, or_true, z_m_lt, z_m_le, z_lt_m, z_le_m, z_eq_m, z_m_eq, z_rz0, z_rz1, z_m_add, z_of, r_0_0, r_0_1, r_0_3, r_0_4, r_0_5, r_0_6, r_0_7, r_0_8, r_0_9, r_0_10, r_1_0, r_1_1, r_1_2, r_1_3, r_1_4, r_1_5, r_1_6, r_1_7, r_1_8, r_2_0, r_2_1, r_2_2, r_2_3, r_2_4, r_2_5, r_2_6, r_2_7, r_11_0, r_11_1, r_11_2, r_11_3, r_11_4, r_11_5, r_11_6, r_19_0, r_21_0, r_23_0, r_25_0, r_27_0, r_61_0, r_117_0, r_117_1, r_117_2, r_117_3, r_117_4, r_117_5, r_117_6, r_117_7, r_126_0, r_126_1, r_126_2, r_126_3, r_126_4, r_132_0, r_132_1, r_135_0, r_135_1, r_135_2, r_135_3, r_135_4, r_135_5, r_142_0, r_144_0, r_144_1, r_144_2, r_145_0, r_145_1, r_145_2, r_145_3, r_145_4, r_145_5, r_145_6, r_154_0, r_154_1, r_155_0, ↓z_m1, l_0, l_1, l_2, l_3, l_4, l_5, l_6, l_7, l_8, l_9, l_10, l_11, l_12, l_13, l_14, l_15, l_16, l_17, l_18, l_19, l_20, l_21, l_22, l_23, l_24, l_25, l_26, l_27, l_28, l_29, l_30, l_31, l_32, l_33, l_34, l_35, l_36, l_37, l_38, l_39, l_40, l_41, l_42, l_43, l_44, l_45, l_46, l_47, l_48, l_49, l_50, l_51, l_52, l_53, l_54, l_55, l_56, l_57, l_59, l_60, l_61, l_62, l_63, l_64, l_65, l_80, l_86, l_87, l_88, l_89, l_90, l_91, l_92, l_93, l_94, l_95, l_97, l_99, l_100, l_107, l_119, l_122, l_124, l_129, l_140, l_141, l_142, l_143, l_144, l_145, l_147, l_150, l_159, l_160, l_161, l_162, l_205, l_253, l_255, l_256, l_269, l_305, l_380, l_399, l_400, l_420, l_430, l_516, l_600, l_720, l_820, l_905, l_921, l_937, l_953, l_970, l_999, l_1000, l_1790, l_4096, l_9999, l_1000000]
    · cases l with
      | zero => omega
      | succ l =>
        rw [f_X12_goesTo_L34]
        simp (disch := omega) only [hV, h86, ↓reduceIte, ↓p_ld, ↓p_st, ↓p_nm, ↓p_nS, ↓p_jn, ↓p_call, ↓p_callv, ↓p_dv, ↓p_rem, h_ldE, h_stE, h_nmE, h_nSE, h_callE, h_callvE, h_dvE, h_remE, if_true, if_false, z_upS, z_upO, z_upK, nI_add, z_mul, z_sub, z_div, Nat.add_zero, Nat.mul_zero, Nat.zero_add, Nat.sub_zero, Nat.zero_mul, z_ltT, z_ltF, z_leT, z_leF, z_eqT, z_eqF, z_inT, z_clT, not_true_eq_false, not_false_eq_true, eq_self, true_or, or_true, z_m_lt, z_m_le, z_lt_m, z_le_m, z_eq_m, z_m_eq, z_rz0, z_rz1, z_m_add, z_of, r_157_0, r_157_1, r_157_2, r_157_3, r_157_6, r_157_7, r_157_8, r_157_9, r_157_10, r_157_11, r_157_27, r_157_28, r_157_29, r_157_30, ↓z_m1, l_0, l_1, l_2, l_3, l_4, l_5, l_6, l_7, l_8, l_9, l_10, l_11, l_12, l_13, l_14, l_15, l_16, l_17, l_18, l_19, l_20, l_21, l_22, l_23, l_24, l_25, l_26, l_27, l_28, l_29, l_30, l_31, l_32, l_33, l_34, l_35, l_36, l_37, l_38, l_39, l_40, l_41, l_42, l_43, l_44, l_45, l_46, l_47, l_48, l_49, l_50, l_51, l_52, l_53, l_54, l_55, l_56, l_57, l_59, l_60, l_61, l_62, l_63, l_64, l_65, l_80, l_86, l_87, l_88, l_89, l_90, l_91, l_92, l_93, l_94, l_95, l_97, l_99, l_100, l_107, l_119, l_122, l_124, l_129, l_140, l_141, l_142, l_143, l_144, l_145, l_147, l_150, l_159, l_160, l_161, l_162, l_205, l_253, l_255, l_256, l_269, l_305, l_380, l_399, l_400, l_420, l_430, l_516, l_600, l_720, l_820, l_905, l_921, l_937, l_953, l_970, l_999, l_1000, l_1790, l_4096, l_9999, l_1000000]
  | succ j ih =>
    intro i cnt V σc hi hc
    have hmu := hc.1.1.1
    have hme := hc.1.1.2.1
    have h86 := hc.1.1.2.2.1
    have h6 := hc.h6
    have hdr := hc.1.1.2.2.2.2.2.2.2.2.2.1
    obtain ⟨s, hs, h7⟩ := hc.1.1.2.2.2.2.1
    have h12 := z_p12 hmu
    have hLW := hc.1.2.2.1
    by_cases hl : s.testBit i = true
    · obtain ⟨W, r, w1, w2, w3, w4⟩ := ih (i+1) cnt V σc (by omega) hc
      refine ⟨W, r, fun l hl2 σ h => ?_, fun l hl2 σ hV hf => ?_, w3, w4⟩
      · cases l with
        | zero => omega
        | succ l =>
          obtain ⟨σ', k1, k2, k3⟩ := w1 l (by omega) σ h
          have g8 : σ 2 8 = nI mu := h.1.2.1.1.1
          have e5 : σ 5 i = nI 1 := by
            have := h.1.2.1.2.2.1 i (by omega)
            rw [h7, z_bitE (by omega) (by omega), if_pos hl] at this
            exact this
          refine ⟨σ', k1, k2, ?_⟩
          rw [← k3, f_X10_travel_L26]
          simp (disch := omega) only [g8, e5, ↓reduceIte, ↓p_ld, ↓p_st, ↓p_nm, ↓p_nS, ↓p_jn, ↓p_call, ↓p_callv, ↓p_dv, ↓p_rem, h_ldE, h_stE, h_nmE, h_nSE, h_callE, h_callvE, h_dvE, h_remE, if_true, if_false, z_upS, z_upO, z_upK, nI_add, z_mul, z_sub, z_div, Nat.add_zero, Nat.mul_zero, Nat.zero_add, Nat.sub_zero, Nat.zero_mul, z_ltT, z_ltF, z_leT, z_leF, z_eqT, z_eqF, z_inT, z_clT, not_true_eq_false, not_false_eq_true, eq_self, true_or, or_true, z_m_lt, z_m_le, z_lt_m, z_le_m, z_eq_m, z_m_eq, z_rz0, z_rz1, z_m_add, z_of, r_0_0, r_0_1, r_0_3, r_0_4, r_0_5, r_0_6, r_0_7, r_0_8, r_0_9, r_0_10, r_1_0, r_1_1, r_1_2, r_1_3, r_1_4, r_1_5, r_1_6, r_1_7, r_1_8, r_2_0, r_2_1, r_2_2, r_2_3, r_2_4, r_2_5, r_2_6, r_2_7, r_11_0, r_11_1, r_11_2, r_11_3, r_11_4, r_11_5, r_11_6, r_19_0, r_21_0, r_23_0, r_25_0, r_27_0, r_61_0, r_117_0, r_117_1, r_117_2, r_117_3, r_117_4, r_117_5, r_117_6, r_117_7, r_126_0, r_126_1, r_126_2, r_126_3, r_126_4, r_132_0, r_132_1, r_135_0, r_135_1, r_135_2, r_135_3, r_135_4, r_135_5, r_142_0, r_144_0, r_144_1, r_144_2, r_145_0, r_145_1, r_145_2, r_145_3, r_145_4, r_145_5, r_145_6, r_154_0, r_154_1, r_155_0, ↓z_m1, l_0, l_1, l_2, l_3, l_4, l_5, l_6, l_7, l_8, l_9, l_10, l_11, l_12, l_13, l_14, l_15, l_16, l_17, l_18, l_19, l_20, l_21, l_22, l_23, l_24, l_25, l_26, l_27, l_28, l_29, l_30, l_31, l_32, l_33, l_34, l_35, l_36, l_37, l_38, l_39, l_40, l_41, l_42, l_43, l_44, l_45, l_46, l_47, l_48, l_49, l_50, l_51, l_52, l_53, l_54, l_55, l_56, l_57, l_59, l_60, l_61, l_62, l_63, l_64, l_65, l_80, l_86, l_87, l_88, l_89, l_90, l_91, l_92, l_93, l_94, l_95, l_97, l_99, l_100, l_107, l_119, l_122, l_124, l_129, l_140, l_141, l_142, l_143, l_144, l_145, l_147, l_150, l_159, l_160, l_161, l_162, l_205, l_253, l_255, l_256, l_269, l_305, l_380, l_399, l_400, l_420, l_430, l_516, l_600, l_720, l_820, l_905, l_921, l_937, l_953, l_970, l_999, l_1000, l_1790, l_4096, l_9999, l_1000000]
      · cases l with
        | zero => omega
        | succ l =>
          obtain ⟨σ', k1, k2, k3⟩ := w2 l (by omega) σ hV hf
          have eL := m_isLame (n := n) (m := i) hV h7 (by omega) (by omega)
          rw [if_pos hl] at eL
          have hf26 : σ 157 26 = nI 1 := hf
          refine ⟨σ', k1, k2, ?_⟩
          rw [← k3, f_X12_goesTo_L34]
          simp (disch := omega) only [hV, h86, eL, hf26, ↓reduceIte, ↓p_ld, ↓p_st, ↓p_nm, ↓p_nS, ↓p_jn, ↓p_call, ↓p_callv, ↓p_dv, ↓p_rem, h_ldE, h_stE, h_nmE, h_nSE, h_callE, h_callvE, h_dvE, h_remE, if_true, if_false, z_upS, z_upO, z_upK, nI_add, z_mul, z_sub, z_div, Nat.add_zero, Nat.mul_zero, Nat.zero_add, Nat.sub_zero, Nat.zero_mul, z_ltT, z_ltF, z_leT, z_leF, z_eqT, z_eqF, z_inT, z_clT, not_true_eq_false, not_false_eq_true, eq_self, true_or, or_true, z_m_lt, z_m_le, z_lt_m, z_le_m, z_eq_m, z_m_eq, z_rz0, z_rz1, z_m_add, z_of, r_157_0, r_157_1, r_157_2, r_157_3, r_157_6, r_157_7, r_157_8, r_157_9, r_157_10, r_157_11, r_157_27, r_157_28, r_157_29, r_157_30, ↓z_m1, l_0, l_1, l_2, l_3, l_4, l_5, l_6, l_7, l_8, l_9, l_10, l_11, l_12, l_13, l_14, l_15, l_16, l_17, l_18, l_19, l_20, l_21, l_22, l_23, l_24, l_25, l_26, l_27, l_28, l_29, l_30, l_31, l_32, l_33, l_34, l_35, l_36, l_37, l_38, l_39, l_40, l_41, l_42, l_43, l_44, l_45, l_46, l_47, l_48, l_49, l_50, l_51, l_52, l_53, l_54, l_55, l_56, l_57, l_59, l_60, l_61, l_62, l_63, l_64, l_65, l_80, l_86, l_87, l_88, l_89, l_90, l_91, l_92, l_93, l_94, l_95, l_97, l_99, l_100, l_107, l_119, l_122, l_124, l_129, l_140, l_141, l_142, l_143, l_144, l_145, l_147, l_150, l_159, l_160, l_161, l_162, l_205, l_253, l_255, l_256, l_269, l_305, l_380, l_399, l_400, l_420, l_430, l_516, l_600, l_720, l_820, l_905, l_921, l_937, l_953, l_970, l_999, l_1000, l_1790, l_4096, l_9999, l_1000000]
    · have eC : ∀ σ, z_X mu me true w0 P σ V → σ 5 i = nI 0 := fun σ h => by
        have := h.1.2.1.2.2.1 i (by omega)
        rw [h7, z_bitE (by omega) (by omega), if_neg hl] at this
        exact this
      have eM : ∀ σ : q_Sto, σ 158 = V → f_X12_isLame n 157 (nI i) σ = some (nI 0, σ) := fun σ hV => by
        have eL := m_isLame (n := n) (m := i) hV h7 (by omega) (by omega)
        rw [if_neg hl] at eL
        exact eL
      have rC : ∀ σ, z_X mu me true w0 P σ V → ∃ σ', (∀ o, o ≠ 18 → o ≠ 30 → σ' o = σ o) ∧ f_X10_riskOf n 1 (nI i) (nI h) (V 2) σ = some (nI (z_risk V i (nI h) (V 2)), σ') := fun σ h => c_riskOf h.1 hn (by omega) hdr
      have rM : ∀ σ : q_Sto, σ 158 = V → ∃ σ', (∀ o, o ≠ 166 → o ≠ 167 → σ' o = σ o) ∧ f_X12_riskOf n 157 (nI i) (nI h) (V 2) σ = some (nI (z_risk V i (nI h) (V 2)), σ') := fun σ hV => m_riskOf hn (by omega) hme hdr hV hLW
      have hR : z_risk V i (nI h) (V 2) ≤ 1000 := z_cl_le _ _
      generalize z_risk V i (nI h) (V 2) = R at *
      by_cases hR0 : R = 0
      · subst hR0
        obtain ⟨W, r, w1, w2, w3, w4⟩ := ih (i+1) cnt V σc (by omega) hc
        refine ⟨W, r, fun l hl2 σ h => ?_, fun l hl2 σ hV hf => ?_, w3, w4⟩
        · cases l with
          | zero => omega
          | succ l =>
            obtain ⟨σ1, f1, f2⟩ := rC σ h
            obtain ⟨σ', k1, k2, k3⟩ := w1 l (by omega) σ1 (h.fr (fun o o1 o2 o3 => f1 o o3 (by omega)))
            have g8 : σ 2 8 = nI mu := h.1.2.1.1.1
            have g13 : σ 2 13 = V 2 := h.1.2.1.1.2.2.2.2.2.1
            have e5 := eC σ h
            refine ⟨σ', z_fX.trans (fun o ho => f1 o (by omega) (by omega)) k1, k2, ?_⟩
            rw [← k3, f_X10_travel_L26]
            simp (disch := omega) only [g8, e5, g13, f2, ↓reduceIte, ↓p_ld, ↓p_st, ↓p_nm, ↓p_nS, ↓p_jn, ↓p_call, ↓p_callv, ↓p_dv, ↓p_rem, h_ldE, h_stE, h_nmE, h_nSE, h_callE, h_callvE, h_dvE, h_remE, if_true, if_false, z_upS, z_upO, z_upK, nI_add, z_mul, z_sub, z_div, Nat.add_zero, Nat.mul_zero, Nat.zero_add, Nat.sub_zero, Nat.zero_mul, z_ltT, z_ltF, z_leT, z_leF, z_eqT, z_eqF, z_inT, z_clT, not_true_eq_false, not_false_eq_true, eq_self, true_or, or_true, z_m_lt, z_m_le, z_lt_m, z_le_m, z_eq_m, z_m_eq, z_rz0, z_rz1, z_m_add, z_of, r_0_0, r_0_1, r_0_3, r_0_4, r_0_5, r_0_6, r_0_7, r_0_8, r_0_9, r_0_10, r_1_0, r_1_1, r_1_2, r_1_3, r_1_4, r_1_5, r_1_6, r_1_7, r_1_8, r_2_0, r_2_1, r_2_2, r_2_3, r_2_4, r_2_5, r_2_6, r_2_7, r_11_0, r_11_1, r_11_2, r_11_3, r_11_4, r_11_5, r_11_6, r_19_0, r_21_0, r_23_0, r_25_0, r_27_0, r_61_0, r_117_0, r_117_1, r_117_2, r_117_3, r_117_4, r_117_5, r_117_6, r_117_7, r_126_0, r_126_1, r_126_2, r_126_3, r_126_4, r_132_0, r_132_1, r_135_0, r_135_1, r_135_2, r_135_3, r_135_4, r_135_5, r_142_0, r_144_0, r_144_1, r_144_2, r_145_0, r_145_1, r_145_2, r_145_3, r_145_4, r_145_5, r_145_6, r_154_0, r_154_1, r_155_0, ↓z_m1, l_0, l_1, l_2, l_3, l_4, l_5, l_6, l_7, l_8, l_9, l_10, l_11, l_12, l_13, l_14, l_15, l_16, l_17, l_18, l_19, l_20, l_21, l_22, l_23, l_24, l_25, l_26, l_27, l_28, l_29, l_30, l_31, l_32, l_33, l_34, l_35, l_36, l_37, l_38, l_39, l_40, l_41, l_42, l_43, l_44, l_45, l_46, l_47, l_48, l_49, l_50, l_51, l_52, l_53, l_54, l_55, l_56, l_57, l_59, l_60, l_61, l_62, l_63, l_64, l_65, l_80, l_86, l_87, l_88, l_89, l_90, l_91, l_92, l_93, l_94, l_95, l_97, l_99, l_100, l_107, l_119, l_122, l_124, l_129, l_140, l_141, l_142, l_143, l_144, l_145, l_147, l_150, l_159, l_160, l_161, l_162, l_205, l_253, l_255, l_256, l_269, l_305, l_380, l_399, l_400, l_420, l_430, l_516, l_600, l_720, l_820, l_905, l_921, l_937, l_953, l_970, l_999, l_1000, l_1790, l_4096, l_9999, l_1000000]
        · cases l with
          | zero => omega
          | succ l =>
            obtain ⟨σ1, f1, f2⟩ := rM σ hV
            have hfm : z_fM σ σ1 := fun o o1 o2 o3 => f1 o o2 o3
            obtain ⟨σ', k1, k2, k3⟩ := w2 l (by omega) σ1 (by rw [f1 158 (by omega) (by omega)]; exact hV) (hf.fr hfm)
            have eL := eM σ hV
            have hf26 : σ 157 26 = nI 1 := hf
            refine ⟨σ', hfm.trans k1, k2, ?_⟩
            rw [← k3, f_X12_goesTo_L34]
            simp (disch := omega) only [hV, h86, eL, hf26, f2, ↓reduceIte, ↓p_ld, ↓p_st, ↓p_nm, ↓p_nS, ↓p_jn, ↓p_call, ↓p_callv, ↓p_dv, ↓p_rem, h_ldE, h_stE, h_nmE, h_nSE, h_callE, h_callvE, h_dvE, h_remE, if_true, if_false, z_upS, z_upO, z_upK, nI_add, z_mul, z_sub, z_div, Nat.add_zero, Nat.mul_zero, Nat.zero_add, Nat.sub_zero, Nat.zero_mul, z_ltT, z_ltF, z_leT, z_leF, z_eqT, z_eqF, z_inT, z_clT, not_true_eq_false, not_false_eq_true, eq_self, true_or, or_true, z_m_lt, z_m_le, z_lt_m, z_le_m, z_eq_m, z_m_eq, z_rz0, z_rz1, z_m_add, z_of, r_157_0, r_157_1, r_157_2, r_157_3, r_157_6, r_157_7, r_157_8, r_157_9, r_157_10, r_157_11, r_157_27, r_157_28, r_157_29, r_157_30, ↓z_m1, l_0, l_1, l_2, l_3, l_4, l_5, l_6, l_7, l_8, l_9, l_10, l_11, l_12, l_13, l_14, l_15, l_16, l_17, l_18, l_19, l_20, l_21, l_22, l_23, l_24, l_25, l_26, l_27, l_28, l_29, l_30, l_31, l_32, l_33, l_34, l_35, l_36, l_37, l_38, l_39, l_40, l_41, l_42, l_43, l_44, l_45, l_46, l_47, l_48, l_49, l_50, l_51, l_52, l_53, l_54, l_55, l_56, l_57, l_59, l_60, l_61, l_62, l_63, l_64, l_65, l_80, l_86, l_87, l_88, l_89, l_90, l_91, l_92, l_93, l_94, l_95, l_97, l_99, l_100, l_107, l_119, l_122, l_124, l_129, l_140, l_141, l_142, l_143, l_144, l_145, l_147, l_150, l_159, l_160, l_161, l_162, l_205, l_253, l_255, l_256, l_269, l_305, l_380, l_399, l_400, l_420, l_430, l_516, l_600, l_720, l_820, l_905, l_921, l_937, l_953, l_970, l_999, l_1000, l_1790, l_4096, l_9999, l_1000000]
      · by_cases hD : z_dr (V 5) < nI R
        · have hs2 : s ||| 2 ^ i < 2 ^ mu := Nat.or_lt_two_pow hs (Nat.pow_lt_pow_right (by omega) (by omega))
          have hX2 : ∀ σ, z_X mu me true w0 P σ V → z_X mu me true w0 P (q_up (q_up σ 2 10 (z_nx (V 5))) 5 i (nI 1)) (z_u (z_u V 5 (z_nx (V 5))) 7 (nI (s ||| 2 ^ i))) := fun σ h => by
            have h1 := h.sc (f := 10) (a := 5) (x := z_nx (V 5)) (Or.inl ⟨rfl, rfl⟩)
            refine ⟨h1.1.lm hs2 (fun o o1 o2 o3 o4 => z_upO o3) (fun m hm => ?_), h1.2.fr (by rw [z_upO (by omega)]) (z_upO (by omega)) (z_uK (by omega)) (fun b b1 b2 => z_uK (by omega))⟩
            by_cases e : m = i
            · subst e
              rw [z_upS, if_pos (by rw [Nat.testBit_or, Nat.testBit_two_pow]; simp)]
            · rw [z_upK e]
              have := h1.1.2.1.2.2.1 m hm
              rw [z_uK (by omega), h7, z_bitE (by omega) (by omega)] at this
              have e2 : (s ||| 2 ^ i).testBit m = s.testBit m := by
                rw [Nat.testBit_or, Nat.testBit_two_pow]
                have : ¬ i = m := fun q => e q.symm
                simp [this]
              rw [e2]
              exact this
          obtain ⟨σd, -, hd2, -⟩ := c_write (n := n) (a := nI 5) (b := nI i) (c := nI 0) (hX2 σc hc)
          obtain ⟨W, r, w1, w2, w3, w4⟩ := ih (i+1) (cnt+1) _ σd (by omega) hd2
          have h6' : z_le (z_u (z_u V 5 (z_nx (V 5))) 7 (nI (s ||| 2 ^ i)) 6) 150 := by rw [z_uK (by omega), z_uK (by omega)]; exact h6
          refine ⟨W, r, fun l hl2 σ h => ?_, fun l hl2 σ hV hf => ?_, w3, by rw [w4, z_note_o h6' (by omega) (by omega), z_uK (by omega), z_uK (by omega)]⟩
          · cases l with
            | zero => omega
            | succ l =>
              obtain ⟨σ1, f1, f2⟩ := rC σ h
              have h1 := h.fr (σ' := σ1) (fun o o1 o2 o3 => f1 o o3 (by omega))
              have g10 : σ1 2 10 = V 5 := h1.1.2.1.1.2.2.1
              have ed := c_draw (n := n) (σ := σ1)
              rw [g10] at ed
              obtain ⟨σ2, p1, p2, p3⟩ := c_write (n := n) (a := nI 5) (b := nI i) (c := nI 0) (hX2 σ1 h1)
              obtain ⟨σ', k1, k2, k3⟩ := w1 l (by omega) σ2 p2
              have g8 : σ 2 8 = nI mu := h.1.2.1.1.1
              have g13 : σ 2 13 = V 2 := h.1.2.1.1.2.2.2.2.2.1
              have e5 := eC σ h
              refine ⟨σ', z_fX.trans (fun o ho => f1 o (by omega) (by omega)) (z_fX.trans (fun o ho => by rw [z_upO (by omega), z_upO (by omega)]) (p1.trans k1)), k2, ?_⟩
              rw [← k3, f_X10_travel_L26]
              simp (disch := omega) only [g8, e5, g13, f2, ed, hD, p3, ↓reduceIte, ↓p_ld, ↓p_st, ↓p_nm, ↓p_nS, ↓p_jn, ↓p_call, ↓p_callv, ↓p_dv, ↓p_rem, h_ldE, h_stE, h_nmE, h_nSE, h_callE, h_callvE, h_dvE, h_remE, if_true, if_false, z_upS, z_upO, z_upK, nI_add, z_mul, z_sub, z_div, Nat.add_zero, Nat.mul_zero, Nat.zero_add, Nat.sub_zero, Nat.zero_mul, z_ltT, z_ltF, z_leT, z_leF, z_eqT, z_eqF, z_inT, z_clT, not_true_eq_false, not_false_eq_true, eq_self, true_or, or_true, z_m_lt, z_m_le, z_lt_m, z_le_m, z_eq_m, z_m_eq, z_rz0, z_rz1, z_m_add, z_of, r_0_0, r_0_1, r_0_3, r_0_4, r_0_5, r_0_6, r_0_7, r_0_8, r_0_9, r_0_10, r_1_0, r_1_1, r_1_2, r_1_3, r_1_4, r_1_5, r_1_6, r_1_7, r_1_8, r_2_0, r_2_1, r_2_2, r_2_3, r_2_4, r_2_5, r_2_6, r_2_7, r_11_0, r_11_1, r_11_2, r_11_3, r_11_4, r_11_5, r_11_6, r_19_0, r_21_0, r_23_0, r_25_0, r_27_0, r_61_0, r_117_0, r_117_1, r_117_2, r_117_3, r_117_4, r_117_5, r_117_6, r_117_7, r_126_0, r_126_1, r_126_2, r_126_3, r_126_4, r_132_0, r_132_1, r_135_0, r_135_1, r_135_2, r_135_3, r_135_4, r_135_5, r_142_0, r_144_0, r_144_1, r_144_2, r_145_0, r_145_1, r_145_2, r_145_3, r_145_4, r_145_5, r_145_6, r_154_0, r_154_1, r_155_0, ↓z_m1, l_0, l_1, l_2, l_3, l_4, l_5, l_6, l_7, l_8, l_9, l_10, l_11, l_12, l_13, l_14, l_15, l_16, l_17, l_18, l_19, l_20, l_21, l_22, l_23, l_24, l_25, l_26, l_27, l_28, l_29, l_30, l_31, l_32, l_33, l_34, l_35, l_36, l_37, l_38, l_39, l_40, l_41, l_42, l_43, l_44, l_45, l_46, l_47, l_48, l_49, l_50, l_51, l_52, l_53, l_54, l_55, l_56, l_57, l_59, l_60, l_61, l_62, l_63, l_64, l_65, l_80, l_86, l_87, l_88, l_89, l_90, l_91, l_92, l_93, l_94, l_95, l_97, l_99, l_100, l_107, l_119, l_122, l_124, l_129, l_140, l_141, l_142, l_143, l_144, l_145, l_147, l_150, l_159, l_160, l_161, l_162, l_205, l_253, l_255, l_256, l_269, l_305, l_380, l_399, l_400, l_420, l_430, l_516, l_600, l_720, l_820, l_905, l_921, l_937, l_953, l_970, l_999, l_1000, l_1790, l_4096, l_9999, l_1000000]
          · cases l with
            | zero => omega
            | succ l =>
              obtain ⟨σ1, f1, f2⟩ := rM σ hV
              have hfm : z_fM σ σ1 := fun o o1 o2 o3 => f1 o o2 o3
              have hV1 : σ1 158 = V := by rw [f1 158 (by omega) (by omega)]; exact hV
              have ed := m_draw (n := n) hV1
              have hV2 := z_uV (a := 7) (v := nI (s ||| 2 ^ i)) (z_uV (a := 5) (v := z_nx (V 5)) hV1)
              obtain ⟨σ2, p1, p2, p3⟩ := m_notes (n := n) (a := nI 5) (b := nI i) (c := nI 0) hV2 (((hf.fr hfm).fr (z_fM.up _ _ _)).fr (z_fM.up _ _ _)) h6'
              obtain ⟨σ', k1, k2, k3⟩ := w2 l (by omega) σ2 p2 ((((hf.fr hfm).fr (z_fM.up _ _ _)).fr (z_fM.up _ _ _)).fr p1)
              have eL := eM σ hV
              have hf26 : σ 157 26 = nI 1 := hf
              have esh := z_shl (m := i) (by omega)
              have g7 : q_up σ1 158 5 (z_nx (V 5)) 158 7 = nI s := by rw [z_upK (by omega), hV1, h7]
              refine ⟨σ', hfm.trans ((z_fM.up _ _ _).trans ((z_fM.up _ _ _).trans (p1.trans k1))), k2, ?_⟩
              rw [← k3, f_X12_goesTo_L34]
              simp (disch := omega) only [hV, h86, eL, hf26, f2, ed, hD, hV1, h7, esh, z_or, p3, ↓reduceIte, ↓p_ld, ↓p_st, ↓p_nm, ↓p_nS, ↓p_jn, ↓p_call, ↓p_callv, ↓p_dv, ↓p_rem, h_ldE, h_stE, h_nmE, h_nSE, h_callE, h_callvE, h_dvE, h_remE, if_true, if_false, z_upS, z_upO, z_upK, nI_add, z_mul, z_sub, z_div, Nat.add_zero, Nat.mul_zero, Nat.zero_add, Nat.sub_zero, Nat.zero_mul, z_ltT, z_ltF, z_leT, z_leF, z_eqT, z_eqF, z_inT, z_clT, not_true_eq_false, not_false_eq_true, eq_self, true_or, or_true, z_m_lt, z_m_le, z_lt_m, z_le_m, z_eq_m, z_m_eq, z_rz0, z_rz1, z_m_add, z_of, r_157_0, r_157_1, r_157_2, r_157_3, r_157_6, r_157_7, r_157_8, r_157_9, r_157_10, r_157_11, r_157_27, r_157_28, r_157_29, r_157_30, ↓z_m1, l_0, l_1, l_2, l_3, l_4, l_5, l_6, l_7, l_8, l_9, l_10, l_11, l_12, l_13, l_14, l_15, l_16, l_17, l_18, l_19, l_20, l_21, l_22, l_23, l_24, l_25, l_26, l_27, l_28, l_29, l_30, l_31, l_32, l_33, l_34, l_35, l_36, l_37, l_38, l_39, l_40, l_41, l_42, l_43, l_44, l_45, l_46, l_47, l_48, l_49, l_50, l_51, l_52, l_53, l_54, l_55, l_56, l_57, l_59, l_60, l_61, l_62, l_63, l_64, l_65, l_80, l_86, l_87, l_88, l_89, l_90, l_91, l_92, l_93, l_94, l_95, l_97, l_99, l_100, l_107, l_119, l_122, l_124, l_129, l_140, l_141, l_142, l_143, l_144, l_145, l_147, l_150, l_159, l_160, l_161, l_162, l_205, l_253, l_255, l_256, l_269, l_305, l_380, l_399, l_400, l_420, l_430, l_516, l_600, l_720, l_820, l_905, l_921, l_937, l_953, l_970, l_999, l_1000, l_1790, l_4096, l_9999, l_1000000]
        · have hX2 : ∀ σ, z_X mu me true w0 P σ V → z_X mu me true w0 P (q_up σ 2 10 (z_nx (V 5))) (z_u V 5 (z_nx (V 5))) := fun σ h => h.sc (Or.inl ⟨rfl, rfl⟩)
          obtain ⟨W, r, w1, w2, w3, w4⟩ := ih (i+1) cnt _ _ (by omega) (hX2 σc hc)
          refine ⟨W, r, fun l hl2 σ h => ?_, fun l hl2 σ hV hf => ?_, w3, by rw [w4, z_uK (by omega)]⟩
          · cases l with
            | zero => omega
            | succ l =>
              obtain ⟨σ1, f1, f2⟩ := rC σ h
              have h1 := h.fr (σ' := σ1) (fun o o1 o2 o3 => f1 o o3 (by omega))
              have g10 : σ1 2 10 = V 5 := h1.1.2.1.1.2.2.1
              have ed := c_draw (n := n) (σ := σ1)
              rw [g10] at ed
              obtain ⟨σ', k1, k2, k3⟩ := w1 l (by omega) _ (hX2 σ1 h1)
              have g8 : σ 2 8 = nI mu := h.1.2.1.1.1
              have g13 : σ 2 13 = V 2 := h.1.2.1.1.2.2.2.2.2.1
              have e5 := eC σ h
              refine ⟨σ', z_fX.trans (fun o ho => f1 o (by omega) (by omega)) (z_fX.trans (fun o ho => by rw [z_upO (by omega)]) k1), k2, ?_⟩
              rw [← k3, f_X10_travel_L26]
              simp (disch := omega) only [g8, e5, g13, f2, ed, hD, ↓reduceIte, ↓p_ld, ↓p_st, ↓p_nm, ↓p_nS, ↓p_jn, ↓p_call, ↓p_callv, ↓p_dv, ↓p_rem, h_ldE, h_stE, h_nmE, h_nSE, h_callE, h_callvE, h_dvE, h_remE, if_true, if_false, z_upS, z_upO, z_upK, nI_add, z_mul, z_sub, z_div, Nat.add_zero, Nat.mul_zero, Nat.zero_add, Nat.sub_zero, Nat.zero_mul, z_ltT, z_ltF, z_leT, z_leF, z_eqT, z_eqF, z_inT, z_clT, not_true_eq_false, not_false_eq_true, eq_self, true_or, or_true, z_m_lt, z_m_le, z_lt_m, z_le_m, z_eq_m, z_m_eq, z_rz0, z_rz1, z_m_add, z_of, r_0_0, r_0_1, r_0_3, r_0_4, r_0_5, r_0_6, r_0_7, r_0_8, r_0_9, r_0_10, r_1_0, r_1_1, r_1_2, r_1_3, r_1_4, r_1_5, r_1_6, r_1_7, r_1_8, r_2_0, r_2_1, r_2_2, r_2_3, r_2_4, r_2_5, r_2_6, r_2_7, r_11_0, r_11_1, r_11_2, r_11_3, r_11_4, r_11_5, r_11_6, r_19_0, r_21_0, r_23_0, r_25_0, r_27_0, r_61_0, r_117_0, r_117_1, r_117_2, r_117_3, r_117_4, r_117_5, r_117_6, r_117_7, r_126_0, r_126_1, r_126_2, r_126_3, r_126_4, r_132_0, r_132_1, r_135_0, r_135_1, r_135_2, r_135_3, r_135_4, r_135_5, r_142_0, r_144_0, r_144_1, r_144_2, r_145_0, r_145_1, r_145_2, r_145_3, r_145_4, r_145_5, r_145_6, r_154_0, r_154_1, r_155_0, ↓z_m1, l_0, l_1, l_2, l_3, l_4, l_5, l_6, l_7, l_8, l_9, l_10, l_11, l_12, l_13, l_14, l_15, l_16, l_17, l_18, l_19, l_20, l_21, l_22, l_23, l_24, l_25, l_26, l_27, l_28, l_29, l_30, l_31, l_32, l_33, l_34, l_35, l_36, l_37, l_38, l_39, l_40, l_41, l_42, l_43, l_44, l_45, l_46, l_47, l_48, l_49, l_50, l_51, l_52, l_53, l_54, l_55, l_56, l_57, l_59, l_60, l_61, l_62, l_63, l_64, l_65, l_80, l_86, l_87, l_88, l_89, l_90, l_91, l_92, l_93, l_94, l_95, l_97, l_99, l_100, l_107, l_119, l_122, l_124, l_129, l_140, l_141, l_142, l_143, l_144, l_145, l_147, l_150, l_159, l_160, l_161, l_162, l_205, l_253, l_255, l_256, l_269, l_305, l_380, l_399, l_400, l_420, l_430, l_516, l_600, l_720, l_820, l_905, l_921, l_937, l_953, l_970, l_999, l_1000, l_1790, l_4096, l_9999, l_1000000]
          · cases l with
            | zero => omega
            | succ l =>
              obtain ⟨σ1, f1, f2⟩ := rM σ hV
              have hfm : z_fM σ σ1 := fun o o1 o2 o3 => f1 o o2 o3
              have hV1 : σ1 158 = V := by rw [f1 158 (by omega) (by omega)]; exact hV
              have ed := m_draw (n := n) hV1
              obtain ⟨σ', k1, k2, k3⟩ := w2 l (by omega) _ (z_uV (a := 5) (v := z_nx (V 5)) hV1) ((hf.fr hfm).fr (z_fM.up _ _ _))
              have eL := eM σ hV
              have hf26 : σ 157 26 = nI 1 := hf
              refine ⟨σ', hfm.trans ((z_fM.up _ _ _).trans k1), k2, ?_⟩
              rw [← k3, f_X12_goesTo_L34]
              simp (disch := omega) only [hV, h86, eL, hf26, f2, ed, hD, ↓reduceIte, ↓p_ld, ↓p_st, ↓p_nm, ↓p_nS, ↓p_jn, ↓p_call, ↓p_callv, ↓p_dv, ↓p_rem, h_ldE, h_stE, h_nmE, h_nSE, h_callE, h_callvE, h_dvE, h_remE, if_true, if_false, z_upS, z_upO, z_upK, nI_add, z_mul, z_sub, z_div, Nat.add_zero, Nat.mul_zero, Nat.zero_add, Nat.sub_zero, Nat.zero_mul, z_ltT, z_ltF, z_leT, z_leF, z_eqT, z_eqF, z_inT, z_clT, not_true_eq_false, not_false_eq_true, eq_self, true_or, or_true, z_m_lt, z_m_le, z_lt_m, z_le_m, z_eq_m, z_m_eq, z_rz0, z_rz1, z_m_add, z_of, r_157_0, r_157_1, r_157_2, r_157_3, r_157_6, r_157_7, r_157_8, r_157_9, r_157_10, r_157_11, r_157_27, r_157_28, r_157_29, r_157_30, ↓z_m1, l_0, l_1, l_2, l_3, l_4, l_5, l_6, l_7, l_8, l_9, l_10, l_11, l_12, l_13, l_14, l_15, l_16, l_17, l_18, l_19, l_20, l_21, l_22, l_23, l_24, l_25, l_26, l_27, l_28, l_29, l_30, l_31, l_32, l_33, l_34, l_35, l_36, l_37, l_38, l_39, l_40, l_41, l_42, l_43, l_44, l_45, l_46, l_47, l_48, l_49, l_50, l_51, l_52, l_53, l_54, l_55, l_56, l_57, l_59, l_60, l_61, l_62, l_63, l_64, l_65, l_80, l_86, l_87, l_88, l_89, l_90, l_91, l_92, l_93, l_94, l_95, l_97, l_99, l_100, l_107, l_119, l_122, l_124, l_129, l_140, l_141, l_142, l_143, l_144, l_145, l_147, l_150, l_159, l_160, l_161, l_162, l_205, l_253, l_255, l_256, l_269, l_305, l_380, l_399, l_400, l_420, l_430, l_516, l_600, l_720, l_820, l_905, l_921, l_937, l_953, l_970, l_999, l_1000, l_1790, l_4096, l_9999, l_1000000]
theorem p_travel {n mu me w0 h c : Nat} {tr : Bool} {P V : Nat → Int32} {σc : q_Sto} (hn : 402 ≤ n) (hc : z_X mu me tr w0 P σc V) (hcp : c < 10) (hp : z_path V (V 1) (nI c) = nI h) :
    ∃ W r, z_PC mu me tr w0 P V W (f_X10_travel n 1 (nI c) (nI h) (nI (if tr = true then 1 else 0))) (nI r) ∧ z_PM tr V W (f_X12_goesTo n 157 (nI c)) (nI r) := by
  have hmu := hc.1.1.1
  have hme := hc.1.1.2.1
  have h86 := hc.1.1.2.2.1
  have h6 := hc.h6
  obtain ⟨c92, q1, q2, q3, q4⟩ := hc.1.2.2.2.2.2.1
  have e9 : z_le (nI c) 9 := ⟨c, by omega, rfl⟩
  have hX1 : ∀ σ, z_X mu me tr w0 P σ V → z_X mu me tr w0 P (q_up σ 2 15 (V 4 + nI h)) (z_u V 4 (V 4 + nI h)) := fun σ h => h.sc (Or.inr (Or.inr (Or.inr (Or.inl ⟨rfl, rfl⟩))))
  have h6' : z_le (z_u V 4 (V 4 + nI h) 6) 150 := by rw [z_uK (by omega)]; exact h6
  have eP : ∀ σ : q_Sto, σ 158 = V → f_X12_pathOf n 157 (V 1) (nI c) σ = some (nI h, σ) := fun σ hV => by rw [m_pathOf (by omega) hV q3 q1, hp]
  cases tr with
  | false =>
    have e0 : (if false = true then 1 else 0) = 0 := rfl
    rw [e0]
    refine ⟨z_u (z_note false (z_u V 4 (V 4 + nI h)) (nI 4) (nI c) (nI h)) 1 (nI c), 0, fun σ hx => ?_, fun σ hV hf => ?_⟩
    · have g15 : σ 2 15 = V 4 := hx.1.2.1.1.2.2.2.2.2.2.2.1
      obtain ⟨σ1, f1, f2, f3⟩ := c_write (n := n) (a := nI 4) (b := nI c) (c := nI h) (hX1 σ hx)
      have g8 : σ1 2 8 = nI mu := f2.1.2.1.1.1
      refine ⟨q_up σ1 2 12 (nI c), z_fX.trans (fun o ho => z_upO (by omega)) (f1.trans (fun o ho => z_upO (by omega))), f2.sc (Or.inr (Or.inl ⟨rfl, rfl, e9⟩)), ?_⟩
      have e1 : f_X10_travel n 1 (nI c) (nI h) (nI 0) σ = f_X10_travel_L26 n 1 (nI c) (nI h) (nI 0) (fun (y20 : Int32) (s21 : q_Sto) =>
  q_nS1 (q_up s21 (q_RF 1 0) 12 (nI c)) fun s22 =>
  some (y20, s22)) n 0 0 σ1 := by
        unfold f_X10_travel
        rw [r_1_0, g15]
        show q_callv (f_X10_write n 1 4 (nI c) (nI h) (q_up σ 2 15 (V 4 + nI h))) _ = _
        rw [l_4, f3, z_callv]
      rw [e1]
      obtain ⟨n, rfl⟩ : ∃ n', n = n' + 1 := ⟨n - 1, by omega⟩
      rw [f_X10_travel_L26]
      by_cases hm : mu = 0
      · subst hm
        simp (disch := omega) only [g8, ↓reduceIte, ↓p_ld, ↓p_st, ↓p_nm, ↓p_nS, ↓p_jn, ↓p_call, ↓p_callv, ↓p_dv, ↓p_rem, h_ldE, h_stE, h_nmE, h_nSE, h_callE, h_callvE, h_dvE, h_remE, if_true, if_false, z_upS, z_upO, z_upK, nI_add, z_mul, z_sub, z_div, Nat.add_zero, Nat.mul_zero, Nat.zero_add, Nat.sub_zero, Nat.zero_mul, z_ltT, z_ltF, z_leT, z_leF, z_eqT, z_eqF, z_inT, z_clT, not_true_eq_false, not_false_eq_true, eq_self, true_or, or_true, z_m_lt, z_m_le, z_lt_m, z_le_m, z_eq_m, z_m_eq, z_rz0, z_rz1, z_m_add, z_of, r_0_0, r_0_1, r_0_3, r_0_4, r_0_5, r_0_6, r_0_7, r_0_8, r_0_9, r_0_10, r_1_0, r_1_1, r_1_2, r_1_3, r_1_4, r_1_5, r_1_6, r_1_7, r_1_8, r_2_0, r_2_1, r_2_2, r_2_3, r_2_4, r_2_5, r_2_6, r_2_7, r_11_0, r_11_1, r_11_2, r_11_3, r_11_4, r_11_5, r_11_6, r_19_0, r_21_0, r_23_0, r_25_0, r_27_0, r_61_0, r_117_0, r_117_1, r_117_2, r_117_3, r_117_4, r_117_5, r_117_6, r_117_7, r_126_0, r_126_1, r_126_2, r_126_3, r_126_4, r_132_0, r_132_1, r_135_0, r_135_1, r_135_2, r_135_3, r_135_4, r_135_5, r_142_0, r_144_0, r_144_1, r_144_2, r_145_0, r_145_1, r_145_2, r_145_3, r_145_4, r_145_5, r_145_6, r_154_0, r_154_1, r_155_0, ↓z_m1, l_0, l_1, l_2, l_3, l_4, l_5, l_6, l_7, l_8, l_9, l_10, l_11, l_12, l_13, l_14, l_15, l_16, l_17, l_18, l_19, l_20, l_21, l_22, l_23, l_24, l_25, l_26, l_27, l_28, l_29, l_30, l_31, l_32, l_33, l_34, l_35, l_36, l_37, l_38, l_39, l_40, l_41, l_42, l_43, l_44, l_45, l_46, l_47, l_48, l_49, l_50, l_51, l_52, l_53, l_54, l_55, l_56, l_57, l_59, l_60, l_61, l_62, l_63, l_64, l_65, l_80, l_86, l_87, l_88, l_89, l_90, l_91, l_92, l_93, l_94, l_95, l_97, l_99, l_100, l_107, l_119, l_122, l_124, l_129, l_140, l_141, l_142, l_143, l_144, l_145, l_147, l_150, l_159, l_160, l_161, l_162, l_205, l_253, l_255, l_256, l_269, l_305, l_380, l_399, l_400, l_420, l_430, l_516, l_600, l_720, l_820, l_905, l_921, l_937, l_953, l_970, l_999, l_1000, l_1790, l_4096, l_9999, l_1000000]
      · simp (disch := omega) only [g8, ↓reduceIte, ↓p_ld, ↓p_st, ↓p_nm, ↓p_nS, ↓p_jn, ↓p_call, ↓p_callv, ↓p_dv, ↓p_rem, h_ldE, h_stE, h_nmE, h_nSE, h_callE, h_callvE, h_dvE, h_remE, if_true, if_false, z_upS, z_upO, z_upK, nI_add, z_mul, z_sub, z_div, Nat.add_zero, Nat.mul_zero, Nat.zero_add, Nat.sub_zero, Nat.zero_mul, z_ltT, z_ltF, z_leT, z_leF, z_eqT, z_eqF, z_inT, z_clT, not_true_eq_false, not_false_eq_true, eq_self, true_or, or_true, z_m_lt, z_m_le, z_lt_m, z_le_m, z_eq_m, z_m_eq, z_rz0, z_rz1, z_m_add, z_of, r_0_0, r_0_1, r_0_3, r_0_4, r_0_5, r_0_6, r_0_7, r_0_8, r_0_9, r_0_10, r_1_0, r_1_1, r_1_2, r_1_3, r_1_4, r_1_5, r_1_6, r_1_7, r_1_8, r_2_0, r_2_1, r_2_2, r_2_3, r_2_4, r_2_5, r_2_6, r_2_7, r_11_0, r_11_1, r_11_2, r_11_3, r_11_4, r_11_5, r_11_6, r_19_0, r_21_0, r_23_0, r_25_0, r_27_0, r_61_0, r_117_0, r_117_1, r_117_2, r_117_3, r_117_4, r_117_5, r_117_6, r_117_7, r_126_0, r_126_1, r_126_2, r_126_3, r_126_4, r_132_0, r_132_1, r_135_0, r_135_1, r_135_2, r_135_3, r_135_4, r_135_5, r_142_0, r_144_0, r_144_1, r_144_2, r_145_0, r_145_1, r_145_2, r_145_3, r_145_4, r_145_5, r_145_6, r_154_0, r_154_1, r_155_0, ↓z_m1, l_0, l_1, l_2, l_3, l_4, l_5, l_6, l_7, l_8, l_9, l_10, l_11, l_12, l_13, l_14, l_15, l_16, l_17, l_18, l_19, l_20, l_21, l_22, l_23, l_24, l_25, l_26, l_27, l_28, l_29, l_30, l_31, l_32, l_33, l_34, l_35, l_36, l_37, l_38, l_39, l_40, l_41, l_42, l_43, l_44, l_45, l_46, l_47, l_48, l_49, l_50, l_51, l_52, l_53, l_54, l_55, l_56, l_57, l_59, l_60, l_61, l_62, l_63, l_64, l_65, l_80, l_86, l_87, l_88, l_89, l_90, l_91, l_92, l_93, l_94, l_95, l_97, l_99, l_100, l_107, l_119, l_122, l_124, l_129, l_140, l_141, l_142, l_143, l_144, l_145, l_147, l_150, l_159, l_160, l_161, l_162, l_205, l_253, l_255, l_256, l_269, l_305, l_380, l_399, l_400, l_420, l_430, l_516, l_600, l_720, l_820, l_905, l_921, l_937, l_953, l_970, l_999, l_1000, l_1790, l_4096, l_9999, l_1000000]
    · have hV1 := z_uV (a := 4) (v := V 4 + nI h) hV
      obtain ⟨σ1, f1, f2, f3⟩ := m_notes (n := n) (a := nI 4) (b := nI c) (c := nI h) hV1 (hf.fr (z_fM.up _ _ _)) h6'
      have hf1 := (hf.fr (z_fM.up σ 4 (V 4 + nI h))).fr f1
      have hf26 : σ1 157 26 = nI 0 := hf1
      have g86 : σ1 158 86 = nI mu := by rw [f2, z_note_o h6' (by omega) (by omega), z_uK (by omega)]; exact h86
      refine ⟨q_up σ1 158 1 (nI c), (z_fM.up _ _ _).trans (f1.trans (z_fM.up _ _ _)), z_uV f2, ?_⟩
      have e1 : f_X12_goesTo n 157 (nI c) σ = f_X12_goesTo_L34 n 157 (nI c) (nI h) (fun (y27 : Int32) (s28 : q_Sto) =>
  q_st s28 (q_RF 157 0) 1 1790 (nI c) fun s29 =>
  some (y27, s29)) n 0 0 σ1 := by
        unfold f_X12_goesTo
        rw [r_157_0, l_1, z_ld (by omega) (by omega), hV, eP σ hV, z_call, l_4, z_ld (by omega) (by omega), hV, z_st (by omega) (by omega), f3, z_callv]
      rw [e1]
      obtain ⟨n, rfl⟩ : ∃ n', n = n' + 1 := ⟨n - 1, by omega⟩
      rw [f_X12_goesTo_L34]
      by_cases hm : mu = 0
      · subst hm
        simp (disch := omega) only [g86, ↓reduceIte, ↓p_ld, ↓p_st, ↓p_nm, ↓p_nS, ↓p_jn, ↓p_call, ↓p_callv, ↓p_dv, ↓p_rem, h_ldE, h_stE, h_nmE, h_nSE, h_callE, h_callvE, h_dvE, h_remE, if_true, if_false, z_upS, z_upO, z_upK, nI_add, z_mul, z_sub, z_div, Nat.add_zero, Nat.mul_zero, Nat.zero_add, Nat.sub_zero, Nat.zero_mul, z_ltT, z_ltF, z_leT, z_leF, z_eqT, z_eqF, z_inT, z_clT, not_true_eq_false, not_false_eq_true, eq_self, true_or, or_true, z_m_lt, z_m_le, z_lt_m, z_le_m, z_eq_m, z_m_eq, z_rz0, z_rz1, z_m_add, z_of, r_157_0, r_157_1, r_157_2, r_157_3, r_157_6, r_157_7, r_157_8, r_157_9, r_157_10, r_157_11, r_157_27, r_157_28, r_157_29, r_157_30, ↓z_m1, l_0, l_1, l_2, l_3, l_4, l_5, l_6, l_7, l_8, l_9, l_10, l_11, l_12, l_13, l_14, l_15, l_16, l_17, l_18, l_19, l_20, l_21, l_22, l_23, l_24, l_25, l_26, l_27, l_28, l_29, l_30, l_31, l_32, l_33, l_34, l_35, l_36, l_37, l_38, l_39, l_40, l_41, l_42, l_43, l_44, l_45, l_46, l_47, l_48, l_49, l_50, l_51, l_52, l_53, l_54, l_55, l_56, l_57, l_59, l_60, l_61, l_62, l_63, l_64, l_65, l_80, l_86, l_87, l_88, l_89, l_90, l_91, l_92, l_93, l_94, l_95, l_97, l_99, l_100, l_107, l_119, l_122, l_124, l_129, l_140, l_141, l_142, l_143, l_144, l_145, l_147, l_150, l_159, l_160, l_161, l_162, l_205, l_253, l_255, l_256, l_269, l_305, l_380, l_399, l_400, l_420, l_430, l_516, l_600, l_720, l_820, l_905, l_921, l_937, l_953, l_970, l_999, l_1000, l_1790, l_4096, l_9999, l_1000000]
      · simp (disch := omega) only [g86, hf26, ↓reduceIte, ↓p_ld, ↓p_st, ↓p_nm, ↓p_nS, ↓p_jn, ↓p_call, ↓p_callv, ↓p_dv, ↓p_rem, h_ldE, h_stE, h_nmE, h_nSE, h_callE, h_callvE, h_dvE, h_remE, if_true, if_false, z_upS, z_upO, z_upK, nI_add, z_mul, z_sub, z_div, Nat.add_zero, Nat.mul_zero, Nat.zero_add, Nat.sub_zero, Nat.zero_mul, z_ltT, z_ltF, z_leT, z_leF, z_eqT, z_eqF, z_inT, z_clT, not_true_eq_false, not_false_eq_true, eq_self, true_or, or_true, z_m_lt, z_m_le, z_lt_m, z_le_m, z_eq_m, z_m_eq, z_rz0, z_rz1, z_m_add, z_of, r_157_0, r_157_1, r_157_2, r_157_3, r_157_6, r_157_7, r_157_8, r_157_9, r_157_10, r_157_11, r_157_27, r_157_28, r_157_29, r_157_30, ↓z_m1, l_0, l_1, l_2, l_3, l_4, l_5, l_6, l_7, l_8, l_9, l_10, l_11, l_12, l_13, l_14, l_15, l_16, l_17, l_18, l_19, l_20, l_21, l_22, l_23, l_24, l_25, l_26, l_27, l_28, l_29, l_30, l_31, l_32, l_33, l_34, l_35, l_36, l_37, l_38, l_39, l_40, l_41, l_42, l_43, l_44, l_45, l_46, l_47, l_48, l_49, l_50, l_51, l_52, l_53, l_54, l_55, l_56, l_57, l_59, l_60, l_61, l_62, l_63, l_64, l_65, l_80, l_86, l_87, l_88, l_89, l_90, l_91, l_92, l_93, l_94, l_95, l_97, l_99, l_100, l_107, l_119, l_122, l_124, l_129, l_140, l_141, l_142, l_143, l_144, l_145, l_147, l_150, l_159, l_160, l_161, l_162, l_205, l_253, l_255, l_256, l_269, l_305, l_380, l_399, l_400, l_420, l_430, l_516, l_600, l_720, l_820, l_905, l_921, l_937, l_953, l_970, l_999, l_1000, l_1790, l_4096, l_9999, l_1000000]
  | true =>
    have e0 : (if true = true then 1 else 0) = 1 := rfl
    rw [e0]
    obtain ⟨σd, -, hd2, -⟩ := c_write (n := n) (a := nI 4) (b := nI c) (c := nI h) (hX1 σc hc)
    obtain ⟨W, r, w1, w2, ⟨σe, w3⟩, w4⟩ := p_trav_L (n := n) (h := h) (cc := nI c) (K1 := fun (y20 : Int32) (s21 : q_Sto) =>
  q_nS1 (q_up s21 (q_RF 1 0) 12 (nI c)) fun s22 =>
  some (y20, s22)) (K2 := fun (y27 : Int32) (s28 : q_Sto) =>
  q_st s28 (q_RF 157 0) 1 1790 (nI c) fun s29 =>
  some (y27, s29)) hn mu 0 0 _ σd (by omega) hd2
    refine ⟨z_u W 1 (nI c), r, fun σ hx => ?_, fun σ hV hf => ?_⟩
    · have g15 : σ 2 15 = V 4 := hx.1.2.1.1.2.2.2.2.2.2.2.1
      obtain ⟨σ1, f1, f2, f3⟩ := c_write (n := n) (a := nI 4) (b := nI c) (c := nI h) (hX1 σ hx)
      obtain ⟨σ2, k1, k2, k3⟩ := w1 n (by omega) σ1 f2
      refine ⟨q_up σ2 2 12 (nI c), z_fX.trans (fun o ho => z_upO (by omega)) (f1.trans (k1.trans (fun o ho => z_upO (by omega)))), k2.sc (Or.inr (Or.inl ⟨rfl, rfl, e9⟩)), ?_⟩
      have e1 : f_X10_travel n 1 (nI c) (nI h) (nI 1) σ = f_X10_travel_L26 n 1 (nI c) (nI h) (nI 1) (fun (y20 : Int32) (s21 : q_Sto) =>
  q_nS1 (q_up s21 (q_RF 1 0) 12 (nI c)) fun s22 =>
  some (y20, s22)) n 0 0 σ1 := by
        unfold f_X10_travel
        rw [r_1_0, g15]
        show q_callv (f_X10_write n 1 4 (nI c) (nI h) (q_up σ 2 15 (V 4 + nI h))) _ = _
        rw [l_4, f3, z_callv]
      rw [e1]
      have k3 : f_X10_travel_L26 n 1 (nI c) (nI h) (nI 1) _ n 0 0 σ1 = _ := k3
      rw [k3]
      simp (disch := omega) only [↓reduceIte, ↓p_ld, ↓p_st, ↓p_nm, ↓p_nS, ↓p_jn, ↓p_call, ↓p_callv, ↓p_dv, ↓p_rem, h_ldE, h_stE, h_nmE, h_nSE, h_callE, h_callvE, h_dvE, h_remE, if_true, if_false, z_upS, z_upO, z_upK, nI_add, z_mul, z_sub, z_div, Nat.add_zero, Nat.mul_zero, Nat.zero_add, Nat.sub_zero, Nat.zero_mul, z_ltT, z_ltF, z_leT, z_leF, z_eqT, z_eqF, z_inT, z_clT, not_true_eq_false, not_false_eq_true, eq_self, true_or, or_true, z_m_lt, z_m_le, z_lt_m, z_le_m, z_eq_m, z_m_eq, z_rz0, z_rz1, z_m_add, z_of, r_0_0, r_0_1, r_0_3, r_0_4, r_0_5, r_0_6, r_0_7, r_0_8, r_0_9, r_0_10, r_1_0, r_1_1, r_1_2, r_1_3, r_1_4, r_1_5, r_1_6, r_1_7, r_1_8, r_2_0, r_2_1, r_2_2, r_2_3, r_2_4, r_2_5, r_2_6, r_2_7, r_11_0, r_11_1, r_11_2, r_11_3, r_11_4, r_11_5, r_11_6, r_19_0, r_21_0, r_23_0, r_25_0, r_27_0, r_61_0, r_117_0, r_117_1, r_117_2, r_117_3, r_117_4, r_117_5, r_117_6, r_117_7, r_126_0, r_126_1, r_126_2, r_126_3, r_126_4, r_132_0, r_132_1, r_135_0, r_135_1, r_135_2, r_135_3, r_135_4, r_135_5, r_142_0, r_144_0, r_144_1, r_144_2, r_145_0, r_145_1, r_145_2, r_145_3, r_145_4, r_145_5, r_145_6, r_154_0, r_154_1, r_155_0, ↓z_m1, l_0, l_1, l_2, l_3, l_4, l_5, l_6, l_7, l_8, l_9, l_10, l_11, l_12, l_13, l_14, l_15, l_16, l_17, l_18, l_19, l_20, l_21, l_22, l_23, l_24, l_25, l_26, l_27, l_28, l_29, l_30, l_31, l_32, l_33, l_34, l_35, l_36, l_37, l_38, l_39, l_40, l_41, l_42, l_43, l_44, l_45, l_46, l_47, l_48, l_49, l_50, l_51, l_52, l_53, l_54, l_55, l_56, l_57, l_59, l_60, l_61, l_62, l_63, l_64, l_65, l_80, l_86, l_87, l_88, l_89, l_90, l_91, l_92, l_93, l_94, l_95, l_97, l_99, l_100, l_107, l_119, l_122, l_124, l_129, l_140, l_141, l_142, l_143, l_144, l_145, l_147, l_150, l_159, l_160, l_161, l_162, l_205, l_253, l_255, l_256, l_269, l_305, l_380, l_399, l_400, l_420, l_430, l_516, l_600, l_720, l_820, l_905, l_921, l_937, l_953, l_970, l_999, l_1000, l_1790, l_4096, l_9999, l_1000000]
    · have hV1 := z_uV (a := 4) (v := V 4 + nI h) hV
      obtain ⟨σ1, f1, f2, f3⟩ := m_notes (n := n) (a := nI 4) (b := nI c) (c := nI h) hV1 (hf.fr (z_fM.up _ _ _)) h6'
      have hf1 := (hf.fr (z_fM.up σ 4 (V 4 + nI h))).fr f1
      obtain ⟨σ2, k1, k2, k3⟩ := w2 n (by omega) σ1 f2 hf1
      refine ⟨q_up σ2 158 1 (nI c), (z_fM.up _ _ _).trans (f1.trans (k1.trans (z_fM.up _ _ _))), z_uV k2, ?_⟩
      have e1 : f_X12_goesTo n 157 (nI c) σ = f_X12_goesTo_L34 n 157 (nI c) (nI h) (fun (y27 : Int32) (s28 : q_Sto) =>
  q_st s28 (q_RF 157 0) 1 1790 (nI c) fun s29 =>
  some (y27, s29)) n 0 0 σ1 := by
        unfold f_X12_goesTo
        rw [r_157_0, l_1, z_ld (by omega) (by omega), hV, eP σ hV, z_call, l_4, z_ld (by omega) (by omega), hV, z_st (by omega) (by omega), f3, z_callv]
      rw [e1]
      have k3 : f_X12_goesTo_L34 n 157 (nI c) (nI h) _ n 0 0 σ1 = _ := k3
      rw [k3]
      simp (disch := omega) only [↓reduceIte, ↓p_ld, ↓p_st, ↓p_nm, ↓p_nS, ↓p_jn, ↓p_call, ↓p_callv, ↓p_dv, ↓p_rem, h_ldE, h_stE, h_nmE, h_nSE, h_callE, h_callvE, h_dvE, h_remE, if_true, if_false, z_upS, z_upO, z_upK, nI_add, z_mul, z_sub, z_div, Nat.add_zero, Nat.mul_zero, Nat.zero_add, Nat.sub_zero, Nat.zero_mul, z_ltT, z_ltF, z_leT, z_leF, z_eqT, z_eqF, z_inT, z_clT, not_true_eq_false, not_false_eq_true, eq_self, true_or, or_true, z_m_lt, z_m_le, z_lt_m, z_le_m, z_eq_m, z_m_eq, z_rz0, z_rz1, z_m_add, z_of, r_157_0, r_157_1, r_157_2, r_157_3, r_157_6, r_157_7, r_157_8, r_157_9, r_157_10, r_157_11, r_157_27, r_157_28, r_157_29, r_157_30, ↓z_m1, l_0, l_1, l_2, l_3, l_4, l_5, l_6, l_7, l_8, l_9, l_10, l_11, l_12, l_13, l_14, l_15, l_16, l_17, l_18, l_19, l_20, l_21, l_22, l_23, l_24, l_25, l_26, l_27, l_28, l_29, l_30, l_31, l_32, l_33, l_34, l_35, l_36, l_37, l_38, l_39, l_40, l_41, l_42, l_43, l_44, l_45, l_46, l_47, l_48, l_49, l_50, l_51, l_52, l_53, l_54, l_55, l_56, l_57, l_59, l_60, l_61, l_62, l_63, l_64, l_65, l_80, l_86, l_87, l_88, l_89, l_90, l_91, l_92, l_93, l_94, l_95, l_97, l_99, l_100, l_107, l_119, l_122, l_124, l_129, l_140, l_141, l_142, l_143, l_144, l_145, l_147, l_150, l_159, l_160, l_161, l_162, l_205, l_253, l_255, l_256, l_269, l_305, l_380, l_399, l_400, l_420, l_430, l_516, l_600, l_720, l_820, l_905, l_921, l_937, l_953, l_970, l_999, l_1000, l_1790, l_4096, l_9999, l_1000000]
