/-! the class alone: TEXT 0 told -/
def y_LJ (s : q_Sto) (T : zt_T) (p : Nat) (O : List (Nat × Nat)) (N : Nat) : Prop := zt_C s T p ∧ s 142 6 = nI 0 ∧ s 145 7 = nI O.length ∧ zl_ot (s 150) (s 151) O ∧ s 145 8 = nI N ∧ O.length ≤ p
def y_LE (T : zt_T) (p q : Nat) (O O' : List (Nat × Nat)) (iw : Nat) : Prop := ∀ ic, ∃ b e, zl_rch T (zt_nx T p, [], O, 0, 0, ic) b ∧ zl_stp T b = Sum.inr (false, e) ∧ e.1 = q ∧ e.2.1 = [] ∧ e.2.2.1 = O' ∧ e.2.2.2.2.1 = iw
theorem c_ln {s : q_Sto} {T : zt_T} {p q N w iw : Nat} {O O' : List (Nat × Nat)} (hJ : y_LJ s T p O N) (hN : N < 16) (hw : w < 3) (hc : zt_cd 0 T p = 20 + w) (hE : y_LE T p q O O' iw) :
    ∃ s', f_X3_readLine q_F 144 s = some (nI 1, s') ∧ y_LJ s' T q O' (N+1) ∧ s' 146 N = nI w ∧ s' 147 N = nI O.length ∧ s' 148 N = z_vw iw ∧ s' 149 N = nI O'.length ∧ (∀ i, i < N → s' 146 i = s 146 i ∧ s' 147 i = s 147 i ∧ s' 148 i = s 148 i ∧ s' 149 i = s 149 i) ∧ zl_fS s s' := by
  obtain ⟨hC, h6, h7, ho, h8, hl⟩ := hJ
  obtain ⟨s1, a1, a2, a3, a4, a5, a6, a7⟩ := c_rlBegin hC hw hc h8 hN h7 ho hl
  obtain ⟨b, e, r1, r2, r3, r4, r5, r6⟩ := hE (s1 144 8)
  obtain ⟨s', ⟨s'', x0, x1, x2, x3, x4, x5, x6, x7, x8⟩, x9⟩ := c_lineE (K := fun (s30 : q_Sto) =>
    if (s30 142 6) = 0 then (
    some (1, s30))
    else (
    some (0, s30))) hN a1 r1 r2
  have es : s'' = s' := (congrArg Prod.snd (Option.some.inj x0)).symm
  subst es
  rw [r3] at x2 x3
  rw [r5] at x4 x6 x7
  rw [r6] at x5
  rw [r4, r5] at x3
  have x3 : O'.length ≤ q := by simpa using x3
  have e6 : s'' 142 6 = nI 0 := by rw [x1.2.2 6 (by omega) (by omega) (by omega) (by omega), a6 6 (by omega) (by omega) (by omega) (by omega)]; exact h6
  refine ⟨s'', ?_, ⟨x2, e6, x6, x7, x8, x3⟩, ?_, ?_, x5, x4, fun i hi => ⟨?_, ?_, ?_, ?_⟩, fun o o1 o2 => ?_, ?_⟩
  · rw [a7, x9]
    have z0 : (0 : Int32) = nI 0 := rfl
    show (if s'' 142 6 = 0 then some (1, s'') else some (0, s'')) = _
    rw [e6, z0, if_pos rfl]
    rfl
  · rw [x1.1 146 (by omega) (by omega) (by omega) (by omega) (by omega) (by omega) (by omega) (by omega)]; exact a4
  · rw [x1.1 147 (by omega) (by omega) (by omega) (by omega) (by omega) (by omega) (by omega) (by omega)]; exact a5
  · rw [x1.1 146 (by omega) (by omega) (by omega) (by omega) (by omega) (by omega) (by omega) (by omega)]; exact (a3 i (by omega)).1
  · rw [x1.1 147 (by omega) (by omega) (by omega) (by omega) (by omega) (by omega) (by omega) (by omega)]; exact (a3 i (by omega)).2.1
  · rw [(x1.2.1 i (by omega)).1]; exact (a3 i (by omega)).2.2
  · rw [(x1.2.1 i (by omega)).2, a2 149 (by omega) (by omega) (by omega) (by omega) (by omega)]
  · rw [x1.1 o o1 (by omega) (by omega) (by omega) (by omega) (by omega) (by omega) (by omega), a2 o o1 (by omega) (by omega) (by omega) (by omega)]
  · rw [x1.2.2 1 (by omega) (by omega) (by omega) (by omega), a6 1 (by omega) (by omega) (by omega) (by omega)]
theorem y_LE.A {T : zt_T} {p q : Nat} {c O : List (Nat × Nat)} (h : zl_m T 5 (zt_nx T p) c q) (hq : zt_cd 0 T q = 159) : y_LE T p (zt_nx T q) O (c ++ O) 0 := fun ic => zl_ln_A ic h hq
theorem y_LE.B {T : zt_T} {p q q2 : Nat} {c u O : List (Nat × Nat)} (h : zl_m T 5 (zt_nx T p) c q) (h3 : zt_cd 0 T q = 3) (g : zl_t T 1 (zt_nx T q) u q2 0) (hq : zt_cd 0 T q2 = 159) : y_LE T p (zt_nx T q2) O (u ++ (c ++ O)) ((c ++ O).length + 1) := fun ic => zl_ln_B ic h h3 g hq
theorem c_lrd {s s1 : q_Sto} {T : zt_T} {p w l i : Nat} (hC : zt_C s T p) (hc : zt_cd 0 T p = 20 + w) (hi : i ≤ 400) (e : f_X3_readLine q_F 144 s = some (nI 1, s1)) : f_X3_read_L9 q_F 144 (l+1) (nI i) s = f_X3_read_L9 q_F 144 l (nI (i+1)) s1 := by
  have te := c_eF hC (k := 0) (by omega) (show ¬ zt_cd 0 T p = 0 by omega)
  rw [f_X3_read_L9]
  simp (disch := omega) only [te, e, ↓reduceIte, ↓p_ld, ↓p_st, ↓p_nm, ↓p_nS, ↓p_jn, ↓p_call, ↓p_callv, ↓p_dv, ↓p_rem, h_ldE, h_stE, h_nmE, h_nSE, h_callE, h_callvE, h_dvE, h_remE, if_true, if_false, z_upS, z_upO, z_upK, nI_add, z_mul, z_sub, z_div, Nat.add_zero, Nat.mul_zero, Nat.zero_add, Nat.sub_zero, Nat.zero_mul, z_ltT, z_ltF, z_leT, z_leF, z_eqT, z_eqF, z_inT, z_clT, not_true_eq_false, not_false_eq_true, eq_self, true_or, or_true, z_m_lt, z_m_le, z_lt_m, z_le_m, z_eq_m, z_m_eq, z_rz0, z_rz1, z_m_add, z_of, r_0_0, r_0_1, r_0_3, r_0_4, r_0_5, r_0_6, r_0_7, r_0_8, r_0_9, r_0_10, r_1_0, r_1_1, r_1_2, r_1_3, r_1_4, r_1_5, r_1_6, r_1_7, r_1_8, r_2_0, r_2_1, r_2_2, r_2_3, r_2_4, r_2_5, r_2_6, r_2_7, r_11_0, r_11_1, r_11_2, r_11_3, r_11_4, r_11_5, r_11_6, r_19_0, r_21_0, r_23_0, r_25_0, r_27_0, r_31_0, r_31_1, r_31_2, r_31_3, r_31_4, r_31_5, r_31_6, r_31_7, r_31_8, r_32_0, r_32_1, r_32_2, r_32_3, r_32_4, r_32_5, r_32_6, r_32_7, r_41_0, r_41_1, r_41_2, r_41_3, r_41_4, r_41_5, r_41_6, r_49_0, r_51_0, r_53_0, r_55_0, r_57_0, r_61_0, r_63_0, r_63_1, r_63_2, r_63_3, r_63_4, r_63_5, r_63_6, r_63_7, r_72_0, r_72_1, r_72_2, r_72_3, r_72_4, r_72_5, r_72_6, r_72_7, r_81_0, r_81_1, r_81_2, r_81_3, r_81_4, r_81_5, r_81_6, r_81_7, r_90_0, r_90_1, r_90_2, r_90_3, r_90_4, r_90_5, r_90_6, r_90_7, r_99_0, r_99_1, r_99_2, r_99_3, r_99_4, r_99_5, r_99_6, r_99_7, r_108_0, r_108_1, r_108_2, r_108_3, r_108_4, r_108_5, r_108_6, r_108_7, r_117_0, r_117_1, r_117_2, r_117_3, r_117_4, r_117_5, r_117_6, r_117_7, r_126_0, r_126_1, r_126_2, r_126_3, r_126_4, r_132_0, r_132_1, r_135_0, r_135_1, r_135_2, r_135_3, r_135_4, r_135_5, r_142_0, r_144_0, r_144_1, r_144_2, r_145_0, r_145_1, r_145_2, r_145_3, r_145_4, r_145_5, r_145_6, r_154_0, r_154_1, r_155_0, ↓z_m1, l_0, l_1, l_2, l_3, l_4, l_5, l_6, l_7, l_8, l_9, l_10, l_11, l_12, l_13, l_14, l_15, l_16, l_17, l_18, l_19, l_20, l_21, l_22, l_23, l_24, l_25, l_26, l_27, l_28, l_29, l_30, l_31, l_32, l_33, l_34, l_35, l_36, l_37, l_38, l_39, l_40, l_41, l_42, l_43, l_44, l_45, l_46, l_47, l_48, l_49, l_50, l_51, l_52, l_53, l_54, l_55, l_56, l_57, l_59, l_60, l_61, l_62, l_63, l_64, l_65, l_80, l_86, l_87, l_88, l_89, l_90, l_91, l_92, l_93, l_94, l_95, l_97, l_99, l_100, l_107, l_119, l_122, l_124, l_129, l_140, l_141, l_142, l_143, l_144, l_145, l_147, l_150, l_159, l_160, l_161, l_162, l_205, l_253, l_255, l_256, l_269, l_305, l_380, l_399, l_400, l_420, l_430, l_516, l_600, l_720, l_820, l_905, l_921, l_937, l_953, l_970, l_999, l_1000, l_1790, l_4096, l_9999, l_1000000]
theorem c_lre {s : q_Sto} {T : zt_T} {p l i : Nat} (hC : zt_C s T p) (hc : zt_cd 0 T p = 0) (hi : i ≤ 400) : f_X3_read_L9 q_F 144 (l+1) (nI i) s = some (nI 1, s) := by
  have te := c_eT hC (k := 0) (by omega) hc
  rw [f_X3_read_L9]
  simp (disch := omega) only [te, ↓reduceIte, ↓p_ld, ↓p_st, ↓p_nm, ↓p_nS, ↓p_jn, ↓p_call, ↓p_callv, ↓p_dv, ↓p_rem, h_ldE, h_stE, h_nmE, h_nSE, h_callE, h_callvE, h_dvE, h_remE, if_true, if_false, z_upS, z_upO, z_upK, nI_add, z_mul, z_sub, z_div, Nat.add_zero, Nat.mul_zero, Nat.zero_add, Nat.sub_zero, Nat.zero_mul, z_ltT, z_ltF, z_leT, z_leF, z_eqT, z_eqF, z_inT, z_clT, not_true_eq_false, not_false_eq_true, eq_self, true_or, or_true, z_m_lt, z_m_le, z_lt_m, z_le_m, z_eq_m, z_m_eq, z_rz0, z_rz1, z_m_add, z_of, r_0_0, r_0_1, r_0_3, r_0_4, r_0_5, r_0_6, r_0_7, r_0_8, r_0_9, r_0_10, r_1_0, r_1_1, r_1_2, r_1_3, r_1_4, r_1_5, r_1_6, r_1_7, r_1_8, r_2_0, r_2_1, r_2_2, r_2_3, r_2_4, r_2_5, r_2_6, r_2_7, r_11_0, r_11_1, r_11_2, r_11_3, r_11_4, r_11_5, r_11_6, r_19_0, r_21_0, r_23_0, r_25_0, r_27_0, r_31_0, r_31_1, r_31_2, r_31_3, r_31_4, r_31_5, r_31_6, r_31_7, r_31_8, r_32_0, r_32_1, r_32_2, r_32_3, r_32_4, r_32_5, r_32_6, r_32_7, r_41_0, r_41_1, r_41_2, r_41_3, r_41_4, r_41_5, r_41_6, r_49_0, r_51_0, r_53_0, r_55_0, r_57_0, r_61_0, r_63_0, r_63_1, r_63_2, r_63_3, r_63_4, r_63_5, r_63_6, r_63_7, r_72_0, r_72_1, r_72_2, r_72_3, r_72_4, r_72_5, r_72_6, r_72_7, r_81_0, r_81_1, r_81_2, r_81_3, r_81_4, r_81_5, r_81_6, r_81_7, r_90_0, r_90_1, r_90_2, r_90_3, r_90_4, r_90_5, r_90_6, r_90_7, r_99_0, r_99_1, r_99_2, r_99_3, r_99_4, r_99_5, r_99_6, r_99_7, r_108_0, r_108_1, r_108_2, r_108_3, r_108_4, r_108_5, r_108_6, r_108_7, r_117_0, r_117_1, r_117_2, r_117_3, r_117_4, r_117_5, r_117_6, r_117_7, r_126_0, r_126_1, r_126_2, r_126_3, r_126_4, r_132_0, r_132_1, r_135_0, r_135_1, r_135_2, r_135_3, r_135_4, r_135_5, r_142_0, r_144_0, r_144_1, r_144_2, r_145_0, r_145_1, r_145_2, r_145_3, r_145_4, r_145_5, r_145_6, r_154_0, r_154_1, r_155_0, ↓z_m1, l_0, l_1, l_2, l_3, l_4, l_5, l_6, l_7, l_8, l_9, l_10, l_11, l_12, l_13, l_14, l_15, l_16, l_17, l_18, l_19, l_20, l_21, l_22, l_23, l_24, l_25, l_26, l_27, l_28, l_29, l_30, l_31, l_32, l_33, l_34, l_35, l_36, l_37, l_38, l_39, l_40, l_41, l_42, l_43, l_44, l_45, l_46, l_47, l_48, l_49, l_50, l_51, l_52, l_53, l_54, l_55, l_56, l_57, l_59, l_60, l_61, l_62, l_63, l_64, l_65, l_80, l_86, l_87, l_88, l_89, l_90, l_91, l_92, l_93, l_94, l_95, l_97, l_99, l_100, l_107, l_119, l_122, l_124, l_129, l_140, l_141, l_142, l_143, l_144, l_145, l_147, l_150, l_159, l_160, l_161, l_162, l_205, l_253, l_255, l_256, l_269, l_305, l_380, l_399, l_400, l_420, l_430, l_516, l_600, l_720, l_820, l_905, l_921, l_937, l_953, l_970, l_999, l_1000, l_1790, l_4096, l_9999, l_1000000]
def y_rel (F : Nat → Nat × Nat) : List (Nat × Nat) → Prop
  | [] => True
  | x :: O => z_st1 (nI x.1) (nI x.2) (nI (F O.length).1) (nI (F O.length).2) ∧ y_rel F O
theorem zl_ot_z {k v : Nat → Int32} {F : Nat → Nat × Nat} : ∀ O : List (Nat × Nat), zl_ot k v O → y_rel F O → ∀ j, j < O.length → z_st1 (k j) (v j) (nI (F j).1) (nI (F j).2)
  | [], _, _, j, hj => absurd hj (Nat.not_lt_zero _)
  | x :: O, h, g, j, hj => by
    have hj : j < O.length + 1 := hj
    by_cases q : j = O.length
    · subst q
      rw [h.1.1, h.1.2]
      exact g.1
    · exact zl_ot_z O h.2 g.2 j (by omega)
def y_ol0 (d : Nat → Nat) : List (Nat × Nat) := [(5, 0), (1, 5), (4, 0), (3, 0), (0, (d 2)), (1, 6), (1, 3)]
def y_oc0 (d : Nat → Nat) : List (Nat × Nat) := [(10, 0), (9, 0), (11, 0), (7, 0), (0, (d 1)), (1, 5), (8, 0), (0, 1), (1, 4), (8, 0), (0, (d 0)), (1, 1)]
def y_ol1 (d : Nat → Nat) : List (Nat × Nat) := [(4, 0), (3, 0), (0, (d 3)), (1, 4), (2, 2), (1, 3)]
def y_ol2 (d : Nat → Nat) : List (Nat × Nat) := [(5, 0), (1, 7), (4, 0), (2, 9), (1, 2), (0, (d 4))]
def y_ol3 (_ : Nat → Nat) : List (Nat × Nat) := [(5, 0), (3, 0), (0, 9), (1, 5), (4, 0), (3, 0), (0, 3), (1, 1), (3, 0), (0, 60), (1, 7)]
def y_oc3 (d : Nat → Nat) : List (Nat × Nat) := [(11, 0), (7, 0), (0, (d 6)), (1, 0), (8, 0), (0, (d 5)), (1, 8)]
def y_ol4 (d : Nat → Nat) : List (Nat × Nat) := [(5, 0), (1, 6), (3, 0), (0, (d 7)), (1, 8)]
def y_oo (d : Nat → Nat) : List (Nat × Nat) := (y_ol4 d ++ (y_oc3 d ++ (y_ol3 d ++ (y_ol2 d ++ (y_ol1 d ++ (y_oc0 d ++ (y_ol0 d ++ [])))))))
theorem y_orel {d : Nat → Nat} : y_rel (fun j => (y_st d).getD j (0, 0)) (y_oo d) := ⟨zl_st_o (x := 5) (s := 24) (by omega), ⟨zl_st_f (f := 6) (by omega), ⟨zl_st_o (x := 3) (s := 25) (by omega), ⟨zl_st_n, ⟨zl_st_f (f := 8) (by omega), ⟨zl_st_o (x := 11) (s := 32) (by omega), ⟨zl_st_o (x := 7) (s := 28) (by omega), ⟨zl_st_n, ⟨zl_st_f (f := 0) (by omega), ⟨zl_st_o (x := 8) (s := 29) (by omega), ⟨zl_st_n, ⟨zl_st_f (f := 8) (by omega), ⟨zl_st_o (x := 5) (s := 24) (by omega), ⟨zl_st_o (x := 3) (s := 25) (by omega), ⟨zl_st_n, ⟨zl_st_f (f := 5) (by omega), ⟨zl_st_o (x := 4) (s := 23) (by omega), ⟨zl_st_o (x := 3) (s := 25) (by omega), ⟨zl_st_n, ⟨zl_st_f (f := 1) (by omega), ⟨zl_st_o (x := 3) (s := 25) (by omega), ⟨zl_st_n, ⟨zl_st_f (f := 7) (by omega), ⟨zl_st_o (x := 5) (s := 24) (by omega), ⟨zl_st_f (f := 7) (by omega), ⟨zl_st_o (x := 4) (s := 23) (by omega), ⟨zl_st_p (d := 9) (by omega) (by omega), ⟨zl_st_f (f := 2) (by omega), ⟨zl_st_n, ⟨zl_st_o (x := 4) (s := 23) (by omega), ⟨zl_st_o (x := 3) (s := 25) (by omega), ⟨zl_st_n, ⟨zl_st_f (f := 4) (by omega), ⟨zl_st_p (d := 2) (by omega) (by omega), ⟨zl_st_f (f := 3) (by omega), ⟨zl_st_o (x := 10) (s := 31) (by omega), ⟨zl_st_o (x := 9) (s := 30) (by omega), ⟨zl_st_o (x := 11) (s := 32) (by omega), ⟨zl_st_o (x := 7) (s := 28) (by omega), ⟨zl_st_n, ⟨zl_st_f (f := 5) (by omega), ⟨zl_st_o (x := 8) (s := 29) (by omega), ⟨zl_st_n, ⟨zl_st_f (f := 4) (by omega), ⟨zl_st_o (x := 8) (s := 29) (by omega), ⟨zl_st_n, ⟨zl_st_f (f := 1) (by omega), ⟨zl_st_o (x := 5) (s := 24) (by omega), ⟨zl_st_f (f := 5) (by omega), ⟨zl_st_o (x := 4) (s := 23) (by omega), ⟨zl_st_o (x := 3) (s := 25) (by omega), ⟨zl_st_n, ⟨zl_st_f (f := 6) (by omega), ⟨zl_st_f (f := 3) (by omega), trivial⟩⟩⟩⟩⟩⟩⟩⟩⟩⟩⟩⟩⟩⟩⟩⟩⟩⟩⟩⟩⟩⟩⟩⟩⟩⟩⟩⟩⟩⟩⟩⟩⟩⟩⟩⟩⟩⟩⟩⟩⟩⟩⟩⟩⟩⟩⟩⟩⟩⟩⟩⟩⟩⟩
def y_V0 (V : Nat → Int32) (d : Nat → Nat) : Nat → Int32 := fun a => if a = 89 then nI 5 else if a < 905 then V a else if a < 910 then nI (y_ln (a-905)).1 else if a < 921 then V a else if a < 926 then nI (y_ln (a-921)).2.1 else if a < 937 then V a else if a < 942 then nI (y_ln (a-937)).2.2.1 else if a < 953 then V a else if a < 958 then nI (y_ln (a-953)).2.2.2 else if a < 970 then V a else if a < 1078 then (if (a - 970) % 2 = 0 then nI ((y_st d).getD ((a-970)/2) (0, 0)).1 else nI ((y_st d).getD ((a-970)/2) (0, 0)).2) else V a
theorem y_V0_LK {V : Nat → Int32} {d : Nat → Nat} {L : Nat} (hd : ∀ j, d j ≤ 60) (hL : L ≠ 0) : y_LK L d (y_V0 V d) := by
  refine ⟨hd, fun h => absurd h hL, fun _ => ⟨if_pos rfl, fun i hi => ⟨?_, ?_, ?_, ?_⟩, fun j hj => ⟨?_, ?_⟩⟩⟩
  · unfold y_V0
    rw [if_neg (by omega), if_neg (by omega), if_pos (by omega), show 905 + i - 905 = i by omega]
  · unfold y_V0
    rw [if_neg (by omega), if_neg (by omega), if_neg (by omega), if_neg (by omega), if_pos (by omega), show 921 + i - 921 = i by omega]
  · unfold y_V0
    rw [if_neg (by omega), if_neg (by omega), if_neg (by omega), if_neg (by omega), if_neg (by omega), if_neg (by omega), if_pos (by omega), show 937 + i - 937 = i by omega]
  · unfold y_V0
    rw [if_neg (by omega), if_neg (by omega), if_neg (by omega), if_neg (by omega), if_neg (by omega), if_neg (by omega), if_neg (by omega), if_neg (by omega), if_pos (by omega), show 953 + i - 953 = i by omega]
  · unfold y_V0
    rw [if_neg (by omega), if_neg (by omega), if_neg (by omega), if_neg (by omega), if_neg (by omega), if_neg (by omega), if_neg (by omega), if_neg (by omega), if_neg (by omega), if_neg (by omega), if_pos (by omega), if_pos (by omega), show (970 + 2 * j - 970) / 2 = j by omega]
  · unfold y_V0
    rw [if_neg (by omega), if_neg (by omega), if_neg (by omega), if_neg (by omega), if_neg (by omega), if_neg (by omega), if_neg (by omega), if_neg (by omega), if_neg (by omega), if_neg (by omega), if_pos (by omega), if_neg (by omega), show (970 + 2 * j + 1 - 970) / 2 = j by omega]
theorem y_V0_o {V : Nat → Int32} {d : Nat → Nat} {a : Nat} (h : a < 905) (h2 : a ≠ 89) : y_V0 V d a = V a := by
  unfold y_V0
  rw [if_neg h2, if_pos h]
theorem c_text0 {mu me wn : Nat} {V : Nat → Int32} {hs : z_Hs} {T : zt_T} {d : Nat → Nat} {σ0 σ : q_Sto} (hz : z_CS mu me σ0 V hs wn) (h0 : hs.1 = 0) (e : ∀ o, o ≠ 142 → o ≠ 143 → σ o = σ0 o) (hB : zt_B (σ 143) T) (hl : σ 142 1 = nI T.2) (hd : ∀ j, d j ≤ 60) (hs0 : y_sf T 0 (y_b0 d (y_b1 d (y_b2 d (y_b3 d (y_b4 d [])))))) :
    ∃ σ', f_X11_text q_F 0 (nI 0) σ = some (nI 5, σ') ∧ z_CS mu me σ' (y_V0 V d) y_h0 wn := by
  have hF : q_F = 19994 + 6 := rfl
  obtain ⟨hmu, hme, g8, g9⟩ := hz.g
  obtain ⟨s0, c1, c2, c3, c4, c5, c6⟩ := c_begin hB hl
  obtain ⟨s1, hs1⟩ : ∃ s1, s1 = q_up (q_up s0 145 7 (nI 0)) 145 8 (nI 0) := ⟨_, rfl⟩
  have s1f : ∀ o, o ≠ 145 → s1 o = s0 o := fun o ho => by rw [hs1, z_upO ho, z_upO ho]
  have s17 : s1 145 7 = nI 0 := by rw [hs1, z_upK (by omega)]; exact z_upS
  have s18 : s1 145 8 = nI 0 := by rw [hs1]; exact z_upS
  have eRead : f_X3_read q_F 144 s0 = f_X3_read_L9 q_F 144 q_F (nI 0) s1 := by
    rw [hs1]
    unfold f_X3_read f_X2_clear
    simp (disch := omega) only [↓reduceIte, ↓p_ld, ↓p_st, ↓p_nm, ↓p_nS, ↓p_jn, ↓p_call, ↓p_callv, ↓p_dv, ↓p_rem, h_ldE, h_stE, h_nmE, h_nSE, h_callE, h_callvE, h_dvE, h_remE, if_true, if_false, z_upS, z_upO, z_upK, nI_add, z_mul, z_sub, z_div, Nat.add_zero, Nat.mul_zero, Nat.zero_add, Nat.sub_zero, Nat.zero_mul, z_ltT, z_ltF, z_leT, z_leF, z_eqT, z_eqF, z_inT, z_clT, not_true_eq_false, not_false_eq_true, eq_self, true_or, or_true, z_m_lt, z_m_le, z_lt_m, z_le_m, z_eq_m, z_m_eq, z_rz0, z_rz1, z_m_add, z_of, r_0_0, r_0_1, r_0_3, r_0_4, r_0_5, r_0_6, r_0_7, r_0_8, r_0_9, r_0_10, r_1_0, r_1_1, r_1_2, r_1_3, r_1_4, r_1_5, r_1_6, r_1_7, r_1_8, r_2_0, r_2_1, r_2_2, r_2_3, r_2_4, r_2_5, r_2_6, r_2_7, r_11_0, r_11_1, r_11_2, r_11_3, r_11_4, r_11_5, r_11_6, r_19_0, r_21_0, r_23_0, r_25_0, r_27_0, r_31_0, r_31_1, r_31_2, r_31_3, r_31_4, r_31_5, r_31_6, r_31_7, r_31_8, r_32_0, r_32_1, r_32_2, r_32_3, r_32_4, r_32_5, r_32_6, r_32_7, r_41_0, r_41_1, r_41_2, r_41_3, r_41_4, r_41_5, r_41_6, r_49_0, r_51_0, r_53_0, r_55_0, r_57_0, r_61_0, r_63_0, r_63_1, r_63_2, r_63_3, r_63_4, r_63_5, r_63_6, r_63_7, r_72_0, r_72_1, r_72_2, r_72_3, r_72_4, r_72_5, r_72_6, r_72_7, r_81_0, r_81_1, r_81_2, r_81_3, r_81_4, r_81_5, r_81_6, r_81_7, r_90_0, r_90_1, r_90_2, r_90_3, r_90_4, r_90_5, r_90_6, r_90_7, r_99_0, r_99_1, r_99_2, r_99_3, r_99_4, r_99_5, r_99_6, r_99_7, r_108_0, r_108_1, r_108_2, r_108_3, r_108_4, r_108_5, r_108_6, r_108_7, r_117_0, r_117_1, r_117_2, r_117_3, r_117_4, r_117_5, r_117_6, r_117_7, r_126_0, r_126_1, r_126_2, r_126_3, r_126_4, r_132_0, r_132_1, r_135_0, r_135_1, r_135_2, r_135_3, r_135_4, r_135_5, r_142_0, r_144_0, r_144_1, r_144_2, r_145_0, r_145_1, r_145_2, r_145_3, r_145_4, r_145_5, r_145_6, r_154_0, r_154_1, r_155_0, ↓z_m1, l_0, l_1, l_2, l_3, l_4, l_5, l_6, l_7, l_8, l_9, l_10, l_11, l_12, l_13, l_14, l_15, l_16, l_17, l_18, l_19, l_20, l_21, l_22, l_23, l_24, l_25, l_26, l_27, l_28, l_29, l_30, l_31, l_32, l_33, l_34, l_35, l_36, l_37, l_38, l_39, l_40, l_41, l_42, l_43, l_44, l_45, l_46, l_47, l_48, l_49, l_50, l_51, l_52, l_53, l_54, l_55, l_56, l_57, l_59, l_60, l_61, l_62, l_63, l_64, l_65, l_80, l_86, l_87, l_88, l_89, l_90, l_91, l_92, l_93, l_94, l_95, l_97, l_99, l_100, l_107, l_119, l_122, l_124, l_129, l_140, l_141, l_142, l_143, l_144, l_145, l_147, l_150, l_159, l_160, l_161, l_162, l_205, l_253, l_255, l_256, l_269, l_305, l_380, l_399, l_400, l_420, l_430, l_516, l_600, l_720, l_820, l_905, l_921, l_937, l_953, l_970, l_999, l_1000, l_1790, l_4096, l_9999, l_1000000]
  have j0 : y_LJ s1 T 0 [] 0 := ⟨c2.fr (s1f 143 (by omega)) (fun a _ _ => by rw [s1f 142 (by omega)]), by rw [s1f 142 (by omega)]; exact c3, s17, trivial, s18, Nat.le_refl _⟩
  obtain ⟨k0, q0, p0, m0, v0, t0, w0, z0⟩ := y_ll0 hd hs0
  obtain ⟨x1, e1, j1, a1, b1, f1, g1, r1, y1⟩ := c_ln j0 (by omega) (by omega) k0 (y_LE.B m0 v0 t0 w0)
  obtain ⟨k1, q1, m1, w1, z1⟩ := y_ll1 hd z0
  obtain ⟨x2, e2, j2, a2, b2, f2, g2, r2, y2⟩ := c_ln j1 (by omega) (by omega) k1 (y_LE.A m1 w1)
  obtain ⟨k2, q2, m2, w2, z2⟩ := y_ll2 hd z1
  obtain ⟨x3, e3, j3, a3, b3, f3, g3, r3, y3⟩ := c_ln j2 (by omega) (by omega) k2 (y_LE.A m2 w2)
  obtain ⟨k3, q3, p3, m3, v3, t3, w3, z3⟩ := y_ll3 hd z2
  obtain ⟨x4, e4, j4, a4, b4, f4, g4, r4, y4⟩ := c_ln j3 (by omega) (by omega) k3 (y_LE.B m3 v3 t3 w3)
  obtain ⟨k4, q4, m4, w4, z4⟩ := y_ll4 hd z3
  obtain ⟨x5, e5, j5, a5, b5, f5, g5, r5, y5⟩ := c_ln j4 (by omega) (by omega) k4 (y_LE.A m4 w4)
  have te := y_te (k := 0) z4
  have eL : f_X3_read_L9 q_F 144 q_F (nI 0) s1 = some (nI 1, x5) := by
    rw [show f_X3_read_L9 q_F 144 q_F (nI 0) s1 = f_X3_read_L9 q_F 144 (19994 + 1 + 1 + 1 + 1 + 1 + 1) (nI 0) s1 from rfl, c_lrd j0.1 k0 (by omega) e1, c_lrd j1.1 k1 (by omega) e2, c_lrd j2.1 k2 (by omega) e3, c_lrd j3.1 k3 (by omega) e4, c_lrd j4.1 k4 (by omega) e5, c_lre j5.1 te (by omega)]
  obtain ⟨j51, j52, j53, j54, j55, j56⟩ := j5
  have hfs := y1.trans (y2.trans (y3.trans (y4.trans y5)))
  have e8 : x5 145 8 = nI 5 := j55
  obtain ⟨s2, n1, n2, n3, n4, n5⟩ := c_copyLaw (n := q_F) (t := 11) (a := 145) (σ := x5) z_cA1 z_cA145 (Or.inl (by omega))
  have n3' : s2 11 8 = nI 5 := n3.trans e8
  have hfr : ∀ o, o < 11 ∨ (17 < o ∧ o < 142) ∨ 153 < o → q_up s2 142 1 (nI 0) o = σ0 o := fun o ho => by rw [z_upO (by omega), n2 o (by omega), hfs.1 o (by omega) (by omega), s1f o (by omega), c5 o (by omega), e o (by omega) (by omega)]
  have ewC : z_w (nI 0) (nI 1) (nI 4) = nI 0 := z_w_out (by omega) (by omega) (by omega) (by omega)
  have eR : f_X3_read q_F 144 s0 = some (nI 1, x5) := eRead.trans eL
  have hot : zl_ot (x5 150) (x5 151) (y_oo d) := j54
  have hst := zl_ot_z _ hot y_orel
  have ev : ∀ a, a < 905 → a ≠ 89 → y_V0 V d a = V a := fun a h1 h2 => y_V0_o h1 h2
  have hK := y_V0_LK (V := V) (L := 1) hd (by omega)
  obtain ⟨-, -, hK⟩ := hK
  obtain ⟨v89, vln, vst⟩ := hK (by omega)
  have h16 : ∀ j, j < 54 → q_up s2 142 1 (nI 0) 16 j = x5 150 j ∧ q_up s2 142 1 (nI 0) 17 j = x5 151 j := fun j hj => by
    rw [z_upO (by omega), z_upO (by omega)]
    exact n5 j (by omega)
  have h12 : ∀ i, i < 16 → q_up s2 142 1 (nI 0) 12 i = x5 146 i ∧ q_up s2 142 1 (nI 0) 13 i = x5 147 i ∧ q_up s2 142 1 (nI 0) 14 i = x5 148 i ∧ q_up s2 142 1 (nI 0) 15 i = x5 149 i := fun i hi => by
    rw [z_upO (by omega), z_upO (by omega), z_upO (by omega), z_upO (by omega)]
    exact n4 i hi
  have h118 : q_up s2 142 1 (nI 0) 11 8 = nI 5 := by rw [z_upO (by omega)]; exact n3'
  have tyc : ∀ n i ts, i + n ≤ 54 → z_ty (q_up s2 142 1 (nI 0) 16) n i ts = z_ty (x5 150) n i ts := fun n i ts hni => z_ty_congr n i ts (fun j j1 j2 => (h16 j (by omega)).1)
  have ty0 : z_ty (q_up s2 142 1 (nI 0) 16) 7 0 [] = some [false] := by
    rw [tyc 7 0 [] (by omega)]
    exact (zl_ty_z (O := []) (y_ol0 d) [] (zl_ot_d (y_oc0 d) (zl_ot_d (y_ol1 d) (zl_ot_d (y_ol2 d) (zl_ot_d (y_ol3 d) (zl_ot_d (y_oc3 d) (zl_ot_d (y_ol4 d) hot))))))).trans (m0.1.2.2.2 [])
  have ty1 : z_ty (q_up s2 142 1 (nI 0) 16) 12 7 [] = some [true] := by
    rw [tyc 12 7 [] (by omega)]
    exact (zl_ty_z (O := (y_ol0 d ++ [])) (y_oc0 d) [] (zl_ot_d (y_ol1 d) (zl_ot_d (y_ol2 d) (zl_ot_d (y_ol3 d) (zl_ot_d (y_oc3 d) (zl_ot_d (y_ol4 d) hot)))))).trans (t0.1.2.2.2 [])
  have ty2 : z_ty (q_up s2 142 1 (nI 0) 16) 6 19 [] = some [false] := by
    rw [tyc 6 19 [] (by omega)]
    exact (zl_ty_z (O := (y_oc0 d ++ (y_ol0 d ++ []))) (y_ol1 d) [] (zl_ot_d (y_ol2 d) (zl_ot_d (y_ol3 d) (zl_ot_d (y_oc3 d) (zl_ot_d (y_ol4 d) hot))))).trans (m1.1.2.2.2 [])
  have ty3 : z_ty (q_up s2 142 1 (nI 0) 16) 6 25 [] = some [false] := by
    rw [tyc 6 25 [] (by omega)]
    exact (zl_ty_z (O := (y_ol1 d ++ (y_oc0 d ++ (y_ol0 d ++ [])))) (y_ol2 d) [] (zl_ot_d (y_ol3 d) (zl_ot_d (y_oc3 d) (zl_ot_d (y_ol4 d) hot)))).trans (m2.1.2.2.2 [])
  have ty4 : z_ty (q_up s2 142 1 (nI 0) 16) 11 31 [] = some [false] := by
    rw [tyc 11 31 [] (by omega)]
    exact (zl_ty_z (O := (y_ol2 d ++ (y_ol1 d ++ (y_oc0 d ++ (y_ol0 d ++ []))))) (y_ol3 d) [] (zl_ot_d (y_oc3 d) (zl_ot_d (y_ol4 d) hot))).trans (m3.1.2.2.2 [])
  have ty5 : z_ty (q_up s2 142 1 (nI 0) 16) 7 42 [] = some [true] := by
    rw [tyc 7 42 [] (by omega)]
    exact (zl_ty_z (O := (y_ol3 d ++ (y_ol2 d ++ (y_ol1 d ++ (y_oc0 d ++ (y_ol0 d ++ [])))))) (y_oc3 d) [] (zl_ot_d (y_ol4 d) hot)).trans (t3.1.2.2.2 [])
  have ty6 : z_ty (q_up s2 142 1 (nI 0) 16) 5 49 [] = some [false] := by
    rw [tyc 5 49 [] (by omega)]
    exact (zl_ty_z (O := (y_oc3 d ++ (y_ol3 d ++ (y_ol2 d ++ (y_ol1 d ++ (y_oc0 d ++ (y_ol0 d ++ []))))))) (y_ol4 d) [] hot).trans (m4.1.2.2.2 [])
  have hLW : z_LW (q_up s2 142 1 (nI 0)) 1 (y_V0 V d) := by
    refine ⟨5, 54, by omega, by omega, h118, v89, fun i hi => ?_, fun j hj => ?_⟩
    · obtain ⟨l1, l2, l3, l4⟩ := vln i hi
      obtain ⟨n12, n13, n14, n15⟩ := h12 i (by omega)
      have hi5 : i = 0 ∨ i = 1 ∨ i = 2 ∨ i = 3 ∨ i = 4 := by omega
      rcases hi5 with rfl | rfl | rfl | rfl | rfl
      · exact ⟨0, 7, 19, 0, by omega, by omega, by omega, by omega, l1, l2, l3, l4, (n12.trans (by rw [(r5 0 (by omega)).1, (r4 0 (by omega)).1, (r3 0 (by omega)).1, (r2 0 (by omega)).1]; exact a1)), (n13.trans (by rw [(r5 0 (by omega)).2.1, (r4 0 (by omega)).2.1, (r3 0 (by omega)).2.1, (r2 0 (by omega)).2.1]; exact b1)), (n15.trans (by rw [(r5 0 (by omega)).2.2.2, (r4 0 (by omega)).2.2.2, (r3 0 (by omega)).2.2.2, (r2 0 (by omega)).2.2.2]; exact g1)), Or.inr ⟨by omega, (n14.trans (by rw [(r5 0 (by omega)).2.2.1, (r4 0 (by omega)).2.2.1, (r3 0 (by omega)).2.2.1, (r2 0 (by omega)).2.2.1]; exact f1)), ty1⟩, ty0⟩
      · exact ⟨19, 25, 25, 0, by omega, by omega, by omega, by omega, l1, l2, l3, l4, (n12.trans (by rw [(r5 1 (by omega)).1, (r4 1 (by omega)).1, (r3 1 (by omega)).1]; exact a2)), (n13.trans (by rw [(r5 1 (by omega)).2.1, (r4 1 (by omega)).2.1, (r3 1 (by omega)).2.1]; exact b2)), (n15.trans (by rw [(r5 1 (by omega)).2.2.2, (r4 1 (by omega)).2.2.2, (r3 1 (by omega)).2.2.2]; exact g2)), Or.inl ⟨rfl, (n14.trans (by rw [(r5 1 (by omega)).2.2.1, (r4 1 (by omega)).2.2.1, (r3 1 (by omega)).2.2.1]; exact f2))⟩, ty2⟩
      · exact ⟨25, 31, 31, 1, by omega, by omega, by omega, by omega, l1, l2, l3, l4, (n12.trans (by rw [(r5 2 (by omega)).1, (r4 2 (by omega)).1]; exact a3)), (n13.trans (by rw [(r5 2 (by omega)).2.1, (r4 2 (by omega)).2.1]; exact b3)), (n15.trans (by rw [(r5 2 (by omega)).2.2.2, (r4 2 (by omega)).2.2.2]; exact g3)), Or.inl ⟨rfl, (n14.trans (by rw [(r5 2 (by omega)).2.2.1, (r4 2 (by omega)).2.2.1]; exact f3))⟩, ty3⟩
      · exact ⟨31, 42, 49, 2, by omega, by omega, by omega, by omega, l1, l2, l3, l4, (n12.trans (by rw [(r5 3 (by omega)).1]; exact a4)), (n13.trans (by rw [(r5 3 (by omega)).2.1]; exact b4)), (n15.trans (by rw [(r5 3 (by omega)).2.2.2]; exact g4)), Or.inr ⟨by omega, (n14.trans (by rw [(r5 3 (by omega)).2.2.1]; exact f4)), ty5⟩, ty4⟩
      · exact ⟨49, 54, 54, 2, by omega, by omega, by omega, by omega, l1, l2, l3, l4, (n12.trans a5), (n13.trans b5), (n15.trans g5), Or.inl ⟨rfl, (n14.trans f5)⟩, ty6⟩
    · obtain ⟨l1, l2⟩ := vst j hj
      obtain ⟨n16, n17⟩ := h16 j hj
      have h16a : q_up s2 142 1 (nI 0) (1+15) j = x5 150 j := n16
      have h17a : q_up s2 142 1 (nI 0) (1+16) j = x5 151 j := n17
      rw [h16a, h17a, l1, l2]
      exact hst j hj
  have hW := hz.1.1.2.2
  have fr3 : ∀ o, 18 ≤ o → o ≤ 62 → q_up s2 142 1 (nI 0) o = σ0 o := fun o o1 o2 => hfr o (by omega)
  have evT : ∀ a, a < 89 ∨ (95 ≤ a ∧ a < 129) → y_V0 V d a = V a := fun a ha => ev a (by omega) (by omega)
  refine ⟨q_up s2 142 1 (nI 0), ?_, hz.told2 ⟨hz.1.1.1.cgT evT, by rw [ev 0 (by omega) (by omega)]; exact hz.2.1⟩ ((hz.1.1.2.1.congr2 hmu hme evT).fr (fun o o1 o2 => hfr o (by omega))) ⟨hLW, hW.2.1.tr (fr3 19 (by omega) (by omega)) (fr3 20 (by omega) (by omega)) (ev 90 (by omega) (by omega)) (fun a a1 a2 => ev a (by omega) (by omega)), hW.2.2.1.tr (fr3 21 (by omega) (by omega)) (fr3 22 (by omega) (by omega)) (ev 91 (by omega) (by omega)) (fun a a1 a2 => ev a (by omega) (by omega)), hW.2.2.2.1.tr (fr3 23 (by omega) (by omega)) (fr3 24 (by omega) (by omega)) (ev 92 (by omega) (by omega)) (fun a a1 a2 => ev a (by omega) (by omega)), hW.2.2.2.2.1.tr (fr3 25 (by omega) (by omega)) (fr3 26 (by omega) (by omega)) (ev 93 (by omega) (by omega)) (fun a a1 a2 => ev a (by omega) (by omega)), hW.2.2.2.2.2.tr (fr3 27 (by omega) (by omega)) (fr3 28 (by omega) (by omega)) (ev 94 (by omega) (by omega)) (fun a a1 a2 => ev a (by omega) (by omega))⟩ ((hz.1.2.cgT (fun a ha => ev a (by omega) (by omega))).fr (hfr _ (by omega)) (hfr _ (by omega))) (ev 6 (by omega) (by omega)) (hz.2.2.2.2.1.fr (fun o o1 o2 => hfr o (by omega))) ?_ (fr3 62 (by omega) (by omega)) z_upS ?_⟩
  · unfold f_X11_text
    simp (disch := omega) only [c1, eR, n1, n3', ↓reduceIte, ↓p_ld, ↓p_st, ↓p_nm, ↓p_nS, ↓p_jn, ↓p_call, ↓p_callv, ↓p_dv, ↓p_rem, h_ldE, h_stE, h_nmE, h_nSE, h_callE, h_callvE, h_dvE, h_remE, if_true, if_false, z_upS, z_upO, z_upK, nI_add, z_mul, z_sub, z_div, Nat.add_zero, Nat.mul_zero, Nat.zero_add, Nat.sub_zero, Nat.zero_mul, z_ltT, z_ltF, z_leT, z_leF, z_eqT, z_eqF, z_inT, z_clT, not_true_eq_false, not_false_eq_true, eq_self, true_or, or_true, z_m_lt, z_m_le, z_lt_m, z_le_m, z_eq_m, z_m_eq, z_rz0, z_rz1, z_m_add, z_of, r_0_0, r_0_1, r_0_3, r_0_4, r_0_5, r_0_6, r_0_7, r_0_8, r_0_9, r_0_10, r_1_0, r_1_1, r_1_2, r_1_3, r_1_4, r_1_5, r_1_6, r_1_7, r_1_8, r_2_0, r_2_1, r_2_2, r_2_3, r_2_4, r_2_5, r_2_6, r_2_7, r_11_0, r_11_1, r_11_2, r_11_3, r_11_4, r_11_5, r_11_6, r_19_0, r_21_0, r_23_0, r_25_0, r_27_0, r_31_0, r_31_1, r_31_2, r_31_3, r_31_4, r_31_5, r_31_6, r_31_7, r_31_8, r_32_0, r_32_1, r_32_2, r_32_3, r_32_4, r_32_5, r_32_6, r_32_7, r_41_0, r_41_1, r_41_2, r_41_3, r_41_4, r_41_5, r_41_6, r_49_0, r_51_0, r_53_0, r_55_0, r_57_0, r_61_0, r_63_0, r_63_1, r_63_2, r_63_3, r_63_4, r_63_5, r_63_6, r_63_7, r_72_0, r_72_1, r_72_2, r_72_3, r_72_4, r_72_5, r_72_6, r_72_7, r_81_0, r_81_1, r_81_2, r_81_3, r_81_4, r_81_5, r_81_6, r_81_7, r_90_0, r_90_1, r_90_2, r_90_3, r_90_4, r_90_5, r_90_6, r_90_7, r_99_0, r_99_1, r_99_2, r_99_3, r_99_4, r_99_5, r_99_6, r_99_7, r_108_0, r_108_1, r_108_2, r_108_3, r_108_4, r_108_5, r_108_6, r_108_7, r_117_0, r_117_1, r_117_2, r_117_3, r_117_4, r_117_5, r_117_6, r_117_7, r_126_0, r_126_1, r_126_2, r_126_3, r_126_4, r_132_0, r_132_1, r_135_0, r_135_1, r_135_2, r_135_3, r_135_4, r_135_5, r_142_0, r_144_0, r_144_1, r_144_2, r_145_0, r_145_1, r_145_2, r_145_3, r_145_4, r_145_5, r_145_6, r_154_0, r_154_1, r_155_0, ↓z_m1, l_0, l_1, l_2, l_3, l_4, l_5, l_6, l_7, l_8, l_9, l_10, l_11, l_12, l_13, l_14, l_15, l_16, l_17, l_18, l_19, l_20, l_21, l_22, l_23, l_24, l_25, l_26, l_27, l_28, l_29, l_30, l_31, l_32, l_33, l_34, l_35, l_36, l_37, l_38, l_39, l_40, l_41, l_42, l_43, l_44, l_45, l_46, l_47, l_48, l_49, l_50, l_51, l_52, l_53, l_54, l_55, l_56, l_57, l_59, l_60, l_61, l_62, l_63, l_64, l_65, l_80, l_86, l_87, l_88, l_89, l_90, l_91, l_92, l_93, l_94, l_95, l_97, l_99, l_100, l_107, l_119, l_122, l_124, l_129, l_140, l_141, l_142, l_143, l_144, l_145, l_147, l_150, l_159, l_160, l_161, l_162, l_205, l_253, l_255, l_256, l_269, l_305, l_380, l_399, l_400, l_420, l_430, l_516, l_600, l_720, l_820, l_905, l_921, l_937, l_953, l_970, l_999, l_1000, l_1790, l_4096, l_9999, l_1000000]
  · rw [fr3 61 (by omega) (by omega), hz.2.2.1.2.1, h0]
  · rw [hfr 155 (by omega)]; exact hz.2.2.2.2.2.2.1
