/-! the class alone: TEXTS 1, 2, 3 told -/
def y_cat (f : Nat → List Nat) : Nat → Nat → List Nat
  | 0, _ => []
  | j + 1, i => f i ++ y_cat f j (i+1)
theorem z_CS.told2 {mu me mu' me' wn : Nat} {σ σ' : q_Sto} {V V' : Nat → Int32} {hs : z_Hs} (h : z_CS mu me σ V hs wn) (hF : z_WF V' mu' me') (hT : z_TR σ' 2 V' mu' me') (hW : z_WT σ' 1 V' mu' me') (hB : z_BK σ' 1 V') (h6 : V' 6 = V 6) (hCA : z_CA σ' 1) (e61 : σ' 61 1 = nI 0) (e62 : σ' 62 = σ 62) (e142 : σ' 142 1 = nI 0) (e155 : σ' 155 1 = nI 16) : z_CS mu' me' σ' V' y_h0 wn := by
  have hw := h.wn
  obtain ⟨hX, h0, ⟨c1, c2, p, ⟨c3, c4⟩, c5⟩, a3, a4, a5, a6, a7⟩ := h
  refine ⟨⟨⟨hF.1, hT, hW⟩, hB⟩, hF.2, ⟨Nat.zero_le _, e61, p, ⟨fun i hi => ⟨(c3 i hi).1, by rw [e62]; exact (c3 i hi).2⟩, c4⟩, fun i hi => absurd hi (Nat.not_lt_zero _)⟩, ⟨Nat.zero_le _, fun i hi => absurd hi (Nat.not_lt_zero _), fun i j _ hj => absurd hj (Nat.not_lt_zero _), hw.1, by rw [h6]; exact hw.2.1⟩, hCA, e142, e155, fun i hi => absurd hi (Nat.not_lt_zero _)⟩
section TX
variable {mu me wn : Nat} {V : Nat → Int32} {hs : z_Hs}
theorem c_rd {k N : Nat} {T : zt_T} {f : Nat → List Nat} {row : Nat → Nat → Int32} (hk : k = 1 ∨ k = 2 ∨ k = 3) (hN : N ≤ 16)
    (hrow : ∀ i s p rest, i < N → zt_C s T p → y_sf T p (f i ++ rest) → s 155 2 = nI i → s 155 1 = nI 16 → s 2 8 = nI mu → s 2 9 = nI me → y_RG (f_X7_readLine q_F 154 (nI k) 2 s) s T i (row i) rest) :
    ∀ j i s p l, i + j = N → j < l → zt_C s T p → y_sf T p (y_cat f j i) → s 155 2 = nI i → s 155 1 = nI 16 → s 2 8 = nI mu → s 2 9 = nI me → (∀ t c, t < i → c < 4 → s 156 (t*4+c) = row t c) →
    ∃ s', f_X7_read_L9 q_F 154 (nI k) 2 l (nI i) s = some (nI 1, s') ∧ zr_fS s s' ∧ s' 155 2 = nI N ∧ s' 155 1 = nI 16 ∧ ∀ t c, t < N → c < 4 → s' 156 (t*4+c) = row t c := by
  have hk5 : k < 5 := by omega
  intro j
  induction j with
  | zero =>
    intro i s p l hi hl hC hs h2 h1 g8 g9 hb
    have hi : i = N := by omega
    subst hi
    have te := c_eT hC hk5 (y_te hs)
    refine ⟨s, ?_, zr_fS.refl s, h2, h1, hb⟩
    cases l with
    | zero => omega
    | succ l =>
      rw [f_X7_read_L9]
      simp (disch := omega) only [te, ↓reduceIte, ↓p_ld, ↓p_st, ↓p_nm, ↓p_nS, ↓p_jn, ↓p_call, ↓p_callv, ↓p_dv, ↓p_rem, h_ldE, h_stE, h_nmE, h_nSE, h_callE, h_callvE, h_dvE, h_remE, if_true, if_false, z_upS, z_upO, z_upK, nI_add, z_mul, z_sub, z_div, Nat.add_zero, Nat.mul_zero, Nat.zero_add, Nat.sub_zero, Nat.zero_mul, z_ltT, z_ltF, z_leT, z_leF, z_eqT, z_eqF, z_inT, z_clT, not_true_eq_false, not_false_eq_true, eq_self, true_or, or_true, z_m_lt, z_m_le, z_lt_m, z_le_m, z_eq_m, z_m_eq, z_rz0, z_rz1, z_m_add, z_of, r_0_0, r_0_1, r_0_3, r_0_4, r_0_5, r_0_6, r_0_7, r_0_8, r_0_9, r_0_10, r_1_0, r_1_1, r_1_2, r_1_3, r_1_4, r_1_5, r_1_6, r_1_7, r_1_8, r_2_0, r_2_1, r_2_2, r_2_3, r_2_4, r_2_5, r_2_6, r_2_7, r_11_0, r_11_1, r_11_2, r_11_3, r_11_4, r_11_5, r_11_6, r_19_0, r_21_0, r_23_0, r_25_0, r_27_0, r_31_0, r_31_1, r_31_2, r_31_3, r_31_4, r_31_5, r_31_6, r_31_7, r_31_8, r_32_0, r_32_1, r_32_2, r_32_3, r_32_4, r_32_5, r_32_6, r_32_7, r_41_0, r_41_1, r_41_2, r_41_3, r_41_4, r_41_5, r_41_6, r_49_0, r_51_0, r_53_0, r_55_0, r_57_0, r_61_0, r_63_0, r_63_1, r_63_2, r_63_3, r_63_4, r_63_5, r_63_6, r_63_7, r_72_0, r_72_1, r_72_2, r_72_3, r_72_4, r_72_5, r_72_6, r_72_7, r_81_0, r_81_1, r_81_2, r_81_3, r_81_4, r_81_5, r_81_6, r_81_7, r_90_0, r_90_1, r_90_2, r_90_3, r_90_4, r_90_5, r_90_6, r_90_7, r_99_0, r_99_1, r_99_2, r_99_3, r_99_4, r_99_5, r_99_6, r_99_7, r_108_0, r_108_1, r_108_2, r_108_3, r_108_4, r_108_5, r_108_6, r_108_7, r_117_0, r_117_1, r_117_2, r_117_3, r_117_4, r_117_5, r_117_6, r_117_7, r_126_0, r_126_1, r_126_2, r_126_3, r_126_4, r_132_0, r_132_1, r_135_0, r_135_1, r_135_2, r_135_3, r_135_4, r_135_5, r_142_0, r_144_0, r_144_1, r_144_2, r_145_0, r_145_1, r_145_2, r_145_3, r_145_4, r_145_5, r_145_6, r_154_0, r_154_1, r_155_0, ↓z_m1, l_0, l_1, l_2, l_3, l_4, l_5, l_6, l_7, l_8, l_9, l_10, l_11, l_12, l_13, l_14, l_15, l_16, l_17, l_18, l_19, l_20, l_21, l_22, l_23, l_24, l_25, l_26, l_27, l_28, l_29, l_30, l_31, l_32, l_33, l_34, l_35, l_36, l_37, l_38, l_39, l_40, l_41, l_42, l_43, l_44, l_45, l_46, l_47, l_48, l_49, l_50, l_51, l_52, l_53, l_54, l_55, l_56, l_57, l_59, l_60, l_61, l_62, l_63, l_64, l_65, l_80, l_86, l_87, l_88, l_89, l_90, l_91, l_92, l_93, l_94, l_95, l_97, l_99, l_100, l_107, l_119, l_122, l_124, l_129, l_140, l_141, l_142, l_143, l_144, l_145, l_147, l_150, l_159, l_160, l_161, l_162, l_205, l_253, l_255, l_256, l_269, l_305, l_380, l_399, l_400, l_420, l_430, l_516, l_600, l_720, l_820, l_905, l_921, l_937, l_953, l_970, l_999, l_1000, l_1790, l_4096, l_9999, l_1000000]
  | succ j ih =>
    intro i s p l hi hl hC hs h2 h1 g8 g9 hb
    have hs : y_sf T p (f i ++ y_cat f j (i+1)) := hs
    obtain ⟨s1, q, r1, r2, r3, r4, r5, r6, r7, r8⟩ := hrow i s p _ (by omega) hC hs h2 h1 g8 g9
    obtain ⟨t1, r9⟩ := y_ts1 (k := k) r3 (by decide)
    obtain ⟨s2, x1, x2, x3⟩ := c_smc hk5 r2 t1
    have f2 : ∀ o, o ≠ 142 → s2 o = s1 o := x3.1
    have hfs : zr_fS s s2 := r4.trans x3.S
    obtain ⟨s', g1, g2, g3, g4, g5⟩ := ih (i+1) s2 _ (l-1) (by omega) (by omega) x2 r9 (by rw [f2 155 (by omega)]; exact r5) (by rw [f2 155 (by omega)]; exact r6) (by rw [hfs.1 2 (by omega) (by omega) (by omega)]; exact g8) (by rw [hfs.1 2 (by omega) (by omega) (by omega)]; exact g9) (fun t c ht hc => by
      rw [f2 156 (by omega)]
      by_cases q : t = i
      · subst q; exact r7 c hc
      · rw [r8 _ (by omega)]; exact hb t c (by omega) hc)
    refine ⟨s', ?_, hfs.trans g2, g3, g4, g5⟩
    cases l with
    | zero => omega
    | succ l =>
      have te := c_eF hC hk5 (show ¬ zt_cd k T p = 0 from fun h0 => by
        have hF0 : f_X7_readLine q_F 154 (nI k) 2 s = some (nI 1, s1) := r1
        have hne : zt_cd k T p ≠ zr_beg k := fun q => by
          rw [h0] at q
          unfold zr_beg at q
          rcases hk with rfl | rfl | rfl <;> simp at q
        rw [c_rowF1 (by omega) hC hne] at hF0
        obtain ⟨s9, -, -, -, -, e9⟩ := c_fail (n := q_F) (f := 1) hC
        rw [e9, z_call, z_rz0] at hF0
        exact absurd (congrArg Prod.fst (Option.some.inj hF0)) (show ¬ nI 0 = nI 1 by decide))
      rw [← g1, f_X7_read_L9]
      have hl9 : l + 1 - 1 = l := by omega
      rw [hl9]
      simp (disch := omega) only [te, r1, x1, ↓reduceIte, ↓p_ld, ↓p_st, ↓p_nm, ↓p_nS, ↓p_jn, ↓p_call, ↓p_callv, ↓p_dv, ↓p_rem, h_ldE, h_stE, h_nmE, h_nSE, h_callE, h_callvE, h_dvE, h_remE, if_true, if_false, z_upS, z_upO, z_upK, nI_add, z_mul, z_sub, z_div, Nat.add_zero, Nat.mul_zero, Nat.zero_add, Nat.sub_zero, Nat.zero_mul, z_ltT, z_ltF, z_leT, z_leF, z_eqT, z_eqF, z_inT, z_clT, not_true_eq_false, not_false_eq_true, eq_self, true_or, or_true, z_m_lt, z_m_le, z_lt_m, z_le_m, z_eq_m, z_m_eq, z_rz0, z_rz1, z_m_add, z_of, r_0_0, r_0_1, r_0_3, r_0_4, r_0_5, r_0_6, r_0_7, r_0_8, r_0_9, r_0_10, r_1_0, r_1_1, r_1_2, r_1_3, r_1_4, r_1_5, r_1_6, r_1_7, r_1_8, r_2_0, r_2_1, r_2_2, r_2_3, r_2_4, r_2_5, r_2_6, r_2_7, r_11_0, r_11_1, r_11_2, r_11_3, r_11_4, r_11_5, r_11_6, r_19_0, r_21_0, r_23_0, r_25_0, r_27_0, r_31_0, r_31_1, r_31_2, r_31_3, r_31_4, r_31_5, r_31_6, r_31_7, r_31_8, r_32_0, r_32_1, r_32_2, r_32_3, r_32_4, r_32_5, r_32_6, r_32_7, r_41_0, r_41_1, r_41_2, r_41_3, r_41_4, r_41_5, r_41_6, r_49_0, r_51_0, r_53_0, r_55_0, r_57_0, r_61_0, r_63_0, r_63_1, r_63_2, r_63_3, r_63_4, r_63_5, r_63_6, r_63_7, r_72_0, r_72_1, r_72_2, r_72_3, r_72_4, r_72_5, r_72_6, r_72_7, r_81_0, r_81_1, r_81_2, r_81_3, r_81_4, r_81_5, r_81_6, r_81_7, r_90_0, r_90_1, r_90_2, r_90_3, r_90_4, r_90_5, r_90_6, r_90_7, r_99_0, r_99_1, r_99_2, r_99_3, r_99_4, r_99_5, r_99_6, r_99_7, r_108_0, r_108_1, r_108_2, r_108_3, r_108_4, r_108_5, r_108_6, r_108_7, r_117_0, r_117_1, r_117_2, r_117_3, r_117_4, r_117_5, r_117_6, r_117_7, r_126_0, r_126_1, r_126_2, r_126_3, r_126_4, r_132_0, r_132_1, r_135_0, r_135_1, r_135_2, r_135_3, r_135_4, r_135_5, r_142_0, r_144_0, r_144_1, r_144_2, r_145_0, r_145_1, r_145_2, r_145_3, r_145_4, r_145_5, r_145_6, r_154_0, r_154_1, r_155_0, ↓z_m1, l_0, l_1, l_2, l_3, l_4, l_5, l_6, l_7, l_8, l_9, l_10, l_11, l_12, l_13, l_14, l_15, l_16, l_17, l_18, l_19, l_20, l_21, l_22, l_23, l_24, l_25, l_26, l_27, l_28, l_29, l_30, l_31, l_32, l_33, l_34, l_35, l_36, l_37, l_38, l_39, l_40, l_41, l_42, l_43, l_44, l_45, l_46, l_47, l_48, l_49, l_50, l_51, l_52, l_53, l_54, l_55, l_56, l_57, l_59, l_60, l_61, l_62, l_63, l_64, l_65, l_80, l_86, l_87, l_88, l_89, l_90, l_91, l_92, l_93, l_94, l_95, l_97, l_99, l_100, l_107, l_119, l_122, l_124, l_129, l_140, l_141, l_142, l_143, l_144, l_145, l_147, l_150, l_159, l_160, l_161, l_162, l_205, l_253, l_255, l_256, l_269, l_305, l_380, l_399, l_400, l_420, l_430, l_516, l_600, l_720, l_820, l_905, l_921, l_937, l_953, l_970, l_999, l_1000, l_1790, l_4096, l_9999, l_1000000]
end TX
