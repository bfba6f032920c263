/-! the VOTE, done -/
theorem z_C.R {σ : q_Sto} {V : Nat → Int32} {mu me : Nat} (h : z_C σ V mu me) : z_R σ V mu me := ⟨h.1.1, h.1.2.1, h.1.2.2.1, h.1.2.2.2.1, h.2.2.2.1, h.2.2.1, h.1.2.2.2.2.2.2.1⟩
theorem z_op_vw {a me : Nat} (h : a ≤ me) : z_op (z_vw a) me := by
  cases a with
  | zero => exact Or.inl rfl
  | succ a => exact Or.inr ⟨a, by omega, rfl⟩
theorem z_C.vote {σ σ' : q_Sto} {V W : Nat → Int32} {mu me : Nat} {B : Nat → Nat} {d x : Int32} (h : z_C σ V mu me) (hB : ∀ m, B m ≤ me) (hd : z_op d me) (hW : W = z_u (z_VV V B d) 3 x)
    (e : ∀ o, 3 ≤ o → o ≤ 28 → o ≠ 6 → o ≠ 18 → σ' o = σ o) (e2 : ∀ a, a ≠ 13 → a ≠ 14 → σ' 2 a = σ 2 a) (e13 : σ' 2 13 = d) (e14 : σ' 2 14 = x) (e6 : ∀ m, m < mu → σ' 6 m = z_vw (B m)) (e7 : ∀ m, mu ≤ m → m < 12 → σ' 6 m = z_m) : z_C σ' W mu me := by
  subst hW
  obtain ⟨⟨f1, f2, f3, f4, f5, f6, f7, f8, f9, f10, f11, f12⟩, hT, hWT⟩ := h
  obtain ⟨⟨g1, g2, g3, g4, g5, g6, g7, g8, g9⟩, t1, t2, t3, t4, t5, t6⟩ := hT.un
  have w : ∀ a, a ≠ 2 → a ≠ 3 → a < 8 ∨ 20 ≤ a → z_u (z_VV V B d) 3 x a = V a := fun a a1 a2 a3 => by rw [z_uK a2, z_VVo a1 a3]
  have w8 : ∀ m, m < 12 → z_u (z_VV V B d) 3 x (8+m) = z_vw (B m) := fun m hm => by rw [z_uK (by omega), z_VVi hm]
  have w2 : z_u (z_VV V B d) 3 x 2 = d := by rw [z_uK (by omega), z_VV2]
  refine ⟨⟨f1, f2, by rw [w 86 (by omega) (by omega) (by omega)]; exact f3, by rw [w 87 (by omega) (by omega) (by omega)]; exact f4, by rw [w 7 (by omega) (by omega) (by omega)]; exact f5, fun m hm => ?_, fun m k hm hk => ?_, fun k hk => ?_, by rw [w 1 (by omega) (by omega) (by omega)]; exact f9, by rw [w2]; exact hd, by rw [w 6 (by omega) (by omega) (by omega)]; exact f11, by rw [w 88 (by omega) (by omega) (by omega)]; exact f12⟩,
    z_TR.mk ⟨(e2 8 (by omega) (by omega)).trans g1, (e2 9 (by omega) (by omega)).trans g2, ?_, ?_, ?_, e13.trans w2.symm, e14.trans z_uS.symm, ?_, ?_⟩ (fun m hm => ?_) (fun m hm => ?_) e7 (fun k hk => ?_) (fun m k hm hk => ?_) (fun m k hm hk hq => ?_), z_sam.WT (fun a ha => w a (by omega) (by omega) (by omega)) (hWT.fr (fun o o1 o2 o3 => e o (by omega) (by omega) (by omega) (by omega)))⟩
  · rw [w8 m (by omega), w (95+m) (by omega) (by omega) (by omega), w (107+m) (by omega) (by omega) (by omega)]
    exact ⟨z_op_vw (hB m), (f6 m hm).2⟩
  · rw [w (20+5*m+k) (by omega) (by omega) (by omega)]; exact f7 m k hm hk
  · rw [w (80+k) (by omega) (by omega) (by omega), w (119+k) (by omega) (by omega) (by omega), w (124+k) (by omega) (by omega) (by omega)]; exact f8 k hk
  · rw [e2 10 (by omega) (by omega), w 5 (by omega) (by omega) (by omega)]; exact g3
  · rw [e2 11 (by omega) (by omega), w 88 (by omega) (by omega) (by omega)]; exact g4
  · rw [e2 12 (by omega) (by omega), w 1 (by omega) (by omega) (by omega)]; exact g5
  · rw [e2 15 (by omega) (by omega), w 4 (by omega) (by omega) (by omega)]; exact g8
  · rw [e2 16 (by omega) (by omega), w 0 (by omega) (by omega) (by omega)]; exact g9
  · rw [e 3 (by omega) (by omega) (by omega) (by omega), e 4 (by omega) (by omega) (by omega) (by omega), w (95+m) (by omega) (by omega) (by omega), w (107+m) (by omega) (by omega) (by omega), w8 m (by omega)]
    exact ⟨(t1 m hm).1, (t1 m hm).2.1, e6 m hm⟩
  · rw [e 5 (by omega) (by omega) (by omega) (by omega), w 7 (by omega) (by omega) (by omega)]; exact t2 m hm
  · rw [e 7 (by omega) (by omega) (by omega) (by omega), e 8 (by omega) (by omega) (by omega) (by omega), e 9 (by omega) (by omega) (by omega) (by omega), w (80+k) (by omega) (by omega) (by omega), w (119+k) (by omega) (by omega) (by omega), w (124+k) (by omega) (by omega) (by omega)]; exact t4 k hk
  · rw [e 10 (by omega) (by omega) (by omega) (by omega), w (20+5*m+k) (by omega) (by omega) (by omega)]; exact t5 m k hm hk
  · rw [e 10 (by omega) (by omega) (by omega) (by omega)]; exact t6 m k hm hk hq
theorem c_cast_L7 {n mu me : Nat} {B : Nat → Nat} {K : q_Sto → Option (Int32 × q_Sto)} (hn : 6 ≤ n) (hmu : mu ≤ 12) (hme : me ≤ 5) (hB : ∀ m, B m ≤ me) : ∀ j i (σ : q_Sto), i ≤ mu → mu < j + i → σ 2 8 = nI mu → σ 126 6 = nI me → (∀ k, k < me → σ 131 k = nI (z_side B k mu)) → (∀ m, m < i → σ 6 m = z_vw (B m)) →
    ∃ σ', (∀ o, o ≠ 6 → σ' o = σ o) ∧ (∀ m, m < mu → σ' 6 m = z_vw (B m)) ∧ (∀ m, mu ≤ m → σ' 6 m = σ 6 m) ∧ f_X10_castVote_L7 n 1 126 K j (nI i) σ = K σ' := by
  intro j
  induction j with
  | zero => intro i σ h1 h2; omega
  | succ j ih =>
    intro i σ h1 h2 g8 h6 hs hf
    by_cases hi : i = mu
    · subst hi
      refine ⟨σ, fun o _ => rfl, hf, fun m _ => rfl, ?_⟩
      rw [f_X10_castVote_L7]
      simp (disch := omega) only [g8, ↓reduceIte, ↓p_ld, ↓p_st, ↓p_nm, ↓p_nS, ↓p_jn, ↓p_call, ↓p_callv, ↓p_dv, ↓p_rem, h_ldE, h_stE, h_nmE, h_nSE, h_callE, h_callvE, h_dvE, h_remE, if_true, if_false, z_upS, z_upO, z_upK, nI_add, z_mul, z_sub, z_div, Nat.add_zero, Nat.mul_zero, Nat.zero_add, Nat.sub_zero, Nat.zero_mul, z_ltT, z_ltF, z_leT, z_leF, z_eqT, z_eqF, z_inT, z_clT, not_true_eq_false, not_false_eq_true, eq_self, true_or, or_true, z_m_lt, z_m_le, z_lt_m, z_le_m, z_eq_m, z_m_eq, z_rz0, z_rz1, z_m_add, z_of, r_0_0, r_0_1, r_0_3, r_0_4, r_0_5, r_0_6, r_0_7, r_0_8, r_0_9, r_0_10, r_1_0, r_1_1, r_1_2, r_1_3, r_1_4, r_1_5, r_1_6, r_1_7, r_1_8, r_2_0, r_2_1, r_2_2, r_2_3, r_2_4, r_2_5, r_2_6, r_2_7, r_11_0, r_11_1, r_11_2, r_11_3, r_11_4, r_11_5, r_11_6, r_19_0, r_21_0, r_23_0, r_25_0, r_27_0, r_61_0, r_117_0, r_117_1, r_117_2, r_117_3, r_117_4, r_117_5, r_117_6, r_117_7, r_126_0, r_126_1, r_126_2, r_126_3, r_126_4, r_132_0, r_132_1, r_135_0, r_135_1, r_135_2, r_135_3, r_135_4, r_135_5, r_142_0, r_144_0, r_144_1, r_144_2, r_145_0, r_145_1, r_145_2, r_145_3, r_145_4, r_145_5, r_145_6, r_154_0, r_154_1, r_155_0, ↓z_m1, l_0, l_1, l_2, l_3, l_4, l_5, l_6, l_7, l_8, l_9, l_10, l_11, l_12, l_13, l_14, l_15, l_16, l_17, l_18, l_19, l_20, l_21, l_22, l_23, l_24, l_25, l_26, l_27, l_28, l_29, l_30, l_31, l_32, l_33, l_34, l_35, l_36, l_37, l_38, l_39, l_40, l_41, l_42, l_43, l_44, l_45, l_46, l_47, l_48, l_49, l_50, l_51, l_52, l_53, l_54, l_55, l_56, l_57, l_59, l_60, l_61, l_62, l_63, l_64, l_65, l_80, l_86, l_87, l_88, l_89, l_90, l_91, l_92, l_93, l_94, l_95, l_97, l_99, l_100, l_107, l_119, l_122, l_124, l_129, l_140, l_141, l_142, l_143, l_144, l_145, l_147, l_150, l_159, l_160, l_161, l_162, l_205, l_253, l_255, l_256, l_269, l_305, l_380, l_399, l_400, l_420, l_430, l_516, l_600, l_720, l_820, l_905, l_921, l_937, l_953, l_970, l_999, l_1000, l_1790, l_4096, l_9999, l_1000000]
    · have ec := c_choiceOf (n := n) hn hmu hme h6 hs (show i < mu by omega) (hB i)
      obtain ⟨σ', k1, k2, k3, k4⟩ := ih (i+1) (q_up σ 6 i (z_vw (B i))) (by omega) (by omega) (by rw [z_upO (by omega)]; exact g8) (by rw [z_upO (by omega)]; exact h6) (fun k hk => by rw [z_upO (by omega)]; exact hs k hk) (fun m hm => by
        by_cases e : m = i
        · subst e; exact z_upS
        · rw [z_upK e]; exact hf m (by omega))
      refine ⟨σ', fun o ho => by rw [k1 o ho, z_upO ho], k2, fun m hm => by rw [k3 m hm, z_upK (by omega)], ?_⟩
      rw [← k4, f_X10_castVote_L7]
      simp (disch := omega) only [g8, ec, ↓reduceIte, ↓p_ld, ↓p_st, ↓p_nm, ↓p_nS, ↓p_jn, ↓p_call, ↓p_callv, ↓p_dv, ↓p_rem, h_ldE, h_stE, h_nmE, h_nSE, h_callE, h_callvE, h_dvE, h_remE, if_true, if_false, z_upS, z_upO, z_upK, nI_add, z_mul, z_sub, z_div, Nat.add_zero, Nat.mul_zero, Nat.zero_add, Nat.sub_zero, Nat.zero_mul, z_ltT, z_ltF, z_leT, z_leF, z_eqT, z_eqF, z_inT, z_clT, not_true_eq_false, not_false_eq_true, eq_self, true_or, or_true, z_m_lt, z_m_le, z_lt_m, z_le_m, z_eq_m, z_m_eq, z_rz0, z_rz1, z_m_add, z_of, r_0_0, r_0_1, r_0_3, r_0_4, r_0_5, r_0_6, r_0_7, r_0_8, r_0_9, r_0_10, r_1_0, r_1_1, r_1_2, r_1_3, r_1_4, r_1_5, r_1_6, r_1_7, r_1_8, r_2_0, r_2_1, r_2_2, r_2_3, r_2_4, r_2_5, r_2_6, r_2_7, r_11_0, r_11_1, r_11_2, r_11_3, r_11_4, r_11_5, r_11_6, r_19_0, r_21_0, r_23_0, r_25_0, r_27_0, r_61_0, r_117_0, r_117_1, r_117_2, r_117_3, r_117_4, r_117_5, r_117_6, r_117_7, r_126_0, r_126_1, r_126_2, r_126_3, r_126_4, r_132_0, r_132_1, r_135_0, r_135_1, r_135_2, r_135_3, r_135_4, r_135_5, r_142_0, r_144_0, r_144_1, r_144_2, r_145_0, r_145_1, r_145_2, r_145_3, r_145_4, r_145_5, r_145_6, r_154_0, r_154_1, r_155_0, ↓z_m1, l_0, l_1, l_2, l_3, l_4, l_5, l_6, l_7, l_8, l_9, l_10, l_11, l_12, l_13, l_14, l_15, l_16, l_17, l_18, l_19, l_20, l_21, l_22, l_23, l_24, l_25, l_26, l_27, l_28, l_29, l_30, l_31, l_32, l_33, l_34, l_35, l_36, l_37, l_38, l_39, l_40, l_41, l_42, l_43, l_44, l_45, l_46, l_47, l_48, l_49, l_50, l_51, l_52, l_53, l_54, l_55, l_56, l_57, l_59, l_60, l_61, l_62, l_63, l_64, l_65, l_80, l_86, l_87, l_88, l_89, l_90, l_91, l_92, l_93, l_94, l_95, l_97, l_99, l_100, l_107, l_119, l_122, l_124, l_129, l_140, l_141, l_142, l_143, l_144, l_145, l_147, l_150, l_159, l_160, l_161, l_162, l_205, l_253, l_255, l_256, l_269, l_305, l_380, l_399, l_400, l_420, l_430, l_516, l_600, l_720, l_820, l_905, l_921, l_937, l_953, l_970, l_999, l_1000, l_1790, l_4096, l_9999, l_1000000]