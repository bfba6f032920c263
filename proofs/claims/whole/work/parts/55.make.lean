/-! mules and men made; what is set, seen; the tape fed -/
theorem z_hor0 {c : Nat → Int32} {m mu : Nat} (hm : m < 2147483648) (hmu : mu ≤ m) : ∀ n, (∀ i, i < n → ∃ a, a < mu ∧ c (i*4) = nI a) → z_hor c m n = nI 0
  | 0, _ => rfl
  | n + 1, h => by
    obtain ⟨a, ha, e⟩ := h n (by omega)
    unfold z_hor
    rw [e, if_neg (by rw [nI_eq (by omega) (by omega)]; omega)]
    exact z_hor0 hm hmu n (fun i hi => h i (by omega))
theorem z_WT.grow {σ : q_Sto} {b : Nat} {V V' : Nat → Int32} {mu mu' me me' : Nat} (h : z_WT σ b V mu me) (h1 : mu ≤ mu') (h2 : me ≤ me') (e : ∀ a, (89 ≤ a ∧ a < 95) ∨ (141 ≤ a ∧ a < 305) ∨ 905 ≤ a → V' a = V a) (hh : ∀ m, m < 12 → V' (129+m) = V (129+m) ∨ (mu ≤ m ∧ V' (129+m) = nI 0)) : z_WT σ b V' mu' me' := by
  have hp : 2 ^ mu ≤ 2 ^ mu' := Nat.pow_le_pow_right (by omega) h1
  obtain ⟨⟨c, z, l1, l2, l3, l4, l5, l6⟩, ⟨c2, a1, a2, a3, a4, a5⟩, ⟨c3, p1, p2, p3, p4⟩, ⟨c4, b1, b2, b3, b4⟩, ⟨c5, o1, o2, o3, o4⟩, ⟨c6, s1, s2, s3, s4⟩⟩ := h
  refine ⟨⟨c, z, l1, l2, l3, by rw [e 89 (by omega)]; exact l4, fun i hi => ?_, fun j hj => ?_⟩, ⟨c2, a1, a2, by rw [e 90 (by omega)]; exact a3, fun i hi => ?_, fun m hm => ?_⟩, ⟨c3, p1, p2, by rw [e 91 (by omega)]; exact p3, fun i hi => ?_⟩, ⟨c4, b1, b2, by rw [e 92 (by omega)]; exact b3, fun i hi => ?_⟩, ⟨c5, o1, o2, by rw [e 93 (by omega)]; exact o3, fun i hi => ?_⟩, ⟨c6, s1, s2, by rw [e 94 (by omega)]; exact s3, fun i hi => ?_⟩⟩
  · rw [e (905+i) (by omega), e (921+i) (by omega), e (937+i) (by omega), e (953+i) (by omega)]; exact l5 i hi
  · rw [e (970+2*j) (by omega), e (970+2*j+1) (by omega)]; exact l6 j hj
  · obtain ⟨m, s, x1, x2, x3, x4⟩ := a4 i hi
    exact ⟨m, s, by omega, by omega, x3, x4⟩
  · rcases hh m hm with q | ⟨q1, q2⟩
    · rw [q]
      obtain ⟨y1, s, y2, y3, y4⟩ := a5 m hm
      exact ⟨y1, s, by omega, y3, y4⟩
    · rw [q2]
      refine ⟨(z_hor0 (by omega) q1 c2 (fun i hi => ?_)).symm, 0, Nat.two_pow_pos mu', Nat.zero_testBit _, rfl⟩
      obtain ⟨m', s, x1, x2, x3, x4⟩ := a4 i hi
      exact ⟨m', x1, x3⟩
  · rw [e (141+4*i) (by omega), e (141+4*i+1) (by omega), e (141+4*i+2) (by omega), e (141+4*i+3) (by omega)]
    obtain ⟨y1, y2, y3, y4, y5⟩ := p4 i hi
    refine ⟨y1, y2, y3, y4, ?_⟩
    rcases y5 with q | ⟨q1, q2, ⟨k, q3, q4⟩, m, q5, q6⟩ | ⟨q1, q2, k, q3, q4⟩ | ⟨q1, q2, ⟨k, q3, q4⟩, m, q5, q6⟩ | q
    · exact Or.inl q
    · exact Or.inr (Or.inl ⟨q1, q2, ⟨k, by omega, q4⟩, m, by omega, q6⟩)
    · exact Or.inr (Or.inr (Or.inl ⟨q1, q2, k, by omega, q4⟩))
    · exact Or.inr (Or.inr (Or.inr (Or.inl ⟨q1, q2, ⟨k, by omega, q4⟩, m, by omega, q6⟩)))
    · exact Or.inr (Or.inr (Or.inr (Or.inr q)))
  · rw [e (205+3*i) (by omega), e (205+3*i+1) (by omega), e (205+3*i+2) (by omega)]; exact b4 i hi
  · rw [e (253+2*i) (by omega), e (253+2*i+1) (by omega)]; exact o4 i hi
  · rw [e (269+3*i) (by omega), e (269+3*i+1) (by omega), e (269+3*i+2) (by omega)]
    obtain ⟨m, k, zz, y1, y2, y3, y4⟩ := s4 i hi
    exact ⟨m, k, zz, by omega, by omega, y3, y4⟩
theorem m_mule_L {n mu : Nat} {V : Nat → Int32} {K : q_Sto → Option (Int32 × q_Sto)} {σ0 : q_Sto} (hmu : mu < 12) : ∀ j i (σ : q_Sto), i ≤ 5 → 5 < j + i → (∀ o, o ≠ 158 → σ o = σ0 o) → (∀ k, k < i → σ 158 (20+5*mu+k) = nI 30) → (∀ a, a < 20+5*mu ∨ 20+5*mu+i ≤ a → σ 158 a = V a) →
    ∃ σ', (∀ o, o ≠ 158 → σ' o = σ0 o) ∧ (∀ k, k < 5 → σ' 158 (20+5*mu+k) = nI 30) ∧ (∀ a, a < 20+5*mu ∨ 25+5*mu ≤ a → σ' 158 a = V a) ∧ f_X12_mule_L86 n 157 (nI mu) K j (nI i) σ = K σ' := by
  intro j
  induction j with
  | zero => intro i σ h1 h2; omega
  | succ j ih =>
    intro i σ h1 h2 hf hb hc
    by_cases hi : i = 5
    · subst hi
      refine ⟨σ, hf, hb, fun a ha => hc a (by omega), ?_⟩
      rw [f_X12_mule_L86]
      simp (disch := omega) only [↓reduceIte, ↓p_ld, ↓p_st, ↓p_nm, ↓p_nS, ↓p_jn, ↓p_call, ↓p_callv, ↓p_dv, ↓p_rem, h_ldE, h_stE, h_nmE, h_nSE, h_callE, h_callvE, h_dvE, h_remE, if_true, if_false, z_upS, z_upO, z_upK, nI_add, z_mul, z_sub, z_div, Nat.add_zero, Nat.mul_zero, Nat.zero_add, Nat.sub_zero, Nat.zero_mul, z_ltT, z_ltF, z_leT, z_leF, z_eqT, z_eqF, z_inT, z_clT, not_true_eq_false, not_false_eq_true, eq_self, true_or, or_true, z_m_lt, z_m_le, z_lt_m, z_le_m, z_eq_m, z_m_eq, z_rz0, z_rz1, z_m_add, z_of, r_157_0, r_157_1, r_157_2, r_157_3, r_157_6, r_157_7, r_157_8, r_157_9, r_157_10, r_157_11, r_157_27, r_157_28, r_157_29, r_157_30, ↓z_m1, l_0, l_1, l_2, l_3, l_4, l_5, l_6, l_7, l_8, l_9, l_10, l_11, l_12, l_13, l_14, l_15, l_16, l_17, l_18, l_19, l_20, l_21, l_22, l_23, l_24, l_25, l_26, l_27, l_28, l_29, l_30, l_31, l_32, l_33, l_34, l_35, l_36, l_37, l_38, l_39, l_40, l_41, l_42, l_43, l_44, l_45, l_46, l_47, l_48, l_49, l_50, l_51, l_52, l_53, l_54, l_55, l_56, l_57, l_59, l_60, l_61, l_62, l_63, l_64, l_65, l_80, l_86, l_87, l_88, l_89, l_90, l_91, l_92, l_93, l_94, l_95, l_97, l_99, l_100, l_107, l_119, l_122, l_124, l_129, l_140, l_141, l_142, l_143, l_144, l_145, l_147, l_150, l_159, l_160, l_161, l_162, l_205, l_253, l_255, l_256, l_269, l_305, l_380, l_399, l_400, l_420, l_430, l_516, l_600, l_720, l_820, l_905, l_921, l_937, l_953, l_970, l_999, l_1000, l_1790, l_4096, l_9999, l_1000000]
    · obtain ⟨σ', g1, g2, g3, g4⟩ := ih (i+1) (q_up σ 158 (20+5*mu+i) (nI 30)) (by omega) (by omega) (fun o ho => by rw [z_upO ho, hf o ho]) (fun k hk => by
        by_cases e : k = i
        · subst e; exact z_upS
        · rw [z_upK (by omega)]; exact hb k (by omega)) (fun a ha => by rw [z_upK (by omega)]; exact hc a (by omega))
      refine ⟨σ', g1, g2, g3, ?_⟩
      rw [← g4, f_X12_mule_L86]
      simp (disch := omega) only [↓reduceIte, ↓p_ld, ↓p_st, ↓p_nm, ↓p_nS, ↓p_jn, ↓p_call, ↓p_callv, ↓p_dv, ↓p_rem, h_ldE, h_stE, h_nmE, h_nSE, h_callE, h_callvE, h_dvE, h_remE, if_true, if_false, z_upS, z_upO, z_upK, nI_add, z_mul, z_sub, z_div, Nat.add_zero, Nat.mul_zero, Nat.zero_add, Nat.sub_zero, Nat.zero_mul, z_ltT, z_ltF, z_leT, z_leF, z_eqT, z_eqF, z_inT, z_clT, not_true_eq_false, not_false_eq_true, eq_self, true_or, or_true, z_m_lt, z_m_le, z_lt_m, z_le_m, z_eq_m, z_m_eq, z_rz0, z_rz1, z_m_add, z_of, r_157_0, r_157_1, r_157_2, r_157_3, r_157_6, r_157_7, r_157_8, r_157_9, r_157_10, r_157_11, r_157_27, r_157_28, r_157_29, r_157_30, ↓z_m1, l_0, l_1, l_2, l_3, l_4, l_5, l_6, l_7, l_8, l_9, l_10, l_11, l_12, l_13, l_14, l_15, l_16, l_17, l_18, l_19, l_20, l_21, l_22, l_23, l_24, l_25, l_26, l_27, l_28, l_29, l_30, l_31, l_32, l_33, l_34, l_35, l_36, l_37, l_38, l_39, l_40, l_41, l_42, l_43, l_44, l_45, l_46, l_47, l_48, l_49, l_50, l_51, l_52, l_53, l_54, l_55, l_56, l_57, l_59, l_60, l_61, l_62, l_63, l_64, l_65, l_80, l_86, l_87, l_88, l_89, l_90, l_91, l_92, l_93, l_94, l_95, l_97, l_99, l_100, l_107, l_119, l_122, l_124, l_129, l_140, l_141, l_142, l_143, l_144, l_145, l_147, l_150, l_159, l_160, l_161, l_162, l_205, l_253, l_255, l_256, l_269, l_305, l_380, l_399, l_400, l_420, l_430, l_516, l_600, l_720, l_820, l_905, l_921, l_937, l_953, l_970, l_999, l_1000, l_1790, l_4096, l_9999, l_1000000]
theorem P_mule {σ : q_Sto} (h : q_Sim σ) (a0 : Int32) (a1 : Int32)  : ∃ (r : Int32) (σ1 σ2 : q_Sto), f_X11_mule q_F 0 a0 a1 σ = some (r, σ1) ∧ f_X12_mule q_F 157 a0 a1 σ1 = some (r, σ2) ∧ q_Sim σ2 := by
  obtain ⟨mu, me, h⟩ := h
  have hC := z_Sim.C h
  have hmu := hC.1.1
  have hme := hC.1.2.1
  have g8 : σ 2 8 = nI mu := hC.2.1.1.1
  have h86 := hC.1.2.2.1
  have no : f_X11_mule q_F 0 a0 a1 σ = some (z_m, σ) → f_X12_mule q_F 157 a0 a1 σ = some (z_m, σ) → ∃ (r : Int32) (σ1 σ2 : q_Sto), f_X11_mule q_F 0 a0 a1 σ = some (r, σ1) ∧ f_X12_mule q_F 157 a0 a1 σ1 = some (r, σ2) ∧ q_Sim σ2 := fun e1 e2 => ⟨z_m, σ, σ, e1, e2, mu, me, h⟩
  rcases z_w_cases a0 (lo := 1) (hi := 40) (by omega) (by omega) with ⟨x, x1, x2, rfl, hx⟩ | hx
  · rcases z_w_cases a1 (lo := 0) (hi := 40) (by omega) (by omega) with ⟨y, y1, y2, rfl, hy⟩ | hy
    · by_cases q : mu = 12
      · subst q
        refine no ?_ ?_
        · unfold f_X11_mule
          simp (disch := omega) only [c_isWithin, hx, hy, f_X9_addMule, g8, ↓reduceIte, ↓p_ld, ↓p_st, ↓p_nm, ↓p_nS, ↓p_jn, ↓p_call, ↓p_callv, ↓p_dv, ↓p_rem, h_ldE, h_stE, h_nmE, h_nSE, h_callE, h_callvE, h_dvE, h_remE, if_true, if_false, z_upS, z_upO, z_upK, nI_add, z_mul, z_sub, z_div, Nat.add_zero, Nat.mul_zero, Nat.zero_add, Nat.sub_zero, Nat.zero_mul, z_ltT, z_ltF, z_leT, z_leF, z_eqT, z_eqF, z_inT, z_clT, not_true_eq_false, not_false_eq_true, eq_self, true_or, or_true, z_m_lt, z_m_le, z_lt_m, z_le_m, z_eq_m, z_m_eq, z_rz0, z_rz1, z_m_add, z_of, r_0_0, r_0_1, r_0_3, r_0_4, r_0_5, r_0_6, r_0_7, r_0_8, r_0_9, r_0_10, r_1_0, r_1_1, r_1_2, r_1_3, r_1_4, r_1_5, r_1_6, r_1_7, r_1_8, r_2_0, r_2_1, r_2_2, r_2_3, r_2_4, r_2_5, r_2_6, r_2_7, r_11_0, r_11_1, r_11_2, r_11_3, r_11_4, r_11_5, r_11_6, r_19_0, r_21_0, r_23_0, r_25_0, r_27_0, r_61_0, r_117_0, r_117_1, r_117_2, r_117_3, r_117_4, r_117_5, r_117_6, r_117_7, r_126_0, r_126_1, r_126_2, r_126_3, r_126_4, r_132_0, r_132_1, r_135_0, r_135_1, r_135_2, r_135_3, r_135_4, r_135_5, r_142_0, r_144_0, r_144_1, r_144_2, r_145_0, r_145_1, r_145_2, r_145_3, r_145_4, r_145_5, r_145_6, r_154_0, r_154_1, r_155_0, ↓z_m1, l_0, l_1, l_2, l_3, l_4, l_5, l_6, l_7, l_8, l_9, l_10, l_11, l_12, l_13, l_14, l_15, l_16, l_17, l_18, l_19, l_20, l_21, l_22, l_23, l_24, l_25, l_26, l_27, l_28, l_29, l_30, l_31, l_32, l_33, l_34, l_35, l_36, l_37, l_38, l_39, l_40, l_41, l_42, l_43, l_44, l_45, l_46, l_47, l_48, l_49, l_50, l_51, l_52, l_53, l_54, l_55, l_56, l_57, l_59, l_60, l_61, l_62, l_63, l_64, l_65, l_80, l_86, l_87, l_88, l_89, l_90, l_91, l_92, l_93, l_94, l_95, l_97, l_99, l_100, l_107, l_119, l_122, l_124, l_129, l_140, l_141, l_142, l_143, l_144, l_145, l_147, l_150, l_159, l_160, l_161, l_162, l_205, l_253, l_255, l_256, l_269, l_305, l_380, l_399, l_400, l_420, l_430, l_516, l_600, l_720, l_820, l_905, l_921, l_937, l_953, l_970, l_999, l_1000, l_1790, l_4096, l_9999, l_1000000]
        · unfold f_X12_mule
          simp (disch := omega) only [m_isIn, hx, hy, h86, ↓reduceIte, ↓p_ld, ↓p_st, ↓p_nm, ↓p_nS, ↓p_jn, ↓p_call, ↓p_callv, ↓p_dv, ↓p_rem, h_ldE, h_stE, h_nmE, h_nSE, h_callE, h_callvE, h_dvE, h_remE, if_true, if_false, z_upS, z_upO, z_upK, nI_add, z_mul, z_sub, z_div, Nat.add_zero, Nat.mul_zero, Nat.zero_add, Nat.sub_zero, Nat.zero_mul, z_ltT, z_ltF, z_leT, z_leF, z_eqT, z_eqF, z_inT, z_clT, not_true_eq_false, not_false_eq_true, eq_self, true_or, or_true, z_m_lt, z_m_le, z_lt_m, z_le_m, z_eq_m, z_m_eq, z_rz0, z_rz1, z_m_add, z_of, r_157_0, r_157_1, r_157_2, r_157_3, r_157_6, r_157_7, r_157_8, r_157_9, r_157_10, r_157_11, r_157_27, r_157_28, r_157_29, r_157_30, ↓z_m1, l_0, l_1, l_2, l_3, l_4, l_5, l_6, l_7, l_8, l_9, l_10, l_11, l_12, l_13, l_14, l_15, l_16, l_17, l_18, l_19, l_20, l_21, l_22, l_23, l_24, l_25, l_26, l_27, l_28, l_29, l_30, l_31, l_32, l_33, l_34, l_35, l_36, l_37, l_38, l_39, l_40, l_41, l_42, l_43, l_44, l_45, l_46, l_47, l_48, l_49, l_50, l_51, l_52, l_53, l_54, l_55, l_56, l_57, l_59, l_60, l_61, l_62, l_63, l_64, l_65, l_80, l_86, l_87, l_88, l_89, l_90, l_91, l_92, l_93, l_94, l_95, l_97, l_99, l_100, l_107, l_119, l_122, l_124, l_129, l_140, l_141, l_142, l_143, l_144, l_145, l_147, l_150, l_159, l_160, l_161, l_162, l_205, l_253, l_255, l_256, l_269, l_305, l_380, l_399, l_400, l_420, l_430, l_516, l_600, l_720, l_820, l_905, l_921, l_937, l_953, l_970, l_999, l_1000, l_1790, l_4096, l_9999, l_1000000]
      · have hlt : mu < 12 := by omega
        obtain ⟨σ3, b1, b2, b3, b4⟩ := m_mule_L (n := q_F) (V := z_u (z_u (z_u (z_u (σ 158) (95+mu) (nI x)) (107+mu) (nI y)) (8+mu) z_m) (129+mu) (nI 0)) (K := fun  (s16 : q_Sto) =>
  q_ld s16 (q_RF 157 0) 86 1790 fun v17 =>
  q_st s16 (q_RF 157 0) 86 1790 (v17 + 1) fun s18 =>
  q_callv (f_X12_forgets q_F 157 s18) fun s19 =>
  some (nI mu, s19)) (σ0 := q_up (q_up (q_up (q_up σ 3 mu (nI x)) 4 mu (nI y)) 2 8 (nI (mu+1))) 61 1 (nI 0)) hlt q_F 0 (q_up (q_up (q_up (q_up (q_up (q_up (q_up (q_up σ 3 mu (nI x)) 4 mu (nI y)) 2 8 (nI (mu+1))) 61 1 (nI 0)) 158 (95+mu) (nI x)) 158 (107+mu) (nI y)) 158 (8+mu) z_m) 158 (129+mu) (nI 0)) (by omega) (by unfold q_F; omega)
          (fun o ho => by rw [z_upO ho, z_upO ho, z_upO ho, z_upO ho]) (fun k hk => by omega) (fun a ha => by
            have e := z_uV (a := 129+mu) (v := nI 0) (z_uV (a := 8+mu) (v := z_m) (z_uV (a := 107+mu) (v := nI y) (z_uV (σ := q_up (q_up (q_up (q_up σ 3 mu (nI x)) 4 mu (nI y)) 2 8 (nI (mu+1))) 61 1 (nI 0)) (V := σ 158) (a := 95+mu) (v := nI x) (by rw [z_upO (by omega), z_upO (by omega), z_upO (by omega), z_upO (by omega)]))))
            rw [e])
        have e86 : σ3 158 86 = nI mu := by rw [b3 86 (by omega), z_uK (by omega), z_uK (by omega), z_uK (by omega), z_uK (by omega)]; exact h86
        have hV : ∀ a, a ≠ 8+mu → a ≠ 95+mu → a ≠ 107+mu → a ≠ 129+mu → a ≠ 86 → (a < 20+5*mu ∨ 25+5*mu ≤ a) → q_up (q_up σ3 158 86 (nI (mu+1))) 157 4 (nI 0) 158 a = σ 158 a := fun a n1 n2 n3 n4 n5 n6 => by
          rw [z_upO (by omega), z_upK n5, b3 a n6, z_uK n4, z_uK n1, z_uK n3, z_uK n2]
        have v8 : q_up (q_up σ3 158 86 (nI (mu+1))) 157 4 (nI 0) 158 (8+mu) = z_m := by rw [z_upO (by omega), z_upK (by omega), b3 _ (by omega), z_uK (by omega), z_uS]
        have v95 : q_up (q_up σ3 158 86 (nI (mu+1))) 157 4 (nI 0) 158 (95+mu) = nI x := by rw [z_upO (by omega), z_upK (by omega), b3 _ (by omega), z_uK (by omega), z_uK (by omega), z_uK (by omega), z_uS]
        have v107 : q_up (q_up σ3 158 86 (nI (mu+1))) 157 4 (nI 0) 158 (107+mu) = nI y := by rw [z_upO (by omega), z_upK (by omega), b3 _ (by omega), z_uK (by omega), z_uK (by omega), z_uS]
        have v129 : q_up (q_up σ3 158 86 (nI (mu+1))) 157 4 (nI 0) 158 (129+mu) = nI 0 := by rw [z_upO (by omega), z_upK (by omega), b3 _ (by omega), z_uS]
        have v86 : q_up (q_up σ3 158 86 (nI (mu+1))) 157 4 (nI 0) 158 86 = nI (mu+1) := by rw [z_upO (by omega)]; exact z_upS
        have v20 : ∀ k, k < 5 → q_up (q_up σ3 158 86 (nI (mu+1))) 157 4 (nI 0) 158 (20+5*mu+k) = nI 30 := fun k hk => by rw [z_upO (by omega), z_upK (by omega)]; exact b2 k hk
        have efr : ∀ o, o ≠ 158 → o ≠ 157 → o ≠ 61 → q_up (q_up σ3 158 86 (nI (mu+1))) 157 4 (nI 0) o = q_up (q_up (q_up σ 3 mu (nI x)) 4 mu (nI y)) 2 8 (nI (mu+1)) o := fun o o1 o2 o3 => by rw [z_upO o2, z_upO o1, b1 o o1, z_upO o3]
        have e61 : q_up (q_up σ3 158 86 (nI (mu+1))) 157 4 (nI 0) 61 1 = nI 0 := by rw [z_upO (by omega), z_upO (by omega), b1 61 (by omega)]; exact z_upS
        have e157 : ∀ a, a ≠ 4 → a ≠ 26 → q_up (q_up σ3 158 86 (nI (mu+1))) 157 4 (nI 0) 157 a = σ 157 a := fun a a1 a2 => by rw [z_upK a1, z_upO (by omega), b1 157 (by omega), z_upO (by omega), z_upO (by omega), z_upO (by omega), z_upO (by omega)]
        refine ⟨nI mu, q_up (q_up (q_up (q_up σ 3 mu (nI x)) 4 mu (nI y)) 2 8 (nI (mu+1))) 61 1 (nI 0), q_up (q_up σ3 158 86 (nI (mu+1))) 157 4 (nI 0), ?_, ?_, mu + 1, me, ?_⟩
        · unfold f_X11_mule
          simp (disch := omega) only [c_isWithin, hx, hy, f_X9_addMule, g8, f_X1_forget, Nat.add_sub_cancel, ↓reduceIte, ↓p_ld, ↓p_st, ↓p_nm, ↓p_nS, ↓p_jn, ↓p_call, ↓p_callv, ↓p_dv, ↓p_rem, h_ldE, h_stE, h_nmE, h_nSE, h_callE, h_callvE, h_dvE, h_remE, if_true, if_false, z_upS, z_upO, z_upK, nI_add, z_mul, z_sub, z_div, Nat.add_zero, Nat.mul_zero, Nat.zero_add, Nat.sub_zero, Nat.zero_mul, z_ltT, z_ltF, z_leT, z_leF, z_eqT, z_eqF, z_inT, z_clT, not_true_eq_false, not_false_eq_true, eq_self, true_or, or_true, z_m_lt, z_m_le, z_lt_m, z_le_m, z_eq_m, z_m_eq, z_rz0, z_rz1, z_m_add, z_of, r_0_0, r_0_1, r_0_3, r_0_4, r_0_5, r_0_6, r_0_7, r_0_8, r_0_9, r_0_10, r_1_0, r_1_1, r_1_2, r_1_3, r_1_4, r_1_5, r_1_6, r_1_7, r_1_8, r_2_0, r_2_1, r_2_2, r_2_3, r_2_4, r_2_5, r_2_6, r_2_7, r_11_0, r_11_1, r_11_2, r_11_3, r_11_4, r_11_5, r_11_6, r_19_0, r_21_0, r_23_0, r_25_0, r_27_0, r_61_0, r_117_0, r_117_1, r_117_2, r_117_3, r_117_4, r_117_5, r_117_6, r_117_7, r_126_0, r_126_1, r_126_2, r_126_3, r_126_4, r_132_0, r_132_1, r_135_0, r_135_1, r_135_2, r_135_3, r_135_4, r_135_5, r_142_0, r_144_0, r_144_1, r_144_2, r_145_0, r_145_1, r_145_2, r_145_3, r_145_4, r_145_5, r_145_6, r_154_0, r_154_1, r_155_0, ↓z_m1, l_0, l_1, l_2, l_3, l_4, l_5, l_6, l_7, l_8, l_9, l_10, l_11, l_12, l_13, l_14, l_15, l_16, l_17, l_18, l_19, l_20, l_21, l_22, l_23, l_24, l_25, l_26, l_27, l_28, l_29, l_30, l_31, l_32, l_33, l_34, l_35, l_36, l_37, l_38, l_39, l_40, l_41, l_42, l_43, l_44, l_45, l_46, l_47, l_48, l_49, l_50, l_51, l_52, l_53, l_54, l_55, l_56, l_57, l_59, l_60, l_61, l_62, l_63, l_64, l_65, l_80, l_86, l_87, l_88, l_89, l_90, l_91, l_92, l_93, l_94, l_95, l_97, l_99, l_100, l_107, l_119, l_122, l_124, l_129, l_140, l_141, l_142, l_143, l_144, l_145, l_147, l_150, l_159, l_160, l_161, l_162, l_205, l_253, l_255, l_256, l_269, l_305, l_380, l_399, l_400, l_420, l_430, l_516, l_600, l_720, l_820, l_905, l_921, l_937, l_953, l_970, l_999, l_1000, l_1790, l_4096, l_9999, l_1000000]
        · have e1 : q_up (q_up (q_up (q_up σ 3 mu (nI x)) 4 mu (nI y)) 2 8 (nI (mu+1))) 61 1 (nI 0) 158 86 = nI mu := by rw [z_upO (by omega), z_upO (by omega), z_upO (by omega), z_upO (by omega)]; exact h86
          have k1 : ¬ nI mu = (12 : Int32) := by rw [l_12, nI_eq (by omega) (by omega)]; omega
          unfold f_X12_mule
          rw [m_isIn, z_call, l_1, l_40, hx, if_neg (by decide), m_isIn, z_call, l_0, hy, if_neg (by decide), r_157_0, l_86, z_ld (by omega) (by omega), e1, if_neg k1, z_ld (by omega) (by omega), e1, l_95, nI_add, z_st (by omega) (by omega), l_107, nI_add, z_st (by omega) (by omega), l_8, nI_add, show -nI 1 = z_m from rfl, z_st (by omega) (by omega), l_129, nI_add, z_st (by omega) (by omega)]
          refine Eq.trans b4 ?_
          simp (disch := omega) only [e86, f_X12_forgets, ↓reduceIte, ↓p_ld, ↓p_st, ↓p_nm, ↓p_nS, ↓p_jn, ↓p_call, ↓p_callv, ↓p_dv, ↓p_rem, h_ldE, h_stE, h_nmE, h_nSE, h_callE, h_callvE, h_dvE, h_remE, if_true, if_false, z_upS, z_upO, z_upK, nI_add, z_mul, z_sub, z_div, Nat.add_zero, Nat.mul_zero, Nat.zero_add, Nat.sub_zero, Nat.zero_mul, z_ltT, z_ltF, z_leT, z_leF, z_eqT, z_eqF, z_inT, z_clT, not_true_eq_false, not_false_eq_true, eq_self, true_or, or_true, z_m_lt, z_m_le, z_lt_m, z_le_m, z_eq_m, z_m_eq, z_rz0, z_rz1, z_m_add, z_of, r_157_0, r_157_1, r_157_2, r_157_3, r_157_6, r_157_7, r_157_8, r_157_9, r_157_10, r_157_11, r_157_27, r_157_28, r_157_29, r_157_30, ↓z_m1, l_0, l_1, l_2, l_3, l_4, l_5, l_6, l_7, l_8, l_9, l_10, l_11, l_12, l_13, l_14, l_15, l_16, l_17, l_18, l_19, l_20, l_21, l_22, l_23, l_24, l_25, l_26, l_27, l_28, l_29, l_30, l_31, l_32, l_33, l_34, l_35, l_36, l_37, l_38, l_39, l_40, l_41, l_42, l_43, l_44, l_45, l_46, l_47, l_48, l_49, l_50, l_51, l_52, l_53, l_54, l_55, l_56, l_57, l_59, l_60, l_61, l_62, l_63, l_64, l_65, l_80, l_86, l_87, l_88, l_89, l_90, l_91, l_92, l_93, l_94, l_95, l_97, l_99, l_100, l_107, l_119, l_122, l_124, l_129, l_140, l_141, l_142, l_143, l_144, l_145, l_147, l_150, l_159, l_160, l_161, l_162, l_205, l_253, l_255, l_256, l_269, l_305, l_380, l_399, l_400, l_420, l_430, l_516, l_600, l_720, l_820, l_905, l_921, l_937, l_953, l_970, l_999, l_1000, l_1790, l_4096, l_9999, l_1000000]
        · have h44 : q_up (q_up σ3 158 86 (nI (mu+1))) 157 4 (nI 0) 157 4 = nI 0 := z_upS
          have efo : ∀ o, o = 0 ∨ (31 ≤ o ∧ o ≤ 60) ∨ o = 62 ∨ o = 142 ∨ o = 143 ∨ o = 155 ∨ o = 159 ∨ o = 165 → q_up (q_up σ3 158 86 (nI (mu+1))) 157 4 (nI 0) o = σ o := fun o ho => by rw [efr o (by omega) (by omega) (by omega), z_upO (by omega), z_upO (by omega), z_upO (by omega)]
          generalize q_up (q_up σ3 158 86 (nI (mu+1))) 157 4 (nI 0) = τ at *
          obtain ⟨⟨f1, f2, f3, f4, ⟨s, hs, f5⟩, f6, f7, f8, f9, f10, f11, f12⟩, hT, hWT⟩ := hC
          obtain ⟨⟨p1, p2, p3, p4, p5, p6, p7, p8, p9⟩, t1, t2, t3, t4, t5, t6⟩ := hT.un
          have hpw : 2 ^ (mu + 1) = 2 ^ mu + 2 ^ mu := by rw [Nat.pow_succ]; omega
          have ec : ∀ o, 5 ≤ o → o ≤ 60 → τ o = σ o := fun o o1 o2 => by rw [efr o (by omega) (by omega) (by omega), z_upO (by omega), z_upO (by omega), z_upO (by omega)]
          have e2 : ∀ a, a ≠ 8 → τ 2 a = σ 2 a := fun a ha => by rw [efr 2 (by omega) (by omega) (by omega), z_upK ha, z_upO (by omega), z_upO (by omega)]
          have e28 : τ 2 8 = nI (mu+1) := by rw [efr 2 (by omega) (by omega) (by omega)]; exact z_upS
          have e3 : ∀ a, a ≠ mu → τ 3 a = σ 3 a := fun a ha => by rw [efr 3 (by omega) (by omega) (by omega), z_upO (by omega), z_upO (by omega), z_upK ha]
          have e3m : τ 3 mu = nI x := by rw [efr 3 (by omega) (by omega) (by omega), z_upO (by omega), z_upO (by omega)]; exact z_upS
          have e4 : ∀ a, a ≠ mu → τ 4 a = σ 4 a := fun a ha => by rw [efr 4 (by omega) (by omega) (by omega), z_upO (by omega), z_upK ha, z_upO (by omega)]
          have e4m : τ 4 mu = nI y := by rw [efr 4 (by omega) (by omega) (by omega), z_upO (by omega)]; exact z_upS
          refine z_Sim.told h ⟨⟨by omega, f2, v86, by rw [hV 87 (by omega) (by omega) (by omega) (by omega) (by omega) (by omega)]; exact f4, ⟨s, by omega, by rw [hV 7 (by omega) (by omega) (by omega) (by omega) (by omega) (by omega)]; exact f5⟩, fun m hm => ?_, fun m k hm hk => ?_, fun k hk => ?_, ?_, ?_, ?_, ?_⟩, ?_⟩ ⟨z_TR.mk ⟨e28, ?_, ?_, ?_, ?_, ?_, ?_, ?_, ?_⟩ (fun m hm => ?_) (fun m hm => ?_) (fun m m1 m2 => ?_) (fun k hk => ?_) (fun m k hm hk => ?_) (fun m k hm hk hq => ?_), ?_, ?_⟩ ?_ e61 h44 efo e157
          · by_cases q : m = mu
            · subst q
              rw [v8, v95, v107]
              exact ⟨Or.inl rfl, ⟨x, by omega, rfl⟩, ⟨y, by omega, rfl⟩⟩
            · rw [hV (8+m) (by omega) (by omega) (by omega) (by omega) (by omega) (by omega), hV (95+m) (by omega) (by omega) (by omega) (by omega) (by omega) (by omega), hV (107+m) (by omega) (by omega) (by omega) (by omega) (by omega) (by omega)]
              exact f6 m (by omega)
          · by_cases q : m = mu
            · subst q
              rw [v20 k (by omega)]
              exact ⟨30, by omega, rfl⟩
            · rw [hV _ (by omega) (by omega) (by omega) (by omega) (by omega) (by omega)]
              exact f7 m k (by omega) hk
          · rw [hV (80+k) (by omega) (by omega) (by omega) (by omega) (by omega) (by omega), hV (119+k) (by omega) (by omega) (by omega) (by omega) (by omega) (by omega), hV (124+k) (by omega) (by omega) (by omega) (by omega) (by omega) (by omega)]
            exact f8 k hk
          · rw [hV 1 (by omega) (by omega) (by omega) (by omega) (by omega) (by omega)]; exact f9
          · rw [hV 2 (by omega) (by omega) (by omega) (by omega) (by omega) (by omega)]; exact f10
          · rw [hV 6 (by omega) (by omega) (by omega) (by omega) (by omega) (by omega)]; exact f11
          · rw [hV 88 (by omega) (by omega) (by omega) (by omega) (by omega) (by omega)]; exact f12
          · rw [hV 0 (by omega) (by omega) (by omega) (by omega) (by omega) (by omega)]; exact h.1.2
          · rw [e2 9 (by omega)]; exact p2
          · rw [e2 10 (by omega), hV 5 (by omega) (by omega) (by omega) (by omega) (by omega) (by omega)]; exact p3
          · rw [e2 11 (by omega), hV 88 (by omega) (by omega) (by omega) (by omega) (by omega) (by omega)]; exact p4
          · rw [e2 12 (by omega), hV 1 (by omega) (by omega) (by omega) (by omega) (by omega) (by omega)]; exact p5
          · rw [e2 13 (by omega), hV 2 (by omega) (by omega) (by omega) (by omega) (by omega) (by omega)]; exact p6
          · rw [e2 14 (by omega), hV 3 (by omega) (by omega) (by omega) (by omega) (by omega) (by omega)]; exact p7
          · rw [e2 15 (by omega), hV 4 (by omega) (by omega) (by omega) (by omega) (by omega) (by omega)]; exact p8
          · rw [e2 16 (by omega), hV 0 (by omega) (by omega) (by omega) (by omega) (by omega) (by omega)]; exact p9
          · by_cases q : m = mu
            · subst q
              rw [e3m, e4m, v95, v107, v8, ec 6 (by omega) (by omega)]
              exact ⟨rfl, rfl, t3 m (by omega) (by omega)⟩
            · rw [e3 m q, e4 m q, ec 6 (by omega) (by omega), hV (8+m) (by omega) (by omega) (by omega) (by omega) (by omega) (by omega), hV (95+m) (by omega) (by omega) (by omega) (by omega) (by omega) (by omega), hV (107+m) (by omega) (by omega) (by omega) (by omega) (by omega) (by omega)]
              exact t1 m (by omega)
          · rw [ec 5 (by omega) (by omega), hV 7 (by omega) (by omega) (by omega) (by omega) (by omega) (by omega)]; exact t2 m hm
          · rw [ec 6 (by omega) (by omega)]; exact t3 m (by omega) m2
          · rw [ec 7 (by omega) (by omega), ec 8 (by omega) (by omega), ec 9 (by omega) (by omega), hV (80+k) (by omega) (by omega) (by omega) (by omega) (by omega) (by omega), hV (119+k) (by omega) (by omega) (by omega) (by omega) (by omega) (by omega), hV (124+k) (by omega) (by omega) (by omega) (by omega) (by omega) (by omega)]
            exact t4 k hk
          · rw [ec 10 (by omega) (by omega)]
            by_cases q : m = mu
            · subst q
              rw [v20 k (by omega)]
              exact t6 m k (by omega) (by omega) (Or.inl (Nat.le_refl _))
            · rw [hV _ (by omega) (by omega) (by omega) (by omega) (by omega) (by omega)]
              exact t5 m k (by omega) hk
          · rw [ec 10 (by omega) (by omega)]
            exact t6 m k hm hk (by omega)
          · refine (z_WT.grow hWT (Nat.le_succ mu) (Nat.le_refl me) (fun a ha => hV a (by omega) (by omega) (by omega) (by omega) (by omega) (by omega)) (fun m hm => ?_)).fr (fun o o1 o2 o3 => ec o (by omega) (by omega))
            by_cases q : m = mu
            · subst q; exact Or.inr ⟨Nat.le_refl _, v129⟩
            · exact Or.inl (hV _ (by omega) (by omega) (by omega) (by omega) (by omega) (by omega))
          · obtain ⟨w, b1, b2, b3, b4⟩ := h.2.1.2.2
            refine ⟨w, b1, by rw [e2 17 (by omega)]; exact b2, by rw [hV 6 (by omega) (by omega) (by omega) (by omega) (by omega) (by omega)]; exact b3, fun i c hi hc => ?_⟩
            rw [ec _ (by omega) (by omega), hV _ (by omega) (by omega) (by omega) (by omega) (by omega) (by omega)]
            exact b4 i c hi hc
          · exact h.2.2.2.2.2.1.fr (fun o o1 o2 => ec o (by omega) (by omega))
    · refine no ?_ ?_
      · unfold f_X11_mule
        simp (disch := omega) only [c_isWithin, hx, hy, ↓reduceIte, ↓p_ld, ↓p_st, ↓p_nm, ↓p_nS, ↓p_jn, ↓p_call, ↓p_callv, ↓p_dv, ↓p_rem, h_ldE, h_stE, h_nmE, h_nSE, h_callE, h_callvE, h_dvE, h_remE, if_true, if_false, z_upS, z_upO, z_upK, nI_add, z_mul, z_sub, z_div, Nat.add_zero, Nat.mul_zero, Nat.zero_add, Nat.sub_zero, Nat.zero_mul, z_ltT, z_ltF, z_leT, z_leF, z_eqT, z_eqF, z_inT, z_clT, not_true_eq_false, not_false_eq_true, eq_self, true_or, or_true, z_m_lt, z_m_le, z_lt_m, z_le_m, z_eq_m, z_m_eq, z_rz0, z_rz1, z_m_add, z_of, r_0_0, r_0_1, r_0_3, r_0_4, r_0_5, r_0_6, r_0_7, r_0_8, r_0_9, r_0_10, r_1_0, r_1_1, r_1_2, r_1_3, r_1_4, r_1_5, r_1_6, r_1_7, r_1_8, r_2_0, r_2_1, r_2_2, r_2_3, r_2_4, r_2_5, r_2_6, r_2_7, r_11_0, r_11_1, r_11_2, r_11_3, r_11_4, r_11_5, r_11_6, r_19_0, r_21_0, r_23_0, r_25_0, r_27_0, r_61_0, r_117_0, r_117_1, r_117_2, r_117_3, r_117_4, r_117_5, r_117_6, r_117_7, r_126_0, r_126_1, r_126_2, r_126_3, r_126_4, r_132_0, r_132_1, r_135_0, r_135_1, r_135_2, r_135_3, r_135_4, r_135_5, r_142_0, r_144_0, r_144_1, r_144_2, r_145_0, r_145_1, r_145_2, r_145_3, r_145_4, r_145_5, r_145_6, r_154_0, r_154_1, r_155_0, ↓z_m1, l_0, l_1, l_2, l_3, l_4, l_5, l_6, l_7, l_8, l_9, l_10, l_11, l_12, l_13, l_14, l_15, l_16, l_17, l_18, l_19, l_20, l_21, l_22, l_23, l_24, l_25, l_26, l_27, l_28, l_29, l_30, l_31, l_32, l_33, l_34, l_35, l_36, l_37, l_38, l_39, l_40, l_41, l_42, l_43, l_44, l_45, l_46, l_47, l_48, l_49, l_50, l_51, l_52, l_53, l_54, l_55, l_56, l_57, l_59, l_60, l_61, l_62, l_63, l_64, l_65, l_80, l_86, l_87, l_88, l_89, l_90, l_91, l_92, l_93, l_94, l_95, l_97, l_99, l_100, l_107, l_119, l_122, l_124, l_129, l_140, l_141, l_142, l_143, l_144, l_145, l_147, l_150, l_159, l_160, l_161, l_162, l_205, l_253, l_255, l_256, l_269, l_305, l_380, l_399, l_400, l_420, l_430, l_516, l_600, l_720, l_820, l_905, l_921, l_937, l_953, l_970, l_999, l_1000, l_1790, l_4096, l_9999, l_1000000]
      · unfold f_X12_mule
        simp (disch := omega) only [m_isIn, hx, hy, ↓reduceIte, ↓p_ld, ↓p_st, ↓p_nm, ↓p_nS, ↓p_jn, ↓p_call, ↓p_callv, ↓p_dv, ↓p_rem, h_ldE, h_stE, h_nmE, h_nSE, h_callE, h_callvE, h_dvE, h_remE, if_true, if_false, z_upS, z_upO, z_upK, nI_add, z_mul, z_sub, z_div, Nat.add_zero, Nat.mul_zero, Nat.zero_add, Nat.sub_zero, Nat.zero_mul, z_ltT, z_ltF, z_leT, z_leF, z_eqT, z_eqF, z_inT, z_clT, not_true_eq_false, not_false_eq_true, eq_self, true_or, or_true, z_m_lt, z_m_le, z_lt_m, z_le_m, z_eq_m, z_m_eq, z_rz0, z_rz1, z_m_add, z_of, r_157_0, r_157_1, r_157_2, r_157_3, r_157_6, r_157_7, r_157_8, r_157_9, r_157_10, r_157_11, r_157_27, r_157_28, r_157_29, r_157_30, ↓z_m1, l_0, l_1, l_2, l_3, l_4, l_5, l_6, l_7, l_8, l_9, l_10, l_11, l_12, l_13, l_14, l_15, l_16, l_17, l_18, l_19, l_20, l_21, l_22, l_23, l_24, l_25, l_26, l_27, l_28, l_29, l_30, l_31, l_32, l_33, l_34, l_35, l_36, l_37, l_38, l_39, l_40, l_41, l_42, l_43, l_44, l_45, l_46, l_47, l_48, l_49, l_50, l_51, l_52, l_53, l_54, l_55, l_56, l_57, l_59, l_60, l_61, l_62, l_63, l_64, l_65, l_80, l_86, l_87, l_88, l_89, l_90, l_91, l_92, l_93, l_94, l_95, l_97, l_99, l_100, l_107, l_119, l_122, l_124, l_129, l_140, l_141, l_142, l_143, l_144, l_145, l_147, l_150, l_159, l_160, l_161, l_162, l_205, l_253, l_255, l_256, l_269, l_305, l_380, l_399, l_400, l_420, l_430, l_516, l_600, l_720, l_820, l_905, l_921, l_937, l_953, l_970, l_999, l_1000, l_1790, l_4096, l_9999, l_1000000]
  · refine no ?_ ?_
    · unfold f_X11_mule
      simp (disch := omega) only [c_isWithin, hx, ↓reduceIte, ↓p_ld, ↓p_st, ↓p_nm, ↓p_nS, ↓p_jn, ↓p_call, ↓p_callv, ↓p_dv, ↓p_rem, h_ldE, h_stE, h_nmE, h_nSE, h_callE, h_callvE, h_dvE, h_remE, if_true, if_false, z_upS, z_upO, z_upK, nI_add, z_mul, z_sub, z_div, Nat.add_zero, Nat.mul_zero, Nat.zero_add, Nat.sub_zero, Nat.zero_mul, z_ltT, z_ltF, z_leT, z_leF, z_eqT, z_eqF, z_inT, z_clT, not_true_eq_false, not_false_eq_true, eq_self, true_or, or_true, z_m_lt, z_m_le, z_lt_m, z_le_m, z_eq_m, z_m_eq, z_rz0, z_rz1, z_m_add, z_of, r_0_0, r_0_1, r_0_3, r_0_4, r_0_5, r_0_6, r_0_7, r_0_8, r_0_9, r_0_10, r_1_0, r_1_1, r_1_2, r_1_3, r_1_4, r_1_5, r_1_6, r_1_7, r_1_8, r_2_0, r_2_1, r_2_2, r_2_3, r_2_4, r_2_5, r_2_6, r_2_7, r_11_0, r_11_1, r_11_2, r_11_3, r_11_4, r_11_5, r_11_6, r_19_0, r_21_0, r_23_0, r_25_0, r_27_0, r_61_0, r_117_0, r_117_1, r_117_2, r_117_3, r_117_4, r_117_5, r_117_6, r_117_7, r_126_0, r_126_1, r_126_2, r_126_3, r_126_4, r_132_0, r_132_1, r_135_0, r_135_1, r_135_2, r_135_3, r_135_4, r_135_5, r_142_0, r_144_0, r_144_1, r_144_2, r_145_0, r_145_1, r_145_2, r_145_3, r_145_4, r_145_5, r_145_6, r_154_0, r_154_1, r_155_0, ↓z_m1, l_0, l_1, l_2, l_3, l_4, l_5, l_6, l_7, l_8, l_9, l_10, l_11, l_12, l_13, l_14, l_15, l_16, l_17, l_18, l_19, l_20, l_21, l_22, l_23, l_24, l_25, l_26, l_27, l_28, l_29, l_30, l_31, l_32, l_33, l_34, l_35, l_36, l_37, l_38, l_39, l_40, l_41, l_42, l_43, l_44, l_45, l_46, l_47, l_48, l_49, l_50, l_51, l_52, l_53, l_54, l_55, l_56, l_57, l_59, l_60, l_61, l_62, l_63, l_64, l_65, l_80, l_86, l_87, l_88, l_89, l_90, l_91, l_92, l_93, l_94, l_95, l_97, l_99, l_100, l_107, l_119, l_122, l_124, l_129, l_140, l_141, l_142, l_143, l_144, l_145, l_147, l_150, l_159, l_160, l_161, l_162, l_205, l_253, l_255, l_256, l_269, l_305, l_380, l_399, l_400, l_420, l_430, l_516, l_600, l_720, l_820, l_905, l_921, l_937, l_953, l_970, l_999, l_1000, l_1790, l_4096, l_9999, l_1000000]
    · unfold f_X12_mule
      simp (disch := omega) only [m_isIn, hx, ↓reduceIte, ↓p_ld, ↓p_st, ↓p_nm, ↓p_nS, ↓p_jn, ↓p_call, ↓p_callv, ↓p_dv, ↓p_rem, h_ldE, h_stE, h_nmE, h_nSE, h_callE, h_callvE, h_dvE, h_remE, if_true, if_false, z_upS, z_upO, z_upK, nI_add, z_mul, z_sub, z_div, Nat.add_zero, Nat.mul_zero, Nat.zero_add, Nat.sub_zero, Nat.zero_mul, z_ltT, z_ltF, z_leT, z_leF, z_eqT, z_eqF, z_inT, z_clT, not_true_eq_false, not_false_eq_true, eq_self, true_or, or_true, z_m_lt, z_m_le, z_lt_m, z_le_m, z_eq_m, z_m_eq, z_rz0, z_rz1, z_m_add, z_of, r_157_0, r_157_1, r_157_2, r_157_3, r_157_6, r_157_7, r_157_8, r_157_9, r_157_10, r_157_11, r_157_27, r_157_28, r_157_29, r_157_30, ↓z_m1, l_0, l_1, l_2, l_3, l_4, l_5, l_6, l_7, l_8, l_9, l_10, l_11, l_12, l_13, l_14, l_15, l_16, l_17, l_18, l_19, l_20, l_21, l_22, l_23, l_24, l_25, l_26, l_27, l_28, l_29, l_30, l_31, l_32, l_33, l_34, l_35, l_36, l_37, l_38, l_39, l_40, l_41, l_42, l_43, l_44, l_45, l_46, l_47, l_48, l_49, l_50, l_51, l_52, l_53, l_54, l_55, l_56, l_57, l_59, l_60, l_61, l_62, l_63, l_64, l_65, l_80, l_86, l_87, l_88, l_89, l_90, l_91, l_92, l_93, l_94, l_95, l_97, l_99, l_100, l_107, l_119, l_122, l_124, l_129, l_140, l_141, l_142, l_143, l_144, l_145, l_147, l_150, l_159, l_160, l_161, l_162, l_205, l_253, l_255, l_256, l_269, l_305, l_380, l_399, l_400, l_420, l_430, l_516, l_600, l_720, l_820, l_905, l_921, l_937, l_953, l_970, l_999, l_1000, l_1790, l_4096, l_9999, l_1000000]
theorem m_man_L {n me : Nat} {V : Nat → Int32} {K : q_Sto → Option (Int32 × q_Sto)} {σ0 : q_Sto} (hme : me < 5) : ∀ j i (σ : q_Sto), i ≤ 12 → 12 < j + i → (∀ o, o ≠ 158 → σ o = σ0 o) → (∀ m, m < i → σ 158 (20+5*m+me) = nI 30) → (∀ a, (∀ m, m < i → a ≠ 20+5*m+me) → σ 158 a = V a) →
    ∃ σ', (∀ o, o ≠ 158 → σ' o = σ0 o) ∧ (∀ m, m < 12 → σ' 158 (20+5*m+me) = nI 30) ∧ (∀ a, (∀ m, m < 12 → a ≠ 20+5*m+me) → σ' 158 a = V a) ∧ f_X12_man_L88 n 157 (nI me) K j (nI i) σ = K σ' := by
  intro j
  induction j with
  | zero => intro i σ h1 h2; omega
  | succ j ih =>
    intro i σ h1 h2 hf hb hc
    by_cases hi : i = 12
    · subst hi
      refine ⟨σ, hf, hb, hc, ?_⟩
      rw [f_X12_man_L88]
      simp (disch := omega) only [↓reduceIte, ↓p_ld, ↓p_st, ↓p_nm, ↓p_nS, ↓p_jn, ↓p_call, ↓p_callv, ↓p_dv, ↓p_rem, h_ldE, h_stE, h_nmE, h_nSE, h_callE, h_callvE, h_dvE, h_remE, if_true, if_false, z_upS, z_upO, z_upK, nI_add, z_mul, z_sub, z_div, Nat.add_zero, Nat.mul_zero, Nat.zero_add, Nat.sub_zero, Nat.zero_mul, z_ltT, z_ltF, z_leT, z_leF, z_eqT, z_eqF, z_inT, z_clT, not_true_eq_false, not_false_eq_true, eq_self, true_or, or_true, z_m_lt, z_m_le, z_lt_m, z_le_m, z_eq_m, z_m_eq, z_rz0, z_rz1, z_m_add, z_of, r_157_0, r_157_1, r_157_2, r_157_3, r_157_6, r_157_7, r_157_8, r_157_9, r_157_10, r_157_11, r_157_27, r_157_28, r_157_29, r_157_30, ↓z_m1, l_0, l_1, l_2, l_3, l_4, l_5, l_6, l_7, l_8, l_9, l_10, l_11, l_12, l_13, l_14, l_15, l_16, l_17, l_18, l_19, l_20, l_21, l_22, l_23, l_24, l_25, l_26, l_27, l_28, l_29, l_30, l_31, l_32, l_33, l_34, l_35, l_36, l_37, l_38, l_39, l_40, l_41, l_42, l_43, l_44, l_45, l_46, l_47, l_48, l_49, l_50, l_51, l_52, l_53, l_54, l_55, l_56, l_57, l_59, l_60, l_61, l_62, l_63, l_64, l_65, l_80, l_86, l_87, l_88, l_89, l_90, l_91, l_92, l_93, l_94, l_95, l_97, l_99, l_100, l_107, l_119, l_122, l_124, l_129, l_140, l_141, l_142, l_143, l_144, l_145, l_147, l_150, l_159, l_160, l_161, l_162, l_205, l_253, l_255, l_256, l_269, l_305, l_380, l_399, l_400, l_420, l_430, l_516, l_600, l_720, l_820, l_905, l_921, l_937, l_953, l_970, l_999, l_1000, l_1790, l_4096, l_9999, l_1000000]
    · obtain ⟨σ', g1, g2, g3, g4⟩ := ih (i+1) (q_up σ 158 (20+5*i+me) (nI 30)) (by omega) (by omega) (fun o ho => by rw [z_upO ho, hf o ho]) (fun m hm => by
        by_cases e : m = i
        · subst e; exact z_upS
        · rw [z_upK (by omega)]; exact hb m (by omega)) (fun a ha => by rw [z_upK (ha i (by omega))]; exact hc a (fun m hm => ha m (by omega)))
      refine ⟨σ', g1, g2, g3, ?_⟩
      rw [← g4, f_X12_man_L88]
      simp (disch := omega) only [↓reduceIte, ↓p_ld, ↓p_st, ↓p_nm, ↓p_nS, ↓p_jn, ↓p_call, ↓p_callv, ↓p_dv, ↓p_rem, h_ldE, h_stE, h_nmE, h_nSE, h_callE, h_callvE, h_dvE, h_remE, if_true, if_false, z_upS, z_upO, z_upK, nI_add, z_mul, z_sub, z_div, Nat.add_zero, Nat.mul_zero, Nat.zero_add, Nat.sub_zero, Nat.zero_mul, z_ltT, z_ltF, z_leT, z_leF, z_eqT, z_eqF, z_inT, z_clT, not_true_eq_false, not_false_eq_true, eq_self, true_or, or_true, z_m_lt, z_m_le, z_lt_m, z_le_m, z_eq_m, z_m_eq, z_rz0, z_rz1, z_m_add, z_of, r_157_0, r_157_1, r_157_2, r_157_3, r_157_6, r_157_7, r_157_8, r_157_9, r_157_10, r_157_11, r_157_27, r_157_28, r_157_29, r_157_30, ↓z_m1, l_0, l_1, l_2, l_3, l_4, l_5, l_6, l_7, l_8, l_9, l_10, l_11, l_12, l_13, l_14, l_15, l_16, l_17, l_18, l_19, l_20, l_21, l_22, l_23, l_24, l_25, l_26, l_27, l_28, l_29, l_30, l_31, l_32, l_33, l_34, l_35, l_36, l_37, l_38, l_39, l_40, l_41, l_42, l_43, l_44, l_45, l_46, l_47, l_48, l_49, l_50, l_51, l_52, l_53, l_54, l_55, l_56, l_57, l_59, l_60, l_61, l_62, l_63, l_64, l_65, l_80, l_86, l_87, l_88, l_89, l_90, l_91, l_92, l_93, l_94, l_95, l_97, l_99, l_100, l_107, l_119, l_122, l_124, l_129, l_140, l_141, l_142, l_143, l_144, l_145, l_147, l_150, l_159, l_160, l_161, l_162, l_205, l_253, l_255, l_256, l_269, l_305, l_380, l_399, l_400, l_420, l_430, l_516, l_600, l_720, l_820, l_905, l_921, l_937, l_953, l_970, l_999, l_1000, l_1790, l_4096, l_9999, l_1000000]
theorem P_man {σ : q_Sto} (h : q_Sim σ) (a0 : Int32) (a1 : Int32) (a2 : Int32)  : ∃ (r : Int32) (σ1 σ2 : q_Sto), f_X11_man q_F 0 a0 a1 a2 σ = some (r, σ1) ∧ f_X12_man q_F 157 a0 a1 a2 σ1 = some (r, σ2) ∧ q_Sim σ2 := by
  obtain ⟨mu, me, h⟩ := h
  have hC := z_Sim.C h
  have hmu := hC.1.1
  have hme := hC.1.2.1
  have g9 : σ 2 9 = nI me := hC.2.1.1.2.1
  have h87 := hC.1.2.2.2.1
  have no : f_X11_man q_F 0 a0 a1 a2 σ = some (z_m, σ) → f_X12_man q_F 157 a0 a1 a2 σ = some (z_m, σ) → ∃ (r : Int32) (σ1 σ2 : q_Sto), f_X11_man q_F 0 a0 a1 a2 σ = some (r, σ1) ∧ f_X12_man q_F 157 a0 a1 a2 σ1 = some (r, σ2) ∧ q_Sim σ2 := fun e1 e2 => ⟨z_m, σ, σ, e1, e2, mu, me, h⟩
  rcases z_w_cases a0 (lo := 0) (hi := 99) (by omega) (by omega) with ⟨x, x1, x2, rfl, hx⟩ | hx
  · rcases z_w_cases a1 (lo := 0) (hi := 9) (by omega) (by omega) with ⟨y, y1, y2, rfl, hy⟩ | hy
    · rcases z_w_cases a2 (lo := 0) (hi := 9) (by omega) (by omega) with ⟨z, z1, z2, rfl, hz⟩ | hz
      · by_cases q : me = 5
        · subst q
          refine no ?_ ?_
          · unfold f_X11_man
            simp (disch := omega) only [c_isWithin, hx, hy, hz, f_X9_addMan, g9, ↓reduceIte, ↓p_ld, ↓p_st, ↓p_nm, ↓p_nS, ↓p_jn, ↓p_call, ↓p_callv, ↓p_dv, ↓p_rem, h_ldE, h_stE, h_nmE, h_nSE, h_callE, h_callvE, h_dvE, h_remE, if_true, if_false, z_upS, z_upO, z_upK, nI_add, z_mul, z_sub, z_div, Nat.add_zero, Nat.mul_zero, Nat.zero_add, Nat.sub_zero, Nat.zero_mul, z_ltT, z_ltF, z_leT, z_leF, z_eqT, z_eqF, z_inT, z_clT, not_true_eq_false, not_false_eq_true, eq_self, true_or, or_true, z_m_lt, z_m_le, z_lt_m, z_le_m, z_eq_m, z_m_eq, z_rz0, z_rz1, z_m_add, z_of, r_0_0, r_0_1, r_0_3, r_0_4, r_0_5, r_0_6, r_0_7, r_0_8, r_0_9, r_0_10, r_1_0, r_1_1, r_1_2, r_1_3, r_1_4, r_1_5, r_1_6, r_1_7, r_1_8, r_2_0, r_2_1, r_2_2, r_2_3, r_2_4, r_2_5, r_2_6, r_2_7, r_11_0, r_11_1, r_11_2, r_11_3, r_11_4, r_11_5, r_11_6, r_19_0, r_21_0, r_23_0, r_25_0, r_27_0, r_61_0, r_117_0, r_117_1, r_117_2, r_117_3, r_117_4, r_117_5, r_117_6, r_117_7, r_126_0, r_126_1, r_126_2, r_126_3, r_126_4, r_132_0, r_132_1, r_135_0, r_135_1, r_135_2, r_135_3, r_135_4, r_135_5, r_142_0, r_144_0, r_144_1, r_144_2, r_145_0, r_145_1, r_145_2, r_145_3, r_145_4, r_145_5, r_145_6, r_154_0, r_154_1, r_155_0, ↓z_m1, l_0, l_1, l_2, l_3, l_4, l_5, l_6, l_7, l_8, l_9, l_10, l_11, l_12, l_13, l_14, l_15, l_16, l_17, l_18, l_19, l_20, l_21, l_22, l_23, l_24, l_25, l_26, l_27, l_28, l_29, l_30, l_31, l_32, l_33, l_34, l_35, l_36, l_37, l_38, l_39, l_40, l_41, l_42, l_43, l_44, l_45, l_46, l_47, l_48, l_49, l_50, l_51, l_52, l_53, l_54, l_55, l_56, l_57, l_59, l_60, l_61, l_62, l_63, l_64, l_65, l_80, l_86, l_87, l_88, l_89, l_90, l_91, l_92, l_93, l_94, l_95, l_97, l_99, l_100, l_107, l_119, l_122, l_124, l_129, l_140, l_141, l_142, l_143, l_144, l_145, l_147, l_150, l_159, l_160, l_161, l_162, l_205, l_253, l_255, l_256, l_269, l_305, l_380, l_399, l_400, l_420, l_430, l_516, l_600, l_720, l_820, l_905, l_921, l_937, l_953, l_970, l_999, l_1000, l_1790, l_4096, l_9999, l_1000000]
          · unfold f_X12_man
            simp (disch := omega) only [m_isIn, hx, hy, hz, h87, ↓reduceIte, ↓p_ld, ↓p_st, ↓p_nm, ↓p_nS, ↓p_jn, ↓p_call, ↓p_callv, ↓p_dv, ↓p_rem, h_ldE, h_stE, h_nmE, h_nSE, h_callE, h_callvE, h_dvE, h_remE, if_true, if_false, z_upS, z_upO, z_upK, nI_add, z_mul, z_sub, z_div, Nat.add_zero, Nat.mul_zero, Nat.zero_add, Nat.sub_zero, Nat.zero_mul, z_ltT, z_ltF, z_leT, z_leF, z_eqT, z_eqF, z_inT, z_clT, not_true_eq_false, not_false_eq_true, eq_self, true_or, or_true, z_m_lt, z_m_le, z_lt_m, z_le_m, z_eq_m, z_m_eq, z_rz0, z_rz1, z_m_add, z_of, r_157_0, r_157_1, r_157_2, r_157_3, r_157_6, r_157_7, r_157_8, r_157_9, r_157_10, r_157_11, r_157_27, r_157_28, r_157_29, r_157_30, ↓z_m1, l_0, l_1, l_2, l_3, l_4, l_5, l_6, l_7, l_8, l_9, l_10, l_11, l_12, l_13, l_14, l_15, l_16, l_17, l_18, l_19, l_20, l_21, l_22, l_23, l_24, l_25, l_26, l_27, l_28, l_29, l_30, l_31, l_32, l_33, l_34, l_35, l_36, l_37, l_38, l_39, l_40, l_41, l_42, l_43, l_44, l_45, l_46, l_47, l_48, l_49, l_50, l_51, l_52, l_53, l_54, l_55, l_56, l_57, l_59, l_60, l_61, l_62, l_63, l_64, l_65, l_80, l_86, l_87, l_88, l_89, l_90, l_91, l_92, l_93, l_94, l_95, l_97, l_99, l_100, l_107, l_119, l_122, l_124, l_129, l_140, l_141, l_142, l_143, l_144, l_145, l_147, l_150, l_159, l_160, l_161, l_162, l_205, l_253, l_255, l_256, l_269, l_305, l_380, l_399, l_400, l_420, l_430, l_516, l_600, l_720, l_820, l_905, l_921, l_937, l_953, l_970, l_999, l_1000, l_1790, l_4096, l_9999, l_1000000]
        · have hlt : me < 5 := by omega
          obtain ⟨σ3, b1, b2, b3, b4⟩ := m_man_L (n := q_F) (V := z_u (z_u (z_u (σ 158) (80+me) (nI x)) (119+me) (nI y)) (124+me) (nI z)) (K := fun  (s18 : q_Sto) =>
  q_ld s18 (q_RF 157 0) 87 1790 fun v19 =>
  q_st s18 (q_RF 157 0) 87 1790 (v19 + 1) fun s20 =>
  q_callv (f_X12_forgets q_F 157 s20) fun s21 =>
  some (nI me, s21)) (σ0 := q_up (q_up (q_up (q_up (q_up σ 7 me (nI x)) 8 me (nI y)) 9 me (nI z)) 2 9 (nI (me+1))) 61 1 (nI 0)) hlt q_F 0 (q_up (q_up (q_up (q_up (q_up (q_up (q_up (q_up σ 7 me (nI x)) 8 me (nI y)) 9 me (nI z)) 2 9 (nI (me+1))) 61 1 (nI 0)) 158 (80+me) (nI x)) 158 (119+me) (nI y)) 158 (124+me) (nI z)) (by omega) (by unfold q_F; omega)
            (fun o ho => by rw [z_upO ho, z_upO ho, z_upO ho]) (fun k hk => by omega) (fun a ha => by
              have e := z_uV (a := 124+me) (v := nI z) (z_uV (a := 119+me) (v := nI y) (z_uV (σ := q_up (q_up (q_up (q_up (q_up σ 7 me (nI x)) 8 me (nI y)) 9 me (nI z)) 2 9 (nI (me+1))) 61 1 (nI 0)) (V := σ 158) (a := 80+me) (v := nI x) (by rw [z_upO (by omega), z_upO (by omega), z_upO (by omega), z_upO (by omega), z_upO (by omega)])))
              rw [e])
          have e87 : σ3 158 87 = nI me := by rw [b3 87 (fun m hm => by omega), z_uK (by omega), z_uK (by omega), z_uK (by omega)]; exact h87
          have hV : ∀ a, a ≠ 80+me → a ≠ 119+me → a ≠ 124+me → a ≠ 87 → (a < 20 ∨ 80 ≤ a) → q_up (q_up σ3 158 87 (nI (me+1))) 157 4 (nI 0) 158 a = σ 158 a := fun a n1 n2 n3 n4 n5 => by
            rw [z_upO (by omega), z_upK n4, b3 a (fun m hm => by omega), z_uK n3, z_uK n2, z_uK n1]
          have hVl : ∀ m k, m < 12 → k < 5 → k ≠ me → q_up (q_up σ3 158 87 (nI (me+1))) 157 4 (nI 0) 158 (20+5*m+k) = σ 158 (20+5*m+k) := fun m k hm hk hne => by
            rw [z_upO (by omega), z_upK (by omega), b3 _ (fun m' hm' => by omega), z_uK (by omega), z_uK (by omega), z_uK (by omega)]
          have v80 : q_up (q_up σ3 158 87 (nI (me+1))) 157 4 (nI 0) 158 (80+me) = nI x := by rw [z_upO (by omega), z_upK (by omega), b3 _ (fun m hm => by omega), z_uK (by omega), z_uK (by omega), z_uS]
          have v119 : q_up (q_up σ3 158 87 (nI (me+1))) 157 4 (nI 0) 158 (119+me) = nI y := by rw [z_upO (by omega), z_upK (by omega), b3 _ (fun m hm => by omega), z_uK (by omega), z_uS]
          have v124 : q_up (q_up σ3 158 87 (nI (me+1))) 157 4 (nI 0) 158 (124+me) = nI z := by rw [z_upO (by omega), z_upK (by omega), b3 _ (fun m hm => by omega), z_uS]
          have v87 : q_up (q_up σ3 158 87 (nI (me+1))) 157 4 (nI 0) 158 87 = nI (me+1) := by rw [z_upO (by omega)]; exact z_upS
          have v20 : ∀ m, m < 12 → q_up (q_up σ3 158 87 (nI (me+1))) 157 4 (nI 0) 158 (20+5*m+me) = nI 30 := fun m hm => by rw [z_upO (by omega), z_upK (by omega)]; exact b2 m hm
          have efr : ∀ o, o ≠ 158 → o ≠ 157 → o ≠ 61 → q_up (q_up σ3 158 87 (nI (me+1))) 157 4 (nI 0) o = q_up (q_up (q_up (q_up σ 7 me (nI x)) 8 me (nI y)) 9 me (nI z)) 2 9 (nI (me+1)) o := fun o o1 o2 o3 => by rw [z_upO o2, z_upO o1, b1 o o1, z_upO o3]
          have e61 : q_up (q_up σ3 158 87 (nI (me+1))) 157 4 (nI 0) 61 1 = nI 0 := by rw [z_upO (by omega), z_upO (by omega), b1 61 (by omega)]; exact z_upS
          have e157 : ∀ a, a ≠ 4 → a ≠ 26 → q_up (q_up σ3 158 87 (nI (me+1))) 157 4 (nI 0) 157 a = σ 157 a := fun a a1 a2 => by rw [z_upK a1, z_upO (by omega), b1 157 (by omega), z_upO (by omega), z_upO (by omega), z_upO (by omega), z_upO (by omega), z_upO (by omega)]
          refine ⟨nI me, q_up (q_up (q_up (q_up (q_up σ 7 me (nI x)) 8 me (nI y)) 9 me (nI z)) 2 9 (nI (me+1))) 61 1 (nI 0), q_up (q_up σ3 158 87 (nI (me+1))) 157 4 (nI 0), ?_, ?_, mu, me + 1, ?_⟩
          · unfold f_X11_man
            simp (disch := omega) only [c_isWithin, hx, hy, hz, f_X9_addMan, g9, f_X1_forget, Nat.add_sub_cancel, ↓reduceIte, ↓p_ld, ↓p_st, ↓p_nm, ↓p_nS, ↓p_jn, ↓p_call, ↓p_callv, ↓p_dv, ↓p_rem, h_ldE, h_stE, h_nmE, h_nSE, h_callE, h_callvE, h_dvE, h_remE, if_true, if_false, z_upS, z_upO, z_upK, nI_add, z_mul, z_sub, z_div, Nat.add_zero, Nat.mul_zero, Nat.zero_add, Nat.sub_zero, Nat.zero_mul, z_ltT, z_ltF, z_leT, z_leF, z_eqT, z_eqF, z_inT, z_clT, not_true_eq_false, not_false_eq_true, eq_self, true_or, or_true, z_m_lt, z_m_le, z_lt_m, z_le_m, z_eq_m, z_m_eq, z_rz0, z_rz1, z_m_add, z_of, r_0_0, r_0_1, r_0_3, r_0_4, r_0_5, r_0_6, r_0_7, r_0_8, r_0_9, r_0_10, r_1_0, r_1_1, r_1_2, r_1_3, r_1_4, r_1_5, r_1_6, r_1_7, r_1_8, r_2_0, r_2_1, r_2_2, r_2_3, r_2_4, r_2_5, r_2_6, r_2_7, r_11_0, r_11_1, r_11_2, r_11_3, r_11_4, r_11_5, r_11_6, r_19_0, r_21_0, r_23_0, r_25_0, r_27_0, r_61_0, r_117_0, r_117_1, r_117_2, r_117_3, r_117_4, r_117_5, r_117_6, r_117_7, r_126_0, r_126_1, r_126_2, r_126_3, r_126_4, r_132_0, r_132_1, r_135_0, r_135_1, r_135_2, r_135_3, r_135_4, r_135_5, r_142_0, r_144_0, r_144_1, r_144_2, r_145_0, r_145_1, r_145_2, r_145_3, r_145_4, r_145_5, r_145_6, r_154_0, r_154_1, r_155_0, ↓z_m1, l_0, l_1, l_2, l_3, l_4, l_5, l_6, l_7, l_8, l_9, l_10, l_11, l_12, l_13, l_14, l_15, l_16, l_17, l_18, l_19, l_20, l_21, l_22, l_23, l_24, l_25, l_26, l_27, l_28, l_29, l_30, l_31, l_32, l_33, l_34, l_35, l_36, l_37, l_38, l_39, l_40, l_41, l_42, l_43, l_44, l_45, l_46, l_47, l_48, l_49, l_50, l_51, l_52, l_53, l_54, l_55, l_56, l_57, l_59, l_60, l_61, l_62, l_63, l_64, l_65, l_80, l_86, l_87, l_88, l_89, l_90, l_91, l_92, l_93, l_94, l_95, l_97, l_99, l_100, l_107, l_119, l_122, l_124, l_129, l_140, l_141, l_142, l_143, l_144, l_145, l_147, l_150, l_159, l_160, l_161, l_162, l_205, l_253, l_255, l_256, l_269, l_305, l_380, l_399, l_400, l_420, l_430, l_516, l_600, l_720, l_820, l_905, l_921, l_937, l_953, l_970, l_999, l_1000, l_1790, l_4096, l_9999, l_1000000]
          · have e1 : q_up (q_up (q_up (q_up (q_up σ 7 me (nI x)) 8 me (nI y)) 9 me (nI z)) 2 9 (nI (me+1))) 61 1 (nI 0) 158 87 = nI me := by rw [z_upO (by omega), z_upO (by omega), z_upO (by omega), z_upO (by omega), z_upO (by omega)]; exact h87
            have k1 : ¬ nI me = (5 : Int32) := by rw [l_5, nI_eq (by omega) (by omega)]; omega
            unfold f_X12_man
            rw [m_isIn, z_call, l_0, l_99, hx, if_neg (by decide), m_isIn, z_call, l_9, hy, if_neg (by decide), m_isIn, z_call, hz, if_neg (by decide), r_157_0, l_87, z_ld (by omega) (by omega), e1, if_neg k1, z_ld (by omega) (by omega), e1, l_80, nI_add, z_st (by omega) (by omega), l_119, nI_add, z_st (by omega) (by omega), l_124, nI_add, z_st (by omega) (by omega)]
            refine Eq.trans b4 ?_
            simp (disch := omega) only [e87, f_X12_forgets, ↓reduceIte, ↓p_ld, ↓p_st, ↓p_nm, ↓p_nS, ↓p_jn, ↓p_call, ↓p_callv, ↓p_dv, ↓p_rem, h_ldE, h_stE, h_nmE, h_nSE, h_callE, h_callvE, h_dvE, h_remE, if_true, if_false, z_upS, z_upO, z_upK, nI_add, z_mul, z_sub, z_div, Nat.add_zero, Nat.mul_zero, Nat.zero_add, Nat.sub_zero, Nat.zero_mul, z_ltT, z_ltF, z_leT, z_leF, z_eqT, z_eqF, z_inT, z_clT, not_true_eq_false, not_false_eq_true, eq_self, true_or, or_true, z_m_lt, z_m_le, z_lt_m, z_le_m, z_eq_m, z_m_eq, z_rz0, z_rz1, z_m_add, z_of, r_157_0, r_157_1, r_157_2, r_157_3, r_157_6, r_157_7, r_157_8, r_157_9, r_157_10, r_157_11, r_157_27, r_157_28, r_157_29, r_157_30, ↓z_m1, l_0, l_1, l_2, l_3, l_4, l_5, l_6, l_7, l_8, l_9, l_10, l_11, l_12, l_13, l_14, l_15, l_16, l_17, l_18, l_19, l_20, l_21, l_22, l_23, l_24, l_25, l_26, l_27, l_28, l_29, l_30, l_31, l_32, l_33, l_34, l_35, l_36, l_37, l_38, l_39, l_40, l_41, l_42, l_43, l_44, l_45, l_46, l_47, l_48, l_49, l_50, l_51, l_52, l_53, l_54, l_55, l_56, l_57, l_59, l_60, l_61, l_62, l_63, l_64, l_65, l_80, l_86, l_87, l_88, l_89, l_90, l_91, l_92, l_93, l_94, l_95, l_97, l_99, l_100, l_107, l_119, l_122, l_124, l_129, l_140, l_141, l_142, l_143, l_144, l_145, l_147, l_150, l_159, l_160, l_161, l_162, l_205, l_253, l_255, l_256, l_269, l_305, l_380, l_399, l_400, l_420, l_430, l_516, l_600, l_720, l_820, l_905, l_921, l_937, l_953, l_970, l_999, l_1000, l_1790, l_4096, l_9999, l_1000000]
          · have h44 : q_up (q_up σ3 158 87 (nI (me+1))) 157 4 (nI 0) 157 4 = nI 0 := z_upS
            have efo : ∀ o, o = 0 ∨ (31 ≤ o ∧ o ≤ 60) ∨ o = 62 ∨ o = 142 ∨ o = 143 ∨ o = 155 ∨ o = 159 ∨ o = 165 → q_up (q_up σ3 158 87 (nI (me+1))) 157 4 (nI 0) o = σ o := fun o ho => by rw [efr o (by omega) (by omega) (by omega), z_upO (by omega), z_upO (by omega), z_upO (by omega), z_upO (by omega)]
            generalize q_up (q_up σ3 158 87 (nI (me+1))) 157 4 (nI 0) = τ at *
            obtain ⟨⟨f1, f2, f3, f4, ⟨s, hs, f5⟩, f6, f7, f8, f9, f10, f11, f12⟩, hT, hWT⟩ := hC
            obtain ⟨⟨p1, p2, p3, p4, p5, p6, p7, p8, p9⟩, t1, t2, t3, t4, t5, t6⟩ := hT.un
            have hW : ∀ a, a ≠ 87 → a < 20 ∨ (85 ≤ a ∧ a < 119) ∨ 129 ≤ a → τ 158 a = σ 158 a := fun a a1 a2 => hV a (by omega) (by omega) (by omega) a1 (by omega)
            have ec : ∀ o, 3 ≤ o → o ≤ 60 → o ≠ 7 → o ≠ 8 → o ≠ 9 → τ o = σ o := fun o o1 o2 o3 o4 o5 => by rw [efr o (by omega) (by omega) (by omega), z_upO (by omega), z_upO (by omega), z_upO (by omega), z_upO (by omega)]
            have e2 : ∀ a, a ≠ 9 → τ 2 a = σ 2 a := fun a ha => by rw [efr 2 (by omega) (by omega) (by omega), z_upK ha, z_upO (by omega), z_upO (by omega), z_upO (by omega)]
            have e29 : τ 2 9 = nI (me+1) := by rw [efr 2 (by omega) (by omega) (by omega)]; exact z_upS
            have e7 : ∀ a, a ≠ me → τ 7 a = σ 7 a := fun a ha => by rw [efr 7 (by omega) (by omega) (by omega), z_upO (by omega), z_upO (by omega), z_upO (by omega), z_upK ha]
            have e7m : τ 7 me = nI x := by rw [efr 7 (by omega) (by omega) (by omega), z_upO (by omega), z_upO (by omega), z_upO (by omega)]; exact z_upS
            have e8 : ∀ a, a ≠ me → τ 8 a = σ 8 a := fun a ha => by rw [efr 8 (by omega) (by omega) (by omega), z_upO (by omega), z_upO (by omega), z_upK ha, z_upO (by omega)]
            have e8m : τ 8 me = nI y := by rw [efr 8 (by omega) (by omega) (by omega), z_upO (by omega), z_upO (by omega)]; exact z_upS
            have e9 : ∀ a, a ≠ me → τ 9 a = σ 9 a := fun a ha => by rw [efr 9 (by omega) (by omega) (by omega), z_upO (by omega), z_upK ha, z_upO (by omega), z_upO (by omega)]
            have e9m : τ 9 me = nI z := by rw [efr 9 (by omega) (by omega) (by omega), z_upO (by omega)]; exact z_upS
            have hop : ∀ d : Int32, z_op d me → z_op d (me+1) := fun d hd => by
              rcases hd with q | ⟨k, q1, q2⟩
              · exact Or.inl q
              · exact Or.inr ⟨k, by omega, q2⟩
            refine z_Sim.told h ⟨⟨f1, by omega, by rw [hW 86 (by omega) (by omega)]; exact f3, v87, ⟨s, hs, by rw [hW 7 (by omega) (by omega)]; exact f5⟩, fun m hm => ?_, fun m k hm hk => ?_, fun k hk => ?_, ?_, ?_, ?_, ?_⟩, ?_⟩ ⟨z_TR.mk ⟨?_, e29, ?_, ?_, ?_, ?_, ?_, ?_, ?_⟩ (fun m hm => ?_) (fun m hm => ?_) (fun m m1 m2 => ?_) (fun k hk => ?_) (fun m k hm hk => ?_) (fun m k hm hk hq => ?_), ?_, ?_⟩ ?_ e61 h44 efo e157
            · rw [hW (8+m) (by omega) (by omega), hW (95+m) (by omega) (by omega), hW (107+m) (by omega) (by omega)]
              exact ⟨hop _ (f6 m hm).1, (f6 m hm).2⟩
            · by_cases q : k = me
              · subst q
                rw [v20 m (by omega)]
                exact ⟨30, by omega, rfl⟩
              · rw [hVl m k (by omega) (by omega) q]
                exact f7 m k hm (by omega)
            · by_cases q : k = me
              · subst q
                rw [v80, v119, v124]
                exact ⟨⟨x, by omega, rfl⟩, ⟨y, by omega, rfl⟩, ⟨z, by omega, rfl⟩⟩
              · rw [hV (80+k) (by omega) (by omega) (by omega) (by omega) (by omega), hV (119+k) (by omega) (by omega) (by omega) (by omega) (by omega), hV (124+k) (by omega) (by omega) (by omega) (by omega) (by omega)]
                exact f8 k (by omega)
            · rw [hW 1 (by omega) (by omega)]; exact f9
            · rw [hW 2 (by omega) (by omega)]; exact hop _ f10
            · rw [hW 6 (by omega) (by omega)]; exact f11
            · rw [hW 88 (by omega) (by omega)]; exact f12
            · rw [hW 0 (by omega) (by omega)]; exact h.1.2
            · rw [e2 8 (by omega)]; exact p1
            · rw [e2 10 (by omega), hW 5 (by omega) (by omega)]; exact p3
            · rw [e2 11 (by omega), hW 88 (by omega) (by omega)]; exact p4
            · rw [e2 12 (by omega), hW 1 (by omega) (by omega)]; exact p5
            · rw [e2 13 (by omega), hW 2 (by omega) (by omega)]; exact p6
            · rw [e2 14 (by omega), hW 3 (by omega) (by omega)]; exact p7
            · rw [e2 15 (by omega), hW 4 (by omega) (by omega)]; exact p8
            · rw [e2 16 (by omega), hW 0 (by omega) (by omega)]; exact p9
            · rw [ec 3 (by omega) (by omega) (by omega) (by omega) (by omega), ec 4 (by omega) (by omega) (by omega) (by omega) (by omega), ec 6 (by omega) (by omega) (by omega) (by omega) (by omega), hW (8+m) (by omega) (by omega), hW (95+m) (by omega) (by omega), hW (107+m) (by omega) (by omega)]
              exact t1 m hm
            · rw [ec 5 (by omega) (by omega) (by omega) (by omega) (by omega), hW 7 (by omega) (by omega)]; exact t2 m hm
            · rw [ec 6 (by omega) (by omega) (by omega) (by omega) (by omega)]; exact t3 m m1 m2
            · by_cases q : k = me
              · subst q
                rw [e7m, e8m, e9m, v80, v119, v124]
                exact ⟨rfl, rfl, rfl⟩
              · rw [e7 k q, e8 k q, e9 k q, hV (80+k) (by omega) (by omega) (by omega) (by omega) (by omega), hV (119+k) (by omega) (by omega) (by omega) (by omega) (by omega), hV (124+k) (by omega) (by omega) (by omega) (by omega) (by omega)]
                exact t4 k (by omega)
            · rw [ec 10 (by omega) (by omega) (by omega) (by omega) (by omega)]
              by_cases q : k = me
              · subst q
                rw [v20 m (by omega)]
                exact t6 m k (by omega) (by omega) (Or.inr (Nat.le_refl _))
              · rw [hVl m k (by omega) (by omega) q]
                exact t5 m k hm (by omega)
            · rw [ec 10 (by omega) (by omega) (by omega) (by omega) (by omega)]
              exact t6 m k hm hk (by omega)
            · exact (z_WT.grow hWT (Nat.le_refl mu) (Nat.le_succ me) (fun a ha => hW a (by omega) (by omega)) (fun m hm => Or.inl (hW _ (by omega) (by omega)))).fr (fun o o1 o2 o3 => ec o (by omega) (by omega) (by omega) (by omega) (by omega))
            · obtain ⟨w, b1, b2, b3, b4⟩ := h.2.1.2.2
              refine ⟨w, b1, by rw [e2 17 (by omega)]; exact b2, by rw [hW 6 (by omega) (by omega)]; exact b3, fun i c hi hc => ?_⟩
              rw [ec _ (by omega) (by omega) (by omega) (by omega) (by omega), hW _ (by omega) (by omega)]
              exact b4 i c hi hc
            · exact h.2.2.2.2.2.1.fr (fun o o1 o2 => ec o (by omega) (by omega) (by omega) (by omega) (by omega))
      · refine no ?_ ?_
        · unfold f_X11_man
          simp (disch := omega) only [c_isWithin, hx, hy, hz, ↓reduceIte, ↓p_ld, ↓p_st, ↓p_nm, ↓p_nS, ↓p_jn, ↓p_call, ↓p_callv, ↓p_dv, ↓p_rem, h_ldE, h_stE, h_nmE, h_nSE, h_callE, h_callvE, h_dvE, h_remE, if_true, if_false, z_upS, z_upO, z_upK, nI_add, z_mul, z_sub, z_div, Nat.add_zero, Nat.mul_zero, Nat.zero_add, Nat.sub_zero, Nat.zero_mul, z_ltT, z_ltF, z_leT, z_leF, z_eqT, z_eqF, z_inT, z_clT, not_true_eq_false, not_false_eq_true, eq_self, true_or, or_true, z_m_lt, z_m_le, z_lt_m, z_le_m, z_eq_m, z_m_eq, z_rz0, z_rz1, z_m_add, z_of, r_0_0, r_0_1, r_0_3, r_0_4, r_0_5, r_0_6, r_0_7, r_0_8, r_0_9, r_0_10, r_1_0, r_1_1, r_1_2, r_1_3, r_1_4, r_1_5, r_1_6, r_1_7, r_1_8, r_2_0, r_2_1, r_2_2, r_2_3, r_2_4, r_2_5, r_2_6, r_2_7, r_11_0, r_11_1, r_11_2, r_11_3, r_11_4, r_11_5, r_11_6, r_19_0, r_21_0, r_23_0, r_25_0, r_27_0, r_61_0, r_117_0, r_117_1, r_117_2, r_117_3, r_117_4, r_117_5, r_117_6, r_117_7, r_126_0, r_126_1, r_126_2, r_126_3, r_126_4, r_132_0, r_132_1, r_135_0, r_135_1, r_135_2, r_135_3, r_135_4, r_135_5, r_142_0, r_144_0, r_144_1, r_144_2, r_145_0, r_145_1, r_145_2, r_145_3, r_145_4, r_145_5, r_145_6, r_154_0, r_154_1, r_155_0, ↓z_m1, l_0, l_1, l_2, l_3, l_4, l_5, l_6, l_7, l_8, l_9, l_10, l_11, l_12, l_13, l_14, l_15, l_16, l_17, l_18, l_19, l_20, l_21, l_22, l_23, l_24, l_25, l_26, l_27, l_28, l_29, l_30, l_31, l_32, l_33, l_34, l_35, l_36, l_37, l_38, l_39, l_40, l_41, l_42, l_43, l_44, l_45, l_46, l_47, l_48, l_49, l_50, l_51, l_52, l_53, l_54, l_55, l_56, l_57, l_59, l_60, l_61, l_62, l_63, l_64, l_65, l_80, l_86, l_87, l_88, l_89, l_90, l_91, l_92, l_93, l_94, l_95, l_97, l_99, l_100, l_107, l_119, l_122, l_124, l_129, l_140, l_141, l_142, l_143, l_144, l_145, l_147, l_150, l_159, l_160, l_161, l_162, l_205, l_253, l_255, l_256, l_269, l_305, l_380, l_399, l_400, l_420, l_430, l_516, l_600, l_720, l_820, l_905, l_921, l_937, l_953, l_970, l_999, l_1000, l_1790, l_4096, l_9999, l_1000000]
        · unfold f_X12_man
          simp (disch := omega) only [m_isIn, hx, hy, hz, ↓reduceIte, ↓p_ld, ↓p_st, ↓p_nm, ↓p_nS, ↓p_jn, ↓p_call, ↓p_callv, ↓p_dv, ↓p_rem, h_ldE, h_stE, h_nmE, h_nSE, h_callE, h_callvE, h_dvE, h_remE, if_true, if_false, z_upS, z_upO, z_upK, nI_add, z_mul, z_sub, z_div, Nat.add_zero, Nat.mul_zero, Nat.zero_add, Nat.sub_zero, Nat.zero_mul, z_ltT, z_ltF, z_leT, z_leF, z_eqT, z_eqF, z_inT, z_clT, not_true_eq_false, not_false_eq_true, eq_self, true_or, or_true, z_m_lt, z_m_le, z_lt_m, z_le_m, z_eq_m, z_m_eq, z_rz0, z_rz1, z_m_add, z_of, r_157_0, r_157_1, r_157_2, r_157_3, r_157_6, r_157_7, r_157_8, r_157_9, r_157_10, r_157_11, r_157_27, r_157_28, r_157_29, r_157_30, ↓z_m1, l_0, l_1, l_2, l_3, l_4, l_5, l_6, l_7, l_8, l_9, l_10, l_11, l_12, l_13, l_14, l_15, l_16, l_17, l_18, l_19, l_20, l_21, l_22, l_23, l_24, l_25, l_26, l_27, l_28, l_29, l_30, l_31, l_32, l_33, l_34, l_35, l_36, l_37, l_38, l_39, l_40, l_41, l_42, l_43, l_44, l_45, l_46, l_47, l_48, l_49, l_50, l_51, l_52, l_53, l_54, l_55, l_56, l_57, l_59, l_60, l_61, l_62, l_63, l_64, l_65, l_80, l_86, l_87, l_88, l_89, l_90, l_91, l_92, l_93, l_94, l_95, l_97, l_99, l_100, l_107, l_119, l_122, l_124, l_129, l_140, l_141, l_142, l_143, l_144, l_145, l_147, l_150, l_159, l_160, l_161, l_162, l_205, l_253, l_255, l_256, l_269, l_305, l_380, l_399, l_400, l_420, l_430, l_516, l_600, l_720, l_820, l_905, l_921, l_937, l_953, l_970, l_999, l_1000, l_1790, l_4096, l_9999, l_1000000]
    · refine no ?_ ?_
      · unfold f_X11_man
        simp (disch := omega) only [c_isWithin, hx, hy, ↓reduceIte, ↓p_ld, ↓p_st, ↓p_nm, ↓p_nS, ↓p_jn, ↓p_call, ↓p_callv, ↓p_dv, ↓p_rem, h_ldE, h_stE, h_nmE, h_nSE, h_callE, h_callvE, h_dvE, h_remE, if_true, if_false, z_upS, z_upO, z_upK, nI_add, z_mul, z_sub, z_div, Nat.add_zero, Nat.mul_zero, Nat.zero_add, Nat.sub_zero, Nat.zero_mul, z_ltT, z_ltF, z_leT, z_leF, z_eqT, z_eqF, z_inT, z_clT, not_true_eq_false, not_false_eq_true, eq_self, true_or, or_true, z_m_lt, z_m_le, z_lt_m, z_le_m, z_eq_m, z_m_eq, z_rz0, z_rz1, z_m_add, z_of, r_0_0, r_0_1, r_0_3, r_0_4, r_0_5, r_0_6, r_0_7, r_0_8, r_0_9, r_0_10, r_1_0, r_1_1, r_1_2, r_1_3, r_1_4, r_1_5, r_1_6, r_1_7, r_1_8, r_2_0, r_2_1, r_2_2, r_2_3, r_2_4, r_2_5, r_2_6, r_2_7, r_11_0, r_11_1, r_11_2, r_11_3, r_11_4, r_11_5, r_11_6, r_19_0, r_21_0, r_23_0, r_25_0, r_27_0, r_61_0, r_117_0, r_117_1, r_117_2, r_117_3, r_117_4, r_117_5, r_117_6, r_117_7, r_126_0, r_126_1, r_126_2, r_126_3, r_126_4, r_132_0, r_132_1, r_135_0, r_135_1, r_135_2, r_135_3, r_135_4, r_135_5, r_142_0, r_144_0, r_144_1, r_144_2, r_145_0, r_145_1, r_145_2, r_145_3, r_145_4, r_145_5, r_145_6, r_154_0, r_154_1, r_155_0, ↓z_m1, l_0, l_1, l_2, l_3, l_4, l_5, l_6, l_7, l_8, l_9, l_10, l_11, l_12, l_13, l_14, l_15, l_16, l_17, l_18, l_19, l_20, l_21, l_22, l_23, l_24, l_25, l_26, l_27, l_28, l_29, l_30, l_31, l_32, l_33, l_34, l_35, l_36, l_37, l_38, l_39, l_40, l_41, l_42, l_43, l_44, l_45, l_46, l_47, l_48, l_49, l_50, l_51, l_52, l_53, l_54, l_55, l_56, l_57, l_59, l_60, l_61, l_62, l_63, l_64, l_65, l_80, l_86, l_87, l_88, l_89, l_90, l_91, l_92, l_93, l_94, l_95, l_97, l_99, l_100, l_107, l_119, l_122, l_124, l_129, l_140, l_141, l_142, l_143, l_144, l_145, l_147, l_150, l_159, l_160, l_161, l_162, l_205, l_253, l_255, l_256, l_269, l_305, l_380, l_399, l_400, l_420, l_430, l_516, l_600, l_720, l_820, l_905, l_921, l_937, l_953, l_970, l_999, l_1000, l_1790, l_4096, l_9999, l_1000000]
      · unfold f_X12_man
        simp (disch := omega) only [m_isIn, hx, hy, ↓reduceIte, ↓p_ld, ↓p_st, ↓p_nm, ↓p_nS, ↓p_jn, ↓p_call, ↓p_callv, ↓p_dv, ↓p_rem, h_ldE, h_stE, h_nmE, h_nSE, h_callE, h_callvE, h_dvE, h_remE, if_true, if_false, z_upS, z_upO, z_upK, nI_add, z_mul, z_sub, z_div, Nat.add_zero, Nat.mul_zero, Nat.zero_add, Nat.sub_zero, Nat.zero_mul, z_ltT, z_ltF, z_leT, z_leF, z_eqT, z_eqF, z_inT, z_clT, not_true_eq_false, not_false_eq_true, eq_self, true_or, or_true, z_m_lt, z_m_le, z_lt_m, z_le_m, z_eq_m, z_m_eq, z_rz0, z_rz1, z_m_add, z_of, r_157_0, r_157_1, r_157_2, r_157_3, r_157_6, r_157_7, r_157_8, r_157_9, r_157_10, r_157_11, r_157_27, r_157_28, r_157_29, r_157_30, ↓z_m1, l_0, l_1, l_2, l_3, l_4, l_5, l_6, l_7, l_8, l_9, l_10, l_11, l_12, l_13, l_14, l_15, l_16, l_17, l_18, l_19, l_20, l_21, l_22, l_23, l_24, l_25, l_26, l_27, l_28, l_29, l_30, l_31, l_32, l_33, l_34, l_35, l_36, l_37, l_38, l_39, l_40, l_41, l_42, l_43, l_44, l_45, l_46, l_47, l_48, l_49, l_50, l_51, l_52, l_53, l_54, l_55, l_56, l_57, l_59, l_60, l_61, l_62, l_63, l_64, l_65, l_80, l_86, l_87, l_88, l_89, l_90, l_91, l_92, l_93, l_94, l_95, l_97, l_99, l_100, l_107, l_119, l_122, l_124, l_129, l_140, l_141, l_142, l_143, l_144, l_145, l_147, l_150, l_159, l_160, l_161, l_162, l_205, l_253, l_255, l_256, l_269, l_305, l_380, l_399, l_400, l_420, l_430, l_516, l_600, l_720, l_820, l_905, l_921, l_937, l_953, l_970, l_999, l_1000, l_1790, l_4096, l_9999, l_1000000]
  · refine no ?_ ?_
    · unfold f_X11_man
      simp (disch := omega) only [c_isWithin, hx, ↓reduceIte, ↓p_ld, ↓p_st, ↓p_nm, ↓p_nS, ↓p_jn, ↓p_call, ↓p_callv, ↓p_dv, ↓p_rem, h_ldE, h_stE, h_nmE, h_nSE, h_callE, h_callvE, h_dvE, h_remE, if_true, if_false, z_upS, z_upO, z_upK, nI_add, z_mul, z_sub, z_div, Nat.add_zero, Nat.mul_zero, Nat.zero_add, Nat.sub_zero, Nat.zero_mul, z_ltT, z_ltF, z_leT, z_leF, z_eqT, z_eqF, z_inT, z_clT, not_true_eq_false, not_false_eq_true, eq_self, true_or, or_true, z_m_lt, z_m_le, z_lt_m, z_le_m, z_eq_m, z_m_eq, z_rz0, z_rz1, z_m_add, z_of, r_0_0, r_0_1, r_0_3, r_0_4, r_0_5, r_0_6, r_0_7, r_0_8, r_0_9, r_0_10, r_1_0, r_1_1, r_1_2, r_1_3, r_1_4, r_1_5, r_1_6, r_1_7, r_1_8, r_2_0, r_2_1, r_2_2, r_2_3, r_2_4, r_2_5, r_2_6, r_2_7, r_11_0, r_11_1, r_11_2, r_11_3, r_11_4, r_11_5, r_11_6, r_19_0, r_21_0, r_23_0, r_25_0, r_27_0, r_61_0, r_117_0, r_117_1, r_117_2, r_117_3, r_117_4, r_117_5, r_117_6, r_117_7, r_126_0, r_126_1, r_126_2, r_126_3, r_126_4, r_132_0, r_132_1, r_135_0, r_135_1, r_135_2, r_135_3, r_135_4, r_135_5, r_142_0, r_144_0, r_144_1, r_144_2, r_145_0, r_145_1, r_145_2, r_145_3, r_145_4, r_145_5, r_145_6, r_154_0, r_154_1, r_155_0, ↓z_m1, l_0, l_1, l_2, l_3, l_4, l_5, l_6, l_7, l_8, l_9, l_10, l_11, l_12, l_13, l_14, l_15, l_16, l_17, l_18, l_19, l_20, l_21, l_22, l_23, l_24, l_25, l_26, l_27, l_28, l_29, l_30, l_31, l_32, l_33, l_34, l_35, l_36, l_37, l_38, l_39, l_40, l_41, l_42, l_43, l_44, l_45, l_46, l_47, l_48, l_49, l_50, l_51, l_52, l_53, l_54, l_55, l_56, l_57, l_59, l_60, l_61, l_62, l_63, l_64, l_65, l_80, l_86, l_87, l_88, l_89, l_90, l_91, l_92, l_93, l_94, l_95, l_97, l_99, l_100, l_107, l_119, l_122, l_124, l_129, l_140, l_141, l_142, l_143, l_144, l_145, l_147, l_150, l_159, l_160, l_161, l_162, l_205, l_253, l_255, l_256, l_269, l_305, l_380, l_399, l_400, l_420, l_430, l_516, l_600, l_720, l_820, l_905, l_921, l_937, l_953, l_970, l_999, l_1000, l_1790, l_4096, l_9999, l_1000000]
    · unfold f_X12_man
      simp (disch := omega) only [m_isIn, hx, ↓reduceIte, ↓p_ld, ↓p_st, ↓p_nm, ↓p_nS, ↓p_jn, ↓p_call, ↓p_callv, ↓p_dv, ↓p_rem, h_ldE, h_stE, h_nmE, h_nSE, h_callE, h_callvE, h_dvE, h_remE, if_true, if_false, z_upS, z_upO, z_upK, nI_add, z_mul, z_sub, z_div, Nat.add_zero, Nat.mul_zero, Nat.zero_add, Nat.sub_zero, Nat.zero_mul, z_ltT, z_ltF, z_leT, z_leF, z_eqT, z_eqF, z_inT, z_clT, not_true_eq_false, not_false_eq_true, eq_self, true_or, or_true, z_m_lt, z_m_le, z_lt_m, z_le_m, z_eq_m, z_m_eq, z_rz0, z_rz1, z_m_add, z_of, r_157_0, r_157_1, r_157_2, r_157_3, r_157_6, r_157_7, r_157_8, r_157_9, r_157_10, r_157_11, r_157_27, r_157_28, r_157_29, r_157_30, ↓z_m1, l_0, l_1, l_2, l_3, l_4, l_5, l_6, l_7, l_8, l_9, l_10, l_11, l_12, l_13, l_14, l_15, l_16, l_17, l_18, l_19, l_20, l_21, l_22, l_23, l_24, l_25, l_26, l_27, l_28, l_29, l_30, l_31, l_32, l_33, l_34, l_35, l_36, l_37, l_38, l_39, l_40, l_41, l_42, l_43, l_44, l_45, l_46, l_47, l_48, l_49, l_50, l_51, l_52, l_53, l_54, l_55, l_56, l_57, l_59, l_60, l_61, l_62, l_63, l_64, l_65, l_80, l_86, l_87, l_88, l_89, l_90, l_91, l_92, l_93, l_94, l_95, l_97, l_99, l_100, l_107, l_119, l_122, l_124, l_129, l_140, l_141, l_142, l_143, l_144, l_145, l_147, l_150, l_159, l_160, l_161, l_162, l_205, l_253, l_255, l_256, l_269, l_305, l_380, l_399, l_400, l_420, l_430, l_516, l_600, l_720, l_820, l_905, l_921, l_937, l_953, l_970, l_999, l_1000, l_1790, l_4096, l_9999, l_1000000]
