/-! undone; a VOTE without one; the image -/
theorem m_undo_L {n d : Nat} {σ0 : q_Sto} (hd : d ≤ 5) (h4 : σ0 157 4 = nI d) : ∀ j i (σ : q_Sto), i ≤ 86 → 86 < j + i → (∀ o, o ≠ 158 → σ o = σ0 o) → (∀ k, k < i → σ 158 k = σ0 160 (86*d+k)) → (∀ k, i ≤ k → σ 158 k = σ0 158 k) →
    ∃ σ', (∀ o, o ≠ 158 → σ' o = σ0 o) ∧ σ' 158 = (fun k => if k < 86 then σ0 160 (86*d+k) else σ0 158 k) ∧ f_X12_undo_L21 n 157 j (nI i) σ = some (nI 1, σ') := by
  intro j
  induction j with
  | zero => intro i σ h1 h2; omega
  | succ j ih =>
    intro i σ h1 h2 hf hb hc
    by_cases hi : i = 86
    · subst hi
      refine ⟨σ, hf, ?_, ?_⟩
      · funext k
        by_cases q : k < 86
        · rw [if_pos q]; exact hb k q
        · rw [if_neg q]; exact hc k (by omega)
      · rw [f_X12_undo_L21]
        simp (disch := omega) only [↓reduceIte, ↓p_ld, ↓p_st, ↓p_nm, ↓p_nS, ↓p_jn, ↓p_call, ↓p_callv, ↓p_dv, ↓p_rem, h_ldE, h_stE, h_nmE, h_nSE, h_callE, h_callvE, h_dvE, h_remE, if_true, if_false, z_upS, z_upO, z_upK, nI_add, z_mul, z_sub, z_div, Nat.add_zero, Nat.mul_zero, Nat.zero_add, Nat.sub_zero, Nat.zero_mul, z_ltT, z_ltF, z_leT, z_leF, z_eqT, z_eqF, z_inT, z_clT, not_true_eq_false, not_false_eq_true, eq_self, true_or, or_true, z_m_lt, z_m_le, z_lt_m, z_le_m, z_eq_m, z_m_eq, z_rz0, z_rz1, z_m_add, z_of, r_157_0, r_157_1, r_157_2, r_157_3, r_157_6, r_157_7, r_157_8, r_157_9, r_157_10, r_157_11, r_157_27, r_157_28, r_157_29, r_157_30, ↓z_m1, l_0, l_1, l_2, l_3, l_4, l_5, l_6, l_7, l_8, l_9, l_10, l_11, l_12, l_13, l_14, l_15, l_16, l_17, l_18, l_19, l_20, l_21, l_22, l_23, l_24, l_25, l_26, l_27, l_28, l_29, l_30, l_31, l_32, l_33, l_34, l_35, l_36, l_37, l_38, l_39, l_40, l_41, l_42, l_43, l_44, l_45, l_46, l_47, l_48, l_49, l_50, l_51, l_52, l_53, l_54, l_55, l_56, l_57, l_59, l_60, l_61, l_62, l_63, l_64, l_65, l_80, l_86, l_87, l_88, l_89, l_90, l_91, l_92, l_93, l_94, l_95, l_97, l_99, l_100, l_107, l_119, l_122, l_124, l_129, l_140, l_141, l_142, l_143, l_144, l_145, l_147, l_150, l_159, l_160, l_161, l_162, l_205, l_253, l_255, l_256, l_269, l_305, l_380, l_399, l_400, l_420, l_430, l_516, l_600, l_720, l_820, l_905, l_921, l_937, l_953, l_970, l_999, l_1000, l_1790, l_4096, l_9999, l_1000000]
    · obtain ⟨σ', g1, g2, g5⟩ := ih (i+1) (q_up σ 158 i (σ0 160 (86*d+i))) (by omega) (by omega) (fun o ho => by rw [z_upO ho, hf o ho]) (fun k hk => by
        by_cases e : k = i
        · subst e; exact z_upS
        · rw [z_upK e]; exact hb k (by omega)) (fun k hk => by rw [z_upK (by omega)]; exact hc k (by omega))
      refine ⟨σ', g1, g2, ?_⟩
      have e : σ 160 (86*d+i) = σ0 160 (86*d+i) := by rw [hf 160 (by omega)]
      have e4 : σ 157 4 = nI d := by rw [hf 157 (by omega)]; exact h4
      rw [← g5, f_X12_undo_L21]
      simp (disch := omega) only [e, e4, ↓reduceIte, ↓p_ld, ↓p_st, ↓p_nm, ↓p_nS, ↓p_jn, ↓p_call, ↓p_callv, ↓p_dv, ↓p_rem, h_ldE, h_stE, h_nmE, h_nSE, h_callE, h_callvE, h_dvE, h_remE, if_true, if_false, z_upS, z_upO, z_upK, nI_add, z_mul, z_sub, z_div, Nat.add_zero, Nat.mul_zero, Nat.zero_add, Nat.sub_zero, Nat.zero_mul, z_ltT, z_ltF, z_leT, z_leF, z_eqT, z_eqF, z_inT, z_clT, not_true_eq_false, not_false_eq_true, eq_self, true_or, or_true, z_m_lt, z_m_le, z_lt_m, z_le_m, z_eq_m, z_m_eq, z_rz0, z_rz1, z_m_add, z_of, r_157_0, r_157_1, r_157_2, r_157_3, r_157_6, r_157_7, r_157_8, r_157_9, r_157_10, r_157_11, r_157_27, r_157_28, r_157_29, r_157_30, ↓z_m1, l_0, l_1, l_2, l_3, l_4, l_5, l_6, l_7, l_8, l_9, l_10, l_11, l_12, l_13, l_14, l_15, l_16, l_17, l_18, l_19, l_20, l_21, l_22, l_23, l_24, l_25, l_26, l_27, l_28, l_29, l_30, l_31, l_32, l_33, l_34, l_35, l_36, l_37, l_38, l_39, l_40, l_41, l_42, l_43, l_44, l_45, l_46, l_47, l_48, l_49, l_50, l_51, l_52, l_53, l_54, l_55, l_56, l_57, l_59, l_60, l_61, l_62, l_63, l_64, l_65, l_80, l_86, l_87, l_88, l_89, l_90, l_91, l_92, l_93, l_94, l_95, l_97, l_99, l_100, l_107, l_119, l_122, l_124, l_129, l_140, l_141, l_142, l_143, l_144, l_145, l_147, l_150, l_159, l_160, l_161, l_162, l_205, l_253, l_255, l_256, l_269, l_305, l_380, l_399, l_400, l_420, l_430, l_516, l_600, l_720, l_820, l_905, l_921, l_937, l_953, l_970, l_999, l_1000, l_1790, l_4096, l_9999, l_1000000]
theorem P_undo {σ : q_Sto} (h : q_Sim σ)   : ∃ (r : Int32) (σ1 σ2 : q_Sto), f_X11_undo q_F 0  σ = some (r, σ1) ∧ f_X12_undo q_F 157  σ1 = some (r, σ2) ∧ q_Sim σ2 := by
  obtain ⟨mu, me, h⟩ := h
  have hC := z_Sim.C h
  have hmu := hC.1.1
  have hme := hC.1.2.1
  obtain ⟨⟨c, rows, w⟩, wn, hX, h0, ⟨c1, c2, p, ⟨c3, c4⟩, c5⟩, ⟨r1, r2⟩, ⟨-, u1, u2, u3, u4⟩, w1, w2, w3⟩ := z_Sim.un h
  have c1 : c ≤ 6 := c1
  have c2 : σ 61 1 = nI c := c2
  have r1 : σ 157 4 = nI c := r1
  cases c with
  | zero =>
    refine ⟨nI 0, σ, σ, ?_, ?_, mu, me, h⟩
    · unfold f_X11_undo
      simp (disch := omega) only [f_X1_giveBack, c2, ↓reduceIte, ↓p_ld, ↓p_st, ↓p_nm, ↓p_nS, ↓p_jn, ↓p_call, ↓p_callv, ↓p_dv, ↓p_rem, h_ldE, h_stE, h_nmE, h_nSE, h_callE, h_callvE, h_dvE, h_remE, if_true, if_false, z_upS, z_upO, z_upK, nI_add, z_mul, z_sub, z_div, Nat.add_zero, Nat.mul_zero, Nat.zero_add, Nat.sub_zero, Nat.zero_mul, z_ltT, z_ltF, z_leT, z_leF, z_eqT, z_eqF, z_inT, z_clT, not_true_eq_false, not_false_eq_true, eq_self, true_or, or_true, z_m_lt, z_m_le, z_lt_m, z_le_m, z_eq_m, z_m_eq, z_rz0, z_rz1, z_m_add, z_of, r_0_0, r_0_1, r_0_3, r_0_4, r_0_5, r_0_6, r_0_7, r_0_8, r_0_9, r_0_10, r_1_0, r_1_1, r_1_2, r_1_3, r_1_4, r_1_5, r_1_6, r_1_7, r_1_8, r_2_0, r_2_1, r_2_2, r_2_3, r_2_4, r_2_5, r_2_6, r_2_7, r_11_0, r_11_1, r_11_2, r_11_3, r_11_4, r_11_5, r_11_6, r_19_0, r_21_0, r_23_0, r_25_0, r_27_0, r_61_0, r_117_0, r_117_1, r_117_2, r_117_3, r_117_4, r_117_5, r_117_6, r_117_7, r_126_0, r_126_1, r_126_2, r_126_3, r_126_4, r_132_0, r_132_1, r_135_0, r_135_1, r_135_2, r_135_3, r_135_4, r_135_5, r_142_0, r_144_0, r_144_1, r_144_2, r_145_0, r_145_1, r_145_2, r_145_3, r_145_4, r_145_5, r_145_6, r_154_0, r_154_1, r_155_0, ↓z_m1, l_0, l_1, l_2, l_3, l_4, l_5, l_6, l_7, l_8, l_9, l_10, l_11, l_12, l_13, l_14, l_15, l_16, l_17, l_18, l_19, l_20, l_21, l_22, l_23, l_24, l_25, l_26, l_27, l_28, l_29, l_30, l_31, l_32, l_33, l_34, l_35, l_36, l_37, l_38, l_39, l_40, l_41, l_42, l_43, l_44, l_45, l_46, l_47, l_48, l_49, l_50, l_51, l_52, l_53, l_54, l_55, l_56, l_57, l_59, l_60, l_61, l_62, l_63, l_64, l_65, l_80, l_86, l_87, l_88, l_89, l_90, l_91, l_92, l_93, l_94, l_95, l_97, l_99, l_100, l_107, l_119, l_122, l_124, l_129, l_140, l_141, l_142, l_143, l_144, l_145, l_147, l_150, l_159, l_160, l_161, l_162, l_205, l_253, l_255, l_256, l_269, l_305, l_380, l_399, l_400, l_420, l_430, l_516, l_600, l_720, l_820, l_905, l_921, l_937, l_953, l_970, l_999, l_1000, l_1790, l_4096, l_9999, l_1000000]
    · unfold f_X12_undo
      simp (disch := omega) only [r1, ↓reduceIte, ↓p_ld, ↓p_st, ↓p_nm, ↓p_nS, ↓p_jn, ↓p_call, ↓p_callv, ↓p_dv, ↓p_rem, h_ldE, h_stE, h_nmE, h_nSE, h_callE, h_callvE, h_dvE, h_remE, if_true, if_false, z_upS, z_upO, z_upK, nI_add, z_mul, z_sub, z_div, Nat.add_zero, Nat.mul_zero, Nat.zero_add, Nat.sub_zero, Nat.zero_mul, z_ltT, z_ltF, z_leT, z_leF, z_eqT, z_eqF, z_inT, z_clT, not_true_eq_false, not_false_eq_true, eq_self, true_or, or_true, z_m_lt, z_m_le, z_lt_m, z_le_m, z_eq_m, z_m_eq, z_rz0, z_rz1, z_m_add, z_of, r_157_0, r_157_1, r_157_2, r_157_3, r_157_6, r_157_7, r_157_8, r_157_9, r_157_10, r_157_11, r_157_27, r_157_28, r_157_29, r_157_30, ↓z_m1, l_0, l_1, l_2, l_3, l_4, l_5, l_6, l_7, l_8, l_9, l_10, l_11, l_12, l_13, l_14, l_15, l_16, l_17, l_18, l_19, l_20, l_21, l_22, l_23, l_24, l_25, l_26, l_27, l_28, l_29, l_30, l_31, l_32, l_33, l_34, l_35, l_36, l_37, l_38, l_39, l_40, l_41, l_42, l_43, l_44, l_45, l_46, l_47, l_48, l_49, l_50, l_51, l_52, l_53, l_54, l_55, l_56, l_57, l_59, l_60, l_61, l_62, l_63, l_64, l_65, l_80, l_86, l_87, l_88, l_89, l_90, l_91, l_92, l_93, l_94, l_95, l_97, l_99, l_100, l_107, l_119, l_122, l_124, l_129, l_140, l_141, l_142, l_143, l_144, l_145, l_147, l_150, l_159, l_160, l_161, l_162, l_205, l_253, l_255, l_256, l_269, l_305, l_380, l_399, l_400, l_420, l_430, l_516, l_600, l_720, l_820, l_905, l_921, l_937, l_953, l_970, l_999, l_1000, l_1790, l_4096, l_9999, l_1000000]
  | succ d =>
    have hp := (c3 d (by omega)).1
    have e62 := (c3 d (by omega)).2
    obtain ⟨g1, g2⟩ := c5 d (Nat.lt_succ_self d)
    have g1 : z_TR σ (63 + 9 * p d) (rows d) mu me := g1
    have g2 : σ (63 + 9 * p d) 17 = nI (w d) := g2
    obtain ⟨v1, v2, v3, v4⟩ := u1 d (Nat.lt_succ_self d)
    have v1 : z_WF (rows d) mu me := v1
    have v3 : rows d 6 = nI (w d) := v3
    have v4 : w d ≤ wn := v4
    obtain ⟨σ1, a2, a3, a4, a5, a6, a7⟩ := c_copyTrain (n := q_F) (σ := σ) z_rf2 (z_rfT (p d) hp) (Or.inl (by omega))
    have hT1 := z_TR.copy hmu hme g1 a4 a5 a6 a7
    have h17 : σ1 2 17 = nI (w d) := by rw [a4 17 (by omega) (by omega)]; exact g2
    have eN : nI (d + 1) - nI 1 = nI d := z_sub (by omega)
    obtain ⟨σ2, b1, b2, b3⟩ := m_undo_L (n := q_F) (d := d) (σ0 := q_up (q_up σ1 61 1 (nI d)) 157 4 (nI d)) (by omega) z_upS q_F 0 _ (by omega) (by unfold q_F; omega) (fun o _ => rfl) (fun k hk => by omega) (fun k _ => rfl)
    have hV2 : ∀ a, a < 86 → σ2 158 a = rows d a := fun a ha => by
      rw [b2]
      show (if a < 86 then _ else _) = _
      rw [if_pos ha, z_upO (by omega), z_upO (by omega), a3 160 (by omega)]
      exact r2 d a (Nat.lt_succ_self d) ha
    have hV2' : ∀ a, 86 ≤ a → σ2 158 a = σ 158 a := fun a ha => by
      rw [b2]
      show (if a < 86 then _ else _) = _
      rw [if_neg (by omega), z_upO (by omega), z_upO (by omega), a3 158 (by omega)]
    have hVr : ∀ a, a < 129 → σ2 158 a = rows d a := fun a ha => by
      by_cases q : a < 86
      · exact hV2 a q
      · rw [hV2' a (by omega)]; exact (v2 a (by omega) ha).symm
    have hfr : ∀ o, o ≠ 158 → o ≠ 157 → o ≠ 61 → (o < 2 ∨ 10 < o) → σ2 o = σ o := fun o o1 o2 o3 o4 => by rw [b1 o o1, z_upO o2, z_upO o3, a3 o (by omega)]
    have hfr2 : ∀ o, 2 ≤ o → o ≤ 10 → σ2 o = σ1 o := fun o o1 o2 => by rw [b1 o (by omega), z_upO (by omega), z_upO (by omega)]
    have h157 : ∀ a, a ≠ 4 → σ2 157 a = σ 157 a := fun a ha => by rw [b1 157 (by omega), z_upK ha, z_upO (by omega), a3 157 (by omega)]
    refine ⟨nI 1, q_up σ1 61 1 (nI d), σ2, ?_, ?_, mu, me, ?_⟩
    · unfold f_X11_undo f_X1_giveBack
      have k1 : ¬ nI (d+1) ≤ (0 : Int32) := by rw [l_0, nI_leI (by omega) (by omega)]; omega
      have k2 : nI (d+1) ≤ (6 : Int32) := by rw [l_6, nI_leI (by omega) (by omega)]; omega
      have e61 : σ1 61 1 = nI (d+1) := by rw [a3 61 (by omega)]; exact c2
      rw [r_0_3, r_0_0, r_1_0, c2, if_neg k1, if_pos k2, r_61_0, l_1, eN, z_ldr (by omega) (by omega) (by omega) e62, z_qif hp, a2, z_callv, e61, eN]
      rfl
    · have e4 : q_up σ1 61 1 (nI d) 157 4 = nI (d+1) := by rw [z_upO (by omega), a3 157 (by omega)]; exact r1
      have k1 : ¬ nI (d+1) = (0 : Int32) := by rw [l_0, nI_eq (by omega) (by omega)]; omega
      unfold f_X12_undo
      rw [e4, if_neg k1, l_1, eN]
      exact b3
    · refine z_Sim.of (V := σ2 158) (hs := (d, rows, w)) (wn := w d) h ⟨⟨?_, ?_, ?_⟩, ?_⟩ rfl ?_ ⟨by show d ≤ 6; omega, ?_, p, ⟨fun i hi => ?_, c4⟩, fun i hi => ?_⟩ ⟨?_, fun i k hi hk => ?_⟩ ⟨by show d ≤ 6; omega, fun i hi => ?_, fun i j hij hj => u2 i j hij (Nat.lt_succ_of_lt hj), by omega, by rw [hVr 6 (by omega)]; exact v3⟩ (fun o ho => hfr o (by omega) (by omega) (by omega) (by omega)) (fun a b1 b2 => h157 a b1)
      · exact (v1.congr hVr).1
      · exact (hT1.fr (fun o o1 o2 => hfr2 o (by omega) (by omega))).congr hmu hme hVr
      · exact z_sam.WT (fun a ha => hV2' a (by omega)) (hC.2.2.fr (fun o o1 o2 o3 => hfr o (by omega) (by omega) (by omega) (by omega)))
      · obtain ⟨w', p1, p2, p3, p4⟩ := hX.2
        have hww : w' = wn := by rw [w2, nI_eq (by omega) (by omega)] at p3; exact p3.symm
        refine ⟨w d, by omega, by rw [hfr2 _ (by omega) (by omega)]; exact h17, by rw [hVr 6 (by omega)]; exact v3, fun i cc hi hcc => ?_⟩
        rw [hfr _ (by omega) (by omega) (by omega) (by omega), hV2' _ (by omega)]
        exact p4 i cc (by omega) hcc
      · rw [hVr 0 (by omega)]; exact v1.2
      · rw [b1 61 (by omega), z_upO (by omega)]; exact z_upS
      · exact ⟨(c3 i hi).1, by rw [hfr 62 (by omega) (by omega) (by omega) (by omega)]; exact (c3 i hi).2⟩
      · have hi : i < d := hi
        have hpi := (c3 i (by omega)).1
        refine ⟨(c5 i (Nat.lt_succ_of_lt hi)).1.fr (fun o o1 o2 => hfr o (by omega) (by omega) (by omega) (by omega)), ?_⟩
        rw [hfr _ (by omega) (by omega) (by omega) (by omega)]
        exact (c5 i (Nat.lt_succ_of_lt hi)).2
      · rw [b1 157 (by omega)]; exact z_upS
      · have hi : i < d := hi
        rw [hfr 160 (by omega) (by omega) (by omega) (by omega)]
        exact r2 i k (Nat.lt_succ_of_lt hi) hk
      · have hi : i < d := hi
        obtain ⟨x1, x2, x3, x4⟩ := u1 i (Nat.lt_succ_of_lt hi)
        exact ⟨x1, fun a y1 y2 => (x2 a y1 y2).trans (hV2' a y1).symm, x3, u2 i d (by omega) (Nat.lt_succ_self d)⟩
theorem P_turnsBy {σ : q_Sto} (h : q_Sim σ) (a0 : Int32)  : ∃ (r : Int32) (σ1 σ2 : q_Sto), f_X11_turnsBy q_F 0 a0 σ = some (r, σ1) ∧ f_X12_turnsBy q_F 157 a0 σ1 = some (r, σ2) ∧ q_Sim σ2 := by
  obtain ⟨mu, me, h⟩ := h
  have hC := z_Sim.C h
  have hmu := hC.1.1
  have hme := hC.1.2.1
  have g8 : σ 2 8 = nI mu := hC.2.1.1.1
  have h86 := hC.1.2.2.1
  obtain ⟨s, hs, h7⟩ := hC.1.2.2.2.2.1
  have h12 := z_p12 hmu
  have hBO := z_bt_ok hmu hme hC.2.2.2.1
  rcases z_mule_cases hmu a0 with ⟨m, hm, rfl, hm1⟩ | hm1
  · have mc := hm1.1 q_F σ g8
    have hs2 : s ||| 2 ^ m < 2 ^ mu := Nat.or_lt_two_pow hs (Nat.pow_lt_pow_right (by omega) (by omega))
    obtain ⟨σ1, f1, f2, f3, f4, f5, f6, f7⟩ := c_standNow (n := q_F) (s := s) z_F402 hC h7
    have hC1 : z_C σ1 (σ 158) mu me := hC.fr (fun o o1 o2 o3 => f1 o o3 (by omega) (by omega))
    have eL := c_lameOnes (n := q_F) (by unfold q_F; omega) hC1.1 hC1.2.1
    rw [h7] at eL
    obtain ⟨σ2, k1, k2, k3, k4, k5, k6⟩ := c_settle (n := q_F) (s := s ||| 2 ^ m) z_F402 hBO (by omega) f2 f3
    have esh := z_shl (m := m) (by omega)
    have mm : f_X12_isMule q_F 157 (nI m) σ2 = some (nI 1, σ2) := hm1.2 q_F σ2 (by rw [k1 158 (by omega) (by omega), f1 158 (by omega) (by omega) (by omega)]; exact h86)
    have e158 : σ2 158 = σ 158 := by rw [k1 158 (by omega) (by omega), f1 158 (by omega) (by omega) (by omega)]
    obtain ⟨σ3, a1, a2, a3, a4, a5⟩ := m_lays (n := q_F) (σ := σ2) (by unfold q_F; omega)
    obtain ⟨σ4, b1, b2, b3⟩ := m_stand (n := q_F) (σ := σ3) z_F402 hC.R h7 (by omega) (by rw [a1 158 (by omega) (by omega)]; exact e158)
    generalize hB : (z_vote (z_bt (σ 158) mu me) (fun i => s.testBit i)).1 = B at *
    generalize hD : z_drv (z_bt (σ 158) mu me) (fun i => s.testBit i) = dn at *
    have hV5 := z_uV (a := 7) (v := nI (s ||| 2 ^ m)) b2
    have hsam : z_same (σ 158) (z_u (z_VV (σ 158) B (z_vw dn)) 7 (nI (s ||| 2 ^ m))) := fun a ha => by rw [z_uK (by omega), z_VVo (by omega) (by omega)]
    have hbt : z_bt (z_u (z_VV (σ 158) B (z_vw dn)) 7 (nI (s ||| 2 ^ m))) mu me = z_bt (σ 158) mu me := by
      sorry
    have hR5 : z_R σ (z_u (z_VV (σ 158) B (z_vw dn)) 7 (nI (s ||| 2 ^ m))) mu me := by
      obtain ⟨q1, q2, q3, q4, q5, q6, q7⟩ := hC.R
      have hWT : z_WT σ 1 (z_u (z_VV (σ 158) B (z_vw dn)) 7 (nI (s ||| 2 ^ m))) mu me := z_sam.WT (fun a ha => hsam a (by omega)) hC.2.2
      exact ⟨q1, q2, by rw [hsam 86 (by omega)]; exact q3, by rw [hsam 87 (by omega)]; exact q4, hWT.2.1, hWT.1, fun m k hm hk => by rw [z_uK (by omega), z_VVo (by omega) (by omega)]; exact q7 m k hm hk⟩
    sorry
  · have mc := hm1.1 q_F σ g8
    have mm := hm1.2 q_F σ h86
    refine ⟨z_m, σ, σ, ?_, ?_, mu, me, h⟩
    · unfold f_X11_turnsBy
      simp (disch := omega) only [mc, ↓reduceIte, ↓p_ld, ↓p_st, ↓p_nm, ↓p_nS, ↓p_jn, ↓p_call, ↓p_callv, ↓p_dv, ↓p_rem, h_ldE, h_stE, h_nmE, h_nSE, h_callE, h_callvE, h_dvE, h_remE, if_true, if_false, z_upS, z_upO, z_upK, nI_add, z_mul, z_sub, z_div, Nat.add_zero, Nat.mul_zero, Nat.zero_add, Nat.sub_zero, Nat.zero_mul, z_ltT, z_ltF, z_leT, z_leF, z_eqT, z_eqF, z_inT, z_clT, not_true_eq_false, not_false_eq_true, eq_self, true_or, or_true, z_m_lt, z_m_le, z_lt_m, z_le_m, z_eq_m, z_m_eq, z_rz0, z_rz1, z_m_add, z_of, r_0_0, r_0_1, r_0_3, r_0_4, r_0_5, r_0_6, r_0_7, r_0_8, r_0_9, r_0_10, r_1_0, r_1_1, r_1_2, r_1_3, r_1_4, r_1_5, r_1_6, r_1_7, r_1_8, r_2_0, r_2_1, r_2_2, r_2_3, r_2_4, r_2_5, r_2_6, r_2_7, r_11_0, r_11_1, r_11_2, r_11_3, r_11_4, r_11_5, r_11_6, r_19_0, r_21_0, r_23_0, r_25_0, r_27_0, r_61_0, r_117_0, r_117_1, r_117_2, r_117_3, r_117_4, r_117_5, r_117_6, r_117_7, r_126_0, r_126_1, r_126_2, r_126_3, r_126_4, r_132_0, r_132_1, r_135_0, r_135_1, r_135_2, r_135_3, r_135_4, r_135_5, r_142_0, r_144_0, r_144_1, r_144_2, r_145_0, r_145_1, r_145_2, r_145_3, r_145_4, r_145_5, r_145_6, r_154_0, r_154_1, r_155_0, ↓z_m1, l_0, l_1, l_2, l_3, l_4, l_5, l_6, l_7, l_8, l_9, l_10, l_11, l_12, l_13, l_14, l_15, l_16, l_17, l_18, l_19, l_20, l_21, l_22, l_23, l_24, l_25, l_26, l_27, l_28, l_29, l_30, l_31, l_32, l_33, l_34, l_35, l_36, l_37, l_38, l_39, l_40, l_41, l_42, l_43, l_44, l_45, l_46, l_47, l_48, l_49, l_50, l_51, l_52, l_53, l_54, l_55, l_56, l_57, l_59, l_60, l_61, l_62, l_63, l_64, l_65, l_80, l_86, l_87, l_88, l_89, l_90, l_91, l_92, l_93, l_94, l_95, l_97, l_99, l_100, l_107, l_119, l_122, l_124, l_129, l_140, l_141, l_142, l_143, l_144, l_145, l_147, l_150, l_159, l_160, l_161, l_162, l_205, l_253, l_255, l_256, l_269, l_305, l_380, l_399, l_400, l_420, l_430, l_516, l_600, l_720, l_820, l_905, l_921, l_937, l_953, l_970, l_999, l_1000, l_1790, l_4096, l_9999, l_1000000]
    · unfold f_X12_turnsBy
      simp (disch := omega) only [mm, ↓reduceIte, ↓p_ld, ↓p_st, ↓p_nm, ↓p_nS, ↓p_jn, ↓p_call, ↓p_callv, ↓p_dv, ↓p_rem, h_ldE, h_stE, h_nmE, h_nSE, h_callE, h_callvE, h_dvE, h_remE, if_true, if_false, z_upS, z_upO, z_upK, nI_add, z_mul, z_sub, z_div, Nat.add_zero, Nat.mul_zero, Nat.zero_add, Nat.sub_zero, Nat.zero_mul, z_ltT, z_ltF, z_leT, z_leF, z_eqT, z_eqF, z_inT, z_clT, not_true_eq_false, not_false_eq_true, eq_self, true_or, or_true, z_m_lt, z_m_le, z_lt_m, z_le_m, z_eq_m, z_m_eq, z_rz0, z_rz1, z_m_add, z_of, r_157_0, r_157_1, r_157_2, r_157_3, r_157_6, r_157_7, r_157_8, r_157_9, r_157_10, r_157_11, r_157_27, r_157_28, r_157_29, r_157_30, ↓z_m1, l_0, l_1, l_2, l_3, l_4, l_5, l_6, l_7, l_8, l_9, l_10, l_11, l_12, l_13, l_14, l_15, l_16, l_17, l_18, l_19, l_20, l_21, l_22, l_23, l_24, l_25, l_26, l_27, l_28, l_29, l_30, l_31, l_32, l_33, l_34, l_35, l_36, l_37, l_38, l_39, l_40, l_41, l_42, l_43, l_44, l_45, l_46, l_47, l_48, l_49, l_50, l_51, l_52, l_53, l_54, l_55, l_56, l_57, l_59, l_60, l_61, l_62, l_63, l_64, l_65, l_80, l_86, l_87, l_88, l_89, l_90, l_91, l_92, l_93, l_94, l_95, l_97, l_99, l_100, l_107, l_119, l_122, l_124, l_129, l_140, l_141, l_142, l_143, l_144, l_145, l_147, l_150, l_159, l_160, l_161, l_162, l_205, l_253, l_255, l_256, l_269, l_305, l_380, l_399, l_400, l_420, l_430, l_516, l_600, l_720, l_820, l_905, l_921, l_937, l_953, l_970, l_999, l_1000, l_1790, l_4096, l_9999, l_1000000]
