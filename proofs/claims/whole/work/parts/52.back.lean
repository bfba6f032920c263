/-! undone; a VOTE without one; the image -/
theorem m_undo_L {n d : Nat} {σ0 : q_Sto} (hd : d ≤ 5) (h4 : σ0 157 4 = nI d) : ∀ j i (σ : q_Sto), i ≤ 86 → 86 < j + i → (∀ o, o ≠ 158 → σ o = σ0 o) → (∀ k, k < i → σ 158 k = σ0 160 (86*d+k)) → (∀ k, i ≤ k → σ 158 k = σ0 158 k) →
    ∃ σ', (∀ o, o ≠ 158 → σ' o = σ0 o) ∧ σ' 158 = (fun k => if k < 86 then σ0 160 (86*d+k) else σ0 158 k) ∧ f_X12_undo_L21 n 157 j (nI i) σ = some (nI 1, σ') := by
  intro j
  induction j with
  | zero => intro i σ h1 h2; omega
  | succ j ih =>
    intro i σ h1 h2 hf hb hc
    by_cases hi : i = 86
    · subst hi
      refine ⟨σ, hf, ?_, ?_⟩
      · funext k
        by_cases q : k < 86
        · rw [if_pos q]; exact hb k q
        · rw [if_neg q]; exact hc k (by omega)
      · rw [f_X12_undo_L21]
        simp (disch := omega) only [↓reduceIte, ↓p_ld, ↓p_st, ↓p_nm, ↓p_nS, ↓p_jn, ↓p_call, ↓p_callv, ↓p_dv, ↓p_rem, h_ldE, h_stE, h_nmE, h_nSE, h_callE, h_callvE, h_dvE, h_remE, if_true, if_false, z_upS, z_upO, z_upK, nI_add, z_mul, z_sub, z_div, Nat.add_zero, Nat.mul_zero, Nat.zero_add, Nat.sub_zero, Nat.zero_mul, z_ltT, z_ltF, z_leT, z_leF, z_eqT, z_eqF, z_inT, z_clT, not_true_eq_false, not_false_eq_true, eq_self, true_or, or_true, z_m_lt, z_m_le, z_lt_m, z_le_m, z_eq_m, z_m_eq, z_rz0, z_rz1, z_m_add, z_of, r_157_0, r_157_1, r_157_2, r_157_3, r_157_6, r_157_7, r_157_8, r_157_9, r_157_10, r_157_11, r_157_27, r_157_28, r_157_29, r_157_30, ↓z_m1, l_0, l_1, l_2, l_3, l_4, l_5, l_6, l_7, l_8, l_9, l_10, l_11, l_12, l_13, l_14, l_15, l_16, l_17, l_18, l_19, l_20, l_21, l_22, l_23, l_24, l_25, l_26, l_27, l_28, l_29, l_30, l_31, l_32, l_33, l_34, l_35, l_36, l_37, l_38, l_39, l_40, l_41, l_42, l_43, l_44, l_45, l_46, l_47, l_48, l_49, l_50, l_51, l_52, l_53, l_54, l_55, l_56, l_57, l_59, l_60, l_61, l_62, l_63, l_64, l_65, l_80, l_86, l_87, l_88, l_89, l_90, l_91, l_92, l_93, l_94, l_95, l_97, l_99, l_100, l_107, l_119, l_122, l_124, l_129, l_140, l_141, l_142, l_143, l_144, l_145, l_147, l_150, l_159, l_160, l_161, l_162, l_205, l_253, l_255, l_256, l_269, l_305, l_380, l_399, l_400, l_420, l_430, l_516, l_600, l_720, l_820, l_905, l_921, l_937, l_953, l_970, l_999, l_1000, l_1790, l_4096, l_9999, l_1000000]
    · obtain ⟨σ', g1, g2, g5⟩ := ih (i+1) (q_up σ 158 i (σ0 160 (86*d+i))) (by omega) (by omega) (fun o ho => by rw [z_upO ho, hf o ho]) (fun k hk => by
        by_cases e : k = i
        · subst e; exact z_upS
        · rw [z_upK e]; exact hb k (by omega)) (fun k hk => by rw [z_upK (by omega)]; exact hc k (by omega))
      refine ⟨σ', g1, g2, ?_⟩
      have e : σ 160 (86*d+i) = σ0 160 (86*d+i) := by rw [hf 160 (by omega)]
      have e4 : σ 157 4 = nI d := by rw [hf 157 (by omega)]; exact h4
      rw [← g5, f_X12_undo_L21]
      simp (disch := omega) only [e, e4, ↓reduceIte, ↓p_ld, ↓p_st, ↓p_nm, ↓p_nS, ↓p_jn, ↓p_call, ↓p_callv, ↓p_dv, ↓p_rem, h_ldE, h_stE, h_nmE, h_nSE, h_callE, h_callvE, h_dvE, h_remE, if_true, if_false, z_upS, z_upO, z_upK, nI_add, z_mul, z_sub, z_div, Nat.add_zero, Nat.mul_zero, Nat.zero_add, Nat.sub_zero, Nat.zero_mul, z_ltT, z_ltF, z_leT, z_leF, z_eqT, z_eqF, z_inT, z_clT, not_true_eq_false, not_false_eq_true, eq_self, true_or, or_true, z_m_lt, z_m_le, z_lt_m, z_le_m, z_eq_m, z_m_eq, z_rz0, z_rz1, z_m_add, z_of, r_157_0, r_157_1, r_157_2, r_157_3, r_157_6, r_157_7, r_157_8, r_157_9, r_157_10, r_157_11, r_157_27, r_157_28, r_157_29, r_157_30, ↓z_m1, l_0, l_1, l_2, l_3, l_4, l_5, l_6, l_7, l_8, l_9, l_10, l_11, l_12, l_13, l_14, l_15, l_16, l_17, l_18, l_19, l_20, l_21, l_22, l_23, l_24, l_25, l_26, l_27, l_28, l_29, l_30, l_31, l_32, l_33, l_34, l_35, l_36, l_37, l_38, l_39, l_40, l_41, l_42, l_43, l_44, l_45, l_46, l_47, l_48, l_49, l_50, l_51, l_52, l_53, l_54, l_55, l_56, l_57, l_59, l_60, l_61, l_62, l_63, l_64, l_65, l_80, l_86, l_87, l_88, l_89, l_90, l_91, l_92, l_93, l_94, l_95, l_97, l_99, l_100, l_107, l_119, l_122, l_124, l_129, l_140, l_141, l_142, l_143, l_144, l_145, l_147, l_150, l_159, l_160, l_161, l_162, l_205, l_253, l_255, l_256, l_269, l_305, l_380, l_399, l_400, l_420, l_430, l_516, l_600, l_720, l_820, l_905, l_921, l_937, l_953, l_970, l_999, l_1000, l_1790, l_4096, l_9999, l_1000000]
theorem P_undo {σ : q_Sto} (h : q_Sim σ)   : ∃ (r : Int32) (σ1 σ2 : q_Sto), f_X11_undo q_F 0  σ = some (r, σ1) ∧ f_X12_undo q_F 157  σ1 = some (r, σ2) ∧ q_Sim σ2 := by
  obtain ⟨mu, me, h⟩ := h
  have hC := z_Sim.C h
  have hmu := hC.1.1
  have hme := hC.1.2.1
  obtain ⟨⟨c, rows, w⟩, wn, hX, h0, ⟨c1, c2, p, ⟨c3, c4⟩, c5⟩, ⟨r1, r2⟩, ⟨-, u1, u2, u3, u4⟩, w1, w2, w3⟩ := z_Sim.un h
  have c1 : c ≤ 6 := c1
  have c2 : σ 61 1 = nI c := c2
  have r1 : σ 157 4 = nI c := r1
  cases c with
  | zero =>
    refine ⟨nI 0, σ, σ, ?_, ?_, mu, me, h⟩
    · unfold f_X11_undo
      simp (disch := omega) only [f_X1_giveBack, c2, ↓reduceIte, ↓p_ld, ↓p_st, ↓p_nm, ↓p_nS, ↓p_jn, ↓p_call, ↓p_callv, ↓p_dv, ↓p_rem, h_ldE, h_stE, h_nmE, h_nSE, h_callE, h_callvE, h_dvE, h_remE, if_true, if_false, z_upS, z_upO, z_upK, nI_add, z_mul, z_sub, z_div, Nat.add_zero, Nat.mul_zero, Nat.zero_add, Nat.sub_zero, Nat.zero_mul, z_ltT, z_ltF, z_leT, z_leF, z_eqT, z_eqF, z_inT, z_clT, not_true_eq_false, not_false_eq_true, eq_self, true_or, or_true, z_m_lt, z_m_le, z_lt_m, z_le_m, z_eq_m, z_m_eq, z_rz0, z_rz1, z_m_add, z_of, r_0_0, r_0_1, r_0_3, r_0_4, r_0_5, r_0_6, r_0_7, r_0_8, r_0_9, r_0_10, r_1_0, r_1_1, r_1_2, r_1_3, r_1_4, r_1_5, r_1_6, r_1_7, r_1_8, r_2_0, r_2_1, r_2_2, r_2_3, r_2_4, r_2_5, r_2_6, r_2_7, r_11_0, r_11_1, r_11_2, r_11_3, r_11_4, r_11_5, r_11_6, r_19_0, r_21_0, r_23_0, r_25_0, r_27_0, r_61_0, r_117_0, r_117_1, r_117_2, r_117_3, r_117_4, r_117_5, r_117_6, r_117_7, r_126_0, r_126_1, r_126_2, r_126_3, r_126_4, r_132_0, r_132_1, r_135_0, r_135_1, r_135_2, r_135_3, r_135_4, r_135_5, r_142_0, r_144_0, r_144_1, r_144_2, r_145_0, r_145_1, r_145_2, r_145_3, r_145_4, r_145_5, r_145_6, r_154_0, r_154_1, r_155_0, ↓z_m1, l_0, l_1, l_2, l_3, l_4, l_5, l_6, l_7, l_8, l_9, l_10, l_11, l_12, l_13, l_14, l_15, l_16, l_17, l_18, l_19, l_20, l_21, l_22, l_23, l_24, l_25, l_26, l_27, l_28, l_29, l_30, l_31, l_32, l_33, l_34, l_35, l_36, l_37, l_38, l_39, l_40, l_41, l_42, l_43, l_44, l_45, l_46, l_47, l_48, l_49, l_50, l_51, l_52, l_53, l_54, l_55, l_56, l_57, l_59, l_60, l_61, l_62, l_63, l_64, l_65, l_80, l_86, l_87, l_88, l_89, l_90, l_91, l_92, l_93, l_94, l_95, l_97, l_99, l_100, l_107, l_119, l_122, l_124, l_129, l_140, l_141, l_142, l_143, l_144, l_145, l_147, l_150, l_159, l_160, l_161, l_162, l_205, l_253, l_255, l_256, l_269, l_305, l_380, l_399, l_400, l_420, l_430, l_516, l_600, l_720, l_820, l_905, l_921, l_937, l_953, l_970, l_999, l_1000, l_1790, l_4096, l_9999, l_1000000]
    · unfold f_X12_undo
      simp (disch := omega) only [r1, ↓reduceIte, ↓p_ld, ↓p_st, ↓p_nm, ↓p_nS, ↓p_jn, ↓p_call, ↓p_callv, ↓p_dv, ↓p_rem, h_ldE, h_stE, h_nmE, h_nSE, h_callE, h_callvE, h_dvE, h_remE, if_true, if_false, z_upS, z_upO, z_upK, nI_add, z_mul, z_sub, z_div, Nat.add_zero, Nat.mul_zero, Nat.zero_add, Nat.sub_zero, Nat.zero_mul, z_ltT, z_ltF, z_leT, z_leF, z_eqT, z_eqF, z_inT, z_clT, not_true_eq_false, not_false_eq_true, eq_self, true_or, or_true, z_m_lt, z_m_le, z_lt_m, z_le_m, z_eq_m, z_m_eq, z_rz0, z_rz1, z_m_add, z_of, r_157_0, r_157_1, r_157_2, r_157_3, r_157_6, r_157_7, r_157_8, r_157_9, r_157_10, r_157_11, r_157_27, r_157_28, r_157_29, r_157_30, ↓z_m1, l_0, l_1, l_2, l_3, l_4, l_5, l_6, l_7, l_8, l_9, l_10, l_11, l_12, l_13, l_14, l_15, l_16, l_17, l_18, l_19, l_20, l_21, l_22, l_23, l_24, l_25, l_26, l_27, l_28, l_29, l_30, l_31, l_32, l_33, l_34, l_35, l_36, l_37, l_38, l_39, l_40, l_41, l_42, l_43, l_44, l_45, l_46, l_47, l_48, l_49, l_50, l_51, l_52, l_53, l_54, l_55, l_56, l_57, l_59, l_60, l_61, l_62, l_63, l_64, l_65, l_80, l_86, l_87, l_88, l_89, l_90, l_91, l_92, l_93, l_94, l_95, l_97, l_99, l_100, l_107, l_119, l_122, l_124, l_129, l_140, l_141, l_142, l_143, l_144, l_145, l_147, l_150, l_159, l_160, l_161, l_162, l_205, l_253, l_255, l_256, l_269, l_305, l_380, l_399, l_400, l_420, l_430, l_516, l_600, l_720, l_820, l_905, l_921, l_937, l_953, l_970, l_999, l_1000, l_1790, l_4096, l_9999, l_1000000]
  | succ d =>
    have hp := (c3 d (by omega)).1
    have e62 := (c3 d (by omega)).2
    obtain ⟨g1, g2⟩ := c5 d (Nat.lt_succ_self d)
    have g1 : z_TR σ (63 + 9 * p d) (rows d) mu me := g1
    have g2 : σ (63 + 9 * p d) 17 = nI (w d) := g2
    obtain ⟨v1, v2, v3, v4⟩ := u1 d (Nat.lt_succ_self d)
    have v1 : z_WF (rows d) mu me := v1
    have v3 : rows d 6 = nI (w d) := v3
    have v4 : w d ≤ wn := v4
    obtain ⟨σ1, a2, a3, a4, a5, a6, a7⟩ := c_copyTrain (n := q_F) (σ := σ) z_rf2 (z_rfT (p d) hp) (Or.inl (by omega))
    have hT1 := z_TR.copy hmu hme g1 a4 a5 a6 a7
    have h17 : σ1 2 17 = nI (w d) := by rw [a4 17 (by omega) (by omega)]; exact g2
    have eN : nI (d + 1) - nI 1 = nI d := z_sub (by omega)
    obtain ⟨σ2, b1, b2, b3⟩ := m_undo_L (n := q_F) (d := d) (σ0 := q_up (q_up σ1 61 1 (nI d)) 157 4 (nI d)) (by omega) z_upS q_F 0 _ (by omega) (by unfold q_F; omega) (fun o _ => rfl) (fun k hk => by omega) (fun k _ => rfl)
    have hV2 : ∀ a, a < 86 → σ2 158 a = rows d a := fun a ha => by
      rw [b2]
      show (if a < 86 then _ else _) = _
      rw [if_pos ha, z_upO (by omega), z_upO (by omega), a3 160 (by omega)]
      exact r2 d a (Nat.lt_succ_self d) ha
    have hV2' : ∀ a, 86 ≤ a → σ2 158 a = σ 158 a := fun a ha => by
      rw [b2]
      show (if a < 86 then _ else _) = _
      rw [if_neg (by omega), z_upO (by omega), z_upO (by omega), a3 158 (by omega)]
    have hVr : ∀ a, a < 129 → σ2 158 a = rows d a := fun a ha => by
      by_cases q : a < 86
      · exact hV2 a q
      · rw [hV2' a (by omega)]; exact (v2 a (by omega) ha).symm
    have hfr : ∀ o, o ≠ 158 → o ≠ 157 → o ≠ 61 → (o < 2 ∨ 10 < o) → σ2 o = σ o := fun o o1 o2 o3 o4 => by rw [b1 o o1, z_upO o2, z_upO o3, a3 o (by omega)]
    have hfr2 : ∀ o, 2 ≤ o → o ≤ 10 → σ2 o = σ1 o := fun o o1 o2 => by rw [b1 o (by omega), z_upO (by omega), z_upO (by omega)]
    have h157 : ∀ a, a ≠ 4 → σ2 157 a = σ 157 a := fun a ha => by rw [b1 157 (by omega), z_upK ha, z_upO (by omega), a3 157 (by omega)]
    refine ⟨nI 1, q_up σ1 61 1 (nI d), σ2, ?_, ?_, mu, me, ?_⟩
    · unfold f_X11_undo f_X1_giveBack
      have k1 : ¬ nI (d+1) ≤ (0 : Int32) := by rw [l_0, nI_leI (by omega) (by omega)]; omega
      have k2 : nI (d+1) ≤ (6 : Int32) := by rw [l_6, nI_leI (by omega) (by omega)]; omega
      have e61 : σ1 61 1 = nI (d+1) := by rw [a3 61 (by omega)]; exact c2
      rw [r_0_3, r_0_0, r_1_0, c2, if_neg k1, if_pos k2, r_61_0, l_1, eN, z_ldr (by omega) (by omega) (by omega) e62, z_qif hp, a2, z_callv, e61, eN, p_nS, h_nSE, z_call]
      exact z_rz1
    · have e4 : q_up σ1 61 1 (nI d) 157 4 = nI (d+1) := by rw [z_upO (by omega), a3 157 (by omega)]; exact r1
      have k1 : ¬ nI (d+1) = (0 : Int32) := by rw [l_0, nI_eq (by omega) (by omega)]; omega
      unfold f_X12_undo
      rw [e4, if_neg k1, l_1, eN, p_nS, h_nSE, l_0]
      exact b3
    · refine z_Sim.of (V := σ2 158) (hs := (d, rows, w)) (wn := w d) h ⟨⟨?_, ?_, ?_⟩, ?_⟩ rfl ?_ ⟨by show d ≤ 6; omega, ?_, p, ⟨fun i hi => ?_, c4⟩, fun i hi => ?_⟩ ⟨?_, fun i k hi hk => ?_⟩ ⟨by show d ≤ 6; omega, fun i hi => ?_, fun i j hij hj => u2 i j hij (Nat.lt_succ_of_lt hj), by omega, by rw [hVr 6 (by omega)]; exact v3⟩ (fun o ho => hfr o (by omega) (by omega) (by omega) (by omega)) (fun a b1 b2 => h157 a b1)
      · exact (v1.congr hVr).1
      · exact (hT1.fr (fun o o1 o2 => hfr2 o (by omega) (by omega))).congr hmu hme hVr
      · exact z_sam.WT (fun a ha => hV2' a (by omega)) (hC.2.2.fr (fun o o1 o2 o3 => hfr o (by omega) (by omega) (by omega) (by omega)))
      · obtain ⟨w', p1, p2, p3, p4⟩ := hX.2
        have hww : w' = wn := by rw [w2, nI_eq (by omega) (by omega)] at p3; exact p3.symm
        refine ⟨w d, by omega, by rw [hfr2 _ (by omega) (by omega)]; exact h17, by rw [hVr 6 (by omega)]; exact v3, fun i cc hi hcc => ?_⟩
        rw [hfr _ (by omega) (by omega) (by omega) (by omega), hV2' _ (by omega)]
        exact p4 i cc (by omega) hcc
      · rw [hVr 0 (by omega)]; exact v1.2
      · rw [b1 61 (by omega), z_upO (by omega)]; exact z_upS
      · exact ⟨(c3 i hi).1, by rw [hfr 62 (by omega) (by omega) (by omega) (by omega)]; exact (c3 i hi).2⟩
      · have hi : i < d := hi
        have hpi := (c3 i (by omega)).1
        refine ⟨(c5 i (Nat.lt_succ_of_lt hi)).1.fr (fun o o1 o2 => hfr o (by omega) (by omega) (by omega) (by omega)), ?_⟩
        rw [hfr _ (by omega) (by omega) (by omega) (by omega)]
        exact (c5 i (Nat.lt_succ_of_lt hi)).2
      · rw [b1 157 (by omega)]; exact z_upS
      · have hi : i < d := hi
        rw [hfr 160 (by omega) (by omega) (by omega) (by omega)]
        exact r2 i k (Nat.lt_succ_of_lt hi) hk
      · have hi : i < d := hi
        obtain ⟨x1, x2, x3, x4⟩ := u1 i (Nat.lt_succ_of_lt hi)
        exact ⟨x1, fun a y1 y2 => (x2 a y1 y2).trans (hV2' a y1).symm, x3, u2 i d (by omega) (Nat.lt_succ_self d)⟩
theorem z_fc_c2 {V V' : Nat → Int32} (h : ∀ a, a = 0 ∨ 20 ≤ a → V' a = V a) (m : Nat) (lk hd ha so ho : Int32) : z_fc V' m lk hd ha so ho = z_fc V m lk hd ha so ho := by
  funext f
  unfold z_fc
  split <;> first | rfl | exact h _ (by omega)
theorem z_bt_c2 {V V' : Nat → Int32} (h : ∀ a, a = 0 ∨ 20 ≤ a → V' a = V a) (mu me : Nat) : z_bt V' mu me = z_bt V mu me := by
  have e1 : (fun m k hh => z_lean V' m k (z_lk V' m k) hh) = fun m k hh => z_lean V m k (z_lk V m k) hh := by
    funext m k hh
    have : z_lk V' m k = z_lk V m k := by
      unfold z_lk
      rw [h _ (by omega)]
    rw [this]
    unfold z_lean
    rw [z_fc_c2 h, h (119+k) (by omega), h (124+k) (by omega), h 89 (by omega), z_tl_congr (fun a ha => h a (by omega))]
  have e2 : (fun m => z_need V' m) = fun m => z_need V m := by
    funext m
    unfold z_need
    rw [z_fc_c2 h, h 89 (by omega), z_tl_congr (fun a ha => h a (by omega))]
  have e3 : z_hs V' = z_hs V := by
    funext m
    show (if _ then _ else _) = (if _ then _ else _)
    rw [h (129+m) (by omega)]
  show (_, _, _, mu, me) = (_, _, _, mu, me)
  rw [e1, e2, e3]
theorem P_turnsBy {σ : q_Sto} (h : q_Sim σ) (a0 : Int32)  : ∃ (r : Int32) (σ1 σ2 : q_Sto), f_X11_turnsBy q_F 0 a0 σ = some (r, σ1) ∧ f_X12_turnsBy q_F 157 a0 σ1 = some (r, σ2) ∧ q_Sim σ2 := by
  obtain ⟨mu, me, h⟩ := h
  have hC := z_Sim.C h
  have hmu := hC.1.1
  have hme := hC.1.2.1
  have g8 : σ 2 8 = nI mu := hC.2.1.1.1
  have h86 := hC.1.2.2.1
  obtain ⟨s, hs, h7⟩ := hC.1.2.2.2.2.1
  have h12 := z_p12 hmu
  have hBO := z_bt_ok hmu hme hC.2.2.2.1
  rcases z_mule_cases hmu a0 with ⟨m, hm, rfl, hm1⟩ | hm1
  · have mc := hm1.1 q_F σ g8
    have hs2 : s ||| 2 ^ m < 2 ^ mu := Nat.or_lt_two_pow hs (Nat.pow_lt_pow_right (by omega) (by omega))
    obtain ⟨σ1, f1, f2, f3, f4, f5, f6, f7⟩ := c_standNow (n := q_F) (s := s) z_F402 hC h7
    have hC1 : z_C σ1 (σ 158) mu me := hC.fr (fun o o1 o2 o3 => f1 o o3 (by omega) (by omega))
    have eL := c_lameOnes (n := q_F) (by unfold q_F; omega) hC1.1 hC1.2.1
    rw [h7] at eL
    obtain ⟨σ2, k1, k2, k3, k4, k5, k6⟩ := c_settle (n := q_F) (s := s ||| 2 ^ m) z_F402 hBO (by omega) f2 f3
    have esh := z_shl (m := m) (by omega)
    have mm : f_X12_isMule q_F 157 (nI m) σ2 = some (nI 1, σ2) := hm1.2 q_F σ2 (by rw [k1 158 (by omega) (by omega), f1 158 (by omega) (by omega) (by omega)]; exact h86)
    have e158 : σ2 158 = σ 158 := by rw [k1 158 (by omega) (by omega), f1 158 (by omega) (by omega) (by omega)]
    obtain ⟨σ3, a1, a2, a3, a4, a5⟩ := m_lays (n := q_F) (σ := σ2) (by unfold q_F; omega)
    obtain ⟨σ4, b1, b2, b3⟩ := m_stand (n := q_F) (σ := σ3) z_F402 hC.R h7 (by omega) (by rw [a1 158 (by omega) (by omega)]; exact e158)
    have hdm : z_drv (z_bt (σ 158) mu me) (fun i => s.testBit i) ≤ me := (z_lea_le (B := (z_vote (z_bt (σ 158) mu me) (fun i => s.testBit i)).1) (mu := mu) me).1
    have hdm2 : z_drv (z_bt (σ 158) mu me) (fun i => (s ||| 2 ^ m).testBit i) ≤ me := (z_lea_le (B := (z_vote (z_bt (σ 158) mu me) (fun i => (s ||| 2 ^ m).testBit i)).1) (mu := mu) me).1
    generalize (z_vote (z_bt (σ 158) mu me) (fun i => s.testBit i)).1 = B at *
    generalize z_drv (z_bt (σ 158) mu me) (fun i => s.testBit i) = dn at *
    have hV5 := z_uV (a := 7) (v := nI (s ||| 2 ^ m)) b2
    have hsam : ∀ a, a = 0 ∨ 20 ≤ a → z_u (z_VV (σ 158) B (z_vw dn)) 7 (nI (s ||| 2 ^ m)) a = σ 158 a := fun a ha => by rw [z_uK (by omega), z_VVo (by omega) (by omega)]
    have hbt := z_bt_c2 hsam mu me
    have hR5 : z_R σ (z_u (z_VV (σ 158) B (z_vw dn)) 7 (nI (s ||| 2 ^ m))) mu me := by
      obtain ⟨q1, q2, q3, q4, q5, q6, q7⟩ := hC.R
      have hWT : z_WT σ 1 (z_u (z_VV (σ 158) B (z_vw dn)) 7 (nI (s ||| 2 ^ m))) mu me := z_sam.WT (fun a ha => hsam a (by omega)) hC.2.2
      exact ⟨q1, q2, by rw [hsam 86 (by omega)]; exact q3, by rw [hsam 87 (by omega)]; exact q4, hWT.2.1, hWT.1, fun m k hm hk => by rw [hsam _ (by omega)]; exact q7 m k hm hk⟩
    obtain ⟨σ6, d1, d2, d3⟩ := m_stand (n := q_F) (s := s ||| 2 ^ m) (σ := q_up σ4 158 7 (nI (s ||| 2 ^ m))) z_F402 hR5 z_uS (by omega) hV5
    rw [hbt] at d2 d3
    generalize (z_vote (z_bt (σ 158) mu me) (fun i => (s ||| 2 ^ m).testBit i)).1 = B2 at *
    generalize z_drv (z_bt (σ 158) mu me) (fun i => (s ||| 2 ^ m).testBit i) = dn2 at *
    obtain ⟨σ7, e1, e2, e3⟩ := m_puts (n := q_F) (V := σ 158) (σ := σ6) (by unfold q_F; omega) (fun k hk => by rw [d1 161 (by omega) (by omega) (by omega), z_upO (by omega), b1 161 (by omega) (by omega) (by omega), a4 k hk, e158]) (fun k hk => by rw [d2, z_VVo (by omega) (by omega), hsam k (by omega)])
    have g2 : σ4 158 2 = z_vw dn := by rw [b2, z_VV2]
    have g7 : σ4 158 7 = nI s := by rw [b2, z_VVo (by omega) (by omega)]; exact h7
    have g62 : σ6 158 2 = z_vw dn2 := by rw [d2, z_VV2]
    have hS : z_SimN σ7 mu me := z_Sim.th h (fun o o1 o2 o3 o4 o5 o6 => by
      by_cases q : o = 158
      · subst q; exact e2
      · rw [e1 o q, d1 o q (by omega) (by omega), z_upO q, b1 o q (by omega) (by omega), a1 o o5 o4, k1 o (by omega) (by omega), f1 o o1 o2 (by omega)]) (fun a ha => by rw [e1 157 (by omega), d1 157 (by omega) (by omega) (by omega), z_upO (by omega), b1 157 (by omega) (by omega) (by omega), a2 a ha, k1 157 (by omega) (by omega), f1 157 (by omega) (by omega) (by omega)])
    have hve := z_vw_eq (a := dn2) (b := dn) (by omega) (by omega)
    have hve2 := z_vw_eq (a := dn) (b := dn2) (by omega) (by omega)
    by_cases hq : dn = dn2
    · subst hq
      refine ⟨nI 0, σ2, σ7, ?_, ?_, mu, me, hS⟩
      · unfold f_X11_turnsBy
        simp (disch := omega) only [mc, f7, f5, eL, esh, z_or, k6, k4, ↓reduceIte, ↓p_ld, ↓p_st, ↓p_nm, ↓p_nS, ↓p_jn, ↓p_call, ↓p_callv, ↓p_dv, ↓p_rem, h_ldE, h_stE, h_nmE, h_nSE, h_callE, h_callvE, h_dvE, h_remE, if_true, if_false, z_upS, z_upO, z_upK, nI_add, z_mul, z_sub, z_div, Nat.add_zero, Nat.mul_zero, Nat.zero_add, Nat.sub_zero, Nat.zero_mul, z_ltT, z_ltF, z_leT, z_leF, z_eqT, z_eqF, z_inT, z_clT, not_true_eq_false, not_false_eq_true, eq_self, true_or, or_true, z_m_lt, z_m_le, z_lt_m, z_le_m, z_eq_m, z_m_eq, z_rz0, z_rz1, z_m_add, z_of, r_0_0, r_0_1, r_0_3, r_0_4, r_0_5, r_0_6, r_0_7, r_0_8, r_0_9, r_0_10, r_1_0, r_1_1, r_1_2, r_1_3, r_1_4, r_1_5, r_1_6, r_1_7, r_1_8, r_2_0, r_2_1, r_2_2, r_2_3, r_2_4, r_2_5, r_2_6, r_2_7, r_11_0, r_11_1, r_11_2, r_11_3, r_11_4, r_11_5, r_11_6, r_19_0, r_21_0, r_23_0, r_25_0, r_27_0, r_61_0, r_117_0, r_117_1, r_117_2, r_117_3, r_117_4, r_117_5, r_117_6, r_117_7, r_126_0, r_126_1, r_126_2, r_126_3, r_126_4, r_132_0, r_132_1, r_135_0, r_135_1, r_135_2, r_135_3, r_135_4, r_135_5, r_142_0, r_144_0, r_144_1, r_144_2, r_145_0, r_145_1, r_145_2, r_145_3, r_145_4, r_145_5, r_145_6, r_154_0, r_154_1, r_155_0, ↓z_m1, l_0, l_1, l_2, l_3, l_4, l_5, l_6, l_7, l_8, l_9, l_10, l_11, l_12, l_13, l_14, l_15, l_16, l_17, l_18, l_19, l_20, l_21, l_22, l_23, l_24, l_25, l_26, l_27, l_28, l_29, l_30, l_31, l_32, l_33, l_34, l_35, l_36, l_37, l_38, l_39, l_40, l_41, l_42, l_43, l_44, l_45, l_46, l_47, l_48, l_49, l_50, l_51, l_52, l_53, l_54, l_55, l_56, l_57, l_59, l_60, l_61, l_62, l_63, l_64, l_65, l_80, l_86, l_87, l_88, l_89, l_90, l_91, l_92, l_93, l_94, l_95, l_97, l_99, l_100, l_107, l_119, l_122, l_124, l_129, l_140, l_141, l_142, l_143, l_144, l_145, l_147, l_150, l_159, l_160, l_161, l_162, l_205, l_253, l_255, l_256, l_269, l_305, l_380, l_399, l_400, l_420, l_430, l_516, l_600, l_720, l_820, l_905, l_921, l_937, l_953, l_970, l_999, l_1000, l_1790, l_4096, l_9999, l_1000000]
      · unfold f_X12_turnsBy
        simp (disch := omega) only [mm, a5, b3, g2, g7, esh, z_or, d3, g62, e3, ↓reduceIte, ↓p_ld, ↓p_st, ↓p_nm, ↓p_nS, ↓p_jn, ↓p_call, ↓p_callv, ↓p_dv, ↓p_rem, h_ldE, h_stE, h_nmE, h_nSE, h_callE, h_callvE, h_dvE, h_remE, if_true, if_false, z_upS, z_upO, z_upK, nI_add, z_mul, z_sub, z_div, Nat.add_zero, Nat.mul_zero, Nat.zero_add, Nat.sub_zero, Nat.zero_mul, z_ltT, z_ltF, z_leT, z_leF, z_eqT, z_eqF, z_inT, z_clT, not_true_eq_false, not_false_eq_true, eq_self, true_or, or_true, z_m_lt, z_m_le, z_lt_m, z_le_m, z_eq_m, z_m_eq, z_rz0, z_rz1, z_m_add, z_of, r_157_0, r_157_1, r_157_2, r_157_3, r_157_6, r_157_7, r_157_8, r_157_9, r_157_10, r_157_11, r_157_27, r_157_28, r_157_29, r_157_30, ↓z_m1, l_0, l_1, l_2, l_3, l_4, l_5, l_6, l_7, l_8, l_9, l_10, l_11, l_12, l_13, l_14, l_15, l_16, l_17, l_18, l_19, l_20, l_21, l_22, l_23, l_24, l_25, l_26, l_27, l_28, l_29, l_30, l_31, l_32, l_33, l_34, l_35, l_36, l_37, l_38, l_39, l_40, l_41, l_42, l_43, l_44, l_45, l_46, l_47, l_48, l_49, l_50, l_51, l_52, l_53, l_54, l_55, l_56, l_57, l_59, l_60, l_61, l_62, l_63, l_64, l_65, l_80, l_86, l_87, l_88, l_89, l_90, l_91, l_92, l_93, l_94, l_95, l_97, l_99, l_100, l_107, l_119, l_122, l_124, l_129, l_140, l_141, l_142, l_143, l_144, l_145, l_147, l_150, l_159, l_160, l_161, l_162, l_205, l_253, l_255, l_256, l_269, l_305, l_380, l_399, l_400, l_420, l_430, l_516, l_600, l_720, l_820, l_905, l_921, l_937, l_953, l_970, l_999, l_1000, l_1790, l_4096, l_9999, l_1000000]
    · have hq2 : ¬ dn2 = dn := fun q => hq q.symm
      have hF1 : (z_vw dn2 = z_vw dn) = False := by rw [hve]; exact eq_false hq2
      have hF2 : (z_vw dn = z_vw dn2) = False := by rw [hve2]; exact eq_false hq
      refine ⟨nI 1, σ2, σ7, ?_, ?_, mu, me, hS⟩
      · unfold f_X11_turnsBy
        simp (disch := omega) only [mc, f7, f5, eL, esh, z_or, k6, k4, hF1, ↓reduceIte, ↓p_ld, ↓p_st, ↓p_nm, ↓p_nS, ↓p_jn, ↓p_call, ↓p_callv, ↓p_dv, ↓p_rem, h_ldE, h_stE, h_nmE, h_nSE, h_callE, h_callvE, h_dvE, h_remE, if_true, if_false, z_upS, z_upO, z_upK, nI_add, z_mul, z_sub, z_div, Nat.add_zero, Nat.mul_zero, Nat.zero_add, Nat.sub_zero, Nat.zero_mul, z_ltT, z_ltF, z_leT, z_leF, z_eqT, z_eqF, z_inT, z_clT, not_true_eq_false, not_false_eq_true, eq_self, true_or, or_true, z_m_lt, z_m_le, z_lt_m, z_le_m, z_eq_m, z_m_eq, z_rz0, z_rz1, z_m_add, z_of, r_0_0, r_0_1, r_0_3, r_0_4, r_0_5, r_0_6, r_0_7, r_0_8, r_0_9, r_0_10, r_1_0, r_1_1, r_1_2, r_1_3, r_1_4, r_1_5, r_1_6, r_1_7, r_1_8, r_2_0, r_2_1, r_2_2, r_2_3, r_2_4, r_2_5, r_2_6, r_2_7, r_11_0, r_11_1, r_11_2, r_11_3, r_11_4, r_11_5, r_11_6, r_19_0, r_21_0, r_23_0, r_25_0, r_27_0, r_61_0, r_117_0, r_117_1, r_117_2, r_117_3, r_117_4, r_117_5, r_117_6, r_117_7, r_126_0, r_126_1, r_126_2, r_126_3, r_126_4, r_132_0, r_132_1, r_135_0, r_135_1, r_135_2, r_135_3, r_135_4, r_135_5, r_142_0, r_144_0, r_144_1, r_144_2, r_145_0, r_145_1, r_145_2, r_145_3, r_145_4, r_145_5, r_145_6, r_154_0, r_154_1, r_155_0, ↓z_m1, l_0, l_1, l_2, l_3, l_4, l_5, l_6, l_7, l_8, l_9, l_10, l_11, l_12, l_13, l_14, l_15, l_16, l_17, l_18, l_19, l_20, l_21, l_22, l_23, l_24, l_25, l_26, l_27, l_28, l_29, l_30, l_31, l_32, l_33, l_34, l_35, l_36, l_37, l_38, l_39, l_40, l_41, l_42, l_43, l_44, l_45, l_46, l_47, l_48, l_49, l_50, l_51, l_52, l_53, l_54, l_55, l_56, l_57, l_59, l_60, l_61, l_62, l_63, l_64, l_65, l_80, l_86, l_87, l_88, l_89, l_90, l_91, l_92, l_93, l_94, l_95, l_97, l_99, l_100, l_107, l_119, l_122, l_124, l_129, l_140, l_141, l_142, l_143, l_144, l_145, l_147, l_150, l_159, l_160, l_161, l_162, l_205, l_253, l_255, l_256, l_269, l_305, l_380, l_399, l_400, l_420, l_430, l_516, l_600, l_720, l_820, l_905, l_921, l_937, l_953, l_970, l_999, l_1000, l_1790, l_4096, l_9999, l_1000000]
      · unfold f_X12_turnsBy
        simp (disch := omega) only [mm, a5, b3, g2, g7, esh, z_or, d3, g62, e3, hF2, ↓reduceIte, ↓p_ld, ↓p_st, ↓p_nm, ↓p_nS, ↓p_jn, ↓p_call, ↓p_callv, ↓p_dv, ↓p_rem, h_ldE, h_stE, h_nmE, h_nSE, h_callE, h_callvE, h_dvE, h_remE, if_true, if_false, z_upS, z_upO, z_upK, nI_add, z_mul, z_sub, z_div, Nat.add_zero, Nat.mul_zero, Nat.zero_add, Nat.sub_zero, Nat.zero_mul, z_ltT, z_ltF, z_leT, z_leF, z_eqT, z_eqF, z_inT, z_clT, not_true_eq_false, not_false_eq_true, eq_self, true_or, or_true, z_m_lt, z_m_le, z_lt_m, z_le_m, z_eq_m, z_m_eq, z_rz0, z_rz1, z_m_add, z_of, r_157_0, r_157_1, r_157_2, r_157_3, r_157_6, r_157_7, r_157_8, r_157_9, r_157_10, r_157_11, r_157_27, r_157_28, r_157_29, r_157_30, ↓z_m1, l_0, l_1, l_2, l_3, l_4, l_5, l_6, l_7, l_8, l_9, l_10, l_11, l_12, l_13, l_14, l_15, l_16, l_17, l_18, l_19, l_20, l_21, l_22, l_23, l_24, l_25, l_26, l_27, l_28, l_29, l_30, l_31, l_32, l_33, l_34, l_35, l_36, l_37, l_38, l_39, l_40, l_41, l_42, l_43, l_44, l_45, l_46, l_47, l_48, l_49, l_50, l_51, l_52, l_53, l_54, l_55, l_56, l_57, l_59, l_60, l_61, l_62, l_63, l_64, l_65, l_80, l_86, l_87, l_88, l_89, l_90, l_91, l_92, l_93, l_94, l_95, l_97, l_99, l_100, l_107, l_119, l_122, l_124, l_129, l_140, l_141, l_142, l_143, l_144, l_145, l_147, l_150, l_159, l_160, l_161, l_162, l_205, l_253, l_255, l_256, l_269, l_305, l_380, l_399, l_400, l_420, l_430, l_516, l_600, l_720, l_820, l_905, l_921, l_937, l_953, l_970, l_999, l_1000, l_1790, l_4096, l_9999, l_1000000]
  · have mc := hm1.1 q_F σ g8
    have mm := hm1.2 q_F σ h86
    refine ⟨z_m, σ, σ, ?_, ?_, mu, me, h⟩
    · unfold f_X11_turnsBy
      simp (disch := omega) only [mc, ↓reduceIte, ↓p_ld, ↓p_st, ↓p_nm, ↓p_nS, ↓p_jn, ↓p_call, ↓p_callv, ↓p_dv, ↓p_rem, h_ldE, h_stE, h_nmE, h_nSE, h_callE, h_callvE, h_dvE, h_remE, if_true, if_false, z_upS, z_upO, z_upK, nI_add, z_mul, z_sub, z_div, Nat.add_zero, Nat.mul_zero, Nat.zero_add, Nat.sub_zero, Nat.zero_mul, z_ltT, z_ltF, z_leT, z_leF, z_eqT, z_eqF, z_inT, z_clT, not_true_eq_false, not_false_eq_true, eq_self, true_or, or_true, z_m_lt, z_m_le, z_lt_m, z_le_m, z_eq_m, z_m_eq, z_rz0, z_rz1, z_m_add, z_of, r_0_0, r_0_1, r_0_3, r_0_4, r_0_5, r_0_6, r_0_7, r_0_8, r_0_9, r_0_10, r_1_0, r_1_1, r_1_2, r_1_3, r_1_4, r_1_5, r_1_6, r_1_7, r_1_8, r_2_0, r_2_1, r_2_2, r_2_3, r_2_4, r_2_5, r_2_6, r_2_7, r_11_0, r_11_1, r_11_2, r_11_3, r_11_4, r_11_5, r_11_6, r_19_0, r_21_0, r_23_0, r_25_0, r_27_0, r_61_0, r_117_0, r_117_1, r_117_2, r_117_3, r_117_4, r_117_5, r_117_6, r_117_7, r_126_0, r_126_1, r_126_2, r_126_3, r_126_4, r_132_0, r_132_1, r_135_0, r_135_1, r_135_2, r_135_3, r_135_4, r_135_5, r_142_0, r_144_0, r_144_1, r_144_2, r_145_0, r_145_1, r_145_2, r_145_3, r_145_4, r_145_5, r_145_6, r_154_0, r_154_1, r_155_0, ↓z_m1, l_0, l_1, l_2, l_3, l_4, l_5, l_6, l_7, l_8, l_9, l_10, l_11, l_12, l_13, l_14, l_15, l_16, l_17, l_18, l_19, l_20, l_21, l_22, l_23, l_24, l_25, l_26, l_27, l_28, l_29, l_30, l_31, l_32, l_33, l_34, l_35, l_36, l_37, l_38, l_39, l_40, l_41, l_42, l_43, l_44, l_45, l_46, l_47, l_48, l_49, l_50, l_51, l_52, l_53, l_54, l_55, l_56, l_57, l_59, l_60, l_61, l_62, l_63, l_64, l_65, l_80, l_86, l_87, l_88, l_89, l_90, l_91, l_92, l_93, l_94, l_95, l_97, l_99, l_100, l_107, l_119, l_122, l_124, l_129, l_140, l_141, l_142, l_143, l_144, l_145, l_147, l_150, l_159, l_160, l_161, l_162, l_205, l_253, l_255, l_256, l_269, l_305, l_380, l_399, l_400, l_420, l_430, l_516, l_600, l_720, l_820, l_905, l_921, l_937, l_953, l_970, l_999, l_1000, l_1790, l_4096, l_9999, l_1000000]
    · unfold f_X12_turnsBy
      simp (disch := omega) only [mm, ↓reduceIte, ↓p_ld, ↓p_st, ↓p_nm, ↓p_nS, ↓p_jn, ↓p_call, ↓p_callv, ↓p_dv, ↓p_rem, h_ldE, h_stE, h_nmE, h_nSE, h_callE, h_callvE, h_dvE, h_remE, if_true, if_false, z_upS, z_upO, z_upK, nI_add, z_mul, z_sub, z_div, Nat.add_zero, Nat.mul_zero, Nat.zero_add, Nat.sub_zero, Nat.zero_mul, z_ltT, z_ltF, z_leT, z_leF, z_eqT, z_eqF, z_inT, z_clT, not_true_eq_false, not_false_eq_true, eq_self, true_or, or_true, z_m_lt, z_m_le, z_lt_m, z_le_m, z_eq_m, z_m_eq, z_rz0, z_rz1, z_m_add, z_of, r_157_0, r_157_1, r_157_2, r_157_3, r_157_6, r_157_7, r_157_8, r_157_9, r_157_10, r_157_11, r_157_27, r_157_28, r_157_29, r_157_30, ↓z_m1, l_0, l_1, l_2, l_3, l_4, l_5, l_6, l_7, l_8, l_9, l_10, l_11, l_12, l_13, l_14, l_15, l_16, l_17, l_18, l_19, l_20, l_21, l_22, l_23, l_24, l_25, l_26, l_27, l_28, l_29, l_30, l_31, l_32, l_33, l_34, l_35, l_36, l_37, l_38, l_39, l_40, l_41, l_42, l_43, l_44, l_45, l_46, l_47, l_48, l_49, l_50, l_51, l_52, l_53, l_54, l_55, l_56, l_57, l_59, l_60, l_61, l_62, l_63, l_64, l_65, l_80, l_86, l_87, l_88, l_89, l_90, l_91, l_92, l_93, l_94, l_95, l_97, l_99, l_100, l_107, l_119, l_122, l_124, l_129, l_140, l_141, l_142, l_143, l_144, l_145, l_147, l_150, l_159, l_160, l_161, l_162, l_205, l_253, l_255, l_256, l_269, l_305, l_380, l_399, l_400, l_420, l_430, l_516, l_600, l_720, l_820, l_905, l_921, l_937, l_953, l_970, l_999, l_1000, l_1790, l_4096, l_9999, l_1000000]
theorem z_ty_congr {c d : Nat → Int32} : ∀ n i ts, (∀ j, i ≤ j → j < i + n → d j = c j) → z_ty d n i ts = z_ty c n i ts
  | 0, _, _, _ => rfl
  | n + 1, i, ts, h => by
    unfold z_ty
    rw [h i (by omega) (by omega)]
    cases z_ty1 (c i) ts with
    | none => rfl
    | some us => exact z_ty_congr n (i+1) us (fun j h1 h2 => h j (by omega) (by omega))
theorem z_hor_congr {c d : Nat → Int32} {m : Nat} : ∀ n, (∀ j, j < 64 → d j = c j) → n ≤ 16 → z_hor d m n = z_hor c m n
  | 0, _, _ => rfl
  | n + 1, h, hn => by
    unfold z_hor
    rw [h (n*4) (by omega), h (n*4+1) (by omega), z_hor_congr n h (by omega)]
/-- the texts, copied from a to t -/
theorem z_WT.copy {σ σ' : q_Sto} {t a : Nat} {V : Nat → Int32} {mu me : Nat} (h : z_WT σ a V mu me) (e8 : σ' (t+10) 8 = σ (a+10) 8) (e16 : ∀ i, i < 16 → σ' (t+11) i = σ (a+11) i ∧ σ' (t+12) i = σ (a+12) i ∧ σ' (t+13) i = σ (a+13) i ∧ σ' (t+14) i = σ (a+14) i)
    (e400 : ∀ j, j < 400 → σ' (t+15) j = σ (a+15) j ∧ σ' (t+16) j = σ (a+16) j) (c18 : σ' (t+18) 2 = σ (a+18) 2) (c20 : σ' (t+20) 2 = σ (a+20) 2) (c22 : σ' (t+22) 2 = σ (a+22) 2) (c24 : σ' (t+24) 2 = σ (a+24) 2) (c26 : σ' (t+26) 2 = σ (a+26) 2)
    (r : ∀ k, k < 64 → σ' (t+19) k = σ (a+19) k ∧ σ' (t+21) k = σ (a+21) k ∧ σ' (t+23) k = σ (a+23) k ∧ σ' (t+25) k = σ (a+25) k ∧ σ' (t+27) k = σ (a+27) k) : z_WT σ' t V mu me := by
  obtain ⟨⟨c, z, l1, l2, l3, l4, l5, l6⟩, ⟨c2, h1, h2, h3, h4, h5⟩, ⟨c3, p1, p2, p3, p4⟩, ⟨c4, a1, a2, a3, a4⟩, ⟨c5, o1, o2, o3, o4⟩, ⟨c6, s1, s2, s3, s4⟩⟩ := h
  refine ⟨⟨c, z, l1, l2, e8.trans l3, l4, fun i hi => ?_, fun j hj => ?_⟩, ⟨c2, h1, c18.trans h2, h3, fun i hi => ?_, fun m hm => ?_⟩, ⟨c3, p1, c20.trans p2, p3, fun i hi => ?_⟩, ⟨c4, a1, c22.trans a2, a3, fun i hi => ?_⟩, ⟨c5, o1, c24.trans o2, o3, fun i hi => ?_⟩, ⟨c6, s1, c26.trans s2, s3, fun i hi => ?_⟩⟩
  · obtain ⟨x1, x2, x3, x4⟩ := e16 i (by omega)
    obtain ⟨f, m, tt, w, y1, y2, y3, y4, y5, y6, y7, y8, y9, y10, y11, y12, y13⟩ := l5 i hi
    refine ⟨f, m, tt, w, y1, y2, y3, y4, y5, y6, y7, y8, x1.trans y9, x2.trans y10, x4.trans y11, ?_, ?_⟩
    · rcases y12 with ⟨z1, z2⟩ | ⟨z1, z2, z3⟩
      · exact Or.inl ⟨z1, x3.trans z2⟩
      · refine Or.inr ⟨z1, x3.trans z2, ?_⟩
        rw [z_ty_congr _ _ _ (fun j j1 j2 => (e400 j (by omega)).1)]
        exact z3
    · rw [z_ty_congr _ _ _ (fun j j1 j2 => (e400 j (by omega)).1)]
      exact y13
  · rw [(e400 j (by omega)).1, (e400 j (by omega)).2]; exact l6 j hj
  · rw [(r _ (by omega)).1, (r _ (by omega)).1]; exact h4 i hi
  · rw [z_hor_congr c2 (fun j hj => (r j hj).1) h1]; exact h5 m hm
  · rw [(r _ (by omega)).2.1, (r _ (by omega)).2.1, (r _ (by omega)).2.1, (r _ (by omega)).2.1]; exact p4 i hi
  · rw [(r _ (by omega)).2.2.1, (r _ (by omega)).2.2.1, (r _ (by omega)).2.2.1]; exact a4 i hi
  · rw [(r _ (by omega)).2.2.2.1, (r _ (by omega)).2.2.2.1]; exact o4 i hi
  · rw [(r _ (by omega)).2.2.2.2, (r _ (by omega)).2.2.2.2, (r _ (by omega)).2.2.2.2]; exact s4 i hi
theorem c_copyLaw {n t a : Nat} {σ : q_Sto} (ht : ∀ k, k < 6 → q_RF t k = t+1+k) (ha : ∀ k, k < 6 → q_RF a k = a+1+k) (hd : t + 8 ≤ a ∨ a + 8 ≤ t) : ∃ σ', f_X2_copyFrom n t a σ = some (nI 0, σ') ∧ (∀ o, o < t ∨ t + 6 < o → σ' o = σ o) ∧
    σ' t 8 = σ a 8 ∧ (∀ i, i < 16 → σ' (t+1) i = σ (a+1) i ∧ σ' (t+2) i = σ (a+2) i ∧ σ' (t+3) i = σ (a+3) i ∧ σ' (t+4) i = σ (a+4) i) ∧ (∀ j, j < 400 → σ' (t+5) j = σ (a+5) j ∧ σ' (t+6) j = σ (a+6) j) := by
  obtain ⟨s1, e1⟩ : ∃ s, s = q_cpy σ (a+1+0) (t+1+0) 16 := ⟨_, rfl⟩
  have F1 : ∀ o, o ≠ t+1 → s1 o = σ o := fun o ho => by rw [e1]; exact z_cpyO (by omega)
  have G1 : ∀ k, k < 16 → s1 (t+1) k = σ (a+1) k := fun k hk => by rw [e1]; exact z_cpyI hk
  obtain ⟨s2, e2⟩ : ∃ s, s = q_cpy s1 (a+1+1) (t+1+1) 16 := ⟨_, rfl⟩
  have F2 : ∀ o, o ≠ t+2 → s2 o = s1 o := fun o ho => by rw [e2]; exact z_cpyO (by omega)
  have G2 : ∀ k, k < 16 → s2 (t+2) k = s1 (a+2) k := fun k hk => by rw [e2]; exact z_cpyI hk
  obtain ⟨s3, e3⟩ : ∃ s, s = q_cpy s2 (a+1+2) (t+1+2) 16 := ⟨_, rfl⟩
  have F3 : ∀ o, o ≠ t+3 → s3 o = s2 o := fun o ho => by rw [e3]; exact z_cpyO (by omega)
  have G3 : ∀ k, k < 16 → s3 (t+3) k = s2 (a+3) k := fun k hk => by rw [e3]; exact z_cpyI hk
  obtain ⟨s4, e4⟩ : ∃ s, s = q_cpy s3 (a+1+3) (t+1+3) 16 := ⟨_, rfl⟩
  have F4 : ∀ o, o ≠ t+4 → s4 o = s3 o := fun o ho => by rw [e4]; exact z_cpyO (by omega)
  have G4 : ∀ k, k < 16 → s4 (t+4) k = s3 (a+4) k := fun k hk => by rw [e4]; exact z_cpyI hk
  obtain ⟨s5, e5⟩ : ∃ s, s = q_cpy s4 (a+1+4) (t+1+4) 400 := ⟨_, rfl⟩
  have F5 : ∀ o, o ≠ t+5 → s5 o = s4 o := fun o ho => by rw [e5]; exact z_cpyO (by omega)
  have G5 : ∀ k, k < 400 → s5 (t+5) k = s4 (a+5) k := fun k hk => by rw [e5]; exact z_cpyI hk
  obtain ⟨s6, e6⟩ : ∃ s, s = q_cpy s5 (a+1+5) (t+1+5) 400 := ⟨_, rfl⟩
  have F6 : ∀ o, o ≠ t+6 → s6 o = s5 o := fun o ho => by rw [e6]; exact z_cpyO (by omega)
  have G6 : ∀ k, k < 400 → s6 (t+6) k = s5 (a+6) k := fun k hk => by rw [e6]; exact z_cpyI hk
  refine ⟨q_up (q_up s6 t 7 (s6 a 7)) t 8 (q_up s6 t 7 (s6 a 7) a 8), ?_, fun o ho => by rw [z_upO (by omega), z_upO (by omega), F6 _ (by omega), F5 _ (by omega), F4 _ (by omega), F3 _ (by omega), F2 _ (by omega), F1 _ (by omega)], by rw [z_upS, z_upO (by omega), F6 _ (by omega), F5 _ (by omega), F4 _ (by omega), F3 _ (by omega), F2 _ (by omega), F1 _ (by omega)], fun i hi => ⟨by rw [z_upO (by omega), z_upO (by omega), F6 _ (by omega), F5 _ (by omega), F4 _ (by omega), F3 _ (by omega), F2 _ (by omega), G1 i hi], by rw [z_upO (by omega), z_upO (by omega), F6 _ (by omega), F5 _ (by omega), F4 _ (by omega), F3 _ (by omega), G2 i hi, F1 _ (by omega)], by rw [z_upO (by omega), z_upO (by omega), F6 _ (by omega), F5 _ (by omega), F4 _ (by omega), G3 i hi, F2 _ (by omega), F1 _ (by omega)], by rw [z_upO (by omega), z_upO (by omega), F6 _ (by omega), F5 _ (by omega), G4 i hi, F3 _ (by omega), F2 _ (by omega), F1 _ (by omega)]⟩, fun j hj => ⟨by rw [z_upO (by omega), z_upO (by omega), F6 _ (by omega), G5 j hj, F4 _ (by omega), F3 _ (by omega), F2 _ (by omega), F1 _ (by omega)], by rw [z_upO (by omega), z_upO (by omega), G6 j hj, F5 _ (by omega), F4 _ (by omega), F3 _ (by omega), F2 _ (by omega), F1 _ (by omega)]⟩⟩
  unfold f_X2_copyFrom
  rw [ht 0 (by omega), ht 1 (by omega), ht 2 (by omega), ht 3 (by omega), ht 4 (by omega), ht 5 (by omega), ha 0 (by omega), ha 1 (by omega), ha 2 (by omega), ha 3 (by omega), ha 4 (by omega), ha 5 (by omega)]
  rw [c_copyRow (by omega), z_callv, ← e1, c_copyRow (by omega), z_callv, ← e2, c_copyRow (by omega), z_callv, ← e3, c_copyRow (by omega), z_callv, ← e4, c_copyRow (by omega), z_callv, ← e5, c_copyRow (by omega), z_callv, ← e6]
  rfl
theorem c_copyRows {n t a c cap : Nat} {σ : q_Sto} (ht : q_RF t 0 = t+1) (ha : q_RF a 0 = a+1) (hd : t + 2 ≤ a ∨ a + 2 ≤ t) (hc : σ a 2 = nI c) (hcap : σ t 1 = nI cap) (h1 : c ≤ cap) (h2 : cap ≤ 16) : ∃ σ', f_X6_copyFrom n t a σ = some (nI 0, σ') ∧ (∀ o, o < t ∨ t + 1 < o → σ' o = σ o) ∧ σ' t 2 = σ a 2 ∧ (∀ f, f ≠ 2 → σ' t f = σ t f) ∧ (∀ k, k < 64 → σ' (t+1) k = σ (a+1) k) := by
  refine ⟨q_up (q_cpy σ (a+1) (t+1) 64) t 2 (nI c), ?_, fun o ho => by rw [z_upO (by omega), z_cpyO (by omega)], by rw [hc]; exact z_upS, fun f hf => by rw [z_upK hf, z_cpyO (by omega)], fun k hk => by rw [z_upO (by omega), z_cpyI hk]⟩
  unfold f_X6_copyFrom
  have e1 : q_cpy σ (a+1) (t+1) 64 a 2 = nI c := by rw [z_cpyO (by omega)]; exact hc
  have e2 : q_cpy σ (a+1) (t+1) 64 t 1 = nI cap := by rw [z_cpyO (by omega)]; exact hcap
  have e3 : min c cap = c := by omega
  rw [ht, ha, c_copyRow (by omega), z_callv, e1, e2, z_mnE (by omega) (by omega), e3]
  rfl
theorem z_cA1 : ∀ k, k < 6 → q_RF 11 k = 11+1+k := by decide
theorem z_cA31 : ∀ k, k < 6 → q_RF 41 k = 41+1+k := by decide
theorem z_rf32 : ∀ k, k < 8 → q_RF 32 k = 32+1+k := by decide

theorem c_copyWorld1 {n mu me : Nat} {V : Nat → Int32} {σ : q_Sto} (hmu : mu ≤ 12) (hme : me ≤ 5) (h : z_WR σ 31 V mu me) (hCt : z_CA σ 1) : ∃ σ', f_X10_copyFrom n 1 31 σ = some (nI 0, σ') ∧ (∀ o, o < 1 + 1 ∨ 1 + 28 < o → σ' o = σ o) ∧ z_WR σ' 1 V mu me ∧ z_CA σ' 1 := by
  obtain ⟨hT, hW, hB⟩ := h
  obtain ⟨cH, hH1, hH2, -⟩ := hW.2.1
  obtain ⟨cP, hP1, hP2, -⟩ := hW.2.2.1
  obtain ⟨cA, hA1, hA2, -⟩ := hW.2.2.2.1
  obtain ⟨cL, hL1, hL2, -⟩ := hW.2.2.2.2.1
  obtain ⟨cS, hS1, hS2, -⟩ := hW.2.2.2.2.2
  obtain ⟨k18, k20, k22, k24, k26⟩ := hCt
  have t1 : ∀ k, k < 8 → q_RF (1+1) k = 1+1+1+k := z_rf2
  have t2 : ∀ k, k < 6 → q_RF (1+10) k = 1+10+1+k := z_cA1
  have t3 : q_RF 1 0 = 1+1 := rfl
  have t4 : q_RF 1 1 = 1+10 := rfl
  have t5 : q_RF 1 2 = 1+18 := rfl
  have t6 : q_RF 1 3 = 1+20 := rfl
  have t7 : q_RF 1 4 = 1+22 := rfl
  have t8 : q_RF 1 5 = 1+24 := rfl
  have t9 : q_RF 1 6 = 1+26 := rfl
  have t10 : q_RF 1 7 = 1+28 := rfl
  have t11 : q_RF (1+18) 0 = 1+18+1 := rfl
  have t12 : q_RF (1+20) 0 = 1+20+1 := rfl
  have t13 : q_RF (1+22) 0 = 1+22+1 := rfl
  have t14 : q_RF (1+24) 0 = 1+24+1 := rfl
  have t15 : q_RF (1+26) 0 = 1+26+1 := rfl
  have a1 : ∀ k, k < 8 → q_RF (31+1) k = 31+1+1+k := z_rf32
  have a2 : ∀ k, k < 6 → q_RF (31+10) k = 31+10+1+k := z_cA31
  have a3 : q_RF 31 0 = 31+1 := rfl
  have a4 : q_RF 31 1 = 31+10 := rfl
  have a5 : q_RF 31 2 = 31+18 := rfl
  have a6 : q_RF 31 3 = 31+20 := rfl
  have a7 : q_RF 31 4 = 31+22 := rfl
  have a8 : q_RF 31 5 = 31+24 := rfl
  have a9 : q_RF 31 6 = 31+26 := rfl
  have a10 : q_RF 31 7 = 31+28 := rfl
  have a11 : q_RF (31+18) 0 = 31+18+1 := rfl
  have a12 : q_RF (31+20) 0 = 31+20+1 := rfl
  have a13 : q_RF (31+22) 0 = 31+22+1 := rfl
  have a14 : q_RF (31+24) 0 = 31+24+1 := rfl
  have a15 : q_RF (31+26) 0 = 31+26+1 := rfl
  obtain ⟨s1, x1, x2, x3, x4, x5, x6⟩ := c_copyTrain (n := n) (σ := σ) t1 a1 (by decide)
  obtain ⟨s2, y1, y2, y3, y4, y5⟩ := c_copyLaw (n := n) (σ := s1) t2 a2 (by decide)
  obtain ⟨s3, u1, u2, u3, u4, u5⟩ := c_copyRows (n := n) (σ := s2) (c := cH) (cap := 16) t11 a11 (by decide) (by rw [y2 _ (by decide), x2 _ (by decide)]; exact hH2) (by rw [y2 _ (by decide), x2 _ (by decide)]; exact k18) hH1 (by omega)
  obtain ⟨s4, v1, v2, v3, v4, v5⟩ := c_copyRows (n := n) (σ := s3) (c := cP) (cap := 16) t12 a12 (by decide) (by rw [u2 _ (by decide), y2 _ (by decide), x2 _ (by decide)]; exact hP2) (by rw [u2 _ (by decide), y2 _ (by decide), x2 _ (by decide)]; exact k20) hP1 (by omega)
  obtain ⟨s5, w1, w2, w3, w4, w5⟩ := c_copyRows (n := n) (σ := s4) (c := cA) (cap := 16) t13 a13 (by decide) (by rw [v2 _ (by decide), u2 _ (by decide), y2 _ (by decide), x2 _ (by decide)]; exact hA2) (by rw [v2 _ (by decide), u2 _ (by decide), y2 _ (by decide), x2 _ (by decide)]; exact k22) hA1 (by omega)
  obtain ⟨s6, p1, p2, p3, p4, p5⟩ := c_copyRows (n := n) (σ := s5) (c := cL) (cap := 8) t14 a14 (by decide) (by rw [w2 _ (by decide), v2 _ (by decide), u2 _ (by decide), y2 _ (by decide), x2 _ (by decide)]; exact hL2) (by rw [w2 _ (by decide), v2 _ (by decide), u2 _ (by decide), y2 _ (by decide), x2 _ (by decide)]; exact k24) hL1 (by omega)
  obtain ⟨s7, q1, q2, q3, q4, q5⟩ := c_copyRows (n := n) (σ := s6) (c := cS) (cap := 12) t15 a15 (by decide) (by rw [p2 _ (by decide), w2 _ (by decide), v2 _ (by decide), u2 _ (by decide), y2 _ (by decide), x2 _ (by decide)]; exact hS2) (by rw [p2 _ (by decide), w2 _ (by decide), v2 _ (by decide), u2 _ (by decide), y2 _ (by decide), x2 _ (by decide)]; exact k26) hS1 (by omega)
  have F1 : ∀ o, o < 1 + 10 ∨ 1 + 28 < o → q_cpy s7 (31+28) (1+28) 600 o = s1 o := fun o ho => by rw [z_cpyO (by omega), q2 _ (by omega), p2 _ (by omega), w2 _ (by omega), v2 _ (by omega), u2 _ (by omega), y2 _ (by omega)]
  refine ⟨q_cpy s7 (31+28) (1+28) 600, ?_, fun o ho => by rw [F1 o (by omega), x2 o (by omega)], ⟨?_, ?_, ?_⟩, ?_⟩
  · unfold f_X10_copyFrom
    rw [t3, t4, t5, t6, t7, t8, t9, t10, a3, a4, a5, a6, a7, a8, a9, a10, x1, z_callv, y1, z_callv, u1, z_callv, v1, z_callv, w1, z_callv, p1, z_callv, q1, z_callv, c_copyRow (by decide)]
    rfl
  · exact (z_TR.copy hmu hme hT x3 x4 x5 x6).fr (fun o o1 o2 => F1 o (by omega))
  · have G : ∀ o, 1 + 10 ≤ o → o ≤ 1 + 17 → q_cpy s7 (31+28) (1+28) 600 o = s2 o := fun o o1 o2 => by rw [z_cpyO (by omega), q2 _ (by omega), p2 _ (by omega), w2 _ (by omega), v2 _ (by omega), u2 _ (by omega)]
    have A : ∀ o, 31 + 10 ≤ o → o ≤ 31 + 28 → s1 o = σ o := fun o o1 o2 => x2 o (by omega)
    have A2 : ∀ o, 31 + 17 ≤ o → o ≤ 31 + 28 → s2 o = σ o := fun o o1 o2 => by rw [y2 o (by omega), A o (by omega) (by omega)]
    refine hW.copy ?_ (fun i hi => ?_) (fun j hj => ?_) ?_ ?_ ?_ ?_ ?_ (fun k hk => ⟨?_, ?_, ?_, ?_, ?_⟩)
    · rw [G _ (by decide) (by decide), y3, A _ (by decide) (by decide)]
    · rw [G _ (by decide) (by decide), G _ (by decide) (by decide), G _ (by decide) (by decide), G _ (by decide) (by decide), ← A (31+11) (by decide) (by decide), ← A (31+12) (by decide) (by decide), ← A (31+13) (by decide) (by decide), ← A (31+14) (by decide) (by decide)]
      exact y4 i hi
    · rw [G _ (by decide) (by decide), G _ (by decide) (by decide), ← A (31+15) (by decide) (by decide), ← A (31+16) (by decide) (by decide)]
      exact y5 j hj
    · rw [z_cpyO (by decide), q2 _ (by decide), p2 _ (by decide), w2 _ (by decide), v2 _ (by decide), u3, A2 _ (by decide) (by decide)]
    · rw [z_cpyO (by decide), q2 _ (by decide), p2 _ (by decide), w2 _ (by decide), v3, u2 _ (by decide), A2 _ (by decide) (by decide)]
    · rw [z_cpyO (by decide), q2 _ (by decide), p2 _ (by decide), w3, v2 _ (by decide), u2 _ (by decide), A2 _ (by decide) (by decide)]
    · rw [z_cpyO (by decide), q2 _ (by decide), p3, w2 _ (by decide), v2 _ (by decide), u2 _ (by decide), A2 _ (by decide) (by decide)]
    · rw [z_cpyO (by decide), q3, p2 _ (by decide), w2 _ (by decide), v2 _ (by decide), u2 _ (by decide), A2 _ (by decide) (by decide)]
    · rw [z_cpyO (by decide), q2 _ (by decide), p2 _ (by decide), w2 _ (by decide), v2 _ (by decide)]
      exact (u5 k hk).trans (by rw [A2 _ (by decide) (by decide)])
    · rw [z_cpyO (by decide), q2 _ (by decide), p2 _ (by decide), w2 _ (by decide)]
      exact (v5 k hk).trans (by rw [u2 _ (by decide), A2 _ (by decide) (by decide)])
    · rw [z_cpyO (by decide), q2 _ (by decide), p2 _ (by decide)]
      exact (w5 k hk).trans (by rw [v2 _ (by decide), u2 _ (by decide), A2 _ (by decide) (by decide)])
    · rw [z_cpyO (by decide), q2 _ (by decide)]
      exact (p5 k hk).trans (by rw [w2 _ (by decide), v2 _ (by decide), u2 _ (by decide), A2 _ (by decide) (by decide)])
    · rw [z_cpyO (by decide)]
      exact (q5 k hk).trans (by rw [p2 _ (by decide), w2 _ (by decide), v2 _ (by decide), u2 _ (by decide), A2 _ (by decide) (by decide)])
  · obtain ⟨w, b1, b2, b3, b4⟩ := hB
    refine ⟨w, b1, by rw [F1 _ (by decide), x3 17 (by decide) (by decide)]; exact b2, b3, fun i c hi hc => ?_⟩
    rw [z_cpyI (by omega), q2 _ (by decide), p2 _ (by decide), w2 _ (by decide), v2 _ (by decide), u2 _ (by decide), y2 _ (by decide), x2 _ (by decide)]
    exact b4 i c hi hc
  · refine ⟨?_, ?_, ?_, ?_, ?_⟩
    · rw [z_cpyO (by decide), q2 _ (by decide), p2 _ (by decide), w2 _ (by decide), v2 _ (by decide), u4 1 (by decide), y2 _ (by decide), x2 _ (by decide)]; exact k18
    · rw [z_cpyO (by decide), q2 _ (by decide), p2 _ (by decide), w2 _ (by decide), v4 1 (by decide), u2 _ (by decide), y2 _ (by decide), x2 _ (by decide)]; exact k20
    · rw [z_cpyO (by decide), q2 _ (by decide), p2 _ (by decide), w4 1 (by decide), v2 _ (by decide), u2 _ (by decide), y2 _ (by decide), x2 _ (by decide)]; exact k22
    · rw [z_cpyO (by decide), q2 _ (by decide), p4 1 (by decide), w2 _ (by decide), v2 _ (by decide), u2 _ (by decide), y2 _ (by decide), x2 _ (by decide)]; exact k24
    · rw [z_cpyO (by decide), q4 1 (by decide), p2 _ (by decide), w2 _ (by decide), v2 _ (by decide), u2 _ (by decide), y2 _ (by decide), x2 _ (by decide)]; exact k26

theorem c_copyWorld31 {n mu me : Nat} {V : Nat → Int32} {σ : q_Sto} (hmu : mu ≤ 12) (hme : me ≤ 5) (h : z_WR σ 1 V mu me) (hCt : z_CA σ 31) : ∃ σ', f_X10_copyFrom n 31 1 σ = some (nI 0, σ') ∧ (∀ o, o < 31 + 1 ∨ 31 + 28 < o → σ' o = σ o) ∧ z_WR σ' 31 V mu me ∧ z_CA σ' 31 := by
  obtain ⟨hT, hW, hB⟩ := h
  obtain ⟨cH, hH1, hH2, -⟩ := hW.2.1
  obtain ⟨cP, hP1, hP2, -⟩ := hW.2.2.1
  obtain ⟨cA, hA1, hA2, -⟩ := hW.2.2.2.1
  obtain ⟨cL, hL1, hL2, -⟩ := hW.2.2.2.2.1
  obtain ⟨cS, hS1, hS2, -⟩ := hW.2.2.2.2.2
  obtain ⟨k18, k20, k22, k24, k26⟩ := hCt
  have t1 : ∀ k, k < 8 → q_RF (31+1) k = 31+1+1+k := z_rf32
  have t2 : ∀ k, k < 6 → q_RF (31+10) k = 31+10+1+k := z_cA31
  have t3 : q_RF 31 0 = 31+1 := rfl
  have t4 : q_RF 31 1 = 31+10 := rfl
  have t5 : q_RF 31 2 = 31+18 := rfl
  have t6 : q_RF 31 3 = 31+20 := rfl
  have t7 : q_RF 31 4 = 31+22 := rfl
  have t8 : q_RF 31 5 = 31+24 := rfl
  have t9 : q_RF 31 6 = 31+26 := rfl
  have t10 : q_RF 31 7 = 31+28 := rfl
  have t11 : q_RF (31+18) 0 = 31+18+1 := rfl
  have t12 : q_RF (31+20) 0 = 31+20+1 := rfl
  have t13 : q_RF (31+22) 0 = 31+22+1 := rfl
  have t14 : q_RF (31+24) 0 = 31+24+1 := rfl
  have t15 : q_RF (31+26) 0 = 31+26+1 := rfl
  have a1 : ∀ k, k < 8 → q_RF (1+1) k = 1+1+1+k := z_rf2
  have a2 : ∀ k, k < 6 → q_RF (1+10) k = 1+10+1+k := z_cA1
  have a3 : q_RF 1 0 = 1+1 := rfl
  have a4 : q_RF 1 1 = 1+10 := rfl
  have a5 : q_RF 1 2 = 1+18 := rfl
  have a6 : q_RF 1 3 = 1+20 := rfl
  have a7 : q_RF 1 4 = 1+22 := rfl
  have a8 : q_RF 1 5 = 1+24 := rfl
  have a9 : q_RF 1 6 = 1+26 := rfl
  have a10 : q_RF 1 7 = 1+28 := rfl
  have a11 : q_RF (1+18) 0 = 1+18+1 := rfl
  have a12 : q_RF (1+20) 0 = 1+20+1 := rfl
  have a13 : q_RF (1+22) 0 = 1+22+1 := rfl
  have a14 : q_RF (1+24) 0 = 1+24+1 := rfl
  have a15 : q_RF (1+26) 0 = 1+26+1 := rfl
  obtain ⟨s1, x1, x2, x3, x4, x5, x6⟩ := c_copyTrain (n := n) (σ := σ) t1 a1 (by decide)
  obtain ⟨s2, y1, y2, y3, y4, y5⟩ := c_copyLaw (n := n) (σ := s1) t2 a2 (by decide)
  obtain ⟨s3, u1, u2, u3, u4, u5⟩ := c_copyRows (n := n) (σ := s2) (c := cH) (cap := 16) t11 a11 (by decide) (by rw [y2 _ (by decide), x2 _ (by decide)]; exact hH2) (by rw [y2 _ (by decide), x2 _ (by decide)]; exact k18) hH1 (by omega)
  obtain ⟨s4, v1, v2, v3, v4, v5⟩ := c_copyRows (n := n) (σ := s3) (c := cP) (cap := 16) t12 a12 (by decide) (by rw [u2 _ (by decide), y2 _ (by decide), x2 _ (by decide)]; exact hP2) (by rw [u2 _ (by decide), y2 _ (by decide), x2 _ (by decide)]; exact k20) hP1 (by omega)
  obtain ⟨s5, w1, w2, w3, w4, w5⟩ := c_copyRows (n := n) (σ := s4) (c := cA) (cap := 16) t13 a13 (by decide) (by rw [v2 _ (by decide), u2 _ (by decide), y2 _ (by decide), x2 _ (by decide)]; exact hA2) (by rw [v2 _ (by decide), u2 _ (by decide), y2 _ (by decide), x2 _ (by decide)]; exact k22) hA1 (by omega)
  obtain ⟨s6, p1, p2, p3, p4, p5⟩ := c_copyRows (n := n) (σ := s5) (c := cL) (cap := 8) t14 a14 (by decide) (by rw [w2 _ (by decide), v2 _ (by decide), u2 _ (by decide), y2 _ (by decide), x2 _ (by decide)]; exact hL2) (by rw [w2 _ (by decide), v2 _ (by decide), u2 _ (by decide), y2 _ (by decide), x2 _ (by decide)]; exact k24) hL1 (by omega)
  obtain ⟨s7, q1, q2, q3, q4, q5⟩ := c_copyRows (n := n) (σ := s6) (c := cS) (cap := 12) t15 a15 (by decide) (by rw [p2 _ (by decide), w2 _ (by decide), v2 _ (by decide), u2 _ (by decide), y2 _ (by decide), x2 _ (by decide)]; exact hS2) (by rw [p2 _ (by decide), w2 _ (by decide), v2 _ (by decide), u2 _ (by decide), y2 _ (by decide), x2 _ (by decide)]; exact k26) hS1 (by omega)
  have F1 : ∀ o, o < 31 + 10 ∨ 31 + 28 < o → q_cpy s7 (1+28) (31+28) 600 o = s1 o := fun o ho => by rw [z_cpyO (by omega), q2 _ (by omega), p2 _ (by omega), w2 _ (by omega), v2 _ (by omega), u2 _ (by omega), y2 _ (by omega)]
  refine ⟨q_cpy s7 (1+28) (31+28) 600, ?_, fun o ho => by rw [F1 o (by omega), x2 o (by omega)], ⟨?_, ?_, ?_⟩, ?_⟩
  · unfold f_X10_copyFrom
    rw [t3, t4, t5, t6, t7, t8, t9, t10, a3, a4, a5, a6, a7, a8, a9, a10, x1, z_callv, y1, z_callv, u1, z_callv, v1, z_callv, w1, z_callv, p1, z_callv, q1, z_callv, c_copyRow (by decide)]
    rfl
  · exact (z_TR.copy hmu hme hT x3 x4 x5 x6).fr (fun o o1 o2 => F1 o (by omega))
  · have G : ∀ o, 31 + 10 ≤ o → o ≤ 31 + 17 → q_cpy s7 (1+28) (31+28) 600 o = s2 o := fun o o1 o2 => by rw [z_cpyO (by omega), q2 _ (by omega), p2 _ (by omega), w2 _ (by omega), v2 _ (by omega), u2 _ (by omega)]
    have A : ∀ o, 1 + 10 ≤ o → o ≤ 1 + 28 → s1 o = σ o := fun o o1 o2 => x2 o (by omega)
    have A2 : ∀ o, 1 + 17 ≤ o → o ≤ 1 + 28 → s2 o = σ o := fun o o1 o2 => by rw [y2 o (by omega), A o (by omega) (by omega)]
    refine hW.copy ?_ (fun i hi => ?_) (fun j hj => ?_) ?_ ?_ ?_ ?_ ?_ (fun k hk => ⟨?_, ?_, ?_, ?_, ?_⟩)
    · rw [G _ (by decide) (by decide), y3, A _ (by decide) (by decide)]
    · rw [G _ (by decide) (by decide), G _ (by decide) (by decide), G _ (by decide) (by decide), G _ (by decide) (by decide), ← A (1+11) (by decide) (by decide), ← A (1+12) (by decide) (by decide), ← A (1+13) (by decide) (by decide), ← A (1+14) (by decide) (by decide)]
      exact y4 i hi
    · rw [G _ (by decide) (by decide), G _ (by decide) (by decide), ← A (1+15) (by decide) (by decide), ← A (1+16) (by decide) (by decide)]
      exact y5 j hj
    · rw [z_cpyO (by decide), q2 _ (by decide), p2 _ (by decide), w2 _ (by decide), v2 _ (by decide), u3, A2 _ (by decide) (by decide)]
    · rw [z_cpyO (by decide), q2 _ (by decide), p2 _ (by decide), w2 _ (by decide), v3, u2 _ (by decide), A2 _ (by decide) (by decide)]
    · rw [z_cpyO (by decide), q2 _ (by decide), p2 _ (by decide), w3, v2 _ (by decide), u2 _ (by decide), A2 _ (by decide) (by decide)]
    · rw [z_cpyO (by decide), q2 _ (by decide), p3, w2 _ (by decide), v2 _ (by decide), u2 _ (by decide), A2 _ (by decide) (by decide)]
    · rw [z_cpyO (by decide), q3, p2 _ (by decide), w2 _ (by decide), v2 _ (by decide), u2 _ (by decide), A2 _ (by decide) (by decide)]
    · rw [z_cpyO (by decide), q2 _ (by decide), p2 _ (by decide), w2 _ (by decide), v2 _ (by decide)]
      exact (u5 k hk).trans (by rw [A2 _ (by decide) (by decide)])
    · rw [z_cpyO (by decide), q2 _ (by decide), p2 _ (by decide), w2 _ (by decide)]
      exact (v5 k hk).trans (by rw [u2 _ (by decide), A2 _ (by decide) (by decide)])
    · rw [z_cpyO (by decide), q2 _ (by decide), p2 _ (by decide)]
      exact (w5 k hk).trans (by rw [v2 _ (by decide), u2 _ (by decide), A2 _ (by decide) (by decide)])
    · rw [z_cpyO (by decide), q2 _ (by decide)]
      exact (p5 k hk).trans (by rw [w2 _ (by decide), v2 _ (by decide), u2 _ (by decide), A2 _ (by decide) (by decide)])
    · rw [z_cpyO (by decide)]
      exact (q5 k hk).trans (by rw [p2 _ (by decide), w2 _ (by decide), v2 _ (by decide), u2 _ (by decide), A2 _ (by decide) (by decide)])
  · obtain ⟨w, b1, b2, b3, b4⟩ := hB
    refine ⟨w, b1, by rw [F1 _ (by decide), x3 17 (by decide) (by decide)]; exact b2, b3, fun i c hi hc => ?_⟩
    rw [z_cpyI (by omega), q2 _ (by decide), p2 _ (by decide), w2 _ (by decide), v2 _ (by decide), u2 _ (by decide), y2 _ (by decide), x2 _ (by decide)]
    exact b4 i c hi hc
  · refine ⟨?_, ?_, ?_, ?_, ?_⟩
    · rw [z_cpyO (by decide), q2 _ (by decide), p2 _ (by decide), w2 _ (by decide), v2 _ (by decide), u4 1 (by decide), y2 _ (by decide), x2 _ (by decide)]; exact k18
    · rw [z_cpyO (by decide), q2 _ (by decide), p2 _ (by decide), w2 _ (by decide), v4 1 (by decide), u2 _ (by decide), y2 _ (by decide), x2 _ (by decide)]; exact k20
    · rw [z_cpyO (by decide), q2 _ (by decide), p2 _ (by decide), w4 1 (by decide), v2 _ (by decide), u2 _ (by decide), y2 _ (by decide), x2 _ (by decide)]; exact k22
    · rw [z_cpyO (by decide), q2 _ (by decide), p4 1 (by decide), w2 _ (by decide), v2 _ (by decide), u2 _ (by decide), y2 _ (by decide), x2 _ (by decide)]; exact k24
    · rw [z_cpyO (by decide), q4 1 (by decide), p2 _ (by decide), w2 _ (by decide), v2 _ (by decide), u2 _ (by decide), y2 _ (by decide), x2 _ (by decide)]; exact k26
theorem m_img1 {n : Nat} {σ0 : q_Sto} {K : q_Sto → Option (Int32 × q_Sto)} : ∀ j i (σ : q_Sto), i ≤ 1790 → 1790 < j + i → (∀ o, o ≠ 159 → σ o = σ0 o) → (∀ k, k < i → σ 159 k = σ0 158 k) → ∃ σ', (∀ o, o ≠ 159 → σ' o = σ0 o) ∧ (∀ k, k < 1790 → σ' 159 k = σ0 158 k) ∧ f_X12_image_L15 n 157 (nI 1) K j (nI i) σ = K σ' := by
  intro j
  induction j with
  | zero => intro i σ h1 h2; omega
  | succ j ih =>
    intro i σ h1 h2 hf hb
    by_cases hi : i = 1790
    · subst hi
      refine ⟨σ, hf, hb, ?_⟩
      rw [f_X12_image_L15]
      simp (disch := omega) only [↓reduceIte, ↓p_ld, ↓p_st, ↓p_nm, ↓p_nS, ↓p_jn, ↓p_call, ↓p_callv, ↓p_dv, ↓p_rem, h_ldE, h_stE, h_nmE, h_nSE, h_callE, h_callvE, h_dvE, h_remE, if_true, if_false, z_upS, z_upO, z_upK, nI_add, z_mul, z_sub, z_div, Nat.add_zero, Nat.mul_zero, Nat.zero_add, Nat.sub_zero, Nat.zero_mul, z_ltT, z_ltF, z_leT, z_leF, z_eqT, z_eqF, z_inT, z_clT, not_true_eq_false, not_false_eq_true, eq_self, true_or, or_true, z_m_lt, z_m_le, z_lt_m, z_le_m, z_eq_m, z_m_eq, z_rz0, z_rz1, z_m_add, z_of, r_157_0, r_157_1, r_157_2, r_157_3, r_157_6, r_157_7, r_157_8, r_157_9, r_157_10, r_157_11, r_157_27, r_157_28, r_157_29, r_157_30, ↓z_m1, l_0, l_1, l_2, l_3, l_4, l_5, l_6, l_7, l_8, l_9, l_10, l_11, l_12, l_13, l_14, l_15, l_16, l_17, l_18, l_19, l_20, l_21, l_22, l_23, l_24, l_25, l_26, l_27, l_28, l_29, l_30, l_31, l_32, l_33, l_34, l_35, l_36, l_37, l_38, l_39, l_40, l_41, l_42, l_43, l_44, l_45, l_46, l_47, l_48, l_49, l_50, l_51, l_52, l_53, l_54, l_55, l_56, l_57, l_59, l_60, l_61, l_62, l_63, l_64, l_65, l_80, l_86, l_87, l_88, l_89, l_90, l_91, l_92, l_93, l_94, l_95, l_97, l_99, l_100, l_107, l_119, l_122, l_124, l_129, l_140, l_141, l_142, l_143, l_144, l_145, l_147, l_150, l_159, l_160, l_161, l_162, l_205, l_253, l_255, l_256, l_269, l_305, l_380, l_399, l_400, l_420, l_430, l_516, l_600, l_720, l_820, l_905, l_921, l_937, l_953, l_970, l_999, l_1000, l_1790, l_4096, l_9999, l_1000000]
    · obtain ⟨σ', g1, g2, g3⟩ := ih (i+1) (q_up σ 159 i (σ0 158 i)) (by omega) (by omega) (fun o ho => by rw [z_upO ho, hf o ho]) (fun k hk => by
        by_cases e : k = i
        · subst e; exact z_upS
        · rw [z_upK e]; exact hb k (by omega))
      refine ⟨σ', g1, g2, ?_⟩
      have e : σ 158 i = σ0 158 i := by rw [hf 158 (by omega)]
      rw [← g3, f_X12_image_L15]
      simp (disch := omega) only [e, ↓reduceIte, ↓p_ld, ↓p_st, ↓p_nm, ↓p_nS, ↓p_jn, ↓p_call, ↓p_callv, ↓p_dv, ↓p_rem, h_ldE, h_stE, h_nmE, h_nSE, h_callE, h_callvE, h_dvE, h_remE, if_true, if_false, z_upS, z_upO, z_upK, nI_add, z_mul, z_sub, z_div, Nat.add_zero, Nat.mul_zero, Nat.zero_add, Nat.sub_zero, Nat.zero_mul, z_ltT, z_ltF, z_leT, z_leF, z_eqT, z_eqF, z_inT, z_clT, not_true_eq_false, not_false_eq_true, eq_self, true_or, or_true, z_m_lt, z_m_le, z_lt_m, z_le_m, z_eq_m, z_m_eq, z_rz0, z_rz1, z_m_add, z_of, r_157_0, r_157_1, r_157_2, r_157_3, r_157_6, r_157_7, r_157_8, r_157_9, r_157_10, r_157_11, r_157_27, r_157_28, r_157_29, r_157_30, ↓z_m1, l_0, l_1, l_2, l_3, l_4, l_5, l_6, l_7, l_8, l_9, l_10, l_11, l_12, l_13, l_14, l_15, l_16, l_17, l_18, l_19, l_20, l_21, l_22, l_23, l_24, l_25, l_26, l_27, l_28, l_29, l_30, l_31, l_32, l_33, l_34, l_35, l_36, l_37, l_38, l_39, l_40, l_41, l_42, l_43, l_44, l_45, l_46, l_47, l_48, l_49, l_50, l_51, l_52, l_53, l_54, l_55, l_56, l_57, l_59, l_60, l_61, l_62, l_63, l_64, l_65, l_80, l_86, l_87, l_88, l_89, l_90, l_91, l_92, l_93, l_94, l_95, l_97, l_99, l_100, l_107, l_119, l_122, l_124, l_129, l_140, l_141, l_142, l_143, l_144, l_145, l_147, l_150, l_159, l_160, l_161, l_162, l_205, l_253, l_255, l_256, l_269, l_305, l_380, l_399, l_400, l_420, l_430, l_516, l_600, l_720, l_820, l_905, l_921, l_937, l_953, l_970, l_999, l_1000, l_1790, l_4096, l_9999, l_1000000]
theorem m_img0 {n : Nat} {σ0 : q_Sto} {K : q_Sto → Option (Int32 × q_Sto)} : ∀ j i (σ : q_Sto), i ≤ 1790 → 1790 < j + i → (∀ o, o ≠ 158 → σ o = σ0 o) → (∀ k, k < i → σ 158 k = σ0 159 k) → ∃ σ', (∀ o, o ≠ 158 → σ' o = σ0 o) ∧ (∀ k, k < 1790 → σ' 158 k = σ0 159 k) ∧ f_X12_image_L15 n 157 (nI 0) K j (nI i) σ = K σ' := by
  intro j
  induction j with
  | zero => intro i σ h1 h2; omega
  | succ j ih =>
    intro i σ h1 h2 hf hb
    by_cases hi : i = 1790
    · subst hi
      refine ⟨σ, hf, hb, ?_⟩
      rw [f_X12_image_L15]
      simp (disch := omega) only [↓reduceIte, ↓p_ld, ↓p_st, ↓p_nm, ↓p_nS, ↓p_jn, ↓p_call, ↓p_callv, ↓p_dv, ↓p_rem, h_ldE, h_stE, h_nmE, h_nSE, h_callE, h_callvE, h_dvE, h_remE, if_true, if_false, z_upS, z_upO, z_upK, nI_add, z_mul, z_sub, z_div, Nat.add_zero, Nat.mul_zero, Nat.zero_add, Nat.sub_zero, Nat.zero_mul, z_ltT, z_ltF, z_leT, z_leF, z_eqT, z_eqF, z_inT, z_clT, not_true_eq_false, not_false_eq_true, eq_self, true_or, or_true, z_m_lt, z_m_le, z_lt_m, z_le_m, z_eq_m, z_m_eq, z_rz0, z_rz1, z_m_add, z_of, r_157_0, r_157_1, r_157_2, r_157_3, r_157_6, r_157_7, r_157_8, r_157_9, r_157_10, r_157_11, r_157_27, r_157_28, r_157_29, r_157_30, ↓z_m1, l_0, l_1, l_2, l_3, l_4, l_5, l_6, l_7, l_8, l_9, l_10, l_11, l_12, l_13, l_14, l_15, l_16, l_17, l_18, l_19, l_20, l_21, l_22, l_23, l_24, l_25, l_26, l_27, l_28, l_29, l_30, l_31, l_32, l_33, l_34, l_35, l_36, l_37, l_38, l_39, l_40, l_41, l_42, l_43, l_44, l_45, l_46, l_47, l_48, l_49, l_50, l_51, l_52, l_53, l_54, l_55, l_56, l_57, l_59, l_60, l_61, l_62, l_63, l_64, l_65, l_80, l_86, l_87, l_88, l_89, l_90, l_91, l_92, l_93, l_94, l_95, l_97, l_99, l_100, l_107, l_119, l_122, l_124, l_129, l_140, l_141, l_142, l_143, l_144, l_145, l_147, l_150, l_159, l_160, l_161, l_162, l_205, l_253, l_255, l_256, l_269, l_305, l_380, l_399, l_400, l_420, l_430, l_516, l_600, l_720, l_820, l_905, l_921, l_937, l_953, l_970, l_999, l_1000, l_1790, l_4096, l_9999, l_1000000]
    · obtain ⟨σ', g1, g2, g3⟩ := ih (i+1) (q_up σ 158 i (σ0 159 i)) (by omega) (by omega) (fun o ho => by rw [z_upO ho, hf o ho]) (fun k hk => by
        by_cases e : k = i
        · subst e; exact z_upS
        · rw [z_upK e]; exact hb k (by omega))
      refine ⟨σ', g1, g2, ?_⟩
      have e : σ 159 i = σ0 159 i := by rw [hf 159 (by omega)]
      rw [← g3, f_X12_image_L15]
      simp (disch := omega) only [e, ↓reduceIte, ↓p_ld, ↓p_st, ↓p_nm, ↓p_nS, ↓p_jn, ↓p_call, ↓p_callv, ↓p_dv, ↓p_rem, h_ldE, h_stE, h_nmE, h_nSE, h_callE, h_callvE, h_dvE, h_remE, if_true, if_false, z_upS, z_upO, z_upK, nI_add, z_mul, z_sub, z_div, Nat.add_zero, Nat.mul_zero, Nat.zero_add, Nat.sub_zero, Nat.zero_mul, z_ltT, z_ltF, z_leT, z_leF, z_eqT, z_eqF, z_inT, z_clT, not_true_eq_false, not_false_eq_true, eq_self, true_or, or_true, z_m_lt, z_m_le, z_lt_m, z_le_m, z_eq_m, z_m_eq, z_rz0, z_rz1, z_m_add, z_of, r_157_0, r_157_1, r_157_2, r_157_3, r_157_6, r_157_7, r_157_8, r_157_9, r_157_10, r_157_11, r_157_27, r_157_28, r_157_29, r_157_30, ↓z_m1, l_0, l_1, l_2, l_3, l_4, l_5, l_6, l_7, l_8, l_9, l_10, l_11, l_12, l_13, l_14, l_15, l_16, l_17, l_18, l_19, l_20, l_21, l_22, l_23, l_24, l_25, l_26, l_27, l_28, l_29, l_30, l_31, l_32, l_33, l_34, l_35, l_36, l_37, l_38, l_39, l_40, l_41, l_42, l_43, l_44, l_45, l_46, l_47, l_48, l_49, l_50, l_51, l_52, l_53, l_54, l_55, l_56, l_57, l_59, l_60, l_61, l_62, l_63, l_64, l_65, l_80, l_86, l_87, l_88, l_89, l_90, l_91, l_92, l_93, l_94, l_95, l_97, l_99, l_100, l_107, l_119, l_122, l_124, l_129, l_140, l_141, l_142, l_143, l_144, l_145, l_147, l_150, l_159, l_160, l_161, l_162, l_205, l_253, l_255, l_256, l_269, l_305, l_380, l_399, l_400, l_420, l_430, l_516, l_600, l_720, l_820, l_905, l_921, l_937, l_953, l_970, l_999, l_1000, l_1790, l_4096, l_9999, l_1000000]
theorem z_WR.row {σ : q_Sto} {b mu me : Nat} {V V' : Nat → Int32} (hF : z_WF V mu me) (h : z_WR σ b V mu me) (e : ∀ k, k < 1790 → V' k = V k) : z_WF V' mu me ∧ z_WR σ b V' mu me := by
  have e2 : z_WT σ b V' mu me := by
    obtain ⟨⟨c, z, l1, l2, l3, l4, l5, l6⟩, ⟨c2, h1, h2, h3, h4, h5⟩, ⟨c3, p1, p2, p3, p4⟩, ⟨c4, a1, a2, a3, a4⟩, ⟨c5, o1, o2, o3, o4⟩, ⟨c6, s1, s2, s3, s4⟩⟩ := h.2.1
    refine ⟨⟨c, z, l1, l2, l3, by rw [e 89 (by omega)]; exact l4, fun i hi => ?_, fun j hj => ?_⟩, ⟨c2, h1, h2, by rw [e 90 (by omega)]; exact h3, h4, fun m hm => ?_⟩, ⟨c3, p1, p2, by rw [e 91 (by omega)]; exact p3, fun i hi => ?_⟩, ⟨c4, a1, a2, by rw [e 92 (by omega)]; exact a3, fun i hi => ?_⟩, ⟨c5, o1, o2, by rw [e 93 (by omega)]; exact o3, fun i hi => ?_⟩, ⟨c6, s1, s2, by rw [e 94 (by omega)]; exact s3, fun i hi => ?_⟩⟩
    · rw [e (905+i) (by omega), e (921+i) (by omega), e (937+i) (by omega), e (953+i) (by omega)]; exact l5 i hi
    · rw [e (970+2*j) (by omega), e (970+2*j+1) (by omega)]; exact l6 j hj
    · rw [e (129+m) (by omega)]; exact h5 m hm
    · rw [e (141+4*i) (by omega), e (141+4*i+1) (by omega), e (141+4*i+2) (by omega), e (141+4*i+3) (by omega)]; exact p4 i hi
    · rw [e (205+3*i) (by omega), e (205+3*i+1) (by omega), e (205+3*i+2) (by omega)]; exact a4 i hi
    · rw [e (253+2*i) (by omega), e (253+2*i+1) (by omega)]; exact o4 i hi
    · rw [e (269+3*i) (by omega), e (269+3*i+1) (by omega), e (269+3*i+2) (by omega)]; exact s4 i hi
  refine ⟨hF.congr (fun a ha => e a (by omega)), h.1.congr hF.1.1 hF.1.2.1 (fun a ha => e a (by omega)), e2, ?_⟩
  obtain ⟨w, b1, b2, b3, b4⟩ := h.2.2
  exact ⟨w, b1, b2, by rw [e 6 (by omega)]; exact b3, fun i c hi hc => by rw [e _ (by omega)]; exact b4 i c hi hc⟩
theorem z_HI.no {σ : q_Sto} {mu me mu' me' : Nat} {σ' : q_Sto} (h : z_HI σ mu me) (e62 : σ' 62 = σ 62) (e61 : σ' 61 1 = nI 0) (e4 : σ' 157 4 = nI 0) : z_HI σ' mu' me' := by
  obtain ⟨c, p, w, h1, h2, h3, h4, h5, h6, h7, h8⟩ := h
  exact ⟨0, p, fun _ => 0, by omega, e61, e4, fun i hi => ⟨(h4 i hi).1, by rw [e62]; exact (h4 i hi).2⟩, h5, fun i hi => by omega, fun i j _ _ => Nat.le_refl _, Nat.zero_le _⟩
theorem P_image {σ : q_Sto} (h : q_Sim σ) (a0 : Int32) (h0 : a0 = 0 ∨ a0 = 1) : ∃ (r : Int32) (σ1 σ2 : q_Sto), f_X11_image q_F 0 a0 σ = some (r, σ1) ∧ f_X12_image q_F 157 a0 σ1 = some (r, σ2) ∧ q_Sim σ2 := by
  obtain ⟨mu, me, h⟩ := h
  obtain ⟨s1, s2, s3, s4, s5, s6, s7, s8⟩ := h
  rcases h0 with rfl | rfl
  · rw [l_0]
    rcases s5 with ⟨b1, b2⟩ | ⟨b1, b2, mu', me', b3, b4⟩
    · refine ⟨nI 0, σ, σ, ?_, ?_, mu, me, s1, s2, s3, s4, Or.inl ⟨b1, b2⟩, s6, s7, s8⟩
      · unfold f_X11_image
        simp (disch := omega) only [b1, ↓reduceIte, ↓p_ld, ↓p_st, ↓p_nm, ↓p_nS, ↓p_jn, ↓p_call, ↓p_callv, ↓p_dv, ↓p_rem, h_ldE, h_stE, h_nmE, h_nSE, h_callE, h_callvE, h_dvE, h_remE, if_true, if_false, z_upS, z_upO, z_upK, nI_add, z_mul, z_sub, z_div, Nat.add_zero, Nat.mul_zero, Nat.zero_add, Nat.sub_zero, Nat.zero_mul, z_ltT, z_ltF, z_leT, z_leF, z_eqT, z_eqF, z_inT, z_clT, not_true_eq_false, not_false_eq_true, eq_self, true_or, or_true, z_m_lt, z_m_le, z_lt_m, z_le_m, z_eq_m, z_m_eq, z_rz0, z_rz1, z_m_add, z_of, r_0_0, r_0_1, r_0_3, r_0_4, r_0_5, r_0_6, r_0_7, r_0_8, r_0_9, r_0_10, r_1_0, r_1_1, r_1_2, r_1_3, r_1_4, r_1_5, r_1_6, r_1_7, r_1_8, r_2_0, r_2_1, r_2_2, r_2_3, r_2_4, r_2_5, r_2_6, r_2_7, r_11_0, r_11_1, r_11_2, r_11_3, r_11_4, r_11_5, r_11_6, r_19_0, r_21_0, r_23_0, r_25_0, r_27_0, r_61_0, r_117_0, r_117_1, r_117_2, r_117_3, r_117_4, r_117_5, r_117_6, r_117_7, r_126_0, r_126_1, r_126_2, r_126_3, r_126_4, r_132_0, r_132_1, r_135_0, r_135_1, r_135_2, r_135_3, r_135_4, r_135_5, r_142_0, r_144_0, r_144_1, r_144_2, r_145_0, r_145_1, r_145_2, r_145_3, r_145_4, r_145_5, r_145_6, r_154_0, r_154_1, r_155_0, ↓z_m1, l_0, l_1, l_2, l_3, l_4, l_5, l_6, l_7, l_8, l_9, l_10, l_11, l_12, l_13, l_14, l_15, l_16, l_17, l_18, l_19, l_20, l_21, l_22, l_23, l_24, l_25, l_26, l_27, l_28, l_29, l_30, l_31, l_32, l_33, l_34, l_35, l_36, l_37, l_38, l_39, l_40, l_41, l_42, l_43, l_44, l_45, l_46, l_47, l_48, l_49, l_50, l_51, l_52, l_53, l_54, l_55, l_56, l_57, l_59, l_60, l_61, l_62, l_63, l_64, l_65, l_80, l_86, l_87, l_88, l_89, l_90, l_91, l_92, l_93, l_94, l_95, l_97, l_99, l_100, l_107, l_119, l_122, l_124, l_129, l_140, l_141, l_142, l_143, l_144, l_145, l_147, l_150, l_159, l_160, l_161, l_162, l_205, l_253, l_255, l_256, l_269, l_305, l_380, l_399, l_400, l_420, l_430, l_516, l_600, l_720, l_820, l_905, l_921, l_937, l_953, l_970, l_999, l_1000, l_1790, l_4096, l_9999, l_1000000]
      · unfold f_X12_image
        simp (disch := omega) only [b2, ↓reduceIte, ↓p_ld, ↓p_st, ↓p_nm, ↓p_nS, ↓p_jn, ↓p_call, ↓p_callv, ↓p_dv, ↓p_rem, h_ldE, h_stE, h_nmE, h_nSE, h_callE, h_callvE, h_dvE, h_remE, if_true, if_false, z_upS, z_upO, z_upK, nI_add, z_mul, z_sub, z_div, Nat.add_zero, Nat.mul_zero, Nat.zero_add, Nat.sub_zero, Nat.zero_mul, z_ltT, z_ltF, z_leT, z_leF, z_eqT, z_eqF, z_inT, z_clT, not_true_eq_false, not_false_eq_true, eq_self, true_or, or_true, z_m_lt, z_m_le, z_lt_m, z_le_m, z_eq_m, z_m_eq, z_rz0, z_rz1, z_m_add, z_of, r_157_0, r_157_1, r_157_2, r_157_3, r_157_6, r_157_7, r_157_8, r_157_9, r_157_10, r_157_11, r_157_27, r_157_28, r_157_29, r_157_30, ↓z_m1, l_0, l_1, l_2, l_3, l_4, l_5, l_6, l_7, l_8, l_9, l_10, l_11, l_12, l_13, l_14, l_15, l_16, l_17, l_18, l_19, l_20, l_21, l_22, l_23, l_24, l_25, l_26, l_27, l_28, l_29, l_30, l_31, l_32, l_33, l_34, l_35, l_36, l_37, l_38, l_39, l_40, l_41, l_42, l_43, l_44, l_45, l_46, l_47, l_48, l_49, l_50, l_51, l_52, l_53, l_54, l_55, l_56, l_57, l_59, l_60, l_61, l_62, l_63, l_64, l_65, l_80, l_86, l_87, l_88, l_89, l_90, l_91, l_92, l_93, l_94, l_95, l_97, l_99, l_100, l_107, l_119, l_122, l_124, l_129, l_140, l_141, l_142, l_143, l_144, l_145, l_147, l_150, l_159, l_160, l_161, l_162, l_205, l_253, l_255, l_256, l_269, l_305, l_380, l_399, l_400, l_420, l_430, l_516, l_600, l_720, l_820, l_905, l_921, l_937, l_953, l_970, l_999, l_1000, l_1790, l_4096, l_9999, l_1000000]
    · obtain ⟨σ1, x1, x2, x3, x4⟩ := c_copyWorld1 (n := q_F) b3.1.1 b3.1.2.1 b4 s6
      obtain ⟨σ2, y1, y2, y3⟩ := m_img0 (n := q_F) (σ0 := q_up σ1 61 1 (nI 0)) (K := fun  (s9 : q_Sto) =>
  if nI 0 = 0 then (
  q_callv (f_X12_forgets q_F 157 s9) fun s11 =>
  q_nS1 (q_up s11 157 5 1) fun s13 =>
  some (1, s13))
  else (
  q_nS1 (q_up s9 157 5 1) fun s14 =>
  some (1, s14))) q_F 0 _ (by omega) (by unfold q_F; omega) (fun o _ => rfl) (fun k hk => by omega)
      have e158 : ∀ k, k < 1790 → σ2 158 k = σ 159 k := fun k hk => by rw [y2 k hk, z_upO (by omega), x2 159 (by omega)]
      have hfr : ∀ o, o ≠ 158 → o ≠ 61 → (o < 2 ∨ 29 < o) → σ2 o = σ o := fun o o1 o2 o3 => by rw [y1 o o1, z_upO o2, x2 o (by omega)]
      have hfr1 : ∀ o, o < 61 → σ2 o = σ1 o := fun o ho => by rw [y1 o (by omega), z_upO (by omega)]
      refine ⟨nI 1, q_up σ1 61 1 (nI 0), q_up (q_up σ2 157 4 (nI 0)) 157 5 (nI 1), ?_, ?_, mu', me', ?_⟩
      · unfold f_X11_image
        have k1 : ¬ nI 1 = (0 : Int32) := by decide
        rw [if_pos (show nI 0 = 0 from rfl), b1, if_neg k1, r_0_0, r_0_1, x1, z_callv]
        simp (disch := omega) only [f_X1_forget, ↓reduceIte, ↓p_ld, ↓p_st, ↓p_nm, ↓p_nS, ↓p_jn, ↓p_call, ↓p_callv, ↓p_dv, ↓p_rem, h_ldE, h_stE, h_nmE, h_nSE, h_callE, h_callvE, h_dvE, h_remE, if_true, if_false, z_upS, z_upO, z_upK, nI_add, z_mul, z_sub, z_div, Nat.add_zero, Nat.mul_zero, Nat.zero_add, Nat.sub_zero, Nat.zero_mul, z_ltT, z_ltF, z_leT, z_leF, z_eqT, z_eqF, z_inT, z_clT, not_true_eq_false, not_false_eq_true, eq_self, true_or, or_true, z_m_lt, z_m_le, z_lt_m, z_le_m, z_eq_m, z_m_eq, z_rz0, z_rz1, z_m_add, z_of, r_0_0, r_0_1, r_0_3, r_0_4, r_0_5, r_0_6, r_0_7, r_0_8, r_0_9, r_0_10, r_1_0, r_1_1, r_1_2, r_1_3, r_1_4, r_1_5, r_1_6, r_1_7, r_1_8, r_2_0, r_2_1, r_2_2, r_2_3, r_2_4, r_2_5, r_2_6, r_2_7, r_11_0, r_11_1, r_11_2, r_11_3, r_11_4, r_11_5, r_11_6, r_19_0, r_21_0, r_23_0, r_25_0, r_27_0, r_61_0, r_117_0, r_117_1, r_117_2, r_117_3, r_117_4, r_117_5, r_117_6, r_117_7, r_126_0, r_126_1, r_126_2, r_126_3, r_126_4, r_132_0, r_132_1, r_135_0, r_135_1, r_135_2, r_135_3, r_135_4, r_135_5, r_142_0, r_144_0, r_144_1, r_144_2, r_145_0, r_145_1, r_145_2, r_145_3, r_145_4, r_145_5, r_145_6, r_154_0, r_154_1, r_155_0, ↓z_m1, l_0, l_1, l_2, l_3, l_4, l_5, l_6, l_7, l_8, l_9, l_10, l_11, l_12, l_13, l_14, l_15, l_16, l_17, l_18, l_19, l_20, l_21, l_22, l_23, l_24, l_25, l_26, l_27, l_28, l_29, l_30, l_31, l_32, l_33, l_34, l_35, l_36, l_37, l_38, l_39, l_40, l_41, l_42, l_43, l_44, l_45, l_46, l_47, l_48, l_49, l_50, l_51, l_52, l_53, l_54, l_55, l_56, l_57, l_59, l_60, l_61, l_62, l_63, l_64, l_65, l_80, l_86, l_87, l_88, l_89, l_90, l_91, l_92, l_93, l_94, l_95, l_97, l_99, l_100, l_107, l_119, l_122, l_124, l_129, l_140, l_141, l_142, l_143, l_144, l_145, l_147, l_150, l_159, l_160, l_161, l_162, l_205, l_253, l_255, l_256, l_269, l_305, l_380, l_399, l_400, l_420, l_430, l_516, l_600, l_720, l_820, l_905, l_921, l_937, l_953, l_970, l_999, l_1000, l_1790, l_4096, l_9999, l_1000000]
      · unfold f_X12_image
        have k1 : ¬ nI 1 = (0 : Int32) := by decide
        have e5 : q_up σ1 61 1 (nI 0) 157 5 = nI 1 := by rw [z_upO (by omega), x2 157 (by omega)]; exact b2
        rw [if_pos (show nI 0 = 0 from rfl), e5, if_neg k1]
        refine Eq.trans y3 ?_
        simp (disch := omega) only [f_X12_forgets, ↓reduceIte, ↓p_ld, ↓p_st, ↓p_nm, ↓p_nS, ↓p_jn, ↓p_call, ↓p_callv, ↓p_dv, ↓p_rem, h_ldE, h_stE, h_nmE, h_nSE, h_callE, h_callvE, h_dvE, h_remE, if_true, if_false, z_upS, z_upO, z_upK, nI_add, z_mul, z_sub, z_div, Nat.add_zero, Nat.mul_zero, Nat.zero_add, Nat.sub_zero, Nat.zero_mul, z_ltT, z_ltF, z_leT, z_leF, z_eqT, z_eqF, z_inT, z_clT, not_true_eq_false, not_false_eq_true, eq_self, true_or, or_true, z_m_lt, z_m_le, z_lt_m, z_le_m, z_eq_m, z_m_eq, z_rz0, z_rz1, z_m_add, z_of, r_157_0, r_157_1, r_157_2, r_157_3, r_157_6, r_157_7, r_157_8, r_157_9, r_157_10, r_157_11, r_157_27, r_157_28, r_157_29, r_157_30, ↓z_m1, l_0, l_1, l_2, l_3, l_4, l_5, l_6, l_7, l_8, l_9, l_10, l_11, l_12, l_13, l_14, l_15, l_16, l_17, l_18, l_19, l_20, l_21, l_22, l_23, l_24, l_25, l_26, l_27, l_28, l_29, l_30, l_31, l_32, l_33, l_34, l_35, l_36, l_37, l_38, l_39, l_40, l_41, l_42, l_43, l_44, l_45, l_46, l_47, l_48, l_49, l_50, l_51, l_52, l_53, l_54, l_55, l_56, l_57, l_59, l_60, l_61, l_62, l_63, l_64, l_65, l_80, l_86, l_87, l_88, l_89, l_90, l_91, l_92, l_93, l_94, l_95, l_97, l_99, l_100, l_107, l_119, l_122, l_124, l_129, l_140, l_141, l_142, l_143, l_144, l_145, l_147, l_150, l_159, l_160, l_161, l_162, l_205, l_253, l_255, l_256, l_269, l_305, l_380, l_399, l_400, l_420, l_430, l_516, l_600, l_720, l_820, l_905, l_921, l_937, l_953, l_970, l_999, l_1000, l_1790, l_4096, l_9999, l_1000000]
      · obtain ⟨z1, z2⟩ := z_WR.row (V' := σ2 158) b3 (x3.fr (σ' := q_up (q_up σ2 157 4 (nI 0)) 157 5 (nI 1)) (fun o o1 o2 o3 => by rw [z_upO (by omega), z_upO (by omega), hfr1 o (by omega)])) e158
        have e1 : q_up (q_up σ2 157 4 (nI 0)) 157 5 (nI 1) 158 = σ2 158 := by rw [z_upO (by omega), z_upO (by omega)]
        have e2 : ∀ o, o ≠ 157 → q_up (q_up σ2 157 4 (nI 0)) 157 5 (nI 1) o = σ2 o := fun o ho => by rw [z_upO ho, z_upO ho]
        refine ⟨by rw [e1]; exact z1, by rw [e1]; exact z2, z_HI.no s3 (by rw [e2 _ (by omega), hfr 62 (by omega) (by omega) (by omega)]) (by rw [e2 _ (by omega), y1 61 (by omega)]; exact z_upS) (by rw [z_upK (by omega)]; exact z_upS), ?_, Or.inr ⟨?_, z_upS, mu', me', ?_⟩, ?_, ?_, ?_⟩
        · exact s4.fr (by rw [e2 _ (by omega), hfr 142 (by omega) (by omega) (by omega)]) (by rw [e2 _ (by omega), hfr 142 (by omega) (by omega) (by omega)]) (by rw [e2 _ (by omega), hfr 142 (by omega) (by omega) (by omega)]) (by rw [e2 _ (by omega), hfr 143 (by omega) (by omega) (by omega)]) (by rw [e2 _ (by omega), hfr 165 (by omega) (by omega) (by omega)])
            (by rw [z_upK (by omega), z_upK (by omega), hfr 157 (by omega) (by omega) (by omega)]) (by rw [z_upK (by omega), z_upK (by omega), hfr 157 (by omega) (by omega) (by omega)]) (by rw [z_upK (by omega), z_upK (by omega), hfr 157 (by omega) (by omega) (by omega)])
        · rw [e2 _ (by omega), hfr 0 (by omega) (by omega) (by omega)]; exact b1
        · rw [e2 159 (by omega), hfr 159 (by omega) (by omega) (by omega)]
          exact ⟨b3, b4.fr (fun o o1 o2 o3 => by rw [e2 _ (by omega), hfr o (by omega) (by omega) (by omega)])⟩
        · exact x4.fr (fun o o1 o2 => by rw [e2 _ (by omega), hfr1 o (by omega)])
        · exact s7.fr (fun o o1 o2 => by rw [e2 _ (by omega), hfr o (by omega) (by omega) (by omega)])
        · rw [e2 _ (by omega), hfr 155 (by omega) (by omega) (by omega)]; exact s8
  · rw [l_1]
    obtain ⟨σ1, x1, x2, x3, x4⟩ := c_copyWorld31 (n := q_F) s1.1.1 s1.1.2.1 s2 s7
    obtain ⟨σ2, y1, y2, y3⟩ := m_img1 (n := q_F) (σ0 := q_up σ1 0 2 (nI 1)) (K := fun  (s21 : q_Sto) =>
  if nI 1 = 0 then (
  q_callv (f_X12_forgets q_F 157 s21) fun s23 =>
  q_nS1 (q_up s23 157 5 1) fun s25 =>
  some (1, s25))
  else (
  q_nS1 (q_up s21 157 5 1) fun s26 =>
  some (1, s26))) q_F 0 _ (by omega) (by unfold q_F; omega) (fun o _ => rfl) (fun k hk => by omega)
    have e159 : ∀ k, k < 1790 → σ2 159 k = σ 158 k := fun k hk => by rw [y2 k hk, z_upO (by omega), x2 158 (by omega)]
    have hfr : ∀ o, o ≠ 159 → o ≠ 0 → (o < 32 ∨ 59 < o) → σ2 o = σ o := fun o o1 o2 o3 => by rw [y1 o o1, z_upO o2, x2 o (by omega)]
    have hfr1 : ∀ o, o ≠ 0 → o < 61 → σ2 o = σ1 o := fun o o1 ho => by rw [y1 o (by omega), z_upO o1]
    have e2 : ∀ o, o ≠ 157 → q_up σ2 157 5 (nI 1) o = σ2 o := fun o ho => by rw [z_upO ho]
    have k1 : ¬ nI 1 = (0 : Int32) := by decide
    refine ⟨nI 1, q_up σ1 0 2 (nI 1), q_up σ2 157 5 (nI 1), ?_, ?_, mu, me, ?_⟩
    · unfold f_X11_image
      rw [if_neg k1, r_0_0, r_0_1, x1, z_callv]
      rfl
    · unfold f_X12_image
      rw [if_neg k1]
      refine Eq.trans y3 ?_
      simp (disch := omega) only [↓reduceIte, ↓p_ld, ↓p_st, ↓p_nm, ↓p_nS, ↓p_jn, ↓p_call, ↓p_callv, ↓p_dv, ↓p_rem, h_ldE, h_stE, h_nmE, h_nSE, h_callE, h_callvE, h_dvE, h_remE, if_true, if_false, z_upS, z_upO, z_upK, nI_add, z_mul, z_sub, z_div, Nat.add_zero, Nat.mul_zero, Nat.zero_add, Nat.sub_zero, Nat.zero_mul, z_ltT, z_ltF, z_leT, z_leF, z_eqT, z_eqF, z_inT, z_clT, not_true_eq_false, not_false_eq_true, eq_self, true_or, or_true, z_m_lt, z_m_le, z_lt_m, z_le_m, z_eq_m, z_m_eq, z_rz0, z_rz1, z_m_add, z_of, r_157_0, r_157_1, r_157_2, r_157_3, r_157_6, r_157_7, r_157_8, r_157_9, r_157_10, r_157_11, r_157_27, r_157_28, r_157_29, r_157_30, ↓z_m1, l_0, l_1, l_2, l_3, l_4, l_5, l_6, l_7, l_8, l_9, l_10, l_11, l_12, l_13, l_14, l_15, l_16, l_17, l_18, l_19, l_20, l_21, l_22, l_23, l_24, l_25, l_26, l_27, l_28, l_29, l_30, l_31, l_32, l_33, l_34, l_35, l_36, l_37, l_38, l_39, l_40, l_41, l_42, l_43, l_44, l_45, l_46, l_47, l_48, l_49, l_50, l_51, l_52, l_53, l_54, l_55, l_56, l_57, l_59, l_60, l_61, l_62, l_63, l_64, l_65, l_80, l_86, l_87, l_88, l_89, l_90, l_91, l_92, l_93, l_94, l_95, l_97, l_99, l_100, l_107, l_119, l_122, l_124, l_129, l_140, l_141, l_142, l_143, l_144, l_145, l_147, l_150, l_159, l_160, l_161, l_162, l_205, l_253, l_255, l_256, l_269, l_305, l_380, l_399, l_400, l_420, l_430, l_516, l_600, l_720, l_820, l_905, l_921, l_937, l_953, l_970, l_999, l_1000, l_1790, l_4096, l_9999, l_1000000]
    · obtain ⟨z1, z2⟩ := z_WR.row (V' := σ2 159) s1 (x3.fr (σ' := q_up σ2 157 5 (nI 1)) (fun o o1 o2 o3 => by rw [e2 _ (by omega), hfr1 o (by omega) (by omega)])) e159
      have e158 : q_up σ2 157 5 (nI 1) 158 = σ 158 := by rw [e2 _ (by omega), hfr 158 (by omega) (by omega) (by omega)]
      refine ⟨by rw [e158]; exact s1, by rw [e158]; exact s2.fr (fun o o1 o2 o3 => by rw [e2 _ (by omega), hfr o (by omega) (by omega) (by omega)]), ?_, ?_, Or.inr ⟨?_, z_upS, mu, me, ?_⟩, ?_, ?_, ?_⟩
      · exact s3.fr (fun o o1 o2 => by rw [e2 _ (by omega), hfr o (by omega) (by omega) (by omega)]) (by rw [z_upK (by omega), hfr 157 (by omega) (by omega) (by omega)]) e158 (by rw [e2 _ (by omega), hfr 160 (by omega) (by omega) (by omega)])
      · exact s4.fr (by rw [e2 _ (by omega), hfr 142 (by omega) (by omega) (by omega)]) (by rw [e2 _ (by omega), hfr 142 (by omega) (by omega) (by omega)]) (by rw [e2 _ (by omega), hfr 142 (by omega) (by omega) (by omega)]) (by rw [e2 _ (by omega), hfr 143 (by omega) (by omega) (by omega)]) (by rw [e2 _ (by omega), hfr 165 (by omega) (by omega) (by omega)])
          (by rw [z_upK (by omega), hfr 157 (by omega) (by omega) (by omega)]) (by rw [z_upK (by omega), hfr 157 (by omega) (by omega) (by omega)]) (by rw [z_upK (by omega), hfr 157 (by omega) (by omega) (by omega)])
      · rw [e2 _ (by omega), y1 0 (by omega)]; exact z_upS
      · rw [e2 159 (by omega)]; exact ⟨z1, z2⟩
      · exact s6.fr (fun o o1 o2 => by rw [e2 _ (by omega), hfr o (by omega) (by omega) (by omega)])
      · exact x4.fr (fun o o1 o2 => by rw [e2 _ (by omega), hfr1 o (by omega) (by omega)])
      · rw [e2 _ (by omega), hfr 155 (by omega) (by omega) (by omega)]; exact s8
