/-! what is set and seen -/
theorem z_setQ {σ τ : q_Sto} {mu me : Nat} {V' : Nat → Int32} (h : z_SimN σ mu me) (hC : z_C τ V' mu me) (hV : τ 158 = V') (h0 : V' 0 = σ 158 0) (hB : z_BK τ 1 V') (e61 : τ 61 1 = nI 0) (e4 : τ 157 4 = nI 0) (e : ∀ o, 11 ≤ o → o ≠ 61 → o ≠ 157 → o ≠ 158 → τ o = σ o) (e0 : τ 0 = σ 0) (e157 : ∀ a, a ≠ 4 → τ 157 a = σ 157 a) : q_Sim τ := by
  refine ⟨mu, me, z_Sim.told h (by rw [hV]; exact ⟨hC.1, by rw [h0]; exact h.1.2⟩) (by rw [hV]; exact ⟨hC.2.1, hC.2.2, hB⟩) (h.2.2.2.2.2.1.fr (fun o o1 o2 => e o (by omega) (by omega) (by omega) (by omega))) e61 e4 (fun o ho => ?_) (fun a a1 _ => e157 a a1)⟩
  by_cases q : o = 0
  · subst q; exact e0
  · exact e o (by omega) (by omega) (by omega) (by omega)
theorem z_C.snow {σ : q_Sto} {V : Nat → Int32} {mu me v : Nat} (h : z_C σ V mu me) (hv : v ≤ 9) : z_C (q_up σ 2 11 (nI v)) (z_u V 88 (nI v)) mu me := by
  obtain ⟨⟨f1, f2, f3, f4, f5, f6, f7, f8, f9, f10, f11, f12⟩, hT, hW⟩ := h
  obtain ⟨⟨g1, g2, g3, g4, g5, g6, g7, g8, g9⟩, t1, t2, t3, t4, t5, t6⟩ := hT.un
  refine ⟨⟨f1, f2, by rw [z_uK (by omega)]; exact f3, by rw [z_uK (by omega)]; exact f4, by rw [z_uK (by omega)]; exact f5, fun m hm => ?_, fun m k hm hk => ?_, fun k hk => ?_, by rw [z_uK (by omega)]; exact f9, by rw [z_uK (by omega)]; exact f10, by rw [z_uK (by omega)]; exact f11, by rw [z_uS]; exact ⟨v, hv, rfl⟩⟩, z_TR.mk ?_ (fun m hm => ?_) (fun m hm => ?_) (fun m m1 m2 => by rw [z_upO (by omega)]; exact t3 m m1 m2) (fun k hk => ?_) (fun m k hm hk => ?_) (fun m k hm hk hq => by rw [z_upO (by omega)]; exact t6 m k hm hk hq), z_sam.WT (z_sam.u (by omega)) (hW.fr (fun o o1 o2 o3 => z_upO (by omega)))⟩
  · rw [z_uK (by omega), z_uK (by omega), z_uK (by omega)]; exact f6 m hm
  · rw [z_uK (by omega)]; exact f7 m k hm hk
  · rw [z_uK (by omega), z_uK (by omega), z_uK (by omega)]; exact f8 k hk
  · refine ⟨?_, ?_, ?_, ?_, ?_, ?_, ?_, ?_, ?_⟩ <;> simp (disch := omega) only [z_uK, z_uS, g1, g2, g3, g4, g5, g6, g7, g8, g9, ↓reduceIte, ↓p_ld, ↓p_st, ↓p_nm, ↓p_nS, ↓p_jn, ↓p_call, ↓p_callv, ↓p_dv, ↓p_rem, h_ldE, h_stE, h_nmE, h_nSE, h_callE, h_callvE, h_dvE, h_remE, if_true, if_false, z_upS, z_upO, z_upK, nI_add, z_mul, z_sub, z_div, Nat.add_zero, Nat.mul_zero, Nat.zero_add, Nat.sub_zero, Nat.zero_mul, z_ltT, z_ltF, z_leT, z_leF, z_eqT, z_eqF, z_inT, z_clT, not_true_eq_false, not_false_eq_true, eq_self, true_or, or_true, z_m_lt, z_m_le, z_lt_m, z_le_m, z_eq_m, z_m_eq, z_rz0, z_rz1, z_m_add, z_of, ↓z_m1, l_0, l_1, l_2, l_3, l_4, l_5, l_6, l_7, l_8, l_9, l_10, l_11, l_12, l_13, l_14, l_15, l_16, l_17, l_18, l_19, l_20, l_21, l_22, l_23, l_24, l_25, l_26, l_27, l_28, l_29, l_30, l_31, l_32, l_33, l_34, l_35, l_36, l_37, l_38, l_39, l_40, l_41, l_42, l_43, l_44, l_45, l_46, l_47, l_48, l_49, l_50, l_51, l_52, l_53, l_54, l_55, l_56, l_57, l_59, l_60, l_61, l_62, l_63, l_64, l_65, l_80, l_86, l_87, l_88, l_89, l_90, l_91, l_92, l_93, l_94, l_95, l_97, l_99, l_100, l_107, l_119, l_122, l_124, l_129, l_140, l_141, l_142, l_143, l_144, l_145, l_147, l_150, l_159, l_160, l_161, l_162, l_205, l_253, l_255, l_256, l_269, l_305, l_380, l_399, l_400, l_420, l_430, l_516, l_600, l_720, l_820, l_905, l_921, l_937, l_953, l_970, l_999, l_1000, l_1790, l_4096, l_9999, l_1000000]
  · rw [z_upO (by omega), z_upO (by omega), z_upO (by omega), z_uK (by omega), z_uK (by omega), z_uK (by omega)]; exact t1 m hm
  · rw [z_upO (by omega), z_uK (by omega)]; exact t2 m hm
  · rw [z_upO (by omega), z_upO (by omega), z_upO (by omega), z_uK (by omega), z_uK (by omega), z_uK (by omega)]; exact t4 k hk
  · rw [z_upO (by omega), z_uK (by omega)]; exact t5 m k hm hk
theorem z_C.skill {σ : q_Sto} {V : Nat → Int32} {mu me k v f a : Nat} (h : z_C σ V mu me) (hk : k < me) (hv : v ≤ 9) (hf : (f = 8 ∧ a = 119) ∨ (f = 9 ∧ a = 124)) : z_C (q_up σ f k (nI v)) (z_u V (a+k) (nI v)) mu me := by
  obtain ⟨⟨f1, f2, f3, f4, f5, f6, f7, f8, f9, f10, f11, f12⟩, hT, hW⟩ := h
  obtain ⟨⟨g1, g2, g3, g4, g5, g6, g7, g8, g9⟩, t1, t2, t3, t4, t5, t6⟩ := hT.un
  have ha : 119 ≤ a + k ∧ a + k < 129 := by omega
  have e : ∀ b, b < 119 ∨ 129 ≤ b → z_u V (a+k) (nI v) b = V b := fun b hb => z_uK (by omega)
  have eo : ∀ o, o ≠ 8 → o ≠ 9 → q_up σ f k (nI v) o = σ o := fun o o1 o2 => z_upO (by omega)
  refine ⟨⟨f1, f2, by rw [e 86 (by omega)]; exact f3, by rw [e 87 (by omega)]; exact f4, by rw [e 7 (by omega)]; exact f5, fun m hm => ?_, fun m k hm hk => ?_, fun k' hk' => ?_, by rw [e 1 (by omega)]; exact f9, by rw [e 2 (by omega)]; exact f10, by rw [e 6 (by omega)]; exact f11, by rw [e 88 (by omega)]; exact f12⟩, z_TR.mk ?_ (fun m hm => ?_) (fun m hm => ?_) (fun m m1 m2 => by rw [eo 6 (by omega) (by omega)]; exact t3 m m1 m2) (fun k' hk' => ?_) (fun m k hm hk => ?_) (fun m k hm hk hq => by rw [eo 10 (by omega) (by omega)]; exact t6 m k hm hk hq), z_sam.WT (z_sam.u (by omega)) (hW.fr (fun o o1 o2 o3 => z_upO (by omega)))⟩
  · rw [e (8+m) (by omega), e (95+m) (by omega), e (107+m) (by omega)]; exact f6 m hm
  · rw [e (20+5*m+k) (by omega)]; exact f7 m k hm hk
  · obtain ⟨x1, x2, x3⟩ := f8 k' hk'
    rw [e (80+k') (by omega)]
    refine ⟨x1, ?_, ?_⟩
    · by_cases q : 119 + k' = a + k
      · rw [q, z_uS]; exact ⟨v, hv, rfl⟩
      · rw [z_uK q]; exact x2
    · by_cases q : 124 + k' = a + k
      · rw [q, z_uS]; exact ⟨v, hv, rfl⟩
      · rw [z_uK q]; exact x3
  · rw [eo 2 (by omega) (by omega), e 5 (by omega), e 88 (by omega), e 1 (by omega), e 2 (by omega), e 3 (by omega), e 4 (by omega), e 0 (by omega)]; exact ⟨g1, g2, g3, g4, g5, g6, g7, g8, g9⟩
  · rw [eo 3 (by omega) (by omega), eo 4 (by omega) (by omega), eo 6 (by omega) (by omega), e (8+m) (by omega), e (95+m) (by omega), e (107+m) (by omega)]; exact t1 m hm
  · rw [eo 5 (by omega) (by omega), e 7 (by omega)]; exact t2 m hm
  · obtain ⟨x1, x2, x3⟩ := t4 k' hk'
    rw [eo 7 (by omega) (by omega), e (80+k') (by omega)]
    refine ⟨x1, ?_, ?_⟩
    · by_cases q : f = 8 ∧ k' = k
      · obtain ⟨rfl, rfl⟩ := q
        have : a = 119 := by omega
        subst this
        rw [z_uS, z_upS]
      · rw [z_uK (by omega)]
        by_cases q2 : f = 8
        · subst q2; rw [z_upK (by omega)]; exact x2
        · rw [z_upO (by omega)]; exact x2
    · by_cases q : f = 9 ∧ k' = k
      · obtain ⟨rfl, rfl⟩ := q
        have : a = 124 := by omega
        subst this
        rw [z_uS, z_upS]
      · rw [z_uK (by omega)]
        by_cases q2 : f = 9
        · subst q2; rw [z_upK (by omega)]; exact x3
        · rw [z_upO (by omega)]; exact x3
  · rw [eo 10 (by omega) (by omega), e (20+5*m+k) (by omega)]; exact t5 m k hm hk