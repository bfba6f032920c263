/-! the VOTE, done -/
theorem z_C.R {σ : q_Sto} {V : Nat → Int32} {mu me : Nat} (h : z_C σ V mu me) : z_R σ V mu me := ⟨h.1.1, h.1.2.1, h.1.2.2.1, h.1.2.2.2.1, h.2.2.2.1, h.2.2.1, h.1.2.2.2.2.2.2.1⟩
theorem z_op_vw {a me : Nat} (h : a ≤ me) : z_op (z_vw a) me := by
  cases a with
  | zero => exact Or.inl rfl
  | succ a => exact Or.inr ⟨a, by omega, rfl⟩
theorem z_C.vote {σ σ' : q_Sto} {V W : Nat → Int32} {mu me : Nat} {B : Nat → Nat} {d x : Int32} (h : z_C σ V mu me) (hB : ∀ m, B m ≤ me) (hd : z_op d me) (hW : W = z_u (z_VV V B d) 3 x)
    (e : ∀ o, 3 ≤ o → o ≤ 28 → o ≠ 6 → o ≠ 18 → σ' o = σ o) (e2 : ∀ a, a ≠ 13 → a ≠ 14 → σ' 2 a = σ 2 a) (e13 : σ' 2 13 = d) (e14 : σ' 2 14 = x) (e6 : ∀ m, m < mu → σ' 6 m = z_vw (B m)) (e7 : ∀ m, mu ≤ m → m < 12 → σ' 6 m = z_m) : z_C σ' W mu me := by
  subst hW
  obtain ⟨⟨f1, f2, f3, f4, f5, f6, f7, f8, f9, f10, f11, f12⟩, hT, hWT⟩ := h
  obtain ⟨⟨g1, g2, g3, g4, g5, g6, g7, g8, g9⟩, t1, t2, t3, t4, t5, t6⟩ := hT.un
  have w : ∀ a, a ≠ 2 → a ≠ 3 → a < 8 ∨ 20 ≤ a → z_u (z_VV V B d) 3 x a = V a := fun a a1 a2 a3 => by rw [z_uK a2, z_VVo a1 a3]
  have w8 : ∀ m, m < 12 → z_u (z_VV V B d) 3 x (8+m) = z_vw (B m) := fun m hm => by rw [z_uK (by omega), z_VVi hm]
  have w2 : z_u (z_VV V B d) 3 x 2 = d := by rw [z_uK (by omega), z_VV2]
  refine ⟨⟨f1, f2, by rw [w 86 (by omega) (by omega) (by omega)]; exact f3, by rw [w 87 (by omega) (by omega) (by omega)]; exact f4, by rw [w 7 (by omega) (by omega) (by omega)]; exact f5, fun m hm => ?_, fun m k hm hk => ?_, fun k hk => ?_, by rw [w 1 (by omega) (by omega) (by omega)]; exact f9, by rw [w2]; exact hd, by rw [w 6 (by omega) (by omega) (by omega)]; exact f11, by rw [w 88 (by omega) (by omega) (by omega)]; exact f12⟩,
    z_TR.mk ⟨(e2 8 (by omega) (by omega)).trans g1, (e2 9 (by omega) (by omega)).trans g2, ?_, ?_, ?_, e13.trans w2.symm, e14.trans z_uS.symm, ?_, ?_⟩ (fun m hm => ?_) (fun m hm => ?_) e7 (fun k hk => ?_) (fun m k hm hk => ?_) (fun m k hm hk hq => ?_), z_sam.WT (fun a ha => w a (by omega) (by omega) (by omega)) (hWT.fr (fun o o1 o2 o3 => e o (by omega) (by omega) (by omega) (by omega)))⟩
  · rw [w8 m (by omega), w (95+m) (by omega) (by omega) (by omega), w (107+m) (by omega) (by omega) (by omega)]
    exact ⟨z_op_vw (hB m), (f6 m hm).2⟩
  · rw [w (20+5*m+k) (by omega) (by omega) (by omega)]; exact f7 m k hm hk
  · rw [w (80+k) (by omega) (by omega) (by omega), w (119+k) (by omega) (by omega) (by omega), w (124+k) (by omega) (by omega) (by omega)]; exact f8 k hk
  · rw [e2 10 (by omega) (by omega), w 5 (by omega) (by omega) (by omega)]; exact g3
  · rw [e2 11 (by omega) (by omega), w 88 (by omega) (by omega) (by omega)]; exact g4
  · rw [e2 12 (by omega) (by omega), w 1 (by omega) (by omega) (by omega)]; exact g5
  · rw [e2 15 (by omega) (by omega), w 4 (by omega) (by omega) (by omega)]; exact g8
  · rw [e2 16 (by omega) (by omega), w 0 (by omega) (by omega) (by omega)]; exact g9
  · rw [e 3 (by omega) (by omega) (by omega) (by omega), e 4 (by omega) (by omega) (by omega) (by omega), w (95+m) (by omega) (by omega) (by omega), w (107+m) (by omega) (by omega) (by omega), w8 m (by omega)]
    exact ⟨(t1 m hm).1, (t1 m hm).2.1, e6 m hm⟩
  · rw [e 5 (by omega) (by omega) (by omega) (by omega), w 7 (by omega) (by omega) (by omega)]; exact t2 m hm
  · rw [e 7 (by omega) (by omega) (by omega) (by omega), e 8 (by omega) (by omega) (by omega) (by omega), e 9 (by omega) (by omega) (by omega) (by omega), w (80+k) (by omega) (by omega) (by omega), w (119+k) (by omega) (by omega) (by omega), w (124+k) (by omega) (by omega) (by omega)]; exact t4 k hk
  · rw [e 10 (by omega) (by omega) (by omega) (by omega), w (20+5*m+k) (by omega) (by omega) (by omega)]; exact t5 m k hm hk
  · rw [e 10 (by omega) (by omega) (by omega) (by omega)]; exact t6 m k hm hk hq
theorem c_cast_L7 {n mu me : Nat} {B : Nat → Nat} {K : q_Sto → Option (Int32 × q_Sto)} (hn : 6 ≤ n) (hmu : mu ≤ 12) (hme : me ≤ 5) (hB : ∀ m, B m ≤ me) : ∀ j i (σ : q_Sto), i ≤ mu → mu < j + i → σ 2 8 = nI mu → σ 126 6 = nI me → (∀ k, k < me → σ 131 k = nI (z_side B k mu)) → (∀ m, m < i → σ 6 m = z_vw (B m)) →
    ∃ σ', (∀ o, o ≠ 6 → σ' o = σ o) ∧ (∀ m, m < mu → σ' 6 m = z_vw (B m)) ∧ (∀ m, mu ≤ m → σ' 6 m = σ 6 m) ∧ f_X10_castVote_L7 n 1 126 K j (nI i) σ = K σ' := by
  intro j
  induction j with
  | zero => intro i σ h1 h2; omega
  | succ j ih =>
    intro i σ h1 h2 g8 h6 hs hf
    by_cases hi : i = mu
    · subst hi
      refine ⟨σ, fun o _ => rfl, hf, fun m _ => rfl, ?_⟩
      rw [f_X10_castVote_L7]
      simp (disch := omega) only [g8, ↓reduceIte, ↓p_ld, ↓p_st, ↓p_nm, ↓p_nS, ↓p_jn, ↓p_call, ↓p_callv, ↓p_dv, ↓p_rem, h_ldE, h_stE, h_nmE, h_nSE, h_callE, h_callvE, h_dvE, h_remE, if_true, if_false, z_upS, z_upO, z_upK, nI_add, z_mul, z_sub, z_div, Nat.add_zero, Nat.mul_zero, Nat.zero_add, Nat.sub_zero, Nat.zero_mul, z_ltT, z_ltF, z_leT, z_leF, z_eqT, z_eqF, z_inT, z_clT, not_true_eq_false, not_false_eq_true, eq_self, true_or, or_true, z_m_lt, z_m_le, z_lt_m, z_le_m, z_eq_m, z_m_eq, z_rz0, z_rz1, z_m_add, z_of, r_0_0, r_0_1, r_0_3, r_0_4, r_0_5, r_0_6, r_0_7, r_0_8, r_0_9, r_0_10, r_1_0, r_1_1, r_1_2, r_1_3, r_1_4, r_1_5, r_1_6, r_1_7, r_1_8, r_2_0, r_2_1, r_2_2, r_2_3, r_2_4, r_2_5, r_2_6, r_2_7, r_11_0, r_11_1, r_11_2, r_11_3, r_11_4, r_11_5, r_11_6, r_19_0, r_21_0, r_23_0, r_25_0, r_27_0, r_61_0, r_117_0, r_117_1, r_117_2, r_117_3, r_117_4, r_117_5, r_117_6, r_117_7, r_126_0, r_126_1, r_126_2, r_126_3, r_126_4, r_132_0, r_132_1, r_135_0, r_135_1, r_135_2, r_135_3, r_135_4, r_135_5, r_142_0, r_144_0, r_144_1, r_144_2, r_145_0, r_145_1, r_145_2, r_145_3, r_145_4, r_145_5, r_145_6, r_154_0, r_154_1, r_155_0, ↓z_m1, l_0, l_1, l_2, l_3, l_4, l_5, l_6, l_7, l_8, l_9, l_10, l_11, l_12, l_13, l_14, l_15, l_16, l_17, l_18, l_19, l_20, l_21, l_22, l_23, l_24, l_25, l_26, l_27, l_28, l_29, l_30, l_31, l_32, l_33, l_34, l_35, l_36, l_37, l_38, l_39, l_40, l_41, l_42, l_43, l_44, l_45, l_46, l_47, l_48, l_49, l_50, l_51, l_52, l_53, l_54, l_55, l_56, l_57, l_59, l_60, l_61, l_62, l_63, l_64, l_65, l_80, l_86, l_87, l_88, l_89, l_90, l_91, l_92, l_93, l_94, l_95, l_97, l_99, l_100, l_107, l_119, l_122, l_124, l_129, l_140, l_141, l_142, l_143, l_144, l_145, l_147, l_150, l_159, l_160, l_161, l_162, l_205, l_253, l_255, l_256, l_269, l_305, l_380, l_399, l_400, l_420, l_430, l_516, l_600, l_720, l_820, l_905, l_921, l_937, l_953, l_970, l_999, l_1000, l_1790, l_4096, l_9999, l_1000000]
    · have ec := c_choiceOf (n := n) hn hmu hme h6 hs (show i < mu by omega) (hB i)
      obtain ⟨σ', k1, k2, k3, k4⟩ := ih (i+1) (q_up σ 6 i (z_vw (B i))) (by omega) (by omega) (by rw [z_upO (by omega)]; exact g8) (by rw [z_upO (by omega)]; exact h6) (fun k hk => by rw [z_upO (by omega)]; exact hs k hk) (fun m hm => by
        by_cases e : m = i
        · subst e; exact z_upS
        · rw [z_upK e]; exact hf m (by omega))
      refine ⟨σ', fun o ho => by rw [k1 o ho, z_upO ho], k2, fun m hm => by rw [k3 m hm, z_upK (by omega)], ?_⟩
      rw [← k4, f_X10_castVote_L7]
      simp (disch := omega) only [g8, ec, ↓reduceIte, ↓p_ld, ↓p_st, ↓p_nm, ↓p_nS, ↓p_jn, ↓p_call, ↓p_callv, ↓p_dv, ↓p_rem, h_ldE, h_stE, h_nmE, h_nSE, h_callE, h_callvE, h_dvE, h_remE, if_true, if_false, z_upS, z_upO, z_upK, nI_add, z_mul, z_sub, z_div, Nat.add_zero, Nat.mul_zero, Nat.zero_add, Nat.sub_zero, Nat.zero_mul, z_ltT, z_ltF, z_leT, z_leF, z_eqT, z_eqF, z_inT, z_clT, not_true_eq_false, not_false_eq_true, eq_self, true_or, or_true, z_m_lt, z_m_le, z_lt_m, z_le_m, z_eq_m, z_m_eq, z_rz0, z_rz1, z_m_add, z_of, r_0_0, r_0_1, r_0_3, r_0_4, r_0_5, r_0_6, r_0_7, r_0_8, r_0_9, r_0_10, r_1_0, r_1_1, r_1_2, r_1_3, r_1_4, r_1_5, r_1_6, r_1_7, r_1_8, r_2_0, r_2_1, r_2_2, r_2_3, r_2_4, r_2_5, r_2_6, r_2_7, r_11_0, r_11_1, r_11_2, r_11_3, r_11_4, r_11_5, r_11_6, r_19_0, r_21_0, r_23_0, r_25_0, r_27_0, r_61_0, r_117_0, r_117_1, r_117_2, r_117_3, r_117_4, r_117_5, r_117_6, r_117_7, r_126_0, r_126_1, r_126_2, r_126_3, r_126_4, r_132_0, r_132_1, r_135_0, r_135_1, r_135_2, r_135_3, r_135_4, r_135_5, r_142_0, r_144_0, r_144_1, r_144_2, r_145_0, r_145_1, r_145_2, r_145_3, r_145_4, r_145_5, r_145_6, r_154_0, r_154_1, r_155_0, ↓z_m1, l_0, l_1, l_2, l_3, l_4, l_5, l_6, l_7, l_8, l_9, l_10, l_11, l_12, l_13, l_14, l_15, l_16, l_17, l_18, l_19, l_20, l_21, l_22, l_23, l_24, l_25, l_26, l_27, l_28, l_29, l_30, l_31, l_32, l_33, l_34, l_35, l_36, l_37, l_38, l_39, l_40, l_41, l_42, l_43, l_44, l_45, l_46, l_47, l_48, l_49, l_50, l_51, l_52, l_53, l_54, l_55, l_56, l_57, l_59, l_60, l_61, l_62, l_63, l_64, l_65, l_80, l_86, l_87, l_88, l_89, l_90, l_91, l_92, l_93, l_94, l_95, l_97, l_99, l_100, l_107, l_119, l_122, l_124, l_129, l_140, l_141, l_142, l_143, l_144, l_145, l_147, l_150, l_159, l_160, l_161, l_162, l_205, l_253, l_255, l_256, l_269, l_305, l_380, l_399, l_400, l_420, l_430, l_516, l_600, l_720, l_820, l_905, l_921, l_937, l_953, l_970, l_999, l_1000, l_1790, l_4096, l_9999, l_1000000]
theorem p_vote {n mu me w0 : Nat} {tr : Bool} {P V : Nat → Int32} {σc : q_Sto} (hn : 402 ≤ n) (hc : z_X mu me tr w0 P σc V) :
    ∃ W, z_PC mu me tr w0 P V W (f_X10_castVote n 1 126) (nI 0) ∧ z_PM tr V W (f_X12_votes n 157) (nI 0) := by
  have hmu := hc.1.1.1
  have hme := hc.1.1.2.1
  have h6 := hc.h6
  obtain ⟨s, hs, h7⟩ := hc.1.1.2.2.2.2.1
  have h12 := z_p12 hmu
  have hBO := z_bt_ok hmu hme hc.1.2.2.2.1
  have hvm : ∀ j, (z_vote (z_bt V mu me) (fun i => s.testBit i)).1 j ≤ me := (z_rs_me hBO (out := fun i => s.testBit i) 13 (fun _ => 0) (fun _ => Nat.zero_le _)).1
  have hdm : z_drv (z_bt V mu me) (fun i => s.testBit i) ≤ me := (z_lea_le (B := (z_vote (z_bt V mu me) (fun i => s.testBit i)).1) (mu := mu) me).1
  have hst := fun (σ : q_Sto) (hV : σ 158 = V) => m_stand (n := n) (σ := σ) (σc := σc) (mu := mu) (me := me) (s := s) hn hc.1.R h7 (by omega) hV
  have hcn := fun (σ : q_Sto) (h : z_X mu me tr w0 P σ V) => c_standNow (n := n) (σ := σ) (s := s) hn h.1 h7
  generalize hB : (z_vote (z_bt V mu me) (fun i => s.testBit i)).1 = B at *
  generalize hD : z_drv (z_bt V mu me) (fun i => s.testBit i) = dn at *
  have hB5 : ∀ j, B j ≤ 5 := fun j => Nat.le_trans (hvm j) hme
  have hside : ∀ k, k < 5 → ∀ W : Nat → Int32, (∀ m, m < mu → W (8+m) = z_vw (B m)) → z_bhd W (nI k) mu = z_side B k mu := by
    intro k hk W hW
    rw [← z_bhd_side (V := V) hmu hB5 hk]
    unfold z_bhd
    exact z_set_congr (fun i hi => by rw [hW i hi, z_VBi (by omega)])
  refine ⟨z_note tr (z_u (z_VV V B (z_vw dn)) 3 (V 3 + nI (if dn = 0 then 1 else 0))) (nI 0) (z_vw dn) (nI (if dn = 0 then 0 else z_cnt (z_side B (dn-1) mu) 12)), fun σ h => ?_, fun σ hV hf => ?_⟩
  · have g8 : σ 2 8 = nI mu := h.1.2.1.1.1
    have g14 : σ 2 14 = V 3 := h.1.2.1.1.2.2.2.2.2.2.1
    obtain ⟨σ1, f1, f2, f3, f4, f5, f6, f7⟩ := hcn σ h
    have e2 : σ1 2 = σ 2 := f1 2 (by omega) (by omega) (by omega)
    obtain ⟨σ2, k1, k2, k3, k4⟩ := c_cast_L7 (n := n) (K := fun  (s8 : q_Sto) =>
  q_nS1 (q_up s8 (q_RF 1 0) 13 (s8 126 8)) fun s9 =>
  q_jn (fun  (s10 : q_Sto) =>
    if (s10 (q_RF 1 0) 13) = (-1) then (
    q_callv (f_X10_write n 1 0 (s10 (q_RF 1 0) 13) 0 s10) fun s12 =>
    some (0, s12))
    else (
    q_call (f_X9_behindOf n (q_RF 1 0) (s10 (q_RF 1 0) 13) s10) fun r15 s14 =>
    q_call (f_J6_bitCount_0f7a4 n r15 s14) fun r17 s16 =>
    q_callv (f_X10_write n 1 0 (s10 (q_RF 1 0) 13) r17 s16) fun s18 =>
    some (0, s18))) fun j79 =>
  if (s9 (q_RF 1 0) 13) = (-1) then (
  q_nS1 (q_up s9 (q_RF 1 0) 14 ((s9 (q_RF 1 0) 14) + 1)) fun s21 =>
  j79 s21)
  else (
  j79 s9)) (by omega) hmu hme hvm n 0 σ1 (by omega) (by omega) (by rw [e2]; exact g8) f2.2.1 f6 (fun m hm => by omega)
    have e22 : σ2 2 = σ 2 := by rw [k1 2 (by omega), e2]
    have e28 : σ2 126 8 = z_vw dn := by rw [k1 126 (by omega)]; exact f5
    have hfx : z_fX σ σ2 := fun o ho => by rw [k1 o (by omega), f1 o (by omega) (by omega) (by omega)]
    have hcv : f_X10_castVote n 1 126 σ = q_callv (f_X0_standNow n 126 1 σ) fun s1 => f_X10_castVote_L7 n 1 126 _ n 0 s1 := rfl
    have hX : ∀ σ3 : q_Sto, (∀ o, o ≠ 2 → σ3 o = σ2 o) → (∀ a, a ≠ 13 → a ≠ 14 → σ3 2 a = σ 2 a) → σ3 2 13 = z_vw dn → σ3 2 14 = V 3 + nI (if dn = 0 then 1 else 0) → z_X mu me tr w0 P σ3 (z_u (z_VV V B (z_vw dn)) 3 (V 3 + nI (if dn = 0 then 1 else 0))) := by
      intro σ3 q1 q2 q3 q4
      refine ⟨h.1.vote hvm (z_op_vw hdm) rfl (fun o o1 o2 o3 o4 => by rw [q1 o (by omega), k1 o o3, f1 o (by omega) (by omega) (by omega)]) q2 q3 q4 (fun m hm => by rw [q1 6 (by omega)]; exact k2 m hm) (fun m m1 m2 => by rw [q1 6 (by omega), k3 m m1, f1 6 (by omega) (by omega) (by omega)]; exact h.1.2.1.2.2.2.1 m m1 m2), h.2.fr (q2 17 (by omega) (by omega)) (by rw [q1 29 (by omega), k1 29 (by omega), f1 29 (by omega) (by omega) (by omega)]) (by rw [z_uK (by omega), z_VVo (by omega) (by omega)]) (fun a a1 a2 => by rw [z_uK (by omega), z_VVo (by omega) (by omega)])⟩
    cases dn with
    | zero =>
      have e0 : z_vw 0 = z_m := rfl
      have h3 := hX (q_up (q_up σ2 2 13 z_m) 2 14 (V 3 + nI 1)) (fun o ho => by rw [z_upO ho, z_upO ho]) (fun a a1 a2 => by rw [z_upK a2, z_upK a1, e22]) (by rw [z_upK (by omega)]; exact z_upS) z_upS
      obtain ⟨σ4, p1, p2, p3⟩ := c_write (n := n) (a := nI 0) (b := z_m) (c := nI 0) h3
      refine ⟨σ4, hfx.trans (z_fX.trans (fun o ho => by rw [z_upO (by omega), z_upO (by omega)]) p1), p2, ?_⟩
      rw [hcv, f7, z_callv]
      have k4 : f_X10_castVote_L7 n 1 126 _ n 0 σ1 = _ := k4
      rw [k4]
      have g142 : σ2 2 14 = V 3 := by rw [e22]; exact g14
      rw [e0] at e28
      simp (disch := omega) only [e28, g142, p3, ↓reduceIte, ↓p_ld, ↓p_st, ↓p_nm, ↓p_nS, ↓p_jn, ↓p_call, ↓p_callv, ↓p_dv, ↓p_rem, h_ldE, h_stE, h_nmE, h_nSE, h_callE, h_callvE, h_dvE, h_remE, if_true, if_false, z_upS, z_upO, z_upK, nI_add, z_mul, z_sub, z_div, Nat.add_zero, Nat.mul_zero, Nat.zero_add, Nat.sub_zero, Nat.zero_mul, z_ltT, z_ltF, z_leT, z_leF, z_eqT, z_eqF, z_inT, z_clT, not_true_eq_false, not_false_eq_true, eq_self, true_or, or_true, z_m_lt, z_m_le, z_lt_m, z_le_m, z_eq_m, z_m_eq, z_rz0, z_rz1, z_m_add, z_of, r_0_0, r_0_1, r_0_3, r_0_4, r_0_5, r_0_6, r_0_7, r_0_8, r_0_9, r_0_10, r_1_0, r_1_1, r_1_2, r_1_3, r_1_4, r_1_5, r_1_6, r_1_7, r_1_8, r_2_0, r_2_1, r_2_2, r_2_3, r_2_4, r_2_5, r_2_6, r_2_7, r_11_0, r_11_1, r_11_2, r_11_3, r_11_4, r_11_5, r_11_6, r_19_0, r_21_0, r_23_0, r_25_0, r_27_0, r_61_0, r_117_0, r_117_1, r_117_2, r_117_3, r_117_4, r_117_5, r_117_6, r_117_7, r_126_0, r_126_1, r_126_2, r_126_3, r_126_4, r_132_0, r_132_1, r_135_0, r_135_1, r_135_2, r_135_3, r_135_4, r_135_5, r_142_0, r_144_0, r_144_1, r_144_2, r_145_0, r_145_1, r_145_2, r_145_3, r_145_4, r_145_5, r_145_6, r_154_0, r_154_1, r_155_0, ↓z_m1, l_0, l_1, l_2, l_3, l_4, l_5, l_6, l_7, l_8, l_9, l_10, l_11, l_12, l_13, l_14, l_15, l_16, l_17, l_18, l_19, l_20, l_21, l_22, l_23, l_24, l_25, l_26, l_27, l_28, l_29, l_30, l_31, l_32, l_33, l_34, l_35, l_36, l_37, l_38, l_39, l_40, l_41, l_42, l_43, l_44, l_45, l_46, l_47, l_48, l_49, l_50, l_51, l_52, l_53, l_54, l_55, l_56, l_57, l_59, l_60, l_61, l_62, l_63, l_64, l_65, l_80, l_86, l_87, l_88, l_89, l_90, l_91, l_92, l_93, l_94, l_95, l_97, l_99, l_100, l_107, l_119, l_122, l_124, l_129, l_140, l_141, l_142, l_143, l_144, l_145, l_147, l_150, l_159, l_160, l_161, l_162, l_205, l_253, l_255, l_256, l_269, l_305, l_380, l_399, l_400, l_420, l_430, l_516, l_600, l_720, l_820, l_905, l_921, l_937, l_953, l_970, l_999, l_1000, l_1790, l_4096, l_9999, l_1000000]
    | succ k =>
      have e0 : z_vw (k+1) = nI k := rfl
      have ei : (if k + 1 = 0 then 1 else 0) = 0 := if_neg (by omega)
      have ei2 : (if k + 1 = 0 then 0 else z_cnt (z_side B (k+1-1) mu) 12) = z_cnt (z_side B k mu) 12 := if_neg (by omega)
      have e00 : V 3 + nI 0 = V 3 := Int32.add_zero _
      have h3 := hX (q_up σ2 2 13 (nI k)) (fun o ho => by rw [z_upO ho]) (fun a a1 a2 => by rw [z_upK a1, e22]) z_upS (by rw [z_upK (by omega), e22, ei, e00]; exact g14)
      rw [ei2]
      rw [ei, e0] at h3 ⊢
      have eb := c_behindOf (n := n) (x := nI k) (by omega) hmu h3.1.2.1
      rw [hside k (by omega) _ (fun m hm => by rw [z_uK (by omega), z_VVi (by omega)])] at eb
      have ec := c_bitCount (n := n) (s := z_side B k mu) (σ := q_up σ2 2 13 (nI k)) (z_set_lt12 _ hmu)
      obtain ⟨σ4, p1, p2, p3⟩ := c_write (n := n) (a := nI 0) (b := nI k) (c := nI (z_cnt (z_side B k mu) 12)) h3
      refine ⟨σ4, hfx.trans (z_fX.trans (fun o ho => by rw [z_upO (by omega)]) p1), p2, ?_⟩
      rw [hcv, f7, z_callv]
      have k4 : f_X10_castVote_L7 n 1 126 _ n 0 σ1 = _ := k4
      rw [k4]
      rw [e0] at e28
      simp (disch := omega) only [e28, eb, ec, p3, ↓reduceIte, ↓p_ld, ↓p_st, ↓p_nm, ↓p_nS, ↓p_jn, ↓p_call, ↓p_callv, ↓p_dv, ↓p_rem, h_ldE, h_stE, h_nmE, h_nSE, h_callE, h_callvE, h_dvE, h_remE, if_true, if_false, z_upS, z_upO, z_upK, nI_add, z_mul, z_sub, z_div, Nat.add_zero, Nat.mul_zero, Nat.zero_add, Nat.sub_zero, Nat.zero_mul, z_ltT, z_ltF, z_leT, z_leF, z_eqT, z_eqF, z_inT, z_clT, not_true_eq_false, not_false_eq_true, eq_self, true_or, or_true, z_m_lt, z_m_le, z_lt_m, z_le_m, z_eq_m, z_m_eq, z_rz0, z_rz1, z_m_add, z_of, r_0_0, r_0_1, r_0_3, r_0_4, r_0_5, r_0_6, r_0_7, r_0_8, r_0_9, r_0_10, r_1_0, r_1_1, r_1_2, r_1_3, r_1_4, r_1_5, r_1_6, r_1_7, r_1_8, r_2_0, r_2_1, r_2_2, r_2_3, r_2_4, r_2_5, r_2_6, r_2_7, r_11_0, r_11_1, r_11_2, r_11_3, r_11_4, r_11_5, r_11_6, r_19_0, r_21_0, r_23_0, r_25_0, r_27_0, r_61_0, r_117_0, r_117_1, r_117_2, r_117_3, r_117_4, r_117_5, r_117_6, r_117_7, r_126_0, r_126_1, r_126_2, r_126_3, r_126_4, r_132_0, r_132_1, r_135_0, r_135_1, r_135_2, r_135_3, r_135_4, r_135_5, r_142_0, r_144_0, r_144_1, r_144_2, r_145_0, r_145_1, r_145_2, r_145_3, r_145_4, r_145_5, r_145_6, r_154_0, r_154_1, r_155_0, ↓z_m1, l_0, l_1, l_2, l_3, l_4, l_5, l_6, l_7, l_8, l_9, l_10, l_11, l_12, l_13, l_14, l_15, l_16, l_17, l_18, l_19, l_20, l_21, l_22, l_23, l_24, l_25, l_26, l_27, l_28, l_29, l_30, l_31, l_32, l_33, l_34, l_35, l_36, l_37, l_38, l_39, l_40, l_41, l_42, l_43, l_44, l_45, l_46, l_47, l_48, l_49, l_50, l_51, l_52, l_53, l_54, l_55, l_56, l_57, l_59, l_60, l_61, l_62, l_63, l_64, l_65, l_80, l_86, l_87, l_88, l_89, l_90, l_91, l_92, l_93, l_94, l_95, l_97, l_99, l_100, l_107, l_119, l_122, l_124, l_129, l_140, l_141, l_142, l_143, l_144, l_145, l_147, l_150, l_159, l_160, l_161, l_162, l_205, l_253, l_255, l_256, l_269, l_305, l_380, l_399, l_400, l_420, l_430, l_516, l_600, l_720, l_820, l_905, l_921, l_937, l_953, l_970, l_999, l_1000, l_1790, l_4096, l_9999, l_1000000]
  · obtain ⟨σ1, f1, f2, f3⟩ := hst σ hV
    have hf1 : z_fM σ σ1 := f1
    have hfl := hf.fr hf1
    have e2 : σ1 158 2 = z_vw dn := by rw [f2]; exact z_VV2
    have e3 : σ1 158 3 = V 3 := by rw [f2]; exact z_VVo (by omega) (by omega)
    have h6' : ∀ x, z_le (z_u (z_VV V B (z_vw dn)) 3 x 6) 150 := fun x => by rw [z_uK (by omega), z_VVo (by omega) (by omega)]; exact h6
    have h86' : ∀ x, z_u (z_VV V B (z_vw dn)) 3 x 86 = nI mu := fun x => by rw [z_uK (by omega), z_VVo (by omega) (by omega)]; exact hc.1.1.2.2.1
    cases dn with
    | zero =>
      have e0 : z_vw 0 = z_m := rfl
      obtain ⟨σ2, k1, k2, k3⟩ := m_notes (n := n) (a := nI 0) (b := z_m) (c := nI 0) (z_uV (a := 3) (v := V 3 + nI 1) f2) (hfl.fr (z_fM.up σ1 3 (V 3 + nI 1))) (h6' _)
      refine ⟨σ2, hf1.trans ((z_fM.up σ1 3 (V 3 + nI 1)).trans k1), k2, ?_⟩
      rw [e0] at e2
      unfold f_X12_votes
      simp (disch := omega) only [f3, e2, e3, k3, ↓reduceIte, ↓p_ld, ↓p_st, ↓p_nm, ↓p_nS, ↓p_jn, ↓p_call, ↓p_callv, ↓p_dv, ↓p_rem, h_ldE, h_stE, h_nmE, h_nSE, h_callE, h_callvE, h_dvE, h_remE, if_true, if_false, z_upS, z_upO, z_upK, nI_add, z_mul, z_sub, z_div, Nat.add_zero, Nat.mul_zero, Nat.zero_add, Nat.sub_zero, Nat.zero_mul, z_ltT, z_ltF, z_leT, z_leF, z_eqT, z_eqF, z_inT, z_clT, not_true_eq_false, not_false_eq_true, eq_self, true_or, or_true, z_m_lt, z_m_le, z_lt_m, z_le_m, z_eq_m, z_m_eq, z_rz0, z_rz1, z_m_add, z_of, r_157_0, r_157_1, r_157_2, r_157_3, r_157_6, r_157_7, r_157_8, r_157_9, r_157_10, r_157_11, r_157_27, r_157_28, r_157_29, r_157_30, ↓z_m1, l_0, l_1, l_2, l_3, l_4, l_5, l_6, l_7, l_8, l_9, l_10, l_11, l_12, l_13, l_14, l_15, l_16, l_17, l_18, l_19, l_20, l_21, l_22, l_23, l_24, l_25, l_26, l_27, l_28, l_29, l_30, l_31, l_32, l_33, l_34, l_35, l_36, l_37, l_38, l_39, l_40, l_41, l_42, l_43, l_44, l_45, l_46, l_47, l_48, l_49, l_50, l_51, l_52, l_53, l_54, l_55, l_56, l_57, l_59, l_60, l_61, l_62, l_63, l_64, l_65, l_80, l_86, l_87, l_88, l_89, l_90, l_91, l_92, l_93, l_94, l_95, l_97, l_99, l_100, l_107, l_119, l_122, l_124, l_129, l_140, l_141, l_142, l_143, l_144, l_145, l_147, l_150, l_159, l_160, l_161, l_162, l_205, l_253, l_255, l_256, l_269, l_305, l_380, l_399, l_400, l_420, l_430, l_516, l_600, l_720, l_820, l_905, l_921, l_937, l_953, l_970, l_999, l_1000, l_1790, l_4096, l_9999, l_1000000]
    | succ k =>
      have e0 : z_vw (k+1) = nI k := rfl
      have ei : (if k + 1 = 0 then 1 else 0) = 0 := if_neg (by omega)
      have ei2 : (if k + 1 = 0 then 0 else z_cnt (z_side B (k+1-1) mu) 12) = z_cnt (z_side B k mu) 12 := if_neg (by omega)
      rw [ei2, ei]
      have hV2 := z_uV (a := 3) (v := V 3 + nI 0) f2
      obtain ⟨σ2, k1, k2, k3⟩ := m_notes (n := n) (a := nI 0) (b := nI k) (c := nI (z_cnt (z_side B k mu) 12)) hV2 (hfl.fr (z_fM.up σ1 3 (V 3 + nI 0))) (h6' _)
      refine ⟨σ2, hf1.trans ((z_fM.up σ1 3 (V 3 + nI 0)).trans k1), k2, ?_⟩
      have eb := m_behind (n := n) (x := nI k) (by omega) hV2 (h86' _) hmu
      rw [hside k (by omega) _ (fun m hm => by rw [z_uK (by omega), z_VVi (by omega)])] at eb
      have ec := m_count (n := n) (by omega) (s := z_side B k mu) (σ := q_up σ1 158 3 (V 3 + nI 0)) (z_set_lt12 _ hmu)
      rw [e0] at e2
      unfold f_X12_votes
      simp (disch := omega) only [f3, e2, e3, eb, ec, k3, ↓reduceIte, ↓p_ld, ↓p_st, ↓p_nm, ↓p_nS, ↓p_jn, ↓p_call, ↓p_callv, ↓p_dv, ↓p_rem, h_ldE, h_stE, h_nmE, h_nSE, h_callE, h_callvE, h_dvE, h_remE, if_true, if_false, z_upS, z_upO, z_upK, nI_add, z_mul, z_sub, z_div, Nat.add_zero, Nat.mul_zero, Nat.zero_add, Nat.sub_zero, Nat.zero_mul, z_ltT, z_ltF, z_leT, z_leF, z_eqT, z_eqF, z_inT, z_clT, not_true_eq_false, not_false_eq_true, eq_self, true_or, or_true, z_m_lt, z_m_le, z_lt_m, z_le_m, z_eq_m, z_m_eq, z_rz0, z_rz1, z_m_add, z_of, r_157_0, r_157_1, r_157_2, r_157_3, r_157_6, r_157_7, r_157_8, r_157_9, r_157_10, r_157_11, r_157_27, r_157_28, r_157_29, r_157_30, ↓z_m1, l_0, l_1, l_2, l_3, l_4, l_5, l_6, l_7, l_8, l_9, l_10, l_11, l_12, l_13, l_14, l_15, l_16, l_17, l_18, l_19, l_20, l_21, l_22, l_23, l_24, l_25, l_26, l_27, l_28, l_29, l_30, l_31, l_32, l_33, l_34, l_35, l_36, l_37, l_38, l_39, l_40, l_41, l_42, l_43, l_44, l_45, l_46, l_47, l_48, l_49, l_50, l_51, l_52, l_53, l_54, l_55, l_56, l_57, l_59, l_60, l_61, l_62, l_63, l_64, l_65, l_80, l_86, l_87, l_88, l_89, l_90, l_91, l_92, l_93, l_94, l_95, l_97, l_99, l_100, l_107, l_119, l_122, l_124, l_129, l_140, l_141, l_142, l_143, l_144, l_145, l_147, l_150, l_159, l_160, l_161, l_162, l_205, l_253, l_255, l_256, l_269, l_305, l_380, l_399, l_400, l_420, l_430, l_516, l_600, l_720, l_820, l_905, l_921, l_937, l_953, l_970, l_999, l_1000, l_1790, l_4096, l_9999, l_1000000]
