/-! the vote: class and train -/
section VO
variable {p b L pl pa : Nat} {d : Nat → Nat}
theorem x_TN.cg8 {u : x_U} {Fz : Nat → Prop} {mu me : Nat} {V V' : Nat → Int32} (hT : x_TN u Fz p b L pl pa mu me d V) (e : ∀ a, a < 8 + mu ∨ 20 ≤ a → V' a = V a) : x_TN u Fz p b L pl pa mu me d V' := by
  have hb := hT.bd
  obtain ⟨h1, h2, h3, h4, h5, h6, h7, h8⟩ := hT
  refine ⟨h1, ?_, h3, h4, h5, h6.cg (fun a ha => e a (by omega)), h7.cg (fun a ha => e a (by omega)), h8.cg (e 6 (by omega)) (fun a a1 a2 => e a (by omega))⟩
  obtain ⟨g1, g2, g3⟩ := h2
  refine ⟨?_, fun m hm => ?_, fun k hk => ?_⟩
  · rw [e 5 (by omega), e 0 (by omega), e 1 (by omega), e 2 (by omega), e 3 (by omega), e 4 (by omega), e 88 (by omega), e 6 (by omega), e 90 (by omega)]
    exact g1
  · obtain ⟨q0, q1, q2, q3, q4, q5⟩ := g2 m hm
    rw [e (95+m) (by omega), e (107+m) (by omega), e 7 (by omega), e (8+m) (by omega), e (129+m) (by omega)]
    exact ⟨q0, q1, q2, q3, q4, fun k hk => by rw [e (20+5*m+k) (by omega)]; exact q5 k hk⟩
  · rw [e (80+k) (by omega), e (119+k) (by omega), e (124+k) (by omega)]
    exact g3 k hk
theorem y_VB0 {V : Nat → Int32} {mu me : Nat} (h : ∀ m, m < mu → z_op (V (8+m)) me) (hme : me ≤ 5) : ∃ B : Nat → Nat, ∀ m, m < mu → V (8+m) = z_vw (B m) := by
  refine ⟨fun m => if V (8+m) = z_m then 0 else zn (V (8+m)) + 1, fun m hm => ?_⟩
  rcases h m hm with q | ⟨k, hk, q⟩
  · show _ = z_vw (if _ then _ else _)
    rw [if_pos q]
    exact q
  · show _ = z_vw (if _ then _ else _)
    rw [q, if_neg (by rw [z_eq_m (by omega)]; exact not_false), zn_nI (by omega)]
    rfl
theorem F_stand {u : x_U} {Fz : Nat → Prop} {n s mu me : Nat} {V : Nat → Int32} {σc : q_Sto} (hn : 402 ≤ n) (hT : x_TN u Fz p b L pl pa mu me d V) (hR : z_R σc V mu me) (hE : y_EQ L d V mu me) (h8 : ∀ m, m < mu → z_op (V (8+m)) me) (h7 : V 7 = nI s) (hs : s < 4096) :
    ∃ u', x_sp (x_own p b mu me) 0 0 u u' Fz Fz ∧ x_TN u' Fz p b L pl pa mu me d (z_VV V (z_vote (z_bt V mu me) (fun i => s.testBit i)).1 (z_vw (z_drv (z_bt V mu me) (fun i => s.testBit i)))) ∧ F_X12_stand n p z_m u = some (nI 0, u') := by
  have hmu := hR.1
  have hme := hR.2.1
  have hb := hT.bd
  have hBO := z_bt_ok hmu hme hR.2.2.2.2.1
  obtain ⟨B, hB⟩ := y_VB0 h8 hme
  have hT1 : x_TN u Fz p b L pl pa mu me d (z_VB V (fun j => if j < 0 then 0 else B j)) := hT.cg8 (fun a ha => by
    by_cases h : 8 ≤ a ∧ a < 20
    · have h2 : z_VB V (fun j => if j < 0 then 0 else B j) (8 + (a - 8)) = z_vw (B (a - 8)) := z_VBi (by omega)
      rw [show 8 + (a - 8) = a by omega] at h2
      rw [h2, ← hB (a - 8) (by omega), show 8 + (a - 8) = a by omega]
    · exact z_VBo (by omega))
  unfold F_X12_stand
  obtain ⟨u1, f1, f2, f3⟩ := F_none_L (n := n) (mu := mu) (me := me) (x1 := z_m) (V := V) (B := B) (K := fun  (s5 : x_U) =>
  x_pi s5 p 12 11 0 fun s6 =>
  F_X12_stand_L32 n p z_m (fun  (s37 : x_U) =>
  x_pi s37 p 12 3 (-1) fun s38 =>
  F_X12_stand_L192 n p  n 0 s38) n 1 s6) n 0 u (Nat.zero_le _) (by omega) hT1
  have f2 : x_TN u1 Fz p b L pl pa mu me d (z_VB V (fun _ => 0)) := f2.cg8 (fun a ha => by
    unfold z_VB
    by_cases h : 8 ≤ a ∧ a < 20
    · rw [if_pos h, if_pos h]
      show z_vw 0 = z_vw (if a - 8 < mu then 0 else B (a - 8))
      rw [if_pos (by omega)]
    · rw [if_neg h, if_neg h])
  have g1 := f2.no (x := 0)
  obtain ⟨u2, k1, k2, k3⟩ := F_rounds_L (K := fun  (s37 : x_U) =>
  x_pi s37 p 12 3 (-1) fun s38 =>
  F_X12_stand_L192 n p  n 0 s38) hn hR hE h7 hs 13 n (fun _ => 0) _ (z_wt_le _ _) (by omega) (fun _ => Nat.zero_le _) g1
  have k2 : x_TN u2 Fz p b L pl pa mu me d (z_VB V (z_vote (z_bt V mu me) (fun i => s.testBit i)).1) := k2
  have hvm := (z_rs_me hBO (out := fun i => s.testBit i) 13 (fun _ => 0) (fun _ => Nat.zero_le _)).1
  have hvm : ∀ j, (z_vote (z_bt V mu me) (fun i => s.testBit i)).1 j ≤ me := hvm
  have hdr : z_drv (z_bt V mu me) (fun i => s.testBit i) = (z_lea (z_vote (z_bt V mu me) (fun i => s.testBit i)).1 mu me).1 := rfl
  rw [hdr, ← y_dr_lea hmu]
  generalize (z_vote (z_bt V mu me) (fun i => s.testBit i)).1 = C at *
  have hT3 : x_TN (x_ui u2 p 3 z_m) Fz p b L pl pa mu me d (z_VV V C (z_vw (y_dr C mu me 0))) := by
    have e : z_VV V C (z_vw (y_dr C mu me 0)) = z_u (z_VB V C) 2 z_m := rfl
    rw [e]
    exact k2.sc (Or.inr (Or.inr (Or.inr (Or.inl ⟨rfl, rfl⟩))))
  obtain ⟨u3, l1, l2, l3⟩ := F_lead_L (n := n) (mu := mu) (me := me) (V := V) (B := C) (by omega) (fun j => Nat.le_trans (hvm j) hme) n 0 _ (Nat.zero_le _) (by omega) hT3
  refine ⟨u3, f1.tr ((x_sp.ui (dn := 0) (dm := 0) (by unfold x_own; omega)).tr (k1.tr ((x_sp.ui (dn := 0) (dm := 0) (by unfold x_own; omega)).tr l1 (Nat.le_refl _) (Nat.le_refl _)) (Nat.le_refl _) (Nat.le_refl _)) (Nat.le_refl _) (Nat.le_refl _)) (Nat.le_refl _) (Nat.le_refl _), l2, ?_⟩
  have f3 : F_X12_stand_L2 n p z_m _ n 0 u = _ := f3
  have k3 : F_X12_stand_L32 n p z_m _ n 1 _ = _ := k3
  have l3 : F_X12_stand_L192 n p n 0 _ = _ := l3
  have hk1 := f2.1.2.1.1
  have hk2 := k2.1.2.1.1
  have hc : p < 1000000000 := by omega
  rw [f3]
  have e1 : ∀ (v : x_U) (j : Nat) (y : Int32) (k : x_U → Option (Int32 × x_U)), x_k v p = .inl 12 → x_pi v p 12 j y k = k (x_ui v p j y) := fun v j y k hk => h_xpiE (tg := z_tg k) hk hc
  show x_pi u1 p 12 11 0 _ = _
  rw [e1 _ _ _ _ hk1, k3]
  show x_pi u2 p 12 3 (-1) _ = _
  rw [e1 _ _ _ _ hk2]
  exact l3
theorem q_vote {n mu me w0 : Nat} {P V : Nat → Int32} {σc : q_Sto} (hn : 402 ≤ n) (hc : z_X mu me true w0 P σc V) (hE : y_EQ L d V mu me) :
    ∃ W, z_PC mu me true w0 P V W (f_X10_castVote n 1 126) (nI 0) ∧ z_sam V W ∧ x_PF p b L pl pa mu me d 1 4 V W (F_X12_votes n p (nI 1)) (nI 0) := by
  have hmu := hc.1.1.1
  have hme := hc.1.1.2.1
  have h6 := hc.h6
  obtain ⟨s, hs, h7⟩ := hc.1.1.2.2.2.2.1
  have h12 := z_p12 hmu
  have hBO := z_bt_ok hmu hme hc.1.2.2.2.1
  have hvm : ∀ j, (z_vote (z_bt V mu me) (fun i => s.testBit i)).1 j ≤ me := (z_rs_me hBO (out := fun i => s.testBit i) 13 (fun _ => 0) (fun _ => Nat.zero_le _)).1
  have hdm : z_drv (z_bt V mu me) (fun i => s.testBit i) ≤ me := (z_lea_le (B := (z_vote (z_bt V mu me) (fun i => s.testBit i)).1) (mu := mu) me).1
  have hst := fun (u : x_U) (Fz : Nat → Prop) (hT : x_TN u Fz p b L pl pa mu me d V) => F_stand (n := n) (σc := σc) (s := s) hn hT hc.1.R hE (fun m hm => (hc.1.1.2.2.2.2.2.1 m hm).1) h7 (by omega)
  have hcn := fun (σ : q_Sto) (h : z_X mu me true w0 P σ V) => c_standNow (n := n) (σ := σ) (s := s) hn h.1 h7
  generalize hB : (z_vote (z_bt V mu me) (fun i => s.testBit i)).1 = B at *
  generalize hD : z_drv (z_bt V mu me) (fun i => s.testBit i) = dn at *
  have hB5 : ∀ j, B j ≤ 5 := fun j => Nat.le_trans (hvm j) hme
  have hside : ∀ k, k < 5 → ∀ W : Nat → Int32, (∀ m, m < mu → W (8+m) = z_vw (B m)) → z_bhd W (nI k) mu = z_side B k mu := by
    intro k hk W hW
    rw [← z_bhd_side (V := V) hmu hB5 hk]
    unfold z_bhd
    exact z_set_congr (fun i hi => by rw [hW i hi, z_VBi (by omega)])
  have h6' : ∀ x, z_le (z_u (z_VV V B (z_vw dn)) 3 x 6) 150 := fun x => by rw [z_uK (by omega), z_VVo (by omega) (by omega)]; exact h6
  refine ⟨z_note true (z_u (z_VV V B (z_vw dn)) 3 (V 3 + nI (if dn = 0 then 1 else 0))) (nI 0) (z_vw dn) (nI (if dn = 0 then 0 else z_cnt (z_side B (dn-1) mu) 12)), fun σ h => ?_, ?_, fun u Fz hT hn5 => ?_⟩
  · have g8 : σ 2 8 = nI mu := h.1.2.1.1.1
    have g14 : σ 2 14 = V 3 := h.1.2.1.1.2.2.2.2.2.2.1
    obtain ⟨σ1, f1, f2, f3, f4, f5, f6, f7⟩ := hcn σ h
    have e2 : σ1 2 = σ 2 := f1 2 (by omega) (by omega) (by omega)
    obtain ⟨σ2, k1, k2, k3, k4⟩ := c_cast_L7 (n := n) (K := fun  (s8 : q_Sto) =>
  q_nS1 (q_up s8 (q_RF 1 0) 13 (s8 126 8)) fun s9 =>
  q_jn (fun  (s10 : q_Sto) =>
    if (s10 (q_RF 1 0) 13) = (-1) then (
    q_callv (f_X10_write n 1 0 (s10 (q_RF 1 0) 13) 0 s10) fun s12 =>
    some (0, s12))
    else (
    q_call (f_X9_behindOf n (q_RF 1 0) (s10 (q_RF 1 0) 13) s10) fun r15 s14 =>
    q_call (f_J6_bitCount_0f7a4 n r15 s14) fun r17 s16 =>
    q_callv (f_X10_write n 1 0 (s10 (q_RF 1 0) 13) r17 s16) fun s18 =>
    some (0, s18))) fun j79 =>
  if (s9 (q_RF 1 0) 13) = (-1) then (
  q_nS1 (q_up s9 (q_RF 1 0) 14 ((s9 (q_RF 1 0) 14) + 1)) fun s21 =>
  j79 s21)
  else (
  j79 s9)) (by omega) hmu hme hvm n 0 σ1 (by omega) (by omega) (by rw [e2]; exact g8) f2.2.1 f6 (fun m hm => by omega)
    have e22 : σ2 2 = σ 2 := by rw [k1 2 (by omega), e2]
    have e28 : σ2 126 8 = z_vw dn := by rw [k1 126 (by omega)]; exact f5
    have hfx : z_fX σ σ2 := fun o ho => by rw [k1 o (by omega), f1 o (by omega) (by omega) (by omega)]
    have hcv : f_X10_castVote n 1 126 σ = q_callv (f_X0_standNow n 126 1 σ) fun s1 => f_X10_castVote_L7 n 1 126 _ n 0 s1 := rfl
    have hX : ∀ σ3 : q_Sto, (∀ o, o ≠ 2 → σ3 o = σ2 o) → (∀ a, a ≠ 13 → a ≠ 14 → σ3 2 a = σ 2 a) → σ3 2 13 = z_vw dn → σ3 2 14 = V 3 + nI (if dn = 0 then 1 else 0) → z_X mu me true w0 P σ3 (z_u (z_VV V B (z_vw dn)) 3 (V 3 + nI (if dn = 0 then 1 else 0))) := by
      intro σ3 q1 q2 q3 q4
      refine ⟨h.1.vote hvm (z_op_vw hdm) rfl (fun o o1 o2 o3 o4 => by rw [q1 o (by omega), k1 o o3, f1 o (by omega) (by omega) (by omega)]) q2 q3 q4 (fun m hm => by rw [q1 6 (by omega)]; exact k2 m hm) (fun m m1 m2 => by rw [q1 6 (by omega), k3 m m1, f1 6 (by omega) (by omega) (by omega)]; exact h.1.2.1.2.2.2.1 m m1 m2), h.2.fr (q2 17 (by omega) (by omega)) (by rw [q1 29 (by omega), k1 29 (by omega), f1 29 (by omega) (by omega) (by omega)]) (by rw [z_uK (by omega), z_VVo (by omega) (by omega)]) (fun a a1 a2 => by rw [z_uK (by omega), z_VVo (by omega) (by omega)])⟩
    cases dn with
    | zero =>
      have e0 : z_vw 0 = z_m := rfl
      have h3 := hX (q_up (q_up σ2 2 13 z_m) 2 14 (V 3 + nI 1)) (fun o ho => by rw [z_upO ho, z_upO ho]) (fun a a1 a2 => by rw [z_upK a2, z_upK a1, e22]) (by rw [z_upK (by omega)]; exact z_upS) z_upS
      obtain ⟨σ4, p1, p2, p3⟩ := c_write (n := n) (a := nI 0) (b := z_m) (c := nI 0) h3
      refine ⟨σ4, hfx.trans (z_fX.trans (fun o ho => by rw [z_upO (by omega), z_upO (by omega)]) p1), p2, ?_⟩
      rw [hcv, f7, z_callv]
      have k4 : f_X10_castVote_L7 n 1 126 _ n 0 σ1 = _ := k4
      rw [k4]
      have g142 : σ2 2 14 = V 3 := by rw [e22]; exact g14
      rw [e0] at e28
      simp (disch := omega) only [e28, g142, p3, ↓reduceIte, ↓p_ld, ↓p_st, ↓p_nm, ↓p_nS, ↓p_jn, ↓p_call, ↓p_callv, ↓p_dv, ↓p_rem, h_ldE, h_stE, h_nmE, h_nSE, h_callE, h_callvE, h_dvE, h_remE, if_true, if_false, z_upS, z_upO, z_upK, nI_add, z_mul, z_sub, z_div, Nat.add_zero, Nat.mul_zero, Nat.zero_add, Nat.sub_zero, Nat.zero_mul, z_ltT, z_ltF, z_leT, z_leF, z_eqT, z_eqF, z_inT, z_clT, not_true_eq_false, not_false_eq_true, eq_self, true_or, or_true, z_m_lt, z_m_le, z_lt_m, z_le_m, z_eq_m, z_m_eq, z_rz0, z_rz1, z_m_add, z_of, r_0_0, r_0_1, r_0_3, r_0_4, r_0_5, r_0_6, r_0_7, r_0_8, r_0_9, r_0_10, r_1_0, r_1_1, r_1_2, r_1_3, r_1_4, r_1_5, r_1_6, r_1_7, r_1_8, r_2_0, r_2_1, r_2_2, r_2_3, r_2_4, r_2_5, r_2_6, r_2_7, r_11_0, r_11_1, r_11_2, r_11_3, r_11_4, r_11_5, r_11_6, r_19_0, r_21_0, r_23_0, r_25_0, r_27_0, r_61_0, r_117_0, r_117_1, r_117_2, r_117_3, r_117_4, r_117_5, r_117_6, r_117_7, r_126_0, r_126_1, r_126_2, r_126_3, r_126_4, r_132_0, r_132_1, r_135_0, r_135_1, r_135_2, r_135_3, r_135_4, r_135_5, r_142_0, r_144_0, r_144_1, r_144_2, r_145_0, r_145_1, r_145_2, r_145_3, r_145_4, r_145_5, r_145_6, r_154_0, r_154_1, r_155_0, ↓z_m1, l_0, l_1, l_2, l_3, l_4, l_5, l_6, l_7, l_8, l_9, l_10, l_11, l_12, l_13, l_14, l_15, l_16, l_17, l_18, l_19, l_20, l_21, l_22, l_23, l_24, l_25, l_26, l_27, l_28, l_29, l_30, l_31, l_32, l_33, l_34, l_35, l_36, l_37, l_38, l_39, l_40, l_41, l_42, l_43, l_44, l_45, l_46, l_47, l_48, l_49, l_50, l_51, l_52, l_53, l_54, l_55, l_56, l_57, l_59, l_60, l_61, l_62, l_63, l_64, l_65, l_80, l_86, l_87, l_88, l_89, l_90, l_91, l_92, l_93, l_94, l_95, l_97, l_99, l_100, l_107, l_119, l_122, l_124, l_129, l_140, l_141, l_142, l_143, l_144, l_145, l_147, l_150, l_159, l_160, l_161, l_162, l_205, l_253, l_255, l_256, l_269, l_305, l_380, l_399, l_400, l_420, l_430, l_516, l_600, l_720, l_820, l_905, l_921, l_937, l_953, l_970, l_999, l_1000, l_1790, l_4096, l_9999, l_1000000]
    | succ k =>
      have e0 : z_vw (k+1) = nI k := rfl
      have ei : (if k + 1 = 0 then 1 else 0) = 0 := if_neg (by omega)
      have ei2 : (if k + 1 = 0 then 0 else z_cnt (z_side B (k+1-1) mu) 12) = z_cnt (z_side B k mu) 12 := if_neg (by omega)
      have e00 : V 3 + nI 0 = V 3 := Int32.add_zero _
      have h3 := hX (q_up σ2 2 13 (nI k)) (fun o ho => by rw [z_upO ho]) (fun a a1 a2 => by rw [z_upK a1, e22]) z_upS (by rw [z_upK (by omega), e22, ei, e00]; exact g14)
      rw [ei2]
      rw [ei, e0] at h3 ⊢
      have eb := c_behindOf (n := n) (x := nI k) (by omega) hmu h3.1.2.1
      rw [hside k (by omega) _ (fun m hm => by rw [z_uK (by omega), z_VVi (by omega)])] at eb
      have ec := c_bitCount (n := n) (s := z_side B k mu) (σ := q_up σ2 2 13 (nI k)) (z_set_lt12 _ hmu)
      obtain ⟨σ4, p1, p2, p3⟩ := c_write (n := n) (a := nI 0) (b := nI k) (c := nI (z_cnt (z_side B k mu) 12)) h3
      refine ⟨σ4, hfx.trans (z_fX.trans (fun o ho => by rw [z_upO (by omega)]) p1), p2, ?_⟩
      rw [hcv, f7, z_callv]
      have k4 : f_X10_castVote_L7 n 1 126 _ n 0 σ1 = _ := k4
      rw [k4]
      rw [e0] at e28
      simp (disch := omega) only [e28, eb, ec, p3, ↓reduceIte, ↓p_ld, ↓p_st, ↓p_nm, ↓p_nS, ↓p_jn, ↓p_call, ↓p_callv, ↓p_dv, ↓p_rem, h_ldE, h_stE, h_nmE, h_nSE, h_callE, h_callvE, h_dvE, h_remE, if_true, if_false, z_upS, z_upO, z_upK, nI_add, z_mul, z_sub, z_div, Nat.add_zero, Nat.mul_zero, Nat.zero_add, Nat.sub_zero, Nat.zero_mul, z_ltT, z_ltF, z_leT, z_leF, z_eqT, z_eqF, z_inT, z_clT, not_true_eq_false, not_false_eq_true, eq_self, true_or, or_true, z_m_lt, z_m_le, z_lt_m, z_le_m, z_eq_m, z_m_eq, z_rz0, z_rz1, z_m_add, z_of, r_0_0, r_0_1, r_0_3, r_0_4, r_0_5, r_0_6, r_0_7, r_0_8, r_0_9, r_0_10, r_1_0, r_1_1, r_1_2, r_1_3, r_1_4, r_1_5, r_1_6, r_1_7, r_1_8, r_2_0, r_2_1, r_2_2, r_2_3, r_2_4, r_2_5, r_2_6, r_2_7, r_11_0, r_11_1, r_11_2, r_11_3, r_11_4, r_11_5, r_11_6, r_19_0, r_21_0, r_23_0, r_25_0, r_27_0, r_61_0, r_117_0, r_117_1, r_117_2, r_117_3, r_117_4, r_117_5, r_117_6, r_117_7, r_126_0, r_126_1, r_126_2, r_126_3, r_126_4, r_132_0, r_132_1, r_135_0, r_135_1, r_135_2, r_135_3, r_135_4, r_135_5, r_142_0, r_144_0, r_144_1, r_144_2, r_145_0, r_145_1, r_145_2, r_145_3, r_145_4, r_145_5, r_145_6, r_154_0, r_154_1, r_155_0, ↓z_m1, l_0, l_1, l_2, l_3, l_4, l_5, l_6, l_7, l_8, l_9, l_10, l_11, l_12, l_13, l_14, l_15, l_16, l_17, l_18, l_19, l_20, l_21, l_22, l_23, l_24, l_25, l_26, l_27, l_28, l_29, l_30, l_31, l_32, l_33, l_34, l_35, l_36, l_37, l_38, l_39, l_40, l_41, l_42, l_43, l_44, l_45, l_46, l_47, l_48, l_49, l_50, l_51, l_52, l_53, l_54, l_55, l_56, l_57, l_59, l_60, l_61, l_62, l_63, l_64, l_65, l_80, l_86, l_87, l_88, l_89, l_90, l_91, l_92, l_93, l_94, l_95, l_97, l_99, l_100, l_107, l_119, l_122, l_124, l_129, l_140, l_141, l_142, l_143, l_144, l_145, l_147, l_150, l_159, l_160, l_161, l_162, l_205, l_253, l_255, l_256, l_269, l_305, l_380, l_399, l_400, l_420, l_430, l_516, l_600, l_720, l_820, l_905, l_921, l_937, l_953, l_970, l_999, l_1000, l_1790, l_4096, l_9999, l_1000000]
  · refine z_sam.trans (b := z_VV V B (z_vw dn)) (fun a ha => z_VVo (by omega) (by omega)) ((z_sam.u (by omega)).trans (z_note_sam (h6' _)))
  · obtain ⟨u1, f1, f2, f3⟩ := hst u Fz hT
    have hk0 : x_k u p = .inl 12 := hT.1.2.1.1
    have hb := f2.bd
    have hlt : x_n u1 ≤ x_n u + 0 := f1.2.1
    cases dn with
    | zero =>
      have e0 : z_vw 0 = z_m := rfl
      have e3 : z_VV V B (z_vw 0) 3 = V 3 := z_VVo (by omega) (by omega)
      have hT2 := f2.sc (f := 4) (a := 3) (x := V 3 + nI 1) (Or.inr (Or.inr (Or.inr (Or.inr (Or.inl ⟨rfl, rfl⟩)))))
      obtain ⟨u2, Fz', k1', k2', k3'⟩ := F_notes (n := n) (x := nI 0) (y := z_m) (z := nI 0) hT2 (by have e : x_n (x_ui u1 p 4 (V 3 + nI 1)) = x_n u1 := rfl; omega)
      refine ⟨u2, Fz', f1.tr ((x_sp.ui (dn := 0) (dm := 0) (by unfold x_own; omega)).tr k1' (Nat.le_refl _) (Nat.le_refl _)) (by omega) (by omega), k2', ?_⟩
      obtain ⟨⟨⟨a1, a2, a3, a4, a5, a6⟩, ⟨k1, k2, k3, k4, k5, k6⟩, ⟨r1, r2, r3, r4, r5, r6, r7, r8⟩⟩, ⟨t0, t1, t2, t3, t4, t5, t6, t7, t8, t9, ta⟩, tm, tk⟩ := f2.V
      rw [z_VV2, e0] at t3
      rw [e3] at t4
      unfold F_X12_votes
      simp (disch := first | omega | ((try simp (disch := omega) only [k1, t3, t4, hk0, f3, k3', xs_k_ui, xs_k_ur, xs_k_uc, xs_k_un, xs_k_ub, xs_r_ui, xs_r_ur, xs_r_uc, xs_r_un, xs_r_ub, xs_t_ui, xs_t_ur, xs_t_uc, xs_t_un, xs_t_ub, xs_n_ui, xs_n_ur, xs_n_uc, xs_n_un, xs_n_ub, xs_m_ui, xs_m_ur, xs_m_uc, xs_m_un, xs_m_ub, xs_c_ui, xs_c_ur, xs_c_uc, xs_c_un, xs_c_ub, x_up_s, x_up_k, x_up_o, x_fU_s, x_fU_o]) <;> first | rfl | omega | (refine (?_ : (_ : Bool) = true); with_unfolding_all rfl)) | fail) only [k1, t3, t4, hk0, f3, k3', ↓p_xgi, ↓p_xgr, ↓p_xpi, ↓p_xpr, ↓p_xo, ↓p_xld, ↓p_xlb, ↓p_xlr, ↓p_xst, ↓p_xsb, ↓p_xsr, ↓p_xlen, ↓p_xnew, ↓p_xnwa, ↓p_xcln, ↓p_xcst, ↓p_xcall, ↓p_xcalc, ↓p_xnm, ↓p_xdv, ↓p_xrem, h_xgiE, h_xgrE, h_xpiE, h_xprE, h_xoE, h_xldE, h_xlbE, h_xlrE, h_xstE, h_xsbE, h_xsrE, h_xlenE, h_xnewE, h_xnwaE, h_xclnE, h_xcstE, h_xcallE, h_xcalcE, h_xnmE, h_xdvE, h_xremE, xs_k_ui, xs_k_ur, xs_k_uc, xs_k_un, xs_k_ub, xs_r_ui, xs_r_ur, xs_r_uc, xs_r_un, xs_r_ub, xs_t_ui, xs_t_ur, xs_t_uc, xs_t_un, xs_t_ub, xs_n_ui, xs_n_ur, xs_n_uc, xs_n_un, xs_n_ub, xs_m_ui, xs_m_ur, xs_m_uc, xs_m_un, xs_m_ub, xs_c_ui, xs_c_ur, xs_c_uc, xs_c_un, xs_c_ub, x_up_s, x_up_k, x_up_o, x_fU_s, x_fU_o, ↓reduceIte, h_ldE, h_stE, h_nmE, h_nSE, h_callE, h_callvE, h_dvE, h_remE, if_true, if_false, z_upS, z_upO, z_upK, nI_add, z_mul, z_sub, z_div, Nat.add_zero, Nat.mul_zero, Nat.zero_add, Nat.sub_zero, Nat.zero_mul, z_ltT, z_ltF, z_leT, z_leF, z_eqT, z_eqF, z_inT, z_clT, not_true_eq_false, not_false_eq_true, eq_self, true_or, or_true, z_m_lt, z_m_le, z_lt_m, z_le_m, z_eq_m, z_m_eq, z_rz0, z_rz1, z_m_add, z_of, ↓z_m1, l_0, l_1, l_2, l_3, l_4, l_5, l_6, l_7, l_8, l_9, l_10, l_11, l_12, l_13, l_14, l_15, l_16, l_17, l_18, l_19, l_20, l_21, l_22, l_23, l_24, l_25, l_26, l_27, l_28, l_29, l_30, l_31, l_32, l_33, l_34, l_35, l_36, l_37, l_38, l_39, l_40, l_41, l_42, l_43, l_44, l_45, l_46, l_47, l_48, l_49, l_50, l_51, l_52, l_53, l_54, l_55, l_56, l_57, l_59, l_60, l_61, l_62, l_63, l_64, l_65, l_80, l_86, l_87, l_88, l_89, l_90, l_91, l_92, l_93, l_94, l_95, l_97, l_99, l_100, l_107, l_119, l_122, l_124, l_129, l_140, l_141, l_142, l_143, l_144, l_145, l_147, l_150, l_159, l_160, l_161, l_162, l_205, l_253, l_255, l_256, l_269, l_305, l_380, l_399, l_400, l_420, l_430, l_516, l_600, l_720, l_820, l_905, l_921, l_937, l_953, l_970, l_999, l_1000, l_1790, l_4096, l_9999, l_1000000]
    | succ k =>
      have e0 : z_vw (k+1) = nI k := rfl
      have ei : (if k + 1 = 0 then 1 else 0) = 0 := if_neg (by omega)
      have ei2 : (if k + 1 = 0 then 0 else z_cnt (z_side B (k+1-1) mu) 12) = z_cnt (z_side B k mu) 12 := if_neg (by omega)
      rw [ei2, ei]
      have e3 : z_u (z_VV V B (z_vw (k+1))) 3 (V 3 + nI 0) = z_VV V B (z_vw (k+1)) := by
        funext a
        unfold z_u
        by_cases h : a = 3
        · subst h
          rw [if_pos rfl, z_VVo (by omega) (by omega)]
          exact Int32.add_zero _
        · rw [if_neg h]
      rw [e3]
      obtain ⟨u2, Fz', k1', k2', k3'⟩ := F_notes (n := n) (x := nI 0) (y := nI k) (z := nI (z_cnt (z_side B k mu) 12)) f2 (by omega)
      refine ⟨u2, Fz', f1.tr k1' (by omega) (by omega), k2', ?_⟩
      have eb := F_behind (n := n) (x := nI k) (by omega) f2.V
      rw [hside k (by omega) _ (fun m hm => z_VVi (by omega))] at eb
      have ec := F_bitCount (n := n) (u := u1) (s := z_side B k mu) (z_set_lt12 _ hmu)
      obtain ⟨⟨⟨a1, a2, a3, a4, a5, a6⟩, ⟨k1, k2, k3, k4, k5, k6⟩, ⟨r1, r2, r3, r4, r5, r6, r7, r8⟩⟩, ⟨t0, t1, t2, t3, t4, t5, t6, t7, t8, t9, ta⟩, tm, tk⟩ := f2.V
      rw [z_VV2, e0] at t3
      unfold F_X12_votes
      simp (disch := first | omega | ((try simp (disch := omega) only [k1, t3, hk0, f3, eb, ec, k3', xs_k_ui, xs_k_ur, xs_k_uc, xs_k_un, xs_k_ub, xs_r_ui, xs_r_ur, xs_r_uc, xs_r_un, xs_r_ub, xs_t_ui, xs_t_ur, xs_t_uc, xs_t_un, xs_t_ub, xs_n_ui, xs_n_ur, xs_n_uc, xs_n_un, xs_n_ub, xs_m_ui, xs_m_ur, xs_m_uc, xs_m_un, xs_m_ub, xs_c_ui, xs_c_ur, xs_c_uc, xs_c_un, xs_c_ub, x_up_s, x_up_k, x_up_o, x_fU_s, x_fU_o]) <;> first | rfl | omega | (refine (?_ : (_ : Bool) = true); with_unfolding_all rfl)) | fail) only [k1, t3, hk0, f3, eb, ec, k3', ↓p_xgi, ↓p_xgr, ↓p_xpi, ↓p_xpr, ↓p_xo, ↓p_xld, ↓p_xlb, ↓p_xlr, ↓p_xst, ↓p_xsb, ↓p_xsr, ↓p_xlen, ↓p_xnew, ↓p_xnwa, ↓p_xcln, ↓p_xcst, ↓p_xcall, ↓p_xcalc, ↓p_xnm, ↓p_xdv, ↓p_xrem, h_xgiE, h_xgrE, h_xpiE, h_xprE, h_xoE, h_xldE, h_xlbE, h_xlrE, h_xstE, h_xsbE, h_xsrE, h_xlenE, h_xnewE, h_xnwaE, h_xclnE, h_xcstE, h_xcallE, h_xcalcE, h_xnmE, h_xdvE, h_xremE, xs_k_ui, xs_k_ur, xs_k_uc, xs_k_un, xs_k_ub, xs_r_ui, xs_r_ur, xs_r_uc, xs_r_un, xs_r_ub, xs_t_ui, xs_t_ur, xs_t_uc, xs_t_un, xs_t_ub, xs_n_ui, xs_n_ur, xs_n_uc, xs_n_un, xs_n_ub, xs_m_ui, xs_m_ur, xs_m_uc, xs_m_un, xs_m_ub, xs_c_ui, xs_c_ur, xs_c_uc, xs_c_un, xs_c_ub, x_up_s, x_up_k, x_up_o, x_fU_s, x_fU_o, ↓reduceIte, h_ldE, h_stE, h_nmE, h_nSE, h_callE, h_callvE, h_dvE, h_remE, if_true, if_false, z_upS, z_upO, z_upK, nI_add, z_mul, z_sub, z_div, Nat.add_zero, Nat.mul_zero, Nat.zero_add, Nat.sub_zero, Nat.zero_mul, z_ltT, z_ltF, z_leT, z_leF, z_eqT, z_eqF, z_inT, z_clT, not_true_eq_false, not_false_eq_true, eq_self, true_or, or_true, z_m_lt, z_m_le, z_lt_m, z_le_m, z_eq_m, z_m_eq, z_rz0, z_rz1, z_m_add, z_of, ↓z_m1, l_0, l_1, l_2, l_3, l_4, l_5, l_6, l_7, l_8, l_9, l_10, l_11, l_12, l_13, l_14, l_15, l_16, l_17, l_18, l_19, l_20, l_21, l_22, l_23, l_24, l_25, l_26, l_27, l_28, l_29, l_30, l_31, l_32, l_33, l_34, l_35, l_36, l_37, l_38, l_39, l_40, l_41, l_42, l_43, l_44, l_45, l_46, l_47, l_48, l_49, l_50, l_51, l_52, l_53, l_54, l_55, l_56, l_57, l_59, l_60, l_61, l_62, l_63, l_64, l_65, l_80, l_86, l_87, l_88, l_89, l_90, l_91, l_92, l_93, l_94, l_95, l_97, l_99, l_100, l_107, l_119, l_122, l_124, l_129, l_140, l_141, l_142, l_143, l_144, l_145, l_147, l_150, l_159, l_160, l_161, l_162, l_205, l_253, l_255, l_256, l_269, l_305, l_380, l_399, l_400, l_420, l_430, l_516, l_600, l_720, l_820, l_905, l_921, l_937, l_953, l_970, l_999, l_1000, l_1790, l_4096, l_9999, l_1000000]
end VO
