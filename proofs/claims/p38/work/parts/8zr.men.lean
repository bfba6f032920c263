/-! the men made: the loop -/
section KK
variable {p b L pl pa mu me Lx wn : Nat} {xs : Nat → Int32} {d : Nat → Nat} {Fz : Nat → Prop} {V : Nat → Int32} {hs : z_Hs} {u : x_U}
set_option maxHeartbeats 4000000 in
/-- one man, in both -/
theorem T_kB {v x4 x7 : Int32} {k : Nat} (hk : k < 5) (hbn : x_n u = b + mu + k) (hT : x_TB u Fz p b L pl pa mu k d V) (hz : z_CS mu k (x_c u) V hs wn) (hW : y_WC Lx xs u) (hb : x_n u + 1 ≤ 500000) (h30 : y_T30 (x_t u) b mu k) :
    ∃ w V' hs', x_n w = b + mu + (k+1) ∧ x_m w = x_m u + 3 ∧ x_TB w Fz p b L pl pa mu (k+1) d V' ∧ z_CS mu (k+1) (x_c w) V' hs' wn ∧ y_WC Lx xs w ∧ (∀ a, a < 20 ∨ (88 ≤ a ∧ a < 119) ∨ 129 ≤ a → V' a = V a) ∧ y_T30 (x_t w) b mu (k+1) ∧ ∀ K : x_U → Option (Nat × x_U), (x_gr u p 12 13 fun o86 =>
    x_nwa u 0 3 fun o87 s88 =>
    x_call (F_L_between q_F (v >>> (3 &&& 31)) 0 12 s88) fun r90 s89 =>
    x_st s89 o87 0 r90 fun s91 =>
    x_call (F_L_between q_F (v >>> (5 &&& 31)) 0 9 s91) fun r93 s92 =>
    x_st s92 o87 1 r93 fun s94 =>
    x_call (F_L_between q_F (v >>> (6 &&& 31)) 0 9 s94) fun r96 s95 =>
    x_st s95 o87 2 r96 fun s97 =>
    x_sr s97 o86 (nI k) o87 fun s98 =>
    x_gr s98 p 12 13 fun o99 =>
    x_lr s98 o99 (nI k) fun o100 =>
    x_ld s98 o100 0 fun v101 =>
    x_gr s98 p 12 13 fun o102 =>
    x_lr s98 o102 (nI k) fun o103 =>
    x_ld s98 o103 1 fun v104 =>
    x_gr s98 p 12 13 fun o105 =>
    x_lr s98 o105 (nI k) fun o106 =>
    x_ld s98 o106 2 fun v107 =>
    x_calc s98 (f_X11_man q_F 0 v101 v104 v107 (x_c s98)) fun r109 s108 =>
    if r109 = nI k then (
    x_gi s108 p 12 8 fun v110 =>
    x_pi s108 p 12 8 (v110 + 1) fun s111 =>
    F_L_train_L637 q_F (x_CT + 2) 0 p x4 v x7 (nI k) (fun  (s125 : x_U) =>
    K s125) q_F 0 s111)
    else (
    some (0, s108))) = K w := by
  have hbd := hT.bd
  have hT0 := hT
  obtain ⟨⟨-, ⟨k1, k2, k3, k4, -, -⟩, s1, s2, -⟩, hI, -⟩ := hT
  obtain ⟨w1, f1, n1, m1, c1, r1, rj, ⟨t0, t1, t2⟩, eA⟩ := T_kA (v := v) (i := k) k1 s2 k3 hk (by omega) hb
  have hX := y_bt_b (v := v >>> (3 &&& 31)) (lo := 0) (hi := 12) (by omega)
  have hY := y_bt_b (v := v >>> (5 &&& 31)) (lo := 0) (hi := 9) (by omega)
  have hZ := y_bt_b (v := v >>> (6 &&& 31)) (lo := 0) (hi := 9) (by omega)
  have hc1 : x_c w1 = x_c u := f1.1
  have hX2 : y_kX v ≤ 99 := Nat.le_trans hX.2 (by omega)
  obtain ⟨σ1, eM, hz1⟩ := Q_man (x := y_kX v) (y := y_kY v) (z := y_kZ v) hz hk hX2 hY.2 hZ.2
  have hV : ∀ a, a ≠ 80+k → a ≠ 119+k → a ≠ 124+k → a ≠ 87 → (a < 20 ∨ 80 ≤ a) → y_kV V k (nI (y_kX v)) (nI (y_kY v)) (nI (y_kZ v)) a = V a := fun a n1 n2 n3 n4 n5 => by
    unfold y_kV
    rw [if_neg n1, if_neg n2, if_neg n3, if_neg n4, if_neg (by omega)]
  have hVl : ∀ m j, m < 12 → j < 5 → j ≠ k → y_kV V k (nI (y_kX v)) (nI (y_kY v)) (nI (y_kZ v)) (20+5*m+j) = V (20+5*m+j) := fun m j hm hj hne => by
    unfold y_kV
    rw [if_neg (by omega), if_neg (by omega), if_neg (by omega), if_neg (by omega), if_neg (by omega)]
  have hVk : ∀ m, m < 12 → y_kV V k (nI (y_kX v)) (nI (y_kY v)) (nI (y_kZ v)) (20+5*m+k) = nI 30 := fun m hm => by
    unfold y_kV
    rw [if_neg (by omega), if_neg (by omega), if_neg (by omega), if_neg (by omega), if_pos (by omega)]
  have v80 : y_kV V k (nI (y_kX v)) (nI (y_kY v)) (nI (y_kZ v)) (80+k) = nI (y_kX v) := if_pos rfl
  have v119 : y_kV V k (nI (y_kX v)) (nI (y_kY v)) (nI (y_kZ v)) (119+k) = nI (y_kY v) := by
    unfold y_kV
    rw [if_neg (by omega), if_pos rfl]
  have v124 : y_kV V k (nI (y_kX v)) (nI (y_kY v)) (nI (y_kZ v)) (124+k) = nI (y_kZ v) := by
    unfold y_kV
    rw [if_neg (by omega), if_neg (by omega), if_pos rfl]
  generalize y_kV V k (nI (y_kX v)) (nI (y_kY v)) (nI (y_kZ v)) = V1 at *
  obtain ⟨w4, hw4⟩ : ∃ w4, w4 = x_ui (x_uc w1 σ1) p 8 (nI (k+1)) := ⟨_, rfl⟩
  have c4 : x_c w4 = σ1 := by rw [hw4]; rfl
  have n4 : x_n w4 = x_n u + 1 := by rw [hw4]; exact n1
  have m4 : x_m w4 = x_m u + 3 := by rw [hw4]; exact m1
  have k4' : x_k w4 = x_k w1 := by rw [hw4]; rfl
  have r4' : x_r w4 = x_r w1 := by rw [hw4]; rfl
  have t4' : x_t w4 = x_up (x_t w1) p 8 (nI (k+1)) := by rw [hw4]; rfl
  have f4 : x_fr (fun o => o = p ∨ o = p+2) (x_uc u σ1) w4 := by
    refine ⟨c4, by show x_n u ≤ _; omega, by show x_m u ≤ _; omega, fun o ho => ?_, fun o ho hq => ⟨?_, ?_⟩⟩
    · rw [k4']; exact f1.2.2.2.1 o ho
    · rw [r4']; exact (f1.2.2.2.2 o ho (fun q => hq (Or.inr q))).1
    · rw [t4', x_up_o (fun q => hq (Or.inl q))]
      exact (f1.2.2.2.2 o ho (fun q => hq (Or.inr q))).2
  have tO : ∀ o, o ≠ p → x_t w4 o = x_t w1 o := fun o h1 => by rw [t4', x_up_o h1]
  have fT : ∀ o, o < x_n u → o ≠ p+2 → x_t w1 o = x_t u o := fun o h1 h2 => (f1.2.2.2.2 o (Or.inl h1) h2).2
  have q7 : nI k + 1 = nI (k+1) := by rw [show (1 : Int32) = nI 1 from rfl, nI_add]
  have hTu : x_TB (x_uc u σ1) Fz p b L pl pa mu k d V := hT0
  have hT4 : x_TB w4 Fz p b L pl pa mu (k+1) d V1 := by
    refine hTu.kk hk hbn (by show x_n u + 1 ≤ _; omega) f4 (by show x_n w4 = x_n u + 1; omega) (by rw [k4']; exact c1) (by rw [r4']; exact (f1.2.2.2.2 p (Or.inl (by omega)) (by omega)).1) (by rw [r4']; exact r1) (fun j hj => by rw [r4']; exact rj j hj) ?_ (hV 6 (by omega) (by omega) (by omega) (by omega) (by omega)) (fun a a1 a2 => hV a (by omega) (by omega) (by omega) (by omega) (by omega))
    refine hI.kk (by omega) hk (fun m hm => ?_) (fun j hj => ?_) (fun j hj => ?_) ?_ (fun a ha => hV a (by omega) (by omega) (by omega) (by omega) (by omega)) (fun m j hm hj => hVl m j (by omega) (by omega) (by omega)) (fun j hj => ⟨hV _ (by omega) (by omega) (by omega) (by omega) (by omega), hV _ (by omega) (by omega) (by omega) (by omega) (by omega), hV _ (by omega) (by omega) (by omega) (by omega) (by omega)⟩) (fun m hm => ?_) ⟨?_, ?_, ?_⟩
    · rw [tO _ (by omega), fT _ (by omega) (by omega)]
    · rw [tO _ (by omega), fT _ (by omega) (by omega)]
    · rw [t4', x_up_k hj, fT p (by omega) (by omega)]
    · rw [t4', x_up_s]
    · rw [hVk m (by omega)]
      exact h30 m hm k (Nat.le_refl _) hk
    · rw [tO _ (by omega), ← hbn, v80]; exact t0
    · rw [tO _ (by omega), ← hbn, v119]; exact t1
    · rw [tO _ (by omega), ← hbn, v124]; exact t2
  have hW4 : y_WC Lx xs w4 := by
    have h : y_WC Lx xs (x_uc u σ1) := hW
    exact h.fr f4 (fun o ho => by rcases ho with q | q <;> omega)
  have hFm : mu < q_F + 0 := by unfold q_F; omega
  obtain ⟨w', V', hs', g1, g2, g3, g4, g5, g6, g8, g7⟩ := T_637 (v := v) (x4 := x4) (x7 := x7) (k := k) hk q_F 0 w4 V1 y_h0 (Nat.zero_le _) hFm hT4 (by rw [c4]; exact hz1) hW4 (fun m _ m2 => hVk m (by omega)) (fun m hm c h1 h2 => by
    rw [tO _ (by omega), fT _ (by omega) (by omega)]
    exact h30 m hm c (by omega) h2)
  refine ⟨w', V', hs', by omega, by omega, g3, g4, g5, fun a ha => by rw [g6 a (by omega), hV a (by omega) (by omega) (by omega) (by omega) (by omega)], g8, fun K => ?_⟩
  have kp1 : x_k w1 p = .inl 12 := by rw [f1.2.2.2.1 p (Or.inl (by omega))]; exact k1
  have kq1 : x_k w1 (p+2) = .inr (5, 3) := by rw [f1.2.2.2.1 (p+2) (Or.inl (by omega))]; exact k3
  have rp1 : x_r w1 p 13 = p+2 := by rw [(f1.2.2.2.2 p (Or.inl (by omega)) (by omega)).1]; exact s2
  have t8 : x_t w1 p 8 = nI k := by rw [fT p (by omega) (by omega)]; exact hI.1.2.2.2.2.2.2.2.2.1
  rw [← hc1] at eM
  refine (eA _).trans ?_
  show (x_gr w1 p 12 13 fun o99 => _) = _
  rw [p_xgr, h_xgrE kp1, rp1, p_xlr, h_xlrE kq1 (by omega) hk (by omega), r1]
  show (x_ld w1 (x_n u) (nI 0) fun v101 => _) = _
  rw [p_xld, h_xldE c1 (by omega) (by omega), t0, p_xgr, h_xgrE kp1, rp1, p_xlr, h_xlrE kq1 (by omega) hk (by omega), r1]
  show (x_ld w1 (x_n u) (nI 1) fun v104 => _) = _
  rw [p_xld, h_xldE c1 (by omega) (by omega), t1, p_xgr, h_xgrE kp1, rp1, p_xlr, h_xlrE kq1 (by omega) hk (by omega), r1]
  show (x_ld w1 (x_n u) (nI 2) fun v107 => _) = _
  rw [p_xld, h_xldE c1 (by omega) (by omega), t2, eM, z_xcalc, if_pos rfl]
  have ku1 : x_k (x_uc w1 σ1) p = .inl 12 := kp1
  have tu8 : x_t (x_uc w1 σ1) p 8 = nI k := t8
  rw [p_xgi, h_xgiE ku1, tu8, q7, p_xpi, h_xpiE ku1 (by omega), ← hw4]
  exact g7 _
set_option maxHeartbeats 4000000 in
theorem T_508 {N : Nat} {x4 : Int32} (hL : Lx ≤ 260) (hN : N ≤ 5) : ∀ j i w V hs, i ≤ N → N < j + i → x_n w = b + mu + i → x_n w + (N - i) + 1 ≤ 500000 → x_TB w Fz p b L pl pa mu i d V → z_CS mu i (x_c w) V hs wn → y_WC Lx xs w → y_T30 (x_t w) b mu i →
    ∃ w' V' hs', x_n w' = b + mu + N ∧ x_m w' = x_m w + 3 * (N - i) ∧ x_TB w' Fz p b L pl pa mu N d V' ∧ z_CS mu N (x_c w') V' hs' wn ∧ y_WC Lx xs w' ∧ (∀ a, a < 20 ∨ (88 ≤ a ∧ a < 119) ∨ 129 ≤ a → V' a = V a) ∧ ∀ K : x_U → Option (Nat × x_U), F_L_train_L508 q_F (x_CT + 2) 0 p x4 (nI N) K j (nI i) w = K w' := by
  intro j
  induction j with
  | zero => intro i w V hs h1 h2; omega
  | succ j ih =>
    intro i w V hs h1 h2 hbn hb hT hz hW h30
    by_cases hk : i = N
    · subst hk
      refine ⟨w, V, hs, hbn, by omega, hT, hz, hW, fun _ _ => rfl, fun K => ?_⟩
      rw [F_L_train_L508]
      simp (disch := first | omega | ((try simp (disch := omega) only [xs_k_ui, xs_k_ur, xs_k_uc, xs_k_un, xs_k_ub, xs_r_ui, xs_r_ur, xs_r_uc, xs_r_un, xs_r_ub, xs_t_ui, xs_t_ur, xs_t_uc, xs_t_un, xs_t_ub, xs_n_ui, xs_n_ur, xs_n_uc, xs_n_un, xs_n_ub, xs_m_ui, xs_m_ur, xs_m_uc, xs_m_un, xs_m_ub, xs_c_ui, xs_c_ur, xs_c_uc, xs_c_un, xs_c_ub, x_up_s, x_up_k, x_up_o, x_fU_s, x_fU_o]) <;> first | rfl | omega | (refine (?_ : (_ : Bool) = true); with_unfolding_all rfl)) | fail) only [↓p_xgi, ↓p_xgr, ↓p_xpi, ↓p_xpr, ↓p_xo, ↓p_xld, ↓p_xlb, ↓p_xlr, ↓p_xst, ↓p_xsb, ↓p_xsr, ↓p_xlen, ↓p_xnew, ↓p_xnwa, ↓p_xcln, ↓p_xcst, ↓p_xcall, ↓p_xcalc, ↓p_xnm, ↓p_xdv, ↓p_xrem, h_xgiE, h_xgrE, h_xpiE, h_xprE, h_xoE, h_xldE, h_xlbE, h_xlrE, h_xstE, h_xsbE, h_xsrE, h_xlenE, h_xnewE, h_xnwaE, h_xclnE, h_xcstE, h_xcallE, h_xcalcE, h_xnmE, h_xdvE, h_xremE, xs_k_ui, xs_k_ur, xs_k_uc, xs_k_un, xs_k_ub, xs_r_ui, xs_r_ur, xs_r_uc, xs_r_un, xs_r_ub, xs_t_ui, xs_t_ur, xs_t_uc, xs_t_un, xs_t_ub, xs_n_ui, xs_n_ur, xs_n_uc, xs_n_un, xs_n_ub, xs_m_ui, xs_m_ur, xs_m_uc, xs_m_un, xs_m_ub, xs_c_ui, xs_c_ur, xs_c_uc, xs_c_un, xs_c_ub, x_up_s, x_up_k, x_up_o, x_fU_s, x_fU_o, ↓reduceIte, h_ldE, h_stE, h_nmE, h_nSE, h_callE, h_callvE, h_dvE, h_remE, if_true, if_false, z_upS, z_upO, z_upK, nI_add, z_mul, z_sub, z_div, Nat.add_zero, Nat.mul_zero, Nat.zero_add, Nat.sub_zero, Nat.zero_mul, z_ltT, z_ltF, z_leT, z_leF, z_eqT, z_eqF, z_inT, z_clT, not_true_eq_false, not_false_eq_true, eq_self, true_or, or_true, z_m_lt, z_m_le, z_lt_m, z_le_m, z_eq_m, z_m_eq, z_rz0, z_rz1, z_m_add, z_of, ↓z_m1, l_0, l_1, l_2, l_3, l_4, l_5, l_6, l_7, l_8, l_9, l_10, l_11, l_12, l_13, l_14, l_15, l_16, l_17, l_18, l_19, l_20, l_21, l_22, l_23, l_24, l_25, l_26, l_27, l_28, l_29, l_30, l_31, l_32, l_33, l_34, l_35, l_36, l_37, l_38, l_39, l_40, l_41, l_42, l_43, l_44, l_45, l_46, l_47, l_48, l_49, l_50, l_51, l_52, l_53, l_54, l_55, l_56, l_57, l_59, l_60, l_61, l_62, l_63, l_64, l_65, l_80, l_86, l_87, l_88, l_89, l_90, l_91, l_92, l_93, l_94, l_95, l_97, l_99, l_100, l_107, l_119, l_122, l_124, l_129, l_140, l_141, l_142, l_143, l_144, l_145, l_147, l_150, l_159, l_160, l_161, l_162, l_205, l_253, l_255, l_256, l_269, l_305, l_380, l_399, l_400, l_420, l_430, l_516, l_600, l_720, l_820, l_905, l_921, l_937, l_953, l_970, l_999, l_1000, l_1790, l_4096, l_9999, l_1000000]
    · have hlt : i < N := by omega
      obtain ⟨w1, V1, hs1, n1, m1, hT1, hz1, hW1, v1, h31, e1⟩ := T_kB (v := y_kv (y_ce Lx xs 3) i) (x4 := x4) (x7 := nI N) (k := i) (by omega) hbn hT hz hW (by omega) h30
      obtain ⟨w', V', hs', g1, g2, g3, g4, g5, g6, g7⟩ := ih (i+1) w1 V1 hs1 (by omega) (by omega) n1 (by omega) hT1 hz1 hW1 h31
      refine ⟨w', V', hs', g1, by omega, g3, g4, g5, fun a ha => by rw [g6 a ha, v1 a ha], fun K => ?_⟩
      have eC : F_L_cell q_F (x_CT + 2) (0 + 3) w = some (y_ce Lx xs 3, w) := F_cell (i := 3) rfl (by omega) hL hW
      rw [← g7 K, F_L_train_L508, if_pos ((nI_ltI (by omega) (by omega)).mpr hlt), eC, z_xcall, x_nmE]
      refine (e1 (fun s125 => F_L_train_L508 q_F (x_CT + 2) 0 p x4 (nI N) K j (nI i + 1) s125)).trans ?_
      rw [show (1 : Int32) = nI 1 from rfl, nI_add]
end KK
