/-! the lines of the three texts, built -/
section LN
variable {n : Nat} {u : x_U} {L : Nat} {xs : Nat → Int32}
theorem y_LS.WC {u' : x_U} {s a b : Nat} {m : List Nat} (h : y_LS L xs u u' s m a b) : y_WC L xs u' := h.2.2.2.1
theorem y_CH.extF {u0 u' : x_U} {o v dn dm a b : Nat} {l : List Nat} (h : y_CH (fun _ => False) u0 u o v l dn dm) (f : x_fr (fun _ => False) u u') (hn : x_n u' ≤ x_n u + a) (hm : x_m u' ≤ x_m u + b) (h5 : x_n u' ≤ 500000) : y_CH (fun _ => False) u0 u' o v l (dn + a) (dm + b) := h.ext f hn hm h5 (fun i hi => hi.elim)
theorem T_heed {M A B : Nat} {two : Bool} (hn : 5 ≤ n) (hW : y_WC L xs u) (hM : M < 100) (hA : A < 100) (hB : B < 100) (h0 : 157 ≤ x_n u) (hb : x_n u + 30 ≤ 500000) : ∃ u' s, y_LS L xs u u' s (y_hl M A B two) 16 900 ∧ ∀ (α : Type) (K : Nat → x_U → Option (α × x_U)), (x_new u 14 fun o31 s32 =>
      x_o s32 o31 14 <|
      x_call (F_J4_init_da8c8 n o31 s32) fun r34 s33 =>
      x_o s33 o31 14 <|
      x_call (F_J4_append_15ec4 n o31 (x_CB + 30) s33) fun o37 s36 =>
      x_o s36 o37 14 <|
      x_call (F_J4_append_bf812 n o37 (nI M) s36) fun o40 s39 =>
      x_o s39 o40 14 <|
      x_call (F_J4_append_15ec4 n o40 (x_CB + 31) s39) fun o43 s42 =>
      x_o s42 o43 14 <|
      x_call (F_J4_append_bf812 n o43 (nI A) s42) fun o46 s45 =>
      x_nm (fun (y48 : Nat) (s49 : x_U) =>
        x_o s49 o46 14 <|
        x_call (F_J4_append_15ec4 n o46 y48 s49) fun o51 s50 =>
        x_o s50 o51 14 <|
        x_call (F_J4_append_15ec4 n o51 (x_CB + 34) s50) fun o54 s53 =>
        x_o s53 o54 14 <|
        x_call (F_J4_toString_0e30d n o54 s53) fun o57 s56 => K o57 s56) fun j228 =>
      if z_fb two = 0 then (
      j228 (x_CB + 33) s45)
      else (
      x_new s45 14 fun o68 s69 =>
      x_o s69 o68 14 <|
      x_call (F_J4_init_da8c8 n o68 s69) fun r71 s70 =>
      x_o s70 o68 14 <|
      x_call (F_J4_append_15ec4 n o68 (x_CB + 32) s70) fun o74 s73 =>
      x_o s73 o74 14 <|
      x_call (F_J4_append_bf812 n o74 (nI B) s73) fun o77 s76 =>
      x_o s76 o77 14 <|
      x_call (F_J4_toString_0e30d n o77 s76) fun o80 s79 =>
      j228 o80 s79)) = K s u' := by
  have c2 : x_CV = 1000001000 := rfl
  obtain ⟨dM1, dM2, dM3⟩ := y_dgl (a := M) (by omega)
  obtain ⟨dA1, dA2, dA3⟩ := y_dgl (a := A) (by omega)
  obtain ⟨dB1, dB2, dB3⟩ := y_dgl (a := B) (by omega)
  obtain ⟨z30, z31, z32, z33, z34, -⟩ := zt_wE
  obtain ⟨w1, c1, n1, f1, e1⟩ := CH_new (n := n) (own := fun _ => False) h0 (by omega)
  have hW1 := hW.fr f1 (fun i h => h.elim)
  obtain ⟨w2, v2, c2, hW2, f2, q2, e2⟩ := c1.kc (n := n) 30 (M := 40) hW1 (by omega) (by rw [z30]; simp) (by omega) (by omega)
  obtain ⟨w3, v3, c3, hW3, f3, q3, e3⟩ := c2.kn (a := M) (M := 40) hn hW2 (by omega) (by rw [z30]; simp) (by omega) (by omega)
  obtain ⟨w4, v4, c4, hW4, f4, q4, e4⟩ := c3.kc (n := n) 31 (M := 40) hW3 (by omega) (by rw [z30, z31]; simp; omega) (by omega) (by omega)
  obtain ⟨w5, v5, c5, hW5, f5, q5, e5⟩ := c4.kn (a := A) (M := 40) hn hW4 (by omega) (by rw [z30, z31]; simp; omega) (by omega) (by omega)
  have hb5 := c5.bd
  have h15 := c5.2.1
  have h25 := c5.2.2.1
  have hu5 := c5.1.2.1
  cases two with
  | false =>
    obtain ⟨w6, v6, c6, hW6, f6, q6, e6⟩ := c5.kc (n := n) 33 (M := 40) hW5 (by omega) (by rw [z30, z31, z33]; simp; omega) (by omega) (by omega)
    obtain ⟨w7, v7, c7, hW7, f7, q7, e7⟩ := c6.kc (n := n) 34 (M := 40) hW6 (by omega) (by rw [z30, z31, z33, z34]; simp; omega) (by omega) (by omega)
    obtain ⟨w8, g1, g2, g3, e8⟩ := c7.kt (n := n) (M := 40) hW7 (by rw [z30, z31, z33, z34]; simp; omega) (by omega) (by omega)
    refine ⟨w8, x_n w7, ?_, fun α K => ?_⟩
    · obtain ⟨a1, a2, a3, a4, a5⟩ := g1
      refine ⟨a1, by omega, by omega, a4, ?_⟩
      rw [z30, z31, z33, z34] at a5
      unfold y_hl
      simpa using a5
    · refine (e1 α _).trans ?_
      rw [e2, e3, e4, e5, x_nmE, if_pos (by decide)]
      refine (e6 α _).trans ?_
      rw [e7, e8]
  | true =>
    obtain ⟨w6, s6, c6, e6⟩ := T_sub (n := n) (i := 32) (a := B) hn hW5 (by omega) (by rw [z32]; simp) (by omega) (by omega) (by omega)
    obtain ⟨fs, ns, ms, hWs, svs, gs, ls⟩ := c6
    have c5x := c5.extF fs ns ms (by omega)
    obtain ⟨w7, v7, c7, hW7, f7, q7, e7⟩ := c5x.ks (n := n) (M := 40) hWs gs (by omega) (by rw [z30, z31, z32]; simp; omega) (by omega) (by omega)
    obtain ⟨w8, v8, c8, hW8, f8, q8, e8⟩ := c7.kc (n := n) 34 (M := 40) hW7 (by omega) (by rw [z30, z31, z32, z34]; simp; omega) (by omega) (by omega)
    obtain ⟨w9, g1, g2, g3, e9⟩ := c8.kt (n := n) (M := 40) hW8 (by rw [z30, z31, z32, z34]; simp; omega) (by omega) (by omega)
    refine ⟨w9, x_n w8, ?_, fun α K => ?_⟩
    · obtain ⟨a1, a2, a3, a4, a5⟩ := g1
      refine ⟨a1, by omega, by omega, a4, ?_⟩
      rw [z30, z31, z32, z34] at a5
      unfold y_hl
      simpa using a5
    · refine (e1 α _).trans ?_
      rw [e2, e3, e4, e5, x_nmE, if_neg (by decide), e6]
      refine (e7 α _).trans ?_
      rw [e8, e9]
/-- a path's line; the numbers are read out of its row meanwhile -/
theorem T_path {A B H q pa k c : Nat} {x1 : Nat} (hn : 5 ≤ n) (hW : y_WC L xs u) (hA : A < 100) (hB : B < 100) (hH : H < 100) (h0 : 157 ≤ x_n u) (hb : x_n u + 30 ≤ 500000)
    (k1 : x_k u x1 = .inl 12) (r1 : x_r u x1 15 = pa) (k2 : x_k u pa = .inr (c, 3)) (hk : k < c) (hc : c < 100) (r2 : x_r u pa k = q) (k3 : x_k u q = .inr (3, 0)) (t1 : x_t u q 1 = nI B) (t2 : x_t u q 2 = nI H) (l1 : x1 < x_n u) (l2 : pa < x_n u) (l3 : q < x_n u) : ∃ u' s, y_LS L xs u u' s (y_wl A B H) 12 900 ∧ ∀ (α : Type) (K : Nat → x_U → Option (α × x_U)), (x_new u 14 fun o240 s241 =>
    x_o s241 o240 14 <|
    x_call (F_J4_init_da8c8 n o240 s241) fun r243 s242 =>
    x_o s242 o240 14 <|
    x_call (F_J4_append_15ec4 n o240 (x_CB + 42) s242) fun o246 s245 =>
    x_o s245 o246 14 <|
    x_call (F_J4_append_bf812 n o246 (nI A) s245) fun o249 s248 =>
    x_o s248 o249 14 <|
    x_call (F_J4_append_15ec4 n o249 (x_CB + 41) s248) fun o252 s251 =>
    x_gr s251 x1 12 15 fun o254 =>
    x_lr s251 o254 (nI k) fun o255 =>
    x_ld s251 o255 1 fun v256 =>
    x_o s251 o252 14 <|
    x_call (F_J4_append_bf812 n o252 v256 s251) fun o258 s257 =>
    x_o s257 o258 14 <|
    x_call (F_J4_append_15ec4 n o258 (x_CB + 43) s257) fun o261 s260 =>
    x_gr s260 x1 12 15 fun o263 =>
    x_lr s260 o263 (nI k) fun o264 =>
    x_ld s260 o264 2 fun v265 =>
    x_o s260 o261 14 <|
    x_call (F_J4_append_bf812 n o261 v265 s260) fun o267 s266 =>
    x_o s266 o267 14 <|
    x_call (F_J4_append_15ec4 n o267 (x_CB + 34) s266) fun o270 s269 =>
    x_o s269 o270 14 <|
    x_call (F_J4_toString_0e30d n o270 s269) fun o273 s272 => K o273 s272) = K s u' := by
  obtain ⟨dM1, dM2, dM3⟩ := y_dgl (a := A) (by omega)
  obtain ⟨dA1, dA2, dA3⟩ := y_dgl (a := B) (by omega)
  obtain ⟨dB1, dB2, dB3⟩ := y_dgl (a := H) (by omega)
  obtain ⟨z30, z31, z32, z33, z34, z35, z36, z37, z38, z39, z40, z41, z42, z43⟩ := zt_wE
  obtain ⟨w1, c1, n1, f1, e1⟩ := CH_new (n := n) (own := fun _ => False) h0 (by omega)
  have hW1 := hW.fr f1 (fun i h => h.elim)
  obtain ⟨w2, v2, c2, hW2, f2, q2, e2⟩ := c1.kc (n := n) 42 (M := 40) hW1 (by omega) (by rw [z42]; simp) (by omega) (by omega)
  obtain ⟨w3, v3, c3, hW3, f3, q3, e3⟩ := c2.kn (a := A) (M := 40) hn hW2 (by omega) (by rw [z42]; simp) (by omega) (by omega)
  obtain ⟨w4, v4, c4, hW4, f4, q4, e4⟩ := c3.kc (n := n) 41 (M := 40) hW3 (by omega) (by rw [z42, z41]; simp; omega) (by omega) (by omega)
  obtain ⟨w5, v5, c5, hW5, f5, q5, e5⟩ := c4.kn (a := B) (M := 40) hn hW4 (by omega) (by rw [z42, z41]; simp; omega) (by omega) (by omega)
  obtain ⟨w6, v6, c6, hW6, f6, q6, e6⟩ := c5.kc (n := n) 43 (M := 40) hW5 (by omega) (by rw [z42, z41, z43]; simp; omega) (by omega) (by omega)
  obtain ⟨w7, v7, c7, hW7, f7, q7, e7⟩ := c6.kn (a := H) (M := 40) hn hW6 (by omega) (by rw [z42, z41, z43]; simp; omega) (by omega) (by omega)
  obtain ⟨w8, v8, c8, hW8, f8, q8, e8⟩ := c7.kc (n := n) 34 (M := 40) hW7 (by omega) (by rw [z42, z41, z43, z34]; simp; omega) (by omega) (by omega)
  obtain ⟨w9, g1, g2, g3, e9⟩ := c8.kt (n := n) (M := 40) hW8 (by rw [z42, z41, z43, z34]; simp; omega) (by omega) (by omega)
  have rd : ∀ w : x_U, x_fr (fun _ => False) u w → ∀ (α : Type) (K : Int32 → Option (α × x_U)), (x_gr w x1 12 15 fun o => x_lr w o (nI k) fun o2 => x_ld w o2 1 K) = K (nI B) ∧ (x_gr w x1 12 15 fun o => x_lr w o (nI k) fun o2 => x_ld w o2 2 K) = K (nI H) := fun w f α K => by
    have y1 := f.2.2.2.2 x1 (Or.inl l1) (fun h => h)
    have y2 := f.2.2.2.2 pa (Or.inl l2) (fun h => h)
    have y3 := f.2.2.2.2 q (Or.inl l3) (fun h => h)
    have a1 : x_k w x1 = .inl 12 := by rw [f.2.2.2.1 x1 (Or.inl l1)]; exact k1
    have a2 : x_k w pa = .inr (c, 3) := by rw [f.2.2.2.1 pa (Or.inl l2)]; exact k2
    have a3 : x_k w q = .inr (3, 0) := by rw [f.2.2.2.1 q (Or.inl l3)]; exact k3
    have b1 : x_r w x1 15 = pa := by rw [y1.1]; exact r1
    have b2 : x_r w pa k = q := by rw [y2.1]; exact r2
    have b3 : x_t w q 1 = nI B := by rw [y3.2]; exact t1
    have b4 : x_t w q 2 = nI H := by rw [y3.2]; exact t2
    constructor
    · simp (disch := first | omega | ((try simp (disch := omega) only [a1, a2, a3, b1, b2, b3, xs_k_ui, xs_k_ur, xs_k_uc, xs_k_un, xs_k_ub, xs_r_ui, xs_r_ur, xs_r_uc, xs_r_un, xs_r_ub, xs_t_ui, xs_t_ur, xs_t_uc, xs_t_un, xs_t_ub, xs_n_ui, xs_n_ur, xs_n_uc, xs_n_un, xs_n_ub, xs_m_ui, xs_m_ur, xs_m_uc, xs_m_un, xs_m_ub, xs_c_ui, xs_c_ur, xs_c_uc, xs_c_un, xs_c_ub, x_up_s, x_up_k, x_up_o, x_fU_s, x_fU_o]) <;> first | rfl | omega | (refine (?_ : (_ : Bool) = true); with_unfolding_all rfl)) | fail) only [a1, a2, a3, b1, b2, b3, ↓p_xgi, ↓p_xgr, ↓p_xpi, ↓p_xpr, ↓p_xo, ↓p_xld, ↓p_xlb, ↓p_xlr, ↓p_xst, ↓p_xsb, ↓p_xsr, ↓p_xlen, ↓p_xnew, ↓p_xnwa, ↓p_xcln, ↓p_xcst, ↓p_xcall, ↓p_xcalc, ↓p_xnm, ↓p_xdv, ↓p_xrem, h_xgiE, h_xgrE, h_xpiE, h_xprE, h_xoE, h_xldE, h_xlbE, h_xlrE, h_xstE, h_xsbE, h_xsrE, h_xlenE, h_xnewE, h_xnwaE, h_xclnE, h_xcstE, h_xcallE, h_xcalcE, h_xnmE, h_xdvE, h_xremE, xs_k_ui, xs_k_ur, xs_k_uc, xs_k_un, xs_k_ub, xs_r_ui, xs_r_ur, xs_r_uc, xs_r_un, xs_r_ub, xs_t_ui, xs_t_ur, xs_t_uc, xs_t_un, xs_t_ub, xs_n_ui, xs_n_ur, xs_n_uc, xs_n_un, xs_n_ub, xs_m_ui, xs_m_ur, xs_m_uc, xs_m_un, xs_m_ub, xs_c_ui, xs_c_ur, xs_c_uc, xs_c_un, xs_c_ub, x_up_s, x_up_k, x_up_o, x_fU_s, x_fU_o, ↓reduceIte, h_ldE, h_stE, h_nmE, h_nSE, h_callE, h_callvE, h_dvE, h_remE, if_true, if_false, z_upS, z_upO, z_upK, nI_add, z_mul, z_sub, z_div, Nat.add_zero, Nat.mul_zero, Nat.zero_add, Nat.sub_zero, Nat.zero_mul, z_ltT, z_ltF, z_leT, z_leF, z_eqT, z_eqF, z_inT, z_clT, not_true_eq_false, not_false_eq_true, eq_self, true_or, or_true, z_m_lt, z_m_le, z_lt_m, z_le_m, z_eq_m, z_m_eq, z_rz0, z_rz1, z_m_add, z_of, ↓z_m1, l_0, l_1, l_2, l_3, l_4, l_5, l_6, l_7, l_8, l_9, l_10, l_11, l_12, l_13, l_14, l_15, l_16, l_17, l_18, l_19, l_20, l_21, l_22, l_23, l_24, l_25, l_26, l_27, l_28, l_29, l_30, l_31, l_32, l_33, l_34, l_35, l_36, l_37, l_38, l_39, l_40, l_41, l_42, l_43, l_44, l_45, l_46, l_47, l_48, l_49, l_50, l_51, l_52, l_53, l_54, l_55, l_56, l_57, l_59, l_60, l_61, l_62, l_63, l_64, l_65, l_80, l_86, l_87, l_88, l_89, l_90, l_91, l_92, l_93, l_94, l_95, l_97, l_99, l_100, l_107, l_119, l_122, l_124, l_129, l_140, l_141, l_142, l_143, l_144, l_145, l_147, l_150, l_159, l_160, l_161, l_162, l_205, l_253, l_255, l_256, l_269, l_305, l_380, l_399, l_400, l_420, l_430, l_516, l_600, l_720, l_820, l_905, l_921, l_937, l_953, l_970, l_999, l_1000, l_1790, l_4096, l_9999, l_1000000]
    · simp (disch := first | omega | ((try simp (disch := omega) only [a1, a2, a3, b1, b2, b4, xs_k_ui, xs_k_ur, xs_k_uc, xs_k_un, xs_k_ub, xs_r_ui, xs_r_ur, xs_r_uc, xs_r_un, xs_r_ub, xs_t_ui, xs_t_ur, xs_t_uc, xs_t_un, xs_t_ub, xs_n_ui, xs_n_ur, xs_n_uc, xs_n_un, xs_n_ub, xs_m_ui, xs_m_ur, xs_m_uc, xs_m_un, xs_m_ub, xs_c_ui, xs_c_ur, xs_c_uc, xs_c_un, xs_c_ub, x_up_s, x_up_k, x_up_o, x_fU_s, x_fU_o]) <;> first | rfl | omega | (refine (?_ : (_ : Bool) = true); with_unfolding_all rfl)) | fail) only [a1, a2, a3, b1, b2, b4, ↓p_xgi, ↓p_xgr, ↓p_xpi, ↓p_xpr, ↓p_xo, ↓p_xld, ↓p_xlb, ↓p_xlr, ↓p_xst, ↓p_xsb, ↓p_xsr, ↓p_xlen, ↓p_xnew, ↓p_xnwa, ↓p_xcln, ↓p_xcst, ↓p_xcall, ↓p_xcalc, ↓p_xnm, ↓p_xdv, ↓p_xrem, h_xgiE, h_xgrE, h_xpiE, h_xprE, h_xoE, h_xldE, h_xlbE, h_xlrE, h_xstE, h_xsbE, h_xsrE, h_xlenE, h_xnewE, h_xnwaE, h_xclnE, h_xcstE, h_xcallE, h_xcalcE, h_xnmE, h_xdvE, h_xremE, xs_k_ui, xs_k_ur, xs_k_uc, xs_k_un, xs_k_ub, xs_r_ui, xs_r_ur, xs_r_uc, xs_r_un, xs_r_ub, xs_t_ui, xs_t_ur, xs_t_uc, xs_t_un, xs_t_ub, xs_n_ui, xs_n_ur, xs_n_uc, xs_n_un, xs_n_ub, xs_m_ui, xs_m_ur, xs_m_uc, xs_m_un, xs_m_ub, xs_c_ui, xs_c_ur, xs_c_uc, xs_c_un, xs_c_ub, x_up_s, x_up_k, x_up_o, x_fU_s, x_fU_o, ↓reduceIte, h_ldE, h_stE, h_nmE, h_nSE, h_callE, h_callvE, h_dvE, h_remE, if_true, if_false, z_upS, z_upO, z_upK, nI_add, z_mul, z_sub, z_div, Nat.add_zero, Nat.mul_zero, Nat.zero_add, Nat.sub_zero, Nat.zero_mul, z_ltT, z_ltF, z_leT, z_leF, z_eqT, z_eqF, z_inT, z_clT, not_true_eq_false, not_false_eq_true, eq_self, true_or, or_true, z_m_lt, z_m_le, z_lt_m, z_le_m, z_eq_m, z_m_eq, z_rz0, z_rz1, z_m_add, z_of, ↓z_m1, l_0, l_1, l_2, l_3, l_4, l_5, l_6, l_7, l_8, l_9, l_10, l_11, l_12, l_13, l_14, l_15, l_16, l_17, l_18, l_19, l_20, l_21, l_22, l_23, l_24, l_25, l_26, l_27, l_28, l_29, l_30, l_31, l_32, l_33, l_34, l_35, l_36, l_37, l_38, l_39, l_40, l_41, l_42, l_43, l_44, l_45, l_46, l_47, l_48, l_49, l_50, l_51, l_52, l_53, l_54, l_55, l_56, l_57, l_59, l_60, l_61, l_62, l_63, l_64, l_65, l_80, l_86, l_87, l_88, l_89, l_90, l_91, l_92, l_93, l_94, l_95, l_97, l_99, l_100, l_107, l_119, l_122, l_124, l_129, l_140, l_141, l_142, l_143, l_144, l_145, l_147, l_150, l_159, l_160, l_161, l_162, l_205, l_253, l_255, l_256, l_269, l_305, l_380, l_399, l_400, l_420, l_430, l_516, l_600, l_720, l_820, l_905, l_921, l_937, l_953, l_970, l_999, l_1000, l_1790, l_4096, l_9999, l_1000000]
  refine ⟨w9, x_n w8, ?_, fun α K => ?_⟩
  · obtain ⟨a1, a2, a3, a4, a5⟩ := g1
    refine ⟨a1, by omega, by omega, a4, ?_⟩
    rw [z42, z41, z43, z34] at a5
    unfold y_wl
    simpa using a5
  · refine (e1 α _).trans ?_
    rw [e2, e3, e4]
    refine ((rd w4 c4.1 α _).1).trans ?_
    rw [e5, e6]
    refine ((rd w6 c6.1 α _).2).trans ?_
    rw [e7, e8, e9]
end LN
