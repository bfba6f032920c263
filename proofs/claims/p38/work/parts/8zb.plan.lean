/-! the plans' lines, built -/
section LP
variable {n : Nat} {u : x_U} {L : Nat} {xs : Nat → Int32}
theorem T_plan {D w K M q pl k c wd : Nat} {x1 : Nat} (hn : 5 ≤ n) (hW : y_WC L xs u) (hD : D < 1000) (hw : w ≤ 4) (hK : K < 100) (hM : M < 100) (h0 : 157 ≤ x_n u) (hb : x_n u + 30 ≤ 500000)
    (k1 : x_k u x1 = .inl 12) (r1 : x_r u x1 14 = pl) (k2 : x_k u pl = .inr (c, 3)) (hk : k < c) (hc : c < 100) (r2 : x_r u pl k = q) (k3 : x_k u q = .inr (4, 0)) (t1 : x_t u q 0 = nI D) (l1 : x1 < x_n u) (l2 : pl < x_n u) (l3 : q < x_n u)
    (kw : x_k u wd = .inr (5, 5)) (rw5 : ∀ i, i < 5 → x_r u wd i = x_CB + (35 + i)) (lw : wd < x_n u) : ∃ u' s, y_LS L xs u u' s (y_pl D w K M) 24 1300 ∧ ∀ (α : Type) (J : Nat → x_U → Option (α × x_U)), (x_new u 14 fun o128 s129 =>
          x_o s129 o128 14 <|
          x_call (F_J4_init_da8c8 n o128 s129) fun r131 s130 =>
          x_o s130 o128 14 <|
          x_call (F_J4_append_15ec4 n o128 (x_CB + 40) s130) fun o134 s133 =>
          x_gr s133 x1 12 14 fun o136 =>
          x_lr s133 o136 (nI k) fun o137 =>
          x_ld s133 o137 0 fun v138 =>
          x_o s133 o134 14 <|
          x_call (F_J4_append_bf812 n o134 v138 s133) fun o140 s139 =>
          x_lr s139 wd (nI w) fun o142 =>
          x_o s139 o140 14 <|
          x_call (F_J4_append_15ec4 n o140 o142 s139) fun o144 s143 =>
          x_nm (fun (y146 : Nat) (s147 : x_U) =>
            x_o s147 o144 14 <|
            x_call (F_J4_append_15ec4 n o144 y146 s147) fun o149 s148 =>
            x_nm (fun (y151 : Nat) (s152 : x_U) =>
              x_o s152 o149 14 <|
              x_call (F_J4_append_15ec4 n o149 y151 s152) fun o154 s153 =>
              x_o s153 o154 14 <|
              x_call (F_J4_append_15ec4 n o154 (x_CB + 34) s153) fun o157 s156 =>
              x_o s156 o157 14 <|
              x_call (F_J4_toString_0e30d n o157 s156) fun o160 s159 => J o160 s159) fun j650 =>
            x_nm (fun  (s165 : x_U) =>
              x_new s165 14 fun o166 s167 =>
              x_o s167 o166 14 <|
              x_call (F_J4_init_da8c8 n o166 s167) fun r169 s168 =>
              x_o s168 o166 14 <|
              x_call (F_J4_append_15ec4 n o166 (x_CB + 41) s168) fun o172 s171 =>
              x_o s171 o172 14 <|
              x_call (F_J4_append_bf812 n o172 (nI M) s171) fun o175 s174 =>
              x_o s174 o175 14 <|
              x_call (F_J4_toString_0e30d n o175 s174) fun o178 s177 =>
              j650 o178 s177) fun j625 =>
            if nI w = 0 then (
            j625 s148)
            else (
            if nI w = 2 then (
            j625 s148)
            else (
            j650 (x_CB + 33) s148))) fun j611 =>
          if nI w = 3 then (
          j611 (x_CB + 33) s143)
          else (
          x_new s143 14 fun o180 s181 =>
          x_o s181 o180 14 <|
          x_call (F_J4_init_da8c8 n o180 s181) fun r183 s182 =>
          x_o s182 o180 14 <|
          x_call (F_J4_append_15ec4 n o180 (x_CB + 33) s182) fun o186 s185 =>
          x_o s185 o186 14 <|
          x_call (F_J4_append_bf812 n o186 (nI K) s185) fun o189 s188 =>
          x_o s188 o189 14 <|
          x_call (F_J4_toString_0e30d n o189 s188) fun o192 s191 =>
          j611 o192 s191)) = J s u' := by
  have cv2 : x_CV = 1000001000 := rfl
  obtain ⟨dM1, dM2, dM3⟩ := y_dgl (a := D) (by omega)
  obtain ⟨dA1, dA2, dA3⟩ := y_dgl (a := K) (by omega)
  obtain ⟨dB1, dB2, dB3⟩ := y_dgl (a := M) (by omega)
  obtain ⟨z30, z31, z32, z33, z34, z35, z36, z37, z38, z39, z40, z41, z42, z43⟩ := zt_wE
  have rd : ∀ w' : x_U, x_fr (fun _ => False) u w' → ∀ (α : Type), (∀ K : Int32 → Option (α × x_U), (x_gr w' x1 12 14 fun o => x_lr w' o (nI k) fun o2 => x_ld w' o2 0 K) = K (nI D)) ∧ ∀ K : Nat → Option (α × x_U), x_lr w' wd (nI w) K = K (x_CB + (35 + w)) := fun w' f α => by
    have y1 := f.2.2.2.2 x1 (Or.inl l1) (fun h => h)
    have y2 := f.2.2.2.2 pl (Or.inl l2) (fun h => h)
    have y3 := f.2.2.2.2 q (Or.inl l3) (fun h => h)
    have y4 := f.2.2.2.2 wd (Or.inl lw) (fun h => h)
    have a1 : x_k w' x1 = .inl 12 := by rw [f.2.2.2.1 x1 (Or.inl l1)]; exact k1
    have a2 : x_k w' pl = .inr (c, 3) := by rw [f.2.2.2.1 pl (Or.inl l2)]; exact k2
    have a3 : x_k w' q = .inr (4, 0) := by rw [f.2.2.2.1 q (Or.inl l3)]; exact k3
    have a4 : x_k w' wd = .inr (5, 5) := by rw [f.2.2.2.1 wd (Or.inl lw)]; exact kw
    have b1 : x_r w' x1 14 = pl := by rw [y1.1]; exact r1
    have b2 : x_r w' pl k = q := by rw [y2.1]; exact r2
    have b3 : x_t w' q 0 = nI D := by rw [y3.2]; exact t1
    have b4 : x_r w' wd w = x_CB + (35 + w) := by rw [y4.1]; exact rw5 w (by omega)
    constructor
    · intro K
      simp (disch := first | omega | ((try simp (disch := omega) only [a1, a2, a3, b1, b2, b3, xs_k_ui, xs_k_ur, xs_k_uc, xs_k_un, xs_k_ub, xs_r_ui, xs_r_ur, xs_r_uc, xs_r_un, xs_r_ub, xs_t_ui, xs_t_ur, xs_t_uc, xs_t_un, xs_t_ub, xs_n_ui, xs_n_ur, xs_n_uc, xs_n_un, xs_n_ub, xs_m_ui, xs_m_ur, xs_m_uc, xs_m_un, xs_m_ub, xs_c_ui, xs_c_ur, xs_c_uc, xs_c_un, xs_c_ub, x_up_s, x_up_k, x_up_o, x_fU_s, x_fU_o]) <;> first | rfl | omega | (refine (?_ : (_ : Bool) = true); with_unfolding_all rfl)) | fail) only [a1, a2, a3, b1, b2, b3, ↓p_xgi, ↓p_xgr, ↓p_xpi, ↓p_xpr, ↓p_xo, ↓p_xld, ↓p_xlb, ↓p_xlr, ↓p_xst, ↓p_xsb, ↓p_xsr, ↓p_xlen, ↓p_xnew, ↓p_xnwa, ↓p_xcln, ↓p_xcst, ↓p_xcall, ↓p_xcalc, ↓p_xnm, ↓p_xdv, ↓p_xrem, h_xgiE, h_xgrE, h_xpiE, h_xprE, h_xoE, h_xldE, h_xlbE, h_xlrE, h_xstE, h_xsbE, h_xsrE, h_xlenE, h_xnewE, h_xnwaE, h_xclnE, h_xcstE, h_xcallE, h_xcalcE, h_xnmE, h_xdvE, h_xremE, xs_k_ui, xs_k_ur, xs_k_uc, xs_k_un, xs_k_ub, xs_r_ui, xs_r_ur, xs_r_uc, xs_r_un, xs_r_ub, xs_t_ui, xs_t_ur, xs_t_uc, xs_t_un, xs_t_ub, xs_n_ui, xs_n_ur, xs_n_uc, xs_n_un, xs_n_ub, xs_m_ui, xs_m_ur, xs_m_uc, xs_m_un, xs_m_ub, xs_c_ui, xs_c_ur, xs_c_uc, xs_c_un, xs_c_ub, x_up_s, x_up_k, x_up_o, x_fU_s, x_fU_o, ↓reduceIte, h_ldE, h_stE, h_nmE, h_nSE, h_callE, h_callvE, h_dvE, h_remE, if_true, if_false, z_upS, z_upO, z_upK, nI_add, z_mul, z_sub, z_div, Nat.add_zero, Nat.mul_zero, Nat.zero_add, Nat.sub_zero, Nat.zero_mul, z_ltT, z_ltF, z_leT, z_leF, z_eqT, z_eqF, z_inT, z_clT, not_true_eq_false, not_false_eq_true, eq_self, true_or, or_true, z_m_lt, z_m_le, z_lt_m, z_le_m, z_eq_m, z_m_eq, z_rz0, z_rz1, z_m_add, z_of, ↓z_m1, l_0, l_1, l_2, l_3, l_4, l_5, l_6, l_7, l_8, l_9, l_10, l_11, l_12, l_13, l_14, l_15, l_16, l_17, l_18, l_19, l_20, l_21, l_22, l_23, l_24, l_25, l_26, l_27, l_28, l_29, l_30, l_31, l_32, l_33, l_34, l_35, l_36, l_37, l_38, l_39, l_40, l_41, l_42, l_43, l_44, l_45, l_46, l_47, l_48, l_49, l_50, l_51, l_52, l_53, l_54, l_55, l_56, l_57, l_59, l_60, l_61, l_62, l_63, l_64, l_65, l_80, l_86, l_87, l_88, l_89, l_90, l_91, l_92, l_93, l_94, l_95, l_97, l_99, l_100, l_107, l_119, l_122, l_124, l_129, l_140, l_141, l_142, l_143, l_144, l_145, l_147, l_150, l_159, l_160, l_161, l_162, l_205, l_253, l_255, l_256, l_269, l_305, l_380, l_399, l_400, l_420, l_430, l_516, l_600, l_720, l_820, l_905, l_921, l_937, l_953, l_970, l_999, l_1000, l_1790, l_4096, l_9999, l_1000000]
    · intro K
      rw [p_xlr, h_xlrE a4 (by omega) (by omega) (by omega), b4]
  obtain ⟨w1, c1, n1, f1, e1⟩ := CH_new (n := n) (own := fun _ => False) h0 (by omega)
  have hW1 := hW.fr f1 (fun i h => h.elim)
  obtain ⟨w2, v2, c2, hW2, f2, q2, e2⟩ := c1.kc (n := n) 40 (M := 40) hW1 (by omega) (by rw [z40]; simp) (by omega) (by omega)
  obtain ⟨w3, v3, c3, hW3, f3, q3, e3⟩ := c2.kn (a := D) (M := 40) hn hW2 hD (by rw [z40]; simp) (by omega) (by omega)
  have hww : w = 3 ∨ w = 0 ∨ w = 2 ∨ w = 1 ∨ w = 4 := by omega
  rcases hww with rfl | rfl | rfl | rfl | rfl
  · obtain ⟨w4, v4, c4, hW4, f4, q4, e4⟩ := c3.kc (n := n) 38 (M := 40) hW3 (by omega) (by rw [z40, z38]; simp; omega) (by omega) (by omega)
    have hb4 := c4.bd
    have h14 := c4.2.1
    have h24 := c4.2.2.1
    have hu4 := c4.1.2.1
    obtain ⟨w5, v5, c5, hW5, f5, q5, e5⟩ := c4.kc (n := n) 33 (M := 40) hW4 (by omega) (by rw [z40, z38, z33]; simp; omega) (by omega) (by omega)
    obtain ⟨w6, v6, c6, hW6, f6, q6, e6⟩ := c5.kc (n := n) 33 (M := 40) hW5 (by omega) (by rw [z40, z38, z33]; simp; omega) (by omega) (by omega)
    obtain ⟨w7, v7, c7, hW7, f7, q7, e7⟩ := c6.kc (n := n) 34 (M := 40) hW6 (by omega) (by rw [z40, z38, z33, z34]; simp; omega) (by omega) (by omega)
    obtain ⟨w8, g1, g2, g3, e8⟩ := c7.kt (n := n) (M := 40) hW7 (by rw [z40, z38, z33, z34]; simp; omega) (by omega) (by omega)
    refine ⟨w8, x_n w7, ?_, fun α J => ?_⟩
    · obtain ⟨a1, a2, a3, a4, a5⟩ := g1
      refine ⟨a1, by omega, by omega, a4, ?_⟩
      rw [z40, z38, z33, z34] at a5
      have e : y_pl D 3 K M = _ := rfl
      unfold y_pl y_pw
      simpa using a5
    · refine (e1 α _).trans ?_
      rw [e2]
      refine ((rd w2 c2.1 α).1 _).trans ?_
      rw [e3]
      refine ((rd w3 c3.1 α).2 _).trans ?_
      refine (e4 α _).trans ?_
      rw [x_nmE, if_pos (by decide)]
      refine (e5 α _).trans ?_
      rw [x_nmE, x_nmE, if_neg (by decide), if_neg (by decide)]
      refine (e6 α _).trans ?_
      rw [e7, e8]
  · obtain ⟨w4, v4, c4, hW4, f4, q4, e4⟩ := c3.kc (n := n) 35 (M := 40) hW3 (by omega) (by rw [z40, z35]; simp; omega) (by omega) (by omega)
    have hb4 := c4.bd
    have h14 := c4.2.1
    have h24 := c4.2.2.1
    have hu4 := c4.1.2.1
    obtain ⟨w5, s5, d5, e5⟩ := T_sub (n := n) (i := 33) (a := K) hn hW4 (by omega) (by rw [z33]; simp) (by omega) (by omega) (by omega)
    obtain ⟨fs, ns, ms, hWs, svs, gs, ls⟩ := d5
    have c4x := c4.extF fs ns ms (by omega)
    obtain ⟨w6, v6, c6, hW6, f6, q6, e6⟩ := c4x.ks (n := n) (M := 40) hWs gs (by omega) (by rw [z40, z35, z33]; simp; omega) (by omega) (by omega)
    have hb6 := c6.bd
    have h16 := c6.2.1
    have h26 := c6.2.2.1
    have hu6 := c6.1.2.1
    obtain ⟨w7, s7, d7, e7⟩ := T_sub (n := n) (i := 41) (a := M) hn hW6 (by omega) (by rw [z41]; simp) (by omega) (by omega) (by omega)
    obtain ⟨ft, nt, mt, hWt, svt, gt, lt⟩ := d7
    have c6x := c6.extF ft nt mt (by omega)
    obtain ⟨w8, v8, c8, hW8, f8, q8, e8⟩ := c6x.ks (n := n) (M := 40) hWt gt (by omega) (by rw [z40, z35, z33, z41]; simp; omega) (by omega) (by omega)
    obtain ⟨w9, v9, c9, hW9, f9, q9, e9⟩ := c8.kc (n := n) 34 (M := 40) hW8 (by omega) (by rw [z40, z35, z33, z41, z34]; simp; omega) (by omega) (by omega)
    obtain ⟨w10, g1, g2, g3, e10⟩ := c9.kt (n := n) (M := 40) hW9 (by rw [z40, z35, z33, z41, z34]; simp; omega) (by omega) (by omega)
    refine ⟨w10, x_n w9, ?_, fun α J => ?_⟩
    · obtain ⟨a1, a2, a3, a4, a5⟩ := g1
      refine ⟨a1, by omega, by omega, a4, ?_⟩
      rw [z40, z35, z33, z41, z34] at a5
      unfold y_pl y_pw
      simpa using a5
    · refine (e1 α _).trans ?_
      rw [e2]
      refine ((rd w2 c2.1 α).1 _).trans ?_
      rw [e3]
      refine ((rd w3 c3.1 α).2 _).trans ?_
      refine (e4 α _).trans ?_
      rw [x_nmE, if_neg (by decide)]
      refine (e5 α _).trans ?_
      refine (e6 α _).trans ?_
      rw [x_nmE, x_nmE, if_pos (by decide)]
      refine (e7 α _).trans ?_
      refine (e8 α _).trans ?_
      rw [e9, e10]
  · obtain ⟨w4, v4, c4, hW4, f4, q4, e4⟩ := c3.kc (n := n) 37 (M := 40) hW3 (by omega) (by rw [z40, z37]; simp; omega) (by omega) (by omega)
    have hb4 := c4.bd
    have h14 := c4.2.1
    have h24 := c4.2.2.1
    have hu4 := c4.1.2.1
    obtain ⟨w5, s5, d5, e5⟩ := T_sub (n := n) (i := 33) (a := K) hn hW4 (by omega) (by rw [z33]; simp) (by omega) (by omega) (by omega)
    obtain ⟨fs, ns, ms, hWs, svs, gs, ls⟩ := d5
    have c4x := c4.extF fs ns ms (by omega)
    obtain ⟨w6, v6, c6, hW6, f6, q6, e6⟩ := c4x.ks (n := n) (M := 40) hWs gs (by omega) (by rw [z40, z37, z33]; simp; omega) (by omega) (by omega)
    have hb6 := c6.bd
    have h16 := c6.2.1
    have h26 := c6.2.2.1
    have hu6 := c6.1.2.1
    obtain ⟨w7, s7, d7, e7⟩ := T_sub (n := n) (i := 41) (a := M) hn hW6 (by omega) (by rw [z41]; simp) (by omega) (by omega) (by omega)
    obtain ⟨ft, nt, mt, hWt, svt, gt, lt⟩ := d7
    have c6x := c6.extF ft nt mt (by omega)
    obtain ⟨w8, v8, c8, hW8, f8, q8, e8⟩ := c6x.ks (n := n) (M := 40) hWt gt (by omega) (by rw [z40, z37, z33, z41]; simp; omega) (by omega) (by omega)
    obtain ⟨w9, v9, c9, hW9, f9, q9, e9⟩ := c8.kc (n := n) 34 (M := 40) hW8 (by omega) (by rw [z40, z37, z33, z41, z34]; simp; omega) (by omega) (by omega)
    obtain ⟨w10, g1, g2, g3, e10⟩ := c9.kt (n := n) (M := 40) hW9 (by rw [z40, z37, z33, z41, z34]; simp; omega) (by omega) (by omega)
    refine ⟨w10, x_n w9, ?_, fun α J => ?_⟩
    · obtain ⟨a1, a2, a3, a4, a5⟩ := g1
      refine ⟨a1, by omega, by omega, a4, ?_⟩
      rw [z40, z37, z33, z41, z34] at a5
      unfold y_pl y_pw
      simpa using a5
    · refine (e1 α _).trans ?_
      rw [e2]
      refine ((rd w2 c2.1 α).1 _).trans ?_
      rw [e3]
      refine ((rd w3 c3.1 α).2 _).trans ?_
      refine (e4 α _).trans ?_
      rw [x_nmE, if_neg (by decide)]
      refine (e5 α _).trans ?_
      refine (e6 α _).trans ?_
      rw [x_nmE, x_nmE, if_neg (by decide), if_pos (by decide)]
      refine (e7 α _).trans ?_
      refine (e8 α _).trans ?_
      rw [e9, e10]
  · obtain ⟨w4, v4, c4, hW4, f4, q4, e4⟩ := c3.kc (n := n) 36 (M := 40) hW3 (by omega) (by rw [z40, z36]; simp; omega) (by omega) (by omega)
    have hb4 := c4.bd
    have h14 := c4.2.1
    have h24 := c4.2.2.1
    have hu4 := c4.1.2.1
    obtain ⟨w5, s5, d5, e5⟩ := T_sub (n := n) (i := 33) (a := K) hn hW4 (by omega) (by rw [z33]; simp) (by omega) (by omega) (by omega)
    obtain ⟨fs, ns, ms, hWs, svs, gs, ls⟩ := d5
    have c4x := c4.extF fs ns ms (by omega)
    obtain ⟨w6, v6, c6, hW6, f6, q6, e6⟩ := c4x.ks (n := n) (M := 40) hWs gs (by omega) (by rw [z40, z36, z33]; simp; omega) (by omega) (by omega)
    obtain ⟨w7, v7, c7, hW7, f7, q7, e7⟩ := c6.kc (n := n) 33 (M := 40) hW6 (by omega) (by rw [z40, z36, z33]; simp; omega) (by omega) (by omega)
    obtain ⟨w8, v8, c8, hW8, f8, q8, e8⟩ := c7.kc (n := n) 34 (M := 40) hW7 (by omega) (by rw [z40, z36, z33, z34]; simp; omega) (by omega) (by omega)
    obtain ⟨w9, g1, g2, g3, e9⟩ := c8.kt (n := n) (M := 40) hW8 (by rw [z40, z36, z33, z34]; simp; omega) (by omega) (by omega)
    refine ⟨w9, x_n w8, ?_, fun α J => ?_⟩
    · obtain ⟨a1, a2, a3, a4, a5⟩ := g1
      refine ⟨a1, by omega, by omega, a4, ?_⟩
      rw [z40, z36, z33, z34] at a5
      unfold y_pl y_pw
      simpa using a5
    · refine (e1 α _).trans ?_
      rw [e2]
      refine ((rd w2 c2.1 α).1 _).trans ?_
      rw [e3]
      refine ((rd w3 c3.1 α).2 _).trans ?_
      refine (e4 α _).trans ?_
      rw [x_nmE, if_neg (by decide)]
      refine (e5 α _).trans ?_
      refine (e6 α _).trans ?_
      rw [x_nmE, x_nmE, if_neg (by decide), if_neg (by decide)]
      refine (e7 α _).trans ?_
      rw [e8, e9]
  · obtain ⟨w4, v4, c4, hW4, f4, q4, e4⟩ := c3.kc (n := n) 39 (M := 40) hW3 (by omega) (by rw [z40, z39]; simp; omega) (by omega) (by omega)
    have hb4 := c4.bd
    have h14 := c4.2.1
    have h24 := c4.2.2.1
    have hu4 := c4.1.2.1
    obtain ⟨w5, s5, d5, e5⟩ := T_sub (n := n) (i := 33) (a := K) hn hW4 (by omega) (by rw [z33]; simp) (by omega) (by omega) (by omega)
    obtain ⟨fs, ns, ms, hWs, svs, gs, ls⟩ := d5
    have c4x := c4.extF fs ns ms (by omega)
    obtain ⟨w6, v6, c6, hW6, f6, q6, e6⟩ := c4x.ks (n := n) (M := 40) hWs gs (by omega) (by rw [z40, z39, z33]; simp; omega) (by omega) (by omega)
    obtain ⟨w7, v7, c7, hW7, f7, q7, e7⟩ := c6.kc (n := n) 33 (M := 40) hW6 (by omega) (by rw [z40, z39, z33]; simp; omega) (by omega) (by omega)
    obtain ⟨w8, v8, c8, hW8, f8, q8, e8⟩ := c7.kc (n := n) 34 (M := 40) hW7 (by omega) (by rw [z40, z39, z33, z34]; simp; omega) (by omega) (by omega)
    obtain ⟨w9, g1, g2, g3, e9⟩ := c8.kt (n := n) (M := 40) hW8 (by rw [z40, z39, z33, z34]; simp; omega) (by omega) (by omega)
    refine ⟨w9, x_n w8, ?_, fun α J => ?_⟩
    · obtain ⟨a1, a2, a3, a4, a5⟩ := g1
      refine ⟨a1, by omega, by omega, a4, ?_⟩
      rw [z40, z39, z33, z34] at a5
      unfold y_pl y_pw
      simpa using a5
    · refine (e1 α _).trans ?_
      rw [e2]
      refine ((rd w2 c2.1 α).1 _).trans ?_
      rw [e3]
      refine ((rd w3 c3.1 α).2 _).trans ?_
      refine (e4 α _).trans ?_
      rw [x_nmE, if_neg (by decide)]
      refine (e5 α _).trans ?_
      refine (e6 α _).trans ?_
      rw [x_nmE, x_nmE, if_neg (by decide), if_neg (by decide)]
      refine (e7 α _).trans ?_
      rw [e8, e9]
end LP
