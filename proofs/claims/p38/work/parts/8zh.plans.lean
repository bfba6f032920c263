/-! plans and paths told: the loops -/
section PL
variable {n p b L pl pa mu me Lx : Nat} {xs : Nat → Int32} {d : Nat → Nat} {Fz : Nat → Prop}
theorem T_pw2 {x : Int32} {k : Nat} {w : x_U} (k1 : x_k w p = .inl 12) (t7 : x_t w p 7 = nI mu) (hmu : mu ≤ 12) (hme : me ≤ 5) (J : Int32 → x_U → Option (Int32 × x_U)) : (x_nm J fun j428 =>
    x_nm (fun  (s203 : x_U) =>
      j428 3 s203) fun j425 =>
    x_nm (fun  (s204 : x_U) =>
      x_gi s204 p 12 7 fun v205 =>
      if v205 = 0 then (
      x_rem (nI (y_pW0 x k)) 2 fun v206 =>
      if v206 = 0 then (
      if nI (y_pW0 x k) < 3 then (
      j425 s204)
      else (
      j428 (nI (y_pW0 x k)) s204))
      else (
      j428 (nI (y_pW0 x k)) s204))
      else (
      j428 (nI (y_pW0 x k)) s204)) fun j405 =>
    if nI me = 0 then (
    if nI (y_pW0 x k) < 3 then (
    j425 w)
    else (
    j405 w))
    else (
    j405 w)) = J (nI (y_pW x mu me k)) w := T_pw k1 t7 hmu hme J
def y_WD (U0 w : x_U) (wd : Nat) : Prop := x_k w wd = .inr (5, 5) ∧ (∀ i, i < 5 → x_r w wd i = x_CB + (35 + i)) ∧ x_n U0 ≤ wd ∧ wd < x_n w
theorem y_WD.fr {U0 w w' : x_U} {own : Nat → Prop} {wd : Nat} (h : y_WD U0 w wd) (f : x_fr own w w') (h1 : ¬ own wd) : y_WD U0 w' wd := by
  obtain ⟨a1, a2, a3, a4⟩ := h
  have e := f.2.2.2.2 wd (Or.inl a4) h1
  have hf := f.2.1
  exact ⟨by rw [f.2.2.2.1 wd (Or.inl a4)]; exact a1, by rw [e.1]; exact a2, a3, by omega⟩
set_option maxHeartbeats 4000000 in
theorem T_360 {x : Int32} {N D om wd : Nat} {U0 : x_U} {V : Nat → Int32} (hn : 5 ≤ n) (hN : N ≤ 12) (hD : D ≤ 900) (hFz : ∀ i, Fz i → i < x_n U0) (hbU : b + mu + me ≤ x_n U0) (hV0 : V 0 = nI D) : ∀ j k w vm lm dn dm, k ≤ N → N < j + k → y_CH (x_own p b mu me) U0 w om vm lm dn dm → y_WC Lx xs w → x_TB w Fz p b L pl pa mu me d V → y_RW U0 w pl N k 4 (y_rP x D mu me) → y_WD U0 w wd → x_n U0 + (dn + 30 * (N - k)) + 40 ≤ 500000 → lm.length ≤ 30 * k →
    ∃ w' vm', y_CH (x_own p b mu me) U0 w' om vm' (lm ++ y_cat (y_fP x D mu me) (N - k) k) (dn + 30 * (N - k)) (dm + 2300 * (N - k)) ∧ y_WC Lx xs w' ∧ x_TB w' Fz p b L pl pa mu me d V ∧ y_RW U0 w' pl N N 4 (y_rP x D mu me) ∧ ∀ K : x_U → Option (Int32 × x_U), F_L_texts_L360 n p x (nI N) om wd K j (nI k) w = K w' := by
  intro j
  induction j with
  | zero => intro k w vm lm dn dm h1 h2; omega
  | succ j ih =>
    intro k w vm lm dn dm h1 h2 hC hW hT hR hWD hb hl
    by_cases hk : k = N
    · subst hk
      refine ⟨w, vm, ?_, hW, hT, hR, fun K => ?_⟩
      · rw [Nat.sub_self]
        show y_CH _ U0 w om vm (lm ++ []) (dn + 0) (dm + 0)
        rw [List.append_nil]
        exact hC
      · rw [F_L_texts_L360]
        simp (disch := first | omega | ((try simp (disch := omega) only [xs_k_ui, xs_k_ur, xs_k_uc, xs_k_un, xs_k_ub, xs_r_ui, xs_r_ur, xs_r_uc, xs_r_un, xs_r_ub, xs_t_ui, xs_t_ur, xs_t_uc, xs_t_un, xs_t_ub, xs_n_ui, xs_n_ur, xs_n_uc, xs_n_un, xs_n_ub, xs_m_ui, xs_m_ur, xs_m_uc, xs_m_un, xs_m_ub, xs_c_ui, xs_c_ur, xs_c_uc, xs_c_un, xs_c_ub, x_up_s, x_up_k, x_up_o, x_fU_s, x_fU_o]) <;> first | rfl | omega | (refine (?_ : (_ : Bool) = true); with_unfolding_all rfl)) | fail) only [↓p_xgi, ↓p_xgr, ↓p_xpi, ↓p_xpr, ↓p_xo, ↓p_xld, ↓p_xlb, ↓p_xlr, ↓p_xst, ↓p_xsb, ↓p_xsr, ↓p_xlen, ↓p_xnew, ↓p_xnwa, ↓p_xcln, ↓p_xcst, ↓p_xcall, ↓p_xcalc, ↓p_xnm, ↓p_xdv, ↓p_xrem, h_xgiE, h_xgrE, h_xpiE, h_xprE, h_xoE, h_xldE, h_xlbE, h_xlrE, h_xstE, h_xsbE, h_xsrE, h_xlenE, h_xnewE, h_xnwaE, h_xclnE, h_xcstE, h_xcallE, h_xcalcE, h_xnmE, h_xdvE, h_xremE, xs_k_ui, xs_k_ur, xs_k_uc, xs_k_un, xs_k_ub, xs_r_ui, xs_r_ur, xs_r_uc, xs_r_un, xs_r_ub, xs_t_ui, xs_t_ur, xs_t_uc, xs_t_un, xs_t_ub, xs_n_ui, xs_n_ur, xs_n_uc, xs_n_un, xs_n_ub, xs_m_ui, xs_m_ur, xs_m_uc, xs_m_un, xs_m_ub, xs_c_ui, xs_c_ur, xs_c_uc, xs_c_un, xs_c_ub, x_up_s, x_up_k, x_up_o, x_fU_s, x_fU_o, ↓reduceIte, h_ldE, h_stE, h_nmE, h_nSE, h_callE, h_callvE, h_dvE, h_remE, if_true, if_false, z_upS, z_upO, z_upK, nI_add, z_mul, z_sub, z_div, Nat.add_zero, Nat.mul_zero, Nat.zero_add, Nat.sub_zero, Nat.zero_mul, z_ltT, z_ltF, z_leT, z_leF, z_eqT, z_eqF, z_inT, z_clT, not_true_eq_false, not_false_eq_true, eq_self, true_or, or_true, z_m_lt, z_m_le, z_lt_m, z_le_m, z_eq_m, z_m_eq, z_rz0, z_rz1, z_m_add, z_of, ↓z_m1, l_0, l_1, l_2, l_3, l_4, l_5, l_6, l_7, l_8, l_9, l_10, l_11, l_12, l_13, l_14, l_15, l_16, l_17, l_18, l_19, l_20, l_21, l_22, l_23, l_24, l_25, l_26, l_27, l_28, l_29, l_30, l_31, l_32, l_33, l_34, l_35, l_36, l_37, l_38, l_39, l_40, l_41, l_42, l_43, l_44, l_45, l_46, l_47, l_48, l_49, l_50, l_51, l_52, l_53, l_54, l_55, l_56, l_57, l_59, l_60, l_61, l_62, l_63, l_64, l_65, l_80, l_86, l_87, l_88, l_89, l_90, l_91, l_92, l_93, l_94, l_95, l_97, l_99, l_100, l_107, l_119, l_122, l_124, l_129, l_140, l_141, l_142, l_143, l_144, l_145, l_147, l_150, l_159, l_160, l_161, l_162, l_205, l_253, l_255, l_256, l_269, l_305, l_380, l_399, l_400, l_420, l_430, l_516, l_600, l_720, l_820, l_905, l_921, l_937, l_953, l_970, l_999, l_1000, l_1790, l_4096, l_9999, l_1000000]
    · have hlt : k < N := by omega
      have hbd := hT.bd
      have hCb := hC.bd
      obtain ⟨ko, cap, kv⟩ := hC.vk
      have hC1 := hC.2.1
      have hC2 := hC.2.2.1
      have hC3 := hC.2.2.2.1
      have hC4 := hC.2.2.2.2.1
      have hC0 := hC.1.2.1
      have hown : ∀ i, x_own p b mu me i → i < x_n U0 := fun i hi => by unfold x_own at hi; omega
      obtain ⟨b1, b2, b3, b4, b5, b6, b7, b8, b9⟩ := y_p_b (x := x) (D := D) (k := k) hbd.2.2.2.2.1 hbd.2.2.2.2.2 hD
      obtain ⟨⟨k1, k2, k3, k4, k5, k6⟩, r⟩ := hT.1.2
      obtain ⟨t0, tr⟩ := hT.2.1
      have hTI := hT.2.1
      have t7 : x_t w p 7 = nI mu := hTI.1.2.2.2.2.2.2.2.1
      have t8 : x_t w p 8 = nI me := hTI.1.2.2.2.2.2.2.2.2.1
      have t1 : x_t w p 1 = nI D := hTI.1.2.1.trans hV0
      have r5 : x_r w p 14 = pl := r.2.2.2.2.1
      have a1 := hR.1
      have hpp : p ≠ pl := by omega
      obtain ⟨w1, f1, n1, m1, hR1, rq, eR⟩ := T_prow (n := n) (x := x) (p := p) (pl := pl) (row := y_rP x D mu me) (W := y_pW x mu me k) (K := y_pK x mu me k) (M := y_pM x mu me k) k1 r5 t1 hD hR hlt (by omega) hC0 (by omega) b2 b6 b7 hpp rfl
      have npo : ¬ om = pl := fun q => by rw [q, a1.1] at ko; cases ko
      have npv : ¬ vm = pl := fun q => by rw [q, a1.1] at kv; cases kv
      have nwd : ¬ wd = pl := fun q => by
        have := hWD.1
        rw [q, a1.1] at this
        cases this
      have c1 := hC.ext2 (a := 1) (b := 4) f1 (by omega) (by omega) (by omega) npo npv (fun i hi => by
        have hi : i = pl := hi
        exact Or.inr (by omega))
      have hW1 := hW.fr f1 (fun i hi => by have hi : i = pl := hi; omega)
      have hT1 := hT.fr f1 (by omega) (fun i hi h => by
        have h : i = pl := h
        have := hown i hi
        omega) (fun i hi h => by
        have h : i = pl := h
        have := hFz i hi
        omega)
      have hD1 := hWD.fr f1 nwd
      have hl1 := (hR1.2 k (by omega))
      rw [rq] at hl1
      have kk1 : x_k w1 p = .inl 12 := hT1.1.2.1.1
      have rr1 : x_r w1 p 14 = pl := hT1.1.2.2.2.2.2.2.1
      obtain ⟨w2, s, ⟨fs, ns, ms, hWs, sv, gs, ls⟩, eL⟩ := T_plan (n := n) (D := y_pD x D k) (w := y_pW x mu me k) (K := y_pK x mu me k) (M := y_pM x mu me k) (wd := wd) (x1 := p) hn hW1 (by omega) b2 b6 b7 (by omega) (by omega) kk1 rr1 hR1.1.1 hlt hR1.1.2.2.2 rq hl1.2.1 (hl1.2.2 0 (by omega)) (by omega) (by omega) (by omega) hD1.1 hD1.2.1 hD1.2.2.2
      have c2 := c1.ext (fs.mono (fun i hi => hi.elim)) ns ms (by omega) hown
      have hlen := y_pl_len (D := y_pD x D k) (w := y_pW x mu me k) (K := y_pK x mu me k) (M := y_pM x mu me k) (by omega) (by omega) (by omega)
      have c1b := c1.bd
      obtain ⟨w3, vm3, c3, hW3, f3, q3, e3⟩ := c2.ks (n := n) (M := 400) hWs gs (by omega) (by omega) (by omega) (by omega)
      obtain ⟨ko2, cap2, kv2⟩ := c2.vk
      have hT2 := hT1.fr fs (by omega) (fun _ _ h => h) (fun _ _ h => h)
      have hT3 := hT2.fr f3 c3.bd.2.2.1 (fun i hi h => by have := hown i hi; rcases h with q | q <;> omega) (fun i hi h => by have := hFz i hi; rcases h with q | q <;> omega)
      have hR2 := hR1.fr fs (fun h => h) (fun _ _ h => h)
      have hR3 := hR2.frB f3 ko2 kv2
      have hD2 := hD1.fr fs (fun h => h)
      have hD3 := hD2.fr f3 (fun q => by
        have a := hD2.1
        rcases q with q | q
        · rw [q, ko2] at a; cases a
        · rw [q, kv2] at a; cases a)
      obtain ⟨w', vm', g1, g2, g3, g4, g5⟩ := ih (k+1) w3 vm3 _ _ _ (by omega) (by omega) c3 hW3 hT3 hR3 hD3 (by omega) (by rw [List.length_append]; omega)
      refine ⟨w', vm', ?_, g2, g3, g4, fun K => ?_⟩
      · have e1 : N - k = (N - (k+1)) + 1 := by omega
        have e4 : lm ++ y_pl (y_pD x D k) (y_pW x mu me k) (y_pK x mu me k) (y_pM x mu me k) ++ y_cat (y_fP x D mu me) (N - (k+1)) (k+1) = lm ++ y_cat (y_fP x D mu me) (N - k) k := by
          rw [e1, y_cat_s, List.append_assoc]
          rfl
        rw [e4] at g1
        obtain ⟨z1, z2, z3, z4⟩ := g1
        exact ⟨z1, by omega, by omega, z4⟩
      · have eB : F_L_between n (((x * (nI k + 5)) + (283 * nI k)) >>> (3 &&& 31)) 0 4 w = some (nI (y_pW0 x k), w) := F_btw (v := y_ph x k >>> (3 &&& 31)) (lo := 0) (hi := 4) (by omega) (by omega)
        rw [← g5 K, F_L_texts_L360, if_pos ((nI_ltI (by omega) (by omega)).mpr hlt), x_nmE, eB, z_xcall, p_xgi, h_xgiE k1, t8]
        refine (T_pw2 k1 t7 hbd.2.2.2.2.1 hbd.2.2.2.2.2 _).trans ?_
        refine (T_pk k1 t7 t8 hbd.2.2.2.2.1 hbd.2.2.2.2.2 _).trans ?_
        refine (eR _).trans ?_
        refine (eL _ _).trans ?_
        refine (e3 _ _).trans ?_
        rw [show (1 : Int32) = nI 1 from rfl, nI_add]
/-- PATHS -/
def y_wh (x : Int32) (k : Nat) : Int32 := (x * (nI k + 7)) + (293 * nI k)
def y_wA (x : Int32) (k : Nat) : Nat := y_bt (y_wh x k) 0 5
def y_wB (x : Int32) (k : Nat) : Nat := (y_wA x k + y_bt (y_wh x k >>> (4 &&& 31)) 1 5) % 6
def y_wH (x : Int32) (k : Nat) : Nat := y_bt (y_wh x k >>> (5 &&& 31)) 1 24
def y_fW (x : Int32) (k : Nat) : List Nat := y_wl (y_wA x k) (y_wB x k) (y_wH x k)
def y_rW (x : Int32) (k : Nat) : Nat → Int32 := y_r4 (nI (y_wA x k)) (nI (y_wB x k)) (nI (y_wH x k)) (nI 0)
theorem y_w_b {x : Int32} {k : Nat} : y_wA x k ≤ 5 ∧ y_wB x k ≤ 5 ∧ y_wA x k ≠ y_wB x k ∧ 1 ≤ y_wH x k ∧ y_wH x k ≤ 24 := by
  have b1 := y_bt_b (v := y_wh x k) (lo := 0) (hi := 5) (by omega)
  have b2 := y_bt_b (v := y_wh x k >>> (4 &&& 31)) (lo := 1) (hi := 5) (by omega)
  have b3 := y_bt_b (v := y_wh x k >>> (5 &&& 31)) (lo := 1) (hi := 24) (by omega)
  have hA : y_wA x k ≤ 5 := b1.2
  have := y_modne (mu := 6) (M := y_wA x k) (r := y_bt (y_wh x k >>> (4 &&& 31)) 1 5) (by omega) b2.1 (by omega)
  exact ⟨hA, by unfold y_wB; omega, fun h => this.2 h.symm, b3.1, b3.2⟩
theorem y_wl_len {A B H : Nat} (hD : A < 1000) (hK : B < 1000) (hM : H < 1000) : (y_wl A B H).length ≤ 30 := by
  obtain ⟨m1, -⟩ := y_dgl hD
  obtain ⟨a1, -⟩ := y_dgl hK
  obtain ⟨b1, -⟩ := y_dgl hM
  unfold y_wl
  simp only [List.length_append, List.length_cons, List.length_nil]
  omega
end PL
