/-! going, plans -/
section PL
variable {p b L pl pa : Nat} {d : Nat → Nat}
theorem q_travel {n mu me w0 h c : Nat} {P V : Nat → Int32} {σc : q_Sto} (hn : 402 ≤ n) (hc : z_X mu me true w0 P σc V) (hK : y_LK L d V) (hcp : c < 10) (hp : z_path V (V 1) (nI c) = nI h) (hh : h ≤ 24) (hdr : ∃ k, k < me ∧ V 2 = nI k) :
    ∃ W r, z_PC mu me true w0 P V W (f_X10_travel n 1 (nI c) (nI h) (nI 1)) (nI r) ∧ z_sam V W ∧ r ≤ 12 ∧ x_PF p b L pl pa mu me d 13 52 V W (F_X12_goes n p (nI c) (nI 1)) (nI r) := by
  have hmu := hc.1.1.1
  have hme := hc.1.1.2.1
  have h6 := hc.h6
  have e9 : z_le (nI c) 9 := ⟨c, by omega, rfl⟩
  have hX1 : ∀ σ, z_X mu me true w0 P σ V → z_X mu me true w0 P (q_up σ 2 15 (V 4 + nI h)) (z_u V 4 (V 4 + nI h)) := fun σ h => h.sc (Or.inr (Or.inr (Or.inr (Or.inl ⟨rfl, rfl⟩))))
  have h6' : z_le (z_u V 4 (V 4 + nI h) 6) 150 := by rw [z_uK (by omega)]; exact h6
  have hsm : z_sam V (z_note true (z_u V 4 (V 4 + nI h)) (nI 4) (nI c) (nI h)) := (z_sam.u (by omega)).trans (z_note_sam h6')
  obtain ⟨σd, -, hd2, -⟩ := c_write (n := n) (a := nI 4) (b := nI c) (c := nI h) (hX1 σc hc)
  obtain ⟨W, r, w1, w2, w5, ⟨σe, w3⟩, w4, w6⟩ := q_trav_L (p := p) (b := b) (L := L) (pl := pl) (pa := pa) (d := d) (n := n) (h := h) (cc := nI c) (x1 := nI c) (K1 := fun (y20 : Int32) (s21 : q_Sto) =>
  q_nS1 (q_up s21 (q_RF 1 0) 12 (nI c)) fun s22 =>
  some (y20, s22)) (K2 := fun (y32 : Int32) (s33 : x_U) =>
  x_pi s33 p 12 2 (nI c) fun s34 =>
  some (y32, s34)) hn hh mu 0 0 _ σd (by omega) hd2 (hK.sam hsm)
  refine ⟨z_u W 1 (nI c), r, fun σ hx => ?_, hsm.trans (w5.trans (z_sam.u (by omega))), by omega, fun u Fz hT hn5 => ?_⟩
  · have g15 : σ 2 15 = V 4 := hx.1.2.1.1.2.2.2.2.2.2.2.1
    obtain ⟨σ1, f1, f2, f3⟩ := c_write (n := n) (a := nI 4) (b := nI c) (c := nI h) (hX1 σ hx)
    obtain ⟨σ2, k1, k2, k3⟩ := w1 n (by omega) σ1 f2
    refine ⟨q_up σ2 2 12 (nI c), z_fX.trans (fun o ho => z_upO (by omega)) (f1.trans (k1.trans (fun o ho => z_upO (by omega)))), k2.sc (Or.inr (Or.inl ⟨rfl, rfl, e9⟩)), ?_⟩
    have e1 : f_X10_travel n 1 (nI c) (nI h) (nI 1) σ = f_X10_travel_L26 n 1 (nI c) (nI h) (nI 1) (fun (y20 : Int32) (s21 : q_Sto) =>
  q_nS1 (q_up s21 (q_RF 1 0) 12 (nI c)) fun s22 =>
  some (y20, s22)) n 0 0 σ1 := by
      unfold f_X10_travel
      rw [r_1_0, g15]
      show q_callv (f_X10_write n 1 4 (nI c) (nI h) (q_up σ 2 15 (V 4 + nI h))) _ = _
      rw [l_4, f3, z_callv]
    rw [e1]
    have k3 : f_X10_travel_L26 n 1 (nI c) (nI h) (nI 1) _ n 0 0 σ1 = _ := k3
    rw [k3]
    rfl
  · have hb := hT.bd
    have hT1 := hT.sc (f := 5) (a := 4) (x := V 4 + nI h) (Or.inr (Or.inr (Or.inr (Or.inr (Or.inr (Or.inl ⟨rfl, rfl⟩))))))
    have en : x_n (x_ui u p 5 (V 4 + nI h)) = x_n u := rfl
    obtain ⟨u1, Fz1, f1, f2, f3⟩ := F_notes (n := n) (x := nI 4) (y := nI c) (z := nI h) hT1 (by omega)
    obtain ⟨u2, Fz2, k1', k2', k3'⟩ := w2 n (by omega) u1 Fz1 f2 (by have := f1.2.1; omega)
    have hT3 := k2'.sc (f := 2) (a := 1) (x := nI c) (Or.inr (Or.inr (Or.inl ⟨rfl, rfl⟩)))
    have hso : x_own p b mu me p := by unfold x_own; omega
    refine ⟨x_ui u2 p 2 (nI c), Fz2, (x_sp.ui (dn := 0) (dm := 0) hso).tr (f1.tr (k1'.tr (x_sp.ui (dn := 0) (dm := 0) hso) (Nat.le_refl _) (Nat.le_refl _)) (Nat.le_refl _) (Nat.le_refl _)) (by omega) (by omega), hT3, ?_⟩
    have epp := F_path (n := n) (x := V 1) (y := nI c) (by omega) hT.V hT.2.2.2.2.2.2.1
    rw [hp] at epp
    have k3' : F_X12_goes_L47 n p (nI c) (nI 1) (nI h) _ n (nI 0) (nI 0) u1 = _ := k3'
    have hk2 := k2'.1.2.1.1
    obtain ⟨kd, hkd, hd⟩ := hdr
    obtain ⟨⟨⟨a1, a2, a3, a4, a5, a6⟩, ⟨k1, k2, k3, k4, k5, k6⟩, ⟨r1, r2, r3, r4, r5, r6, r7, r8⟩⟩, ⟨t0, t1, t2, t3, t4, t5, t6, t7, t8, t9, ta⟩, tm, tk⟩ := hT.V
    rw [hd] at t3
    have hc9 : p < 1000000000 := by omega
    have e1 : ∀ (v : x_U) (j : Nat) (y : Int32) (k : x_U → Option (Int32 × x_U)), x_k v p = .inl 12 → x_pi v p 12 j y k = k (x_ui v p j y) := fun v j y k hk => h_xpiE (tg := z_tg k) hk hc9
    unfold F_X12_goes
    simp (disch := first | omega | ((try simp (disch := omega) only [k1, k2, k3, k4, k5, k6, r1, r2, r3, r4, r5, r6, r7, r8, t0, t1, t2, t3, t4, t5, t6, t7, t8, t9, ta, tm, tk, epp, f3, xs_k_ui, xs_k_ur, xs_k_uc, xs_k_un, xs_k_ub, xs_r_ui, xs_r_ur, xs_r_uc, xs_r_un, xs_r_ub, xs_t_ui, xs_t_ur, xs_t_uc, xs_t_un, xs_t_ub, xs_n_ui, xs_n_ur, xs_n_uc, xs_n_un, xs_n_ub, xs_m_ui, xs_m_ur, xs_m_uc, xs_m_un, xs_m_ub, xs_c_ui, xs_c_ur, xs_c_uc, xs_c_un, xs_c_ub, x_up_s, x_up_k, x_up_o, x_fU_s, x_fU_o]) <;> first | rfl | omega | (refine (?_ : (_ : Bool) = true); with_unfolding_all rfl)) | fail) only [k1, k2, k3, k4, k5, k6, r1, r2, r3, r4, r5, r6, r7, r8, t0, t1, t2, t3, t4, t5, t6, t7, t8, t9, ta, tm, tk, epp, f3, ↓p_xgi, ↓p_xgr, ↓p_xpi, ↓p_xpr, ↓p_xo, ↓p_xld, ↓p_xlb, ↓p_xlr, ↓p_xst, ↓p_xsb, ↓p_xsr, ↓p_xlen, ↓p_xnew, ↓p_xnwa, ↓p_xcln, ↓p_xcst, ↓p_xcall, ↓p_xcalc, ↓p_xnm, ↓p_xdv, ↓p_xrem, h_xgiE, h_xgrE, h_xpiE, h_xprE, h_xoE, h_xldE, h_xlbE, h_xlrE, h_xstE, h_xsbE, h_xsrE, h_xlenE, h_xnewE, h_xnwaE, h_xclnE, h_xcstE, h_xcallE, h_xcalcE, h_xnmE, h_xdvE, h_xremE, xs_k_ui, xs_k_ur, xs_k_uc, xs_k_un, xs_k_ub, xs_r_ui, xs_r_ur, xs_r_uc, xs_r_un, xs_r_ub, xs_t_ui, xs_t_ur, xs_t_uc, xs_t_un, xs_t_ub, xs_n_ui, xs_n_ur, xs_n_uc, xs_n_un, xs_n_ub, xs_m_ui, xs_m_ur, xs_m_uc, xs_m_un, xs_m_ub, xs_c_ui, xs_c_ur, xs_c_uc, xs_c_un, xs_c_ub, x_up_s, x_up_k, x_up_o, x_fU_s, x_fU_o, ↓reduceIte, h_ldE, h_stE, h_nmE, h_nSE, h_callE, h_callvE, h_dvE, h_remE, if_true, if_false, z_upS, z_upO, z_upK, nI_add, z_mul, z_sub, z_div, Nat.add_zero, Nat.mul_zero, Nat.zero_add, Nat.sub_zero, Nat.zero_mul, z_ltT, z_ltF, z_leT, z_leF, z_eqT, z_eqF, z_inT, z_clT, not_true_eq_false, not_false_eq_true, eq_self, true_or, or_true, z_m_lt, z_m_le, z_lt_m, z_le_m, z_eq_m, z_m_eq, z_rz0, z_rz1, z_m_add, z_of, ↓z_m1, l_0, l_1, l_2, l_3, l_4, l_5, l_6, l_7, l_8, l_9, l_10, l_11, l_12, l_13, l_14, l_15, l_16, l_17, l_18, l_19, l_20, l_21, l_22, l_23, l_24, l_25, l_26, l_27, l_28, l_29, l_30, l_31, l_32, l_33, l_34, l_35, l_36, l_37, l_38, l_39, l_40, l_41, l_42, l_43, l_44, l_45, l_46, l_47, l_48, l_49, l_50, l_51, l_52, l_53, l_54, l_55, l_56, l_57, l_59, l_60, l_61, l_62, l_63, l_64, l_65, l_80, l_86, l_87, l_88, l_89, l_90, l_91, l_92, l_93, l_94, l_95, l_97, l_99, l_100, l_107, l_119, l_122, l_124, l_129, l_140, l_141, l_142, l_143, l_144, l_145, l_147, l_150, l_159, l_160, l_161, l_162, l_205, l_253, l_255, l_256, l_269, l_305, l_380, l_399, l_400, l_420, l_430, l_516, l_600, l_720, l_820, l_905, l_921, l_937, l_953, l_970, l_999, l_1000, l_1790, l_4096, l_9999, l_1000000]
    refine k3'.trans ?_
    show x_pi u2 p 12 2 (nI c) _ = _
    rw [e1 _ _ _ _ hk2]
end PL
