section CQ
variable {p b L pl pa : Nat} {d : Nat → Nat}
/-- the fields of a new train q, out of the old one's -/
theorem F_cpF {u : x_U} {p q : Nat} {n : Nat} (hp : x_k u p = .inl 12) (hq : x_k u q = .inl 12) (hpq : p ≠ q) (h1 : p < 500000) (h2 : q < 500000) : ∃ u', x_fr (fun i => i = q) u u' ∧ x_n u' = x_n u ∧ x_m u' = x_m u ∧ (∀ i, x_k u' i = x_k u i) ∧ (∀ j, j ≤ 10 → x_t u' q j = x_t u p j) ∧
    (x_r u' q 12 = x_r u q 12 ∧ x_r u' q 13 = x_r u q 13 ∧ x_r u' q 14 = x_r u p 14 ∧ x_r u' q 15 = x_r u p 15 ∧ x_r u' q 16 = x_r u q 16 ∧ x_r u' q 17 = x_r u p 17) ∧
    ∀ K : Nat → x_U → Option (Nat × x_U), (x_gi u p 12 0 fun v6 =>
  x_pi u q 12 0 v6 fun s7 =>
  x_gi s7 p 12 1 fun v8 =>
  x_pi s7 q 12 1 v8 fun s9 =>
  x_gi s9 p 12 2 fun v10 =>
  x_pi s9 q 12 2 v10 fun s11 =>
  x_gi s11 p 12 3 fun v12 =>
  x_pi s11 q 12 3 v12 fun s13 =>
  x_gi s13 p 12 4 fun v14 =>
  x_pi s13 q 12 4 v14 fun s15 =>
  x_gi s15 p 12 5 fun v16 =>
  x_pi s15 q 12 5 v16 fun s17 =>
  x_gi s17 p 12 6 fun v18 =>
  x_pi s17 q 12 6 v18 fun s19 =>
  x_gi s19 p 12 7 fun v20 =>
  x_pi s19 q 12 7 v20 fun s21 =>
  x_gi s21 p 12 8 fun v22 =>
  x_pi s21 q 12 8 v22 fun s23 =>
  x_gi s23 p 12 9 fun v24 =>
  x_pi s23 q 12 9 v24 fun s25 =>
  x_gi s25 p 12 10 fun v26 =>
  x_pi s25 q 12 10 v26 fun s27 =>
  x_gr s27 p 12 14 fun o28 =>
  x_pr s27 q 12 14 o28 fun s29 =>
  x_gr s29 p 12 15 fun o30 =>
  x_pr s29 q 12 15 o30 fun s31 =>
  x_gr s31 p 12 17 fun o32 =>
  x_pr s31 q 12 17 o32 fun s33 => K q s33) = K q u' := by
  let U := x_ur (x_ur (x_ur (x_ui (x_ui (x_ui (x_ui (x_ui (x_ui (x_ui (x_ui (x_ui (x_ui (x_ui u q 0 (x_t u p 0)) q 1 (x_t u p 1)) q 2 (x_t u p 2)) q 3 (x_t u p 3)) q 4 (x_t u p 4)) q 5 (x_t u p 5)) q 6 (x_t u p 6)) q 7 (x_t u p 7)) q 8 (x_t u p 8)) q 9 (x_t u p 9)) q 10 (x_t u p 10)) q 14 (x_r u p 14)) q 15 (x_r u p 15)) q 17 (x_r u p 17)
  have eU : U = x_ur (x_ur (x_ur (x_ui (x_ui (x_ui (x_ui (x_ui (x_ui (x_ui (x_ui (x_ui (x_ui (x_ui u q 0 (x_t u p 0)) q 1 (x_t u p 1)) q 2 (x_t u p 2)) q 3 (x_t u p 3)) q 4 (x_t u p 4)) q 5 (x_t u p 5)) q 6 (x_t u p 6)) q 7 (x_t u p 7)) q 8 (x_t u p 8)) q 9 (x_t u p 9)) q 10 (x_t u p 10)) q 14 (x_r u p 14)) q 15 (x_r u p 15)) q 17 (x_r u p 17) := rfl
  clear_value U
  have eN : x_n U = x_n u := by rw [eU]; simp (disch := omega) only [xs_k_ui, xs_k_ur, xs_k_uc, xs_k_un, xs_k_ub, xs_r_ui, xs_r_ur, xs_r_uc, xs_r_un, xs_r_ub, xs_t_ui, xs_t_ur, xs_t_uc, xs_t_un, xs_t_ub, xs_n_ui, xs_n_ur, xs_n_uc, xs_n_un, xs_n_ub, xs_m_ui, xs_m_ur, xs_m_uc, xs_m_un, xs_m_ub, xs_c_ui, xs_c_ur, xs_c_uc, xs_c_un, xs_c_ub, x_up_s, x_up_k, x_up_o, x_fU_s, x_fU_o]
  have eM : x_m U = x_m u := by rw [eU]; simp (disch := omega) only [xs_k_ui, xs_k_ur, xs_k_uc, xs_k_un, xs_k_ub, xs_r_ui, xs_r_ur, xs_r_uc, xs_r_un, xs_r_ub, xs_t_ui, xs_t_ur, xs_t_uc, xs_t_un, xs_t_ub, xs_n_ui, xs_n_ur, xs_n_uc, xs_n_un, xs_n_ub, xs_m_ui, xs_m_ur, xs_m_uc, xs_m_un, xs_m_ub, xs_c_ui, xs_c_ur, xs_c_uc, xs_c_un, xs_c_ub, x_up_s, x_up_k, x_up_o, x_fU_s, x_fU_o]
  have eK : x_k U = x_k u := by rw [eU]; simp (disch := omega) only [xs_k_ui, xs_k_ur, xs_k_uc, xs_k_un, xs_k_ub, xs_r_ui, xs_r_ur, xs_r_uc, xs_r_un, xs_r_ub, xs_t_ui, xs_t_ur, xs_t_uc, xs_t_un, xs_t_ub, xs_n_ui, xs_n_ur, xs_n_uc, xs_n_un, xs_n_ub, xs_m_ui, xs_m_ur, xs_m_uc, xs_m_un, xs_m_ub, xs_c_ui, xs_c_ur, xs_c_uc, xs_c_un, xs_c_ub, x_up_s, x_up_k, x_up_o, x_fU_s, x_fU_o]
  have eC : x_c U = x_c u := by rw [eU]; simp (disch := omega) only [xs_k_ui, xs_k_ur, xs_k_uc, xs_k_un, xs_k_ub, xs_r_ui, xs_r_ur, xs_r_uc, xs_r_un, xs_r_ub, xs_t_ui, xs_t_ur, xs_t_uc, xs_t_un, xs_t_ub, xs_n_ui, xs_n_ur, xs_n_uc, xs_n_un, xs_n_ub, xs_m_ui, xs_m_ur, xs_m_uc, xs_m_un, xs_m_ub, xs_c_ui, xs_c_ur, xs_c_uc, xs_c_un, xs_c_ub, x_up_s, x_up_k, x_up_o, x_fU_s, x_fU_o]
  refine ⟨U, ⟨eC, Nat.le_of_eq eN.symm, Nat.le_of_eq eM.symm, fun _ _ => by rw [eK], fun i hi ho => ⟨?_, ?_⟩⟩, eN, eM, fun _ => by rw [eK], fun j hj => ?_, ⟨?_, ?_, ?_, ?_, ?_, ?_⟩, fun K => ?_⟩
  · rw [eU]; simp (disch := omega) only [xs_k_ui, xs_k_ur, xs_k_uc, xs_k_un, xs_k_ub, xs_r_ui, xs_r_ur, xs_r_uc, xs_r_un, xs_r_ub, xs_t_ui, xs_t_ur, xs_t_uc, xs_t_un, xs_t_ub, xs_n_ui, xs_n_ur, xs_n_uc, xs_n_un, xs_n_ub, xs_m_ui, xs_m_ur, xs_m_uc, xs_m_un, xs_m_ub, xs_c_ui, xs_c_ur, xs_c_uc, xs_c_un, xs_c_ub, x_up_s, x_up_k, x_up_o, x_fU_s, x_fU_o]
  · rw [eU]; simp (disch := omega) only [xs_k_ui, xs_k_ur, xs_k_uc, xs_k_un, xs_k_ub, xs_r_ui, xs_r_ur, xs_r_uc, xs_r_un, xs_r_ub, xs_t_ui, xs_t_ur, xs_t_uc, xs_t_un, xs_t_ub, xs_n_ui, xs_n_ur, xs_n_uc, xs_n_un, xs_n_ub, xs_m_ui, xs_m_ur, xs_m_uc, xs_m_un, xs_m_ub, xs_c_ui, xs_c_ur, xs_c_uc, xs_c_un, xs_c_ub, x_up_s, x_up_k, x_up_o, x_fU_s, x_fU_o]
  · have : j = 0 ∨ j = 1 ∨ j = 2 ∨ j = 3 ∨ j = 4 ∨ j = 5 ∨ j = 6 ∨ j = 7 ∨ j = 8 ∨ j = 9 ∨ j = 10 := by omega
    rw [eU]
    rcases this with rfl | rfl | rfl | rfl | rfl | rfl | rfl | rfl | rfl | rfl | rfl <;> simp (disch := omega) only [xs_k_ui, xs_k_ur, xs_k_uc, xs_k_un, xs_k_ub, xs_r_ui, xs_r_ur, xs_r_uc, xs_r_un, xs_r_ub, xs_t_ui, xs_t_ur, xs_t_uc, xs_t_un, xs_t_ub, xs_n_ui, xs_n_ur, xs_n_uc, xs_n_un, xs_n_ub, xs_m_ui, xs_m_ur, xs_m_uc, xs_m_un, xs_m_ub, xs_c_ui, xs_c_ur, xs_c_uc, xs_c_un, xs_c_ub, x_up_s, x_up_k, x_up_o, x_fU_s, x_fU_o]
  · rw [eU]; simp (disch := omega) only [xs_k_ui, xs_k_ur, xs_k_uc, xs_k_un, xs_k_ub, xs_r_ui, xs_r_ur, xs_r_uc, xs_r_un, xs_r_ub, xs_t_ui, xs_t_ur, xs_t_uc, xs_t_un, xs_t_ub, xs_n_ui, xs_n_ur, xs_n_uc, xs_n_un, xs_n_ub, xs_m_ui, xs_m_ur, xs_m_uc, xs_m_un, xs_m_ub, xs_c_ui, xs_c_ur, xs_c_uc, xs_c_un, xs_c_ub, x_up_s, x_up_k, x_up_o, x_fU_s, x_fU_o]
  · rw [eU]; simp (disch := omega) only [xs_k_ui, xs_k_ur, xs_k_uc, xs_k_un, xs_k_ub, xs_r_ui, xs_r_ur, xs_r_uc, xs_r_un, xs_r_ub, xs_t_ui, xs_t_ur, xs_t_uc, xs_t_un, xs_t_ub, xs_n_ui, xs_n_ur, xs_n_uc, xs_n_un, xs_n_ub, xs_m_ui, xs_m_ur, xs_m_uc, xs_m_un, xs_m_ub, xs_c_ui, xs_c_ur, xs_c_uc, xs_c_un, xs_c_ub, x_up_s, x_up_k, x_up_o, x_fU_s, x_fU_o]
  · rw [eU]; simp (disch := omega) only [xs_k_ui, xs_k_ur, xs_k_uc, xs_k_un, xs_k_ub, xs_r_ui, xs_r_ur, xs_r_uc, xs_r_un, xs_r_ub, xs_t_ui, xs_t_ur, xs_t_uc, xs_t_un, xs_t_ub, xs_n_ui, xs_n_ur, xs_n_uc, xs_n_un, xs_n_ub, xs_m_ui, xs_m_ur, xs_m_uc, xs_m_un, xs_m_ub, xs_c_ui, xs_c_ur, xs_c_uc, xs_c_un, xs_c_ub, x_up_s, x_up_k, x_up_o, x_fU_s, x_fU_o]
  · rw [eU]; simp (disch := omega) only [xs_k_ui, xs_k_ur, xs_k_uc, xs_k_un, xs_k_ub, xs_r_ui, xs_r_ur, xs_r_uc, xs_r_un, xs_r_ub, xs_t_ui, xs_t_ur, xs_t_uc, xs_t_un, xs_t_ub, xs_n_ui, xs_n_ur, xs_n_uc, xs_n_un, xs_n_ub, xs_m_ui, xs_m_ur, xs_m_uc, xs_m_un, xs_m_ub, xs_c_ui, xs_c_ur, xs_c_uc, xs_c_un, xs_c_ub, x_up_s, x_up_k, x_up_o, x_fU_s, x_fU_o]
  · rw [eU]; simp (disch := omega) only [xs_k_ui, xs_k_ur, xs_k_uc, xs_k_un, xs_k_ub, xs_r_ui, xs_r_ur, xs_r_uc, xs_r_un, xs_r_ub, xs_t_ui, xs_t_ur, xs_t_uc, xs_t_un, xs_t_ub, xs_n_ui, xs_n_ur, xs_n_uc, xs_n_un, xs_n_ub, xs_m_ui, xs_m_ur, xs_m_uc, xs_m_un, xs_m_ub, xs_c_ui, xs_c_ur, xs_c_uc, xs_c_un, xs_c_ub, x_up_s, x_up_k, x_up_o, x_fU_s, x_fU_o]
  · rw [eU]; simp (disch := omega) only [xs_k_ui, xs_k_ur, xs_k_uc, xs_k_un, xs_k_ub, xs_r_ui, xs_r_ur, xs_r_uc, xs_r_un, xs_r_ub, xs_t_ui, xs_t_ur, xs_t_uc, xs_t_un, xs_t_ub, xs_n_ui, xs_n_ur, xs_n_uc, xs_n_un, xs_n_ub, xs_m_ui, xs_m_ur, xs_m_uc, xs_m_un, xs_m_ub, xs_c_ui, xs_c_ur, xs_c_uc, xs_c_un, xs_c_ub, x_up_s, x_up_k, x_up_o, x_fU_s, x_fU_o]
  · have hpq2 : q ≠ p := fun e => hpq e.symm
    rw [eU]
    simp (disch := first | omega | ((try simp (disch := omega) only [hp, hq, xs_k_ui, xs_k_ur, xs_k_uc, xs_k_un, xs_k_ub, xs_r_ui, xs_r_ur, xs_r_uc, xs_r_un, xs_r_ub, xs_t_ui, xs_t_ur, xs_t_uc, xs_t_un, xs_t_ub, xs_n_ui, xs_n_ur, xs_n_uc, xs_n_un, xs_n_ub, xs_m_ui, xs_m_ur, xs_m_uc, xs_m_un, xs_m_ub, xs_c_ui, xs_c_ur, xs_c_uc, xs_c_un, xs_c_ub, x_up_s, x_up_k, x_up_o, x_fU_s, x_fU_o]) <;> first | rfl | omega | (refine (?_ : (_ : Bool) = true); with_unfolding_all rfl)) | fail) only [hp, hq, ↓p_xgi, ↓p_xgr, ↓p_xpi, ↓p_xpr, ↓p_xo, ↓p_xld, ↓p_xlb, ↓p_xlr, ↓p_xst, ↓p_xsb, ↓p_xsr, ↓p_xlen, ↓p_xnew, ↓p_xnwa, ↓p_xcln, ↓p_xcst, ↓p_xcall, ↓p_xcalc, ↓p_xnm, ↓p_xdv, ↓p_xrem, h_xgiE, h_xgrE, h_xpiE, h_xprE, h_xoE, h_xldE, h_xlbE, h_xlrE, h_xstE, h_xsbE, h_xsrE, h_xlenE, h_xnewE, h_xnwaE, h_xclnE, h_xcstE, h_xcallE, h_xcalcE, h_xnmE, h_xdvE, h_xremE, xs_k_ui, xs_k_ur, xs_k_uc, xs_k_un, xs_k_ub, xs_r_ui, xs_r_ur, xs_r_uc, xs_r_un, xs_r_ub, xs_t_ui, xs_t_ur, xs_t_uc, xs_t_un, xs_t_ub, xs_n_ui, xs_n_ur, xs_n_uc, xs_n_un, xs_n_ub, xs_m_ui, xs_m_ur, xs_m_uc, xs_m_un, xs_m_ub, xs_c_ui, xs_c_ur, xs_c_uc, xs_c_un, xs_c_ub, x_up_s, x_up_k, x_up_o, x_fU_s, x_fU_o, ↓reduceIte, h_ldE, h_stE, h_nmE, h_nSE, h_callE, h_callvE, h_dvE, h_remE, if_true, if_false, z_upS, z_upO, z_upK, nI_add, z_mul, z_sub, z_div, Nat.add_zero, Nat.mul_zero, Nat.zero_add, Nat.sub_zero, Nat.zero_mul, z_ltT, z_ltF, z_leT, z_leF, z_eqT, z_eqF, z_inT, z_clT, not_true_eq_false, not_false_eq_true, eq_self, true_or, or_true, z_m_lt, z_m_le, z_lt_m, z_le_m, z_eq_m, z_m_eq, z_rz0, z_rz1, z_m_add, z_of, ↓z_m1, l_0, l_1, l_2, l_3, l_4, l_5, l_6, l_7, l_8, l_9, l_10, l_11, l_12, l_13, l_14, l_15, l_16, l_17, l_18, l_19, l_20, l_21, l_22, l_23, l_24, l_25, l_26, l_27, l_28, l_29, l_30, l_31, l_32, l_33, l_34, l_35, l_36, l_37, l_38, l_39, l_40, l_41, l_42, l_43, l_44, l_45, l_46, l_47, l_48, l_49, l_50, l_51, l_52, l_53, l_54, l_55, l_56, l_57, l_59, l_60, l_61, l_62, l_63, l_64, l_65, l_80, l_86, l_87, l_88, l_89, l_90, l_91, l_92, l_93, l_94, l_95, l_97, l_99, l_100, l_107, l_119, l_122, l_124, l_129, l_140, l_141, l_142, l_143, l_144, l_145, l_147, l_150, l_159, l_160, l_161, l_162, l_205, l_253, l_255, l_256, l_269, l_305, l_380, l_399, l_400, l_420, l_430, l_516, l_600, l_720, l_820, l_905, l_921, l_937, l_953, l_970, l_999, l_1000, l_1790, l_4096, l_9999, l_1000000]
theorem F_copyA {n q : Nat} {u : x_U} (hk : x_k u p = .inl 12) (hp : p < q) (hq : x_n u = q) (h0 : 157 ≤ q) (hb : q + 40 ≤ 500000) : ∃ u3, x_fr (fun _ => False) u u3 ∧ x_n u3 = q+6 ∧ x_m u3 = x_m u + 185 ∧ (x_k u3 q = .inl 12 ∧ x_k u3 (q+1) = .inr (12, 3) ∧ x_k u3 (q+2) = .inr (5, 3) ∧ x_k u3 (q+5) = .inr (150, 3)) ∧
    (x_r u3 q 12 = q+1 ∧ x_r u3 q 13 = q+2 ∧ x_r u3 q 14 = x_r u p 14 ∧ x_r u3 q 15 = x_r u p 15 ∧ x_r u3 q 16 = q+5 ∧ x_r u3 q 17 = x_r u p 17) ∧ (∀ j, j ≤ 10 → x_t u3 q j = x_t u p j) ∧
    F_X12_copy n p u = F_X12_copy_L122 n p q (fun (s41 : x_U) => F_X12_copy_L156 n p q (fun (s49 : x_U) => F_X12_copy_L190 n p q n 0 s49) n 0 s41) n 0 u3 := by
  obtain ⟨u1, f1, e1n, e1m, k1q, enew⟩ : ∃ u1, x_fr (fun _ => False) u u1 ∧ x_n u1 = q + 1 ∧ x_m u1 = x_m u + 18 ∧ x_k u1 q = .inl 12 ∧ ∀ K : Nat → x_U → Option (Nat × x_U), x_new u 12 K = K q u1 :=
    ⟨x_un u (.inl 12) (q_nF 12) (fun _ => 0), x_fr.un (by omega), by show x_n u + 1 = _; omega, rfl, by rw [← hq]; exact x_fU_s, fun K => by rw [p_xnew, h_xnewE (by omega), hq]⟩
  obtain ⟨u2, g1, g2, g3, ⟨g4, g5, g6, g7, g8⟩, ⟨g9, ga, gb, gc, gd, ge⟩, gf, gg, gh⟩ := F_init (n := n) (t := q) (u := u1) k1q (by omega) (by omega)
  have k2q : x_k u2 q = .inl 12 := by rw [g1.2.2.2.1 q (by omega)]; exact k1q
  have k2p : x_k u2 p = .inl 12 := by rw [g1.2.2.2.1 p (by omega), f1.2.2.2.1 p (by omega)]; exact hk
  obtain ⟨u3, i1, i2, i3, i4, i5, ⟨i6, i7, i8, i9, ia, ib⟩, ic⟩ := F_cpF (u := u2) (n := n) k2p k2q (by omega) (by omega) (by omega)
  have e2p : x_t u2 p = x_t u p := by rw [(g1.2.2.2.2 p (by omega) (by omega)).2, (f1.2.2.2.2 p (by omega) (fun h => h)).2]
  have r2p : x_r u2 p = x_r u p := by rw [(g1.2.2.2.2 p (by omega) (by omega)).1, (f1.2.2.2.2 p (by omega) (fun h => h)).1]
  rw [e1n] at g2 g4 g5 g6 g7 g8 g9 ga gb gc gd
  refine ⟨u3, ?_, by omega, by omega, ⟨?_, ?_, ?_, ?_⟩, ⟨?_, ?_, ?_, ?_, ?_, ?_⟩, fun j hj => ?_, ?_⟩
  · refine ((f1.mono (own' := fun i => i = q) (fun i hi => hi.elim)).tr (g1.tr i1)).sub (fun i hi ho => ?_)
    have ho : i = q := ho
    omega
  · rw [i4]; exact k2q
  · rw [i4]; exact g4
  · rw [i4]; exact g5
  · rw [i4]; exact g8
  · rw [i6, g9]
  · rw [i7, ga]
  · rw [i8, r2p]
  · rw [i9, r2p]
  · rw [ia, gd]
  · rw [ib, r2p]
  · rw [i5 j hj, e2p]
  · unfold F_X12_copy
    have ho : ∀ K : Option (Nat × x_U), x_o u1 q 12 K = K := fun K => by rw [p_xo, h_xoE k1q]
    have hc : ∀ K : Int32 → x_U → Option (Nat × x_U), x_call (some (nI 0, u2)) K = K (nI 0) u2 := fun K => rfl
    rw [enew, ho, gh, hc]
    exact ic (fun o s => F_X12_copy_L122 n p o (fun (s41 : x_U) => F_X12_copy_L156 n p o (fun (s49 : x_U) => F_X12_copy_L190 n p o n 0 s49) n 0 s41) n 0 s)
theorem F_copyB {n q w mu me : Nat} {u3 : x_U} {Fz : Nat → Prop} {V : Nat → Int32} (hn : 151 ≤ n) (hT3 : x_TN u3 Fz p b L pl pa mu me d V) (hF : ∀ i, Fz i → i < q) (hbq : b + mu + me ≤ q) (n3 : x_n u3 = q+6) (hb : q + 40 ≤ 500000) (kq3 : x_k u3 q = .inl 12) (kq31 : x_k u3 (q+1) = .inr (12, 3)) (kq32 : x_k u3 (q+2) = .inr (5, 3)) (kq35 : x_k u3 (q+5) = .inr (150, 3)) (rq12 : x_r u3 q 12 = q+1) (rq13 : x_r u3 q 13 = q+2) (rq16 : x_r u3 q 16 = q+5) (w2 : V 6 = nI w) (w1 : w ≤ 150) (hbr : ∀ i, i < w → x_k u3 (x_r u3 (p+5) i) = .inr (4, 0) ∧ x_r u3 (p+5) i < q) :
    ∃ u6, x_fr (fun i => i = q+1 ∨ i = q+2 ∨ i = q+5) u3 u6 ∧ x_n u6 = q+6+mu+me ∧ x_m u6 = x_m u3 + 10*mu + 3*me ∧ (∀ m, m < mu → x_r u6 (q+1) m = q+6+m ∧ x_k u6 (q+6+m) = .inr (10, 0) ∧ x_t u6 (q+6+m) = x_t u3 (b+m)) ∧ (∀ k, k < me → x_r u6 (q+2) k = q+6+mu+k ∧ x_k u6 (q+6+mu+k) = .inr (3, 0) ∧ x_t u6 (q+6+mu+k) = x_t u3 (b+mu+k)) ∧ (∀ i, i < w → x_r u6 (q+5) i = x_r u3 (p+5) i) ∧
    F_X12_copy_L122 n p q (fun (s41 : x_U) => F_X12_copy_L156 n p q (fun (s49 : x_U) => F_X12_copy_L190 n p q n 0 s49) n 0 s41) n 0 u3 = some (q, u6) := by
  obtain ⟨a1, a2, a3, a4, a5, a6⟩ := hT3.bd
  have hF0 := hT3.2.2.1.2
  obtain ⟨u4, ⟨j1, j2, j3, j4⟩, j5⟩ := F_cpM_L (n := n) (q := q) hT3.V hbq kq3 rq12 kq31 n3 (by omega) n 0 u3 (Nat.zero_le _) (by omega) ⟨x_fr.rf, by omega, by omega, fun m hm => by omega⟩
  have hT4 : x_TN u4 Fz p b L pl pa mu me d V := hT3.fr j1 (by omega) (fun i hi h => by
    have h : i = q+1 := h
    unfold x_own at hi
    omega) (fun i hi h => by
    have h : i = q+1 := h
    have := hF i hi
    omega) (fun _ h => h) (fun i hi => ⟨by have := hF i hi; omega, fun h => hF0 i h hi⟩)
  have kq4 : x_k u4 q = .inl 12 := by rw [j1.2.2.2.1 q (by omega)]; exact kq3
  have kq42 : x_k u4 (q+2) = .inr (5, 3) := by rw [j1.2.2.2.1 _ (by omega)]; exact kq32
  have kq45 : x_k u4 (q+5) = .inr (150, 3) := by rw [j1.2.2.2.1 _ (by omega)]; exact kq35
  have rt4 := j1.2.2.2.2 q (by omega) (by omega)
  have rt4p := j1.2.2.2.2 (p+5) (by omega) (by omega)
  have rq413 : x_r u4 q 13 = q+2 := by rw [rt4.1]; exact rq13
  obtain ⟨u5, ⟨l1, l2, l3, l4⟩, l5⟩ := F_cpK_L (n := n) (q := q) hT4.V hbq kq4 rq413 kq42 (by omega) (by omega) n 0 u4 (Nat.zero_le _) (by omega) ⟨x_fr.rf, by omega, by omega, fun m hm => by omega⟩
  have hT5 : x_TN u5 Fz p b L pl pa mu me d V := hT4.fr l1 (by omega) (fun i hi h => by
    have h : i = q+2 := h
    unfold x_own at hi
    omega) (fun i hi h => by
    have h : i = q+2 := h
    have := hF i hi
    omega) (fun _ h => h) (fun i hi => ⟨by have := hF i hi; omega, fun h => hF0 i h hi⟩)
  have kq5 : x_k u5 q = .inl 12 := by rw [l1.2.2.2.1 q (by omega)]; exact kq4
  have kq55 : x_k u5 (q+5) = .inr (150, 3) := by rw [l1.2.2.2.1 _ (by omega)]; exact kq45
  have rt5 := l1.2.2.2.2 q (by omega) (by omega)
  have rt5p := l1.2.2.2.2 (p+5) (by omega) (by omega)
  have rq516 : x_r u5 q 16 = q+5 := by rw [rt5.1, rt4.1]; exact rq16
  have e55 : x_r u5 (p+5) = x_r u3 (p+5) := by rw [rt5p.1, rt4p.1]
  have hbr5 : ∀ i, i < w → x_k u5 (x_r u5 (p+5) i) = .inr (4, 0) := fun i hi => by
    obtain ⟨z1, z2⟩ := hbr i hi
    rw [e55, l1.2.2.2.1 _ (by omega), j1.2.2.2.1 _ (by omega)]
    exact z1
  obtain ⟨u6, ⟨y1, y2, y3, y4⟩, y5⟩ := F_cpB_L (n := n) (q := q) hT5.V hbq kq5 rq516 kq55 (by omega) w2 w1 hbr5 n 0 u5 (Nat.zero_le _) (by omega) ⟨x_fr.rf, rfl, rfl, fun _ => rfl, fun m hm => by omega⟩
  refine ⟨u6, ?_, by omega, by omega, fun m hm => ?_, fun k hk => ?_, fun i hi => ?_, ?_⟩
  · exact ((j1.mono (fun i (hi : i = q+1) => Or.inl hi)).tr (l1.mono (fun i (hi : i = q+2) => Or.inr (Or.inl hi)))).tr (y1.mono (fun i (hi : i = q+5) => Or.inr (Or.inr hi)))
  · obtain ⟨z1, z2, z3⟩ := j4 m hm
    rw [y1.2.2.2.1 (q+6+m) (by omega), l1.2.2.2.1 (q+6+m) (by omega), (y1.2.2.2.2 (q+6+m) (by omega) (by omega)).2, (l1.2.2.2.2 (q+6+m) (by omega) (by omega)).2, (y1.2.2.2.2 (q+1) (by omega) (by omega)).1, (l1.2.2.2.2 (q+1) (by omega) (by omega)).1]
    exact ⟨z1, z2, z3⟩
  · obtain ⟨z1, z2, z3⟩ := l4 k hk
    rw [y1.2.2.2.1 (q+6+mu+k) (by omega), (y1.2.2.2.2 (q+6+mu+k) (by omega) (by omega)).2, (y1.2.2.2.2 (q+2) (by omega) (by omega)).1]
    exact ⟨z1, z2, by rw [z3, (j1.2.2.2.2 _ (by omega) (by omega)).2]⟩
  · rw [y4 i hi, e55]
  · have z0 : (0 : Int32) = nI 0 := rfl
    rw [z0, j5, l5]
    exact y5
theorem F_copy {n mu me : Nat} {u : x_U} {Fz : Nat → Prop} {V : Nat → Int32} (hn : 151 ≤ n) (hT : x_TN u Fz p b L pl pa mu me d V) (hb : x_n u + 40 ≤ 500000) : ∃ u', x_sp (fun _ => False) 23 400 u u' Fz Fz ∧ x_TN u' Fz p b L pl pa mu me d V ∧ x_TN u' Fz (x_n u) (x_n u + 6) L pl pa mu me d V ∧ F_X12_copy n p u = some (x_n u, u') := by
  have hbd := hT.bd
  generalize hq : x_n u = q at *
  obtain ⟨u3, f13, n3, m3, ⟨kq3, kq31, kq32, kq35⟩, ⟨rq12, rq13, rq14, rq15, rq16, rq17⟩, tq, eA⟩ := F_copyA (n := n) hT.k0 (by omega) hq (by omega) hb
  have hFz : ∀ i, Fz i → i < q := fun i hi => by have := hT.2.2.1.1 i hi; omega
  have hF0 := hT.2.2.1.2
  have hT3 : x_TN u3 Fz p b L pl pa mu me d V := hT.fr f13 (by omega) (fun _ _ h => h) (fun _ _ h => h) (fun _ h => h) (fun i hi => ⟨by have := hFz i hi; omega, fun h => hF0 i h hi⟩)
  obtain ⟨w, w1, w2, w3⟩ := hT3.2.2.2.2.2.2.2
  obtain ⟨u6, y1, y2, y3, mrow, krow, brow, eB⟩ := F_copyB hn hT3 hFz (by omega) n3 hb kq3 kq31 kq32 kq35 rq12 rq13 rq16 w2 w1 (fun i hi => ⟨(w3 i hi).2.1, hFz _ (w3 i hi).1⟩)
  have f16 : x_fr (fun _ => False) u u6 := ((f13.mono (own' := fun i => i = q+1 ∨ i = q+2 ∨ i = q+5) (fun i hi => hi.elim)).tr y1).sub (fun i hi ho => by
    have ho : i = q+1 ∨ i = q+2 ∨ i = q+5 := ho
    omega)
  have hT6 : x_TN u6 Fz p b L pl pa mu me d V := hT.fr f16 (by omega) (fun _ _ h => h) (fun _ _ h => h) (fun _ h => h) (fun i hi => ⟨by have := hFz i hi; omega, fun h => hF0 i h hi⟩)
  have qf := y1.2.2.2.2 q (by omega) (by omega)
  have kk := y1.2.2.2.1
  have fo : ∀ i, i < q → x_t u3 i = x_t u i := fun i hi => (f13.2.2.2.2 i (by omega) (fun h => h)).2
  have hF2 : ∀ i, Fz i → i < x_n u ∧ ¬ False := fun i hi => ⟨by have := hFz i hi; omega, fun h => h⟩
  refine ⟨u6, ⟨f16, by omega, by omega, fun _ h => h, fun _ h => Or.inl h⟩, hT6, ⟨?_, ?_, ?_, hT.2.2.2.1, hT.2.2.2.2.1.fr f16 (fun h => hF2 _ (hT.2.2.2.1 h)), hT.2.2.2.2.2.1.fr f16 hF2 (fun _ h => h), hT.2.2.2.2.2.2.1.fr f16 hF2 (fun _ h => h), w, w1, w2, fun i hi => ?_⟩, by rw [eA]; exact eB⟩
  · obtain ⟨-, -, ⟨r1, r2, r3, r4, r5, r6, r7, r8⟩⟩ := hT.1
    refine ⟨⟨by omega, by omega, by omega, by omega, by omega, by omega⟩, ⟨?_, ?_, ?_, ?_, fun m hm => (mrow m hm).2.1, fun k hk => (krow k hk).2.1⟩, ⟨?_, ?_, ?_, ?_, ?_, ?_, fun m hm => (mrow m hm).1, fun k hk => (krow k hk).1⟩⟩
    · rw [kk q (by omega)]; exact kq3
    · rw [kk (q+1) (by omega)]; exact kq31
    · rw [kk (q+2) (by omega)]; exact kq32
    · rw [kk (q+5) (by omega)]; exact kq35
    · rw [qf.1]; exact rq12
    · rw [qf.1]; exact rq13
    · rw [qf.1]; exact rq16
    · rw [qf.1, rq17]; exact r4
    · rw [qf.1, rq14]; exact r5
    · rw [qf.1, rq15]; exact r6
  · obtain ⟨⟨t0, t1, t2, t3, t4, t5, t6, t7, t8, t9, ta⟩, tm, tk⟩ := hT.2.1
    refine ⟨?_, fun m hm => ?_, fun k hk => ?_⟩
    · rw [qf.2, tq 0 (by omega), tq 1 (by omega), tq 2 (by omega), tq 3 (by omega), tq 4 (by omega), tq 5 (by omega), tq 6 (by omega), tq 7 (by omega), tq 8 (by omega), tq 9 (by omega), tq 10 (by omega)]
      exact ⟨t0, t1, t2, t3, t4, t5, t6, t7, t8, t9, ta⟩
    · rw [(mrow m hm).2.2, fo _ (by omega)]; exact tm m hm
    · rw [(krow k hk).2.2, fo _ (by omega)]; exact tk k hk
  · refine ⟨fun i hi => by have := hFz i hi; omega, fun i hi hz => ?_⟩
    have := hFz i hz
    unfold x_own at hi
    omega
  · obtain ⟨z1, z2, z3⟩ := w3 i hi
    have hzq := hFz _ z1
    rw [brow i hi, kk _ (by omega), (y1.2.2.2.2 _ (by omega) (by omega)).2]
    exact ⟨z1, z2, z3⟩
end CQ
