/-! heeds told, line by line -/
theorem y_hl_len {M A B : Nat} {two : Bool} (hM : M < 1000) (hA : A < 1000) (hB : B < 1000) : (y_hl M A B two).length ≤ 30 := by
  obtain ⟨m1, -⟩ := y_dgl hM
  obtain ⟨a1, -⟩ := y_dgl hA
  obtain ⟨b1, -⟩ := y_dgl hB
  unfold y_hl
  cases two with
  | false =>
    simp
    omega
  | true =>
    simp
    omega
theorem y_cat_s {f : Nat → List Nat} {j i : Nat} : y_cat f (j+1) i = f i ++ y_cat f j (i+1) := rfl
def y_fH (x : Int32) (mu k : Nat) : List Nat := y_hl (y_hM x mu k) (y_hA x mu k) (y_hB x mu k) (y_hT x k)
section HE
variable {n p b L pl pa mu me Lx : Nat} {xs : Nat → Int32} {d : Nat → Nat} {Fz : Nat → Prop}
theorem T_67 {x : Int32} {N om : Nat} {U0 : x_U} (hn : 5 ≤ n) (hmu2 : N = 0 ∨ 2 ≤ mu) (hN : N ≤ 12) (hFz : ∀ i, Fz i → i < x_n U0) (hbU : b + mu + me ≤ x_n U0) : ∀ j k w V vm lm dn dm, k ≤ N → N < j + k → y_CH (x_own p b mu me) U0 w om vm lm dn dm → y_WC Lx xs w → x_TB w Fz p b L pl pa mu me d V → (∀ m, m < mu → V (129+m) = nI (y_hr (y_hh x mu) m k)) → x_n U0 + (dn + 20 * (N - k)) + 40 ≤ 500000 → lm.length ≤ 30 * k →
    ∃ w' V' vm', y_CH (x_own p b mu me) U0 w' om vm' (lm ++ y_cat (y_fH x mu) (N - k) k) (dn + 20 * (N - k)) (dm + 1800 * (N - k)) ∧ y_WC Lx xs w' ∧ x_TB w' Fz p b L pl pa mu me d V' ∧ (∀ a, a < 129 ∨ 141 ≤ a → V' a = V a) ∧ (∀ m, m < mu → V' (129+m) = nI (y_hr (y_hh x mu) m N)) ∧ ∀ K : x_U → Option (Int32 × x_U), F_L_texts_L67 n p x (nI N) om K j (nI k) w = K w' := by
  intro j
  induction j with
  | zero => intro k w V vm lm dn dm h1 h2; omega
  | succ j ih =>
    intro k w V vm lm dn dm h1 h2 hC hW hT hV hb hl
    by_cases hk : k = N
    · subst hk
      refine ⟨w, V, vm, ?_, hW, hT, fun _ _ => rfl, hV, fun K => ?_⟩
      · rw [Nat.sub_self]
        show y_CH _ U0 w om vm (lm ++ []) (dn + 0) (dm + 0)
        rw [List.append_nil]
        exact hC
      · rw [F_L_texts_L67]
        simp (disch := first | omega | ((try simp (disch := omega) only [xs_k_ui, xs_k_ur, xs_k_uc, xs_k_un, xs_k_ub, xs_r_ui, xs_r_ur, xs_r_uc, xs_r_un, xs_r_ub, xs_t_ui, xs_t_ur, xs_t_uc, xs_t_un, xs_t_ub, xs_n_ui, xs_n_ur, xs_n_uc, xs_n_un, xs_n_ub, xs_m_ui, xs_m_ur, xs_m_uc, xs_m_un, xs_m_ub, xs_c_ui, xs_c_ur, xs_c_uc, xs_c_un, xs_c_ub, x_up_s, x_up_k, x_up_o, x_fU_s, x_fU_o]) <;> first | rfl | omega | (refine (?_ : (_ : Bool) = true); with_unfolding_all rfl)) | fail) only [↓p_xgi, ↓p_xgr, ↓p_xpi, ↓p_xpr, ↓p_xo, ↓p_xld, ↓p_xlb, ↓p_xlr, ↓p_xst, ↓p_xsb, ↓p_xsr, ↓p_xlen, ↓p_xnew, ↓p_xnwa, ↓p_xcln, ↓p_xcst, ↓p_xcall, ↓p_xcalc, ↓p_xnm, ↓p_xdv, ↓p_xrem, h_xgiE, h_xgrE, h_xpiE, h_xprE, h_xoE, h_xldE, h_xlbE, h_xlrE, h_xstE, h_xsbE, h_xsrE, h_xlenE, h_xnewE, h_xnwaE, h_xclnE, h_xcstE, h_xcallE, h_xcalcE, h_xnmE, h_xdvE, h_xremE, xs_k_ui, xs_k_ur, xs_k_uc, xs_k_un, xs_k_ub, xs_r_ui, xs_r_ur, xs_r_uc, xs_r_un, xs_r_ub, xs_t_ui, xs_t_ur, xs_t_uc, xs_t_un, xs_t_ub, xs_n_ui, xs_n_ur, xs_n_uc, xs_n_un, xs_n_ub, xs_m_ui, xs_m_ur, xs_m_uc, xs_m_un, xs_m_ub, xs_c_ui, xs_c_ur, xs_c_uc, xs_c_un, xs_c_ub, x_up_s, x_up_k, x_up_o, x_fU_s, x_fU_o, ↓reduceIte, h_ldE, h_stE, h_nmE, h_nSE, h_callE, h_callvE, h_dvE, h_remE, if_true, if_false, z_upS, z_upO, z_upK, nI_add, z_mul, z_sub, z_div, Nat.add_zero, Nat.mul_zero, Nat.zero_add, Nat.sub_zero, Nat.zero_mul, z_ltT, z_ltF, z_leT, z_leF, z_eqT, z_eqF, z_inT, z_clT, not_true_eq_false, not_false_eq_true, eq_self, true_or, or_true, z_m_lt, z_m_le, z_lt_m, z_le_m, z_eq_m, z_m_eq, z_rz0, z_rz1, z_m_add, z_of, ↓z_m1, l_0, l_1, l_2, l_3, l_4, l_5, l_6, l_7, l_8, l_9, l_10, l_11, l_12, l_13, l_14, l_15, l_16, l_17, l_18, l_19, l_20, l_21, l_22, l_23, l_24, l_25, l_26, l_27, l_28, l_29, l_30, l_31, l_32, l_33, l_34, l_35, l_36, l_37, l_38, l_39, l_40, l_41, l_42, l_43, l_44, l_45, l_46, l_47, l_48, l_49, l_50, l_51, l_52, l_53, l_54, l_55, l_56, l_57, l_59, l_60, l_61, l_62, l_63, l_64, l_65, l_80, l_86, l_87, l_88, l_89, l_90, l_91, l_92, l_93, l_94, l_95, l_97, l_99, l_100, l_107, l_119, l_122, l_124, l_129, l_140, l_141, l_142, l_143, l_144, l_145, l_147, l_150, l_159, l_160, l_161, l_162, l_205, l_253, l_255, l_256, l_269, l_305, l_380, l_399, l_400, l_420, l_430, l_516, l_600, l_720, l_820, l_905, l_921, l_937, l_953, l_970, l_999, l_1000, l_1790, l_4096, l_9999, l_1000000]
    · have hlt : k < N := by omega
      have h2m : 2 ≤ mu := by omega
      have hbd := hT.bd
      have hCb := hC.bd
      have hC1 := hC.2.1
      have hC2 := hC.2.2.1
      have hC3 := hC.2.2.2.1
      have hC4 := hC.2.2.2.2.1
      have hC0 := hC.1.2.1
      have hown : ∀ i, x_own p b mu me i → i < x_n U0 := fun i hi => by unfold x_own at hi; omega
      obtain ⟨g1, g2, g3, g4, g5⟩ := y_h_b (x := x) (k := k) h2m
      obtain ⟨w1, s, ⟨fs, ns, ms, hWs, sv, gs, ls⟩, eL⟩ := T_heed (n := n) (M := y_hM x mu k) (A := y_hA x mu k) (B := y_hB x mu k) (two := y_hT x k) hn hW (by omega) (by omega) (by omega) (by omega) (by omega)
      have c1 := hC.ext (fs.mono (fun i hi => hi.elim)) ns ms (by omega) hown
      have hlen := y_hl_len (M := y_hM x mu k) (A := y_hA x mu k) (B := y_hB x mu k) (two := y_hT x k) (by omega) (by omega) (by omega)
      obtain ⟨w2, vm2, c2, hW2, f2, q2, e2⟩ := c1.ks (n := n) (M := 400) hWs gs (by omega) (by omega) (by omega) (by omega)
      have hT1 := hT.fr fs (by omega) (fun _ _ h => h) (fun _ _ h => h)
      have hT2 := hT1.fr f2 c2.bd.2.2.1 (fun i hi h => by have := hown i hi; rcases h with q | q <;> omega) (fun i hi h => by have := hFz i hi; rcases h with q | q <;> omega)
      have ho : x_own p b mu me (b + y_hM x mu k) := by unfold x_own; omega
      have hold := hV (y_hM x mu k) g1
      have hhr : y_hr (y_hh x mu) (y_hM x mu k) (k+1) = y_hr (y_hh x mu) (y_hM x mu k) k ||| y_hset (y_hA x mu k) (y_hB x mu k) (y_hT x k) := if_pos rfl
      have hT3 : x_TB (x_ui w2 (b + y_hM x mu k) 4 (nI (y_hr (y_hh x mu) (y_hM x mu k) (k+1)))) Fz p b L pl pa mu me d (z_u V (129 + y_hM x mu k) (nI (y_hr (y_hh x mu) (y_hM x mu k) (k+1)))) := hT2.ui ho (hT2.2.1.hd (by omega) (by omega) (by omega) g1) (z_uK (by omega)) (fun a a1 a2 => z_uK (by omega))
      have c3 := c2.ext (a := 0) (b := 0) (x_fr.ui (k := 4) (v := nI (y_hr (y_hh x mu) (y_hM x mu k) (k+1))) ho) (Nat.le_refl _) (Nat.le_refl _) c2.bd.2.2.1 hown
      have hW3 : y_WC Lx xs (x_ui w2 (b + y_hM x mu k) 4 (nI (y_hr (y_hh x mu) (y_hM x mu k) (k+1)))) := hW2.fr (x_fr.ui (own := x_own p b mu me) ho) (fun i hi => by have := hown i hi; omega)
      obtain ⟨w', V', vm', a1, a2, a3, a4, a5, a6⟩ := ih (k+1) _ _ vm2 _ _ _ (by omega) (by omega) c3 hW3 hT3 (fun m hm => by
        by_cases e : m = y_hM x mu k
        · subst e; exact z_uS
        · rw [z_uK (by omega), hV m hm]
          have : y_hr (y_hh x mu) m (k+1) = y_hr (y_hh x mu) m k := if_neg (fun h => e h.symm)
          rw [this]) (by omega) (by rw [List.length_append]; omega)
      refine ⟨w', V', vm', ?_, a2, a3, fun a ha => by rw [a4 a ha, z_uK (by omega)], a5, fun K => ?_⟩
      · have e1 : N - k = (N - (k+1)) + 1 := by omega
        have e3 : lm ++ y_hl (y_hM x mu k) (y_hA x mu k) (y_hB x mu k) (y_hT x k) ++ y_cat (y_fH x mu) (N - (k+1)) (k+1) = lm ++ y_cat (y_fH x mu) (N - k) k := by
          rw [e1, y_cat_s, List.append_assoc]
          rfl
        rw [e3] at a1
        obtain ⟨z1, z2, z3, z4⟩ := a1
        exact ⟨z1, by omega, by omega, z4⟩
      · have z1 : nI mu - 1 = nI (mu - 1) := by
          rw [show (1 : Int32) = nI 1 from rfl]
          exact z_sub (by omega)
        have eB1 : F_L_between n ((x * (nI k + 3)) + (281 * nI k)) 0 (nI mu - 1) w = some (nI (y_hM x mu k), w) := by
          rw [z1]; exact F_btw (v := y_vh x k) (lo := 0) (by omega) (by omega)
        have eB2 : F_L_between n (((x * (nI k + 3)) + (281 * nI k)) >>> (4 &&& 31)) 1 (nI mu - 1) w = some (nI (y_bt (y_vh x k >>> (4 &&& 31)) 1 (mu - 1)), w) := by
          rw [z1]; exact F_btw (v := y_vh x k >>> (4 &&& 31)) (lo := 1) (by omega) (by omega)
        have eB3 : F_L_between n (((x * (nI k + 3)) + (281 * nI k)) >>> (6 &&& 31)) 1 (nI mu - 1) w = some (nI (y_bt (y_vh x k >>> (6 &&& 31)) 1 (mu - 1)), w) := by
          rw [z1]; exact F_btw (v := y_vh x k >>> (6 &&& 31)) (lo := 1) (by omega) (by omega)
        have r4 := y_bt_b (v := y_vh x k >>> (4 &&& 31)) (lo := 1) (hi := mu - 1) (by omega)
        have r6 := y_bt_b (v := y_vh x k >>> (6 &&& 31)) (lo := 1) (hi := mu - 1) (by omega)
        have hVT := hT.TV
        have hVT2 := hT2.TV
        have e2' := e2
        rw [← a6 K]
        obtain ⟨⟨-, ⟨u1, u2, u3, u4, u5, u6⟩, ⟨s1, s2, s3, s4, s5, s6, s7, s8⟩⟩, -, um, -⟩ := hVT2
        obtain ⟨⟨⟨a1, a2, a3, a4, a5, a6⟩, ⟨k1, k2, k3, k4, k5, k6⟩, ⟨r1, r2, r3, r4, r5, r6, r7, r8⟩⟩, ⟨t0, t1, t2, t3, t4, t5, t6, t7, t8, t9, ta⟩, tm, tk⟩ := hVT
        have u5k := u5 _ g1
        have s7k := s7 _ g1
        have um4 : x_t w2 (b + y_hM x mu k) 4 = nI (y_hr (y_hh x mu) (y_hM x mu k) k) := by rw [(um _ g1).2.2.2.2.1]; exact hold
        have esA := z_shl (m := y_hA x mu k) (by omega)
        have esB := z_shl (m := y_hB x mu k) (by omega)
        rw [F_L_texts_L67, if_pos ((nI_ltI (by omega) (by omega)).mpr hlt), x_nmE, p_xgi, h_xgiE k1, t7, eB1, z_xcall, p_xgi, h_xgiE k1, t7, eB2, z_xcall, p_xgi, h_xgiE k1, t7, nI_add, p_xrem, h_xremE (by omega) (by omega) (by omega), p_xgi, h_xgiE k1, t7, eB3, z_xcall, p_xgi, h_xgiE k1, t7, nI_add, p_xrem, h_xremE (by omega) (by omega) (by omega), x_nmE]
        by_cases hc : ((((x * (nI k + 3)) + (281 * nI k)) >>> (8 &&& 31)) &&& 1) = 1
        · have ht : y_hT x k = true := decide_eq_true hc
          rw [if_pos hc]
          rw [ht] at eL
          refine (eL _ _).trans ?_
          refine (e2 _ _).trans ?_
          rw [p_xgr, h_xgrE u1, s1, p_xlr, h_xlrE u2 (by omega) (by omega) (by omega), s7k, show (4 : Int32) = nI 4 from rfl, p_xld, h_xldE u5k (by omega) (by omega), um4, x_nmE, if_neg (by decide)]
          have eV : nI (y_hr (y_hh x mu) (y_hM x mu k) k) ||| (nI 1 <<< (nI (y_hA x mu k) &&& nI 31) ||| nI 1 <<< (nI (y_hB x mu k) &&& nI 31)) = nI (y_hr (y_hh x mu) (y_hM x mu k) (k+1)) := by
            rw [esA, esB, z_or, z_or, hhr, ht]
            rfl
          refine Eq.trans (b := x_st w2 (b + y_hM x mu k) (nI 4) (nI (y_hr (y_hh x mu) (y_hM x mu k) k) ||| (nI 1 <<< (nI (y_hA x mu k) &&& nI 31) ||| nI 1 <<< (nI (y_hB x mu k) &&& nI 31))) fun s67 => F_L_texts_L67 n p x (nI N) om K j (nI k + nI 1) s67) rfl ?_
          rw [eV, p_xst, h_xstE u5k (by omega) (by omega), nI_add]
        · have ht : y_hT x k = false := decide_eq_false hc
          rw [if_neg hc]
          rw [ht] at eL
          refine (eL _ _).trans ?_
          refine (e2 _ _).trans ?_
          rw [p_xgr, h_xgrE u1, s1, p_xlr, h_xlrE u2 (by omega) (by omega) (by omega), s7k, show (4 : Int32) = nI 4 from rfl, p_xld, h_xldE u5k (by omega) (by omega), um4, x_nmE, if_pos (by decide)]
          have eV : nI (y_hr (y_hh x mu) (y_hM x mu k) k) ||| (nI 1 <<< (nI (y_hA x mu k) &&& nI 31) ||| nI 0) = nI (y_hr (y_hh x mu) (y_hM x mu k) (k+1)) := by
            rw [esA, z_or, z_or, hhr, ht]
            rfl
          refine Eq.trans (b := x_st w2 (b + y_hM x mu k) (nI 4) (nI (y_hr (y_hh x mu) (y_hM x mu k) k) ||| (nI 1 <<< (nI (y_hA x mu k) &&& nI 31) ||| nI 0)) fun s67 => F_L_texts_L67 n p x (nI N) om K j (nI k + nI 1) s67) rfl ?_
          rw [eV, p_xst, h_xstE u5k (by omega) (by omega), nI_add]
end HE
