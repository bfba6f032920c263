/-! the book -/
theorem x_TK.of {u u' : x_U} {p b L pl pa mu me : Nat} (h : x_TK u p b L pl pa mu me) (hn : x_n u ≤ x_n u') (hn2 : x_n u' ≤ 500000) (hk : ∀ i, i < x_n u → x_k u' i = x_k u i) (hr : ∀ i, p ≤ i → i ≤ p+2 → x_r u' i = x_r u i) : x_TK u' p b L pl pa mu me := by
  obtain ⟨⟨a1, a2, a3, a4, a5, a6⟩, ⟨k1, k2, k3, k4, k5, k6⟩, ⟨r1, r2, r3, r4, r5, r6, r7, r8⟩⟩ := h
  have e0 := hr p (by omega) (by omega)
  have e1 := hr (p+1) (by omega) (by omega)
  have e2 := hr (p+2) (by omega) (by omega)
  refine ⟨⟨a1, a2, by omega, hn2, a5, a6⟩, ⟨by rw [hk _ (by omega)]; exact k1, by rw [hk _ (by omega)]; exact k2, by rw [hk _ (by omega)]; exact k3, by rw [hk _ (by omega)]; exact k4, fun m hm => by rw [hk _ (by omega)]; exact k5 m hm, fun k hk' => by rw [hk _ (by omega)]; exact k6 k hk'⟩, ?_⟩
  rw [e0, e1, e2]
  exact ⟨r1, r2, r3, r4, r5, r6, r7, r8⟩
theorem x_TI.cg {τ : q_Sto} {p b mu me : Nat} {V V' : Nat → Int32} (h : x_TI τ p b mu me V) (hmu : mu ≤ 12) (hme : me ≤ 5) (e : ∀ a, a < 141 → V' a = V a) : x_TI τ p b mu me V' := by
  obtain ⟨h1, h2, h3⟩ := h
  refine ⟨?_, fun m hm => ?_, fun k hk => ?_⟩
  · rw [e 5 (by omega), e 0 (by omega), e 1 (by omega), e 2 (by omega), e 3 (by omega), e 4 (by omega), e 88 (by omega), e 6 (by omega), e 90 (by omega)]
    exact h1
  · obtain ⟨q0, q1, q2, q3, q4, q5⟩ := h2 m hm
    rw [e (95+m) (by omega), e (107+m) (by omega), e 7 (by omega), e (8+m) (by omega), e (129+m) (by omega)]
    exact ⟨q0, q1, q2, q3, q4, fun k hk => by rw [e (20+5*m+k) (by omega)]; exact q5 k hk⟩
  · rw [e (80+k) (by omega), e (119+k) (by omega), e (124+k) (by omega)]
    exact h3 k hk
/-- what a step does to the law's world -/
def x_sp (own : Nat → Prop) (dn dm : Nat) (u u' : x_U) (Fz Fz' : Nat → Prop) : Prop := x_fr own u u' ∧ x_n u' ≤ x_n u + dn ∧ x_m u' ≤ x_m u + dm ∧ (∀ i, Fz i → Fz' i) ∧ ∀ i, Fz' i → Fz i ∨ x_n u ≤ i
theorem x_sp.rf {own : Nat → Prop} {dn dm : Nat} {u : x_U} {Fz : Nat → Prop} : x_sp own dn dm u u Fz Fz := ⟨x_fr.rf, Nat.le_add_right _ _, Nat.le_add_right _ _, fun _ h => h, fun _ h => Or.inl h⟩
theorem x_sp.tr {own : Nat → Prop} {d1 d2 d3 m1 m2 m3 : Nat} {a b c : x_U} {F G H : Nat → Prop} (h : x_sp own d1 m1 a b F G) (g : x_sp own d2 m2 b c G H) (hd : d1 + d2 ≤ d3) (hm : m1 + m2 ≤ m3) : x_sp own d3 m3 a c F H := by
  obtain ⟨h1, h2, h3, h4, h5⟩ := h
  obtain ⟨g1, g2, g3, g4, g5⟩ := g
  refine ⟨h1.tr g1, by omega, by omega, fun i hi => g4 i (h4 i hi), fun i hi => ?_⟩
  rcases g5 i hi with q | q
  · exact h5 i q
  · exact Or.inr (Nat.le_trans h1.2.1 q)
theorem x_sp.w {own : Nat → Prop} {d1 d3 m1 m3 : Nat} {a b : x_U} {F G : Nat → Prop} (h : x_sp own d1 m1 a b F G) (hd : d1 ≤ d3) (hm : m1 ≤ m3) : x_sp own d3 m3 a b F G := x_sp.tr h (x_sp.rf (dn := 0) (dm := 0)) (by omega) (by omega)
theorem x_sp.ui {own : Nat → Prop} {dn dm o k : Nat} {v : Int32} {u : x_U} {Fz : Nat → Prop} (h : own o) : x_sp own dn dm u (x_ui u o k v) Fz Fz := ⟨x_fr.ui h, Nat.le_add_right _ _, Nat.le_add_right _ _, fun _ h => h, fun _ h => Or.inl h⟩
theorem F_notes {n p b L pl pa mu me : Nat} {d : Nat → Nat} {V : Nat → Int32} {Fz : Nat → Prop} {u : x_U} {x y z : Int32} (hT : x_TN u Fz p b L pl pa mu me d V) (hn : x_n u < 500000) :
    ∃ u' Fz', x_sp (x_own p b mu me) 1 4 u u' Fz Fz' ∧ x_TN u' Fz' p b L pl pa mu me d (z_note true V x y z) ∧ F_X12_notes n p x y z (nI 1) u = some (nI 0, u') := by
  obtain ⟨h1, h2, h3, h4, h5, h6, h7, ⟨w, w1, w2, w3⟩⟩ := hT
  have hV : x_TV u p b L pl pa mu me V := ⟨h1, h2⟩
  by_cases hw : w = 150
  · subst hw
    have e : z_note true V x y z = V := by
      unfold z_note
      rw [if_neg (fun q => q.2 w2)]
    rw [e]
    refine ⟨u, Fz, x_sp.rf, ⟨h1, h2, h3, h4, h5, h6, h7, 150, w1, w2, w3⟩, ?_⟩
    obtain ⟨⟨⟨a1, a2, a3, a4, a5, a6⟩, ⟨k1, k2, k3, k4, k5, k6⟩, ⟨r1, r2, r3, r4, r5, r6, r7, r8⟩⟩, ⟨t0, t1, t2, t3, t4, t5, t6, t7, t8, t9, ta⟩, tm, tk⟩ := hV
    unfold F_X12_notes
    simp (disch := first | omega | ((try simp (disch := omega) only [k1, k2, k3, k4, k5, k6, r1, r2, r3, r4, r5, r6, r7, r8, t0, t1, t2, t3, t4, t5, t6, t7, t8, t9, ta, tm, tk, w2, xs_k_ui, xs_k_ur, xs_k_uc, xs_k_un, xs_k_ub, xs_r_ui, xs_r_ur, xs_r_uc, xs_r_un, xs_r_ub, xs_t_ui, xs_t_ur, xs_t_uc, xs_t_un, xs_t_ub, xs_n_ui, xs_n_ur, xs_n_uc, xs_n_un, xs_n_ub, xs_m_ui, xs_m_ur, xs_m_uc, xs_m_un, xs_m_ub, xs_c_ui, xs_c_ur, xs_c_uc, xs_c_un, xs_c_ub, x_up_s, x_up_k, x_up_o, x_fU_s, x_fU_o]) <;> first | rfl | omega | (refine (?_ : (_ : Bool) = true); with_unfolding_all rfl)) | fail) only [k1, k2, k3, k4, k5, k6, r1, r2, r3, r4, r5, r6, r7, r8, t0, t1, t2, t3, t4, t5, t6, t7, t8, t9, ta, tm, tk, w2, ↓p_xgi, ↓p_xgr, ↓p_xpi, ↓p_xpr, ↓p_xo, ↓p_xld, ↓p_xlb, ↓p_xlr, ↓p_xst, ↓p_xsb, ↓p_xsr, ↓p_xlen, ↓p_xnew, ↓p_xnwa, ↓p_xcln, ↓p_xcst, ↓p_xcall, ↓p_xcalc, ↓p_xnm, ↓p_xdv, ↓p_xrem, h_xgiE, h_xgrE, h_xpiE, h_xprE, h_xoE, h_xldE, h_xlbE, h_xlrE, h_xstE, h_xsbE, h_xsrE, h_xlenE, h_xnewE, h_xnwaE, h_xclnE, h_xcstE, h_xcallE, h_xcalcE, h_xnmE, h_xdvE, h_xremE, xs_k_ui, xs_k_ur, xs_k_uc, xs_k_un, xs_k_ub, xs_r_ui, xs_r_ur, xs_r_uc, xs_r_un, xs_r_ub, xs_t_ui, xs_t_ur, xs_t_uc, xs_t_un, xs_t_ub, xs_n_ui, xs_n_ur, xs_n_uc, xs_n_un, xs_n_ub, xs_m_ui, xs_m_ur, xs_m_uc, xs_m_un, xs_m_ub, xs_c_ui, xs_c_ur, xs_c_uc, xs_c_un, xs_c_ub, x_up_s, x_up_k, x_up_o, x_fU_s, x_fU_o, ↓reduceIte, h_ldE, h_stE, h_nmE, h_nSE, h_callE, h_callvE, h_dvE, h_remE, if_true, if_false, z_upS, z_upO, z_upK, nI_add, z_mul, z_sub, z_div, Nat.add_zero, Nat.mul_zero, Nat.zero_add, Nat.sub_zero, Nat.zero_mul, z_ltT, z_ltF, z_leT, z_leF, z_eqT, z_eqF, z_inT, z_clT, not_true_eq_false, not_false_eq_true, eq_self, true_or, or_true, z_m_lt, z_m_le, z_lt_m, z_le_m, z_eq_m, z_m_eq, z_rz0, z_rz1, z_m_add, z_of, ↓z_m1, l_0, l_1, l_2, l_3, l_4, l_5, l_6, l_7, l_8, l_9, l_10, l_11, l_12, l_13, l_14, l_15, l_16, l_17, l_18, l_19, l_20, l_21, l_22, l_23, l_24, l_25, l_26, l_27, l_28, l_29, l_30, l_31, l_32, l_33, l_34, l_35, l_36, l_37, l_38, l_39, l_40, l_41, l_42, l_43, l_44, l_45, l_46, l_47, l_48, l_49, l_50, l_51, l_52, l_53, l_54, l_55, l_56, l_57, l_59, l_60, l_61, l_62, l_63, l_64, l_65, l_80, l_86, l_87, l_88, l_89, l_90, l_91, l_92, l_93, l_94, l_95, l_97, l_99, l_100, l_107, l_119, l_122, l_124, l_129, l_140, l_141, l_142, l_143, l_144, l_145, l_147, l_150, l_159, l_160, l_161, l_162, l_205, l_253, l_255, l_256, l_269, l_305, l_380, l_399, l_400, l_420, l_430, l_516, l_600, l_720, l_820, l_905, l_921, l_937, l_953, l_970, l_999, l_1000, l_1790, l_4096, l_9999, l_1000000]
  · have e : z_note true V x y z = z_u (z_u (z_u (z_u (z_u V (305+4*w) (V 0)) (305+4*w+1) x) (305+4*w+2) y) (305+4*w+3) z) 6 (nI (w + 1)) := by
      unfold z_note
      rw [if_pos ⟨rfl, by rw [w2, Ne, nI_eq (by omega) (by omega)]; exact hw⟩, w2, zn_nI (by omega)]
    have a := h1.1
    let U : x_U := x_ur (x_ui (x_ui (x_ui (x_ui (x_un (x_ui u p 9 (nI (w+1))) (.inr (4, 0)) 4 (fun _ => 0)) (x_n u) 0 (V 0)) (x_n u) 1 x) (x_n u) 2 y) (x_n u) 3 z) (p+5) w (x_n u)
    have hf : x_fr (x_own p b mu me) u U := by
      have o1 : x_own p b mu me p := by unfold x_own; omega
      have o2 : x_own p b mu me (p+5) := by unfold x_own; omega
      refine (x_fr.ui o1).tr (b := x_ui u p 9 (nI (w+1))) ?_
      refine ⟨rfl, Nat.le_succ _, Nat.le_add_right _ _, fun i hi => x_fU_o ?_, fun i hi ho => ?_⟩
      · show i ≠ x_n u
        have : x_n (x_ui u p 9 (nI (w+1))) = x_n u := rfl
        omega
      · have : x_n (x_ui u p 9 (nI (w+1))) = x_n u := rfl
        have hi2 : i ≠ x_n u := by omega
        have hi3 : i ≠ p+5 := fun q => ho (q ▸ o2)
        refine ⟨?_, ?_⟩
        · show x_up (x_fU (x_r u) (x_n u) _) (p+5) w (x_n u) i = _
          rw [x_up_o hi3, x_fU_o hi2]
          rfl
        · show x_up (x_up (x_up (x_up (x_fU (x_t (x_ui u p 9 (nI (w+1)))) (x_n u) _) (x_n u) 0 (V 0)) (x_n u) 1 x) (x_n u) 2 y) (x_n u) 3 z i = _
          rw [x_up_o hi2, x_up_o hi2, x_up_o hi2, x_up_o hi2, x_fU_o hi2]
    have hF : ∀ i, Fz i → i < x_n u ∧ ¬ x_own p b mu me i := fun i hi => ⟨h3.1 i hi, fun q => h3.2 i q hi⟩
    have hG : ∀ i, Fz i → (fun i => Fz i ∨ i = x_n u) i := fun i hi => Or.inl hi
    have ev : ∀ a, a ≠ 6 → a < 305 ∨ 905 ≤ a → z_note true V x y z a = V a := fun a a1 a2 => z_note_o ⟨w, w1, w2⟩ a1 a2
    have hown : ∀ i, x_own p b mu me i → i < x_n u := fun i hi => by unfold x_own at hi; omega
    have et : ∀ i, i < x_n u → x_t U i = x_up (x_t u) p 9 (nI (w+1)) i := fun i hi => by
      have hi2 : i ≠ x_n u := by omega
      show x_up (x_up (x_up (x_up (x_fU (x_t (x_ui u p 9 (nI (w+1)))) (x_n u) _) (x_n u) 0 (V 0)) (x_n u) 1 x) (x_n u) 2 y) (x_n u) 3 z i = _
      rw [x_up_o hi2, x_up_o hi2, x_up_o hi2, x_up_o hi2, x_fU_o hi2]
      rfl
    refine ⟨U, fun i => Fz i ∨ i = x_n u, ⟨hf, Nat.le_refl _, Nat.le_refl _, hG, fun i hi => hi.elim Or.inl (fun q => Or.inr (Nat.le_of_eq q.symm))⟩, ⟨?_, ?_, ⟨fun i hi => ?_, fun i hi hz => ?_⟩, fun hL => Or.inl (h4 hL), h5.fr hf (fun hL => hF _ (h4 hL)), (h6.cg (fun a ha => ev a (by omega) (by omega))).fr hf hF hG, (h7.cg (fun a ha => ev a (by omega) (by omega))).fr hf hF hG, w+1, by omega, by rw [e]; exact z_uS, fun i hi => ?_⟩, ?_⟩
    · exact h1.of (Nat.le_succ _) hn (fun i hi => x_fU_o (by show i ≠ x_n u; omega)) (fun i i1 i2 => by
        show x_up (x_fU (x_r u) (x_n u) _) (p+5) w (x_n u) i = _
        rw [x_up_o (by omega), x_fU_o (by omega)])
    · have q := (h2.sc (f := 9) (a := 6) (x := nI (w+1)) (by omega) (by omega) (by omega) (by omega)).of (τ' := x_t U) (fun i hi => et i (hown i hi))
      refine q.cg (by omega) (by omega) (fun a ha => ?_)
      by_cases h6 : a = 6
      · subst h6; rw [e, z_uS, z_uS]
      · rw [z_uK h6]; exact ev a h6 (by omega)
    · rcases hi with hi | hi
      · exact Nat.lt_succ_of_lt (h3.1 i hi)
      · subst hi; exact Nat.lt_succ_self _
    · rcases hz with hz | hz
      · exact h3.2 i hi hz
      · subst hz
        have := hown _ hi
        omega
    · have er : ∀ j, x_r U (p+5) j = if j = w then x_n u else x_r u (p+5) j := fun j => by
        show x_up (x_fU (x_r u) (x_n u) _) (p+5) w (x_n u) (p+5) j = _
        have : x_fU (x_r u) (x_n u) (fun _ => 0) (p+5) = x_r u (p+5) := x_fU_o (by omega)
        simp [x_up, this]
      rw [er]
      by_cases hiw : i = w
      · subst hiw
        rw [if_pos rfl]
        refine ⟨Or.inr rfl, x_fU_s, fun c hc => ?_⟩
        have : c = 0 ∨ c = 1 ∨ c = 2 ∨ c = 3 := by omega
        show x_up (x_up (x_up (x_up (x_fU (x_t (x_ui u p 9 (nI (i+1)))) (x_n u) _) (x_n u) 0 (V 0)) (x_n u) 1 x) (x_n u) 2 y) (x_n u) 3 z (x_n u) c = _
        rw [e]
        rcases this with rfl | rfl | rfl | rfl
        · rw [x_up_k (by omega), x_up_k (by omega), x_up_k (by omega), x_up_s, z_uK (by omega), z_uK (by omega), z_uK (by omega), z_uK (by omega)]
          exact z_uS.symm
        · rw [x_up_k (by omega), x_up_k (by omega), x_up_s, z_uK (by omega), z_uK (by omega), z_uK (by omega), z_uS]
        · rw [x_up_k (by omega), x_up_s, z_uK (by omega), z_uK (by omega), z_uS]
        · rw [x_up_s, z_uK (by omega), z_uS]
      · rw [if_neg hiw]
        obtain ⟨q1, q2, q3⟩ := w3 i (by omega)
        have hq := h3.1 _ q1
        refine ⟨Or.inl q1, by rw [hf.2.2.2.1 _ (Or.inl hq)]; exact q2, fun c hc => ?_⟩
        rw [(hf.2.2.2.2 _ (Or.inl hq) (hF _ q1).2).2, q3 c hc, e, z_uK (by omega), z_uK (by omega), z_uK (by omega), z_uK (by omega), z_uK (by omega)]
    · obtain ⟨⟨⟨a1, a2, a3, a4, a5, a6⟩, ⟨k1, k2, k3, k4, k5, k6⟩, ⟨r1, r2, r3, r4, r5, r6, r7, r8⟩⟩, ⟨t0, t1, t2, t3, t4, t5, t6, t7, t8, t9, ta⟩, tm, tk⟩ := hV
      unfold F_X12_notes
      simp (disch := first | omega | ((try simp (disch := omega) only [k1, k2, k3, k4, k5, k6, r1, r2, r3, r4, r5, r6, r7, r8, t0, t1, t2, t3, t4, t5, t6, t7, t8, t9, ta, tm, tk, w2, xs_k_ui, xs_k_ur, xs_k_uc, xs_k_un, xs_k_ub, xs_r_ui, xs_r_ur, xs_r_uc, xs_r_un, xs_r_ub, xs_t_ui, xs_t_ur, xs_t_uc, xs_t_un, xs_t_ub, xs_n_ui, xs_n_ur, xs_n_uc, xs_n_un, xs_n_ub, xs_m_ui, xs_m_ur, xs_m_uc, xs_m_un, xs_m_ub, xs_c_ui, xs_c_ur, xs_c_uc, xs_c_un, xs_c_ub, x_up_s, x_up_k, x_up_o, x_fU_s, x_fU_o]) <;> first | rfl | omega | (refine (?_ : (_ : Bool) = true); with_unfolding_all rfl)) | fail) only [k1, k2, k3, k4, k5, k6, r1, r2, r3, r4, r5, r6, r7, r8, t0, t1, t2, t3, t4, t5, t6, t7, t8, t9, ta, tm, tk, w2, ↓p_xgi, ↓p_xgr, ↓p_xpi, ↓p_xpr, ↓p_xo, ↓p_xld, ↓p_xlb, ↓p_xlr, ↓p_xst, ↓p_xsb, ↓p_xsr, ↓p_xlen, ↓p_xnew, ↓p_xnwa, ↓p_xcln, ↓p_xcst, ↓p_xcall, ↓p_xcalc, ↓p_xnm, ↓p_xdv, ↓p_xrem, h_xgiE, h_xgrE, h_xpiE, h_xprE, h_xoE, h_xldE, h_xlbE, h_xlrE, h_xstE, h_xsbE, h_xsrE, h_xlenE, h_xnewE, h_xnwaE, h_xclnE, h_xcstE, h_xcallE, h_xcalcE, h_xnmE, h_xdvE, h_xremE, xs_k_ui, xs_k_ur, xs_k_uc, xs_k_un, xs_k_ub, xs_r_ui, xs_r_ur, xs_r_uc, xs_r_un, xs_r_ub, xs_t_ui, xs_t_ur, xs_t_uc, xs_t_un, xs_t_ub, xs_n_ui, xs_n_ur, xs_n_uc, xs_n_un, xs_n_ub, xs_m_ui, xs_m_ur, xs_m_uc, xs_m_un, xs_m_ub, xs_c_ui, xs_c_ur, xs_c_uc, xs_c_un, xs_c_ub, x_up_s, x_up_k, x_up_o, x_fU_s, x_fU_o, ↓reduceIte, h_ldE, h_stE, h_nmE, h_nSE, h_callE, h_callvE, h_dvE, h_remE, if_true, if_false, z_upS, z_upO, z_upK, nI_add, z_mul, z_sub, z_div, Nat.add_zero, Nat.mul_zero, Nat.zero_add, Nat.sub_zero, Nat.zero_mul, z_ltT, z_ltF, z_leT, z_leF, z_eqT, z_eqF, z_inT, z_clT, not_true_eq_false, not_false_eq_true, eq_self, true_or, or_true, z_m_lt, z_m_le, z_lt_m, z_le_m, z_eq_m, z_m_eq, z_rz0, z_rz1, z_m_add, z_of, ↓z_m1, l_0, l_1, l_2, l_3, l_4, l_5, l_6, l_7, l_8, l_9, l_10, l_11, l_12, l_13, l_14, l_15, l_16, l_17, l_18, l_19, l_20, l_21, l_22, l_23, l_24, l_25, l_26, l_27, l_28, l_29, l_30, l_31, l_32, l_33, l_34, l_35, l_36, l_37, l_38, l_39, l_40, l_41, l_42, l_43, l_44, l_45, l_46, l_47, l_48, l_49, l_50, l_51, l_52, l_53, l_54, l_55, l_56, l_57, l_59, l_60, l_61, l_62, l_63, l_64, l_65, l_80, l_86, l_87, l_88, l_89, l_90, l_91, l_92, l_93, l_94, l_95, l_97, l_99, l_100, l_107, l_119, l_122, l_124, l_129, l_140, l_141, l_142, l_143, l_144, l_145, l_147, l_150, l_159, l_160, l_161, l_162, l_205, l_253, l_255, l_256, l_269, l_305, l_380, l_399, l_400, l_420, l_430, l_516, l_600, l_720, l_820, l_905, l_921, l_937, l_953, l_970, l_999, l_1000, l_1790, l_4096, l_9999, l_1000000]
      rfl
