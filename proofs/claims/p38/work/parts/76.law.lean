/-! THE LAW's reader: a line -/
def zl_g1 (R : zl_Rs) : Prop := ∀ f q, R = Sum.inl (f, q) → 1 ≤ f ∧ f ≤ 3
theorem zl_g1.l {f q : Nat} (h : 1 ≤ f ∧ f ≤ 3) : zl_g1 (Sum.inl (f, q)) := fun f q h => by cases h; assumption
theorem zl_g1.r {x : Bool × zl_S} : zl_g1 (Sum.inr x) := fun f q h => by cases h
theorem zl_g1.i {c : Prop} [Decidable c] {A B : zl_Rs} (h : zl_g1 A) (g : zl_g1 B) : zl_g1 (if c then A else B) := by
  by_cases q : c
  · rw [if_pos q]; exact h
  · rw [if_neg q]; exact g
theorem zl_stp_g1 {T : zt_T} {s : zl_S} : zl_g1 (zl_stp T s) := by
  obtain ⟨p, W, O, ex, iw, ic⟩ := s
  have hopd : ∀ iw ic, zl_g1 (zl_opd T p W O iw ic) := fun iw ic => zl_g1.i zl_g1.r (zl_g1.i zl_g1.r (zl_g1.l (by omega)))
  have hopn : ∀ x, zl_g1 (zl_opn T x p W O iw) := fun x => zl_g1.i zl_g1.r (zl_g1.l (by omega))
  have hj : ∀ x ex ic, zl_g1 (zl_join T x ex p W O iw ic) := fun x ex ic => zl_g1.r
  have hen : ∀ ex, zl_g1 (zl_endl T p W O ex iw ic) := fun ex => zl_g1.i zl_g1.r (zl_g1.l (by omega))
  have hta : ∀ ex, zl_g1 (zl_tail T p W O ex iw ic) := fun ex => zl_g1.i (hj _ _ _) (zl_g1.i (hj _ _ _) (zl_g1.i (hen ex) (zl_g1.i zl_g1.r (zl_g1.l (by omega)))))
  have hsg : zl_g1 (zl_sgn T p W O iw ic) := zl_g1.i (zl_g1.i (zl_g1.i (zl_g1.l (by omega)) zl_g1.r) (zl_g1.l (by omega))) (zl_g1.i (hj _ _ _) (zl_g1.i (hj _ _ _) (zl_g1.i (hj _ _ _) (zl_g1.i (zl_g1.i zl_g1.r (hen 2)) (zl_g1.i (zl_g1.i (hj _ _ _) (zl_g1.i (hj _ _ _) (zl_g1.i (hj _ _ _) (zl_g1.l (by omega))))) (hta 2))))))
  exact zl_g1.i (hopd _ _) (zl_g1.i (zl_g1.i (hopn _) (zl_g1.i (hopn _) (hopd _ _))) (zl_g1.i hsg (hta ex)))
theorem zl_flt.g1 {T : zt_T} {s : zl_S} {f q : Nat} (h : zl_flt T s f q) : 1 ≤ f ∧ f ≤ 3 := by
  obtain ⟨b, -, hb⟩ := h
  exact zl_stp_g1 f q hb
/-- how a line without when ends -/
theorem zl_ln_A {T : zt_T} {p q : Nat} {c O : List (Nat × Nat)} (ic : Int32) (h : zl_m T 5 p c q) (hq : zt_cd 0 T q = 159) : ∃ b e, zl_rch T (p, [], O, 0, 0, ic) b ∧ zl_stp T b = Sum.inr (false, e) ∧ e.1 = zt_nx T q ∧ e.2.1 = [] ∧ e.2.2.1 = c ++ O ∧ e.2.2.2.2.1 = 0 := by
  obtain ⟨W', O', k1, k2⟩ := h.2 [] O 0 0 ic trivial (Or.inl rfl)
  rw [if_pos (rfl : 0 = 0)] at k1
  have k3 := zl_rel_of (show 1 ≤ 5 by omega) k2
  have e0 : zl_rel 1 [] (c ++ O) = ([], c ++ O) := rfl
  rw [e0] at k3
  refine ⟨_, (zt_nx T q, [], c ++ O, 2, 0, ic), k1, ?_, rfl, rfl, rfl, rfl⟩
  rw [zl_stp_s]
  unfold zl_sgn zl_when zl_endl
  rw [if_neg (by omega), if_neg (by omega), if_neg (by omega), if_neg (by omega), if_pos rfl, if_neg (by omega), if_pos hq, k3]
theorem zl_ln_AF {T : zt_T} {p q : Nat} {c O : List (Nat × Nat)} (ic : Int32) (h : zl_m T 5 p c q) (ha : ¬ zl_ar (zt_cd 0 T q)) (h3 : zt_cd 0 T q ≠ 3) (hq : zt_cd 0 T q ≠ 159) : zl_flt T (p, [], O, 0, 0, ic) 1 (zt_at T q) := by
  obtain ⟨W', O', k1, k2⟩ := h.2 [] O 0 0 ic trivial (Or.inl rfl)
  refine zl_flt.now k1 ?_
  unfold zl_ar at ha
  rw [zl_stp_s]
  unfold zl_sgn zl_when zl_endl
  rw [if_neg (by omega), if_neg (by omega), if_neg (by omega), if_neg (by omega), if_pos rfl, if_neg h3, if_neg hq]
/-- when -/
theorem zl_ln_W {T : zt_T} {p q : Nat} {c O : List (Nat × Nat)} (ic : Int32) (h : zl_m T 5 p c q) (h3 : zt_cd 0 T q = 3) : ∃ ic', zl_rch T (p, [], O, 0, 0, ic) (zt_nx T q, [], c ++ O, 1, (c ++ O).length + 1, ic') := by
  obtain ⟨W', O', k1, k2⟩ := h.2 [] O 0 0 ic trivial (Or.inl rfl)
  rw [if_pos (rfl : 0 = 0)] at k1
  have k3 := zl_rel_of (show 1 ≤ 5 by omega) k2
  have e0 : zl_rel 1 [] (c ++ O) = ([], c ++ O) := rfl
  rw [e0] at k3
  refine ⟨ic, k1.trans (zl_rch.cons ?_ (zl_rch.refl _))⟩
  rw [zl_stp_s]
  unfold zl_sgn zl_when
  rw [if_neg (by omega), if_neg (by omega), if_neg (by omega), if_neg (by omega), if_pos rfl, if_pos h3, k3]
theorem zl_ln_B {T : zt_T} {p q q2 : Nat} {c u O : List (Nat × Nat)} (ic : Int32) (h : zl_m T 5 p c q) (h3 : zt_cd 0 T q = 3) (g : zl_t T 1 (zt_nx T q) u q2 0) (hq : zt_cd 0 T q2 = 159) : ∃ b e, zl_rch T (p, [], O, 0, 0, ic) b ∧ zl_stp T b = Sum.inr (false, e) ∧ e.1 = zt_nx T q2 ∧ e.2.1 = [] ∧ e.2.2.1 = u ++ (c ++ O) ∧ e.2.2.2.2.1 = (c ++ O).length + 1 := by
  obtain ⟨ic', k0⟩ := zl_ln_W (O := O) ic h h3
  obtain ⟨W', O', ex', ic2, k1, k2, k3⟩ := g.2 [] (c ++ O) ((c ++ O).length + 1) ic' trivial rfl (by omega)
  have hcb : zl_cb W' = 0 := by
    have := zl_rel_cb (r := 1) (Nat.le_refl _) W' O'
    rw [k2] at this
    exact this.symm
  refine ⟨_, (zt_nx T q2, [], u ++ (c ++ O), ex', (c ++ O).length + 1, ic2), k0.trans k1, ?_, rfl, rfl, rfl, rfl⟩
  rw [zl_stp_t (by omega) k3]
  unfold zl_tail zl_endl
  rw [if_neg (by omega), if_neg (by omega), if_pos hcb, if_pos hq, k2]
theorem zl_ln_BF {T : zt_T} {p q q2 : Nat} {c u O : List (Nat × Nat)} (ic : Int32) (h : zl_m T 5 p c q) (h3 : zt_cd 0 T q = 3) (g : zl_t T 1 (zt_nx T q) u q2 0) (hx : zt_cd 0 T q2 ≠ 4 ∧ zt_cd 0 T q2 ≠ 5) (hq : zt_cd 0 T q2 ≠ 159) : zl_flt T (p, [], O, 0, 0, ic) 1 (zt_at T q2) := by
  obtain ⟨ic', k0⟩ := zl_ln_W (O := O) ic h h3
  obtain ⟨W', O', ex', ic2, k1, k2, k3⟩ := g.2 [] (c ++ O) ((c ++ O).length + 1) ic' trivial rfl (by omega)
  have hcb : zl_cb W' = 0 := by
    have := zl_rel_cb (r := 1) (Nat.le_refl _) W' O'
    rw [k2] at this
    exact this.symm
  refine zl_flt.now (k0.trans k1) ?_
  rw [zl_stp_t (by omega) k3]
  unfold zl_tail zl_endl
  rw [if_neg hx.2, if_neg hx.1, if_pos hcb, if_neg hq]
theorem zl_ln_WF {T : zt_T} {p q f q2 : Nat} {c O : List (Nat × Nat)} (ic : Int32) (h : zl_m T 5 p c q) (h3 : zt_cd 0 T q = 3) (g : zl_f T 1 (zt_nx T q) f q2 0) : zl_flt T (p, [], O, 0, 0, ic) f q2 := by
  obtain ⟨ic', k0⟩ := zl_ln_W (O := O) ic h h3
  exact zl_flt.of k0 (g [] (c ++ O) ((c ++ O).length + 1) ic' trivial rfl (by omega))
/-- the frame of the reference's reading -/
def zl_fM (N : Nat) (σ σ' : q_Sto) : Prop := (∀ o, o ≠ 157 → o ≠ 162 → o ≠ 163 → σ' o = σ o) ∧ (∀ a, a ≠ 14 → a ≠ 17 → a ≠ 18 → a ≠ 19 → a ≠ 20 → a ≠ 21 → a ≠ 22 → a ≠ 24 → σ' 157 a = σ 157 a) ∧ ∀ k, k < 4*N → σ' 162 k = σ 162 k
theorem zl_fM.refl (N : Nat) (σ : q_Sto) : zl_fM N σ σ := ⟨fun _ _ _ _ => rfl, fun _ _ _ _ _ _ _ _ _ => rfl, fun _ _ => rfl⟩
theorem zl_fM.trans {N : Nat} {a b c : q_Sto} (h : zl_fM N a b) (g : zl_fM N b c) : zl_fM N a c := ⟨fun o o1 o2 o3 => (g.1 o o1 o2 o3).trans (h.1 o o1 o2 o3), fun x x1 x2 x3 x4 x5 x6 x7 x8 => (g.2.1 x x1 x2 x3 x4 x5 x6 x7 x8).trans (h.2.1 x x1 x2 x3 x4 x5 x6 x7 x8), fun k hk => (g.2.2 k hk).trans (h.2.2 k hk)⟩
theorem zl_fR.M {N : Nat} {σ σ' : q_Sto} (h : zl_fR σ σ') : zl_fM N σ σ' := ⟨fun o o1 o2 o3 => h.1 o o1 o3, h.2, fun k _ => by rw [h.1 162 (by omega) (by omega)]⟩
theorem zl_R.w {σ : q_Sto} {T : zt_T} {p d k : Nat} {O : List (Nat × Nat)} {v : Int32} (h : zl_R σ T p O d) : zl_R (q_up σ 162 k v) T p O d := by
  obtain ⟨hR, h14, hos, h24, hd⟩ := h
  exact ⟨hR.fr (by rw [z_upO (by omega)]) (fun a ha => by rw [z_upO (by omega)]), by rw [z_upO (by omega)]; exact h14, by rw [z_upO (by omega)]; exact hos, by rw [z_upO (by omega)]; exact h24, hd⟩
theorem zl_fM.w {N k : Nat} {σ : q_Sto} {v : Int32} (h : 4*N ≤ k) : zl_fM N σ (q_up σ 162 k v) := ⟨fun o o1 o2 o3 => z_upO o2, fun a _ _ _ _ _ _ _ _ => by rw [z_upO (by omega)], fun j hj => z_upK (by omega)⟩
/-- a line begins, in the class -/
theorem c_rlBegin {T : zt_T} {p N w : Nat} {O : List (Nat × Nat)} {σ : q_Sto} (hC : zt_C σ T p) (hw : w < 3) (hc : zt_cd 0 T p = 20 + w) (h8 : σ 145 8 = nI N) (hN : N < 16) (h7 : σ 145 7 = nI O.length) (ho : zl_ot (σ 150) (σ 151) O) (hl : O.length ≤ p) :
    ∃ σ', zl_at σ' T N (zt_nx T p, [], O, 0, 0, σ' 144 8) ∧ (∀ o, o ≠ 142 → o ≠ 144 → o ≠ 146 → o ≠ 147 → o ≠ 148 → σ' o = σ o) ∧ (∀ i, i ≠ N → σ' 146 i = σ 146 i ∧ σ' 147 i = σ 147 i ∧ σ' 148 i = σ 148 i) ∧ σ' 146 N = nI w ∧ σ' 147 N = nI O.length ∧ (∀ a, a ≠ 2 → a ≠ 3 → a ≠ 4 → a ≠ 5 → σ' 142 a = σ 142 a) ∧
      f_X3_readLine q_F 144 σ = f_X3_readLine_L127 q_F 144 (fun (s30 : q_Sto) =>
    if (s30 142 6) = 0 then (
    some (1, s30))
    else (
    some (0, s30))) q_F (nI 1) (nI 0) σ' := by
  obtain ⟨o0, o1, o2, o3, o4, o5, o6, o7, o8, o9, o10, o11, o12, o13, o14, o15, o16⟩ := c_wok
  have hL := hC.1.1
  have hpL := hC.2.1
  obtain ⟨g1, g2⟩ := zt_go (k := 0) (by omega) hpL (show zt_cd 0 T p ≠ 0 by omega)
  obtain ⟨σ1, b1, b2, b3, b4⟩ := c_nextC hC
  have e7 : σ1 145 7 = nI O.length := by rw [b1 145 (by omega)]; exact h7
  have e8 : σ1 145 8 = nI N := by rw [b1 145 (by omega)]; exact h8
  have eb : ∀ v, f_X2_beginLine q_F 145 v σ1 = some (nI 0, q_up (q_up (q_up σ1 146 N v) 147 N (nI O.length)) 148 N z_m) := fun v => by
    unfold f_X2_beginLine
    generalize O.length = ol at *
    simp (disch := omega) only [e8, e7, ↓reduceIte, ↓p_ld, ↓p_st, ↓p_nm, ↓p_nS, ↓p_jn, ↓p_call, ↓p_callv, ↓p_dv, ↓p_rem, h_ldE, h_stE, h_nmE, h_nSE, h_callE, h_callvE, h_dvE, h_remE, if_true, if_false, z_upS, z_upO, z_upK, nI_add, z_mul, z_sub, z_div, Nat.add_zero, Nat.mul_zero, Nat.zero_add, Nat.sub_zero, Nat.zero_mul, z_ltT, z_ltF, z_leT, z_leF, z_eqT, z_eqF, z_inT, z_clT, not_true_eq_false, not_false_eq_true, eq_self, true_or, or_true, z_m_lt, z_m_le, z_lt_m, z_le_m, z_eq_m, z_m_eq, z_rz0, z_rz1, z_m_add, z_of, r_0_0, r_0_1, r_0_3, r_0_4, r_0_5, r_0_6, r_0_7, r_0_8, r_0_9, r_0_10, r_1_0, r_1_1, r_1_2, r_1_3, r_1_4, r_1_5, r_1_6, r_1_7, r_1_8, r_2_0, r_2_1, r_2_2, r_2_3, r_2_4, r_2_5, r_2_6, r_2_7, r_11_0, r_11_1, r_11_2, r_11_3, r_11_4, r_11_5, r_11_6, r_19_0, r_21_0, r_23_0, r_25_0, r_27_0, r_31_0, r_31_1, r_31_2, r_31_3, r_31_4, r_31_5, r_31_6, r_31_7, r_31_8, r_32_0, r_32_1, r_32_2, r_32_3, r_32_4, r_32_5, r_32_6, r_32_7, r_41_0, r_41_1, r_41_2, r_41_3, r_41_4, r_41_5, r_41_6, r_49_0, r_51_0, r_53_0, r_55_0, r_57_0, r_61_0, r_63_0, r_63_1, r_63_2, r_63_3, r_63_4, r_63_5, r_63_6, r_63_7, r_72_0, r_72_1, r_72_2, r_72_3, r_72_4, r_72_5, r_72_6, r_72_7, r_81_0, r_81_1, r_81_2, r_81_3, r_81_4, r_81_5, r_81_6, r_81_7, r_90_0, r_90_1, r_90_2, r_90_3, r_90_4, r_90_5, r_90_6, r_90_7, r_99_0, r_99_1, r_99_2, r_99_3, r_99_4, r_99_5, r_99_6, r_99_7, r_108_0, r_108_1, r_108_2, r_108_3, r_108_4, r_108_5, r_108_6, r_108_7, r_117_0, r_117_1, r_117_2, r_117_3, r_117_4, r_117_5, r_117_6, r_117_7, r_126_0, r_126_1, r_126_2, r_126_3, r_126_4, r_132_0, r_132_1, r_135_0, r_135_1, r_135_2, r_135_3, r_135_4, r_135_5, r_142_0, r_144_0, r_144_1, r_144_2, r_145_0, r_145_1, r_145_2, r_145_3, r_145_4, r_145_5, r_145_6, r_154_0, r_154_1, r_155_0, ↓z_m1, l_0, l_1, l_2, l_3, l_4, l_5, l_6, l_7, l_8, l_9, l_10, l_11, l_12, l_13, l_14, l_15, l_16, l_17, l_18, l_19, l_20, l_21, l_22, l_23, l_24, l_25, l_26, l_27, l_28, l_29, l_30, l_31, l_32, l_33, l_34, l_35, l_36, l_37, l_38, l_39, l_40, l_41, l_42, l_43, l_44, l_45, l_46, l_47, l_48, l_49, l_50, l_51, l_52, l_53, l_54, l_55, l_56, l_57, l_59, l_60, l_61, l_62, l_63, l_64, l_65, l_80, l_86, l_87, l_88, l_89, l_90, l_91, l_92, l_93, l_94, l_95, l_97, l_99, l_100, l_107, l_119, l_122, l_124, l_129, l_140, l_141, l_142, l_143, l_144, l_145, l_147, l_150, l_159, l_160, l_161, l_162, l_205, l_253, l_255, l_256, l_269, l_305, l_380, l_399, l_400, l_420, l_430, l_516, l_600, l_720, l_820, l_905, l_921, l_937, l_953, l_970, l_999, l_1000, l_1790, l_4096, l_9999, l_1000000]
  have ef : f_X2_isFull q_F 145 σ = some (nI 0, σ) := by
    unfold f_X2_isFull
    simp (disch := omega) only [h8, ↓reduceIte, ↓p_ld, ↓p_st, ↓p_nm, ↓p_nS, ↓p_jn, ↓p_call, ↓p_callv, ↓p_dv, ↓p_rem, h_ldE, h_stE, h_nmE, h_nSE, h_callE, h_callvE, h_dvE, h_remE, if_true, if_false, z_upS, z_upO, z_upK, nI_add, z_mul, z_sub, z_div, Nat.add_zero, Nat.mul_zero, Nat.zero_add, Nat.sub_zero, Nat.zero_mul, z_ltT, z_ltF, z_leT, z_leF, z_eqT, z_eqF, z_inT, z_clT, not_true_eq_false, not_false_eq_true, eq_self, true_or, or_true, z_m_lt, z_m_le, z_lt_m, z_le_m, z_eq_m, z_m_eq, z_rz0, z_rz1, z_m_add, z_of, r_0_0, r_0_1, r_0_3, r_0_4, r_0_5, r_0_6, r_0_7, r_0_8, r_0_9, r_0_10, r_1_0, r_1_1, r_1_2, r_1_3, r_1_4, r_1_5, r_1_6, r_1_7, r_1_8, r_2_0, r_2_1, r_2_2, r_2_3, r_2_4, r_2_5, r_2_6, r_2_7, r_11_0, r_11_1, r_11_2, r_11_3, r_11_4, r_11_5, r_11_6, r_19_0, r_21_0, r_23_0, r_25_0, r_27_0, r_31_0, r_31_1, r_31_2, r_31_3, r_31_4, r_31_5, r_31_6, r_31_7, r_31_8, r_32_0, r_32_1, r_32_2, r_32_3, r_32_4, r_32_5, r_32_6, r_32_7, r_41_0, r_41_1, r_41_2, r_41_3, r_41_4, r_41_5, r_41_6, r_49_0, r_51_0, r_53_0, r_55_0, r_57_0, r_61_0, r_63_0, r_63_1, r_63_2, r_63_3, r_63_4, r_63_5, r_63_6, r_63_7, r_72_0, r_72_1, r_72_2, r_72_3, r_72_4, r_72_5, r_72_6, r_72_7, r_81_0, r_81_1, r_81_2, r_81_3, r_81_4, r_81_5, r_81_6, r_81_7, r_90_0, r_90_1, r_90_2, r_90_3, r_90_4, r_90_5, r_90_6, r_90_7, r_99_0, r_99_1, r_99_2, r_99_3, r_99_4, r_99_5, r_99_6, r_99_7, r_108_0, r_108_1, r_108_2, r_108_3, r_108_4, r_108_5, r_108_6, r_108_7, r_117_0, r_117_1, r_117_2, r_117_3, r_117_4, r_117_5, r_117_6, r_117_7, r_126_0, r_126_1, r_126_2, r_126_3, r_126_4, r_132_0, r_132_1, r_135_0, r_135_1, r_135_2, r_135_3, r_135_4, r_135_5, r_142_0, r_144_0, r_144_1, r_144_2, r_145_0, r_145_1, r_145_2, r_145_3, r_145_4, r_145_5, r_145_6, r_154_0, r_154_1, r_155_0, ↓z_m1, l_0, l_1, l_2, l_3, l_4, l_5, l_6, l_7, l_8, l_9, l_10, l_11, l_12, l_13, l_14, l_15, l_16, l_17, l_18, l_19, l_20, l_21, l_22, l_23, l_24, l_25, l_26, l_27, l_28, l_29, l_30, l_31, l_32, l_33, l_34, l_35, l_36, l_37, l_38, l_39, l_40, l_41, l_42, l_43, l_44, l_45, l_46, l_47, l_48, l_49, l_50, l_51, l_52, l_53, l_54, l_55, l_56, l_57, l_59, l_60, l_61, l_62, l_63, l_64, l_65, l_80, l_86, l_87, l_88, l_89, l_90, l_91, l_92, l_93, l_94, l_95, l_97, l_99, l_100, l_107, l_119, l_122, l_124, l_129, l_140, l_141, l_142, l_143, l_144, l_145, l_147, l_150, l_159, l_160, l_161, l_162, l_205, l_253, l_255, l_256, l_269, l_305, l_380, l_399, l_400, l_420, l_430, l_516, l_600, l_720, l_820, l_905, l_921, l_937, l_953, l_970, l_999, l_1000, l_1790, l_4096, l_9999, l_1000000]
  have t0 := c_wT hC (by omega) o0
  have u0 := c_wF hC (by omega) o0
  have t1 := c_wT hC (by omega) o1
  have u1 := c_wF hC (by omega) o1
  have t2 := c_wT hC (by omega) o2
  have g : ∀ o, o ≠ 144 → o ≠ 146 → o ≠ 147 → o ≠ 148 → (q_up (q_up (q_up (q_up (q_up (q_up (q_up (q_up σ1 146 N (nI w)) 147 N (nI O.length)) 148 N z_m) 144 3 (nI 0)) 144 4 (nI 0)) 144 5 (nI 0)) 144 7 (nI 0)) 144 6 (nI 0)) o = σ1 o := fun o o1 o2 o3 o4 => by rw [z_upO o1, z_upO o1, z_upO o1, z_upO o1, z_upO o1, z_upO o4, z_upO o3, z_upO o2]
  refine ⟨q_up (q_up (q_up (q_up (q_up (q_up (q_up (q_up σ1 146 N (nI w)) 147 N (nI O.length)) 148 N z_m) 144 3 (nI 0)) 144 4 (nI 0)) 144 5 (nI 0)) 144 7 (nI 0)) 144 6 (nI 0), ⟨b3.fr (g 143 (by omega) (by omega) (by omega) (by omega)) (fun a _ _ => by rw [g 142 (by omega) (by omega) (by omega) (by omega)]), by simp only [List.length_nil]; omega, by omega, ?_⟩, fun o p0 p1 p2 p3 p4 => by rw [g o p1 p2 p3 p4, b1 o p0], fun i hi => ⟨?_, ?_, ?_⟩, ?_, ?_, fun a x1 x2 x3 x4 => by rw [g 142 (by omega) (by omega) (by omega) (by omega), b2 a x1 x2 x3 x4], ?_⟩
  · refine ⟨?_, trivial, ?_, ?_, z_upS, ?_, rfl, by rw [g 145 (by omega) (by omega) (by omega) (by omega)]; exact e7, ?_, by rw [g 145 (by omega) (by omega) (by omega) (by omega)]; exact e8, ?_⟩
    · rw [z_upK (by omega), z_upK (by omega), z_upK (by omega), z_upK (by omega)]; exact z_upS
    · rw [z_upK (by omega), z_upK (by omega), z_upK (by omega)]; exact z_upS
    · rw [z_upK (by omega), z_upK (by omega)]; exact z_upS
    · rw [z_upK (by omega), if_pos rfl]; exact z_upS
    · rw [g 150 (by omega) (by omega) (by omega) (by omega), g 151 (by omega) (by omega) (by omega) (by omega), b1 150 (by omega), b1 151 (by omega)]; exact ho
    · rw [z_upO (by omega), z_upO (by omega), z_upO (by omega), z_upO (by omega), z_upO (by omega)]; exact z_upS
  · rw [z_upO (by omega), z_upO (by omega), z_upO (by omega), z_upO (by omega), z_upO (by omega), z_upO (by omega), z_upO (by omega), z_upK hi, b1 146 (by omega)]
  · rw [z_upO (by omega), z_upO (by omega), z_upO (by omega), z_upO (by omega), z_upO (by omega), z_upO (by omega), z_upK hi, z_upO (by omega), b1 147 (by omega)]
  · rw [z_upO (by omega), z_upO (by omega), z_upO (by omega), z_upO (by omega), z_upO (by omega), z_upK hi, z_upO (by omega), z_upO (by omega), b1 148 (by omega)]
  · rw [z_upO (by omega), z_upO (by omega), z_upO (by omega), z_upO (by omega), z_upO (by omega), z_upO (by omega), z_upO (by omega)]; exact z_upS
  · rw [z_upO (by omega), z_upO (by omega), z_upO (by omega), z_upO (by omega), z_upO (by omega), z_upO (by omega)]; exact z_upS
  · unfold f_X3_readLine
    have hc' : w = 0 ∨ w = 1 ∨ w = 2 := by omega
    generalize O.length = ol at *
    rcases hc' with rfl | rfl | rfl
    · have t0 := t0 hc
      simp (disch := omega) only [t0, ef, b4, eb, ↓reduceIte, ↓p_ld, ↓p_st, ↓p_nm, ↓p_nS, ↓p_jn, ↓p_call, ↓p_callv, ↓p_dv, ↓p_rem, h_ldE, h_stE, h_nmE, h_nSE, h_callE, h_callvE, h_dvE, h_remE, if_true, if_false, z_upS, z_upO, z_upK, nI_add, z_mul, z_sub, z_div, Nat.add_zero, Nat.mul_zero, Nat.zero_add, Nat.sub_zero, Nat.zero_mul, z_ltT, z_ltF, z_leT, z_leF, z_eqT, z_eqF, z_inT, z_clT, not_true_eq_false, not_false_eq_true, eq_self, true_or, or_true, z_m_lt, z_m_le, z_lt_m, z_le_m, z_eq_m, z_m_eq, z_rz0, z_rz1, z_m_add, z_of, r_0_0, r_0_1, r_0_3, r_0_4, r_0_5, r_0_6, r_0_7, r_0_8, r_0_9, r_0_10, r_1_0, r_1_1, r_1_2, r_1_3, r_1_4, r_1_5, r_1_6, r_1_7, r_1_8, r_2_0, r_2_1, r_2_2, r_2_3, r_2_4, r_2_5, r_2_6, r_2_7, r_11_0, r_11_1, r_11_2, r_11_3, r_11_4, r_11_5, r_11_6, r_19_0, r_21_0, r_23_0, r_25_0, r_27_0, r_31_0, r_31_1, r_31_2, r_31_3, r_31_4, r_31_5, r_31_6, r_31_7, r_31_8, r_32_0, r_32_1, r_32_2, r_32_3, r_32_4, r_32_5, r_32_6, r_32_7, r_41_0, r_41_1, r_41_2, r_41_3, r_41_4, r_41_5, r_41_6, r_49_0, r_51_0, r_53_0, r_55_0, r_57_0, r_61_0, r_63_0, r_63_1, r_63_2, r_63_3, r_63_4, r_63_5, r_63_6, r_63_7, r_72_0, r_72_1, r_72_2, r_72_3, r_72_4, r_72_5, r_72_6, r_72_7, r_81_0, r_81_1, r_81_2, r_81_3, r_81_4, r_81_5, r_81_6, r_81_7, r_90_0, r_90_1, r_90_2, r_90_3, r_90_4, r_90_5, r_90_6, r_90_7, r_99_0, r_99_1, r_99_2, r_99_3, r_99_4, r_99_5, r_99_6, r_99_7, r_108_0, r_108_1, r_108_2, r_108_3, r_108_4, r_108_5, r_108_6, r_108_7, r_117_0, r_117_1, r_117_2, r_117_3, r_117_4, r_117_5, r_117_6, r_117_7, r_126_0, r_126_1, r_126_2, r_126_3, r_126_4, r_132_0, r_132_1, r_135_0, r_135_1, r_135_2, r_135_3, r_135_4, r_135_5, r_142_0, r_144_0, r_144_1, r_144_2, r_145_0, r_145_1, r_145_2, r_145_3, r_145_4, r_145_5, r_145_6, r_154_0, r_154_1, r_155_0, ↓z_m1, l_0, l_1, l_2, l_3, l_4, l_5, l_6, l_7, l_8, l_9, l_10, l_11, l_12, l_13, l_14, l_15, l_16, l_17, l_18, l_19, l_20, l_21, l_22, l_23, l_24, l_25, l_26, l_27, l_28, l_29, l_30, l_31, l_32, l_33, l_34, l_35, l_36, l_37, l_38, l_39, l_40, l_41, l_42, l_43, l_44, l_45, l_46, l_47, l_48, l_49, l_50, l_51, l_52, l_53, l_54, l_55, l_56, l_57, l_59, l_60, l_61, l_62, l_63, l_64, l_65, l_80, l_86, l_87, l_88, l_89, l_90, l_91, l_92, l_93, l_94, l_95, l_97, l_99, l_100, l_107, l_119, l_122, l_124, l_129, l_140, l_141, l_142, l_143, l_144, l_145, l_147, l_150, l_159, l_160, l_161, l_162, l_205, l_253, l_255, l_256, l_269, l_305, l_380, l_399, l_400, l_420, l_430, l_516, l_600, l_720, l_820, l_905, l_921, l_937, l_953, l_970, l_999, l_1000, l_1790, l_4096, l_9999, l_1000000]
    · have u0 := u0 (by omega)
      have t1 := t1 hc
      simp (disch := omega) only [u0, t1, ef, b4, eb, ↓reduceIte, ↓p_ld, ↓p_st, ↓p_nm, ↓p_nS, ↓p_jn, ↓p_call, ↓p_callv, ↓p_dv, ↓p_rem, h_ldE, h_stE, h_nmE, h_nSE, h_callE, h_callvE, h_dvE, h_remE, if_true, if_false, z_upS, z_upO, z_upK, nI_add, z_mul, z_sub, z_div, Nat.add_zero, Nat.mul_zero, Nat.zero_add, Nat.sub_zero, Nat.zero_mul, z_ltT, z_ltF, z_leT, z_leF, z_eqT, z_eqF, z_inT, z_clT, not_true_eq_false, not_false_eq_true, eq_self, true_or, or_true, z_m_lt, z_m_le, z_lt_m, z_le_m, z_eq_m, z_m_eq, z_rz0, z_rz1, z_m_add, z_of, r_0_0, r_0_1, r_0_3, r_0_4, r_0_5, r_0_6, r_0_7, r_0_8, r_0_9, r_0_10, r_1_0, r_1_1, r_1_2, r_1_3, r_1_4, r_1_5, r_1_6, r_1_7, r_1_8, r_2_0, r_2_1, r_2_2, r_2_3, r_2_4, r_2_5, r_2_6, r_2_7, r_11_0, r_11_1, r_11_2, r_11_3, r_11_4, r_11_5, r_11_6, r_19_0, r_21_0, r_23_0, r_25_0, r_27_0, r_31_0, r_31_1, r_31_2, r_31_3, r_31_4, r_31_5, r_31_6, r_31_7, r_31_8, r_32_0, r_32_1, r_32_2, r_32_3, r_32_4, r_32_5, r_32_6, r_32_7, r_41_0, r_41_1, r_41_2, r_41_3, r_41_4, r_41_5, r_41_6, r_49_0, r_51_0, r_53_0, r_55_0, r_57_0, r_61_0, r_63_0, r_63_1, r_63_2, r_63_3, r_63_4, r_63_5, r_63_6, r_63_7, r_72_0, r_72_1, r_72_2, r_72_3, r_72_4, r_72_5, r_72_6, r_72_7, r_81_0, r_81_1, r_81_2, r_81_3, r_81_4, r_81_5, r_81_6, r_81_7, r_90_0, r_90_1, r_90_2, r_90_3, r_90_4, r_90_5, r_90_6, r_90_7, r_99_0, r_99_1, r_99_2, r_99_3, r_99_4, r_99_5, r_99_6, r_99_7, r_108_0, r_108_1, r_108_2, r_108_3, r_108_4, r_108_5, r_108_6, r_108_7, r_117_0, r_117_1, r_117_2, r_117_3, r_117_4, r_117_5, r_117_6, r_117_7, r_126_0, r_126_1, r_126_2, r_126_3, r_126_4, r_132_0, r_132_1, r_135_0, r_135_1, r_135_2, r_135_3, r_135_4, r_135_5, r_142_0, r_144_0, r_144_1, r_144_2, r_145_0, r_145_1, r_145_2, r_145_3, r_145_4, r_145_5, r_145_6, r_154_0, r_154_1, r_155_0, ↓z_m1, l_0, l_1, l_2, l_3, l_4, l_5, l_6, l_7, l_8, l_9, l_10, l_11, l_12, l_13, l_14, l_15, l_16, l_17, l_18, l_19, l_20, l_21, l_22, l_23, l_24, l_25, l_26, l_27, l_28, l_29, l_30, l_31, l_32, l_33, l_34, l_35, l_36, l_37, l_38, l_39, l_40, l_41, l_42, l_43, l_44, l_45, l_46, l_47, l_48, l_49, l_50, l_51, l_52, l_53, l_54, l_55, l_56, l_57, l_59, l_60, l_61, l_62, l_63, l_64, l_65, l_80, l_86, l_87, l_88, l_89, l_90, l_91, l_92, l_93, l_94, l_95, l_97, l_99, l_100, l_107, l_119, l_122, l_124, l_129, l_140, l_141, l_142, l_143, l_144, l_145, l_147, l_150, l_159, l_160, l_161, l_162, l_205, l_253, l_255, l_256, l_269, l_305, l_380, l_399, l_400, l_420, l_430, l_516, l_600, l_720, l_820, l_905, l_921, l_937, l_953, l_970, l_999, l_1000, l_1790, l_4096, l_9999, l_1000000]
    · have u0 := u0 (by omega)
      have u1 := u1 (by omega)
      have t2 := t2 hc
      simp (disch := omega) only [u0, u1, t2, ef, b4, eb, ↓reduceIte, ↓p_ld, ↓p_st, ↓p_nm, ↓p_nS, ↓p_jn, ↓p_call, ↓p_callv, ↓p_dv, ↓p_rem, h_ldE, h_stE, h_nmE, h_nSE, h_callE, h_callvE, h_dvE, h_remE, if_true, if_false, z_upS, z_upO, z_upK, nI_add, z_mul, z_sub, z_div, Nat.add_zero, Nat.mul_zero, Nat.zero_add, Nat.sub_zero, Nat.zero_mul, z_ltT, z_ltF, z_leT, z_leF, z_eqT, z_eqF, z_inT, z_clT, not_true_eq_false, not_false_eq_true, eq_self, true_or, or_true, z_m_lt, z_m_le, z_lt_m, z_le_m, z_eq_m, z_m_eq, z_rz0, z_rz1, z_m_add, z_of, r_0_0, r_0_1, r_0_3, r_0_4, r_0_5, r_0_6, r_0_7, r_0_8, r_0_9, r_0_10, r_1_0, r_1_1, r_1_2, r_1_3, r_1_4, r_1_5, r_1_6, r_1_7, r_1_8, r_2_0, r_2_1, r_2_2, r_2_3, r_2_4, r_2_5, r_2_6, r_2_7, r_11_0, r_11_1, r_11_2, r_11_3, r_11_4, r_11_5, r_11_6, r_19_0, r_21_0, r_23_0, r_25_0, r_27_0, r_31_0, r_31_1, r_31_2, r_31_3, r_31_4, r_31_5, r_31_6, r_31_7, r_31_8, r_32_0, r_32_1, r_32_2, r_32_3, r_32_4, r_32_5, r_32_6, r_32_7, r_41_0, r_41_1, r_41_2, r_41_3, r_41_4, r_41_5, r_41_6, r_49_0, r_51_0, r_53_0, r_55_0, r_57_0, r_61_0, r_63_0, r_63_1, r_63_2, r_63_3, r_63_4, r_63_5, r_63_6, r_63_7, r_72_0, r_72_1, r_72_2, r_72_3, r_72_4, r_72_5, r_72_6, r_72_7, r_81_0, r_81_1, r_81_2, r_81_3, r_81_4, r_81_5, r_81_6, r_81_7, r_90_0, r_90_1, r_90_2, r_90_3, r_90_4, r_90_5, r_90_6, r_90_7, r_99_0, r_99_1, r_99_2, r_99_3, r_99_4, r_99_5, r_99_6, r_99_7, r_108_0, r_108_1, r_108_2, r_108_3, r_108_4, r_108_5, r_108_6, r_108_7, r_117_0, r_117_1, r_117_2, r_117_3, r_117_4, r_117_5, r_117_6, r_117_7, r_126_0, r_126_1, r_126_2, r_126_3, r_126_4, r_132_0, r_132_1, r_135_0, r_135_1, r_135_2, r_135_3, r_135_4, r_135_5, r_142_0, r_144_0, r_144_1, r_144_2, r_145_0, r_145_1, r_145_2, r_145_3, r_145_4, r_145_5, r_145_6, r_154_0, r_154_1, r_155_0, ↓z_m1, l_0, l_1, l_2, l_3, l_4, l_5, l_6, l_7, l_8, l_9, l_10, l_11, l_12, l_13, l_14, l_15, l_16, l_17, l_18, l_19, l_20, l_21, l_22, l_23, l_24, l_25, l_26, l_27, l_28, l_29, l_30, l_31, l_32, l_33, l_34, l_35, l_36, l_37, l_38, l_39, l_40, l_41, l_42, l_43, l_44, l_45, l_46, l_47, l_48, l_49, l_50, l_51, l_52, l_53, l_54, l_55, l_56, l_57, l_59, l_60, l_61, l_62, l_63, l_64, l_65, l_80, l_86, l_87, l_88, l_89, l_90, l_91, l_92, l_93, l_94, l_95, l_97, l_99, l_100, l_107, l_119, l_122, l_124, l_129, l_140, l_141, l_142, l_143, l_144, l_145, l_147, l_150, l_159, l_160, l_161, l_162, l_205, l_253, l_255, l_256, l_269, l_305, l_380, l_399, l_400, l_420, l_430, l_516, l_600, l_720, l_820, l_905, l_921, l_937, l_953, l_970, l_999, l_1000, l_1790, l_4096, l_9999, l_1000000]
