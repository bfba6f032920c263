/-! mules, men, what is set -/
theorem z_TR.congr2 {σ : q_Sto} {t : Nat} {V V' : Nat → Int32} {mu me : Nat} (hmu : mu ≤ 12) (hme : me ≤ 5) (h : z_TR σ t V mu me) (e : ∀ a, a < 89 ∨ (95 ≤ a ∧ a < 129) → V' a = V a) : z_TR σ t V' mu me := by
  obtain ⟨⟨g1, g2, g3, g4, g5, g6, g7, g8, g9⟩, t1, t2, t3, t4, t5, t6⟩ := h
  refine ⟨by rw [e 5 (by omega), e 88 (by omega), e 1 (by omega), e 2 (by omega), e 3 (by omega), e 4 (by omega), e 0 (by omega)]; exact ⟨g1, g2, g3, g4, g5, g6, g7, g8, g9⟩, fun m hm => ?_, fun m hm => ?_, t3, fun k hk => ?_, fun m k hm hk => ?_, t6⟩
  · rw [e (95+m) (by omega), e (107+m) (by omega), e (8+m) (by omega)]; exact t1 m hm
  · rw [e 7 (by omega)]; exact t2 m hm
  · rw [e (80+k) (by omega), e (119+k) (by omega), e (124+k) (by omega)]; exact t4 k hk
  · rw [e (20+5*m+k) (by omega)]; exact t5 m k hm hk
theorem z_WF.congr2 {V V' : Nat → Int32} {mu me : Nat} (h : z_WF V mu me) (e : ∀ a, a < 89 ∨ (95 ≤ a ∧ a < 129) → V' a = V a) : z_WF V' mu me := by
  obtain ⟨⟨f1, f2, f3, f4, f5, f6, f7, f8, f9, f10, f11, f12⟩, h0⟩ := h
  refine ⟨⟨f1, f2, by rw [e 86 (by omega)]; exact f3, by rw [e 87 (by omega)]; exact f4, by rw [e 7 (by omega)]; exact f5, fun m hm => ?_, fun m k hm hk => ?_, fun k hk => ?_, by rw [e 1 (by omega)]; exact f9, by rw [e 2 (by omega)]; exact f10, by rw [e 6 (by omega)]; exact f11, by rw [e 88 (by omega)]; exact f12⟩, by rw [e 0 (by omega)]; exact h0⟩
  · rw [e (8+m) (by omega), e (95+m) (by omega), e (107+m) (by omega)]; exact f6 m hm
  · rw [e (20+5*m+k) (by omega)]; exact f7 m k hm hk
  · rw [e (80+k) (by omega), e (119+k) (by omega), e (124+k) (by omega)]; exact f8 k hk
theorem z_HI.sam {σ σ' : q_Sto} {mu me : Nat} (h : z_HI σ mu me) (e : ∀ o, 61 ≤ o → o ≤ 116 → σ' o = σ o) (e4 : σ' 157 4 = σ 157 4) (eb : σ' 160 = σ 160) (ew : ∀ a, a < 89 ∨ (95 ≤ a ∧ a < 129) → σ' 158 a = σ 158 a) : z_HI σ' mu me := by
  obtain ⟨c, p, w, h1, h2, h3, h4, h5, h6, h7, h8⟩ := h
  refine ⟨c, p, w, h1, by rw [e 61 (by omega) (by omega)]; exact h2, by rw [e4]; exact h3, by rw [e 62 (by omega) (by omega)]; exact h4, h5, fun i hi => ?_, h7, h8⟩
  have hp := (h4 i (by omega)).1
  obtain ⟨g1, g2, g3, g4, g5⟩ := h6 i hi
  have eb' : ∀ a, a < 89 ∨ (95 ≤ a ∧ a < 129) → z_bk σ' i a = z_bk σ i a := fun a ha => by
    unfold z_bk
    rw [eb, ew a ha]
  exact ⟨(g1.fr (fun o ho1 ho2 => e o (by omega) (by omega))).congr2 g2.1.1 g2.1.2.1 eb', g2.congr2 eb', by rw [e _ (by omega) (by omega)]; exact g3, by rw [eb' 6 (by omega)]; exact g4, by rw [ew 6 (by omega)]; exact g5⟩
theorem c_leanNow {n m k : Nat} {σ : q_Sto} {V : Nat → Int32} {mu me : Nat} (hn : 402 ≤ n) (hC : z_C σ V mu me) (hm : m < mu) (hk : k < me) :
    ∃ σ', (∀ o, o ≠ 18 → o ≠ 30 → σ' o = σ o) ∧ f_X10_leanNow n 1 (nI m) (nI k) σ = some (nI (z_lean V m k (z_lk V m k) (z_cnt (z_hs V m &&& z_bhd V (nI k) mu) 12)), σ') := by
  have hmu := hC.1.1
  have hme := hC.1.2.1
  obtain ⟨y1, y2, y3⟩ := z_hsE hmu hC.2.2.2.1 (m := m) (by omega)
  have h12 := z_p12 hmu
  have e1 := c_heededBy (n := n) (m := m) (by omega) hC.2.2.2.1 (by omega)
  rw [y1] at e1
  have e2 := c_behindOf (n := n) (x := nI k) (by omega) hmu hC.2.1
  have hlt : z_hs V m &&& z_bhd V (nI k) mu < 4096 := Nat.lt_of_le_of_lt Nat.and_le_left (by omega)
  have e3 := c_bitCount (n := n) (σ := σ) hlt
  have e4 := c_likingFor (n := n) hmu hme hC.2.1 hm hk
  have elk : V (20+5*m+k) = nI (z_lk V m k) := (z_leE (hC.1.2.2.2.2.2.2.1 m k hm hk) (by omega)).1
  rw [elk] at e4
  obtain ⟨σ', f1, f2⟩ := c_leanOf (n := n) (lk := z_lk V m k) (hd := z_cnt (z_hs V m &&& z_bhd V (nI k) mu) 12) hC hn hm hk
  refine ⟨σ', f1, ?_⟩
  unfold f_X10_leanNow
  simp (disch := omega) only [e1, e2, z_and, e3, e4, f2, ↓reduceIte, ↓p_ld, ↓p_st, ↓p_nm, ↓p_nS, ↓p_jn, ↓p_call, ↓p_callv, ↓p_dv, ↓p_rem, h_ldE, h_stE, h_nmE, h_nSE, h_callE, h_callvE, h_dvE, h_remE, if_true, if_false, z_upS, z_upO, z_upK, nI_add, z_mul, z_sub, z_div, Nat.add_zero, Nat.mul_zero, Nat.zero_add, Nat.sub_zero, Nat.zero_mul, z_ltT, z_ltF, z_leT, z_leF, z_eqT, z_eqF, z_inT, z_clT, not_true_eq_false, not_false_eq_true, eq_self, true_or, or_true, z_m_lt, z_m_le, z_lt_m, z_le_m, z_eq_m, z_m_eq, z_rz0, z_rz1, z_m_add, z_of, r_0_0, r_0_1, r_0_3, r_0_4, r_0_5, r_0_6, r_0_7, r_0_8, r_0_9, r_0_10, r_1_0, r_1_1, r_1_2, r_1_3, r_1_4, r_1_5, r_1_6, r_1_7, r_1_8, r_2_0, r_2_1, r_2_2, r_2_3, r_2_4, r_2_5, r_2_6, r_2_7, r_11_0, r_11_1, r_11_2, r_11_3, r_11_4, r_11_5, r_11_6, r_19_0, r_21_0, r_23_0, r_25_0, r_27_0, r_61_0, r_117_0, r_117_1, r_117_2, r_117_3, r_117_4, r_117_5, r_117_6, r_117_7, r_126_0, r_126_1, r_126_2, r_126_3, r_126_4, r_132_0, r_132_1, r_135_0, r_135_1, r_135_2, r_135_3, r_135_4, r_135_5, r_142_0, r_144_0, r_144_1, r_144_2, r_145_0, r_145_1, r_145_2, r_145_3, r_145_4, r_145_5, r_145_6, r_154_0, r_154_1, r_155_0, ↓z_m1, l_0, l_1, l_2, l_3, l_4, l_5, l_6, l_7, l_8, l_9, l_10, l_11, l_12, l_13, l_14, l_15, l_16, l_17, l_18, l_19, l_20, l_21, l_22, l_23, l_24, l_25, l_26, l_27, l_28, l_29, l_30, l_31, l_32, l_33, l_34, l_35, l_36, l_37, l_38, l_39, l_40, l_41, l_42, l_43, l_44, l_45, l_46, l_47, l_48, l_49, l_50, l_51, l_52, l_53, l_54, l_55, l_56, l_57, l_59, l_60, l_61, l_62, l_63, l_64, l_65, l_80, l_86, l_87, l_88, l_89, l_90, l_91, l_92, l_93, l_94, l_95, l_97, l_99, l_100, l_107, l_119, l_122, l_124, l_129, l_140, l_141, l_142, l_143, l_144, l_145, l_147, l_150, l_159, l_160, l_161, l_162, l_205, l_253, l_255, l_256, l_269, l_305, l_380, l_399, l_400, l_420, l_430, l_516, l_600, l_720, l_820, l_905, l_921, l_937, l_953, l_970, l_999, l_1000, l_1790, l_4096, l_9999, l_1000000]
theorem z_Sim.scr {σ σ1 σ2 : q_Sto} {mu me : Nat} (h : z_SimN σ mu me) (f1 : ∀ o, o ≠ 18 → o ≠ 30 → σ1 o = σ o) (f2 : ∀ o, o ≠ 166 → o ≠ 167 → σ2 o = σ1 o) : z_SimN σ2 mu me :=
  z_Sim.th h (fun o o1 o2 o3 o4 o5 o6 => by rw [f2 o (by omega) (by omega), f1 o o1 o2]) (fun a ha => by rw [f2 157 (by omega) (by omega), f1 157 (by omega) (by omega)])
theorem z_nn_neg {a : Int32} {k : Nat} (hk : k < 2147483648) (h : a < nI 0) : (a = nI k) = False := eq_false (fun q => by
  subst q
  rw [nI_ltI (by omega) (by omega)] at h; omega)