/-! the fewest that are to be given salt: the search -/
/-- the set makes him the driver -/
def z_dw (V : Nat → Int32) (man mu me lame : Nat) : Nat → Bool := fun s => decide (z_drv (z_pw V man s mu me) (fun i => lame.testBit i) = man + 1)
theorem z_pwB1 {σ : q_Sto} {V : Nat → Int32} {man mu me S : Nat} (hme : me ≤ 5) (hman : man < me) (hB1 : z_B1 σ (z_bt V mu me) 0 z_m) (h0 : ∀ m h, m < mu → h < z_cnt (z_hs V m) 12 + 1 → σ 130 (m*12+h) = nI (z_lean V m man (z_sl V m man) h)) : z_B1 σ (z_pw V man S mu me) S (nI man) := by
  intro m k h hm hk hh
  have hk : k < me := hk
  have hm : m < mu := hm
  have hh : h ≤ z_cnt (z_hs V m) 12 := hh
  have b := hB1 m k h hm hk hh
  rw [Nat.zero_testBit, if_neg (show ¬ false = true by decide), if_neg (fun q => by rw [z_eq_m (by omega)] at q; exact q)] at b
  have b : σ 129 ((m*5+k)*12+h) = nI (z_lean V m k (z_lk V m k) h) := b
  have e : (z_pw V man S mu me).1 m k h = z_lean V m k (if k = man ∧ S.testBit m = true then z_sl V m man else z_lk V m k) h := rfl
  rw [e]
  by_cases q : S.testBit m = true
  · rw [if_pos q]
    by_cases q2 : k = man
    · subst q2
      rw [if_pos rfl, if_pos ⟨rfl, q⟩]
      exact h0 m h hm (by omega)
    · rw [if_neg (fun hq => by rw [nI_eq (by omega) (by omega)] at hq; exact q2 hq), if_neg (fun hq => q2 hq.1)]
      exact b
  · rw [if_neg q, if_neg (fun hq => by rw [z_eq_m (by omega)] at hq; exact hq), if_neg (fun hq => q hq.2)]
    exact b

/-- nothing but the ballot's standing has changed -/
def z_fB (σ σ' : q_Sto) : Prop := (∀ o, o ≠ 131 → o ≠ 126 → σ' o = σ o) ∧ (∀ a, a ≠ 7 → a ≠ 8 → σ' 126 a = σ 126 a)
theorem z_fB.trans {a b c : q_Sto} (h : z_fB a b) (g : z_fB b c) : z_fB a c := ⟨fun o h1 h2 => (g.1 o h1 h2).trans (h.1 o h1 h2), fun a h1 h2 => (g.2 a h1 h2).trans (h.2 a h1 h2)⟩
theorem z_fB.refl (a : q_Sto) : z_fB a a := ⟨fun _ _ _ => rfl, fun _ _ _ => rfl⟩
/-- the class's tables stand -/
def z_WB (σ : q_Sto) (V : Nat → Int32) (man mu me : Nat) : Prop := z_B0 σ (z_bt V mu me) ∧ z_B1 σ (z_bt V mu me) 0 z_m ∧ (∀ m h, m < mu → h < z_cnt (z_hs V m) 12 + 1 → σ 130 (m*12+h) = nI (z_lean V m man (z_sl V m man) h))
theorem z_WB.fr {σ σ' : q_Sto} {V : Nat → Int32} {man mu me : Nat} (h : z_WB σ V man mu me) (g : z_fB σ σ') : z_WB σ' V man mu me :=
  ⟨h.1.fr (g.2 5 (by omega) (by omega)) (g.2 6 (by omega) (by omega)) (g.1 127 (by omega) (by omega)) (g.1 128 (by omega) (by omega)), h.2.1.fr (g.1 129 (by omega) (by omega)) (g.1 130 (by omega) (by omega)), fun m hh hm hhh => by rw [g.1 130 (by omega) (by omega)]; exact h.2.2 m hh hm hhh⟩
theorem c_settleW {σ σc : q_Sto} {V : Nat → Int32} {man mu me lame S : Nat} (hmu : mu ≤ 12) (hme : me ≤ 5) (hHE : z_HE σc 1 V mu) (hman : man < me) (hS : S < 4096) (h : z_WB σ V man mu me) :
    ∃ σ', z_fB σ σ' ∧ f_X0_settle q_F 126 (nI lame) (nI S) (nI man) σ = some (nI 0, σ') ∧ σ' 126 8 = z_vw (z_drv (z_pw V man S mu me) (fun i => lame.testBit i)) ∧ (σ' 126 8 = nI man ↔ z_dw V man mu me lame S = true) := by
  obtain ⟨σ', k1, k2, k3, k4, k5, k6⟩ := c_settle (s := lame) z_F402 (z_pw_ok (man := man) (S := S) (me := me) hmu hme hHE) hS (by rw [z_pw_B0, ← z_bt_B0]; exact h.1) (z_pwB1 hme hman h.2.1 h.2.2)
  refine ⟨σ', ⟨k1, k2⟩, k6, k4, ?_⟩
  rw [k4]
  unfold z_dw
  rw [decide_eq_true_eq]
  have hle := z_pw_le (V := V) (man := man) (S := S) (mu := mu) (me := me) (out := fun i => lame.testBit i)
  have := z_vw_eq (a := z_drv (z_pw V man S mu me) (fun i => lame.testBit i)) (b := man + 1) (by omega) (by omega)
  exact Iff.of_eq this
theorem z_sub_or {s M : Nat} (hs : s < 4096) : (nI s &&& (nI M ^^^ z_m) = nI 0) = (s &&& M = s) := by
  rw [z_andn12 hs, nI_eq (by have : s &&& (M ^^^ 4095) ≤ s := Nat.and_le_left; omega) (by omega)]
  apply propext
  have tb : ∀ i, (s &&& (M ^^^ 4095)).testBit i = (s.testBit i && !M.testBit i) := by
    intro i
    rw [show 4095 = 2 ^ 12 - 1 by omega, Nat.testBit_and, Nat.testBit_xor, Nat.testBit_two_pow_sub_one]
    by_cases q : i < 12
    · simp [q]
    · have : s.testBit i = false := z_tb_lt (N := 12) hs (by omega)
      simp [this]
  constructor
  · intro h
    apply Nat.eq_of_testBit_eq
    intro i
    have := tb i
    rw [h, Nat.zero_testBit] at this
    rw [Nat.testBit_and]
    cases h1 : s.testBit i with
    | false => rfl
    | true => rw [h1] at this; cases h2 : M.testBit i with
      | true => rfl
      | false => rw [h2] at this; cases this
  · intro h
    apply Nat.eq_of_testBit_eq
    intro i
    rw [tb, Nat.zero_testBit]
    have : (s &&& M).testBit i = s.testBit i := by rw [h]
    rw [Nat.testBit_and] at this
    cases h1 : s.testBit i with
    | false => rfl
    | true => rw [h1, Bool.true_and] at this; rw [this]; rfl
/-- one of those sets is met -/
theorem c_few_yes {σc : q_Sto} {V : Nat → Int32} {man mu me lame M t c : Nat} {K : q_Sto → Option (Int32 × q_Sto)} (hmu : mu ≤ 12) (hme : me ≤ 5) (hHE : z_HE σc 1 V mu) (hman : man < me) (hM : M < 4096) (htM : t ≤ M) (ht1 : t &&& M = t) (htc : z_cnt t 12 = c) (htd : z_dw V man mu me lame t = true) (hf : ∀ s, s < t → s &&& M = s → z_cnt s 12 = c → z_dw V man mu me lame s = false) :
    ∀ j i (σ : q_Sto), i ≤ t → t < j + i → z_WB σ V man mu me → ∃ σ', z_fB σ σ' ∧ f_X0_fewestSalted_L36 q_F 126 (nI man) (nI M) (nI lame) (nI c) K j (nI i) σ = some (nI t, σ') := by
  intro j
  induction j with
  | zero => intro i σ h1 h2; omega
  | succ j ih =>
    intro i σ h1 h2 hW
    have hs := z_sub_or (s := i) (M := M) (by omega)
    have ec := c_bitCount (n := q_F) (s := i) (σ := σ) (by omega)
    have hcl := z_cnt_le i 12
    have hcl2 := z_cnt_le t 12
    by_cases hi : i = t
    · subst hi
      obtain ⟨σ1, g1, g2, g3, g4⟩ := c_settleW (lame := lame) hmu hme hHE hman (show i < 4096 by omega) hW
      have g5 := g4.mpr htd
      have hs : (nI i &&& (nI M ^^^ z_m) = nI 0) = True := by rw [hs]; exact eq_true ht1
      rw [htc] at ec
      refine ⟨σ1, g1, ?_⟩
      rw [f_X0_fewestSalted_L36]
      simp (disch := omega) only [hs, ec, g2, g5, ↓reduceIte, ↓p_ld, ↓p_st, ↓p_nm, ↓p_nS, ↓p_jn, ↓p_call, ↓p_callv, ↓p_dv, ↓p_rem, h_ldE, h_stE, h_nmE, h_nSE, h_callE, h_callvE, h_dvE, h_remE, if_true, if_false, z_upS, z_upO, z_upK, nI_add, z_mul, z_sub, z_div, Nat.add_zero, Nat.mul_zero, Nat.zero_add, Nat.sub_zero, Nat.zero_mul, z_ltT, z_ltF, z_leT, z_leF, z_eqT, z_eqF, z_inT, z_clT, not_true_eq_false, not_false_eq_true, eq_self, true_or, or_true, z_m_lt, z_m_le, z_lt_m, z_le_m, z_eq_m, z_m_eq, z_rz0, z_rz1, z_m_add, z_of, r_0_0, r_0_1, r_0_3, r_0_4, r_0_5, r_0_6, r_0_7, r_0_8, r_0_9, r_0_10, r_1_0, r_1_1, r_1_2, r_1_3, r_1_4, r_1_5, r_1_6, r_1_7, r_1_8, r_2_0, r_2_1, r_2_2, r_2_3, r_2_4, r_2_5, r_2_6, r_2_7, r_11_0, r_11_1, r_11_2, r_11_3, r_11_4, r_11_5, r_11_6, r_19_0, r_21_0, r_23_0, r_25_0, r_27_0, r_61_0, r_117_0, r_117_1, r_117_2, r_117_3, r_117_4, r_117_5, r_117_6, r_117_7, r_126_0, r_126_1, r_126_2, r_126_3, r_126_4, r_132_0, r_132_1, r_135_0, r_135_1, r_135_2, r_135_3, r_135_4, r_135_5, r_142_0, r_144_0, r_144_1, r_144_2, r_145_0, r_145_1, r_145_2, r_145_3, r_145_4, r_145_5, r_145_6, r_154_0, r_154_1, r_155_0, ↓z_m1, l_0, l_1, l_2, l_3, l_4, l_5, l_6, l_7, l_8, l_9, l_10, l_11, l_12, l_13, l_14, l_15, l_16, l_17, l_18, l_19, l_20, l_21, l_22, l_23, l_24, l_25, l_26, l_27, l_28, l_29, l_30, l_31, l_32, l_33, l_34, l_35, l_36, l_37, l_38, l_39, l_40, l_41, l_42, l_43, l_44, l_45, l_46, l_47, l_48, l_49, l_50, l_51, l_52, l_53, l_54, l_55, l_56, l_57, l_59, l_60, l_61, l_62, l_63, l_64, l_65, l_80, l_86, l_87, l_88, l_89, l_90, l_91, l_92, l_93, l_94, l_95, l_97, l_99, l_100, l_107, l_119, l_122, l_124, l_129, l_140, l_141, l_142, l_143, l_144, l_145, l_147, l_150, l_159, l_160, l_161, l_162, l_205, l_253, l_255, l_256, l_269, l_305, l_380, l_399, l_400, l_420, l_430, l_516, l_600, l_720, l_820, l_905, l_921, l_937, l_953, l_970, l_999, l_1000, l_1790, l_4096, l_9999, l_1000000]
    · by_cases q1 : i &&& M = i
      · have hs : (nI i &&& (nI M ^^^ z_m) = nI 0) = True := by rw [hs]; exact eq_true q1
        by_cases q2 : z_cnt i 12 = c
        · obtain ⟨σ1, g1, g2, g3, g4⟩ := c_settleW (lame := lame) hmu hme hHE hman (show i < 4096 by omega) hW
          have g5 : (σ1 126 8 = nI man) = False := eq_false (fun h => by
            have := g4.mp h
            rw [hf i (by omega) q1 q2] at this
            cases this)
          obtain ⟨σ', k1, k2⟩ := ih (i+1) σ1 (by omega) (by omega) (hW.fr g1)
          refine ⟨σ', g1.trans k1, ?_⟩
          rw [q2] at ec
          rw [← k2, f_X0_fewestSalted_L36]
          simp (disch := omega) only [hs, ec, g2, g5, ↓reduceIte, ↓p_ld, ↓p_st, ↓p_nm, ↓p_nS, ↓p_jn, ↓p_call, ↓p_callv, ↓p_dv, ↓p_rem, h_ldE, h_stE, h_nmE, h_nSE, h_callE, h_callvE, h_dvE, h_remE, if_true, if_false, z_upS, z_upO, z_upK, nI_add, z_mul, z_sub, z_div, Nat.add_zero, Nat.mul_zero, Nat.zero_add, Nat.sub_zero, Nat.zero_mul, z_ltT, z_ltF, z_leT, z_leF, z_eqT, z_eqF, z_inT, z_clT, not_true_eq_false, not_false_eq_true, eq_self, true_or, or_true, z_m_lt, z_m_le, z_lt_m, z_le_m, z_eq_m, z_m_eq, z_rz0, z_rz1, z_m_add, z_of, r_0_0, r_0_1, r_0_3, r_0_4, r_0_5, r_0_6, r_0_7, r_0_8, r_0_9, r_0_10, r_1_0, r_1_1, r_1_2, r_1_3, r_1_4, r_1_5, r_1_6, r_1_7, r_1_8, r_2_0, r_2_1, r_2_2, r_2_3, r_2_4, r_2_5, r_2_6, r_2_7, r_11_0, r_11_1, r_11_2, r_11_3, r_11_4, r_11_5, r_11_6, r_19_0, r_21_0, r_23_0, r_25_0, r_27_0, r_61_0, r_117_0, r_117_1, r_117_2, r_117_3, r_117_4, r_117_5, r_117_6, r_117_7, r_126_0, r_126_1, r_126_2, r_126_3, r_126_4, r_132_0, r_132_1, r_135_0, r_135_1, r_135_2, r_135_3, r_135_4, r_135_5, r_142_0, r_144_0, r_144_1, r_144_2, r_145_0, r_145_1, r_145_2, r_145_3, r_145_4, r_145_5, r_145_6, r_154_0, r_154_1, r_155_0, ↓z_m1, l_0, l_1, l_2, l_3, l_4, l_5, l_6, l_7, l_8, l_9, l_10, l_11, l_12, l_13, l_14, l_15, l_16, l_17, l_18, l_19, l_20, l_21, l_22, l_23, l_24, l_25, l_26, l_27, l_28, l_29, l_30, l_31, l_32, l_33, l_34, l_35, l_36, l_37, l_38, l_39, l_40, l_41, l_42, l_43, l_44, l_45, l_46, l_47, l_48, l_49, l_50, l_51, l_52, l_53, l_54, l_55, l_56, l_57, l_59, l_60, l_61, l_62, l_63, l_64, l_65, l_80, l_86, l_87, l_88, l_89, l_90, l_91, l_92, l_93, l_94, l_95, l_97, l_99, l_100, l_107, l_119, l_122, l_124, l_129, l_140, l_141, l_142, l_143, l_144, l_145, l_147, l_150, l_159, l_160, l_161, l_162, l_205, l_253, l_255, l_256, l_269, l_305, l_380, l_399, l_400, l_420, l_430, l_516, l_600, l_720, l_820, l_905, l_921, l_937, l_953, l_970, l_999, l_1000, l_1790, l_4096, l_9999, l_1000000]
        · obtain ⟨σ', k1, k2⟩ := ih (i+1) σ (by omega) (by omega) hW
          refine ⟨σ', k1, ?_⟩
          rw [← k2, f_X0_fewestSalted_L36]
          generalize z_cnt i 12 = ci at *
          simp (disch := omega) only [hs, ec, ↓reduceIte, ↓p_ld, ↓p_st, ↓p_nm, ↓p_nS, ↓p_jn, ↓p_call, ↓p_callv, ↓p_dv, ↓p_rem, h_ldE, h_stE, h_nmE, h_nSE, h_callE, h_callvE, h_dvE, h_remE, if_true, if_false, z_upS, z_upO, z_upK, nI_add, z_mul, z_sub, z_div, Nat.add_zero, Nat.mul_zero, Nat.zero_add, Nat.sub_zero, Nat.zero_mul, z_ltT, z_ltF, z_leT, z_leF, z_eqT, z_eqF, z_inT, z_clT, not_true_eq_false, not_false_eq_true, eq_self, true_or, or_true, z_m_lt, z_m_le, z_lt_m, z_le_m, z_eq_m, z_m_eq, z_rz0, z_rz1, z_m_add, z_of, r_0_0, r_0_1, r_0_3, r_0_4, r_0_5, r_0_6, r_0_7, r_0_8, r_0_9, r_0_10, r_1_0, r_1_1, r_1_2, r_1_3, r_1_4, r_1_5, r_1_6, r_1_7, r_1_8, r_2_0, r_2_1, r_2_2, r_2_3, r_2_4, r_2_5, r_2_6, r_2_7, r_11_0, r_11_1, r_11_2, r_11_3, r_11_4, r_11_5, r_11_6, r_19_0, r_21_0, r_23_0, r_25_0, r_27_0, r_61_0, r_117_0, r_117_1, r_117_2, r_117_3, r_117_4, r_117_5, r_117_6, r_117_7, r_126_0, r_126_1, r_126_2, r_126_3, r_126_4, r_132_0, r_132_1, r_135_0, r_135_1, r_135_2, r_135_3, r_135_4, r_135_5, r_142_0, r_144_0, r_144_1, r_144_2, r_145_0, r_145_1, r_145_2, r_145_3, r_145_4, r_145_5, r_145_6, r_154_0, r_154_1, r_155_0, ↓z_m1, l_0, l_1, l_2, l_3, l_4, l_5, l_6, l_7, l_8, l_9, l_10, l_11, l_12, l_13, l_14, l_15, l_16, l_17, l_18, l_19, l_20, l_21, l_22, l_23, l_24, l_25, l_26, l_27, l_28, l_29, l_30, l_31, l_32, l_33, l_34, l_35, l_36, l_37, l_38, l_39, l_40, l_41, l_42, l_43, l_44, l_45, l_46, l_47, l_48, l_49, l_50, l_51, l_52, l_53, l_54, l_55, l_56, l_57, l_59, l_60, l_61, l_62, l_63, l_64, l_65, l_80, l_86, l_87, l_88, l_89, l_90, l_91, l_92, l_93, l_94, l_95, l_97, l_99, l_100, l_107, l_119, l_122, l_124, l_129, l_140, l_141, l_142, l_143, l_144, l_145, l_147, l_150, l_159, l_160, l_161, l_162, l_205, l_253, l_255, l_256, l_269, l_305, l_380, l_399, l_400, l_420, l_430, l_516, l_600, l_720, l_820, l_905, l_921, l_937, l_953, l_970, l_999, l_1000, l_1790, l_4096, l_9999, l_1000000]
      · have hs : (nI i &&& (nI M ^^^ z_m) = nI 0) = False := by rw [hs]; exact eq_false q1
        obtain ⟨σ', k1, k2⟩ := ih (i+1) σ (by omega) (by omega) hW
        refine ⟨σ', k1, ?_⟩
        rw [← k2, f_X0_fewestSalted_L36]
        simp (disch := omega) only [hs, ↓reduceIte, ↓p_ld, ↓p_st, ↓p_nm, ↓p_nS, ↓p_jn, ↓p_call, ↓p_callv, ↓p_dv, ↓p_rem, h_ldE, h_stE, h_nmE, h_nSE, h_callE, h_callvE, h_dvE, h_remE, if_true, if_false, z_upS, z_upO, z_upK, nI_add, z_mul, z_sub, z_div, Nat.add_zero, Nat.mul_zero, Nat.zero_add, Nat.sub_zero, Nat.zero_mul, z_ltT, z_ltF, z_leT, z_leF, z_eqT, z_eqF, z_inT, z_clT, not_true_eq_false, not_false_eq_true, eq_self, true_or, or_true, z_m_lt, z_m_le, z_lt_m, z_le_m, z_eq_m, z_m_eq, z_rz0, z_rz1, z_m_add, z_of, r_0_0, r_0_1, r_0_3, r_0_4, r_0_5, r_0_6, r_0_7, r_0_8, r_0_9, r_0_10, r_1_0, r_1_1, r_1_2, r_1_3, r_1_4, r_1_5, r_1_6, r_1_7, r_1_8, r_2_0, r_2_1, r_2_2, r_2_3, r_2_4, r_2_5, r_2_6, r_2_7, r_11_0, r_11_1, r_11_2, r_11_3, r_11_4, r_11_5, r_11_6, r_19_0, r_21_0, r_23_0, r_25_0, r_27_0, r_61_0, r_117_0, r_117_1, r_117_2, r_117_3, r_117_4, r_117_5, r_117_6, r_117_7, r_126_0, r_126_1, r_126_2, r_126_3, r_126_4, r_132_0, r_132_1, r_135_0, r_135_1, r_135_2, r_135_3, r_135_4, r_135_5, r_142_0, r_144_0, r_144_1, r_144_2, r_145_0, r_145_1, r_145_2, r_145_3, r_145_4, r_145_5, r_145_6, r_154_0, r_154_1, r_155_0, ↓z_m1, l_0, l_1, l_2, l_3, l_4, l_5, l_6, l_7, l_8, l_9, l_10, l_11, l_12, l_13, l_14, l_15, l_16, l_17, l_18, l_19, l_20, l_21, l_22, l_23, l_24, l_25, l_26, l_27, l_28, l_29, l_30, l_31, l_32, l_33, l_34, l_35, l_36, l_37, l_38, l_39, l_40, l_41, l_42, l_43, l_44, l_45, l_46, l_47, l_48, l_49, l_50, l_51, l_52, l_53, l_54, l_55, l_56, l_57, l_59, l_60, l_61, l_62, l_63, l_64, l_65, l_80, l_86, l_87, l_88, l_89, l_90, l_91, l_92, l_93, l_94, l_95, l_97, l_99, l_100, l_107, l_119, l_122, l_124, l_129, l_140, l_141, l_142, l_143, l_144, l_145, l_147, l_150, l_159, l_160, l_161, l_162, l_205, l_253, l_255, l_256, l_269, l_305, l_380, l_399, l_400, l_420, l_430, l_516, l_600, l_720, l_820, l_905, l_921, l_937, l_953, l_970, l_999, l_1000, l_1790, l_4096, l_9999, l_1000000]
theorem c_few_no {σc : q_Sto} {V : Nat → Int32} {man mu me lame M c : Nat} {K : q_Sto → Option (Int32 × q_Sto)} (hmu : mu ≤ 12) (hme : me ≤ 5) (hHE : z_HE σc 1 V mu) (hman : man < me) (hM : M < 4096) (hc12 : c ≤ 12) (hf : ∀ s, s ≤ M → s &&& M = s → z_cnt s 12 = c → z_dw V man mu me lame s = false) :
    ∀ j i (σ : q_Sto), i ≤ M + 1 → M + 1 < j + i → z_WB σ V man mu me → ∃ σ', z_fB σ σ' ∧ f_X0_fewestSalted_L36 q_F 126 (nI man) (nI M) (nI lame) (nI c) K j (nI i) σ = K σ' := by
  intro j
  induction j with
  | zero => intro i σ h1 h2; omega
  | succ j ih =>
    intro i σ h1 h2 hW
    by_cases hi : i = M + 1
    · subst hi
      refine ⟨σ, z_fB.refl σ, ?_⟩
      rw [f_X0_fewestSalted_L36]
      simp (disch := omega) only [↓reduceIte, ↓p_ld, ↓p_st, ↓p_nm, ↓p_nS, ↓p_jn, ↓p_call, ↓p_callv, ↓p_dv, ↓p_rem, h_ldE, h_stE, h_nmE, h_nSE, h_callE, h_callvE, h_dvE, h_remE, if_true, if_false, z_upS, z_upO, z_upK, nI_add, z_mul, z_sub, z_div, Nat.add_zero, Nat.mul_zero, Nat.zero_add, Nat.sub_zero, Nat.zero_mul, z_ltT, z_ltF, z_leT, z_leF, z_eqT, z_eqF, z_inT, z_clT, not_true_eq_false, not_false_eq_true, eq_self, true_or, or_true, z_m_lt, z_m_le, z_lt_m, z_le_m, z_eq_m, z_m_eq, z_rz0, z_rz1, z_m_add, z_of, r_0_0, r_0_1, r_0_3, r_0_4, r_0_5, r_0_6, r_0_7, r_0_8, r_0_9, r_0_10, r_1_0, r_1_1, r_1_2, r_1_3, r_1_4, r_1_5, r_1_6, r_1_7, r_1_8, r_2_0, r_2_1, r_2_2, r_2_3, r_2_4, r_2_5, r_2_6, r_2_7, r_11_0, r_11_1, r_11_2, r_11_3, r_11_4, r_11_5, r_11_6, r_19_0, r_21_0, r_23_0, r_25_0, r_27_0, r_61_0, r_117_0, r_117_1, r_117_2, r_117_3, r_117_4, r_117_5, r_117_6, r_117_7, r_126_0, r_126_1, r_126_2, r_126_3, r_126_4, r_132_0, r_132_1, r_135_0, r_135_1, r_135_2, r_135_3, r_135_4, r_135_5, r_142_0, r_144_0, r_144_1, r_144_2, r_145_0, r_145_1, r_145_2, r_145_3, r_145_4, r_145_5, r_145_6, r_154_0, r_154_1, r_155_0, ↓z_m1, l_0, l_1, l_2, l_3, l_4, l_5, l_6, l_7, l_8, l_9, l_10, l_11, l_12, l_13, l_14, l_15, l_16, l_17, l_18, l_19, l_20, l_21, l_22, l_23, l_24, l_25, l_26, l_27, l_28, l_29, l_30, l_31, l_32, l_33, l_34, l_35, l_36, l_37, l_38, l_39, l_40, l_41, l_42, l_43, l_44, l_45, l_46, l_47, l_48, l_49, l_50, l_51, l_52, l_53, l_54, l_55, l_56, l_57, l_59, l_60, l_61, l_62, l_63, l_64, l_65, l_80, l_86, l_87, l_88, l_89, l_90, l_91, l_92, l_93, l_94, l_95, l_97, l_99, l_100, l_107, l_119, l_122, l_124, l_129, l_140, l_141, l_142, l_143, l_144, l_145, l_147, l_150, l_159, l_160, l_161, l_162, l_205, l_253, l_255, l_256, l_269, l_305, l_380, l_399, l_400, l_420, l_430, l_516, l_600, l_720, l_820, l_905, l_921, l_937, l_953, l_970, l_999, l_1000, l_1790, l_4096, l_9999, l_1000000]
    · have hs := z_sub_or (s := i) (M := M) (by omega)
      have ec := c_bitCount (n := q_F) (s := i) (σ := σ) (by omega)
      have hcl := z_cnt_le i 12
      by_cases q1 : i &&& M = i
      · have hs : (nI i &&& (nI M ^^^ z_m) = nI 0) = True := by rw [hs]; exact eq_true q1
        by_cases q2 : z_cnt i 12 = c
        · obtain ⟨σ1, g1, g2, g3, g4⟩ := c_settleW (lame := lame) hmu hme hHE hman (show i < 4096 by omega) hW
          have g5 : (σ1 126 8 = nI man) = False := eq_false (fun h => by
            have := g4.mp h
            rw [hf i (by omega) q1 q2] at this
            cases this)
          obtain ⟨σ', k1, k2⟩ := ih (i+1) σ1 (by omega) (by omega) (hW.fr g1)
          refine ⟨σ', g1.trans k1, ?_⟩
          rw [q2] at ec
          rw [← k2, f_X0_fewestSalted_L36]
          simp (disch := omega) only [hs, ec, g2, g5, ↓reduceIte, ↓p_ld, ↓p_st, ↓p_nm, ↓p_nS, ↓p_jn, ↓p_call, ↓p_callv, ↓p_dv, ↓p_rem, h_ldE, h_stE, h_nmE, h_nSE, h_callE, h_callvE, h_dvE, h_remE, if_true, if_false, z_upS, z_upO, z_upK, nI_add, z_mul, z_sub, z_div, Nat.add_zero, Nat.mul_zero, Nat.zero_add, Nat.sub_zero, Nat.zero_mul, z_ltT, z_ltF, z_leT, z_leF, z_eqT, z_eqF, z_inT, z_clT, not_true_eq_false, not_false_eq_true, eq_self, true_or, or_true, z_m_lt, z_m_le, z_lt_m, z_le_m, z_eq_m, z_m_eq, z_rz0, z_rz1, z_m_add, z_of, r_0_0, r_0_1, r_0_3, r_0_4, r_0_5, r_0_6, r_0_7, r_0_8, r_0_9, r_0_10, r_1_0, r_1_1, r_1_2, r_1_3, r_1_4, r_1_5, r_1_6, r_1_7, r_1_8, r_2_0, r_2_1, r_2_2, r_2_3, r_2_4, r_2_5, r_2_6, r_2_7, r_11_0, r_11_1, r_11_2, r_11_3, r_11_4, r_11_5, r_11_6, r_19_0, r_21_0, r_23_0, r_25_0, r_27_0, r_61_0, r_117_0, r_117_1, r_117_2, r_117_3, r_117_4, r_117_5, r_117_6, r_117_7, r_126_0, r_126_1, r_126_2, r_126_3, r_126_4, r_132_0, r_132_1, r_135_0, r_135_1, r_135_2, r_135_3, r_135_4, r_135_5, r_142_0, r_144_0, r_144_1, r_144_2, r_145_0, r_145_1, r_145_2, r_145_3, r_145_4, r_145_5, r_145_6, r_154_0, r_154_1, r_155_0, ↓z_m1, l_0, l_1, l_2, l_3, l_4, l_5, l_6, l_7, l_8, l_9, l_10, l_11, l_12, l_13, l_14, l_15, l_16, l_17, l_18, l_19, l_20, l_21, l_22, l_23, l_24, l_25, l_26, l_27, l_28, l_29, l_30, l_31, l_32, l_33, l_34, l_35, l_36, l_37, l_38, l_39, l_40, l_41, l_42, l_43, l_44, l_45, l_46, l_47, l_48, l_49, l_50, l_51, l_52, l_53, l_54, l_55, l_56, l_57, l_59, l_60, l_61, l_62, l_63, l_64, l_65, l_80, l_86, l_87, l_88, l_89, l_90, l_91, l_92, l_93, l_94, l_95, l_97, l_99, l_100, l_107, l_119, l_122, l_124, l_129, l_140, l_141, l_142, l_143, l_144, l_145, l_147, l_150, l_159, l_160, l_161, l_162, l_205, l_253, l_255, l_256, l_269, l_305, l_380, l_399, l_400, l_420, l_430, l_516, l_600, l_720, l_820, l_905, l_921, l_937, l_953, l_970, l_999, l_1000, l_1790, l_4096, l_9999, l_1000000]
        · obtain ⟨σ', k1, k2⟩ := ih (i+1) σ (by omega) (by omega) hW
          refine ⟨σ', k1, ?_⟩
          rw [← k2, f_X0_fewestSalted_L36]
          generalize z_cnt i 12 = ci at *
          simp (disch := omega) only [hs, ec, ↓reduceIte, ↓p_ld, ↓p_st, ↓p_nm, ↓p_nS, ↓p_jn, ↓p_call, ↓p_callv, ↓p_dv, ↓p_rem, h_ldE, h_stE, h_nmE, h_nSE, h_callE, h_callvE, h_dvE, h_remE, if_true, if_false, z_upS, z_upO, z_upK, nI_add, z_mul, z_sub, z_div, Nat.add_zero, Nat.mul_zero, Nat.zero_add, Nat.sub_zero, Nat.zero_mul, z_ltT, z_ltF, z_leT, z_leF, z_eqT, z_eqF, z_inT, z_clT, not_true_eq_false, not_false_eq_true, eq_self, true_or, or_true, z_m_lt, z_m_le, z_lt_m, z_le_m, z_eq_m, z_m_eq, z_rz0, z_rz1, z_m_add, z_of, r_0_0, r_0_1, r_0_3, r_0_4, r_0_5, r_0_6, r_0_7, r_0_8, r_0_9, r_0_10, r_1_0, r_1_1, r_1_2, r_1_3, r_1_4, r_1_5, r_1_6, r_1_7, r_1_8, r_2_0, r_2_1, r_2_2, r_2_3, r_2_4, r_2_5, r_2_6, r_2_7, r_11_0, r_11_1, r_11_2, r_11_3, r_11_4, r_11_5, r_11_6, r_19_0, r_21_0, r_23_0, r_25_0, r_27_0, r_61_0, r_117_0, r_117_1, r_117_2, r_117_3, r_117_4, r_117_5, r_117_6, r_117_7, r_126_0, r_126_1, r_126_2, r_126_3, r_126_4, r_132_0, r_132_1, r_135_0, r_135_1, r_135_2, r_135_3, r_135_4, r_135_5, r_142_0, r_144_0, r_144_1, r_144_2, r_145_0, r_145_1, r_145_2, r_145_3, r_145_4, r_145_5, r_145_6, r_154_0, r_154_1, r_155_0, ↓z_m1, l_0, l_1, l_2, l_3, l_4, l_5, l_6, l_7, l_8, l_9, l_10, l_11, l_12, l_13, l_14, l_15, l_16, l_17, l_18, l_19, l_20, l_21, l_22, l_23, l_24, l_25, l_26, l_27, l_28, l_29, l_30, l_31, l_32, l_33, l_34, l_35, l_36, l_37, l_38, l_39, l_40, l_41, l_42, l_43, l_44, l_45, l_46, l_47, l_48, l_49, l_50, l_51, l_52, l_53, l_54, l_55, l_56, l_57, l_59, l_60, l_61, l_62, l_63, l_64, l_65, l_80, l_86, l_87, l_88, l_89, l_90, l_91, l_92, l_93, l_94, l_95, l_97, l_99, l_100, l_107, l_119, l_122, l_124, l_129, l_140, l_141, l_142, l_143, l_144, l_145, l_147, l_150, l_159, l_160, l_161, l_162, l_205, l_253, l_255, l_256, l_269, l_305, l_380, l_399, l_400, l_420, l_430, l_516, l_600, l_720, l_820, l_905, l_921, l_937, l_953, l_970, l_999, l_1000, l_1790, l_4096, l_9999, l_1000000]
      · have hs : (nI i &&& (nI M ^^^ z_m) = nI 0) = False := by rw [hs]; exact eq_false q1
        obtain ⟨σ', k1, k2⟩ := ih (i+1) σ (by omega) (by omega) hW
        refine ⟨σ', k1, ?_⟩
        rw [← k2, f_X0_fewestSalted_L36]
        simp (disch := omega) only [hs, ↓reduceIte, ↓p_ld, ↓p_st, ↓p_nm, ↓p_nS, ↓p_jn, ↓p_call, ↓p_callv, ↓p_dv, ↓p_rem, h_ldE, h_stE, h_nmE, h_nSE, h_callE, h_callvE, h_dvE, h_remE, if_true, if_false, z_upS, z_upO, z_upK, nI_add, z_mul, z_sub, z_div, Nat.add_zero, Nat.mul_zero, Nat.zero_add, Nat.sub_zero, Nat.zero_mul, z_ltT, z_ltF, z_leT, z_leF, z_eqT, z_eqF, z_inT, z_clT, not_true_eq_false, not_false_eq_true, eq_self, true_or, or_true, z_m_lt, z_m_le, z_lt_m, z_le_m, z_eq_m, z_m_eq, z_rz0, z_rz1, z_m_add, z_of, r_0_0, r_0_1, r_0_3, r_0_4, r_0_5, r_0_6, r_0_7, r_0_8, r_0_9, r_0_10, r_1_0, r_1_1, r_1_2, r_1_3, r_1_4, r_1_5, r_1_6, r_1_7, r_1_8, r_2_0, r_2_1, r_2_2, r_2_3, r_2_4, r_2_5, r_2_6, r_2_7, r_11_0, r_11_1, r_11_2, r_11_3, r_11_4, r_11_5, r_11_6, r_19_0, r_21_0, r_23_0, r_25_0, r_27_0, r_61_0, r_117_0, r_117_1, r_117_2, r_117_3, r_117_4, r_117_5, r_117_6, r_117_7, r_126_0, r_126_1, r_126_2, r_126_3, r_126_4, r_132_0, r_132_1, r_135_0, r_135_1, r_135_2, r_135_3, r_135_4, r_135_5, r_142_0, r_144_0, r_144_1, r_144_2, r_145_0, r_145_1, r_145_2, r_145_3, r_145_4, r_145_5, r_145_6, r_154_0, r_154_1, r_155_0, ↓z_m1, l_0, l_1, l_2, l_3, l_4, l_5, l_6, l_7, l_8, l_9, l_10, l_11, l_12, l_13, l_14, l_15, l_16, l_17, l_18, l_19, l_20, l_21, l_22, l_23, l_24, l_25, l_26, l_27, l_28, l_29, l_30, l_31, l_32, l_33, l_34, l_35, l_36, l_37, l_38, l_39, l_40, l_41, l_42, l_43, l_44, l_45, l_46, l_47, l_48, l_49, l_50, l_51, l_52, l_53, l_54, l_55, l_56, l_57, l_59, l_60, l_61, l_62, l_63, l_64, l_65, l_80, l_86, l_87, l_88, l_89, l_90, l_91, l_92, l_93, l_94, l_95, l_97, l_99, l_100, l_107, l_119, l_122, l_124, l_129, l_140, l_141, l_142, l_143, l_144, l_145, l_147, l_150, l_159, l_160, l_161, l_162, l_205, l_253, l_255, l_256, l_269, l_305, l_380, l_399, l_400, l_420, l_430, l_516, l_600, l_720, l_820, l_905, l_921, l_937, l_953, l_970, l_999, l_1000, l_1790, l_4096, l_9999, l_1000000]
/-- the class's search ends at the reference's -/
theorem c_few24 {σc : q_Sto} {V : Nat → Int32} {man mu me lame M R N : Nat} (hmu : mu ≤ 12) (hN : N = 2 ^ mu) (hme : me ≤ 5) (hHE : z_HE σc 1 V mu) (hman : man < me) (hM : M < N) (hd : ∀ s, s < N → z_dw V man mu me lame (s &&& M) = z_dw V man mu me lame s) (hR : R = z_wr (z_dw V man mu me lame) N) :
    ∀ j c (σ : q_Sto), c ≤ z_cnt M 12 + 1 → z_cnt M 12 + 1 < j + c → (∀ t, R = t + 1 → c ≤ z_cnt t 12) → z_WB σ V man mu me →
      ∃ σ', z_fB σ σ' ∧ f_X0_fewestSalted_L24 q_F 126 (nI man) (nI M) (nI lame) j (nI c) σ = some (z_vw R, σ') := by
  have h12 := z_p12 hmu
  have hspec := z_wr_spec (d := z_dw V man mu me lame) N
  rw [← hR] at hspec
  have hcM := z_cnt_le M 12
  intro j
  induction j with
  | zero => intro c σ h1 h2; omega
  | succ j ih =>
    intro c σ h1 h2 hlow hW
    have ec := c_bitCount (n := q_F) (s := M) (σ := σ) (by omega)
    by_cases hc : c = z_cnt M 12 + 1
    · have hR0 : R = 0 := by
        cases hr : R with
        | zero => rfl
        | succ t =>
          have := hlow t hr
          have htM := z_wr_mv (d := z_dw V man mu me lame) (N := N) (M := M) (by omega) hd (t := t) (by rw [← hR]; exact hr)
          have := (z_cnt_and_le (a := t) (b := M)).2
          rw [htM] at this
          omega
      refine ⟨σ, z_fB.refl σ, ?_⟩
      rw [hR0, f_X0_fewestSalted_L24]
      have ez : z_vw 0 = z_m := rfl
      rw [ez]
      generalize z_cnt M 12 = cm at *
      simp (disch := omega) only [ec, ↓reduceIte, ↓p_ld, ↓p_st, ↓p_nm, ↓p_nS, ↓p_jn, ↓p_call, ↓p_callv, ↓p_dv, ↓p_rem, h_ldE, h_stE, h_nmE, h_nSE, h_callE, h_callvE, h_dvE, h_remE, if_true, if_false, z_upS, z_upO, z_upK, nI_add, z_mul, z_sub, z_div, Nat.add_zero, Nat.mul_zero, Nat.zero_add, Nat.sub_zero, Nat.zero_mul, z_ltT, z_ltF, z_leT, z_leF, z_eqT, z_eqF, z_inT, z_clT, not_true_eq_false, not_false_eq_true, eq_self, true_or, or_true, z_m_lt, z_m_le, z_lt_m, z_le_m, z_eq_m, z_m_eq, z_rz0, z_rz1, z_m_add, z_of, r_0_0, r_0_1, r_0_3, r_0_4, r_0_5, r_0_6, r_0_7, r_0_8, r_0_9, r_0_10, r_1_0, r_1_1, r_1_2, r_1_3, r_1_4, r_1_5, r_1_6, r_1_7, r_1_8, r_2_0, r_2_1, r_2_2, r_2_3, r_2_4, r_2_5, r_2_6, r_2_7, r_11_0, r_11_1, r_11_2, r_11_3, r_11_4, r_11_5, r_11_6, r_19_0, r_21_0, r_23_0, r_25_0, r_27_0, r_61_0, r_117_0, r_117_1, r_117_2, r_117_3, r_117_4, r_117_5, r_117_6, r_117_7, r_126_0, r_126_1, r_126_2, r_126_3, r_126_4, r_132_0, r_132_1, r_135_0, r_135_1, r_135_2, r_135_3, r_135_4, r_135_5, r_142_0, r_144_0, r_144_1, r_144_2, r_145_0, r_145_1, r_145_2, r_145_3, r_145_4, r_145_5, r_145_6, r_154_0, r_154_1, r_155_0, ↓z_m1, l_0, l_1, l_2, l_3, l_4, l_5, l_6, l_7, l_8, l_9, l_10, l_11, l_12, l_13, l_14, l_15, l_16, l_17, l_18, l_19, l_20, l_21, l_22, l_23, l_24, l_25, l_26, l_27, l_28, l_29, l_30, l_31, l_32, l_33, l_34, l_35, l_36, l_37, l_38, l_39, l_40, l_41, l_42, l_43, l_44, l_45, l_46, l_47, l_48, l_49, l_50, l_51, l_52, l_53, l_54, l_55, l_56, l_57, l_59, l_60, l_61, l_62, l_63, l_64, l_65, l_80, l_86, l_87, l_88, l_89, l_90, l_91, l_92, l_93, l_94, l_95, l_97, l_99, l_100, l_107, l_119, l_122, l_124, l_129, l_140, l_141, l_142, l_143, l_144, l_145, l_147, l_150, l_159, l_160, l_161, l_162, l_205, l_253, l_255, l_256, l_269, l_305, l_380, l_399, l_400, l_420, l_430, l_516, l_600, l_720, l_820, l_905, l_921, l_937, l_953, l_970, l_999, l_1000, l_1790, l_4096, l_9999, l_1000000]
    · by_cases hq : ∃ t, R = t + 1 ∧ z_cnt t 12 = c
      · obtain ⟨t, hr, htc⟩ := hq
        obtain ⟨t1, t2, t3⟩ := hspec.2 t hr
        have htM := z_wr_mv (d := z_dw V man mu me lame) (N := N) (M := M) (by omega) hd (t := t) (by rw [← hR]; exact hr)
        have htle : t ≤ M := by
          have : t &&& M ≤ M := Nat.and_le_right
          omega
        obtain ⟨σ', k1, k2⟩ := c_few_yes (lame := lame) (K := fun (s18 : q_Sto) => f_X0_fewestSalted_L24 q_F 126 (nI man) (nI M) (nI lame) j (nI (c + 1)) s18) hmu hme hHE hman (show M < 4096 by omega) htle htM htc t2 (fun s hs hsM hsc => by
          refine z_bf (fun hd2 => ?_)
          have := (t3 s (by omega) hd2).2 (by omega)
          omega) q_F 0 σ (Nat.zero_le _) (by unfold q_F; omega) hW
        refine ⟨σ', k1, ?_⟩
        rw [hr]
        show _ = some (nI t, σ')
        rw [← k2, f_X0_fewestSalted_L24]
        generalize z_cnt M 12 = cm at *
        simp (disch := omega) only [ec, ↓reduceIte, ↓p_ld, ↓p_st, ↓p_nm, ↓p_nS, ↓p_jn, ↓p_call, ↓p_callv, ↓p_dv, ↓p_rem, h_ldE, h_stE, h_nmE, h_nSE, h_callE, h_callvE, h_dvE, h_remE, if_true, if_false, z_upS, z_upO, z_upK, nI_add, z_mul, z_sub, z_div, Nat.add_zero, Nat.mul_zero, Nat.zero_add, Nat.sub_zero, Nat.zero_mul, z_ltT, z_ltF, z_leT, z_leF, z_eqT, z_eqF, z_inT, z_clT, not_true_eq_false, not_false_eq_true, eq_self, true_or, or_true, z_m_lt, z_m_le, z_lt_m, z_le_m, z_eq_m, z_m_eq, z_rz0, z_rz1, z_m_add, z_of, r_0_0, r_0_1, r_0_3, r_0_4, r_0_5, r_0_6, r_0_7, r_0_8, r_0_9, r_0_10, r_1_0, r_1_1, r_1_2, r_1_3, r_1_4, r_1_5, r_1_6, r_1_7, r_1_8, r_2_0, r_2_1, r_2_2, r_2_3, r_2_4, r_2_5, r_2_6, r_2_7, r_11_0, r_11_1, r_11_2, r_11_3, r_11_4, r_11_5, r_11_6, r_19_0, r_21_0, r_23_0, r_25_0, r_27_0, r_61_0, r_117_0, r_117_1, r_117_2, r_117_3, r_117_4, r_117_5, r_117_6, r_117_7, r_126_0, r_126_1, r_126_2, r_126_3, r_126_4, r_132_0, r_132_1, r_135_0, r_135_1, r_135_2, r_135_3, r_135_4, r_135_5, r_142_0, r_144_0, r_144_1, r_144_2, r_145_0, r_145_1, r_145_2, r_145_3, r_145_4, r_145_5, r_145_6, r_154_0, r_154_1, r_155_0, ↓z_m1, l_0, l_1, l_2, l_3, l_4, l_5, l_6, l_7, l_8, l_9, l_10, l_11, l_12, l_13, l_14, l_15, l_16, l_17, l_18, l_19, l_20, l_21, l_22, l_23, l_24, l_25, l_26, l_27, l_28, l_29, l_30, l_31, l_32, l_33, l_34, l_35, l_36, l_37, l_38, l_39, l_40, l_41, l_42, l_43, l_44, l_45, l_46, l_47, l_48, l_49, l_50, l_51, l_52, l_53, l_54, l_55, l_56, l_57, l_59, l_60, l_61, l_62, l_63, l_64, l_65, l_80, l_86, l_87, l_88, l_89, l_90, l_91, l_92, l_93, l_94, l_95, l_97, l_99, l_100, l_107, l_119, l_122, l_124, l_129, l_140, l_141, l_142, l_143, l_144, l_145, l_147, l_150, l_159, l_160, l_161, l_162, l_205, l_253, l_255, l_256, l_269, l_305, l_380, l_399, l_400, l_420, l_430, l_516, l_600, l_720, l_820, l_905, l_921, l_937, l_953, l_970, l_999, l_1000, l_1790, l_4096, l_9999, l_1000000]
      · have hlow2 : ∀ t, R = t + 1 → c + 1 ≤ z_cnt t 12 := fun t ht => by
          have := hlow t ht
          have : z_cnt t 12 ≠ c := fun h => hq ⟨t, ht, h⟩
          omega
        obtain ⟨σ1, g1, g2⟩ := c_few_no (lame := lame) (K := fun (s18 : q_Sto) => f_X0_fewestSalted_L24 q_F 126 (nI man) (nI M) (nI lame) j (nI (c + 1)) s18) hmu hme hHE hman (show M < 4096 by omega) (show c ≤ 12 by omega) (fun s hs hsM hsc => by
          refine z_bf (fun hd2 => ?_)
          cases hr : R with
          | zero =>
            have := hspec.1 hr s (by omega)
            rw [this] at hd2; cases hd2
          | succ t =>
            have := ((hspec.2 t hr).2.2 s (by omega) hd2).1
            have := hlow2 t hr
            omega) q_F 0 σ (Nat.zero_le _) (by unfold q_F; omega) hW
        obtain ⟨σ', k1, k2⟩ := ih (c+1) σ1 (by omega) (by omega) hlow2 (hW.fr g1)
        refine ⟨σ', g1.trans k1, ?_⟩
        rw [← k2, f_X0_fewestSalted_L24]
        generalize z_cnt M 12 = cm at *
        simp (disch := omega) only [ec, ↓reduceIte, ↓p_ld, ↓p_st, ↓p_nm, ↓p_nS, ↓p_jn, ↓p_call, ↓p_callv, ↓p_dv, ↓p_rem, h_ldE, h_stE, h_nmE, h_nSE, h_callE, h_callvE, h_dvE, h_remE, if_true, if_false, z_upS, z_upO, z_upK, nI_add, z_mul, z_sub, z_div, Nat.add_zero, Nat.mul_zero, Nat.zero_add, Nat.sub_zero, Nat.zero_mul, z_ltT, z_ltF, z_leT, z_leF, z_eqT, z_eqF, z_inT, z_clT, not_true_eq_false, not_false_eq_true, eq_self, true_or, or_true, z_m_lt, z_m_le, z_lt_m, z_le_m, z_eq_m, z_m_eq, z_rz0, z_rz1, z_m_add, z_of, r_0_0, r_0_1, r_0_3, r_0_4, r_0_5, r_0_6, r_0_7, r_0_8, r_0_9, r_0_10, r_1_0, r_1_1, r_1_2, r_1_3, r_1_4, r_1_5, r_1_6, r_1_7, r_1_8, r_2_0, r_2_1, r_2_2, r_2_3, r_2_4, r_2_5, r_2_6, r_2_7, r_11_0, r_11_1, r_11_2, r_11_3, r_11_4, r_11_5, r_11_6, r_19_0, r_21_0, r_23_0, r_25_0, r_27_0, r_61_0, r_117_0, r_117_1, r_117_2, r_117_3, r_117_4, r_117_5, r_117_6, r_117_7, r_126_0, r_126_1, r_126_2, r_126_3, r_126_4, r_132_0, r_132_1, r_135_0, r_135_1, r_135_2, r_135_3, r_135_4, r_135_5, r_142_0, r_144_0, r_144_1, r_144_2, r_145_0, r_145_1, r_145_2, r_145_3, r_145_4, r_145_5, r_145_6, r_154_0, r_154_1, r_155_0, ↓z_m1, l_0, l_1, l_2, l_3, l_4, l_5, l_6, l_7, l_8, l_9, l_10, l_11, l_12, l_13, l_14, l_15, l_16, l_17, l_18, l_19, l_20, l_21, l_22, l_23, l_24, l_25, l_26, l_27, l_28, l_29, l_30, l_31, l_32, l_33, l_34, l_35, l_36, l_37, l_38, l_39, l_40, l_41, l_42, l_43, l_44, l_45, l_46, l_47, l_48, l_49, l_50, l_51, l_52, l_53, l_54, l_55, l_56, l_57, l_59, l_60, l_61, l_62, l_63, l_64, l_65, l_80, l_86, l_87, l_88, l_89, l_90, l_91, l_92, l_93, l_94, l_95, l_97, l_99, l_100, l_107, l_119, l_122, l_124, l_129, l_140, l_141, l_142, l_143, l_144, l_145, l_147, l_150, l_159, l_160, l_161, l_162, l_205, l_253, l_255, l_256, l_269, l_305, l_380, l_399, l_400, l_420, l_430, l_516, l_600, l_720, l_820, l_905, l_921, l_937, l_953, l_970, l_999, l_1000, l_1790, l_4096, l_9999, l_1000000]
        exact g2
/-! the fewest that are to be given salt: the reference -/
def z_gv (V : Nat → Int32) (man S : Nat) : Nat → Nat → Int32
  | 0 => V
  | i + 1 => if S.testBit i = true then z_likes (z_gv V man S i) i man (nI 15) else z_gv V man S i
theorem z_gv_o {V : Nat → Int32} {man S : Nat} : ∀ i a, (a < 20 ∨ 20 + 5 * i + man ≤ a) → z_gv V man S i a = V a
  | 0, _, _ => rfl
  | i + 1, a, h => by
    have e : z_gv V man S (i+1) = if S.testBit i = true then z_likes (z_gv V man S i) i man (nI 15) else z_gv V man S i := rfl
    have ih := z_gv_o (V := V) (man := man) (S := S) i a (by omega)
    rw [e]
    split
    · unfold z_likes
      rw [z_uK (by omega), ih]
    · exact ih
theorem z_gv_k {V : Nat → Int32} {man S : Nat} (hman : man < 5) : ∀ i m k, k < 5 → k ≠ man → z_gv V man S i (20+5*m+k) = V (20+5*m+k)
  | 0, _, _, _, _ => rfl
  | i + 1, m, k, hk, h => by
    have e : z_gv V man S (i+1) = if S.testBit i = true then z_likes (z_gv V man S i) i man (nI 15) else z_gv V man S i := rfl
    have ih := z_gv_k (V := V) (S := S) hman i m k hk h
    rw [e]
    split
    · unfold z_likes
      rw [z_uK (by omega), ih]
    · exact ih
theorem z_gv_m {V : Nat → Int32} {man S : Nat} (hman : man < 5) : ∀ i m, m < i → z_gv V man S i (20+5*m+man) = if S.testBit m = true then nI (z_cl (V (20+5*m+man) + nI 15) 99) else V (20+5*m+man)
  | 0, m, h => by omega
  | i + 1, m, h => by
    have e : z_gv V man S (i+1) = if S.testBit i = true then z_likes (z_gv V man S i) i man (nI 15) else z_gv V man S i := rfl
    rw [e]
    by_cases q : m = i
    · subst q
      have o := z_gv_o (V := V) (man := man) (S := S) m (20+5*m+man) (Or.inr (Nat.le_refl _))
      by_cases q2 : S.testBit m = true
      · rw [if_pos q2, if_pos q2]
        unfold z_likes
        rw [z_uS, o]
      · rw [if_neg q2, if_neg q2, o]
    · have ih := z_gv_m (V := V) (S := S) hman i m (by omega)
      split
      · unfold z_likes
        rw [z_uK (by omega), ih]
      · exact ih
theorem z_cl15 {a : Nat} (h : a ≤ 99) : z_cl (nI a + nI 15) 99 = min 99 (a + 15) := by
  unfold z_cl
  rw [nI_add, zn_nI (by omega)]
  have : ¬ nI (a + 15) < nI 0 := by rw [nI_ltI (by omega) (by omega)]; omega
  rw [if_neg this]
  split <;> omega
theorem z_gv_lk {σ : q_Sto} {V : Nat → Int32} {man S mu me m k : Nat} (hC : z_C σ V mu me) (hman : man < me) (hm : m < mu) (hk : k < me) : z_gv V man S mu (20+5*m+k) = nI (if k = man ∧ S.testBit m = true then z_sl V m man else z_lk V m k) ∧ (if k = man ∧ S.testBit m = true then z_sl V m man else z_lk V m k) ≤ 99 := by
  have hme := hC.1.2.1
  obtain ⟨x1, x2⟩ := z_leE (hC.1.2.2.2.2.2.2.1 m k hm hk) (by omega)
  have x1 : V (20+5*m+k) = nI (z_lk V m k) := x1
  have x2 : z_lk V m k ≤ 99 := x2
  by_cases q : k = man
  · subst q
    rw [z_gv_m (by omega) mu m hm]
    by_cases q2 : S.testBit m = true
    · rw [if_pos q2, if_pos ⟨rfl, q2⟩, x1, z_cl15 x2]
      refine ⟨rfl, ?_⟩
      unfold z_sl; omega
    · rw [if_neg q2, if_neg (fun h => q2 h.2)]
      exact ⟨x1, x2⟩
  · rw [z_gv_k (by omega) mu m k (by omega) q, if_neg (fun h => q h.1)]
    exact ⟨x1, x2⟩
theorem z_gv_same {V : Nat → Int32} {man S mu : Nat} (hmu : mu ≤ 12) (hman : man < 5) : z_same V (z_gv V man S mu) := by
  intro a ha
  by_cases q : a < 20
  · exact z_gv_o mu a (Or.inl q)
  · have : ∀ i, i ≤ 12 → z_gv V man S i a = V a := by
      intro i
      induction i with
      | zero => intro _; rfl
      | succ i ih =>
        intro hi
        have e : z_gv V man S (i+1) = if S.testBit i = true then z_likes (z_gv V man S i) i man (nI 15) else z_gv V man S i := rfl
        rw [e]
        split
        · unfold z_likes
          rw [z_uK (by omega), ih (by omega)]
        · exact ih (by omega)
    exact this mu hmu
theorem z_gv_hi {V : Nat → Int32} {man S mu a : Nat} (hmu : mu ≤ 12) (hman : man < 5) (ha : a < 20 ∨ 80 ≤ a) : z_gv V man S mu a = V a := by
  have : ∀ i, i ≤ 12 → z_gv V man S i a = V a := by
    intro i
    induction i with
    | zero => intro _; rfl
    | succ i ih =>
      intro hi
      have e : z_gv V man S (i+1) = if S.testBit i = true then z_likes (z_gv V man S i) i man (nI 15) else z_gv V man S i := rfl
      rw [e]
      split
      · unfold z_likes
        rw [z_uK (by omega), ih (by omega)]
      · exact ih (by omega)
  exact this mu hmu
/-- the reference's ballot with salt is the class's -/
theorem z_gv_drv {σ : q_Sto} {V : Nat → Int32} {man S mu me : Nat} {out : Nat → Bool} (hC : z_C σ V mu me) (hman : man < me) : z_drv (z_bt (z_gv V man S mu) mu me) out = z_drv (z_pw V man S mu me) out := by
  have hmu := hC.1.1
  have hme := hC.1.2.1
  have hsame := z_gv_same (V := V) (S := S) hmu (show man < 5 by omega)
  refine z_drv_pick (p := z_pw V man S mu me) z_pw_mu z_bt_mu z_pw_me z_bt_me (fun B m hm _ => ?_)
  have ehs : ∀ m, z_hs (z_gv V man S mu) m = z_hs V m := fun m => by
    unfold z_hs
    rw [z_gv_hi hmu (by omega) (show 129 + m < 20 ∨ 80 ≤ 129 + m by omega)]
  rw [z_pw_pk, z_bt_pk, z_need_congr hsame (by omega), ehs]
  unfold z_ch
  rw [z_ch_congr me (fun k hk => ?_)]
  show z_lean (z_gv V man S mu) m k (z_lk (z_gv V man S mu) m k) _ = z_lean V m k (if k = man ∧ S.testBit m = true then z_sl V m man else z_lk V m k) _
  rw [z_lean_congr hsame (by omega) (by omega)]
  obtain ⟨g1, g2⟩ := z_gv_lk (S := S) hC hman hm hk
  have : z_lk (z_gv V man S mu) m k = if k = man ∧ S.testBit m = true then z_sl V m man else z_lk V m k := by
    show zn (z_gv V man S mu (20+5*m+k)) = _
    rw [g1, zn_nI (by omega)]
  rw [this]
theorem m_winsL6 {man S mu : Nat} {V : Nat → Int32} {K : q_Sto → Option (Int32 × q_Sto)} (hmu : mu ≤ 12) (hman : man < 5) (hS : S < 4096) (h86 : V 86 = nI mu) : ∀ j i (σ : q_Sto), i ≤ mu → mu < j + i → σ 158 = z_gv V man S i → ∃ σ', z_fM σ σ' ∧ σ' 158 = z_gv V man S mu ∧ f_X12_winsBy_L6 q_F 157 (nI man) (nI S) K j (nI i) σ = K σ' := by
  intro j
  induction j with
  | zero => intro i σ h1 h2; omega
  | succ j ih =>
    intro i σ h1 h2 hV
    have g86 : σ 158 86 = nI mu := by rw [hV, z_gv_hi (by omega) hman (Or.inr (by omega))]; exact h86
    by_cases hi : i = mu
    · subst hi
      refine ⟨σ, z_fM.refl σ, hV, ?_⟩
      rw [f_X12_winsBy_L6]
      simp (disch := omega) only [g86, ↓reduceIte, ↓p_ld, ↓p_st, ↓p_nm, ↓p_nS, ↓p_jn, ↓p_call, ↓p_callv, ↓p_dv, ↓p_rem, h_ldE, h_stE, h_nmE, h_nSE, h_callE, h_callvE, h_dvE, h_remE, if_true, if_false, z_upS, z_upO, z_upK, nI_add, z_mul, z_sub, z_div, Nat.add_zero, Nat.mul_zero, Nat.zero_add, Nat.sub_zero, Nat.zero_mul, z_ltT, z_ltF, z_leT, z_leF, z_eqT, z_eqF, z_inT, z_clT, not_true_eq_false, not_false_eq_true, eq_self, true_or, or_true, z_m_lt, z_m_le, z_lt_m, z_le_m, z_eq_m, z_m_eq, z_rz0, z_rz1, z_m_add, z_of, r_157_0, r_157_1, r_157_2, r_157_3, r_157_6, r_157_7, r_157_8, r_157_9, r_157_10, r_157_11, r_157_27, r_157_28, r_157_29, r_157_30, ↓z_m1, l_0, l_1, l_2, l_3, l_4, l_5, l_6, l_7, l_8, l_9, l_10, l_11, l_12, l_13, l_14, l_15, l_16, l_17, l_18, l_19, l_20, l_21, l_22, l_23, l_24, l_25, l_26, l_27, l_28, l_29, l_30, l_31, l_32, l_33, l_34, l_35, l_36, l_37, l_38, l_39, l_40, l_41, l_42, l_43, l_44, l_45, l_46, l_47, l_48, l_49, l_50, l_51, l_52, l_53, l_54, l_55, l_56, l_57, l_59, l_60, l_61, l_62, l_63, l_64, l_65, l_80, l_86, l_87, l_88, l_89, l_90, l_91, l_92, l_93, l_94, l_95, l_97, l_99, l_100, l_107, l_119, l_122, l_124, l_129, l_140, l_141, l_142, l_143, l_144, l_145, l_147, l_150, l_159, l_160, l_161, l_162, l_205, l_253, l_255, l_256, l_269, l_305, l_380, l_399, l_400, l_420, l_430, l_516, l_600, l_720, l_820, l_905, l_921, l_937, l_953, l_970, l_999, l_1000, l_1790, l_4096, l_9999, l_1000000]
    · have eb := z_bitE (a := S) (m := i) (by omega) (by omega)
      unfold z_bit at eb
      have e : z_gv V man S (i+1) = if S.testBit i = true then z_likes (z_gv V man S i) i man (nI 15) else z_gv V man S i := rfl
      by_cases q : S.testBit i = true
      · rw [if_pos q] at eb e
        obtain ⟨σ1, f1, f2, f3⟩ := m_likes (n := q_F) (d := nI 15) hV (show i < 12 by omega) hman
        obtain ⟨σ', k1, k2, k3⟩ := ih (i+1) σ1 (by omega) (by omega) (by rw [f2, e])
        refine ⟨σ', f1.trans k1, k2, ?_⟩
        rw [← k3, f_X12_winsBy_L6]
        simp (disch := omega) only [g86, eb, f3, ↓reduceIte, ↓p_ld, ↓p_st, ↓p_nm, ↓p_nS, ↓p_jn, ↓p_call, ↓p_callv, ↓p_dv, ↓p_rem, h_ldE, h_stE, h_nmE, h_nSE, h_callE, h_callvE, h_dvE, h_remE, if_true, if_false, z_upS, z_upO, z_upK, nI_add, z_mul, z_sub, z_div, Nat.add_zero, Nat.mul_zero, Nat.zero_add, Nat.sub_zero, Nat.zero_mul, z_ltT, z_ltF, z_leT, z_leF, z_eqT, z_eqF, z_inT, z_clT, not_true_eq_false, not_false_eq_true, eq_self, true_or, or_true, z_m_lt, z_m_le, z_lt_m, z_le_m, z_eq_m, z_m_eq, z_rz0, z_rz1, z_m_add, z_of, r_157_0, r_157_1, r_157_2, r_157_3, r_157_6, r_157_7, r_157_8, r_157_9, r_157_10, r_157_11, r_157_27, r_157_28, r_157_29, r_157_30, ↓z_m1, l_0, l_1, l_2, l_3, l_4, l_5, l_6, l_7, l_8, l_9, l_10, l_11, l_12, l_13, l_14, l_15, l_16, l_17, l_18, l_19, l_20, l_21, l_22, l_23, l_24, l_25, l_26, l_27, l_28, l_29, l_30, l_31, l_32, l_33, l_34, l_35, l_36, l_37, l_38, l_39, l_40, l_41, l_42, l_43, l_44, l_45, l_46, l_47, l_48, l_49, l_50, l_51, l_52, l_53, l_54, l_55, l_56, l_57, l_59, l_60, l_61, l_62, l_63, l_64, l_65, l_80, l_86, l_87, l_88, l_89, l_90, l_91, l_92, l_93, l_94, l_95, l_97, l_99, l_100, l_107, l_119, l_122, l_124, l_129, l_140, l_141, l_142, l_143, l_144, l_145, l_147, l_150, l_159, l_160, l_161, l_162, l_205, l_253, l_255, l_256, l_269, l_305, l_380, l_399, l_400, l_420, l_430, l_516, l_600, l_720, l_820, l_905, l_921, l_937, l_953, l_970, l_999, l_1000, l_1790, l_4096, l_9999, l_1000000]
      · rw [if_neg q] at eb e
        obtain ⟨σ', k1, k2, k3⟩ := ih (i+1) σ (by omega) (by omega) (by rw [hV, e])
        refine ⟨σ', k1, k2, ?_⟩
        rw [← k3, f_X12_winsBy_L6]
        simp (disch := omega) only [g86, eb, ↓reduceIte, ↓p_ld, ↓p_st, ↓p_nm, ↓p_nS, ↓p_jn, ↓p_call, ↓p_callv, ↓p_dv, ↓p_rem, h_ldE, h_stE, h_nmE, h_nSE, h_callE, h_callvE, h_dvE, h_remE, if_true, if_false, z_upS, z_upO, z_upK, nI_add, z_mul, z_sub, z_div, Nat.add_zero, Nat.mul_zero, Nat.zero_add, Nat.sub_zero, Nat.zero_mul, z_ltT, z_ltF, z_leT, z_leF, z_eqT, z_eqF, z_inT, z_clT, not_true_eq_false, not_false_eq_true, eq_self, true_or, or_true, z_m_lt, z_m_le, z_lt_m, z_le_m, z_eq_m, z_m_eq, z_rz0, z_rz1, z_m_add, z_of, r_157_0, r_157_1, r_157_2, r_157_3, r_157_6, r_157_7, r_157_8, r_157_9, r_157_10, r_157_11, r_157_27, r_157_28, r_157_29, r_157_30, ↓z_m1, l_0, l_1, l_2, l_3, l_4, l_5, l_6, l_7, l_8, l_9, l_10, l_11, l_12, l_13, l_14, l_15, l_16, l_17, l_18, l_19, l_20, l_21, l_22, l_23, l_24, l_25, l_26, l_27, l_28, l_29, l_30, l_31, l_32, l_33, l_34, l_35, l_36, l_37, l_38, l_39, l_40, l_41, l_42, l_43, l_44, l_45, l_46, l_47, l_48, l_49, l_50, l_51, l_52, l_53, l_54, l_55, l_56, l_57, l_59, l_60, l_61, l_62, l_63, l_64, l_65, l_80, l_86, l_87, l_88, l_89, l_90, l_91, l_92, l_93, l_94, l_95, l_97, l_99, l_100, l_107, l_119, l_122, l_124, l_129, l_140, l_141, l_142, l_143, l_144, l_145, l_147, l_150, l_159, l_160, l_161, l_162, l_205, l_253, l_255, l_256, l_269, l_305, l_380, l_399, l_400, l_420, l_430, l_516, l_600, l_720, l_820, l_905, l_921, l_937, l_953, l_970, l_999, l_1000, l_1790, l_4096, l_9999, l_1000000]
theorem z_gv_R {man S mu me : Nat} {V : Nat → Int32} {σc : q_Sto} (hC : z_C σc V mu me) (hman : man < me) : z_R σc (z_gv V man S mu) mu me := by
  have hmu := hC.1.1
  have hme := hC.1.2.1
  have h86 := hC.1.2.2.1
  have hsame := z_gv_same (V := V) (S := S) hmu (show man < 5 by omega)
  have hWT := hC.2.2.congr hsame
  have e86 : z_gv V man S mu 86 = V 86 := z_gv_hi hmu (by omega) (Or.inr (by omega))
  have e87 : z_gv V man S mu 87 = V 87 := z_gv_hi hmu (by omega) (Or.inr (by omega))
  exact ⟨hmu, hme, e86.trans h86, e87.trans hC.1.2.2.2.1, hWT.2.1, hWT.1, fun m k hm hk => by
    obtain ⟨g1, g2⟩ := z_gv_lk (S := S) hC hman hm hk
    exact ⟨_, g2, g1⟩⟩
theorem m_wins1 {man S mu me lame : Nat} {V : Nat → Int32} {σ σc : q_Sto} (hC : z_C σc V mu me) (hman : man < me) (h7 : V 7 = nI lame) (hl : lame < 4096) (hV : σ 158 = z_gv V man S mu) :
    ∃ σ3, (∀ o, o ≠ 158 → o ≠ 166 → o ≠ 167 → σ3 o = σ o) ∧ (∀ k, 86 ≤ k → σ3 158 k = V k) ∧ σ3 158 2 = z_vw (z_drv (z_bt (z_gv V man S mu) mu me) (fun i => lame.testBit i)) ∧ ∃ r, f_X12_stand q_F 157 σ = some (r, σ3) := by
  have hmu := hC.1.1
  have hme := hC.1.2.1
  have hR := z_gv_R (S := S) hC hman
  have e7 : z_gv V man S mu 7 = V 7 := z_gv_hi hmu (by omega) (Or.inl (by omega))
  have ehi : ∀ k, 86 ≤ k → z_gv V man S mu k = V k := fun k hk => z_gv_hi hmu (by omega) (Or.inr (by omega))
  generalize z_gv V man S mu = V' at *
  obtain ⟨σ3, c1, c2, c3⟩ := m_stand (n := q_F) (s := lame) (σ := σ) z_F402 hR (e7.trans h7) hl hV
  refine ⟨σ3, c1, fun k hk => ?_, ?_, _, c3⟩
  · rw [c2, z_VVo (by omega) (by omega), ehi k hk]
  · rw [c2, z_VV2]
theorem m_winsBy {man S mu me lame : Nat} {V : Nat → Int32} {σ σc : q_Sto} (hC : z_C σc V mu me) (hman : man < me) (hS : S < 4096) (h7 : V 7 = nI lame) (hl : lame < 4096) (hV : σ 158 = V) :
    ∃ σ', (∀ o, o ≠ 157 → o ≠ 161 → o ≠ 166 → o ≠ 167 → σ' o = σ o) ∧ (∀ a, a ≠ 26 → σ' 157 a = σ 157 a) ∧ f_X12_winsBy q_F 157 (nI man) (nI S) σ = some (z_fb (z_dw V man mu me lame S), σ') := by
  have hmu := hC.1.1
  have hme := hC.1.2.1
  have h86 := hC.1.2.2.1
  obtain ⟨σ1, a1, a2, a3, a4, a5⟩ := m_lays (n := q_F) (σ := σ) (by unfold q_F; omega)
  obtain ⟨σ2, b1, b2, b3⟩ := m_winsL6 (man := man) (S := S) (K := fun (s8 : q_Sto) =>
  q_call (f_X12_stand q_F 157 s8) fun r10 s9 =>
  q_ld s9 (q_RF 157 0) 2 1790 fun v11 =>
  if v11 = (nI man) then (
  q_callv (f_X12_putsBack q_F 157 s9) fun s13 =>
  some (1, s13))
  else (
  q_callv (f_X12_putsBack q_F 157 s9) fun s15 =>
  some (0, s15))) hmu (show man < 5 by omega) hS h86 q_F 0 σ1 (Nat.zero_le _) (by unfold q_F; omega) (by rw [a1 158 (by omega) (by omega), hV]; rfl)
  obtain ⟨σ3, c1, ck, c2, rr, c3⟩ := m_wins1 (S := S) hC hman h7 hl b2
  obtain ⟨σ4, d1, d2, d3⟩ := m_puts (n := q_F) (V := V) (σ := σ3) (by unfold q_F; omega) (fun k hk => by rw [c1 161 (by omega) (by omega) (by omega), b1 161 (by omega) (by omega) (by omega), a4 k hk, hV]) ck
  refine ⟨σ4, fun o o1 o2 o3 o4 => ?_, fun a ha => by rw [d1 157 (by omega), c1 157 (by omega) (by omega) (by omega), b1 157 (by omega) (by omega) (by omega), a2 a ha], ?_⟩
  · by_cases q : o = 158
    · subst q; rw [d2, hV]
    · rw [d1 o q, c1 o q o3 o4, b1 o q o3 o4, a1 o o2 o1]
  · have g2 : σ3 158 2 = z_vw (z_drv (z_pw V man S mu me) (fun i => lame.testBit i)) := by rw [c2, z_gv_drv hC hman]
    have hle := z_pw_le (V := V) (man := man) (S := S) (mu := mu) (me := me) (out := fun i => lame.testBit i)
    have hve := z_vw_eq (a := z_drv (z_pw V man S mu me) (fun i => lame.testBit i)) (b := man + 1) (by omega) (by omega)
    have eL : f_X12_winsBy q_F 157 (nI man) (nI S) σ = f_X12_winsBy_L6 q_F 157 (nI man) (nI S) (fun (s8 : q_Sto) =>
  q_call (f_X12_stand q_F 157 s8) fun r10 s9 =>
  q_ld s9 (q_RF 157 0) 2 1790 fun v11 =>
  if v11 = (nI man) then (
  q_callv (f_X12_putsBack q_F 157 s9) fun s13 =>
  some (1, s13))
  else (
  q_callv (f_X12_putsBack q_F 157 s9) fun s15 =>
  some (0, s15))) q_F (nI 0) σ1 := by
      unfold f_X12_winsBy
      simp (disch := omega) only [a5, ↓reduceIte, ↓p_ld, ↓p_st, ↓p_nm, ↓p_nS, ↓p_jn, ↓p_call, ↓p_callv, ↓p_dv, ↓p_rem, h_ldE, h_stE, h_nmE, h_nSE, h_callE, h_callvE, h_dvE, h_remE, if_true, if_false, z_upS, z_upO, z_upK, nI_add, z_mul, z_sub, z_div, Nat.add_zero, Nat.mul_zero, Nat.zero_add, Nat.sub_zero, Nat.zero_mul, z_ltT, z_ltF, z_leT, z_leF, z_eqT, z_eqF, z_inT, z_clT, not_true_eq_false, not_false_eq_true, eq_self, true_or, or_true, z_m_lt, z_m_le, z_lt_m, z_le_m, z_eq_m, z_m_eq, z_rz0, z_rz1, z_m_add, z_of, r_157_0, r_157_1, r_157_2, r_157_3, r_157_6, r_157_7, r_157_8, r_157_9, r_157_10, r_157_11, r_157_27, r_157_28, r_157_29, r_157_30, ↓z_m1, l_0, l_1, l_2, l_3, l_4, l_5, l_6, l_7, l_8, l_9, l_10, l_11, l_12, l_13, l_14, l_15, l_16, l_17, l_18, l_19, l_20, l_21, l_22, l_23, l_24, l_25, l_26, l_27, l_28, l_29, l_30, l_31, l_32, l_33, l_34, l_35, l_36, l_37, l_38, l_39, l_40, l_41, l_42, l_43, l_44, l_45, l_46, l_47, l_48, l_49, l_50, l_51, l_52, l_53, l_54, l_55, l_56, l_57, l_59, l_60, l_61, l_62, l_63, l_64, l_65, l_80, l_86, l_87, l_88, l_89, l_90, l_91, l_92, l_93, l_94, l_95, l_97, l_99, l_100, l_107, l_119, l_122, l_124, l_129, l_140, l_141, l_142, l_143, l_144, l_145, l_147, l_150, l_159, l_160, l_161, l_162, l_205, l_253, l_255, l_256, l_269, l_305, l_380, l_399, l_400, l_420, l_430, l_516, l_600, l_720, l_820, l_905, l_921, l_937, l_953, l_970, l_999, l_1000, l_1790, l_4096, l_9999, l_1000000]
    rw [eL, b3]
    by_cases q : z_drv (z_pw V man S mu me) (fun i => lame.testBit i) = man + 1
    · have hd : z_fb (z_dw V man mu me lame S) = nI 1 := by
        unfold z_dw
        rw [decide_eq_true q]
        rfl
      rw [q] at g2
      have g2 : σ3 158 2 = nI man := g2
      rw [hd]
      simp (disch := omega) only [c3, g2, d3, ↓reduceIte, ↓p_ld, ↓p_st, ↓p_nm, ↓p_nS, ↓p_jn, ↓p_call, ↓p_callv, ↓p_dv, ↓p_rem, h_ldE, h_stE, h_nmE, h_nSE, h_callE, h_callvE, h_dvE, h_remE, if_true, if_false, z_upS, z_upO, z_upK, nI_add, z_mul, z_sub, z_div, Nat.add_zero, Nat.mul_zero, Nat.zero_add, Nat.sub_zero, Nat.zero_mul, z_ltT, z_ltF, z_leT, z_leF, z_eqT, z_eqF, z_inT, z_clT, not_true_eq_false, not_false_eq_true, eq_self, true_or, or_true, z_m_lt, z_m_le, z_lt_m, z_le_m, z_eq_m, z_m_eq, z_rz0, z_rz1, z_m_add, z_of, r_157_0, r_157_1, r_157_2, r_157_3, r_157_6, r_157_7, r_157_8, r_157_9, r_157_10, r_157_11, r_157_27, r_157_28, r_157_29, r_157_30, ↓z_m1, l_0, l_1, l_2, l_3, l_4, l_5, l_6, l_7, l_8, l_9, l_10, l_11, l_12, l_13, l_14, l_15, l_16, l_17, l_18, l_19, l_20, l_21, l_22, l_23, l_24, l_25, l_26, l_27, l_28, l_29, l_30, l_31, l_32, l_33, l_34, l_35, l_36, l_37, l_38, l_39, l_40, l_41, l_42, l_43, l_44, l_45, l_46, l_47, l_48, l_49, l_50, l_51, l_52, l_53, l_54, l_55, l_56, l_57, l_59, l_60, l_61, l_62, l_63, l_64, l_65, l_80, l_86, l_87, l_88, l_89, l_90, l_91, l_92, l_93, l_94, l_95, l_97, l_99, l_100, l_107, l_119, l_122, l_124, l_129, l_140, l_141, l_142, l_143, l_144, l_145, l_147, l_150, l_159, l_160, l_161, l_162, l_205, l_253, l_255, l_256, l_269, l_305, l_380, l_399, l_400, l_420, l_430, l_516, l_600, l_720, l_820, l_905, l_921, l_937, l_953, l_970, l_999, l_1000, l_1790, l_4096, l_9999, l_1000000]
    · have hd : z_fb (z_dw V man mu me lame S) = nI 0 := by
        unfold z_dw
        rw [decide_eq_false q]
        rfl
      have hF : (z_vw (z_drv (z_pw V man S mu me) (fun i => lame.testBit i)) = nI man) = False := by
        show (_ = z_vw (man+1)) = False
        rw [hve]; exact eq_false q
      rw [hd]
      simp (disch := omega) only [c3, g2, hF, d3, ↓reduceIte, ↓p_ld, ↓p_st, ↓p_nm, ↓p_nS, ↓p_jn, ↓p_call, ↓p_callv, ↓p_dv, ↓p_rem, h_ldE, h_stE, h_nmE, h_nSE, h_callE, h_callvE, h_dvE, h_remE, if_true, if_false, z_upS, z_upO, z_upK, nI_add, z_mul, z_sub, z_div, Nat.add_zero, Nat.mul_zero, Nat.zero_add, Nat.sub_zero, Nat.zero_mul, z_ltT, z_ltF, z_leT, z_leF, z_eqT, z_eqF, z_inT, z_clT, not_true_eq_false, not_false_eq_true, eq_self, true_or, or_true, z_m_lt, z_m_le, z_lt_m, z_le_m, z_eq_m, z_m_eq, z_rz0, z_rz1, z_m_add, z_of, r_157_0, r_157_1, r_157_2, r_157_3, r_157_6, r_157_7, r_157_8, r_157_9, r_157_10, r_157_11, r_157_27, r_157_28, r_157_29, r_157_30, ↓z_m1, l_0, l_1, l_2, l_3, l_4, l_5, l_6, l_7, l_8, l_9, l_10, l_11, l_12, l_13, l_14, l_15, l_16, l_17, l_18, l_19, l_20, l_21, l_22, l_23, l_24, l_25, l_26, l_27, l_28, l_29, l_30, l_31, l_32, l_33, l_34, l_35, l_36, l_37, l_38, l_39, l_40, l_41, l_42, l_43, l_44, l_45, l_46, l_47, l_48, l_49, l_50, l_51, l_52, l_53, l_54, l_55, l_56, l_57, l_59, l_60, l_61, l_62, l_63, l_64, l_65, l_80, l_86, l_87, l_88, l_89, l_90, l_91, l_92, l_93, l_94, l_95, l_97, l_99, l_100, l_107, l_119, l_122, l_124, l_129, l_140, l_141, l_142, l_143, l_144, l_145, l_147, l_150, l_159, l_160, l_161, l_162, l_205, l_253, l_255, l_256, l_269, l_305, l_380, l_399, l_400, l_420, l_430, l_516, l_600, l_720, l_820, l_905, l_921, l_937, l_953, l_970, l_999, l_1000, l_1790, l_4096, l_9999, l_1000000]
theorem m_winsL24 {man mu me lame N : Nat} {a1 : Int32} {V : Nat → Int32} {σc : q_Sto} (hC : z_C σc V mu me) (es : nI 1 <<< (nI mu &&& nI 31) = nI N) (hN : N ≤ 4096) (hman : man < me) (h7 : V 7 = nI lame) (hl : lame < 4096) :
    ∀ j i (σ : q_Sto), i ≤ N → N < j + i → σ 158 = V → ∃ σ', (∀ o, o ≠ 157 → o ≠ 161 → o ≠ 166 → o ≠ 167 → σ' o = σ o) ∧ (∀ a, a ≠ 26 → σ' 157 a = σ 157 a) ∧
      ∀ K : Int32 → q_Sto → Option (Int32 × q_Sto), f_X12_wins_L24 q_F 157 (nI man) a1 K j (z_vw (z_wr (z_dw V man mu me lame) i)) (nI i) σ = K (z_vw (z_wr (z_dw V man mu me lame) N)) σ' := by
  have h86 := hC.1.2.2.1
  intro j
  induction j with
  | zero => intro i σ h1 h2; omega
  | succ j ih =>
    intro i σ h1 h2 hV
    by_cases hi : i = N
    · subst hi
      refine ⟨σ, fun _ _ _ _ _ => rfl, fun _ _ => rfl, fun K => ?_⟩
      generalize z_vw (z_wr (z_dw V man mu me lame) i) = y
      rw [f_X12_wins_L24]
      simp (disch := omega) only [hV, h86, es, ↓reduceIte, ↓p_ld, ↓p_st, ↓p_nm, ↓p_nS, ↓p_jn, ↓p_call, ↓p_callv, ↓p_dv, ↓p_rem, h_ldE, h_stE, h_nmE, h_nSE, h_callE, h_callvE, h_dvE, h_remE, if_true, if_false, z_upS, z_upO, z_upK, nI_add, z_mul, z_sub, z_div, Nat.add_zero, Nat.mul_zero, Nat.zero_add, Nat.sub_zero, Nat.zero_mul, z_ltT, z_ltF, z_leT, z_leF, z_eqT, z_eqF, z_inT, z_clT, not_true_eq_false, not_false_eq_true, eq_self, true_or, or_true, z_m_lt, z_m_le, z_lt_m, z_le_m, z_eq_m, z_m_eq, z_rz0, z_rz1, z_m_add, z_of, r_157_0, r_157_1, r_157_2, r_157_3, r_157_6, r_157_7, r_157_8, r_157_9, r_157_10, r_157_11, r_157_27, r_157_28, r_157_29, r_157_30, ↓z_m1, l_0, l_1, l_2, l_3, l_4, l_5, l_6, l_7, l_8, l_9, l_10, l_11, l_12, l_13, l_14, l_15, l_16, l_17, l_18, l_19, l_20, l_21, l_22, l_23, l_24, l_25, l_26, l_27, l_28, l_29, l_30, l_31, l_32, l_33, l_34, l_35, l_36, l_37, l_38, l_39, l_40, l_41, l_42, l_43, l_44, l_45, l_46, l_47, l_48, l_49, l_50, l_51, l_52, l_53, l_54, l_55, l_56, l_57, l_59, l_60, l_61, l_62, l_63, l_64, l_65, l_80, l_86, l_87, l_88, l_89, l_90, l_91, l_92, l_93, l_94, l_95, l_97, l_99, l_100, l_107, l_119, l_122, l_124, l_129, l_140, l_141, l_142, l_143, l_144, l_145, l_147, l_150, l_159, l_160, l_161, l_162, l_205, l_253, l_255, l_256, l_269, l_305, l_380, l_399, l_400, l_420, l_430, l_516, l_600, l_720, l_820, l_905, l_921, l_937, l_953, l_970, l_999, l_1000, l_1790, l_4096, l_9999, l_1000000]
    · have e : z_wr (z_dw V man mu me lame) (i+1) = if (z_wr (z_dw V man mu me lame) i = 0 ∨ z_cnt i 12 < z_cnt (z_wr (z_dw V man mu me lame) i - 1) 12) ∧ z_dw V man mu me lame i = true then i + 1 else z_wr (z_dw V man mu me lame) i := rfl
      obtain ⟨σ1, f1, f2, f3⟩ := m_winsBy (S := i) hC hman (by omega) h7 hl hV
      have ec := m_count (n := q_F) (s := i) (σ := σ) (by unfold q_F; omega) (by omega)
      have hcl := z_cnt_le i 12
      have ez : z_fb false = nI 0 := rfl
      have ez1 : z_fb true = nI 1 := rfl
      have e0 : z_vw 0 = z_m := rfl
      have hV1 : σ1 158 = V := by rw [f1 158 (by omega) (by omega) (by omega) (by omega)]; exact hV
      have hw := z_wr_spec (d := z_dw V man mu me lame) i
      cases hr : z_wr (z_dw V man mu me lame) i with
      | zero =>
        rw [hr] at e
        cases hd : z_dw V man mu me lame i with
        | true =>
          rw [hd, if_pos ⟨Or.inl rfl, rfl⟩] at e
          obtain ⟨σ', k1, k2, k3⟩ := ih (i+1) σ1 (by omega) (by omega) hV1
          refine ⟨σ', fun o o1 o2 o3 o4 => by rw [k1 o o1 o2 o3 o4, f1 o o1 o2 o3 o4], fun a ha => by rw [k2 a ha, f2 a ha], fun K => ?_⟩
          rw [e] at k3
          have k3 := fun K => (show f_X12_wins_L24 q_F 157 (nI man) a1 K j (nI i) (nI (i+1)) σ1 = _ from k3 K)
          rw [hd, ez1] at f3
          rw [← k3 K, e0, f_X12_wins_L24]
          simp (disch := omega) only [hV, h86, es, f3, ↓reduceIte, ↓p_ld, ↓p_st, ↓p_nm, ↓p_nS, ↓p_jn, ↓p_call, ↓p_callv, ↓p_dv, ↓p_rem, h_ldE, h_stE, h_nmE, h_nSE, h_callE, h_callvE, h_dvE, h_remE, if_true, if_false, z_upS, z_upO, z_upK, nI_add, z_mul, z_sub, z_div, Nat.add_zero, Nat.mul_zero, Nat.zero_add, Nat.sub_zero, Nat.zero_mul, z_ltT, z_ltF, z_leT, z_leF, z_eqT, z_eqF, z_inT, z_clT, not_true_eq_false, not_false_eq_true, eq_self, true_or, or_true, z_m_lt, z_m_le, z_lt_m, z_le_m, z_eq_m, z_m_eq, z_rz0, z_rz1, z_m_add, z_of, r_157_0, r_157_1, r_157_2, r_157_3, r_157_6, r_157_7, r_157_8, r_157_9, r_157_10, r_157_11, r_157_27, r_157_28, r_157_29, r_157_30, ↓z_m1, l_0, l_1, l_2, l_3, l_4, l_5, l_6, l_7, l_8, l_9, l_10, l_11, l_12, l_13, l_14, l_15, l_16, l_17, l_18, l_19, l_20, l_21, l_22, l_23, l_24, l_25, l_26, l_27, l_28, l_29, l_30, l_31, l_32, l_33, l_34, l_35, l_36, l_37, l_38, l_39, l_40, l_41, l_42, l_43, l_44, l_45, l_46, l_47, l_48, l_49, l_50, l_51, l_52, l_53, l_54, l_55, l_56, l_57, l_59, l_60, l_61, l_62, l_63, l_64, l_65, l_80, l_86, l_87, l_88, l_89, l_90, l_91, l_92, l_93, l_94, l_95, l_97, l_99, l_100, l_107, l_119, l_122, l_124, l_129, l_140, l_141, l_142, l_143, l_144, l_145, l_147, l_150, l_159, l_160, l_161, l_162, l_205, l_253, l_255, l_256, l_269, l_305, l_380, l_399, l_400, l_420, l_430, l_516, l_600, l_720, l_820, l_905, l_921, l_937, l_953, l_970, l_999, l_1000, l_1790, l_4096, l_9999, l_1000000]
        | false =>
          rw [hd, if_neg (fun h => by cases h.2)] at e
          obtain ⟨σ', k1, k2, k3⟩ := ih (i+1) σ1 (by omega) (by omega) hV1
          refine ⟨σ', fun o o1 o2 o3 o4 => by rw [k1 o o1 o2 o3 o4, f1 o o1 o2 o3 o4], fun a ha => by rw [k2 a ha, f2 a ha], fun K => ?_⟩
          rw [e, e0] at k3
          rw [hd, ez] at f3
          rw [← k3 K, e0, f_X12_wins_L24]
          simp (disch := omega) only [hV, h86, es, f3, ↓reduceIte, ↓p_ld, ↓p_st, ↓p_nm, ↓p_nS, ↓p_jn, ↓p_call, ↓p_callv, ↓p_dv, ↓p_rem, h_ldE, h_stE, h_nmE, h_nSE, h_callE, h_callvE, h_dvE, h_remE, if_true, if_false, z_upS, z_upO, z_upK, nI_add, z_mul, z_sub, z_div, Nat.add_zero, Nat.mul_zero, Nat.zero_add, Nat.sub_zero, Nat.zero_mul, z_ltT, z_ltF, z_leT, z_leF, z_eqT, z_eqF, z_inT, z_clT, not_true_eq_false, not_false_eq_true, eq_self, true_or, or_true, z_m_lt, z_m_le, z_lt_m, z_le_m, z_eq_m, z_m_eq, z_rz0, z_rz1, z_m_add, z_of, r_157_0, r_157_1, r_157_2, r_157_3, r_157_6, r_157_7, r_157_8, r_157_9, r_157_10, r_157_11, r_157_27, r_157_28, r_157_29, r_157_30, ↓z_m1, l_0, l_1, l_2, l_3, l_4, l_5, l_6, l_7, l_8, l_9, l_10, l_11, l_12, l_13, l_14, l_15, l_16, l_17, l_18, l_19, l_20, l_21, l_22, l_23, l_24, l_25, l_26, l_27, l_28, l_29, l_30, l_31, l_32, l_33, l_34, l_35, l_36, l_37, l_38, l_39, l_40, l_41, l_42, l_43, l_44, l_45, l_46, l_47, l_48, l_49, l_50, l_51, l_52, l_53, l_54, l_55, l_56, l_57, l_59, l_60, l_61, l_62, l_63, l_64, l_65, l_80, l_86, l_87, l_88, l_89, l_90, l_91, l_92, l_93, l_94, l_95, l_97, l_99, l_100, l_107, l_119, l_122, l_124, l_129, l_140, l_141, l_142, l_143, l_144, l_145, l_147, l_150, l_159, l_160, l_161, l_162, l_205, l_253, l_255, l_256, l_269, l_305, l_380, l_399, l_400, l_420, l_430, l_516, l_600, l_720, l_820, l_905, l_921, l_937, l_953, l_970, l_999, l_1000, l_1790, l_4096, l_9999, l_1000000]
      | succ t =>
        obtain ⟨t1, t2, t3⟩ := hw.2 t hr
        have ec2 := m_count (n := q_F) (s := t) (σ := σ) (by unfold q_F; omega) (by omega)
        have hcl2 := z_cnt_le t 12
        have et : z_vw (t+1) = nI t := rfl
        rw [hr, show t + 1 - 1 = t by omega] at e
        by_cases q : z_cnt i 12 < z_cnt t 12
        · cases hd : z_dw V man mu me lame i with
          | true =>
            rw [hd, if_pos ⟨Or.inr q, rfl⟩] at e
            obtain ⟨σ', k1, k2, k3⟩ := ih (i+1) σ1 (by omega) (by omega) hV1
            refine ⟨σ', fun o o1 o2 o3 o4 => by rw [k1 o o1 o2 o3 o4, f1 o o1 o2 o3 o4], fun a ha => by rw [k2 a ha, f2 a ha], fun K => ?_⟩
            rw [e] at k3
            have k3 := fun K => (show f_X12_wins_L24 q_F 157 (nI man) a1 K j (nI i) (nI (i+1)) σ1 = _ from k3 K)
            rw [hd, ez1] at f3
            rw [← k3 K, et, f_X12_wins_L24]
            generalize z_cnt i 12 = ci at *
            generalize z_cnt t 12 = ct at *
            simp (disch := omega) only [hV, h86, es, f3, ec, ec2, ↓reduceIte, ↓p_ld, ↓p_st, ↓p_nm, ↓p_nS, ↓p_jn, ↓p_call, ↓p_callv, ↓p_dv, ↓p_rem, h_ldE, h_stE, h_nmE, h_nSE, h_callE, h_callvE, h_dvE, h_remE, if_true, if_false, z_upS, z_upO, z_upK, nI_add, z_mul, z_sub, z_div, Nat.add_zero, Nat.mul_zero, Nat.zero_add, Nat.sub_zero, Nat.zero_mul, z_ltT, z_ltF, z_leT, z_leF, z_eqT, z_eqF, z_inT, z_clT, not_true_eq_false, not_false_eq_true, eq_self, true_or, or_true, z_m_lt, z_m_le, z_lt_m, z_le_m, z_eq_m, z_m_eq, z_rz0, z_rz1, z_m_add, z_of, r_157_0, r_157_1, r_157_2, r_157_3, r_157_6, r_157_7, r_157_8, r_157_9, r_157_10, r_157_11, r_157_27, r_157_28, r_157_29, r_157_30, ↓z_m1, l_0, l_1, l_2, l_3, l_4, l_5, l_6, l_7, l_8, l_9, l_10, l_11, l_12, l_13, l_14, l_15, l_16, l_17, l_18, l_19, l_20, l_21, l_22, l_23, l_24, l_25, l_26, l_27, l_28, l_29, l_30, l_31, l_32, l_33, l_34, l_35, l_36, l_37, l_38, l_39, l_40, l_41, l_42, l_43, l_44, l_45, l_46, l_47, l_48, l_49, l_50, l_51, l_52, l_53, l_54, l_55, l_56, l_57, l_59, l_60, l_61, l_62, l_63, l_64, l_65, l_80, l_86, l_87, l_88, l_89, l_90, l_91, l_92, l_93, l_94, l_95, l_97, l_99, l_100, l_107, l_119, l_122, l_124, l_129, l_140, l_141, l_142, l_143, l_144, l_145, l_147, l_150, l_159, l_160, l_161, l_162, l_205, l_253, l_255, l_256, l_269, l_305, l_380, l_399, l_400, l_420, l_430, l_516, l_600, l_720, l_820, l_905, l_921, l_937, l_953, l_970, l_999, l_1000, l_1790, l_4096, l_9999, l_1000000]
          | false =>
            rw [hd, if_neg (fun h => by cases h.2)] at e
            obtain ⟨σ', k1, k2, k3⟩ := ih (i+1) σ1 (by omega) (by omega) hV1
            refine ⟨σ', fun o o1 o2 o3 o4 => by rw [k1 o o1 o2 o3 o4, f1 o o1 o2 o3 o4], fun a ha => by rw [k2 a ha, f2 a ha], fun K => ?_⟩
            rw [e, et] at k3
            rw [hd, ez] at f3
            rw [← k3 K, et, f_X12_wins_L24]
            generalize z_cnt i 12 = ci at *
            generalize z_cnt t 12 = ct at *
            simp (disch := omega) only [hV, h86, es, f3, ec, ec2, ↓reduceIte, ↓p_ld, ↓p_st, ↓p_nm, ↓p_nS, ↓p_jn, ↓p_call, ↓p_callv, ↓p_dv, ↓p_rem, h_ldE, h_stE, h_nmE, h_nSE, h_callE, h_callvE, h_dvE, h_remE, if_true, if_false, z_upS, z_upO, z_upK, nI_add, z_mul, z_sub, z_div, Nat.add_zero, Nat.mul_zero, Nat.zero_add, Nat.sub_zero, Nat.zero_mul, z_ltT, z_ltF, z_leT, z_leF, z_eqT, z_eqF, z_inT, z_clT, not_true_eq_false, not_false_eq_true, eq_self, true_or, or_true, z_m_lt, z_m_le, z_lt_m, z_le_m, z_eq_m, z_m_eq, z_rz0, z_rz1, z_m_add, z_of, r_157_0, r_157_1, r_157_2, r_157_3, r_157_6, r_157_7, r_157_8, r_157_9, r_157_10, r_157_11, r_157_27, r_157_28, r_157_29, r_157_30, ↓z_m1, l_0, l_1, l_2, l_3, l_4, l_5, l_6, l_7, l_8, l_9, l_10, l_11, l_12, l_13, l_14, l_15, l_16, l_17, l_18, l_19, l_20, l_21, l_22, l_23, l_24, l_25, l_26, l_27, l_28, l_29, l_30, l_31, l_32, l_33, l_34, l_35, l_36, l_37, l_38, l_39, l_40, l_41, l_42, l_43, l_44, l_45, l_46, l_47, l_48, l_49, l_50, l_51, l_52, l_53, l_54, l_55, l_56, l_57, l_59, l_60, l_61, l_62, l_63, l_64, l_65, l_80, l_86, l_87, l_88, l_89, l_90, l_91, l_92, l_93, l_94, l_95, l_97, l_99, l_100, l_107, l_119, l_122, l_124, l_129, l_140, l_141, l_142, l_143, l_144, l_145, l_147, l_150, l_159, l_160, l_161, l_162, l_205, l_253, l_255, l_256, l_269, l_305, l_380, l_399, l_400, l_420, l_430, l_516, l_600, l_720, l_820, l_905, l_921, l_937, l_953, l_970, l_999, l_1000, l_1790, l_4096, l_9999, l_1000000]
        · rw [if_neg (fun h => by
            rcases h.1 with h | h
            · cases h
            · exact q h)] at e
          obtain ⟨σ', k1, k2, k3⟩ := ih (i+1) σ (by omega) (by omega) hV
          refine ⟨σ', k1, k2, fun K => ?_⟩
          rw [e, et] at k3
          rw [← k3 K, et, f_X12_wins_L24]
          generalize z_cnt i 12 = ci at *
          generalize z_cnt t 12 = ct at *
          simp (disch := omega) only [hV, h86, es, ec, ec2, ↓reduceIte, ↓p_ld, ↓p_st, ↓p_nm, ↓p_nS, ↓p_jn, ↓p_call, ↓p_callv, ↓p_dv, ↓p_rem, h_ldE, h_stE, h_nmE, h_nSE, h_callE, h_callvE, h_dvE, h_remE, if_true, if_false, z_upS, z_upO, z_upK, nI_add, z_mul, z_sub, z_div, Nat.add_zero, Nat.mul_zero, Nat.zero_add, Nat.sub_zero, Nat.zero_mul, z_ltT, z_ltF, z_leT, z_leF, z_eqT, z_eqF, z_inT, z_clT, not_true_eq_false, not_false_eq_true, eq_self, true_or, or_true, z_m_lt, z_m_le, z_lt_m, z_le_m, z_eq_m, z_m_eq, z_rz0, z_rz1, z_m_add, z_of, r_157_0, r_157_1, r_157_2, r_157_3, r_157_6, r_157_7, r_157_8, r_157_9, r_157_10, r_157_11, r_157_27, r_157_28, r_157_29, r_157_30, ↓z_m1, l_0, l_1, l_2, l_3, l_4, l_5, l_6, l_7, l_8, l_9, l_10, l_11, l_12, l_13, l_14, l_15, l_16, l_17, l_18, l_19, l_20, l_21, l_22, l_23, l_24, l_25, l_26, l_27, l_28, l_29, l_30, l_31, l_32, l_33, l_34, l_35, l_36, l_37, l_38, l_39, l_40, l_41, l_42, l_43, l_44, l_45, l_46, l_47, l_48, l_49, l_50, l_51, l_52, l_53, l_54, l_55, l_56, l_57, l_59, l_60, l_61, l_62, l_63, l_64, l_65, l_80, l_86, l_87, l_88, l_89, l_90, l_91, l_92, l_93, l_94, l_95, l_97, l_99, l_100, l_107, l_119, l_122, l_124, l_129, l_140, l_141, l_142, l_143, l_144, l_145, l_147, l_150, l_159, l_160, l_161, l_162, l_205, l_253, l_255, l_256, l_269, l_305, l_380, l_399, l_400, l_420, l_430, l_516, l_600, l_720, l_820, l_905, l_921, l_937, l_953, l_970, l_999, l_1000, l_1790, l_4096, l_9999, l_1000000]
theorem P_wins {σ : q_Sto} (h : q_Sim σ) (a0 : Int32) (a1 : Int32)  : ∃ (r : Int32) (σ1 σ2 : q_Sto), f_X11_wins q_F 0 a0 a1 σ = some (r, σ1) ∧ f_X12_wins q_F 157 a0 a1 σ1 = some (r, σ2) ∧ q_Sim σ2 := by
  obtain ⟨mu, me, h⟩ := h
  have hC := z_Sim.C h
  have hmu := hC.1.1
  have hme := hC.1.2.1
  have h86 := hC.1.2.2.1
  have h87 := hC.1.2.2.2.1
  have g9 : σ 2 9 = nI me := hC.2.1.1.2.1
  obtain ⟨lame, hlm, h7⟩ := hC.1.2.2.2.2.1
  have h12 := z_p12 hmu
  have es := z_shl (m := mu) (by omega)
  rcases z_man_cases hme a0 with ⟨man, hman, rfl, hm1⟩ | ⟨hm1, -⟩
  · have mc := hm1.1 q_F σ g9
    rcases z_w_cases a1 (lo := 0) (hi := 1) (by omega) (by omega) with ⟨w, w1, w2, rfl, hw⟩ | hw
    · obtain ⟨N, hN⟩ : ∃ N, N = 2 ^ mu := ⟨_, rfl⟩
      rw [← hN] at es
      obtain ⟨σ1, f1, f2, f3, f4, f5, f6, f7⟩ := c_standNow (n := q_F) (s := lame) z_F402 hC h7
      have hC1 : z_C σ1 (σ 158) mu me := hC.fr (fun o o1 o2 o3 => f1 o o3 (by omega) (by omega))
      obtain ⟨σ2, b1, b2, b3⟩ := c_prep_L (K := fun (y31 : Int32) (s32 : q_Sto) =>
  q_call (f_X9_lameOnes q_F 2 s32) fun r34 s33 =>
  some (y31 &&& (r34 ^^^ (-1)), s33)) hman q_F 0 σ1 (Nat.zero_le _) (by unfold q_F; omega) hC1 f2 f3 (fun m h hm => by omega)
      have hC2 : z_C σ2 (σ 158) mu me := hC1.fr (fun o o1 o2 o3 => b1 o o3 (by omega) (by omega))
      have elam := c_lameOnes (n := q_F) (σ := σ2) (by unfold q_F; omega) hC2.1 hC2.2.1
      rw [h7] at elam
      have e00 : z_set (z_mq (σ 158) man me) 0 = 0 := rfl
      rw [e00] at b3
      have hmq := z_set_lt12 (z_mq (σ 158) man me) hmu
      have emv : nI (z_set (z_mq (σ 158) man me) mu) &&& (nI lame ^^^ z_m) = nI (z_mv (σ 158) man mu me lame) := by
        rw [z_andn12 hmq]
        congr 1
        apply Nat.eq_of_testBit_eq
        intro i
        unfold z_mv
        rw [show 4095 = 2 ^ 12 - 1 by omega, Nat.testBit_and, Nat.testBit_xor, Nat.testBit_two_pow_sub_one, z_set_tb, z_set_tb]
        by_cases q : i < 12
        · rw [decide_eq_true q, Bool.xor_true]
          by_cases q2 : i < mu
          · rw [decide_eq_true q2, Bool.true_and, Bool.true_and]
          · rw [decide_eq_false q2, Bool.false_and, Bool.false_and, Bool.false_and]
        · rw [decide_eq_false (show ¬ i < mu by omega), Bool.false_and, Bool.false_and, Bool.false_and]
      have hM : z_mv (σ 158) man mu me lame < N := by rw [hN]; exact z_set_lt _ mu
      have ePr : f_X0_prepareSalted q_F 126 1 (nI man) σ1 = some (nI (z_mv (σ 158) man mu me lame), σ2) := by
        have e0 : f_X0_prepareSalted q_F 126 1 (nI man) σ1 = f_X0_prepareSalted_L5 q_F 126 1 (nI man) (fun (y31 : Int32) (s32 : q_Sto) =>
  q_call (f_X9_lameOnes q_F 2 s32) fun r34 s33 =>
  some (y31 &&& (r34 ^^^ (-1)), s33)) q_F (nI 0) (nI 0) σ1 := rfl
        rw [e0, b3]
        generalize z_set (z_mq (σ 158) man me) mu = mq at *
        generalize z_mv (σ 158) man mu me lame = mv at *
        simp (disch := omega) only [elam, emv, ↓reduceIte, ↓p_ld, ↓p_st, ↓p_nm, ↓p_nS, ↓p_jn, ↓p_call, ↓p_callv, ↓p_dv, ↓p_rem, h_ldE, h_stE, h_nmE, h_nSE, h_callE, h_callvE, h_dvE, h_remE, if_true, if_false, z_upS, z_upO, z_upK, nI_add, z_mul, z_sub, z_div, Nat.add_zero, Nat.mul_zero, Nat.zero_add, Nat.sub_zero, Nat.zero_mul, z_ltT, z_ltF, z_leT, z_leF, z_eqT, z_eqF, z_inT, z_clT, not_true_eq_false, not_false_eq_true, eq_self, true_or, or_true, z_m_lt, z_m_le, z_lt_m, z_le_m, z_eq_m, z_m_eq, z_rz0, z_rz1, z_m_add, z_of, r_0_0, r_0_1, r_0_3, r_0_4, r_0_5, r_0_6, r_0_7, r_0_8, r_0_9, r_0_10, r_1_0, r_1_1, r_1_2, r_1_3, r_1_4, r_1_5, r_1_6, r_1_7, r_1_8, r_2_0, r_2_1, r_2_2, r_2_3, r_2_4, r_2_5, r_2_6, r_2_7, r_11_0, r_11_1, r_11_2, r_11_3, r_11_4, r_11_5, r_11_6, r_19_0, r_21_0, r_23_0, r_25_0, r_27_0, r_61_0, r_117_0, r_117_1, r_117_2, r_117_3, r_117_4, r_117_5, r_117_6, r_117_7, r_126_0, r_126_1, r_126_2, r_126_3, r_126_4, r_132_0, r_132_1, r_135_0, r_135_1, r_135_2, r_135_3, r_135_4, r_135_5, r_142_0, r_144_0, r_144_1, r_144_2, r_145_0, r_145_1, r_145_2, r_145_3, r_145_4, r_145_5, r_145_6, r_154_0, r_154_1, r_155_0, ↓z_m1, l_0, l_1, l_2, l_3, l_4, l_5, l_6, l_7, l_8, l_9, l_10, l_11, l_12, l_13, l_14, l_15, l_16, l_17, l_18, l_19, l_20, l_21, l_22, l_23, l_24, l_25, l_26, l_27, l_28, l_29, l_30, l_31, l_32, l_33, l_34, l_35, l_36, l_37, l_38, l_39, l_40, l_41, l_42, l_43, l_44, l_45, l_46, l_47, l_48, l_49, l_50, l_51, l_52, l_53, l_54, l_55, l_56, l_57, l_59, l_60, l_61, l_62, l_63, l_64, l_65, l_80, l_86, l_87, l_88, l_89, l_90, l_91, l_92, l_93, l_94, l_95, l_97, l_99, l_100, l_107, l_119, l_122, l_124, l_129, l_140, l_141, l_142, l_143, l_144, l_145, l_147, l_150, l_159, l_160, l_161, l_162, l_205, l_253, l_255, l_256, l_269, l_305, l_380, l_399, l_400, l_420, l_430, l_516, l_600, l_720, l_820, l_905, l_921, l_937, l_953, l_970, l_999, l_1000, l_1790, l_4096, l_9999, l_1000000]
      have e126 := b1 126 (by omega) (by omega) (by omega)
      have e127 := b1 127 (by omega) (by omega) (by omega)
      have e128 := b1 128 (by omega) (by omega) (by omega)
      have e129 := b1 129 (by omega) (by omega) (by omega)
      have hWB : z_WB σ2 (σ 158) man mu me := ⟨f2.fr (by rw [e126]) (by rw [e126]) e127 e128, fun m k h hm hk hh => by
        have := f3 m k h hm hk hh
        have hk5 : k < me := hk
        rw [Nat.zero_testBit, if_neg (show ¬ false = true by decide), if_neg (fun q => by rw [z_eq_m (by omega)] at q; exact q)] at this ⊢
        rw [e129]; exact this, b2⟩
      have hdm : ∀ s, s < N → z_dw (σ 158) man mu me lame (s &&& z_mv (σ 158) man mu me lame) = z_dw (σ 158) man mu me lame s := fun s hs => by
        unfold z_dw
        rw [z_pw_moved]
      obtain ⟨σ3, k1, k2⟩ := c_few24 (lame := lame) hmu hN hme hC.2.2.2.1 hman hM hdm rfl q_F 0 σ2 (Nat.zero_le _) (by have := z_cnt_le (z_mv (σ 158) man mu me lame) 12; unfold q_F; omega) (fun t _ => Nat.zero_le _) hWB
      have eF : f_X0_fewestSalted q_F 126 1 (nI man) σ = some (z_vw (z_wr (z_dw (σ 158) man mu me lame) N), σ3) := by
        rw [← k2]
        generalize z_mv (σ 158) man mu me lame = mv at *
        unfold f_X0_fewestSalted
        simp (disch := omega) only [f7, ePr, elam, ↓reduceIte, ↓p_ld, ↓p_st, ↓p_nm, ↓p_nS, ↓p_jn, ↓p_call, ↓p_callv, ↓p_dv, ↓p_rem, h_ldE, h_stE, h_nmE, h_nSE, h_callE, h_callvE, h_dvE, h_remE, if_true, if_false, z_upS, z_upO, z_upK, nI_add, z_mul, z_sub, z_div, Nat.add_zero, Nat.mul_zero, Nat.zero_add, Nat.sub_zero, Nat.zero_mul, z_ltT, z_ltF, z_leT, z_leF, z_eqT, z_eqF, z_inT, z_clT, not_true_eq_false, not_false_eq_true, eq_self, true_or, or_true, z_m_lt, z_m_le, z_lt_m, z_le_m, z_eq_m, z_m_eq, z_rz0, z_rz1, z_m_add, z_of, r_0_0, r_0_1, r_0_3, r_0_4, r_0_5, r_0_6, r_0_7, r_0_8, r_0_9, r_0_10, r_1_0, r_1_1, r_1_2, r_1_3, r_1_4, r_1_5, r_1_6, r_1_7, r_1_8, r_2_0, r_2_1, r_2_2, r_2_3, r_2_4, r_2_5, r_2_6, r_2_7, r_11_0, r_11_1, r_11_2, r_11_3, r_11_4, r_11_5, r_11_6, r_19_0, r_21_0, r_23_0, r_25_0, r_27_0, r_61_0, r_117_0, r_117_1, r_117_2, r_117_3, r_117_4, r_117_5, r_117_6, r_117_7, r_126_0, r_126_1, r_126_2, r_126_3, r_126_4, r_132_0, r_132_1, r_135_0, r_135_1, r_135_2, r_135_3, r_135_4, r_135_5, r_142_0, r_144_0, r_144_1, r_144_2, r_145_0, r_145_1, r_145_2, r_145_3, r_145_4, r_145_5, r_145_6, r_154_0, r_154_1, r_155_0, ↓z_m1, l_0, l_1, l_2, l_3, l_4, l_5, l_6, l_7, l_8, l_9, l_10, l_11, l_12, l_13, l_14, l_15, l_16, l_17, l_18, l_19, l_20, l_21, l_22, l_23, l_24, l_25, l_26, l_27, l_28, l_29, l_30, l_31, l_32, l_33, l_34, l_35, l_36, l_37, l_38, l_39, l_40, l_41, l_42, l_43, l_44, l_45, l_46, l_47, l_48, l_49, l_50, l_51, l_52, l_53, l_54, l_55, l_56, l_57, l_59, l_60, l_61, l_62, l_63, l_64, l_65, l_80, l_86, l_87, l_88, l_89, l_90, l_91, l_92, l_93, l_94, l_95, l_97, l_99, l_100, l_107, l_119, l_122, l_124, l_129, l_140, l_141, l_142, l_143, l_144, l_145, l_147, l_150, l_159, l_160, l_161, l_162, l_205, l_253, l_255, l_256, l_269, l_305, l_380, l_399, l_400, l_420, l_430, l_516, l_600, l_720, l_820, l_905, l_921, l_937, l_953, l_970, l_999, l_1000, l_1790, l_4096, l_9999, l_1000000]
      have hV3 : σ3 158 = σ 158 := by rw [k1.1 158 (by omega) (by omega), b1 158 (by omega) (by omega) (by omega), f1 158 (by omega) (by omega) (by omega)]
      have mm : f_X12_isMan q_F 157 (nI man) σ3 = some (nI 1, σ3) := hm1.2 q_F σ3 (by rw [hV3]; exact h87)
      have e157 : σ3 157 = σ 157 := by rw [k1.1 157 (by omega) (by omega), b1 157 (by omega) (by omega) (by omega), f1 157 (by omega) (by omega) (by omega)]
      obtain ⟨σ4, n1, n2, n3⟩ := m_winsL24 (a1 := nI w) (lame := lame) hC es (by omega) hman h7 (by omega) q_F 0 σ3 (Nat.zero_le _) (by unfold q_F; omega) hV3
      have ew0 : z_vw (z_wr (z_dw (σ 158) man mu me lame) 0) = z_m := rfl
      rw [ew0] at n3
      have hS : z_SimN σ4 mu me := z_Sim.th h (fun o o1 o2 o3 o4 o5 o6 => by
        rw [n1 o o4 o5 (by omega) (by omega), k1.1 o (by omega) (by omega), b1 o o1 o2 (by omega), f1 o o1 o2 (by omega)]) (fun a ha => by rw [n2 a ha, e157])
      have hspec := z_wr_spec (d := z_dw (σ 158) man mu me lame) N
      cases hr : z_wr (z_dw (σ 158) man mu me lame) N with
      | zero =>
        rw [hr] at eF n3
        have e0 : z_vw 0 = z_m := rfl
        rw [e0] at eF n3
        refine ⟨z_m, σ3, σ4, ?_, ?_, mu, me, hS⟩
        · unfold f_X11_wins
          simp (disch := omega) only [mc, c_isWithin, hw, eF, ↓reduceIte, ↓p_ld, ↓p_st, ↓p_nm, ↓p_nS, ↓p_jn, ↓p_call, ↓p_callv, ↓p_dv, ↓p_rem, h_ldE, h_stE, h_nmE, h_nSE, h_callE, h_callvE, h_dvE, h_remE, if_true, if_false, z_upS, z_upO, z_upK, nI_add, z_mul, z_sub, z_div, Nat.add_zero, Nat.mul_zero, Nat.zero_add, Nat.sub_zero, Nat.zero_mul, z_ltT, z_ltF, z_leT, z_leF, z_eqT, z_eqF, z_inT, z_clT, not_true_eq_false, not_false_eq_true, eq_self, true_or, or_true, z_m_lt, z_m_le, z_lt_m, z_le_m, z_eq_m, z_m_eq, z_rz0, z_rz1, z_m_add, z_of, r_0_0, r_0_1, r_0_3, r_0_4, r_0_5, r_0_6, r_0_7, r_0_8, r_0_9, r_0_10, r_1_0, r_1_1, r_1_2, r_1_3, r_1_4, r_1_5, r_1_6, r_1_7, r_1_8, r_2_0, r_2_1, r_2_2, r_2_3, r_2_4, r_2_5, r_2_6, r_2_7, r_11_0, r_11_1, r_11_2, r_11_3, r_11_4, r_11_5, r_11_6, r_19_0, r_21_0, r_23_0, r_25_0, r_27_0, r_61_0, r_117_0, r_117_1, r_117_2, r_117_3, r_117_4, r_117_5, r_117_6, r_117_7, r_126_0, r_126_1, r_126_2, r_126_3, r_126_4, r_132_0, r_132_1, r_135_0, r_135_1, r_135_2, r_135_3, r_135_4, r_135_5, r_142_0, r_144_0, r_144_1, r_144_2, r_145_0, r_145_1, r_145_2, r_145_3, r_145_4, r_145_5, r_145_6, r_154_0, r_154_1, r_155_0, ↓z_m1, l_0, l_1, l_2, l_3, l_4, l_5, l_6, l_7, l_8, l_9, l_10, l_11, l_12, l_13, l_14, l_15, l_16, l_17, l_18, l_19, l_20, l_21, l_22, l_23, l_24, l_25, l_26, l_27, l_28, l_29, l_30, l_31, l_32, l_33, l_34, l_35, l_36, l_37, l_38, l_39, l_40, l_41, l_42, l_43, l_44, l_45, l_46, l_47, l_48, l_49, l_50, l_51, l_52, l_53, l_54, l_55, l_56, l_57, l_59, l_60, l_61, l_62, l_63, l_64, l_65, l_80, l_86, l_87, l_88, l_89, l_90, l_91, l_92, l_93, l_94, l_95, l_97, l_99, l_100, l_107, l_119, l_122, l_124, l_129, l_140, l_141, l_142, l_143, l_144, l_145, l_147, l_150, l_159, l_160, l_161, l_162, l_205, l_253, l_255, l_256, l_269, l_305, l_380, l_399, l_400, l_420, l_430, l_516, l_600, l_720, l_820, l_905, l_921, l_937, l_953, l_970, l_999, l_1000, l_1790, l_4096, l_9999, l_1000000]
        · unfold f_X12_wins
          simp (disch := omega) only [mm, m_isIn, hw, n3, ↓reduceIte, ↓p_ld, ↓p_st, ↓p_nm, ↓p_nS, ↓p_jn, ↓p_call, ↓p_callv, ↓p_dv, ↓p_rem, h_ldE, h_stE, h_nmE, h_nSE, h_callE, h_callvE, h_dvE, h_remE, if_true, if_false, z_upS, z_upO, z_upK, nI_add, z_mul, z_sub, z_div, Nat.add_zero, Nat.mul_zero, Nat.zero_add, Nat.sub_zero, Nat.zero_mul, z_ltT, z_ltF, z_leT, z_leF, z_eqT, z_eqF, z_inT, z_clT, not_true_eq_false, not_false_eq_true, eq_self, true_or, or_true, z_m_lt, z_m_le, z_lt_m, z_le_m, z_eq_m, z_m_eq, z_rz0, z_rz1, z_m_add, z_of, r_157_0, r_157_1, r_157_2, r_157_3, r_157_6, r_157_7, r_157_8, r_157_9, r_157_10, r_157_11, r_157_27, r_157_28, r_157_29, r_157_30, ↓z_m1, l_0, l_1, l_2, l_3, l_4, l_5, l_6, l_7, l_8, l_9, l_10, l_11, l_12, l_13, l_14, l_15, l_16, l_17, l_18, l_19, l_20, l_21, l_22, l_23, l_24, l_25, l_26, l_27, l_28, l_29, l_30, l_31, l_32, l_33, l_34, l_35, l_36, l_37, l_38, l_39, l_40, l_41, l_42, l_43, l_44, l_45, l_46, l_47, l_48, l_49, l_50, l_51, l_52, l_53, l_54, l_55, l_56, l_57, l_59, l_60, l_61, l_62, l_63, l_64, l_65, l_80, l_86, l_87, l_88, l_89, l_90, l_91, l_92, l_93, l_94, l_95, l_97, l_99, l_100, l_107, l_119, l_122, l_124, l_129, l_140, l_141, l_142, l_143, l_144, l_145, l_147, l_150, l_159, l_160, l_161, l_162, l_205, l_253, l_255, l_256, l_269, l_305, l_380, l_399, l_400, l_420, l_430, l_516, l_600, l_720, l_820, l_905, l_921, l_937, l_953, l_970, l_999, l_1000, l_1790, l_4096, l_9999, l_1000000]
      | succ t =>
        obtain ⟨t1, -, -⟩ := hspec.2 t hr
        have et : z_vw (t+1) = nI t := rfl
        rw [hr, et] at eF n3
        have ec := c_bitCount (n := q_F) (s := t) (σ := σ3) (by omega)
        have ec2 := m_count (n := q_F) (s := t) (σ := σ4) (by unfold q_F; omega) (by omega)
        by_cases q : w = 0
        · subst q
          refine ⟨nI (z_cnt t 12), σ3, σ4, ?_, ?_, mu, me, hS⟩
          · unfold f_X11_wins
            simp (disch := omega) only [mc, c_isWithin, hw, eF, ec, ↓reduceIte, ↓p_ld, ↓p_st, ↓p_nm, ↓p_nS, ↓p_jn, ↓p_call, ↓p_callv, ↓p_dv, ↓p_rem, h_ldE, h_stE, h_nmE, h_nSE, h_callE, h_callvE, h_dvE, h_remE, if_true, if_false, z_upS, z_upO, z_upK, nI_add, z_mul, z_sub, z_div, Nat.add_zero, Nat.mul_zero, Nat.zero_add, Nat.sub_zero, Nat.zero_mul, z_ltT, z_ltF, z_leT, z_leF, z_eqT, z_eqF, z_inT, z_clT, not_true_eq_false, not_false_eq_true, eq_self, true_or, or_true, z_m_lt, z_m_le, z_lt_m, z_le_m, z_eq_m, z_m_eq, z_rz0, z_rz1, z_m_add, z_of, r_0_0, r_0_1, r_0_3, r_0_4, r_0_5, r_0_6, r_0_7, r_0_8, r_0_9, r_0_10, r_1_0, r_1_1, r_1_2, r_1_3, r_1_4, r_1_5, r_1_6, r_1_7, r_1_8, r_2_0, r_2_1, r_2_2, r_2_3, r_2_4, r_2_5, r_2_6, r_2_7, r_11_0, r_11_1, r_11_2, r_11_3, r_11_4, r_11_5, r_11_6, r_19_0, r_21_0, r_23_0, r_25_0, r_27_0, r_61_0, r_117_0, r_117_1, r_117_2, r_117_3, r_117_4, r_117_5, r_117_6, r_117_7, r_126_0, r_126_1, r_126_2, r_126_3, r_126_4, r_132_0, r_132_1, r_135_0, r_135_1, r_135_2, r_135_3, r_135_4, r_135_5, r_142_0, r_144_0, r_144_1, r_144_2, r_145_0, r_145_1, r_145_2, r_145_3, r_145_4, r_145_5, r_145_6, r_154_0, r_154_1, r_155_0, ↓z_m1, l_0, l_1, l_2, l_3, l_4, l_5, l_6, l_7, l_8, l_9, l_10, l_11, l_12, l_13, l_14, l_15, l_16, l_17, l_18, l_19, l_20, l_21, l_22, l_23, l_24, l_25, l_26, l_27, l_28, l_29, l_30, l_31, l_32, l_33, l_34, l_35, l_36, l_37, l_38, l_39, l_40, l_41, l_42, l_43, l_44, l_45, l_46, l_47, l_48, l_49, l_50, l_51, l_52, l_53, l_54, l_55, l_56, l_57, l_59, l_60, l_61, l_62, l_63, l_64, l_65, l_80, l_86, l_87, l_88, l_89, l_90, l_91, l_92, l_93, l_94, l_95, l_97, l_99, l_100, l_107, l_119, l_122, l_124, l_129, l_140, l_141, l_142, l_143, l_144, l_145, l_147, l_150, l_159, l_160, l_161, l_162, l_205, l_253, l_255, l_256, l_269, l_305, l_380, l_399, l_400, l_420, l_430, l_516, l_600, l_720, l_820, l_905, l_921, l_937, l_953, l_970, l_999, l_1000, l_1790, l_4096, l_9999, l_1000000]
          · unfold f_X12_wins
            simp (disch := omega) only [mm, m_isIn, hw, n3, ec2, ↓reduceIte, ↓p_ld, ↓p_st, ↓p_nm, ↓p_nS, ↓p_jn, ↓p_call, ↓p_callv, ↓p_dv, ↓p_rem, h_ldE, h_stE, h_nmE, h_nSE, h_callE, h_callvE, h_dvE, h_remE, if_true, if_false, z_upS, z_upO, z_upK, nI_add, z_mul, z_sub, z_div, Nat.add_zero, Nat.mul_zero, Nat.zero_add, Nat.sub_zero, Nat.zero_mul, z_ltT, z_ltF, z_leT, z_leF, z_eqT, z_eqF, z_inT, z_clT, not_true_eq_false, not_false_eq_true, eq_self, true_or, or_true, z_m_lt, z_m_le, z_lt_m, z_le_m, z_eq_m, z_m_eq, z_rz0, z_rz1, z_m_add, z_of, r_157_0, r_157_1, r_157_2, r_157_3, r_157_6, r_157_7, r_157_8, r_157_9, r_157_10, r_157_11, r_157_27, r_157_28, r_157_29, r_157_30, ↓z_m1, l_0, l_1, l_2, l_3, l_4, l_5, l_6, l_7, l_8, l_9, l_10, l_11, l_12, l_13, l_14, l_15, l_16, l_17, l_18, l_19, l_20, l_21, l_22, l_23, l_24, l_25, l_26, l_27, l_28, l_29, l_30, l_31, l_32, l_33, l_34, l_35, l_36, l_37, l_38, l_39, l_40, l_41, l_42, l_43, l_44, l_45, l_46, l_47, l_48, l_49, l_50, l_51, l_52, l_53, l_54, l_55, l_56, l_57, l_59, l_60, l_61, l_62, l_63, l_64, l_65, l_80, l_86, l_87, l_88, l_89, l_90, l_91, l_92, l_93, l_94, l_95, l_97, l_99, l_100, l_107, l_119, l_122, l_124, l_129, l_140, l_141, l_142, l_143, l_144, l_145, l_147, l_150, l_159, l_160, l_161, l_162, l_205, l_253, l_255, l_256, l_269, l_305, l_380, l_399, l_400, l_420, l_430, l_516, l_600, l_720, l_820, l_905, l_921, l_937, l_953, l_970, l_999, l_1000, l_1790, l_4096, l_9999, l_1000000]
        · have q : w = 1 := by omega
          subst q
          refine ⟨nI t, σ3, σ4, ?_, ?_, mu, me, hS⟩
          · unfold f_X11_wins
            simp (disch := omega) only [mc, c_isWithin, hw, eF, ↓reduceIte, ↓p_ld, ↓p_st, ↓p_nm, ↓p_nS, ↓p_jn, ↓p_call, ↓p_callv, ↓p_dv, ↓p_rem, h_ldE, h_stE, h_nmE, h_nSE, h_callE, h_callvE, h_dvE, h_remE, if_true, if_false, z_upS, z_upO, z_upK, nI_add, z_mul, z_sub, z_div, Nat.add_zero, Nat.mul_zero, Nat.zero_add, Nat.sub_zero, Nat.zero_mul, z_ltT, z_ltF, z_leT, z_leF, z_eqT, z_eqF, z_inT, z_clT, not_true_eq_false, not_false_eq_true, eq_self, true_or, or_true, z_m_lt, z_m_le, z_lt_m, z_le_m, z_eq_m, z_m_eq, z_rz0, z_rz1, z_m_add, z_of, r_0_0, r_0_1, r_0_3, r_0_4, r_0_5, r_0_6, r_0_7, r_0_8, r_0_9, r_0_10, r_1_0, r_1_1, r_1_2, r_1_3, r_1_4, r_1_5, r_1_6, r_1_7, r_1_8, r_2_0, r_2_1, r_2_2, r_2_3, r_2_4, r_2_5, r_2_6, r_2_7, r_11_0, r_11_1, r_11_2, r_11_3, r_11_4, r_11_5, r_11_6, r_19_0, r_21_0, r_23_0, r_25_0, r_27_0, r_61_0, r_117_0, r_117_1, r_117_2, r_117_3, r_117_4, r_117_5, r_117_6, r_117_7, r_126_0, r_126_1, r_126_2, r_126_3, r_126_4, r_132_0, r_132_1, r_135_0, r_135_1, r_135_2, r_135_3, r_135_4, r_135_5, r_142_0, r_144_0, r_144_1, r_144_2, r_145_0, r_145_1, r_145_2, r_145_3, r_145_4, r_145_5, r_145_6, r_154_0, r_154_1, r_155_0, ↓z_m1, l_0, l_1, l_2, l_3, l_4, l_5, l_6, l_7, l_8, l_9, l_10, l_11, l_12, l_13, l_14, l_15, l_16, l_17, l_18, l_19, l_20, l_21, l_22, l_23, l_24, l_25, l_26, l_27, l_28, l_29, l_30, l_31, l_32, l_33, l_34, l_35, l_36, l_37, l_38, l_39, l_40, l_41, l_42, l_43, l_44, l_45, l_46, l_47, l_48, l_49, l_50, l_51, l_52, l_53, l_54, l_55, l_56, l_57, l_59, l_60, l_61, l_62, l_63, l_64, l_65, l_80, l_86, l_87, l_88, l_89, l_90, l_91, l_92, l_93, l_94, l_95, l_97, l_99, l_100, l_107, l_119, l_122, l_124, l_129, l_140, l_141, l_142, l_143, l_144, l_145, l_147, l_150, l_159, l_160, l_161, l_162, l_205, l_253, l_255, l_256, l_269, l_305, l_380, l_399, l_400, l_420, l_430, l_516, l_600, l_720, l_820, l_905, l_921, l_937, l_953, l_970, l_999, l_1000, l_1790, l_4096, l_9999, l_1000000]
          · unfold f_X12_wins
            simp (disch := omega) only [mm, m_isIn, hw, n3, ↓reduceIte, ↓p_ld, ↓p_st, ↓p_nm, ↓p_nS, ↓p_jn, ↓p_call, ↓p_callv, ↓p_dv, ↓p_rem, h_ldE, h_stE, h_nmE, h_nSE, h_callE, h_callvE, h_dvE, h_remE, if_true, if_false, z_upS, z_upO, z_upK, nI_add, z_mul, z_sub, z_div, Nat.add_zero, Nat.mul_zero, Nat.zero_add, Nat.sub_zero, Nat.zero_mul, z_ltT, z_ltF, z_leT, z_leF, z_eqT, z_eqF, z_inT, z_clT, not_true_eq_false, not_false_eq_true, eq_self, true_or, or_true, z_m_lt, z_m_le, z_lt_m, z_le_m, z_eq_m, z_m_eq, z_rz0, z_rz1, z_m_add, z_of, r_157_0, r_157_1, r_157_2, r_157_3, r_157_6, r_157_7, r_157_8, r_157_9, r_157_10, r_157_11, r_157_27, r_157_28, r_157_29, r_157_30, ↓z_m1, l_0, l_1, l_2, l_3, l_4, l_5, l_6, l_7, l_8, l_9, l_10, l_11, l_12, l_13, l_14, l_15, l_16, l_17, l_18, l_19, l_20, l_21, l_22, l_23, l_24, l_25, l_26, l_27, l_28, l_29, l_30, l_31, l_32, l_33, l_34, l_35, l_36, l_37, l_38, l_39, l_40, l_41, l_42, l_43, l_44, l_45, l_46, l_47, l_48, l_49, l_50, l_51, l_52, l_53, l_54, l_55, l_56, l_57, l_59, l_60, l_61, l_62, l_63, l_64, l_65, l_80, l_86, l_87, l_88, l_89, l_90, l_91, l_92, l_93, l_94, l_95, l_97, l_99, l_100, l_107, l_119, l_122, l_124, l_129, l_140, l_141, l_142, l_143, l_144, l_145, l_147, l_150, l_159, l_160, l_161, l_162, l_205, l_253, l_255, l_256, l_269, l_305, l_380, l_399, l_400, l_420, l_430, l_516, l_600, l_720, l_820, l_905, l_921, l_937, l_953, l_970, l_999, l_1000, l_1790, l_4096, l_9999, l_1000000]
    · have mm : f_X12_isMan q_F 157 (nI man) σ = some (nI 1, σ) := hm1.2 q_F σ h87
      refine ⟨z_m, σ, σ, ?_, ?_, mu, me, h⟩
      · unfold f_X11_wins
        simp (disch := omega) only [mc, c_isWithin, hw, ↓reduceIte, ↓p_ld, ↓p_st, ↓p_nm, ↓p_nS, ↓p_jn, ↓p_call, ↓p_callv, ↓p_dv, ↓p_rem, h_ldE, h_stE, h_nmE, h_nSE, h_callE, h_callvE, h_dvE, h_remE, if_true, if_false, z_upS, z_upO, z_upK, nI_add, z_mul, z_sub, z_div, Nat.add_zero, Nat.mul_zero, Nat.zero_add, Nat.sub_zero, Nat.zero_mul, z_ltT, z_ltF, z_leT, z_leF, z_eqT, z_eqF, z_inT, z_clT, not_true_eq_false, not_false_eq_true, eq_self, true_or, or_true, z_m_lt, z_m_le, z_lt_m, z_le_m, z_eq_m, z_m_eq, z_rz0, z_rz1, z_m_add, z_of, r_0_0, r_0_1, r_0_3, r_0_4, r_0_5, r_0_6, r_0_7, r_0_8, r_0_9, r_0_10, r_1_0, r_1_1, r_1_2, r_1_3, r_1_4, r_1_5, r_1_6, r_1_7, r_1_8, r_2_0, r_2_1, r_2_2, r_2_3, r_2_4, r_2_5, r_2_6, r_2_7, r_11_0, r_11_1, r_11_2, r_11_3, r_11_4, r_11_5, r_11_6, r_19_0, r_21_0, r_23_0, r_25_0, r_27_0, r_61_0, r_117_0, r_117_1, r_117_2, r_117_3, r_117_4, r_117_5, r_117_6, r_117_7, r_126_0, r_126_1, r_126_2, r_126_3, r_126_4, r_132_0, r_132_1, r_135_0, r_135_1, r_135_2, r_135_3, r_135_4, r_135_5, r_142_0, r_144_0, r_144_1, r_144_2, r_145_0, r_145_1, r_145_2, r_145_3, r_145_4, r_145_5, r_145_6, r_154_0, r_154_1, r_155_0, ↓z_m1, l_0, l_1, l_2, l_3, l_4, l_5, l_6, l_7, l_8, l_9, l_10, l_11, l_12, l_13, l_14, l_15, l_16, l_17, l_18, l_19, l_20, l_21, l_22, l_23, l_24, l_25, l_26, l_27, l_28, l_29, l_30, l_31, l_32, l_33, l_34, l_35, l_36, l_37, l_38, l_39, l_40, l_41, l_42, l_43, l_44, l_45, l_46, l_47, l_48, l_49, l_50, l_51, l_52, l_53, l_54, l_55, l_56, l_57, l_59, l_60, l_61, l_62, l_63, l_64, l_65, l_80, l_86, l_87, l_88, l_89, l_90, l_91, l_92, l_93, l_94, l_95, l_97, l_99, l_100, l_107, l_119, l_122, l_124, l_129, l_140, l_141, l_142, l_143, l_144, l_145, l_147, l_150, l_159, l_160, l_161, l_162, l_205, l_253, l_255, l_256, l_269, l_305, l_380, l_399, l_400, l_420, l_430, l_516, l_600, l_720, l_820, l_905, l_921, l_937, l_953, l_970, l_999, l_1000, l_1790, l_4096, l_9999, l_1000000]
      · unfold f_X12_wins
        simp (disch := omega) only [mm, m_isIn, hw, ↓reduceIte, ↓p_ld, ↓p_st, ↓p_nm, ↓p_nS, ↓p_jn, ↓p_call, ↓p_callv, ↓p_dv, ↓p_rem, h_ldE, h_stE, h_nmE, h_nSE, h_callE, h_callvE, h_dvE, h_remE, if_true, if_false, z_upS, z_upO, z_upK, nI_add, z_mul, z_sub, z_div, Nat.add_zero, Nat.mul_zero, Nat.zero_add, Nat.sub_zero, Nat.zero_mul, z_ltT, z_ltF, z_leT, z_leF, z_eqT, z_eqF, z_inT, z_clT, not_true_eq_false, not_false_eq_true, eq_self, true_or, or_true, z_m_lt, z_m_le, z_lt_m, z_le_m, z_eq_m, z_m_eq, z_rz0, z_rz1, z_m_add, z_of, r_157_0, r_157_1, r_157_2, r_157_3, r_157_6, r_157_7, r_157_8, r_157_9, r_157_10, r_157_11, r_157_27, r_157_28, r_157_29, r_157_30, ↓z_m1, l_0, l_1, l_2, l_3, l_4, l_5, l_6, l_7, l_8, l_9, l_10, l_11, l_12, l_13, l_14, l_15, l_16, l_17, l_18, l_19, l_20, l_21, l_22, l_23, l_24, l_25, l_26, l_27, l_28, l_29, l_30, l_31, l_32, l_33, l_34, l_35, l_36, l_37, l_38, l_39, l_40, l_41, l_42, l_43, l_44, l_45, l_46, l_47, l_48, l_49, l_50, l_51, l_52, l_53, l_54, l_55, l_56, l_57, l_59, l_60, l_61, l_62, l_63, l_64, l_65, l_80, l_86, l_87, l_88, l_89, l_90, l_91, l_92, l_93, l_94, l_95, l_97, l_99, l_100, l_107, l_119, l_122, l_124, l_129, l_140, l_141, l_142, l_143, l_144, l_145, l_147, l_150, l_159, l_160, l_161, l_162, l_205, l_253, l_255, l_256, l_269, l_305, l_380, l_399, l_400, l_420, l_430, l_516, l_600, l_720, l_820, l_905, l_921, l_937, l_953, l_970, l_999, l_1000, l_1790, l_4096, l_9999, l_1000000]
  · have mc := hm1.1 q_F σ g9
    have mm := hm1.2 q_F σ h87
    refine ⟨z_m, σ, σ, ?_, ?_, mu, me, h⟩
    · unfold f_X11_wins
      simp (disch := omega) only [mc, ↓reduceIte, ↓p_ld, ↓p_st, ↓p_nm, ↓p_nS, ↓p_jn, ↓p_call, ↓p_callv, ↓p_dv, ↓p_rem, h_ldE, h_stE, h_nmE, h_nSE, h_callE, h_callvE, h_dvE, h_remE, if_true, if_false, z_upS, z_upO, z_upK, nI_add, z_mul, z_sub, z_div, Nat.add_zero, Nat.mul_zero, Nat.zero_add, Nat.sub_zero, Nat.zero_mul, z_ltT, z_ltF, z_leT, z_leF, z_eqT, z_eqF, z_inT, z_clT, not_true_eq_false, not_false_eq_true, eq_self, true_or, or_true, z_m_lt, z_m_le, z_lt_m, z_le_m, z_eq_m, z_m_eq, z_rz0, z_rz1, z_m_add, z_of, r_0_0, r_0_1, r_0_3, r_0_4, r_0_5, r_0_6, r_0_7, r_0_8, r_0_9, r_0_10, r_1_0, r_1_1, r_1_2, r_1_3, r_1_4, r_1_5, r_1_6, r_1_7, r_1_8, r_2_0, r_2_1, r_2_2, r_2_3, r_2_4, r_2_5, r_2_6, r_2_7, r_11_0, r_11_1, r_11_2, r_11_3, r_11_4, r_11_5, r_11_6, r_19_0, r_21_0, r_23_0, r_25_0, r_27_0, r_61_0, r_117_0, r_117_1, r_117_2, r_117_3, r_117_4, r_117_5, r_117_6, r_117_7, r_126_0, r_126_1, r_126_2, r_126_3, r_126_4, r_132_0, r_132_1, r_135_0, r_135_1, r_135_2, r_135_3, r_135_4, r_135_5, r_142_0, r_144_0, r_144_1, r_144_2, r_145_0, r_145_1, r_145_2, r_145_3, r_145_4, r_145_5, r_145_6, r_154_0, r_154_1, r_155_0, ↓z_m1, l_0, l_1, l_2, l_3, l_4, l_5, l_6, l_7, l_8, l_9, l_10, l_11, l_12, l_13, l_14, l_15, l_16, l_17, l_18, l_19, l_20, l_21, l_22, l_23, l_24, l_25, l_26, l_27, l_28, l_29, l_30, l_31, l_32, l_33, l_34, l_35, l_36, l_37, l_38, l_39, l_40, l_41, l_42, l_43, l_44, l_45, l_46, l_47, l_48, l_49, l_50, l_51, l_52, l_53, l_54, l_55, l_56, l_57, l_59, l_60, l_61, l_62, l_63, l_64, l_65, l_80, l_86, l_87, l_88, l_89, l_90, l_91, l_92, l_93, l_94, l_95, l_97, l_99, l_100, l_107, l_119, l_122, l_124, l_129, l_140, l_141, l_142, l_143, l_144, l_145, l_147, l_150, l_159, l_160, l_161, l_162, l_205, l_253, l_255, l_256, l_269, l_305, l_380, l_399, l_400, l_420, l_430, l_516, l_600, l_720, l_820, l_905, l_921, l_937, l_953, l_970, l_999, l_1000, l_1790, l_4096, l_9999, l_1000000]
    · unfold f_X12_wins
      simp (disch := omega) only [mm, ↓reduceIte, ↓p_ld, ↓p_st, ↓p_nm, ↓p_nS, ↓p_jn, ↓p_call, ↓p_callv, ↓p_dv, ↓p_rem, h_ldE, h_stE, h_nmE, h_nSE, h_callE, h_callvE, h_dvE, h_remE, if_true, if_false, z_upS, z_upO, z_upK, nI_add, z_mul, z_sub, z_div, Nat.add_zero, Nat.mul_zero, Nat.zero_add, Nat.sub_zero, Nat.zero_mul, z_ltT, z_ltF, z_leT, z_leF, z_eqT, z_eqF, z_inT, z_clT, not_true_eq_false, not_false_eq_true, eq_self, true_or, or_true, z_m_lt, z_m_le, z_lt_m, z_le_m, z_eq_m, z_m_eq, z_rz0, z_rz1, z_m_add, z_of, r_157_0, r_157_1, r_157_2, r_157_3, r_157_6, r_157_7, r_157_8, r_157_9, r_157_10, r_157_11, r_157_27, r_157_28, r_157_29, r_157_30, ↓z_m1, l_0, l_1, l_2, l_3, l_4, l_5, l_6, l_7, l_8, l_9, l_10, l_11, l_12, l_13, l_14, l_15, l_16, l_17, l_18, l_19, l_20, l_21, l_22, l_23, l_24, l_25, l_26, l_27, l_28, l_29, l_30, l_31, l_32, l_33, l_34, l_35, l_36, l_37, l_38, l_39, l_40, l_41, l_42, l_43, l_44, l_45, l_46, l_47, l_48, l_49, l_50, l_51, l_52, l_53, l_54, l_55, l_56, l_57, l_59, l_60, l_61, l_62, l_63, l_64, l_65, l_80, l_86, l_87, l_88, l_89, l_90, l_91, l_92, l_93, l_94, l_95, l_97, l_99, l_100, l_107, l_119, l_122, l_124, l_129, l_140, l_141, l_142, l_143, l_144, l_145, l_147, l_150, l_159, l_160, l_161, l_162, l_205, l_253, l_255, l_256, l_269, l_305, l_380, l_399, l_400, l_420, l_430, l_516, l_600, l_720, l_820, l_905, l_921, l_937, l_953, l_970, l_999, l_1000, l_1790, l_4096, l_9999, l_1000000]
