/-! the longest row -/
def z_ex (q : Nat → Bool) : Nat → Bool
  | 0 => false
  | k + 1 => z_ex q k || q k
def z_E (H : Nat → Nat) (mu : Nat) : Nat → Nat → Nat
  | 0, _ => 0
  | n + 1, s => z_set (fun m => s.testBit m && (decide (s &&& (2 ^ m ^^^ 4095) = 0) || z_ex (fun k => (z_E H mu n (s &&& (2 ^ m ^^^ 4095))).testBit k && (H k).testBit m) mu)) mu
theorem z_E_succ {H : Nat → Nat} {mu n s : Nat} : z_E H mu (n+1) s = z_set (fun m => s.testBit m && (decide (s &&& (2 ^ m ^^^ 4095) = 0) || z_ex (fun k => (z_E H mu n (s &&& (2 ^ m ^^^ 4095))).testBit k && (H k).testBit m) mu)) mu := rfl
theorem z_dl {y m : Nat} (hm : m < 12) (i : Nat) (hy : y < 4096) : (y &&& (2 ^ m ^^^ 4095)).testBit i = (y.testBit i && decide (i ≠ m)) := by
  rw [show 4095 = 2 ^ 12 - 1 by omega, Nat.testBit_and, Nat.testBit_xor, Nat.testBit_two_pow, Nat.testBit_two_pow_sub_one]
  by_cases q : i < 12
  · by_cases q2 : i = m
    · subst q2; simp [q]
    · have : ¬ m = i := fun h => q2 h.symm
      simp [q, q2, this]
  · have : y.testBit i = false := z_tb_lt (N := 12) hy (by omega)
    simp [this]
theorem z_dl_lt {y m : Nat} (hm : m < 12) (hy : y < 4096) (h : y.testBit m = true) : y &&& (2 ^ m ^^^ 4095) < y := by
  have h1 : y &&& (2 ^ m ^^^ 4095) ≤ y := Nat.and_le_left
  have h2 : y &&& (2 ^ m ^^^ 4095) ≠ y := fun e => by
    have := z_dl hm m hy
    rw [e, h] at this
    simp at this
  omega
theorem z_E_irr {H : Nat → Nat} {mu : Nat} (hmu : mu ≤ 12) : ∀ n k s, s < 4096 → s < n → s < k → z_E H mu n s = z_E H mu k s := by
  intro n
  induction n with
  | zero => intro k s _ h; omega
  | succ n ih =>
    intro k s hs h1 h2
    cases k with
    | zero => omega
    | succ k =>
      rw [z_E_succ, z_E_succ]
      refine z_set_congr (fun m hm => ?_)
      by_cases q : s.testBit m = true
      · have hlt := z_dl_lt (show m < 12 by omega) hs q
        rw [ih k (s &&& (2 ^ m ^^^ 4095)) (by omega) (by omega) (by omega)]
      · have q : s.testBit m = false := by cases h : s.testBit m with | false => rfl | true => exact absurd h q
        rw [q, Bool.false_and, Bool.false_and]
def z_ES (H : Nat → Nat) (mu s : Nat) : Nat := z_E H mu (s+1) s
/-- what makes m an end of s -/
def z_ep (H : Nat → Nat) (mu s m : Nat) : Bool := s.testBit m && (decide (s &&& (2 ^ m ^^^ 4095) = 0) || z_ex (fun k => (z_ES H mu (s &&& (2 ^ m ^^^ 4095))).testBit k && (H k).testBit m) mu)
theorem z_ES_eq {H : Nat → Nat} {mu s : Nat} (hmu : mu ≤ 12) (hs : s < 4096) : z_ES H mu s = z_set (z_ep H mu s) mu := by
  unfold z_ES
  rw [z_E_succ]
  refine z_set_congr (fun m hm => ?_)
  unfold z_ep
  by_cases q : s.testBit m = true
  · have hlt := z_dl_lt (show m < 12 by omega) hs q
    have e : z_E H mu s (s &&& (2 ^ m ^^^ 4095)) = z_ES H mu (s &&& (2 ^ m ^^^ 4095)) := z_E_irr hmu _ _ _ (by omega) (by omega) (by omega)
    rw [e]
  · have q : s.testBit m = false := by cases h : s.testBit m with | false => rfl | true => exact absurd h q
    rw [q, Bool.false_and, Bool.false_and]
theorem z_ES0 {H : Nat → Nat} {mu : Nat} (hmu : mu ≤ 12) : z_ES H mu 0 = 0 := by
  rw [z_ES_eq hmu (by omega)]
  apply Nat.eq_of_testBit_eq
  intro i
  rw [z_set_tb]
  unfold z_ep
  rw [Nat.zero_testBit, Bool.false_and, Bool.and_false]
/-! the longest row: the reference -/
theorem z_bb {a b k m : Nat} (ha : a < 2147483648) (hb : b < 2147483648) (hk : k < 31) (hm : m < 31) : ((nI a >>> (nI k &&& nI 31)) &&& (nI b >>> (nI m &&& nI 31))) &&& nI 1 = nI (if (a.testBit k && b.testBit m) = true then 1 else 0) := by
  rw [z_shr ha hk, z_shr hb hm, z_and, z_and]
  congr 1
  have e1 := z_mod2 a k
  have e2 := z_mod2 b m
  have : (a / 2 ^ k &&& b / 2 ^ m) &&& 1 = (a / 2 ^ k &&& 1) &&& (b / 2 ^ m &&& 1) := by
    apply Nat.eq_of_testBit_eq
    intro i
    rw [Nat.testBit_and, Nat.testBit_and, Nat.testBit_and, Nat.testBit_and, Nat.testBit_and]
    cases (a / 2 ^ k).testBit i <;> cases (b / 2 ^ m).testBit i <;> cases (1 : Nat).testBit i <;> rfl
  rw [this, Nat.and_one_is_mod, Nat.and_one_is_mod, e1, e2]
  cases a.testBit k <;> cases b.testBit m <;> rfl
def z_fb (b : Bool) : Int32 := nI (if b = true then 1 else 0)
theorem m_flag_L {n mu m r e0 : Nat} {x2 x3 x4 : Int32} {init : Bool} {H : Nat → Nat} {V : Nat → Int32} {σ : q_Sto} {K : Int32 → q_Sto → Option (Int32 × q_Sto)} (hV : σ 158 = V) (hmu : mu ≤ 12) (hm : m < 12) (hr : r < 4096)
    (hH : ∀ k, k < 12 → V (129+k) = nI (H k) ∧ H k < 4096) (he : σ 170 r = nI e0) (he0 : e0 < 4096) : ∀ j i, i ≤ mu → mu < j + i →
    f_X12_row_L75 n 157 (nI mu) x2 x3 x4 (nI m) (nI r) K j (z_fb (init || z_ex (fun k => e0.testBit k && (H k).testBit m) i)) (nI i) σ = K (z_fb (init || z_ex (fun k => e0.testBit k && (H k).testBit m) mu)) σ := by
  intro j
  induction j with
  | zero => intro i h1 h2; omega
  | succ j ih =>
    intro i h1 h2
    by_cases hi : i = mu
    · subst hi
      generalize z_fb (init || z_ex (fun k => e0.testBit k && (H k).testBit m) i) = y
      rw [f_X12_row_L75]
      simp (disch := omega) only [↓reduceIte, ↓p_ld, ↓p_st, ↓p_nm, ↓p_nS, ↓p_jn, ↓p_call, ↓p_callv, ↓p_dv, ↓p_rem, h_ldE, h_stE, h_nmE, h_nSE, h_callE, h_callvE, h_dvE, h_remE, if_true, if_false, z_upS, z_upO, z_upK, nI_add, z_mul, z_sub, z_div, Nat.add_zero, Nat.mul_zero, Nat.zero_add, Nat.sub_zero, Nat.zero_mul, z_ltT, z_ltF, z_leT, z_leF, z_eqT, z_eqF, z_inT, z_clT, not_true_eq_false, not_false_eq_true, eq_self, true_or, or_true, z_m_lt, z_m_le, z_lt_m, z_le_m, z_eq_m, z_m_eq, z_rz0, z_rz1, z_m_add, z_of, r_157_0, r_157_1, r_157_2, r_157_3, r_157_6, r_157_7, r_157_8, r_157_9, r_157_10, r_157_11, r_157_27, r_157_28, r_157_29, r_157_30, ↓z_m1, l_0, l_1, l_2, l_3, l_4, l_5, l_6, l_7, l_8, l_9, l_10, l_11, l_12, l_13, l_14, l_15, l_16, l_17, l_18, l_19, l_20, l_21, l_22, l_23, l_24, l_25, l_26, l_27, l_28, l_29, l_30, l_31, l_32, l_33, l_34, l_35, l_36, l_37, l_38, l_39, l_40, l_41, l_42, l_43, l_44, l_45, l_46, l_47, l_48, l_49, l_50, l_51, l_52, l_53, l_54, l_55, l_56, l_57, l_59, l_60, l_61, l_62, l_63, l_64, l_65, l_80, l_86, l_87, l_88, l_89, l_90, l_91, l_92, l_93, l_94, l_95, l_97, l_99, l_100, l_107, l_119, l_122, l_124, l_129, l_140, l_141, l_142, l_143, l_144, l_145, l_147, l_150, l_159, l_160, l_161, l_162, l_205, l_253, l_255, l_256, l_269, l_305, l_380, l_399, l_400, l_420, l_430, l_516, l_600, l_720, l_820, l_905, l_921, l_937, l_953, l_970, l_999, l_1000, l_1790, l_4096, l_9999, l_1000000]
    · have ih := ih (i+1) (by omega) (by omega)
      have e : z_ex (fun k => e0.testBit k && (H k).testBit m) (i+1) = (z_ex (fun k => e0.testBit k && (H k).testBit m) i || (e0.testBit i && (H i).testBit m)) := rfl
      obtain ⟨g1, g2⟩ := hH i (by omega)
      have eb := z_bb (a := e0) (b := H i) (k := i) (m := m) (by omega) (by omega) (by omega) (by omega)
      rw [e, ← Bool.or_assoc] at ih
      rw [← ih, f_X12_row_L75]
      cases q : (init || z_ex (fun k => e0.testBit k && (H k).testBit m) i) with
      | true =>
        have ez : z_fb true = nI 1 := rfl
        rw [Bool.true_or, ez]
        simp (disch := omega) only [↓reduceIte, ↓p_ld, ↓p_st, ↓p_nm, ↓p_nS, ↓p_jn, ↓p_call, ↓p_callv, ↓p_dv, ↓p_rem, h_ldE, h_stE, h_nmE, h_nSE, h_callE, h_callvE, h_dvE, h_remE, if_true, if_false, z_upS, z_upO, z_upK, nI_add, z_mul, z_sub, z_div, Nat.add_zero, Nat.mul_zero, Nat.zero_add, Nat.sub_zero, Nat.zero_mul, z_ltT, z_ltF, z_leT, z_leF, z_eqT, z_eqF, z_inT, z_clT, not_true_eq_false, not_false_eq_true, eq_self, true_or, or_true, z_m_lt, z_m_le, z_lt_m, z_le_m, z_eq_m, z_m_eq, z_rz0, z_rz1, z_m_add, z_of, r_157_0, r_157_1, r_157_2, r_157_3, r_157_6, r_157_7, r_157_8, r_157_9, r_157_10, r_157_11, r_157_27, r_157_28, r_157_29, r_157_30, ↓z_m1, l_0, l_1, l_2, l_3, l_4, l_5, l_6, l_7, l_8, l_9, l_10, l_11, l_12, l_13, l_14, l_15, l_16, l_17, l_18, l_19, l_20, l_21, l_22, l_23, l_24, l_25, l_26, l_27, l_28, l_29, l_30, l_31, l_32, l_33, l_34, l_35, l_36, l_37, l_38, l_39, l_40, l_41, l_42, l_43, l_44, l_45, l_46, l_47, l_48, l_49, l_50, l_51, l_52, l_53, l_54, l_55, l_56, l_57, l_59, l_60, l_61, l_62, l_63, l_64, l_65, l_80, l_86, l_87, l_88, l_89, l_90, l_91, l_92, l_93, l_94, l_95, l_97, l_99, l_100, l_107, l_119, l_122, l_124, l_129, l_140, l_141, l_142, l_143, l_144, l_145, l_147, l_150, l_159, l_160, l_161, l_162, l_205, l_253, l_255, l_256, l_269, l_305, l_380, l_399, l_400, l_420, l_430, l_516, l_600, l_720, l_820, l_905, l_921, l_937, l_953, l_970, l_999, l_1000, l_1790, l_4096, l_9999, l_1000000]
      | false =>
        have ez : z_fb false = nI 0 := rfl
        have ez1 : z_fb true = nI 1 := rfl
        rw [Bool.false_or]
        cases q2 : (e0.testBit i && (H i).testBit m) with
        | true =>
          rw [q2, if_pos rfl] at eb
          rw [ez, ez1]
          simp (disch := omega) only [hV, he, g1, eb, ↓reduceIte, ↓p_ld, ↓p_st, ↓p_nm, ↓p_nS, ↓p_jn, ↓p_call, ↓p_callv, ↓p_dv, ↓p_rem, h_ldE, h_stE, h_nmE, h_nSE, h_callE, h_callvE, h_dvE, h_remE, if_true, if_false, z_upS, z_upO, z_upK, nI_add, z_mul, z_sub, z_div, Nat.add_zero, Nat.mul_zero, Nat.zero_add, Nat.sub_zero, Nat.zero_mul, z_ltT, z_ltF, z_leT, z_leF, z_eqT, z_eqF, z_inT, z_clT, not_true_eq_false, not_false_eq_true, eq_self, true_or, or_true, z_m_lt, z_m_le, z_lt_m, z_le_m, z_eq_m, z_m_eq, z_rz0, z_rz1, z_m_add, z_of, r_157_0, r_157_1, r_157_2, r_157_3, r_157_6, r_157_7, r_157_8, r_157_9, r_157_10, r_157_11, r_157_27, r_157_28, r_157_29, r_157_30, ↓z_m1, l_0, l_1, l_2, l_3, l_4, l_5, l_6, l_7, l_8, l_9, l_10, l_11, l_12, l_13, l_14, l_15, l_16, l_17, l_18, l_19, l_20, l_21, l_22, l_23, l_24, l_25, l_26, l_27, l_28, l_29, l_30, l_31, l_32, l_33, l_34, l_35, l_36, l_37, l_38, l_39, l_40, l_41, l_42, l_43, l_44, l_45, l_46, l_47, l_48, l_49, l_50, l_51, l_52, l_53, l_54, l_55, l_56, l_57, l_59, l_60, l_61, l_62, l_63, l_64, l_65, l_80, l_86, l_87, l_88, l_89, l_90, l_91, l_92, l_93, l_94, l_95, l_97, l_99, l_100, l_107, l_119, l_122, l_124, l_129, l_140, l_141, l_142, l_143, l_144, l_145, l_147, l_150, l_159, l_160, l_161, l_162, l_205, l_253, l_255, l_256, l_269, l_305, l_380, l_399, l_400, l_420, l_430, l_516, l_600, l_720, l_820, l_905, l_921, l_937, l_953, l_970, l_999, l_1000, l_1790, l_4096, l_9999, l_1000000]
        | false =>
          rw [q2, if_neg (by decide)] at eb
          rw [ez]
          simp (disch := omega) only [hV, he, g1, eb, ↓reduceIte, ↓p_ld, ↓p_st, ↓p_nm, ↓p_nS, ↓p_jn, ↓p_call, ↓p_callv, ↓p_dv, ↓p_rem, h_ldE, h_stE, h_nmE, h_nSE, h_callE, h_callvE, h_dvE, h_remE, if_true, if_false, z_upS, z_upO, z_upK, nI_add, z_mul, z_sub, z_div, Nat.add_zero, Nat.mul_zero, Nat.zero_add, Nat.sub_zero, Nat.zero_mul, z_ltT, z_ltF, z_leT, z_leF, z_eqT, z_eqF, z_inT, z_clT, not_true_eq_false, not_false_eq_true, eq_self, true_or, or_true, z_m_lt, z_m_le, z_lt_m, z_le_m, z_eq_m, z_m_eq, z_rz0, z_rz1, z_m_add, z_of, r_157_0, r_157_1, r_157_2, r_157_3, r_157_6, r_157_7, r_157_8, r_157_9, r_157_10, r_157_11, r_157_27, r_157_28, r_157_29, r_157_30, ↓z_m1, l_0, l_1, l_2, l_3, l_4, l_5, l_6, l_7, l_8, l_9, l_10, l_11, l_12, l_13, l_14, l_15, l_16, l_17, l_18, l_19, l_20, l_21, l_22, l_23, l_24, l_25, l_26, l_27, l_28, l_29, l_30, l_31, l_32, l_33, l_34, l_35, l_36, l_37, l_38, l_39, l_40, l_41, l_42, l_43, l_44, l_45, l_46, l_47, l_48, l_49, l_50, l_51, l_52, l_53, l_54, l_55, l_56, l_57, l_59, l_60, l_61, l_62, l_63, l_64, l_65, l_80, l_86, l_87, l_88, l_89, l_90, l_91, l_92, l_93, l_94, l_95, l_97, l_99, l_100, l_107, l_119, l_122, l_124, l_129, l_140, l_141, l_142, l_143, l_144, l_145, l_147, l_150, l_159, l_160, l_161, l_162, l_205, l_253, l_255, l_256, l_269, l_305, l_380, l_399, l_400, l_420, l_430, l_516, l_600, l_720, l_820, l_905, l_921, l_937, l_953, l_970, l_999, l_1000, l_1790, l_4096, l_9999, l_1000000]
theorem m_ends_L {mu s : Nat} {x2 : Int32} {H : Nat → Nat} {V : Nat → Int32} {σ : q_Sto} {K : Int32 → q_Sto → Option (Int32 × q_Sto)} (hV : σ 158 = V) (hmu : mu ≤ 12) (hs : s < 4096) (hH : ∀ k, k < 12 → V (129+k) = nI (H k) ∧ H k < 4096)
    (hT : ∀ y, y < s → σ 170 y = nI (z_ES H mu y)) : ∀ j i, i ≤ mu → mu < j + i →
    f_X12_row_L32 q_F 157 (nI mu) x2 (nI s) K j (nI (z_set (z_ep H mu s) i)) (nI i) σ = K (nI (z_set (z_ep H mu s) mu)) σ := by
  intro j
  induction j with
  | zero => intro i h1 h2; omega
  | succ j ih =>
    intro i h1 h2
    by_cases hi : i = mu
    · subst hi
      generalize z_set (z_ep H i s) i = y
      rw [f_X12_row_L32]
      simp (disch := omega) only [↓reduceIte, ↓p_ld, ↓p_st, ↓p_nm, ↓p_nS, ↓p_jn, ↓p_call, ↓p_callv, ↓p_dv, ↓p_rem, h_ldE, h_stE, h_nmE, h_nSE, h_callE, h_callvE, h_dvE, h_remE, if_true, if_false, z_upS, z_upO, z_upK, nI_add, z_mul, z_sub, z_div, Nat.add_zero, Nat.mul_zero, Nat.zero_add, Nat.sub_zero, Nat.zero_mul, z_ltT, z_ltF, z_leT, z_leF, z_eqT, z_eqF, z_inT, z_clT, not_true_eq_false, not_false_eq_true, eq_self, true_or, or_true, z_m_lt, z_m_le, z_lt_m, z_le_m, z_eq_m, z_m_eq, z_rz0, z_rz1, z_m_add, z_of, r_157_0, r_157_1, r_157_2, r_157_3, r_157_6, r_157_7, r_157_8, r_157_9, r_157_10, r_157_11, r_157_27, r_157_28, r_157_29, r_157_30, ↓z_m1, l_0, l_1, l_2, l_3, l_4, l_5, l_6, l_7, l_8, l_9, l_10, l_11, l_12, l_13, l_14, l_15, l_16, l_17, l_18, l_19, l_20, l_21, l_22, l_23, l_24, l_25, l_26, l_27, l_28, l_29, l_30, l_31, l_32, l_33, l_34, l_35, l_36, l_37, l_38, l_39, l_40, l_41, l_42, l_43, l_44, l_45, l_46, l_47, l_48, l_49, l_50, l_51, l_52, l_53, l_54, l_55, l_56, l_57, l_59, l_60, l_61, l_62, l_63, l_64, l_65, l_80, l_86, l_87, l_88, l_89, l_90, l_91, l_92, l_93, l_94, l_95, l_97, l_99, l_100, l_107, l_119, l_122, l_124, l_129, l_140, l_141, l_142, l_143, l_144, l_145, l_147, l_150, l_159, l_160, l_161, l_162, l_205, l_253, l_255, l_256, l_269, l_305, l_380, l_399, l_400, l_420, l_430, l_516, l_600, l_720, l_820, l_905, l_921, l_937, l_953, l_970, l_999, l_1000, l_1790, l_4096, l_9999, l_1000000]
    · have ih := ih (i+1) (by omega) (by omega)
      have eb := z_bitE (a := s) (m := i) (by omega) (by omega)
      unfold z_bit at eb
      have esh := z_shl (m := i) (by omega)
      have hp := z_set_lt12 (z_ep H mu s) (show i ≤ 12 by omega)
      by_cases q : s.testBit i = true
      · rw [if_pos q] at eb
        have ea : nI s &&& (nI (2 ^ i) ^^^ z_m) = nI (s &&& (2 ^ i ^^^ 4095)) := z_andn12 (by omega)
        have hlt := z_dl_lt (show i < 12 by omega) hs q
        have hTr := hT _ hlt
        have hE : z_ES H mu (s &&& (2 ^ i ^^^ 4095)) < 4096 := by rw [z_ES_eq hmu (by omega)]; exact z_set_lt12 _ hmu
        have eo : z_ep H mu s i = (decide (s &&& (2 ^ i ^^^ 4095) = 0) || z_ex (fun k => (z_ES H mu (s &&& (2 ^ i ^^^ 4095))).testBit k && (H k).testBit i) mu) := by
          show (s.testBit i && _) = _
          rw [q, Bool.true_and]
        generalize s &&& (2 ^ i ^^^ 4095) = r at *
        have key := m_flag_L (n := q_F) (x2 := x2) (x3 := nI s) (x4 := nI (z_set (z_ep H mu s) i)) (init := decide (r = 0)) (K := (fun (y13 : Int32) (s14 : q_Sto) =>
    if y13 = 0 then (
    q_nm (nI (z_set (z_ep H mu s) i) ||| 0) fun v16 =>
    f_X12_row_L32 q_F 157 (nI mu) x2 (nI s) K j v16 (nI i + 1) s14)
    else (
    q_nm (nI (z_set (z_ep H mu s) i) ||| (1 <<< (nI i &&& 31))) fun v17 =>
    f_X12_row_L32 q_F 157 (nI mu) x2 (nI s) K j v17 (nI i + 1) s14))) hV hmu (show i < 12 by omega) (show r < 4096 by omega) hH hTr hE q_F 0 (Nat.zero_le _) (by unfold q_F; omega)
        have e00 : z_ex (fun k => (z_ES H mu r).testBit k && (H k).testBit i) 0 = false := rfl
        rw [← eo, e00, Bool.or_false] at key
        have e01 : ∀ a, nI a ||| nI 0 = nI a := fun a => by rw [z_or, Nat.or_zero]
        have fin : f_X12_row_L32 q_F 157 (nI mu) x2 (nI s) K (j+1) (nI (z_set (z_ep H mu s) i)) (nI i) σ = f_X12_row_L75 q_F 157 (nI mu) x2 (nI s) (nI (z_set (z_ep H mu s) i)) (nI i) (nI r) (fun (y13 : Int32) (s14 : q_Sto) =>
    if y13 = 0 then (
    q_nm (nI (z_set (z_ep H mu s) i) ||| 0) fun v16 =>
    f_X12_row_L32 q_F 157 (nI mu) x2 (nI s) K j v16 (nI i + 1) s14)
    else (
    q_nm (nI (z_set (z_ep H mu s) i) ||| (1 <<< (nI i &&& 31))) fun v17 =>
    f_X12_row_L32 q_F 157 (nI mu) x2 (nI s) K j v17 (nI i + 1) s14)) q_F (z_fb (decide (r = 0))) (nI 0) σ := by
          rw [f_X12_row_L32]
          generalize z_set (z_ep H mu s) i = v at *
          by_cases q0 : r = 0
          · subst q0
            have ez : z_fb (decide (0 = 0)) = nI 1 := by rw [decide_eq_true (rfl : 0 = 0)]; rfl
            rw [ez]
            simp (disch := omega) only [eb, esh, ea, ↓reduceIte, ↓p_ld, ↓p_st, ↓p_nm, ↓p_nS, ↓p_jn, ↓p_call, ↓p_callv, ↓p_dv, ↓p_rem, h_ldE, h_stE, h_nmE, h_nSE, h_callE, h_callvE, h_dvE, h_remE, if_true, if_false, z_upS, z_upO, z_upK, nI_add, z_mul, z_sub, z_div, Nat.add_zero, Nat.mul_zero, Nat.zero_add, Nat.sub_zero, Nat.zero_mul, z_ltT, z_ltF, z_leT, z_leF, z_eqT, z_eqF, z_inT, z_clT, not_true_eq_false, not_false_eq_true, eq_self, true_or, or_true, z_m_lt, z_m_le, z_lt_m, z_le_m, z_eq_m, z_m_eq, z_rz0, z_rz1, z_m_add, z_of, r_157_0, r_157_1, r_157_2, r_157_3, r_157_6, r_157_7, r_157_8, r_157_9, r_157_10, r_157_11, r_157_27, r_157_28, r_157_29, r_157_30, ↓z_m1, l_0, l_1, l_2, l_3, l_4, l_5, l_6, l_7, l_8, l_9, l_10, l_11, l_12, l_13, l_14, l_15, l_16, l_17, l_18, l_19, l_20, l_21, l_22, l_23, l_24, l_25, l_26, l_27, l_28, l_29, l_30, l_31, l_32, l_33, l_34, l_35, l_36, l_37, l_38, l_39, l_40, l_41, l_42, l_43, l_44, l_45, l_46, l_47, l_48, l_49, l_50, l_51, l_52, l_53, l_54, l_55, l_56, l_57, l_59, l_60, l_61, l_62, l_63, l_64, l_65, l_80, l_86, l_87, l_88, l_89, l_90, l_91, l_92, l_93, l_94, l_95, l_97, l_99, l_100, l_107, l_119, l_122, l_124, l_129, l_140, l_141, l_142, l_143, l_144, l_145, l_147, l_150, l_159, l_160, l_161, l_162, l_205, l_253, l_255, l_256, l_269, l_305, l_380, l_399, l_400, l_420, l_430, l_516, l_600, l_720, l_820, l_905, l_921, l_937, l_953, l_970, l_999, l_1000, l_1790, l_4096, l_9999, l_1000000]
          · have ez : z_fb (decide (r = 0)) = nI 0 := by rw [decide_eq_false q0]; rfl
            rw [ez]
            simp (disch := omega) only [eb, esh, ea, ↓reduceIte, ↓p_ld, ↓p_st, ↓p_nm, ↓p_nS, ↓p_jn, ↓p_call, ↓p_callv, ↓p_dv, ↓p_rem, h_ldE, h_stE, h_nmE, h_nSE, h_callE, h_callvE, h_dvE, h_remE, if_true, if_false, z_upS, z_upO, z_upK, nI_add, z_mul, z_sub, z_div, Nat.add_zero, Nat.mul_zero, Nat.zero_add, Nat.sub_zero, Nat.zero_mul, z_ltT, z_ltF, z_leT, z_leF, z_eqT, z_eqF, z_inT, z_clT, not_true_eq_false, not_false_eq_true, eq_self, true_or, or_true, z_m_lt, z_m_le, z_lt_m, z_le_m, z_eq_m, z_m_eq, z_rz0, z_rz1, z_m_add, z_of, r_157_0, r_157_1, r_157_2, r_157_3, r_157_6, r_157_7, r_157_8, r_157_9, r_157_10, r_157_11, r_157_27, r_157_28, r_157_29, r_157_30, ↓z_m1, l_0, l_1, l_2, l_3, l_4, l_5, l_6, l_7, l_8, l_9, l_10, l_11, l_12, l_13, l_14, l_15, l_16, l_17, l_18, l_19, l_20, l_21, l_22, l_23, l_24, l_25, l_26, l_27, l_28, l_29, l_30, l_31, l_32, l_33, l_34, l_35, l_36, l_37, l_38, l_39, l_40, l_41, l_42, l_43, l_44, l_45, l_46, l_47, l_48, l_49, l_50, l_51, l_52, l_53, l_54, l_55, l_56, l_57, l_59, l_60, l_61, l_62, l_63, l_64, l_65, l_80, l_86, l_87, l_88, l_89, l_90, l_91, l_92, l_93, l_94, l_95, l_97, l_99, l_100, l_107, l_119, l_122, l_124, l_129, l_140, l_141, l_142, l_143, l_144, l_145, l_147, l_150, l_159, l_160, l_161, l_162, l_205, l_253, l_255, l_256, l_269, l_305, l_380, l_399, l_400, l_420, l_430, l_516, l_600, l_720, l_820, l_905, l_921, l_937, l_953, l_970, l_999, l_1000, l_1790, l_4096, l_9999, l_1000000]
        rw [fin, key, ← ih]
        cases qe : z_ep H mu s i with
        | true =>
          have ez : z_fb true = nI 1 := rfl
          rw [z_setT qe, ez]
          generalize z_set (z_ep H mu s) i = v at *
          simp (disch := omega) only [esh, z_or, ↓reduceIte, ↓p_ld, ↓p_st, ↓p_nm, ↓p_nS, ↓p_jn, ↓p_call, ↓p_callv, ↓p_dv, ↓p_rem, h_ldE, h_stE, h_nmE, h_nSE, h_callE, h_callvE, h_dvE, h_remE, if_true, if_false, z_upS, z_upO, z_upK, nI_add, z_mul, z_sub, z_div, Nat.add_zero, Nat.mul_zero, Nat.zero_add, Nat.sub_zero, Nat.zero_mul, z_ltT, z_ltF, z_leT, z_leF, z_eqT, z_eqF, z_inT, z_clT, not_true_eq_false, not_false_eq_true, eq_self, true_or, or_true, z_m_lt, z_m_le, z_lt_m, z_le_m, z_eq_m, z_m_eq, z_rz0, z_rz1, z_m_add, z_of, r_157_0, r_157_1, r_157_2, r_157_3, r_157_6, r_157_7, r_157_8, r_157_9, r_157_10, r_157_11, r_157_27, r_157_28, r_157_29, r_157_30, ↓z_m1, l_0, l_1, l_2, l_3, l_4, l_5, l_6, l_7, l_8, l_9, l_10, l_11, l_12, l_13, l_14, l_15, l_16, l_17, l_18, l_19, l_20, l_21, l_22, l_23, l_24, l_25, l_26, l_27, l_28, l_29, l_30, l_31, l_32, l_33, l_34, l_35, l_36, l_37, l_38, l_39, l_40, l_41, l_42, l_43, l_44, l_45, l_46, l_47, l_48, l_49, l_50, l_51, l_52, l_53, l_54, l_55, l_56, l_57, l_59, l_60, l_61, l_62, l_63, l_64, l_65, l_80, l_86, l_87, l_88, l_89, l_90, l_91, l_92, l_93, l_94, l_95, l_97, l_99, l_100, l_107, l_119, l_122, l_124, l_129, l_140, l_141, l_142, l_143, l_144, l_145, l_147, l_150, l_159, l_160, l_161, l_162, l_205, l_253, l_255, l_256, l_269, l_305, l_380, l_399, l_400, l_420, l_430, l_516, l_600, l_720, l_820, l_905, l_921, l_937, l_953, l_970, l_999, l_1000, l_1790, l_4096, l_9999, l_1000000]
        | false =>
          have ez : z_fb false = nI 0 := rfl
          rw [z_setF (by rw [qe]; decide), ez]
          generalize z_set (z_ep H mu s) i = v at *
          simp (disch := omega) only [e01, ↓reduceIte, ↓p_ld, ↓p_st, ↓p_nm, ↓p_nS, ↓p_jn, ↓p_call, ↓p_callv, ↓p_dv, ↓p_rem, h_ldE, h_stE, h_nmE, h_nSE, h_callE, h_callvE, h_dvE, h_remE, if_true, if_false, z_upS, z_upO, z_upK, nI_add, z_mul, z_sub, z_div, Nat.add_zero, Nat.mul_zero, Nat.zero_add, Nat.sub_zero, Nat.zero_mul, z_ltT, z_ltF, z_leT, z_leF, z_eqT, z_eqF, z_inT, z_clT, not_true_eq_false, not_false_eq_true, eq_self, true_or, or_true, z_m_lt, z_m_le, z_lt_m, z_le_m, z_eq_m, z_m_eq, z_rz0, z_rz1, z_m_add, z_of, r_157_0, r_157_1, r_157_2, r_157_3, r_157_6, r_157_7, r_157_8, r_157_9, r_157_10, r_157_11, r_157_27, r_157_28, r_157_29, r_157_30, ↓z_m1, l_0, l_1, l_2, l_3, l_4, l_5, l_6, l_7, l_8, l_9, l_10, l_11, l_12, l_13, l_14, l_15, l_16, l_17, l_18, l_19, l_20, l_21, l_22, l_23, l_24, l_25, l_26, l_27, l_28, l_29, l_30, l_31, l_32, l_33, l_34, l_35, l_36, l_37, l_38, l_39, l_40, l_41, l_42, l_43, l_44, l_45, l_46, l_47, l_48, l_49, l_50, l_51, l_52, l_53, l_54, l_55, l_56, l_57, l_59, l_60, l_61, l_62, l_63, l_64, l_65, l_80, l_86, l_87, l_88, l_89, l_90, l_91, l_92, l_93, l_94, l_95, l_97, l_99, l_100, l_107, l_119, l_122, l_124, l_129, l_140, l_141, l_142, l_143, l_144, l_145, l_147, l_150, l_159, l_160, l_161, l_162, l_205, l_253, l_255, l_256, l_269, l_305, l_380, l_399, l_400, l_420, l_430, l_516, l_600, l_720, l_820, l_905, l_921, l_937, l_953, l_970, l_999, l_1000, l_1790, l_4096, l_9999, l_1000000]
      · rw [if_neg q] at eb
        have eo : z_ep H mu s i = false := by
          have q : s.testBit i = false := by cases h : s.testBit i with | false => rfl | true => exact absurd h q
          show (s.testBit i && _) = _
          rw [q, Bool.false_and]
        rw [z_setF (by rw [eo]; decide)] at ih
        rw [← ih, f_X12_row_L32]
        generalize z_set (z_ep H mu s) i = v at *
        simp (disch := omega) only [eb, ↓reduceIte, ↓p_ld, ↓p_st, ↓p_nm, ↓p_nS, ↓p_jn, ↓p_call, ↓p_callv, ↓p_dv, ↓p_rem, h_ldE, h_stE, h_nmE, h_nSE, h_callE, h_callvE, h_dvE, h_remE, if_true, if_false, z_upS, z_upO, z_upK, nI_add, z_mul, z_sub, z_div, Nat.add_zero, Nat.mul_zero, Nat.zero_add, Nat.sub_zero, Nat.zero_mul, z_ltT, z_ltF, z_leT, z_leF, z_eqT, z_eqF, z_inT, z_clT, not_true_eq_false, not_false_eq_true, eq_self, true_or, or_true, z_m_lt, z_m_le, z_lt_m, z_le_m, z_eq_m, z_m_eq, z_rz0, z_rz1, z_m_add, z_of, r_157_0, r_157_1, r_157_2, r_157_3, r_157_6, r_157_7, r_157_8, r_157_9, r_157_10, r_157_11, r_157_27, r_157_28, r_157_29, r_157_30, ↓z_m1, l_0, l_1, l_2, l_3, l_4, l_5, l_6, l_7, l_8, l_9, l_10, l_11, l_12, l_13, l_14, l_15, l_16, l_17, l_18, l_19, l_20, l_21, l_22, l_23, l_24, l_25, l_26, l_27, l_28, l_29, l_30, l_31, l_32, l_33, l_34, l_35, l_36, l_37, l_38, l_39, l_40, l_41, l_42, l_43, l_44, l_45, l_46, l_47, l_48, l_49, l_50, l_51, l_52, l_53, l_54, l_55, l_56, l_57, l_59, l_60, l_61, l_62, l_63, l_64, l_65, l_80, l_86, l_87, l_88, l_89, l_90, l_91, l_92, l_93, l_94, l_95, l_97, l_99, l_100, l_107, l_119, l_122, l_124, l_129, l_140, l_141, l_142, l_143, l_144, l_145, l_147, l_150, l_159, l_160, l_161, l_162, l_205, l_253, l_255, l_256, l_269, l_305, l_380, l_399, l_400, l_420, l_430, l_516, l_600, l_720, l_820, l_905, l_921, l_937, l_953, l_970, l_999, l_1000, l_1790, l_4096, l_9999, l_1000000]
/-- the longest so far -/
def z_lr (H : Nat → Nat) (mu : Nat) : Nat → Nat
  | 0 => 0
  | s + 1 => if z_ES H mu s = 0 then z_lr H mu s else max (z_lr H mu s) (z_cnt s 12)
theorem z_lr_le {H : Nat → Nat} {mu : Nat} : ∀ s, z_lr H mu s ≤ 12
  | 0 => Nat.zero_le _
  | s + 1 => z_ite_le (z_lr_le s) (Nat.max_le.mpr ⟨z_lr_le s, z_cnt_le _ _⟩)
theorem m_row_L {mu N : Nat} {H : Nat → Nat} {V : Nat → Int32} (hmu : mu ≤ 12) (es : nI 1 <<< (nI mu &&& nI 31) = nI N) (hN : N ≤ 4096) (hH : ∀ k, k < 12 → V (129+k) = nI (H k) ∧ H k < 4096) : ∀ j s (σ : q_Sto), s ≤ N → N < j + s → σ 158 = V → (∀ y, y < s → σ 170 y = nI (z_ES H mu y)) →
    ∃ σ', (∀ o, o ≠ 170 → σ' o = σ o) ∧ f_X12_row_L19 q_F 157 (nI mu) j (nI (z_lr H mu s)) (nI s) σ = some (nI (z_lr H mu N), σ') := by
  intro j
  induction j with
  | zero => intro s σ h1 h2; omega
  | succ j ih =>
    intro s σ h1 h2 hV hT
    by_cases hi : s = N
    · subst hi
      refine ⟨σ, fun _ _ => rfl, ?_⟩
      generalize z_lr H mu s = y
      rw [f_X12_row_L19]
      simp (disch := omega) only [es, ↓reduceIte, ↓p_ld, ↓p_st, ↓p_nm, ↓p_nS, ↓p_jn, ↓p_call, ↓p_callv, ↓p_dv, ↓p_rem, h_ldE, h_stE, h_nmE, h_nSE, h_callE, h_callvE, h_dvE, h_remE, if_true, if_false, z_upS, z_upO, z_upK, nI_add, z_mul, z_sub, z_div, Nat.add_zero, Nat.mul_zero, Nat.zero_add, Nat.sub_zero, Nat.zero_mul, z_ltT, z_ltF, z_leT, z_leF, z_eqT, z_eqF, z_inT, z_clT, not_true_eq_false, not_false_eq_true, eq_self, true_or, or_true, z_m_lt, z_m_le, z_lt_m, z_le_m, z_eq_m, z_m_eq, z_rz0, z_rz1, z_m_add, z_of, r_157_0, r_157_1, r_157_2, r_157_3, r_157_6, r_157_7, r_157_8, r_157_9, r_157_10, r_157_11, r_157_27, r_157_28, r_157_29, r_157_30, ↓z_m1, l_0, l_1, l_2, l_3, l_4, l_5, l_6, l_7, l_8, l_9, l_10, l_11, l_12, l_13, l_14, l_15, l_16, l_17, l_18, l_19, l_20, l_21, l_22, l_23, l_24, l_25, l_26, l_27, l_28, l_29, l_30, l_31, l_32, l_33, l_34, l_35, l_36, l_37, l_38, l_39, l_40, l_41, l_42, l_43, l_44, l_45, l_46, l_47, l_48, l_49, l_50, l_51, l_52, l_53, l_54, l_55, l_56, l_57, l_59, l_60, l_61, l_62, l_63, l_64, l_65, l_80, l_86, l_87, l_88, l_89, l_90, l_91, l_92, l_93, l_94, l_95, l_97, l_99, l_100, l_107, l_119, l_122, l_124, l_129, l_140, l_141, l_142, l_143, l_144, l_145, l_147, l_150, l_159, l_160, l_161, l_162, l_205, l_253, l_255, l_256, l_269, l_305, l_380, l_399, l_400, l_420, l_430, l_516, l_600, l_720, l_820, l_905, l_921, l_937, l_953, l_970, l_999, l_1000, l_1790, l_4096, l_9999, l_1000000]
    · obtain ⟨σ', k1, k2⟩ := ih (s+1) (q_up σ 170 s (nI (z_ES H mu s))) (by omega) (by omega) (by rw [z_upO (by omega)]; exact hV) (fun y hy => by
        by_cases q : y = s
        · subst q; exact z_upS
        · rw [z_upK q]; exact hT y (by omega))
      refine ⟨σ', fun o ho => by rw [k1 o ho, z_upO ho], ?_⟩
      have key := m_ends_L (x2 := nI (z_lr H mu s)) (K := (fun (y28 : Int32) (s29 : q_Sto) =>
    q_st s29 (q_RF 157 29) (nI s) 4096 y28 fun s30 =>
    if y28 = 0 then (
    f_X12_row_L19 q_F 157 (nI mu) j (nI (z_lr H mu s)) (nI s + 1) s30)
    else (
    q_call (f_X12_count q_F (nI s) s30) fun r33 s32 =>
    q_call (f_X12_greater q_F (nI (z_lr H mu s)) r33 s32) fun r35 s34 =>
    f_X12_row_L19 q_F 157 (nI mu) j r35 (nI s + 1) s34))) hV hmu (show s < 4096 by omega) hH hT q_F 0 (Nat.zero_le _) (by unfold q_F; omega)
      have e0 : z_set (z_ep H mu s) 0 = 0 := rfl
      rw [e0, ← z_ES_eq hmu (by omega)] at key
      have hE : z_ES H mu s < 4096 := by rw [z_ES_eq hmu (by omega)]; exact z_set_lt12 _ hmu
      have e : z_lr H mu (s+1) = if z_ES H mu s = 0 then z_lr H mu s else max (z_lr H mu s) (z_cnt s 12) := rfl
      have fin : f_X12_row_L19 q_F 157 (nI mu) (j+1) (nI (z_lr H mu s)) (nI s) σ = f_X12_row_L32 q_F 157 (nI mu) (nI (z_lr H mu s)) (nI s) (fun (y28 : Int32) (s29 : q_Sto) =>
    q_st s29 (q_RF 157 29) (nI s) 4096 y28 fun s30 =>
    if y28 = 0 then (
    f_X12_row_L19 q_F 157 (nI mu) j (nI (z_lr H mu s)) (nI s + 1) s30)
    else (
    q_call (f_X12_count q_F (nI s) s30) fun r33 s32 =>
    q_call (f_X12_greater q_F (nI (z_lr H mu s)) r33 s32) fun r35 s34 =>
    f_X12_row_L19 q_F 157 (nI mu) j r35 (nI s + 1) s34)) q_F (nI 0) (nI 0) σ := by
        rw [f_X12_row_L19]
        generalize z_lr H mu s = y
        simp (disch := omega) only [es, ↓reduceIte, ↓p_ld, ↓p_st, ↓p_nm, ↓p_nS, ↓p_jn, ↓p_call, ↓p_callv, ↓p_dv, ↓p_rem, h_ldE, h_stE, h_nmE, h_nSE, h_callE, h_callvE, h_dvE, h_remE, if_true, if_false, z_upS, z_upO, z_upK, nI_add, z_mul, z_sub, z_div, Nat.add_zero, Nat.mul_zero, Nat.zero_add, Nat.sub_zero, Nat.zero_mul, z_ltT, z_ltF, z_leT, z_leF, z_eqT, z_eqF, z_inT, z_clT, not_true_eq_false, not_false_eq_true, eq_self, true_or, or_true, z_m_lt, z_m_le, z_lt_m, z_le_m, z_eq_m, z_m_eq, z_rz0, z_rz1, z_m_add, z_of, r_157_0, r_157_1, r_157_2, r_157_3, r_157_6, r_157_7, r_157_8, r_157_9, r_157_10, r_157_11, r_157_27, r_157_28, r_157_29, r_157_30, ↓z_m1, l_0, l_1, l_2, l_3, l_4, l_5, l_6, l_7, l_8, l_9, l_10, l_11, l_12, l_13, l_14, l_15, l_16, l_17, l_18, l_19, l_20, l_21, l_22, l_23, l_24, l_25, l_26, l_27, l_28, l_29, l_30, l_31, l_32, l_33, l_34, l_35, l_36, l_37, l_38, l_39, l_40, l_41, l_42, l_43, l_44, l_45, l_46, l_47, l_48, l_49, l_50, l_51, l_52, l_53, l_54, l_55, l_56, l_57, l_59, l_60, l_61, l_62, l_63, l_64, l_65, l_80, l_86, l_87, l_88, l_89, l_90, l_91, l_92, l_93, l_94, l_95, l_97, l_99, l_100, l_107, l_119, l_122, l_124, l_129, l_140, l_141, l_142, l_143, l_144, l_145, l_147, l_150, l_159, l_160, l_161, l_162, l_205, l_253, l_255, l_256, l_269, l_305, l_380, l_399, l_400, l_420, l_430, l_516, l_600, l_720, l_820, l_905, l_921, l_937, l_953, l_970, l_999, l_1000, l_1790, l_4096, l_9999, l_1000000]
      rw [fin, key, ← k2, e]
      have hb := z_lr_le (H := H) (mu := mu) s
      have hc := z_cnt_le s 12
      have ec : ∀ σ : q_Sto, f_X12_count q_F (nI s) σ = some (nI (z_cnt s 12), σ) := fun σ => m_count (by unfold q_F; omega) (by omega)
      have eg : ∀ (y r : Nat) (s : q_Sto), y ≤ 12 → r ≤ 12 → f_X12_greater q_F (nI y) (nI r) s = some (nI (max y r), s) := fun y r s hy hr => by
        unfold f_X12_greater
        by_cases q : y ≤ r
        · rw [show max y r = r by omega]
          simp (disch := omega) only [↓reduceIte, ↓p_ld, ↓p_st, ↓p_nm, ↓p_nS, ↓p_jn, ↓p_call, ↓p_callv, ↓p_dv, ↓p_rem, h_ldE, h_stE, h_nmE, h_nSE, h_callE, h_callvE, h_dvE, h_remE, if_true, if_false, z_upS, z_upO, z_upK, nI_add, z_mul, z_sub, z_div, Nat.add_zero, Nat.mul_zero, Nat.zero_add, Nat.sub_zero, Nat.zero_mul, z_ltT, z_ltF, z_leT, z_leF, z_eqT, z_eqF, z_inT, z_clT, not_true_eq_false, not_false_eq_true, eq_self, true_or, or_true, z_m_lt, z_m_le, z_lt_m, z_le_m, z_eq_m, z_m_eq, z_rz0, z_rz1, z_m_add, z_of, ↓z_m1, l_0, l_1, l_2, l_3, l_4, l_5, l_6, l_7, l_8, l_9, l_10, l_11, l_12, l_13, l_14, l_15, l_16, l_17, l_18, l_19, l_20, l_21, l_22, l_23, l_24, l_25, l_26, l_27, l_28, l_29, l_30, l_31, l_32, l_33, l_34, l_35, l_36, l_37, l_38, l_39, l_40, l_41, l_42, l_43, l_44, l_45, l_46, l_47, l_48, l_49, l_50, l_51, l_52, l_53, l_54, l_55, l_56, l_57, l_59, l_60, l_61, l_62, l_63, l_64, l_65, l_80, l_86, l_87, l_88, l_89, l_90, l_91, l_92, l_93, l_94, l_95, l_97, l_99, l_100, l_107, l_119, l_122, l_124, l_129, l_140, l_141, l_142, l_143, l_144, l_145, l_147, l_150, l_159, l_160, l_161, l_162, l_205, l_253, l_255, l_256, l_269, l_305, l_380, l_399, l_400, l_420, l_430, l_516, l_600, l_720, l_820, l_905, l_921, l_937, l_953, l_970, l_999, l_1000, l_1790, l_4096, l_9999, l_1000000]
        · rw [show max y r = y by omega]
          simp (disch := omega) only [↓reduceIte, ↓p_ld, ↓p_st, ↓p_nm, ↓p_nS, ↓p_jn, ↓p_call, ↓p_callv, ↓p_dv, ↓p_rem, h_ldE, h_stE, h_nmE, h_nSE, h_callE, h_callvE, h_dvE, h_remE, if_true, if_false, z_upS, z_upO, z_upK, nI_add, z_mul, z_sub, z_div, Nat.add_zero, Nat.mul_zero, Nat.zero_add, Nat.sub_zero, Nat.zero_mul, z_ltT, z_ltF, z_leT, z_leF, z_eqT, z_eqF, z_inT, z_clT, not_true_eq_false, not_false_eq_true, eq_self, true_or, or_true, z_m_lt, z_m_le, z_lt_m, z_le_m, z_eq_m, z_m_eq, z_rz0, z_rz1, z_m_add, z_of, ↓z_m1, l_0, l_1, l_2, l_3, l_4, l_5, l_6, l_7, l_8, l_9, l_10, l_11, l_12, l_13, l_14, l_15, l_16, l_17, l_18, l_19, l_20, l_21, l_22, l_23, l_24, l_25, l_26, l_27, l_28, l_29, l_30, l_31, l_32, l_33, l_34, l_35, l_36, l_37, l_38, l_39, l_40, l_41, l_42, l_43, l_44, l_45, l_46, l_47, l_48, l_49, l_50, l_51, l_52, l_53, l_54, l_55, l_56, l_57, l_59, l_60, l_61, l_62, l_63, l_64, l_65, l_80, l_86, l_87, l_88, l_89, l_90, l_91, l_92, l_93, l_94, l_95, l_97, l_99, l_100, l_107, l_119, l_122, l_124, l_129, l_140, l_141, l_142, l_143, l_144, l_145, l_147, l_150, l_159, l_160, l_161, l_162, l_205, l_253, l_255, l_256, l_269, l_305, l_380, l_399, l_400, l_420, l_430, l_516, l_600, l_720, l_820, l_905, l_921, l_937, l_953, l_970, l_999, l_1000, l_1790, l_4096, l_9999, l_1000000]
      generalize z_lr H mu s = y at *
      generalize z_cnt s 12 = cn at *
      generalize z_ES H mu s = E at *
      by_cases q : E = 0
      · subst q
        rw [if_pos rfl]
        simp (disch := omega) only [↓reduceIte, ↓p_ld, ↓p_st, ↓p_nm, ↓p_nS, ↓p_jn, ↓p_call, ↓p_callv, ↓p_dv, ↓p_rem, h_ldE, h_stE, h_nmE, h_nSE, h_callE, h_callvE, h_dvE, h_remE, if_true, if_false, z_upS, z_upO, z_upK, nI_add, z_mul, z_sub, z_div, Nat.add_zero, Nat.mul_zero, Nat.zero_add, Nat.sub_zero, Nat.zero_mul, z_ltT, z_ltF, z_leT, z_leF, z_eqT, z_eqF, z_inT, z_clT, not_true_eq_false, not_false_eq_true, eq_self, true_or, or_true, z_m_lt, z_m_le, z_lt_m, z_le_m, z_eq_m, z_m_eq, z_rz0, z_rz1, z_m_add, z_of, r_157_0, r_157_1, r_157_2, r_157_3, r_157_6, r_157_7, r_157_8, r_157_9, r_157_10, r_157_11, r_157_27, r_157_28, r_157_29, r_157_30, ↓z_m1, l_0, l_1, l_2, l_3, l_4, l_5, l_6, l_7, l_8, l_9, l_10, l_11, l_12, l_13, l_14, l_15, l_16, l_17, l_18, l_19, l_20, l_21, l_22, l_23, l_24, l_25, l_26, l_27, l_28, l_29, l_30, l_31, l_32, l_33, l_34, l_35, l_36, l_37, l_38, l_39, l_40, l_41, l_42, l_43, l_44, l_45, l_46, l_47, l_48, l_49, l_50, l_51, l_52, l_53, l_54, l_55, l_56, l_57, l_59, l_60, l_61, l_62, l_63, l_64, l_65, l_80, l_86, l_87, l_88, l_89, l_90, l_91, l_92, l_93, l_94, l_95, l_97, l_99, l_100, l_107, l_119, l_122, l_124, l_129, l_140, l_141, l_142, l_143, l_144, l_145, l_147, l_150, l_159, l_160, l_161, l_162, l_205, l_253, l_255, l_256, l_269, l_305, l_380, l_399, l_400, l_420, l_430, l_516, l_600, l_720, l_820, l_905, l_921, l_937, l_953, l_970, l_999, l_1000, l_1790, l_4096, l_9999, l_1000000]
      · rw [if_neg q]
        simp (disch := omega) only [ec, eg, ↓reduceIte, ↓p_ld, ↓p_st, ↓p_nm, ↓p_nS, ↓p_jn, ↓p_call, ↓p_callv, ↓p_dv, ↓p_rem, h_ldE, h_stE, h_nmE, h_nSE, h_callE, h_callvE, h_dvE, h_remE, if_true, if_false, z_upS, z_upO, z_upK, nI_add, z_mul, z_sub, z_div, Nat.add_zero, Nat.mul_zero, Nat.zero_add, Nat.sub_zero, Nat.zero_mul, z_ltT, z_ltF, z_leT, z_leF, z_eqT, z_eqF, z_inT, z_clT, not_true_eq_false, not_false_eq_true, eq_self, true_or, or_true, z_m_lt, z_m_le, z_lt_m, z_le_m, z_eq_m, z_m_eq, z_rz0, z_rz1, z_m_add, z_of, r_157_0, r_157_1, r_157_2, r_157_3, r_157_6, r_157_7, r_157_8, r_157_9, r_157_10, r_157_11, r_157_27, r_157_28, r_157_29, r_157_30, ↓z_m1, l_0, l_1, l_2, l_3, l_4, l_5, l_6, l_7, l_8, l_9, l_10, l_11, l_12, l_13, l_14, l_15, l_16, l_17, l_18, l_19, l_20, l_21, l_22, l_23, l_24, l_25, l_26, l_27, l_28, l_29, l_30, l_31, l_32, l_33, l_34, l_35, l_36, l_37, l_38, l_39, l_40, l_41, l_42, l_43, l_44, l_45, l_46, l_47, l_48, l_49, l_50, l_51, l_52, l_53, l_54, l_55, l_56, l_57, l_59, l_60, l_61, l_62, l_63, l_64, l_65, l_80, l_86, l_87, l_88, l_89, l_90, l_91, l_92, l_93, l_94, l_95, l_97, l_99, l_100, l_107, l_119, l_122, l_124, l_129, l_140, l_141, l_142, l_143, l_144, l_145, l_147, l_150, l_159, l_160, l_161, l_162, l_205, l_253, l_255, l_256, l_269, l_305, l_380, l_399, l_400, l_420, l_430, l_516, l_600, l_720, l_820, l_905, l_921, l_937, l_953, l_970, l_999, l_1000, l_1790, l_4096, l_9999, l_1000000]
/-! the longest row: the class -/
/-- the bit m of table y when the sets below s are done -/
def z_tpp (H : Nat → Nat) (mu s y m : Nat) : Bool := y.testBit m && (decide (y &&& (2 ^ m ^^^ 4095) = 0) || (decide (y &&& (2 ^ m ^^^ 4095) < s) && z_ex (fun k => (z_ES H mu (y &&& (2 ^ m ^^^ 4095))).testBit k && (H k).testBit m) mu))
def z_TQ (H : Nat → Nat) (mu s y : Nat) : Nat := z_set (z_tpp H mu s y) mu
theorem z_bf {b : Bool} (h : ¬ b = true) : b = false := by cases b with | false => rfl | true => exact absurd rfl h
theorem z_TQ_E {H : Nat → Nat} {mu y s : Nat} (hmu : mu ≤ 12) (hy : y < 4096) (hs : y ≤ s) : z_TQ H mu s y = z_ES H mu y := by
  rw [z_ES_eq hmu hy]
  unfold z_TQ
  refine z_set_congr (fun m hm => ?_)
  unfold z_tpp z_ep
  by_cases q : y.testBit m = true
  · have hlt := z_dl_lt (show m < 12 by omega) hy q
    rw [decide_eq_true (show y &&& (2 ^ m ^^^ 4095) < s by omega), Bool.true_and]
  · rw [z_bf q, Bool.false_and, Bool.false_and]
theorem z_dlA {y m s : Nat} (hm : m < 12) (hy : y < 4096) (h : y.testBit m = true) (e : y &&& (2 ^ m ^^^ 4095) = s) : y = s ||| 2 ^ m := by
  subst e
  apply Nat.eq_of_testBit_eq
  intro i
  rw [Nat.testBit_or, z_dl hm i hy, Nat.testBit_two_pow]
  by_cases q : i = m
  · subst q; rw [h]; simp
  · have : ¬ m = i := fun h => q h.symm
    simp [q, this]
theorem z_dlB {m s : Nat} (hm : m < 12) (hs : s < 4096) (h : ¬ s.testBit m = true) : (s ||| 2 ^ m) &&& (2 ^ m ^^^ 4095) = s ∧ (s ||| 2 ^ m).testBit m = true ∧ s ||| 2 ^ m < 4096 := by
  have h12 : 2 ^ m < 2 ^ 12 := Nat.pow_lt_pow_right (by omega) hm
  have hlt : s ||| 2 ^ m < 2 ^ 12 := Nat.or_lt_two_pow hs h12
  refine ⟨?_, ?_, hlt⟩
  · apply Nat.eq_of_testBit_eq
    intro i
    rw [z_dl hm i hlt, Nat.testBit_or, Nat.testBit_two_pow]
    by_cases q : i = m
    · subst q; rw [z_bf h]; simp
    · have : ¬ m = i := fun h => q h.symm
      simp [q, this]
  · rw [Nat.testBit_or, Nat.testBit_two_pow]; simp
/-- those that are heeded by an end -/
def z_nxs (H : Nat → Nat) (E : Nat) : Nat → Nat
  | 0 => 0
  | i + 1 => if E.testBit i = true then z_nxs H E i ||| H i else z_nxs H E i
theorem z_nxs_tb {H : Nat → Nat} {E m : Nat} : ∀ i, (z_nxs H E i).testBit m = z_ex (fun k => E.testBit k && (H k).testBit m) i
  | 0 => Nat.zero_testBit m
  | i + 1 => by
    have e : z_ex (fun k => E.testBit k && (H k).testBit m) (i+1) = (z_ex (fun k => E.testBit k && (H k).testBit m) i || (E.testBit i && (H i).testBit m)) := rfl
    have ez : z_nxs H E (i+1) = if E.testBit i = true then z_nxs H E i ||| H i else z_nxs H E i := rfl
    rw [e, ez, ← z_nxs_tb i]
    by_cases q : E.testBit i = true
    · rw [if_pos q, Nat.testBit_or, q, Bool.true_and]
    · rw [if_neg q, z_bf q, Bool.false_and, Bool.or_false]
theorem z_nxs_lt {H : Nat → Nat} {E : Nat} (hH : ∀ k, k < 12 → H k < 4096) : ∀ i, i ≤ 12 → z_nxs H E i < 4096
  | 0, _ => by show 0 < 4096; omega
  | i + 1, h => by
    have ez : z_nxs H E (i+1) = if E.testBit i = true then z_nxs H E i ||| H i else z_nxs H E i := rfl
    rw [ez]
    have h1 := z_nxs_lt (E := E) hH i (by omega)
    split
    · exact Nat.or_lt_two_pow (n := 12) h1 (hH i (by omega))
    · exact h1
/-- table y while the set s goes on, the mules below i done -/
def z_uq (H : Nat → Nat) (mu s nx i y m : Nat) : Bool := z_tpp H mu s y m || (decide (m < i) && (y.testBit m && (decide (y &&& (2 ^ m ^^^ 4095) = s) && nx.testBit m)))
def z_UQ (H : Nat → Nat) (mu s nx i y : Nat) : Nat := z_set (z_uq H mu s nx i y) mu
theorem z_UQ0 {H : Nat → Nat} {mu s nx y : Nat} : z_UQ H mu s nx 0 y = z_TQ H mu s y := by
  unfold z_UQ z_TQ
  refine z_set_congr (fun m hm => ?_)
  unfold z_uq
  rw [decide_eq_false (show ¬ m < 0 by omega), Bool.false_and, Bool.or_false]
theorem z_UQ_end {H : Nat → Nat} {mu s y : Nat} (hmu : mu ≤ 12) (hy : y < 4096) (hs0 : s ≠ 0) : z_UQ H mu s (z_nxs H (z_ES H mu s) mu) mu y = z_TQ H mu (s+1) y := by
  unfold z_UQ z_TQ
  refine z_set_congr (fun m hm => ?_)
  unfold z_uq z_tpp
  rw [z_nxs_tb, decide_eq_true hm, Bool.true_and]
  generalize y &&& (2 ^ m ^^^ 4095) = r
  by_cases q : r = s
  · subst q
    rw [decide_eq_true (rfl : r = r), decide_eq_false hs0, decide_eq_false (show ¬ r < r by omega), decide_eq_true (show r < r + 1 by omega)]
    generalize z_ex (fun k => (z_ES H mu r).testBit k && (H k).testBit m) mu = a
    cases y.testBit m <;> cases a <;> rfl
  · rw [decide_eq_false q, Bool.false_and, Bool.and_false, Bool.or_false]
    by_cases q2 : r < s
    · rw [decide_eq_true q2, decide_eq_true (show r < s + 1 by omega)]
    · rw [decide_eq_false q2, decide_eq_false (show ¬ r < s + 1 by omega)]
theorem z_UQ_no {H : Nat → Nat} {mu s nx i y : Nat} (h : ¬ (y.testBit i = true ∧ y &&& (2 ^ i ^^^ 4095) = s ∧ nx.testBit i = true)) : z_UQ H mu s nx (i+1) y = z_UQ H mu s nx i y := by
  unfold z_UQ
  refine z_set_congr (fun m hm => ?_)
  unfold z_uq
  by_cases q : m = i
  · subst q
    have : (y.testBit m && (decide (y &&& (2 ^ m ^^^ 4095) = s) && nx.testBit m)) = false := by
      by_cases q1 : y.testBit m = true
      · by_cases q2 : y &&& (2 ^ m ^^^ 4095) = s
        · by_cases q3 : nx.testBit m = true
          · exact absurd ⟨q1, q2, q3⟩ h
          · rw [z_bf q3, Bool.and_false, Bool.and_false]
        · rw [decide_eq_false q2, Bool.false_and, Bool.and_false]
      · rw [z_bf q1, Bool.false_and]
    rw [this, Bool.and_false, Bool.and_false]
  · by_cases q2 : m < i
    · rw [decide_eq_true q2, decide_eq_true (show m < i + 1 by omega)]
    · rw [decide_eq_false q2, decide_eq_false (show ¬ m < i + 1 by omega)]
theorem z_UQ_yes {H : Nat → Nat} {mu s nx i y : Nat} (hi : i < mu) (h : y.testBit i = true ∧ y &&& (2 ^ i ^^^ 4095) = s ∧ nx.testBit i = true) : z_UQ H mu s nx (i+1) y = z_UQ H mu s nx i y ||| 2 ^ i := by
  obtain ⟨h1, h2, h3⟩ := h
  apply Nat.eq_of_testBit_eq
  intro m
  unfold z_UQ
  rw [Nat.testBit_or, z_set_tb, z_set_tb, Nat.testBit_two_pow]
  unfold z_uq
  by_cases q : m = i
  · subst q
    rw [h1, h2, h3, decide_eq_true hi, decide_eq_true (rfl : s = s), decide_eq_true (show m < m + 1 by omega), decide_eq_true (rfl : m = m)]
    simp
  · rw [decide_eq_false (show ¬ i = m from fun h => q h.symm), Bool.or_false]
    by_cases q2 : m < i
    · rw [decide_eq_true q2, decide_eq_true (show m < i + 1 by omega)]
    · rw [decide_eq_false q2, decide_eq_false (show ¬ m < i + 1 by omega)]
theorem z_UQ_lt {H : Nat → Nat} {mu s nx i y : Nat} (hmu : mu ≤ 12) : z_UQ H mu s nx i y < 4096 := z_set_lt12 _ hmu
theorem c_nexts_L {n mu s E : Nat} {H : Nat → Nat} {σ : q_Sto} {K : Int32 → q_Sto → Option (Int32 × q_Sto)} (hmu : mu ≤ 12) (hs : s < 4096) (hE : E < 4096) (he : σ 138 s = nI E) (hH : ∀ k, k < 12 → H k < 4096) (h141 : ∀ k, k < mu → σ 141 k = nI (H k)) : ∀ j i, i ≤ mu → mu < j + i →
    f_X4_goOn_L17 n 135 (nI s) (nI mu) K j (nI (z_nxs H E i)) (nI i) σ = K (nI (z_nxs H E mu)) σ := by
  intro j
  induction j with
  | zero => intro i h1 h2; omega
  | succ j ih =>
    intro i h1 h2
    by_cases hi : i = mu
    · subst hi
      generalize z_nxs H E i = y
      rw [f_X4_goOn_L17]
      simp (disch := omega) only [↓reduceIte, ↓p_ld, ↓p_st, ↓p_nm, ↓p_nS, ↓p_jn, ↓p_call, ↓p_callv, ↓p_dv, ↓p_rem, h_ldE, h_stE, h_nmE, h_nSE, h_callE, h_callvE, h_dvE, h_remE, if_true, if_false, z_upS, z_upO, z_upK, nI_add, z_mul, z_sub, z_div, Nat.add_zero, Nat.mul_zero, Nat.zero_add, Nat.sub_zero, Nat.zero_mul, z_ltT, z_ltF, z_leT, z_leF, z_eqT, z_eqF, z_inT, z_clT, not_true_eq_false, not_false_eq_true, eq_self, true_or, or_true, z_m_lt, z_m_le, z_lt_m, z_le_m, z_eq_m, z_m_eq, z_rz0, z_rz1, z_m_add, z_of, r_0_0, r_0_1, r_0_3, r_0_4, r_0_5, r_0_6, r_0_7, r_0_8, r_0_9, r_0_10, r_1_0, r_1_1, r_1_2, r_1_3, r_1_4, r_1_5, r_1_6, r_1_7, r_1_8, r_2_0, r_2_1, r_2_2, r_2_3, r_2_4, r_2_5, r_2_6, r_2_7, r_11_0, r_11_1, r_11_2, r_11_3, r_11_4, r_11_5, r_11_6, r_19_0, r_21_0, r_23_0, r_25_0, r_27_0, r_61_0, r_117_0, r_117_1, r_117_2, r_117_3, r_117_4, r_117_5, r_117_6, r_117_7, r_126_0, r_126_1, r_126_2, r_126_3, r_126_4, r_132_0, r_132_1, r_135_0, r_135_1, r_135_2, r_135_3, r_135_4, r_135_5, r_142_0, r_144_0, r_144_1, r_144_2, r_145_0, r_145_1, r_145_2, r_145_3, r_145_4, r_145_5, r_145_6, r_154_0, r_154_1, r_155_0, ↓z_m1, l_0, l_1, l_2, l_3, l_4, l_5, l_6, l_7, l_8, l_9, l_10, l_11, l_12, l_13, l_14, l_15, l_16, l_17, l_18, l_19, l_20, l_21, l_22, l_23, l_24, l_25, l_26, l_27, l_28, l_29, l_30, l_31, l_32, l_33, l_34, l_35, l_36, l_37, l_38, l_39, l_40, l_41, l_42, l_43, l_44, l_45, l_46, l_47, l_48, l_49, l_50, l_51, l_52, l_53, l_54, l_55, l_56, l_57, l_59, l_60, l_61, l_62, l_63, l_64, l_65, l_80, l_86, l_87, l_88, l_89, l_90, l_91, l_92, l_93, l_94, l_95, l_97, l_99, l_100, l_107, l_119, l_122, l_124, l_129, l_140, l_141, l_142, l_143, l_144, l_145, l_147, l_150, l_159, l_160, l_161, l_162, l_205, l_253, l_255, l_256, l_269, l_305, l_380, l_399, l_400, l_420, l_430, l_516, l_600, l_720, l_820, l_905, l_921, l_937, l_953, l_970, l_999, l_1000, l_1790, l_4096, l_9999, l_1000000]
    · have ih := ih (i+1) (by omega) (by omega)
      have ez : z_nxs H E (i+1) = if E.testBit i = true then z_nxs H E i ||| H i else z_nxs H E i := rfl
      have g := h141 i (by omega)
      have e0 : ∀ a, nI a ||| nI 0 = nI a := fun a => by rw [z_or, Nat.or_zero]
      by_cases q : E.testBit i = true
      · have eI := c_isInT (n := n) (σ := σ) (s := E) (by omega) (show i < 31 by omega) q
        rw [if_pos q] at ez
        rw [ez] at ih
        rw [← ih, f_X4_goOn_L17]
        generalize z_nxs H E i = y at *
        generalize H i = hi' at *
        simp (disch := omega) only [he, eI, g, z_or, ↓reduceIte, ↓p_ld, ↓p_st, ↓p_nm, ↓p_nS, ↓p_jn, ↓p_call, ↓p_callv, ↓p_dv, ↓p_rem, h_ldE, h_stE, h_nmE, h_nSE, h_callE, h_callvE, h_dvE, h_remE, if_true, if_false, z_upS, z_upO, z_upK, nI_add, z_mul, z_sub, z_div, Nat.add_zero, Nat.mul_zero, Nat.zero_add, Nat.sub_zero, Nat.zero_mul, z_ltT, z_ltF, z_leT, z_leF, z_eqT, z_eqF, z_inT, z_clT, not_true_eq_false, not_false_eq_true, eq_self, true_or, or_true, z_m_lt, z_m_le, z_lt_m, z_le_m, z_eq_m, z_m_eq, z_rz0, z_rz1, z_m_add, z_of, r_0_0, r_0_1, r_0_3, r_0_4, r_0_5, r_0_6, r_0_7, r_0_8, r_0_9, r_0_10, r_1_0, r_1_1, r_1_2, r_1_3, r_1_4, r_1_5, r_1_6, r_1_7, r_1_8, r_2_0, r_2_1, r_2_2, r_2_3, r_2_4, r_2_5, r_2_6, r_2_7, r_11_0, r_11_1, r_11_2, r_11_3, r_11_4, r_11_5, r_11_6, r_19_0, r_21_0, r_23_0, r_25_0, r_27_0, r_61_0, r_117_0, r_117_1, r_117_2, r_117_3, r_117_4, r_117_5, r_117_6, r_117_7, r_126_0, r_126_1, r_126_2, r_126_3, r_126_4, r_132_0, r_132_1, r_135_0, r_135_1, r_135_2, r_135_3, r_135_4, r_135_5, r_142_0, r_144_0, r_144_1, r_144_2, r_145_0, r_145_1, r_145_2, r_145_3, r_145_4, r_145_5, r_145_6, r_154_0, r_154_1, r_155_0, ↓z_m1, l_0, l_1, l_2, l_3, l_4, l_5, l_6, l_7, l_8, l_9, l_10, l_11, l_12, l_13, l_14, l_15, l_16, l_17, l_18, l_19, l_20, l_21, l_22, l_23, l_24, l_25, l_26, l_27, l_28, l_29, l_30, l_31, l_32, l_33, l_34, l_35, l_36, l_37, l_38, l_39, l_40, l_41, l_42, l_43, l_44, l_45, l_46, l_47, l_48, l_49, l_50, l_51, l_52, l_53, l_54, l_55, l_56, l_57, l_59, l_60, l_61, l_62, l_63, l_64, l_65, l_80, l_86, l_87, l_88, l_89, l_90, l_91, l_92, l_93, l_94, l_95, l_97, l_99, l_100, l_107, l_119, l_122, l_124, l_129, l_140, l_141, l_142, l_143, l_144, l_145, l_147, l_150, l_159, l_160, l_161, l_162, l_205, l_253, l_255, l_256, l_269, l_305, l_380, l_399, l_400, l_420, l_430, l_516, l_600, l_720, l_820, l_905, l_921, l_937, l_953, l_970, l_999, l_1000, l_1790, l_4096, l_9999, l_1000000]
      · have eI := c_isInF (n := n) (σ := σ) (s := E) (by omega) (show i < 31 by omega) q
        rw [if_neg q] at ez
        rw [ez] at ih
        rw [← ih, f_X4_goOn_L17]
        generalize z_nxs H E i = y at *
        simp (disch := omega) only [he, eI, e0, ↓reduceIte, ↓p_ld, ↓p_st, ↓p_nm, ↓p_nS, ↓p_jn, ↓p_call, ↓p_callv, ↓p_dv, ↓p_rem, h_ldE, h_stE, h_nmE, h_nSE, h_callE, h_callvE, h_dvE, h_remE, if_true, if_false, z_upS, z_upO, z_upK, nI_add, z_mul, z_sub, z_div, Nat.add_zero, Nat.mul_zero, Nat.zero_add, Nat.sub_zero, Nat.zero_mul, z_ltT, z_ltF, z_leT, z_leF, z_eqT, z_eqF, z_inT, z_clT, not_true_eq_false, not_false_eq_true, eq_self, true_or, or_true, z_m_lt, z_m_le, z_lt_m, z_le_m, z_eq_m, z_m_eq, z_rz0, z_rz1, z_m_add, z_of, r_0_0, r_0_1, r_0_3, r_0_4, r_0_5, r_0_6, r_0_7, r_0_8, r_0_9, r_0_10, r_1_0, r_1_1, r_1_2, r_1_3, r_1_4, r_1_5, r_1_6, r_1_7, r_1_8, r_2_0, r_2_1, r_2_2, r_2_3, r_2_4, r_2_5, r_2_6, r_2_7, r_11_0, r_11_1, r_11_2, r_11_3, r_11_4, r_11_5, r_11_6, r_19_0, r_21_0, r_23_0, r_25_0, r_27_0, r_61_0, r_117_0, r_117_1, r_117_2, r_117_3, r_117_4, r_117_5, r_117_6, r_117_7, r_126_0, r_126_1, r_126_2, r_126_3, r_126_4, r_132_0, r_132_1, r_135_0, r_135_1, r_135_2, r_135_3, r_135_4, r_135_5, r_142_0, r_144_0, r_144_1, r_144_2, r_145_0, r_145_1, r_145_2, r_145_3, r_145_4, r_145_5, r_145_6, r_154_0, r_154_1, r_155_0, ↓z_m1, l_0, l_1, l_2, l_3, l_4, l_5, l_6, l_7, l_8, l_9, l_10, l_11, l_12, l_13, l_14, l_15, l_16, l_17, l_18, l_19, l_20, l_21, l_22, l_23, l_24, l_25, l_26, l_27, l_28, l_29, l_30, l_31, l_32, l_33, l_34, l_35, l_36, l_37, l_38, l_39, l_40, l_41, l_42, l_43, l_44, l_45, l_46, l_47, l_48, l_49, l_50, l_51, l_52, l_53, l_54, l_55, l_56, l_57, l_59, l_60, l_61, l_62, l_63, l_64, l_65, l_80, l_86, l_87, l_88, l_89, l_90, l_91, l_92, l_93, l_94, l_95, l_97, l_99, l_100, l_107, l_119, l_122, l_124, l_129, l_140, l_141, l_142, l_143, l_144, l_145, l_147, l_150, l_159, l_160, l_161, l_162, l_205, l_253, l_255, l_256, l_269, l_305, l_380, l_399, l_400, l_420, l_430, l_516, l_600, l_720, l_820, l_905, l_921, l_937, l_953, l_970, l_999, l_1000, l_1790, l_4096, l_9999, l_1000000]
theorem c_push_L {n mu s nx N : Nat} {H : Nat → Nat} (hmu : mu ≤ 12) (hN : N = 2 ^ mu) (hs : s < N) (hnx : nx < 4096) (hns : ∀ m, nx.testBit m = true → ¬ s.testBit m = true) : ∀ j i (σ : q_Sto), i ≤ mu → mu < j + i → (∀ y, y < N → σ 138 y = nI (z_UQ H mu s nx i y)) →
    ∃ σ', (∀ o, o ≠ 138 → σ' o = σ o) ∧ (∀ y, y < N → σ' 138 y = nI (z_UQ H mu s nx mu y)) ∧ f_X4_goOn_L73 n 135 (nI s) (nI mu) (nI nx) j (nI i) σ = some (nI 0, σ') := by
  have h12 := z_p12 hmu
  intro j
  induction j with
  | zero => intro i σ h1 h2; omega
  | succ j ih =>
    intro i σ h1 h2 hT
    by_cases hi : i = mu
    · subst hi
      refine ⟨σ, fun _ _ => rfl, hT, ?_⟩
      rw [f_X4_goOn_L73]
      simp (disch := omega) only [↓reduceIte, ↓p_ld, ↓p_st, ↓p_nm, ↓p_nS, ↓p_jn, ↓p_call, ↓p_callv, ↓p_dv, ↓p_rem, h_ldE, h_stE, h_nmE, h_nSE, h_callE, h_callvE, h_dvE, h_remE, if_true, if_false, z_upS, z_upO, z_upK, nI_add, z_mul, z_sub, z_div, Nat.add_zero, Nat.mul_zero, Nat.zero_add, Nat.sub_zero, Nat.zero_mul, z_ltT, z_ltF, z_leT, z_leF, z_eqT, z_eqF, z_inT, z_clT, not_true_eq_false, not_false_eq_true, eq_self, true_or, or_true, z_m_lt, z_m_le, z_lt_m, z_le_m, z_eq_m, z_m_eq, z_rz0, z_rz1, z_m_add, z_of, r_0_0, r_0_1, r_0_3, r_0_4, r_0_5, r_0_6, r_0_7, r_0_8, r_0_9, r_0_10, r_1_0, r_1_1, r_1_2, r_1_3, r_1_4, r_1_5, r_1_6, r_1_7, r_1_8, r_2_0, r_2_1, r_2_2, r_2_3, r_2_4, r_2_5, r_2_6, r_2_7, r_11_0, r_11_1, r_11_2, r_11_3, r_11_4, r_11_5, r_11_6, r_19_0, r_21_0, r_23_0, r_25_0, r_27_0, r_61_0, r_117_0, r_117_1, r_117_2, r_117_3, r_117_4, r_117_5, r_117_6, r_117_7, r_126_0, r_126_1, r_126_2, r_126_3, r_126_4, r_132_0, r_132_1, r_135_0, r_135_1, r_135_2, r_135_3, r_135_4, r_135_5, r_142_0, r_144_0, r_144_1, r_144_2, r_145_0, r_145_1, r_145_2, r_145_3, r_145_4, r_145_5, r_145_6, r_154_0, r_154_1, r_155_0, ↓z_m1, l_0, l_1, l_2, l_3, l_4, l_5, l_6, l_7, l_8, l_9, l_10, l_11, l_12, l_13, l_14, l_15, l_16, l_17, l_18, l_19, l_20, l_21, l_22, l_23, l_24, l_25, l_26, l_27, l_28, l_29, l_30, l_31, l_32, l_33, l_34, l_35, l_36, l_37, l_38, l_39, l_40, l_41, l_42, l_43, l_44, l_45, l_46, l_47, l_48, l_49, l_50, l_51, l_52, l_53, l_54, l_55, l_56, l_57, l_59, l_60, l_61, l_62, l_63, l_64, l_65, l_80, l_86, l_87, l_88, l_89, l_90, l_91, l_92, l_93, l_94, l_95, l_97, l_99, l_100, l_107, l_119, l_122, l_124, l_129, l_140, l_141, l_142, l_143, l_144, l_145, l_147, l_150, l_159, l_160, l_161, l_162, l_205, l_253, l_255, l_256, l_269, l_305, l_380, l_399, l_400, l_420, l_430, l_516, l_600, l_720, l_820, l_905, l_921, l_937, l_953, l_970, l_999, l_1000, l_1790, l_4096, l_9999, l_1000000]
    · have esh := z_shl (m := i) (by omega)
      by_cases q : nx.testBit i = true
      · have eI := c_isInT (n := n) (σ := σ) (s := nx) (by omega) (show i < 31 by omega) q
        obtain ⟨b1, b2, b3⟩ := z_dlB (show i < 12 by omega) (show s < 4096 by omega) (hns i q)
        have hy : s ||| 2 ^ i < N := by
          subst hN
          exact Nat.or_lt_two_pow hs (Nat.pow_lt_pow_right (by omega) (by omega))
        have hu := hT _ hy
        have hyes := z_UQ_yes (H := H) (mu := mu) (s := s) (nx := nx) (show i < mu by omega) ⟨b2, b1, q⟩
        obtain ⟨σ', k1, k2, k3⟩ := ih (i+1) (q_up σ 138 (s ||| 2 ^ i) (nI (z_UQ H mu s nx (i+1) (s ||| 2 ^ i)))) (by omega) (by omega) (fun y hyN => by
          by_cases qy : y = s ||| 2 ^ i
          · subst qy; exact z_upS
          · rw [z_upK qy, hT y hyN, z_UQ_no (fun hh => qy (z_dlA (by omega) (by omega) hh.1 hh.2.1))])
        refine ⟨σ', fun o ho => by rw [k1 o ho, z_upO ho], k2, ?_⟩
        rw [hyes] at k3
        rw [← k3, f_X4_goOn_L73]
        have eor : nI s ||| nI (2 ^ i) = nI (s ||| 2 ^ i) := z_or _ _
        have eor2 : nI (z_UQ H mu s nx i (s ||| 2 ^ i)) ||| nI (2 ^ i) = nI (z_UQ H mu s nx i (s ||| 2 ^ i) ||| 2 ^ i) := z_or _ _
        have hb : s ||| 2 ^ i < 4096 := b3
        generalize z_UQ H mu s nx i (s ||| 2 ^ i) = u at *
        generalize s ||| 2 ^ i = y at *
        generalize 2 ^ i = p at *
        simp (disch := omega) only [eI, esh, eor, hu, eor2, ↓reduceIte, ↓p_ld, ↓p_st, ↓p_nm, ↓p_nS, ↓p_jn, ↓p_call, ↓p_callv, ↓p_dv, ↓p_rem, h_ldE, h_stE, h_nmE, h_nSE, h_callE, h_callvE, h_dvE, h_remE, if_true, if_false, z_upS, z_upO, z_upK, nI_add, z_mul, z_sub, z_div, Nat.add_zero, Nat.mul_zero, Nat.zero_add, Nat.sub_zero, Nat.zero_mul, z_ltT, z_ltF, z_leT, z_leF, z_eqT, z_eqF, z_inT, z_clT, not_true_eq_false, not_false_eq_true, eq_self, true_or, or_true, z_m_lt, z_m_le, z_lt_m, z_le_m, z_eq_m, z_m_eq, z_rz0, z_rz1, z_m_add, z_of, r_0_0, r_0_1, r_0_3, r_0_4, r_0_5, r_0_6, r_0_7, r_0_8, r_0_9, r_0_10, r_1_0, r_1_1, r_1_2, r_1_3, r_1_4, r_1_5, r_1_6, r_1_7, r_1_8, r_2_0, r_2_1, r_2_2, r_2_3, r_2_4, r_2_5, r_2_6, r_2_7, r_11_0, r_11_1, r_11_2, r_11_3, r_11_4, r_11_5, r_11_6, r_19_0, r_21_0, r_23_0, r_25_0, r_27_0, r_61_0, r_117_0, r_117_1, r_117_2, r_117_3, r_117_4, r_117_5, r_117_6, r_117_7, r_126_0, r_126_1, r_126_2, r_126_3, r_126_4, r_132_0, r_132_1, r_135_0, r_135_1, r_135_2, r_135_3, r_135_4, r_135_5, r_142_0, r_144_0, r_144_1, r_144_2, r_145_0, r_145_1, r_145_2, r_145_3, r_145_4, r_145_5, r_145_6, r_154_0, r_154_1, r_155_0, ↓z_m1, l_0, l_1, l_2, l_3, l_4, l_5, l_6, l_7, l_8, l_9, l_10, l_11, l_12, l_13, l_14, l_15, l_16, l_17, l_18, l_19, l_20, l_21, l_22, l_23, l_24, l_25, l_26, l_27, l_28, l_29, l_30, l_31, l_32, l_33, l_34, l_35, l_36, l_37, l_38, l_39, l_40, l_41, l_42, l_43, l_44, l_45, l_46, l_47, l_48, l_49, l_50, l_51, l_52, l_53, l_54, l_55, l_56, l_57, l_59, l_60, l_61, l_62, l_63, l_64, l_65, l_80, l_86, l_87, l_88, l_89, l_90, l_91, l_92, l_93, l_94, l_95, l_97, l_99, l_100, l_107, l_119, l_122, l_124, l_129, l_140, l_141, l_142, l_143, l_144, l_145, l_147, l_150, l_159, l_160, l_161, l_162, l_205, l_253, l_255, l_256, l_269, l_305, l_380, l_399, l_400, l_420, l_430, l_516, l_600, l_720, l_820, l_905, l_921, l_937, l_953, l_970, l_999, l_1000, l_1790, l_4096, l_9999, l_1000000]
      · have eI := c_isInF (n := n) (σ := σ) (s := nx) (by omega) (show i < 31 by omega) q
        obtain ⟨σ', k1, k2, k3⟩ := ih (i+1) σ (by omega) (by omega) (fun y hyN => by rw [hT y hyN, z_UQ_no (fun hh => q hh.2.2)])
        refine ⟨σ', k1, k2, ?_⟩
        rw [← k3, f_X4_goOn_L73]
        simp (disch := omega) only [eI, ↓reduceIte, ↓p_ld, ↓p_st, ↓p_nm, ↓p_nS, ↓p_jn, ↓p_call, ↓p_callv, ↓p_dv, ↓p_rem, h_ldE, h_stE, h_nmE, h_nSE, h_callE, h_callvE, h_dvE, h_remE, if_true, if_false, z_upS, z_upO, z_upK, nI_add, z_mul, z_sub, z_div, Nat.add_zero, Nat.mul_zero, Nat.zero_add, Nat.sub_zero, Nat.zero_mul, z_ltT, z_ltF, z_leT, z_leF, z_eqT, z_eqF, z_inT, z_clT, not_true_eq_false, not_false_eq_true, eq_self, true_or, or_true, z_m_lt, z_m_le, z_lt_m, z_le_m, z_eq_m, z_m_eq, z_rz0, z_rz1, z_m_add, z_of, r_0_0, r_0_1, r_0_3, r_0_4, r_0_5, r_0_6, r_0_7, r_0_8, r_0_9, r_0_10, r_1_0, r_1_1, r_1_2, r_1_3, r_1_4, r_1_5, r_1_6, r_1_7, r_1_8, r_2_0, r_2_1, r_2_2, r_2_3, r_2_4, r_2_5, r_2_6, r_2_7, r_11_0, r_11_1, r_11_2, r_11_3, r_11_4, r_11_5, r_11_6, r_19_0, r_21_0, r_23_0, r_25_0, r_27_0, r_61_0, r_117_0, r_117_1, r_117_2, r_117_3, r_117_4, r_117_5, r_117_6, r_117_7, r_126_0, r_126_1, r_126_2, r_126_3, r_126_4, r_132_0, r_132_1, r_135_0, r_135_1, r_135_2, r_135_3, r_135_4, r_135_5, r_142_0, r_144_0, r_144_1, r_144_2, r_145_0, r_145_1, r_145_2, r_145_3, r_145_4, r_145_5, r_145_6, r_154_0, r_154_1, r_155_0, ↓z_m1, l_0, l_1, l_2, l_3, l_4, l_5, l_6, l_7, l_8, l_9, l_10, l_11, l_12, l_13, l_14, l_15, l_16, l_17, l_18, l_19, l_20, l_21, l_22, l_23, l_24, l_25, l_26, l_27, l_28, l_29, l_30, l_31, l_32, l_33, l_34, l_35, l_36, l_37, l_38, l_39, l_40, l_41, l_42, l_43, l_44, l_45, l_46, l_47, l_48, l_49, l_50, l_51, l_52, l_53, l_54, l_55, l_56, l_57, l_59, l_60, l_61, l_62, l_63, l_64, l_65, l_80, l_86, l_87, l_88, l_89, l_90, l_91, l_92, l_93, l_94, l_95, l_97, l_99, l_100, l_107, l_119, l_122, l_124, l_129, l_140, l_141, l_142, l_143, l_144, l_145, l_147, l_150, l_159, l_160, l_161, l_162, l_205, l_253, l_255, l_256, l_269, l_305, l_380, l_399, l_400, l_420, l_430, l_516, l_600, l_720, l_820, l_905, l_921, l_937, l_953, l_970, l_999, l_1000, l_1790, l_4096, l_9999, l_1000000]
theorem c_goOn {mu s N : Nat} {H : Nat → Nat} {σ : q_Sto} (hmu : mu ≤ 12) (hN : N = 2 ^ mu) (hs0 : s ≠ 0) (hs : s < N) (hH : ∀ k, k < 12 → H k < 4096) (h141 : ∀ k, k < mu → σ 141 k = nI (H k)) (hT : ∀ y, y < N → σ 138 y = nI (z_TQ H mu s y)) :
    ∃ σ', (∀ o, o ≠ 138 → σ' o = σ o) ∧ (∀ y, y < N → σ' 138 y = nI (z_TQ H mu (s+1) y)) ∧ f_X4_goOn q_F 135 (nI s) (nI mu) σ = some (nI 0, σ') := by
  have h12 := z_p12 hmu
  have he := hT s hs
  rw [z_TQ_E hmu (by omega) (Nat.le_refl s)] at he
  have hE : z_ES H mu s < 4096 := by rw [z_ES_eq hmu (by omega)]; exact z_set_lt12 _ hmu
  have hx := z_nxs_lt (E := z_ES H mu s) hH mu hmu
  have key := c_nexts_L (n := q_F) (E := z_ES H mu s) (K := (fun (y12 : Int32) (s13 : q_Sto) =>
  q_nm (y12 &&& (nI s ^^^ (-1))) fun v14 =>
  f_X4_goOn_L73 q_F 135 (nI s) (nI mu) v14 q_F 0 s13)) hmu (show s < 4096 by omega) hE he hH h141 q_F 0 (Nat.zero_le _) (by unfold q_F; omega)
  have e0 : z_nxs H (z_ES H mu s) 0 = 0 := rfl
  rw [e0] at key
  have ea : nI (z_nxs H (z_ES H mu s) mu) &&& (nI s ^^^ z_m) = nI (z_nxs H (z_ES H mu s) mu &&& (s ^^^ 4095)) := z_andn12 hx
  have htb : ∀ i, (z_nxs H (z_ES H mu s) mu &&& (s ^^^ 4095)).testBit i = ((z_nxs H (z_ES H mu s) mu).testBit i && !s.testBit i) := by
    intro i
    rw [show 4095 = 2 ^ 12 - 1 by omega, Nat.testBit_and, Nat.testBit_xor, Nat.testBit_two_pow_sub_one]
    by_cases q : i < 12
    · simp [q]
    · have : (z_nxs H (z_ES H mu s) mu).testBit i = false := z_tb_lt (N := 12) hx (by omega)
      simp [this]
  have hle : z_nxs H (z_ES H mu s) mu &&& (s ^^^ 4095) ≤ z_nxs H (z_ES H mu s) mu := Nat.and_le_left
  obtain ⟨σ', k1, k2, k3⟩ := c_push_L (n := q_F) (H := H) (nx := z_nxs H (z_ES H mu s) mu &&& (s ^^^ 4095)) hmu hN hs (by omega) (fun m hm => by
    rw [htb] at hm
    intro hh
    rw [hh] at hm
    simp at hm) q_F 0 σ (Nat.zero_le _) (by unfold q_F; omega) (fun y hy => by rw [z_UQ0]; exact hT y hy)
  refine ⟨σ', k1, fun y hy => ?_, ?_⟩
  · rw [k2 y hy, ← z_UQ_end hmu (by omega) hs0]
    congr 1
    unfold z_UQ
    refine z_set_congr (fun m hm => ?_)
    unfold z_uq
    rw [htb]
    by_cases q : y &&& (2 ^ m ^^^ 4095) = s
    · have : s.testBit m = false := by
        rw [← q, z_dl (show m < 12 by omega) m (by omega)]
        simp
      rw [this]
      simp
    · rw [decide_eq_false q]
      simp
  · rw [← k3]
    generalize z_nxs H (z_ES H mu s) mu = nx at *
    generalize nx &&& (s ^^^ 4095) = nx' at *
    have key2 : f_X4_goOn_L17 q_F 135 (nI s) (nI mu) (fun (y12 : Int32) (s13 : q_Sto) =>
  q_nm (y12 &&& (nI s ^^^ (-1))) fun v14 =>
  f_X4_goOn_L73 q_F 135 (nI s) (nI mu) v14 q_F 0 s13) q_F 0 0 σ = f_X4_goOn_L73 q_F 135 (nI s) (nI mu) (nI nx') q_F 0 σ := by
      refine Eq.trans key ?_
      simp (disch := omega) only [ea, ↓reduceIte, ↓p_ld, ↓p_st, ↓p_nm, ↓p_nS, ↓p_jn, ↓p_call, ↓p_callv, ↓p_dv, ↓p_rem, h_ldE, h_stE, h_nmE, h_nSE, h_callE, h_callvE, h_dvE, h_remE, if_true, if_false, z_upS, z_upO, z_upK, nI_add, z_mul, z_sub, z_div, Nat.add_zero, Nat.mul_zero, Nat.zero_add, Nat.sub_zero, Nat.zero_mul, z_ltT, z_ltF, z_leT, z_leF, z_eqT, z_eqF, z_inT, z_clT, not_true_eq_false, not_false_eq_true, eq_self, true_or, or_true, z_m_lt, z_m_le, z_lt_m, z_le_m, z_eq_m, z_m_eq, z_rz0, z_rz1, z_m_add, z_of, r_0_0, r_0_1, r_0_3, r_0_4, r_0_5, r_0_6, r_0_7, r_0_8, r_0_9, r_0_10, r_1_0, r_1_1, r_1_2, r_1_3, r_1_4, r_1_5, r_1_6, r_1_7, r_1_8, r_2_0, r_2_1, r_2_2, r_2_3, r_2_4, r_2_5, r_2_6, r_2_7, r_11_0, r_11_1, r_11_2, r_11_3, r_11_4, r_11_5, r_11_6, r_19_0, r_21_0, r_23_0, r_25_0, r_27_0, r_61_0, r_117_0, r_117_1, r_117_2, r_117_3, r_117_4, r_117_5, r_117_6, r_117_7, r_126_0, r_126_1, r_126_2, r_126_3, r_126_4, r_132_0, r_132_1, r_135_0, r_135_1, r_135_2, r_135_3, r_135_4, r_135_5, r_142_0, r_144_0, r_144_1, r_144_2, r_145_0, r_145_1, r_145_2, r_145_3, r_145_4, r_145_5, r_145_6, r_154_0, r_154_1, r_155_0, ↓z_m1, l_0, l_1, l_2, l_3, l_4, l_5, l_6, l_7, l_8, l_9, l_10, l_11, l_12, l_13, l_14, l_15, l_16, l_17, l_18, l_19, l_20, l_21, l_22, l_23, l_24, l_25, l_26, l_27, l_28, l_29, l_30, l_31, l_32, l_33, l_34, l_35, l_36, l_37, l_38, l_39, l_40, l_41, l_42, l_43, l_44, l_45, l_46, l_47, l_48, l_49, l_50, l_51, l_52, l_53, l_54, l_55, l_56, l_57, l_59, l_60, l_61, l_62, l_63, l_64, l_65, l_80, l_86, l_87, l_88, l_89, l_90, l_91, l_92, l_93, l_94, l_95, l_97, l_99, l_100, l_107, l_119, l_122, l_124, l_129, l_140, l_141, l_142, l_143, l_144, l_145, l_147, l_150, l_159, l_160, l_161, l_162, l_205, l_253, l_255, l_256, l_269, l_305, l_380, l_399, l_400, l_420, l_430, l_516, l_600, l_720, l_820, l_905, l_921, l_937, l_953, l_970, l_999, l_1000, l_1790, l_4096, l_9999, l_1000000]
    unfold f_X4_goOn
    rw [key2]
    simp (disch := omega) only [↓reduceIte, ↓p_ld, ↓p_st, ↓p_nm, ↓p_nS, ↓p_jn, ↓p_call, ↓p_callv, ↓p_dv, ↓p_rem, h_ldE, h_stE, h_nmE, h_nSE, h_callE, h_callvE, h_dvE, h_remE, if_true, if_false, z_upS, z_upO, z_upK, nI_add, z_mul, z_sub, z_div, Nat.add_zero, Nat.mul_zero, Nat.zero_add, Nat.sub_zero, Nat.zero_mul, z_ltT, z_ltF, z_leT, z_leF, z_eqT, z_eqF, z_inT, z_clT, not_true_eq_false, not_false_eq_true, eq_self, true_or, or_true, z_m_lt, z_m_le, z_lt_m, z_le_m, z_eq_m, z_m_eq, z_rz0, z_rz1, z_m_add, z_of, r_0_0, r_0_1, r_0_3, r_0_4, r_0_5, r_0_6, r_0_7, r_0_8, r_0_9, r_0_10, r_1_0, r_1_1, r_1_2, r_1_3, r_1_4, r_1_5, r_1_6, r_1_7, r_1_8, r_2_0, r_2_1, r_2_2, r_2_3, r_2_4, r_2_5, r_2_6, r_2_7, r_11_0, r_11_1, r_11_2, r_11_3, r_11_4, r_11_5, r_11_6, r_19_0, r_21_0, r_23_0, r_25_0, r_27_0, r_61_0, r_117_0, r_117_1, r_117_2, r_117_3, r_117_4, r_117_5, r_117_6, r_117_7, r_126_0, r_126_1, r_126_2, r_126_3, r_126_4, r_132_0, r_132_1, r_135_0, r_135_1, r_135_2, r_135_3, r_135_4, r_135_5, r_142_0, r_144_0, r_144_1, r_144_2, r_145_0, r_145_1, r_145_2, r_145_3, r_145_4, r_145_5, r_145_6, r_154_0, r_154_1, r_155_0, ↓z_m1, l_0, l_1, l_2, l_3, l_4, l_5, l_6, l_7, l_8, l_9, l_10, l_11, l_12, l_13, l_14, l_15, l_16, l_17, l_18, l_19, l_20, l_21, l_22, l_23, l_24, l_25, l_26, l_27, l_28, l_29, l_30, l_31, l_32, l_33, l_34, l_35, l_36, l_37, l_38, l_39, l_40, l_41, l_42, l_43, l_44, l_45, l_46, l_47, l_48, l_49, l_50, l_51, l_52, l_53, l_54, l_55, l_56, l_57, l_59, l_60, l_61, l_62, l_63, l_64, l_65, l_80, l_86, l_87, l_88, l_89, l_90, l_91, l_92, l_93, l_94, l_95, l_97, l_99, l_100, l_107, l_119, l_122, l_124, l_129, l_140, l_141, l_142, l_143, l_144, l_145, l_147, l_150, l_159, l_160, l_161, l_162, l_205, l_253, l_255, l_256, l_269, l_305, l_380, l_399, l_400, l_420, l_430, l_516, l_600, l_720, l_820, l_905, l_921, l_937, l_953, l_970, l_999, l_1000, l_1790, l_4096, l_9999, l_1000000]
theorem c_row_L {mu N : Nat} {H : Nat → Nat} (hmu : mu ≤ 12) (hN : N = 2 ^ mu) (hH : ∀ k, k < 12 → H k < 4096) : ∀ j s (σ : q_Sto), 1 ≤ s → s ≤ N → N < j + s → (∀ k, k < mu → σ 141 k = nI (H k)) → (∀ y, y < N → σ 138 y = nI (z_TQ H mu s y)) →
    ∃ σ', (∀ o, o ≠ 138 → σ' o = σ o) ∧ f_X4_longestRow_L83 q_F 135 (nI mu) (nI N) j (nI (z_lr H mu s)) (nI s) σ = some (nI (z_lr H mu N), σ') := by
  have h12 := z_p12 hmu
  intro j
  induction j with
  | zero => intro s σ h0 h1 h2; omega
  | succ j ih =>
    intro s σ h0 h1 h2 h141 hT
    by_cases hi : s = N
    · subst hi
      refine ⟨σ, fun _ _ => rfl, ?_⟩
      generalize z_lr H mu s = y
      rw [f_X4_longestRow_L83]
      simp (disch := omega) only [↓reduceIte, ↓p_ld, ↓p_st, ↓p_nm, ↓p_nS, ↓p_jn, ↓p_call, ↓p_callv, ↓p_dv, ↓p_rem, h_ldE, h_stE, h_nmE, h_nSE, h_callE, h_callvE, h_dvE, h_remE, if_true, if_false, z_upS, z_upO, z_upK, nI_add, z_mul, z_sub, z_div, Nat.add_zero, Nat.mul_zero, Nat.zero_add, Nat.sub_zero, Nat.zero_mul, z_ltT, z_ltF, z_leT, z_leF, z_eqT, z_eqF, z_inT, z_clT, not_true_eq_false, not_false_eq_true, eq_self, true_or, or_true, z_m_lt, z_m_le, z_lt_m, z_le_m, z_eq_m, z_m_eq, z_rz0, z_rz1, z_m_add, z_of, r_0_0, r_0_1, r_0_3, r_0_4, r_0_5, r_0_6, r_0_7, r_0_8, r_0_9, r_0_10, r_1_0, r_1_1, r_1_2, r_1_3, r_1_4, r_1_5, r_1_6, r_1_7, r_1_8, r_2_0, r_2_1, r_2_2, r_2_3, r_2_4, r_2_5, r_2_6, r_2_7, r_11_0, r_11_1, r_11_2, r_11_3, r_11_4, r_11_5, r_11_6, r_19_0, r_21_0, r_23_0, r_25_0, r_27_0, r_61_0, r_117_0, r_117_1, r_117_2, r_117_3, r_117_4, r_117_5, r_117_6, r_117_7, r_126_0, r_126_1, r_126_2, r_126_3, r_126_4, r_132_0, r_132_1, r_135_0, r_135_1, r_135_2, r_135_3, r_135_4, r_135_5, r_142_0, r_144_0, r_144_1, r_144_2, r_145_0, r_145_1, r_145_2, r_145_3, r_145_4, r_145_5, r_145_6, r_154_0, r_154_1, r_155_0, ↓z_m1, l_0, l_1, l_2, l_3, l_4, l_5, l_6, l_7, l_8, l_9, l_10, l_11, l_12, l_13, l_14, l_15, l_16, l_17, l_18, l_19, l_20, l_21, l_22, l_23, l_24, l_25, l_26, l_27, l_28, l_29, l_30, l_31, l_32, l_33, l_34, l_35, l_36, l_37, l_38, l_39, l_40, l_41, l_42, l_43, l_44, l_45, l_46, l_47, l_48, l_49, l_50, l_51, l_52, l_53, l_54, l_55, l_56, l_57, l_59, l_60, l_61, l_62, l_63, l_64, l_65, l_80, l_86, l_87, l_88, l_89, l_90, l_91, l_92, l_93, l_94, l_95, l_97, l_99, l_100, l_107, l_119, l_122, l_124, l_129, l_140, l_141, l_142, l_143, l_144, l_145, l_147, l_150, l_159, l_160, l_161, l_162, l_205, l_253, l_255, l_256, l_269, l_305, l_380, l_399, l_400, l_420, l_430, l_516, l_600, l_720, l_820, l_905, l_921, l_937, l_953, l_970, l_999, l_1000, l_1790, l_4096, l_9999, l_1000000]
    · have he := hT s (by omega)
      rw [z_TQ_E hmu (by omega) (Nat.le_refl s)] at he
      have hE : z_ES H mu s < 4096 := by rw [z_ES_eq hmu (by omega)]; exact z_set_lt12 _ hmu
      have e : z_lr H mu (s+1) = if z_ES H mu s = 0 then z_lr H mu s else max (z_lr H mu s) (z_cnt s 12) := rfl
      by_cases q : z_ES H mu s = 0
      · obtain ⟨σ', k1, k2⟩ := ih (s+1) σ (by omega) (by omega) (by omega) h141 (fun y hy => by
          rw [hT y hy]
          congr 1
          unfold z_TQ
          refine z_set_congr (fun m hm => ?_)
          unfold z_tpp
          generalize hr : y &&& (2 ^ m ^^^ 4095) = r
          by_cases q1 : r < s
          · rw [decide_eq_true q1, decide_eq_true (show r < s + 1 by omega)]
          · rw [decide_eq_false q1]
            by_cases q2 : r < s + 1
            · have : r = s := by omega
              subst this
              have ex : ∀ i, z_ex (fun k => (z_ES H mu r).testBit k && (H k).testBit m) i = false := by
                intro i
                induction i with
                | zero => rfl
                | succ i ih =>
                  show (z_ex (fun k => (z_ES H mu r).testBit k && (H k).testBit m) i || ((z_ES H mu r).testBit i && (H i).testBit m)) = false
                  rw [ih, q, Nat.zero_testBit]
                  rfl
              rw [ex, Bool.and_false, Bool.and_false]
            · rw [decide_eq_false q2])
        refine ⟨σ', k1, ?_⟩
        rw [e, if_pos q] at k2
        rw [q] at he
        rw [← k2, f_X4_longestRow_L83]
        generalize z_lr H mu s = y at *
        simp (disch := omega) only [he, ↓reduceIte, ↓p_ld, ↓p_st, ↓p_nm, ↓p_nS, ↓p_jn, ↓p_call, ↓p_callv, ↓p_dv, ↓p_rem, h_ldE, h_stE, h_nmE, h_nSE, h_callE, h_callvE, h_dvE, h_remE, if_true, if_false, z_upS, z_upO, z_upK, nI_add, z_mul, z_sub, z_div, Nat.add_zero, Nat.mul_zero, Nat.zero_add, Nat.sub_zero, Nat.zero_mul, z_ltT, z_ltF, z_leT, z_leF, z_eqT, z_eqF, z_inT, z_clT, not_true_eq_false, not_false_eq_true, eq_self, true_or, or_true, z_m_lt, z_m_le, z_lt_m, z_le_m, z_eq_m, z_m_eq, z_rz0, z_rz1, z_m_add, z_of, r_0_0, r_0_1, r_0_3, r_0_4, r_0_5, r_0_6, r_0_7, r_0_8, r_0_9, r_0_10, r_1_0, r_1_1, r_1_2, r_1_3, r_1_4, r_1_5, r_1_6, r_1_7, r_1_8, r_2_0, r_2_1, r_2_2, r_2_3, r_2_4, r_2_5, r_2_6, r_2_7, r_11_0, r_11_1, r_11_2, r_11_3, r_11_4, r_11_5, r_11_6, r_19_0, r_21_0, r_23_0, r_25_0, r_27_0, r_61_0, r_117_0, r_117_1, r_117_2, r_117_3, r_117_4, r_117_5, r_117_6, r_117_7, r_126_0, r_126_1, r_126_2, r_126_3, r_126_4, r_132_0, r_132_1, r_135_0, r_135_1, r_135_2, r_135_3, r_135_4, r_135_5, r_142_0, r_144_0, r_144_1, r_144_2, r_145_0, r_145_1, r_145_2, r_145_3, r_145_4, r_145_5, r_145_6, r_154_0, r_154_1, r_155_0, ↓z_m1, l_0, l_1, l_2, l_3, l_4, l_5, l_6, l_7, l_8, l_9, l_10, l_11, l_12, l_13, l_14, l_15, l_16, l_17, l_18, l_19, l_20, l_21, l_22, l_23, l_24, l_25, l_26, l_27, l_28, l_29, l_30, l_31, l_32, l_33, l_34, l_35, l_36, l_37, l_38, l_39, l_40, l_41, l_42, l_43, l_44, l_45, l_46, l_47, l_48, l_49, l_50, l_51, l_52, l_53, l_54, l_55, l_56, l_57, l_59, l_60, l_61, l_62, l_63, l_64, l_65, l_80, l_86, l_87, l_88, l_89, l_90, l_91, l_92, l_93, l_94, l_95, l_97, l_99, l_100, l_107, l_119, l_122, l_124, l_129, l_140, l_141, l_142, l_143, l_144, l_145, l_147, l_150, l_159, l_160, l_161, l_162, l_205, l_253, l_255, l_256, l_269, l_305, l_380, l_399, l_400, l_420, l_430, l_516, l_600, l_720, l_820, l_905, l_921, l_937, l_953, l_970, l_999, l_1000, l_1790, l_4096, l_9999, l_1000000]
      · obtain ⟨σ1, g1, g2, g3⟩ := c_goOn hmu hN (show s ≠ 0 by omega) (show s < N by omega) hH h141 hT
        obtain ⟨σ', k1, k2⟩ := ih (s+1) σ1 (by omega) (by omega) (by omega) (fun k hk => by rw [g1 141 (by omega)]; exact h141 k hk) g2
        refine ⟨σ', fun o ho => by rw [k1 o ho, g1 o ho], ?_⟩
        rw [e, if_neg q] at k2
        have ec := c_bitCount (n := q_F) (σ := σ) (show s < 4096 by omega)
        have hb := z_lr_le (H := H) (mu := mu) s
        have hc := z_cnt_le s 12
        rw [← k2, f_X4_longestRow_L83]
        generalize z_lr H mu s = y at *
        generalize z_cnt s 12 = cn at *
        generalize z_ES H mu s = E at *
        simp (disch := omega) only [he, ec, z_mxE, g3, ↓reduceIte, ↓p_ld, ↓p_st, ↓p_nm, ↓p_nS, ↓p_jn, ↓p_call, ↓p_callv, ↓p_dv, ↓p_rem, h_ldE, h_stE, h_nmE, h_nSE, h_callE, h_callvE, h_dvE, h_remE, if_true, if_false, z_upS, z_upO, z_upK, nI_add, z_mul, z_sub, z_div, Nat.add_zero, Nat.mul_zero, Nat.zero_add, Nat.sub_zero, Nat.zero_mul, z_ltT, z_ltF, z_leT, z_leF, z_eqT, z_eqF, z_inT, z_clT, not_true_eq_false, not_false_eq_true, eq_self, true_or, or_true, z_m_lt, z_m_le, z_lt_m, z_le_m, z_eq_m, z_m_eq, z_rz0, z_rz1, z_m_add, z_of, r_0_0, r_0_1, r_0_3, r_0_4, r_0_5, r_0_6, r_0_7, r_0_8, r_0_9, r_0_10, r_1_0, r_1_1, r_1_2, r_1_3, r_1_4, r_1_5, r_1_6, r_1_7, r_1_8, r_2_0, r_2_1, r_2_2, r_2_3, r_2_4, r_2_5, r_2_6, r_2_7, r_11_0, r_11_1, r_11_2, r_11_3, r_11_4, r_11_5, r_11_6, r_19_0, r_21_0, r_23_0, r_25_0, r_27_0, r_61_0, r_117_0, r_117_1, r_117_2, r_117_3, r_117_4, r_117_5, r_117_6, r_117_7, r_126_0, r_126_1, r_126_2, r_126_3, r_126_4, r_132_0, r_132_1, r_135_0, r_135_1, r_135_2, r_135_3, r_135_4, r_135_5, r_142_0, r_144_0, r_144_1, r_144_2, r_145_0, r_145_1, r_145_2, r_145_3, r_145_4, r_145_5, r_145_6, r_154_0, r_154_1, r_155_0, ↓z_m1, l_0, l_1, l_2, l_3, l_4, l_5, l_6, l_7, l_8, l_9, l_10, l_11, l_12, l_13, l_14, l_15, l_16, l_17, l_18, l_19, l_20, l_21, l_22, l_23, l_24, l_25, l_26, l_27, l_28, l_29, l_30, l_31, l_32, l_33, l_34, l_35, l_36, l_37, l_38, l_39, l_40, l_41, l_42, l_43, l_44, l_45, l_46, l_47, l_48, l_49, l_50, l_51, l_52, l_53, l_54, l_55, l_56, l_57, l_59, l_60, l_61, l_62, l_63, l_64, l_65, l_80, l_86, l_87, l_88, l_89, l_90, l_91, l_92, l_93, l_94, l_95, l_97, l_99, l_100, l_107, l_119, l_122, l_124, l_129, l_140, l_141, l_142, l_143, l_144, l_145, l_147, l_150, l_159, l_160, l_161, l_162, l_205, l_253, l_255, l_256, l_269, l_305, l_380, l_399, l_400, l_420, l_430, l_516, l_600, l_720, l_820, l_905, l_921, l_937, l_953, l_970, l_999, l_1000, l_1790, l_4096, l_9999, l_1000000]
theorem c_fillN {n t N : Nat} (hN : N < 1073741824) : ∀ j i (σ : q_Sto), i ≤ N → N < j + i → (∀ k, k < i → σ t k = nI 0) → ∃ σ', (∀ o, o ≠ t → σ' o = σ o) ∧ (∀ k, k < N → σ' t k = nI 0) ∧ f_J7_fill_53178_L5 n N t (nI 0) (nI N) j (nI i) σ = some (nI 0, σ') := by
  intro j
  induction j with
  | zero => intro i σ h1 h2; omega
  | succ j ih =>
    intro i σ h1 h2 h
    by_cases hi : i = N
    · subst hi
      refine ⟨σ, fun _ _ => rfl, h, ?_⟩
      rw [f_J7_fill_53178_L5]
      simp (disch := omega) only [↓reduceIte, ↓p_ld, ↓p_st, ↓p_nm, ↓p_nS, ↓p_jn, ↓p_call, ↓p_callv, ↓p_dv, ↓p_rem, h_ldE, h_stE, h_nmE, h_nSE, h_callE, h_callvE, h_dvE, h_remE, if_true, if_false, z_upS, z_upO, z_upK, nI_add, z_mul, z_sub, z_div, Nat.add_zero, Nat.mul_zero, Nat.zero_add, Nat.sub_zero, Nat.zero_mul, z_ltT, z_ltF, z_leT, z_leF, z_eqT, z_eqF, z_inT, z_clT, not_true_eq_false, not_false_eq_true, eq_self, true_or, or_true, z_m_lt, z_m_le, z_lt_m, z_le_m, z_eq_m, z_m_eq, z_rz0, z_rz1, z_m_add, z_of, ↓z_m1, l_0, l_1, l_2, l_3, l_4, l_5, l_6, l_7, l_8, l_9, l_10, l_11, l_12, l_13, l_14, l_15, l_16, l_17, l_18, l_19, l_20, l_21, l_22, l_23, l_24, l_25, l_26, l_27, l_28, l_29, l_30, l_31, l_32, l_33, l_34, l_35, l_36, l_37, l_38, l_39, l_40, l_41, l_42, l_43, l_44, l_45, l_46, l_47, l_48, l_49, l_50, l_51, l_52, l_53, l_54, l_55, l_56, l_57, l_59, l_60, l_61, l_62, l_63, l_64, l_65, l_80, l_86, l_87, l_88, l_89, l_90, l_91, l_92, l_93, l_94, l_95, l_97, l_99, l_100, l_107, l_119, l_122, l_124, l_129, l_140, l_141, l_142, l_143, l_144, l_145, l_147, l_150, l_159, l_160, l_161, l_162, l_205, l_253, l_255, l_256, l_269, l_305, l_380, l_399, l_400, l_420, l_430, l_516, l_600, l_720, l_820, l_905, l_921, l_937, l_953, l_970, l_999, l_1000, l_1790, l_4096, l_9999, l_1000000]
    · obtain ⟨σ', k1, k2, k3⟩ := ih (i+1) (q_up σ t i (nI 0)) (by omega) (by omega) (fun k hk => by
        by_cases q : k = i
        · subst q; exact z_upS
        · rw [z_upK q]; exact h k (by omega))
      refine ⟨σ', fun o ho => by rw [k1 o ho, z_upO ho], k2, ?_⟩
      rw [← k3, f_J7_fill_53178_L5]
      simp (disch := omega) only [↓reduceIte, ↓p_ld, ↓p_st, ↓p_nm, ↓p_nS, ↓p_jn, ↓p_call, ↓p_callv, ↓p_dv, ↓p_rem, h_ldE, h_stE, h_nmE, h_nSE, h_callE, h_callvE, h_dvE, h_remE, if_true, if_false, z_upS, z_upO, z_upK, nI_add, z_mul, z_sub, z_div, Nat.add_zero, Nat.mul_zero, Nat.zero_add, Nat.sub_zero, Nat.zero_mul, z_ltT, z_ltF, z_leT, z_leF, z_eqT, z_eqF, z_inT, z_clT, not_true_eq_false, not_false_eq_true, eq_self, true_or, or_true, z_m_lt, z_m_le, z_lt_m, z_le_m, z_eq_m, z_m_eq, z_rz0, z_rz1, z_m_add, z_of, ↓z_m1, l_0, l_1, l_2, l_3, l_4, l_5, l_6, l_7, l_8, l_9, l_10, l_11, l_12, l_13, l_14, l_15, l_16, l_17, l_18, l_19, l_20, l_21, l_22, l_23, l_24, l_25, l_26, l_27, l_28, l_29, l_30, l_31, l_32, l_33, l_34, l_35, l_36, l_37, l_38, l_39, l_40, l_41, l_42, l_43, l_44, l_45, l_46, l_47, l_48, l_49, l_50, l_51, l_52, l_53, l_54, l_55, l_56, l_57, l_59, l_60, l_61, l_62, l_63, l_64, l_65, l_80, l_86, l_87, l_88, l_89, l_90, l_91, l_92, l_93, l_94, l_95, l_97, l_99, l_100, l_107, l_119, l_122, l_124, l_129, l_140, l_141, l_142, l_143, l_144, l_145, l_147, l_150, l_159, l_160, l_161, l_162, l_205, l_253, l_255, l_256, l_269, l_305, l_380, l_399, l_400, l_420, l_430, l_516, l_600, l_720, l_820, l_905, l_921, l_937, l_953, l_970, l_999, l_1000, l_1790, l_4096, l_9999, l_1000000]
theorem c_fillE {n t N : Nat} {v : Int32} {σ : q_Sto} : f_J7_fill_53178 n t N v σ = f_J7_fill_53178_L5 n N t v (nI N) n (nI 0) σ := rfl
theorem c_rowH_L {n mu N : Nat} {V : Nat → Int32} {H : Nat → Nat} {K : q_Sto → Option (Int32 × q_Sto)} (hn : 17 ≤ n) (hmu : mu ≤ 12) (hH : ∀ k, k < 12 → V (129+k) = nI (H k) ∧ H k < 4096) : ∀ j i (σ : q_Sto), i ≤ mu → mu < j + i → z_HE σ 1 V N → (∀ k, k < i → σ 141 k = nI (H k)) →
    ∃ σ', (∀ o, o ≠ 141 → σ' o = σ o) ∧ (∀ k, k < mu → σ' 141 k = nI (H k)) ∧ f_X4_longestRow_L15 n 135 1 (nI mu) K j (nI i) σ = K σ' := by
  intro j
  induction j with
  | zero => intro i σ h1 h2; omega
  | succ j ih =>
    intro i σ h1 h2 hE h
    by_cases hi : i = mu
    · subst hi
      refine ⟨σ, fun _ _ => rfl, h, ?_⟩
      rw [f_X4_longestRow_L15]
      simp (disch := omega) only [↓reduceIte, ↓p_ld, ↓p_st, ↓p_nm, ↓p_nS, ↓p_jn, ↓p_call, ↓p_callv, ↓p_dv, ↓p_rem, h_ldE, h_stE, h_nmE, h_nSE, h_callE, h_callvE, h_dvE, h_remE, if_true, if_false, z_upS, z_upO, z_upK, nI_add, z_mul, z_sub, z_div, Nat.add_zero, Nat.mul_zero, Nat.zero_add, Nat.sub_zero, Nat.zero_mul, z_ltT, z_ltF, z_leT, z_leF, z_eqT, z_eqF, z_inT, z_clT, not_true_eq_false, not_false_eq_true, eq_self, true_or, or_true, z_m_lt, z_m_le, z_lt_m, z_le_m, z_eq_m, z_m_eq, z_rz0, z_rz1, z_m_add, z_of, r_0_0, r_0_1, r_0_3, r_0_4, r_0_5, r_0_6, r_0_7, r_0_8, r_0_9, r_0_10, r_1_0, r_1_1, r_1_2, r_1_3, r_1_4, r_1_5, r_1_6, r_1_7, r_1_8, r_2_0, r_2_1, r_2_2, r_2_3, r_2_4, r_2_5, r_2_6, r_2_7, r_11_0, r_11_1, r_11_2, r_11_3, r_11_4, r_11_5, r_11_6, r_19_0, r_21_0, r_23_0, r_25_0, r_27_0, r_61_0, r_117_0, r_117_1, r_117_2, r_117_3, r_117_4, r_117_5, r_117_6, r_117_7, r_126_0, r_126_1, r_126_2, r_126_3, r_126_4, r_132_0, r_132_1, r_135_0, r_135_1, r_135_2, r_135_3, r_135_4, r_135_5, r_142_0, r_144_0, r_144_1, r_144_2, r_145_0, r_145_1, r_145_2, r_145_3, r_145_4, r_145_5, r_145_6, r_154_0, r_154_1, r_155_0, ↓z_m1, l_0, l_1, l_2, l_3, l_4, l_5, l_6, l_7, l_8, l_9, l_10, l_11, l_12, l_13, l_14, l_15, l_16, l_17, l_18, l_19, l_20, l_21, l_22, l_23, l_24, l_25, l_26, l_27, l_28, l_29, l_30, l_31, l_32, l_33, l_34, l_35, l_36, l_37, l_38, l_39, l_40, l_41, l_42, l_43, l_44, l_45, l_46, l_47, l_48, l_49, l_50, l_51, l_52, l_53, l_54, l_55, l_56, l_57, l_59, l_60, l_61, l_62, l_63, l_64, l_65, l_80, l_86, l_87, l_88, l_89, l_90, l_91, l_92, l_93, l_94, l_95, l_97, l_99, l_100, l_107, l_119, l_122, l_124, l_129, l_140, l_141, l_142, l_143, l_144, l_145, l_147, l_150, l_159, l_160, l_161, l_162, l_205, l_253, l_255, l_256, l_269, l_305, l_380, l_399, l_400, l_420, l_430, l_516, l_600, l_720, l_820, l_905, l_921, l_937, l_953, l_970, l_999, l_1000, l_1790, l_4096, l_9999, l_1000000]
    · have eh := c_heededBy (n := n) (m := i) hn hE (by omega)
      rw [(hH i (by omega)).1] at eh
      have hE' : z_HE (q_up σ 141 i (nI (H i))) 1 V N := by
        unfold z_HE at *
        rw [z_upO (show 1+18 ≠ 141 by omega), z_upO (show 1+19 ≠ 141 by omega)]
        exact hE
      obtain ⟨σ', k1, k2, k3⟩ := ih (i+1) (q_up σ 141 i (nI (H i))) (by omega) (by omega) hE' (fun k hk => by
        by_cases q : k = i
        · subst q; exact z_upS
        · rw [z_upK q]; exact h k (by omega))
      refine ⟨σ', fun o ho => by rw [k1 o ho, z_upO ho], k2, ?_⟩
      rw [← k3, f_X4_longestRow_L15]
      simp (disch := omega) only [eh, ↓reduceIte, ↓p_ld, ↓p_st, ↓p_nm, ↓p_nS, ↓p_jn, ↓p_call, ↓p_callv, ↓p_dv, ↓p_rem, h_ldE, h_stE, h_nmE, h_nSE, h_callE, h_callvE, h_dvE, h_remE, if_true, if_false, z_upS, z_upO, z_upK, nI_add, z_mul, z_sub, z_div, Nat.add_zero, Nat.mul_zero, Nat.zero_add, Nat.sub_zero, Nat.zero_mul, z_ltT, z_ltF, z_leT, z_leF, z_eqT, z_eqF, z_inT, z_clT, not_true_eq_false, not_false_eq_true, eq_self, true_or, or_true, z_m_lt, z_m_le, z_lt_m, z_le_m, z_eq_m, z_m_eq, z_rz0, z_rz1, z_m_add, z_of, r_0_0, r_0_1, r_0_3, r_0_4, r_0_5, r_0_6, r_0_7, r_0_8, r_0_9, r_0_10, r_1_0, r_1_1, r_1_2, r_1_3, r_1_4, r_1_5, r_1_6, r_1_7, r_1_8, r_2_0, r_2_1, r_2_2, r_2_3, r_2_4, r_2_5, r_2_6, r_2_7, r_11_0, r_11_1, r_11_2, r_11_3, r_11_4, r_11_5, r_11_6, r_19_0, r_21_0, r_23_0, r_25_0, r_27_0, r_61_0, r_117_0, r_117_1, r_117_2, r_117_3, r_117_4, r_117_5, r_117_6, r_117_7, r_126_0, r_126_1, r_126_2, r_126_3, r_126_4, r_132_0, r_132_1, r_135_0, r_135_1, r_135_2, r_135_3, r_135_4, r_135_5, r_142_0, r_144_0, r_144_1, r_144_2, r_145_0, r_145_1, r_145_2, r_145_3, r_145_4, r_145_5, r_145_6, r_154_0, r_154_1, r_155_0, ↓z_m1, l_0, l_1, l_2, l_3, l_4, l_5, l_6, l_7, l_8, l_9, l_10, l_11, l_12, l_13, l_14, l_15, l_16, l_17, l_18, l_19, l_20, l_21, l_22, l_23, l_24, l_25, l_26, l_27, l_28, l_29, l_30, l_31, l_32, l_33, l_34, l_35, l_36, l_37, l_38, l_39, l_40, l_41, l_42, l_43, l_44, l_45, l_46, l_47, l_48, l_49, l_50, l_51, l_52, l_53, l_54, l_55, l_56, l_57, l_59, l_60, l_61, l_62, l_63, l_64, l_65, l_80, l_86, l_87, l_88, l_89, l_90, l_91, l_92, l_93, l_94, l_95, l_97, l_99, l_100, l_107, l_119, l_122, l_124, l_129, l_140, l_141, l_142, l_143, l_144, l_145, l_147, l_150, l_159, l_160, l_161, l_162, l_205, l_253, l_255, l_256, l_269, l_305, l_380, l_399, l_400, l_420, l_430, l_516, l_600, l_720, l_820, l_905, l_921, l_937, l_953, l_970, l_999, l_1000, l_1790, l_4096, l_9999, l_1000000]
theorem c_ones_L {n mu N : Nat} {H : Nat → Nat} {K : q_Sto → Option (Int32 × q_Sto)} (hmu : mu ≤ 12) (hN : N = 2 ^ mu) : ∀ j i (σ : q_Sto), i ≤ mu → mu < j + i → (∀ y, y < N → σ 138 y = nI (z_set (fun m => decide (m < i) && decide (y = 2 ^ m)) mu)) →
    ∃ σ', (∀ o, o ≠ 138 → σ' o = σ o) ∧ (∀ y, y < N → σ' 138 y = nI (z_TQ H mu 1 y)) ∧ f_X4_longestRow_L52 n 135 (nI mu) (nI N) K j (nI i) σ = K σ' := by
  have h12 := z_p12 hmu
  intro j
  induction j with
  | zero => intro i σ h1 h2; omega
  | succ j ih =>
    intro i σ h1 h2 h
    by_cases hi : i = mu
    · subst hi
      refine ⟨σ, fun _ _ => rfl, fun y hy => ?_, ?_⟩
      · rw [h y hy]
        congr 1
        refine z_set_congr (fun m hm => ?_)
        unfold z_tpp
        rw [decide_eq_true hm, Bool.true_and]
        by_cases q : y = 2 ^ m
        · subst q
          have b := z_dlB (m := m) (s := 0) (by omega) (by omega) (by rw [Nat.zero_testBit]; decide)
          rw [Nat.zero_or] at b
          rw [b.1, b.2.1]
          simp
        · rw [decide_eq_false q]
          by_cases q1 : y.testBit m = true
          · have : ¬ y &&& (2 ^ m ^^^ 4095) = 0 := fun e => q (by
              have := z_dlA (by omega) (by omega) q1 e
              rw [Nat.zero_or] at this
              exact this)
            rw [decide_eq_false this, decide_eq_false (show ¬ y &&& (2 ^ m ^^^ 4095) < 1 by omega)]
            simp
          · rw [z_bf q1, Bool.false_and]
      · rw [f_X4_longestRow_L52]
        simp (disch := omega) only [↓reduceIte, ↓p_ld, ↓p_st, ↓p_nm, ↓p_nS, ↓p_jn, ↓p_call, ↓p_callv, ↓p_dv, ↓p_rem, h_ldE, h_stE, h_nmE, h_nSE, h_callE, h_callvE, h_dvE, h_remE, if_true, if_false, z_upS, z_upO, z_upK, nI_add, z_mul, z_sub, z_div, Nat.add_zero, Nat.mul_zero, Nat.zero_add, Nat.sub_zero, Nat.zero_mul, z_ltT, z_ltF, z_leT, z_leF, z_eqT, z_eqF, z_inT, z_clT, not_true_eq_false, not_false_eq_true, eq_self, true_or, or_true, z_m_lt, z_m_le, z_lt_m, z_le_m, z_eq_m, z_m_eq, z_rz0, z_rz1, z_m_add, z_of, r_0_0, r_0_1, r_0_3, r_0_4, r_0_5, r_0_6, r_0_7, r_0_8, r_0_9, r_0_10, r_1_0, r_1_1, r_1_2, r_1_3, r_1_4, r_1_5, r_1_6, r_1_7, r_1_8, r_2_0, r_2_1, r_2_2, r_2_3, r_2_4, r_2_5, r_2_6, r_2_7, r_11_0, r_11_1, r_11_2, r_11_3, r_11_4, r_11_5, r_11_6, r_19_0, r_21_0, r_23_0, r_25_0, r_27_0, r_61_0, r_117_0, r_117_1, r_117_2, r_117_3, r_117_4, r_117_5, r_117_6, r_117_7, r_126_0, r_126_1, r_126_2, r_126_3, r_126_4, r_132_0, r_132_1, r_135_0, r_135_1, r_135_2, r_135_3, r_135_4, r_135_5, r_142_0, r_144_0, r_144_1, r_144_2, r_145_0, r_145_1, r_145_2, r_145_3, r_145_4, r_145_5, r_145_6, r_154_0, r_154_1, r_155_0, ↓z_m1, l_0, l_1, l_2, l_3, l_4, l_5, l_6, l_7, l_8, l_9, l_10, l_11, l_12, l_13, l_14, l_15, l_16, l_17, l_18, l_19, l_20, l_21, l_22, l_23, l_24, l_25, l_26, l_27, l_28, l_29, l_30, l_31, l_32, l_33, l_34, l_35, l_36, l_37, l_38, l_39, l_40, l_41, l_42, l_43, l_44, l_45, l_46, l_47, l_48, l_49, l_50, l_51, l_52, l_53, l_54, l_55, l_56, l_57, l_59, l_60, l_61, l_62, l_63, l_64, l_65, l_80, l_86, l_87, l_88, l_89, l_90, l_91, l_92, l_93, l_94, l_95, l_97, l_99, l_100, l_107, l_119, l_122, l_124, l_129, l_140, l_141, l_142, l_143, l_144, l_145, l_147, l_150, l_159, l_160, l_161, l_162, l_205, l_253, l_255, l_256, l_269, l_305, l_380, l_399, l_400, l_420, l_430, l_516, l_600, l_720, l_820, l_905, l_921, l_937, l_953, l_970, l_999, l_1000, l_1790, l_4096, l_9999, l_1000000]
    · have esh := z_shl (m := i) (by omega)
      have hp : 2 ^ i < N := by subst hN; exact Nat.pow_lt_pow_right (by omega) (by omega)
      obtain ⟨σ', k1, k2, k3⟩ := ih (i+1) (q_up σ 138 (2 ^ i) (nI (2 ^ i))) (by omega) (by omega) (fun y hy => by
        by_cases q : y = 2 ^ i
        · subst q
          rw [z_upS]
          congr 1
          apply Nat.eq_of_testBit_eq
          intro m
          rw [z_set_tb, Nat.testBit_two_pow]
          by_cases q2 : i = m
          · subst q2
            rw [decide_eq_true (show i < mu by omega), decide_eq_true (show i < i + 1 by omega), decide_eq_true (rfl : 2 ^ i = 2 ^ i), decide_eq_true (rfl : i = i)]
            rfl
          · have : ¬ 2 ^ i = 2 ^ m := fun e => by
              rcases Nat.lt_trichotomy i m with h | h | h
              · have := Nat.pow_lt_pow_right (a := 2) (by omega) h; omega
              · exact q2 h
              · have := Nat.pow_lt_pow_right (a := 2) (by omega) h; omega
            rw [decide_eq_false this, decide_eq_false q2, Bool.and_false, Bool.and_false]
        · rw [z_upK q, h y hy]
          congr 1
          refine z_set_congr (fun m hm => ?_)
          by_cases q2 : m = i
          · subst q2
            rw [decide_eq_false q, Bool.and_false, Bool.and_false]
          · by_cases q3 : m < i
            · rw [decide_eq_true q3, decide_eq_true (show m < i + 1 by omega)]
            · rw [decide_eq_false q3, decide_eq_false (show ¬ m < i + 1 by omega)])
      refine ⟨σ', fun o ho => by rw [k1 o ho, z_upO ho], k2, ?_⟩
      rw [← k3, f_X4_longestRow_L52]
      generalize 2 ^ i = p at *
      simp (disch := omega) only [esh, ↓reduceIte, ↓p_ld, ↓p_st, ↓p_nm, ↓p_nS, ↓p_jn, ↓p_call, ↓p_callv, ↓p_dv, ↓p_rem, h_ldE, h_stE, h_nmE, h_nSE, h_callE, h_callvE, h_dvE, h_remE, if_true, if_false, z_upS, z_upO, z_upK, nI_add, z_mul, z_sub, z_div, Nat.add_zero, Nat.mul_zero, Nat.zero_add, Nat.sub_zero, Nat.zero_mul, z_ltT, z_ltF, z_leT, z_leF, z_eqT, z_eqF, z_inT, z_clT, not_true_eq_false, not_false_eq_true, eq_self, true_or, or_true, z_m_lt, z_m_le, z_lt_m, z_le_m, z_eq_m, z_m_eq, z_rz0, z_rz1, z_m_add, z_of, r_0_0, r_0_1, r_0_3, r_0_4, r_0_5, r_0_6, r_0_7, r_0_8, r_0_9, r_0_10, r_1_0, r_1_1, r_1_2, r_1_3, r_1_4, r_1_5, r_1_6, r_1_7, r_1_8, r_2_0, r_2_1, r_2_2, r_2_3, r_2_4, r_2_5, r_2_6, r_2_7, r_11_0, r_11_1, r_11_2, r_11_3, r_11_4, r_11_5, r_11_6, r_19_0, r_21_0, r_23_0, r_25_0, r_27_0, r_61_0, r_117_0, r_117_1, r_117_2, r_117_3, r_117_4, r_117_5, r_117_6, r_117_7, r_126_0, r_126_1, r_126_2, r_126_3, r_126_4, r_132_0, r_132_1, r_135_0, r_135_1, r_135_2, r_135_3, r_135_4, r_135_5, r_142_0, r_144_0, r_144_1, r_144_2, r_145_0, r_145_1, r_145_2, r_145_3, r_145_4, r_145_5, r_145_6, r_154_0, r_154_1, r_155_0, ↓z_m1, l_0, l_1, l_2, l_3, l_4, l_5, l_6, l_7, l_8, l_9, l_10, l_11, l_12, l_13, l_14, l_15, l_16, l_17, l_18, l_19, l_20, l_21, l_22, l_23, l_24, l_25, l_26, l_27, l_28, l_29, l_30, l_31, l_32, l_33, l_34, l_35, l_36, l_37, l_38, l_39, l_40, l_41, l_42, l_43, l_44, l_45, l_46, l_47, l_48, l_49, l_50, l_51, l_52, l_53, l_54, l_55, l_56, l_57, l_59, l_60, l_61, l_62, l_63, l_64, l_65, l_80, l_86, l_87, l_88, l_89, l_90, l_91, l_92, l_93, l_94, l_95, l_97, l_99, l_100, l_107, l_119, l_122, l_124, l_129, l_140, l_141, l_142, l_143, l_144, l_145, l_147, l_150, l_159, l_160, l_161, l_162, l_205, l_253, l_255, l_256, l_269, l_305, l_380, l_399, l_400, l_420, l_430, l_516, l_600, l_720, l_820, l_905, l_921, l_937, l_953, l_970, l_999, l_1000, l_1790, l_4096, l_9999, l_1000000]
theorem P_row {σ : q_Sto} (h : q_Sim σ)   : ∃ (r : Int32) (σ1 σ2 : q_Sto), f_X11_row q_F 0  σ = some (r, σ1) ∧ f_X12_row q_F 157  σ1 = some (r, σ2) ∧ q_Sim σ2 := by
  obtain ⟨mu, me, h⟩ := h
  have hC := z_Sim.C h
  have hmu := hC.1.1
  have h86 := hC.1.2.2.1
  have h8 := hC.2.1.1.1
  have hHE := hC.2.2.2.1
  have h12 := z_p12 hmu
  have es := z_shl (m := mu) (by omega)
  have hH : ∀ k, k < 12 → σ 158 (129+k) = nI (zn (σ 158 (129+k))) ∧ zn (σ 158 (129+k)) < 4096 := fun k hk => by
    obtain ⟨c, c16, _, _, _, h2⟩ := hHE
    obtain ⟨_, s, s1, _, s3⟩ := h2 k hk
    rw [s3, zn_nI (by omega)]
    exact ⟨rfl, by omega⟩
  generalize hHd : (fun k => zn (σ 158 (129+k))) = H at *
  have hH : ∀ k, k < 12 → σ 158 (129+k) = nI (H k) ∧ H k < 4096 := fun k hk => by rw [← hHd]; exact hH k hk
  obtain ⟨N, hN⟩ : ∃ N, N = 2 ^ mu := ⟨_, rfl⟩
  rw [← hN] at es
  have hN1 : 1 ≤ N := by rw [hN]; exact Nat.one_le_two_pow
  obtain ⟨σ1, a1, a2, a3⟩ := c_rowH_L (n := q_F) (mu := mu) (K := fun (s6 : q_Sto) =>
  q_nm (1 <<< (nI mu &&& 31)) fun v7 =>
  q_callv (f_J7_fill_53178 q_F (q_RF 135 2) 4096 0 s6) fun s8 =>
  f_X4_longestRow_L52 q_F 135 (nI mu) v7 (fun  (s12 : q_Sto) =>
  f_X4_longestRow_L83 q_F 135 (nI mu) v7  q_F 0 1 s12) q_F 0 s8) (by unfold q_F; omega) hmu hH q_F 0 σ (Nat.zero_le _) (by unfold q_F; omega) hHE (fun k hk => by omega)
  obtain ⟨σ2, b1, b2, b3⟩ := c_fillN (n := q_F) (t := 138) (N := 4096) (by omega) q_F 0 σ1 (Nat.zero_le _) (by unfold q_F; omega) (fun k hk => by omega)
  have b3 : f_J7_fill_53178 q_F 138 4096 (nI 0) σ1 = some (nI 0, σ2) := c_fillE.trans b3
  obtain ⟨σ3, c1, c2, c3⟩ := c_ones_L (n := q_F) (H := H) (K := fun (s12 : q_Sto) =>
  f_X4_longestRow_L83 q_F 135 (nI mu) (nI N)  q_F 0 1 s12) hmu hN q_F 0 σ2 (Nat.zero_le _) (by unfold q_F; omega) (fun y hy => by
    have e0 : z_set (fun m => decide (m < 0) && decide (y = 2 ^ m)) mu = 0 := by
      apply Nat.eq_of_testBit_eq
      intro m
      rw [z_set_tb, Nat.zero_testBit, decide_eq_false (show ¬ m < 0 by omega), Bool.false_and, Bool.and_false]
    rw [b2 y (by omega), e0])
  obtain ⟨σ4, d1, d2⟩ := c_row_L hmu hN (fun k hk => (hH k hk).2) q_F 1 σ3 (Nat.le_refl _) hN1 (by unfold q_F; omega) (fun k hk => by rw [c1 141 (by omega), b1 141 (by omega)]; exact a2 k hk) c2
  have e1 : z_lr H mu 1 = 0 := by
    show (if z_ES H mu 0 = 0 then 0 else _) = 0
    rw [if_pos (z_ES0 hmu)]
  rw [e1] at d2
  have fr4 : ∀ o, o ≠ 138 → o ≠ 141 → σ4 o = σ o := fun o o1 o2 => by rw [d1 o o1, c1 o o1, b1 o o1, a1 o o2]
  have hV4 := fr4 158 (by omega) (by omega)
  obtain ⟨σ5, g1, g2⟩ := m_row_L (N := N) hmu es (by omega) hH q_F 1 (q_up σ4 170 0 (nI 0)) hN1 (by unfold q_F; omega) (by rw [z_upO (by omega)]; exact hV4) (fun y hy => by
    have : y = 0 := by omega
    subst this
    rw [z_upS, z_ES0 hmu])
  rw [e1] at g2
  have fr5 : ∀ o, o ≠ 138 → o ≠ 141 → o ≠ 170 → σ5 o = σ o := fun o o1 o2 o3 => by rw [g1 o o3, z_upO o3, fr4 o o1 o2]
  refine ⟨nI (z_lr H mu N), σ4, σ5, ?_, ?_, ⟨mu, me, z_Sim.th h (fun o o1 o2 o3 o4 o5 o6 => fr5 o (by omega) (by omega) (by omega)) (fun a ha => by rw [fr5 157 (by omega) (by omega) (by omega)])⟩⟩
  · have emn : q_mn (nI 12) (nI mu) = nI mu := by
      rw [z_mnE (by omega) (by omega), show min 12 mu = mu by omega]
    have eL : f_X4_longestRow q_F 135 1 σ = some (nI (z_lr H mu N), σ4) := by
      rw [← d2]
      refine Eq.trans ?_ c3
      have a4 : ∀ x, x = nI mu → f_X4_longestRow_L15 q_F 135 1 x (fun (s6 : q_Sto) =>
  q_nm (1 <<< (x &&& 31)) fun v7 =>
  q_callv (f_J7_fill_53178 q_F (q_RF 135 2) 4096 0 s6) fun s8 =>
  f_X4_longestRow_L52 q_F 135 x v7 (fun  (s12 : q_Sto) =>
  f_X4_longestRow_L83 q_F 135 x v7  q_F 0 1 s12) q_F 0 s8) q_F 0 σ = f_X4_longestRow_L52 q_F 135 (nI mu) (nI N) (fun (s12 : q_Sto) =>
  f_X4_longestRow_L83 q_F 135 (nI mu) (nI N)  q_F 0 1 s12) q_F (nI 0) σ2 := by
        intro x hx
        subst hx
        refine Eq.trans a3 ?_
        simp (disch := omega) only [es, b3, ↓reduceIte, ↓p_ld, ↓p_st, ↓p_nm, ↓p_nS, ↓p_jn, ↓p_call, ↓p_callv, ↓p_dv, ↓p_rem, h_ldE, h_stE, h_nmE, h_nSE, h_callE, h_callvE, h_dvE, h_remE, if_true, if_false, z_upS, z_upO, z_upK, nI_add, z_mul, z_sub, z_div, Nat.add_zero, Nat.mul_zero, Nat.zero_add, Nat.sub_zero, Nat.zero_mul, z_ltT, z_ltF, z_leT, z_leF, z_eqT, z_eqF, z_inT, z_clT, not_true_eq_false, not_false_eq_true, eq_self, true_or, or_true, z_m_lt, z_m_le, z_lt_m, z_le_m, z_eq_m, z_m_eq, z_rz0, z_rz1, z_m_add, z_of, r_0_0, r_0_1, r_0_3, r_0_4, r_0_5, r_0_6, r_0_7, r_0_8, r_0_9, r_0_10, r_1_0, r_1_1, r_1_2, r_1_3, r_1_4, r_1_5, r_1_6, r_1_7, r_1_8, r_2_0, r_2_1, r_2_2, r_2_3, r_2_4, r_2_5, r_2_6, r_2_7, r_11_0, r_11_1, r_11_2, r_11_3, r_11_4, r_11_5, r_11_6, r_19_0, r_21_0, r_23_0, r_25_0, r_27_0, r_61_0, r_117_0, r_117_1, r_117_2, r_117_3, r_117_4, r_117_5, r_117_6, r_117_7, r_126_0, r_126_1, r_126_2, r_126_3, r_126_4, r_132_0, r_132_1, r_135_0, r_135_1, r_135_2, r_135_3, r_135_4, r_135_5, r_142_0, r_144_0, r_144_1, r_144_2, r_145_0, r_145_1, r_145_2, r_145_3, r_145_4, r_145_5, r_145_6, r_154_0, r_154_1, r_155_0, ↓z_m1, l_0, l_1, l_2, l_3, l_4, l_5, l_6, l_7, l_8, l_9, l_10, l_11, l_12, l_13, l_14, l_15, l_16, l_17, l_18, l_19, l_20, l_21, l_22, l_23, l_24, l_25, l_26, l_27, l_28, l_29, l_30, l_31, l_32, l_33, l_34, l_35, l_36, l_37, l_38, l_39, l_40, l_41, l_42, l_43, l_44, l_45, l_46, l_47, l_48, l_49, l_50, l_51, l_52, l_53, l_54, l_55, l_56, l_57, l_59, l_60, l_61, l_62, l_63, l_64, l_65, l_80, l_86, l_87, l_88, l_89, l_90, l_91, l_92, l_93, l_94, l_95, l_97, l_99, l_100, l_107, l_119, l_122, l_124, l_129, l_140, l_141, l_142, l_143, l_144, l_145, l_147, l_150, l_159, l_160, l_161, l_162, l_205, l_253, l_255, l_256, l_269, l_305, l_380, l_399, l_400, l_420, l_430, l_516, l_600, l_720, l_820, l_905, l_921, l_937, l_953, l_970, l_999, l_1000, l_1790, l_4096, l_9999, l_1000000]
      refine Eq.trans ?_ (a4 _ rfl)
      unfold f_X4_longestRow
      simp (disch := omega) only [h8, emn, ↓reduceIte, ↓p_ld, ↓p_st, ↓p_nm, ↓p_nS, ↓p_jn, ↓p_call, ↓p_callv, ↓p_dv, ↓p_rem, h_ldE, h_stE, h_nmE, h_nSE, h_callE, h_callvE, h_dvE, h_remE, if_true, if_false, z_upS, z_upO, z_upK, nI_add, z_mul, z_sub, z_div, Nat.add_zero, Nat.mul_zero, Nat.zero_add, Nat.sub_zero, Nat.zero_mul, z_ltT, z_ltF, z_leT, z_leF, z_eqT, z_eqF, z_inT, z_clT, not_true_eq_false, not_false_eq_true, eq_self, true_or, or_true, z_m_lt, z_m_le, z_lt_m, z_le_m, z_eq_m, z_m_eq, z_rz0, z_rz1, z_m_add, z_of, r_0_0, r_0_1, r_0_3, r_0_4, r_0_5, r_0_6, r_0_7, r_0_8, r_0_9, r_0_10, r_1_0, r_1_1, r_1_2, r_1_3, r_1_4, r_1_5, r_1_6, r_1_7, r_1_8, r_2_0, r_2_1, r_2_2, r_2_3, r_2_4, r_2_5, r_2_6, r_2_7, r_11_0, r_11_1, r_11_2, r_11_3, r_11_4, r_11_5, r_11_6, r_19_0, r_21_0, r_23_0, r_25_0, r_27_0, r_61_0, r_117_0, r_117_1, r_117_2, r_117_3, r_117_4, r_117_5, r_117_6, r_117_7, r_126_0, r_126_1, r_126_2, r_126_3, r_126_4, r_132_0, r_132_1, r_135_0, r_135_1, r_135_2, r_135_3, r_135_4, r_135_5, r_142_0, r_144_0, r_144_1, r_144_2, r_145_0, r_145_1, r_145_2, r_145_3, r_145_4, r_145_5, r_145_6, r_154_0, r_154_1, r_155_0, ↓z_m1, l_0, l_1, l_2, l_3, l_4, l_5, l_6, l_7, l_8, l_9, l_10, l_11, l_12, l_13, l_14, l_15, l_16, l_17, l_18, l_19, l_20, l_21, l_22, l_23, l_24, l_25, l_26, l_27, l_28, l_29, l_30, l_31, l_32, l_33, l_34, l_35, l_36, l_37, l_38, l_39, l_40, l_41, l_42, l_43, l_44, l_45, l_46, l_47, l_48, l_49, l_50, l_51, l_52, l_53, l_54, l_55, l_56, l_57, l_59, l_60, l_61, l_62, l_63, l_64, l_65, l_80, l_86, l_87, l_88, l_89, l_90, l_91, l_92, l_93, l_94, l_95, l_97, l_99, l_100, l_107, l_119, l_122, l_124, l_129, l_140, l_141, l_142, l_143, l_144, l_145, l_147, l_150, l_159, l_160, l_161, l_162, l_205, l_253, l_255, l_256, l_269, l_305, l_380, l_399, l_400, l_420, l_430, l_516, l_600, l_720, l_820, l_905, l_921, l_937, l_953, l_970, l_999, l_1000, l_1790, l_4096, l_9999, l_1000000]
    generalize z_lr H mu N = r at *
    unfold f_X11_row
    simp (disch := omega) only [eL, ↓reduceIte, ↓p_ld, ↓p_st, ↓p_nm, ↓p_nS, ↓p_jn, ↓p_call, ↓p_callv, ↓p_dv, ↓p_rem, h_ldE, h_stE, h_nmE, h_nSE, h_callE, h_callvE, h_dvE, h_remE, if_true, if_false, z_upS, z_upO, z_upK, nI_add, z_mul, z_sub, z_div, Nat.add_zero, Nat.mul_zero, Nat.zero_add, Nat.sub_zero, Nat.zero_mul, z_ltT, z_ltF, z_leT, z_leF, z_eqT, z_eqF, z_inT, z_clT, not_true_eq_false, not_false_eq_true, eq_self, true_or, or_true, z_m_lt, z_m_le, z_lt_m, z_le_m, z_eq_m, z_m_eq, z_rz0, z_rz1, z_m_add, z_of, r_0_0, r_0_1, r_0_3, r_0_4, r_0_5, r_0_6, r_0_7, r_0_8, r_0_9, r_0_10, r_1_0, r_1_1, r_1_2, r_1_3, r_1_4, r_1_5, r_1_6, r_1_7, r_1_8, r_2_0, r_2_1, r_2_2, r_2_3, r_2_4, r_2_5, r_2_6, r_2_7, r_11_0, r_11_1, r_11_2, r_11_3, r_11_4, r_11_5, r_11_6, r_19_0, r_21_0, r_23_0, r_25_0, r_27_0, r_61_0, r_117_0, r_117_1, r_117_2, r_117_3, r_117_4, r_117_5, r_117_6, r_117_7, r_126_0, r_126_1, r_126_2, r_126_3, r_126_4, r_132_0, r_132_1, r_135_0, r_135_1, r_135_2, r_135_3, r_135_4, r_135_5, r_142_0, r_144_0, r_144_1, r_144_2, r_145_0, r_145_1, r_145_2, r_145_3, r_145_4, r_145_5, r_145_6, r_154_0, r_154_1, r_155_0, ↓z_m1, l_0, l_1, l_2, l_3, l_4, l_5, l_6, l_7, l_8, l_9, l_10, l_11, l_12, l_13, l_14, l_15, l_16, l_17, l_18, l_19, l_20, l_21, l_22, l_23, l_24, l_25, l_26, l_27, l_28, l_29, l_30, l_31, l_32, l_33, l_34, l_35, l_36, l_37, l_38, l_39, l_40, l_41, l_42, l_43, l_44, l_45, l_46, l_47, l_48, l_49, l_50, l_51, l_52, l_53, l_54, l_55, l_56, l_57, l_59, l_60, l_61, l_62, l_63, l_64, l_65, l_80, l_86, l_87, l_88, l_89, l_90, l_91, l_92, l_93, l_94, l_95, l_97, l_99, l_100, l_107, l_119, l_122, l_124, l_129, l_140, l_141, l_142, l_143, l_144, l_145, l_147, l_150, l_159, l_160, l_161, l_162, l_205, l_253, l_255, l_256, l_269, l_305, l_380, l_399, l_400, l_420, l_430, l_516, l_600, l_720, l_820, l_905, l_921, l_937, l_953, l_970, l_999, l_1000, l_1790, l_4096, l_9999, l_1000000]
  · generalize z_lr H mu N = r at *
    unfold f_X12_row
    simp (disch := omega) only [hV4, h86, g2, ↓reduceIte, ↓p_ld, ↓p_st, ↓p_nm, ↓p_nS, ↓p_jn, ↓p_call, ↓p_callv, ↓p_dv, ↓p_rem, h_ldE, h_stE, h_nmE, h_nSE, h_callE, h_callvE, h_dvE, h_remE, if_true, if_false, z_upS, z_upO, z_upK, nI_add, z_mul, z_sub, z_div, Nat.add_zero, Nat.mul_zero, Nat.zero_add, Nat.sub_zero, Nat.zero_mul, z_ltT, z_ltF, z_leT, z_leF, z_eqT, z_eqF, z_inT, z_clT, not_true_eq_false, not_false_eq_true, eq_self, true_or, or_true, z_m_lt, z_m_le, z_lt_m, z_le_m, z_eq_m, z_m_eq, z_rz0, z_rz1, z_m_add, z_of, r_157_0, r_157_1, r_157_2, r_157_3, r_157_6, r_157_7, r_157_8, r_157_9, r_157_10, r_157_11, r_157_27, r_157_28, r_157_29, r_157_30, ↓z_m1, l_0, l_1, l_2, l_3, l_4, l_5, l_6, l_7, l_8, l_9, l_10, l_11, l_12, l_13, l_14, l_15, l_16, l_17, l_18, l_19, l_20, l_21, l_22, l_23, l_24, l_25, l_26, l_27, l_28, l_29, l_30, l_31, l_32, l_33, l_34, l_35, l_36, l_37, l_38, l_39, l_40, l_41, l_42, l_43, l_44, l_45, l_46, l_47, l_48, l_49, l_50, l_51, l_52, l_53, l_54, l_55, l_56, l_57, l_59, l_60, l_61, l_62, l_63, l_64, l_65, l_80, l_86, l_87, l_88, l_89, l_90, l_91, l_92, l_93, l_94, l_95, l_97, l_99, l_100, l_107, l_119, l_122, l_124, l_129, l_140, l_141, l_142, l_143, l_144, l_145, l_147, l_150, l_159, l_160, l_161, l_162, l_205, l_253, l_255, l_256, l_269, l_305, l_380, l_399, l_400, l_420, l_430, l_516, l_600, l_720, l_820, l_905, l_921, l_937, l_953, l_970, l_999, l_1000, l_1790, l_4096, l_9999, l_1000000]
/-! the fewest that are to be given salt: whom it moves -/
theorem z_bm_spec (l : Nat → Nat) : ∀ n, 0 < n → ∃ b, b < n ∧ z_bm l n = (b+1, l b) ∧ (∀ j, j < n → l j ≤ l b) ∧ (∀ j, j < b → l j < l b)
  | 0, h => by omega
  | n + 1, _ => by
    have e : z_bm l (n+1) = if (z_bm l n).1 = 0 ∨ (z_bm l n).2 < l n then (n + 1, l n) else z_bm l n := rfl
    by_cases q : n = 0
    · subst q
      refine ⟨0, by omega, ?_, fun j hj => ?_, fun j hj => by omega⟩
      · rw [e]; exact if_pos (Or.inl rfl)
      · have : j = 0 := by omega
        subst this; exact Nat.le_refl _
    · obtain ⟨b, b1, b2, b3, b4⟩ := z_bm_spec l n (by omega)
      rw [e, b2]
      by_cases q2 : l b < l n
      · refine ⟨n, by omega, if_pos (Or.inr q2), fun j hj => ?_, fun j hj => ?_⟩
        · by_cases q3 : j = n
          · subst q3; exact Nat.le_refl _
          · have := b3 j (by omega); omega
        · have := b3 j (by omega); omega
      · refine ⟨b, by omega, if_neg (fun h => by
          rcases h with h | h
          · exact absurd h (Nat.succ_ne_zero b)
          · exact q2 h), fun j hj => ?_, b4⟩
        by_cases q3 : j = n
        · subst q3; omega
        · exact b3 j (by omega)
theorem z_bm_uni {l : Nat → Nat} {n b : Nat} (hb : b < n) (h1 : ∀ j, j < n → l j ≤ l b) (h2 : ∀ j, j < b → l j < l b) : z_bm l n = (b+1, l b) := by
  obtain ⟨c, c1, c2, c3, c4⟩ := z_bm_spec l n (by omega)
  have e : c = b := by
    rcases Nat.lt_trichotomy c b with h | h | h
    · have := h2 c h; have := c3 b hb; omega
    · exact h
    · have := c4 b h; have := h1 c c1; omega
  subst e
  exact c2
theorem z_ch_uni {l : Nat → Nat} {n b need : Nat} (hb : b < n) (h1 : ∀ j, j < n → l j ≤ l b) (h2 : ∀ j, j < b → l j < l b) : z_ch l need n = if l b < need then 0 else b + 1 := by
  unfold z_ch
  rw [z_bm_uni hb h1 h2]
  by_cases q : l b < need
  · rw [if_pos q, if_pos (Or.inr q)]
  · rw [if_neg q, if_neg (fun h => by
      rcases h with h | h
      · exact absurd h (Nat.succ_ne_zero b)
      · exact q h)]
theorem z_ch_move {l1 l2 : Nat → Nat} {need me man : Nat} (hne : ∀ k, k < me → k ≠ man → l1 k = l2 k) (h : l1 man = l2 man ∨ (l1 man < need ∧ l2 man < need) ∨ ∃ o, o < me ∧ o ≠ man ∧ (l1 man < l1 o ∨ (l1 man = l1 o ∧ o < man)) ∧ (l2 man < l2 o ∨ (l2 man = l2 o ∧ o < man))) : z_ch l1 need me = z_ch l2 need me := by
  by_cases hm0 : me = 0
  · subst hm0; rfl
  obtain ⟨b, b1, b2, b3, b4⟩ := z_bm_spec l1 me (by omega)
  rw [z_ch_uni b1 b3 b4]
  rcases h with h | ⟨h1, h2⟩ | ⟨o, o1, o2, o3, o4⟩
  · have e : ∀ k, k < me → l1 k = l2 k := fun k hk => by
      by_cases q : k = man
      · subst q; exact h
      · exact hne k hk q
    have eb := e b b1
    rw [z_ch_uni b1 (fun j hj => by have := b3 j hj; have := e j hj; omega) (fun j hj => by have := b4 j hj; have := e j (by omega); omega), eb]
  · by_cases q : l1 b < need
    · rw [if_pos q]
      obtain ⟨c, c1, c2, c3, c4⟩ := z_bm_spec l2 me (by omega)
      have hc : l2 c < need := by
        by_cases q2 : c = man
        · subst q2; exact h2
        · have := hne c c1 q2; have := b3 c c1; omega
      rw [z_ch_uni c1 c3 c4, if_pos hc]
    · have qm : b ≠ man := fun e => q (by subst e; exact h1)
      have eb := hne b b1 qm
      have k1 : ∀ j, j < me → l2 j ≤ l2 b := fun j hj => by
        by_cases q2 : j = man
        · subst q2; omega
        · have := hne j hj q2; have := b3 j hj; omega
      have k2 : ∀ j, j < b → l2 j < l2 b := fun j hj => by
        by_cases q2 : j = man
        · subst q2; omega
        · have := hne j (by omega) q2; have := b4 j hj; omega
      rw [z_ch_uni b1 k1 k2, eb]
  · have qo := hne o o1 o2
    have qm : b ≠ man := fun e => by
      subst e
      have := b3 o o1
      rcases o3 with h | ⟨h, h'⟩
      · omega
      · have := b4 o h'; omega
    have eb := hne b b1 qm
    have bo := b3 o o1
    have k1 : ∀ j, j < me → l2 j ≤ l2 b := fun j hj => by
      by_cases q2 : j = man
      · subst q2
        rcases o4 with h | ⟨h, h'⟩ <;> omega
      · have := hne j hj q2; have := b3 j hj; omega
    have k2 : ∀ j, j < b → l2 j < l2 b := fun j hj => by
      by_cases q2 : j = man
      · subst q2
        rcases o4 with h | ⟨h, h'⟩
        · omega
        · have := b4 o (by omega); omega
      · have := hne j (by omega) q2; have := b4 j hj; omega
    rw [z_ch_uni b1 k1 k2, eb]
/-- alike choices make alike votes -/
theorem z_rd_pick {p p' : z_Bt} {out : Nat → Bool} (h : ∀ B m, m < p.2.2.2.1 → out m = false → z_pick p' B m = z_pick p B m) (B : Nat → Nat) : ∀ m, m ≤ p.2.2.2.1 → z_rd p' out B m = z_rd p out B m
  | 0, _ => rfl
  | m + 1, hm => by
    have ih := z_rd_pick h B m (by omega)
    have e : ∀ p, z_rd p out B (m+1) = if out m = true ∨ (z_rd p out B m).1 m ≠ 0 then z_rd p out B m else (z_upB (z_rd p out B m).1 m (z_pick p (z_rd p out B m).1 m), (z_rd p out B m).2 || decide (z_pick p (z_rd p out B m).1 m ≠ 0)) := fun _ => rfl
    rw [e, e, ih]
    by_cases q : out m = true ∨ (z_rd p out B m).1 m ≠ 0
    · rw [if_pos q, if_pos q]
    · have hf : out m = false := z_bf (fun hh => q (Or.inl hh))
      rw [if_neg q, if_neg q, h _ m (by omega) hf]
theorem z_rs_pick {p p' : z_Bt} {out : Nat → Bool} {mu : Nat} (e : p.2.2.2.1 = mu) (e' : p'.2.2.2.1 = mu) (h : ∀ B m, m < mu → out m = false → z_pick p' B m = z_pick p B m) : ∀ f B, z_rs p' out f B = z_rs p out f B
  | 0, _ => rfl
  | f + 1, B => by
    have er : z_rd p' out B p'.2.2.2.1 = z_rd p out B p.2.2.2.1 := by rw [e', ← e]; exact z_rd_pick (fun B m hm => h B m (by rw [← e]; exact hm)) B _ (Nat.le_refl _)
    have ih := fun B => z_rs_pick e e' h f B
    unfold z_rs
    rw [er, ih]
theorem z_drv_pick {p p' : z_Bt} {out : Nat → Bool} {mu me : Nat} (e : p.2.2.2.1 = mu) (e' : p'.2.2.2.1 = mu) (e2 : p.2.2.2.2 = me) (e2' : p'.2.2.2.2 = me) (h : ∀ B m, m < mu → out m = false → z_pick p' B m = z_pick p B m) : z_drv p' out = z_drv p out := by
  unfold z_drv z_vote
  rw [z_rs_pick e e' h, e, e', e2, e2']
/-- the lean with salt -/
def z_sl (V : Nat → Int32) (m man : Nat) : Nat := min 99 (z_lk V m man + 15)
/-- the ballot where the mules of S have his salt -/
def z_pw (V : Nat → Int32) (man S mu me : Nat) : z_Bt := (fun m k h => z_lean V m k (if k = man ∧ S.testBit m = true then z_sl V m man else z_lk V m k) h, fun m => z_need V m, z_hs V, mu, me)
theorem z_pw_ok {σ : q_Sto} {V : Nat → Int32} {man S mu me : Nat} (hmu : mu ≤ 12) (hme : me ≤ 5) (h : z_HE σ 1 V mu) : z_BO (z_pw V man S mu me) := by
  have hb := z_bt_ok (me := me) hmu hme h
  exact ⟨hmu, hme, fun m k hh => z_cl_le _ _, hb.2.2.2.1, hb.2.2.2.2⟩
theorem z_pw_mu {V : Nat → Int32} {man S mu me : Nat} : (z_pw V man S mu me).2.2.2.1 = mu := rfl
theorem z_pw_me {V : Nat → Int32} {man S mu me : Nat} : (z_pw V man S mu me).2.2.2.2 = me := rfl
theorem z_bt_mu {V : Nat → Int32} {mu me : Nat} : (z_bt V mu me).2.2.2.1 = mu := rfl
theorem z_bt_me {V : Nat → Int32} {mu me : Nat} : (z_bt V mu me).2.2.2.2 = me := rfl
theorem z_pw_pk {V : Nat → Int32} {man S mu me : Nat} {B : Nat → Nat} {m : Nat} : z_pick (z_pw V man S mu me) B m = z_ch (fun k => z_lean V m k (if k = man ∧ S.testBit m = true then z_sl V m man else z_lk V m k) (z_cnt (z_hs V m &&& z_side B k mu) 12)) (z_need V m) me := rfl
theorem z_bt_pk {V : Nat → Int32} {mu me : Nat} {B : Nat → Nat} {m : Nat} : z_pick (z_bt V mu me) B m = z_ch (fun k => z_lean V m k (z_lk V m k) (z_cnt (z_hs V m &&& z_side B k mu) 12)) (z_need V m) me := rfl
theorem z_pw_B0 {σ : q_Sto} {V : Nat → Int32} {man S mu me : Nat} : z_B0 σ (z_pw V man S mu me) = (σ 126 5 = nI mu ∧ σ 126 6 = nI me ∧ (∀ m, m < mu → σ 127 m = nI (z_need V m)) ∧ (∀ m, m < mu → σ 128 m = nI (z_hs V m))) := rfl
theorem z_bt_B0 {σ : q_Sto} {V : Nat → Int32} {mu me : Nat} : z_B0 σ (z_bt V mu me) = (σ 126 5 = nI mu ∧ σ 126 6 = nI me ∧ (∀ m, m < mu → σ 127 m = nI (z_need V m)) ∧ (∀ m, m < mu → σ 128 m = nI (z_hs V m))) := rfl
theorem z_pw_le {V : Nat → Int32} {man S mu me : Nat} {out : Nat → Bool} : z_drv (z_pw V man S mu me) out ≤ me := by
  unfold z_drv
  rw [z_pw_me]
  exact (z_lea_le me).1
/-- does it make a difference for one that so many of those it heeds stand there -/
def z_df (V : Nat → Int32) (m man : Nat) : Nat → Bool
  | 0 => false
  | h + 1 => z_df V m man h || decide (z_lean V m man (z_sl V m man) h ≠ z_lean V m man (z_lk V m man) h)
def z_tp2 (V : Nat → Int32) (m man : Nat) : Nat → Nat
  | 0 => 0
  | h + 1 => max (z_tp2 V m man h) (max (z_lean V m man (z_sl V m man) h) (z_lean V m man (z_lk V m man) h))
def z_ls (V : Nat → Int32) (m k : Nat) : Nat → Nat
  | 0 => 999
  | h + 1 => min (z_ls V m k h) (z_lean V m k (z_lk V m k) h)
def z_pf (V : Nat → Int32) (m man top N : Nat) : Nat → Nat → Bool
  | 0, _ => false
  | j + 1, k => if k ≠ man ∧ (top < z_ls V m k N ∨ (z_ls V m k N = top ∧ k < man)) then true else z_pf V m man top N j (k+1)
theorem z_df_no {V : Nat → Int32} {m man : Nat} : ∀ N, z_df V m man N = false → ∀ h, h < N → z_lean V m man (z_sl V m man) h = z_lean V m man (z_lk V m man) h
  | 0, _, h, hh => by omega
  | N + 1, e, h, hh => by
    have e : (z_df V m man N || decide (z_lean V m man (z_sl V m man) N ≠ z_lean V m man (z_lk V m man) N)) = false := e
    rw [Bool.or_eq_false_iff] at e
    by_cases q : h = N
    · subst q
      have := of_decide_eq_false e.2
      exact Decidable.of_not_not this
    · exact z_df_no N e.1 h (by omega)
theorem z_tp2_ge {V : Nat → Int32} {m man : Nat} : ∀ N h, h < N → z_lean V m man (z_sl V m man) h ≤ z_tp2 V m man N ∧ z_lean V m man (z_lk V m man) h ≤ z_tp2 V m man N
  | 0, h, hh => by omega
  | N + 1, h, hh => by
    have e : z_tp2 V m man (N+1) = max (z_tp2 V m man N) (max (z_lean V m man (z_sl V m man) N) (z_lean V m man (z_lk V m man) N)) := rfl
    rw [e]
    by_cases q : h = N
    · subst q; omega
    · have := z_tp2_ge (V := V) (m := m) (man := man) N h (by omega); omega
theorem z_tp2_le {V : Nat → Int32} {m man : Nat} : ∀ N, z_tp2 V m man N ≤ 999
  | 0 => Nat.zero_le _
  | N + 1 => by
    have h1 : z_lean V m man (z_sl V m man) N ≤ 999 := z_cl_le _ _
    have h2 : z_lean V m man (z_lk V m man) N ≤ 999 := z_cl_le _ _
    have h3 := z_tp2_le (V := V) (m := m) (man := man) N
    have e : z_tp2 V m man (N+1) = max (z_tp2 V m man N) (max (z_lean V m man (z_sl V m man) N) (z_lean V m man (z_lk V m man) N)) := rfl
    rw [e]; omega
theorem z_ls_le {V : Nat → Int32} {m k : Nat} : ∀ N h, h < N → z_ls V m k N ≤ z_lean V m k (z_lk V m k) h
  | 0, h, hh => by omega
  | N + 1, h, hh => by
    have e : z_ls V m k (N+1) = min (z_ls V m k N) (z_lean V m k (z_lk V m k) N) := rfl
    rw [e]
    by_cases q : h = N
    · subst q; omega
    · have := z_ls_le (V := V) (m := m) (k := k) N h (by omega); omega
theorem z_ls_9 {V : Nat → Int32} {m k : Nat} : ∀ N, z_ls V m k N ≤ 999
  | 0 => Nat.le_refl _
  | N + 1 => by
    have h3 := z_ls_9 (V := V) (m := m) (k := k) N
    have e : z_ls V m k (N+1) = min (z_ls V m k N) (z_lean V m k (z_lk V m k) N) := rfl
    rw [e]; omega
theorem z_pf_yes {V : Nat → Int32} {m man top N : Nat} : ∀ j k, z_pf V m man top N j k = true → ∃ o, o < k + j ∧ o ≠ man ∧ (top < z_ls V m o N ∨ (z_ls V m o N = top ∧ o < man))
  | 0, k, h => by cases h
  | j + 1, k, h => by
    have e : z_pf V m man top N (j+1) k = if k ≠ man ∧ (top < z_ls V m k N ∨ (z_ls V m k N = top ∧ k < man)) then true else z_pf V m man top N j (k+1) := rfl
    by_cases q : k ≠ man ∧ (top < z_ls V m k N ∨ (z_ls V m k N = top ∧ k < man))
    · exact ⟨k, by omega, q.1, q.2⟩
    · rw [e, if_neg q] at h
      obtain ⟨o, o1, o2, o3⟩ := z_pf_yes j (k+1) h
      exact ⟨o, by omega, o2, o3⟩
/-- one whom his salt may move (LAME or not) -/
def z_mq (V : Nat → Int32) (man me m : Nat) : Bool := z_df V m man (z_cnt (z_hs V m) 12 + 1) && (decide (z_need V m ≤ z_tp2 V m man (z_cnt (z_hs V m) 12 + 1)) && !z_pf V m man (z_tp2 V m man (z_cnt (z_hs V m) 12 + 1)) (z_cnt (z_hs V m) 12 + 1) me 0)
def z_mv (V : Nat → Int32) (man mu me lame : Nat) : Nat := z_set (fun m => z_mq V man me m && !lame.testBit m) mu
theorem z_pw_pick {V : Nat → Int32} {man mu me lame S : Nat} (B : Nat → Nat) (m : Nat) (hm : m < mu) (hl : lame.testBit m = false) : z_pick (z_pw V man (S &&& z_mv V man mu me lame) mu me) B m = z_pick (z_pw V man S mu me) B m := by
  rw [z_pw_pk, z_pw_pk]
  by_cases q : (S &&& z_mv V man mu me lame).testBit m = S.testBit m
  · rw [q]
  · have hS : S.testBit m = true := by
      cases h : S.testBit m with
      | true => rfl
      | false => exact absurd (by rw [Nat.testBit_and, h, Bool.false_and]) q
    have hS' : (S &&& z_mv V man mu me lame).testBit m = false := z_bf (fun h => q (h.trans hS.symm))
    have hmq : z_mq V man me m = false := by
      rw [Nat.testBit_and, hS, Bool.true_and] at hS'
      unfold z_mv at hS'
      rw [z_set_tb, decide_eq_true hm, Bool.true_and, hl] at hS'
      simpa using hS'
    rw [hS, hS']
    have e1 : (fun k => z_lean V m k (if k = man ∧ false = true then z_sl V m man else z_lk V m k) (z_cnt (z_hs V m &&& z_side B k mu) 12)) = fun k => z_lean V m k (z_lk V m k) (z_cnt (z_hs V m &&& z_side B k mu) 12) := by
      funext k
      rw [if_neg (fun h => by cases h.2)]
    have e2 : (fun k => z_lean V m k (if k = man ∧ true = true then z_sl V m man else z_lk V m k) (z_cnt (z_hs V m &&& z_side B k mu) 12)) = fun k => z_lean V m k (if k = man then z_sl V m man else z_lk V m k) (z_cnt (z_hs V m &&& z_side B k mu) 12) := by
      funext k
      by_cases q : k = man
      · rw [if_pos ⟨q, rfl⟩, if_pos q]
      · rw [if_neg (fun h => q h.1), if_neg q]
    rw [e1, e2]
    have hh : ∀ k, z_cnt (z_hs V m &&& z_side B k mu) 12 < z_cnt (z_hs V m) 12 + 1 := fun k => by
      have : z_cnt (z_hs V m &&& z_side B k mu) 12 ≤ z_cnt (z_hs V m) 12 := z_cnt_mono (fun i hi => by
        rw [Nat.testBit_and] at hi
        cases h : (z_hs V m).testBit i with
        | true => rfl
        | false => rw [h] at hi; cases hi) 12
      exact Nat.lt_succ_of_le this
    have a1 : (if man = man then z_sl V m man else z_lk V m man) = z_sl V m man := if_pos rfl
    refine z_ch_move (man := man) (fun k hk hkm => ?_) ?_
    · show z_lean V m k (z_lk V m k) _ = z_lean V m k (if k = man then z_sl V m man else z_lk V m k) _
      rw [if_neg hkm]
    · have hk := hh man
      obtain ⟨t1, t2⟩ := z_tp2_ge (V := V) (m := m) (man := man) _ _ hk
      unfold z_mq at hmq
      rw [Bool.and_eq_false_iff, Bool.and_eq_false_iff] at hmq
      rcases hmq with h | h | h
      · refine Or.inl ?_
        show z_lean V m man (z_lk V m man) _ = z_lean V m man (if man = man then z_sl V m man else z_lk V m man) _
        rw [a1]
        exact (z_df_no _ h _ hk).symm
      · have := of_decide_eq_false h
        refine Or.inr (Or.inl ⟨?_, ?_⟩)
        · show z_lean V m man (z_lk V m man) _ < z_need V m
          omega
        · show z_lean V m man (if man = man then z_sl V m man else z_lk V m man) _ < z_need V m
          rw [a1]
          omega
      · have h : z_pf V m man (z_tp2 V m man (z_cnt (z_hs V m) 12 + 1)) (z_cnt (z_hs V m) 12 + 1) me 0 = true := by
          cases hq : z_pf V m man (z_tp2 V m man (z_cnt (z_hs V m) 12 + 1)) (z_cnt (z_hs V m) 12 + 1) me 0 with
          | true => rfl
          | false => rw [hq] at h; cases h
        obtain ⟨o, o1, o2, o3⟩ := z_pf_yes _ _ h
        have ho := z_ls_le (V := V) (m := m) (k := o) _ _ (hh o)
        refine Or.inr (Or.inr ⟨o, by omega, o2, ?_, ?_⟩)
        · show z_lean V m man (z_lk V m man) _ < z_lean V m o (z_lk V m o) _ ∨ (z_lean V m man (z_lk V m man) _ = z_lean V m o (z_lk V m o) _ ∧ o < man)
          omega
        · show z_lean V m man (if man = man then z_sl V m man else z_lk V m man) _ < z_lean V m o (if o = man then z_sl V m man else z_lk V m o) _ ∨ (z_lean V m man (if man = man then z_sl V m man else z_lk V m man) _ = z_lean V m o (if o = man then z_sl V m man else z_lk V m o) _ ∧ o < man)
          rw [a1, if_neg o2]
          omega
/-- salt for those whom it doesn't move is of no account -/
theorem z_pw_moved {V : Nat → Int32} {man mu me lame S : Nat} : z_drv (z_pw V man (S &&& z_mv V man mu me lame) mu me) (fun i => lame.testBit i) = z_drv (z_pw V man S mu me) (fun i => lame.testBit i) :=
  z_drv_pick (p := z_pw V man S mu me) z_pw_mu z_pw_mu z_pw_me z_pw_me (fun B m hm hl => z_pw_pick B m hm hl)
/-! the search -/
def z_wr (d : Nat → Bool) : Nat → Nat
  | 0 => 0
  | i + 1 => if (z_wr d i = 0 ∨ z_cnt i 12 < z_cnt (z_wr d i - 1) 12) ∧ d i = true then i + 1 else z_wr d i
theorem z_wr_spec {d : Nat → Bool} : ∀ i, (z_wr d i = 0 → ∀ s, s < i → d s = false) ∧ (∀ t, z_wr d i = t + 1 → t < i ∧ d t = true ∧ ∀ s, s < i → d s = true → z_cnt t 12 ≤ z_cnt s 12 ∧ (z_cnt s 12 = z_cnt t 12 → t ≤ s))
  | 0 => ⟨fun _ s hs => by omega, fun t ht => by cases ht⟩
  | i + 1 => by
    obtain ⟨h1, h2⟩ := z_wr_spec (d := d) i
    have e : z_wr d (i+1) = if (z_wr d i = 0 ∨ z_cnt i 12 < z_cnt (z_wr d i - 1) 12) ∧ d i = true then i + 1 else z_wr d i := rfl
    by_cases q : (z_wr d i = 0 ∨ z_cnt i 12 < z_cnt (z_wr d i - 1) 12) ∧ d i = true
    · rw [e, if_pos q]
      refine ⟨fun h => by omega, fun t ht => ?_⟩
      have ht : t = i := by omega
      subst ht
      refine ⟨by omega, q.2, fun s hs hd => ?_⟩
      by_cases q2 : s = t
      · subst q2; exact ⟨Nat.le_refl _, fun _ => Nat.le_refl _⟩
      · rcases q.1 with h0 | h0
        · have := h1 h0 s (by omega)
          rw [this] at hd; cases hd
        · cases hw : z_wr d t with
          | zero =>
            have := h1 hw s (by omega)
            rw [this] at hd; cases hd
          | succ u =>
            obtain ⟨u1, u2, u3⟩ := h2 u hw
            have := (u3 s (by omega) hd).1
            rw [hw, show u + 1 - 1 = u by omega] at h0
            exact ⟨by omega, fun h => by omega⟩
    · rw [e, if_neg q]
      refine ⟨fun h0 s hs => ?_, fun t ht => ?_⟩
      · by_cases q2 : s = i
        · subst q2
          exact z_bf (fun hd => q ⟨Or.inl h0, hd⟩)
        · exact h1 h0 s (by omega)
      · obtain ⟨u1, u2, u3⟩ := h2 t ht
        refine ⟨by omega, u2, fun s hs hd => ?_⟩
        by_cases q2 : s = i
        · subst q2
          have : ¬ z_cnt s 12 < z_cnt t 12 := fun hc => q ⟨Or.inr (by rw [ht, show t + 1 - 1 = t by omega]; exact hc), hd⟩
          exact ⟨by omega, fun h => by omega⟩
        · exact u3 s (by omega) hd
theorem z_cnt_and {a b : Nat} (ha : a < 4096) (h : z_cnt a 12 ≤ z_cnt (a &&& b) 12) : a &&& b = a := by
  apply Nat.eq_of_testBit_eq
  intro i
  rw [Nat.testBit_and]
  cases ha1 : a.testBit i with
  | false => rfl
  | true =>
    cases hb : b.testBit i with
    | true => rfl
    | false =>
      have hi : i < 12 := by
        by_cases q : i < 12
        · exact q
        · rw [z_tb_lt (N := 12) ha (by omega)] at ha1; cases ha1
      have := z_cnt_strict (a := a &&& b) (b := a) (fun j hj => by
        rw [Nat.testBit_and] at hj
        cases hq : a.testBit j with
        | true => rfl
        | false => rw [hq] at hj; cases hj) (j := i) (by rw [Nat.testBit_and, hb, Bool.and_false]; decide) ha1 12 hi
      omega
theorem z_cnt_and_le {a b : Nat} : z_cnt (a &&& b) 12 ≤ z_cnt a 12 ∧ z_cnt (a &&& b) 12 ≤ z_cnt b 12 :=
  ⟨z_cnt_mono (fun i hi => by
    rw [Nat.testBit_and] at hi
    cases hq : a.testBit i with
    | true => rfl
    | false => rw [hq] at hi; cases hi) 12, z_cnt_mono (fun i hi => by
    rw [Nat.testBit_and] at hi
    cases hq : b.testBit i with
    | true => rfl
    | false => rw [hq, Bool.and_false] at hi; cases hi) 12⟩
/-- the best set lies in the moved ones -/
theorem z_wr_mv {d : Nat → Bool} {N M : Nat} (hN : N ≤ 4096) (hd : ∀ s, s < N → d (s &&& M) = d s) {t : Nat} (ht : z_wr d N = t + 1) : t &&& M = t := by
  obtain ⟨t1, t2, t3⟩ := (z_wr_spec N).2 t ht
  have hlt : t &&& M ≤ t := Nat.and_le_left
  have := (t3 (t &&& M) (by omega) (by rw [hd t t1]; exact t2)).1
  exact z_cnt_and (by omega) this
/-! the fewest that are to be given salt: the class's tables -/
theorem c_prepH {m man N lk mu me : Nat} {x3 : Int32} {V : Nat → Int32} {K : Int32 → Int32 → q_Sto → Option (Int32 × q_Sto)} (hm : m < mu) (hk : man < me) (hN : N < 12) (hlk : lk = z_lk V m man) :
    ∀ j i (σ : q_Sto), i ≤ N + 1 → N + 1 < j + i → z_C σ V mu me → (∀ h, h < N + 1 → σ 129 ((m*5+man)*12+h) = nI (z_lean V m man lk h)) → (∀ h, h < i → σ 130 (m*12+h) = nI (z_lean V m man (z_sl V m man) h)) →
    ∃ σ', (∀ o, o ≠ 18 → o ≠ 30 → o ≠ 130 → σ' o = σ o) ∧ (∀ a, a < m*12 → σ' 130 a = σ 130 a) ∧ (∀ h, h < N + 1 → σ' 130 (m*12+h) = nI (z_lean V m man (z_sl V m man) h)) ∧
      f_X0_prepareSalted_L64 q_F 126 1 (nI man) x3 (nI m) (nI (z_sl V m man)) (nI N) K j (z_fb (z_df V m man i)) (nI (z_tp2 V m man i)) (nI i) σ = K (z_fb (z_df V m man (N+1))) (nI (z_tp2 V m man (N+1))) σ' := by
  intro j
  induction j with
  | zero => intro i σ h1 h2; omega
  | succ j ih =>
    intro i σ h1 h2 hC h9 h0
    have hmu := hC.1.1
    have hme := hC.1.2.1
    by_cases hi : i = N + 1
    · subst hi
      refine ⟨σ, fun o _ _ _ => rfl, fun a _ => rfl, h0, ?_⟩
      generalize z_fb (z_df V m man (N+1)) = y
      generalize z_tp2 V m man (N+1) = z
      rw [f_X0_prepareSalted_L64]
      simp (disch := omega) only [↓reduceIte, ↓p_ld, ↓p_st, ↓p_nm, ↓p_nS, ↓p_jn, ↓p_call, ↓p_callv, ↓p_dv, ↓p_rem, h_ldE, h_stE, h_nmE, h_nSE, h_callE, h_callvE, h_dvE, h_remE, if_true, if_false, z_upS, z_upO, z_upK, nI_add, z_mul, z_sub, z_div, Nat.add_zero, Nat.mul_zero, Nat.zero_add, Nat.sub_zero, Nat.zero_mul, z_ltT, z_ltF, z_leT, z_leF, z_eqT, z_eqF, z_inT, z_clT, not_true_eq_false, not_false_eq_true, eq_self, true_or, or_true, z_m_lt, z_m_le, z_lt_m, z_le_m, z_eq_m, z_m_eq, z_rz0, z_rz1, z_m_add, z_of, r_0_0, r_0_1, r_0_3, r_0_4, r_0_5, r_0_6, r_0_7, r_0_8, r_0_9, r_0_10, r_1_0, r_1_1, r_1_2, r_1_3, r_1_4, r_1_5, r_1_6, r_1_7, r_1_8, r_2_0, r_2_1, r_2_2, r_2_3, r_2_4, r_2_5, r_2_6, r_2_7, r_11_0, r_11_1, r_11_2, r_11_3, r_11_4, r_11_5, r_11_6, r_19_0, r_21_0, r_23_0, r_25_0, r_27_0, r_61_0, r_117_0, r_117_1, r_117_2, r_117_3, r_117_4, r_117_5, r_117_6, r_117_7, r_126_0, r_126_1, r_126_2, r_126_3, r_126_4, r_132_0, r_132_1, r_135_0, r_135_1, r_135_2, r_135_3, r_135_4, r_135_5, r_142_0, r_144_0, r_144_1, r_144_2, r_145_0, r_145_1, r_145_2, r_145_3, r_145_4, r_145_5, r_145_6, r_154_0, r_154_1, r_155_0, ↓z_m1, l_0, l_1, l_2, l_3, l_4, l_5, l_6, l_7, l_8, l_9, l_10, l_11, l_12, l_13, l_14, l_15, l_16, l_17, l_18, l_19, l_20, l_21, l_22, l_23, l_24, l_25, l_26, l_27, l_28, l_29, l_30, l_31, l_32, l_33, l_34, l_35, l_36, l_37, l_38, l_39, l_40, l_41, l_42, l_43, l_44, l_45, l_46, l_47, l_48, l_49, l_50, l_51, l_52, l_53, l_54, l_55, l_56, l_57, l_59, l_60, l_61, l_62, l_63, l_64, l_65, l_80, l_86, l_87, l_88, l_89, l_90, l_91, l_92, l_93, l_94, l_95, l_97, l_99, l_100, l_107, l_119, l_122, l_124, l_129, l_140, l_141, l_142, l_143, l_144, l_145, l_147, l_150, l_159, l_160, l_161, l_162, l_205, l_253, l_255, l_256, l_269, l_305, l_380, l_399, l_400, l_420, l_430, l_516, l_600, l_720, l_820, l_905, l_921, l_937, l_953, l_970, l_999, l_1000, l_1790, l_4096, l_9999, l_1000000]
    · obtain ⟨σ1, f1, f2⟩ := c_leanOf (lk := z_sl V m man) (hd := i) hC z_F402 hm hk
      have g9 : σ1 129 ((m*5+man)*12+i) = nI (z_lean V m man lk i) := by rw [f1 129 (by omega) (by omega)]; exact h9 i (by omega)
      obtain ⟨σ', g1, g2, g3, g4⟩ := ih (i+1) (q_up σ1 130 (m*12+i) (nI (z_lean V m man (z_sl V m man) i))) (by omega) (by omega) (hC.fr (fun o o1 o2 o3 => by rw [z_upO (by omega), f1 o (by omega) (by omega)])) (fun h hh => by rw [z_upO (by omega), f1 129 (by omega) (by omega)]; exact h9 h hh) (fun h hh => by
        by_cases e : h = i
        · subst e; exact z_upS
        · rw [z_upK (by omega), f1 130 (by omega) (by omega)]; exact h0 h (by omega))
      refine ⟨σ', fun o o1 o2 o3 => by rw [g1 o o1 o2 o3, z_upO o3, f1 o o1 o2], fun a ha => by rw [g2 a ha, z_upK (by omega), f1 130 (by omega) (by omega)], g3, ?_⟩
      have e1 : z_df V m man (i+1) = (z_df V m man i || decide (z_lean V m man (z_sl V m man) i ≠ z_lean V m man (z_lk V m man) i)) := rfl
      have e2 : z_tp2 V m man (i+1) = max (z_tp2 V m man i) (max (z_lean V m man (z_sl V m man) i) (z_lean V m man (z_lk V m man) i)) := rfl
      have b1 : z_lean V m man (z_sl V m man) i ≤ 999 := z_cl_le _ _
      have b2 : z_lean V m man lk i ≤ 999 := z_cl_le _ _
      have b3 := z_tp2_le (V := V) (m := m) (man := man) i
      rw [e1, e2, ← hlk] at g4
      rw [← g4, f_X0_prepareSalted_L64]
      have hsl : z_sl V m man ≤ 99 := by unfold z_sl; omega
      generalize z_lean V m man (z_sl V m man) i = A at *
      generalize z_lean V m man lk i = A2 at *
      generalize z_tp2 V m man i = T at *
      generalize z_df V m man i = D at *
      generalize z_sl V m man = sl at *
      have ez : z_fb false = nI 0 := rfl
      have ez1 : z_fb true = nI 1 := rfl
      cases D with
      | true =>
        rw [Bool.true_or, ez1]
        simp (disch := omega) only [f2, g9, z_mxE, ↓reduceIte, ↓p_ld, ↓p_st, ↓p_nm, ↓p_nS, ↓p_jn, ↓p_call, ↓p_callv, ↓p_dv, ↓p_rem, h_ldE, h_stE, h_nmE, h_nSE, h_callE, h_callvE, h_dvE, h_remE, if_true, if_false, z_upS, z_upO, z_upK, nI_add, z_mul, z_sub, z_div, Nat.add_zero, Nat.mul_zero, Nat.zero_add, Nat.sub_zero, Nat.zero_mul, z_ltT, z_ltF, z_leT, z_leF, z_eqT, z_eqF, z_inT, z_clT, not_true_eq_false, not_false_eq_true, eq_self, true_or, or_true, z_m_lt, z_m_le, z_lt_m, z_le_m, z_eq_m, z_m_eq, z_rz0, z_rz1, z_m_add, z_of, r_0_0, r_0_1, r_0_3, r_0_4, r_0_5, r_0_6, r_0_7, r_0_8, r_0_9, r_0_10, r_1_0, r_1_1, r_1_2, r_1_3, r_1_4, r_1_5, r_1_6, r_1_7, r_1_8, r_2_0, r_2_1, r_2_2, r_2_3, r_2_4, r_2_5, r_2_6, r_2_7, r_11_0, r_11_1, r_11_2, r_11_3, r_11_4, r_11_5, r_11_6, r_19_0, r_21_0, r_23_0, r_25_0, r_27_0, r_61_0, r_117_0, r_117_1, r_117_2, r_117_3, r_117_4, r_117_5, r_117_6, r_117_7, r_126_0, r_126_1, r_126_2, r_126_3, r_126_4, r_132_0, r_132_1, r_135_0, r_135_1, r_135_2, r_135_3, r_135_4, r_135_5, r_142_0, r_144_0, r_144_1, r_144_2, r_145_0, r_145_1, r_145_2, r_145_3, r_145_4, r_145_5, r_145_6, r_154_0, r_154_1, r_155_0, ↓z_m1, l_0, l_1, l_2, l_3, l_4, l_5, l_6, l_7, l_8, l_9, l_10, l_11, l_12, l_13, l_14, l_15, l_16, l_17, l_18, l_19, l_20, l_21, l_22, l_23, l_24, l_25, l_26, l_27, l_28, l_29, l_30, l_31, l_32, l_33, l_34, l_35, l_36, l_37, l_38, l_39, l_40, l_41, l_42, l_43, l_44, l_45, l_46, l_47, l_48, l_49, l_50, l_51, l_52, l_53, l_54, l_55, l_56, l_57, l_59, l_60, l_61, l_62, l_63, l_64, l_65, l_80, l_86, l_87, l_88, l_89, l_90, l_91, l_92, l_93, l_94, l_95, l_97, l_99, l_100, l_107, l_119, l_122, l_124, l_129, l_140, l_141, l_142, l_143, l_144, l_145, l_147, l_150, l_159, l_160, l_161, l_162, l_205, l_253, l_255, l_256, l_269, l_305, l_380, l_399, l_400, l_420, l_430, l_516, l_600, l_720, l_820, l_905, l_921, l_937, l_953, l_970, l_999, l_1000, l_1790, l_4096, l_9999, l_1000000]
      | false =>
        rw [Bool.false_or, ez]
        by_cases q : A = A2
        · subst q
          rw [decide_eq_false (show ¬ A ≠ A from fun h => h rfl), ez]
          simp (disch := omega) only [f2, g9, z_mxE, ↓reduceIte, ↓p_ld, ↓p_st, ↓p_nm, ↓p_nS, ↓p_jn, ↓p_call, ↓p_callv, ↓p_dv, ↓p_rem, h_ldE, h_stE, h_nmE, h_nSE, h_callE, h_callvE, h_dvE, h_remE, if_true, if_false, z_upS, z_upO, z_upK, nI_add, z_mul, z_sub, z_div, Nat.add_zero, Nat.mul_zero, Nat.zero_add, Nat.sub_zero, Nat.zero_mul, z_ltT, z_ltF, z_leT, z_leF, z_eqT, z_eqF, z_inT, z_clT, not_true_eq_false, not_false_eq_true, eq_self, true_or, or_true, z_m_lt, z_m_le, z_lt_m, z_le_m, z_eq_m, z_m_eq, z_rz0, z_rz1, z_m_add, z_of, r_0_0, r_0_1, r_0_3, r_0_4, r_0_5, r_0_6, r_0_7, r_0_8, r_0_9, r_0_10, r_1_0, r_1_1, r_1_2, r_1_3, r_1_4, r_1_5, r_1_6, r_1_7, r_1_8, r_2_0, r_2_1, r_2_2, r_2_3, r_2_4, r_2_5, r_2_6, r_2_7, r_11_0, r_11_1, r_11_2, r_11_3, r_11_4, r_11_5, r_11_6, r_19_0, r_21_0, r_23_0, r_25_0, r_27_0, r_61_0, r_117_0, r_117_1, r_117_2, r_117_3, r_117_4, r_117_5, r_117_6, r_117_7, r_126_0, r_126_1, r_126_2, r_126_3, r_126_4, r_132_0, r_132_1, r_135_0, r_135_1, r_135_2, r_135_3, r_135_4, r_135_5, r_142_0, r_144_0, r_144_1, r_144_2, r_145_0, r_145_1, r_145_2, r_145_3, r_145_4, r_145_5, r_145_6, r_154_0, r_154_1, r_155_0, ↓z_m1, l_0, l_1, l_2, l_3, l_4, l_5, l_6, l_7, l_8, l_9, l_10, l_11, l_12, l_13, l_14, l_15, l_16, l_17, l_18, l_19, l_20, l_21, l_22, l_23, l_24, l_25, l_26, l_27, l_28, l_29, l_30, l_31, l_32, l_33, l_34, l_35, l_36, l_37, l_38, l_39, l_40, l_41, l_42, l_43, l_44, l_45, l_46, l_47, l_48, l_49, l_50, l_51, l_52, l_53, l_54, l_55, l_56, l_57, l_59, l_60, l_61, l_62, l_63, l_64, l_65, l_80, l_86, l_87, l_88, l_89, l_90, l_91, l_92, l_93, l_94, l_95, l_97, l_99, l_100, l_107, l_119, l_122, l_124, l_129, l_140, l_141, l_142, l_143, l_144, l_145, l_147, l_150, l_159, l_160, l_161, l_162, l_205, l_253, l_255, l_256, l_269, l_305, l_380, l_399, l_400, l_420, l_430, l_516, l_600, l_720, l_820, l_905, l_921, l_937, l_953, l_970, l_999, l_1000, l_1790, l_4096, l_9999, l_1000000]
        · rw [decide_eq_true q, ez1]
          simp (disch := omega) only [f2, g9, z_mxE, ↓reduceIte, ↓p_ld, ↓p_st, ↓p_nm, ↓p_nS, ↓p_jn, ↓p_call, ↓p_callv, ↓p_dv, ↓p_rem, h_ldE, h_stE, h_nmE, h_nSE, h_callE, h_callvE, h_dvE, h_remE, if_true, if_false, z_upS, z_upO, z_upK, nI_add, z_mul, z_sub, z_div, Nat.add_zero, Nat.mul_zero, Nat.zero_add, Nat.sub_zero, Nat.zero_mul, z_ltT, z_ltF, z_leT, z_leF, z_eqT, z_eqF, z_inT, z_clT, not_true_eq_false, not_false_eq_true, eq_self, true_or, or_true, z_m_lt, z_m_le, z_lt_m, z_le_m, z_eq_m, z_m_eq, z_rz0, z_rz1, z_m_add, z_of, r_0_0, r_0_1, r_0_3, r_0_4, r_0_5, r_0_6, r_0_7, r_0_8, r_0_9, r_0_10, r_1_0, r_1_1, r_1_2, r_1_3, r_1_4, r_1_5, r_1_6, r_1_7, r_1_8, r_2_0, r_2_1, r_2_2, r_2_3, r_2_4, r_2_5, r_2_6, r_2_7, r_11_0, r_11_1, r_11_2, r_11_3, r_11_4, r_11_5, r_11_6, r_19_0, r_21_0, r_23_0, r_25_0, r_27_0, r_61_0, r_117_0, r_117_1, r_117_2, r_117_3, r_117_4, r_117_5, r_117_6, r_117_7, r_126_0, r_126_1, r_126_2, r_126_3, r_126_4, r_132_0, r_132_1, r_135_0, r_135_1, r_135_2, r_135_3, r_135_4, r_135_5, r_142_0, r_144_0, r_144_1, r_144_2, r_145_0, r_145_1, r_145_2, r_145_3, r_145_4, r_145_5, r_145_6, r_154_0, r_154_1, r_155_0, ↓z_m1, l_0, l_1, l_2, l_3, l_4, l_5, l_6, l_7, l_8, l_9, l_10, l_11, l_12, l_13, l_14, l_15, l_16, l_17, l_18, l_19, l_20, l_21, l_22, l_23, l_24, l_25, l_26, l_27, l_28, l_29, l_30, l_31, l_32, l_33, l_34, l_35, l_36, l_37, l_38, l_39, l_40, l_41, l_42, l_43, l_44, l_45, l_46, l_47, l_48, l_49, l_50, l_51, l_52, l_53, l_54, l_55, l_56, l_57, l_59, l_60, l_61, l_62, l_63, l_64, l_65, l_80, l_86, l_87, l_88, l_89, l_90, l_91, l_92, l_93, l_94, l_95, l_97, l_99, l_100, l_107, l_119, l_122, l_124, l_129, l_140, l_141, l_142, l_143, l_144, l_145, l_147, l_150, l_159, l_160, l_161, l_162, l_205, l_253, l_255, l_256, l_269, l_305, l_380, l_399, l_400, l_420, l_430, l_516, l_600, l_720, l_820, l_905, l_921, l_937, l_953, l_970, l_999, l_1000, l_1790, l_4096, l_9999, l_1000000]
theorem c_pref47 {m man k top N : Nat} {V : Nat → Int32} {σ : q_Sto} {K : Int32 → q_Sto → Option (Int32 × q_Sto)} (hm : m < 12) (hk : k < 5) (hN : N < 12) (h9 : ∀ h, h < N + 1 → σ 129 ((m*5+k)*12+h) = nI (z_lean V m k (z_lk V m k) h)) :
    ∀ j i, i ≤ N + 1 → N + 1 < j + i → f_X0_prefersAnother_L47 q_F 126 (nI m) (nI man) (nI top) (nI k) (nI N) K j (nI (z_ls V m k i)) (nI i) σ = K (nI (z_ls V m k (N+1))) σ := by
  intro j
  induction j with
  | zero => intro i h1 h2; omega
  | succ j ih =>
    intro i h1 h2
    by_cases hi : i = N + 1
    · subst hi
      generalize z_ls V m k (N+1) = z
      rw [f_X0_prefersAnother_L47]
      simp (disch := omega) only [↓reduceIte, ↓p_ld, ↓p_st, ↓p_nm, ↓p_nS, ↓p_jn, ↓p_call, ↓p_callv, ↓p_dv, ↓p_rem, h_ldE, h_stE, h_nmE, h_nSE, h_callE, h_callvE, h_dvE, h_remE, if_true, if_false, z_upS, z_upO, z_upK, nI_add, z_mul, z_sub, z_div, Nat.add_zero, Nat.mul_zero, Nat.zero_add, Nat.sub_zero, Nat.zero_mul, z_ltT, z_ltF, z_leT, z_leF, z_eqT, z_eqF, z_inT, z_clT, not_true_eq_false, not_false_eq_true, eq_self, true_or, or_true, z_m_lt, z_m_le, z_lt_m, z_le_m, z_eq_m, z_m_eq, z_rz0, z_rz1, z_m_add, z_of, r_0_0, r_0_1, r_0_3, r_0_4, r_0_5, r_0_6, r_0_7, r_0_8, r_0_9, r_0_10, r_1_0, r_1_1, r_1_2, r_1_3, r_1_4, r_1_5, r_1_6, r_1_7, r_1_8, r_2_0, r_2_1, r_2_2, r_2_3, r_2_4, r_2_5, r_2_6, r_2_7, r_11_0, r_11_1, r_11_2, r_11_3, r_11_4, r_11_5, r_11_6, r_19_0, r_21_0, r_23_0, r_25_0, r_27_0, r_61_0, r_117_0, r_117_1, r_117_2, r_117_3, r_117_4, r_117_5, r_117_6, r_117_7, r_126_0, r_126_1, r_126_2, r_126_3, r_126_4, r_132_0, r_132_1, r_135_0, r_135_1, r_135_2, r_135_3, r_135_4, r_135_5, r_142_0, r_144_0, r_144_1, r_144_2, r_145_0, r_145_1, r_145_2, r_145_3, r_145_4, r_145_5, r_145_6, r_154_0, r_154_1, r_155_0, ↓z_m1, l_0, l_1, l_2, l_3, l_4, l_5, l_6, l_7, l_8, l_9, l_10, l_11, l_12, l_13, l_14, l_15, l_16, l_17, l_18, l_19, l_20, l_21, l_22, l_23, l_24, l_25, l_26, l_27, l_28, l_29, l_30, l_31, l_32, l_33, l_34, l_35, l_36, l_37, l_38, l_39, l_40, l_41, l_42, l_43, l_44, l_45, l_46, l_47, l_48, l_49, l_50, l_51, l_52, l_53, l_54, l_55, l_56, l_57, l_59, l_60, l_61, l_62, l_63, l_64, l_65, l_80, l_86, l_87, l_88, l_89, l_90, l_91, l_92, l_93, l_94, l_95, l_97, l_99, l_100, l_107, l_119, l_122, l_124, l_129, l_140, l_141, l_142, l_143, l_144, l_145, l_147, l_150, l_159, l_160, l_161, l_162, l_205, l_253, l_255, l_256, l_269, l_305, l_380, l_399, l_400, l_420, l_430, l_516, l_600, l_720, l_820, l_905, l_921, l_937, l_953, l_970, l_999, l_1000, l_1790, l_4096, l_9999, l_1000000]
    · have ih := ih (i+1) (by omega) (by omega)
      have e : z_ls V m k (i+1) = min (z_ls V m k i) (z_lean V m k (z_lk V m k) i) := rfl
      have g := h9 i (by omega)
      have b1 : z_lean V m k (z_lk V m k) i ≤ 999 := z_cl_le _ _
      have b2 := z_ls_9 (V := V) (m := m) (k := k) i
      rw [e] at ih
      rw [← ih, f_X0_prefersAnother_L47]
      generalize z_lean V m k (z_lk V m k) i = A at *
      generalize z_ls V m k i = L at *
      simp (disch := omega) only [g, z_mnE, ↓reduceIte, ↓p_ld, ↓p_st, ↓p_nm, ↓p_nS, ↓p_jn, ↓p_call, ↓p_callv, ↓p_dv, ↓p_rem, h_ldE, h_stE, h_nmE, h_nSE, h_callE, h_callvE, h_dvE, h_remE, if_true, if_false, z_upS, z_upO, z_upK, nI_add, z_mul, z_sub, z_div, Nat.add_zero, Nat.mul_zero, Nat.zero_add, Nat.sub_zero, Nat.zero_mul, z_ltT, z_ltF, z_leT, z_leF, z_eqT, z_eqF, z_inT, z_clT, not_true_eq_false, not_false_eq_true, eq_self, true_or, or_true, z_m_lt, z_m_le, z_lt_m, z_le_m, z_eq_m, z_m_eq, z_rz0, z_rz1, z_m_add, z_of, r_0_0, r_0_1, r_0_3, r_0_4, r_0_5, r_0_6, r_0_7, r_0_8, r_0_9, r_0_10, r_1_0, r_1_1, r_1_2, r_1_3, r_1_4, r_1_5, r_1_6, r_1_7, r_1_8, r_2_0, r_2_1, r_2_2, r_2_3, r_2_4, r_2_5, r_2_6, r_2_7, r_11_0, r_11_1, r_11_2, r_11_3, r_11_4, r_11_5, r_11_6, r_19_0, r_21_0, r_23_0, r_25_0, r_27_0, r_61_0, r_117_0, r_117_1, r_117_2, r_117_3, r_117_4, r_117_5, r_117_6, r_117_7, r_126_0, r_126_1, r_126_2, r_126_3, r_126_4, r_132_0, r_132_1, r_135_0, r_135_1, r_135_2, r_135_3, r_135_4, r_135_5, r_142_0, r_144_0, r_144_1, r_144_2, r_145_0, r_145_1, r_145_2, r_145_3, r_145_4, r_145_5, r_145_6, r_154_0, r_154_1, r_155_0, ↓z_m1, l_0, l_1, l_2, l_3, l_4, l_5, l_6, l_7, l_8, l_9, l_10, l_11, l_12, l_13, l_14, l_15, l_16, l_17, l_18, l_19, l_20, l_21, l_22, l_23, l_24, l_25, l_26, l_27, l_28, l_29, l_30, l_31, l_32, l_33, l_34, l_35, l_36, l_37, l_38, l_39, l_40, l_41, l_42, l_43, l_44, l_45, l_46, l_47, l_48, l_49, l_50, l_51, l_52, l_53, l_54, l_55, l_56, l_57, l_59, l_60, l_61, l_62, l_63, l_64, l_65, l_80, l_86, l_87, l_88, l_89, l_90, l_91, l_92, l_93, l_94, l_95, l_97, l_99, l_100, l_107, l_119, l_122, l_124, l_129, l_140, l_141, l_142, l_143, l_144, l_145, l_147, l_150, l_159, l_160, l_161, l_162, l_205, l_253, l_255, l_256, l_269, l_305, l_380, l_399, l_400, l_420, l_430, l_516, l_600, l_720, l_820, l_905, l_921, l_937, l_953, l_970, l_999, l_1000, l_1790, l_4096, l_9999, l_1000000]
theorem c_pref_L {m man top N mu me : Nat} {V : Nat → Int32} {σ : q_Sto} (hmu : mu ≤ 12) (hm : m < mu) (hme : me ≤ 5) (hman : man < me) (htop : top ≤ 999) (hs : z_hs V m < 4096) (hcn : z_cnt (z_hs V m) 12 = N) (hN : N < 12) (h6 : σ 126 6 = nI me) (h8 : σ 128 m = nI (z_hs V m)) (h9 : ∀ k h, k < me → h < N + 1 → σ 129 ((m*5+k)*12+h) = nI (z_lean V m k (z_lk V m k) h)) :
    ∀ i k f, k + i = me → f_X0_prefersAnother_L3 q_F 126 (nI m) (nI man) (nI top) (i+1+f) (nI k) σ = some (z_fb (z_pf V m man top (N+1) i k), σ) := by
  have ec := c_bitCount (n := q_F) (σ := σ) hs
  rw [hcn] at ec
  intro i
  induction i with
  | zero =>
    intro k f hk
    rw [show 0 + 1 + f = f + 1 by omega, f_X0_prefersAnother_L3]
    have ez : z_fb (z_pf V m man top (N+1) 0 k) = nI 0 := rfl
    rw [ez]
    simp (disch := omega) only [h6, ↓reduceIte, ↓p_ld, ↓p_st, ↓p_nm, ↓p_nS, ↓p_jn, ↓p_call, ↓p_callv, ↓p_dv, ↓p_rem, h_ldE, h_stE, h_nmE, h_nSE, h_callE, h_callvE, h_dvE, h_remE, if_true, if_false, z_upS, z_upO, z_upK, nI_add, z_mul, z_sub, z_div, Nat.add_zero, Nat.mul_zero, Nat.zero_add, Nat.sub_zero, Nat.zero_mul, z_ltT, z_ltF, z_leT, z_leF, z_eqT, z_eqF, z_inT, z_clT, not_true_eq_false, not_false_eq_true, eq_self, true_or, or_true, z_m_lt, z_m_le, z_lt_m, z_le_m, z_eq_m, z_m_eq, z_rz0, z_rz1, z_m_add, z_of, r_0_0, r_0_1, r_0_3, r_0_4, r_0_5, r_0_6, r_0_7, r_0_8, r_0_9, r_0_10, r_1_0, r_1_1, r_1_2, r_1_3, r_1_4, r_1_5, r_1_6, r_1_7, r_1_8, r_2_0, r_2_1, r_2_2, r_2_3, r_2_4, r_2_5, r_2_6, r_2_7, r_11_0, r_11_1, r_11_2, r_11_3, r_11_4, r_11_5, r_11_6, r_19_0, r_21_0, r_23_0, r_25_0, r_27_0, r_61_0, r_117_0, r_117_1, r_117_2, r_117_3, r_117_4, r_117_5, r_117_6, r_117_7, r_126_0, r_126_1, r_126_2, r_126_3, r_126_4, r_132_0, r_132_1, r_135_0, r_135_1, r_135_2, r_135_3, r_135_4, r_135_5, r_142_0, r_144_0, r_144_1, r_144_2, r_145_0, r_145_1, r_145_2, r_145_3, r_145_4, r_145_5, r_145_6, r_154_0, r_154_1, r_155_0, ↓z_m1, l_0, l_1, l_2, l_3, l_4, l_5, l_6, l_7, l_8, l_9, l_10, l_11, l_12, l_13, l_14, l_15, l_16, l_17, l_18, l_19, l_20, l_21, l_22, l_23, l_24, l_25, l_26, l_27, l_28, l_29, l_30, l_31, l_32, l_33, l_34, l_35, l_36, l_37, l_38, l_39, l_40, l_41, l_42, l_43, l_44, l_45, l_46, l_47, l_48, l_49, l_50, l_51, l_52, l_53, l_54, l_55, l_56, l_57, l_59, l_60, l_61, l_62, l_63, l_64, l_65, l_80, l_86, l_87, l_88, l_89, l_90, l_91, l_92, l_93, l_94, l_95, l_97, l_99, l_100, l_107, l_119, l_122, l_124, l_129, l_140, l_141, l_142, l_143, l_144, l_145, l_147, l_150, l_159, l_160, l_161, l_162, l_205, l_253, l_255, l_256, l_269, l_305, l_380, l_399, l_400, l_420, l_430, l_516, l_600, l_720, l_820, l_905, l_921, l_937, l_953, l_970, l_999, l_1000, l_1790, l_4096, l_9999, l_1000000]
  | succ i ih =>
    intro k f hk
    have ih := ih (k+1) f (by omega)
    have e : z_pf V m man top (N+1) (i+1) k = if k ≠ man ∧ (top < z_ls V m k (N+1) ∨ (z_ls V m k (N+1) = top ∧ k < man)) then true else z_pf V m man top (N+1) i (k+1) := rfl
    have b2 := z_ls_9 (V := V) (m := m) (k := k) (N+1)
    have e47 := fun K => c_pref47 (man := man) (top := top) (σ := σ) (K := K) (show m < 12 by omega) (show k < 5 by omega) hN (fun h hh => h9 k h (by omega) hh) q_F 0 (Nat.zero_le _) (by unfold q_F; omega)
    have e0 : z_ls V m k 0 = 999 := rfl
    rw [e0] at e47
    have ez : z_fb true = nI 1 := rfl
    generalize z_ls V m k (N+1) = L at *
    by_cases q : k = man
    · subst q
      have e := e.trans (if_neg (fun h => h.1 rfl))
      rw [e, ← ih, show i + 1 + 1 + f = (i + 1 + f) + 1 by omega, f_X0_prefersAnother_L3]
      simp (disch := omega) only [h6, h8, ec, e47, ↓reduceIte, ↓p_ld, ↓p_st, ↓p_nm, ↓p_nS, ↓p_jn, ↓p_call, ↓p_callv, ↓p_dv, ↓p_rem, h_ldE, h_stE, h_nmE, h_nSE, h_callE, h_callvE, h_dvE, h_remE, if_true, if_false, z_upS, z_upO, z_upK, nI_add, z_mul, z_sub, z_div, Nat.add_zero, Nat.mul_zero, Nat.zero_add, Nat.sub_zero, Nat.zero_mul, z_ltT, z_ltF, z_leT, z_leF, z_eqT, z_eqF, z_inT, z_clT, not_true_eq_false, not_false_eq_true, eq_self, true_or, or_true, z_m_lt, z_m_le, z_lt_m, z_le_m, z_eq_m, z_m_eq, z_rz0, z_rz1, z_m_add, z_of, r_0_0, r_0_1, r_0_3, r_0_4, r_0_5, r_0_6, r_0_7, r_0_8, r_0_9, r_0_10, r_1_0, r_1_1, r_1_2, r_1_3, r_1_4, r_1_5, r_1_6, r_1_7, r_1_8, r_2_0, r_2_1, r_2_2, r_2_3, r_2_4, r_2_5, r_2_6, r_2_7, r_11_0, r_11_1, r_11_2, r_11_3, r_11_4, r_11_5, r_11_6, r_19_0, r_21_0, r_23_0, r_25_0, r_27_0, r_61_0, r_117_0, r_117_1, r_117_2, r_117_3, r_117_4, r_117_5, r_117_6, r_117_7, r_126_0, r_126_1, r_126_2, r_126_3, r_126_4, r_132_0, r_132_1, r_135_0, r_135_1, r_135_2, r_135_3, r_135_4, r_135_5, r_142_0, r_144_0, r_144_1, r_144_2, r_145_0, r_145_1, r_145_2, r_145_3, r_145_4, r_145_5, r_145_6, r_154_0, r_154_1, r_155_0, ↓z_m1, l_0, l_1, l_2, l_3, l_4, l_5, l_6, l_7, l_8, l_9, l_10, l_11, l_12, l_13, l_14, l_15, l_16, l_17, l_18, l_19, l_20, l_21, l_22, l_23, l_24, l_25, l_26, l_27, l_28, l_29, l_30, l_31, l_32, l_33, l_34, l_35, l_36, l_37, l_38, l_39, l_40, l_41, l_42, l_43, l_44, l_45, l_46, l_47, l_48, l_49, l_50, l_51, l_52, l_53, l_54, l_55, l_56, l_57, l_59, l_60, l_61, l_62, l_63, l_64, l_65, l_80, l_86, l_87, l_88, l_89, l_90, l_91, l_92, l_93, l_94, l_95, l_97, l_99, l_100, l_107, l_119, l_122, l_124, l_129, l_140, l_141, l_142, l_143, l_144, l_145, l_147, l_150, l_159, l_160, l_161, l_162, l_205, l_253, l_255, l_256, l_269, l_305, l_380, l_399, l_400, l_420, l_430, l_516, l_600, l_720, l_820, l_905, l_921, l_937, l_953, l_970, l_999, l_1000, l_1790, l_4096, l_9999, l_1000000]
    · by_cases q2 : top < L
      · have e := e.trans (if_pos ⟨q, Or.inl q2⟩)
        rw [e, ez, show i + 1 + 1 + f = (i + 1 + f) + 1 by omega, f_X0_prefersAnother_L3]
        simp (disch := omega) only [h6, h8, ec, e47, ↓reduceIte, ↓p_ld, ↓p_st, ↓p_nm, ↓p_nS, ↓p_jn, ↓p_call, ↓p_callv, ↓p_dv, ↓p_rem, h_ldE, h_stE, h_nmE, h_nSE, h_callE, h_callvE, h_dvE, h_remE, if_true, if_false, z_upS, z_upO, z_upK, nI_add, z_mul, z_sub, z_div, Nat.add_zero, Nat.mul_zero, Nat.zero_add, Nat.sub_zero, Nat.zero_mul, z_ltT, z_ltF, z_leT, z_leF, z_eqT, z_eqF, z_inT, z_clT, not_true_eq_false, not_false_eq_true, eq_self, true_or, or_true, z_m_lt, z_m_le, z_lt_m, z_le_m, z_eq_m, z_m_eq, z_rz0, z_rz1, z_m_add, z_of, r_0_0, r_0_1, r_0_3, r_0_4, r_0_5, r_0_6, r_0_7, r_0_8, r_0_9, r_0_10, r_1_0, r_1_1, r_1_2, r_1_3, r_1_4, r_1_5, r_1_6, r_1_7, r_1_8, r_2_0, r_2_1, r_2_2, r_2_3, r_2_4, r_2_5, r_2_6, r_2_7, r_11_0, r_11_1, r_11_2, r_11_3, r_11_4, r_11_5, r_11_6, r_19_0, r_21_0, r_23_0, r_25_0, r_27_0, r_61_0, r_117_0, r_117_1, r_117_2, r_117_3, r_117_4, r_117_5, r_117_6, r_117_7, r_126_0, r_126_1, r_126_2, r_126_3, r_126_4, r_132_0, r_132_1, r_135_0, r_135_1, r_135_2, r_135_3, r_135_4, r_135_5, r_142_0, r_144_0, r_144_1, r_144_2, r_145_0, r_145_1, r_145_2, r_145_3, r_145_4, r_145_5, r_145_6, r_154_0, r_154_1, r_155_0, ↓z_m1, l_0, l_1, l_2, l_3, l_4, l_5, l_6, l_7, l_8, l_9, l_10, l_11, l_12, l_13, l_14, l_15, l_16, l_17, l_18, l_19, l_20, l_21, l_22, l_23, l_24, l_25, l_26, l_27, l_28, l_29, l_30, l_31, l_32, l_33, l_34, l_35, l_36, l_37, l_38, l_39, l_40, l_41, l_42, l_43, l_44, l_45, l_46, l_47, l_48, l_49, l_50, l_51, l_52, l_53, l_54, l_55, l_56, l_57, l_59, l_60, l_61, l_62, l_63, l_64, l_65, l_80, l_86, l_87, l_88, l_89, l_90, l_91, l_92, l_93, l_94, l_95, l_97, l_99, l_100, l_107, l_119, l_122, l_124, l_129, l_140, l_141, l_142, l_143, l_144, l_145, l_147, l_150, l_159, l_160, l_161, l_162, l_205, l_253, l_255, l_256, l_269, l_305, l_380, l_399, l_400, l_420, l_430, l_516, l_600, l_720, l_820, l_905, l_921, l_937, l_953, l_970, l_999, l_1000, l_1790, l_4096, l_9999, l_1000000]
      · by_cases q3 : L = top
        · by_cases q4 : k < man
          · have e := e.trans (if_pos ⟨q, Or.inr ⟨q3, q4⟩⟩)
            rw [e, ez, show i + 1 + 1 + f = (i + 1 + f) + 1 by omega, f_X0_prefersAnother_L3]
            simp (disch := omega) only [h6, h8, ec, e47, ↓reduceIte, ↓p_ld, ↓p_st, ↓p_nm, ↓p_nS, ↓p_jn, ↓p_call, ↓p_callv, ↓p_dv, ↓p_rem, h_ldE, h_stE, h_nmE, h_nSE, h_callE, h_callvE, h_dvE, h_remE, if_true, if_false, z_upS, z_upO, z_upK, nI_add, z_mul, z_sub, z_div, Nat.add_zero, Nat.mul_zero, Nat.zero_add, Nat.sub_zero, Nat.zero_mul, z_ltT, z_ltF, z_leT, z_leF, z_eqT, z_eqF, z_inT, z_clT, not_true_eq_false, not_false_eq_true, eq_self, true_or, or_true, z_m_lt, z_m_le, z_lt_m, z_le_m, z_eq_m, z_m_eq, z_rz0, z_rz1, z_m_add, z_of, r_0_0, r_0_1, r_0_3, r_0_4, r_0_5, r_0_6, r_0_7, r_0_8, r_0_9, r_0_10, r_1_0, r_1_1, r_1_2, r_1_3, r_1_4, r_1_5, r_1_6, r_1_7, r_1_8, r_2_0, r_2_1, r_2_2, r_2_3, r_2_4, r_2_5, r_2_6, r_2_7, r_11_0, r_11_1, r_11_2, r_11_3, r_11_4, r_11_5, r_11_6, r_19_0, r_21_0, r_23_0, r_25_0, r_27_0, r_61_0, r_117_0, r_117_1, r_117_2, r_117_3, r_117_4, r_117_5, r_117_6, r_117_7, r_126_0, r_126_1, r_126_2, r_126_3, r_126_4, r_132_0, r_132_1, r_135_0, r_135_1, r_135_2, r_135_3, r_135_4, r_135_5, r_142_0, r_144_0, r_144_1, r_144_2, r_145_0, r_145_1, r_145_2, r_145_3, r_145_4, r_145_5, r_145_6, r_154_0, r_154_1, r_155_0, ↓z_m1, l_0, l_1, l_2, l_3, l_4, l_5, l_6, l_7, l_8, l_9, l_10, l_11, l_12, l_13, l_14, l_15, l_16, l_17, l_18, l_19, l_20, l_21, l_22, l_23, l_24, l_25, l_26, l_27, l_28, l_29, l_30, l_31, l_32, l_33, l_34, l_35, l_36, l_37, l_38, l_39, l_40, l_41, l_42, l_43, l_44, l_45, l_46, l_47, l_48, l_49, l_50, l_51, l_52, l_53, l_54, l_55, l_56, l_57, l_59, l_60, l_61, l_62, l_63, l_64, l_65, l_80, l_86, l_87, l_88, l_89, l_90, l_91, l_92, l_93, l_94, l_95, l_97, l_99, l_100, l_107, l_119, l_122, l_124, l_129, l_140, l_141, l_142, l_143, l_144, l_145, l_147, l_150, l_159, l_160, l_161, l_162, l_205, l_253, l_255, l_256, l_269, l_305, l_380, l_399, l_400, l_420, l_430, l_516, l_600, l_720, l_820, l_905, l_921, l_937, l_953, l_970, l_999, l_1000, l_1790, l_4096, l_9999, l_1000000]
          · have e := e.trans (if_neg (fun h => by rcases h.2 with h | h <;> omega))
            rw [e, ← ih, show i + 1 + 1 + f = (i + 1 + f) + 1 by omega, f_X0_prefersAnother_L3]
            simp (disch := omega) only [h6, h8, ec, e47, ↓reduceIte, ↓p_ld, ↓p_st, ↓p_nm, ↓p_nS, ↓p_jn, ↓p_call, ↓p_callv, ↓p_dv, ↓p_rem, h_ldE, h_stE, h_nmE, h_nSE, h_callE, h_callvE, h_dvE, h_remE, if_true, if_false, z_upS, z_upO, z_upK, nI_add, z_mul, z_sub, z_div, Nat.add_zero, Nat.mul_zero, Nat.zero_add, Nat.sub_zero, Nat.zero_mul, z_ltT, z_ltF, z_leT, z_leF, z_eqT, z_eqF, z_inT, z_clT, not_true_eq_false, not_false_eq_true, eq_self, true_or, or_true, z_m_lt, z_m_le, z_lt_m, z_le_m, z_eq_m, z_m_eq, z_rz0, z_rz1, z_m_add, z_of, r_0_0, r_0_1, r_0_3, r_0_4, r_0_5, r_0_6, r_0_7, r_0_8, r_0_9, r_0_10, r_1_0, r_1_1, r_1_2, r_1_3, r_1_4, r_1_5, r_1_6, r_1_7, r_1_8, r_2_0, r_2_1, r_2_2, r_2_3, r_2_4, r_2_5, r_2_6, r_2_7, r_11_0, r_11_1, r_11_2, r_11_3, r_11_4, r_11_5, r_11_6, r_19_0, r_21_0, r_23_0, r_25_0, r_27_0, r_61_0, r_117_0, r_117_1, r_117_2, r_117_3, r_117_4, r_117_5, r_117_6, r_117_7, r_126_0, r_126_1, r_126_2, r_126_3, r_126_4, r_132_0, r_132_1, r_135_0, r_135_1, r_135_2, r_135_3, r_135_4, r_135_5, r_142_0, r_144_0, r_144_1, r_144_2, r_145_0, r_145_1, r_145_2, r_145_3, r_145_4, r_145_5, r_145_6, r_154_0, r_154_1, r_155_0, ↓z_m1, l_0, l_1, l_2, l_3, l_4, l_5, l_6, l_7, l_8, l_9, l_10, l_11, l_12, l_13, l_14, l_15, l_16, l_17, l_18, l_19, l_20, l_21, l_22, l_23, l_24, l_25, l_26, l_27, l_28, l_29, l_30, l_31, l_32, l_33, l_34, l_35, l_36, l_37, l_38, l_39, l_40, l_41, l_42, l_43, l_44, l_45, l_46, l_47, l_48, l_49, l_50, l_51, l_52, l_53, l_54, l_55, l_56, l_57, l_59, l_60, l_61, l_62, l_63, l_64, l_65, l_80, l_86, l_87, l_88, l_89, l_90, l_91, l_92, l_93, l_94, l_95, l_97, l_99, l_100, l_107, l_119, l_122, l_124, l_129, l_140, l_141, l_142, l_143, l_144, l_145, l_147, l_150, l_159, l_160, l_161, l_162, l_205, l_253, l_255, l_256, l_269, l_305, l_380, l_399, l_400, l_420, l_430, l_516, l_600, l_720, l_820, l_905, l_921, l_937, l_953, l_970, l_999, l_1000, l_1790, l_4096, l_9999, l_1000000]
        · have e := e.trans (if_neg (fun h => by rcases h.2 with h | h <;> omega))
          rw [e, ← ih, show i + 1 + 1 + f = (i + 1 + f) + 1 by omega, f_X0_prefersAnother_L3]
          simp (disch := omega) only [h6, h8, ec, e47, ↓reduceIte, ↓p_ld, ↓p_st, ↓p_nm, ↓p_nS, ↓p_jn, ↓p_call, ↓p_callv, ↓p_dv, ↓p_rem, h_ldE, h_stE, h_nmE, h_nSE, h_callE, h_callvE, h_dvE, h_remE, if_true, if_false, z_upS, z_upO, z_upK, nI_add, z_mul, z_sub, z_div, Nat.add_zero, Nat.mul_zero, Nat.zero_add, Nat.sub_zero, Nat.zero_mul, z_ltT, z_ltF, z_leT, z_leF, z_eqT, z_eqF, z_inT, z_clT, not_true_eq_false, not_false_eq_true, eq_self, true_or, or_true, z_m_lt, z_m_le, z_lt_m, z_le_m, z_eq_m, z_m_eq, z_rz0, z_rz1, z_m_add, z_of, r_0_0, r_0_1, r_0_3, r_0_4, r_0_5, r_0_6, r_0_7, r_0_8, r_0_9, r_0_10, r_1_0, r_1_1, r_1_2, r_1_3, r_1_4, r_1_5, r_1_6, r_1_7, r_1_8, r_2_0, r_2_1, r_2_2, r_2_3, r_2_4, r_2_5, r_2_6, r_2_7, r_11_0, r_11_1, r_11_2, r_11_3, r_11_4, r_11_5, r_11_6, r_19_0, r_21_0, r_23_0, r_25_0, r_27_0, r_61_0, r_117_0, r_117_1, r_117_2, r_117_3, r_117_4, r_117_5, r_117_6, r_117_7, r_126_0, r_126_1, r_126_2, r_126_3, r_126_4, r_132_0, r_132_1, r_135_0, r_135_1, r_135_2, r_135_3, r_135_4, r_135_5, r_142_0, r_144_0, r_144_1, r_144_2, r_145_0, r_145_1, r_145_2, r_145_3, r_145_4, r_145_5, r_145_6, r_154_0, r_154_1, r_155_0, ↓z_m1, l_0, l_1, l_2, l_3, l_4, l_5, l_6, l_7, l_8, l_9, l_10, l_11, l_12, l_13, l_14, l_15, l_16, l_17, l_18, l_19, l_20, l_21, l_22, l_23, l_24, l_25, l_26, l_27, l_28, l_29, l_30, l_31, l_32, l_33, l_34, l_35, l_36, l_37, l_38, l_39, l_40, l_41, l_42, l_43, l_44, l_45, l_46, l_47, l_48, l_49, l_50, l_51, l_52, l_53, l_54, l_55, l_56, l_57, l_59, l_60, l_61, l_62, l_63, l_64, l_65, l_80, l_86, l_87, l_88, l_89, l_90, l_91, l_92, l_93, l_94, l_95, l_97, l_99, l_100, l_107, l_119, l_122, l_124, l_129, l_140, l_141, l_142, l_143, l_144, l_145, l_147, l_150, l_159, l_160, l_161, l_162, l_205, l_253, l_255, l_256, l_269, l_305, l_380, l_399, l_400, l_420, l_430, l_516, l_600, l_720, l_820, l_905, l_921, l_937, l_953, l_970, l_999, l_1000, l_1790, l_4096, l_9999, l_1000000]
theorem c_prep_L {man mu me : Nat} {V : Nat → Int32} {K : Int32 → q_Sto → Option (Int32 × q_Sto)} (hman : man < me) :
    ∀ j i (σ : q_Sto), i ≤ mu → mu < j + i → z_C σ V mu me → z_B0 σ (z_bt V mu me) → z_B1 σ (z_bt V mu me) 0 z_m → (∀ m h, m < i → h < z_cnt (z_hs V m) 12 + 1 → σ 130 (m*12+h) = nI (z_lean V m man (z_sl V m man) h)) →
    ∃ σ', (∀ o, o ≠ 18 → o ≠ 30 → o ≠ 130 → σ' o = σ o) ∧ (∀ m h, m < mu → h < z_cnt (z_hs V m) 12 + 1 → σ' 130 (m*12+h) = nI (z_lean V m man (z_sl V m man) h)) ∧
      f_X0_prepareSalted_L5 q_F 126 1 (nI man) K j (nI (z_set (z_mq V man me) i)) (nI i) σ = K (nI (z_set (z_mq V man me) mu)) σ' := by
  intro j
  induction j with
  | zero => intro i σ h1 h2; omega
  | succ j ih =>
    intro i σ h1 h2 hC hB0 hB1 h0
    have hmu := hC.1.1
    have hme := hC.1.2.1
    have h5 : σ 126 5 = nI mu := hB0.1
    have h6 : σ 126 6 = nI me := hB0.2.1
    by_cases hi : i = mu
    · subst hi
      refine ⟨σ, fun o _ _ _ => rfl, h0, ?_⟩
      generalize z_set (z_mq V man me) i = y
      rw [f_X0_prepareSalted_L5]
      simp (disch := omega) only [h5, ↓reduceIte, ↓p_ld, ↓p_st, ↓p_nm, ↓p_nS, ↓p_jn, ↓p_call, ↓p_callv, ↓p_dv, ↓p_rem, h_ldE, h_stE, h_nmE, h_nSE, h_callE, h_callvE, h_dvE, h_remE, if_true, if_false, z_upS, z_upO, z_upK, nI_add, z_mul, z_sub, z_div, Nat.add_zero, Nat.mul_zero, Nat.zero_add, Nat.sub_zero, Nat.zero_mul, z_ltT, z_ltF, z_leT, z_leF, z_eqT, z_eqF, z_inT, z_clT, not_true_eq_false, not_false_eq_true, eq_self, true_or, or_true, z_m_lt, z_m_le, z_lt_m, z_le_m, z_eq_m, z_m_eq, z_rz0, z_rz1, z_m_add, z_of, r_0_0, r_0_1, r_0_3, r_0_4, r_0_5, r_0_6, r_0_7, r_0_8, r_0_9, r_0_10, r_1_0, r_1_1, r_1_2, r_1_3, r_1_4, r_1_5, r_1_6, r_1_7, r_1_8, r_2_0, r_2_1, r_2_2, r_2_3, r_2_4, r_2_5, r_2_6, r_2_7, r_11_0, r_11_1, r_11_2, r_11_3, r_11_4, r_11_5, r_11_6, r_19_0, r_21_0, r_23_0, r_25_0, r_27_0, r_61_0, r_117_0, r_117_1, r_117_2, r_117_3, r_117_4, r_117_5, r_117_6, r_117_7, r_126_0, r_126_1, r_126_2, r_126_3, r_126_4, r_132_0, r_132_1, r_135_0, r_135_1, r_135_2, r_135_3, r_135_4, r_135_5, r_142_0, r_144_0, r_144_1, r_144_2, r_145_0, r_145_1, r_145_2, r_145_3, r_145_4, r_145_5, r_145_6, r_154_0, r_154_1, r_155_0, ↓z_m1, l_0, l_1, l_2, l_3, l_4, l_5, l_6, l_7, l_8, l_9, l_10, l_11, l_12, l_13, l_14, l_15, l_16, l_17, l_18, l_19, l_20, l_21, l_22, l_23, l_24, l_25, l_26, l_27, l_28, l_29, l_30, l_31, l_32, l_33, l_34, l_35, l_36, l_37, l_38, l_39, l_40, l_41, l_42, l_43, l_44, l_45, l_46, l_47, l_48, l_49, l_50, l_51, l_52, l_53, l_54, l_55, l_56, l_57, l_59, l_60, l_61, l_62, l_63, l_64, l_65, l_80, l_86, l_87, l_88, l_89, l_90, l_91, l_92, l_93, l_94, l_95, l_97, l_99, l_100, l_107, l_119, l_122, l_124, l_129, l_140, l_141, l_142, l_143, l_144, l_145, l_147, l_150, l_159, l_160, l_161, l_162, l_205, l_253, l_255, l_256, l_269, l_305, l_380, l_399, l_400, l_420, l_430, l_516, l_600, l_720, l_820, l_905, l_921, l_937, l_953, l_970, l_999, l_1000, l_1790, l_4096, l_9999, l_1000000]
    · obtain ⟨y1, y2, y3⟩ := z_hsE hmu hC.2.2.2.1 (m := i) (by omega)
      have h12 := z_p12 hmu
      have hmo : z_cnt (z_hs V i) 12 < 12 := z_cnt_lt y3 12 (by omega)
      have t9 : ∀ k h, k < me → h < z_cnt (z_hs V i) 12 + 1 → σ 129 ((i*5+k)*12+h) = nI (z_lean V i k (z_lk V i k) h) := fun k h hk hh => by
        have := hB1 i k h (show i < mu by omega) hk (Nat.le_of_lt_succ hh)
        rw [Nat.zero_testBit, if_neg (show ¬ false = true by decide), if_neg (fun q => by rw [z_eq_m (by omega)] at q; exact q)] at this
        exact this
      have t8 : σ 128 i = nI (z_hs V i) := hB0.2.2.2 i (show i < mu by omega)
      have t7 : σ 127 i = nI (z_need V i) := hB0.2.2.1 i (show i < mu by omega)
      have hnd : z_need V i ≤ 999 := z_cl_le _ _
      have el := c_likingFor (n := q_F) hmu hme hC.2.1 (show i < mu by omega) hman
      have elk := (z_leE (hC.1.2.2.2.2.2.2.1 i man (by omega) hman) (by omega)).1
      have elk2 := (z_leE (hC.1.2.2.2.2.2.2.1 i man (by omega) hman) (by omega)).2
      have elk : V (20+5*i+man) = nI (z_lk V i man) := elk
      have elk2 : z_lk V i man ≤ 99 := elk2
      rw [elk] at el
      have ec := c_bitCount (n := q_F) (s := z_hs V i) (σ := σ) (by omega)
      obtain ⟨σ1, f1, f2, f3, f4⟩ := c_prepH (N := z_cnt (z_hs V i) 12) (x3 := nI (z_set (z_mq V man me) i)) (K := fun (y21 : Int32) (y22 : Int32) (s23 : q_Sto) =>
    if y21 = 0 then (
    f_X0_prepareSalted_L5 q_F 126 1 (nI man) K j (nI (z_set (z_mq V man me) i)) (nI i + 1) s23)
    else (
    q_ld s23 (q_RF 126 0) (nI i) 12 fun v25 =>
    if y22 < v25 then (
    f_X0_prepareSalted_L5 q_F 126 1 (nI man) K j (nI (z_set (z_mq V man me) i)) (nI i + 1) s23)
    else (
    q_call (f_X0_prefersAnother q_F 126 (nI i) (nI man) y22 s23) fun r28 s27 =>
    if r28 = 0 then (
    q_nm (nI (z_set (z_mq V man me) i) ||| (1 <<< (nI i &&& 31))) fun v30 =>
    f_X0_prepareSalted_L5 q_F 126 1 (nI man) K j v30 (nI i + 1) s27)
    else (
    f_X0_prepareSalted_L5 q_F 126 1 (nI man) K j (nI (z_set (z_mq V man me) i)) (nI i + 1) s27)))) (show i < mu by omega) hman hmo rfl q_F 0 σ (Nat.zero_le _) (by unfold q_F; omega) hC (fun h hh => t9 man h hman hh) (fun h hh => by omega)
      have hC1 : z_C σ1 V mu me := hC.fr (fun o o1 o2 o3 => f1 o (by omega) (by omega) (by omega))
      have e126 := f1 126 (by omega) (by omega) (by omega)
      have e127 := f1 127 (by omega) (by omega) (by omega)
      have e128 := f1 128 (by omega) (by omega) (by omega)
      have e129 := f1 129 (by omega) (by omega) (by omega)
      have hB1' : z_B1 σ1 (z_bt V mu me) 0 z_m := fun m k h hm hk hh => by
        have := hB1 m k h hm hk hh
        have hk5 : k < me := hk
        rw [Nat.zero_testBit, if_neg (show ¬ false = true by decide), if_neg (fun q => by rw [z_eq_m (by omega)] at q; exact q)] at this ⊢
        rw [e129]; exact this
      obtain ⟨σ', g1, g2, g3⟩ := ih (i+1) σ1 (by omega) (by omega) hC1 (hB0.fr (by rw [e126]) (by rw [e126]) e127 e128) hB1' (fun m h hm hh => by
        by_cases q : m = i
        · subst q; exact f3 h hh
        · have hlt : z_cnt (z_hs V m) 12 < 12 := z_cnt_lt (z_hsE hmu hC.2.2.2.1 (m := m) (by omega)).2.2 12 (by omega)
          rw [f2 _ (by omega)]; exact h0 m h (by omega) hh)
      refine ⟨σ', fun o o1 o2 o3 => by rw [g1 o o1 o2 o3, f1 o o1 o2 o3], g2, ?_⟩
      have esl : q_mn (nI 99) (nI (z_lk V i man + 15)) = nI (z_sl V i man) := by
        rw [z_mnE (by omega) (by omega)]; rfl
      have esh := z_shl (m := i) (by omega)
      have ed0 : z_fb (z_df V i man 0) = nI 0 := rfl
      have et0 : z_tp2 V i man 0 = 0 := rfl
      rw [ed0, et0] at f4
      have htp := z_tp2_le (V := V) (m := i) (man := man) (z_cnt (z_hs V i) 12 + 1)
      have epf := c_pref_L (σ := σ1) hmu (show i < mu by omega) hme hman htp (show z_hs V i < 4096 by omega) rfl hmo (by rw [e126]; exact h6) (by rw [e128]; exact t8) (fun k h hk hh => by rw [e129]; exact t9 k h hk hh) me 0 (q_F - me - 1) (by omega)
      rw [show me + 1 + (q_F - me - 1) = q_F by unfold q_F; omega] at epf
      have epf : f_X0_prefersAnother q_F 126 (nI i) (nI man) (nI (z_tp2 V i man (z_cnt (z_hs V i) 12 + 1))) σ1 = _ := epf
      have t71 : σ1 127 i = nI (z_need V i) := by rw [e127]; exact t7
      have fin : f_X0_prepareSalted_L5 q_F 126 1 (nI man) K (j+1) (nI (z_set (z_mq V man me) i)) (nI i) σ = f_X0_prepareSalted_L64 q_F 126 1 (nI man) (nI (z_set (z_mq V man me) i)) (nI i) (nI (z_sl V i man)) (nI (z_cnt (z_hs V i) 12)) (fun (y21 : Int32) (y22 : Int32) (s23 : q_Sto) =>
    if y21 = 0 then (
    f_X0_prepareSalted_L5 q_F 126 1 (nI man) K j (nI (z_set (z_mq V man me) i)) (nI i + 1) s23)
    else (
    q_ld s23 (q_RF 126 0) (nI i) 12 fun v25 =>
    if y22 < v25 then (
    f_X0_prepareSalted_L5 q_F 126 1 (nI man) K j (nI (z_set (z_mq V man me) i)) (nI i + 1) s23)
    else (
    q_call (f_X0_prefersAnother q_F 126 (nI i) (nI man) y22 s23) fun r28 s27 =>
    if r28 = 0 then (
    q_nm (nI (z_set (z_mq V man me) i) ||| (1 <<< (nI i &&& 31))) fun v30 =>
    f_X0_prepareSalted_L5 q_F 126 1 (nI man) K j v30 (nI i + 1) s27)
    else (
    f_X0_prepareSalted_L5 q_F 126 1 (nI man) K j (nI (z_set (z_mq V man me) i)) (nI i + 1) s27)))) q_F (nI 0) (nI 0) (nI 0) σ := by
        generalize z_set (z_mq V man me) i = y at *
        rw [f_X0_prepareSalted_L5]
        simp (disch := omega) only [h5, el, esl, t8, ec, ↓reduceIte, ↓p_ld, ↓p_st, ↓p_nm, ↓p_nS, ↓p_jn, ↓p_call, ↓p_callv, ↓p_dv, ↓p_rem, h_ldE, h_stE, h_nmE, h_nSE, h_callE, h_callvE, h_dvE, h_remE, if_true, if_false, z_upS, z_upO, z_upK, nI_add, z_mul, z_sub, z_div, Nat.add_zero, Nat.mul_zero, Nat.zero_add, Nat.sub_zero, Nat.zero_mul, z_ltT, z_ltF, z_leT, z_leF, z_eqT, z_eqF, z_inT, z_clT, not_true_eq_false, not_false_eq_true, eq_self, true_or, or_true, z_m_lt, z_m_le, z_lt_m, z_le_m, z_eq_m, z_m_eq, z_rz0, z_rz1, z_m_add, z_of, r_0_0, r_0_1, r_0_3, r_0_4, r_0_5, r_0_6, r_0_7, r_0_8, r_0_9, r_0_10, r_1_0, r_1_1, r_1_2, r_1_3, r_1_4, r_1_5, r_1_6, r_1_7, r_1_8, r_2_0, r_2_1, r_2_2, r_2_3, r_2_4, r_2_5, r_2_6, r_2_7, r_11_0, r_11_1, r_11_2, r_11_3, r_11_4, r_11_5, r_11_6, r_19_0, r_21_0, r_23_0, r_25_0, r_27_0, r_61_0, r_117_0, r_117_1, r_117_2, r_117_3, r_117_4, r_117_5, r_117_6, r_117_7, r_126_0, r_126_1, r_126_2, r_126_3, r_126_4, r_132_0, r_132_1, r_135_0, r_135_1, r_135_2, r_135_3, r_135_4, r_135_5, r_142_0, r_144_0, r_144_1, r_144_2, r_145_0, r_145_1, r_145_2, r_145_3, r_145_4, r_145_5, r_145_6, r_154_0, r_154_1, r_155_0, ↓z_m1, l_0, l_1, l_2, l_3, l_4, l_5, l_6, l_7, l_8, l_9, l_10, l_11, l_12, l_13, l_14, l_15, l_16, l_17, l_18, l_19, l_20, l_21, l_22, l_23, l_24, l_25, l_26, l_27, l_28, l_29, l_30, l_31, l_32, l_33, l_34, l_35, l_36, l_37, l_38, l_39, l_40, l_41, l_42, l_43, l_44, l_45, l_46, l_47, l_48, l_49, l_50, l_51, l_52, l_53, l_54, l_55, l_56, l_57, l_59, l_60, l_61, l_62, l_63, l_64, l_65, l_80, l_86, l_87, l_88, l_89, l_90, l_91, l_92, l_93, l_94, l_95, l_97, l_99, l_100, l_107, l_119, l_122, l_124, l_129, l_140, l_141, l_142, l_143, l_144, l_145, l_147, l_150, l_159, l_160, l_161, l_162, l_205, l_253, l_255, l_256, l_269, l_305, l_380, l_399, l_400, l_420, l_430, l_516, l_600, l_720, l_820, l_905, l_921, l_937, l_953, l_970, l_999, l_1000, l_1790, l_4096, l_9999, l_1000000]
      rw [fin, f4, ← g3]
      have emq : z_mq V man me i = (z_df V i man (z_cnt (z_hs V i) 12 + 1) && (decide (z_need V i ≤ z_tp2 V i man (z_cnt (z_hs V i) 12 + 1)) && !z_pf V i man (z_tp2 V i man (z_cnt (z_hs V i) 12 + 1)) (z_cnt (z_hs V i) 12 + 1) me 0)) := rfl
      have ez : z_fb false = nI 0 := rfl
      have ez1 : z_fb true = nI 1 := rfl
      by_cases qm : z_mq V man me i = true
      · rw [z_setT qm]
        rw [emq, Bool.and_eq_true, Bool.and_eq_true, decide_eq_true_eq] at qm
        obtain ⟨q1, q2, q3⟩ := qm
        have q3 : z_pf V i man (z_tp2 V i man (z_cnt (z_hs V i) 12 + 1)) (z_cnt (z_hs V i) 12 + 1) me 0 = false := by
          cases hq : z_pf V i man (z_tp2 V i man (z_cnt (z_hs V i) 12 + 1)) (z_cnt (z_hs V i) 12 + 1) me 0 with
          | false => rfl
          | true => rw [hq] at q3; cases q3
        rw [q3, ez] at epf
        rw [q1, ez1]
        generalize z_set (z_mq V man me) i = y at *
        generalize z_tp2 V i man (z_cnt (z_hs V i) 12 + 1) = T at *
        generalize z_need V i = nd at *
        simp (disch := omega) only [t71, epf, esh, z_or, ↓reduceIte, ↓p_ld, ↓p_st, ↓p_nm, ↓p_nS, ↓p_jn, ↓p_call, ↓p_callv, ↓p_dv, ↓p_rem, h_ldE, h_stE, h_nmE, h_nSE, h_callE, h_callvE, h_dvE, h_remE, if_true, if_false, z_upS, z_upO, z_upK, nI_add, z_mul, z_sub, z_div, Nat.add_zero, Nat.mul_zero, Nat.zero_add, Nat.sub_zero, Nat.zero_mul, z_ltT, z_ltF, z_leT, z_leF, z_eqT, z_eqF, z_inT, z_clT, not_true_eq_false, not_false_eq_true, eq_self, true_or, or_true, z_m_lt, z_m_le, z_lt_m, z_le_m, z_eq_m, z_m_eq, z_rz0, z_rz1, z_m_add, z_of, r_0_0, r_0_1, r_0_3, r_0_4, r_0_5, r_0_6, r_0_7, r_0_8, r_0_9, r_0_10, r_1_0, r_1_1, r_1_2, r_1_3, r_1_4, r_1_5, r_1_6, r_1_7, r_1_8, r_2_0, r_2_1, r_2_2, r_2_3, r_2_4, r_2_5, r_2_6, r_2_7, r_11_0, r_11_1, r_11_2, r_11_3, r_11_4, r_11_5, r_11_6, r_19_0, r_21_0, r_23_0, r_25_0, r_27_0, r_61_0, r_117_0, r_117_1, r_117_2, r_117_3, r_117_4, r_117_5, r_117_6, r_117_7, r_126_0, r_126_1, r_126_2, r_126_3, r_126_4, r_132_0, r_132_1, r_135_0, r_135_1, r_135_2, r_135_3, r_135_4, r_135_5, r_142_0, r_144_0, r_144_1, r_144_2, r_145_0, r_145_1, r_145_2, r_145_3, r_145_4, r_145_5, r_145_6, r_154_0, r_154_1, r_155_0, ↓z_m1, l_0, l_1, l_2, l_3, l_4, l_5, l_6, l_7, l_8, l_9, l_10, l_11, l_12, l_13, l_14, l_15, l_16, l_17, l_18, l_19, l_20, l_21, l_22, l_23, l_24, l_25, l_26, l_27, l_28, l_29, l_30, l_31, l_32, l_33, l_34, l_35, l_36, l_37, l_38, l_39, l_40, l_41, l_42, l_43, l_44, l_45, l_46, l_47, l_48, l_49, l_50, l_51, l_52, l_53, l_54, l_55, l_56, l_57, l_59, l_60, l_61, l_62, l_63, l_64, l_65, l_80, l_86, l_87, l_88, l_89, l_90, l_91, l_92, l_93, l_94, l_95, l_97, l_99, l_100, l_107, l_119, l_122, l_124, l_129, l_140, l_141, l_142, l_143, l_144, l_145, l_147, l_150, l_159, l_160, l_161, l_162, l_205, l_253, l_255, l_256, l_269, l_305, l_380, l_399, l_400, l_420, l_430, l_516, l_600, l_720, l_820, l_905, l_921, l_937, l_953, l_970, l_999, l_1000, l_1790, l_4096, l_9999, l_1000000]
      · rw [z_setF qm]
        rw [emq] at qm
        generalize z_set (z_mq V man me) i = y at *
        generalize z_pf V i man (z_tp2 V i man (z_cnt (z_hs V i) 12 + 1)) (z_cnt (z_hs V i) 12 + 1) me 0 = P at *
        generalize z_tp2 V i man (z_cnt (z_hs V i) 12 + 1) = T at *
        generalize z_need V i = nd at *
        cases hd : z_df V i man (z_cnt (z_hs V i) 12 + 1) with
        | false =>
          rw [ez]
          simp (disch := omega) only [↓reduceIte, ↓p_ld, ↓p_st, ↓p_nm, ↓p_nS, ↓p_jn, ↓p_call, ↓p_callv, ↓p_dv, ↓p_rem, h_ldE, h_stE, h_nmE, h_nSE, h_callE, h_callvE, h_dvE, h_remE, if_true, if_false, z_upS, z_upO, z_upK, nI_add, z_mul, z_sub, z_div, Nat.add_zero, Nat.mul_zero, Nat.zero_add, Nat.sub_zero, Nat.zero_mul, z_ltT, z_ltF, z_leT, z_leF, z_eqT, z_eqF, z_inT, z_clT, not_true_eq_false, not_false_eq_true, eq_self, true_or, or_true, z_m_lt, z_m_le, z_lt_m, z_le_m, z_eq_m, z_m_eq, z_rz0, z_rz1, z_m_add, z_of, r_0_0, r_0_1, r_0_3, r_0_4, r_0_5, r_0_6, r_0_7, r_0_8, r_0_9, r_0_10, r_1_0, r_1_1, r_1_2, r_1_3, r_1_4, r_1_5, r_1_6, r_1_7, r_1_8, r_2_0, r_2_1, r_2_2, r_2_3, r_2_4, r_2_5, r_2_6, r_2_7, r_11_0, r_11_1, r_11_2, r_11_3, r_11_4, r_11_5, r_11_6, r_19_0, r_21_0, r_23_0, r_25_0, r_27_0, r_61_0, r_117_0, r_117_1, r_117_2, r_117_3, r_117_4, r_117_5, r_117_6, r_117_7, r_126_0, r_126_1, r_126_2, r_126_3, r_126_4, r_132_0, r_132_1, r_135_0, r_135_1, r_135_2, r_135_3, r_135_4, r_135_5, r_142_0, r_144_0, r_144_1, r_144_2, r_145_0, r_145_1, r_145_2, r_145_3, r_145_4, r_145_5, r_145_6, r_154_0, r_154_1, r_155_0, ↓z_m1, l_0, l_1, l_2, l_3, l_4, l_5, l_6, l_7, l_8, l_9, l_10, l_11, l_12, l_13, l_14, l_15, l_16, l_17, l_18, l_19, l_20, l_21, l_22, l_23, l_24, l_25, l_26, l_27, l_28, l_29, l_30, l_31, l_32, l_33, l_34, l_35, l_36, l_37, l_38, l_39, l_40, l_41, l_42, l_43, l_44, l_45, l_46, l_47, l_48, l_49, l_50, l_51, l_52, l_53, l_54, l_55, l_56, l_57, l_59, l_60, l_61, l_62, l_63, l_64, l_65, l_80, l_86, l_87, l_88, l_89, l_90, l_91, l_92, l_93, l_94, l_95, l_97, l_99, l_100, l_107, l_119, l_122, l_124, l_129, l_140, l_141, l_142, l_143, l_144, l_145, l_147, l_150, l_159, l_160, l_161, l_162, l_205, l_253, l_255, l_256, l_269, l_305, l_380, l_399, l_400, l_420, l_430, l_516, l_600, l_720, l_820, l_905, l_921, l_937, l_953, l_970, l_999, l_1000, l_1790, l_4096, l_9999, l_1000000]
        | true =>
          rw [hd, Bool.true_and] at qm
          rw [ez1]
          by_cases qn : nd ≤ T
          · rw [decide_eq_true qn, Bool.true_and] at qm
            have hP : P = true := by cases P with | true => rfl | false => exact absurd rfl qm
            rw [hP, ez1] at epf
            simp (disch := omega) only [t71, epf, ↓reduceIte, ↓p_ld, ↓p_st, ↓p_nm, ↓p_nS, ↓p_jn, ↓p_call, ↓p_callv, ↓p_dv, ↓p_rem, h_ldE, h_stE, h_nmE, h_nSE, h_callE, h_callvE, h_dvE, h_remE, if_true, if_false, z_upS, z_upO, z_upK, nI_add, z_mul, z_sub, z_div, Nat.add_zero, Nat.mul_zero, Nat.zero_add, Nat.sub_zero, Nat.zero_mul, z_ltT, z_ltF, z_leT, z_leF, z_eqT, z_eqF, z_inT, z_clT, not_true_eq_false, not_false_eq_true, eq_self, true_or, or_true, z_m_lt, z_m_le, z_lt_m, z_le_m, z_eq_m, z_m_eq, z_rz0, z_rz1, z_m_add, z_of, r_0_0, r_0_1, r_0_3, r_0_4, r_0_5, r_0_6, r_0_7, r_0_8, r_0_9, r_0_10, r_1_0, r_1_1, r_1_2, r_1_3, r_1_4, r_1_5, r_1_6, r_1_7, r_1_8, r_2_0, r_2_1, r_2_2, r_2_3, r_2_4, r_2_5, r_2_6, r_2_7, r_11_0, r_11_1, r_11_2, r_11_3, r_11_4, r_11_5, r_11_6, r_19_0, r_21_0, r_23_0, r_25_0, r_27_0, r_61_0, r_117_0, r_117_1, r_117_2, r_117_3, r_117_4, r_117_5, r_117_6, r_117_7, r_126_0, r_126_1, r_126_2, r_126_3, r_126_4, r_132_0, r_132_1, r_135_0, r_135_1, r_135_2, r_135_3, r_135_4, r_135_5, r_142_0, r_144_0, r_144_1, r_144_2, r_145_0, r_145_1, r_145_2, r_145_3, r_145_4, r_145_5, r_145_6, r_154_0, r_154_1, r_155_0, ↓z_m1, l_0, l_1, l_2, l_3, l_4, l_5, l_6, l_7, l_8, l_9, l_10, l_11, l_12, l_13, l_14, l_15, l_16, l_17, l_18, l_19, l_20, l_21, l_22, l_23, l_24, l_25, l_26, l_27, l_28, l_29, l_30, l_31, l_32, l_33, l_34, l_35, l_36, l_37, l_38, l_39, l_40, l_41, l_42, l_43, l_44, l_45, l_46, l_47, l_48, l_49, l_50, l_51, l_52, l_53, l_54, l_55, l_56, l_57, l_59, l_60, l_61, l_62, l_63, l_64, l_65, l_80, l_86, l_87, l_88, l_89, l_90, l_91, l_92, l_93, l_94, l_95, l_97, l_99, l_100, l_107, l_119, l_122, l_124, l_129, l_140, l_141, l_142, l_143, l_144, l_145, l_147, l_150, l_159, l_160, l_161, l_162, l_205, l_253, l_255, l_256, l_269, l_305, l_380, l_399, l_400, l_420, l_430, l_516, l_600, l_720, l_820, l_905, l_921, l_937, l_953, l_970, l_999, l_1000, l_1790, l_4096, l_9999, l_1000000]
          · simp (disch := omega) only [t71, ↓reduceIte, ↓p_ld, ↓p_st, ↓p_nm, ↓p_nS, ↓p_jn, ↓p_call, ↓p_callv, ↓p_dv, ↓p_rem, h_ldE, h_stE, h_nmE, h_nSE, h_callE, h_callvE, h_dvE, h_remE, if_true, if_false, z_upS, z_upO, z_upK, nI_add, z_mul, z_sub, z_div, Nat.add_zero, Nat.mul_zero, Nat.zero_add, Nat.sub_zero, Nat.zero_mul, z_ltT, z_ltF, z_leT, z_leF, z_eqT, z_eqF, z_inT, z_clT, not_true_eq_false, not_false_eq_true, eq_self, true_or, or_true, z_m_lt, z_m_le, z_lt_m, z_le_m, z_eq_m, z_m_eq, z_rz0, z_rz1, z_m_add, z_of, r_0_0, r_0_1, r_0_3, r_0_4, r_0_5, r_0_6, r_0_7, r_0_8, r_0_9, r_0_10, r_1_0, r_1_1, r_1_2, r_1_3, r_1_4, r_1_5, r_1_6, r_1_7, r_1_8, r_2_0, r_2_1, r_2_2, r_2_3, r_2_4, r_2_5, r_2_6, r_2_7, r_11_0, r_11_1, r_11_2, r_11_3, r_11_4, r_11_5, r_11_6, r_19_0, r_21_0, r_23_0, r_25_0, r_27_0, r_61_0, r_117_0, r_117_1, r_117_2, r_117_3, r_117_4, r_117_5, r_117_6, r_117_7, r_126_0, r_126_1, r_126_2, r_126_3, r_126_4, r_132_0, r_132_1, r_135_0, r_135_1, r_135_2, r_135_3, r_135_4, r_135_5, r_142_0, r_144_0, r_144_1, r_144_2, r_145_0, r_145_1, r_145_2, r_145_3, r_145_4, r_145_5, r_145_6, r_154_0, r_154_1, r_155_0, ↓z_m1, l_0, l_1, l_2, l_3, l_4, l_5, l_6, l_7, l_8, l_9, l_10, l_11, l_12, l_13, l_14, l_15, l_16, l_17, l_18, l_19, l_20, l_21, l_22, l_23, l_24, l_25, l_26, l_27, l_28, l_29, l_30, l_31, l_32, l_33, l_34, l_35, l_36, l_37, l_38, l_39, l_40, l_41, l_42, l_43, l_44, l_45, l_46, l_47, l_48, l_49, l_50, l_51, l_52, l_53, l_54, l_55, l_56, l_57, l_59, l_60, l_61, l_62, l_63, l_64, l_65, l_80, l_86, l_87, l_88, l_89, l_90, l_91, l_92, l_93, l_94, l_95, l_97, l_99, l_100, l_107, l_119, l_122, l_124, l_129, l_140, l_141, l_142, l_143, l_144, l_145, l_147, l_150, l_159, l_160, l_161, l_162, l_205, l_253, l_255, l_256, l_269, l_305, l_380, l_399, l_400, l_420, l_430, l_516, l_600, l_720, l_820, l_905, l_921, l_937, l_953, l_970, l_999, l_1000, l_1790, l_4096, l_9999, l_1000000]
/-! the fewest that are to be given salt: the search -/
/-- the set makes him the driver -/
def z_dw (V : Nat → Int32) (man mu me lame : Nat) : Nat → Bool := fun s => decide (z_drv (z_pw V man s mu me) (fun i => lame.testBit i) = man + 1)
theorem z_pwB1 {σ : q_Sto} {V : Nat → Int32} {man mu me S : Nat} (hme : me ≤ 5) (hman : man < me) (hB1 : z_B1 σ (z_bt V mu me) 0 z_m) (h0 : ∀ m h, m < mu → h < z_cnt (z_hs V m) 12 + 1 → σ 130 (m*12+h) = nI (z_lean V m man (z_sl V m man) h)) : z_B1 σ (z_pw V man S mu me) S (nI man) := by
  intro m k h hm hk hh
  have hk : k < me := hk
  have hm : m < mu := hm
  have hh : h ≤ z_cnt (z_hs V m) 12 := hh
  have b := hB1 m k h hm hk hh
  rw [Nat.zero_testBit, if_neg (show ¬ false = true by decide), if_neg (fun q => by rw [z_eq_m (by omega)] at q; exact q)] at b
  have b : σ 129 ((m*5+k)*12+h) = nI (z_lean V m k (z_lk V m k) h) := b
  have e : (z_pw V man S mu me).1 m k h = z_lean V m k (if k = man ∧ S.testBit m = true then z_sl V m man else z_lk V m k) h := rfl
  rw [e]
  by_cases q : S.testBit m = true
  · rw [if_pos q]
    by_cases q2 : k = man
    · subst q2
      rw [if_pos rfl, if_pos ⟨rfl, q⟩]
      exact h0 m h hm (by omega)
    · rw [if_neg (fun hq => by rw [nI_eq (by omega) (by omega)] at hq; exact q2 hq), if_neg (fun hq => q2 hq.1)]
      exact b
  · rw [if_neg q, if_neg (fun hq => by rw [z_eq_m (by omega)] at hq; exact hq), if_neg (fun hq => q hq.2)]
    exact b

/-- nothing but the ballot's standing has changed -/
def z_fB (σ σ' : q_Sto) : Prop := (∀ o, o ≠ 131 → o ≠ 126 → σ' o = σ o) ∧ (∀ a, a ≠ 7 → a ≠ 8 → σ' 126 a = σ 126 a)
theorem z_fB.trans {a b c : q_Sto} (h : z_fB a b) (g : z_fB b c) : z_fB a c := ⟨fun o h1 h2 => (g.1 o h1 h2).trans (h.1 o h1 h2), fun a h1 h2 => (g.2 a h1 h2).trans (h.2 a h1 h2)⟩
theorem z_fB.refl (a : q_Sto) : z_fB a a := ⟨fun _ _ _ => rfl, fun _ _ _ => rfl⟩
/-- the class's tables stand -/
def z_WB (σ : q_Sto) (V : Nat → Int32) (man mu me : Nat) : Prop := z_B0 σ (z_bt V mu me) ∧ z_B1 σ (z_bt V mu me) 0 z_m ∧ (∀ m h, m < mu → h < z_cnt (z_hs V m) 12 + 1 → σ 130 (m*12+h) = nI (z_lean V m man (z_sl V m man) h))
theorem z_WB.fr {σ σ' : q_Sto} {V : Nat → Int32} {man mu me : Nat} (h : z_WB σ V man mu me) (g : z_fB σ σ') : z_WB σ' V man mu me :=
  ⟨h.1.fr (g.2 5 (by omega) (by omega)) (g.2 6 (by omega) (by omega)) (g.1 127 (by omega) (by omega)) (g.1 128 (by omega) (by omega)), h.2.1.fr (g.1 129 (by omega) (by omega)) (g.1 130 (by omega) (by omega)), fun m hh hm hhh => by rw [g.1 130 (by omega) (by omega)]; exact h.2.2 m hh hm hhh⟩
theorem c_settleW {σ σc : q_Sto} {V : Nat → Int32} {man mu me lame S : Nat} (hmu : mu ≤ 12) (hme : me ≤ 5) (hHE : z_HE σc 1 V mu) (hman : man < me) (hS : S < 4096) (h : z_WB σ V man mu me) :
    ∃ σ', z_fB σ σ' ∧ f_X0_settle q_F 126 (nI lame) (nI S) (nI man) σ = some (nI 0, σ') ∧ σ' 126 8 = z_vw (z_drv (z_pw V man S mu me) (fun i => lame.testBit i)) ∧ (σ' 126 8 = nI man ↔ z_dw V man mu me lame S = true) := by
  obtain ⟨σ', k1, k2, k3, k4, k5, k6⟩ := c_settle (s := lame) z_F402 (z_pw_ok (man := man) (S := S) (me := me) hmu hme hHE) hS (by rw [z_pw_B0, ← z_bt_B0]; exact h.1) (z_pwB1 hme hman h.2.1 h.2.2)
  refine ⟨σ', ⟨k1, k2⟩, k6, k4, ?_⟩
  rw [k4]
  unfold z_dw
  rw [decide_eq_true_eq]
  have hle := z_pw_le (V := V) (man := man) (S := S) (mu := mu) (me := me) (out := fun i => lame.testBit i)
  have := z_vw_eq (a := z_drv (z_pw V man S mu me) (fun i => lame.testBit i)) (b := man + 1) (by omega) (by omega)
  exact Iff.of_eq this
theorem z_sub_or {s M : Nat} (hs : s < 4096) : (nI s &&& (nI M ^^^ z_m) = nI 0) = (s &&& M = s) := by
  rw [z_andn12 hs, nI_eq (by have : s &&& (M ^^^ 4095) ≤ s := Nat.and_le_left; omega) (by omega)]
  apply propext
  have tb : ∀ i, (s &&& (M ^^^ 4095)).testBit i = (s.testBit i && !M.testBit i) := by
    intro i
    rw [show 4095 = 2 ^ 12 - 1 by omega, Nat.testBit_and, Nat.testBit_xor, Nat.testBit_two_pow_sub_one]
    by_cases q : i < 12
    · simp [q]
    · have : s.testBit i = false := z_tb_lt (N := 12) hs (by omega)
      simp [this]
  constructor
  · intro h
    apply Nat.eq_of_testBit_eq
    intro i
    have := tb i
    rw [h, Nat.zero_testBit] at this
    rw [Nat.testBit_and]
    cases h1 : s.testBit i with
    | false => rfl
    | true => rw [h1] at this; cases h2 : M.testBit i with
      | true => rfl
      | false => rw [h2] at this; cases this
  · intro h
    apply Nat.eq_of_testBit_eq
    intro i
    rw [tb, Nat.zero_testBit]
    have : (s &&& M).testBit i = s.testBit i := by rw [h]
    rw [Nat.testBit_and] at this
    cases h1 : s.testBit i with
    | false => rfl
    | true => rw [h1, Bool.true_and] at this; rw [this]; rfl
/-- one of those sets is met -/
theorem c_few_yes {σc : q_Sto} {V : Nat → Int32} {man mu me lame M t c : Nat} {K : q_Sto → Option (Int32 × q_Sto)} (hmu : mu ≤ 12) (hme : me ≤ 5) (hHE : z_HE σc 1 V mu) (hman : man < me) (hM : M < 4096) (htM : t ≤ M) (ht1 : t &&& M = t) (htc : z_cnt t 12 = c) (htd : z_dw V man mu me lame t = true) (hf : ∀ s, s < t → s &&& M = s → z_cnt s 12 = c → z_dw V man mu me lame s = false) :
    ∀ j i (σ : q_Sto), i ≤ t → t < j + i → z_WB σ V man mu me → ∃ σ', z_fB σ σ' ∧ f_X0_fewestSalted_L36 q_F 126 (nI man) (nI M) (nI lame) (nI c) K j (nI i) σ = some (nI t, σ') := by
  intro j
  induction j with
  | zero => intro i σ h1 h2; omega
  | succ j ih =>
    intro i σ h1 h2 hW
    have hs := z_sub_or (s := i) (M := M) (by omega)
    have ec := c_bitCount (n := q_F) (s := i) (σ := σ) (by omega)
    have hcl := z_cnt_le i 12
    have hcl2 := z_cnt_le t 12
    by_cases hi : i = t
    · subst hi
      obtain ⟨σ1, g1, g2, g3, g4⟩ := c_settleW (lame := lame) hmu hme hHE hman (show i < 4096 by omega) hW
      have g5 := g4.mpr htd
      have hs : (nI i &&& (nI M ^^^ z_m) = nI 0) = True := by rw [hs]; exact eq_true ht1
      rw [htc] at ec
      refine ⟨σ1, g1, ?_⟩
      rw [f_X0_fewestSalted_L36]
      simp (disch := omega) only [hs, ec, g2, g5, ↓reduceIte, ↓p_ld, ↓p_st, ↓p_nm, ↓p_nS, ↓p_jn, ↓p_call, ↓p_callv, ↓p_dv, ↓p_rem, h_ldE, h_stE, h_nmE, h_nSE, h_callE, h_callvE, h_dvE, h_remE, if_true, if_false, z_upS, z_upO, z_upK, nI_add, z_mul, z_sub, z_div, Nat.add_zero, Nat.mul_zero, Nat.zero_add, Nat.sub_zero, Nat.zero_mul, z_ltT, z_ltF, z_leT, z_leF, z_eqT, z_eqF, z_inT, z_clT, not_true_eq_false, not_false_eq_true, eq_self, true_or, or_true, z_m_lt, z_m_le, z_lt_m, z_le_m, z_eq_m, z_m_eq, z_rz0, z_rz1, z_m_add, z_of, r_0_0, r_0_1, r_0_3, r_0_4, r_0_5, r_0_6, r_0_7, r_0_8, r_0_9, r_0_10, r_1_0, r_1_1, r_1_2, r_1_3, r_1_4, r_1_5, r_1_6, r_1_7, r_1_8, r_2_0, r_2_1, r_2_2, r_2_3, r_2_4, r_2_5, r_2_6, r_2_7, r_11_0, r_11_1, r_11_2, r_11_3, r_11_4, r_11_5, r_11_6, r_19_0, r_21_0, r_23_0, r_25_0, r_27_0, r_61_0, r_117_0, r_117_1, r_117_2, r_117_3, r_117_4, r_117_5, r_117_6, r_117_7, r_126_0, r_126_1, r_126_2, r_126_3, r_126_4, r_132_0, r_132_1, r_135_0, r_135_1, r_135_2, r_135_3, r_135_4, r_135_5, r_142_0, r_144_0, r_144_1, r_144_2, r_145_0, r_145_1, r_145_2, r_145_3, r_145_4, r_145_5, r_145_6, r_154_0, r_154_1, r_155_0, ↓z_m1, l_0, l_1, l_2, l_3, l_4, l_5, l_6, l_7, l_8, l_9, l_10, l_11, l_12, l_13, l_14, l_15, l_16, l_17, l_18, l_19, l_20, l_21, l_22, l_23, l_24, l_25, l_26, l_27, l_28, l_29, l_30, l_31, l_32, l_33, l_34, l_35, l_36, l_37, l_38, l_39, l_40, l_41, l_42, l_43, l_44, l_45, l_46, l_47, l_48, l_49, l_50, l_51, l_52, l_53, l_54, l_55, l_56, l_57, l_59, l_60, l_61, l_62, l_63, l_64, l_65, l_80, l_86, l_87, l_88, l_89, l_90, l_91, l_92, l_93, l_94, l_95, l_97, l_99, l_100, l_107, l_119, l_122, l_124, l_129, l_140, l_141, l_142, l_143, l_144, l_145, l_147, l_150, l_159, l_160, l_161, l_162, l_205, l_253, l_255, l_256, l_269, l_305, l_380, l_399, l_400, l_420, l_430, l_516, l_600, l_720, l_820, l_905, l_921, l_937, l_953, l_970, l_999, l_1000, l_1790, l_4096, l_9999, l_1000000]
    · by_cases q1 : i &&& M = i
      · have hs : (nI i &&& (nI M ^^^ z_m) = nI 0) = True := by rw [hs]; exact eq_true q1
        by_cases q2 : z_cnt i 12 = c
        · obtain ⟨σ1, g1, g2, g3, g4⟩ := c_settleW (lame := lame) hmu hme hHE hman (show i < 4096 by omega) hW
          have g5 : (σ1 126 8 = nI man) = False := eq_false (fun h => by
            have := g4.mp h
            rw [hf i (by omega) q1 q2] at this
            cases this)
          obtain ⟨σ', k1, k2⟩ := ih (i+1) σ1 (by omega) (by omega) (hW.fr g1)
          refine ⟨σ', g1.trans k1, ?_⟩
          rw [q2] at ec
          rw [← k2, f_X0_fewestSalted_L36]
          simp (disch := omega) only [hs, ec, g2, g5, ↓reduceIte, ↓p_ld, ↓p_st, ↓p_nm, ↓p_nS, ↓p_jn, ↓p_call, ↓p_callv, ↓p_dv, ↓p_rem, h_ldE, h_stE, h_nmE, h_nSE, h_callE, h_callvE, h_dvE, h_remE, if_true, if_false, z_upS, z_upO, z_upK, nI_add, z_mul, z_sub, z_div, Nat.add_zero, Nat.mul_zero, Nat.zero_add, Nat.sub_zero, Nat.zero_mul, z_ltT, z_ltF, z_leT, z_leF, z_eqT, z_eqF, z_inT, z_clT, not_true_eq_false, not_false_eq_true, eq_self, true_or, or_true, z_m_lt, z_m_le, z_lt_m, z_le_m, z_eq_m, z_m_eq, z_rz0, z_rz1, z_m_add, z_of, r_0_0, r_0_1, r_0_3, r_0_4, r_0_5, r_0_6, r_0_7, r_0_8, r_0_9, r_0_10, r_1_0, r_1_1, r_1_2, r_1_3, r_1_4, r_1_5, r_1_6, r_1_7, r_1_8, r_2_0, r_2_1, r_2_2, r_2_3, r_2_4, r_2_5, r_2_6, r_2_7, r_11_0, r_11_1, r_11_2, r_11_3, r_11_4, r_11_5, r_11_6, r_19_0, r_21_0, r_23_0, r_25_0, r_27_0, r_61_0, r_117_0, r_117_1, r_117_2, r_117_3, r_117_4, r_117_5, r_117_6, r_117_7, r_126_0, r_126_1, r_126_2, r_126_3, r_126_4, r_132_0, r_132_1, r_135_0, r_135_1, r_135_2, r_135_3, r_135_4, r_135_5, r_142_0, r_144_0, r_144_1, r_144_2, r_145_0, r_145_1, r_145_2, r_145_3, r_145_4, r_145_5, r_145_6, r_154_0, r_154_1, r_155_0, ↓z_m1, l_0, l_1, l_2, l_3, l_4, l_5, l_6, l_7, l_8, l_9, l_10, l_11, l_12, l_13, l_14, l_15, l_16, l_17, l_18, l_19, l_20, l_21, l_22, l_23, l_24, l_25, l_26, l_27, l_28, l_29, l_30, l_31, l_32, l_33, l_34, l_35, l_36, l_37, l_38, l_39, l_40, l_41, l_42, l_43, l_44, l_45, l_46, l_47, l_48, l_49, l_50, l_51, l_52, l_53, l_54, l_55, l_56, l_57, l_59, l_60, l_61, l_62, l_63, l_64, l_65, l_80, l_86, l_87, l_88, l_89, l_90, l_91, l_92, l_93, l_94, l_95, l_97, l_99, l_100, l_107, l_119, l_122, l_124, l_129, l_140, l_141, l_142, l_143, l_144, l_145, l_147, l_150, l_159, l_160, l_161, l_162, l_205, l_253, l_255, l_256, l_269, l_305, l_380, l_399, l_400, l_420, l_430, l_516, l_600, l_720, l_820, l_905, l_921, l_937, l_953, l_970, l_999, l_1000, l_1790, l_4096, l_9999, l_1000000]
        · obtain ⟨σ', k1, k2⟩ := ih (i+1) σ (by omega) (by omega) hW
          refine ⟨σ', k1, ?_⟩
          rw [← k2, f_X0_fewestSalted_L36]
          generalize z_cnt i 12 = ci at *
          simp (disch := omega) only [hs, ec, ↓reduceIte, ↓p_ld, ↓p_st, ↓p_nm, ↓p_nS, ↓p_jn, ↓p_call, ↓p_callv, ↓p_dv, ↓p_rem, h_ldE, h_stE, h_nmE, h_nSE, h_callE, h_callvE, h_dvE, h_remE, if_true, if_false, z_upS, z_upO, z_upK, nI_add, z_mul, z_sub, z_div, Nat.add_zero, Nat.mul_zero, Nat.zero_add, Nat.sub_zero, Nat.zero_mul, z_ltT, z_ltF, z_leT, z_leF, z_eqT, z_eqF, z_inT, z_clT, not_true_eq_false, not_false_eq_true, eq_self, true_or, or_true, z_m_lt, z_m_le, z_lt_m, z_le_m, z_eq_m, z_m_eq, z_rz0, z_rz1, z_m_add, z_of, r_0_0, r_0_1, r_0_3, r_0_4, r_0_5, r_0_6, r_0_7, r_0_8, r_0_9, r_0_10, r_1_0, r_1_1, r_1_2, r_1_3, r_1_4, r_1_5, r_1_6, r_1_7, r_1_8, r_2_0, r_2_1, r_2_2, r_2_3, r_2_4, r_2_5, r_2_6, r_2_7, r_11_0, r_11_1, r_11_2, r_11_3, r_11_4, r_11_5, r_11_6, r_19_0, r_21_0, r_23_0, r_25_0, r_27_0, r_61_0, r_117_0, r_117_1, r_117_2, r_117_3, r_117_4, r_117_5, r_117_6, r_117_7, r_126_0, r_126_1, r_126_2, r_126_3, r_126_4, r_132_0, r_132_1, r_135_0, r_135_1, r_135_2, r_135_3, r_135_4, r_135_5, r_142_0, r_144_0, r_144_1, r_144_2, r_145_0, r_145_1, r_145_2, r_145_3, r_145_4, r_145_5, r_145_6, r_154_0, r_154_1, r_155_0, ↓z_m1, l_0, l_1, l_2, l_3, l_4, l_5, l_6, l_7, l_8, l_9, l_10, l_11, l_12, l_13, l_14, l_15, l_16, l_17, l_18, l_19, l_20, l_21, l_22, l_23, l_24, l_25, l_26, l_27, l_28, l_29, l_30, l_31, l_32, l_33, l_34, l_35, l_36, l_37, l_38, l_39, l_40, l_41, l_42, l_43, l_44, l_45, l_46, l_47, l_48, l_49, l_50, l_51, l_52, l_53, l_54, l_55, l_56, l_57, l_59, l_60, l_61, l_62, l_63, l_64, l_65, l_80, l_86, l_87, l_88, l_89, l_90, l_91, l_92, l_93, l_94, l_95, l_97, l_99, l_100, l_107, l_119, l_122, l_124, l_129, l_140, l_141, l_142, l_143, l_144, l_145, l_147, l_150, l_159, l_160, l_161, l_162, l_205, l_253, l_255, l_256, l_269, l_305, l_380, l_399, l_400, l_420, l_430, l_516, l_600, l_720, l_820, l_905, l_921, l_937, l_953, l_970, l_999, l_1000, l_1790, l_4096, l_9999, l_1000000]
      · have hs : (nI i &&& (nI M ^^^ z_m) = nI 0) = False := by rw [hs]; exact eq_false q1
        obtain ⟨σ', k1, k2⟩ := ih (i+1) σ (by omega) (by omega) hW
        refine ⟨σ', k1, ?_⟩
        rw [← k2, f_X0_fewestSalted_L36]
        simp (disch := omega) only [hs, ↓reduceIte, ↓p_ld, ↓p_st, ↓p_nm, ↓p_nS, ↓p_jn, ↓p_call, ↓p_callv, ↓p_dv, ↓p_rem, h_ldE, h_stE, h_nmE, h_nSE, h_callE, h_callvE, h_dvE, h_remE, if_true, if_false, z_upS, z_upO, z_upK, nI_add, z_mul, z_sub, z_div, Nat.add_zero, Nat.mul_zero, Nat.zero_add, Nat.sub_zero, Nat.zero_mul, z_ltT, z_ltF, z_leT, z_leF, z_eqT, z_eqF, z_inT, z_clT, not_true_eq_false, not_false_eq_true, eq_self, true_or, or_true, z_m_lt, z_m_le, z_lt_m, z_le_m, z_eq_m, z_m_eq, z_rz0, z_rz1, z_m_add, z_of, r_0_0, r_0_1, r_0_3, r_0_4, r_0_5, r_0_6, r_0_7, r_0_8, r_0_9, r_0_10, r_1_0, r_1_1, r_1_2, r_1_3, r_1_4, r_1_5, r_1_6, r_1_7, r_1_8, r_2_0, r_2_1, r_2_2, r_2_3, r_2_4, r_2_5, r_2_6, r_2_7, r_11_0, r_11_1, r_11_2, r_11_3, r_11_4, r_11_5, r_11_6, r_19_0, r_21_0, r_23_0, r_25_0, r_27_0, r_61_0, r_117_0, r_117_1, r_117_2, r_117_3, r_117_4, r_117_5, r_117_6, r_117_7, r_126_0, r_126_1, r_126_2, r_126_3, r_126_4, r_132_0, r_132_1, r_135_0, r_135_1, r_135_2, r_135_3, r_135_4, r_135_5, r_142_0, r_144_0, r_144_1, r_144_2, r_145_0, r_145_1, r_145_2, r_145_3, r_145_4, r_145_5, r_145_6, r_154_0, r_154_1, r_155_0, ↓z_m1, l_0, l_1, l_2, l_3, l_4, l_5, l_6, l_7, l_8, l_9, l_10, l_11, l_12, l_13, l_14, l_15, l_16, l_17, l_18, l_19, l_20, l_21, l_22, l_23, l_24, l_25, l_26, l_27, l_28, l_29, l_30, l_31, l_32, l_33, l_34, l_35, l_36, l_37, l_38, l_39, l_40, l_41, l_42, l_43, l_44, l_45, l_46, l_47, l_48, l_49, l_50, l_51, l_52, l_53, l_54, l_55, l_56, l_57, l_59, l_60, l_61, l_62, l_63, l_64, l_65, l_80, l_86, l_87, l_88, l_89, l_90, l_91, l_92, l_93, l_94, l_95, l_97, l_99, l_100, l_107, l_119, l_122, l_124, l_129, l_140, l_141, l_142, l_143, l_144, l_145, l_147, l_150, l_159, l_160, l_161, l_162, l_205, l_253, l_255, l_256, l_269, l_305, l_380, l_399, l_400, l_420, l_430, l_516, l_600, l_720, l_820, l_905, l_921, l_937, l_953, l_970, l_999, l_1000, l_1790, l_4096, l_9999, l_1000000]
theorem c_few_no {σc : q_Sto} {V : Nat → Int32} {man mu me lame M c : Nat} {K : q_Sto → Option (Int32 × q_Sto)} (hmu : mu ≤ 12) (hme : me ≤ 5) (hHE : z_HE σc 1 V mu) (hman : man < me) (hM : M < 4096) (hc12 : c ≤ 12) (hf : ∀ s, s ≤ M → s &&& M = s → z_cnt s 12 = c → z_dw V man mu me lame s = false) :
    ∀ j i (σ : q_Sto), i ≤ M + 1 → M + 1 < j + i → z_WB σ V man mu me → ∃ σ', z_fB σ σ' ∧ f_X0_fewestSalted_L36 q_F 126 (nI man) (nI M) (nI lame) (nI c) K j (nI i) σ = K σ' := by
  intro j
  induction j with
  | zero => intro i σ h1 h2; omega
  | succ j ih =>
    intro i σ h1 h2 hW
    by_cases hi : i = M + 1
    · subst hi
      refine ⟨σ, z_fB.refl σ, ?_⟩
      rw [f_X0_fewestSalted_L36]
      simp (disch := omega) only [↓reduceIte, ↓p_ld, ↓p_st, ↓p_nm, ↓p_nS, ↓p_jn, ↓p_call, ↓p_callv, ↓p_dv, ↓p_rem, h_ldE, h_stE, h_nmE, h_nSE, h_callE, h_callvE, h_dvE, h_remE, if_true, if_false, z_upS, z_upO, z_upK, nI_add, z_mul, z_sub, z_div, Nat.add_zero, Nat.mul_zero, Nat.zero_add, Nat.sub_zero, Nat.zero_mul, z_ltT, z_ltF, z_leT, z_leF, z_eqT, z_eqF, z_inT, z_clT, not_true_eq_false, not_false_eq_true, eq_self, true_or, or_true, z_m_lt, z_m_le, z_lt_m, z_le_m, z_eq_m, z_m_eq, z_rz0, z_rz1, z_m_add, z_of, r_0_0, r_0_1, r_0_3, r_0_4, r_0_5, r_0_6, r_0_7, r_0_8, r_0_9, r_0_10, r_1_0, r_1_1, r_1_2, r_1_3, r_1_4, r_1_5, r_1_6, r_1_7, r_1_8, r_2_0, r_2_1, r_2_2, r_2_3, r_2_4, r_2_5, r_2_6, r_2_7, r_11_0, r_11_1, r_11_2, r_11_3, r_11_4, r_11_5, r_11_6, r_19_0, r_21_0, r_23_0, r_25_0, r_27_0, r_61_0, r_117_0, r_117_1, r_117_2, r_117_3, r_117_4, r_117_5, r_117_6, r_117_7, r_126_0, r_126_1, r_126_2, r_126_3, r_126_4, r_132_0, r_132_1, r_135_0, r_135_1, r_135_2, r_135_3, r_135_4, r_135_5, r_142_0, r_144_0, r_144_1, r_144_2, r_145_0, r_145_1, r_145_2, r_145_3, r_145_4, r_145_5, r_145_6, r_154_0, r_154_1, r_155_0, ↓z_m1, l_0, l_1, l_2, l_3, l_4, l_5, l_6, l_7, l_8, l_9, l_10, l_11, l_12, l_13, l_14, l_15, l_16, l_17, l_18, l_19, l_20, l_21, l_22, l_23, l_24, l_25, l_26, l_27, l_28, l_29, l_30, l_31, l_32, l_33, l_34, l_35, l_36, l_37, l_38, l_39, l_40, l_41, l_42, l_43, l_44, l_45, l_46, l_47, l_48, l_49, l_50, l_51, l_52, l_53, l_54, l_55, l_56, l_57, l_59, l_60, l_61, l_62, l_63, l_64, l_65, l_80, l_86, l_87, l_88, l_89, l_90, l_91, l_92, l_93, l_94, l_95, l_97, l_99, l_100, l_107, l_119, l_122, l_124, l_129, l_140, l_141, l_142, l_143, l_144, l_145, l_147, l_150, l_159, l_160, l_161, l_162, l_205, l_253, l_255, l_256, l_269, l_305, l_380, l_399, l_400, l_420, l_430, l_516, l_600, l_720, l_820, l_905, l_921, l_937, l_953, l_970, l_999, l_1000, l_1790, l_4096, l_9999, l_1000000]
    · have hs := z_sub_or (s := i) (M := M) (by omega)
      have ec := c_bitCount (n := q_F) (s := i) (σ := σ) (by omega)
      have hcl := z_cnt_le i 12
      by_cases q1 : i &&& M = i
      · have hs : (nI i &&& (nI M ^^^ z_m) = nI 0) = True := by rw [hs]; exact eq_true q1
        by_cases q2 : z_cnt i 12 = c
        · obtain ⟨σ1, g1, g2, g3, g4⟩ := c_settleW (lame := lame) hmu hme hHE hman (show i < 4096 by omega) hW
          have g5 : (σ1 126 8 = nI man) = False := eq_false (fun h => by
            have := g4.mp h
            rw [hf i (by omega) q1 q2] at this
            cases this)
          obtain ⟨σ', k1, k2⟩ := ih (i+1) σ1 (by omega) (by omega) (hW.fr g1)
          refine ⟨σ', g1.trans k1, ?_⟩
          rw [q2] at ec
          rw [← k2, f_X0_fewestSalted_L36]
          simp (disch := omega) only [hs, ec, g2, g5, ↓reduceIte, ↓p_ld, ↓p_st, ↓p_nm, ↓p_nS, ↓p_jn, ↓p_call, ↓p_callv, ↓p_dv, ↓p_rem, h_ldE, h_stE, h_nmE, h_nSE, h_callE, h_callvE, h_dvE, h_remE, if_true, if_false, z_upS, z_upO, z_upK, nI_add, z_mul, z_sub, z_div, Nat.add_zero, Nat.mul_zero, Nat.zero_add, Nat.sub_zero, Nat.zero_mul, z_ltT, z_ltF, z_leT, z_leF, z_eqT, z_eqF, z_inT, z_clT, not_true_eq_false, not_false_eq_true, eq_self, true_or, or_true, z_m_lt, z_m_le, z_lt_m, z_le_m, z_eq_m, z_m_eq, z_rz0, z_rz1, z_m_add, z_of, r_0_0, r_0_1, r_0_3, r_0_4, r_0_5, r_0_6, r_0_7, r_0_8, r_0_9, r_0_10, r_1_0, r_1_1, r_1_2, r_1_3, r_1_4, r_1_5, r_1_6, r_1_7, r_1_8, r_2_0, r_2_1, r_2_2, r_2_3, r_2_4, r_2_5, r_2_6, r_2_7, r_11_0, r_11_1, r_11_2, r_11_3, r_11_4, r_11_5, r_11_6, r_19_0, r_21_0, r_23_0, r_25_0, r_27_0, r_61_0, r_117_0, r_117_1, r_117_2, r_117_3, r_117_4, r_117_5, r_117_6, r_117_7, r_126_0, r_126_1, r_126_2, r_126_3, r_126_4, r_132_0, r_132_1, r_135_0, r_135_1, r_135_2, r_135_3, r_135_4, r_135_5, r_142_0, r_144_0, r_144_1, r_144_2, r_145_0, r_145_1, r_145_2, r_145_3, r_145_4, r_145_5, r_145_6, r_154_0, r_154_1, r_155_0, ↓z_m1, l_0, l_1, l_2, l_3, l_4, l_5, l_6, l_7, l_8, l_9, l_10, l_11, l_12, l_13, l_14, l_15, l_16, l_17, l_18, l_19, l_20, l_21, l_22, l_23, l_24, l_25, l_26, l_27, l_28, l_29, l_30, l_31, l_32, l_33, l_34, l_35, l_36, l_37, l_38, l_39, l_40, l_41, l_42, l_43, l_44, l_45, l_46, l_47, l_48, l_49, l_50, l_51, l_52, l_53, l_54, l_55, l_56, l_57, l_59, l_60, l_61, l_62, l_63, l_64, l_65, l_80, l_86, l_87, l_88, l_89, l_90, l_91, l_92, l_93, l_94, l_95, l_97, l_99, l_100, l_107, l_119, l_122, l_124, l_129, l_140, l_141, l_142, l_143, l_144, l_145, l_147, l_150, l_159, l_160, l_161, l_162, l_205, l_253, l_255, l_256, l_269, l_305, l_380, l_399, l_400, l_420, l_430, l_516, l_600, l_720, l_820, l_905, l_921, l_937, l_953, l_970, l_999, l_1000, l_1790, l_4096, l_9999, l_1000000]
        · obtain ⟨σ', k1, k2⟩ := ih (i+1) σ (by omega) (by omega) hW
          refine ⟨σ', k1, ?_⟩
          rw [← k2, f_X0_fewestSalted_L36]
          generalize z_cnt i 12 = ci at *
          simp (disch := omega) only [hs, ec, ↓reduceIte, ↓p_ld, ↓p_st, ↓p_nm, ↓p_nS, ↓p_jn, ↓p_call, ↓p_callv, ↓p_dv, ↓p_rem, h_ldE, h_stE, h_nmE, h_nSE, h_callE, h_callvE, h_dvE, h_remE, if_true, if_false, z_upS, z_upO, z_upK, nI_add, z_mul, z_sub, z_div, Nat.add_zero, Nat.mul_zero, Nat.zero_add, Nat.sub_zero, Nat.zero_mul, z_ltT, z_ltF, z_leT, z_leF, z_eqT, z_eqF, z_inT, z_clT, not_true_eq_false, not_false_eq_true, eq_self, true_or, or_true, z_m_lt, z_m_le, z_lt_m, z_le_m, z_eq_m, z_m_eq, z_rz0, z_rz1, z_m_add, z_of, r_0_0, r_0_1, r_0_3, r_0_4, r_0_5, r_0_6, r_0_7, r_0_8, r_0_9, r_0_10, r_1_0, r_1_1, r_1_2, r_1_3, r_1_4, r_1_5, r_1_6, r_1_7, r_1_8, r_2_0, r_2_1, r_2_2, r_2_3, r_2_4, r_2_5, r_2_6, r_2_7, r_11_0, r_11_1, r_11_2, r_11_3, r_11_4, r_11_5, r_11_6, r_19_0, r_21_0, r_23_0, r_25_0, r_27_0, r_61_0, r_117_0, r_117_1, r_117_2, r_117_3, r_117_4, r_117_5, r_117_6, r_117_7, r_126_0, r_126_1, r_126_2, r_126_3, r_126_4, r_132_0, r_132_1, r_135_0, r_135_1, r_135_2, r_135_3, r_135_4, r_135_5, r_142_0, r_144_0, r_144_1, r_144_2, r_145_0, r_145_1, r_145_2, r_145_3, r_145_4, r_145_5, r_145_6, r_154_0, r_154_1, r_155_0, ↓z_m1, l_0, l_1, l_2, l_3, l_4, l_5, l_6, l_7, l_8, l_9, l_10, l_11, l_12, l_13, l_14, l_15, l_16, l_17, l_18, l_19, l_20, l_21, l_22, l_23, l_24, l_25, l_26, l_27, l_28, l_29, l_30, l_31, l_32, l_33, l_34, l_35, l_36, l_37, l_38, l_39, l_40, l_41, l_42, l_43, l_44, l_45, l_46, l_47, l_48, l_49, l_50, l_51, l_52, l_53, l_54, l_55, l_56, l_57, l_59, l_60, l_61, l_62, l_63, l_64, l_65, l_80, l_86, l_87, l_88, l_89, l_90, l_91, l_92, l_93, l_94, l_95, l_97, l_99, l_100, l_107, l_119, l_122, l_124, l_129, l_140, l_141, l_142, l_143, l_144, l_145, l_147, l_150, l_159, l_160, l_161, l_162, l_205, l_253, l_255, l_256, l_269, l_305, l_380, l_399, l_400, l_420, l_430, l_516, l_600, l_720, l_820, l_905, l_921, l_937, l_953, l_970, l_999, l_1000, l_1790, l_4096, l_9999, l_1000000]
      · have hs : (nI i &&& (nI M ^^^ z_m) = nI 0) = False := by rw [hs]; exact eq_false q1
        obtain ⟨σ', k1, k2⟩ := ih (i+1) σ (by omega) (by omega) hW
        refine ⟨σ', k1, ?_⟩
        rw [← k2, f_X0_fewestSalted_L36]
        simp (disch := omega) only [hs, ↓reduceIte, ↓p_ld, ↓p_st, ↓p_nm, ↓p_nS, ↓p_jn, ↓p_call, ↓p_callv, ↓p_dv, ↓p_rem, h_ldE, h_stE, h_nmE, h_nSE, h_callE, h_callvE, h_dvE, h_remE, if_true, if_false, z_upS, z_upO, z_upK, nI_add, z_mul, z_sub, z_div, Nat.add_zero, Nat.mul_zero, Nat.zero_add, Nat.sub_zero, Nat.zero_mul, z_ltT, z_ltF, z_leT, z_leF, z_eqT, z_eqF, z_inT, z_clT, not_true_eq_false, not_false_eq_true, eq_self, true_or, or_true, z_m_lt, z_m_le, z_lt_m, z_le_m, z_eq_m, z_m_eq, z_rz0, z_rz1, z_m_add, z_of, r_0_0, r_0_1, r_0_3, r_0_4, r_0_5, r_0_6, r_0_7, r_0_8, r_0_9, r_0_10, r_1_0, r_1_1, r_1_2, r_1_3, r_1_4, r_1_5, r_1_6, r_1_7, r_1_8, r_2_0, r_2_1, r_2_2, r_2_3, r_2_4, r_2_5, r_2_6, r_2_7, r_11_0, r_11_1, r_11_2, r_11_3, r_11_4, r_11_5, r_11_6, r_19_0, r_21_0, r_23_0, r_25_0, r_27_0, r_61_0, r_117_0, r_117_1, r_117_2, r_117_3, r_117_4, r_117_5, r_117_6, r_117_7, r_126_0, r_126_1, r_126_2, r_126_3, r_126_4, r_132_0, r_132_1, r_135_0, r_135_1, r_135_2, r_135_3, r_135_4, r_135_5, r_142_0, r_144_0, r_144_1, r_144_2, r_145_0, r_145_1, r_145_2, r_145_3, r_145_4, r_145_5, r_145_6, r_154_0, r_154_1, r_155_0, ↓z_m1, l_0, l_1, l_2, l_3, l_4, l_5, l_6, l_7, l_8, l_9, l_10, l_11, l_12, l_13, l_14, l_15, l_16, l_17, l_18, l_19, l_20, l_21, l_22, l_23, l_24, l_25, l_26, l_27, l_28, l_29, l_30, l_31, l_32, l_33, l_34, l_35, l_36, l_37, l_38, l_39, l_40, l_41, l_42, l_43, l_44, l_45, l_46, l_47, l_48, l_49, l_50, l_51, l_52, l_53, l_54, l_55, l_56, l_57, l_59, l_60, l_61, l_62, l_63, l_64, l_65, l_80, l_86, l_87, l_88, l_89, l_90, l_91, l_92, l_93, l_94, l_95, l_97, l_99, l_100, l_107, l_119, l_122, l_124, l_129, l_140, l_141, l_142, l_143, l_144, l_145, l_147, l_150, l_159, l_160, l_161, l_162, l_205, l_253, l_255, l_256, l_269, l_305, l_380, l_399, l_400, l_420, l_430, l_516, l_600, l_720, l_820, l_905, l_921, l_937, l_953, l_970, l_999, l_1000, l_1790, l_4096, l_9999, l_1000000]
/-- the class's search ends at the reference's -/
theorem c_few24 {σc : q_Sto} {V : Nat → Int32} {man mu me lame M R N : Nat} (hmu : mu ≤ 12) (hN : N = 2 ^ mu) (hme : me ≤ 5) (hHE : z_HE σc 1 V mu) (hman : man < me) (hM : M < N) (hd : ∀ s, s < N → z_dw V man mu me lame (s &&& M) = z_dw V man mu me lame s) (hR : R = z_wr (z_dw V man mu me lame) N) :
    ∀ j c (σ : q_Sto), c ≤ z_cnt M 12 + 1 → z_cnt M 12 + 1 < j + c → (∀ t, R = t + 1 → c ≤ z_cnt t 12) → z_WB σ V man mu me →
      ∃ σ', z_fB σ σ' ∧ f_X0_fewestSalted_L24 q_F 126 (nI man) (nI M) (nI lame) j (nI c) σ = some (z_vw R, σ') := by
  have h12 := z_p12 hmu
  have hspec := z_wr_spec (d := z_dw V man mu me lame) N
  rw [← hR] at hspec
  have hcM := z_cnt_le M 12
  intro j
  induction j with
  | zero => intro c σ h1 h2; omega
  | succ j ih =>
    intro c σ h1 h2 hlow hW
    have ec := c_bitCount (n := q_F) (s := M) (σ := σ) (by omega)
    by_cases hc : c = z_cnt M 12 + 1
    · have hR0 : R = 0 := by
        cases hr : R with
        | zero => rfl
        | succ t =>
          have := hlow t hr
          have htM := z_wr_mv (d := z_dw V man mu me lame) (N := N) (M := M) (by omega) hd (t := t) (by rw [← hR]; exact hr)
          have := (z_cnt_and_le (a := t) (b := M)).2
          rw [htM] at this
          omega
      refine ⟨σ, z_fB.refl σ, ?_⟩
      rw [hR0, f_X0_fewestSalted_L24]
      have ez : z_vw 0 = z_m := rfl
      rw [ez]
      generalize z_cnt M 12 = cm at *
      simp (disch := omega) only [ec, ↓reduceIte, ↓p_ld, ↓p_st, ↓p_nm, ↓p_nS, ↓p_jn, ↓p_call, ↓p_callv, ↓p_dv, ↓p_rem, h_ldE, h_stE, h_nmE, h_nSE, h_callE, h_callvE, h_dvE, h_remE, if_true, if_false, z_upS, z_upO, z_upK, nI_add, z_mul, z_sub, z_div, Nat.add_zero, Nat.mul_zero, Nat.zero_add, Nat.sub_zero, Nat.zero_mul, z_ltT, z_ltF, z_leT, z_leF, z_eqT, z_eqF, z_inT, z_clT, not_true_eq_false, not_false_eq_true, eq_self, true_or, or_true, z_m_lt, z_m_le, z_lt_m, z_le_m, z_eq_m, z_m_eq, z_rz0, z_rz1, z_m_add, z_of, r_0_0, r_0_1, r_0_3, r_0_4, r_0_5, r_0_6, r_0_7, r_0_8, r_0_9, r_0_10, r_1_0, r_1_1, r_1_2, r_1_3, r_1_4, r_1_5, r_1_6, r_1_7, r_1_8, r_2_0, r_2_1, r_2_2, r_2_3, r_2_4, r_2_5, r_2_6, r_2_7, r_11_0, r_11_1, r_11_2, r_11_3, r_11_4, r_11_5, r_11_6, r_19_0, r_21_0, r_23_0, r_25_0, r_27_0, r_61_0, r_117_0, r_117_1, r_117_2, r_117_3, r_117_4, r_117_5, r_117_6, r_117_7, r_126_0, r_126_1, r_126_2, r_126_3, r_126_4, r_132_0, r_132_1, r_135_0, r_135_1, r_135_2, r_135_3, r_135_4, r_135_5, r_142_0, r_144_0, r_144_1, r_144_2, r_145_0, r_145_1, r_145_2, r_145_3, r_145_4, r_145_5, r_145_6, r_154_0, r_154_1, r_155_0, ↓z_m1, l_0, l_1, l_2, l_3, l_4, l_5, l_6, l_7, l_8, l_9, l_10, l_11, l_12, l_13, l_14, l_15, l_16, l_17, l_18, l_19, l_20, l_21, l_22, l_23, l_24, l_25, l_26, l_27, l_28, l_29, l_30, l_31, l_32, l_33, l_34, l_35, l_36, l_37, l_38, l_39, l_40, l_41, l_42, l_43, l_44, l_45, l_46, l_47, l_48, l_49, l_50, l_51, l_52, l_53, l_54, l_55, l_56, l_57, l_59, l_60, l_61, l_62, l_63, l_64, l_65, l_80, l_86, l_87, l_88, l_89, l_90, l_91, l_92, l_93, l_94, l_95, l_97, l_99, l_100, l_107, l_119, l_122, l_124, l_129, l_140, l_141, l_142, l_143, l_144, l_145, l_147, l_150, l_159, l_160, l_161, l_162, l_205, l_253, l_255, l_256, l_269, l_305, l_380, l_399, l_400, l_420, l_430, l_516, l_600, l_720, l_820, l_905, l_921, l_937, l_953, l_970, l_999, l_1000, l_1790, l_4096, l_9999, l_1000000]
    · by_cases hq : ∃ t, R = t + 1 ∧ z_cnt t 12 = c
      · obtain ⟨t, hr, htc⟩ := hq
        obtain ⟨t1, t2, t3⟩ := hspec.2 t hr
        have htM := z_wr_mv (d := z_dw V man mu me lame) (N := N) (M := M) (by omega) hd (t := t) (by rw [← hR]; exact hr)
        have htle : t ≤ M := by
          have : t &&& M ≤ M := Nat.and_le_right
          omega
        obtain ⟨σ', k1, k2⟩ := c_few_yes (lame := lame) (K := fun (s18 : q_Sto) => f_X0_fewestSalted_L24 q_F 126 (nI man) (nI M) (nI lame) j (nI (c + 1)) s18) hmu hme hHE hman (show M < 4096 by omega) htle htM htc t2 (fun s hs hsM hsc => by
          refine z_bf (fun hd2 => ?_)
          have := (t3 s (by omega) hd2).2 (by omega)
          omega) q_F 0 σ (Nat.zero_le _) (by unfold q_F; omega) hW
        refine ⟨σ', k1, ?_⟩
        rw [hr]
        show _ = some (nI t, σ')
        rw [← k2, f_X0_fewestSalted_L24]
        generalize z_cnt M 12 = cm at *
        simp (disch := omega) only [ec, ↓reduceIte, ↓p_ld, ↓p_st, ↓p_nm, ↓p_nS, ↓p_jn, ↓p_call, ↓p_callv, ↓p_dv, ↓p_rem, h_ldE, h_stE, h_nmE, h_nSE, h_callE, h_callvE, h_dvE, h_remE, if_true, if_false, z_upS, z_upO, z_upK, nI_add, z_mul, z_sub, z_div, Nat.add_zero, Nat.mul_zero, Nat.zero_add, Nat.sub_zero, Nat.zero_mul, z_ltT, z_ltF, z_leT, z_leF, z_eqT, z_eqF, z_inT, z_clT, not_true_eq_false, not_false_eq_true, eq_self, true_or, or_true, z_m_lt, z_m_le, z_lt_m, z_le_m, z_eq_m, z_m_eq, z_rz0, z_rz1, z_m_add, z_of, r_0_0, r_0_1, r_0_3, r_0_4, r_0_5, r_0_6, r_0_7, r_0_8, r_0_9, r_0_10, r_1_0, r_1_1, r_1_2, r_1_3, r_1_4, r_1_5, r_1_6, r_1_7, r_1_8, r_2_0, r_2_1, r_2_2, r_2_3, r_2_4, r_2_5, r_2_6, r_2_7, r_11_0, r_11_1, r_11_2, r_11_3, r_11_4, r_11_5, r_11_6, r_19_0, r_21_0, r_23_0, r_25_0, r_27_0, r_61_0, r_117_0, r_117_1, r_117_2, r_117_3, r_117_4, r_117_5, r_117_6, r_117_7, r_126_0, r_126_1, r_126_2, r_126_3, r_126_4, r_132_0, r_132_1, r_135_0, r_135_1, r_135_2, r_135_3, r_135_4, r_135_5, r_142_0, r_144_0, r_144_1, r_144_2, r_145_0, r_145_1, r_145_2, r_145_3, r_145_4, r_145_5, r_145_6, r_154_0, r_154_1, r_155_0, ↓z_m1, l_0, l_1, l_2, l_3, l_4, l_5, l_6, l_7, l_8, l_9, l_10, l_11, l_12, l_13, l_14, l_15, l_16, l_17, l_18, l_19, l_20, l_21, l_22, l_23, l_24, l_25, l_26, l_27, l_28, l_29, l_30, l_31, l_32, l_33, l_34, l_35, l_36, l_37, l_38, l_39, l_40, l_41, l_42, l_43, l_44, l_45, l_46, l_47, l_48, l_49, l_50, l_51, l_52, l_53, l_54, l_55, l_56, l_57, l_59, l_60, l_61, l_62, l_63, l_64, l_65, l_80, l_86, l_87, l_88, l_89, l_90, l_91, l_92, l_93, l_94, l_95, l_97, l_99, l_100, l_107, l_119, l_122, l_124, l_129, l_140, l_141, l_142, l_143, l_144, l_145, l_147, l_150, l_159, l_160, l_161, l_162, l_205, l_253, l_255, l_256, l_269, l_305, l_380, l_399, l_400, l_420, l_430, l_516, l_600, l_720, l_820, l_905, l_921, l_937, l_953, l_970, l_999, l_1000, l_1790, l_4096, l_9999, l_1000000]
      · have hlow2 : ∀ t, R = t + 1 → c + 1 ≤ z_cnt t 12 := fun t ht => by
          have := hlow t ht
          have : z_cnt t 12 ≠ c := fun h => hq ⟨t, ht, h⟩
          omega
        obtain ⟨σ1, g1, g2⟩ := c_few_no (lame := lame) (K := fun (s18 : q_Sto) => f_X0_fewestSalted_L24 q_F 126 (nI man) (nI M) (nI lame) j (nI (c + 1)) s18) hmu hme hHE hman (show M < 4096 by omega) (show c ≤ 12 by omega) (fun s hs hsM hsc => by
          refine z_bf (fun hd2 => ?_)
          cases hr : R with
          | zero =>
            have := hspec.1 hr s (by omega)
            rw [this] at hd2; cases hd2
          | succ t =>
            have := ((hspec.2 t hr).2.2 s (by omega) hd2).1
            have := hlow2 t hr
            omega) q_F 0 σ (Nat.zero_le _) (by unfold q_F; omega) hW
        obtain ⟨σ', k1, k2⟩ := ih (c+1) σ1 (by omega) (by omega) hlow2 (hW.fr g1)
        refine ⟨σ', g1.trans k1, ?_⟩
        rw [← k2, f_X0_fewestSalted_L24]
        generalize z_cnt M 12 = cm at *
        simp (disch := omega) only [ec, ↓reduceIte, ↓p_ld, ↓p_st, ↓p_nm, ↓p_nS, ↓p_jn, ↓p_call, ↓p_callv, ↓p_dv, ↓p_rem, h_ldE, h_stE, h_nmE, h_nSE, h_callE, h_callvE, h_dvE, h_remE, if_true, if_false, z_upS, z_upO, z_upK, nI_add, z_mul, z_sub, z_div, Nat.add_zero, Nat.mul_zero, Nat.zero_add, Nat.sub_zero, Nat.zero_mul, z_ltT, z_ltF, z_leT, z_leF, z_eqT, z_eqF, z_inT, z_clT, not_true_eq_false, not_false_eq_true, eq_self, true_or, or_true, z_m_lt, z_m_le, z_lt_m, z_le_m, z_eq_m, z_m_eq, z_rz0, z_rz1, z_m_add, z_of, r_0_0, r_0_1, r_0_3, r_0_4, r_0_5, r_0_6, r_0_7, r_0_8, r_0_9, r_0_10, r_1_0, r_1_1, r_1_2, r_1_3, r_1_4, r_1_5, r_1_6, r_1_7, r_1_8, r_2_0, r_2_1, r_2_2, r_2_3, r_2_4, r_2_5, r_2_6, r_2_7, r_11_0, r_11_1, r_11_2, r_11_3, r_11_4, r_11_5, r_11_6, r_19_0, r_21_0, r_23_0, r_25_0, r_27_0, r_61_0, r_117_0, r_117_1, r_117_2, r_117_3, r_117_4, r_117_5, r_117_6, r_117_7, r_126_0, r_126_1, r_126_2, r_126_3, r_126_4, r_132_0, r_132_1, r_135_0, r_135_1, r_135_2, r_135_3, r_135_4, r_135_5, r_142_0, r_144_0, r_144_1, r_144_2, r_145_0, r_145_1, r_145_2, r_145_3, r_145_4, r_145_5, r_145_6, r_154_0, r_154_1, r_155_0, ↓z_m1, l_0, l_1, l_2, l_3, l_4, l_5, l_6, l_7, l_8, l_9, l_10, l_11, l_12, l_13, l_14, l_15, l_16, l_17, l_18, l_19, l_20, l_21, l_22, l_23, l_24, l_25, l_26, l_27, l_28, l_29, l_30, l_31, l_32, l_33, l_34, l_35, l_36, l_37, l_38, l_39, l_40, l_41, l_42, l_43, l_44, l_45, l_46, l_47, l_48, l_49, l_50, l_51, l_52, l_53, l_54, l_55, l_56, l_57, l_59, l_60, l_61, l_62, l_63, l_64, l_65, l_80, l_86, l_87, l_88, l_89, l_90, l_91, l_92, l_93, l_94, l_95, l_97, l_99, l_100, l_107, l_119, l_122, l_124, l_129, l_140, l_141, l_142, l_143, l_144, l_145, l_147, l_150, l_159, l_160, l_161, l_162, l_205, l_253, l_255, l_256, l_269, l_305, l_380, l_399, l_400, l_420, l_430, l_516, l_600, l_720, l_820, l_905, l_921, l_937, l_953, l_970, l_999, l_1000, l_1790, l_4096, l_9999, l_1000000]
        exact g2
/-! the fewest that are to be given salt: the reference -/
def z_gv (V : Nat → Int32) (man S : Nat) : Nat → Nat → Int32
  | 0 => V
  | i + 1 => if S.testBit i = true then z_likes (z_gv V man S i) i man (nI 15) else z_gv V man S i
theorem z_gv_o {V : Nat → Int32} {man S : Nat} : ∀ i a, (a < 20 ∨ 20 + 5 * i + man ≤ a) → z_gv V man S i a = V a
  | 0, _, _ => rfl
  | i + 1, a, h => by
    have e : z_gv V man S (i+1) = if S.testBit i = true then z_likes (z_gv V man S i) i man (nI 15) else z_gv V man S i := rfl
    have ih := z_gv_o (V := V) (man := man) (S := S) i a (by omega)
    rw [e]
    split
    · unfold z_likes
      rw [z_uK (by omega), ih]
    · exact ih
theorem z_gv_k {V : Nat → Int32} {man S : Nat} (hman : man < 5) : ∀ i m k, k < 5 → k ≠ man → z_gv V man S i (20+5*m+k) = V (20+5*m+k)
  | 0, _, _, _, _ => rfl
  | i + 1, m, k, hk, h => by
    have e : z_gv V man S (i+1) = if S.testBit i = true then z_likes (z_gv V man S i) i man (nI 15) else z_gv V man S i := rfl
    have ih := z_gv_k (V := V) (S := S) hman i m k hk h
    rw [e]
    split
    · unfold z_likes
      rw [z_uK (by omega), ih]
    · exact ih
theorem z_gv_m {V : Nat → Int32} {man S : Nat} (hman : man < 5) : ∀ i m, m < i → z_gv V man S i (20+5*m+man) = if S.testBit m = true then nI (z_cl (V (20+5*m+man) + nI 15) 99) else V (20+5*m+man)
  | 0, m, h => by omega
  | i + 1, m, h => by
    have e : z_gv V man S (i+1) = if S.testBit i = true then z_likes (z_gv V man S i) i man (nI 15) else z_gv V man S i := rfl
    rw [e]
    by_cases q : m = i
    · subst q
      have o := z_gv_o (V := V) (man := man) (S := S) m (20+5*m+man) (Or.inr (Nat.le_refl _))
      by_cases q2 : S.testBit m = true
      · rw [if_pos q2, if_pos q2]
        unfold z_likes
        rw [z_uS, o]
      · rw [if_neg q2, if_neg q2, o]
    · have ih := z_gv_m (V := V) (S := S) hman i m (by omega)
      split
      · unfold z_likes
        rw [z_uK (by omega), ih]
      · exact ih
theorem z_cl15 {a : Nat} (h : a ≤ 99) : z_cl (nI a + nI 15) 99 = min 99 (a + 15) := by
  unfold z_cl
  rw [nI_add, zn_nI (by omega)]
  have : ¬ nI (a + 15) < nI 0 := by rw [nI_ltI (by omega) (by omega)]; omega
  rw [if_neg this]
  split <;> omega
theorem z_gv_lk {σ : q_Sto} {V : Nat → Int32} {man S mu me m k : Nat} (hC : z_C σ V mu me) (hman : man < me) (hm : m < mu) (hk : k < me) : z_gv V man S mu (20+5*m+k) = nI (if k = man ∧ S.testBit m = true then z_sl V m man else z_lk V m k) ∧ (if k = man ∧ S.testBit m = true then z_sl V m man else z_lk V m k) ≤ 99 := by
  have hme := hC.1.2.1
  obtain ⟨x1, x2⟩ := z_leE (hC.1.2.2.2.2.2.2.1 m k hm hk) (by omega)
  have x1 : V (20+5*m+k) = nI (z_lk V m k) := x1
  have x2 : z_lk V m k ≤ 99 := x2
  by_cases q : k = man
  · subst q
    rw [z_gv_m (by omega) mu m hm]
    by_cases q2 : S.testBit m = true
    · rw [if_pos q2, if_pos ⟨rfl, q2⟩, x1, z_cl15 x2]
      refine ⟨rfl, ?_⟩
      unfold z_sl; omega
    · rw [if_neg q2, if_neg (fun h => q2 h.2)]
      exact ⟨x1, x2⟩
  · rw [z_gv_k (by omega) mu m k (by omega) q, if_neg (fun h => q h.1)]
    exact ⟨x1, x2⟩
theorem z_gv_same {V : Nat → Int32} {man S mu : Nat} (hmu : mu ≤ 12) (hman : man < 5) : z_same V (z_gv V man S mu) := by
  intro a ha
  by_cases q : a < 20
  · exact z_gv_o mu a (Or.inl q)
  · have : ∀ i, i ≤ 12 → z_gv V man S i a = V a := by
      intro i
      induction i with
      | zero => intro _; rfl
      | succ i ih =>
        intro hi
        have e : z_gv V man S (i+1) = if S.testBit i = true then z_likes (z_gv V man S i) i man (nI 15) else z_gv V man S i := rfl
        rw [e]
        split
        · unfold z_likes
          rw [z_uK (by omega), ih (by omega)]
        · exact ih (by omega)
    exact this mu hmu
theorem z_gv_hi {V : Nat → Int32} {man S mu a : Nat} (hmu : mu ≤ 12) (hman : man < 5) (ha : a < 20 ∨ 80 ≤ a) : z_gv V man S mu a = V a := by
  have : ∀ i, i ≤ 12 → z_gv V man S i a = V a := by
    intro i
    induction i with
    | zero => intro _; rfl
    | succ i ih =>
      intro hi
      have e : z_gv V man S (i+1) = if S.testBit i = true then z_likes (z_gv V man S i) i man (nI 15) else z_gv V man S i := rfl
      rw [e]
      split
      · unfold z_likes
        rw [z_uK (by omega), ih (by omega)]
      · exact ih (by omega)
  exact this mu hmu
/-- the reference's ballot with salt is the class's -/
theorem z_gv_drv {σ : q_Sto} {V : Nat → Int32} {man S mu me : Nat} {out : Nat → Bool} (hC : z_C σ V mu me) (hman : man < me) : z_drv (z_bt (z_gv V man S mu) mu me) out = z_drv (z_pw V man S mu me) out := by
  have hmu := hC.1.1
  have hme := hC.1.2.1
  have hsame := z_gv_same (V := V) (S := S) hmu (show man < 5 by omega)
  refine z_drv_pick (p := z_pw V man S mu me) z_pw_mu z_bt_mu z_pw_me z_bt_me (fun B m hm _ => ?_)
  have ehs : ∀ m, z_hs (z_gv V man S mu) m = z_hs V m := fun m => by
    unfold z_hs
    rw [z_gv_hi hmu (by omega) (show 129 + m < 20 ∨ 80 ≤ 129 + m by omega)]
  rw [z_pw_pk, z_bt_pk, z_need_congr hsame (by omega), ehs]
  unfold z_ch
  rw [z_ch_congr me (fun k hk => ?_)]
  show z_lean (z_gv V man S mu) m k (z_lk (z_gv V man S mu) m k) _ = z_lean V m k (if k = man ∧ S.testBit m = true then z_sl V m man else z_lk V m k) _
  rw [z_lean_congr hsame (by omega) (by omega)]
  obtain ⟨g1, g2⟩ := z_gv_lk (S := S) hC hman hm hk
  have : z_lk (z_gv V man S mu) m k = if k = man ∧ S.testBit m = true then z_sl V m man else z_lk V m k := by
    show zn (z_gv V man S mu (20+5*m+k)) = _
    rw [g1, zn_nI (by omega)]
  rw [this]
theorem m_winsL6 {man S mu : Nat} {V : Nat → Int32} {K : q_Sto → Option (Int32 × q_Sto)} (hmu : mu ≤ 12) (hman : man < 5) (hS : S < 4096) (h86 : V 86 = nI mu) : ∀ j i (σ : q_Sto), i ≤ mu → mu < j + i → σ 158 = z_gv V man S i → ∃ σ', z_fM σ σ' ∧ σ' 158 = z_gv V man S mu ∧ f_X12_winsBy_L6 q_F 157 (nI man) (nI S) K j (nI i) σ = K σ' := by
  intro j
  induction j with
  | zero => intro i σ h1 h2; omega
  | succ j ih =>
    intro i σ h1 h2 hV
    have g86 : σ 158 86 = nI mu := by rw [hV, z_gv_hi (by omega) hman (Or.inr (by omega))]; exact h86
    by_cases hi : i = mu
    · subst hi
      refine ⟨σ, z_fM.refl σ, hV, ?_⟩
      rw [f_X12_winsBy_L6]
      simp (disch := omega) only [g86, ↓reduceIte, ↓p_ld, ↓p_st, ↓p_nm, ↓p_nS, ↓p_jn, ↓p_call, ↓p_callv, ↓p_dv, ↓p_rem, h_ldE, h_stE, h_nmE, h_nSE, h_callE, h_callvE, h_dvE, h_remE, if_true, if_false, z_upS, z_upO, z_upK, nI_add, z_mul, z_sub, z_div, Nat.add_zero, Nat.mul_zero, Nat.zero_add, Nat.sub_zero, Nat.zero_mul, z_ltT, z_ltF, z_leT, z_leF, z_eqT, z_eqF, z_inT, z_clT, not_true_eq_false, not_false_eq_true, eq_self, true_or, or_true, z_m_lt, z_m_le, z_lt_m, z_le_m, z_eq_m, z_m_eq, z_rz0, z_rz1, z_m_add, z_of, r_157_0, r_157_1, r_157_2, r_157_3, r_157_6, r_157_7, r_157_8, r_157_9, r_157_10, r_157_11, r_157_27, r_157_28, r_157_29, r_157_30, ↓z_m1, l_0, l_1, l_2, l_3, l_4, l_5, l_6, l_7, l_8, l_9, l_10, l_11, l_12, l_13, l_14, l_15, l_16, l_17, l_18, l_19, l_20, l_21, l_22, l_23, l_24, l_25, l_26, l_27, l_28, l_29, l_30, l_31, l_32, l_33, l_34, l_35, l_36, l_37, l_38, l_39, l_40, l_41, l_42, l_43, l_44, l_45, l_46, l_47, l_48, l_49, l_50, l_51, l_52, l_53, l_54, l_55, l_56, l_57, l_59, l_60, l_61, l_62, l_63, l_64, l_65, l_80, l_86, l_87, l_88, l_89, l_90, l_91, l_92, l_93, l_94, l_95, l_97, l_99, l_100, l_107, l_119, l_122, l_124, l_129, l_140, l_141, l_142, l_143, l_144, l_145, l_147, l_150, l_159, l_160, l_161, l_162, l_205, l_253, l_255, l_256, l_269, l_305, l_380, l_399, l_400, l_420, l_430, l_516, l_600, l_720, l_820, l_905, l_921, l_937, l_953, l_970, l_999, l_1000, l_1790, l_4096, l_9999, l_1000000]
    · have eb := z_bitE (a := S) (m := i) (by omega) (by omega)
      unfold z_bit at eb
      have e : z_gv V man S (i+1) = if S.testBit i = true then z_likes (z_gv V man S i) i man (nI 15) else z_gv V man S i := rfl
      by_cases q : S.testBit i = true
      · rw [if_pos q] at eb e
        obtain ⟨σ1, f1, f2, f3⟩ := m_likes (n := q_F) (d := nI 15) hV (show i < 12 by omega) hman
        obtain ⟨σ', k1, k2, k3⟩ := ih (i+1) σ1 (by omega) (by omega) (by rw [f2, e])
        refine ⟨σ', f1.trans k1, k2, ?_⟩
        rw [← k3, f_X12_winsBy_L6]
        simp (disch := omega) only [g86, eb, f3, ↓reduceIte, ↓p_ld, ↓p_st, ↓p_nm, ↓p_nS, ↓p_jn, ↓p_call, ↓p_callv, ↓p_dv, ↓p_rem, h_ldE, h_stE, h_nmE, h_nSE, h_callE, h_callvE, h_dvE, h_remE, if_true, if_false, z_upS, z_upO, z_upK, nI_add, z_mul, z_sub, z_div, Nat.add_zero, Nat.mul_zero, Nat.zero_add, Nat.sub_zero, Nat.zero_mul, z_ltT, z_ltF, z_leT, z_leF, z_eqT, z_eqF, z_inT, z_clT, not_true_eq_false, not_false_eq_true, eq_self, true_or, or_true, z_m_lt, z_m_le, z_lt_m, z_le_m, z_eq_m, z_m_eq, z_rz0, z_rz1, z_m_add, z_of, r_157_0, r_157_1, r_157_2, r_157_3, r_157_6, r_157_7, r_157_8, r_157_9, r_157_10, r_157_11, r_157_27, r_157_28, r_157_29, r_157_30, ↓z_m1, l_0, l_1, l_2, l_3, l_4, l_5, l_6, l_7, l_8, l_9, l_10, l_11, l_12, l_13, l_14, l_15, l_16, l_17, l_18, l_19, l_20, l_21, l_22, l_23, l_24, l_25, l_26, l_27, l_28, l_29, l_30, l_31, l_32, l_33, l_34, l_35, l_36, l_37, l_38, l_39, l_40, l_41, l_42, l_43, l_44, l_45, l_46, l_47, l_48, l_49, l_50, l_51, l_52, l_53, l_54, l_55, l_56, l_57, l_59, l_60, l_61, l_62, l_63, l_64, l_65, l_80, l_86, l_87, l_88, l_89, l_90, l_91, l_92, l_93, l_94, l_95, l_97, l_99, l_100, l_107, l_119, l_122, l_124, l_129, l_140, l_141, l_142, l_143, l_144, l_145, l_147, l_150, l_159, l_160, l_161, l_162, l_205, l_253, l_255, l_256, l_269, l_305, l_380, l_399, l_400, l_420, l_430, l_516, l_600, l_720, l_820, l_905, l_921, l_937, l_953, l_970, l_999, l_1000, l_1790, l_4096, l_9999, l_1000000]
      · rw [if_neg q] at eb e
        obtain ⟨σ', k1, k2, k3⟩ := ih (i+1) σ (by omega) (by omega) (by rw [hV, e])
        refine ⟨σ', k1, k2, ?_⟩
        rw [← k3, f_X12_winsBy_L6]
        simp (disch := omega) only [g86, eb, ↓reduceIte, ↓p_ld, ↓p_st, ↓p_nm, ↓p_nS, ↓p_jn, ↓p_call, ↓p_callv, ↓p_dv, ↓p_rem, h_ldE, h_stE, h_nmE, h_nSE, h_callE, h_callvE, h_dvE, h_remE, if_true, if_false, z_upS, z_upO, z_upK, nI_add, z_mul, z_sub, z_div, Nat.add_zero, Nat.mul_zero, Nat.zero_add, Nat.sub_zero, Nat.zero_mul, z_ltT, z_ltF, z_leT, z_leF, z_eqT, z_eqF, z_inT, z_clT, not_true_eq_false, not_false_eq_true, eq_self, true_or, or_true, z_m_lt, z_m_le, z_lt_m, z_le_m, z_eq_m, z_m_eq, z_rz0, z_rz1, z_m_add, z_of, r_157_0, r_157_1, r_157_2, r_157_3, r_157_6, r_157_7, r_157_8, r_157_9, r_157_10, r_157_11, r_157_27, r_157_28, r_157_29, r_157_30, ↓z_m1, l_0, l_1, l_2, l_3, l_4, l_5, l_6, l_7, l_8, l_9, l_10, l_11, l_12, l_13, l_14, l_15, l_16, l_17, l_18, l_19, l_20, l_21, l_22, l_23, l_24, l_25, l_26, l_27, l_28, l_29, l_30, l_31, l_32, l_33, l_34, l_35, l_36, l_37, l_38, l_39, l_40, l_41, l_42, l_43, l_44, l_45, l_46, l_47, l_48, l_49, l_50, l_51, l_52, l_53, l_54, l_55, l_56, l_57, l_59, l_60, l_61, l_62, l_63, l_64, l_65, l_80, l_86, l_87, l_88, l_89, l_90, l_91, l_92, l_93, l_94, l_95, l_97, l_99, l_100, l_107, l_119, l_122, l_124, l_129, l_140, l_141, l_142, l_143, l_144, l_145, l_147, l_150, l_159, l_160, l_161, l_162, l_205, l_253, l_255, l_256, l_269, l_305, l_380, l_399, l_400, l_420, l_430, l_516, l_600, l_720, l_820, l_905, l_921, l_937, l_953, l_970, l_999, l_1000, l_1790, l_4096, l_9999, l_1000000]
theorem z_gv_R {man S mu me : Nat} {V : Nat → Int32} {σc : q_Sto} (hC : z_C σc V mu me) (hman : man < me) : z_R σc (z_gv V man S mu) mu me := by
  have hmu := hC.1.1
  have hme := hC.1.2.1
  have h86 := hC.1.2.2.1
  have hsame := z_gv_same (V := V) (S := S) hmu (show man < 5 by omega)
  have hWT := hC.2.2.congr hsame
  have e86 : z_gv V man S mu 86 = V 86 := z_gv_hi hmu (by omega) (Or.inr (by omega))
  have e87 : z_gv V man S mu 87 = V 87 := z_gv_hi hmu (by omega) (Or.inr (by omega))
  exact ⟨hmu, hme, e86.trans h86, e87.trans hC.1.2.2.2.1, hWT.2.1, hWT.1, fun m k hm hk => by
    obtain ⟨g1, g2⟩ := z_gv_lk (S := S) hC hman hm hk
    exact ⟨_, g2, g1⟩⟩
theorem m_wins1 {man S mu me lame : Nat} {V : Nat → Int32} {σ σc : q_Sto} (hC : z_C σc V mu me) (hman : man < me) (h7 : V 7 = nI lame) (hl : lame < 4096) (hV : σ 158 = z_gv V man S mu) :
    ∃ σ3, (∀ o, o ≠ 158 → o ≠ 166 → o ≠ 167 → σ3 o = σ o) ∧ (∀ k, 86 ≤ k → σ3 158 k = V k) ∧ σ3 158 2 = z_vw (z_drv (z_bt (z_gv V man S mu) mu me) (fun i => lame.testBit i)) ∧ ∃ r, f_X12_stand q_F 157 σ = some (r, σ3) := by
  have hmu := hC.1.1
  have hme := hC.1.2.1
  have hR := z_gv_R (S := S) hC hman
  have e7 : z_gv V man S mu 7 = V 7 := z_gv_hi hmu (by omega) (Or.inl (by omega))
  have ehi : ∀ k, 86 ≤ k → z_gv V man S mu k = V k := fun k hk => z_gv_hi hmu (by omega) (Or.inr (by omega))
  generalize z_gv V man S mu = V' at *
  obtain ⟨σ3, c1, c2, c3⟩ := m_stand (n := q_F) (s := lame) (σ := σ) z_F402 hR (e7.trans h7) hl hV
  refine ⟨σ3, c1, fun k hk => ?_, ?_, _, c3⟩
  · rw [c2, z_VVo (by omega) (by omega), ehi k hk]
  · rw [c2, z_VV2]
theorem m_winsBy {man S mu me lame : Nat} {V : Nat → Int32} {σ σc : q_Sto} (hC : z_C σc V mu me) (hman : man < me) (hS : S < 4096) (h7 : V 7 = nI lame) (hl : lame < 4096) (hV : σ 158 = V) :
    ∃ σ', (∀ o, o ≠ 157 → o ≠ 161 → o ≠ 166 → o ≠ 167 → σ' o = σ o) ∧ (∀ a, a ≠ 26 → σ' 157 a = σ 157 a) ∧ f_X12_winsBy q_F 157 (nI man) (nI S) σ = some (z_fb (z_dw V man mu me lame S), σ') := by
  have hmu := hC.1.1
  have hme := hC.1.2.1
  have h86 := hC.1.2.2.1
  obtain ⟨σ1, a1, a2, a3, a4, a5⟩ := m_lays (n := q_F) (σ := σ) (by unfold q_F; omega)
  obtain ⟨σ2, b1, b2, b3⟩ := m_winsL6 (man := man) (S := S) (K := fun (s8 : q_Sto) =>
  q_call (f_X12_stand q_F 157 s8) fun r10 s9 =>
  q_ld s9 (q_RF 157 0) 2 1790 fun v11 =>
  if v11 = (nI man) then (
  q_callv (f_X12_putsBack q_F 157 s9) fun s13 =>
  some (1, s13))
  else (
  q_callv (f_X12_putsBack q_F 157 s9) fun s15 =>
  some (0, s15))) hmu (show man < 5 by omega) hS h86 q_F 0 σ1 (Nat.zero_le _) (by unfold q_F; omega) (by rw [a1 158 (by omega) (by omega), hV]; rfl)
  obtain ⟨σ3, c1, ck, c2, rr, c3⟩ := m_wins1 (S := S) hC hman h7 hl b2
  obtain ⟨σ4, d1, d2, d3⟩ := m_puts (n := q_F) (V := V) (σ := σ3) (by unfold q_F; omega) (fun k hk => by rw [c1 161 (by omega) (by omega) (by omega), b1 161 (by omega) (by omega) (by omega), a4 k hk, hV]) ck
  refine ⟨σ4, fun o o1 o2 o3 o4 => ?_, fun a ha => by rw [d1 157 (by omega), c1 157 (by omega) (by omega) (by omega), b1 157 (by omega) (by omega) (by omega), a2 a ha], ?_⟩
  · by_cases q : o = 158
    · subst q; rw [d2, hV]
    · rw [d1 o q, c1 o q o3 o4, b1 o q o3 o4, a1 o o2 o1]
  · have g2 : σ3 158 2 = z_vw (z_drv (z_pw V man S mu me) (fun i => lame.testBit i)) := by rw [c2, z_gv_drv hC hman]
    have hle := z_pw_le (V := V) (man := man) (S := S) (mu := mu) (me := me) (out := fun i => lame.testBit i)
    have hve := z_vw_eq (a := z_drv (z_pw V man S mu me) (fun i => lame.testBit i)) (b := man + 1) (by omega) (by omega)
    have eL : f_X12_winsBy q_F 157 (nI man) (nI S) σ = f_X12_winsBy_L6 q_F 157 (nI man) (nI S) (fun (s8 : q_Sto) =>
  q_call (f_X12_stand q_F 157 s8) fun r10 s9 =>
  q_ld s9 (q_RF 157 0) 2 1790 fun v11 =>
  if v11 = (nI man) then (
  q_callv (f_X12_putsBack q_F 157 s9) fun s13 =>
  some (1, s13))
  else (
  q_callv (f_X12_putsBack q_F 157 s9) fun s15 =>
  some (0, s15))) q_F (nI 0) σ1 := by
      unfold f_X12_winsBy
      simp (disch := omega) only [a5, ↓reduceIte, ↓p_ld, ↓p_st, ↓p_nm, ↓p_nS, ↓p_jn, ↓p_call, ↓p_callv, ↓p_dv, ↓p_rem, h_ldE, h_stE, h_nmE, h_nSE, h_callE, h_callvE, h_dvE, h_remE, if_true, if_false, z_upS, z_upO, z_upK, nI_add, z_mul, z_sub, z_div, Nat.add_zero, Nat.mul_zero, Nat.zero_add, Nat.sub_zero, Nat.zero_mul, z_ltT, z_ltF, z_leT, z_leF, z_eqT, z_eqF, z_inT, z_clT, not_true_eq_false, not_false_eq_true, eq_self, true_or, or_true, z_m_lt, z_m_le, z_lt_m, z_le_m, z_eq_m, z_m_eq, z_rz0, z_rz1, z_m_add, z_of, r_157_0, r_157_1, r_157_2, r_157_3, r_157_6, r_157_7, r_157_8, r_157_9, r_157_10, r_157_11, r_157_27, r_157_28, r_157_29, r_157_30, ↓z_m1, l_0, l_1, l_2, l_3, l_4, l_5, l_6, l_7, l_8, l_9, l_10, l_11, l_12, l_13, l_14, l_15, l_16, l_17, l_18, l_19, l_20, l_21, l_22, l_23, l_24, l_25, l_26, l_27, l_28, l_29, l_30, l_31, l_32, l_33, l_34, l_35, l_36, l_37, l_38, l_39, l_40, l_41, l_42, l_43, l_44, l_45, l_46, l_47, l_48, l_49, l_50, l_51, l_52, l_53, l_54, l_55, l_56, l_57, l_59, l_60, l_61, l_62, l_63, l_64, l_65, l_80, l_86, l_87, l_88, l_89, l_90, l_91, l_92, l_93, l_94, l_95, l_97, l_99, l_100, l_107, l_119, l_122, l_124, l_129, l_140, l_141, l_142, l_143, l_144, l_145, l_147, l_150, l_159, l_160, l_161, l_162, l_205, l_253, l_255, l_256, l_269, l_305, l_380, l_399, l_400, l_420, l_430, l_516, l_600, l_720, l_820, l_905, l_921, l_937, l_953, l_970, l_999, l_1000, l_1790, l_4096, l_9999, l_1000000]
    rw [eL, b3]
    by_cases q : z_drv (z_pw V man S mu me) (fun i => lame.testBit i) = man + 1
    · have hd : z_fb (z_dw V man mu me lame S) = nI 1 := by
        unfold z_dw
        rw [decide_eq_true q]
        rfl
      rw [q] at g2
      have g2 : σ3 158 2 = nI man := g2
      rw [hd]
      simp (disch := omega) only [c3, g2, d3, ↓reduceIte, ↓p_ld, ↓p_st, ↓p_nm, ↓p_nS, ↓p_jn, ↓p_call, ↓p_callv, ↓p_dv, ↓p_rem, h_ldE, h_stE, h_nmE, h_nSE, h_callE, h_callvE, h_dvE, h_remE, if_true, if_false, z_upS, z_upO, z_upK, nI_add, z_mul, z_sub, z_div, Nat.add_zero, Nat.mul_zero, Nat.zero_add, Nat.sub_zero, Nat.zero_mul, z_ltT, z_ltF, z_leT, z_leF, z_eqT, z_eqF, z_inT, z_clT, not_true_eq_false, not_false_eq_true, eq_self, true_or, or_true, z_m_lt, z_m_le, z_lt_m, z_le_m, z_eq_m, z_m_eq, z_rz0, z_rz1, z_m_add, z_of, r_157_0, r_157_1, r_157_2, r_157_3, r_157_6, r_157_7, r_157_8, r_157_9, r_157_10, r_157_11, r_157_27, r_157_28, r_157_29, r_157_30, ↓z_m1, l_0, l_1, l_2, l_3, l_4, l_5, l_6, l_7, l_8, l_9, l_10, l_11, l_12, l_13, l_14, l_15, l_16, l_17, l_18, l_19, l_20, l_21, l_22, l_23, l_24, l_25, l_26, l_27, l_28, l_29, l_30, l_31, l_32, l_33, l_34, l_35, l_36, l_37, l_38, l_39, l_40, l_41, l_42, l_43, l_44, l_45, l_46, l_47, l_48, l_49, l_50, l_51, l_52, l_53, l_54, l_55, l_56, l_57, l_59, l_60, l_61, l_62, l_63, l_64, l_65, l_80, l_86, l_87, l_88, l_89, l_90, l_91, l_92, l_93, l_94, l_95, l_97, l_99, l_100, l_107, l_119, l_122, l_124, l_129, l_140, l_141, l_142, l_143, l_144, l_145, l_147, l_150, l_159, l_160, l_161, l_162, l_205, l_253, l_255, l_256, l_269, l_305, l_380, l_399, l_400, l_420, l_430, l_516, l_600, l_720, l_820, l_905, l_921, l_937, l_953, l_970, l_999, l_1000, l_1790, l_4096, l_9999, l_1000000]
    · have hd : z_fb (z_dw V man mu me lame S) = nI 0 := by
        unfold z_dw
        rw [decide_eq_false q]
        rfl
      have hF : (z_vw (z_drv (z_pw V man S mu me) (fun i => lame.testBit i)) = nI man) = False := by
        show (_ = z_vw (man+1)) = False
        rw [hve]; exact eq_false q
      rw [hd]
      simp (disch := omega) only [c3, g2, hF, d3, ↓reduceIte, ↓p_ld, ↓p_st, ↓p_nm, ↓p_nS, ↓p_jn, ↓p_call, ↓p_callv, ↓p_dv, ↓p_rem, h_ldE, h_stE, h_nmE, h_nSE, h_callE, h_callvE, h_dvE, h_remE, if_true, if_false, z_upS, z_upO, z_upK, nI_add, z_mul, z_sub, z_div, Nat.add_zero, Nat.mul_zero, Nat.zero_add, Nat.sub_zero, Nat.zero_mul, z_ltT, z_ltF, z_leT, z_leF, z_eqT, z_eqF, z_inT, z_clT, not_true_eq_false, not_false_eq_true, eq_self, true_or, or_true, z_m_lt, z_m_le, z_lt_m, z_le_m, z_eq_m, z_m_eq, z_rz0, z_rz1, z_m_add, z_of, r_157_0, r_157_1, r_157_2, r_157_3, r_157_6, r_157_7, r_157_8, r_157_9, r_157_10, r_157_11, r_157_27, r_157_28, r_157_29, r_157_30, ↓z_m1, l_0, l_1, l_2, l_3, l_4, l_5, l_6, l_7, l_8, l_9, l_10, l_11, l_12, l_13, l_14, l_15, l_16, l_17, l_18, l_19, l_20, l_21, l_22, l_23, l_24, l_25, l_26, l_27, l_28, l_29, l_30, l_31, l_32, l_33, l_34, l_35, l_36, l_37, l_38, l_39, l_40, l_41, l_42, l_43, l_44, l_45, l_46, l_47, l_48, l_49, l_50, l_51, l_52, l_53, l_54, l_55, l_56, l_57, l_59, l_60, l_61, l_62, l_63, l_64, l_65, l_80, l_86, l_87, l_88, l_89, l_90, l_91, l_92, l_93, l_94, l_95, l_97, l_99, l_100, l_107, l_119, l_122, l_124, l_129, l_140, l_141, l_142, l_143, l_144, l_145, l_147, l_150, l_159, l_160, l_161, l_162, l_205, l_253, l_255, l_256, l_269, l_305, l_380, l_399, l_400, l_420, l_430, l_516, l_600, l_720, l_820, l_905, l_921, l_937, l_953, l_970, l_999, l_1000, l_1790, l_4096, l_9999, l_1000000]
theorem m_winsL24 {man mu me lame N : Nat} {a1 : Int32} {V : Nat → Int32} {σc : q_Sto} (hC : z_C σc V mu me) (es : nI 1 <<< (nI mu &&& nI 31) = nI N) (hN : N ≤ 4096) (hman : man < me) (h7 : V 7 = nI lame) (hl : lame < 4096) :
    ∀ j i (σ : q_Sto), i ≤ N → N < j + i → σ 158 = V → ∃ σ', (∀ o, o ≠ 157 → o ≠ 161 → o ≠ 166 → o ≠ 167 → σ' o = σ o) ∧ (∀ a, a ≠ 26 → σ' 157 a = σ 157 a) ∧
      ∀ K : Int32 → q_Sto → Option (Int32 × q_Sto), f_X12_wins_L24 q_F 157 (nI man) a1 K j (z_vw (z_wr (z_dw V man mu me lame) i)) (nI i) σ = K (z_vw (z_wr (z_dw V man mu me lame) N)) σ' := by
  have h86 := hC.1.2.2.1
  intro j
  induction j with
  | zero => intro i σ h1 h2; omega
  | succ j ih =>
    intro i σ h1 h2 hV
    by_cases hi : i = N
    · subst hi
      refine ⟨σ, fun _ _ _ _ _ => rfl, fun _ _ => rfl, fun K => ?_⟩
      generalize z_vw (z_wr (z_dw V man mu me lame) i) = y
      rw [f_X12_wins_L24]
      simp (disch := omega) only [hV, h86, es, ↓reduceIte, ↓p_ld, ↓p_st, ↓p_nm, ↓p_nS, ↓p_jn, ↓p_call, ↓p_callv, ↓p_dv, ↓p_rem, h_ldE, h_stE, h_nmE, h_nSE, h_callE, h_callvE, h_dvE, h_remE, if_true, if_false, z_upS, z_upO, z_upK, nI_add, z_mul, z_sub, z_div, Nat.add_zero, Nat.mul_zero, Nat.zero_add, Nat.sub_zero, Nat.zero_mul, z_ltT, z_ltF, z_leT, z_leF, z_eqT, z_eqF, z_inT, z_clT, not_true_eq_false, not_false_eq_true, eq_self, true_or, or_true, z_m_lt, z_m_le, z_lt_m, z_le_m, z_eq_m, z_m_eq, z_rz0, z_rz1, z_m_add, z_of, r_157_0, r_157_1, r_157_2, r_157_3, r_157_6, r_157_7, r_157_8, r_157_9, r_157_10, r_157_11, r_157_27, r_157_28, r_157_29, r_157_30, ↓z_m1, l_0, l_1, l_2, l_3, l_4, l_5, l_6, l_7, l_8, l_9, l_10, l_11, l_12, l_13, l_14, l_15, l_16, l_17, l_18, l_19, l_20, l_21, l_22, l_23, l_24, l_25, l_26, l_27, l_28, l_29, l_30, l_31, l_32, l_33, l_34, l_35, l_36, l_37, l_38, l_39, l_40, l_41, l_42, l_43, l_44, l_45, l_46, l_47, l_48, l_49, l_50, l_51, l_52, l_53, l_54, l_55, l_56, l_57, l_59, l_60, l_61, l_62, l_63, l_64, l_65, l_80, l_86, l_87, l_88, l_89, l_90, l_91, l_92, l_93, l_94, l_95, l_97, l_99, l_100, l_107, l_119, l_122, l_124, l_129, l_140, l_141, l_142, l_143, l_144, l_145, l_147, l_150, l_159, l_160, l_161, l_162, l_205, l_253, l_255, l_256, l_269, l_305, l_380, l_399, l_400, l_420, l_430, l_516, l_600, l_720, l_820, l_905, l_921, l_937, l_953, l_970, l_999, l_1000, l_1790, l_4096, l_9999, l_1000000]
    · have e : z_wr (z_dw V man mu me lame) (i+1) = if (z_wr (z_dw V man mu me lame) i = 0 ∨ z_cnt i 12 < z_cnt (z_wr (z_dw V man mu me lame) i - 1) 12) ∧ z_dw V man mu me lame i = true then i + 1 else z_wr (z_dw V man mu me lame) i := rfl
      obtain ⟨σ1, f1, f2, f3⟩ := m_winsBy (S := i) hC hman (by omega) h7 hl hV
      have ec := m_count (n := q_F) (s := i) (σ := σ) (by unfold q_F; omega) (by omega)
      have hcl := z_cnt_le i 12
      have ez : z_fb false = nI 0 := rfl
      have ez1 : z_fb true = nI 1 := rfl
      have e0 : z_vw 0 = z_m := rfl
      have hV1 : σ1 158 = V := by rw [f1 158 (by omega) (by omega) (by omega) (by omega)]; exact hV
      have hw := z_wr_spec (d := z_dw V man mu me lame) i
      cases hr : z_wr (z_dw V man mu me lame) i with
      | zero =>
        rw [hr] at e
        cases hd : z_dw V man mu me lame i with
        | true =>
          rw [hd, if_pos ⟨Or.inl rfl, rfl⟩] at e
          obtain ⟨σ', k1, k2, k3⟩ := ih (i+1) σ1 (by omega) (by omega) hV1
          refine ⟨σ', fun o o1 o2 o3 o4 => by rw [k1 o o1 o2 o3 o4, f1 o o1 o2 o3 o4], fun a ha => by rw [k2 a ha, f2 a ha], fun K => ?_⟩
          rw [e] at k3
          have k3 := fun K => (show f_X12_wins_L24 q_F 157 (nI man) a1 K j (nI i) (nI (i+1)) σ1 = _ from k3 K)
          rw [hd, ez1] at f3
          rw [← k3 K, e0, f_X12_wins_L24]
          simp (disch := omega) only [hV, h86, es, f3, ↓reduceIte, ↓p_ld, ↓p_st, ↓p_nm, ↓p_nS, ↓p_jn, ↓p_call, ↓p_callv, ↓p_dv, ↓p_rem, h_ldE, h_stE, h_nmE, h_nSE, h_callE, h_callvE, h_dvE, h_remE, if_true, if_false, z_upS, z_upO, z_upK, nI_add, z_mul, z_sub, z_div, Nat.add_zero, Nat.mul_zero, Nat.zero_add, Nat.sub_zero, Nat.zero_mul, z_ltT, z_ltF, z_leT, z_leF, z_eqT, z_eqF, z_inT, z_clT, not_true_eq_false, not_false_eq_true, eq_self, true_or, or_true, z_m_lt, z_m_le, z_lt_m, z_le_m, z_eq_m, z_m_eq, z_rz0, z_rz1, z_m_add, z_of, r_157_0, r_157_1, r_157_2, r_157_3, r_157_6, r_157_7, r_157_8, r_157_9, r_157_10, r_157_11, r_157_27, r_157_28, r_157_29, r_157_30, ↓z_m1, l_0, l_1, l_2, l_3, l_4, l_5, l_6, l_7, l_8, l_9, l_10, l_11, l_12, l_13, l_14, l_15, l_16, l_17, l_18, l_19, l_20, l_21, l_22, l_23, l_24, l_25, l_26, l_27, l_28, l_29, l_30, l_31, l_32, l_33, l_34, l_35, l_36, l_37, l_38, l_39, l_40, l_41, l_42, l_43, l_44, l_45, l_46, l_47, l_48, l_49, l_50, l_51, l_52, l_53, l_54, l_55, l_56, l_57, l_59, l_60, l_61, l_62, l_63, l_64, l_65, l_80, l_86, l_87, l_88, l_89, l_90, l_91, l_92, l_93, l_94, l_95, l_97, l_99, l_100, l_107, l_119, l_122, l_124, l_129, l_140, l_141, l_142, l_143, l_144, l_145, l_147, l_150, l_159, l_160, l_161, l_162, l_205, l_253, l_255, l_256, l_269, l_305, l_380, l_399, l_400, l_420, l_430, l_516, l_600, l_720, l_820, l_905, l_921, l_937, l_953, l_970, l_999, l_1000, l_1790, l_4096, l_9999, l_1000000]
        | false =>
          rw [hd, if_neg (fun h => by cases h.2)] at e
          obtain ⟨σ', k1, k2, k3⟩ := ih (i+1) σ1 (by omega) (by omega) hV1
          refine ⟨σ', fun o o1 o2 o3 o4 => by rw [k1 o o1 o2 o3 o4, f1 o o1 o2 o3 o4], fun a ha => by rw [k2 a ha, f2 a ha], fun K => ?_⟩
          rw [e, e0] at k3
          rw [hd, ez] at f3
          rw [← k3 K, e0, f_X12_wins_L24]
          simp (disch := omega) only [hV, h86, es, f3, ↓reduceIte, ↓p_ld, ↓p_st, ↓p_nm, ↓p_nS, ↓p_jn, ↓p_call, ↓p_callv, ↓p_dv, ↓p_rem, h_ldE, h_stE, h_nmE, h_nSE, h_callE, h_callvE, h_dvE, h_remE, if_true, if_false, z_upS, z_upO, z_upK, nI_add, z_mul, z_sub, z_div, Nat.add_zero, Nat.mul_zero, Nat.zero_add, Nat.sub_zero, Nat.zero_mul, z_ltT, z_ltF, z_leT, z_leF, z_eqT, z_eqF, z_inT, z_clT, not_true_eq_false, not_false_eq_true, eq_self, true_or, or_true, z_m_lt, z_m_le, z_lt_m, z_le_m, z_eq_m, z_m_eq, z_rz0, z_rz1, z_m_add, z_of, r_157_0, r_157_1, r_157_2, r_157_3, r_157_6, r_157_7, r_157_8, r_157_9, r_157_10, r_157_11, r_157_27, r_157_28, r_157_29, r_157_30, ↓z_m1, l_0, l_1, l_2, l_3, l_4, l_5, l_6, l_7, l_8, l_9, l_10, l_11, l_12, l_13, l_14, l_15, l_16, l_17, l_18, l_19, l_20, l_21, l_22, l_23, l_24, l_25, l_26, l_27, l_28, l_29, l_30, l_31, l_32, l_33, l_34, l_35, l_36, l_37, l_38, l_39, l_40, l_41, l_42, l_43, l_44, l_45, l_46, l_47, l_48, l_49, l_50, l_51, l_52, l_53, l_54, l_55, l_56, l_57, l_59, l_60, l_61, l_62, l_63, l_64, l_65, l_80, l_86, l_87, l_88, l_89, l_90, l_91, l_92, l_93, l_94, l_95, l_97, l_99, l_100, l_107, l_119, l_122, l_124, l_129, l_140, l_141, l_142, l_143, l_144, l_145, l_147, l_150, l_159, l_160, l_161, l_162, l_205, l_253, l_255, l_256, l_269, l_305, l_380, l_399, l_400, l_420, l_430, l_516, l_600, l_720, l_820, l_905, l_921, l_937, l_953, l_970, l_999, l_1000, l_1790, l_4096, l_9999, l_1000000]
      | succ t =>
        obtain ⟨t1, t2, t3⟩ := hw.2 t hr
        have ec2 := m_count (n := q_F) (s := t) (σ := σ) (by unfold q_F; omega) (by omega)
        have hcl2 := z_cnt_le t 12
        have et : z_vw (t+1) = nI t := rfl
        rw [hr, show t + 1 - 1 = t by omega] at e
        by_cases q : z_cnt i 12 < z_cnt t 12
        · cases hd : z_dw V man mu me lame i with
          | true =>
            rw [hd, if_pos ⟨Or.inr q, rfl⟩] at e
            obtain ⟨σ', k1, k2, k3⟩ := ih (i+1) σ1 (by omega) (by omega) hV1
            refine ⟨σ', fun o o1 o2 o3 o4 => by rw [k1 o o1 o2 o3 o4, f1 o o1 o2 o3 o4], fun a ha => by rw [k2 a ha, f2 a ha], fun K => ?_⟩
            rw [e] at k3
            have k3 := fun K => (show f_X12_wins_L24 q_F 157 (nI man) a1 K j (nI i) (nI (i+1)) σ1 = _ from k3 K)
            rw [hd, ez1] at f3
            rw [← k3 K, et, f_X12_wins_L24]
            generalize z_cnt i 12 = ci at *
            generalize z_cnt t 12 = ct at *
            simp (disch := omega) only [hV, h86, es, f3, ec, ec2, ↓reduceIte, ↓p_ld, ↓p_st, ↓p_nm, ↓p_nS, ↓p_jn, ↓p_call, ↓p_callv, ↓p_dv, ↓p_rem, h_ldE, h_stE, h_nmE, h_nSE, h_callE, h_callvE, h_dvE, h_remE, if_true, if_false, z_upS, z_upO, z_upK, nI_add, z_mul, z_sub, z_div, Nat.add_zero, Nat.mul_zero, Nat.zero_add, Nat.sub_zero, Nat.zero_mul, z_ltT, z_ltF, z_leT, z_leF, z_eqT, z_eqF, z_inT, z_clT, not_true_eq_false, not_false_eq_true, eq_self, true_or, or_true, z_m_lt, z_m_le, z_lt_m, z_le_m, z_eq_m, z_m_eq, z_rz0, z_rz1, z_m_add, z_of, r_157_0, r_157_1, r_157_2, r_157_3, r_157_6, r_157_7, r_157_8, r_157_9, r_157_10, r_157_11, r_157_27, r_157_28, r_157_29, r_157_30, ↓z_m1, l_0, l_1, l_2, l_3, l_4, l_5, l_6, l_7, l_8, l_9, l_10, l_11, l_12, l_13, l_14, l_15, l_16, l_17, l_18, l_19, l_20, l_21, l_22, l_23, l_24, l_25, l_26, l_27, l_28, l_29, l_30, l_31, l_32, l_33, l_34, l_35, l_36, l_37, l_38, l_39, l_40, l_41, l_42, l_43, l_44, l_45, l_46, l_47, l_48, l_49, l_50, l_51, l_52, l_53, l_54, l_55, l_56, l_57, l_59, l_60, l_61, l_62, l_63, l_64, l_65, l_80, l_86, l_87, l_88, l_89, l_90, l_91, l_92, l_93, l_94, l_95, l_97, l_99, l_100, l_107, l_119, l_122, l_124, l_129, l_140, l_141, l_142, l_143, l_144, l_145, l_147, l_150, l_159, l_160, l_161, l_162, l_205, l_253, l_255, l_256, l_269, l_305, l_380, l_399, l_400, l_420, l_430, l_516, l_600, l_720, l_820, l_905, l_921, l_937, l_953, l_970, l_999, l_1000, l_1790, l_4096, l_9999, l_1000000]
          | false =>
            rw [hd, if_neg (fun h => by cases h.2)] at e
            obtain ⟨σ', k1, k2, k3⟩ := ih (i+1) σ1 (by omega) (by omega) hV1
            refine ⟨σ', fun o o1 o2 o3 o4 => by rw [k1 o o1 o2 o3 o4, f1 o o1 o2 o3 o4], fun a ha => by rw [k2 a ha, f2 a ha], fun K => ?_⟩
            rw [e, et] at k3
            rw [hd, ez] at f3
            rw [← k3 K, et, f_X12_wins_L24]
            generalize z_cnt i 12 = ci at *
            generalize z_cnt t 12 = ct at *
            simp (disch := omega) only [hV, h86, es, f3, ec, ec2, ↓reduceIte, ↓p_ld, ↓p_st, ↓p_nm, ↓p_nS, ↓p_jn, ↓p_call, ↓p_callv, ↓p_dv, ↓p_rem, h_ldE, h_stE, h_nmE, h_nSE, h_callE, h_callvE, h_dvE, h_remE, if_true, if_false, z_upS, z_upO, z_upK, nI_add, z_mul, z_sub, z_div, Nat.add_zero, Nat.mul_zero, Nat.zero_add, Nat.sub_zero, Nat.zero_mul, z_ltT, z_ltF, z_leT, z_leF, z_eqT, z_eqF, z_inT, z_clT, not_true_eq_false, not_false_eq_true, eq_self, true_or, or_true, z_m_lt, z_m_le, z_lt_m, z_le_m, z_eq_m, z_m_eq, z_rz0, z_rz1, z_m_add, z_of, r_157_0, r_157_1, r_157_2, r_157_3, r_157_6, r_157_7, r_157_8, r_157_9, r_157_10, r_157_11, r_157_27, r_157_28, r_157_29, r_157_30, ↓z_m1, l_0, l_1, l_2, l_3, l_4, l_5, l_6, l_7, l_8, l_9, l_10, l_11, l_12, l_13, l_14, l_15, l_16, l_17, l_18, l_19, l_20, l_21, l_22, l_23, l_24, l_25, l_26, l_27, l_28, l_29, l_30, l_31, l_32, l_33, l_34, l_35, l_36, l_37, l_38, l_39, l_40, l_41, l_42, l_43, l_44, l_45, l_46, l_47, l_48, l_49, l_50, l_51, l_52, l_53, l_54, l_55, l_56, l_57, l_59, l_60, l_61, l_62, l_63, l_64, l_65, l_80, l_86, l_87, l_88, l_89, l_90, l_91, l_92, l_93, l_94, l_95, l_97, l_99, l_100, l_107, l_119, l_122, l_124, l_129, l_140, l_141, l_142, l_143, l_144, l_145, l_147, l_150, l_159, l_160, l_161, l_162, l_205, l_253, l_255, l_256, l_269, l_305, l_380, l_399, l_400, l_420, l_430, l_516, l_600, l_720, l_820, l_905, l_921, l_937, l_953, l_970, l_999, l_1000, l_1790, l_4096, l_9999, l_1000000]
        · rw [if_neg (fun h => by
            rcases h.1 with h | h
            · cases h
            · exact q h)] at e
          obtain ⟨σ', k1, k2, k3⟩ := ih (i+1) σ (by omega) (by omega) hV
          refine ⟨σ', k1, k2, fun K => ?_⟩
          rw [e, et] at k3
          rw [← k3 K, et, f_X12_wins_L24]
          generalize z_cnt i 12 = ci at *
          generalize z_cnt t 12 = ct at *
          simp (disch := omega) only [hV, h86, es, ec, ec2, ↓reduceIte, ↓p_ld, ↓p_st, ↓p_nm, ↓p_nS, ↓p_jn, ↓p_call, ↓p_callv, ↓p_dv, ↓p_rem, h_ldE, h_stE, h_nmE, h_nSE, h_callE, h_callvE, h_dvE, h_remE, if_true, if_false, z_upS, z_upO, z_upK, nI_add, z_mul, z_sub, z_div, Nat.add_zero, Nat.mul_zero, Nat.zero_add, Nat.sub_zero, Nat.zero_mul, z_ltT, z_ltF, z_leT, z_leF, z_eqT, z_eqF, z_inT, z_clT, not_true_eq_false, not_false_eq_true, eq_self, true_or, or_true, z_m_lt, z_m_le, z_lt_m, z_le_m, z_eq_m, z_m_eq, z_rz0, z_rz1, z_m_add, z_of, r_157_0, r_157_1, r_157_2, r_157_3, r_157_6, r_157_7, r_157_8, r_157_9, r_157_10, r_157_11, r_157_27, r_157_28, r_157_29, r_157_30, ↓z_m1, l_0, l_1, l_2, l_3, l_4, l_5, l_6, l_7, l_8, l_9, l_10, l_11, l_12, l_13, l_14, l_15, l_16, l_17, l_18, l_19, l_20, l_21, l_22, l_23, l_24, l_25, l_26, l_27, l_28, l_29, l_30, l_31, l_32, l_33, l_34, l_35, l_36, l_37, l_38, l_39, l_40, l_41, l_42, l_43, l_44, l_45, l_46, l_47, l_48, l_49, l_50, l_51, l_52, l_53, l_54, l_55, l_56, l_57, l_59, l_60, l_61, l_62, l_63, l_64, l_65, l_80, l_86, l_87, l_88, l_89, l_90, l_91, l_92, l_93, l_94, l_95, l_97, l_99, l_100, l_107, l_119, l_122, l_124, l_129, l_140, l_141, l_142, l_143, l_144, l_145, l_147, l_150, l_159, l_160, l_161, l_162, l_205, l_253, l_255, l_256, l_269, l_305, l_380, l_399, l_400, l_420, l_430, l_516, l_600, l_720, l_820, l_905, l_921, l_937, l_953, l_970, l_999, l_1000, l_1790, l_4096, l_9999, l_1000000]
theorem P_wins {σ : q_Sto} (h : q_Sim σ) (a0 : Int32) (a1 : Int32)  : ∃ (r : Int32) (σ1 σ2 : q_Sto), f_X11_wins q_F 0 a0 a1 σ = some (r, σ1) ∧ f_X12_wins q_F 157 a0 a1 σ1 = some (r, σ2) ∧ q_Sim σ2 := by
  obtain ⟨mu, me, h⟩ := h
  have hC := z_Sim.C h
  have hmu := hC.1.1
  have hme := hC.1.2.1
  have h86 := hC.1.2.2.1
  have h87 := hC.1.2.2.2.1
  have g9 : σ 2 9 = nI me := hC.2.1.1.2.1
  obtain ⟨lame, hlm, h7⟩ := hC.1.2.2.2.2.1
  have h12 := z_p12 hmu
  have es := z_shl (m := mu) (by omega)
  rcases z_man_cases hme a0 with ⟨man, hman, rfl, hm1⟩ | ⟨hm1, -⟩
  · have mc := hm1.1 q_F σ g9
    rcases z_w_cases a1 (lo := 0) (hi := 1) (by omega) (by omega) with ⟨w, w1, w2, rfl, hw⟩ | hw
    · obtain ⟨N, hN⟩ : ∃ N, N = 2 ^ mu := ⟨_, rfl⟩
      rw [← hN] at es
      obtain ⟨σ1, f1, f2, f3, f4, f5, f6, f7⟩ := c_standNow (n := q_F) (s := lame) z_F402 hC h7
      have hC1 : z_C σ1 (σ 158) mu me := hC.fr (fun o o1 o2 o3 => f1 o o3 (by omega) (by omega))
      obtain ⟨σ2, b1, b2, b3⟩ := c_prep_L (K := fun (y31 : Int32) (s32 : q_Sto) =>
  q_call (f_X9_lameOnes q_F 2 s32) fun r34 s33 =>
  some (y31 &&& (r34 ^^^ (-1)), s33)) hman q_F 0 σ1 (Nat.zero_le _) (by unfold q_F; omega) hC1 f2 f3 (fun m h hm => by omega)
      have hC2 : z_C σ2 (σ 158) mu me := hC1.fr (fun o o1 o2 o3 => b1 o o3 (by omega) (by omega))
      have elam := c_lameOnes (n := q_F) (σ := σ2) (by unfold q_F; omega) hC2.1 hC2.2.1
      rw [h7] at elam
      have e00 : z_set (z_mq (σ 158) man me) 0 = 0 := rfl
      rw [e00] at b3
      have hmq := z_set_lt12 (z_mq (σ 158) man me) hmu
      have emv : nI (z_set (z_mq (σ 158) man me) mu) &&& (nI lame ^^^ z_m) = nI (z_mv (σ 158) man mu me lame) := by
        rw [z_andn12 hmq]
        congr 1
        apply Nat.eq_of_testBit_eq
        intro i
        unfold z_mv
        rw [show 4095 = 2 ^ 12 - 1 by omega, Nat.testBit_and, Nat.testBit_xor, Nat.testBit_two_pow_sub_one, z_set_tb, z_set_tb]
        by_cases q : i < 12
        · rw [decide_eq_true q, Bool.xor_true]
          by_cases q2 : i < mu
          · rw [decide_eq_true q2, Bool.true_and, Bool.true_and]
          · rw [decide_eq_false q2, Bool.false_and, Bool.false_and, Bool.false_and]
        · rw [decide_eq_false (show ¬ i < mu by omega), Bool.false_and, Bool.false_and, Bool.false_and]
      have hM : z_mv (σ 158) man mu me lame < N := by rw [hN]; exact z_set_lt _ mu
      have ePr : f_X0_prepareSalted q_F 126 1 (nI man) σ1 = some (nI (z_mv (σ 158) man mu me lame), σ2) := by
        have e0 : f_X0_prepareSalted q_F 126 1 (nI man) σ1 = f_X0_prepareSalted_L5 q_F 126 1 (nI man) (fun (y31 : Int32) (s32 : q_Sto) =>
  q_call (f_X9_lameOnes q_F 2 s32) fun r34 s33 =>
  some (y31 &&& (r34 ^^^ (-1)), s33)) q_F (nI 0) (nI 0) σ1 := rfl
        rw [e0, b3]
        generalize z_set (z_mq (σ 158) man me) mu = mq at *
        generalize z_mv (σ 158) man mu me lame = mv at *
        simp (disch := omega) only [elam, emv, ↓reduceIte, ↓p_ld, ↓p_st, ↓p_nm, ↓p_nS, ↓p_jn, ↓p_call, ↓p_callv, ↓p_dv, ↓p_rem, h_ldE, h_stE, h_nmE, h_nSE, h_callE, h_callvE, h_dvE, h_remE, if_true, if_false, z_upS, z_upO, z_upK, nI_add, z_mul, z_sub, z_div, Nat.add_zero, Nat.mul_zero, Nat.zero_add, Nat.sub_zero, Nat.zero_mul, z_ltT, z_ltF, z_leT, z_leF, z_eqT, z_eqF, z_inT, z_clT, not_true_eq_false, not_false_eq_true, eq_self, true_or, or_true, z_m_lt, z_m_le, z_lt_m, z_le_m, z_eq_m, z_m_eq, z_rz0, z_rz1, z_m_add, z_of, r_0_0, r_0_1, r_0_3, r_0_4, r_0_5, r_0_6, r_0_7, r_0_8, r_0_9, r_0_10, r_1_0, r_1_1, r_1_2, r_1_3, r_1_4, r_1_5, r_1_6, r_1_7, r_1_8, r_2_0, r_2_1, r_2_2, r_2_3, r_2_4, r_2_5, r_2_6, r_2_7, r_11_0, r_11_1, r_11_2, r_11_3, r_11_4, r_11_5, r_11_6, r_19_0, r_21_0, r_23_0, r_25_0, r_27_0, r_61_0, r_117_0, r_117_1, r_117_2, r_117_3, r_117_4, r_117_5, r_117_6, r_117_7, r_126_0, r_126_1, r_126_2, r_126_3, r_126_4, r_132_0, r_132_1, r_135_0, r_135_1, r_135_2, r_135_3, r_135_4, r_135_5, r_142_0, r_144_0, r_144_1, r_144_2, r_145_0, r_145_1, r_145_2, r_145_3, r_145_4, r_145_5, r_145_6, r_154_0, r_154_1, r_155_0, ↓z_m1, l_0, l_1, l_2, l_3, l_4, l_5, l_6, l_7, l_8, l_9, l_10, l_11, l_12, l_13, l_14, l_15, l_16, l_17, l_18, l_19, l_20, l_21, l_22, l_23, l_24, l_25, l_26, l_27, l_28, l_29, l_30, l_31, l_32, l_33, l_34, l_35, l_36, l_37, l_38, l_39, l_40, l_41, l_42, l_43, l_44, l_45, l_46, l_47, l_48, l_49, l_50, l_51, l_52, l_53, l_54, l_55, l_56, l_57, l_59, l_60, l_61, l_62, l_63, l_64, l_65, l_80, l_86, l_87, l_88, l_89, l_90, l_91, l_92, l_93, l_94, l_95, l_97, l_99, l_100, l_107, l_119, l_122, l_124, l_129, l_140, l_141, l_142, l_143, l_144, l_145, l_147, l_150, l_159, l_160, l_161, l_162, l_205, l_253, l_255, l_256, l_269, l_305, l_380, l_399, l_400, l_420, l_430, l_516, l_600, l_720, l_820, l_905, l_921, l_937, l_953, l_970, l_999, l_1000, l_1790, l_4096, l_9999, l_1000000]
      have e126 := b1 126 (by omega) (by omega) (by omega)
      have e127 := b1 127 (by omega) (by omega) (by omega)
      have e128 := b1 128 (by omega) (by omega) (by omega)
      have e129 := b1 129 (by omega) (by omega) (by omega)
      have hWB : z_WB σ2 (σ 158) man mu me := ⟨f2.fr (by rw [e126]) (by rw [e126]) e127 e128, fun m k h hm hk hh => by
        have := f3 m k h hm hk hh
        have hk5 : k < me := hk
        rw [Nat.zero_testBit, if_neg (show ¬ false = true by decide), if_neg (fun q => by rw [z_eq_m (by omega)] at q; exact q)] at this ⊢
        rw [e129]; exact this, b2⟩
      have hdm : ∀ s, s < N → z_dw (σ 158) man mu me lame (s &&& z_mv (σ 158) man mu me lame) = z_dw (σ 158) man mu me lame s := fun s hs => by
        unfold z_dw
        rw [z_pw_moved]
      obtain ⟨σ3, k1, k2⟩ := c_few24 (lame := lame) hmu hN hme hC.2.2.2.1 hman hM hdm rfl q_F 0 σ2 (Nat.zero_le _) (by have := z_cnt_le (z_mv (σ 158) man mu me lame) 12; unfold q_F; omega) (fun t _ => Nat.zero_le _) hWB
      have eF : f_X0_fewestSalted q_F 126 1 (nI man) σ = some (z_vw (z_wr (z_dw (σ 158) man mu me lame) N), σ3) := by
        rw [← k2]
        generalize z_mv (σ 158) man mu me lame = mv at *
        unfold f_X0_fewestSalted
        simp (disch := omega) only [f7, ePr, elam, ↓reduceIte, ↓p_ld, ↓p_st, ↓p_nm, ↓p_nS, ↓p_jn, ↓p_call, ↓p_callv, ↓p_dv, ↓p_rem, h_ldE, h_stE, h_nmE, h_nSE, h_callE, h_callvE, h_dvE, h_remE, if_true, if_false, z_upS, z_upO, z_upK, nI_add, z_mul, z_sub, z_div, Nat.add_zero, Nat.mul_zero, Nat.zero_add, Nat.sub_zero, Nat.zero_mul, z_ltT, z_ltF, z_leT, z_leF, z_eqT, z_eqF, z_inT, z_clT, not_true_eq_false, not_false_eq_true, eq_self, true_or, or_true, z_m_lt, z_m_le, z_lt_m, z_le_m, z_eq_m, z_m_eq, z_rz0, z_rz1, z_m_add, z_of, r_0_0, r_0_1, r_0_3, r_0_4, r_0_5, r_0_6, r_0_7, r_0_8, r_0_9, r_0_10, r_1_0, r_1_1, r_1_2, r_1_3, r_1_4, r_1_5, r_1_6, r_1_7, r_1_8, r_2_0, r_2_1, r_2_2, r_2_3, r_2_4, r_2_5, r_2_6, r_2_7, r_11_0, r_11_1, r_11_2, r_11_3, r_11_4, r_11_5, r_11_6, r_19_0, r_21_0, r_23_0, r_25_0, r_27_0, r_61_0, r_117_0, r_117_1, r_117_2, r_117_3, r_117_4, r_117_5, r_117_6, r_117_7, r_126_0, r_126_1, r_126_2, r_126_3, r_126_4, r_132_0, r_132_1, r_135_0, r_135_1, r_135_2, r_135_3, r_135_4, r_135_5, r_142_0, r_144_0, r_144_1, r_144_2, r_145_0, r_145_1, r_145_2, r_145_3, r_145_4, r_145_5, r_145_6, r_154_0, r_154_1, r_155_0, ↓z_m1, l_0, l_1, l_2, l_3, l_4, l_5, l_6, l_7, l_8, l_9, l_10, l_11, l_12, l_13, l_14, l_15, l_16, l_17, l_18, l_19, l_20, l_21, l_22, l_23, l_24, l_25, l_26, l_27, l_28, l_29, l_30, l_31, l_32, l_33, l_34, l_35, l_36, l_37, l_38, l_39, l_40, l_41, l_42, l_43, l_44, l_45, l_46, l_47, l_48, l_49, l_50, l_51, l_52, l_53, l_54, l_55, l_56, l_57, l_59, l_60, l_61, l_62, l_63, l_64, l_65, l_80, l_86, l_87, l_88, l_89, l_90, l_91, l_92, l_93, l_94, l_95, l_97, l_99, l_100, l_107, l_119, l_122, l_124, l_129, l_140, l_141, l_142, l_143, l_144, l_145, l_147, l_150, l_159, l_160, l_161, l_162, l_205, l_253, l_255, l_256, l_269, l_305, l_380, l_399, l_400, l_420, l_430, l_516, l_600, l_720, l_820, l_905, l_921, l_937, l_953, l_970, l_999, l_1000, l_1790, l_4096, l_9999, l_1000000]
      have hV3 : σ3 158 = σ 158 := by rw [k1.1 158 (by omega) (by omega), b1 158 (by omega) (by omega) (by omega), f1 158 (by omega) (by omega) (by omega)]
      have mm : f_X12_isMan q_F 157 (nI man) σ3 = some (nI 1, σ3) := hm1.2 q_F σ3 (by rw [hV3]; exact h87)
      have e157 : σ3 157 = σ 157 := by rw [k1.1 157 (by omega) (by omega), b1 157 (by omega) (by omega) (by omega), f1 157 (by omega) (by omega) (by omega)]
      obtain ⟨σ4, n1, n2, n3⟩ := m_winsL24 (a1 := nI w) (lame := lame) hC es (by omega) hman h7 (by omega) q_F 0 σ3 (Nat.zero_le _) (by unfold q_F; omega) hV3
      have ew0 : z_vw (z_wr (z_dw (σ 158) man mu me lame) 0) = z_m := rfl
      rw [ew0] at n3
      have hS : z_SimN σ4 mu me := z_Sim.th h (fun o o1 o2 o3 o4 o5 o6 => by
        rw [n1 o o4 o5 (by omega) (by omega), k1.1 o (by omega) (by omega), b1 o o1 o2 (by omega), f1 o o1 o2 (by omega)]) (fun a ha => by rw [n2 a ha, e157])
      have hspec := z_wr_spec (d := z_dw (σ 158) man mu me lame) N
      cases hr : z_wr (z_dw (σ 158) man mu me lame) N with
      | zero =>
        rw [hr] at eF n3
        have e0 : z_vw 0 = z_m := rfl
        rw [e0] at eF n3
        refine ⟨z_m, σ3, σ4, ?_, ?_, mu, me, hS⟩
        · unfold f_X11_wins
          simp (disch := omega) only [mc, c_isWithin, hw, eF, ↓reduceIte, ↓p_ld, ↓p_st, ↓p_nm, ↓p_nS, ↓p_jn, ↓p_call, ↓p_callv, ↓p_dv, ↓p_rem, h_ldE, h_stE, h_nmE, h_nSE, h_callE, h_callvE, h_dvE, h_remE, if_true, if_false, z_upS, z_upO, z_upK, nI_add, z_mul, z_sub, z_div, Nat.add_zero, Nat.mul_zero, Nat.zero_add, Nat.sub_zero, Nat.zero_mul, z_ltT, z_ltF, z_leT, z_leF, z_eqT, z_eqF, z_inT, z_clT, not_true_eq_false, not_false_eq_true, eq_self, true_or, or_true, z_m_lt, z_m_le, z_lt_m, z_le_m, z_eq_m, z_m_eq, z_rz0, z_rz1, z_m_add, z_of, r_0_0, r_0_1, r_0_3, r_0_4, r_0_5, r_0_6, r_0_7, r_0_8, r_0_9, r_0_10, r_1_0, r_1_1, r_1_2, r_1_3, r_1_4, r_1_5, r_1_6, r_1_7, r_1_8, r_2_0, r_2_1, r_2_2, r_2_3, r_2_4, r_2_5, r_2_6, r_2_7, r_11_0, r_11_1, r_11_2, r_11_3, r_11_4, r_11_5, r_11_6, r_19_0, r_21_0, r_23_0, r_25_0, r_27_0, r_61_0, r_117_0, r_117_1, r_117_2, r_117_3, r_117_4, r_117_5, r_117_6, r_117_7, r_126_0, r_126_1, r_126_2, r_126_3, r_126_4, r_132_0, r_132_1, r_135_0, r_135_1, r_135_2, r_135_3, r_135_4, r_135_5, r_142_0, r_144_0, r_144_1, r_144_2, r_145_0, r_145_1, r_145_2, r_145_3, r_145_4, r_145_5, r_145_6, r_154_0, r_154_1, r_155_0, ↓z_m1, l_0, l_1, l_2, l_3, l_4, l_5, l_6, l_7, l_8, l_9, l_10, l_11, l_12, l_13, l_14, l_15, l_16, l_17, l_18, l_19, l_20, l_21, l_22, l_23, l_24, l_25, l_26, l_27, l_28, l_29, l_30, l_31, l_32, l_33, l_34, l_35, l_36, l_37, l_38, l_39, l_40, l_41, l_42, l_43, l_44, l_45, l_46, l_47, l_48, l_49, l_50, l_51, l_52, l_53, l_54, l_55, l_56, l_57, l_59, l_60, l_61, l_62, l_63, l_64, l_65, l_80, l_86, l_87, l_88, l_89, l_90, l_91, l_92, l_93, l_94, l_95, l_97, l_99, l_100, l_107, l_119, l_122, l_124, l_129, l_140, l_141, l_142, l_143, l_144, l_145, l_147, l_150, l_159, l_160, l_161, l_162, l_205, l_253, l_255, l_256, l_269, l_305, l_380, l_399, l_400, l_420, l_430, l_516, l_600, l_720, l_820, l_905, l_921, l_937, l_953, l_970, l_999, l_1000, l_1790, l_4096, l_9999, l_1000000]
        · unfold f_X12_wins
          simp (disch := omega) only [mm, m_isIn, hw, n3, ↓reduceIte, ↓p_ld, ↓p_st, ↓p_nm, ↓p_nS, ↓p_jn, ↓p_call, ↓p_callv, ↓p_dv, ↓p_rem, h_ldE, h_stE, h_nmE, h_nSE, h_callE, h_callvE, h_dvE, h_remE, if_true, if_false, z_upS, z_upO, z_upK, nI_add, z_mul, z_sub, z_div, Nat.add_zero, Nat.mul_zero, Nat.zero_add, Nat.sub_zero, Nat.zero_mul, z_ltT, z_ltF, z_leT, z_leF, z_eqT, z_eqF, z_inT, z_clT, not_true_eq_false, not_false_eq_true, eq_self, true_or, or_true, z_m_lt, z_m_le, z_lt_m, z_le_m, z_eq_m, z_m_eq, z_rz0, z_rz1, z_m_add, z_of, r_157_0, r_157_1, r_157_2, r_157_3, r_157_6, r_157_7, r_157_8, r_157_9, r_157_10, r_157_11, r_157_27, r_157_28, r_157_29, r_157_30, ↓z_m1, l_0, l_1, l_2, l_3, l_4, l_5, l_6, l_7, l_8, l_9, l_10, l_11, l_12, l_13, l_14, l_15, l_16, l_17, l_18, l_19, l_20, l_21, l_22, l_23, l_24, l_25, l_26, l_27, l_28, l_29, l_30, l_31, l_32, l_33, l_34, l_35, l_36, l_37, l_38, l_39, l_40, l_41, l_42, l_43, l_44, l_45, l_46, l_47, l_48, l_49, l_50, l_51, l_52, l_53, l_54, l_55, l_56, l_57, l_59, l_60, l_61, l_62, l_63, l_64, l_65, l_80, l_86, l_87, l_88, l_89, l_90, l_91, l_92, l_93, l_94, l_95, l_97, l_99, l_100, l_107, l_119, l_122, l_124, l_129, l_140, l_141, l_142, l_143, l_144, l_145, l_147, l_150, l_159, l_160, l_161, l_162, l_205, l_253, l_255, l_256, l_269, l_305, l_380, l_399, l_400, l_420, l_430, l_516, l_600, l_720, l_820, l_905, l_921, l_937, l_953, l_970, l_999, l_1000, l_1790, l_4096, l_9999, l_1000000]
      | succ t =>
        obtain ⟨t1, -, -⟩ := hspec.2 t hr
        have et : z_vw (t+1) = nI t := rfl
        rw [hr, et] at eF n3
        have ec := c_bitCount (n := q_F) (s := t) (σ := σ3) (by omega)
        have ec2 := m_count (n := q_F) (s := t) (σ := σ4) (by unfold q_F; omega) (by omega)
        by_cases q : w = 0
        · subst q
          refine ⟨nI (z_cnt t 12), σ3, σ4, ?_, ?_, mu, me, hS⟩
          · unfold f_X11_wins
            simp (disch := omega) only [mc, c_isWithin, hw, eF, ec, ↓reduceIte, ↓p_ld, ↓p_st, ↓p_nm, ↓p_nS, ↓p_jn, ↓p_call, ↓p_callv, ↓p_dv, ↓p_rem, h_ldE, h_stE, h_nmE, h_nSE, h_callE, h_callvE, h_dvE, h_remE, if_true, if_false, z_upS, z_upO, z_upK, nI_add, z_mul, z_sub, z_div, Nat.add_zero, Nat.mul_zero, Nat.zero_add, Nat.sub_zero, Nat.zero_mul, z_ltT, z_ltF, z_leT, z_leF, z_eqT, z_eqF, z_inT, z_clT, not_true_eq_false, not_false_eq_true, eq_self, true_or, or_true, z_m_lt, z_m_le, z_lt_m, z_le_m, z_eq_m, z_m_eq, z_rz0, z_rz1, z_m_add, z_of, r_0_0, r_0_1, r_0_3, r_0_4, r_0_5, r_0_6, r_0_7, r_0_8, r_0_9, r_0_10, r_1_0, r_1_1, r_1_2, r_1_3, r_1_4, r_1_5, r_1_6, r_1_7, r_1_8, r_2_0, r_2_1, r_2_2, r_2_3, r_2_4, r_2_5, r_2_6, r_2_7, r_11_0, r_11_1, r_11_2, r_11_3, r_11_4, r_11_5, r_11_6, r_19_0, r_21_0, r_23_0, r_25_0, r_27_0, r_61_0, r_117_0, r_117_1, r_117_2, r_117_3, r_117_4, r_117_5, r_117_6, r_117_7, r_126_0, r_126_1, r_126_2, r_126_3, r_126_4, r_132_0, r_132_1, r_135_0, r_135_1, r_135_2, r_135_3, r_135_4, r_135_5, r_142_0, r_144_0, r_144_1, r_144_2, r_145_0, r_145_1, r_145_2, r_145_3, r_145_4, r_145_5, r_145_6, r_154_0, r_154_1, r_155_0, ↓z_m1, l_0, l_1, l_2, l_3, l_4, l_5, l_6, l_7, l_8, l_9, l_10, l_11, l_12, l_13, l_14, l_15, l_16, l_17, l_18, l_19, l_20, l_21, l_22, l_23, l_24, l_25, l_26, l_27, l_28, l_29, l_30, l_31, l_32, l_33, l_34, l_35, l_36, l_37, l_38, l_39, l_40, l_41, l_42, l_43, l_44, l_45, l_46, l_47, l_48, l_49, l_50, l_51, l_52, l_53, l_54, l_55, l_56, l_57, l_59, l_60, l_61, l_62, l_63, l_64, l_65, l_80, l_86, l_87, l_88, l_89, l_90, l_91, l_92, l_93, l_94, l_95, l_97, l_99, l_100, l_107, l_119, l_122, l_124, l_129, l_140, l_141, l_142, l_143, l_144, l_145, l_147, l_150, l_159, l_160, l_161, l_162, l_205, l_253, l_255, l_256, l_269, l_305, l_380, l_399, l_400, l_420, l_430, l_516, l_600, l_720, l_820, l_905, l_921, l_937, l_953, l_970, l_999, l_1000, l_1790, l_4096, l_9999, l_1000000]
          · unfold f_X12_wins
            simp (disch := omega) only [mm, m_isIn, hw, n3, ec2, ↓reduceIte, ↓p_ld, ↓p_st, ↓p_nm, ↓p_nS, ↓p_jn, ↓p_call, ↓p_callv, ↓p_dv, ↓p_rem, h_ldE, h_stE, h_nmE, h_nSE, h_callE, h_callvE, h_dvE, h_remE, if_true, if_false, z_upS, z_upO, z_upK, nI_add, z_mul, z_sub, z_div, Nat.add_zero, Nat.mul_zero, Nat.zero_add, Nat.sub_zero, Nat.zero_mul, z_ltT, z_ltF, z_leT, z_leF, z_eqT, z_eqF, z_inT, z_clT, not_true_eq_false, not_false_eq_true, eq_self, true_or, or_true, z_m_lt, z_m_le, z_lt_m, z_le_m, z_eq_m, z_m_eq, z_rz0, z_rz1, z_m_add, z_of, r_157_0, r_157_1, r_157_2, r_157_3, r_157_6, r_157_7, r_157_8, r_157_9, r_157_10, r_157_11, r_157_27, r_157_28, r_157_29, r_157_30, ↓z_m1, l_0, l_1, l_2, l_3, l_4, l_5, l_6, l_7, l_8, l_9, l_10, l_11, l_12, l_13, l_14, l_15, l_16, l_17, l_18, l_19, l_20, l_21, l_22, l_23, l_24, l_25, l_26, l_27, l_28, l_29, l_30, l_31, l_32, l_33, l_34, l_35, l_36, l_37, l_38, l_39, l_40, l_41, l_42, l_43, l_44, l_45, l_46, l_47, l_48, l_49, l_50, l_51, l_52, l_53, l_54, l_55, l_56, l_57, l_59, l_60, l_61, l_62, l_63, l_64, l_65, l_80, l_86, l_87, l_88, l_89, l_90, l_91, l_92, l_93, l_94, l_95, l_97, l_99, l_100, l_107, l_119, l_122, l_124, l_129, l_140, l_141, l_142, l_143, l_144, l_145, l_147, l_150, l_159, l_160, l_161, l_162, l_205, l_253, l_255, l_256, l_269, l_305, l_380, l_399, l_400, l_420, l_430, l_516, l_600, l_720, l_820, l_905, l_921, l_937, l_953, l_970, l_999, l_1000, l_1790, l_4096, l_9999, l_1000000]
        · have q : w = 1 := by omega
          subst q
          refine ⟨nI t, σ3, σ4, ?_, ?_, mu, me, hS⟩
          · unfold f_X11_wins
            simp (disch := omega) only [mc, c_isWithin, hw, eF, ↓reduceIte, ↓p_ld, ↓p_st, ↓p_nm, ↓p_nS, ↓p_jn, ↓p_call, ↓p_callv, ↓p_dv, ↓p_rem, h_ldE, h_stE, h_nmE, h_nSE, h_callE, h_callvE, h_dvE, h_remE, if_true, if_false, z_upS, z_upO, z_upK, nI_add, z_mul, z_sub, z_div, Nat.add_zero, Nat.mul_zero, Nat.zero_add, Nat.sub_zero, Nat.zero_mul, z_ltT, z_ltF, z_leT, z_leF, z_eqT, z_eqF, z_inT, z_clT, not_true_eq_false, not_false_eq_true, eq_self, true_or, or_true, z_m_lt, z_m_le, z_lt_m, z_le_m, z_eq_m, z_m_eq, z_rz0, z_rz1, z_m_add, z_of, r_0_0, r_0_1, r_0_3, r_0_4, r_0_5, r_0_6, r_0_7, r_0_8, r_0_9, r_0_10, r_1_0, r_1_1, r_1_2, r_1_3, r_1_4, r_1_5, r_1_6, r_1_7, r_1_8, r_2_0, r_2_1, r_2_2, r_2_3, r_2_4, r_2_5, r_2_6, r_2_7, r_11_0, r_11_1, r_11_2, r_11_3, r_11_4, r_11_5, r_11_6, r_19_0, r_21_0, r_23_0, r_25_0, r_27_0, r_61_0, r_117_0, r_117_1, r_117_2, r_117_3, r_117_4, r_117_5, r_117_6, r_117_7, r_126_0, r_126_1, r_126_2, r_126_3, r_126_4, r_132_0, r_132_1, r_135_0, r_135_1, r_135_2, r_135_3, r_135_4, r_135_5, r_142_0, r_144_0, r_144_1, r_144_2, r_145_0, r_145_1, r_145_2, r_145_3, r_145_4, r_145_5, r_145_6, r_154_0, r_154_1, r_155_0, ↓z_m1, l_0, l_1, l_2, l_3, l_4, l_5, l_6, l_7, l_8, l_9, l_10, l_11, l_12, l_13, l_14, l_15, l_16, l_17, l_18, l_19, l_20, l_21, l_22, l_23, l_24, l_25, l_26, l_27, l_28, l_29, l_30, l_31, l_32, l_33, l_34, l_35, l_36, l_37, l_38, l_39, l_40, l_41, l_42, l_43, l_44, l_45, l_46, l_47, l_48, l_49, l_50, l_51, l_52, l_53, l_54, l_55, l_56, l_57, l_59, l_60, l_61, l_62, l_63, l_64, l_65, l_80, l_86, l_87, l_88, l_89, l_90, l_91, l_92, l_93, l_94, l_95, l_97, l_99, l_100, l_107, l_119, l_122, l_124, l_129, l_140, l_141, l_142, l_143, l_144, l_145, l_147, l_150, l_159, l_160, l_161, l_162, l_205, l_253, l_255, l_256, l_269, l_305, l_380, l_399, l_400, l_420, l_430, l_516, l_600, l_720, l_820, l_905, l_921, l_937, l_953, l_970, l_999, l_1000, l_1790, l_4096, l_9999, l_1000000]
          · unfold f_X12_wins
            simp (disch := omega) only [mm, m_isIn, hw, n3, ↓reduceIte, ↓p_ld, ↓p_st, ↓p_nm, ↓p_nS, ↓p_jn, ↓p_call, ↓p_callv, ↓p_dv, ↓p_rem, h_ldE, h_stE, h_nmE, h_nSE, h_callE, h_callvE, h_dvE, h_remE, if_true, if_false, z_upS, z_upO, z_upK, nI_add, z_mul, z_sub, z_div, Nat.add_zero, Nat.mul_zero, Nat.zero_add, Nat.sub_zero, Nat.zero_mul, z_ltT, z_ltF, z_leT, z_leF, z_eqT, z_eqF, z_inT, z_clT, not_true_eq_false, not_false_eq_true, eq_self, true_or, or_true, z_m_lt, z_m_le, z_lt_m, z_le_m, z_eq_m, z_m_eq, z_rz0, z_rz1, z_m_add, z_of, r_157_0, r_157_1, r_157_2, r_157_3, r_157_6, r_157_7, r_157_8, r_157_9, r_157_10, r_157_11, r_157_27, r_157_28, r_157_29, r_157_30, ↓z_m1, l_0, l_1, l_2, l_3, l_4, l_5, l_6, l_7, l_8, l_9, l_10, l_11, l_12, l_13, l_14, l_15, l_16, l_17, l_18, l_19, l_20, l_21, l_22, l_23, l_24, l_25, l_26, l_27, l_28, l_29, l_30, l_31, l_32, l_33, l_34, l_35, l_36, l_37, l_38, l_39, l_40, l_41, l_42, l_43, l_44, l_45, l_46, l_47, l_48, l_49, l_50, l_51, l_52, l_53, l_54, l_55, l_56, l_57, l_59, l_60, l_61, l_62, l_63, l_64, l_65, l_80, l_86, l_87, l_88, l_89, l_90, l_91, l_92, l_93, l_94, l_95, l_97, l_99, l_100, l_107, l_119, l_122, l_124, l_129, l_140, l_141, l_142, l_143, l_144, l_145, l_147, l_150, l_159, l_160, l_161, l_162, l_205, l_253, l_255, l_256, l_269, l_305, l_380, l_399, l_400, l_420, l_430, l_516, l_600, l_720, l_820, l_905, l_921, l_937, l_953, l_970, l_999, l_1000, l_1790, l_4096, l_9999, l_1000000]
    · have mm : f_X12_isMan q_F 157 (nI man) σ = some (nI 1, σ) := hm1.2 q_F σ h87
      refine ⟨z_m, σ, σ, ?_, ?_, mu, me, h⟩
      · unfold f_X11_wins
        simp (disch := omega) only [mc, c_isWithin, hw, ↓reduceIte, ↓p_ld, ↓p_st, ↓p_nm, ↓p_nS, ↓p_jn, ↓p_call, ↓p_callv, ↓p_dv, ↓p_rem, h_ldE, h_stE, h_nmE, h_nSE, h_callE, h_callvE, h_dvE, h_remE, if_true, if_false, z_upS, z_upO, z_upK, nI_add, z_mul, z_sub, z_div, Nat.add_zero, Nat.mul_zero, Nat.zero_add, Nat.sub_zero, Nat.zero_mul, z_ltT, z_ltF, z_leT, z_leF, z_eqT, z_eqF, z_inT, z_clT, not_true_eq_false, not_false_eq_true, eq_self, true_or, or_true, z_m_lt, z_m_le, z_lt_m, z_le_m, z_eq_m, z_m_eq, z_rz0, z_rz1, z_m_add, z_of, r_0_0, r_0_1, r_0_3, r_0_4, r_0_5, r_0_6, r_0_7, r_0_8, r_0_9, r_0_10, r_1_0, r_1_1, r_1_2, r_1_3, r_1_4, r_1_5, r_1_6, r_1_7, r_1_8, r_2_0, r_2_1, r_2_2, r_2_3, r_2_4, r_2_5, r_2_6, r_2_7, r_11_0, r_11_1, r_11_2, r_11_3, r_11_4, r_11_5, r_11_6, r_19_0, r_21_0, r_23_0, r_25_0, r_27_0, r_61_0, r_117_0, r_117_1, r_117_2, r_117_3, r_117_4, r_117_5, r_117_6, r_117_7, r_126_0, r_126_1, r_126_2, r_126_3, r_126_4, r_132_0, r_132_1, r_135_0, r_135_1, r_135_2, r_135_3, r_135_4, r_135_5, r_142_0, r_144_0, r_144_1, r_144_2, r_145_0, r_145_1, r_145_2, r_145_3, r_145_4, r_145_5, r_145_6, r_154_0, r_154_1, r_155_0, ↓z_m1, l_0, l_1, l_2, l_3, l_4, l_5, l_6, l_7, l_8, l_9, l_10, l_11, l_12, l_13, l_14, l_15, l_16, l_17, l_18, l_19, l_20, l_21, l_22, l_23, l_24, l_25, l_26, l_27, l_28, l_29, l_30, l_31, l_32, l_33, l_34, l_35, l_36, l_37, l_38, l_39, l_40, l_41, l_42, l_43, l_44, l_45, l_46, l_47, l_48, l_49, l_50, l_51, l_52, l_53, l_54, l_55, l_56, l_57, l_59, l_60, l_61, l_62, l_63, l_64, l_65, l_80, l_86, l_87, l_88, l_89, l_90, l_91, l_92, l_93, l_94, l_95, l_97, l_99, l_100, l_107, l_119, l_122, l_124, l_129, l_140, l_141, l_142, l_143, l_144, l_145, l_147, l_150, l_159, l_160, l_161, l_162, l_205, l_253, l_255, l_256, l_269, l_305, l_380, l_399, l_400, l_420, l_430, l_516, l_600, l_720, l_820, l_905, l_921, l_937, l_953, l_970, l_999, l_1000, l_1790, l_4096, l_9999, l_1000000]
      · unfold f_X12_wins
        simp (disch := omega) only [mm, m_isIn, hw, ↓reduceIte, ↓p_ld, ↓p_st, ↓p_nm, ↓p_nS, ↓p_jn, ↓p_call, ↓p_callv, ↓p_dv, ↓p_rem, h_ldE, h_stE, h_nmE, h_nSE, h_callE, h_callvE, h_dvE, h_remE, if_true, if_false, z_upS, z_upO, z_upK, nI_add, z_mul, z_sub, z_div, Nat.add_zero, Nat.mul_zero, Nat.zero_add, Nat.sub_zero, Nat.zero_mul, z_ltT, z_ltF, z_leT, z_leF, z_eqT, z_eqF, z_inT, z_clT, not_true_eq_false, not_false_eq_true, eq_self, true_or, or_true, z_m_lt, z_m_le, z_lt_m, z_le_m, z_eq_m, z_m_eq, z_rz0, z_rz1, z_m_add, z_of, r_157_0, r_157_1, r_157_2, r_157_3, r_157_6, r_157_7, r_157_8, r_157_9, r_157_10, r_157_11, r_157_27, r_157_28, r_157_29, r_157_30, ↓z_m1, l_0, l_1, l_2, l_3, l_4, l_5, l_6, l_7, l_8, l_9, l_10, l_11, l_12, l_13, l_14, l_15, l_16, l_17, l_18, l_19, l_20, l_21, l_22, l_23, l_24, l_25, l_26, l_27, l_28, l_29, l_30, l_31, l_32, l_33, l_34, l_35, l_36, l_37, l_38, l_39, l_40, l_41, l_42, l_43, l_44, l_45, l_46, l_47, l_48, l_49, l_50, l_51, l_52, l_53, l_54, l_55, l_56, l_57, l_59, l_60, l_61, l_62, l_63, l_64, l_65, l_80, l_86, l_87, l_88, l_89, l_90, l_91, l_92, l_93, l_94, l_95, l_97, l_99, l_100, l_107, l_119, l_122, l_124, l_129, l_140, l_141, l_142, l_143, l_144, l_145, l_147, l_150, l_159, l_160, l_161, l_162, l_205, l_253, l_255, l_256, l_269, l_305, l_380, l_399, l_400, l_420, l_430, l_516, l_600, l_720, l_820, l_905, l_921, l_937, l_953, l_970, l_999, l_1000, l_1790, l_4096, l_9999, l_1000000]
  · have mc := hm1.1 q_F σ g9
    have mm := hm1.2 q_F σ h87
    refine ⟨z_m, σ, σ, ?_, ?_, mu, me, h⟩
    · unfold f_X11_wins
      simp (disch := omega) only [mc, ↓reduceIte, ↓p_ld, ↓p_st, ↓p_nm, ↓p_nS, ↓p_jn, ↓p_call, ↓p_callv, ↓p_dv, ↓p_rem, h_ldE, h_stE, h_nmE, h_nSE, h_callE, h_callvE, h_dvE, h_remE, if_true, if_false, z_upS, z_upO, z_upK, nI_add, z_mul, z_sub, z_div, Nat.add_zero, Nat.mul_zero, Nat.zero_add, Nat.sub_zero, Nat.zero_mul, z_ltT, z_ltF, z_leT, z_leF, z_eqT, z_eqF, z_inT, z_clT, not_true_eq_false, not_false_eq_true, eq_self, true_or, or_true, z_m_lt, z_m_le, z_lt_m, z_le_m, z_eq_m, z_m_eq, z_rz0, z_rz1, z_m_add, z_of, r_0_0, r_0_1, r_0_3, r_0_4, r_0_5, r_0_6, r_0_7, r_0_8, r_0_9, r_0_10, r_1_0, r_1_1, r_1_2, r_1_3, r_1_4, r_1_5, r_1_6, r_1_7, r_1_8, r_2_0, r_2_1, r_2_2, r_2_3, r_2_4, r_2_5, r_2_6, r_2_7, r_11_0, r_11_1, r_11_2, r_11_3, r_11_4, r_11_5, r_11_6, r_19_0, r_21_0, r_23_0, r_25_0, r_27_0, r_61_0, r_117_0, r_117_1, r_117_2, r_117_3, r_117_4, r_117_5, r_117_6, r_117_7, r_126_0, r_126_1, r_126_2, r_126_3, r_126_4, r_132_0, r_132_1, r_135_0, r_135_1, r_135_2, r_135_3, r_135_4, r_135_5, r_142_0, r_144_0, r_144_1, r_144_2, r_145_0, r_145_1, r_145_2, r_145_3, r_145_4, r_145_5, r_145_6, r_154_0, r_154_1, r_155_0, ↓z_m1, l_0, l_1, l_2, l_3, l_4, l_5, l_6, l_7, l_8, l_9, l_10, l_11, l_12, l_13, l_14, l_15, l_16, l_17, l_18, l_19, l_20, l_21, l_22, l_23, l_24, l_25, l_26, l_27, l_28, l_29, l_30, l_31, l_32, l_33, l_34, l_35, l_36, l_37, l_38, l_39, l_40, l_41, l_42, l_43, l_44, l_45, l_46, l_47, l_48, l_49, l_50, l_51, l_52, l_53, l_54, l_55, l_56, l_57, l_59, l_60, l_61, l_62, l_63, l_64, l_65, l_80, l_86, l_87, l_88, l_89, l_90, l_91, l_92, l_93, l_94, l_95, l_97, l_99, l_100, l_107, l_119, l_122, l_124, l_129, l_140, l_141, l_142, l_143, l_144, l_145, l_147, l_150, l_159, l_160, l_161, l_162, l_205, l_253, l_255, l_256, l_269, l_305, l_380, l_399, l_400, l_420, l_430, l_516, l_600, l_720, l_820, l_905, l_921, l_937, l_953, l_970, l_999, l_1000, l_1790, l_4096, l_9999, l_1000000]
    · unfold f_X12_wins
      simp (disch := omega) only [mm, ↓reduceIte, ↓p_ld, ↓p_st, ↓p_nm, ↓p_nS, ↓p_jn, ↓p_call, ↓p_callv, ↓p_dv, ↓p_rem, h_ldE, h_stE, h_nmE, h_nSE, h_callE, h_callvE, h_dvE, h_remE, if_true, if_false, z_upS, z_upO, z_upK, nI_add, z_mul, z_sub, z_div, Nat.add_zero, Nat.mul_zero, Nat.zero_add, Nat.sub_zero, Nat.zero_mul, z_ltT, z_ltF, z_leT, z_leF, z_eqT, z_eqF, z_inT, z_clT, not_true_eq_false, not_false_eq_true, eq_self, true_or, or_true, z_m_lt, z_m_le, z_lt_m, z_le_m, z_eq_m, z_m_eq, z_rz0, z_rz1, z_m_add, z_of, r_157_0, r_157_1, r_157_2, r_157_3, r_157_6, r_157_7, r_157_8, r_157_9, r_157_10, r_157_11, r_157_27, r_157_28, r_157_29, r_157_30, ↓z_m1, l_0, l_1, l_2, l_3, l_4, l_5, l_6, l_7, l_8, l_9, l_10, l_11, l_12, l_13, l_14, l_15, l_16, l_17, l_18, l_19, l_20, l_21, l_22, l_23, l_24, l_25, l_26, l_27, l_28, l_29, l_30, l_31, l_32, l_33, l_34, l_35, l_36, l_37, l_38, l_39, l_40, l_41, l_42, l_43, l_44, l_45, l_46, l_47, l_48, l_49, l_50, l_51, l_52, l_53, l_54, l_55, l_56, l_57, l_59, l_60, l_61, l_62, l_63, l_64, l_65, l_80, l_86, l_87, l_88, l_89, l_90, l_91, l_92, l_93, l_94, l_95, l_97, l_99, l_100, l_107, l_119, l_122, l_124, l_129, l_140, l_141, l_142, l_143, l_144, l_145, l_147, l_150, l_159, l_160, l_161, l_162, l_205, l_253, l_255, l_256, l_269, l_305, l_380, l_399, l_400, l_420, l_430, l_516, l_600, l_720, l_820, l_905, l_921, l_937, l_953, l_970, l_999, l_1000, l_1790, l_4096, l_9999, l_1000000]
/-! TEXTS: the tokens of the tape -/
theorem z_upSelf {σ : q_Sto} {o k : Nat} {v : Int32} (h : σ o k = v) : q_up σ o k v = σ := by
  funext a j
  show (if a = o then (if j = k then v else σ a j) else σ a j) = σ a j
  by_cases q1 : a = o
  · rw [if_pos q1]
    by_cases q2 : j = k
    · rw [if_pos q2, q1, q2, h]
    · rw [if_neg q2]
  · rw [if_neg q1]
theorem z_upUp {σ : q_Sto} {o k : Nat} {v w : Int32} : q_up (q_up σ o k v) o k w = q_up σ o k w := by
  funext a j
  unfold q_up
  by_cases q1 : a = o <;> by_cases q2 : j = k <;> simp [q1, q2]
def zt_bl (c : Nat) : Bool := decide (c = 32) || decide (c = 10)
def zt_il (c : Nat) : Bool := (decide (97 ≤ c) && decide (c ≤ 122)) || (decide (65 ≤ c) && decide (c ≤ 90))
def zt_id (c : Nat) : Bool := decide (48 ≤ c) && decide (c ≤ 57)
def zt_sc (P : Nat → Bool) (B : Nat → Nat) : Nat → Nat → Nat
  | 0, i => i
  | j + 1, i => if P (B i) = true then zt_sc P B j (i+1) else i
theorem zt_sc_b (P : Nat → Bool) (B : Nat → Nat) : ∀ j i, i ≤ zt_sc P B j i ∧ zt_sc P B j i ≤ i + j
  | 0, i => ⟨Nat.le_refl _, Nat.le_refl _⟩
  | j + 1, i => by
    have ih := zt_sc_b P B j (i+1)
    have e : zt_sc P B (j+1) i = if P (B i) = true then zt_sc P B j (i+1) else i := rfl
    rw [e]
    split <;> omega
/-- bytes and how many -/
abbrev zt_T : Type := (Nat → Nat) × Nat
def zt_at (T : zt_T) (p : Nat) : Nat := zt_sc zt_bl T.1 (T.2 - p) p
/-- 0 the end, 1 letters, 2 digits, 3 a sign -/
def zt_kd (T : zt_T) (p : Nat) : Nat := if zt_at T p < T.2 then (if zt_il (T.1 (zt_at T p)) = true then 1 else if zt_id (T.1 (zt_at T p)) = true then 2 else 3) else 0
def zt_nx (T : zt_T) (p : Nat) : Nat := if zt_at T p < T.2 then (if zt_il (T.1 (zt_at T p)) = true then zt_sc zt_il T.1 (T.2 - zt_at T p) (zt_at T p) else if zt_id (T.1 (zt_at T p)) = true then zt_sc zt_id T.1 (T.2 - zt_at T p) (zt_at T p) else zt_at T p + 1) else zt_at T p
theorem zt_at_b {T : zt_T} {p : Nat} (h : p ≤ T.2) : p ≤ zt_at T p ∧ zt_at T p ≤ T.2 := by
  have := zt_sc_b zt_bl T.1 (T.2 - p) p
  unfold zt_at
  omega
theorem zt_nx_b {T : zt_T} {p : Nat} (h : p ≤ T.2) : zt_at T p ≤ zt_nx T p ∧ zt_nx T p ≤ T.2 ∧ (zt_kd T p ≠ 0 → zt_at T p < zt_nx T p) := by
  have h0 := zt_at_b h
  have h1 := zt_sc_b zt_il T.1 (T.2 - zt_at T p) (zt_at T p)
  have h2 := zt_sc_b zt_id T.1 (T.2 - zt_at T p) (zt_at T p)
  unfold zt_nx zt_kd
  by_cases q : zt_at T p < T.2
  · rw [if_pos q, if_pos q]
    have hs : ∀ P : Nat → Bool, P (T.1 (zt_at T p)) = true → zt_at T p < zt_sc P T.1 (T.2 - zt_at T p) (zt_at T p) := fun P hP => by
      obtain ⟨k, hk⟩ : ∃ k, T.2 - zt_at T p = k + 1 := ⟨T.2 - zt_at T p - 1, by omega⟩
      rw [hk]
      have e : zt_sc P T.1 (k+1) (zt_at T p) = if P (T.1 (zt_at T p)) = true then zt_sc P T.1 k (zt_at T p + 1) else zt_at T p := rfl
      rw [e, if_pos hP]
      have := zt_sc_b P T.1 k (zt_at T p + 1)
      omega
    by_cases q1 : zt_il (T.1 (zt_at T p)) = true
    · have := hs _ q1
      rw [if_pos q1, if_pos q1]; omega
    · rw [if_neg q1, if_neg q1]
      by_cases q2 : zt_id (T.1 (zt_at T p)) = true
      · have := hs _ q2
        rw [if_pos q2, if_pos q2]; omega
      · rw [if_neg q2, if_neg q2]; omega
  · rw [if_neg q, if_neg q]; omega
/-- the number of n digits from q -/
def zt_nv (B : Nat → Nat) (q : Nat) : Nat → Nat
  | 0 => 0
  | n + 1 => 10 * zt_nv B q n + (B (q+n) - 48)
def zt_va (T : zt_T) (p : Nat) : Nat := zt_nv T.1 (zt_at T p) (zt_nx T p - zt_at T p)
/-- the bytes of the token -/
def zt_by (T : zt_T) (p : Nat) : List Nat := (List.range (zt_nx T p - zt_at T p)).map (fun i => T.1 (zt_at T p + i))
def zt_w (i : Nat) : List Nat := (q_tx i).map zn
def zt_pr (B : Nat → Nat) (q w : Nat) : Nat → Bool
  | 0 => true
  | i + 1 => zt_pr B q w i && decide (B (q+i) = (zt_w w).getD i 0)
theorem zt_pr_f {B : Nat → Nat} {q w i : Nat} (h : zt_pr B q w i = false) : ∀ n, zt_pr B q w (i+n) = false
  | 0 => h
  | n + 1 => by
    show (zt_pr B q w (i+n) && _) = false
    rw [zt_pr_f h n, Bool.false_and]
theorem zt_pr_a {B : Nat → Nat} {q w : Nat} : ∀ n, zt_pr B q w n = true ↔ ∀ i, i < n → B (q+i) = (zt_w w).getD i 0
  | 0 => ⟨fun _ i hi => by omega, fun _ => rfl⟩
  | n + 1 => by
    have ih := zt_pr_a (B := B) (q := q) (w := w) n
    have e : zt_pr B q w (n+1) = (zt_pr B q w n && decide (B (q+n) = (zt_w w).getD n 0)) := rfl
    rw [e, Bool.and_eq_true, ih, decide_eq_true_eq]
    constructor
    · rintro ⟨h1, h2⟩ i hi
      by_cases q : i = n
      · subst q; exact h2
      · exact h1 i (by omega)
    · intro h
      exact ⟨fun i hi => h i (by omega), h n (by omega)⟩
theorem zt_by_w {T : zt_T} {p w : Nat} : zt_by T p = zt_w w ↔ zt_nx T p - zt_at T p = (zt_w w).length ∧ zt_pr T.1 (zt_at T p) w (zt_w w).length = true := by
  have hl : (zt_by T p).length = zt_nx T p - zt_at T p := by unfold zt_by; simp
  have hg : ∀ i, i < zt_nx T p - zt_at T p → (zt_by T p)[i]? = some (T.1 (zt_at T p + i)) := fun i hi => by
    unfold zt_by
    rw [List.getElem?_map, List.getElem?_range hi]
    rfl
  rw [zt_pr_a]
  constructor
  · intro h
    have e1 : zt_nx T p - zt_at T p = (zt_w w).length := by rw [← hl, h]
    refine ⟨e1, fun i hi => ?_⟩
    have := hg i (by omega)
    rw [h] at this
    rw [List.getD_eq_getElem?_getD, this]
    rfl
  · rintro ⟨h1, h2⟩
    apply List.ext_getElem?
    intro i
    by_cases q : i < zt_nx T p - zt_at T p
    · rw [hg i q, h2 i (by omega), List.getD_eq_getElem?_getD, List.getElem?_eq_getElem (show i < (zt_w w).length by omega)]
      rfl
    · rw [List.getElem?_eq_none (by omega), List.getElem?_eq_none (by omega)]
theorem zt_tx_all : (List.range 57).all (fun i => (decide (0 < (q_tx i).length) && decide ((q_tx i).length < 8)) && (List.range 8).all (fun j => decide (j < (q_tx i).length → (q_tx i).getD j 0 = nI ((zt_w i).getD j 0) ∧ (zt_w i).getD j 0 < 123))) = true := by decide +kernel
theorem zt_tx {w : Nat} (hw : w < 57) : 0 < (zt_w w).length ∧ (zt_w w).length < 8 ∧ (q_tx w).length = (zt_w w).length ∧ ∀ j, j < (zt_w w).length → (q_tx w).getD j 0 = nI ((zt_w w).getD j 0) ∧ (zt_w w).getD j 0 < 123 := by
  have h := List.all_eq_true.mp zt_tx_all w (List.mem_range.mpr hw)
  rw [Bool.and_eq_true, Bool.and_eq_true, decide_eq_true_eq, decide_eq_true_eq] at h
  obtain ⟨⟨h1, h2⟩, h3⟩ := h
  have hl : (zt_w w).length = (q_tx w).length := List.length_map ..
  refine ⟨by omega, by omega, hl.symm, fun j hj => ?_⟩
  have := List.all_eq_true.mp h3 j (List.mem_range.mpr (by omega))
  exact of_decide_eq_true this (by omega)
/-- the tape of both -/
def zt_B (σa : Nat → Int32) (T : zt_T) : Prop := T.2 ≤ 400 ∧ ∀ i, i < T.2 → σa i = nI (T.1 i) ∧ T.1 i ≤ 255
/-- the class holds the token from p -/
def zt_C (σ : q_Sto) (T : zt_T) (p : Nat) : Prop := zt_B (σ 143) T ∧ p ≤ T.2 ∧ σ 142 1 = nI T.2 ∧ σ 142 2 = nI (zt_nx T p) ∧ σ 142 3 = nI (zt_at T p) ∧ σ 142 4 = nI (zt_kd T p) ∧ (zt_kd T p = 3 → σ 142 5 = nI (T.1 (zt_at T p))) ∧ (zt_kd T p = 2 → zt_nx T p - zt_at T p < 5 → σ 142 5 = nI (zt_va T p))
theorem zt_C.fr {σ σ' : q_Sto} {T : zt_T} {p : Nat} (h : zt_C σ T p) (e3 : σ' 143 = σ 143) (e : ∀ a, a ≠ 6 → a ≠ 7 → σ' 142 a = σ 142 a) : zt_C σ' T p := by
  unfold zt_C at *
  rw [e3, e 1 (by omega) (by omega), e 2 (by omega) (by omega), e 3 (by omega) (by omega), e 4 (by omega) (by omega), e 5 (by omega) (by omega)]
  exact h
theorem c_byteAt {n i : Nat} {σ : q_Sto} {T : zt_T} (hB : zt_B (σ 143) T) (h1 : σ 142 1 = nI T.2) (hi : i < T.2) : f_X8_byteAt n 142 (nI i) σ = some (nI (T.1 i), σ) := by
  have hL := hB.1
  have hb := (hB.2 i hi).1
  unfold f_X8_byteAt
  simp (disch := omega) only [h1, hb, ↓reduceIte, ↓p_ld, ↓p_st, ↓p_nm, ↓p_nS, ↓p_jn, ↓p_call, ↓p_callv, ↓p_dv, ↓p_rem, h_ldE, h_stE, h_nmE, h_nSE, h_callE, h_callvE, h_dvE, h_remE, if_true, if_false, z_upS, z_upO, z_upK, nI_add, z_mul, z_sub, z_div, Nat.add_zero, Nat.mul_zero, Nat.zero_add, Nat.sub_zero, Nat.zero_mul, z_ltT, z_ltF, z_leT, z_leF, z_eqT, z_eqF, z_inT, z_clT, not_true_eq_false, not_false_eq_true, eq_self, true_or, or_true, z_m_lt, z_m_le, z_lt_m, z_le_m, z_eq_m, z_m_eq, z_rz0, z_rz1, z_m_add, z_of, r_0_0, r_0_1, r_0_3, r_0_4, r_0_5, r_0_6, r_0_7, r_0_8, r_0_9, r_0_10, r_1_0, r_1_1, r_1_2, r_1_3, r_1_4, r_1_5, r_1_6, r_1_7, r_1_8, r_2_0, r_2_1, r_2_2, r_2_3, r_2_4, r_2_5, r_2_6, r_2_7, r_11_0, r_11_1, r_11_2, r_11_3, r_11_4, r_11_5, r_11_6, r_19_0, r_21_0, r_23_0, r_25_0, r_27_0, r_61_0, r_117_0, r_117_1, r_117_2, r_117_3, r_117_4, r_117_5, r_117_6, r_117_7, r_126_0, r_126_1, r_126_2, r_126_3, r_126_4, r_132_0, r_132_1, r_135_0, r_135_1, r_135_2, r_135_3, r_135_4, r_135_5, r_142_0, r_144_0, r_144_1, r_144_2, r_145_0, r_145_1, r_145_2, r_145_3, r_145_4, r_145_5, r_145_6, r_154_0, r_154_1, r_155_0, ↓z_m1, l_0, l_1, l_2, l_3, l_4, l_5, l_6, l_7, l_8, l_9, l_10, l_11, l_12, l_13, l_14, l_15, l_16, l_17, l_18, l_19, l_20, l_21, l_22, l_23, l_24, l_25, l_26, l_27, l_28, l_29, l_30, l_31, l_32, l_33, l_34, l_35, l_36, l_37, l_38, l_39, l_40, l_41, l_42, l_43, l_44, l_45, l_46, l_47, l_48, l_49, l_50, l_51, l_52, l_53, l_54, l_55, l_56, l_57, l_59, l_60, l_61, l_62, l_63, l_64, l_65, l_80, l_86, l_87, l_88, l_89, l_90, l_91, l_92, l_93, l_94, l_95, l_97, l_99, l_100, l_107, l_119, l_122, l_124, l_129, l_140, l_141, l_142, l_143, l_144, l_145, l_147, l_150, l_159, l_160, l_161, l_162, l_205, l_253, l_255, l_256, l_269, l_305, l_380, l_399, l_400, l_420, l_430, l_516, l_600, l_720, l_820, l_905, l_921, l_937, l_953, l_970, l_999, l_1000, l_1790, l_4096, l_9999, l_1000000]
theorem c_byteAt0 {n i : Nat} {σ : q_Sto} {T : zt_T} (hB : zt_B (σ 143) T) (h1 : σ 142 1 = nI T.2) (hi : T.2 ≤ i) (hi2 : i < 2147483648) : f_X8_byteAt n 142 (nI i) σ = some (z_m, σ) := by
  have hL := hB.1
  unfold f_X8_byteAt
  simp (disch := omega) only [h1, ↓reduceIte, ↓p_ld, ↓p_st, ↓p_nm, ↓p_nS, ↓p_jn, ↓p_call, ↓p_callv, ↓p_dv, ↓p_rem, h_ldE, h_stE, h_nmE, h_nSE, h_callE, h_callvE, h_dvE, h_remE, if_true, if_false, z_upS, z_upO, z_upK, nI_add, z_mul, z_sub, z_div, Nat.add_zero, Nat.mul_zero, Nat.zero_add, Nat.sub_zero, Nat.zero_mul, z_ltT, z_ltF, z_leT, z_leF, z_eqT, z_eqF, z_inT, z_clT, not_true_eq_false, not_false_eq_true, eq_self, true_or, or_true, z_m_lt, z_m_le, z_lt_m, z_le_m, z_eq_m, z_m_eq, z_rz0, z_rz1, z_m_add, z_of, r_0_0, r_0_1, r_0_3, r_0_4, r_0_5, r_0_6, r_0_7, r_0_8, r_0_9, r_0_10, r_1_0, r_1_1, r_1_2, r_1_3, r_1_4, r_1_5, r_1_6, r_1_7, r_1_8, r_2_0, r_2_1, r_2_2, r_2_3, r_2_4, r_2_5, r_2_6, r_2_7, r_11_0, r_11_1, r_11_2, r_11_3, r_11_4, r_11_5, r_11_6, r_19_0, r_21_0, r_23_0, r_25_0, r_27_0, r_61_0, r_117_0, r_117_1, r_117_2, r_117_3, r_117_4, r_117_5, r_117_6, r_117_7, r_126_0, r_126_1, r_126_2, r_126_3, r_126_4, r_132_0, r_132_1, r_135_0, r_135_1, r_135_2, r_135_3, r_135_4, r_135_5, r_142_0, r_144_0, r_144_1, r_144_2, r_145_0, r_145_1, r_145_2, r_145_3, r_145_4, r_145_5, r_145_6, r_154_0, r_154_1, r_155_0, ↓z_m1, l_0, l_1, l_2, l_3, l_4, l_5, l_6, l_7, l_8, l_9, l_10, l_11, l_12, l_13, l_14, l_15, l_16, l_17, l_18, l_19, l_20, l_21, l_22, l_23, l_24, l_25, l_26, l_27, l_28, l_29, l_30, l_31, l_32, l_33, l_34, l_35, l_36, l_37, l_38, l_39, l_40, l_41, l_42, l_43, l_44, l_45, l_46, l_47, l_48, l_49, l_50, l_51, l_52, l_53, l_54, l_55, l_56, l_57, l_59, l_60, l_61, l_62, l_63, l_64, l_65, l_80, l_86, l_87, l_88, l_89, l_90, l_91, l_92, l_93, l_94, l_95, l_97, l_99, l_100, l_107, l_119, l_122, l_124, l_129, l_140, l_141, l_142, l_143, l_144, l_145, l_147, l_150, l_159, l_160, l_161, l_162, l_205, l_253, l_255, l_256, l_269, l_305, l_380, l_399, l_400, l_420, l_430, l_516, l_600, l_720, l_820, l_905, l_921, l_937, l_953, l_970, l_999, l_1000, l_1790, l_4096, l_9999, l_1000000]
theorem c_isLetter {n c : Nat} {σ : q_Sto} (hc : c < 2147483648) : f_X8_isLetter n (nI c) σ = some (z_fb (zt_il c), σ) := by
  have e1 : z_fb true = nI 1 := rfl
  have e0 : z_fb false = nI 0 := rfl
  unfold f_X8_isLetter
  by_cases q1 : 97 ≤ c
  · by_cases q2 : c ≤ 122
    · have : zt_il c = true := by unfold zt_il; simp; omega
      rw [this, e1]
      simp (disch := omega) only [↓reduceIte, ↓p_ld, ↓p_st, ↓p_nm, ↓p_nS, ↓p_jn, ↓p_call, ↓p_callv, ↓p_dv, ↓p_rem, h_ldE, h_stE, h_nmE, h_nSE, h_callE, h_callvE, h_dvE, h_remE, if_true, if_false, z_upS, z_upO, z_upK, nI_add, z_mul, z_sub, z_div, Nat.add_zero, Nat.mul_zero, Nat.zero_add, Nat.sub_zero, Nat.zero_mul, z_ltT, z_ltF, z_leT, z_leF, z_eqT, z_eqF, z_inT, z_clT, not_true_eq_false, not_false_eq_true, eq_self, true_or, or_true, z_m_lt, z_m_le, z_lt_m, z_le_m, z_eq_m, z_m_eq, z_rz0, z_rz1, z_m_add, z_of, r_0_0, r_0_1, r_0_3, r_0_4, r_0_5, r_0_6, r_0_7, r_0_8, r_0_9, r_0_10, r_1_0, r_1_1, r_1_2, r_1_3, r_1_4, r_1_5, r_1_6, r_1_7, r_1_8, r_2_0, r_2_1, r_2_2, r_2_3, r_2_4, r_2_5, r_2_6, r_2_7, r_11_0, r_11_1, r_11_2, r_11_3, r_11_4, r_11_5, r_11_6, r_19_0, r_21_0, r_23_0, r_25_0, r_27_0, r_61_0, r_117_0, r_117_1, r_117_2, r_117_3, r_117_4, r_117_5, r_117_6, r_117_7, r_126_0, r_126_1, r_126_2, r_126_3, r_126_4, r_132_0, r_132_1, r_135_0, r_135_1, r_135_2, r_135_3, r_135_4, r_135_5, r_142_0, r_144_0, r_144_1, r_144_2, r_145_0, r_145_1, r_145_2, r_145_3, r_145_4, r_145_5, r_145_6, r_154_0, r_154_1, r_155_0, ↓z_m1, l_0, l_1, l_2, l_3, l_4, l_5, l_6, l_7, l_8, l_9, l_10, l_11, l_12, l_13, l_14, l_15, l_16, l_17, l_18, l_19, l_20, l_21, l_22, l_23, l_24, l_25, l_26, l_27, l_28, l_29, l_30, l_31, l_32, l_33, l_34, l_35, l_36, l_37, l_38, l_39, l_40, l_41, l_42, l_43, l_44, l_45, l_46, l_47, l_48, l_49, l_50, l_51, l_52, l_53, l_54, l_55, l_56, l_57, l_59, l_60, l_61, l_62, l_63, l_64, l_65, l_80, l_86, l_87, l_88, l_89, l_90, l_91, l_92, l_93, l_94, l_95, l_97, l_99, l_100, l_107, l_119, l_122, l_124, l_129, l_140, l_141, l_142, l_143, l_144, l_145, l_147, l_150, l_159, l_160, l_161, l_162, l_205, l_253, l_255, l_256, l_269, l_305, l_380, l_399, l_400, l_420, l_430, l_516, l_600, l_720, l_820, l_905, l_921, l_937, l_953, l_970, l_999, l_1000, l_1790, l_4096, l_9999, l_1000000]
    · have : zt_il c = false := by unfold zt_il; simp; omega
      rw [this, e0]
      simp (disch := omega) only [↓reduceIte, ↓p_ld, ↓p_st, ↓p_nm, ↓p_nS, ↓p_jn, ↓p_call, ↓p_callv, ↓p_dv, ↓p_rem, h_ldE, h_stE, h_nmE, h_nSE, h_callE, h_callvE, h_dvE, h_remE, if_true, if_false, z_upS, z_upO, z_upK, nI_add, z_mul, z_sub, z_div, Nat.add_zero, Nat.mul_zero, Nat.zero_add, Nat.sub_zero, Nat.zero_mul, z_ltT, z_ltF, z_leT, z_leF, z_eqT, z_eqF, z_inT, z_clT, not_true_eq_false, not_false_eq_true, eq_self, true_or, or_true, z_m_lt, z_m_le, z_lt_m, z_le_m, z_eq_m, z_m_eq, z_rz0, z_rz1, z_m_add, z_of, r_0_0, r_0_1, r_0_3, r_0_4, r_0_5, r_0_6, r_0_7, r_0_8, r_0_9, r_0_10, r_1_0, r_1_1, r_1_2, r_1_3, r_1_4, r_1_5, r_1_6, r_1_7, r_1_8, r_2_0, r_2_1, r_2_2, r_2_3, r_2_4, r_2_5, r_2_6, r_2_7, r_11_0, r_11_1, r_11_2, r_11_3, r_11_4, r_11_5, r_11_6, r_19_0, r_21_0, r_23_0, r_25_0, r_27_0, r_61_0, r_117_0, r_117_1, r_117_2, r_117_3, r_117_4, r_117_5, r_117_6, r_117_7, r_126_0, r_126_1, r_126_2, r_126_3, r_126_4, r_132_0, r_132_1, r_135_0, r_135_1, r_135_2, r_135_3, r_135_4, r_135_5, r_142_0, r_144_0, r_144_1, r_144_2, r_145_0, r_145_1, r_145_2, r_145_3, r_145_4, r_145_5, r_145_6, r_154_0, r_154_1, r_155_0, ↓z_m1, l_0, l_1, l_2, l_3, l_4, l_5, l_6, l_7, l_8, l_9, l_10, l_11, l_12, l_13, l_14, l_15, l_16, l_17, l_18, l_19, l_20, l_21, l_22, l_23, l_24, l_25, l_26, l_27, l_28, l_29, l_30, l_31, l_32, l_33, l_34, l_35, l_36, l_37, l_38, l_39, l_40, l_41, l_42, l_43, l_44, l_45, l_46, l_47, l_48, l_49, l_50, l_51, l_52, l_53, l_54, l_55, l_56, l_57, l_59, l_60, l_61, l_62, l_63, l_64, l_65, l_80, l_86, l_87, l_88, l_89, l_90, l_91, l_92, l_93, l_94, l_95, l_97, l_99, l_100, l_107, l_119, l_122, l_124, l_129, l_140, l_141, l_142, l_143, l_144, l_145, l_147, l_150, l_159, l_160, l_161, l_162, l_205, l_253, l_255, l_256, l_269, l_305, l_380, l_399, l_400, l_420, l_430, l_516, l_600, l_720, l_820, l_905, l_921, l_937, l_953, l_970, l_999, l_1000, l_1790, l_4096, l_9999, l_1000000]
  · by_cases q3 : 65 ≤ c
    · by_cases q4 : c ≤ 90
      · have : zt_il c = true := by unfold zt_il; simp; omega
        rw [this, e1]
        simp (disch := omega) only [↓reduceIte, ↓p_ld, ↓p_st, ↓p_nm, ↓p_nS, ↓p_jn, ↓p_call, ↓p_callv, ↓p_dv, ↓p_rem, h_ldE, h_stE, h_nmE, h_nSE, h_callE, h_callvE, h_dvE, h_remE, if_true, if_false, z_upS, z_upO, z_upK, nI_add, z_mul, z_sub, z_div, Nat.add_zero, Nat.mul_zero, Nat.zero_add, Nat.sub_zero, Nat.zero_mul, z_ltT, z_ltF, z_leT, z_leF, z_eqT, z_eqF, z_inT, z_clT, not_true_eq_false, not_false_eq_true, eq_self, true_or, or_true, z_m_lt, z_m_le, z_lt_m, z_le_m, z_eq_m, z_m_eq, z_rz0, z_rz1, z_m_add, z_of, r_0_0, r_0_1, r_0_3, r_0_4, r_0_5, r_0_6, r_0_7, r_0_8, r_0_9, r_0_10, r_1_0, r_1_1, r_1_2, r_1_3, r_1_4, r_1_5, r_1_6, r_1_7, r_1_8, r_2_0, r_2_1, r_2_2, r_2_3, r_2_4, r_2_5, r_2_6, r_2_7, r_11_0, r_11_1, r_11_2, r_11_3, r_11_4, r_11_5, r_11_6, r_19_0, r_21_0, r_23_0, r_25_0, r_27_0, r_61_0, r_117_0, r_117_1, r_117_2, r_117_3, r_117_4, r_117_5, r_117_6, r_117_7, r_126_0, r_126_1, r_126_2, r_126_3, r_126_4, r_132_0, r_132_1, r_135_0, r_135_1, r_135_2, r_135_3, r_135_4, r_135_5, r_142_0, r_144_0, r_144_1, r_144_2, r_145_0, r_145_1, r_145_2, r_145_3, r_145_4, r_145_5, r_145_6, r_154_0, r_154_1, r_155_0, ↓z_m1, l_0, l_1, l_2, l_3, l_4, l_5, l_6, l_7, l_8, l_9, l_10, l_11, l_12, l_13, l_14, l_15, l_16, l_17, l_18, l_19, l_20, l_21, l_22, l_23, l_24, l_25, l_26, l_27, l_28, l_29, l_30, l_31, l_32, l_33, l_34, l_35, l_36, l_37, l_38, l_39, l_40, l_41, l_42, l_43, l_44, l_45, l_46, l_47, l_48, l_49, l_50, l_51, l_52, l_53, l_54, l_55, l_56, l_57, l_59, l_60, l_61, l_62, l_63, l_64, l_65, l_80, l_86, l_87, l_88, l_89, l_90, l_91, l_92, l_93, l_94, l_95, l_97, l_99, l_100, l_107, l_119, l_122, l_124, l_129, l_140, l_141, l_142, l_143, l_144, l_145, l_147, l_150, l_159, l_160, l_161, l_162, l_205, l_253, l_255, l_256, l_269, l_305, l_380, l_399, l_400, l_420, l_430, l_516, l_600, l_720, l_820, l_905, l_921, l_937, l_953, l_970, l_999, l_1000, l_1790, l_4096, l_9999, l_1000000]
      · have : zt_il c = false := by unfold zt_il; simp; omega
        rw [this, e0]
        simp (disch := omega) only [↓reduceIte, ↓p_ld, ↓p_st, ↓p_nm, ↓p_nS, ↓p_jn, ↓p_call, ↓p_callv, ↓p_dv, ↓p_rem, h_ldE, h_stE, h_nmE, h_nSE, h_callE, h_callvE, h_dvE, h_remE, if_true, if_false, z_upS, z_upO, z_upK, nI_add, z_mul, z_sub, z_div, Nat.add_zero, Nat.mul_zero, Nat.zero_add, Nat.sub_zero, Nat.zero_mul, z_ltT, z_ltF, z_leT, z_leF, z_eqT, z_eqF, z_inT, z_clT, not_true_eq_false, not_false_eq_true, eq_self, true_or, or_true, z_m_lt, z_m_le, z_lt_m, z_le_m, z_eq_m, z_m_eq, z_rz0, z_rz1, z_m_add, z_of, r_0_0, r_0_1, r_0_3, r_0_4, r_0_5, r_0_6, r_0_7, r_0_8, r_0_9, r_0_10, r_1_0, r_1_1, r_1_2, r_1_3, r_1_4, r_1_5, r_1_6, r_1_7, r_1_8, r_2_0, r_2_1, r_2_2, r_2_3, r_2_4, r_2_5, r_2_6, r_2_7, r_11_0, r_11_1, r_11_2, r_11_3, r_11_4, r_11_5, r_11_6, r_19_0, r_21_0, r_23_0, r_25_0, r_27_0, r_61_0, r_117_0, r_117_1, r_117_2, r_117_3, r_117_4, r_117_5, r_117_6, r_117_7, r_126_0, r_126_1, r_126_2, r_126_3, r_126_4, r_132_0, r_132_1, r_135_0, r_135_1, r_135_2, r_135_3, r_135_4, r_135_5, r_142_0, r_144_0, r_144_1, r_144_2, r_145_0, r_145_1, r_145_2, r_145_3, r_145_4, r_145_5, r_145_6, r_154_0, r_154_1, r_155_0, ↓z_m1, l_0, l_1, l_2, l_3, l_4, l_5, l_6, l_7, l_8, l_9, l_10, l_11, l_12, l_13, l_14, l_15, l_16, l_17, l_18, l_19, l_20, l_21, l_22, l_23, l_24, l_25, l_26, l_27, l_28, l_29, l_30, l_31, l_32, l_33, l_34, l_35, l_36, l_37, l_38, l_39, l_40, l_41, l_42, l_43, l_44, l_45, l_46, l_47, l_48, l_49, l_50, l_51, l_52, l_53, l_54, l_55, l_56, l_57, l_59, l_60, l_61, l_62, l_63, l_64, l_65, l_80, l_86, l_87, l_88, l_89, l_90, l_91, l_92, l_93, l_94, l_95, l_97, l_99, l_100, l_107, l_119, l_122, l_124, l_129, l_140, l_141, l_142, l_143, l_144, l_145, l_147, l_150, l_159, l_160, l_161, l_162, l_205, l_253, l_255, l_256, l_269, l_305, l_380, l_399, l_400, l_420, l_430, l_516, l_600, l_720, l_820, l_905, l_921, l_937, l_953, l_970, l_999, l_1000, l_1790, l_4096, l_9999, l_1000000]
    · have : zt_il c = false := by unfold zt_il; simp; omega
      rw [this, e0]
      simp (disch := omega) only [↓reduceIte, ↓p_ld, ↓p_st, ↓p_nm, ↓p_nS, ↓p_jn, ↓p_call, ↓p_callv, ↓p_dv, ↓p_rem, h_ldE, h_stE, h_nmE, h_nSE, h_callE, h_callvE, h_dvE, h_remE, if_true, if_false, z_upS, z_upO, z_upK, nI_add, z_mul, z_sub, z_div, Nat.add_zero, Nat.mul_zero, Nat.zero_add, Nat.sub_zero, Nat.zero_mul, z_ltT, z_ltF, z_leT, z_leF, z_eqT, z_eqF, z_inT, z_clT, not_true_eq_false, not_false_eq_true, eq_self, true_or, or_true, z_m_lt, z_m_le, z_lt_m, z_le_m, z_eq_m, z_m_eq, z_rz0, z_rz1, z_m_add, z_of, r_0_0, r_0_1, r_0_3, r_0_4, r_0_5, r_0_6, r_0_7, r_0_8, r_0_9, r_0_10, r_1_0, r_1_1, r_1_2, r_1_3, r_1_4, r_1_5, r_1_6, r_1_7, r_1_8, r_2_0, r_2_1, r_2_2, r_2_3, r_2_4, r_2_5, r_2_6, r_2_7, r_11_0, r_11_1, r_11_2, r_11_3, r_11_4, r_11_5, r_11_6, r_19_0, r_21_0, r_23_0, r_25_0, r_27_0, r_61_0, r_117_0, r_117_1, r_117_2, r_117_3, r_117_4, r_117_5, r_117_6, r_117_7, r_126_0, r_126_1, r_126_2, r_126_3, r_126_4, r_132_0, r_132_1, r_135_0, r_135_1, r_135_2, r_135_3, r_135_4, r_135_5, r_142_0, r_144_0, r_144_1, r_144_2, r_145_0, r_145_1, r_145_2, r_145_3, r_145_4, r_145_5, r_145_6, r_154_0, r_154_1, r_155_0, ↓z_m1, l_0, l_1, l_2, l_3, l_4, l_5, l_6, l_7, l_8, l_9, l_10, l_11, l_12, l_13, l_14, l_15, l_16, l_17, l_18, l_19, l_20, l_21, l_22, l_23, l_24, l_25, l_26, l_27, l_28, l_29, l_30, l_31, l_32, l_33, l_34, l_35, l_36, l_37, l_38, l_39, l_40, l_41, l_42, l_43, l_44, l_45, l_46, l_47, l_48, l_49, l_50, l_51, l_52, l_53, l_54, l_55, l_56, l_57, l_59, l_60, l_61, l_62, l_63, l_64, l_65, l_80, l_86, l_87, l_88, l_89, l_90, l_91, l_92, l_93, l_94, l_95, l_97, l_99, l_100, l_107, l_119, l_122, l_124, l_129, l_140, l_141, l_142, l_143, l_144, l_145, l_147, l_150, l_159, l_160, l_161, l_162, l_205, l_253, l_255, l_256, l_269, l_305, l_380, l_399, l_400, l_420, l_430, l_516, l_600, l_720, l_820, l_905, l_921, l_937, l_953, l_970, l_999, l_1000, l_1790, l_4096, l_9999, l_1000000]
theorem c_isDigit {n c : Nat} {σ : q_Sto} (hc : c < 2147483648) : f_X8_isDigit n (nI c) σ = some (z_fb (zt_id c), σ) := by
  have e1 : z_fb true = nI 1 := rfl
  have e0 : z_fb false = nI 0 := rfl
  unfold f_X8_isDigit
  by_cases q1 : 48 ≤ c
  · by_cases q2 : c ≤ 57
    · have : zt_id c = true := by unfold zt_id; simp; omega
      rw [this, e1]
      simp (disch := omega) only [↓reduceIte, ↓p_ld, ↓p_st, ↓p_nm, ↓p_nS, ↓p_jn, ↓p_call, ↓p_callv, ↓p_dv, ↓p_rem, h_ldE, h_stE, h_nmE, h_nSE, h_callE, h_callvE, h_dvE, h_remE, if_true, if_false, z_upS, z_upO, z_upK, nI_add, z_mul, z_sub, z_div, Nat.add_zero, Nat.mul_zero, Nat.zero_add, Nat.sub_zero, Nat.zero_mul, z_ltT, z_ltF, z_leT, z_leF, z_eqT, z_eqF, z_inT, z_clT, not_true_eq_false, not_false_eq_true, eq_self, true_or, or_true, z_m_lt, z_m_le, z_lt_m, z_le_m, z_eq_m, z_m_eq, z_rz0, z_rz1, z_m_add, z_of, r_0_0, r_0_1, r_0_3, r_0_4, r_0_5, r_0_6, r_0_7, r_0_8, r_0_9, r_0_10, r_1_0, r_1_1, r_1_2, r_1_3, r_1_4, r_1_5, r_1_6, r_1_7, r_1_8, r_2_0, r_2_1, r_2_2, r_2_3, r_2_4, r_2_5, r_2_6, r_2_7, r_11_0, r_11_1, r_11_2, r_11_3, r_11_4, r_11_5, r_11_6, r_19_0, r_21_0, r_23_0, r_25_0, r_27_0, r_61_0, r_117_0, r_117_1, r_117_2, r_117_3, r_117_4, r_117_5, r_117_6, r_117_7, r_126_0, r_126_1, r_126_2, r_126_3, r_126_4, r_132_0, r_132_1, r_135_0, r_135_1, r_135_2, r_135_3, r_135_4, r_135_5, r_142_0, r_144_0, r_144_1, r_144_2, r_145_0, r_145_1, r_145_2, r_145_3, r_145_4, r_145_5, r_145_6, r_154_0, r_154_1, r_155_0, ↓z_m1, l_0, l_1, l_2, l_3, l_4, l_5, l_6, l_7, l_8, l_9, l_10, l_11, l_12, l_13, l_14, l_15, l_16, l_17, l_18, l_19, l_20, l_21, l_22, l_23, l_24, l_25, l_26, l_27, l_28, l_29, l_30, l_31, l_32, l_33, l_34, l_35, l_36, l_37, l_38, l_39, l_40, l_41, l_42, l_43, l_44, l_45, l_46, l_47, l_48, l_49, l_50, l_51, l_52, l_53, l_54, l_55, l_56, l_57, l_59, l_60, l_61, l_62, l_63, l_64, l_65, l_80, l_86, l_87, l_88, l_89, l_90, l_91, l_92, l_93, l_94, l_95, l_97, l_99, l_100, l_107, l_119, l_122, l_124, l_129, l_140, l_141, l_142, l_143, l_144, l_145, l_147, l_150, l_159, l_160, l_161, l_162, l_205, l_253, l_255, l_256, l_269, l_305, l_380, l_399, l_400, l_420, l_430, l_516, l_600, l_720, l_820, l_905, l_921, l_937, l_953, l_970, l_999, l_1000, l_1790, l_4096, l_9999, l_1000000]
    · have : zt_id c = false := by unfold zt_id; simp; omega
      rw [this, e0]
      simp (disch := omega) only [↓reduceIte, ↓p_ld, ↓p_st, ↓p_nm, ↓p_nS, ↓p_jn, ↓p_call, ↓p_callv, ↓p_dv, ↓p_rem, h_ldE, h_stE, h_nmE, h_nSE, h_callE, h_callvE, h_dvE, h_remE, if_true, if_false, z_upS, z_upO, z_upK, nI_add, z_mul, z_sub, z_div, Nat.add_zero, Nat.mul_zero, Nat.zero_add, Nat.sub_zero, Nat.zero_mul, z_ltT, z_ltF, z_leT, z_leF, z_eqT, z_eqF, z_inT, z_clT, not_true_eq_false, not_false_eq_true, eq_self, true_or, or_true, z_m_lt, z_m_le, z_lt_m, z_le_m, z_eq_m, z_m_eq, z_rz0, z_rz1, z_m_add, z_of, r_0_0, r_0_1, r_0_3, r_0_4, r_0_5, r_0_6, r_0_7, r_0_8, r_0_9, r_0_10, r_1_0, r_1_1, r_1_2, r_1_3, r_1_4, r_1_5, r_1_6, r_1_7, r_1_8, r_2_0, r_2_1, r_2_2, r_2_3, r_2_4, r_2_5, r_2_6, r_2_7, r_11_0, r_11_1, r_11_2, r_11_3, r_11_4, r_11_5, r_11_6, r_19_0, r_21_0, r_23_0, r_25_0, r_27_0, r_61_0, r_117_0, r_117_1, r_117_2, r_117_3, r_117_4, r_117_5, r_117_6, r_117_7, r_126_0, r_126_1, r_126_2, r_126_3, r_126_4, r_132_0, r_132_1, r_135_0, r_135_1, r_135_2, r_135_3, r_135_4, r_135_5, r_142_0, r_144_0, r_144_1, r_144_2, r_145_0, r_145_1, r_145_2, r_145_3, r_145_4, r_145_5, r_145_6, r_154_0, r_154_1, r_155_0, ↓z_m1, l_0, l_1, l_2, l_3, l_4, l_5, l_6, l_7, l_8, l_9, l_10, l_11, l_12, l_13, l_14, l_15, l_16, l_17, l_18, l_19, l_20, l_21, l_22, l_23, l_24, l_25, l_26, l_27, l_28, l_29, l_30, l_31, l_32, l_33, l_34, l_35, l_36, l_37, l_38, l_39, l_40, l_41, l_42, l_43, l_44, l_45, l_46, l_47, l_48, l_49, l_50, l_51, l_52, l_53, l_54, l_55, l_56, l_57, l_59, l_60, l_61, l_62, l_63, l_64, l_65, l_80, l_86, l_87, l_88, l_89, l_90, l_91, l_92, l_93, l_94, l_95, l_97, l_99, l_100, l_107, l_119, l_122, l_124, l_129, l_140, l_141, l_142, l_143, l_144, l_145, l_147, l_150, l_159, l_160, l_161, l_162, l_205, l_253, l_255, l_256, l_269, l_305, l_380, l_399, l_400, l_420, l_430, l_516, l_600, l_720, l_820, l_905, l_921, l_937, l_953, l_970, l_999, l_1000, l_1790, l_4096, l_9999, l_1000000]
  · have : zt_id c = false := by unfold zt_id; simp; omega
    rw [this, e0]
    simp (disch := omega) only [↓reduceIte, ↓p_ld, ↓p_st, ↓p_nm, ↓p_nS, ↓p_jn, ↓p_call, ↓p_callv, ↓p_dv, ↓p_rem, h_ldE, h_stE, h_nmE, h_nSE, h_callE, h_callvE, h_dvE, h_remE, if_true, if_false, z_upS, z_upO, z_upK, nI_add, z_mul, z_sub, z_div, Nat.add_zero, Nat.mul_zero, Nat.zero_add, Nat.sub_zero, Nat.zero_mul, z_ltT, z_ltF, z_leT, z_leF, z_eqT, z_eqF, z_inT, z_clT, not_true_eq_false, not_false_eq_true, eq_self, true_or, or_true, z_m_lt, z_m_le, z_lt_m, z_le_m, z_eq_m, z_m_eq, z_rz0, z_rz1, z_m_add, z_of, r_0_0, r_0_1, r_0_3, r_0_4, r_0_5, r_0_6, r_0_7, r_0_8, r_0_9, r_0_10, r_1_0, r_1_1, r_1_2, r_1_3, r_1_4, r_1_5, r_1_6, r_1_7, r_1_8, r_2_0, r_2_1, r_2_2, r_2_3, r_2_4, r_2_5, r_2_6, r_2_7, r_11_0, r_11_1, r_11_2, r_11_3, r_11_4, r_11_5, r_11_6, r_19_0, r_21_0, r_23_0, r_25_0, r_27_0, r_61_0, r_117_0, r_117_1, r_117_2, r_117_3, r_117_4, r_117_5, r_117_6, r_117_7, r_126_0, r_126_1, r_126_2, r_126_3, r_126_4, r_132_0, r_132_1, r_135_0, r_135_1, r_135_2, r_135_3, r_135_4, r_135_5, r_142_0, r_144_0, r_144_1, r_144_2, r_145_0, r_145_1, r_145_2, r_145_3, r_145_4, r_145_5, r_145_6, r_154_0, r_154_1, r_155_0, ↓z_m1, l_0, l_1, l_2, l_3, l_4, l_5, l_6, l_7, l_8, l_9, l_10, l_11, l_12, l_13, l_14, l_15, l_16, l_17, l_18, l_19, l_20, l_21, l_22, l_23, l_24, l_25, l_26, l_27, l_28, l_29, l_30, l_31, l_32, l_33, l_34, l_35, l_36, l_37, l_38, l_39, l_40, l_41, l_42, l_43, l_44, l_45, l_46, l_47, l_48, l_49, l_50, l_51, l_52, l_53, l_54, l_55, l_56, l_57, l_59, l_60, l_61, l_62, l_63, l_64, l_65, l_80, l_86, l_87, l_88, l_89, l_90, l_91, l_92, l_93, l_94, l_95, l_97, l_99, l_100, l_107, l_119, l_122, l_124, l_129, l_140, l_141, l_142, l_143, l_144, l_145, l_147, l_150, l_159, l_160, l_161, l_162, l_205, l_253, l_255, l_256, l_269, l_305, l_380, l_399, l_400, l_420, l_430, l_516, l_600, l_720, l_820, l_905, l_921, l_937, l_953, l_970, l_999, l_1000, l_1790, l_4096, l_9999, l_1000000]
/-- over the blanks -/
theorem c_next_L0 {n : Nat} {T : zt_T} {K : q_Sto → Option (Int32 × q_Sto)} : ∀ j i (σ : q_Sto) f, T.2 = i + j → j < f → zt_B (σ 143) T → σ 142 1 = nI T.2 → σ 142 2 = nI i →
    f_X8_next_L0 n 142 K f σ = K (q_up σ 142 2 (nI (zt_sc zt_bl T.1 j i))) := by
  intro j
  induction j with
  | zero =>
    intro i σ f h1 hf hB hl ha
    obtain ⟨f, rfl⟩ : ∃ f', f = f' + 1 := ⟨f - 1, by omega⟩
    have hL := hB.1
    have e : zt_sc zt_bl T.1 0 i = i := rfl
    have eu : q_up σ 142 2 (nI i) = σ := z_upSelf ha
    rw [e, eu, f_X8_next_L0]
    simp (disch := omega) only [hl, ha, ↓reduceIte, ↓p_ld, ↓p_st, ↓p_nm, ↓p_nS, ↓p_jn, ↓p_call, ↓p_callv, ↓p_dv, ↓p_rem, h_ldE, h_stE, h_nmE, h_nSE, h_callE, h_callvE, h_dvE, h_remE, if_true, if_false, z_upS, z_upO, z_upK, nI_add, z_mul, z_sub, z_div, Nat.add_zero, Nat.mul_zero, Nat.zero_add, Nat.sub_zero, Nat.zero_mul, z_ltT, z_ltF, z_leT, z_leF, z_eqT, z_eqF, z_inT, z_clT, not_true_eq_false, not_false_eq_true, eq_self, true_or, or_true, z_m_lt, z_m_le, z_lt_m, z_le_m, z_eq_m, z_m_eq, z_rz0, z_rz1, z_m_add, z_of, r_0_0, r_0_1, r_0_3, r_0_4, r_0_5, r_0_6, r_0_7, r_0_8, r_0_9, r_0_10, r_1_0, r_1_1, r_1_2, r_1_3, r_1_4, r_1_5, r_1_6, r_1_7, r_1_8, r_2_0, r_2_1, r_2_2, r_2_3, r_2_4, r_2_5, r_2_6, r_2_7, r_11_0, r_11_1, r_11_2, r_11_3, r_11_4, r_11_5, r_11_6, r_19_0, r_21_0, r_23_0, r_25_0, r_27_0, r_61_0, r_117_0, r_117_1, r_117_2, r_117_3, r_117_4, r_117_5, r_117_6, r_117_7, r_126_0, r_126_1, r_126_2, r_126_3, r_126_4, r_132_0, r_132_1, r_135_0, r_135_1, r_135_2, r_135_3, r_135_4, r_135_5, r_142_0, r_144_0, r_144_1, r_144_2, r_145_0, r_145_1, r_145_2, r_145_3, r_145_4, r_145_5, r_145_6, r_154_0, r_154_1, r_155_0, ↓z_m1, l_0, l_1, l_2, l_3, l_4, l_5, l_6, l_7, l_8, l_9, l_10, l_11, l_12, l_13, l_14, l_15, l_16, l_17, l_18, l_19, l_20, l_21, l_22, l_23, l_24, l_25, l_26, l_27, l_28, l_29, l_30, l_31, l_32, l_33, l_34, l_35, l_36, l_37, l_38, l_39, l_40, l_41, l_42, l_43, l_44, l_45, l_46, l_47, l_48, l_49, l_50, l_51, l_52, l_53, l_54, l_55, l_56, l_57, l_59, l_60, l_61, l_62, l_63, l_64, l_65, l_80, l_86, l_87, l_88, l_89, l_90, l_91, l_92, l_93, l_94, l_95, l_97, l_99, l_100, l_107, l_119, l_122, l_124, l_129, l_140, l_141, l_142, l_143, l_144, l_145, l_147, l_150, l_159, l_160, l_161, l_162, l_205, l_253, l_255, l_256, l_269, l_305, l_380, l_399, l_400, l_420, l_430, l_516, l_600, l_720, l_820, l_905, l_921, l_937, l_953, l_970, l_999, l_1000, l_1790, l_4096, l_9999, l_1000000]
  | succ j ih =>
    intro i σ f h1 hf hB hl ha
    obtain ⟨f, rfl⟩ : ∃ f', f = f' + 1 := ⟨f - 1, by omega⟩
    have hL := hB.1
    have hb := c_byteAt (n := n) (i := i) hB hl (by omega)
    have hb255 := (hB.2 i (by omega)).2
    have e : zt_sc zt_bl T.1 (j+1) i = if zt_bl (T.1 i) = true then zt_sc zt_bl T.1 j (i+1) else i := rfl
    have ih := ih (i+1) (q_up σ 142 2 (nI (i+1))) f (by omega) (by omega) (by rw [z_upO (by omega)]; exact hB) (by rw [z_upK (by omega)]; exact hl) z_upS
    rw [z_upUp] at ih
    have eu : q_up σ 142 2 (nI i) = σ := z_upSelf ha
    generalize T.1 i = c at *
    by_cases q1 : c = 32
    · have : zt_bl c = true := by unfold zt_bl; simp; omega
      rw [e, if_pos this, ← ih, f_X8_next_L0]
      simp (disch := omega) only [hl, ha, hb, ↓reduceIte, ↓p_ld, ↓p_st, ↓p_nm, ↓p_nS, ↓p_jn, ↓p_call, ↓p_callv, ↓p_dv, ↓p_rem, h_ldE, h_stE, h_nmE, h_nSE, h_callE, h_callvE, h_dvE, h_remE, if_true, if_false, z_upS, z_upO, z_upK, nI_add, z_mul, z_sub, z_div, Nat.add_zero, Nat.mul_zero, Nat.zero_add, Nat.sub_zero, Nat.zero_mul, z_ltT, z_ltF, z_leT, z_leF, z_eqT, z_eqF, z_inT, z_clT, not_true_eq_false, not_false_eq_true, eq_self, true_or, or_true, z_m_lt, z_m_le, z_lt_m, z_le_m, z_eq_m, z_m_eq, z_rz0, z_rz1, z_m_add, z_of, r_0_0, r_0_1, r_0_3, r_0_4, r_0_5, r_0_6, r_0_7, r_0_8, r_0_9, r_0_10, r_1_0, r_1_1, r_1_2, r_1_3, r_1_4, r_1_5, r_1_6, r_1_7, r_1_8, r_2_0, r_2_1, r_2_2, r_2_3, r_2_4, r_2_5, r_2_6, r_2_7, r_11_0, r_11_1, r_11_2, r_11_3, r_11_4, r_11_5, r_11_6, r_19_0, r_21_0, r_23_0, r_25_0, r_27_0, r_61_0, r_117_0, r_117_1, r_117_2, r_117_3, r_117_4, r_117_5, r_117_6, r_117_7, r_126_0, r_126_1, r_126_2, r_126_3, r_126_4, r_132_0, r_132_1, r_135_0, r_135_1, r_135_2, r_135_3, r_135_4, r_135_5, r_142_0, r_144_0, r_144_1, r_144_2, r_145_0, r_145_1, r_145_2, r_145_3, r_145_4, r_145_5, r_145_6, r_154_0, r_154_1, r_155_0, ↓z_m1, l_0, l_1, l_2, l_3, l_4, l_5, l_6, l_7, l_8, l_9, l_10, l_11, l_12, l_13, l_14, l_15, l_16, l_17, l_18, l_19, l_20, l_21, l_22, l_23, l_24, l_25, l_26, l_27, l_28, l_29, l_30, l_31, l_32, l_33, l_34, l_35, l_36, l_37, l_38, l_39, l_40, l_41, l_42, l_43, l_44, l_45, l_46, l_47, l_48, l_49, l_50, l_51, l_52, l_53, l_54, l_55, l_56, l_57, l_59, l_60, l_61, l_62, l_63, l_64, l_65, l_80, l_86, l_87, l_88, l_89, l_90, l_91, l_92, l_93, l_94, l_95, l_97, l_99, l_100, l_107, l_119, l_122, l_124, l_129, l_140, l_141, l_142, l_143, l_144, l_145, l_147, l_150, l_159, l_160, l_161, l_162, l_205, l_253, l_255, l_256, l_269, l_305, l_380, l_399, l_400, l_420, l_430, l_516, l_600, l_720, l_820, l_905, l_921, l_937, l_953, l_970, l_999, l_1000, l_1790, l_4096, l_9999, l_1000000]
    · by_cases q2 : c = 10
      · have : zt_bl c = true := by unfold zt_bl; simp; omega
        rw [e, if_pos this, ← ih, f_X8_next_L0]
        simp (disch := omega) only [hl, ha, hb, ↓reduceIte, ↓p_ld, ↓p_st, ↓p_nm, ↓p_nS, ↓p_jn, ↓p_call, ↓p_callv, ↓p_dv, ↓p_rem, h_ldE, h_stE, h_nmE, h_nSE, h_callE, h_callvE, h_dvE, h_remE, if_true, if_false, z_upS, z_upO, z_upK, nI_add, z_mul, z_sub, z_div, Nat.add_zero, Nat.mul_zero, Nat.zero_add, Nat.sub_zero, Nat.zero_mul, z_ltT, z_ltF, z_leT, z_leF, z_eqT, z_eqF, z_inT, z_clT, not_true_eq_false, not_false_eq_true, eq_self, true_or, or_true, z_m_lt, z_m_le, z_lt_m, z_le_m, z_eq_m, z_m_eq, z_rz0, z_rz1, z_m_add, z_of, r_0_0, r_0_1, r_0_3, r_0_4, r_0_5, r_0_6, r_0_7, r_0_8, r_0_9, r_0_10, r_1_0, r_1_1, r_1_2, r_1_3, r_1_4, r_1_5, r_1_6, r_1_7, r_1_8, r_2_0, r_2_1, r_2_2, r_2_3, r_2_4, r_2_5, r_2_6, r_2_7, r_11_0, r_11_1, r_11_2, r_11_3, r_11_4, r_11_5, r_11_6, r_19_0, r_21_0, r_23_0, r_25_0, r_27_0, r_61_0, r_117_0, r_117_1, r_117_2, r_117_3, r_117_4, r_117_5, r_117_6, r_117_7, r_126_0, r_126_1, r_126_2, r_126_3, r_126_4, r_132_0, r_132_1, r_135_0, r_135_1, r_135_2, r_135_3, r_135_4, r_135_5, r_142_0, r_144_0, r_144_1, r_144_2, r_145_0, r_145_1, r_145_2, r_145_3, r_145_4, r_145_5, r_145_6, r_154_0, r_154_1, r_155_0, ↓z_m1, l_0, l_1, l_2, l_3, l_4, l_5, l_6, l_7, l_8, l_9, l_10, l_11, l_12, l_13, l_14, l_15, l_16, l_17, l_18, l_19, l_20, l_21, l_22, l_23, l_24, l_25, l_26, l_27, l_28, l_29, l_30, l_31, l_32, l_33, l_34, l_35, l_36, l_37, l_38, l_39, l_40, l_41, l_42, l_43, l_44, l_45, l_46, l_47, l_48, l_49, l_50, l_51, l_52, l_53, l_54, l_55, l_56, l_57, l_59, l_60, l_61, l_62, l_63, l_64, l_65, l_80, l_86, l_87, l_88, l_89, l_90, l_91, l_92, l_93, l_94, l_95, l_97, l_99, l_100, l_107, l_119, l_122, l_124, l_129, l_140, l_141, l_142, l_143, l_144, l_145, l_147, l_150, l_159, l_160, l_161, l_162, l_205, l_253, l_255, l_256, l_269, l_305, l_380, l_399, l_400, l_420, l_430, l_516, l_600, l_720, l_820, l_905, l_921, l_937, l_953, l_970, l_999, l_1000, l_1790, l_4096, l_9999, l_1000000]
      · have : ¬ zt_bl c = true := by unfold zt_bl; simp; omega
        rw [e, if_neg this, eu, f_X8_next_L0]
        simp (disch := omega) only [hl, ha, hb, ↓reduceIte, ↓p_ld, ↓p_st, ↓p_nm, ↓p_nS, ↓p_jn, ↓p_call, ↓p_callv, ↓p_dv, ↓p_rem, h_ldE, h_stE, h_nmE, h_nSE, h_callE, h_callvE, h_dvE, h_remE, if_true, if_false, z_upS, z_upO, z_upK, nI_add, z_mul, z_sub, z_div, Nat.add_zero, Nat.mul_zero, Nat.zero_add, Nat.sub_zero, Nat.zero_mul, z_ltT, z_ltF, z_leT, z_leF, z_eqT, z_eqF, z_inT, z_clT, not_true_eq_false, not_false_eq_true, eq_self, true_or, or_true, z_m_lt, z_m_le, z_lt_m, z_le_m, z_eq_m, z_m_eq, z_rz0, z_rz1, z_m_add, z_of, r_0_0, r_0_1, r_0_3, r_0_4, r_0_5, r_0_6, r_0_7, r_0_8, r_0_9, r_0_10, r_1_0, r_1_1, r_1_2, r_1_3, r_1_4, r_1_5, r_1_6, r_1_7, r_1_8, r_2_0, r_2_1, r_2_2, r_2_3, r_2_4, r_2_5, r_2_6, r_2_7, r_11_0, r_11_1, r_11_2, r_11_3, r_11_4, r_11_5, r_11_6, r_19_0, r_21_0, r_23_0, r_25_0, r_27_0, r_61_0, r_117_0, r_117_1, r_117_2, r_117_3, r_117_4, r_117_5, r_117_6, r_117_7, r_126_0, r_126_1, r_126_2, r_126_3, r_126_4, r_132_0, r_132_1, r_135_0, r_135_1, r_135_2, r_135_3, r_135_4, r_135_5, r_142_0, r_144_0, r_144_1, r_144_2, r_145_0, r_145_1, r_145_2, r_145_3, r_145_4, r_145_5, r_145_6, r_154_0, r_154_1, r_155_0, ↓z_m1, l_0, l_1, l_2, l_3, l_4, l_5, l_6, l_7, l_8, l_9, l_10, l_11, l_12, l_13, l_14, l_15, l_16, l_17, l_18, l_19, l_20, l_21, l_22, l_23, l_24, l_25, l_26, l_27, l_28, l_29, l_30, l_31, l_32, l_33, l_34, l_35, l_36, l_37, l_38, l_39, l_40, l_41, l_42, l_43, l_44, l_45, l_46, l_47, l_48, l_49, l_50, l_51, l_52, l_53, l_54, l_55, l_56, l_57, l_59, l_60, l_61, l_62, l_63, l_64, l_65, l_80, l_86, l_87, l_88, l_89, l_90, l_91, l_92, l_93, l_94, l_95, l_97, l_99, l_100, l_107, l_119, l_122, l_124, l_129, l_140, l_141, l_142, l_143, l_144, l_145, l_147, l_150, l_159, l_160, l_161, l_162, l_205, l_253, l_255, l_256, l_269, l_305, l_380, l_399, l_400, l_420, l_430, l_516, l_600, l_720, l_820, l_905, l_921, l_937, l_953, l_970, l_999, l_1000, l_1790, l_4096, l_9999, l_1000000]
theorem c_next_L1 {n : Nat} {T : zt_T} : ∀ j i (σ : q_Sto) f, T.2 = i + j → j < f → zt_B (σ 143) T → σ 142 1 = nI T.2 → σ 142 2 = nI i →
    f_X8_next_L104 n 142 f σ = some (nI 0, q_up σ 142 2 (nI (zt_sc zt_il T.1 j i))) := by
  intro j
  induction j with
  | zero =>
    intro i σ f h1 hf hB hl ha
    obtain ⟨f, rfl⟩ : ∃ f', f = f' + 1 := ⟨f - 1, by omega⟩
    have hL := hB.1
    have e : zt_sc zt_il T.1 0 i = i := rfl
    have eu : q_up σ 142 2 (nI i) = σ := z_upSelf ha
    rw [e, eu, f_X8_next_L104]
    simp (disch := omega) only [hl, ha, ↓reduceIte, ↓p_ld, ↓p_st, ↓p_nm, ↓p_nS, ↓p_jn, ↓p_call, ↓p_callv, ↓p_dv, ↓p_rem, h_ldE, h_stE, h_nmE, h_nSE, h_callE, h_callvE, h_dvE, h_remE, if_true, if_false, z_upS, z_upO, z_upK, nI_add, z_mul, z_sub, z_div, Nat.add_zero, Nat.mul_zero, Nat.zero_add, Nat.sub_zero, Nat.zero_mul, z_ltT, z_ltF, z_leT, z_leF, z_eqT, z_eqF, z_inT, z_clT, not_true_eq_false, not_false_eq_true, eq_self, true_or, or_true, z_m_lt, z_m_le, z_lt_m, z_le_m, z_eq_m, z_m_eq, z_rz0, z_rz1, z_m_add, z_of, r_0_0, r_0_1, r_0_3, r_0_4, r_0_5, r_0_6, r_0_7, r_0_8, r_0_9, r_0_10, r_1_0, r_1_1, r_1_2, r_1_3, r_1_4, r_1_5, r_1_6, r_1_7, r_1_8, r_2_0, r_2_1, r_2_2, r_2_3, r_2_4, r_2_5, r_2_6, r_2_7, r_11_0, r_11_1, r_11_2, r_11_3, r_11_4, r_11_5, r_11_6, r_19_0, r_21_0, r_23_0, r_25_0, r_27_0, r_61_0, r_117_0, r_117_1, r_117_2, r_117_3, r_117_4, r_117_5, r_117_6, r_117_7, r_126_0, r_126_1, r_126_2, r_126_3, r_126_4, r_132_0, r_132_1, r_135_0, r_135_1, r_135_2, r_135_3, r_135_4, r_135_5, r_142_0, r_144_0, r_144_1, r_144_2, r_145_0, r_145_1, r_145_2, r_145_3, r_145_4, r_145_5, r_145_6, r_154_0, r_154_1, r_155_0, ↓z_m1, l_0, l_1, l_2, l_3, l_4, l_5, l_6, l_7, l_8, l_9, l_10, l_11, l_12, l_13, l_14, l_15, l_16, l_17, l_18, l_19, l_20, l_21, l_22, l_23, l_24, l_25, l_26, l_27, l_28, l_29, l_30, l_31, l_32, l_33, l_34, l_35, l_36, l_37, l_38, l_39, l_40, l_41, l_42, l_43, l_44, l_45, l_46, l_47, l_48, l_49, l_50, l_51, l_52, l_53, l_54, l_55, l_56, l_57, l_59, l_60, l_61, l_62, l_63, l_64, l_65, l_80, l_86, l_87, l_88, l_89, l_90, l_91, l_92, l_93, l_94, l_95, l_97, l_99, l_100, l_107, l_119, l_122, l_124, l_129, l_140, l_141, l_142, l_143, l_144, l_145, l_147, l_150, l_159, l_160, l_161, l_162, l_205, l_253, l_255, l_256, l_269, l_305, l_380, l_399, l_400, l_420, l_430, l_516, l_600, l_720, l_820, l_905, l_921, l_937, l_953, l_970, l_999, l_1000, l_1790, l_4096, l_9999, l_1000000]
  | succ j ih =>
    intro i σ f h1 hf hB hl ha
    obtain ⟨f, rfl⟩ : ∃ f', f = f' + 1 := ⟨f - 1, by omega⟩
    have hL := hB.1
    have hb := c_byteAt (n := n) (i := i) hB hl (by omega)
    have hb255 := (hB.2 i (by omega)).2
    have e : zt_sc zt_il T.1 (j+1) i = if zt_il (T.1 i) = true then zt_sc zt_il T.1 j (i+1) else i := rfl
    have ih := ih (i+1) (q_up σ 142 2 (nI (i+1))) f (by omega) (by omega) (by rw [z_upO (by omega)]; exact hB) (by rw [z_upK (by omega)]; exact hl) z_upS
    rw [z_upUp] at ih
    have eu : q_up σ 142 2 (nI i) = σ := z_upSelf ha
    have eL := c_isLetter (n := n) (c := T.1 i) (σ := σ) (by omega)
    generalize T.1 i = c at *
    have e1 : z_fb true = nI 1 := rfl
    have e0 : z_fb false = nI 0 := rfl
    cases q : zt_il c with
    | true =>
      rw [q, e1] at eL
      rw [e, if_pos q, ← ih, f_X8_next_L104]
      simp (disch := omega) only [hl, ha, hb, eL, ↓reduceIte, ↓p_ld, ↓p_st, ↓p_nm, ↓p_nS, ↓p_jn, ↓p_call, ↓p_callv, ↓p_dv, ↓p_rem, h_ldE, h_stE, h_nmE, h_nSE, h_callE, h_callvE, h_dvE, h_remE, if_true, if_false, z_upS, z_upO, z_upK, nI_add, z_mul, z_sub, z_div, Nat.add_zero, Nat.mul_zero, Nat.zero_add, Nat.sub_zero, Nat.zero_mul, z_ltT, z_ltF, z_leT, z_leF, z_eqT, z_eqF, z_inT, z_clT, not_true_eq_false, not_false_eq_true, eq_self, true_or, or_true, z_m_lt, z_m_le, z_lt_m, z_le_m, z_eq_m, z_m_eq, z_rz0, z_rz1, z_m_add, z_of, r_0_0, r_0_1, r_0_3, r_0_4, r_0_5, r_0_6, r_0_7, r_0_8, r_0_9, r_0_10, r_1_0, r_1_1, r_1_2, r_1_3, r_1_4, r_1_5, r_1_6, r_1_7, r_1_8, r_2_0, r_2_1, r_2_2, r_2_3, r_2_4, r_2_5, r_2_6, r_2_7, r_11_0, r_11_1, r_11_2, r_11_3, r_11_4, r_11_5, r_11_6, r_19_0, r_21_0, r_23_0, r_25_0, r_27_0, r_61_0, r_117_0, r_117_1, r_117_2, r_117_3, r_117_4, r_117_5, r_117_6, r_117_7, r_126_0, r_126_1, r_126_2, r_126_3, r_126_4, r_132_0, r_132_1, r_135_0, r_135_1, r_135_2, r_135_3, r_135_4, r_135_5, r_142_0, r_144_0, r_144_1, r_144_2, r_145_0, r_145_1, r_145_2, r_145_3, r_145_4, r_145_5, r_145_6, r_154_0, r_154_1, r_155_0, ↓z_m1, l_0, l_1, l_2, l_3, l_4, l_5, l_6, l_7, l_8, l_9, l_10, l_11, l_12, l_13, l_14, l_15, l_16, l_17, l_18, l_19, l_20, l_21, l_22, l_23, l_24, l_25, l_26, l_27, l_28, l_29, l_30, l_31, l_32, l_33, l_34, l_35, l_36, l_37, l_38, l_39, l_40, l_41, l_42, l_43, l_44, l_45, l_46, l_47, l_48, l_49, l_50, l_51, l_52, l_53, l_54, l_55, l_56, l_57, l_59, l_60, l_61, l_62, l_63, l_64, l_65, l_80, l_86, l_87, l_88, l_89, l_90, l_91, l_92, l_93, l_94, l_95, l_97, l_99, l_100, l_107, l_119, l_122, l_124, l_129, l_140, l_141, l_142, l_143, l_144, l_145, l_147, l_150, l_159, l_160, l_161, l_162, l_205, l_253, l_255, l_256, l_269, l_305, l_380, l_399, l_400, l_420, l_430, l_516, l_600, l_720, l_820, l_905, l_921, l_937, l_953, l_970, l_999, l_1000, l_1790, l_4096, l_9999, l_1000000]
    | false =>
      rw [q, e0] at eL
      rw [e, if_neg (by rw [q]; decide), eu, f_X8_next_L104]
      simp (disch := omega) only [hl, ha, hb, eL, ↓reduceIte, ↓p_ld, ↓p_st, ↓p_nm, ↓p_nS, ↓p_jn, ↓p_call, ↓p_callv, ↓p_dv, ↓p_rem, h_ldE, h_stE, h_nmE, h_nSE, h_callE, h_callvE, h_dvE, h_remE, if_true, if_false, z_upS, z_upO, z_upK, nI_add, z_mul, z_sub, z_div, Nat.add_zero, Nat.mul_zero, Nat.zero_add, Nat.sub_zero, Nat.zero_mul, z_ltT, z_ltF, z_leT, z_leF, z_eqT, z_eqF, z_inT, z_clT, not_true_eq_false, not_false_eq_true, eq_self, true_or, or_true, z_m_lt, z_m_le, z_lt_m, z_le_m, z_eq_m, z_m_eq, z_rz0, z_rz1, z_m_add, z_of, r_0_0, r_0_1, r_0_3, r_0_4, r_0_5, r_0_6, r_0_7, r_0_8, r_0_9, r_0_10, r_1_0, r_1_1, r_1_2, r_1_3, r_1_4, r_1_5, r_1_6, r_1_7, r_1_8, r_2_0, r_2_1, r_2_2, r_2_3, r_2_4, r_2_5, r_2_6, r_2_7, r_11_0, r_11_1, r_11_2, r_11_3, r_11_4, r_11_5, r_11_6, r_19_0, r_21_0, r_23_0, r_25_0, r_27_0, r_61_0, r_117_0, r_117_1, r_117_2, r_117_3, r_117_4, r_117_5, r_117_6, r_117_7, r_126_0, r_126_1, r_126_2, r_126_3, r_126_4, r_132_0, r_132_1, r_135_0, r_135_1, r_135_2, r_135_3, r_135_4, r_135_5, r_142_0, r_144_0, r_144_1, r_144_2, r_145_0, r_145_1, r_145_2, r_145_3, r_145_4, r_145_5, r_145_6, r_154_0, r_154_1, r_155_0, ↓z_m1, l_0, l_1, l_2, l_3, l_4, l_5, l_6, l_7, l_8, l_9, l_10, l_11, l_12, l_13, l_14, l_15, l_16, l_17, l_18, l_19, l_20, l_21, l_22, l_23, l_24, l_25, l_26, l_27, l_28, l_29, l_30, l_31, l_32, l_33, l_34, l_35, l_36, l_37, l_38, l_39, l_40, l_41, l_42, l_43, l_44, l_45, l_46, l_47, l_48, l_49, l_50, l_51, l_52, l_53, l_54, l_55, l_56, l_57, l_59, l_60, l_61, l_62, l_63, l_64, l_65, l_80, l_86, l_87, l_88, l_89, l_90, l_91, l_92, l_93, l_94, l_95, l_97, l_99, l_100, l_107, l_119, l_122, l_124, l_129, l_140, l_141, l_142, l_143, l_144, l_145, l_147, l_150, l_159, l_160, l_161, l_162, l_205, l_253, l_255, l_256, l_269, l_305, l_380, l_399, l_400, l_420, l_430, l_516, l_600, l_720, l_820, l_905, l_921, l_937, l_953, l_970, l_999, l_1000, l_1790, l_4096, l_9999, l_1000000]
/-- the class's number, which wraps -/
def zt_vi (B : Nat → Nat) (q : Nat) : Nat → Int32
  | 0 => nI 0
  | n + 1 => zt_vi B q n * nI 10 + nI (B (q+n)) - nI 48
theorem c_next_L2 {n q : Nat} {T : zt_T} : ∀ j i (σ : q_Sto) f, T.2 = q + i + j → j < f → zt_B (σ 143) T → σ 142 1 = nI T.2 → σ 142 2 = nI (q+i) → σ 142 5 = zt_vi T.1 q i →
    ∃ σ', (∀ o, o ≠ 142 → σ' o = σ o) ∧ (∀ a, a ≠ 2 → a ≠ 5 → σ' 142 a = σ 142 a) ∧ σ' 142 2 = nI (zt_sc zt_id T.1 j (q+i)) ∧ σ' 142 5 = zt_vi T.1 q (zt_sc zt_id T.1 j (q+i) - q) ∧ f_X8_next_L162 n 142 f σ = some (nI 0, σ') := by
  intro j
  induction j with
  | zero =>
    intro i σ f h1 hf hB hl ha hv
    obtain ⟨f, rfl⟩ : ∃ f', f = f' + 1 := ⟨f - 1, by omega⟩
    have hL := hB.1
    have e : zt_sc zt_id T.1 0 (q+i) = q+i := rfl
    refine ⟨σ, fun _ _ => rfl, fun _ _ _ => rfl, ha, by rw [e, show q + i - q = i by omega]; exact hv, ?_⟩
    rw [f_X8_next_L162]
    simp (disch := omega) only [hl, ha, ↓reduceIte, ↓p_ld, ↓p_st, ↓p_nm, ↓p_nS, ↓p_jn, ↓p_call, ↓p_callv, ↓p_dv, ↓p_rem, h_ldE, h_stE, h_nmE, h_nSE, h_callE, h_callvE, h_dvE, h_remE, if_true, if_false, z_upS, z_upO, z_upK, nI_add, z_mul, z_sub, z_div, Nat.add_zero, Nat.mul_zero, Nat.zero_add, Nat.sub_zero, Nat.zero_mul, z_ltT, z_ltF, z_leT, z_leF, z_eqT, z_eqF, z_inT, z_clT, not_true_eq_false, not_false_eq_true, eq_self, true_or, or_true, z_m_lt, z_m_le, z_lt_m, z_le_m, z_eq_m, z_m_eq, z_rz0, z_rz1, z_m_add, z_of, r_0_0, r_0_1, r_0_3, r_0_4, r_0_5, r_0_6, r_0_7, r_0_8, r_0_9, r_0_10, r_1_0, r_1_1, r_1_2, r_1_3, r_1_4, r_1_5, r_1_6, r_1_7, r_1_8, r_2_0, r_2_1, r_2_2, r_2_3, r_2_4, r_2_5, r_2_6, r_2_7, r_11_0, r_11_1, r_11_2, r_11_3, r_11_4, r_11_5, r_11_6, r_19_0, r_21_0, r_23_0, r_25_0, r_27_0, r_61_0, r_117_0, r_117_1, r_117_2, r_117_3, r_117_4, r_117_5, r_117_6, r_117_7, r_126_0, r_126_1, r_126_2, r_126_3, r_126_4, r_132_0, r_132_1, r_135_0, r_135_1, r_135_2, r_135_3, r_135_4, r_135_5, r_142_0, r_144_0, r_144_1, r_144_2, r_145_0, r_145_1, r_145_2, r_145_3, r_145_4, r_145_5, r_145_6, r_154_0, r_154_1, r_155_0, ↓z_m1, l_0, l_1, l_2, l_3, l_4, l_5, l_6, l_7, l_8, l_9, l_10, l_11, l_12, l_13, l_14, l_15, l_16, l_17, l_18, l_19, l_20, l_21, l_22, l_23, l_24, l_25, l_26, l_27, l_28, l_29, l_30, l_31, l_32, l_33, l_34, l_35, l_36, l_37, l_38, l_39, l_40, l_41, l_42, l_43, l_44, l_45, l_46, l_47, l_48, l_49, l_50, l_51, l_52, l_53, l_54, l_55, l_56, l_57, l_59, l_60, l_61, l_62, l_63, l_64, l_65, l_80, l_86, l_87, l_88, l_89, l_90, l_91, l_92, l_93, l_94, l_95, l_97, l_99, l_100, l_107, l_119, l_122, l_124, l_129, l_140, l_141, l_142, l_143, l_144, l_145, l_147, l_150, l_159, l_160, l_161, l_162, l_205, l_253, l_255, l_256, l_269, l_305, l_380, l_399, l_400, l_420, l_430, l_516, l_600, l_720, l_820, l_905, l_921, l_937, l_953, l_970, l_999, l_1000, l_1790, l_4096, l_9999, l_1000000]
  | succ j ih =>
    intro i σ f h1 hf hB hl ha hv
    obtain ⟨f, rfl⟩ : ∃ f', f = f' + 1 := ⟨f - 1, by omega⟩
    have hL := hB.1
    have hb := c_byteAt (n := n) (i := q+i) hB hl (by omega)
    have hb255 := (hB.2 (q+i) (by omega)).2
    have e : zt_sc zt_id T.1 (j+1) (q+i) = if zt_id (T.1 (q+i)) = true then zt_sc zt_id T.1 j (q+i+1) else q+i := rfl
    have ev : zt_vi T.1 q (i+1) = zt_vi T.1 q i * nI 10 + nI (T.1 (q+i)) - nI 48 := rfl
    have eL := c_isDigit (n := n) (c := T.1 (q+i)) (σ := σ) (by omega)
    have e1 : z_fb true = nI 1 := rfl
    have e0 : z_fb false = nI 0 := rfl
    by_cases qd : zt_id (T.1 (q+i)) = true
    · obtain ⟨σ', k1, k2, k3, k4, k5⟩ := ih (i+1) (q_up (q_up σ 142 5 (zt_vi T.1 q (i+1))) 142 2 (nI (q+i+1))) f (by omega) (by omega) (by rw [z_upO (by omega), z_upO (by omega)]; exact hB) (by rw [z_upK (by omega), z_upK (by omega)]; exact hl) z_upS (by rw [z_upK (by omega)]; exact z_upS)
      refine ⟨σ', fun o ho => by rw [k1 o ho, z_upO ho, z_upO ho], fun a a1 a2 => by rw [k2 a a1 a2, z_upK a1, z_upK a2], by rw [e, if_pos qd]; exact k3, by rw [e, if_pos qd]; exact k4, ?_⟩
      rw [qd, e1] at eL
      rw [← k5, f_X8_next_L162, ev]
      generalize T.1 (q+i) = c at *
      generalize zt_vi T.1 q i = v at *
      simp (disch := omega) only [hl, ha, hb, eL, hv, ↓reduceIte, ↓p_ld, ↓p_st, ↓p_nm, ↓p_nS, ↓p_jn, ↓p_call, ↓p_callv, ↓p_dv, ↓p_rem, h_ldE, h_stE, h_nmE, h_nSE, h_callE, h_callvE, h_dvE, h_remE, if_true, if_false, z_upS, z_upO, z_upK, nI_add, z_mul, z_sub, z_div, Nat.add_zero, Nat.mul_zero, Nat.zero_add, Nat.sub_zero, Nat.zero_mul, z_ltT, z_ltF, z_leT, z_leF, z_eqT, z_eqF, z_inT, z_clT, not_true_eq_false, not_false_eq_true, eq_self, true_or, or_true, z_m_lt, z_m_le, z_lt_m, z_le_m, z_eq_m, z_m_eq, z_rz0, z_rz1, z_m_add, z_of, r_0_0, r_0_1, r_0_3, r_0_4, r_0_5, r_0_6, r_0_7, r_0_8, r_0_9, r_0_10, r_1_0, r_1_1, r_1_2, r_1_3, r_1_4, r_1_5, r_1_6, r_1_7, r_1_8, r_2_0, r_2_1, r_2_2, r_2_3, r_2_4, r_2_5, r_2_6, r_2_7, r_11_0, r_11_1, r_11_2, r_11_3, r_11_4, r_11_5, r_11_6, r_19_0, r_21_0, r_23_0, r_25_0, r_27_0, r_61_0, r_117_0, r_117_1, r_117_2, r_117_3, r_117_4, r_117_5, r_117_6, r_117_7, r_126_0, r_126_1, r_126_2, r_126_3, r_126_4, r_132_0, r_132_1, r_135_0, r_135_1, r_135_2, r_135_3, r_135_4, r_135_5, r_142_0, r_144_0, r_144_1, r_144_2, r_145_0, r_145_1, r_145_2, r_145_3, r_145_4, r_145_5, r_145_6, r_154_0, r_154_1, r_155_0, ↓z_m1, l_0, l_1, l_2, l_3, l_4, l_5, l_6, l_7, l_8, l_9, l_10, l_11, l_12, l_13, l_14, l_15, l_16, l_17, l_18, l_19, l_20, l_21, l_22, l_23, l_24, l_25, l_26, l_27, l_28, l_29, l_30, l_31, l_32, l_33, l_34, l_35, l_36, l_37, l_38, l_39, l_40, l_41, l_42, l_43, l_44, l_45, l_46, l_47, l_48, l_49, l_50, l_51, l_52, l_53, l_54, l_55, l_56, l_57, l_59, l_60, l_61, l_62, l_63, l_64, l_65, l_80, l_86, l_87, l_88, l_89, l_90, l_91, l_92, l_93, l_94, l_95, l_97, l_99, l_100, l_107, l_119, l_122, l_124, l_129, l_140, l_141, l_142, l_143, l_144, l_145, l_147, l_150, l_159, l_160, l_161, l_162, l_205, l_253, l_255, l_256, l_269, l_305, l_380, l_399, l_400, l_420, l_430, l_516, l_600, l_720, l_820, l_905, l_921, l_937, l_953, l_970, l_999, l_1000, l_1790, l_4096, l_9999, l_1000000]
    · refine ⟨σ, fun _ _ => rfl, fun _ _ _ => rfl, by rw [e, if_neg qd]; exact ha, by rw [e, if_neg qd, show q + i - q = i by omega]; exact hv, ?_⟩
      rw [z_bf qd, e0] at eL
      rw [f_X8_next_L162]
      generalize T.1 (q+i) = c at *
      simp (disch := omega) only [hl, ha, hb, eL, ↓reduceIte, ↓p_ld, ↓p_st, ↓p_nm, ↓p_nS, ↓p_jn, ↓p_call, ↓p_callv, ↓p_dv, ↓p_rem, h_ldE, h_stE, h_nmE, h_nSE, h_callE, h_callvE, h_dvE, h_remE, if_true, if_false, z_upS, z_upO, z_upK, nI_add, z_mul, z_sub, z_div, Nat.add_zero, Nat.mul_zero, Nat.zero_add, Nat.sub_zero, Nat.zero_mul, z_ltT, z_ltF, z_leT, z_leF, z_eqT, z_eqF, z_inT, z_clT, not_true_eq_false, not_false_eq_true, eq_self, true_or, or_true, z_m_lt, z_m_le, z_lt_m, z_le_m, z_eq_m, z_m_eq, z_rz0, z_rz1, z_m_add, z_of, r_0_0, r_0_1, r_0_3, r_0_4, r_0_5, r_0_6, r_0_7, r_0_8, r_0_9, r_0_10, r_1_0, r_1_1, r_1_2, r_1_3, r_1_4, r_1_5, r_1_6, r_1_7, r_1_8, r_2_0, r_2_1, r_2_2, r_2_3, r_2_4, r_2_5, r_2_6, r_2_7, r_11_0, r_11_1, r_11_2, r_11_3, r_11_4, r_11_5, r_11_6, r_19_0, r_21_0, r_23_0, r_25_0, r_27_0, r_61_0, r_117_0, r_117_1, r_117_2, r_117_3, r_117_4, r_117_5, r_117_6, r_117_7, r_126_0, r_126_1, r_126_2, r_126_3, r_126_4, r_132_0, r_132_1, r_135_0, r_135_1, r_135_2, r_135_3, r_135_4, r_135_5, r_142_0, r_144_0, r_144_1, r_144_2, r_145_0, r_145_1, r_145_2, r_145_3, r_145_4, r_145_5, r_145_6, r_154_0, r_154_1, r_155_0, ↓z_m1, l_0, l_1, l_2, l_3, l_4, l_5, l_6, l_7, l_8, l_9, l_10, l_11, l_12, l_13, l_14, l_15, l_16, l_17, l_18, l_19, l_20, l_21, l_22, l_23, l_24, l_25, l_26, l_27, l_28, l_29, l_30, l_31, l_32, l_33, l_34, l_35, l_36, l_37, l_38, l_39, l_40, l_41, l_42, l_43, l_44, l_45, l_46, l_47, l_48, l_49, l_50, l_51, l_52, l_53, l_54, l_55, l_56, l_57, l_59, l_60, l_61, l_62, l_63, l_64, l_65, l_80, l_86, l_87, l_88, l_89, l_90, l_91, l_92, l_93, l_94, l_95, l_97, l_99, l_100, l_107, l_119, l_122, l_124, l_129, l_140, l_141, l_142, l_143, l_144, l_145, l_147, l_150, l_159, l_160, l_161, l_162, l_205, l_253, l_255, l_256, l_269, l_305, l_380, l_399, l_400, l_420, l_430, l_516, l_600, l_720, l_820, l_905, l_921, l_937, l_953, l_970, l_999, l_1000, l_1790, l_4096, l_9999, l_1000000]
theorem zt_vi_nv {B : Nat → Nat} {q : Nat} : ∀ n, (∀ i, i < n → 48 ≤ B (q+i) ∧ B (q+i) ≤ 57) → n < 5 → zt_vi B q n = nI (zt_nv B q n) ∧ zt_nv B q n < 10 ^ n
  | 0, _, _ => ⟨rfl, by show 0 < 1; omega⟩
  | n + 1, h, hn => by
    obtain ⟨h1, h2⟩ := zt_vi_nv (B := B) (q := q) n (fun i hi => h i (by omega)) (by omega)
    obtain ⟨h3, h4⟩ := h n (by omega)
    have e1 : zt_vi B q (n+1) = zt_vi B q n * nI 10 + nI (B (q+n)) - nI 48 := rfl
    have e2 : zt_nv B q (n+1) = 10 * zt_nv B q n + (B (q+n) - 48) := rfl
    have hp : 10 ^ (n+1) = 10 * 10 ^ n := by rw [Nat.pow_succ, Nat.mul_comm]
    have hp4 : 10 ^ n ≤ 10 ^ 4 := Nat.pow_le_pow_right (by omega) (by omega)
    have hp5 : (10 : Nat) ^ 4 = 10000 := rfl
    rw [e1, e2, h1, hp]
    generalize 10 ^ n = P at *
    rw [z_mul, nI_add, z_sub (by omega)]
    refine ⟨by congr 1; omega, by omega⟩
theorem zt_sc_all {P : Nat → Bool} {B : Nat → Nat} : ∀ j i k, i ≤ k → k < zt_sc P B j i → P (B k) = true
  | 0, i, k, h1, h2 => by
    have : zt_sc P B 0 i = i := rfl
    omega
  | j + 1, i, k, h1, h2 => by
    have e : zt_sc P B (j+1) i = if P (B i) = true then zt_sc P B j (i+1) else i := rfl
    rw [e] at h2
    by_cases q : P (B i) = true
    · rw [if_pos q] at h2
      by_cases q2 : k = i
      · subst q2; exact q
      · exact zt_sc_all j (i+1) k (by omega) h2
    · rw [if_neg q] at h2; omega
theorem c_next {n p : Nat} {T : zt_T} {σ : q_Sto} (hn : 402 ≤ n) (hp : p ≤ T.2) (hB : zt_B (σ 143) T) (hl : σ 142 1 = nI T.2) (ha : σ 142 2 = nI p) :
    ∃ σ', (∀ o, o ≠ 142 → σ' o = σ o) ∧ (∀ a, a ≠ 2 → a ≠ 3 → a ≠ 4 → a ≠ 5 → σ' 142 a = σ 142 a) ∧ zt_C σ' T p ∧ f_X8_next n 142 σ = some (nI 0, σ') := by
  have hL := hB.1
  obtain ⟨b1, b2⟩ := zt_at_b hp
  have e0 := c_next_L0 (n := n) (T := T) (K := fun (s10 : q_Sto) =>
  q_nS1 (q_up s10 142 3 (s10 142 2)) fun s11 =>
  q_call (f_X8_byteAt n 142 (s11 142 2) s11) fun r13 s12 =>
  q_nS1 (q_up s12 142 5 r13) fun s14 =>
  if (s14 142 2) < (s14 142 1) then (
  q_call (f_X8_isLetter n (s14 142 5) s14) fun r17 s16 =>
  if r17 = 0 then (
  q_call (f_X8_isDigit n (s16 142 5) s16) fun r20 s19 =>
  if r20 = 0 then (
  q_nS1 (q_up s19 142 4 3) fun s22 =>
  q_nS1 (q_up s22 142 2 ((s22 142 2) + 1)) fun s23 =>
  some (0, s23))
  else (
  q_nS1 (q_up s19 142 4 2) fun s24 =>
  q_nS1 (q_up s24 142 5 0) fun s25 =>
  f_X8_next_L162 n 142  n  s25))
  else (
  q_nS1 (q_up s16 142 4 1) fun s36 =>
  f_X8_next_L104 n 142  n  s36))
  else (
  q_nS1 (q_up s14 142 4 0) fun s44 =>
  some (0, s44))) (T.2 - p) p σ n (by omega) (by omega) hB hl ha
  have eF : f_X8_next n 142 σ = _ := e0
  have eat : zt_sc zt_bl T.1 (T.2 - p) p = zt_at T p := rfl
  rw [eat] at eF
  rw [eF]
  have ekd : zt_kd T p = if zt_at T p < T.2 then (if zt_il (T.1 (zt_at T p)) = true then 1 else if zt_id (T.1 (zt_at T p)) = true then 2 else 3) else 0 := rfl
  have enx : zt_nx T p = if zt_at T p < T.2 then (if zt_il (T.1 (zt_at T p)) = true then zt_sc zt_il T.1 (T.2 - zt_at T p) (zt_at T p) else if zt_id (T.1 (zt_at T p)) = true then zt_sc zt_id T.1 (T.2 - zt_at T p) (zt_at T p) else zt_at T p + 1) else zt_at T p := rfl
  have eva : zt_va T p = zt_nv T.1 (zt_at T p) (zt_nx T p - zt_at T p) := rfl
  by_cases q : zt_at T p < T.2
  · rw [if_pos q] at ekd enx
    have hb255 := (hB.2 (zt_at T p) q).2
    have hb : ∀ σ' : q_Sto, σ' 143 = σ 143 → σ' 142 1 = nI T.2 → f_X8_byteAt n 142 (nI (zt_at T p)) σ' = some (nI (T.1 (zt_at T p)), σ') := fun σ' h1 h2 => c_byteAt (by rw [h1]; exact hB) h2 q
    have hb := hb (q_up (q_up σ 142 2 (nI (zt_at T p))) 142 3 (nI (zt_at T p))) (by rw [z_upO (by omega), z_upO (by omega)]) (by rw [z_upK (by omega), z_upK (by omega)]; exact hl)
    have e1 : z_fb true = nI 1 := rfl
    have e0 : z_fb false = nI 0 := rfl
    have hlet := fun σ => c_isLetter (n := n) (c := T.1 (zt_at T p)) (σ := σ) (by omega)
    have hdig := fun σ => c_isDigit (n := n) (c := T.1 (zt_at T p)) (σ := σ) (by omega)
    by_cases q1 : zt_il (T.1 (zt_at T p)) = true
    · rw [if_pos q1] at ekd enx
      have hlet := fun σ => (hlet σ).trans (by rw [q1, e1])
      have key := c_next_L1 (n := n) (T := T) (T.2 - zt_at T p) (zt_at T p) (q_up (q_up (q_up (q_up σ 142 2 (nI (zt_at T p))) 142 3 (nI (zt_at T p))) 142 5 (nI (T.1 (zt_at T p)))) 142 4 (nI 1)) n (by omega) (by omega) (by rw [z_upO (by omega), z_upO (by omega), z_upO (by omega), z_upO (by omega)]; exact hB) (by rw [z_upK (by omega), z_upK (by omega), z_upK (by omega), z_upK (by omega)]; exact hl) (by rw [z_upK (by omega), z_upK (by omega), z_upK (by omega)]; exact z_upS)
      rw [← enx] at key
      refine ⟨_, ?_, ?_, ?_, (Eq.trans ?_ key)⟩
      · intro o ho
        rw [z_upO ho, z_upO ho, z_upO ho, z_upO ho, z_upO ho]
      · intro a a1 a2 a3 a4
        rw [z_upK a1, z_upK a3, z_upK a4, z_upK a2, z_upK a1]
      · refine ⟨by rw [z_upO (by omega), z_upO (by omega), z_upO (by omega), z_upO (by omega), z_upO (by omega)]; exact hB, hp, ?_, z_upS, ?_, ?_, fun h => ?_, fun h => ?_⟩
        · rw [z_upK (by omega), z_upK (by omega), z_upK (by omega), z_upK (by omega), z_upK (by omega)]; exact hl
        · rw [z_upK (by omega), z_upK (by omega), z_upK (by omega)]; exact z_upS
        · rw [z_upK (by omega), z_upS, ekd]
        · omega
        · omega
      · generalize zt_at T p = A at *
        generalize T.1 A = c at *
        simp (disch := omega) only [hl, hb, hlet, ↓reduceIte, ↓p_ld, ↓p_st, ↓p_nm, ↓p_nS, ↓p_jn, ↓p_call, ↓p_callv, ↓p_dv, ↓p_rem, h_ldE, h_stE, h_nmE, h_nSE, h_callE, h_callvE, h_dvE, h_remE, if_true, if_false, z_upS, z_upO, z_upK, nI_add, z_mul, z_sub, z_div, Nat.add_zero, Nat.mul_zero, Nat.zero_add, Nat.sub_zero, Nat.zero_mul, z_ltT, z_ltF, z_leT, z_leF, z_eqT, z_eqF, z_inT, z_clT, not_true_eq_false, not_false_eq_true, eq_self, true_or, or_true, z_m_lt, z_m_le, z_lt_m, z_le_m, z_eq_m, z_m_eq, z_rz0, z_rz1, z_m_add, z_of, r_0_0, r_0_1, r_0_3, r_0_4, r_0_5, r_0_6, r_0_7, r_0_8, r_0_9, r_0_10, r_1_0, r_1_1, r_1_2, r_1_3, r_1_4, r_1_5, r_1_6, r_1_7, r_1_8, r_2_0, r_2_1, r_2_2, r_2_3, r_2_4, r_2_5, r_2_6, r_2_7, r_11_0, r_11_1, r_11_2, r_11_3, r_11_4, r_11_5, r_11_6, r_19_0, r_21_0, r_23_0, r_25_0, r_27_0, r_61_0, r_117_0, r_117_1, r_117_2, r_117_3, r_117_4, r_117_5, r_117_6, r_117_7, r_126_0, r_126_1, r_126_2, r_126_3, r_126_4, r_132_0, r_132_1, r_135_0, r_135_1, r_135_2, r_135_3, r_135_4, r_135_5, r_142_0, r_144_0, r_144_1, r_144_2, r_145_0, r_145_1, r_145_2, r_145_3, r_145_4, r_145_5, r_145_6, r_154_0, r_154_1, r_155_0, ↓z_m1, l_0, l_1, l_2, l_3, l_4, l_5, l_6, l_7, l_8, l_9, l_10, l_11, l_12, l_13, l_14, l_15, l_16, l_17, l_18, l_19, l_20, l_21, l_22, l_23, l_24, l_25, l_26, l_27, l_28, l_29, l_30, l_31, l_32, l_33, l_34, l_35, l_36, l_37, l_38, l_39, l_40, l_41, l_42, l_43, l_44, l_45, l_46, l_47, l_48, l_49, l_50, l_51, l_52, l_53, l_54, l_55, l_56, l_57, l_59, l_60, l_61, l_62, l_63, l_64, l_65, l_80, l_86, l_87, l_88, l_89, l_90, l_91, l_92, l_93, l_94, l_95, l_97, l_99, l_100, l_107, l_119, l_122, l_124, l_129, l_140, l_141, l_142, l_143, l_144, l_145, l_147, l_150, l_159, l_160, l_161, l_162, l_205, l_253, l_255, l_256, l_269, l_305, l_380, l_399, l_400, l_420, l_430, l_516, l_600, l_720, l_820, l_905, l_921, l_937, l_953, l_970, l_999, l_1000, l_1790, l_4096, l_9999, l_1000000]
    · rw [if_neg q1] at ekd enx
      have hlet := fun σ => (hlet σ).trans (by rw [z_bf q1, e0])
      by_cases q2 : zt_id (T.1 (zt_at T p)) = true
      · rw [if_pos q2] at ekd enx
        have hdig := fun σ => (hdig σ).trans (by rw [q2, e1])
        obtain ⟨σ', k1, k2, k3, k4, k5⟩ := c_next_L2 (n := n) (T := T) (q := zt_at T p) (T.2 - zt_at T p) 0 (q_up (q_up (q_up (q_up (q_up σ 142 2 (nI (zt_at T p))) 142 3 (nI (zt_at T p))) 142 5 (nI (T.1 (zt_at T p)))) 142 4 (nI 2)) 142 5 (nI 0)) n (by omega) (by omega) (by rw [z_upO (by omega), z_upO (by omega), z_upO (by omega), z_upO (by omega), z_upO (by omega)]; exact hB) (by rw [z_upK (by omega), z_upK (by omega), z_upK (by omega), z_upK (by omega), z_upK (by omega)]; exact hl) (by rw [z_upK (by omega), z_upK (by omega), z_upK (by omega), z_upK (by omega)]; exact z_upS) z_upS
        rw [Nat.add_zero] at k3 k4
        rw [← enx] at k3 k4
        refine ⟨σ', ?_, ?_, ?_, (Eq.trans ?_ k5)⟩
        · intro o ho
          rw [k1 o ho, z_upO ho, z_upO ho, z_upO ho, z_upO ho, z_upO ho]
        · intro a a1 a2 a3 a4
          rw [k2 a a1 a4, z_upK a4, z_upK a3, z_upK a4, z_upK a2, z_upK a1]
        · refine ⟨by rw [k1 143 (by omega), z_upO (by omega), z_upO (by omega), z_upO (by omega), z_upO (by omega), z_upO (by omega)]; exact hB, hp, ?_, k3, ?_, ?_, fun h => ?_, fun h h5 => ?_⟩
          · rw [k2 1 (by omega) (by omega), z_upK (by omega), z_upK (by omega), z_upK (by omega), z_upK (by omega), z_upK (by omega)]; exact hl
          · rw [k2 3 (by omega) (by omega), z_upK (by omega), z_upK (by omega), z_upK (by omega)]; exact z_upS
          · rw [k2 4 (by omega) (by omega), z_upK (by omega), z_upS, ekd]
          · omega
          · rw [k4, eva]
            refine (zt_vi_nv _ (fun i hi => ?_) h5).1
            have := zt_sc_all (P := zt_id) (B := T.1) (T.2 - zt_at T p) (zt_at T p) (zt_at T p + i) (by omega) (by rw [← enx]; omega)
            unfold zt_id at this
            simpa using this
        · generalize zt_at T p = A at *
          generalize T.1 A = c at *
          simp (disch := omega) only [hl, hb, hlet, hdig, ↓reduceIte, ↓p_ld, ↓p_st, ↓p_nm, ↓p_nS, ↓p_jn, ↓p_call, ↓p_callv, ↓p_dv, ↓p_rem, h_ldE, h_stE, h_nmE, h_nSE, h_callE, h_callvE, h_dvE, h_remE, if_true, if_false, z_upS, z_upO, z_upK, nI_add, z_mul, z_sub, z_div, Nat.add_zero, Nat.mul_zero, Nat.zero_add, Nat.sub_zero, Nat.zero_mul, z_ltT, z_ltF, z_leT, z_leF, z_eqT, z_eqF, z_inT, z_clT, not_true_eq_false, not_false_eq_true, eq_self, true_or, or_true, z_m_lt, z_m_le, z_lt_m, z_le_m, z_eq_m, z_m_eq, z_rz0, z_rz1, z_m_add, z_of, r_0_0, r_0_1, r_0_3, r_0_4, r_0_5, r_0_6, r_0_7, r_0_8, r_0_9, r_0_10, r_1_0, r_1_1, r_1_2, r_1_3, r_1_4, r_1_5, r_1_6, r_1_7, r_1_8, r_2_0, r_2_1, r_2_2, r_2_3, r_2_4, r_2_5, r_2_6, r_2_7, r_11_0, r_11_1, r_11_2, r_11_3, r_11_4, r_11_5, r_11_6, r_19_0, r_21_0, r_23_0, r_25_0, r_27_0, r_61_0, r_117_0, r_117_1, r_117_2, r_117_3, r_117_4, r_117_5, r_117_6, r_117_7, r_126_0, r_126_1, r_126_2, r_126_3, r_126_4, r_132_0, r_132_1, r_135_0, r_135_1, r_135_2, r_135_3, r_135_4, r_135_5, r_142_0, r_144_0, r_144_1, r_144_2, r_145_0, r_145_1, r_145_2, r_145_3, r_145_4, r_145_5, r_145_6, r_154_0, r_154_1, r_155_0, ↓z_m1, l_0, l_1, l_2, l_3, l_4, l_5, l_6, l_7, l_8, l_9, l_10, l_11, l_12, l_13, l_14, l_15, l_16, l_17, l_18, l_19, l_20, l_21, l_22, l_23, l_24, l_25, l_26, l_27, l_28, l_29, l_30, l_31, l_32, l_33, l_34, l_35, l_36, l_37, l_38, l_39, l_40, l_41, l_42, l_43, l_44, l_45, l_46, l_47, l_48, l_49, l_50, l_51, l_52, l_53, l_54, l_55, l_56, l_57, l_59, l_60, l_61, l_62, l_63, l_64, l_65, l_80, l_86, l_87, l_88, l_89, l_90, l_91, l_92, l_93, l_94, l_95, l_97, l_99, l_100, l_107, l_119, l_122, l_124, l_129, l_140, l_141, l_142, l_143, l_144, l_145, l_147, l_150, l_159, l_160, l_161, l_162, l_205, l_253, l_255, l_256, l_269, l_305, l_380, l_399, l_400, l_420, l_430, l_516, l_600, l_720, l_820, l_905, l_921, l_937, l_953, l_970, l_999, l_1000, l_1790, l_4096, l_9999, l_1000000]
      · rw [if_neg q2] at ekd enx
        have hdig := fun σ => (hdig σ).trans (by rw [z_bf q2, e0])
        refine ⟨q_up (q_up (q_up (q_up (q_up σ 142 2 (nI (zt_at T p))) 142 3 (nI (zt_at T p))) 142 5 (nI (T.1 (zt_at T p)))) 142 4 (nI 3)) 142 2 (nI (zt_at T p + 1)), ?_, ?_, ?_, ?_⟩
        · intro o ho
          rw [z_upO ho, z_upO ho, z_upO ho, z_upO ho, z_upO ho]
        · intro a a1 a2 a3 a4
          rw [z_upK a1, z_upK a3, z_upK a4, z_upK a2, z_upK a1]
        · refine ⟨by rw [z_upO (by omega), z_upO (by omega), z_upO (by omega), z_upO (by omega), z_upO (by omega)]; exact hB, hp, ?_, by rw [enx]; exact z_upS, ?_, ?_, fun h => ?_, fun h => ?_⟩
          · rw [z_upK (by omega), z_upK (by omega), z_upK (by omega), z_upK (by omega), z_upK (by omega)]; exact hl
          · rw [z_upK (by omega), z_upK (by omega), z_upK (by omega)]; exact z_upS
          · rw [z_upK (by omega), z_upS, ekd]
          · rw [z_upK (by omega), z_upK (by omega)]; exact z_upS
          · omega
        · generalize zt_at T p = A at *
          generalize T.1 A = c at *
          simp (disch := omega) only [hl, hb, hlet, hdig, ↓reduceIte, ↓p_ld, ↓p_st, ↓p_nm, ↓p_nS, ↓p_jn, ↓p_call, ↓p_callv, ↓p_dv, ↓p_rem, h_ldE, h_stE, h_nmE, h_nSE, h_callE, h_callvE, h_dvE, h_remE, if_true, if_false, z_upS, z_upO, z_upK, nI_add, z_mul, z_sub, z_div, Nat.add_zero, Nat.mul_zero, Nat.zero_add, Nat.sub_zero, Nat.zero_mul, z_ltT, z_ltF, z_leT, z_leF, z_eqT, z_eqF, z_inT, z_clT, not_true_eq_false, not_false_eq_true, eq_self, true_or, or_true, z_m_lt, z_m_le, z_lt_m, z_le_m, z_eq_m, z_m_eq, z_rz0, z_rz1, z_m_add, z_of, r_0_0, r_0_1, r_0_3, r_0_4, r_0_5, r_0_6, r_0_7, r_0_8, r_0_9, r_0_10, r_1_0, r_1_1, r_1_2, r_1_3, r_1_4, r_1_5, r_1_6, r_1_7, r_1_8, r_2_0, r_2_1, r_2_2, r_2_3, r_2_4, r_2_5, r_2_6, r_2_7, r_11_0, r_11_1, r_11_2, r_11_3, r_11_4, r_11_5, r_11_6, r_19_0, r_21_0, r_23_0, r_25_0, r_27_0, r_61_0, r_117_0, r_117_1, r_117_2, r_117_3, r_117_4, r_117_5, r_117_6, r_117_7, r_126_0, r_126_1, r_126_2, r_126_3, r_126_4, r_132_0, r_132_1, r_135_0, r_135_1, r_135_2, r_135_3, r_135_4, r_135_5, r_142_0, r_144_0, r_144_1, r_144_2, r_145_0, r_145_1, r_145_2, r_145_3, r_145_4, r_145_5, r_145_6, r_154_0, r_154_1, r_155_0, ↓z_m1, l_0, l_1, l_2, l_3, l_4, l_5, l_6, l_7, l_8, l_9, l_10, l_11, l_12, l_13, l_14, l_15, l_16, l_17, l_18, l_19, l_20, l_21, l_22, l_23, l_24, l_25, l_26, l_27, l_28, l_29, l_30, l_31, l_32, l_33, l_34, l_35, l_36, l_37, l_38, l_39, l_40, l_41, l_42, l_43, l_44, l_45, l_46, l_47, l_48, l_49, l_50, l_51, l_52, l_53, l_54, l_55, l_56, l_57, l_59, l_60, l_61, l_62, l_63, l_64, l_65, l_80, l_86, l_87, l_88, l_89, l_90, l_91, l_92, l_93, l_94, l_95, l_97, l_99, l_100, l_107, l_119, l_122, l_124, l_129, l_140, l_141, l_142, l_143, l_144, l_145, l_147, l_150, l_159, l_160, l_161, l_162, l_205, l_253, l_255, l_256, l_269, l_305, l_380, l_399, l_400, l_420, l_430, l_516, l_600, l_720, l_820, l_905, l_921, l_937, l_953, l_970, l_999, l_1000, l_1790, l_4096, l_9999, l_1000000]
  · rw [if_neg q] at ekd enx
    have hb : ∀ σ' : q_Sto, σ' 143 = σ 143 → σ' 142 1 = nI T.2 → f_X8_byteAt n 142 (nI (zt_at T p)) σ' = some (z_m, σ') := fun σ' h1 h2 => c_byteAt0 (by rw [h1]; exact hB) h2 (by omega) (by omega)
    have hb := hb (q_up (q_up σ 142 2 (nI (zt_at T p))) 142 3 (nI (zt_at T p))) (by rw [z_upO (by omega), z_upO (by omega)]) (by rw [z_upK (by omega), z_upK (by omega)]; exact hl)
    refine ⟨q_up (q_up (q_up (q_up σ 142 2 (nI (zt_at T p))) 142 3 (nI (zt_at T p))) 142 5 z_m) 142 4 (nI 0), ?_, ?_, ?_, ?_⟩
    · intro o ho
      rw [z_upO ho, z_upO ho, z_upO ho, z_upO ho]
    · intro a a1 a2 a3 a4
      rw [z_upK a3, z_upK a4, z_upK a2, z_upK a1]
    · refine ⟨by rw [z_upO (by omega), z_upO (by omega), z_upO (by omega), z_upO (by omega)]; exact hB, hp, ?_, ?_, ?_, ?_, fun h => ?_, fun h => ?_⟩
      · rw [z_upK (by omega), z_upK (by omega), z_upK (by omega), z_upK (by omega)]; exact hl
      · rw [z_upK (by omega), z_upK (by omega), z_upK (by omega), z_upS, enx]
      · rw [z_upK (by omega), z_upK (by omega)]; exact z_upS
      · rw [z_upS, ekd]
      · omega
      · omega
    · generalize zt_at T p = A at *
      simp (disch := omega) only [hl, hb, ↓reduceIte, ↓p_ld, ↓p_st, ↓p_nm, ↓p_nS, ↓p_jn, ↓p_call, ↓p_callv, ↓p_dv, ↓p_rem, h_ldE, h_stE, h_nmE, h_nSE, h_callE, h_callvE, h_dvE, h_remE, if_true, if_false, z_upS, z_upO, z_upK, nI_add, z_mul, z_sub, z_div, Nat.add_zero, Nat.mul_zero, Nat.zero_add, Nat.sub_zero, Nat.zero_mul, z_ltT, z_ltF, z_leT, z_leF, z_eqT, z_eqF, z_inT, z_clT, not_true_eq_false, not_false_eq_true, eq_self, true_or, or_true, z_m_lt, z_m_le, z_lt_m, z_le_m, z_eq_m, z_m_eq, z_rz0, z_rz1, z_m_add, z_of, r_0_0, r_0_1, r_0_3, r_0_4, r_0_5, r_0_6, r_0_7, r_0_8, r_0_9, r_0_10, r_1_0, r_1_1, r_1_2, r_1_3, r_1_4, r_1_5, r_1_6, r_1_7, r_1_8, r_2_0, r_2_1, r_2_2, r_2_3, r_2_4, r_2_5, r_2_6, r_2_7, r_11_0, r_11_1, r_11_2, r_11_3, r_11_4, r_11_5, r_11_6, r_19_0, r_21_0, r_23_0, r_25_0, r_27_0, r_61_0, r_117_0, r_117_1, r_117_2, r_117_3, r_117_4, r_117_5, r_117_6, r_117_7, r_126_0, r_126_1, r_126_2, r_126_3, r_126_4, r_132_0, r_132_1, r_135_0, r_135_1, r_135_2, r_135_3, r_135_4, r_135_5, r_142_0, r_144_0, r_144_1, r_144_2, r_145_0, r_145_1, r_145_2, r_145_3, r_145_4, r_145_5, r_145_6, r_154_0, r_154_1, r_155_0, ↓z_m1, l_0, l_1, l_2, l_3, l_4, l_5, l_6, l_7, l_8, l_9, l_10, l_11, l_12, l_13, l_14, l_15, l_16, l_17, l_18, l_19, l_20, l_21, l_22, l_23, l_24, l_25, l_26, l_27, l_28, l_29, l_30, l_31, l_32, l_33, l_34, l_35, l_36, l_37, l_38, l_39, l_40, l_41, l_42, l_43, l_44, l_45, l_46, l_47, l_48, l_49, l_50, l_51, l_52, l_53, l_54, l_55, l_56, l_57, l_59, l_60, l_61, l_62, l_63, l_64, l_65, l_80, l_86, l_87, l_88, l_89, l_90, l_91, l_92, l_93, l_94, l_95, l_97, l_99, l_100, l_107, l_119, l_122, l_124, l_129, l_140, l_141, l_142, l_143, l_144, l_145, l_147, l_150, l_159, l_160, l_161, l_162, l_205, l_253, l_255, l_256, l_269, l_305, l_380, l_399, l_400, l_420, l_430, l_516, l_600, l_720, l_820, l_905, l_921, l_937, l_953, l_970, l_999, l_1000, l_1790, l_4096, l_9999, l_1000000]
/-! TEXTS: words -/
theorem c_word_L {n q w : Nat} {T : zt_T} {σ : q_Sto} (hw : w < 57) (hB : zt_B (σ 143) T) (hl : σ 142 1 = nI T.2) (h3 : σ 142 3 = nI q) (hq : q + (zt_w w).length ≤ T.2) : ∀ j i, i ≤ (zt_w w).length → (zt_w w).length < j + i → zt_pr T.1 q w i = true →
    f_X8_isWord_L28 n 142 w j (nI i) σ = some (z_fb (zt_pr T.1 q w (zt_w w).length), σ) := by
  obtain ⟨t1, t2, t3, t4⟩ := zt_tx hw
  have hL := hB.1
  have hsl : q_slen w = nI (zt_w w).length := by unfold q_slen; rw [t3]; rfl
  intro j
  induction j with
  | zero => intro i h1 h2; omega
  | succ j ih =>
    intro i h1 h2 hp
    have e1 : z_fb true = nI 1 := rfl
    have e0 : z_fb false = nI 0 := rfl
    by_cases hi : i = (zt_w w).length
    · subst hi
      rw [hp, e1, f_X8_isWord_L28]
      generalize (zt_w w).length = N at *
      simp (disch := omega) only [hsl, ↓reduceIte, ↓p_ld, ↓p_st, ↓p_nm, ↓p_nS, ↓p_jn, ↓p_call, ↓p_callv, ↓p_dv, ↓p_rem, h_ldE, h_stE, h_nmE, h_nSE, h_callE, h_callvE, h_dvE, h_remE, if_true, if_false, z_upS, z_upO, z_upK, nI_add, z_mul, z_sub, z_div, Nat.add_zero, Nat.mul_zero, Nat.zero_add, Nat.sub_zero, Nat.zero_mul, z_ltT, z_ltF, z_leT, z_leF, z_eqT, z_eqF, z_inT, z_clT, not_true_eq_false, not_false_eq_true, eq_self, true_or, or_true, z_m_lt, z_m_le, z_lt_m, z_le_m, z_eq_m, z_m_eq, z_rz0, z_rz1, z_m_add, z_of, r_0_0, r_0_1, r_0_3, r_0_4, r_0_5, r_0_6, r_0_7, r_0_8, r_0_9, r_0_10, r_1_0, r_1_1, r_1_2, r_1_3, r_1_4, r_1_5, r_1_6, r_1_7, r_1_8, r_2_0, r_2_1, r_2_2, r_2_3, r_2_4, r_2_5, r_2_6, r_2_7, r_11_0, r_11_1, r_11_2, r_11_3, r_11_4, r_11_5, r_11_6, r_19_0, r_21_0, r_23_0, r_25_0, r_27_0, r_61_0, r_117_0, r_117_1, r_117_2, r_117_3, r_117_4, r_117_5, r_117_6, r_117_7, r_126_0, r_126_1, r_126_2, r_126_3, r_126_4, r_132_0, r_132_1, r_135_0, r_135_1, r_135_2, r_135_3, r_135_4, r_135_5, r_142_0, r_144_0, r_144_1, r_144_2, r_145_0, r_145_1, r_145_2, r_145_3, r_145_4, r_145_5, r_145_6, r_154_0, r_154_1, r_155_0, ↓z_m1, l_0, l_1, l_2, l_3, l_4, l_5, l_6, l_7, l_8, l_9, l_10, l_11, l_12, l_13, l_14, l_15, l_16, l_17, l_18, l_19, l_20, l_21, l_22, l_23, l_24, l_25, l_26, l_27, l_28, l_29, l_30, l_31, l_32, l_33, l_34, l_35, l_36, l_37, l_38, l_39, l_40, l_41, l_42, l_43, l_44, l_45, l_46, l_47, l_48, l_49, l_50, l_51, l_52, l_53, l_54, l_55, l_56, l_57, l_59, l_60, l_61, l_62, l_63, l_64, l_65, l_80, l_86, l_87, l_88, l_89, l_90, l_91, l_92, l_93, l_94, l_95, l_97, l_99, l_100, l_107, l_119, l_122, l_124, l_129, l_140, l_141, l_142, l_143, l_144, l_145, l_147, l_150, l_159, l_160, l_161, l_162, l_205, l_253, l_255, l_256, l_269, l_305, l_380, l_399, l_400, l_420, l_430, l_516, l_600, l_720, l_820, l_905, l_921, l_937, l_953, l_970, l_999, l_1000, l_1790, l_4096, l_9999, l_1000000]
    · have hb := c_byteAt (n := n) (i := q+i) hB hl (by omega)
      have hb255 := (hB.2 (q+i) (by omega)).2
      obtain ⟨x1, x2⟩ := t4 i (by omega)
      have hsc : ∀ K : Int32 → Option (Int32 × q_Sto), q_scat w (nI i) K = K (nI ((zt_w w).getD i 0)) := fun K => by
        unfold q_scat
        rw [t3, if_pos (z_in (show i < (zt_w w).length by omega) (by omega)), z_clT (by omega), x1]
      have ep : zt_pr T.1 q w (i+1) = (zt_pr T.1 q w i && decide (T.1 (q+i) = (zt_w w).getD i 0)) := rfl
      rw [hp, Bool.true_and] at ep
      by_cases qe : T.1 (q+i) = (zt_w w).getD i 0
      · rw [decide_eq_true qe] at ep
        have ih := ih (i+1) (by omega) (by omega) ep
        rw [← ih, f_X8_isWord_L28]
        generalize (zt_w w).length = N at *
        generalize (zt_w w).getD i 0 = c at *
        generalize T.1 (q+i) = c2 at *
        simp (disch := omega) only [hsl, h3, hb, hsc, ↓reduceIte, ↓p_ld, ↓p_st, ↓p_nm, ↓p_nS, ↓p_jn, ↓p_call, ↓p_callv, ↓p_dv, ↓p_rem, h_ldE, h_stE, h_nmE, h_nSE, h_callE, h_callvE, h_dvE, h_remE, if_true, if_false, z_upS, z_upO, z_upK, nI_add, z_mul, z_sub, z_div, Nat.add_zero, Nat.mul_zero, Nat.zero_add, Nat.sub_zero, Nat.zero_mul, z_ltT, z_ltF, z_leT, z_leF, z_eqT, z_eqF, z_inT, z_clT, not_true_eq_false, not_false_eq_true, eq_self, true_or, or_true, z_m_lt, z_m_le, z_lt_m, z_le_m, z_eq_m, z_m_eq, z_rz0, z_rz1, z_m_add, z_of, r_0_0, r_0_1, r_0_3, r_0_4, r_0_5, r_0_6, r_0_7, r_0_8, r_0_9, r_0_10, r_1_0, r_1_1, r_1_2, r_1_3, r_1_4, r_1_5, r_1_6, r_1_7, r_1_8, r_2_0, r_2_1, r_2_2, r_2_3, r_2_4, r_2_5, r_2_6, r_2_7, r_11_0, r_11_1, r_11_2, r_11_3, r_11_4, r_11_5, r_11_6, r_19_0, r_21_0, r_23_0, r_25_0, r_27_0, r_61_0, r_117_0, r_117_1, r_117_2, r_117_3, r_117_4, r_117_5, r_117_6, r_117_7, r_126_0, r_126_1, r_126_2, r_126_3, r_126_4, r_132_0, r_132_1, r_135_0, r_135_1, r_135_2, r_135_3, r_135_4, r_135_5, r_142_0, r_144_0, r_144_1, r_144_2, r_145_0, r_145_1, r_145_2, r_145_3, r_145_4, r_145_5, r_145_6, r_154_0, r_154_1, r_155_0, ↓z_m1, l_0, l_1, l_2, l_3, l_4, l_5, l_6, l_7, l_8, l_9, l_10, l_11, l_12, l_13, l_14, l_15, l_16, l_17, l_18, l_19, l_20, l_21, l_22, l_23, l_24, l_25, l_26, l_27, l_28, l_29, l_30, l_31, l_32, l_33, l_34, l_35, l_36, l_37, l_38, l_39, l_40, l_41, l_42, l_43, l_44, l_45, l_46, l_47, l_48, l_49, l_50, l_51, l_52, l_53, l_54, l_55, l_56, l_57, l_59, l_60, l_61, l_62, l_63, l_64, l_65, l_80, l_86, l_87, l_88, l_89, l_90, l_91, l_92, l_93, l_94, l_95, l_97, l_99, l_100, l_107, l_119, l_122, l_124, l_129, l_140, l_141, l_142, l_143, l_144, l_145, l_147, l_150, l_159, l_160, l_161, l_162, l_205, l_253, l_255, l_256, l_269, l_305, l_380, l_399, l_400, l_420, l_430, l_516, l_600, l_720, l_820, l_905, l_921, l_937, l_953, l_970, l_999, l_1000, l_1790, l_4096, l_9999, l_1000000]
      · rw [decide_eq_false qe] at ep
        have := zt_pr_f ep ((zt_w w).length - (i+1))
        rw [show i + 1 + ((zt_w w).length - (i+1)) = (zt_w w).length by omega] at this
        rw [this, e0, f_X8_isWord_L28]
        generalize (zt_w w).length = N at *
        generalize (zt_w w).getD i 0 = c at *
        generalize T.1 (q+i) = c2 at *
        simp (disch := omega) only [hsl, h3, hb, hsc, ↓reduceIte, ↓p_ld, ↓p_st, ↓p_nm, ↓p_nS, ↓p_jn, ↓p_call, ↓p_callv, ↓p_dv, ↓p_rem, h_ldE, h_stE, h_nmE, h_nSE, h_callE, h_callvE, h_dvE, h_remE, if_true, if_false, z_upS, z_upO, z_upK, nI_add, z_mul, z_sub, z_div, Nat.add_zero, Nat.mul_zero, Nat.zero_add, Nat.sub_zero, Nat.zero_mul, z_ltT, z_ltF, z_leT, z_leF, z_eqT, z_eqF, z_inT, z_clT, not_true_eq_false, not_false_eq_true, eq_self, true_or, or_true, z_m_lt, z_m_le, z_lt_m, z_le_m, z_eq_m, z_m_eq, z_rz0, z_rz1, z_m_add, z_of, r_0_0, r_0_1, r_0_3, r_0_4, r_0_5, r_0_6, r_0_7, r_0_8, r_0_9, r_0_10, r_1_0, r_1_1, r_1_2, r_1_3, r_1_4, r_1_5, r_1_6, r_1_7, r_1_8, r_2_0, r_2_1, r_2_2, r_2_3, r_2_4, r_2_5, r_2_6, r_2_7, r_11_0, r_11_1, r_11_2, r_11_3, r_11_4, r_11_5, r_11_6, r_19_0, r_21_0, r_23_0, r_25_0, r_27_0, r_61_0, r_117_0, r_117_1, r_117_2, r_117_3, r_117_4, r_117_5, r_117_6, r_117_7, r_126_0, r_126_1, r_126_2, r_126_3, r_126_4, r_132_0, r_132_1, r_135_0, r_135_1, r_135_2, r_135_3, r_135_4, r_135_5, r_142_0, r_144_0, r_144_1, r_144_2, r_145_0, r_145_1, r_145_2, r_145_3, r_145_4, r_145_5, r_145_6, r_154_0, r_154_1, r_155_0, ↓z_m1, l_0, l_1, l_2, l_3, l_4, l_5, l_6, l_7, l_8, l_9, l_10, l_11, l_12, l_13, l_14, l_15, l_16, l_17, l_18, l_19, l_20, l_21, l_22, l_23, l_24, l_25, l_26, l_27, l_28, l_29, l_30, l_31, l_32, l_33, l_34, l_35, l_36, l_37, l_38, l_39, l_40, l_41, l_42, l_43, l_44, l_45, l_46, l_47, l_48, l_49, l_50, l_51, l_52, l_53, l_54, l_55, l_56, l_57, l_59, l_60, l_61, l_62, l_63, l_64, l_65, l_80, l_86, l_87, l_88, l_89, l_90, l_91, l_92, l_93, l_94, l_95, l_97, l_99, l_100, l_107, l_119, l_122, l_124, l_129, l_140, l_141, l_142, l_143, l_144, l_145, l_147, l_150, l_159, l_160, l_161, l_162, l_205, l_253, l_255, l_256, l_269, l_305, l_380, l_399, l_400, l_420, l_430, l_516, l_600, l_720, l_820, l_905, l_921, l_937, l_953, l_970, l_999, l_1000, l_1790, l_4096, l_9999, l_1000000]
theorem c_isWord {n w p : Nat} {T : zt_T} {σ : q_Sto} (hn : 402 ≤ n) (hw : w < 57) (hC : zt_C σ T p) : f_X8_isWord n 142 w σ = some (z_fb (decide (zt_kd T p = 1 ∧ zt_by T p = zt_w w)), σ) := by
  obtain ⟨hB, hp, h1, h2, h3, h4, -, -⟩ := hC
  obtain ⟨t1, t2, t3, t4⟩ := zt_tx hw
  obtain ⟨b1, b2⟩ := zt_at_b hp
  obtain ⟨b3, b4, -⟩ := zt_nx_b hp
  have hL := hB.1
  have hsl : q_slen w = nI (zt_w w).length := by unfold q_slen; rw [t3]; rfl
  have e1 : z_fb true = nI 1 := rfl
  have e0 : z_fb false = nI 0 := rfl
  have hkd : zt_kd T p < 4 := by
    unfold zt_kd
    split
    · split
      · omega
      · split <;> omega
    · omega
  unfold f_X8_isWord
  by_cases q1 : zt_kd T p = 1
  · rw [q1] at h4
    by_cases q2 : zt_nx T p - zt_at T p = (zt_w w).length
    · have key := c_word_L (n := n) hw hB h1 h3 (by omega) n 0 (Nat.zero_le _) (by omega) rfl
      have ed : decide (zt_kd T p = 1 ∧ zt_by T p = zt_w w) = zt_pr T.1 (zt_at T p) w (zt_w w).length := by
        cases hpr : zt_pr T.1 (zt_at T p) w (zt_w w).length with
        | true => exact decide_eq_true ⟨q1, zt_by_w.mpr ⟨q2, hpr⟩⟩
        | false => exact decide_eq_false (fun h => by
            have := (zt_by_w.mp h.2).2
            rw [hpr] at this; cases this)
      rw [ed, ← key]
      generalize zt_at T p = A at *
      generalize zt_nx T p = X at *
      generalize (zt_w w).length = N at *
      simp (disch := omega) only [h4, h2, h3, hsl, ↓reduceIte, ↓p_ld, ↓p_st, ↓p_nm, ↓p_nS, ↓p_jn, ↓p_call, ↓p_callv, ↓p_dv, ↓p_rem, h_ldE, h_stE, h_nmE, h_nSE, h_callE, h_callvE, h_dvE, h_remE, if_true, if_false, z_upS, z_upO, z_upK, nI_add, z_mul, z_sub, z_div, Nat.add_zero, Nat.mul_zero, Nat.zero_add, Nat.sub_zero, Nat.zero_mul, z_ltT, z_ltF, z_leT, z_leF, z_eqT, z_eqF, z_inT, z_clT, not_true_eq_false, not_false_eq_true, eq_self, true_or, or_true, z_m_lt, z_m_le, z_lt_m, z_le_m, z_eq_m, z_m_eq, z_rz0, z_rz1, z_m_add, z_of, r_0_0, r_0_1, r_0_3, r_0_4, r_0_5, r_0_6, r_0_7, r_0_8, r_0_9, r_0_10, r_1_0, r_1_1, r_1_2, r_1_3, r_1_4, r_1_5, r_1_6, r_1_7, r_1_8, r_2_0, r_2_1, r_2_2, r_2_3, r_2_4, r_2_5, r_2_6, r_2_7, r_11_0, r_11_1, r_11_2, r_11_3, r_11_4, r_11_5, r_11_6, r_19_0, r_21_0, r_23_0, r_25_0, r_27_0, r_61_0, r_117_0, r_117_1, r_117_2, r_117_3, r_117_4, r_117_5, r_117_6, r_117_7, r_126_0, r_126_1, r_126_2, r_126_3, r_126_4, r_132_0, r_132_1, r_135_0, r_135_1, r_135_2, r_135_3, r_135_4, r_135_5, r_142_0, r_144_0, r_144_1, r_144_2, r_145_0, r_145_1, r_145_2, r_145_3, r_145_4, r_145_5, r_145_6, r_154_0, r_154_1, r_155_0, ↓z_m1, l_0, l_1, l_2, l_3, l_4, l_5, l_6, l_7, l_8, l_9, l_10, l_11, l_12, l_13, l_14, l_15, l_16, l_17, l_18, l_19, l_20, l_21, l_22, l_23, l_24, l_25, l_26, l_27, l_28, l_29, l_30, l_31, l_32, l_33, l_34, l_35, l_36, l_37, l_38, l_39, l_40, l_41, l_42, l_43, l_44, l_45, l_46, l_47, l_48, l_49, l_50, l_51, l_52, l_53, l_54, l_55, l_56, l_57, l_59, l_60, l_61, l_62, l_63, l_64, l_65, l_80, l_86, l_87, l_88, l_89, l_90, l_91, l_92, l_93, l_94, l_95, l_97, l_99, l_100, l_107, l_119, l_122, l_124, l_129, l_140, l_141, l_142, l_143, l_144, l_145, l_147, l_150, l_159, l_160, l_161, l_162, l_205, l_253, l_255, l_256, l_269, l_305, l_380, l_399, l_400, l_420, l_430, l_516, l_600, l_720, l_820, l_905, l_921, l_937, l_953, l_970, l_999, l_1000, l_1790, l_4096, l_9999, l_1000000]
    · rw [decide_eq_false (fun h => q2 (zt_by_w.mp h.2).1), e0]
      generalize zt_at T p = A at *
      generalize zt_nx T p = X at *
      generalize (zt_w w).length = N at *
      simp (disch := omega) only [h4, h2, h3, hsl, ↓reduceIte, ↓p_ld, ↓p_st, ↓p_nm, ↓p_nS, ↓p_jn, ↓p_call, ↓p_callv, ↓p_dv, ↓p_rem, h_ldE, h_stE, h_nmE, h_nSE, h_callE, h_callvE, h_dvE, h_remE, if_true, if_false, z_upS, z_upO, z_upK, nI_add, z_mul, z_sub, z_div, Nat.add_zero, Nat.mul_zero, Nat.zero_add, Nat.sub_zero, Nat.zero_mul, z_ltT, z_ltF, z_leT, z_leF, z_eqT, z_eqF, z_inT, z_clT, not_true_eq_false, not_false_eq_true, eq_self, true_or, or_true, z_m_lt, z_m_le, z_lt_m, z_le_m, z_eq_m, z_m_eq, z_rz0, z_rz1, z_m_add, z_of, r_0_0, r_0_1, r_0_3, r_0_4, r_0_5, r_0_6, r_0_7, r_0_8, r_0_9, r_0_10, r_1_0, r_1_1, r_1_2, r_1_3, r_1_4, r_1_5, r_1_6, r_1_7, r_1_8, r_2_0, r_2_1, r_2_2, r_2_3, r_2_4, r_2_5, r_2_6, r_2_7, r_11_0, r_11_1, r_11_2, r_11_3, r_11_4, r_11_5, r_11_6, r_19_0, r_21_0, r_23_0, r_25_0, r_27_0, r_61_0, r_117_0, r_117_1, r_117_2, r_117_3, r_117_4, r_117_5, r_117_6, r_117_7, r_126_0, r_126_1, r_126_2, r_126_3, r_126_4, r_132_0, r_132_1, r_135_0, r_135_1, r_135_2, r_135_3, r_135_4, r_135_5, r_142_0, r_144_0, r_144_1, r_144_2, r_145_0, r_145_1, r_145_2, r_145_3, r_145_4, r_145_5, r_145_6, r_154_0, r_154_1, r_155_0, ↓z_m1, l_0, l_1, l_2, l_3, l_4, l_5, l_6, l_7, l_8, l_9, l_10, l_11, l_12, l_13, l_14, l_15, l_16, l_17, l_18, l_19, l_20, l_21, l_22, l_23, l_24, l_25, l_26, l_27, l_28, l_29, l_30, l_31, l_32, l_33, l_34, l_35, l_36, l_37, l_38, l_39, l_40, l_41, l_42, l_43, l_44, l_45, l_46, l_47, l_48, l_49, l_50, l_51, l_52, l_53, l_54, l_55, l_56, l_57, l_59, l_60, l_61, l_62, l_63, l_64, l_65, l_80, l_86, l_87, l_88, l_89, l_90, l_91, l_92, l_93, l_94, l_95, l_97, l_99, l_100, l_107, l_119, l_122, l_124, l_129, l_140, l_141, l_142, l_143, l_144, l_145, l_147, l_150, l_159, l_160, l_161, l_162, l_205, l_253, l_255, l_256, l_269, l_305, l_380, l_399, l_400, l_420, l_430, l_516, l_600, l_720, l_820, l_905, l_921, l_937, l_953, l_970, l_999, l_1000, l_1790, l_4096, l_9999, l_1000000]
  · rw [decide_eq_false (fun h => q1 h.1), e0]
    generalize zt_kd T p = k at *
    simp (disch := omega) only [h4, ↓reduceIte, ↓p_ld, ↓p_st, ↓p_nm, ↓p_nS, ↓p_jn, ↓p_call, ↓p_callv, ↓p_dv, ↓p_rem, h_ldE, h_stE, h_nmE, h_nSE, h_callE, h_callvE, h_dvE, h_remE, if_true, if_false, z_upS, z_upO, z_upK, nI_add, z_mul, z_sub, z_div, Nat.add_zero, Nat.mul_zero, Nat.zero_add, Nat.sub_zero, Nat.zero_mul, z_ltT, z_ltF, z_leT, z_leF, z_eqT, z_eqF, z_inT, z_clT, not_true_eq_false, not_false_eq_true, eq_self, true_or, or_true, z_m_lt, z_m_le, z_lt_m, z_le_m, z_eq_m, z_m_eq, z_rz0, z_rz1, z_m_add, z_of, r_0_0, r_0_1, r_0_3, r_0_4, r_0_5, r_0_6, r_0_7, r_0_8, r_0_9, r_0_10, r_1_0, r_1_1, r_1_2, r_1_3, r_1_4, r_1_5, r_1_6, r_1_7, r_1_8, r_2_0, r_2_1, r_2_2, r_2_3, r_2_4, r_2_5, r_2_6, r_2_7, r_11_0, r_11_1, r_11_2, r_11_3, r_11_4, r_11_5, r_11_6, r_19_0, r_21_0, r_23_0, r_25_0, r_27_0, r_61_0, r_117_0, r_117_1, r_117_2, r_117_3, r_117_4, r_117_5, r_117_6, r_117_7, r_126_0, r_126_1, r_126_2, r_126_3, r_126_4, r_132_0, r_132_1, r_135_0, r_135_1, r_135_2, r_135_3, r_135_4, r_135_5, r_142_0, r_144_0, r_144_1, r_144_2, r_145_0, r_145_1, r_145_2, r_145_3, r_145_4, r_145_5, r_145_6, r_154_0, r_154_1, r_155_0, ↓z_m1, l_0, l_1, l_2, l_3, l_4, l_5, l_6, l_7, l_8, l_9, l_10, l_11, l_12, l_13, l_14, l_15, l_16, l_17, l_18, l_19, l_20, l_21, l_22, l_23, l_24, l_25, l_26, l_27, l_28, l_29, l_30, l_31, l_32, l_33, l_34, l_35, l_36, l_37, l_38, l_39, l_40, l_41, l_42, l_43, l_44, l_45, l_46, l_47, l_48, l_49, l_50, l_51, l_52, l_53, l_54, l_55, l_56, l_57, l_59, l_60, l_61, l_62, l_63, l_64, l_65, l_80, l_86, l_87, l_88, l_89, l_90, l_91, l_92, l_93, l_94, l_95, l_97, l_99, l_100, l_107, l_119, l_122, l_124, l_129, l_140, l_141, l_142, l_143, l_144, l_145, l_147, l_150, l_159, l_160, l_161, l_162, l_205, l_253, l_255, l_256, l_269, l_305, l_380, l_399, l_400, l_420, l_430, l_516, l_600, l_720, l_820, l_905, l_921, l_937, l_953, l_970, l_999, l_1000, l_1790, l_4096, l_9999, l_1000000]
/-! the reference's words -/
theorem m_word_L {n q w : Nat} {T : zt_T} {σ : q_Sto} (hw : w < 57) (hB : zt_B (σ 165) T) (h3 : σ 157 19 = nI q) : ∀ j i, i ≤ (zt_w w).length → (zt_w w).length < j + i → (zt_pr T.1 q w i = true → q + (zt_w w).length ≤ T.2) →
    f_X12_is_L24 n 157 w j (z_fb (zt_pr T.1 q w i)) (nI i) σ = some (z_fb (zt_pr T.1 q w (zt_w w).length), σ) := by
  obtain ⟨t1, t2, t3, t4⟩ := zt_tx hw
  have hL := hB.1
  have hsl : q_slen w = nI (zt_w w).length := by unfold q_slen; rw [t3]; rfl
  have e1 : z_fb true = nI 1 := rfl
  have e0 : z_fb false = nI 0 := rfl
  intro j
  induction j with
  | zero => intro i h1 h2; omega
  | succ j ih =>
    intro i h1 h2 hp
    by_cases hi : i = (zt_w w).length
    · subst hi
      rw [f_X12_is_L24]
      cases zt_pr T.1 q w (zt_w w).length with
      | true =>
        rw [e1]
        generalize (zt_w w).length = N at *
        simp (disch := omega) only [hsl, ↓reduceIte, ↓p_ld, ↓p_st, ↓p_nm, ↓p_nS, ↓p_jn, ↓p_call, ↓p_callv, ↓p_dv, ↓p_rem, h_ldE, h_stE, h_nmE, h_nSE, h_callE, h_callvE, h_dvE, h_remE, if_true, if_false, z_upS, z_upO, z_upK, nI_add, z_mul, z_sub, z_div, Nat.add_zero, Nat.mul_zero, Nat.zero_add, Nat.sub_zero, Nat.zero_mul, z_ltT, z_ltF, z_leT, z_leF, z_eqT, z_eqF, z_inT, z_clT, not_true_eq_false, not_false_eq_true, eq_self, true_or, or_true, z_m_lt, z_m_le, z_lt_m, z_le_m, z_eq_m, z_m_eq, z_rz0, z_rz1, z_m_add, z_of, r_157_0, r_157_1, r_157_2, r_157_3, r_157_6, r_157_7, r_157_8, r_157_9, r_157_10, r_157_11, r_157_27, r_157_28, r_157_29, r_157_30, ↓z_m1, l_0, l_1, l_2, l_3, l_4, l_5, l_6, l_7, l_8, l_9, l_10, l_11, l_12, l_13, l_14, l_15, l_16, l_17, l_18, l_19, l_20, l_21, l_22, l_23, l_24, l_25, l_26, l_27, l_28, l_29, l_30, l_31, l_32, l_33, l_34, l_35, l_36, l_37, l_38, l_39, l_40, l_41, l_42, l_43, l_44, l_45, l_46, l_47, l_48, l_49, l_50, l_51, l_52, l_53, l_54, l_55, l_56, l_57, l_59, l_60, l_61, l_62, l_63, l_64, l_65, l_80, l_86, l_87, l_88, l_89, l_90, l_91, l_92, l_93, l_94, l_95, l_97, l_99, l_100, l_107, l_119, l_122, l_124, l_129, l_140, l_141, l_142, l_143, l_144, l_145, l_147, l_150, l_159, l_160, l_161, l_162, l_205, l_253, l_255, l_256, l_269, l_305, l_380, l_399, l_400, l_420, l_430, l_516, l_600, l_720, l_820, l_905, l_921, l_937, l_953, l_970, l_999, l_1000, l_1790, l_4096, l_9999, l_1000000]
      | false =>
        rw [e0]
        generalize (zt_w w).length = N at *
        simp (disch := omega) only [hsl, ↓reduceIte, ↓p_ld, ↓p_st, ↓p_nm, ↓p_nS, ↓p_jn, ↓p_call, ↓p_callv, ↓p_dv, ↓p_rem, h_ldE, h_stE, h_nmE, h_nSE, h_callE, h_callvE, h_dvE, h_remE, if_true, if_false, z_upS, z_upO, z_upK, nI_add, z_mul, z_sub, z_div, Nat.add_zero, Nat.mul_zero, Nat.zero_add, Nat.sub_zero, Nat.zero_mul, z_ltT, z_ltF, z_leT, z_leF, z_eqT, z_eqF, z_inT, z_clT, not_true_eq_false, not_false_eq_true, eq_self, true_or, or_true, z_m_lt, z_m_le, z_lt_m, z_le_m, z_eq_m, z_m_eq, z_rz0, z_rz1, z_m_add, z_of, r_157_0, r_157_1, r_157_2, r_157_3, r_157_6, r_157_7, r_157_8, r_157_9, r_157_10, r_157_11, r_157_27, r_157_28, r_157_29, r_157_30, ↓z_m1, l_0, l_1, l_2, l_3, l_4, l_5, l_6, l_7, l_8, l_9, l_10, l_11, l_12, l_13, l_14, l_15, l_16, l_17, l_18, l_19, l_20, l_21, l_22, l_23, l_24, l_25, l_26, l_27, l_28, l_29, l_30, l_31, l_32, l_33, l_34, l_35, l_36, l_37, l_38, l_39, l_40, l_41, l_42, l_43, l_44, l_45, l_46, l_47, l_48, l_49, l_50, l_51, l_52, l_53, l_54, l_55, l_56, l_57, l_59, l_60, l_61, l_62, l_63, l_64, l_65, l_80, l_86, l_87, l_88, l_89, l_90, l_91, l_92, l_93, l_94, l_95, l_97, l_99, l_100, l_107, l_119, l_122, l_124, l_129, l_140, l_141, l_142, l_143, l_144, l_145, l_147, l_150, l_159, l_160, l_161, l_162, l_205, l_253, l_255, l_256, l_269, l_305, l_380, l_399, l_400, l_420, l_430, l_516, l_600, l_720, l_820, l_905, l_921, l_937, l_953, l_970, l_999, l_1000, l_1790, l_4096, l_9999, l_1000000]
    · cases hpr : zt_pr T.1 q w i with
      | false =>
        have := zt_pr_f hpr ((zt_w w).length - i)
        rw [show i + ((zt_w w).length - i) = (zt_w w).length by omega] at this
        rw [this, e0, f_X12_is_L24]
        generalize (zt_w w).length = N at *
        simp (disch := omega) only [hsl, ↓reduceIte, ↓p_ld, ↓p_st, ↓p_nm, ↓p_nS, ↓p_jn, ↓p_call, ↓p_callv, ↓p_dv, ↓p_rem, h_ldE, h_stE, h_nmE, h_nSE, h_callE, h_callvE, h_dvE, h_remE, if_true, if_false, z_upS, z_upO, z_upK, nI_add, z_mul, z_sub, z_div, Nat.add_zero, Nat.mul_zero, Nat.zero_add, Nat.sub_zero, Nat.zero_mul, z_ltT, z_ltF, z_leT, z_leF, z_eqT, z_eqF, z_inT, z_clT, not_true_eq_false, not_false_eq_true, eq_self, true_or, or_true, z_m_lt, z_m_le, z_lt_m, z_le_m, z_eq_m, z_m_eq, z_rz0, z_rz1, z_m_add, z_of, r_157_0, r_157_1, r_157_2, r_157_3, r_157_6, r_157_7, r_157_8, r_157_9, r_157_10, r_157_11, r_157_27, r_157_28, r_157_29, r_157_30, ↓z_m1, l_0, l_1, l_2, l_3, l_4, l_5, l_6, l_7, l_8, l_9, l_10, l_11, l_12, l_13, l_14, l_15, l_16, l_17, l_18, l_19, l_20, l_21, l_22, l_23, l_24, l_25, l_26, l_27, l_28, l_29, l_30, l_31, l_32, l_33, l_34, l_35, l_36, l_37, l_38, l_39, l_40, l_41, l_42, l_43, l_44, l_45, l_46, l_47, l_48, l_49, l_50, l_51, l_52, l_53, l_54, l_55, l_56, l_57, l_59, l_60, l_61, l_62, l_63, l_64, l_65, l_80, l_86, l_87, l_88, l_89, l_90, l_91, l_92, l_93, l_94, l_95, l_97, l_99, l_100, l_107, l_119, l_122, l_124, l_129, l_140, l_141, l_142, l_143, l_144, l_145, l_147, l_150, l_159, l_160, l_161, l_162, l_205, l_253, l_255, l_256, l_269, l_305, l_380, l_399, l_400, l_420, l_430, l_516, l_600, l_720, l_820, l_905, l_921, l_937, l_953, l_970, l_999, l_1000, l_1790, l_4096, l_9999, l_1000000]
      | true =>
        have hq := hp hpr
        obtain ⟨hb, hb255⟩ := hB.2 (q+i) (by omega)
        obtain ⟨x1, x2⟩ := t4 i (by omega)
        have hsc : ∀ K : Int32 → Option (Int32 × q_Sto), q_scat w (nI i) K = K (nI ((zt_w w).getD i 0)) := fun K => by
          unfold q_scat
          rw [t3, if_pos (z_in (show i < (zt_w w).length by omega) (by omega)), z_clT (by omega), x1]
        have ep : zt_pr T.1 q w (i+1) = (zt_pr T.1 q w i && decide (T.1 (q+i) = (zt_w w).getD i 0)) := rfl
        rw [hpr, Bool.true_and] at ep
        have ih := ih (i+1) (by omega) (by omega) (fun _ => hq)
        by_cases qe : T.1 (q+i) = (zt_w w).getD i 0
        · rw [decide_eq_true qe] at ep
          rw [ep, e1] at ih
          rw [← ih, e1, f_X12_is_L24]
          generalize (zt_w w).length = N at *
          generalize (zt_w w).getD i 0 = c at *
          generalize T.1 (q+i) = c2 at *
          simp (disch := omega) only [hsl, h3, hb, hsc, ↓reduceIte, ↓p_ld, ↓p_st, ↓p_nm, ↓p_nS, ↓p_jn, ↓p_call, ↓p_callv, ↓p_dv, ↓p_rem, h_ldE, h_stE, h_nmE, h_nSE, h_callE, h_callvE, h_dvE, h_remE, if_true, if_false, z_upS, z_upO, z_upK, nI_add, z_mul, z_sub, z_div, Nat.add_zero, Nat.mul_zero, Nat.zero_add, Nat.sub_zero, Nat.zero_mul, z_ltT, z_ltF, z_leT, z_leF, z_eqT, z_eqF, z_inT, z_clT, not_true_eq_false, not_false_eq_true, eq_self, true_or, or_true, z_m_lt, z_m_le, z_lt_m, z_le_m, z_eq_m, z_m_eq, z_rz0, z_rz1, z_m_add, z_of, r_157_0, r_157_1, r_157_2, r_157_3, r_157_6, r_157_7, r_157_8, r_157_9, r_157_10, r_157_11, r_157_27, r_157_28, r_157_29, r_157_30, ↓z_m1, l_0, l_1, l_2, l_3, l_4, l_5, l_6, l_7, l_8, l_9, l_10, l_11, l_12, l_13, l_14, l_15, l_16, l_17, l_18, l_19, l_20, l_21, l_22, l_23, l_24, l_25, l_26, l_27, l_28, l_29, l_30, l_31, l_32, l_33, l_34, l_35, l_36, l_37, l_38, l_39, l_40, l_41, l_42, l_43, l_44, l_45, l_46, l_47, l_48, l_49, l_50, l_51, l_52, l_53, l_54, l_55, l_56, l_57, l_59, l_60, l_61, l_62, l_63, l_64, l_65, l_80, l_86, l_87, l_88, l_89, l_90, l_91, l_92, l_93, l_94, l_95, l_97, l_99, l_100, l_107, l_119, l_122, l_124, l_129, l_140, l_141, l_142, l_143, l_144, l_145, l_147, l_150, l_159, l_160, l_161, l_162, l_205, l_253, l_255, l_256, l_269, l_305, l_380, l_399, l_400, l_420, l_430, l_516, l_600, l_720, l_820, l_905, l_921, l_937, l_953, l_970, l_999, l_1000, l_1790, l_4096, l_9999, l_1000000]
        · rw [decide_eq_false qe] at ep
          rw [ep, e0] at ih
          rw [← ih, e1, f_X12_is_L24]
          generalize (zt_w w).length = N at *
          generalize (zt_w w).getD i 0 = c at *
          generalize T.1 (q+i) = c2 at *
          simp (disch := omega) only [hsl, h3, hb, hsc, ↓reduceIte, ↓p_ld, ↓p_st, ↓p_nm, ↓p_nS, ↓p_jn, ↓p_call, ↓p_callv, ↓p_dv, ↓p_rem, h_ldE, h_stE, h_nmE, h_nSE, h_callE, h_callvE, h_dvE, h_remE, if_true, if_false, z_upS, z_upO, z_upK, nI_add, z_mul, z_sub, z_div, Nat.add_zero, Nat.mul_zero, Nat.zero_add, Nat.sub_zero, Nat.zero_mul, z_ltT, z_ltF, z_leT, z_leF, z_eqT, z_eqF, z_inT, z_clT, not_true_eq_false, not_false_eq_true, eq_self, true_or, or_true, z_m_lt, z_m_le, z_lt_m, z_le_m, z_eq_m, z_m_eq, z_rz0, z_rz1, z_m_add, z_of, r_157_0, r_157_1, r_157_2, r_157_3, r_157_6, r_157_7, r_157_8, r_157_9, r_157_10, r_157_11, r_157_27, r_157_28, r_157_29, r_157_30, ↓z_m1, l_0, l_1, l_2, l_3, l_4, l_5, l_6, l_7, l_8, l_9, l_10, l_11, l_12, l_13, l_14, l_15, l_16, l_17, l_18, l_19, l_20, l_21, l_22, l_23, l_24, l_25, l_26, l_27, l_28, l_29, l_30, l_31, l_32, l_33, l_34, l_35, l_36, l_37, l_38, l_39, l_40, l_41, l_42, l_43, l_44, l_45, l_46, l_47, l_48, l_49, l_50, l_51, l_52, l_53, l_54, l_55, l_56, l_57, l_59, l_60, l_61, l_62, l_63, l_64, l_65, l_80, l_86, l_87, l_88, l_89, l_90, l_91, l_92, l_93, l_94, l_95, l_97, l_99, l_100, l_107, l_119, l_122, l_124, l_129, l_140, l_141, l_142, l_143, l_144, l_145, l_147, l_150, l_159, l_160, l_161, l_162, l_205, l_253, l_255, l_256, l_269, l_305, l_380, l_399, l_400, l_420, l_430, l_516, l_600, l_720, l_820, l_905, l_921, l_937, l_953, l_970, l_999, l_1000, l_1790, l_4096, l_9999, l_1000000]
theorem m_is {n w p : Nat} {T : zt_T} {σ : q_Sto} (hn : 402 ≤ n) (hw : w < 57) (hp : p ≤ T.2) (hB : zt_B (σ 165) T) (h17 : σ 157 17 = nI (zt_nx T p)) (h19 : σ 157 19 = nI (zt_at T p)) : f_X12_is n 157 w σ = some (z_fb (decide (zt_by T p = zt_w w)), σ) := by
  obtain ⟨t1, t2, t3, t4⟩ := zt_tx hw
  obtain ⟨b1, b2⟩ := zt_at_b hp
  obtain ⟨b3, b4, -⟩ := zt_nx_b hp
  have hL := hB.1
  have hsl : q_slen w = nI (zt_w w).length := by unfold q_slen; rw [t3]; rfl
  have e1 : z_fb true = nI 1 := rfl
  have e0 : z_fb false = nI 0 := rfl
  unfold f_X12_is
  by_cases q2 : zt_nx T p - zt_at T p = (zt_w w).length
  · have key := m_word_L (n := n) hw hB h19 n 0 (Nat.zero_le _) (by omega) (fun _ => by omega)
    have ep : zt_pr T.1 (zt_at T p) w 0 = true := rfl
    rw [ep, e1] at key
    have ed : decide (zt_by T p = zt_w w) = zt_pr T.1 (zt_at T p) w (zt_w w).length := by
      cases hpr : zt_pr T.1 (zt_at T p) w (zt_w w).length with
      | true => exact decide_eq_true (zt_by_w.mpr ⟨q2, hpr⟩)
      | false => exact decide_eq_false (fun h => by
          have := (zt_by_w.mp h).2
          rw [hpr] at this; cases this)
    rw [ed, ← key]
    generalize zt_at T p = A at *
    generalize zt_nx T p = X at *
    generalize (zt_w w).length = N at *
    simp (disch := omega) only [h17, h19, hsl, ↓reduceIte, ↓p_ld, ↓p_st, ↓p_nm, ↓p_nS, ↓p_jn, ↓p_call, ↓p_callv, ↓p_dv, ↓p_rem, h_ldE, h_stE, h_nmE, h_nSE, h_callE, h_callvE, h_dvE, h_remE, if_true, if_false, z_upS, z_upO, z_upK, nI_add, z_mul, z_sub, z_div, Nat.add_zero, Nat.mul_zero, Nat.zero_add, Nat.sub_zero, Nat.zero_mul, z_ltT, z_ltF, z_leT, z_leF, z_eqT, z_eqF, z_inT, z_clT, not_true_eq_false, not_false_eq_true, eq_self, true_or, or_true, z_m_lt, z_m_le, z_lt_m, z_le_m, z_eq_m, z_m_eq, z_rz0, z_rz1, z_m_add, z_of, r_157_0, r_157_1, r_157_2, r_157_3, r_157_6, r_157_7, r_157_8, r_157_9, r_157_10, r_157_11, r_157_27, r_157_28, r_157_29, r_157_30, ↓z_m1, l_0, l_1, l_2, l_3, l_4, l_5, l_6, l_7, l_8, l_9, l_10, l_11, l_12, l_13, l_14, l_15, l_16, l_17, l_18, l_19, l_20, l_21, l_22, l_23, l_24, l_25, l_26, l_27, l_28, l_29, l_30, l_31, l_32, l_33, l_34, l_35, l_36, l_37, l_38, l_39, l_40, l_41, l_42, l_43, l_44, l_45, l_46, l_47, l_48, l_49, l_50, l_51, l_52, l_53, l_54, l_55, l_56, l_57, l_59, l_60, l_61, l_62, l_63, l_64, l_65, l_80, l_86, l_87, l_88, l_89, l_90, l_91, l_92, l_93, l_94, l_95, l_97, l_99, l_100, l_107, l_119, l_122, l_124, l_129, l_140, l_141, l_142, l_143, l_144, l_145, l_147, l_150, l_159, l_160, l_161, l_162, l_205, l_253, l_255, l_256, l_269, l_305, l_380, l_399, l_400, l_420, l_430, l_516, l_600, l_720, l_820, l_905, l_921, l_937, l_953, l_970, l_999, l_1000, l_1790, l_4096, l_9999, l_1000000]
  · obtain ⟨N', rfl⟩ : ∃ n', n = n' + 1 := ⟨n - 1, by omega⟩
    rw [decide_eq_false (fun h => q2 (zt_by_w.mp h).1), e0]
    generalize zt_at T p = A at *
    generalize zt_nx T p = X at *
    have e24 : f_X12_is_L24 (N'+1) 157 w (N'+1) (nI 0) (nI 0) σ = some (nI 0, σ) := by
      rw [f_X12_is_L24]
      generalize (zt_w w).length = N at *
      simp (disch := omega) only [hsl, ↓reduceIte, ↓p_ld, ↓p_st, ↓p_nm, ↓p_nS, ↓p_jn, ↓p_call, ↓p_callv, ↓p_dv, ↓p_rem, h_ldE, h_stE, h_nmE, h_nSE, h_callE, h_callvE, h_dvE, h_remE, if_true, if_false, z_upS, z_upO, z_upK, nI_add, z_mul, z_sub, z_div, Nat.add_zero, Nat.mul_zero, Nat.zero_add, Nat.sub_zero, Nat.zero_mul, z_ltT, z_ltF, z_leT, z_leF, z_eqT, z_eqF, z_inT, z_clT, not_true_eq_false, not_false_eq_true, eq_self, true_or, or_true, z_m_lt, z_m_le, z_lt_m, z_le_m, z_eq_m, z_m_eq, z_rz0, z_rz1, z_m_add, z_of, r_157_0, r_157_1, r_157_2, r_157_3, r_157_6, r_157_7, r_157_8, r_157_9, r_157_10, r_157_11, r_157_27, r_157_28, r_157_29, r_157_30, ↓z_m1, l_0, l_1, l_2, l_3, l_4, l_5, l_6, l_7, l_8, l_9, l_10, l_11, l_12, l_13, l_14, l_15, l_16, l_17, l_18, l_19, l_20, l_21, l_22, l_23, l_24, l_25, l_26, l_27, l_28, l_29, l_30, l_31, l_32, l_33, l_34, l_35, l_36, l_37, l_38, l_39, l_40, l_41, l_42, l_43, l_44, l_45, l_46, l_47, l_48, l_49, l_50, l_51, l_52, l_53, l_54, l_55, l_56, l_57, l_59, l_60, l_61, l_62, l_63, l_64, l_65, l_80, l_86, l_87, l_88, l_89, l_90, l_91, l_92, l_93, l_94, l_95, l_97, l_99, l_100, l_107, l_119, l_122, l_124, l_129, l_140, l_141, l_142, l_143, l_144, l_145, l_147, l_150, l_159, l_160, l_161, l_162, l_205, l_253, l_255, l_256, l_269, l_305, l_380, l_399, l_400, l_420, l_430, l_516, l_600, l_720, l_820, l_905, l_921, l_937, l_953, l_970, l_999, l_1000, l_1790, l_4096, l_9999, l_1000000]
    generalize (zt_w w).length = N at *
    simp (disch := omega) only [h17, h19, hsl, e24, ↓reduceIte, ↓p_ld, ↓p_st, ↓p_nm, ↓p_nS, ↓p_jn, ↓p_call, ↓p_callv, ↓p_dv, ↓p_rem, h_ldE, h_stE, h_nmE, h_nSE, h_callE, h_callvE, h_dvE, h_remE, if_true, if_false, z_upS, z_upO, z_upK, nI_add, z_mul, z_sub, z_div, Nat.add_zero, Nat.mul_zero, Nat.zero_add, Nat.sub_zero, Nat.zero_mul, z_ltT, z_ltF, z_leT, z_leF, z_eqT, z_eqF, z_inT, z_clT, not_true_eq_false, not_false_eq_true, eq_self, true_or, or_true, z_m_lt, z_m_le, z_lt_m, z_le_m, z_eq_m, z_m_eq, z_rz0, z_rz1, z_m_add, z_of, r_157_0, r_157_1, r_157_2, r_157_3, r_157_6, r_157_7, r_157_8, r_157_9, r_157_10, r_157_11, r_157_27, r_157_28, r_157_29, r_157_30, ↓z_m1, l_0, l_1, l_2, l_3, l_4, l_5, l_6, l_7, l_8, l_9, l_10, l_11, l_12, l_13, l_14, l_15, l_16, l_17, l_18, l_19, l_20, l_21, l_22, l_23, l_24, l_25, l_26, l_27, l_28, l_29, l_30, l_31, l_32, l_33, l_34, l_35, l_36, l_37, l_38, l_39, l_40, l_41, l_42, l_43, l_44, l_45, l_46, l_47, l_48, l_49, l_50, l_51, l_52, l_53, l_54, l_55, l_56, l_57, l_59, l_60, l_61, l_62, l_63, l_64, l_65, l_80, l_86, l_87, l_88, l_89, l_90, l_91, l_92, l_93, l_94, l_95, l_97, l_99, l_100, l_107, l_119, l_122, l_124, l_129, l_140, l_141, l_142, l_143, l_144, l_145, l_147, l_150, l_159, l_160, l_161, l_162, l_205, l_253, l_255, l_256, l_269, l_305, l_380, l_399, l_400, l_420, l_430, l_516, l_600, l_720, l_820, l_905, l_921, l_937, l_953, l_970, l_999, l_1000, l_1790, l_4096, l_9999, l_1000000]
/-- what is read for a text: words and codes -/
def zt_tb : Nat → List (Nat × Nat)
  | 0 => [(30, 3), (31, 4), (32, 5), (33, 6), (34, 20), (35, 21), (36, 22), (37, 41), (38, 42), (39, 43), (40, 44), (41, 45), (42, 46), (43, 47), (44, 48), (45, 49), (46, 50)]
  | 1 => [(37, 7), (47, 8), (32, 5)]
  | 2 => [(48, 9), (49, 10), (50, 11), (51, 12), (52, 13), (53, 14)]
  | 3 => [(54, 15), (45, 16)]
  | _ => [(55, 17), (56, 18)]
theorem zt_tb0 : zt_tb 0 = [(30, 3), (31, 4), (32, 5), (33, 6), (34, 20), (35, 21), (36, 22), (37, 41), (38, 42), (39, 43), (40, 44), (41, 45), (42, 46), (43, 47), (44, 48), (45, 49), (46, 50)] := rfl
theorem zt_tb1 : zt_tb 1 = [(37, 7), (47, 8), (32, 5)] := rfl
theorem zt_tb2 : zt_tb 2 = [(48, 9), (49, 10), (50, 11), (51, 12), (52, 13), (53, 14)] := rfl
theorem zt_tb3 : zt_tb 3 = [(54, 15), (45, 16)] := rfl
theorem zt_tb4 : zt_tb 4 = [(55, 17), (56, 18)] := rfl
def zt_lk : List (Nat × Nat) → List Nat → Nat
  | [], _ => 1
  | (i, c) :: t, l => if l = zt_w i then c else zt_lk t l
def zt_sg (c : Nat) : Bool := (([59, 43, 45, 42, 47, 40, 41, 60, 61, 62] : List Nat).contains c)
def zt_cd (k : Nat) (T : zt_T) (p : Nat) : Nat := if zt_kd T p = 0 then 0 else if zt_kd T p = 1 then zt_lk (zt_tb k) (zt_by T p) else if zt_kd T p = 2 then (if zt_nx T p - zt_at T p < 5 then 2 else 1) else (if zt_sg (T.1 (zt_at T p)) = true then 100 + T.1 (zt_at T p) else 1)
theorem m_isC {n w p : Nat} {T : zt_T} {σ : q_Sto} {A D : q_Sto → Option (Int32 × q_Sto)} (hn : 402 ≤ n) (hp : p ≤ T.2) (hB : zt_B (σ 165) T) (h17 : σ 157 17 = nI (zt_nx T p)) (h19 : σ 157 19 = nI (zt_at T p)) (hw : w < 57) :
    q_call (f_X12_is n 157 w σ) (fun r s => if r = 0 then A s else D s) = if zt_by T p = zt_w w then D σ else A σ := by
  rw [m_is hn hw hp hB h17 h19, z_call]
  by_cases q : zt_by T p = zt_w w
  · rw [decide_eq_true q, if_pos q]
    exact if_neg (by show ¬ nI 1 = nI 0; decide)
  · rw [decide_eq_false q, if_neg q]
    exact if_pos rfl
theorem zt_ite {c : Prop} [Decidable c] {a b : Nat} {s : q_Sto} : some (nI (if c then a else b), s) = if c then some (nI a, s) else some (nI b, s) := by
  split <;> rfl
theorem m_word {n k p : Nat} {T : zt_T} {σ : q_Sto} (hn : 402 ≤ n) (hk : k < 5) (hp : p ≤ T.2) (hB : zt_B (σ 165) T) (h17 : σ 157 17 = nI (zt_nx T p)) (h19 : σ 157 19 = nI (zt_at T p)) (h12 : σ 157 12 = nI k) : f_X12_word n 157 σ = some (nI (zt_lk (zt_tb k) (zt_by T p)), σ) := by
  have M := fun (A D : q_Sto → Option (Int32 × q_Sto)) (w : Nat) (hw : w < 57) => m_isC (A := A) (D := D) hn hp hB h17 h19 hw
  unfold f_X12_word
  rw [h12]
  have hc : k = 0 ∨ k = 1 ∨ k = 2 ∨ k = 3 ∨ k = 4 := by omega
  rcases hc with rfl | rfl | rfl | rfl | rfl
  · rw [if_pos (show nI 0 = 0 from rfl)]
    have ea : f_X12_asked n 157 σ = some (nI (zt_lk [(37, 41), (38, 42), (39, 43), (40, 44), (41, 45), (42, 46), (43, 47), (44, 48), (45, 49), (46, 50)] (zt_by T p)), σ) := by
      unfold f_X12_asked
      rw [M _ _ 37 (by omega), M _ _ 38 (by omega), M _ _ 39 (by omega), M _ _ 40 (by omega), M _ _ 41 (by omega), M _ _ 42 (by omega), M _ _ 43 (by omega), M _ _ 44 (by omega), M _ _ 45 (by omega), M _ _ 46 (by omega)]
      simp only [zt_lk, zt_ite]
      rfl
    have el : f_X12_lawWord n 157 σ = some (nI (zt_lk (zt_tb 0) (zt_by T p)), σ) := by
      unfold f_X12_lawWord
      rw [M _ _ 30 (by omega), M _ _ 31 (by omega), M _ _ 32 (by omega), M _ _ 33 (by omega), M _ _ 34 (by omega), M _ _ 35 (by omega), M _ _ 36 (by omega), ea, z_call]
      simp only [zt_tb0, zt_lk, zt_ite]
      rfl
    rw [el, z_call]
  · rw [if_neg (by show ¬ nI 1 = nI 0; decide), if_pos (show nI 1 = 1 from rfl)]
    unfold f_X12_heedWord
    rw [M _ _ 37 (by omega), M _ _ 47 (by omega), M _ _ 32 (by omega)]
    simp only [zt_tb1, zt_lk]
    by_cases q1 : zt_by T p = zt_w 37
    · rw [if_pos q1, if_pos q1]; rfl
    · rw [if_neg q1, if_neg q1]
      by_cases q2 : zt_by T p = zt_w 47
      · rw [if_pos q2, if_pos q2]; rfl
      · rw [if_neg q2, if_neg q2]
        by_cases q3 : zt_by T p = zt_w 32
        · rw [if_pos q3, if_pos q3]; rfl
        · rw [if_neg q3, if_neg q3]; rfl
  · rw [if_neg (by show ¬ nI 2 = nI 0; decide), if_neg (by show ¬ nI 2 = nI 1; decide), if_pos (show nI 2 = 2 from rfl)]
    have el : f_X12_planWord n 157 σ = some (nI (zt_lk (zt_tb 2) (zt_by T p)), σ) := by
      unfold f_X12_planWord
      rw [M _ _ 48 (by omega), M _ _ 49 (by omega), M _ _ 50 (by omega), M _ _ 51 (by omega), M _ _ 52 (by omega), M _ _ 53 (by omega)]
      simp only [zt_tb2, zt_lk, zt_ite]
      rfl
    rw [el, z_call]
  · rw [if_neg (by show ¬ nI 3 = nI 0; decide), if_neg (by show ¬ nI 3 = nI 1; decide), if_neg (by show ¬ nI 3 = nI 2; decide), if_pos (show nI 3 = 3 from rfl)]
    rw [M _ _ 54 (by omega), M _ _ 45 (by omega)]
    simp only [zt_tb3, zt_lk, zt_ite]
    rfl
  · rw [if_neg (by show ¬ nI 4 = nI 0; decide), if_neg (by show ¬ nI 4 = nI 1; decide), if_neg (by show ¬ nI 4 = nI 2; decide), if_neg (by show ¬ nI 4 = nI 3; decide)]
    rw [M _ _ 55 (by omega), M _ _ 56 (by omega)]
    simp only [zt_tb4, zt_lk, zt_ite]
    rfl
/-! TEXTS: the reference's tokens -/
def zt_R (σ : q_Sto) (T : zt_T) (k p : Nat) : Prop := zt_B (σ 165) T ∧ p ≤ T.2 ∧ k < 5 ∧ σ 157 16 = nI T.2 ∧ σ 157 12 = nI k ∧ σ 157 17 = nI (zt_nx T p) ∧ σ 157 18 = nI (zt_cd k T p) ∧ σ 157 19 = nI (zt_at T p) ∧ (zt_cd k T p = 2 → σ 157 20 = nI (zt_va T p))
theorem zt_R.fr {σ σ' : q_Sto} {T : zt_T} {k p : Nat} (h : zt_R σ T k p) (e3 : σ' 165 = σ 165) (e : ∀ a, a = 12 ∨ a = 16 ∨ a = 17 ∨ a = 18 ∨ a = 19 ∨ a = 20 → σ' 157 a = σ 157 a) : zt_R σ' T k p := by
  unfold zt_R at *
  rw [e3, e 12 (by omega), e 16 (by omega), e 17 (by omega), e 18 (by omega), e 19 (by omega), e 20 (by omega)]
  exact h
theorem m_see {n i : Nat} {σ : q_Sto} {T : zt_T} (hB : zt_B (σ 165) T) (h1 : σ 157 16 = nI T.2) (hi : i < T.2) : f_X12_see n 157 (nI i) σ = some (nI (T.1 i), σ) := by
  have hL := hB.1
  have hb := (hB.2 i hi).1
  unfold f_X12_see
  simp (disch := omega) only [h1, hb, ↓reduceIte, ↓p_ld, ↓p_st, ↓p_nm, ↓p_nS, ↓p_jn, ↓p_call, ↓p_callv, ↓p_dv, ↓p_rem, h_ldE, h_stE, h_nmE, h_nSE, h_callE, h_callvE, h_dvE, h_remE, if_true, if_false, z_upS, z_upO, z_upK, nI_add, z_mul, z_sub, z_div, Nat.add_zero, Nat.mul_zero, Nat.zero_add, Nat.sub_zero, Nat.zero_mul, z_ltT, z_ltF, z_leT, z_leF, z_eqT, z_eqF, z_inT, z_clT, not_true_eq_false, not_false_eq_true, eq_self, true_or, or_true, z_m_lt, z_m_le, z_lt_m, z_le_m, z_eq_m, z_m_eq, z_rz0, z_rz1, z_m_add, z_of, r_157_0, r_157_1, r_157_2, r_157_3, r_157_6, r_157_7, r_157_8, r_157_9, r_157_10, r_157_11, r_157_27, r_157_28, r_157_29, r_157_30, ↓z_m1, l_0, l_1, l_2, l_3, l_4, l_5, l_6, l_7, l_8, l_9, l_10, l_11, l_12, l_13, l_14, l_15, l_16, l_17, l_18, l_19, l_20, l_21, l_22, l_23, l_24, l_25, l_26, l_27, l_28, l_29, l_30, l_31, l_32, l_33, l_34, l_35, l_36, l_37, l_38, l_39, l_40, l_41, l_42, l_43, l_44, l_45, l_46, l_47, l_48, l_49, l_50, l_51, l_52, l_53, l_54, l_55, l_56, l_57, l_59, l_60, l_61, l_62, l_63, l_64, l_65, l_80, l_86, l_87, l_88, l_89, l_90, l_91, l_92, l_93, l_94, l_95, l_97, l_99, l_100, l_107, l_119, l_122, l_124, l_129, l_140, l_141, l_142, l_143, l_144, l_145, l_147, l_150, l_159, l_160, l_161, l_162, l_205, l_253, l_255, l_256, l_269, l_305, l_380, l_399, l_400, l_420, l_430, l_516, l_600, l_720, l_820, l_905, l_921, l_937, l_953, l_970, l_999, l_1000, l_1790, l_4096, l_9999, l_1000000]
theorem m_see0 {n i : Nat} {σ : q_Sto} {T : zt_T} (hB : zt_B (σ 165) T) (h1 : σ 157 16 = nI T.2) (hi : T.2 ≤ i) (hi2 : i < 2147483648) : f_X12_see n 157 (nI i) σ = some (z_m, σ) := by
  have hL := hB.1
  unfold f_X12_see
  simp (disch := omega) only [h1, ↓reduceIte, ↓p_ld, ↓p_st, ↓p_nm, ↓p_nS, ↓p_jn, ↓p_call, ↓p_callv, ↓p_dv, ↓p_rem, h_ldE, h_stE, h_nmE, h_nSE, h_callE, h_callvE, h_dvE, h_remE, if_true, if_false, z_upS, z_upO, z_upK, nI_add, z_mul, z_sub, z_div, Nat.add_zero, Nat.mul_zero, Nat.zero_add, Nat.sub_zero, Nat.zero_mul, z_ltT, z_ltF, z_leT, z_leF, z_eqT, z_eqF, z_inT, z_clT, not_true_eq_false, not_false_eq_true, eq_self, true_or, or_true, z_m_lt, z_m_le, z_lt_m, z_le_m, z_eq_m, z_m_eq, z_rz0, z_rz1, z_m_add, z_of, r_157_0, r_157_1, r_157_2, r_157_3, r_157_6, r_157_7, r_157_8, r_157_9, r_157_10, r_157_11, r_157_27, r_157_28, r_157_29, r_157_30, ↓z_m1, l_0, l_1, l_2, l_3, l_4, l_5, l_6, l_7, l_8, l_9, l_10, l_11, l_12, l_13, l_14, l_15, l_16, l_17, l_18, l_19, l_20, l_21, l_22, l_23, l_24, l_25, l_26, l_27, l_28, l_29, l_30, l_31, l_32, l_33, l_34, l_35, l_36, l_37, l_38, l_39, l_40, l_41, l_42, l_43, l_44, l_45, l_46, l_47, l_48, l_49, l_50, l_51, l_52, l_53, l_54, l_55, l_56, l_57, l_59, l_60, l_61, l_62, l_63, l_64, l_65, l_80, l_86, l_87, l_88, l_89, l_90, l_91, l_92, l_93, l_94, l_95, l_97, l_99, l_100, l_107, l_119, l_122, l_124, l_129, l_140, l_141, l_142, l_143, l_144, l_145, l_147, l_150, l_159, l_160, l_161, l_162, l_205, l_253, l_255, l_256, l_269, l_305, l_380, l_399, l_400, l_420, l_430, l_516, l_600, l_720, l_820, l_905, l_921, l_937, l_953, l_970, l_999, l_1000, l_1790, l_4096, l_9999, l_1000000]
theorem z_w_out {c lo hi : Nat} (hc : c < 2147483648) (hh : hi < 2147483648) (h : c < lo ∨ hi < c) (hl : lo < 2147483648) : z_w (nI c) (nI lo) (nI hi) = nI 0 := by
  unfold z_w
  rcases h with h | h
  · rw [if_pos ((nI_ltI (by omega) (by omega)).mpr h)]
  · by_cases q : c < lo
    · rw [if_pos ((nI_ltI (by omega) (by omega)).mpr q)]
    · rw [if_neg (fun g => q ((nI_ltI (by omega) (by omega)).mp g)), if_neg (fun g => by rw [nI_leI (by omega) (by omega)] at g; omega)]
theorem m_isLetter {n c : Nat} {σ : q_Sto} (hc : c < 2147483648) : f_X12_isLetter n (nI c) σ = some (z_fb (zt_il c), σ) := by
  have e1 : z_fb true = nI 1 := rfl
  have e0 : z_fb false = nI 0 := rfl
  unfold f_X12_isLetter
  by_cases q1 : 97 ≤ c ∧ c ≤ 122
  · have : zt_il c = true := by unfold zt_il; simp; omega
    have ew := z_w_in q1.1 q1.2 (by omega)
    rw [this, e1]
    simp (disch := omega) only [m_isIn, ew, ↓reduceIte, ↓p_ld, ↓p_st, ↓p_nm, ↓p_nS, ↓p_jn, ↓p_call, ↓p_callv, ↓p_dv, ↓p_rem, h_ldE, h_stE, h_nmE, h_nSE, h_callE, h_callvE, h_dvE, h_remE, if_true, if_false, z_upS, z_upO, z_upK, nI_add, z_mul, z_sub, z_div, Nat.add_zero, Nat.mul_zero, Nat.zero_add, Nat.sub_zero, Nat.zero_mul, z_ltT, z_ltF, z_leT, z_leF, z_eqT, z_eqF, z_inT, z_clT, not_true_eq_false, not_false_eq_true, eq_self, true_or, or_true, z_m_lt, z_m_le, z_lt_m, z_le_m, z_eq_m, z_m_eq, z_rz0, z_rz1, z_m_add, z_of, r_157_0, r_157_1, r_157_2, r_157_3, r_157_6, r_157_7, r_157_8, r_157_9, r_157_10, r_157_11, r_157_27, r_157_28, r_157_29, r_157_30, ↓z_m1, l_0, l_1, l_2, l_3, l_4, l_5, l_6, l_7, l_8, l_9, l_10, l_11, l_12, l_13, l_14, l_15, l_16, l_17, l_18, l_19, l_20, l_21, l_22, l_23, l_24, l_25, l_26, l_27, l_28, l_29, l_30, l_31, l_32, l_33, l_34, l_35, l_36, l_37, l_38, l_39, l_40, l_41, l_42, l_43, l_44, l_45, l_46, l_47, l_48, l_49, l_50, l_51, l_52, l_53, l_54, l_55, l_56, l_57, l_59, l_60, l_61, l_62, l_63, l_64, l_65, l_80, l_86, l_87, l_88, l_89, l_90, l_91, l_92, l_93, l_94, l_95, l_97, l_99, l_100, l_107, l_119, l_122, l_124, l_129, l_140, l_141, l_142, l_143, l_144, l_145, l_147, l_150, l_159, l_160, l_161, l_162, l_205, l_253, l_255, l_256, l_269, l_305, l_380, l_399, l_400, l_420, l_430, l_516, l_600, l_720, l_820, l_905, l_921, l_937, l_953, l_970, l_999, l_1000, l_1790, l_4096, l_9999, l_1000000]
  · have ew := z_w_out (lo := 97) (hi := 122) hc (by omega) (by omega) (by omega)
    by_cases q2 : 65 ≤ c ∧ c ≤ 90
    · have : zt_il c = true := by unfold zt_il; simp; omega
      have ew2 := z_w_in q2.1 q2.2 (by omega)
      rw [this, e1]
      simp (disch := omega) only [m_isIn, ew, ew2, ↓reduceIte, ↓p_ld, ↓p_st, ↓p_nm, ↓p_nS, ↓p_jn, ↓p_call, ↓p_callv, ↓p_dv, ↓p_rem, h_ldE, h_stE, h_nmE, h_nSE, h_callE, h_callvE, h_dvE, h_remE, if_true, if_false, z_upS, z_upO, z_upK, nI_add, z_mul, z_sub, z_div, Nat.add_zero, Nat.mul_zero, Nat.zero_add, Nat.sub_zero, Nat.zero_mul, z_ltT, z_ltF, z_leT, z_leF, z_eqT, z_eqF, z_inT, z_clT, not_true_eq_false, not_false_eq_true, eq_self, true_or, or_true, z_m_lt, z_m_le, z_lt_m, z_le_m, z_eq_m, z_m_eq, z_rz0, z_rz1, z_m_add, z_of, r_157_0, r_157_1, r_157_2, r_157_3, r_157_6, r_157_7, r_157_8, r_157_9, r_157_10, r_157_11, r_157_27, r_157_28, r_157_29, r_157_30, ↓z_m1, l_0, l_1, l_2, l_3, l_4, l_5, l_6, l_7, l_8, l_9, l_10, l_11, l_12, l_13, l_14, l_15, l_16, l_17, l_18, l_19, l_20, l_21, l_22, l_23, l_24, l_25, l_26, l_27, l_28, l_29, l_30, l_31, l_32, l_33, l_34, l_35, l_36, l_37, l_38, l_39, l_40, l_41, l_42, l_43, l_44, l_45, l_46, l_47, l_48, l_49, l_50, l_51, l_52, l_53, l_54, l_55, l_56, l_57, l_59, l_60, l_61, l_62, l_63, l_64, l_65, l_80, l_86, l_87, l_88, l_89, l_90, l_91, l_92, l_93, l_94, l_95, l_97, l_99, l_100, l_107, l_119, l_122, l_124, l_129, l_140, l_141, l_142, l_143, l_144, l_145, l_147, l_150, l_159, l_160, l_161, l_162, l_205, l_253, l_255, l_256, l_269, l_305, l_380, l_399, l_400, l_420, l_430, l_516, l_600, l_720, l_820, l_905, l_921, l_937, l_953, l_970, l_999, l_1000, l_1790, l_4096, l_9999, l_1000000]
    · have : zt_il c = false := by unfold zt_il; simp; omega
      have ew2 := z_w_out (lo := 65) (hi := 90) hc (by omega) (by omega) (by omega)
      rw [this, e0]
      simp (disch := omega) only [m_isIn, ew, ew2, ↓reduceIte, ↓p_ld, ↓p_st, ↓p_nm, ↓p_nS, ↓p_jn, ↓p_call, ↓p_callv, ↓p_dv, ↓p_rem, h_ldE, h_stE, h_nmE, h_nSE, h_callE, h_callvE, h_dvE, h_remE, if_true, if_false, z_upS, z_upO, z_upK, nI_add, z_mul, z_sub, z_div, Nat.add_zero, Nat.mul_zero, Nat.zero_add, Nat.sub_zero, Nat.zero_mul, z_ltT, z_ltF, z_leT, z_leF, z_eqT, z_eqF, z_inT, z_clT, not_true_eq_false, not_false_eq_true, eq_self, true_or, or_true, z_m_lt, z_m_le, z_lt_m, z_le_m, z_eq_m, z_m_eq, z_rz0, z_rz1, z_m_add, z_of, r_157_0, r_157_1, r_157_2, r_157_3, r_157_6, r_157_7, r_157_8, r_157_9, r_157_10, r_157_11, r_157_27, r_157_28, r_157_29, r_157_30, ↓z_m1, l_0, l_1, l_2, l_3, l_4, l_5, l_6, l_7, l_8, l_9, l_10, l_11, l_12, l_13, l_14, l_15, l_16, l_17, l_18, l_19, l_20, l_21, l_22, l_23, l_24, l_25, l_26, l_27, l_28, l_29, l_30, l_31, l_32, l_33, l_34, l_35, l_36, l_37, l_38, l_39, l_40, l_41, l_42, l_43, l_44, l_45, l_46, l_47, l_48, l_49, l_50, l_51, l_52, l_53, l_54, l_55, l_56, l_57, l_59, l_60, l_61, l_62, l_63, l_64, l_65, l_80, l_86, l_87, l_88, l_89, l_90, l_91, l_92, l_93, l_94, l_95, l_97, l_99, l_100, l_107, l_119, l_122, l_124, l_129, l_140, l_141, l_142, l_143, l_144, l_145, l_147, l_150, l_159, l_160, l_161, l_162, l_205, l_253, l_255, l_256, l_269, l_305, l_380, l_399, l_400, l_420, l_430, l_516, l_600, l_720, l_820, l_905, l_921, l_937, l_953, l_970, l_999, l_1000, l_1790, l_4096, l_9999, l_1000000]
theorem m_isDigit {n c : Nat} {σ : q_Sto} (hc : c < 2147483648) : f_X12_isDigit n (nI c) σ = some (z_fb (zt_id c), σ) := by
  have e1 : z_fb true = nI 1 := rfl
  have e0 : z_fb false = nI 0 := rfl
  unfold f_X12_isDigit
  by_cases q1 : 48 ≤ c ∧ c ≤ 57
  · have : zt_id c = true := by unfold zt_id; simp; omega
    have ew := z_w_in q1.1 q1.2 (by omega)
    rw [this, e1]
    simp (disch := omega) only [m_isIn, ew, ↓reduceIte, ↓p_ld, ↓p_st, ↓p_nm, ↓p_nS, ↓p_jn, ↓p_call, ↓p_callv, ↓p_dv, ↓p_rem, h_ldE, h_stE, h_nmE, h_nSE, h_callE, h_callvE, h_dvE, h_remE, if_true, if_false, z_upS, z_upO, z_upK, nI_add, z_mul, z_sub, z_div, Nat.add_zero, Nat.mul_zero, Nat.zero_add, Nat.sub_zero, Nat.zero_mul, z_ltT, z_ltF, z_leT, z_leF, z_eqT, z_eqF, z_inT, z_clT, not_true_eq_false, not_false_eq_true, eq_self, true_or, or_true, z_m_lt, z_m_le, z_lt_m, z_le_m, z_eq_m, z_m_eq, z_rz0, z_rz1, z_m_add, z_of, r_157_0, r_157_1, r_157_2, r_157_3, r_157_6, r_157_7, r_157_8, r_157_9, r_157_10, r_157_11, r_157_27, r_157_28, r_157_29, r_157_30, ↓z_m1, l_0, l_1, l_2, l_3, l_4, l_5, l_6, l_7, l_8, l_9, l_10, l_11, l_12, l_13, l_14, l_15, l_16, l_17, l_18, l_19, l_20, l_21, l_22, l_23, l_24, l_25, l_26, l_27, l_28, l_29, l_30, l_31, l_32, l_33, l_34, l_35, l_36, l_37, l_38, l_39, l_40, l_41, l_42, l_43, l_44, l_45, l_46, l_47, l_48, l_49, l_50, l_51, l_52, l_53, l_54, l_55, l_56, l_57, l_59, l_60, l_61, l_62, l_63, l_64, l_65, l_80, l_86, l_87, l_88, l_89, l_90, l_91, l_92, l_93, l_94, l_95, l_97, l_99, l_100, l_107, l_119, l_122, l_124, l_129, l_140, l_141, l_142, l_143, l_144, l_145, l_147, l_150, l_159, l_160, l_161, l_162, l_205, l_253, l_255, l_256, l_269, l_305, l_380, l_399, l_400, l_420, l_430, l_516, l_600, l_720, l_820, l_905, l_921, l_937, l_953, l_970, l_999, l_1000, l_1790, l_4096, l_9999, l_1000000]
  · have : zt_id c = false := by unfold zt_id; simp; omega
    have ew := z_w_out (lo := 48) (hi := 57) hc (by omega) (by omega) (by omega)
    rw [this, e0]
    simp (disch := omega) only [m_isIn, ew, ↓reduceIte, ↓p_ld, ↓p_st, ↓p_nm, ↓p_nS, ↓p_jn, ↓p_call, ↓p_callv, ↓p_dv, ↓p_rem, h_ldE, h_stE, h_nmE, h_nSE, h_callE, h_callvE, h_dvE, h_remE, if_true, if_false, z_upS, z_upO, z_upK, nI_add, z_mul, z_sub, z_div, Nat.add_zero, Nat.mul_zero, Nat.zero_add, Nat.sub_zero, Nat.zero_mul, z_ltT, z_ltF, z_leT, z_leF, z_eqT, z_eqF, z_inT, z_clT, not_true_eq_false, not_false_eq_true, eq_self, true_or, or_true, z_m_lt, z_m_le, z_lt_m, z_le_m, z_eq_m, z_m_eq, z_rz0, z_rz1, z_m_add, z_of, r_157_0, r_157_1, r_157_2, r_157_3, r_157_6, r_157_7, r_157_8, r_157_9, r_157_10, r_157_11, r_157_27, r_157_28, r_157_29, r_157_30, ↓z_m1, l_0, l_1, l_2, l_3, l_4, l_5, l_6, l_7, l_8, l_9, l_10, l_11, l_12, l_13, l_14, l_15, l_16, l_17, l_18, l_19, l_20, l_21, l_22, l_23, l_24, l_25, l_26, l_27, l_28, l_29, l_30, l_31, l_32, l_33, l_34, l_35, l_36, l_37, l_38, l_39, l_40, l_41, l_42, l_43, l_44, l_45, l_46, l_47, l_48, l_49, l_50, l_51, l_52, l_53, l_54, l_55, l_56, l_57, l_59, l_60, l_61, l_62, l_63, l_64, l_65, l_80, l_86, l_87, l_88, l_89, l_90, l_91, l_92, l_93, l_94, l_95, l_97, l_99, l_100, l_107, l_119, l_122, l_124, l_129, l_140, l_141, l_142, l_143, l_144, l_145, l_147, l_150, l_159, l_160, l_161, l_162, l_205, l_253, l_255, l_256, l_269, l_305, l_380, l_399, l_400, l_420, l_430, l_516, l_600, l_720, l_820, l_905, l_921, l_937, l_953, l_970, l_999, l_1000, l_1790, l_4096, l_9999, l_1000000]
theorem z_w_m {lo hi : Nat} (hl : lo < 2147483648) : z_w z_m (nI lo) (nI hi) = nI 0 := by
  unfold z_w
  rw [if_pos (of_eq_true (z_m_lt hl))]
theorem m_isLetter0 {n : Nat} {σ : q_Sto} : f_X12_isLetter n z_m σ = some (nI 0, σ) := by
  have ew := z_w_m (lo := 97) (hi := 122) (by omega)
  have ew2 := z_w_m (lo := 65) (hi := 90) (by omega)
  unfold f_X12_isLetter
  simp (disch := omega) only [m_isIn, ew, ew2, ↓reduceIte, ↓p_ld, ↓p_st, ↓p_nm, ↓p_nS, ↓p_jn, ↓p_call, ↓p_callv, ↓p_dv, ↓p_rem, h_ldE, h_stE, h_nmE, h_nSE, h_callE, h_callvE, h_dvE, h_remE, if_true, if_false, z_upS, z_upO, z_upK, nI_add, z_mul, z_sub, z_div, Nat.add_zero, Nat.mul_zero, Nat.zero_add, Nat.sub_zero, Nat.zero_mul, z_ltT, z_ltF, z_leT, z_leF, z_eqT, z_eqF, z_inT, z_clT, not_true_eq_false, not_false_eq_true, eq_self, true_or, or_true, z_m_lt, z_m_le, z_lt_m, z_le_m, z_eq_m, z_m_eq, z_rz0, z_rz1, z_m_add, z_of, r_157_0, r_157_1, r_157_2, r_157_3, r_157_6, r_157_7, r_157_8, r_157_9, r_157_10, r_157_11, r_157_27, r_157_28, r_157_29, r_157_30, ↓z_m1, l_0, l_1, l_2, l_3, l_4, l_5, l_6, l_7, l_8, l_9, l_10, l_11, l_12, l_13, l_14, l_15, l_16, l_17, l_18, l_19, l_20, l_21, l_22, l_23, l_24, l_25, l_26, l_27, l_28, l_29, l_30, l_31, l_32, l_33, l_34, l_35, l_36, l_37, l_38, l_39, l_40, l_41, l_42, l_43, l_44, l_45, l_46, l_47, l_48, l_49, l_50, l_51, l_52, l_53, l_54, l_55, l_56, l_57, l_59, l_60, l_61, l_62, l_63, l_64, l_65, l_80, l_86, l_87, l_88, l_89, l_90, l_91, l_92, l_93, l_94, l_95, l_97, l_99, l_100, l_107, l_119, l_122, l_124, l_129, l_140, l_141, l_142, l_143, l_144, l_145, l_147, l_150, l_159, l_160, l_161, l_162, l_205, l_253, l_255, l_256, l_269, l_305, l_380, l_399, l_400, l_420, l_430, l_516, l_600, l_720, l_820, l_905, l_921, l_937, l_953, l_970, l_999, l_1000, l_1790, l_4096, l_9999, l_1000000]
theorem m_isDigit0 {n : Nat} {σ : q_Sto} : f_X12_isDigit n z_m σ = some (nI 0, σ) := by
  have ew := z_w_m (lo := 48) (hi := 57) (by omega)
  unfold f_X12_isDigit
  simp (disch := omega) only [m_isIn, ew, ↓reduceIte, ↓p_ld, ↓p_st, ↓p_nm, ↓p_nS, ↓p_jn, ↓p_call, ↓p_callv, ↓p_dv, ↓p_rem, h_ldE, h_stE, h_nmE, h_nSE, h_callE, h_callvE, h_dvE, h_remE, if_true, if_false, z_upS, z_upO, z_upK, nI_add, z_mul, z_sub, z_div, Nat.add_zero, Nat.mul_zero, Nat.zero_add, Nat.sub_zero, Nat.zero_mul, z_ltT, z_ltF, z_leT, z_leF, z_eqT, z_eqF, z_inT, z_clT, not_true_eq_false, not_false_eq_true, eq_self, true_or, or_true, z_m_lt, z_m_le, z_lt_m, z_le_m, z_eq_m, z_m_eq, z_rz0, z_rz1, z_m_add, z_of, r_157_0, r_157_1, r_157_2, r_157_3, r_157_6, r_157_7, r_157_8, r_157_9, r_157_10, r_157_11, r_157_27, r_157_28, r_157_29, r_157_30, ↓z_m1, l_0, l_1, l_2, l_3, l_4, l_5, l_6, l_7, l_8, l_9, l_10, l_11, l_12, l_13, l_14, l_15, l_16, l_17, l_18, l_19, l_20, l_21, l_22, l_23, l_24, l_25, l_26, l_27, l_28, l_29, l_30, l_31, l_32, l_33, l_34, l_35, l_36, l_37, l_38, l_39, l_40, l_41, l_42, l_43, l_44, l_45, l_46, l_47, l_48, l_49, l_50, l_51, l_52, l_53, l_54, l_55, l_56, l_57, l_59, l_60, l_61, l_62, l_63, l_64, l_65, l_80, l_86, l_87, l_88, l_89, l_90, l_91, l_92, l_93, l_94, l_95, l_97, l_99, l_100, l_107, l_119, l_122, l_124, l_129, l_140, l_141, l_142, l_143, l_144, l_145, l_147, l_150, l_159, l_160, l_161, l_162, l_205, l_253, l_255, l_256, l_269, l_305, l_380, l_399, l_400, l_420, l_430, l_516, l_600, l_720, l_820, l_905, l_921, l_937, l_953, l_970, l_999, l_1000, l_1790, l_4096, l_9999, l_1000000]
theorem m_next_L0 {n : Nat} {T : zt_T} {K : q_Sto → Option (Int32 × q_Sto)} : ∀ j i (σ : q_Sto) f, T.2 = i + j → j < f → zt_B (σ 165) T → σ 157 16 = nI T.2 → σ 157 17 = nI i →
    f_X12_next0_L0 n 157 K f σ = K (q_up σ 157 17 (nI (zt_sc zt_bl T.1 j i))) := by
  intro j
  induction j with
  | zero =>
    intro i σ f h1 hf hB hl ha
    obtain ⟨f, rfl⟩ : ∃ f', f = f' + 1 := ⟨f - 1, by omega⟩
    have hL := hB.1
    have e : zt_sc zt_bl T.1 0 i = i := rfl
    have eu : q_up σ 157 17 (nI i) = σ := z_upSelf ha
    have hs := m_see0 (n := n) (i := i) hB hl (by omega) (by omega)
    rw [e, eu, f_X12_next0_L0]
    simp (disch := omega) only [ha, hs, ↓reduceIte, ↓p_ld, ↓p_st, ↓p_nm, ↓p_nS, ↓p_jn, ↓p_call, ↓p_callv, ↓p_dv, ↓p_rem, h_ldE, h_stE, h_nmE, h_nSE, h_callE, h_callvE, h_dvE, h_remE, if_true, if_false, z_upS, z_upO, z_upK, nI_add, z_mul, z_sub, z_div, Nat.add_zero, Nat.mul_zero, Nat.zero_add, Nat.sub_zero, Nat.zero_mul, z_ltT, z_ltF, z_leT, z_leF, z_eqT, z_eqF, z_inT, z_clT, not_true_eq_false, not_false_eq_true, eq_self, true_or, or_true, z_m_lt, z_m_le, z_lt_m, z_le_m, z_eq_m, z_m_eq, z_rz0, z_rz1, z_m_add, z_of, r_157_0, r_157_1, r_157_2, r_157_3, r_157_6, r_157_7, r_157_8, r_157_9, r_157_10, r_157_11, r_157_27, r_157_28, r_157_29, r_157_30, ↓z_m1, l_0, l_1, l_2, l_3, l_4, l_5, l_6, l_7, l_8, l_9, l_10, l_11, l_12, l_13, l_14, l_15, l_16, l_17, l_18, l_19, l_20, l_21, l_22, l_23, l_24, l_25, l_26, l_27, l_28, l_29, l_30, l_31, l_32, l_33, l_34, l_35, l_36, l_37, l_38, l_39, l_40, l_41, l_42, l_43, l_44, l_45, l_46, l_47, l_48, l_49, l_50, l_51, l_52, l_53, l_54, l_55, l_56, l_57, l_59, l_60, l_61, l_62, l_63, l_64, l_65, l_80, l_86, l_87, l_88, l_89, l_90, l_91, l_92, l_93, l_94, l_95, l_97, l_99, l_100, l_107, l_119, l_122, l_124, l_129, l_140, l_141, l_142, l_143, l_144, l_145, l_147, l_150, l_159, l_160, l_161, l_162, l_205, l_253, l_255, l_256, l_269, l_305, l_380, l_399, l_400, l_420, l_430, l_516, l_600, l_720, l_820, l_905, l_921, l_937, l_953, l_970, l_999, l_1000, l_1790, l_4096, l_9999, l_1000000]
  | succ j ih =>
    intro i σ f h1 hf hB hl ha
    obtain ⟨f, rfl⟩ : ∃ f', f = f' + 1 := ⟨f - 1, by omega⟩
    have hL := hB.1
    have hb := m_see (n := n) (i := i) hB hl (by omega)
    have hb255 := (hB.2 i (by omega)).2
    have e : zt_sc zt_bl T.1 (j+1) i = if zt_bl (T.1 i) = true then zt_sc zt_bl T.1 j (i+1) else i := rfl
    have ih := ih (i+1) (q_up σ 157 17 (nI (i+1))) f (by omega) (by omega) (by rw [z_upO (by omega)]; exact hB) (by rw [z_upK (by omega)]; exact hl) z_upS
    rw [z_upUp] at ih
    have eu : q_up σ 157 17 (nI i) = σ := z_upSelf ha
    generalize T.1 i = c at *
    by_cases q1 : c = 32
    · have : zt_bl c = true := by unfold zt_bl; simp; omega
      rw [e, if_pos this, ← ih, f_X12_next0_L0]
      simp (disch := omega) only [ha, hb, ↓reduceIte, ↓p_ld, ↓p_st, ↓p_nm, ↓p_nS, ↓p_jn, ↓p_call, ↓p_callv, ↓p_dv, ↓p_rem, h_ldE, h_stE, h_nmE, h_nSE, h_callE, h_callvE, h_dvE, h_remE, if_true, if_false, z_upS, z_upO, z_upK, nI_add, z_mul, z_sub, z_div, Nat.add_zero, Nat.mul_zero, Nat.zero_add, Nat.sub_zero, Nat.zero_mul, z_ltT, z_ltF, z_leT, z_leF, z_eqT, z_eqF, z_inT, z_clT, not_true_eq_false, not_false_eq_true, eq_self, true_or, or_true, z_m_lt, z_m_le, z_lt_m, z_le_m, z_eq_m, z_m_eq, z_rz0, z_rz1, z_m_add, z_of, r_157_0, r_157_1, r_157_2, r_157_3, r_157_6, r_157_7, r_157_8, r_157_9, r_157_10, r_157_11, r_157_27, r_157_28, r_157_29, r_157_30, ↓z_m1, l_0, l_1, l_2, l_3, l_4, l_5, l_6, l_7, l_8, l_9, l_10, l_11, l_12, l_13, l_14, l_15, l_16, l_17, l_18, l_19, l_20, l_21, l_22, l_23, l_24, l_25, l_26, l_27, l_28, l_29, l_30, l_31, l_32, l_33, l_34, l_35, l_36, l_37, l_38, l_39, l_40, l_41, l_42, l_43, l_44, l_45, l_46, l_47, l_48, l_49, l_50, l_51, l_52, l_53, l_54, l_55, l_56, l_57, l_59, l_60, l_61, l_62, l_63, l_64, l_65, l_80, l_86, l_87, l_88, l_89, l_90, l_91, l_92, l_93, l_94, l_95, l_97, l_99, l_100, l_107, l_119, l_122, l_124, l_129, l_140, l_141, l_142, l_143, l_144, l_145, l_147, l_150, l_159, l_160, l_161, l_162, l_205, l_253, l_255, l_256, l_269, l_305, l_380, l_399, l_400, l_420, l_430, l_516, l_600, l_720, l_820, l_905, l_921, l_937, l_953, l_970, l_999, l_1000, l_1790, l_4096, l_9999, l_1000000]
    · by_cases q2 : c = 10
      · have : zt_bl c = true := by unfold zt_bl; simp; omega
        rw [e, if_pos this, ← ih, f_X12_next0_L0]
        simp (disch := omega) only [ha, hb, ↓reduceIte, ↓p_ld, ↓p_st, ↓p_nm, ↓p_nS, ↓p_jn, ↓p_call, ↓p_callv, ↓p_dv, ↓p_rem, h_ldE, h_stE, h_nmE, h_nSE, h_callE, h_callvE, h_dvE, h_remE, if_true, if_false, z_upS, z_upO, z_upK, nI_add, z_mul, z_sub, z_div, Nat.add_zero, Nat.mul_zero, Nat.zero_add, Nat.sub_zero, Nat.zero_mul, z_ltT, z_ltF, z_leT, z_leF, z_eqT, z_eqF, z_inT, z_clT, not_true_eq_false, not_false_eq_true, eq_self, true_or, or_true, z_m_lt, z_m_le, z_lt_m, z_le_m, z_eq_m, z_m_eq, z_rz0, z_rz1, z_m_add, z_of, r_157_0, r_157_1, r_157_2, r_157_3, r_157_6, r_157_7, r_157_8, r_157_9, r_157_10, r_157_11, r_157_27, r_157_28, r_157_29, r_157_30, ↓z_m1, l_0, l_1, l_2, l_3, l_4, l_5, l_6, l_7, l_8, l_9, l_10, l_11, l_12, l_13, l_14, l_15, l_16, l_17, l_18, l_19, l_20, l_21, l_22, l_23, l_24, l_25, l_26, l_27, l_28, l_29, l_30, l_31, l_32, l_33, l_34, l_35, l_36, l_37, l_38, l_39, l_40, l_41, l_42, l_43, l_44, l_45, l_46, l_47, l_48, l_49, l_50, l_51, l_52, l_53, l_54, l_55, l_56, l_57, l_59, l_60, l_61, l_62, l_63, l_64, l_65, l_80, l_86, l_87, l_88, l_89, l_90, l_91, l_92, l_93, l_94, l_95, l_97, l_99, l_100, l_107, l_119, l_122, l_124, l_129, l_140, l_141, l_142, l_143, l_144, l_145, l_147, l_150, l_159, l_160, l_161, l_162, l_205, l_253, l_255, l_256, l_269, l_305, l_380, l_399, l_400, l_420, l_430, l_516, l_600, l_720, l_820, l_905, l_921, l_937, l_953, l_970, l_999, l_1000, l_1790, l_4096, l_9999, l_1000000]
      · have : ¬ zt_bl c = true := by unfold zt_bl; simp; omega
        rw [e, if_neg this, eu, f_X12_next0_L0]
        simp (disch := omega) only [ha, hb, ↓reduceIte, ↓p_ld, ↓p_st, ↓p_nm, ↓p_nS, ↓p_jn, ↓p_call, ↓p_callv, ↓p_dv, ↓p_rem, h_ldE, h_stE, h_nmE, h_nSE, h_callE, h_callvE, h_dvE, h_remE, if_true, if_false, z_upS, z_upO, z_upK, nI_add, z_mul, z_sub, z_div, Nat.add_zero, Nat.mul_zero, Nat.zero_add, Nat.sub_zero, Nat.zero_mul, z_ltT, z_ltF, z_leT, z_leF, z_eqT, z_eqF, z_inT, z_clT, not_true_eq_false, not_false_eq_true, eq_self, true_or, or_true, z_m_lt, z_m_le, z_lt_m, z_le_m, z_eq_m, z_m_eq, z_rz0, z_rz1, z_m_add, z_of, r_157_0, r_157_1, r_157_2, r_157_3, r_157_6, r_157_7, r_157_8, r_157_9, r_157_10, r_157_11, r_157_27, r_157_28, r_157_29, r_157_30, ↓z_m1, l_0, l_1, l_2, l_3, l_4, l_5, l_6, l_7, l_8, l_9, l_10, l_11, l_12, l_13, l_14, l_15, l_16, l_17, l_18, l_19, l_20, l_21, l_22, l_23, l_24, l_25, l_26, l_27, l_28, l_29, l_30, l_31, l_32, l_33, l_34, l_35, l_36, l_37, l_38, l_39, l_40, l_41, l_42, l_43, l_44, l_45, l_46, l_47, l_48, l_49, l_50, l_51, l_52, l_53, l_54, l_55, l_56, l_57, l_59, l_60, l_61, l_62, l_63, l_64, l_65, l_80, l_86, l_87, l_88, l_89, l_90, l_91, l_92, l_93, l_94, l_95, l_97, l_99, l_100, l_107, l_119, l_122, l_124, l_129, l_140, l_141, l_142, l_143, l_144, l_145, l_147, l_150, l_159, l_160, l_161, l_162, l_205, l_253, l_255, l_256, l_269, l_305, l_380, l_399, l_400, l_420, l_430, l_516, l_600, l_720, l_820, l_905, l_921, l_937, l_953, l_970, l_999, l_1000, l_1790, l_4096, l_9999, l_1000000]
theorem m_next_L1 {n : Nat} {T : zt_T} {K : q_Sto → Option (Int32 × q_Sto)} : ∀ j i (σ : q_Sto) f, T.2 = i + j → j < f → zt_B (σ 165) T → σ 157 16 = nI T.2 → σ 157 17 = nI i →
    f_X12_next0_L76 n 157 K f σ = K (q_up σ 157 17 (nI (zt_sc zt_il T.1 j i))) := by
  intro j
  induction j with
  | zero =>
    intro i σ f h1 hf hB hl ha
    obtain ⟨f, rfl⟩ : ∃ f', f = f' + 1 := ⟨f - 1, by omega⟩
    have hL := hB.1
    have e : zt_sc zt_il T.1 0 i = i := rfl
    have eu : q_up σ 157 17 (nI i) = σ := z_upSelf ha
    have hs := m_see0 (n := n) (i := i) hB hl (by omega) (by omega)
    rw [e, eu, f_X12_next0_L76]
    simp (disch := omega) only [ha, hs, m_isLetter0, ↓reduceIte, ↓p_ld, ↓p_st, ↓p_nm, ↓p_nS, ↓p_jn, ↓p_call, ↓p_callv, ↓p_dv, ↓p_rem, h_ldE, h_stE, h_nmE, h_nSE, h_callE, h_callvE, h_dvE, h_remE, if_true, if_false, z_upS, z_upO, z_upK, nI_add, z_mul, z_sub, z_div, Nat.add_zero, Nat.mul_zero, Nat.zero_add, Nat.sub_zero, Nat.zero_mul, z_ltT, z_ltF, z_leT, z_leF, z_eqT, z_eqF, z_inT, z_clT, not_true_eq_false, not_false_eq_true, eq_self, true_or, or_true, z_m_lt, z_m_le, z_lt_m, z_le_m, z_eq_m, z_m_eq, z_rz0, z_rz1, z_m_add, z_of, r_157_0, r_157_1, r_157_2, r_157_3, r_157_6, r_157_7, r_157_8, r_157_9, r_157_10, r_157_11, r_157_27, r_157_28, r_157_29, r_157_30, ↓z_m1, l_0, l_1, l_2, l_3, l_4, l_5, l_6, l_7, l_8, l_9, l_10, l_11, l_12, l_13, l_14, l_15, l_16, l_17, l_18, l_19, l_20, l_21, l_22, l_23, l_24, l_25, l_26, l_27, l_28, l_29, l_30, l_31, l_32, l_33, l_34, l_35, l_36, l_37, l_38, l_39, l_40, l_41, l_42, l_43, l_44, l_45, l_46, l_47, l_48, l_49, l_50, l_51, l_52, l_53, l_54, l_55, l_56, l_57, l_59, l_60, l_61, l_62, l_63, l_64, l_65, l_80, l_86, l_87, l_88, l_89, l_90, l_91, l_92, l_93, l_94, l_95, l_97, l_99, l_100, l_107, l_119, l_122, l_124, l_129, l_140, l_141, l_142, l_143, l_144, l_145, l_147, l_150, l_159, l_160, l_161, l_162, l_205, l_253, l_255, l_256, l_269, l_305, l_380, l_399, l_400, l_420, l_430, l_516, l_600, l_720, l_820, l_905, l_921, l_937, l_953, l_970, l_999, l_1000, l_1790, l_4096, l_9999, l_1000000]
  | succ j ih =>
    intro i σ f h1 hf hB hl ha
    obtain ⟨f, rfl⟩ : ∃ f', f = f' + 1 := ⟨f - 1, by omega⟩
    have hL := hB.1
    have hb := m_see (n := n) (i := i) hB hl (by omega)
    have hb255 := (hB.2 i (by omega)).2
    have e : zt_sc zt_il T.1 (j+1) i = if zt_il (T.1 i) = true then zt_sc zt_il T.1 j (i+1) else i := rfl
    have ih := ih (i+1) (q_up σ 157 17 (nI (i+1))) f (by omega) (by omega) (by rw [z_upO (by omega)]; exact hB) (by rw [z_upK (by omega)]; exact hl) z_upS
    rw [z_upUp] at ih
    have eu : q_up σ 157 17 (nI i) = σ := z_upSelf ha
    have eL := m_isLetter (n := n) (c := T.1 i) (σ := σ) (by omega)
    generalize T.1 i = c at *
    have e1 : z_fb true = nI 1 := rfl
    have e0 : z_fb false = nI 0 := rfl
    cases q : zt_il c with
    | true =>
      rw [q, e1] at eL
      rw [e, if_pos q, ← ih, f_X12_next0_L76]
      simp (disch := omega) only [ha, hb, eL, ↓reduceIte, ↓p_ld, ↓p_st, ↓p_nm, ↓p_nS, ↓p_jn, ↓p_call, ↓p_callv, ↓p_dv, ↓p_rem, h_ldE, h_stE, h_nmE, h_nSE, h_callE, h_callvE, h_dvE, h_remE, if_true, if_false, z_upS, z_upO, z_upK, nI_add, z_mul, z_sub, z_div, Nat.add_zero, Nat.mul_zero, Nat.zero_add, Nat.sub_zero, Nat.zero_mul, z_ltT, z_ltF, z_leT, z_leF, z_eqT, z_eqF, z_inT, z_clT, not_true_eq_false, not_false_eq_true, eq_self, true_or, or_true, z_m_lt, z_m_le, z_lt_m, z_le_m, z_eq_m, z_m_eq, z_rz0, z_rz1, z_m_add, z_of, r_157_0, r_157_1, r_157_2, r_157_3, r_157_6, r_157_7, r_157_8, r_157_9, r_157_10, r_157_11, r_157_27, r_157_28, r_157_29, r_157_30, ↓z_m1, l_0, l_1, l_2, l_3, l_4, l_5, l_6, l_7, l_8, l_9, l_10, l_11, l_12, l_13, l_14, l_15, l_16, l_17, l_18, l_19, l_20, l_21, l_22, l_23, l_24, l_25, l_26, l_27, l_28, l_29, l_30, l_31, l_32, l_33, l_34, l_35, l_36, l_37, l_38, l_39, l_40, l_41, l_42, l_43, l_44, l_45, l_46, l_47, l_48, l_49, l_50, l_51, l_52, l_53, l_54, l_55, l_56, l_57, l_59, l_60, l_61, l_62, l_63, l_64, l_65, l_80, l_86, l_87, l_88, l_89, l_90, l_91, l_92, l_93, l_94, l_95, l_97, l_99, l_100, l_107, l_119, l_122, l_124, l_129, l_140, l_141, l_142, l_143, l_144, l_145, l_147, l_150, l_159, l_160, l_161, l_162, l_205, l_253, l_255, l_256, l_269, l_305, l_380, l_399, l_400, l_420, l_430, l_516, l_600, l_720, l_820, l_905, l_921, l_937, l_953, l_970, l_999, l_1000, l_1790, l_4096, l_9999, l_1000000]
    | false =>
      rw [q, e0] at eL
      rw [e, if_neg (by rw [q]; decide), eu, f_X12_next0_L76]
      simp (disch := omega) only [ha, hb, eL, ↓reduceIte, ↓p_ld, ↓p_st, ↓p_nm, ↓p_nS, ↓p_jn, ↓p_call, ↓p_callv, ↓p_dv, ↓p_rem, h_ldE, h_stE, h_nmE, h_nSE, h_callE, h_callvE, h_dvE, h_remE, if_true, if_false, z_upS, z_upO, z_upK, nI_add, z_mul, z_sub, z_div, Nat.add_zero, Nat.mul_zero, Nat.zero_add, Nat.sub_zero, Nat.zero_mul, z_ltT, z_ltF, z_leT, z_leF, z_eqT, z_eqF, z_inT, z_clT, not_true_eq_false, not_false_eq_true, eq_self, true_or, or_true, z_m_lt, z_m_le, z_lt_m, z_le_m, z_eq_m, z_m_eq, z_rz0, z_rz1, z_m_add, z_of, r_157_0, r_157_1, r_157_2, r_157_3, r_157_6, r_157_7, r_157_8, r_157_9, r_157_10, r_157_11, r_157_27, r_157_28, r_157_29, r_157_30, ↓z_m1, l_0, l_1, l_2, l_3, l_4, l_5, l_6, l_7, l_8, l_9, l_10, l_11, l_12, l_13, l_14, l_15, l_16, l_17, l_18, l_19, l_20, l_21, l_22, l_23, l_24, l_25, l_26, l_27, l_28, l_29, l_30, l_31, l_32, l_33, l_34, l_35, l_36, l_37, l_38, l_39, l_40, l_41, l_42, l_43, l_44, l_45, l_46, l_47, l_48, l_49, l_50, l_51, l_52, l_53, l_54, l_55, l_56, l_57, l_59, l_60, l_61, l_62, l_63, l_64, l_65, l_80, l_86, l_87, l_88, l_89, l_90, l_91, l_92, l_93, l_94, l_95, l_97, l_99, l_100, l_107, l_119, l_122, l_124, l_129, l_140, l_141, l_142, l_143, l_144, l_145, l_147, l_150, l_159, l_160, l_161, l_162, l_205, l_253, l_255, l_256, l_269, l_305, l_380, l_399, l_400, l_420, l_430, l_516, l_600, l_720, l_820, l_905, l_921, l_937, l_953, l_970, l_999, l_1000, l_1790, l_4096, l_9999, l_1000000]
theorem zt_min4 {B : Nat → Nat} {q i : Nat} : zt_vi B q (min (i+1) 4) = if i < 4 then nI 10 * zt_vi B q i + nI (B (q+i)) - nI 48 else zt_vi B q (min i 4) := by
  by_cases h : i < 4
  · rw [if_pos h, show min (i+1) 4 = i + 1 by omega]
    show zt_vi B q i * nI 10 + nI (B (q+i)) - nI 48 = _
    rw [Int32.mul_comm]
  · rw [if_neg h, show min (i+1) 4 = 4 by omega, show min i 4 = 4 by omega]
theorem m_next_L2 {n q : Nat} {T : zt_T} {K : q_Sto → Option (Int32 × q_Sto)} : ∀ j i (σ : q_Sto) f, T.2 = q + i + j → j < f → zt_B (σ 165) T → σ 157 16 = nI T.2 → σ 157 17 = nI (q+i) → σ 157 19 = nI q → σ 157 20 = zt_vi T.1 q (min i 4) →
    ∃ σ', (∀ o, o ≠ 157 → σ' o = σ o) ∧ (∀ a, a ≠ 17 → a ≠ 20 → σ' 157 a = σ 157 a) ∧ σ' 157 17 = nI (zt_sc zt_id T.1 j (q+i)) ∧ σ' 157 20 = zt_vi T.1 q (min (zt_sc zt_id T.1 j (q+i) - q) 4) ∧ f_X12_next0_L126 n 157 K f σ = K σ' := by
  intro j
  induction j with
  | zero =>
    intro i σ f h1 hf hB hl ha h19 hv
    obtain ⟨f, rfl⟩ : ∃ f', f = f' + 1 := ⟨f - 1, by omega⟩
    have hL := hB.1
    have e : zt_sc zt_id T.1 0 (q+i) = q+i := rfl
    have hs := m_see0 (n := n) (i := q+i) hB hl (by omega) (by omega)
    refine ⟨σ, fun _ _ => rfl, fun _ _ _ => rfl, ha, by rw [e, show q + i - q = i by omega]; exact hv, ?_⟩
    rw [f_X12_next0_L126]
    simp (disch := omega) only [ha, hs, m_isDigit0, ↓reduceIte, ↓p_ld, ↓p_st, ↓p_nm, ↓p_nS, ↓p_jn, ↓p_call, ↓p_callv, ↓p_dv, ↓p_rem, h_ldE, h_stE, h_nmE, h_nSE, h_callE, h_callvE, h_dvE, h_remE, if_true, if_false, z_upS, z_upO, z_upK, nI_add, z_mul, z_sub, z_div, Nat.add_zero, Nat.mul_zero, Nat.zero_add, Nat.sub_zero, Nat.zero_mul, z_ltT, z_ltF, z_leT, z_leF, z_eqT, z_eqF, z_inT, z_clT, not_true_eq_false, not_false_eq_true, eq_self, true_or, or_true, z_m_lt, z_m_le, z_lt_m, z_le_m, z_eq_m, z_m_eq, z_rz0, z_rz1, z_m_add, z_of, r_157_0, r_157_1, r_157_2, r_157_3, r_157_6, r_157_7, r_157_8, r_157_9, r_157_10, r_157_11, r_157_27, r_157_28, r_157_29, r_157_30, ↓z_m1, l_0, l_1, l_2, l_3, l_4, l_5, l_6, l_7, l_8, l_9, l_10, l_11, l_12, l_13, l_14, l_15, l_16, l_17, l_18, l_19, l_20, l_21, l_22, l_23, l_24, l_25, l_26, l_27, l_28, l_29, l_30, l_31, l_32, l_33, l_34, l_35, l_36, l_37, l_38, l_39, l_40, l_41, l_42, l_43, l_44, l_45, l_46, l_47, l_48, l_49, l_50, l_51, l_52, l_53, l_54, l_55, l_56, l_57, l_59, l_60, l_61, l_62, l_63, l_64, l_65, l_80, l_86, l_87, l_88, l_89, l_90, l_91, l_92, l_93, l_94, l_95, l_97, l_99, l_100, l_107, l_119, l_122, l_124, l_129, l_140, l_141, l_142, l_143, l_144, l_145, l_147, l_150, l_159, l_160, l_161, l_162, l_205, l_253, l_255, l_256, l_269, l_305, l_380, l_399, l_400, l_420, l_430, l_516, l_600, l_720, l_820, l_905, l_921, l_937, l_953, l_970, l_999, l_1000, l_1790, l_4096, l_9999, l_1000000]
  | succ j ih =>
    intro i σ f h1 hf hB hl ha h19 hv
    obtain ⟨f, rfl⟩ : ∃ f', f = f' + 1 := ⟨f - 1, by omega⟩
    have hL := hB.1
    have hb := m_see (n := n) (i := q+i) hB hl (by omega)
    have hb255 := (hB.2 (q+i) (by omega)).2
    have e : zt_sc zt_id T.1 (j+1) (q+i) = if zt_id (T.1 (q+i)) = true then zt_sc zt_id T.1 j (q+i+1) else q+i := rfl
    have ev := zt_min4 (B := T.1) (q := q) (i := i)
    have eL := m_isDigit (n := n) (c := T.1 (q+i)) (σ := σ) (by omega)
    have e1 : z_fb true = nI 1 := rfl
    have e0 : z_fb false = nI 0 := rfl
    by_cases qd : zt_id (T.1 (q+i)) = true
    · rw [qd, e1] at eL
      by_cases q4 : i < 4
      · rw [if_pos q4] at ev
        obtain ⟨σ', k1, k2, k3, k4, k5⟩ := ih (i+1) (q_up (q_up σ 157 20 (zt_vi T.1 q (min (i+1) 4))) 157 17 (nI (q+i+1))) f (by omega) (by omega) (by rw [z_upO (by omega), z_upO (by omega)]; exact hB) (by rw [z_upK (by omega), z_upK (by omega)]; exact hl) z_upS (by rw [z_upK (by omega), z_upK (by omega)]; exact h19) (by rw [z_upK (by omega)]; exact z_upS)
        refine ⟨σ', fun o ho => by rw [k1 o ho, z_upO ho, z_upO ho], fun a a1 a2 => by rw [k2 a a1 a2, z_upK a1, z_upK a2], by rw [e, if_pos qd]; exact k3, by rw [e, if_pos qd]; exact k4, ?_⟩
        rw [show min i 4 = i by omega] at hv
        rw [← k5, f_X12_next0_L126, ev]
        generalize T.1 (q+i) = c at *
        generalize zt_vi T.1 q i = v at *
        simp (disch := omega) only [ha, hb, eL, hv, h19, ↓reduceIte, ↓p_ld, ↓p_st, ↓p_nm, ↓p_nS, ↓p_jn, ↓p_call, ↓p_callv, ↓p_dv, ↓p_rem, h_ldE, h_stE, h_nmE, h_nSE, h_callE, h_callvE, h_dvE, h_remE, if_true, if_false, z_upS, z_upO, z_upK, nI_add, z_mul, z_sub, z_div, Nat.add_zero, Nat.mul_zero, Nat.zero_add, Nat.sub_zero, Nat.zero_mul, z_ltT, z_ltF, z_leT, z_leF, z_eqT, z_eqF, z_inT, z_clT, not_true_eq_false, not_false_eq_true, eq_self, true_or, or_true, z_m_lt, z_m_le, z_lt_m, z_le_m, z_eq_m, z_m_eq, z_rz0, z_rz1, z_m_add, z_of, r_157_0, r_157_1, r_157_2, r_157_3, r_157_6, r_157_7, r_157_8, r_157_9, r_157_10, r_157_11, r_157_27, r_157_28, r_157_29, r_157_30, ↓z_m1, l_0, l_1, l_2, l_3, l_4, l_5, l_6, l_7, l_8, l_9, l_10, l_11, l_12, l_13, l_14, l_15, l_16, l_17, l_18, l_19, l_20, l_21, l_22, l_23, l_24, l_25, l_26, l_27, l_28, l_29, l_30, l_31, l_32, l_33, l_34, l_35, l_36, l_37, l_38, l_39, l_40, l_41, l_42, l_43, l_44, l_45, l_46, l_47, l_48, l_49, l_50, l_51, l_52, l_53, l_54, l_55, l_56, l_57, l_59, l_60, l_61, l_62, l_63, l_64, l_65, l_80, l_86, l_87, l_88, l_89, l_90, l_91, l_92, l_93, l_94, l_95, l_97, l_99, l_100, l_107, l_119, l_122, l_124, l_129, l_140, l_141, l_142, l_143, l_144, l_145, l_147, l_150, l_159, l_160, l_161, l_162, l_205, l_253, l_255, l_256, l_269, l_305, l_380, l_399, l_400, l_420, l_430, l_516, l_600, l_720, l_820, l_905, l_921, l_937, l_953, l_970, l_999, l_1000, l_1790, l_4096, l_9999, l_1000000]
      · rw [if_neg q4] at ev
        obtain ⟨σ', k1, k2, k3, k4, k5⟩ := ih (i+1) (q_up σ 157 17 (nI (q+i+1))) f (by omega) (by omega) (by rw [z_upO (by omega)]; exact hB) (by rw [z_upK (by omega)]; exact hl) z_upS (by rw [z_upK (by omega)]; exact h19) (by rw [z_upK (by omega), ev]; exact hv)
        refine ⟨σ', fun o ho => by rw [k1 o ho, z_upO ho], fun a a1 a2 => by rw [k2 a a1 a2, z_upK a1], by rw [e, if_pos qd]; exact k3, by rw [e, if_pos qd]; exact k4, ?_⟩
        rw [← k5, f_X12_next0_L126]
        generalize T.1 (q+i) = c at *
        simp (disch := omega) only [ha, hb, eL, h19, ↓reduceIte, ↓p_ld, ↓p_st, ↓p_nm, ↓p_nS, ↓p_jn, ↓p_call, ↓p_callv, ↓p_dv, ↓p_rem, h_ldE, h_stE, h_nmE, h_nSE, h_callE, h_callvE, h_dvE, h_remE, if_true, if_false, z_upS, z_upO, z_upK, nI_add, z_mul, z_sub, z_div, Nat.add_zero, Nat.mul_zero, Nat.zero_add, Nat.sub_zero, Nat.zero_mul, z_ltT, z_ltF, z_leT, z_leF, z_eqT, z_eqF, z_inT, z_clT, not_true_eq_false, not_false_eq_true, eq_self, true_or, or_true, z_m_lt, z_m_le, z_lt_m, z_le_m, z_eq_m, z_m_eq, z_rz0, z_rz1, z_m_add, z_of, r_157_0, r_157_1, r_157_2, r_157_3, r_157_6, r_157_7, r_157_8, r_157_9, r_157_10, r_157_11, r_157_27, r_157_28, r_157_29, r_157_30, ↓z_m1, l_0, l_1, l_2, l_3, l_4, l_5, l_6, l_7, l_8, l_9, l_10, l_11, l_12, l_13, l_14, l_15, l_16, l_17, l_18, l_19, l_20, l_21, l_22, l_23, l_24, l_25, l_26, l_27, l_28, l_29, l_30, l_31, l_32, l_33, l_34, l_35, l_36, l_37, l_38, l_39, l_40, l_41, l_42, l_43, l_44, l_45, l_46, l_47, l_48, l_49, l_50, l_51, l_52, l_53, l_54, l_55, l_56, l_57, l_59, l_60, l_61, l_62, l_63, l_64, l_65, l_80, l_86, l_87, l_88, l_89, l_90, l_91, l_92, l_93, l_94, l_95, l_97, l_99, l_100, l_107, l_119, l_122, l_124, l_129, l_140, l_141, l_142, l_143, l_144, l_145, l_147, l_150, l_159, l_160, l_161, l_162, l_205, l_253, l_255, l_256, l_269, l_305, l_380, l_399, l_400, l_420, l_430, l_516, l_600, l_720, l_820, l_905, l_921, l_937, l_953, l_970, l_999, l_1000, l_1790, l_4096, l_9999, l_1000000]
    · refine ⟨σ, fun _ _ => rfl, fun _ _ _ => rfl, by rw [e, if_neg qd]; exact ha, by rw [e, if_neg qd, show q + i - q = i by omega]; exact hv, ?_⟩
      rw [z_bf qd, e0] at eL
      rw [f_X12_next0_L126]
      generalize T.1 (q+i) = c at *
      simp (disch := omega) only [ha, hb, eL, ↓reduceIte, ↓p_ld, ↓p_st, ↓p_nm, ↓p_nS, ↓p_jn, ↓p_call, ↓p_callv, ↓p_dv, ↓p_rem, h_ldE, h_stE, h_nmE, h_nSE, h_callE, h_callvE, h_dvE, h_remE, if_true, if_false, z_upS, z_upO, z_upK, nI_add, z_mul, z_sub, z_div, Nat.add_zero, Nat.mul_zero, Nat.zero_add, Nat.sub_zero, Nat.zero_mul, z_ltT, z_ltF, z_leT, z_leF, z_eqT, z_eqF, z_inT, z_clT, not_true_eq_false, not_false_eq_true, eq_self, true_or, or_true, z_m_lt, z_m_le, z_lt_m, z_le_m, z_eq_m, z_m_eq, z_rz0, z_rz1, z_m_add, z_of, r_157_0, r_157_1, r_157_2, r_157_3, r_157_6, r_157_7, r_157_8, r_157_9, r_157_10, r_157_11, r_157_27, r_157_28, r_157_29, r_157_30, ↓z_m1, l_0, l_1, l_2, l_3, l_4, l_5, l_6, l_7, l_8, l_9, l_10, l_11, l_12, l_13, l_14, l_15, l_16, l_17, l_18, l_19, l_20, l_21, l_22, l_23, l_24, l_25, l_26, l_27, l_28, l_29, l_30, l_31, l_32, l_33, l_34, l_35, l_36, l_37, l_38, l_39, l_40, l_41, l_42, l_43, l_44, l_45, l_46, l_47, l_48, l_49, l_50, l_51, l_52, l_53, l_54, l_55, l_56, l_57, l_59, l_60, l_61, l_62, l_63, l_64, l_65, l_80, l_86, l_87, l_88, l_89, l_90, l_91, l_92, l_93, l_94, l_95, l_97, l_99, l_100, l_107, l_119, l_122, l_124, l_129, l_140, l_141, l_142, l_143, l_144, l_145, l_147, l_150, l_159, l_160, l_161, l_162, l_205, l_253, l_255, l_256, l_269, l_305, l_380, l_399, l_400, l_420, l_430, l_516, l_600, l_720, l_820, l_905, l_921, l_937, l_953, l_970, l_999, l_1000, l_1790, l_4096, l_9999, l_1000000]
theorem zt_sg_T {c : Nat} (h : c = 59 ∨ c = 43 ∨ c = 45 ∨ c = 42 ∨ c = 47 ∨ c = 40 ∨ c = 41 ∨ c = 60 ∨ c = 61 ∨ c = 62) : zt_sg c = true := by
  rcases h with rfl | rfl | rfl | rfl | rfl | rfl | rfl | rfl | rfl | rfl <;> rfl
theorem zt_sg_F {c : Nat} (h : ¬ (c = 59 ∨ c = 43 ∨ c = 45 ∨ c = 42 ∨ c = 47 ∨ c = 40 ∨ c = 41 ∨ c = 60 ∨ c = 61 ∨ c = 62)) : zt_sg c = false := by
  refine z_bf (fun q => h ?_)
  unfold zt_sg at q
  simpa using q
theorem zt_lk_in {t : List (Nat × Nat)} {l : List Nat} : zt_lk t l = 1 ∨ ∃ x ∈ t, zt_lk t l = x.2 := by
  induction t with
  | nil => exact Or.inl rfl
  | cons x t ih =>
    obtain ⟨i, c⟩ := x
    have e : zt_lk ((i, c) :: t) l = if l = zt_w i then c else zt_lk t l := rfl
    rw [e]
    by_cases q : l = zt_w i
    · rw [if_pos q]; exact Or.inr ⟨(i, c), List.mem_cons_self .., rfl⟩
    · rw [if_neg q]
      rcases ih with h | ⟨x, h1, h2⟩
      · exact Or.inl h
      · exact Or.inr ⟨x, List.mem_cons_of_mem _ h1, h2⟩
theorem zt_tb_c {k : Nat} (hk : k < 5) : (zt_tb k).all (fun x => (decide (3 ≤ x.2 ∧ x.2 ≤ 50))) = true := by
  have hc : k = 0 ∨ k = 1 ∨ k = 2 ∨ k = 3 ∨ k = 4 := by omega
  rcases hc with rfl | rfl | rfl | rfl | rfl <;> rfl
theorem zt_lk_r {k : Nat} {l : List Nat} (hk : k < 5) : zt_lk (zt_tb k) l = 1 ∨ (3 ≤ zt_lk (zt_tb k) l ∧ zt_lk (zt_tb k) l ≤ 50) := by
  rcases zt_lk_in (t := zt_tb k) (l := l) with h | ⟨x, h1, h2⟩
  · exact Or.inl h
  · have := List.all_eq_true.mp (zt_tb_c hk) x h1
    rw [h2]
    exact Or.inr (of_decide_eq_true this)
theorem zt_lk2 {k : Nat} {l : List Nat} (hk : k < 5) (h : zt_lk (zt_tb k) l = 2) : False := by
  have := zt_lk_r (l := l) hk
  omega
theorem m_next {n k p : Nat} {T : zt_T} {σ : q_Sto} (hn : 402 ≤ n) (hk : k < 5) (hp : p ≤ T.2) (hB : zt_B (σ 165) T) (hl : σ 157 16 = nI T.2) (h12 : σ 157 12 = nI k) (ha : σ 157 17 = nI p) :
    ∃ σ', (∀ o, o ≠ 157 → σ' o = σ o) ∧ (∀ a, a ≠ 17 → a ≠ 18 → a ≠ 19 → a ≠ 20 → σ' 157 a = σ 157 a) ∧ zt_R σ' T k p ∧ f_X12_next0 n 157 σ = some (nI 0, σ') := by
  have hL := hB.1
  obtain ⟨b1, b2⟩ := zt_at_b hp
  obtain ⟨b3, b4, b5⟩ := zt_nx_b hp
  have eat : zt_sc zt_bl T.1 (T.2 - p) p = zt_at T p := rfl
  have eF : f_X12_next0 n 157 σ = _ := m_next_L0 (n := n) (T := T) (T.2 - p) p σ n (by omega) (by omega) hB hl ha
  rw [eat] at eF
  have ekd : zt_kd T p = if zt_at T p < T.2 then (if zt_il (T.1 (zt_at T p)) = true then 1 else if zt_id (T.1 (zt_at T p)) = true then 2 else 3) else 0 := rfl
  have enx : zt_nx T p = if zt_at T p < T.2 then (if zt_il (T.1 (zt_at T p)) = true then zt_sc zt_il T.1 (T.2 - zt_at T p) (zt_at T p) else if zt_id (T.1 (zt_at T p)) = true then zt_sc zt_id T.1 (T.2 - zt_at T p) (zt_at T p) else zt_at T p + 1) else zt_at T p := rfl
  have eva : zt_va T p = zt_nv T.1 (zt_at T p) (zt_nx T p - zt_at T p) := rfl
  have ecd : zt_cd k T p = if zt_kd T p = 0 then 0 else if zt_kd T p = 1 then zt_lk (zt_tb k) (zt_by T p) else if zt_kd T p = 2 then (if zt_nx T p - zt_at T p < 5 then 2 else 1) else (if zt_sg (T.1 (zt_at T p)) = true then 100 + T.1 (zt_at T p) else 1) := rfl
  rw [eF]
  have e1 : z_fb true = nI 1 := rfl
  have e0 : z_fb false = nI 0 := rfl
  by_cases q : zt_at T p < T.2
  · rw [if_pos q] at ekd enx
    have hb255 := (hB.2 (zt_at T p) q).2
    have hb : ∀ σ' : q_Sto, σ' 165 = σ 165 → σ' 157 16 = nI T.2 → f_X12_see n 157 (nI (zt_at T p)) σ' = some (nI (T.1 (zt_at T p)), σ') := fun σ' h1 h2 => m_see (by rw [h1]; exact hB) h2 q
    have hb := hb (q_up (q_up σ 157 17 (nI (zt_at T p))) 157 19 (nI (zt_at T p))) (by rw [z_upO (by omega), z_upO (by omega)]) (by rw [z_upK (by omega), z_upK (by omega)]; exact hl)
    have hlet := fun σ => m_isLetter (n := n) (c := T.1 (zt_at T p)) (σ := σ) (by omega)
    have hdig := fun σ => m_isDigit (n := n) (c := T.1 (zt_at T p)) (σ := σ) (by omega)
    by_cases q1 : zt_il (T.1 (zt_at T p)) = true
    · rw [if_pos q1] at ekd enx
      rw [ekd, if_neg (by omega), if_pos rfl] at ecd
      have hlet := fun σ => (hlet σ).trans (by rw [q1, e1])
      have s2 : (q_up (q_up (q_up σ 157 17 (nI (zt_at T p))) 157 19 (nI (zt_at T p))) 157 17 (nI (zt_nx T p))) 165 = σ 165 := by rw [z_upO (by omega), z_upO (by omega), z_upO (by omega)]
      have key := fun K => m_next_L1 (n := n) (T := T) (K := K) (T.2 - zt_at T p) (zt_at T p) (q_up (q_up σ 157 17 (nI (zt_at T p))) 157 19 (nI (zt_at T p))) n (by omega) (by omega) (by rw [z_upO (by omega), z_upO (by omega)]; exact hB) (by rw [z_upK (by omega), z_upK (by omega)]; exact hl) (by rw [z_upK (by omega)]; exact z_upS)
      rw [← enx] at key
      have ew := m_word (n := n) (k := k) (p := p) (T := T) (σ := q_up (q_up (q_up σ 157 17 (nI (zt_at T p))) 157 19 (nI (zt_at T p))) 157 17 (nI (zt_nx T p))) hn hk hp (by rw [s2]; exact hB) z_upS (by rw [z_upK (by omega)]; exact z_upS) (by rw [z_upK (by omega), z_upK (by omega), z_upK (by omega)]; exact h12)
      rw [← ecd] at ew
      refine ⟨q_up (q_up (q_up (q_up σ 157 17 (nI (zt_at T p))) 157 19 (nI (zt_at T p))) 157 17 (nI (zt_nx T p))) 157 18 (nI (zt_cd k T p)), ?_, ?_, ?_, ?_⟩
      · intro o ho
        rw [z_upO ho, z_upO ho, z_upO ho, z_upO ho]
      · intro a a1 a2 a3 a4
        rw [z_upK a2, z_upK a1, z_upK a3, z_upK a1]
      · refine ⟨by rw [z_upO (by omega), s2]; exact hB, hp, hk, ?_, ?_, ?_, z_upS, ?_, fun h => ?_⟩
        · rw [z_upK (by omega), z_upK (by omega), z_upK (by omega), z_upK (by omega)]; exact hl
        · rw [z_upK (by omega), z_upK (by omega), z_upK (by omega), z_upK (by omega)]; exact h12
        · rw [z_upK (by omega)]; exact z_upS
        · rw [z_upK (by omega), z_upK (by omega)]; exact z_upS
        · exfalso
          rw [ecd] at h
          exact zt_lk2 hk h
      · generalize zt_cd k T p = cd at *
        generalize zt_nx T p = X at *
        generalize zt_at T p = A at *
        generalize T.1 A = c at *
        simp (disch := omega) only [hb, hlet, key, ew, ↓reduceIte, ↓p_ld, ↓p_st, ↓p_nm, ↓p_nS, ↓p_jn, ↓p_call, ↓p_callv, ↓p_dv, ↓p_rem, h_ldE, h_stE, h_nmE, h_nSE, h_callE, h_callvE, h_dvE, h_remE, if_true, if_false, z_upS, z_upO, z_upK, nI_add, z_mul, z_sub, z_div, Nat.add_zero, Nat.mul_zero, Nat.zero_add, Nat.sub_zero, Nat.zero_mul, z_ltT, z_ltF, z_leT, z_leF, z_eqT, z_eqF, z_inT, z_clT, not_true_eq_false, not_false_eq_true, eq_self, true_or, or_true, z_m_lt, z_m_le, z_lt_m, z_le_m, z_eq_m, z_m_eq, z_rz0, z_rz1, z_m_add, z_of, r_157_0, r_157_1, r_157_2, r_157_3, r_157_6, r_157_7, r_157_8, r_157_9, r_157_10, r_157_11, r_157_27, r_157_28, r_157_29, r_157_30, ↓z_m1, l_0, l_1, l_2, l_3, l_4, l_5, l_6, l_7, l_8, l_9, l_10, l_11, l_12, l_13, l_14, l_15, l_16, l_17, l_18, l_19, l_20, l_21, l_22, l_23, l_24, l_25, l_26, l_27, l_28, l_29, l_30, l_31, l_32, l_33, l_34, l_35, l_36, l_37, l_38, l_39, l_40, l_41, l_42, l_43, l_44, l_45, l_46, l_47, l_48, l_49, l_50, l_51, l_52, l_53, l_54, l_55, l_56, l_57, l_59, l_60, l_61, l_62, l_63, l_64, l_65, l_80, l_86, l_87, l_88, l_89, l_90, l_91, l_92, l_93, l_94, l_95, l_97, l_99, l_100, l_107, l_119, l_122, l_124, l_129, l_140, l_141, l_142, l_143, l_144, l_145, l_147, l_150, l_159, l_160, l_161, l_162, l_205, l_253, l_255, l_256, l_269, l_305, l_380, l_399, l_400, l_420, l_430, l_516, l_600, l_720, l_820, l_905, l_921, l_937, l_953, l_970, l_999, l_1000, l_1790, l_4096, l_9999, l_1000000]
    · rw [if_neg q1] at ekd enx
      have hlet := fun σ => (hlet σ).trans (by rw [z_bf q1, e0])
      by_cases q2 : zt_id (T.1 (zt_at T p)) = true
      · rw [if_pos q2] at ekd enx
        rw [ekd, if_neg (by omega), if_neg (by omega), if_pos rfl] at ecd
        have hdig := fun σ => (hdig σ).trans (by rw [q2, e1])
        have key := fun K => m_next_L2 (n := n) (T := T) (q := zt_at T p) (K := K) (T.2 - zt_at T p) 0 (q_up (q_up (q_up σ 157 17 (nI (zt_at T p))) 157 19 (nI (zt_at T p))) 157 20 (nI 0)) n (by omega) (by omega) (by rw [z_upO (by omega), z_upO (by omega), z_upO (by omega)]; exact hB) (by rw [z_upK (by omega), z_upK (by omega), z_upK (by omega)]; exact hl) (by rw [z_upK (by omega), z_upK (by omega)]; exact z_upS) (by rw [z_upK (by omega)]; exact z_upS) z_upS
        obtain ⟨σ', k1, k2, k3, k4, k5⟩ := key (fun (s53 : q_Sto) =>
  if ((s53 157 17) - (s53 157 19)) < 5 then (
  q_nS1 (q_up s53 157 18 2) fun s55 =>
  some (0, s55))
  else (
  q_nS1 (q_up s53 157 18 1) fun s56 =>
  some (0, s56)))
        rw [Nat.add_zero] at k3 k4
        rw [← enx] at k3 k4
        have k19 : σ' 157 19 = nI (zt_at T p) := by rw [k2 19 (by omega) (by omega), z_upK (by omega)]; exact z_upS
        refine ⟨q_up σ' 157 18 (nI (zt_cd k T p)), ?_, ?_, ?_, ?_⟩
        · intro o ho
          rw [z_upO ho, k1 o ho, z_upO ho, z_upO ho, z_upO ho]
        · intro a a1 a2 a3 a4
          rw [z_upK a2, k2 a a1 a4, z_upK a4, z_upK a3, z_upK a1]
        · refine ⟨by rw [z_upO (by omega), k1 165 (by omega), z_upO (by omega), z_upO (by omega), z_upO (by omega)]; exact hB, hp, hk, ?_, ?_, by rw [z_upK (by omega)]; exact k3, z_upS, by rw [z_upK (by omega)]; exact k19, fun h => ?_⟩
          · rw [z_upK (by omega), k2 16 (by omega) (by omega), z_upK (by omega), z_upK (by omega), z_upK (by omega)]; exact hl
          · rw [z_upK (by omega), k2 12 (by omega) (by omega), z_upK (by omega), z_upK (by omega), z_upK (by omega)]; exact h12
          · rw [ecd] at h
            have h5 : zt_nx T p - zt_at T p < 5 := by
              by_cases q5 : zt_nx T p - zt_at T p < 5
              · exact q5
              · rw [if_neg q5] at h; omega
            rw [z_upK (by omega), k4, eva, show min (zt_nx T p - zt_at T p) 4 = zt_nx T p - zt_at T p by omega]
            refine (zt_vi_nv _ (fun i hi => ?_) h5).1
            have := zt_sc_all (P := zt_id) (B := T.1) (T.2 - zt_at T p) (zt_at T p) (zt_at T p + i) (by omega) (by rw [← enx]; omega)
            unfold zt_id at this
            simpa using this
        · refine Eq.trans ?_ (k5.trans ?_)
          · generalize zt_at T p = A at *
            generalize T.1 A = c at *
            simp (disch := omega) only [hb, hlet, hdig, ↓reduceIte, ↓p_ld, ↓p_st, ↓p_nm, ↓p_nS, ↓p_jn, ↓p_call, ↓p_callv, ↓p_dv, ↓p_rem, h_ldE, h_stE, h_nmE, h_nSE, h_callE, h_callvE, h_dvE, h_remE, if_true, if_false, z_upS, z_upO, z_upK, nI_add, z_mul, z_sub, z_div, Nat.add_zero, Nat.mul_zero, Nat.zero_add, Nat.sub_zero, Nat.zero_mul, z_ltT, z_ltF, z_leT, z_leF, z_eqT, z_eqF, z_inT, z_clT, not_true_eq_false, not_false_eq_true, eq_self, true_or, or_true, z_m_lt, z_m_le, z_lt_m, z_le_m, z_eq_m, z_m_eq, z_rz0, z_rz1, z_m_add, z_of, r_157_0, r_157_1, r_157_2, r_157_3, r_157_6, r_157_7, r_157_8, r_157_9, r_157_10, r_157_11, r_157_27, r_157_28, r_157_29, r_157_30, ↓z_m1, l_0, l_1, l_2, l_3, l_4, l_5, l_6, l_7, l_8, l_9, l_10, l_11, l_12, l_13, l_14, l_15, l_16, l_17, l_18, l_19, l_20, l_21, l_22, l_23, l_24, l_25, l_26, l_27, l_28, l_29, l_30, l_31, l_32, l_33, l_34, l_35, l_36, l_37, l_38, l_39, l_40, l_41, l_42, l_43, l_44, l_45, l_46, l_47, l_48, l_49, l_50, l_51, l_52, l_53, l_54, l_55, l_56, l_57, l_59, l_60, l_61, l_62, l_63, l_64, l_65, l_80, l_86, l_87, l_88, l_89, l_90, l_91, l_92, l_93, l_94, l_95, l_97, l_99, l_100, l_107, l_119, l_122, l_124, l_129, l_140, l_141, l_142, l_143, l_144, l_145, l_147, l_150, l_159, l_160, l_161, l_162, l_205, l_253, l_255, l_256, l_269, l_305, l_380, l_399, l_400, l_420, l_430, l_516, l_600, l_720, l_820, l_905, l_921, l_937, l_953, l_970, l_999, l_1000, l_1790, l_4096, l_9999, l_1000000]
          · by_cases q5 : zt_nx T p - zt_at T p < 5
            · rw [ecd, if_pos q5]
              generalize zt_nx T p = X at *
              generalize zt_at T p = A at *
              simp (disch := omega) only [k3, k19, ↓reduceIte, ↓p_ld, ↓p_st, ↓p_nm, ↓p_nS, ↓p_jn, ↓p_call, ↓p_callv, ↓p_dv, ↓p_rem, h_ldE, h_stE, h_nmE, h_nSE, h_callE, h_callvE, h_dvE, h_remE, if_true, if_false, z_upS, z_upO, z_upK, nI_add, z_mul, z_sub, z_div, Nat.add_zero, Nat.mul_zero, Nat.zero_add, Nat.sub_zero, Nat.zero_mul, z_ltT, z_ltF, z_leT, z_leF, z_eqT, z_eqF, z_inT, z_clT, not_true_eq_false, not_false_eq_true, eq_self, true_or, or_true, z_m_lt, z_m_le, z_lt_m, z_le_m, z_eq_m, z_m_eq, z_rz0, z_rz1, z_m_add, z_of, r_157_0, r_157_1, r_157_2, r_157_3, r_157_6, r_157_7, r_157_8, r_157_9, r_157_10, r_157_11, r_157_27, r_157_28, r_157_29, r_157_30, ↓z_m1, l_0, l_1, l_2, l_3, l_4, l_5, l_6, l_7, l_8, l_9, l_10, l_11, l_12, l_13, l_14, l_15, l_16, l_17, l_18, l_19, l_20, l_21, l_22, l_23, l_24, l_25, l_26, l_27, l_28, l_29, l_30, l_31, l_32, l_33, l_34, l_35, l_36, l_37, l_38, l_39, l_40, l_41, l_42, l_43, l_44, l_45, l_46, l_47, l_48, l_49, l_50, l_51, l_52, l_53, l_54, l_55, l_56, l_57, l_59, l_60, l_61, l_62, l_63, l_64, l_65, l_80, l_86, l_87, l_88, l_89, l_90, l_91, l_92, l_93, l_94, l_95, l_97, l_99, l_100, l_107, l_119, l_122, l_124, l_129, l_140, l_141, l_142, l_143, l_144, l_145, l_147, l_150, l_159, l_160, l_161, l_162, l_205, l_253, l_255, l_256, l_269, l_305, l_380, l_399, l_400, l_420, l_430, l_516, l_600, l_720, l_820, l_905, l_921, l_937, l_953, l_970, l_999, l_1000, l_1790, l_4096, l_9999, l_1000000]
            · rw [ecd, if_neg q5]
              generalize zt_nx T p = X at *
              generalize zt_at T p = A at *
              simp (disch := omega) only [k3, k19, ↓reduceIte, ↓p_ld, ↓p_st, ↓p_nm, ↓p_nS, ↓p_jn, ↓p_call, ↓p_callv, ↓p_dv, ↓p_rem, h_ldE, h_stE, h_nmE, h_nSE, h_callE, h_callvE, h_dvE, h_remE, if_true, if_false, z_upS, z_upO, z_upK, nI_add, z_mul, z_sub, z_div, Nat.add_zero, Nat.mul_zero, Nat.zero_add, Nat.sub_zero, Nat.zero_mul, z_ltT, z_ltF, z_leT, z_leF, z_eqT, z_eqF, z_inT, z_clT, not_true_eq_false, not_false_eq_true, eq_self, true_or, or_true, z_m_lt, z_m_le, z_lt_m, z_le_m, z_eq_m, z_m_eq, z_rz0, z_rz1, z_m_add, z_of, r_157_0, r_157_1, r_157_2, r_157_3, r_157_6, r_157_7, r_157_8, r_157_9, r_157_10, r_157_11, r_157_27, r_157_28, r_157_29, r_157_30, ↓z_m1, l_0, l_1, l_2, l_3, l_4, l_5, l_6, l_7, l_8, l_9, l_10, l_11, l_12, l_13, l_14, l_15, l_16, l_17, l_18, l_19, l_20, l_21, l_22, l_23, l_24, l_25, l_26, l_27, l_28, l_29, l_30, l_31, l_32, l_33, l_34, l_35, l_36, l_37, l_38, l_39, l_40, l_41, l_42, l_43, l_44, l_45, l_46, l_47, l_48, l_49, l_50, l_51, l_52, l_53, l_54, l_55, l_56, l_57, l_59, l_60, l_61, l_62, l_63, l_64, l_65, l_80, l_86, l_87, l_88, l_89, l_90, l_91, l_92, l_93, l_94, l_95, l_97, l_99, l_100, l_107, l_119, l_122, l_124, l_129, l_140, l_141, l_142, l_143, l_144, l_145, l_147, l_150, l_159, l_160, l_161, l_162, l_205, l_253, l_255, l_256, l_269, l_305, l_380, l_399, l_400, l_420, l_430, l_516, l_600, l_720, l_820, l_905, l_921, l_937, l_953, l_970, l_999, l_1000, l_1790, l_4096, l_9999, l_1000000]
      · rw [if_neg q2] at ekd enx
        rw [ekd, if_neg (by omega), if_neg (by omega), if_neg (by omega)] at ecd
        have hdig := fun σ => (hdig σ).trans (by rw [z_bf q2, e0])
        refine ⟨q_up (q_up (q_up (q_up σ 157 17 (nI (zt_at T p))) 157 19 (nI (zt_at T p))) 157 17 (nI (zt_at T p + 1))) 157 18 (nI (zt_cd k T p)), ?_, ?_, ?_, ?_⟩
        · intro o ho
          rw [z_upO ho, z_upO ho, z_upO ho, z_upO ho]
        · intro a a1 a2 a3 a4
          rw [z_upK a2, z_upK a1, z_upK a3, z_upK a1]
        · refine ⟨by rw [z_upO (by omega), z_upO (by omega), z_upO (by omega), z_upO (by omega)]; exact hB, hp, hk, ?_, ?_, ?_, z_upS, ?_, fun h => ?_⟩
          · rw [z_upK (by omega), z_upK (by omega), z_upK (by omega), z_upK (by omega)]; exact hl
          · rw [z_upK (by omega), z_upK (by omega), z_upK (by omega), z_upK (by omega)]; exact h12
          · rw [z_upK (by omega), enx]; exact z_upS
          · rw [z_upK (by omega), z_upK (by omega)]; exact z_upS
          · exfalso
            rw [ecd] at h
            split at h <;> omega
        · generalize zt_cd k T p = cd at *
          generalize zt_at T p = A at *
          generalize T.1 A = c at *
          by_cases qs : c = 59 ∨ c = 43 ∨ c = 45 ∨ c = 42 ∨ c = 47 ∨ c = 40 ∨ c = 41 ∨ c = 60 ∨ c = 61 ∨ c = 62
          · rw [if_pos (zt_sg_T qs)] at ecd
            rcases qs with rfl | rfl | rfl | rfl | rfl | rfl | rfl | rfl | rfl | rfl <;> (subst ecd; simp (disch := omega) only [hb, hlet, hdig, ↓reduceIte, ↓p_ld, ↓p_st, ↓p_nm, ↓p_nS, ↓p_jn, ↓p_call, ↓p_callv, ↓p_dv, ↓p_rem, h_ldE, h_stE, h_nmE, h_nSE, h_callE, h_callvE, h_dvE, h_remE, if_true, if_false, z_upS, z_upO, z_upK, nI_add, z_mul, z_sub, z_div, Nat.add_zero, Nat.mul_zero, Nat.zero_add, Nat.sub_zero, Nat.zero_mul, z_ltT, z_ltF, z_leT, z_leF, z_eqT, z_eqF, z_inT, z_clT, not_true_eq_false, not_false_eq_true, eq_self, true_or, or_true, z_m_lt, z_m_le, z_lt_m, z_le_m, z_eq_m, z_m_eq, z_rz0, z_rz1, z_m_add, z_of, r_157_0, r_157_1, r_157_2, r_157_3, r_157_6, r_157_7, r_157_8, r_157_9, r_157_10, r_157_11, r_157_27, r_157_28, r_157_29, r_157_30, ↓z_m1, l_0, l_1, l_2, l_3, l_4, l_5, l_6, l_7, l_8, l_9, l_10, l_11, l_12, l_13, l_14, l_15, l_16, l_17, l_18, l_19, l_20, l_21, l_22, l_23, l_24, l_25, l_26, l_27, l_28, l_29, l_30, l_31, l_32, l_33, l_34, l_35, l_36, l_37, l_38, l_39, l_40, l_41, l_42, l_43, l_44, l_45, l_46, l_47, l_48, l_49, l_50, l_51, l_52, l_53, l_54, l_55, l_56, l_57, l_59, l_60, l_61, l_62, l_63, l_64, l_65, l_80, l_86, l_87, l_88, l_89, l_90, l_91, l_92, l_93, l_94, l_95, l_97, l_99, l_100, l_107, l_119, l_122, l_124, l_129, l_140, l_141, l_142, l_143, l_144, l_145, l_147, l_150, l_159, l_160, l_161, l_162, l_205, l_253, l_255, l_256, l_269, l_305, l_380, l_399, l_400, l_420, l_430, l_516, l_600, l_720, l_820, l_905, l_921, l_937, l_953, l_970, l_999, l_1000, l_1790, l_4096, l_9999, l_1000000])
          · rw [if_neg (by rw [zt_sg_F qs]; decide)] at ecd
            subst ecd
            simp (disch := omega) only [hb, hlet, hdig, ↓reduceIte, ↓p_ld, ↓p_st, ↓p_nm, ↓p_nS, ↓p_jn, ↓p_call, ↓p_callv, ↓p_dv, ↓p_rem, h_ldE, h_stE, h_nmE, h_nSE, h_callE, h_callvE, h_dvE, h_remE, if_true, if_false, z_upS, z_upO, z_upK, nI_add, z_mul, z_sub, z_div, Nat.add_zero, Nat.mul_zero, Nat.zero_add, Nat.sub_zero, Nat.zero_mul, z_ltT, z_ltF, z_leT, z_leF, z_eqT, z_eqF, z_inT, z_clT, not_true_eq_false, not_false_eq_true, eq_self, true_or, or_true, z_m_lt, z_m_le, z_lt_m, z_le_m, z_eq_m, z_m_eq, z_rz0, z_rz1, z_m_add, z_of, r_157_0, r_157_1, r_157_2, r_157_3, r_157_6, r_157_7, r_157_8, r_157_9, r_157_10, r_157_11, r_157_27, r_157_28, r_157_29, r_157_30, ↓z_m1, l_0, l_1, l_2, l_3, l_4, l_5, l_6, l_7, l_8, l_9, l_10, l_11, l_12, l_13, l_14, l_15, l_16, l_17, l_18, l_19, l_20, l_21, l_22, l_23, l_24, l_25, l_26, l_27, l_28, l_29, l_30, l_31, l_32, l_33, l_34, l_35, l_36, l_37, l_38, l_39, l_40, l_41, l_42, l_43, l_44, l_45, l_46, l_47, l_48, l_49, l_50, l_51, l_52, l_53, l_54, l_55, l_56, l_57, l_59, l_60, l_61, l_62, l_63, l_64, l_65, l_80, l_86, l_87, l_88, l_89, l_90, l_91, l_92, l_93, l_94, l_95, l_97, l_99, l_100, l_107, l_119, l_122, l_124, l_129, l_140, l_141, l_142, l_143, l_144, l_145, l_147, l_150, l_159, l_160, l_161, l_162, l_205, l_253, l_255, l_256, l_269, l_305, l_380, l_399, l_400, l_420, l_430, l_516, l_600, l_720, l_820, l_905, l_921, l_937, l_953, l_970, l_999, l_1000, l_1790, l_4096, l_9999, l_1000000]
  · rw [if_neg q] at ekd enx
    rw [ekd, if_pos rfl] at ecd
    have hb : ∀ σ' : q_Sto, σ' 165 = σ 165 → σ' 157 16 = nI T.2 → f_X12_see n 157 (nI (zt_at T p)) σ' = some (z_m, σ') := fun σ' h1 h2 => m_see0 (by rw [h1]; exact hB) h2 (by omega) (by omega)
    have hb := hb (q_up (q_up σ 157 17 (nI (zt_at T p))) 157 19 (nI (zt_at T p))) (by rw [z_upO (by omega), z_upO (by omega)]) (by rw [z_upK (by omega), z_upK (by omega)]; exact hl)
    refine ⟨q_up (q_up (q_up σ 157 17 (nI (zt_at T p))) 157 19 (nI (zt_at T p))) 157 18 (nI 0), ?_, ?_, ?_, ?_⟩
    · intro o ho
      rw [z_upO ho, z_upO ho, z_upO ho]
    · intro a a1 a2 a3 a4
      rw [z_upK a2, z_upK a3, z_upK a1]
    · refine ⟨by rw [z_upO (by omega), z_upO (by omega), z_upO (by omega)]; exact hB, hp, hk, ?_, ?_, ?_, by rw [ecd]; exact z_upS, ?_, fun h => by omega⟩
      · rw [z_upK (by omega), z_upK (by omega), z_upK (by omega)]; exact hl
      · rw [z_upK (by omega), z_upK (by omega), z_upK (by omega)]; exact h12
      · rw [z_upK (by omega), z_upK (by omega), z_upS, enx]
      · rw [z_upK (by omega)]; exact z_upS
    · generalize zt_at T p = A at *
      simp (disch := omega) only [hb, ↓reduceIte, ↓p_ld, ↓p_st, ↓p_nm, ↓p_nS, ↓p_jn, ↓p_call, ↓p_callv, ↓p_dv, ↓p_rem, h_ldE, h_stE, h_nmE, h_nSE, h_callE, h_callvE, h_dvE, h_remE, if_true, if_false, z_upS, z_upO, z_upK, nI_add, z_mul, z_sub, z_div, Nat.add_zero, Nat.mul_zero, Nat.zero_add, Nat.sub_zero, Nat.zero_mul, z_ltT, z_ltF, z_leT, z_leF, z_eqT, z_eqF, z_inT, z_clT, not_true_eq_false, not_false_eq_true, eq_self, true_or, or_true, z_m_lt, z_m_le, z_lt_m, z_le_m, z_eq_m, z_m_eq, z_rz0, z_rz1, z_m_add, z_of, r_157_0, r_157_1, r_157_2, r_157_3, r_157_6, r_157_7, r_157_8, r_157_9, r_157_10, r_157_11, r_157_27, r_157_28, r_157_29, r_157_30, ↓z_m1, l_0, l_1, l_2, l_3, l_4, l_5, l_6, l_7, l_8, l_9, l_10, l_11, l_12, l_13, l_14, l_15, l_16, l_17, l_18, l_19, l_20, l_21, l_22, l_23, l_24, l_25, l_26, l_27, l_28, l_29, l_30, l_31, l_32, l_33, l_34, l_35, l_36, l_37, l_38, l_39, l_40, l_41, l_42, l_43, l_44, l_45, l_46, l_47, l_48, l_49, l_50, l_51, l_52, l_53, l_54, l_55, l_56, l_57, l_59, l_60, l_61, l_62, l_63, l_64, l_65, l_80, l_86, l_87, l_88, l_89, l_90, l_91, l_92, l_93, l_94, l_95, l_97, l_99, l_100, l_107, l_119, l_122, l_124, l_129, l_140, l_141, l_142, l_143, l_144, l_145, l_147, l_150, l_159, l_160, l_161, l_162, l_205, l_253, l_255, l_256, l_269, l_305, l_380, l_399, l_400, l_420, l_430, l_516, l_600, l_720, l_820, l_905, l_921, l_937, l_953, l_970, l_999, l_1000, l_1790, l_4096, l_9999, l_1000000]
/-! TEXTS: what the class asks of a token, by the reference's codes -/
theorem zt_lk_in2 {t : List (Nat × Nat)} {l : List Nat} : zt_lk t l = 1 ∨ ∃ x ∈ t, zt_lk t l = x.2 ∧ l = zt_w x.1 := by
  induction t with
  | nil => exact Or.inl rfl
  | cons x t ih =>
    obtain ⟨i, c⟩ := x
    have e : zt_lk ((i, c) :: t) l = if l = zt_w i then c else zt_lk t l := rfl
    rw [e]
    by_cases q : l = zt_w i
    · rw [if_pos q]; exact Or.inr ⟨(i, c), List.mem_cons_self .., rfl, q⟩
    · rw [if_neg q]
      rcases ih with h | ⟨x, h1, h2⟩
      · exact Or.inl h
      · exact Or.inr ⟨x, List.mem_cons_of_mem _ h1, h2⟩
/-- the word w is the code c of text k -/
def zt_ok (k w c : Nat) : Bool := decide (w < 57) && (decide (3 ≤ c) && (decide (c < 100) && (decide (zt_lk (zt_tb k) (zt_w w) = c) && (zt_tb k).all (fun x => decide (x.2 = c → zt_w x.1 = zt_w w)))))
theorem zt_kd4 (T : zt_T) (p : Nat) : zt_kd T p < 4 := by
  unfold zt_kd
  split
  · split
    · omega
    · split <;> omega
  · omega
theorem zt_cdE (k : Nat) (T : zt_T) (p : Nat) : zt_cd k T p = if zt_kd T p = 0 then 0 else if zt_kd T p = 1 then zt_lk (zt_tb k) (zt_by T p) else if zt_kd T p = 2 then (if zt_nx T p - zt_at T p < 5 then 2 else 1) else (if zt_sg (T.1 (zt_at T p)) = true then 100 + T.1 (zt_at T p) else 1) := rfl
theorem zt_sg_ge {c : Nat} (h : zt_sg c = true) : 40 ≤ c ∧ c ≤ 62 := by
  unfold zt_sg at h
  have h : c = 59 ∨ c = 43 ∨ c = 45 ∨ c = 42 ∨ c = 47 ∨ c = 40 ∨ c = 41 ∨ c = 60 ∨ c = 61 ∨ c = 62 := by simpa using h
  omega
theorem zt_cd_w {k w c p : Nat} {T : zt_T} (hk : k < 5) (ho : zt_ok k w c = true) : zt_cd k T p = c ↔ (zt_kd T p = 1 ∧ zt_by T p = zt_w w) := by
  unfold zt_ok at ho
  simp only [Bool.and_eq_true, decide_eq_true_eq] at ho
  obtain ⟨h1, h2, h3, h4, h5⟩ := ho
  have h4k := zt_kd4 T p
  rw [zt_cdE]
  by_cases q0 : zt_kd T p = 0
  · rw [if_pos q0]
    exact ⟨fun h => by omega, fun h => by omega⟩
  · rw [if_neg q0]
    by_cases q1 : zt_kd T p = 1
    · rw [if_pos q1]
      constructor
      · intro h
        refine ⟨q1, ?_⟩
        rcases zt_lk_in2 (t := zt_tb k) (l := zt_by T p) with g | ⟨x, g1, g2, g3⟩
        · omega
        · have := List.all_eq_true.mp h5 x g1
          rw [g3]
          exact of_decide_eq_true this (by omega)
      · rintro ⟨-, h⟩
        rw [h]; exact h4
    · rw [if_neg q1]
      refine ⟨fun h => ?_, fun h => absurd h.1 q1⟩
      by_cases q2 : zt_kd T p = 2
      · rw [if_pos q2] at h
        split at h <;> omega
      · rw [if_neg q2] at h
        split at h
        · rename_i hs
          have := zt_sg_ge hs
          omega
        · omega
theorem zt_cd_n {k p : Nat} {T : zt_T} (hk : k < 5) : zt_cd k T p = 2 ↔ (zt_kd T p = 2 ∧ zt_nx T p - zt_at T p < 5) := by
  have h4k := zt_kd4 T p
  rw [zt_cdE]
  by_cases q0 : zt_kd T p = 0
  · rw [if_pos q0]
    exact ⟨fun h => by omega, fun h => by omega⟩
  · rw [if_neg q0]
    by_cases q1 : zt_kd T p = 1
    · rw [if_pos q1]
      have := zt_lk_r (l := zt_by T p) hk
      exact ⟨fun h => by omega, fun h => by omega⟩
    · rw [if_neg q1]
      by_cases q2 : zt_kd T p = 2
      · rw [if_pos q2]
        by_cases q5 : zt_nx T p - zt_at T p < 5
        · rw [if_pos q5]; exact ⟨fun _ => ⟨q2, q5⟩, fun _ => rfl⟩
        · rw [if_neg q5]; exact ⟨fun h => by omega, fun h => absurd h.2 q5⟩
      · rw [if_neg q2]
        refine ⟨fun h => ?_, fun h => absurd h.1 q2⟩
        split at h <;> omega
theorem zt_cd_0 {k p : Nat} {T : zt_T} (hk : k < 5) : zt_cd k T p = 0 ↔ zt_kd T p = 0 := by
  rw [zt_cdE]
  by_cases q0 : zt_kd T p = 0
  · rw [if_pos q0]; exact ⟨fun _ => q0, fun _ => rfl⟩
  · rw [if_neg q0]
    refine ⟨fun h => ?_, fun h => absurd h q0⟩
    by_cases q1 : zt_kd T p = 1
    · rw [if_pos q1] at h
      have := zt_lk_r (l := zt_by T p) hk
      omega
    · rw [if_neg q1] at h
      split at h
      · split at h <;> omega
      · split at h <;> omega
theorem zt_cd_s {k p c : Nat} {T : zt_T} (hk : k < 5) (hc : c = 59 ∨ c = 43 ∨ c = 45 ∨ c = 42 ∨ c = 47 ∨ c = 40 ∨ c = 41 ∨ c = 60 ∨ c = 61 ∨ c = 62) : zt_cd k T p = 100 + c ↔ (zt_kd T p = 3 ∧ T.1 (zt_at T p) = c) := by
  have h4k := zt_kd4 T p
  rw [zt_cdE]
  by_cases q0 : zt_kd T p = 0
  · rw [if_pos q0]
    exact ⟨fun h => by omega, fun h => by omega⟩
  · rw [if_neg q0]
    by_cases q1 : zt_kd T p = 1
    · rw [if_pos q1]
      have := zt_lk_r (l := zt_by T p) hk
      exact ⟨fun h => by omega, fun h => by omega⟩
    · rw [if_neg q1]
      by_cases q2 : zt_kd T p = 2
      · rw [if_pos q2]
        refine ⟨fun h => ?_, fun h => by omega⟩
        split at h <;> omega
      · rw [if_neg q2]
        constructor
        · intro h
          split at h
          · exact ⟨by omega, by omega⟩
          · omega
        · rintro ⟨-, h⟩
          rw [h, if_pos (zt_sg_T hc)]
theorem zt_cd_r {k p : Nat} {T : zt_T} (hk : k < 5) : zt_cd k T p ≤ 162 := by
  rw [zt_cdE]
  split
  · omega
  · split
    · have := zt_lk_r (l := zt_by T p) hk
      omega
    · split
      · split <;> omega
      · split
        · rename_i hs
          have := zt_sg_ge hs
          omega
        · omega
theorem zt_va_lt {k p : Nat} {T : zt_T} (hk : k < 5) (hp : p ≤ T.2) (h : zt_cd k T p = 2) : zt_va T p < 10000 := by
  obtain ⟨h1, h2⟩ := (zt_cd_n hk).mp h
  obtain ⟨b1, b2⟩ := zt_at_b hp
  have ekd : zt_kd T p = if zt_at T p < T.2 then (if zt_il (T.1 (zt_at T p)) = true then 1 else if zt_id (T.1 (zt_at T p)) = true then 2 else 3) else 0 := rfl
  have enx : zt_nx T p = if zt_at T p < T.2 then (if zt_il (T.1 (zt_at T p)) = true then zt_sc zt_il T.1 (T.2 - zt_at T p) (zt_at T p) else if zt_id (T.1 (zt_at T p)) = true then zt_sc zt_id T.1 (T.2 - zt_at T p) (zt_at T p) else zt_at T p + 1) else zt_at T p := rfl
  by_cases q : zt_at T p < T.2
  · rw [if_pos q] at ekd enx
    by_cases q1 : zt_il (T.1 (zt_at T p)) = true
    · rw [if_pos q1] at ekd; omega
    · rw [if_neg q1] at ekd enx
      by_cases q2 : zt_id (T.1 (zt_at T p)) = true
      · rw [if_pos q2] at ekd enx
        have := (zt_vi_nv (B := T.1) (q := zt_at T p) (zt_nx T p - zt_at T p) (fun i hi => by
          have := zt_sc_all (P := zt_id) (B := T.1) (T.2 - zt_at T p) (zt_at T p) (zt_at T p + i) (by omega) (by rw [← enx]; omega)
          unfold zt_id at this
          simpa using this) h2).2
        have hp4 : 10 ^ (zt_nx T p - zt_at T p) ≤ 10 ^ 4 := Nat.pow_le_pow_right (by omega) (by omega)
        have hp5 : (10 : Nat) ^ 4 = 10000 := rfl
        unfold zt_va
        omega
      · rw [if_neg q2] at ekd; omega
  · rw [if_neg q] at ekd; omega
/-- a token that is not the end goes on -/
theorem zt_go {k p : Nat} {T : zt_T} (hk : k < 5) (hp : p ≤ T.2) (h : zt_cd k T p ≠ 0) : p < zt_nx T p ∧ zt_nx T p ≤ T.2 := by
  obtain ⟨b1, b2⟩ := zt_at_b hp
  obtain ⟨b3, b4, b5⟩ := zt_nx_b hp
  have := b5 (fun q => h ((zt_cd_0 hk).mpr q))
  omega
theorem c_wT {k w c p : Nat} {T : zt_T} {σ : q_Sto} (hC : zt_C σ T p) (hk : k < 5) (ho : zt_ok k w c = true) (h : zt_cd k T p = c) : f_X8_isWord q_F 142 w σ = some (nI 1, σ) := by
  have hw : w < 57 := by
    unfold zt_ok at ho
    rw [Bool.and_eq_true, decide_eq_true_eq] at ho
    exact ho.1
  rw [c_isWord z_F402 hw hC, decide_eq_true ((zt_cd_w hk ho).mp h)]
  rfl
theorem c_wF {k w c p : Nat} {T : zt_T} {σ : q_Sto} (hC : zt_C σ T p) (hk : k < 5) (ho : zt_ok k w c = true) (h : ¬ zt_cd k T p = c) : f_X8_isWord q_F 142 w σ = some (nI 0, σ) := by
  have hw : w < 57 := by
    unfold zt_ok at ho
    rw [Bool.and_eq_true, decide_eq_true_eq] at ho
    exact ho.1
  rw [c_isWord z_F402 hw hC, decide_eq_false (fun q => h ((zt_cd_w hk ho).mpr q))]
  rfl
theorem c_sT {k c p : Nat} {T : zt_T} {σ : q_Sto} (hC : zt_C σ T p) (hk : k < 5) (hc : c = 59 ∨ c = 43 ∨ c = 45 ∨ c = 42 ∨ c = 47 ∨ c = 40 ∨ c = 41 ∨ c = 60 ∨ c = 61 ∨ c = 62) (h : zt_cd k T p = 100 + c) : f_X8_isSign q_F 142 (nI c) σ = some (nI 1, σ) := by
  obtain ⟨h1, h2⟩ := (zt_cd_s hk hc).mp h
  obtain ⟨hB, hp, c1, c2, c3, c4, c5, -⟩ := hC
  have c5 := c5 h1
  rw [h1] at c4
  rw [h2] at c5
  unfold f_X8_isSign
  simp (disch := omega) only [c4, c5, ↓reduceIte, ↓p_ld, ↓p_st, ↓p_nm, ↓p_nS, ↓p_jn, ↓p_call, ↓p_callv, ↓p_dv, ↓p_rem, h_ldE, h_stE, h_nmE, h_nSE, h_callE, h_callvE, h_dvE, h_remE, if_true, if_false, z_upS, z_upO, z_upK, nI_add, z_mul, z_sub, z_div, Nat.add_zero, Nat.mul_zero, Nat.zero_add, Nat.sub_zero, Nat.zero_mul, z_ltT, z_ltF, z_leT, z_leF, z_eqT, z_eqF, z_inT, z_clT, not_true_eq_false, not_false_eq_true, eq_self, true_or, or_true, z_m_lt, z_m_le, z_lt_m, z_le_m, z_eq_m, z_m_eq, z_rz0, z_rz1, z_m_add, z_of, r_0_0, r_0_1, r_0_3, r_0_4, r_0_5, r_0_6, r_0_7, r_0_8, r_0_9, r_0_10, r_1_0, r_1_1, r_1_2, r_1_3, r_1_4, r_1_5, r_1_6, r_1_7, r_1_8, r_2_0, r_2_1, r_2_2, r_2_3, r_2_4, r_2_5, r_2_6, r_2_7, r_11_0, r_11_1, r_11_2, r_11_3, r_11_4, r_11_5, r_11_6, r_19_0, r_21_0, r_23_0, r_25_0, r_27_0, r_61_0, r_117_0, r_117_1, r_117_2, r_117_3, r_117_4, r_117_5, r_117_6, r_117_7, r_126_0, r_126_1, r_126_2, r_126_3, r_126_4, r_132_0, r_132_1, r_135_0, r_135_1, r_135_2, r_135_3, r_135_4, r_135_5, r_142_0, r_144_0, r_144_1, r_144_2, r_145_0, r_145_1, r_145_2, r_145_3, r_145_4, r_145_5, r_145_6, r_154_0, r_154_1, r_155_0, ↓z_m1, l_0, l_1, l_2, l_3, l_4, l_5, l_6, l_7, l_8, l_9, l_10, l_11, l_12, l_13, l_14, l_15, l_16, l_17, l_18, l_19, l_20, l_21, l_22, l_23, l_24, l_25, l_26, l_27, l_28, l_29, l_30, l_31, l_32, l_33, l_34, l_35, l_36, l_37, l_38, l_39, l_40, l_41, l_42, l_43, l_44, l_45, l_46, l_47, l_48, l_49, l_50, l_51, l_52, l_53, l_54, l_55, l_56, l_57, l_59, l_60, l_61, l_62, l_63, l_64, l_65, l_80, l_86, l_87, l_88, l_89, l_90, l_91, l_92, l_93, l_94, l_95, l_97, l_99, l_100, l_107, l_119, l_122, l_124, l_129, l_140, l_141, l_142, l_143, l_144, l_145, l_147, l_150, l_159, l_160, l_161, l_162, l_205, l_253, l_255, l_256, l_269, l_305, l_380, l_399, l_400, l_420, l_430, l_516, l_600, l_720, l_820, l_905, l_921, l_937, l_953, l_970, l_999, l_1000, l_1790, l_4096, l_9999, l_1000000]
theorem c_sF {k c p : Nat} {T : zt_T} {σ : q_Sto} (hC : zt_C σ T p) (hk : k < 5) (hc : c = 59 ∨ c = 43 ∨ c = 45 ∨ c = 42 ∨ c = 47 ∨ c = 40 ∨ c = 41 ∨ c = 60 ∨ c = 61 ∨ c = 62) (h : ¬ zt_cd k T p = 100 + c) : f_X8_isSign q_F 142 (nI c) σ = some (nI 0, σ) := by
  have h4k := zt_kd4 T p
  have hn := fun q => h ((zt_cd_s hk hc).mpr q)
  obtain ⟨hB, hp, c1, c2, c3, c4, c5, -⟩ := hC
  unfold f_X8_isSign
  by_cases q : zt_kd T p = 3
  · have c5 := c5 q
    have hne : T.1 (zt_at T p) ≠ c := fun g => hn ⟨q, g⟩
    have hlt : zt_at T p < T.2 := by
      by_cases q1 : zt_at T p < T.2
      · exact q1
      · have : zt_kd T p = 0 := if_neg q1
        omega
    have := (hB.2 _ hlt).2
    rw [q] at c4
    generalize T.1 (zt_at T p) = b at *
    simp (disch := omega) only [c4, c5, ↓reduceIte, ↓p_ld, ↓p_st, ↓p_nm, ↓p_nS, ↓p_jn, ↓p_call, ↓p_callv, ↓p_dv, ↓p_rem, h_ldE, h_stE, h_nmE, h_nSE, h_callE, h_callvE, h_dvE, h_remE, if_true, if_false, z_upS, z_upO, z_upK, nI_add, z_mul, z_sub, z_div, Nat.add_zero, Nat.mul_zero, Nat.zero_add, Nat.sub_zero, Nat.zero_mul, z_ltT, z_ltF, z_leT, z_leF, z_eqT, z_eqF, z_inT, z_clT, not_true_eq_false, not_false_eq_true, eq_self, true_or, or_true, z_m_lt, z_m_le, z_lt_m, z_le_m, z_eq_m, z_m_eq, z_rz0, z_rz1, z_m_add, z_of, r_0_0, r_0_1, r_0_3, r_0_4, r_0_5, r_0_6, r_0_7, r_0_8, r_0_9, r_0_10, r_1_0, r_1_1, r_1_2, r_1_3, r_1_4, r_1_5, r_1_6, r_1_7, r_1_8, r_2_0, r_2_1, r_2_2, r_2_3, r_2_4, r_2_5, r_2_6, r_2_7, r_11_0, r_11_1, r_11_2, r_11_3, r_11_4, r_11_5, r_11_6, r_19_0, r_21_0, r_23_0, r_25_0, r_27_0, r_61_0, r_117_0, r_117_1, r_117_2, r_117_3, r_117_4, r_117_5, r_117_6, r_117_7, r_126_0, r_126_1, r_126_2, r_126_3, r_126_4, r_132_0, r_132_1, r_135_0, r_135_1, r_135_2, r_135_3, r_135_4, r_135_5, r_142_0, r_144_0, r_144_1, r_144_2, r_145_0, r_145_1, r_145_2, r_145_3, r_145_4, r_145_5, r_145_6, r_154_0, r_154_1, r_155_0, ↓z_m1, l_0, l_1, l_2, l_3, l_4, l_5, l_6, l_7, l_8, l_9, l_10, l_11, l_12, l_13, l_14, l_15, l_16, l_17, l_18, l_19, l_20, l_21, l_22, l_23, l_24, l_25, l_26, l_27, l_28, l_29, l_30, l_31, l_32, l_33, l_34, l_35, l_36, l_37, l_38, l_39, l_40, l_41, l_42, l_43, l_44, l_45, l_46, l_47, l_48, l_49, l_50, l_51, l_52, l_53, l_54, l_55, l_56, l_57, l_59, l_60, l_61, l_62, l_63, l_64, l_65, l_80, l_86, l_87, l_88, l_89, l_90, l_91, l_92, l_93, l_94, l_95, l_97, l_99, l_100, l_107, l_119, l_122, l_124, l_129, l_140, l_141, l_142, l_143, l_144, l_145, l_147, l_150, l_159, l_160, l_161, l_162, l_205, l_253, l_255, l_256, l_269, l_305, l_380, l_399, l_400, l_420, l_430, l_516, l_600, l_720, l_820, l_905, l_921, l_937, l_953, l_970, l_999, l_1000, l_1790, l_4096, l_9999, l_1000000]
  · generalize zt_kd T p = kd at *
    simp (disch := omega) only [c4, ↓reduceIte, ↓p_ld, ↓p_st, ↓p_nm, ↓p_nS, ↓p_jn, ↓p_call, ↓p_callv, ↓p_dv, ↓p_rem, h_ldE, h_stE, h_nmE, h_nSE, h_callE, h_callvE, h_dvE, h_remE, if_true, if_false, z_upS, z_upO, z_upK, nI_add, z_mul, z_sub, z_div, Nat.add_zero, Nat.mul_zero, Nat.zero_add, Nat.sub_zero, Nat.zero_mul, z_ltT, z_ltF, z_leT, z_leF, z_eqT, z_eqF, z_inT, z_clT, not_true_eq_false, not_false_eq_true, eq_self, true_or, or_true, z_m_lt, z_m_le, z_lt_m, z_le_m, z_eq_m, z_m_eq, z_rz0, z_rz1, z_m_add, z_of, r_0_0, r_0_1, r_0_3, r_0_4, r_0_5, r_0_6, r_0_7, r_0_8, r_0_9, r_0_10, r_1_0, r_1_1, r_1_2, r_1_3, r_1_4, r_1_5, r_1_6, r_1_7, r_1_8, r_2_0, r_2_1, r_2_2, r_2_3, r_2_4, r_2_5, r_2_6, r_2_7, r_11_0, r_11_1, r_11_2, r_11_3, r_11_4, r_11_5, r_11_6, r_19_0, r_21_0, r_23_0, r_25_0, r_27_0, r_61_0, r_117_0, r_117_1, r_117_2, r_117_3, r_117_4, r_117_5, r_117_6, r_117_7, r_126_0, r_126_1, r_126_2, r_126_3, r_126_4, r_132_0, r_132_1, r_135_0, r_135_1, r_135_2, r_135_3, r_135_4, r_135_5, r_142_0, r_144_0, r_144_1, r_144_2, r_145_0, r_145_1, r_145_2, r_145_3, r_145_4, r_145_5, r_145_6, r_154_0, r_154_1, r_155_0, ↓z_m1, l_0, l_1, l_2, l_3, l_4, l_5, l_6, l_7, l_8, l_9, l_10, l_11, l_12, l_13, l_14, l_15, l_16, l_17, l_18, l_19, l_20, l_21, l_22, l_23, l_24, l_25, l_26, l_27, l_28, l_29, l_30, l_31, l_32, l_33, l_34, l_35, l_36, l_37, l_38, l_39, l_40, l_41, l_42, l_43, l_44, l_45, l_46, l_47, l_48, l_49, l_50, l_51, l_52, l_53, l_54, l_55, l_56, l_57, l_59, l_60, l_61, l_62, l_63, l_64, l_65, l_80, l_86, l_87, l_88, l_89, l_90, l_91, l_92, l_93, l_94, l_95, l_97, l_99, l_100, l_107, l_119, l_122, l_124, l_129, l_140, l_141, l_142, l_143, l_144, l_145, l_147, l_150, l_159, l_160, l_161, l_162, l_205, l_253, l_255, l_256, l_269, l_305, l_380, l_399, l_400, l_420, l_430, l_516, l_600, l_720, l_820, l_905, l_921, l_937, l_953, l_970, l_999, l_1000, l_1790, l_4096, l_9999, l_1000000]
theorem c_nT {k p : Nat} {T : zt_T} {σ : q_Sto} (hC : zt_C σ T p) (hk : k < 5) (h : zt_cd k T p = 2) : f_X8_isNumber q_F 142 σ = some (nI 1, σ) := by
  obtain ⟨h1, h2⟩ := (zt_cd_n hk).mp h
  obtain ⟨hB, hp, c1, c2, c3, c4, -, -⟩ := hC
  obtain ⟨b1, b2⟩ := zt_at_b hp
  obtain ⟨b3, b4, b5⟩ := zt_nx_b hp
  have hL := hB.1
  rw [h1] at c4
  unfold f_X8_isNumber
  generalize zt_at T p = A at *
  generalize zt_nx T p = X at *
  simp (disch := omega) only [c4, c2, c3, ↓reduceIte, ↓p_ld, ↓p_st, ↓p_nm, ↓p_nS, ↓p_jn, ↓p_call, ↓p_callv, ↓p_dv, ↓p_rem, h_ldE, h_stE, h_nmE, h_nSE, h_callE, h_callvE, h_dvE, h_remE, if_true, if_false, z_upS, z_upO, z_upK, nI_add, z_mul, z_sub, z_div, Nat.add_zero, Nat.mul_zero, Nat.zero_add, Nat.sub_zero, Nat.zero_mul, z_ltT, z_ltF, z_leT, z_leF, z_eqT, z_eqF, z_inT, z_clT, not_true_eq_false, not_false_eq_true, eq_self, true_or, or_true, z_m_lt, z_m_le, z_lt_m, z_le_m, z_eq_m, z_m_eq, z_rz0, z_rz1, z_m_add, z_of, r_0_0, r_0_1, r_0_3, r_0_4, r_0_5, r_0_6, r_0_7, r_0_8, r_0_9, r_0_10, r_1_0, r_1_1, r_1_2, r_1_3, r_1_4, r_1_5, r_1_6, r_1_7, r_1_8, r_2_0, r_2_1, r_2_2, r_2_3, r_2_4, r_2_5, r_2_6, r_2_7, r_11_0, r_11_1, r_11_2, r_11_3, r_11_4, r_11_5, r_11_6, r_19_0, r_21_0, r_23_0, r_25_0, r_27_0, r_61_0, r_117_0, r_117_1, r_117_2, r_117_3, r_117_4, r_117_5, r_117_6, r_117_7, r_126_0, r_126_1, r_126_2, r_126_3, r_126_4, r_132_0, r_132_1, r_135_0, r_135_1, r_135_2, r_135_3, r_135_4, r_135_5, r_142_0, r_144_0, r_144_1, r_144_2, r_145_0, r_145_1, r_145_2, r_145_3, r_145_4, r_145_5, r_145_6, r_154_0, r_154_1, r_155_0, ↓z_m1, l_0, l_1, l_2, l_3, l_4, l_5, l_6, l_7, l_8, l_9, l_10, l_11, l_12, l_13, l_14, l_15, l_16, l_17, l_18, l_19, l_20, l_21, l_22, l_23, l_24, l_25, l_26, l_27, l_28, l_29, l_30, l_31, l_32, l_33, l_34, l_35, l_36, l_37, l_38, l_39, l_40, l_41, l_42, l_43, l_44, l_45, l_46, l_47, l_48, l_49, l_50, l_51, l_52, l_53, l_54, l_55, l_56, l_57, l_59, l_60, l_61, l_62, l_63, l_64, l_65, l_80, l_86, l_87, l_88, l_89, l_90, l_91, l_92, l_93, l_94, l_95, l_97, l_99, l_100, l_107, l_119, l_122, l_124, l_129, l_140, l_141, l_142, l_143, l_144, l_145, l_147, l_150, l_159, l_160, l_161, l_162, l_205, l_253, l_255, l_256, l_269, l_305, l_380, l_399, l_400, l_420, l_430, l_516, l_600, l_720, l_820, l_905, l_921, l_937, l_953, l_970, l_999, l_1000, l_1790, l_4096, l_9999, l_1000000]
theorem c_nF {k p : Nat} {T : zt_T} {σ : q_Sto} (hC : zt_C σ T p) (hk : k < 5) (h : ¬ zt_cd k T p = 2) : f_X8_isNumber q_F 142 σ = some (nI 0, σ) := by
  have h4k := zt_kd4 T p
  have hn := fun q => h ((zt_cd_n hk).mpr q)
  obtain ⟨hB, hp, c1, c2, c3, c4, -, -⟩ := hC
  obtain ⟨b1, b2⟩ := zt_at_b hp
  obtain ⟨b3, b4, b5⟩ := zt_nx_b hp
  have hL := hB.1
  unfold f_X8_isNumber
  by_cases q : zt_kd T p = 2
  · have q2 : ¬ zt_nx T p - zt_at T p < 5 := fun g => hn ⟨q, g⟩
    rw [q] at c4
    generalize zt_at T p = A at *
    generalize zt_nx T p = X at *
    simp (disch := omega) only [c4, c2, c3, ↓reduceIte, ↓p_ld, ↓p_st, ↓p_nm, ↓p_nS, ↓p_jn, ↓p_call, ↓p_callv, ↓p_dv, ↓p_rem, h_ldE, h_stE, h_nmE, h_nSE, h_callE, h_callvE, h_dvE, h_remE, if_true, if_false, z_upS, z_upO, z_upK, nI_add, z_mul, z_sub, z_div, Nat.add_zero, Nat.mul_zero, Nat.zero_add, Nat.sub_zero, Nat.zero_mul, z_ltT, z_ltF, z_leT, z_leF, z_eqT, z_eqF, z_inT, z_clT, not_true_eq_false, not_false_eq_true, eq_self, true_or, or_true, z_m_lt, z_m_le, z_lt_m, z_le_m, z_eq_m, z_m_eq, z_rz0, z_rz1, z_m_add, z_of, r_0_0, r_0_1, r_0_3, r_0_4, r_0_5, r_0_6, r_0_7, r_0_8, r_0_9, r_0_10, r_1_0, r_1_1, r_1_2, r_1_3, r_1_4, r_1_5, r_1_6, r_1_7, r_1_8, r_2_0, r_2_1, r_2_2, r_2_3, r_2_4, r_2_5, r_2_6, r_2_7, r_11_0, r_11_1, r_11_2, r_11_3, r_11_4, r_11_5, r_11_6, r_19_0, r_21_0, r_23_0, r_25_0, r_27_0, r_61_0, r_117_0, r_117_1, r_117_2, r_117_3, r_117_4, r_117_5, r_117_6, r_117_7, r_126_0, r_126_1, r_126_2, r_126_3, r_126_4, r_132_0, r_132_1, r_135_0, r_135_1, r_135_2, r_135_3, r_135_4, r_135_5, r_142_0, r_144_0, r_144_1, r_144_2, r_145_0, r_145_1, r_145_2, r_145_3, r_145_4, r_145_5, r_145_6, r_154_0, r_154_1, r_155_0, ↓z_m1, l_0, l_1, l_2, l_3, l_4, l_5, l_6, l_7, l_8, l_9, l_10, l_11, l_12, l_13, l_14, l_15, l_16, l_17, l_18, l_19, l_20, l_21, l_22, l_23, l_24, l_25, l_26, l_27, l_28, l_29, l_30, l_31, l_32, l_33, l_34, l_35, l_36, l_37, l_38, l_39, l_40, l_41, l_42, l_43, l_44, l_45, l_46, l_47, l_48, l_49, l_50, l_51, l_52, l_53, l_54, l_55, l_56, l_57, l_59, l_60, l_61, l_62, l_63, l_64, l_65, l_80, l_86, l_87, l_88, l_89, l_90, l_91, l_92, l_93, l_94, l_95, l_97, l_99, l_100, l_107, l_119, l_122, l_124, l_129, l_140, l_141, l_142, l_143, l_144, l_145, l_147, l_150, l_159, l_160, l_161, l_162, l_205, l_253, l_255, l_256, l_269, l_305, l_380, l_399, l_400, l_420, l_430, l_516, l_600, l_720, l_820, l_905, l_921, l_937, l_953, l_970, l_999, l_1000, l_1790, l_4096, l_9999, l_1000000]
  · generalize zt_kd T p = kd at *
    simp (disch := omega) only [c4, ↓reduceIte, ↓p_ld, ↓p_st, ↓p_nm, ↓p_nS, ↓p_jn, ↓p_call, ↓p_callv, ↓p_dv, ↓p_rem, h_ldE, h_stE, h_nmE, h_nSE, h_callE, h_callvE, h_dvE, h_remE, if_true, if_false, z_upS, z_upO, z_upK, nI_add, z_mul, z_sub, z_div, Nat.add_zero, Nat.mul_zero, Nat.zero_add, Nat.sub_zero, Nat.zero_mul, z_ltT, z_ltF, z_leT, z_leF, z_eqT, z_eqF, z_inT, z_clT, not_true_eq_false, not_false_eq_true, eq_self, true_or, or_true, z_m_lt, z_m_le, z_lt_m, z_le_m, z_eq_m, z_m_eq, z_rz0, z_rz1, z_m_add, z_of, r_0_0, r_0_1, r_0_3, r_0_4, r_0_5, r_0_6, r_0_7, r_0_8, r_0_9, r_0_10, r_1_0, r_1_1, r_1_2, r_1_3, r_1_4, r_1_5, r_1_6, r_1_7, r_1_8, r_2_0, r_2_1, r_2_2, r_2_3, r_2_4, r_2_5, r_2_6, r_2_7, r_11_0, r_11_1, r_11_2, r_11_3, r_11_4, r_11_5, r_11_6, r_19_0, r_21_0, r_23_0, r_25_0, r_27_0, r_61_0, r_117_0, r_117_1, r_117_2, r_117_3, r_117_4, r_117_5, r_117_6, r_117_7, r_126_0, r_126_1, r_126_2, r_126_3, r_126_4, r_132_0, r_132_1, r_135_0, r_135_1, r_135_2, r_135_3, r_135_4, r_135_5, r_142_0, r_144_0, r_144_1, r_144_2, r_145_0, r_145_1, r_145_2, r_145_3, r_145_4, r_145_5, r_145_6, r_154_0, r_154_1, r_155_0, ↓z_m1, l_0, l_1, l_2, l_3, l_4, l_5, l_6, l_7, l_8, l_9, l_10, l_11, l_12, l_13, l_14, l_15, l_16, l_17, l_18, l_19, l_20, l_21, l_22, l_23, l_24, l_25, l_26, l_27, l_28, l_29, l_30, l_31, l_32, l_33, l_34, l_35, l_36, l_37, l_38, l_39, l_40, l_41, l_42, l_43, l_44, l_45, l_46, l_47, l_48, l_49, l_50, l_51, l_52, l_53, l_54, l_55, l_56, l_57, l_59, l_60, l_61, l_62, l_63, l_64, l_65, l_80, l_86, l_87, l_88, l_89, l_90, l_91, l_92, l_93, l_94, l_95, l_97, l_99, l_100, l_107, l_119, l_122, l_124, l_129, l_140, l_141, l_142, l_143, l_144, l_145, l_147, l_150, l_159, l_160, l_161, l_162, l_205, l_253, l_255, l_256, l_269, l_305, l_380, l_399, l_400, l_420, l_430, l_516, l_600, l_720, l_820, l_905, l_921, l_937, l_953, l_970, l_999, l_1000, l_1790, l_4096, l_9999, l_1000000]
theorem c_nV {k p : Nat} {T : zt_T} {σ : q_Sto} (hC : zt_C σ T p) (hk : k < 5) (h : zt_cd k T p = 2) : σ 142 5 = nI (zt_va T p) := by
  obtain ⟨h1, h2⟩ := (zt_cd_n hk).mp h
  exact hC.2.2.2.2.2.2.2 h1 h2
theorem c_eT {k p : Nat} {T : zt_T} {σ : q_Sto} (hC : zt_C σ T p) (hk : k < 5) (h : zt_cd k T p = 0) : f_X8_isEnd q_F 142 σ = some (nI 1, σ) := by
  have c4 := hC.2.2.2.2.2.1
  rw [(zt_cd_0 hk).mp h] at c4
  unfold f_X8_isEnd
  simp (disch := omega) only [c4, ↓reduceIte, ↓p_ld, ↓p_st, ↓p_nm, ↓p_nS, ↓p_jn, ↓p_call, ↓p_callv, ↓p_dv, ↓p_rem, h_ldE, h_stE, h_nmE, h_nSE, h_callE, h_callvE, h_dvE, h_remE, if_true, if_false, z_upS, z_upO, z_upK, nI_add, z_mul, z_sub, z_div, Nat.add_zero, Nat.mul_zero, Nat.zero_add, Nat.sub_zero, Nat.zero_mul, z_ltT, z_ltF, z_leT, z_leF, z_eqT, z_eqF, z_inT, z_clT, not_true_eq_false, not_false_eq_true, eq_self, true_or, or_true, z_m_lt, z_m_le, z_lt_m, z_le_m, z_eq_m, z_m_eq, z_rz0, z_rz1, z_m_add, z_of, r_0_0, r_0_1, r_0_3, r_0_4, r_0_5, r_0_6, r_0_7, r_0_8, r_0_9, r_0_10, r_1_0, r_1_1, r_1_2, r_1_3, r_1_4, r_1_5, r_1_6, r_1_7, r_1_8, r_2_0, r_2_1, r_2_2, r_2_3, r_2_4, r_2_5, r_2_6, r_2_7, r_11_0, r_11_1, r_11_2, r_11_3, r_11_4, r_11_5, r_11_6, r_19_0, r_21_0, r_23_0, r_25_0, r_27_0, r_61_0, r_117_0, r_117_1, r_117_2, r_117_3, r_117_4, r_117_5, r_117_6, r_117_7, r_126_0, r_126_1, r_126_2, r_126_3, r_126_4, r_132_0, r_132_1, r_135_0, r_135_1, r_135_2, r_135_3, r_135_4, r_135_5, r_142_0, r_144_0, r_144_1, r_144_2, r_145_0, r_145_1, r_145_2, r_145_3, r_145_4, r_145_5, r_145_6, r_154_0, r_154_1, r_155_0, ↓z_m1, l_0, l_1, l_2, l_3, l_4, l_5, l_6, l_7, l_8, l_9, l_10, l_11, l_12, l_13, l_14, l_15, l_16, l_17, l_18, l_19, l_20, l_21, l_22, l_23, l_24, l_25, l_26, l_27, l_28, l_29, l_30, l_31, l_32, l_33, l_34, l_35, l_36, l_37, l_38, l_39, l_40, l_41, l_42, l_43, l_44, l_45, l_46, l_47, l_48, l_49, l_50, l_51, l_52, l_53, l_54, l_55, l_56, l_57, l_59, l_60, l_61, l_62, l_63, l_64, l_65, l_80, l_86, l_87, l_88, l_89, l_90, l_91, l_92, l_93, l_94, l_95, l_97, l_99, l_100, l_107, l_119, l_122, l_124, l_129, l_140, l_141, l_142, l_143, l_144, l_145, l_147, l_150, l_159, l_160, l_161, l_162, l_205, l_253, l_255, l_256, l_269, l_305, l_380, l_399, l_400, l_420, l_430, l_516, l_600, l_720, l_820, l_905, l_921, l_937, l_953, l_970, l_999, l_1000, l_1790, l_4096, l_9999, l_1000000]
theorem c_eF {k p : Nat} {T : zt_T} {σ : q_Sto} (hC : zt_C σ T p) (hk : k < 5) (h : ¬ zt_cd k T p = 0) : f_X8_isEnd q_F 142 σ = some (nI 0, σ) := by
  have c4 := hC.2.2.2.2.2.1
  have h4k := zt_kd4 T p
  have : zt_kd T p ≠ 0 := fun q => h ((zt_cd_0 hk).mpr q)
  unfold f_X8_isEnd
  generalize zt_kd T p = kd at *
  simp (disch := omega) only [c4, ↓reduceIte, ↓p_ld, ↓p_st, ↓p_nm, ↓p_nS, ↓p_jn, ↓p_call, ↓p_callv, ↓p_dv, ↓p_rem, h_ldE, h_stE, h_nmE, h_nSE, h_callE, h_callvE, h_dvE, h_remE, if_true, if_false, z_upS, z_upO, z_upK, nI_add, z_mul, z_sub, z_div, Nat.add_zero, Nat.mul_zero, Nat.zero_add, Nat.sub_zero, Nat.zero_mul, z_ltT, z_ltF, z_leT, z_leF, z_eqT, z_eqF, z_inT, z_clT, not_true_eq_false, not_false_eq_true, eq_self, true_or, or_true, z_m_lt, z_m_le, z_lt_m, z_le_m, z_eq_m, z_m_eq, z_rz0, z_rz1, z_m_add, z_of, r_0_0, r_0_1, r_0_3, r_0_4, r_0_5, r_0_6, r_0_7, r_0_8, r_0_9, r_0_10, r_1_0, r_1_1, r_1_2, r_1_3, r_1_4, r_1_5, r_1_6, r_1_7, r_1_8, r_2_0, r_2_1, r_2_2, r_2_3, r_2_4, r_2_5, r_2_6, r_2_7, r_11_0, r_11_1, r_11_2, r_11_3, r_11_4, r_11_5, r_11_6, r_19_0, r_21_0, r_23_0, r_25_0, r_27_0, r_61_0, r_117_0, r_117_1, r_117_2, r_117_3, r_117_4, r_117_5, r_117_6, r_117_7, r_126_0, r_126_1, r_126_2, r_126_3, r_126_4, r_132_0, r_132_1, r_135_0, r_135_1, r_135_2, r_135_3, r_135_4, r_135_5, r_142_0, r_144_0, r_144_1, r_144_2, r_145_0, r_145_1, r_145_2, r_145_3, r_145_4, r_145_5, r_145_6, r_154_0, r_154_1, r_155_0, ↓z_m1, l_0, l_1, l_2, l_3, l_4, l_5, l_6, l_7, l_8, l_9, l_10, l_11, l_12, l_13, l_14, l_15, l_16, l_17, l_18, l_19, l_20, l_21, l_22, l_23, l_24, l_25, l_26, l_27, l_28, l_29, l_30, l_31, l_32, l_33, l_34, l_35, l_36, l_37, l_38, l_39, l_40, l_41, l_42, l_43, l_44, l_45, l_46, l_47, l_48, l_49, l_50, l_51, l_52, l_53, l_54, l_55, l_56, l_57, l_59, l_60, l_61, l_62, l_63, l_64, l_65, l_80, l_86, l_87, l_88, l_89, l_90, l_91, l_92, l_93, l_94, l_95, l_97, l_99, l_100, l_107, l_119, l_122, l_124, l_129, l_140, l_141, l_142, l_143, l_144, l_145, l_147, l_150, l_159, l_160, l_161, l_162, l_205, l_253, l_255, l_256, l_269, l_305, l_380, l_399, l_400, l_420, l_430, l_516, l_600, l_720, l_820, l_905, l_921, l_937, l_953, l_970, l_999, l_1000, l_1790, l_4096, l_9999, l_1000000]
theorem c_nextC {p : Nat} {T : zt_T} {σ : q_Sto} (hC : zt_C σ T p) : ∃ σ', (∀ o, o ≠ 142 → σ' o = σ o) ∧ (∀ a, a ≠ 2 → a ≠ 3 → a ≠ 4 → a ≠ 5 → σ' 142 a = σ 142 a) ∧ zt_C σ' T (zt_nx T p) ∧ f_X8_next q_F 142 σ = some (nI 0, σ') :=
  c_next z_F402 (zt_nx_b hC.2.1).2.1 hC.1 hC.2.2.1 hC.2.2.2.1
theorem m_nextR {k p : Nat} {T : zt_T} {σ : q_Sto} (hR : zt_R σ T k p) : ∃ σ', (∀ o, o ≠ 157 → σ' o = σ o) ∧ (∀ a, a ≠ 17 → a ≠ 18 → a ≠ 19 → a ≠ 20 → σ' 157 a = σ 157 a) ∧ zt_R σ' T k (zt_nx T p) ∧ f_X12_next0 q_F 157 σ = some (nI 0, σ') :=
  m_next z_F402 hR.2.2.1 (zt_nx_b hR.2.1).2.1 hR.1 hR.2.2.2.1 hR.2.2.2.2.1 hR.2.2.2.2.2.1
theorem m_tok {k p : Nat} {T : zt_T} {σ : q_Sto} (hR : zt_R σ T k p) : σ 157 18 = nI (zt_cd k T p) := hR.2.2.2.2.2.2.1
theorem m_nV {k p : Nat} {T : zt_T} {σ : q_Sto} (hR : zt_R σ T k p) (h : zt_cd k T p = 2) : σ 157 20 = nI (zt_va T p) := hR.2.2.2.2.2.2.2.2 h
/-- a FAULT is told -/
theorem c_fail {n p f : Nat} {T : zt_T} {σ : q_Sto} (hC : zt_C σ T p) : ∃ σ', (∀ o, o ≠ 142 → σ' o = σ o) ∧ (∀ a, a ≠ 6 → a ≠ 7 → σ' 142 a = σ 142 a) ∧ σ' 142 6 = nI f ∧ σ' 142 7 = nI (zt_at T p) ∧ f_X8_fail n 142 (nI f) σ = some (nI 0, σ') := by
  have c3 := hC.2.2.2.2.1
  refine ⟨q_up (q_up σ 142 6 (nI f)) 142 7 (nI (zt_at T p)), fun o ho => by rw [z_upO ho, z_upO ho], fun a a1 a2 => by rw [z_upK a2, z_upK a1], by rw [z_upK (by omega)]; exact z_upS, z_upS, ?_⟩
  unfold f_X8_fail
  simp (disch := omega) only [c3, ↓reduceIte, ↓p_ld, ↓p_st, ↓p_nm, ↓p_nS, ↓p_jn, ↓p_call, ↓p_callv, ↓p_dv, ↓p_rem, h_ldE, h_stE, h_nmE, h_nSE, h_callE, h_callvE, h_dvE, h_remE, if_true, if_false, z_upS, z_upO, z_upK, nI_add, z_mul, z_sub, z_div, Nat.add_zero, Nat.mul_zero, Nat.zero_add, Nat.sub_zero, Nat.zero_mul, z_ltT, z_ltF, z_leT, z_leF, z_eqT, z_eqF, z_inT, z_clT, not_true_eq_false, not_false_eq_true, eq_self, true_or, or_true, z_m_lt, z_m_le, z_lt_m, z_le_m, z_eq_m, z_m_eq, z_rz0, z_rz1, z_m_add, z_of, r_0_0, r_0_1, r_0_3, r_0_4, r_0_5, r_0_6, r_0_7, r_0_8, r_0_9, r_0_10, r_1_0, r_1_1, r_1_2, r_1_3, r_1_4, r_1_5, r_1_6, r_1_7, r_1_8, r_2_0, r_2_1, r_2_2, r_2_3, r_2_4, r_2_5, r_2_6, r_2_7, r_11_0, r_11_1, r_11_2, r_11_3, r_11_4, r_11_5, r_11_6, r_19_0, r_21_0, r_23_0, r_25_0, r_27_0, r_61_0, r_117_0, r_117_1, r_117_2, r_117_3, r_117_4, r_117_5, r_117_6, r_117_7, r_126_0, r_126_1, r_126_2, r_126_3, r_126_4, r_132_0, r_132_1, r_135_0, r_135_1, r_135_2, r_135_3, r_135_4, r_135_5, r_142_0, r_144_0, r_144_1, r_144_2, r_145_0, r_145_1, r_145_2, r_145_3, r_145_4, r_145_5, r_145_6, r_154_0, r_154_1, r_155_0, ↓z_m1, l_0, l_1, l_2, l_3, l_4, l_5, l_6, l_7, l_8, l_9, l_10, l_11, l_12, l_13, l_14, l_15, l_16, l_17, l_18, l_19, l_20, l_21, l_22, l_23, l_24, l_25, l_26, l_27, l_28, l_29, l_30, l_31, l_32, l_33, l_34, l_35, l_36, l_37, l_38, l_39, l_40, l_41, l_42, l_43, l_44, l_45, l_46, l_47, l_48, l_49, l_50, l_51, l_52, l_53, l_54, l_55, l_56, l_57, l_59, l_60, l_61, l_62, l_63, l_64, l_65, l_80, l_86, l_87, l_88, l_89, l_90, l_91, l_92, l_93, l_94, l_95, l_97, l_99, l_100, l_107, l_119, l_122, l_124, l_129, l_140, l_141, l_142, l_143, l_144, l_145, l_147, l_150, l_159, l_160, l_161, l_162, l_205, l_253, l_255, l_256, l_269, l_305, l_380, l_399, l_400, l_420, l_430, l_516, l_600, l_720, l_820, l_905, l_921, l_937, l_953, l_970, l_999, l_1000, l_1790, l_4096, l_9999, l_1000000]
theorem m_bad {n k p f : Nat} {T : zt_T} {σ : q_Sto} (hR : zt_R σ T k p) : ∃ σ', (∀ o, o ≠ 157 → σ' o = σ o) ∧ (∀ a, a ≠ 21 → a ≠ 22 → σ' 157 a = σ 157 a) ∧ σ' 157 21 = nI f ∧ σ' 157 22 = nI (zt_at T p) ∧ f_X12_bad n 157 (nI f) σ = some (nI 0, σ') := by
  have c3 := hR.2.2.2.2.2.2.2.1
  refine ⟨q_up (q_up σ 157 21 (nI f)) 157 22 (nI (zt_at T p)), fun o ho => by rw [z_upO ho, z_upO ho], fun a a1 a2 => by rw [z_upK a2, z_upK a1], by rw [z_upK (by omega)]; exact z_upS, z_upS, ?_⟩
  unfold f_X12_bad
  simp (disch := omega) only [c3, ↓reduceIte, ↓p_ld, ↓p_st, ↓p_nm, ↓p_nS, ↓p_jn, ↓p_call, ↓p_callv, ↓p_dv, ↓p_rem, h_ldE, h_stE, h_nmE, h_nSE, h_callE, h_callvE, h_dvE, h_remE, if_true, if_false, z_upS, z_upO, z_upK, nI_add, z_mul, z_sub, z_div, Nat.add_zero, Nat.mul_zero, Nat.zero_add, Nat.sub_zero, Nat.zero_mul, z_ltT, z_ltF, z_leT, z_leF, z_eqT, z_eqF, z_inT, z_clT, not_true_eq_false, not_false_eq_true, eq_self, true_or, or_true, z_m_lt, z_m_le, z_lt_m, z_le_m, z_eq_m, z_m_eq, z_rz0, z_rz1, z_m_add, z_of, r_157_0, r_157_1, r_157_2, r_157_3, r_157_6, r_157_7, r_157_8, r_157_9, r_157_10, r_157_11, r_157_27, r_157_28, r_157_29, r_157_30, ↓z_m1, l_0, l_1, l_2, l_3, l_4, l_5, l_6, l_7, l_8, l_9, l_10, l_11, l_12, l_13, l_14, l_15, l_16, l_17, l_18, l_19, l_20, l_21, l_22, l_23, l_24, l_25, l_26, l_27, l_28, l_29, l_30, l_31, l_32, l_33, l_34, l_35, l_36, l_37, l_38, l_39, l_40, l_41, l_42, l_43, l_44, l_45, l_46, l_47, l_48, l_49, l_50, l_51, l_52, l_53, l_54, l_55, l_56, l_57, l_59, l_60, l_61, l_62, l_63, l_64, l_65, l_80, l_86, l_87, l_88, l_89, l_90, l_91, l_92, l_93, l_94, l_95, l_97, l_99, l_100, l_107, l_119, l_122, l_124, l_129, l_140, l_141, l_142, l_143, l_144, l_145, l_147, l_150, l_159, l_160, l_161, l_162, l_205, l_253, l_255, l_256, l_269, l_305, l_380, l_399, l_400, l_420, l_430, l_516, l_600, l_720, l_820, l_905, l_921, l_937, l_953, l_970, l_999, l_1000, l_1790, l_4096, l_9999, l_1000000]
/-! THE LAW's reader: the class's row of waiting signs, by itself -/
def zl_rk (x : Nat) : Nat := if x = 2 ∨ x = 3 then 6 else if x = 4 ∨ x = 5 then 5 else if x = 9 then 3 else if x = 10 then 2 else if x = 11 then 1 else if x = 12 then 0 else 4
def zl_rel (r : Nat) : List Nat → List (Nat × Nat) → List Nat × List (Nat × Nat)
  | [], O => ([], O)
  | x :: W, O => if r ≤ zl_rk x then zl_rel r W ((x, 0) :: O) else (x :: W, O)
def zl_hd (r : Nat) : List Nat → Prop
  | [] => True
  | x :: _ => zl_rk x < r
/-- how many ( and not wait; how many ( -/
def zl_cn : List Nat → Nat
  | [] => 0
  | x :: W => zl_cn W + (if x = 9 ∨ x = 12 then 1 else 0)
def zl_cb : List Nat → Nat
  | [] => 0
  | x :: W => zl_cb W + (if x = 12 then 1 else 0)
theorem zl_rel_hd {r : Nat} {W : List Nat} (h : zl_hd r W) (O : List (Nat × Nat)) : zl_rel r W O = (W, O) := by
  cases W with
  | nil => rfl
  | cons x W =>
    have h : zl_rk x < r := h
    show (if r ≤ zl_rk x then _ else _) = _
    rw [if_neg (by omega)]
theorem zl_rel_rel {a b : Nat} (h : a ≤ b) : ∀ (W : List Nat) (O : List (Nat × Nat)), zl_rel a (zl_rel b W O).1 (zl_rel b W O).2 = zl_rel a W O
  | [], O => rfl
  | x :: W, O => by
    have e : ∀ r, zl_rel r (x :: W) O = if r ≤ zl_rk x then zl_rel r W ((x, 0) :: O) else (x :: W, O) := fun _ => rfl
    rw [e b]
    by_cases q : b ≤ zl_rk x
    · rw [if_pos q, zl_rel_rel h W, e a, if_pos (by omega)]
    · rw [if_neg q]
theorem zl_rel_of {a b : Nat} (h : a ≤ b) {W W' : List Nat} {O O' : List (Nat × Nat)} (e : zl_rel b W' O' = (W, O)) : zl_rel a W' O' = zl_rel a W O := by
  rw [← zl_rel_rel h W' O', e]
theorem zl_hd_mono {a b : Nat} (h : a ≤ b) {W : List Nat} (g : zl_hd a W) : zl_hd b W := by
  cases W with
  | nil => trivial
  | cons x W =>
    have g : zl_rk x < a := g
    show zl_rk x < b
    omega
theorem zl_rel_out {r : Nat} : ∀ (W : List Nat) (O : List (Nat × Nat)), zl_hd r (zl_rel r W O).1
  | [], O => trivial
  | x :: W, O => by
    have e : zl_rel r (x :: W) O = if r ≤ zl_rk x then zl_rel r W ((x, 0) :: O) else (x :: W, O) := rfl
    rw [e]
    by_cases q : r ≤ zl_rk x
    · rw [if_pos q]; exact zl_rel_out W _
    · rw [if_neg q]
      show zl_rk x < r
      omega
theorem zl_rel_cb {r : Nat} (h : 1 ≤ r) : ∀ (W : List Nat) (O : List (Nat × Nat)), zl_cb (zl_rel r W O).1 = zl_cb W
  | [], O => rfl
  | x :: W, O => by
    have e : zl_rel r (x :: W) O = if r ≤ zl_rk x then zl_rel r W ((x, 0) :: O) else (x :: W, O) := rfl
    rw [e]
    by_cases q : r ≤ zl_rk x
    · rw [if_pos q, zl_rel_cb h W]
      have hx : x ≠ 12 := fun hx => by subst hx; have : zl_rk 12 = 0 := rfl; omega
      show zl_cb W = zl_cb W + (if x = 12 then 1 else 0)
      rw [if_neg hx]
      rfl
    · rw [if_neg q]
theorem zl_rel_len {r : Nat} : ∀ (W : List Nat) (O : List (Nat × Nat)), (zl_rel r W O).1.length + (zl_rel r W O).2.length = W.length + O.length
  | [], O => rfl
  | x :: W, O => by
    have e : zl_rel r (x :: W) O = if r ≤ zl_rk x then zl_rel r W ((x, 0) :: O) else (x :: W, O) := rfl
    rw [e]
    by_cases q : r ≤ zl_rk x
    · rw [if_pos q, zl_rel_len W]
      simp only [List.length_cons]
      omega
    · rw [if_neg q]
/-- where, what waits, what was told (the latest first), what is expected, behind when (its place and one more), compared -/
abbrev zl_S : Type := Nat × List Nat × List (Nat × Nat) × Nat × Nat × Bool
abbrev zl_Rs : Type := Sum (Nat × Nat) (Bool × zl_S)
def zl_opd (T : zt_T) (p : Nat) (W : List Nat) (O : List (Nat × Nat)) (iw : Nat) (ic : Bool) : zl_Rs := if zt_cd 0 T p = 2 then Sum.inr (true, (zt_nx T p, W, (0, zt_va T p) :: O, 2, iw, ic)) else if 41 ≤ zt_cd 0 T p ∧ zt_cd 0 T p ≤ 50 then Sum.inr (true, (zt_nx T p, W, (1, zt_cd 0 T p - 41) :: O, 2, iw, ic)) else Sum.inl (1, zt_at T p)
def zl_opn (T : zt_T) (x p : Nat) (W : List Nat) (O : List (Nat × Nat)) (iw : Nat) : zl_Rs := if zl_cn W < 8 then Sum.inr (true, (zt_nx T p, x :: W, O, 1, iw, false)) else Sum.inl (3, zt_at T p)
def zl_join (T : zt_T) (x ex p : Nat) (W : List Nat) (O : List (Nat × Nat)) (iw : Nat) (ic : Bool) : zl_Rs := Sum.inr (true, (zt_nx T p, x :: (zl_rel (zl_rk x) W O).1, (zl_rel (zl_rk x) W O).2, ex, iw, ic))
def zl_endl (T : zt_T) (p : Nat) (W : List Nat) (O : List (Nat × Nat)) (ex iw : Nat) (ic : Bool) : zl_Rs := if zt_cd 0 T p = 159 then Sum.inr (false, (zt_nx T p, (zl_rel 1 W O).1, (zl_rel 1 W O).2, ex, iw, ic)) else Sum.inl (1, zt_at T p)
def zl_clos (T : zt_T) (p : Nat) (W : List Nat) (O : List (Nat × Nat)) (iw : Nat) (ic : Bool) : zl_Rs := if zt_cd 0 T p = 141 then Sum.inr (true, (zt_nx T p, (zl_rel 1 W O).1.tail, (zl_rel 1 W O).2, 3, iw, ic)) else Sum.inl (1, zt_at T p)
def zl_part (T : zt_T) (p : Nat) (W : List Nat) (O : List (Nat × Nat)) (iw : Nat) (ic : Bool) : zl_Rs := if zt_cd 0 T (zt_nx T p) = 2 then (if zt_va T (zt_nx T p) = 0 then Sum.inl (2, zt_at T (zt_nx T p)) else Sum.inr (true, (zt_nx T (zt_nx T p), (zl_rel 6 W O).1, (2, zt_va T (zt_nx T p)) :: (zl_rel 6 W O).2, 2, iw, ic))) else Sum.inl (1, zt_at T (zt_nx T p))
def zl_when (T : zt_T) (p : Nat) (W : List Nat) (O : List (Nat × Nat)) (iw : Nat) (ic : Bool) : zl_Rs := if zt_cd 0 T p = 3 then Sum.inr (true, (zt_nx T p, (zl_rel 1 W O).1, (zl_rel 1 W O).2, 1, (zl_rel 1 W O).2.length + 1, ic)) else zl_endl T p W O 2 iw ic
def zl_cmp (T : zt_T) (p : Nat) (W : List Nat) (O : List (Nat × Nat)) (iw : Nat) : zl_Rs := if zt_cd 0 T p = 160 then zl_join T 6 0 p W O iw true else if zt_cd 0 T p = 161 then zl_join T 7 0 p W O iw true else if zt_cd 0 T p = 162 then zl_join T 8 0 p W O iw true else Sum.inl (1, zt_at T p)
def zl_tail (T : zt_T) (p : Nat) (W : List Nat) (O : List (Nat × Nat)) (ex iw : Nat) (ic : Bool) : zl_Rs := if zt_cd 0 T p = 5 then zl_join T 10 1 p W O iw ic else if zt_cd 0 T p = 4 then zl_join T 11 1 p W O iw ic else if zl_cb W = 0 then zl_endl T p W O ex iw ic else zl_clos T p W O iw ic
def zl_sgn (T : zt_T) (p : Nat) (W : List Nat) (O : List (Nat × Nat)) (iw : Nat) (ic : Bool) : zl_Rs := if zt_cd 0 T p = 147 then zl_part T p W O iw ic else if zt_cd 0 T p = 142 then zl_join T 3 0 p W O iw ic else if zt_cd 0 T p = 143 then zl_join T 4 0 p W O iw ic else if zt_cd 0 T p = 145 then zl_join T 5 0 p W O iw ic else if iw = 0 then zl_when T p W O iw ic else if ic = false then zl_cmp T p W O iw else zl_tail T p W O 2 iw ic
def zl_stp (T : zt_T) : zl_S → zl_Rs
  | (p, W, O, ex, iw, ic) => if ex = 0 then zl_opd T p W O iw ic else if ex = 1 then (if zt_cd 0 T p = 6 then zl_opn T 9 p W O iw else if zt_cd 0 T p = 140 then zl_opn T 12 p W O iw else zl_opd T p W O iw false) else if ex = 2 then zl_sgn T p W O iw ic else zl_tail T p W O ex iw ic
def zl_it (T : zt_T) : Nat → zl_S → Option zl_S
  | 0, a => some a
  | k + 1, a => match zl_stp T a with
    | Sum.inr (true, b) => zl_it T k b
    | _ => none
def zl_rch (T : zt_T) (a b : zl_S) : Prop := ∃ k, zl_it T k a = some b
theorem zl_rch.refl {T : zt_T} (a : zl_S) : zl_rch T a a := ⟨0, rfl⟩
theorem zl_it_s {T : zt_T} {a b : zl_S} {k : Nat} (h : zl_stp T a = Sum.inr (true, b)) : zl_it T (k+1) a = zl_it T k b := by
  show (match zl_stp T a with | Sum.inr (true, b) => zl_it T k b | _ => none) = _
  rw [h]
theorem zl_rch.cons {T : zt_T} {a b c : zl_S} (h : zl_stp T a = Sum.inr (true, b)) (g : zl_rch T b c) : zl_rch T a c := by
  obtain ⟨k, hk⟩ := g
  exact ⟨k + 1, (zl_it_s h).trans hk⟩
theorem zl_it_app {T : zt_T} {b c : zl_S} {j : Nat} (g : zl_it T j b = some c) : ∀ k a, zl_it T k a = some b → zl_it T (k + j) a = some c
  | 0, a, h => by
    have h : some a = some b := h
    cases h
    rw [Nat.zero_add]; exact g
  | k + 1, a, h => by
    cases hs : zl_stp T a with
    | inl x =>
      have h : (match zl_stp T a with | Sum.inr (true, b) => zl_it T k b | _ => none) = some b := h
      rw [hs] at h; cases h
    | inr x =>
      obtain ⟨u, v⟩ := x
      cases u with
      | false =>
        have h : (match zl_stp T a with | Sum.inr (true, b) => zl_it T k b | _ => none) = some b := h
        rw [hs] at h; cases h
      | true =>
        rw [zl_it_s hs] at h
        rw [show k + 1 + j = (k + j) + 1 by omega, zl_it_s hs]
        exact zl_it_app g k v h
theorem zl_rch.trans {T : zt_T} {a b c : zl_S} (h : zl_rch T a b) (g : zl_rch T b c) : zl_rch T a c := by
  obtain ⟨k, hk⟩ := h
  obtain ⟨j, hj⟩ := g
  exact ⟨k + j, zl_it_app hj k a hk⟩
def zl_flt (T : zt_T) (a : zl_S) (f q : Nat) : Prop := ∃ b, zl_rch T a b ∧ zl_stp T b = Sum.inl (f, q)
theorem zl_flt.of {T : zt_T} {a b : zl_S} {f q : Nat} (h : zl_rch T a b) (g : zl_flt T b f q) : zl_flt T a f q := by
  obtain ⟨c, h1, h2⟩ := g
  exact ⟨c, h.trans h1, h2⟩
theorem zl_flt.now {T : zt_T} {a b : zl_S} {f q : Nat} (h : zl_rch T a b) (g : zl_stp T b = Sum.inl (f, q)) : zl_flt T a f q := ⟨b, h, g⟩
/-- the kinds on the pile behind the steps (the latest first) -/
def zl_ty : List (Nat × Nat) → List Bool → Option (List Bool)
  | [], ts => some ts
  | x :: c, ts => match zl_ty c ts with
    | none => none
    | some us => z_ty1 (nI x.1) us
theorem zl_ty_c {x : Nat × Nat} {c : List (Nat × Nat)} {ts us : List Bool} (h : zl_ty c ts = some us) : zl_ty (x :: c) ts = z_ty1 (nI x.1) us := by
  show (match zl_ty c ts with | none => none | some us => z_ty1 (nI x.1) us) = _
  rw [h]
theorem zl_ty_app {b : List (Nat × Nat)} {ts us : List Bool} (h : zl_ty b ts = some us) : ∀ a : List (Nat × Nat), zl_ty (a ++ b) ts = zl_ty a us
  | [] => h
  | x :: a => by
    have ih := zl_ty_app h a
    show (match zl_ty (a ++ b) ts with | none => none | some us => z_ty1 (nI x.1) us) = (match zl_ty a us with | none => none | some us => z_ty1 (nI x.1) us)
    rw [ih]
theorem zl_t1n {ts : List Bool} {x : Nat} (h : x = 0 ∨ x = 1) : z_ty1 (nI x) ts = some (false :: ts) := by
  rcases h with rfl | rfl <;> rfl
theorem zl_t1p {ts : List Bool} : z_ty1 (nI 2) (false :: ts) = some (false :: ts) := rfl
theorem zl_t1a {ts : List Bool} {x : Nat} (h : x = 3 ∨ x = 4 ∨ x = 5) : z_ty1 (nI x) (false :: false :: ts) = some (false :: ts) := by
  rcases h with rfl | rfl | rfl <;> rfl
theorem zl_t1c {ts : List Bool} {x : Nat} (h : x = 6 ∨ x = 7 ∨ x = 8) : z_ty1 (nI x) (false :: false :: ts) = some (true :: ts) := by
  rcases h with rfl | rfl | rfl <;> rfl
theorem zl_t1o {ts : List Bool} : z_ty1 (nI 9) (true :: ts) = some (true :: ts) := rfl
theorem zl_t1b {ts : List Bool} {x : Nat} (h : x = 10 ∨ x = 11) : z_ty1 (nI x) (true :: true :: ts) = some (true :: ts) := by
  rcases h with rfl | rfl <;> rfl
/-- the steps c stand from p to q, over whatever waits that binds less than r -/
def zl_m (T : zt_T) (r p : Nat) (c : List (Nat × Nat)) (q : Nat) : Prop := (p < q ∧ q ≤ T.2 ∧ c.length + p ≤ q ∧ ∀ ts, zl_ty c ts = some (false :: ts)) ∧ ∀ W O ex iw ic, zl_hd r W → (ex = 0 ∨ (ex = 1 ∧ zt_cd 0 T p ≠ 6 ∧ zt_cd 0 T p ≠ 140)) → ∃ W' O', zl_rch T (p, W, O, ex, iw, ic) (q, W', O', 2, iw, (decide (ex = 0) && ic)) ∧ zl_rel r W' O' = (W, c ++ O)
def zl_e (T : zt_T) (r p f q : Nat) : Prop := ∀ W O ex iw ic, zl_hd r W → (ex = 0 ∨ (ex = 1 ∧ zt_cd 0 T p ≠ 6 ∧ zt_cd 0 T p ≠ 140)) → zl_flt T (p, W, O, ex, iw, ic) f q
theorem zl_m.weak {T : zt_T} {r p q : Nat} {c : List (Nat × Nat)} (h : zl_m T (r+1) p c q) : zl_m T r p c q := by
  refine ⟨h.1, fun W O ex iw ic hW hex => ?_⟩
  obtain ⟨W', O', h1, h2⟩ := h.2 W O ex iw ic (zl_hd_mono (by omega) hW) hex
  refine ⟨W', O', h1, ?_⟩
  rw [zl_rel_of (show r ≤ r + 1 by omega) h2, zl_rel_hd hW]
theorem zl_e.weak {T : zt_T} {r p f q : Nat} (h : zl_e T (r+1) p f q) : zl_e T r p f q :=
  fun W O ex iw ic hW hex => h W O ex iw ic (zl_hd_mono (by omega) hW) hex
theorem zl_stp_u {T : zt_T} {p ex iw : Nat} {W : List Nat} {O : List (Nat × Nat)} {ic : Bool} (hex : ex = 0 ∨ (ex = 1 ∧ zt_cd 0 T p ≠ 6 ∧ zt_cd 0 T p ≠ 140)) : zl_stp T (p, W, O, ex, iw, ic) = zl_opd T p W O iw (decide (ex = 0) && ic) := by
  show (if ex = 0 then _ else _) = _
  rcases hex with rfl | ⟨rfl, h1, h2⟩
  · rw [if_pos rfl]
    rfl
  · rw [if_neg (by omega), if_pos rfl, if_neg h1, if_neg h2]
    rfl
theorem zl_u_num {T : zt_T} {p : Nat} (hp : p ≤ T.2) (h : zt_cd 0 T p = 2) : zl_m T 7 p [(0, zt_va T p)] (zt_nx T p) := by
  obtain ⟨g1, g2⟩ := zt_go (k := 0) (by omega) hp (by omega)
  refine ⟨⟨g1, g2, by show 1 + p ≤ _; omega, fun ts => zl_t1n (Or.inl rfl)⟩, fun W O ex iw ic hW hex => ?_⟩
  refine ⟨W, (0, zt_va T p) :: O, zl_rch.cons ?_ (zl_rch.refl _), zl_rel_hd hW _⟩
  rw [zl_stp_u hex]
  unfold zl_opd
  rw [if_pos h]
theorem zl_u_fact {T : zt_T} {p : Nat} (hp : p ≤ T.2) (h : 41 ≤ zt_cd 0 T p ∧ zt_cd 0 T p ≤ 50) : zl_m T 7 p [(1, zt_cd 0 T p - 41)] (zt_nx T p) := by
  obtain ⟨g1, g2⟩ := zt_go (k := 0) (by omega) hp (by omega)
  refine ⟨⟨g1, g2, by show 1 + p ≤ _; omega, fun ts => zl_t1n (Or.inr rfl)⟩, fun W O ex iw ic hW hex => ?_⟩
  refine ⟨W, (1, zt_cd 0 T p - 41) :: O, zl_rch.cons ?_ (zl_rch.refl _), zl_rel_hd hW _⟩
  rw [zl_stp_u hex]
  unfold zl_opd
  rw [if_neg (by omega), if_pos h]
theorem zl_u_bad {T : zt_T} {p : Nat} (h1 : zt_cd 0 T p ≠ 2) (h2 : ¬ (41 ≤ zt_cd 0 T p ∧ zt_cd 0 T p ≤ 50)) : zl_e T 7 p 1 (zt_at T p) := by
  intro W O ex iw ic hW hex
  refine zl_flt.now (zl_rch.refl _) ?_
  rw [zl_stp_u hex]
  unfold zl_opd
  rw [if_neg h1, if_neg h2]
theorem zl_stp_s {T : zt_T} {p iw : Nat} {W : List Nat} {O : List (Nat × Nat)} {ic : Bool} : zl_stp T (p, W, O, 2, iw, ic) = zl_sgn T p W O iw ic := rfl
theorem zl_sgn_j {T : zt_T} {p iw x : Nat} {W : List Nat} {O : List (Nat × Nat)} {ic : Bool} (h : (x = 3 ∧ zt_cd 0 T p = 142) ∨ (x = 4 ∧ zt_cd 0 T p = 143) ∨ (x = 5 ∧ zt_cd 0 T p = 145)) : zl_sgn T p W O iw ic = zl_join T x 0 p W O iw ic := by
  unfold zl_sgn
  rcases h with ⟨rfl, h⟩ | ⟨rfl, h⟩ | ⟨rfl, h⟩
  · rw [if_neg (by omega), if_pos h]
  · rw [if_neg (by omega), if_neg (by omega), if_pos h]
  · rw [if_neg (by omega), if_neg (by omega), if_neg (by omega), if_pos h]
theorem zl_m_join {T : zt_T} {r p q q2 x : Nat} {c u : List (Nat × Nat)} (h : zl_m T r p c q) (hx : (x = 3 ∧ zt_cd 0 T q = 142) ∨ (x = 4 ∧ zt_cd 0 T q = 143) ∨ (x = 5 ∧ zt_cd 0 T q = 145)) (hr : zl_rk x = r) (g : zl_m T (r+1) (zt_nx T q) u q2) : zl_m T r p ((x, 0) :: (u ++ c)) q2 := by
  obtain ⟨⟨h1, h2, h3, h4⟩, hh⟩ := h
  obtain ⟨⟨g1, g2, g3, g4⟩, gg⟩ := g
  obtain ⟨n1, n2⟩ := zt_go (k := 0) (T := T) (by omega) h2 (by omega)
  refine ⟨⟨by omega, g2, ?_, fun ts => ?_⟩, fun W O ex iw ic hW hex => ?_⟩
  · simp only [List.length_cons, List.length_append]; omega
  · rw [zl_ty_c (us := false :: false :: ts)]
    · exact zl_t1a (by omega)
    · rw [zl_ty_app (h4 ts)]; exact g4 _
  · obtain ⟨W', O', k1, k2⟩ := hh W O ex iw ic hW hex
    have hs : zl_stp T (q, W', O', 2, iw, (decide (ex = 0) && ic)) = Sum.inr (true, (zt_nx T q, x :: W, c ++ O, 0, iw, (decide (ex = 0) && ic))) := by
      rw [zl_stp_s, zl_sgn_j hx]
      unfold zl_join
      rw [hr, k2]
    obtain ⟨W2, O2, m1, m2⟩ := gg (x :: W) (c ++ O) 0 iw (decide (ex = 0) && ic) (by show zl_rk x < r + 1; omega) (Or.inl rfl)
    rw [decide_eq_true (rfl : 0 = 0), Bool.true_and] at m1
    refine ⟨W2, O2, k1.trans (zl_rch.cons hs m1), ?_⟩
    rw [zl_rel_of (show r ≤ r + 1 by omega) m2]
    show (if r ≤ zl_rk x then zl_rel r W ((x, 0) :: (u ++ (c ++ O))) else _) = _
    rw [if_pos (by omega), zl_rel_hd hW, ← List.append_assoc]
    rfl
theorem zl_m_joinE {T : zt_T} {r p q f q2 x : Nat} {c : List (Nat × Nat)} (h : zl_m T r p c q) (hx : (x = 3 ∧ zt_cd 0 T q = 142) ∨ (x = 4 ∧ zt_cd 0 T q = 143) ∨ (x = 5 ∧ zt_cd 0 T q = 145)) (hr : zl_rk x = r) (g : zl_e T (r+1) (zt_nx T q) f q2) : zl_e T r p f q2 := by
  intro W O ex iw ic hW hex
  obtain ⟨W', O', k1, k2⟩ := h.2 W O ex iw ic hW hex
  have hs : zl_stp T (q, W', O', 2, iw, (decide (ex = 0) && ic)) = Sum.inr (true, (zt_nx T q, x :: W, c ++ O, 0, iw, (decide (ex = 0) && ic))) := by
    rw [zl_stp_s, zl_sgn_j hx]
    unfold zl_join
    rw [hr, k2]
  exact zl_flt.of (k1.trans (zl_rch.cons hs (zl_rch.refl _))) (g (x :: W) (c ++ O) 0 iw _ (by show zl_rk x < r + 1; omega) (Or.inl rfl))
theorem zl_m_part {T : zt_T} {p q : Nat} {c : List (Nat × Nat)} (h : zl_m T 6 p c q) (hq : zt_cd 0 T q = 147) (h2 : zt_cd 0 T (zt_nx T q) = 2) (hv : zt_va T (zt_nx T q) ≠ 0) : zl_m T 6 p ((2, zt_va T (zt_nx T q)) :: c) (zt_nx T (zt_nx T q)) := by
  obtain ⟨⟨h1, h2', h3, h4⟩, hh⟩ := h
  obtain ⟨n1, n2⟩ := zt_go (k := 0) (T := T) (by omega) h2' (by omega)
  obtain ⟨n3, n4⟩ := zt_go (k := 0) (T := T) (by omega) n2 (by omega)
  refine ⟨⟨by omega, n4, ?_, fun ts => ?_⟩, fun W O ex iw ic hW hex => ?_⟩
  · simp only [List.length_cons]; omega
  · rw [zl_ty_c (h4 ts)]; exact zl_t1p
  · obtain ⟨W', O', k1, k2⟩ := hh W O ex iw ic hW hex
    refine ⟨W, (2, zt_va T (zt_nx T q)) :: (c ++ O), k1.trans (zl_rch.cons ?_ (zl_rch.refl _)), zl_rel_hd hW _⟩
    rw [zl_stp_s]
    unfold zl_sgn zl_part
    rw [if_pos hq, if_pos h2, if_neg hv, k2]
theorem zl_m_partE1 {T : zt_T} {p q : Nat} {c : List (Nat × Nat)} (h : zl_m T 6 p c q) (hq : zt_cd 0 T q = 147) (h2 : zt_cd 0 T (zt_nx T q) ≠ 2) : zl_e T 6 p 1 (zt_at T (zt_nx T q)) := by
  intro W O ex iw ic hW hex
  obtain ⟨W', O', k1, k2⟩ := h.2 W O ex iw ic hW hex
  refine zl_flt.now k1 ?_
  rw [zl_stp_s]
  unfold zl_sgn zl_part
  rw [if_pos hq, if_neg h2]
theorem zl_m_partE2 {T : zt_T} {p q : Nat} {c : List (Nat × Nat)} (h : zl_m T 6 p c q) (hq : zt_cd 0 T q = 147) (h2 : zt_cd 0 T (zt_nx T q) = 2) (hv : zt_va T (zt_nx T q) = 0) : zl_e T 6 p 2 (zt_at T (zt_nx T q)) := by
  intro W O ex iw ic hW hex
  obtain ⟨W', O', k1, k2⟩ := h.2 W O ex iw ic hW hex
  refine zl_flt.now k1 ?_
  rw [zl_stp_s]
  unfold zl_sgn zl_part
  rw [if_pos hq, if_pos h2, if_pos hv]
/-! conditions -/
def zl_ar (x : Nat) : Prop := x = 142 ∨ x = 143 ∨ x = 145 ∨ x = 147
def zl_ex (T : zt_T) (q ex : Nat) (ic : Bool) : Prop := (ex = 2 ∧ ic = true ∧ ¬ zl_ar (zt_cd 0 T q)) ∨ ex = 3
/-- one test -/
def zl_te (T : zt_T) (p : Nat) (c : List (Nat × Nat)) (q d : Nat) : Prop := (p < q ∧ q ≤ T.2 ∧ c.length + p ≤ q ∧ ∀ ts, zl_ty c ts = some (true :: ts)) ∧ ∀ W O iw ic, zl_hd 4 W → zl_cn W = d → iw ≠ 0 → ∃ W' O' ex' ic', zl_rch T (p, W, O, 1, iw, ic) (q, W', O', ex', iw, ic') ∧ zl_rel 3 W' O' = zl_rel 3 W (c ++ O) ∧ zl_ex T q ex' ic'
/-- tests with and (2), with or (1) -/
def zl_t (T : zt_T) (r p : Nat) (c : List (Nat × Nat)) (q d : Nat) : Prop := (p < q ∧ q ≤ T.2 ∧ c.length + p ≤ q ∧ ∀ ts, zl_ty c ts = some (true :: ts)) ∧ ∀ W O iw ic, zl_hd r W → zl_cn W = d → iw ≠ 0 → ∃ W' O' ex' ic', zl_rch T (p, W, O, 1, iw, ic) (q, W', O', ex', iw, ic') ∧ zl_rel r W' O' = (W, c ++ O) ∧ zl_ex T q ex' ic'
def zl_f (T : zt_T) (r p f q d : Nat) : Prop := ∀ W O iw ic, zl_hd r W → zl_cn W = d → iw ≠ 0 → zl_flt T (p, W, O, 1, iw, ic) f q
theorem zl_f.weak {T : zt_T} {a b p f q d : Nat} (h : zl_f T b p f q d) (hab : a ≤ b) : zl_f T a p f q d :=
  fun W O iw ic hW hd hi => h W O iw ic (zl_hd_mono hab hW) hd hi
theorem zl_sgn_c {T : zt_T} {p iw x : Nat} {W : List Nat} {O : List (Nat × Nat)} (hi : iw ≠ 0) (h : (x = 6 ∧ zt_cd 0 T p = 160) ∨ (x = 7 ∧ zt_cd 0 T p = 161) ∨ (x = 8 ∧ zt_cd 0 T p = 162)) : zl_sgn T p W O iw false = zl_join T x 0 p W O iw true := by
  unfold zl_sgn
  rw [if_neg (by omega), if_neg (by omega), if_neg (by omega), if_neg (by omega), if_neg hi, if_pos rfl]
  unfold zl_cmp
  rcases h with ⟨rfl, h⟩ | ⟨rfl, h⟩ | ⟨rfl, h⟩
  · rw [if_pos h]
  · rw [if_neg (by omega), if_pos h]
  · rw [if_neg (by omega), if_neg (by omega), if_pos h]
theorem zl_te_cmp {T : zt_T} {p q q2 x d : Nat} {c u : List (Nat × Nat)} (h0 : zt_cd 0 T p ≠ 6 ∧ zt_cd 0 T p ≠ 140) (h : zl_m T 5 p c q) (hx : (x = 6 ∧ zt_cd 0 T q = 160) ∨ (x = 7 ∧ zt_cd 0 T q = 161) ∨ (x = 8 ∧ zt_cd 0 T q = 162)) (g : zl_m T 5 (zt_nx T q) u q2) (hq : ¬ zl_ar (zt_cd 0 T q2)) : zl_te T p ((x, 0) :: (u ++ c)) q2 d := by
  obtain ⟨⟨h1, h2, h3, h4⟩, hh⟩ := h
  obtain ⟨⟨g1, g2, g3, g4⟩, gg⟩ := g
  obtain ⟨n1, n2⟩ := zt_go (k := 0) (T := T) (by omega) h2 (by omega)
  have hr : zl_rk x = 4 := by rcases hx with ⟨rfl, -⟩ | ⟨rfl, -⟩ | ⟨rfl, -⟩ <;> rfl
  refine ⟨⟨by omega, g2, ?_, fun ts => ?_⟩, fun W O iw ic hW hd hi => ?_⟩
  · simp only [List.length_cons, List.length_append]; omega
  · rw [zl_ty_c (us := false :: false :: ts)]
    · exact zl_t1c (by omega)
    · rw [zl_ty_app (h4 ts)]; exact g4 _
  · obtain ⟨W', O', k1, k2⟩ := hh W O 1 iw ic (zl_hd_mono (by omega) hW) (Or.inr ⟨rfl, h0⟩)
    rw [decide_eq_false (show ¬ 1 = 0 by omega), Bool.false_and] at k1
    have k3 := zl_rel_of (show 4 ≤ 5 by omega) k2
    rw [zl_rel_hd hW] at k3
    have hs : zl_stp T (q, W', O', 2, iw, false) = Sum.inr (true, (zt_nx T q, x :: W, c ++ O, 0, iw, true)) := by
      rw [zl_stp_s, zl_sgn_c hi hx]
      unfold zl_join
      rw [hr, k3]
    obtain ⟨W2, O2, m1, m2⟩ := gg (x :: W) (c ++ O) 0 iw true (by show zl_rk x < 5; omega) (Or.inl rfl)
    rw [decide_eq_true (rfl : 0 = 0), Bool.true_and] at m1
    refine ⟨W2, O2, 2, true, k1.trans (zl_rch.cons hs m1), ?_, Or.inl ⟨rfl, rfl, hq⟩⟩
    rw [zl_rel_of (show 3 ≤ 5 by omega) m2]
    show (if 3 ≤ zl_rk x then zl_rel 3 W ((x, 0) :: (u ++ (c ++ O))) else _) = _
    rw [if_pos (by omega), ← List.append_assoc]
    rfl
theorem zl_te_E1 {T : zt_T} {p f q d : Nat} (h0 : zt_cd 0 T p ≠ 6 ∧ zt_cd 0 T p ≠ 140) (h : zl_e T 5 p f q) : zl_f T 4 p f q d :=
  fun W O iw ic hW _ _ => h W O 1 iw ic (zl_hd_mono (by omega) hW) (Or.inr ⟨rfl, h0⟩)
theorem zl_te_E2 {T : zt_T} {p q d : Nat} {c : List (Nat × Nat)} (h0 : zt_cd 0 T p ≠ 6 ∧ zt_cd 0 T p ≠ 140) (h : zl_m T 5 p c q) (ha : ¬ zl_ar (zt_cd 0 T q)) (hq : zt_cd 0 T q ≠ 160 ∧ zt_cd 0 T q ≠ 161 ∧ zt_cd 0 T q ≠ 162) : zl_f T 4 p 1 (zt_at T q) d := by
  intro W O iw ic hW hd hi
  obtain ⟨W', O', k1, k2⟩ := h.2 W O 1 iw ic (zl_hd_mono (by omega) hW) (Or.inr ⟨rfl, h0⟩)
  rw [decide_eq_false (show ¬ 1 = 0 by omega), Bool.false_and] at k1
  refine zl_flt.now k1 ?_
  unfold zl_ar at ha
  rw [zl_stp_s]
  unfold zl_sgn
  rw [if_neg (by omega), if_neg (by omega), if_neg (by omega), if_neg (by omega), if_neg hi, if_pos rfl]
  unfold zl_cmp
  rw [if_neg hq.1, if_neg hq.2.1, if_neg hq.2.2]
theorem zl_te_E3 {T : zt_T} {p q f q2 x d : Nat} {c : List (Nat × Nat)} (h0 : zt_cd 0 T p ≠ 6 ∧ zt_cd 0 T p ≠ 140) (h : zl_m T 5 p c q) (hx : (x = 6 ∧ zt_cd 0 T q = 160) ∨ (x = 7 ∧ zt_cd 0 T q = 161) ∨ (x = 8 ∧ zt_cd 0 T q = 162)) (g : zl_e T 5 (zt_nx T q) f q2) : zl_f T 4 p f q2 d := by
  have hr : zl_rk x = 4 := by rcases hx with ⟨rfl, -⟩ | ⟨rfl, -⟩ | ⟨rfl, -⟩ <;> rfl
  intro W O iw ic hW hd hi
  obtain ⟨W', O', k1, k2⟩ := h.2 W O 1 iw ic (zl_hd_mono (by omega) hW) (Or.inr ⟨rfl, h0⟩)
  rw [decide_eq_false (show ¬ 1 = 0 by omega), Bool.false_and] at k1
  have k3 := zl_rel_of (show 4 ≤ 5 by omega) k2
  rw [zl_rel_hd hW] at k3
  have hs : zl_stp T (q, W', O', 2, iw, false) = Sum.inr (true, (zt_nx T q, x :: W, c ++ O, 0, iw, true)) := by
    rw [zl_stp_s, zl_sgn_c hi hx]
    unfold zl_join
    rw [hr, k3]
  exact zl_flt.of (k1.trans (zl_rch.cons hs (zl_rch.refl _))) (g (x :: W) (c ++ O) 0 iw true (by show zl_rk x < 5; omega) (Or.inl rfl))
theorem zl_stp_o {T : zt_T} {p iw x : Nat} {W : List Nat} {O : List (Nat × Nat)} {ic : Bool} (hx : (x = 9 ∧ zt_cd 0 T p = 6) ∨ (x = 12 ∧ zt_cd 0 T p = 140)) : zl_stp T (p, W, O, 1, iw, ic) = zl_opn T x p W O iw := by
  show (if zt_cd 0 T p = 6 then zl_opn T 9 p W O iw else if zt_cd 0 T p = 140 then zl_opn T 12 p W O iw else zl_opd T p W O iw false) = _
  rcases hx with ⟨rfl, h⟩ | ⟨rfl, h⟩
  · rw [if_pos h]
  · rw [if_neg (by omega), if_pos h]
theorem zl_te_full {T : zt_T} {p x d : Nat} (hx : (x = 9 ∧ zt_cd 0 T p = 6) ∨ (x = 12 ∧ zt_cd 0 T p = 140)) (hd : ¬ d < 8) : zl_f T 4 p 3 (zt_at T p) d := by
  intro W O iw ic hW hcn hi
  refine zl_flt.now (zl_rch.refl _) ?_
  rw [zl_stp_o hx]
  unfold zl_opn
  rw [if_neg (by omega)]
theorem zl_te_not {T : zt_T} {p q d : Nat} {c : List (Nat × Nat)} (hp : p ≤ T.2) (h6 : zt_cd 0 T p = 6) (hd : d < 8) (h : zl_te T (zt_nx T p) c q (d+1)) : zl_te T p ((9, 0) :: c) q d := by
  obtain ⟨⟨h1, h2, h3, h4⟩, hh⟩ := h
  obtain ⟨n1, n2⟩ := zt_go (k := 0) (T := T) (by omega) hp (by omega)
  refine ⟨⟨by omega, h2, ?_, fun ts => ?_⟩, fun W O iw ic hW hcn hi => ?_⟩
  · simp only [List.length_cons]; omega
  · rw [zl_ty_c (h4 ts)]; exact zl_t1o
  · have hs : zl_stp T (p, W, O, 1, iw, ic) = Sum.inr (true, (zt_nx T p, 9 :: W, O, 1, iw, false)) := by
      rw [zl_stp_o (Or.inl ⟨rfl, h6⟩)]
      unfold zl_opn
      rw [if_pos (by omega)]
    obtain ⟨W', O', ex', ic', k1, k2, k3⟩ := hh (9 :: W) O iw false (by show zl_rk 9 < 4; decide) (by show zl_cn W + 1 = d + 1; omega) hi
    refine ⟨W', O', ex', ic', zl_rch.cons hs k1, ?_, k3⟩
    rw [k2]
    rfl
theorem zl_te_notE {T : zt_T} {p f q d : Nat} (h6 : zt_cd 0 T p = 6) (hd : d < 8) (h : zl_f T 4 (zt_nx T p) f q (d+1)) : zl_f T 4 p f q d := by
  intro W O iw ic hW hcn hi
  have hs : zl_stp T (p, W, O, 1, iw, ic) = Sum.inr (true, (zt_nx T p, 9 :: W, O, 1, iw, false)) := by
    rw [zl_stp_o (Or.inl ⟨rfl, h6⟩)]
    unfold zl_opn
    rw [if_pos (by omega)]
  exact zl_flt.of (zl_rch.cons hs (zl_rch.refl _)) (h (9 :: W) O iw false (by show zl_rk 9 < 4; decide) (by show zl_cn W + 1 = d + 1; omega) hi)
/-- behind a test: and, or, ) and the rest -/
theorem zl_stp_t {T : zt_T} {p ex iw : Nat} {W : List Nat} {O : List (Nat × Nat)} {ic : Bool} (hi : iw ≠ 0) (h : (ex = 2 ∧ ic = true ∧ ¬ zl_ar (zt_cd 0 T p)) ∨ ex = 3) : zl_stp T (p, W, O, ex, iw, ic) = zl_tail T p W O ex iw ic := by
  rcases h with ⟨rfl, rfl, h⟩ | rfl
  · unfold zl_ar at h
    rw [zl_stp_s]
    unfold zl_sgn
    rw [if_neg (by omega), if_neg (by omega), if_neg (by omega), if_neg (by omega), if_neg hi, if_neg (by decide)]
  · rfl
theorem zl_te_par {T : zt_T} {p q d : Nat} {c : List (Nat × Nat)} (hp : p ≤ T.2) (h6 : zt_cd 0 T p = 140) (hd : d < 8) (h : zl_t T 1 (zt_nx T p) c q (d+1)) (hq : zt_cd 0 T q = 141) : zl_te T p c (zt_nx T q) d := by
  obtain ⟨⟨h1, h2, h3, h4⟩, hh⟩ := h
  obtain ⟨n1, n2⟩ := zt_go (k := 0) (T := T) (by omega) hp (by omega)
  obtain ⟨n3, n4⟩ := zt_go (k := 0) (T := T) (by omega) h2 (by omega)
  refine ⟨⟨by omega, n4, by omega, h4⟩, fun W O iw ic hW hcn hi => ?_⟩
  have hs : zl_stp T (p, W, O, 1, iw, ic) = Sum.inr (true, (zt_nx T p, 12 :: W, O, 1, iw, false)) := by
    rw [zl_stp_o (Or.inr ⟨rfl, h6⟩)]
    unfold zl_opn
    rw [if_pos (by omega)]
  obtain ⟨W', O', ex', ic', k1, k2, k3⟩ := hh (12 :: W) O iw false (by show zl_rk 12 < 1; decide) (by show zl_cn W + 1 = d + 1; omega) hi
  have hcb : zl_cb W' = zl_cb W + 1 := by
    have := zl_rel_cb (r := 1) (Nat.le_refl _) W' O'
    rw [k2] at this
    exact this.symm
  have hs2 : zl_stp T (q, W', O', ex', iw, ic') = Sum.inr (true, (zt_nx T q, W, c ++ O, 3, iw, ic')) := by
    rw [zl_stp_t hi k3]
    unfold zl_tail zl_clos
    rw [if_neg (by omega), if_neg (by omega), if_neg (by omega), if_pos hq, k2]
    rfl
  exact ⟨W, c ++ O, 3, ic', zl_rch.cons hs (k1.trans (zl_rch.cons hs2 (zl_rch.refl _))), rfl, Or.inr rfl⟩
theorem zl_te_parE {T : zt_T} {p f q d : Nat} (h6 : zt_cd 0 T p = 140) (hd : d < 8) (h : zl_f T 1 (zt_nx T p) f q (d+1)) : zl_f T 4 p f q d := by
  intro W O iw ic hW hcn hi
  have hs : zl_stp T (p, W, O, 1, iw, ic) = Sum.inr (true, (zt_nx T p, 12 :: W, O, 1, iw, false)) := by
    rw [zl_stp_o (Or.inr ⟨rfl, h6⟩)]
    unfold zl_opn
    rw [if_pos (by omega)]
  exact zl_flt.of (zl_rch.cons hs (zl_rch.refl _)) (h (12 :: W) O iw false (by show zl_rk 12 < 1; decide) (by show zl_cn W + 1 = d + 1; omega) hi)
theorem zl_te_parE2 {T : zt_T} {p q d : Nat} {c : List (Nat × Nat)} (h6 : zt_cd 0 T p = 140) (hd : d < 8) (h : zl_t T 1 (zt_nx T p) c q (d+1)) (hq : zt_cd 0 T q ≠ 141 ∧ zt_cd 0 T q ≠ 4 ∧ zt_cd 0 T q ≠ 5) : zl_f T 4 p 1 (zt_at T q) d := by
  intro W O iw ic hW hcn hi
  have hs : zl_stp T (p, W, O, 1, iw, ic) = Sum.inr (true, (zt_nx T p, 12 :: W, O, 1, iw, false)) := by
    rw [zl_stp_o (Or.inr ⟨rfl, h6⟩)]
    unfold zl_opn
    rw [if_pos (by omega)]
  obtain ⟨W', O', ex', ic', k1, k2, k3⟩ := h.2 (12 :: W) O iw false (by show zl_rk 12 < 1; decide) (by show zl_cn W + 1 = d + 1; omega) hi
  have hcb : zl_cb W' = zl_cb W + 1 := by
    have := zl_rel_cb (r := 1) (Nat.le_refl _) W' O'
    rw [k2] at this
    exact this.symm
  refine zl_flt.now (zl_rch.cons hs k1) ?_
  rw [zl_stp_t hi k3]
  unfold zl_tail zl_clos
  rw [if_neg hq.2.2, if_neg hq.2.1, if_neg (by omega), if_neg hq.1]
theorem zl_t2_of {T : zt_T} {p q d : Nat} {c : List (Nat × Nat)} (h : zl_te T p c q d) : zl_t T 2 p c q d := by
  refine ⟨h.1, fun W O iw ic hW hcn hi => ?_⟩
  obtain ⟨W', O', ex', ic', k1, k2, k3⟩ := h.2 W O iw ic (zl_hd_mono (by omega) hW) hcn hi
  refine ⟨W', O', ex', ic', k1, ?_, k3⟩
  have h3 := zl_rel_hd (zl_hd_mono (show 2 ≤ 3 by omega) hW) (c ++ O)
  rw [h3] at k2
  rw [zl_rel_of (show 2 ≤ 3 by omega) k2, zl_rel_hd hW]
theorem zl_t1_of {T : zt_T} {p q d : Nat} {c : List (Nat × Nat)} (h : zl_t T 2 p c q d) : zl_t T 1 p c q d := by
  refine ⟨h.1, fun W O iw ic hW hcn hi => ?_⟩
  obtain ⟨W', O', ex', ic', k1, k2, k3⟩ := h.2 W O iw ic (zl_hd_mono (by omega) hW) hcn hi
  refine ⟨W', O', ex', ic', k1, ?_, k3⟩
  rw [zl_rel_of (show 1 ≤ 2 by omega) k2, zl_rel_hd hW]
theorem zl_tl_j {T : zt_T} {p ex iw x : Nat} {W : List Nat} {O : List (Nat × Nat)} {ic : Bool} (hx : (x = 10 ∧ zt_cd 0 T p = 5) ∨ (x = 11 ∧ zt_cd 0 T p = 4)) : zl_tail T p W O ex iw ic = zl_join T x 1 p W O iw ic := by
  unfold zl_tail
  rcases hx with ⟨rfl, h⟩ | ⟨rfl, h⟩
  · rw [if_pos h]
  · rw [if_neg (by omega), if_pos h]
theorem zl_t_and {T : zt_T} {p q q2 d : Nat} {c u : List (Nat × Nat)} (h : zl_t T 2 p c q d) (hq : zt_cd 0 T q = 5) (g : zl_te T (zt_nx T q) u q2 d) : zl_t T 2 p ((10, 0) :: (u ++ c)) q2 d := by
  obtain ⟨⟨h1, h2, h3, h4⟩, hh⟩ := h
  obtain ⟨⟨g1, g2, g3, g4⟩, gg⟩ := g
  obtain ⟨n1, n2⟩ := zt_go (k := 0) (T := T) (by omega) h2 (by omega)
  refine ⟨⟨by omega, g2, ?_, fun ts => ?_⟩, fun W O iw ic hW hcn hi => ?_⟩
  · simp only [List.length_cons, List.length_append]; omega
  · rw [zl_ty_c (us := true :: true :: ts)]
    · exact zl_t1b (by omega)
    · rw [zl_ty_app (h4 ts)]; exact g4 _
  · obtain ⟨W', O', ex', ic', k1, k2, k3⟩ := hh W O iw ic hW hcn hi
    have hs : zl_stp T (q, W', O', ex', iw, ic') = Sum.inr (true, (zt_nx T q, 10 :: W, c ++ O, 1, iw, ic')) := by
      rw [zl_stp_t hi k3, zl_tl_j (Or.inl ⟨rfl, hq⟩)]
      unfold zl_join
      rw [show zl_rk 10 = 2 from rfl, k2]
    obtain ⟨W2, O2, ex2, ic2, m1, m2, m3⟩ := gg (10 :: W) (c ++ O) iw ic' (by show zl_rk 10 < 4; decide) (by show zl_cn W + 0 = d; omega) hi
    refine ⟨W2, O2, ex2, ic2, k1.trans (zl_rch.cons hs m1), ?_, m3⟩
    have e3 : zl_rel 3 (10 :: W) (u ++ (c ++ O)) = (10 :: W, u ++ (c ++ O)) := rfl
    rw [e3] at m2
    rw [zl_rel_of (show 2 ≤ 3 by omega) m2]
    show zl_rel 2 W ((10, 0) :: (u ++ (c ++ O))) = _
    rw [zl_rel_hd hW, ← List.append_assoc]
    rfl
theorem zl_t_andE {T : zt_T} {p q f q2 d : Nat} {c : List (Nat × Nat)} (h : zl_t T 2 p c q d) (hq : zt_cd 0 T q = 5) (g : zl_f T 4 (zt_nx T q) f q2 d) : zl_f T 2 p f q2 d := by
  intro W O iw ic hW hcn hi
  obtain ⟨W', O', ex', ic', k1, k2, k3⟩ := h.2 W O iw ic hW hcn hi
  have hs : zl_stp T (q, W', O', ex', iw, ic') = Sum.inr (true, (zt_nx T q, 10 :: W, c ++ O, 1, iw, ic')) := by
    rw [zl_stp_t hi k3, zl_tl_j (Or.inl ⟨rfl, hq⟩)]
    unfold zl_join
    rw [show zl_rk 10 = 2 from rfl, k2]
  exact zl_flt.of (k1.trans (zl_rch.cons hs (zl_rch.refl _))) (g (10 :: W) (c ++ O) iw ic' (by show zl_rk 10 < 4; decide) (by show zl_cn W + 0 = d; omega) hi)
theorem zl_t_or {T : zt_T} {p q q2 d : Nat} {c u : List (Nat × Nat)} (h : zl_t T 1 p c q d) (hq : zt_cd 0 T q = 4) (g : zl_t T 2 (zt_nx T q) u q2 d) : zl_t T 1 p ((11, 0) :: (u ++ c)) q2 d := by
  obtain ⟨⟨h1, h2, h3, h4⟩, hh⟩ := h
  obtain ⟨⟨g1, g2, g3, g4⟩, gg⟩ := g
  obtain ⟨n1, n2⟩ := zt_go (k := 0) (T := T) (by omega) h2 (by omega)
  refine ⟨⟨by omega, g2, ?_, fun ts => ?_⟩, fun W O iw ic hW hcn hi => ?_⟩
  · simp only [List.length_cons, List.length_append]; omega
  · rw [zl_ty_c (us := true :: true :: ts)]
    · exact zl_t1b (by omega)
    · rw [zl_ty_app (h4 ts)]; exact g4 _
  · obtain ⟨W', O', ex', ic', k1, k2, k3⟩ := hh W O iw ic hW hcn hi
    have hs : zl_stp T (q, W', O', ex', iw, ic') = Sum.inr (true, (zt_nx T q, 11 :: W, c ++ O, 1, iw, ic')) := by
      rw [zl_stp_t hi k3, zl_tl_j (Or.inr ⟨rfl, hq⟩)]
      unfold zl_join
      rw [show zl_rk 11 = 1 from rfl, k2]
    obtain ⟨W2, O2, ex2, ic2, m1, m2, m3⟩ := gg (11 :: W) (c ++ O) iw ic' (by show zl_rk 11 < 2; decide) (by show zl_cn W + 0 = d; omega) hi
    refine ⟨W2, O2, ex2, ic2, k1.trans (zl_rch.cons hs m1), ?_, m3⟩
    rw [zl_rel_of (show 1 ≤ 2 by omega) m2]
    show zl_rel 1 W ((11, 0) :: (u ++ (c ++ O))) = _
    rw [zl_rel_hd hW, ← List.append_assoc]
    rfl
theorem zl_t_orE {T : zt_T} {p q f q2 d : Nat} {c : List (Nat × Nat)} (h : zl_t T 1 p c q d) (hq : zt_cd 0 T q = 4) (g : zl_f T 2 (zt_nx T q) f q2 d) : zl_f T 1 p f q2 d := by
  intro W O iw ic hW hcn hi
  obtain ⟨W', O', ex', ic', k1, k2, k3⟩ := h.2 W O iw ic hW hcn hi
  have hs : zl_stp T (q, W', O', ex', iw, ic') = Sum.inr (true, (zt_nx T q, 11 :: W, c ++ O, 1, iw, ic')) := by
    rw [zl_stp_t hi k3, zl_tl_j (Or.inr ⟨rfl, hq⟩)]
    unfold zl_join
    rw [show zl_rk 11 = 1 from rfl, k2]
  exact zl_flt.of (k1.trans (zl_rch.cons hs (zl_rch.refl _))) (g (11 :: W) (c ++ O) iw ic' (by show zl_rk 11 < 2; decide) (by show zl_cn W + 0 = d; omega) hi)
/-! THE LAW's reader: the class -/
def zl_wt (a : Nat → Int32) : List Nat → Prop
  | [] => True
  | x :: W => (a W.length = nI x ∧ x < 13) ∧ zl_wt a W
def zl_ot (k v : Nat → Int32) : List (Nat × Nat) → Prop
  | [] => True
  | x :: O => (k O.length = nI x.1 ∧ v O.length = nI x.2) ∧ zl_ot k v O
theorem zl_wt_up {a b : Nat → Int32} : ∀ {W : List Nat}, zl_wt a W → (∀ i, i < W.length → b i = a i) → zl_wt b W
  | [], _, _ => trivial
  | x :: W, h, e => ⟨⟨by rw [e W.length (by simp)]; exact h.1.1, h.1.2⟩, zl_wt_up h.2 (fun i hi => e i (by simp only [List.length_cons]; omega))⟩
theorem zl_ot_up {a b c d : Nat → Int32} : ∀ {O : List (Nat × Nat)}, zl_ot a c O → (∀ i, i < O.length → b i = a i ∧ d i = c i) → zl_ot b d O
  | [], _, _ => trivial
  | x :: O, h, e => ⟨⟨by rw [(e O.length (by simp)).1]; exact h.1.1, by rw [(e O.length (by simp)).2]; exact h.1.2⟩, zl_ot_up h.2 (fun i hi => e i (by simp only [List.length_cons]; omega))⟩
/-- what the class holds of the reader, but the tape -/
def zl_D (σ : q_Sto) (N : Nat) (W : List Nat) (O : List (Nat × Nat)) (ex iw : Nat) (ic : Bool) : Prop := σ 144 3 = nI W.length ∧ zl_wt (σ 153) W ∧ σ 144 4 = nI (zl_cb W) ∧ σ 144 5 = nI (zl_cn W) ∧ σ 144 6 = nI ex ∧ σ 144 7 = nI (if iw = 0 then 0 else 1) ∧ σ 144 8 = z_fb ic ∧ σ 145 7 = nI O.length ∧ zl_ot (σ 150) (σ 151) O ∧ σ 145 8 = nI N ∧ σ 148 N = z_vw iw
theorem zl_D.fr {σ σ' : q_Sto} {N ex iw : Nat} {W : List Nat} {O : List (Nat × Nat)} {ic : Bool} (h : zl_D σ N W O ex iw ic) (e : ∀ o, o ≠ 142 → σ' o = σ o) : zl_D σ' N W O ex iw ic := by
  unfold zl_D at *
  rw [e 144 (by omega), e 145 (by omega), e 148 (by omega), e 150 (by omega), e 151 (by omega), e 153 (by omega)]
  exact h
def zl_fL (N : Nat) (σ σ' : q_Sto) : Prop := (∀ o, o ≠ 144 → o ≠ 145 → o ≠ 148 → o ≠ 150 → o ≠ 151 → o ≠ 153 → σ' o = σ o) ∧ ∀ i, i ≠ N → σ' 148 i = σ 148 i
theorem zl_fL.refl (N : Nat) (σ : q_Sto) : zl_fL N σ σ := ⟨fun _ _ _ _ _ _ _ => rfl, fun _ _ => rfl⟩
theorem zl_fL.trans {N : Nat} {a b c : q_Sto} (h : zl_fL N a b) (g : zl_fL N b c) : zl_fL N a c := ⟨fun o o1 o2 o3 o4 o5 o6 => (g.1 o o1 o2 o3 o4 o5 o6).trans (h.1 o o1 o2 o3 o4 o5 o6), fun i hi => (g.2 i hi).trans (h.2 i hi)⟩
def zl_fT (N : Nat) (σ σ' : q_Sto) : Prop := (∀ o, o ≠ 142 → o ≠ 144 → o ≠ 145 → o ≠ 148 → o ≠ 150 → o ≠ 151 → o ≠ 153 → σ' o = σ o) ∧ (∀ i, i ≠ N → σ' 148 i = σ 148 i) ∧ ∀ a, a ≠ 2 → a ≠ 3 → a ≠ 4 → a ≠ 5 → σ' 142 a = σ 142 a
theorem zl_fT.refl (N : Nat) (σ : q_Sto) : zl_fT N σ σ := ⟨fun _ _ _ _ _ _ _ _ => rfl, fun _ _ => rfl, fun _ _ _ _ _ => rfl⟩
theorem zl_fT.trans {N : Nat} {a b c : q_Sto} (h : zl_fT N a b) (g : zl_fT N b c) : zl_fT N a c := ⟨fun o o0 o1 o2 o3 o4 o5 o6 => (g.1 o o0 o1 o2 o3 o4 o5 o6).trans (h.1 o o0 o1 o2 o3 o4 o5 o6), fun i hi => (g.2.1 i hi).trans (h.2.1 i hi), fun i a b c d => (g.2.2 i a b c d).trans (h.2.2 i a b c d)⟩
theorem zl_fL.T {N : Nat} {σ σ' : q_Sto} (h : zl_fL N σ σ') : zl_fT N σ σ' := ⟨fun o _ o1 o2 o3 o4 o5 o6 => h.1 o o1 o2 o3 o4 o5 o6, h.2, fun a _ _ _ _ => by rw [h.1 142 (by omega) (by omega) (by omega) (by omega) (by omega) (by omega)]⟩
theorem zl_fT.tape {N : Nat} {σ σ' : q_Sto} (h : ∀ o, o ≠ 142 → σ' o = σ o) (g : ∀ a, a ≠ 2 → a ≠ 3 → a ≠ 4 → a ≠ 5 → σ' 142 a = σ 142 a) : zl_fT N σ σ' := ⟨fun o o0 _ _ _ _ _ _ => h o o0, fun i _ => by rw [h 148 (by omega)], g⟩
theorem zt_C.fL {σ σ' : q_Sto} {T : zt_T} {p N : Nat} (h : zt_C σ T p) (g : zl_fL N σ σ') : zt_C σ' T p :=
  h.fr (g.1 143 (by omega) (by omega) (by omega) (by omega) (by omega) (by omega)) (fun a _ _ => by rw [g.1 142 (by omega) (by omega) (by omega) (by omega) (by omega) (by omega)])
theorem zl_cn_le : ∀ W : List Nat, zl_cn W ≤ W.length
  | [] => Nat.le_refl _
  | x :: W => by
    have ih := zl_cn_le W
    show zl_cn W + (if x = 9 ∨ x = 12 then 1 else 0) ≤ W.length + 1
    split <;> omega
theorem zl_cb_le : ∀ W : List Nat, zl_cb W ≤ W.length
  | [] => Nat.le_refl _
  | x :: W => by
    have ih := zl_cb_le W
    show zl_cb W + (if x = 12 then 1 else 0) ≤ W.length + 1
    split <;> omega
theorem c_rank {n x : Nat} {σ : q_Sto} (h : x < 13) : f_X3_rank n (nI x) σ = some (nI (zl_rk x), σ) := by
  have hc : x = 0 ∨ x = 1 ∨ x = 2 ∨ x = 3 ∨ x = 4 ∨ x = 5 ∨ x = 6 ∨ x = 7 ∨ x = 8 ∨ x = 9 ∨ x = 10 ∨ x = 11 ∨ x = 12 := by omega
  rcases hc with rfl | rfl | rfl | rfl | rfl | rfl | rfl | rfl | rfl | rfl | rfl | rfl | rfl <;> rfl
theorem zl_rk6 (x : Nat) : zl_rk x ≤ 6 := by
  unfold zl_rk
  split
  · omega
  · split
    · omega
    · split
      · omega
      · split
        · omega
        · split
          · omega
          · split <;> omega
theorem zl_rk0 {x : Nat} (h : 1 ≤ zl_rk x) : x ≠ 12 := fun e => by
  subst e
  have : zl_rk 12 = 0 := rfl
  omega
theorem c_emit {n m x v : Nat} {σ : q_Sto} (hm : σ 145 7 = nI m) (h : m < 400) : f_X2_emit n 145 (nI x) (nI v) σ = some (nI 0, q_up (q_up (q_up σ 150 m (nI x)) 151 m (nI v)) 145 7 (nI (m+1))) := by
  unfold f_X2_emit
  simp (disch := omega) only [hm, ↓reduceIte, ↓p_ld, ↓p_st, ↓p_nm, ↓p_nS, ↓p_jn, ↓p_call, ↓p_callv, ↓p_dv, ↓p_rem, h_ldE, h_stE, h_nmE, h_nSE, h_callE, h_callvE, h_dvE, h_remE, if_true, if_false, z_upS, z_upO, z_upK, nI_add, z_mul, z_sub, z_div, Nat.add_zero, Nat.mul_zero, Nat.zero_add, Nat.sub_zero, Nat.zero_mul, z_ltT, z_ltF, z_leT, z_leF, z_eqT, z_eqF, z_inT, z_clT, not_true_eq_false, not_false_eq_true, eq_self, true_or, or_true, z_m_lt, z_m_le, z_lt_m, z_le_m, z_eq_m, z_m_eq, z_rz0, z_rz1, z_m_add, z_of, r_0_0, r_0_1, r_0_3, r_0_4, r_0_5, r_0_6, r_0_7, r_0_8, r_0_9, r_0_10, r_1_0, r_1_1, r_1_2, r_1_3, r_1_4, r_1_5, r_1_6, r_1_7, r_1_8, r_2_0, r_2_1, r_2_2, r_2_3, r_2_4, r_2_5, r_2_6, r_2_7, r_11_0, r_11_1, r_11_2, r_11_3, r_11_4, r_11_5, r_11_6, r_19_0, r_21_0, r_23_0, r_25_0, r_27_0, r_31_0, r_31_1, r_31_2, r_31_3, r_31_4, r_31_5, r_31_6, r_31_7, r_31_8, r_32_0, r_32_1, r_32_2, r_32_3, r_32_4, r_32_5, r_32_6, r_32_7, r_41_0, r_41_1, r_41_2, r_41_3, r_41_4, r_41_5, r_41_6, r_49_0, r_51_0, r_53_0, r_55_0, r_57_0, r_61_0, r_63_0, r_63_1, r_63_2, r_63_3, r_63_4, r_63_5, r_63_6, r_63_7, r_72_0, r_72_1, r_72_2, r_72_3, r_72_4, r_72_5, r_72_6, r_72_7, r_81_0, r_81_1, r_81_2, r_81_3, r_81_4, r_81_5, r_81_6, r_81_7, r_90_0, r_90_1, r_90_2, r_90_3, r_90_4, r_90_5, r_90_6, r_90_7, r_99_0, r_99_1, r_99_2, r_99_3, r_99_4, r_99_5, r_99_6, r_99_7, r_108_0, r_108_1, r_108_2, r_108_3, r_108_4, r_108_5, r_108_6, r_108_7, r_117_0, r_117_1, r_117_2, r_117_3, r_117_4, r_117_5, r_117_6, r_117_7, r_126_0, r_126_1, r_126_2, r_126_3, r_126_4, r_132_0, r_132_1, r_135_0, r_135_1, r_135_2, r_135_3, r_135_4, r_135_5, r_142_0, r_144_0, r_144_1, r_144_2, r_145_0, r_145_1, r_145_2, r_145_3, r_145_4, r_145_5, r_145_6, r_154_0, r_154_1, r_155_0, r_157_0, r_157_1, r_157_2, r_157_3, r_157_6, r_157_7, r_157_8, r_157_9, r_157_10, r_157_11, r_157_27, r_157_28, r_157_29, r_157_30, ↓z_m1, l_0, l_1, l_2, l_3, l_4, l_5, l_6, l_7, l_8, l_9, l_10, l_11, l_12, l_13, l_14, l_15, l_16, l_17, l_18, l_19, l_20, l_21, l_22, l_23, l_24, l_25, l_26, l_27, l_28, l_29, l_30, l_31, l_32, l_33, l_34, l_35, l_36, l_37, l_38, l_39, l_40, l_41, l_42, l_43, l_44, l_45, l_46, l_47, l_48, l_49, l_50, l_51, l_52, l_53, l_54, l_55, l_56, l_57, l_59, l_60, l_61, l_62, l_63, l_64, l_65, l_80, l_86, l_87, l_88, l_89, l_90, l_91, l_92, l_93, l_94, l_95, l_97, l_99, l_100, l_107, l_119, l_122, l_124, l_129, l_140, l_141, l_142, l_143, l_144, l_145, l_147, l_150, l_159, l_160, l_161, l_162, l_205, l_253, l_255, l_256, l_269, l_305, l_380, l_399, l_400, l_420, l_430, l_516, l_600, l_720, l_820, l_905, l_921, l_937, l_953, l_970, l_999, l_1000, l_1790, l_4096, l_9999, l_1000000]
theorem c_rel_L {N ex iw r : Nat} {ic : Bool} (hr : 1 ≤ r) (hr7 : r ≤ 7) : ∀ (W : List Nat) (O : List (Nat × Nat)) (f : Nat) (σ : q_Sto), W.length < f → W.length + O.length ≤ 400 → zl_D σ N W O ex iw ic →
    ∃ σ', zl_fL N σ σ' ∧ zl_D σ' N (zl_rel r W O).1 (zl_rel r W O).2 ex iw ic ∧ f_X3_release_L0 q_F 144 (nI r) f σ = some (nI 0, σ')
  | [], O, f, σ, hf, hl, h => by
    obtain ⟨f, rfl⟩ : ∃ f', f = f' + 1 := ⟨f - 1, by omega⟩
    refine ⟨σ, zl_fL.refl N σ, h, ?_⟩
    have h3 : σ 144 3 = nI 0 := h.1
    rw [f_X3_release_L0]
    simp (disch := omega) only [h3, ↓reduceIte, ↓p_ld, ↓p_st, ↓p_nm, ↓p_nS, ↓p_jn, ↓p_call, ↓p_callv, ↓p_dv, ↓p_rem, h_ldE, h_stE, h_nmE, h_nSE, h_callE, h_callvE, h_dvE, h_remE, if_true, if_false, z_upS, z_upO, z_upK, nI_add, z_mul, z_sub, z_div, Nat.add_zero, Nat.mul_zero, Nat.zero_add, Nat.sub_zero, Nat.zero_mul, z_ltT, z_ltF, z_leT, z_leF, z_eqT, z_eqF, z_inT, z_clT, not_true_eq_false, not_false_eq_true, eq_self, true_or, or_true, z_m_lt, z_m_le, z_lt_m, z_le_m, z_eq_m, z_m_eq, z_rz0, z_rz1, z_m_add, z_of, r_0_0, r_0_1, r_0_3, r_0_4, r_0_5, r_0_6, r_0_7, r_0_8, r_0_9, r_0_10, r_1_0, r_1_1, r_1_2, r_1_3, r_1_4, r_1_5, r_1_6, r_1_7, r_1_8, r_2_0, r_2_1, r_2_2, r_2_3, r_2_4, r_2_5, r_2_6, r_2_7, r_11_0, r_11_1, r_11_2, r_11_3, r_11_4, r_11_5, r_11_6, r_19_0, r_21_0, r_23_0, r_25_0, r_27_0, r_31_0, r_31_1, r_31_2, r_31_3, r_31_4, r_31_5, r_31_6, r_31_7, r_31_8, r_32_0, r_32_1, r_32_2, r_32_3, r_32_4, r_32_5, r_32_6, r_32_7, r_41_0, r_41_1, r_41_2, r_41_3, r_41_4, r_41_5, r_41_6, r_49_0, r_51_0, r_53_0, r_55_0, r_57_0, r_61_0, r_63_0, r_63_1, r_63_2, r_63_3, r_63_4, r_63_5, r_63_6, r_63_7, r_72_0, r_72_1, r_72_2, r_72_3, r_72_4, r_72_5, r_72_6, r_72_7, r_81_0, r_81_1, r_81_2, r_81_3, r_81_4, r_81_5, r_81_6, r_81_7, r_90_0, r_90_1, r_90_2, r_90_3, r_90_4, r_90_5, r_90_6, r_90_7, r_99_0, r_99_1, r_99_2, r_99_3, r_99_4, r_99_5, r_99_6, r_99_7, r_108_0, r_108_1, r_108_2, r_108_3, r_108_4, r_108_5, r_108_6, r_108_7, r_117_0, r_117_1, r_117_2, r_117_3, r_117_4, r_117_5, r_117_6, r_117_7, r_126_0, r_126_1, r_126_2, r_126_3, r_126_4, r_132_0, r_132_1, r_135_0, r_135_1, r_135_2, r_135_3, r_135_4, r_135_5, r_142_0, r_144_0, r_144_1, r_144_2, r_145_0, r_145_1, r_145_2, r_145_3, r_145_4, r_145_5, r_145_6, r_154_0, r_154_1, r_155_0, r_157_0, r_157_1, r_157_2, r_157_3, r_157_6, r_157_7, r_157_8, r_157_9, r_157_10, r_157_11, r_157_27, r_157_28, r_157_29, r_157_30, ↓z_m1, l_0, l_1, l_2, l_3, l_4, l_5, l_6, l_7, l_8, l_9, l_10, l_11, l_12, l_13, l_14, l_15, l_16, l_17, l_18, l_19, l_20, l_21, l_22, l_23, l_24, l_25, l_26, l_27, l_28, l_29, l_30, l_31, l_32, l_33, l_34, l_35, l_36, l_37, l_38, l_39, l_40, l_41, l_42, l_43, l_44, l_45, l_46, l_47, l_48, l_49, l_50, l_51, l_52, l_53, l_54, l_55, l_56, l_57, l_59, l_60, l_61, l_62, l_63, l_64, l_65, l_80, l_86, l_87, l_88, l_89, l_90, l_91, l_92, l_93, l_94, l_95, l_97, l_99, l_100, l_107, l_119, l_122, l_124, l_129, l_140, l_141, l_142, l_143, l_144, l_145, l_147, l_150, l_159, l_160, l_161, l_162, l_205, l_253, l_255, l_256, l_269, l_305, l_380, l_399, l_400, l_420, l_430, l_516, l_600, l_720, l_820, l_905, l_921, l_937, l_953, l_970, l_999, l_1000, l_1790, l_4096, l_9999, l_1000000]
  | x :: W, O, f, σ, hf, hl, h => by
    obtain ⟨f, rfl⟩ : ∃ f', f = f' + 1 := ⟨f - 1, by omega⟩
    have hl' : W.length + 1 + O.length ≤ 400 := hl
    have hf' : W.length + 1 < f + 1 := hf
    obtain ⟨h3, hw, h4, h5, h6, h7, h8, hs, ho, hN, hwh⟩ := h
    have h3 : σ 144 3 = nI (W.length + 1) := h3
    obtain ⟨⟨w1, w2⟩, w3⟩ := hw
    have er := c_rank (n := q_F) (σ := σ) w2
    have er6 := zl_rk6 x
    have e : zl_rel r (x :: W) O = if r ≤ zl_rk x then zl_rel r W ((x, 0) :: O) else (x :: W, O) := rfl
    by_cases q : r ≤ zl_rk x
    · rw [e, if_pos q]
      have h12 := zl_rk0 (show 1 ≤ zl_rk x by omega)
      have hcb : zl_cb (x :: W) = zl_cb W := by
        show zl_cb W + (if x = 12 then 1 else 0) = _
        rw [if_neg h12, Nat.add_zero]
      rw [hcb] at h4
      by_cases q9 : x = 9
      · have hcn : zl_cn (x :: W) = zl_cn W + 1 := by
          show zl_cn W + (if x = 9 ∨ x = 12 then 1 else 0) = _
          rw [if_pos (Or.inl q9)]
        rw [hcn] at h5
        have hcnl : zl_cn W ≤ W.length := zl_cn_le W
        obtain ⟨σ', k1, k2, k3⟩ := c_rel_L (N := N) (ex := ex) (iw := iw) (ic := ic) hr hr7 W ((x, 0) :: O) f (q_up (q_up (q_up (q_up (q_up σ 144 3 (nI W.length)) 150 O.length (nI x)) 151 O.length (nI 0)) 145 7 (nI (O.length+1))) 144 5 (nI (zl_cn W))) (by omega) (by simp only [List.length_cons]; omega) ⟨by simp (disch := omega) only [↓reduceIte, ↓p_ld, ↓p_st, ↓p_nm, ↓p_nS, ↓p_jn, ↓p_call, ↓p_callv, ↓p_dv, ↓p_rem, h_ldE, h_stE, h_nmE, h_nSE, h_callE, h_callvE, h_dvE, h_remE, if_true, if_false, z_upS, z_upO, z_upK, nI_add, z_mul, z_sub, z_div, Nat.add_zero, Nat.mul_zero, Nat.zero_add, Nat.sub_zero, Nat.zero_mul, z_ltT, z_ltF, z_leT, z_leF, z_eqT, z_eqF, z_inT, z_clT, not_true_eq_false, not_false_eq_true, eq_self, true_or, or_true, z_m_lt, z_m_le, z_lt_m, z_le_m, z_eq_m, z_m_eq, z_rz0, z_rz1, z_m_add, z_of, ↓z_m1, l_0, l_1, l_2, l_3, l_4, l_5, l_6, l_7, l_8, l_9, l_10, l_11, l_12, l_13, l_14, l_15, l_16, l_17, l_18, l_19, l_20, l_21, l_22, l_23, l_24, l_25, l_26, l_27, l_28, l_29, l_30, l_31, l_32, l_33, l_34, l_35, l_36, l_37, l_38, l_39, l_40, l_41, l_42, l_43, l_44, l_45, l_46, l_47, l_48, l_49, l_50, l_51, l_52, l_53, l_54, l_55, l_56, l_57, l_59, l_60, l_61, l_62, l_63, l_64, l_65, l_80, l_86, l_87, l_88, l_89, l_90, l_91, l_92, l_93, l_94, l_95, l_97, l_99, l_100, l_107, l_119, l_122, l_124, l_129, l_140, l_141, l_142, l_143, l_144, l_145, l_147, l_150, l_159, l_160, l_161, l_162, l_205, l_253, l_255, l_256, l_269, l_305, l_380, l_399, l_400, l_420, l_430, l_516, l_600, l_720, l_820, l_905, l_921, l_937, l_953, l_970, l_999, l_1000, l_1790, l_4096, l_9999, l_1000000], by rw [z_upO (by omega), z_upO (by omega), z_upO (by omega), z_upO (by omega), z_upO (by omega)]; exact w3, by simp (disch := omega) only [h4, ↓reduceIte, ↓p_ld, ↓p_st, ↓p_nm, ↓p_nS, ↓p_jn, ↓p_call, ↓p_callv, ↓p_dv, ↓p_rem, h_ldE, h_stE, h_nmE, h_nSE, h_callE, h_callvE, h_dvE, h_remE, if_true, if_false, z_upS, z_upO, z_upK, nI_add, z_mul, z_sub, z_div, Nat.add_zero, Nat.mul_zero, Nat.zero_add, Nat.sub_zero, Nat.zero_mul, z_ltT, z_ltF, z_leT, z_leF, z_eqT, z_eqF, z_inT, z_clT, not_true_eq_false, not_false_eq_true, eq_self, true_or, or_true, z_m_lt, z_m_le, z_lt_m, z_le_m, z_eq_m, z_m_eq, z_rz0, z_rz1, z_m_add, z_of, ↓z_m1, l_0, l_1, l_2, l_3, l_4, l_5, l_6, l_7, l_8, l_9, l_10, l_11, l_12, l_13, l_14, l_15, l_16, l_17, l_18, l_19, l_20, l_21, l_22, l_23, l_24, l_25, l_26, l_27, l_28, l_29, l_30, l_31, l_32, l_33, l_34, l_35, l_36, l_37, l_38, l_39, l_40, l_41, l_42, l_43, l_44, l_45, l_46, l_47, l_48, l_49, l_50, l_51, l_52, l_53, l_54, l_55, l_56, l_57, l_59, l_60, l_61, l_62, l_63, l_64, l_65, l_80, l_86, l_87, l_88, l_89, l_90, l_91, l_92, l_93, l_94, l_95, l_97, l_99, l_100, l_107, l_119, l_122, l_124, l_129, l_140, l_141, l_142, l_143, l_144, l_145, l_147, l_150, l_159, l_160, l_161, l_162, l_205, l_253, l_255, l_256, l_269, l_305, l_380, l_399, l_400, l_420, l_430, l_516, l_600, l_720, l_820, l_905, l_921, l_937, l_953, l_970, l_999, l_1000, l_1790, l_4096, l_9999, l_1000000], z_upS, by simp (disch := omega) only [h6, ↓reduceIte, ↓p_ld, ↓p_st, ↓p_nm, ↓p_nS, ↓p_jn, ↓p_call, ↓p_callv, ↓p_dv, ↓p_rem, h_ldE, h_stE, h_nmE, h_nSE, h_callE, h_callvE, h_dvE, h_remE, if_true, if_false, z_upS, z_upO, z_upK, nI_add, z_mul, z_sub, z_div, Nat.add_zero, Nat.mul_zero, Nat.zero_add, Nat.sub_zero, Nat.zero_mul, z_ltT, z_ltF, z_leT, z_leF, z_eqT, z_eqF, z_inT, z_clT, not_true_eq_false, not_false_eq_true, eq_self, true_or, or_true, z_m_lt, z_m_le, z_lt_m, z_le_m, z_eq_m, z_m_eq, z_rz0, z_rz1, z_m_add, z_of, ↓z_m1, l_0, l_1, l_2, l_3, l_4, l_5, l_6, l_7, l_8, l_9, l_10, l_11, l_12, l_13, l_14, l_15, l_16, l_17, l_18, l_19, l_20, l_21, l_22, l_23, l_24, l_25, l_26, l_27, l_28, l_29, l_30, l_31, l_32, l_33, l_34, l_35, l_36, l_37, l_38, l_39, l_40, l_41, l_42, l_43, l_44, l_45, l_46, l_47, l_48, l_49, l_50, l_51, l_52, l_53, l_54, l_55, l_56, l_57, l_59, l_60, l_61, l_62, l_63, l_64, l_65, l_80, l_86, l_87, l_88, l_89, l_90, l_91, l_92, l_93, l_94, l_95, l_97, l_99, l_100, l_107, l_119, l_122, l_124, l_129, l_140, l_141, l_142, l_143, l_144, l_145, l_147, l_150, l_159, l_160, l_161, l_162, l_205, l_253, l_255, l_256, l_269, l_305, l_380, l_399, l_400, l_420, l_430, l_516, l_600, l_720, l_820, l_905, l_921, l_937, l_953, l_970, l_999, l_1000, l_1790, l_4096, l_9999, l_1000000], by simp (disch := omega) only [h7, ↓reduceIte, ↓p_ld, ↓p_st, ↓p_nm, ↓p_nS, ↓p_jn, ↓p_call, ↓p_callv, ↓p_dv, ↓p_rem, h_ldE, h_stE, h_nmE, h_nSE, h_callE, h_callvE, h_dvE, h_remE, if_true, if_false, z_upS, z_upO, z_upK, nI_add, z_mul, z_sub, z_div, Nat.add_zero, Nat.mul_zero, Nat.zero_add, Nat.sub_zero, Nat.zero_mul, z_ltT, z_ltF, z_leT, z_leF, z_eqT, z_eqF, z_inT, z_clT, not_true_eq_false, not_false_eq_true, eq_self, true_or, or_true, z_m_lt, z_m_le, z_lt_m, z_le_m, z_eq_m, z_m_eq, z_rz0, z_rz1, z_m_add, z_of, ↓z_m1, l_0, l_1, l_2, l_3, l_4, l_5, l_6, l_7, l_8, l_9, l_10, l_11, l_12, l_13, l_14, l_15, l_16, l_17, l_18, l_19, l_20, l_21, l_22, l_23, l_24, l_25, l_26, l_27, l_28, l_29, l_30, l_31, l_32, l_33, l_34, l_35, l_36, l_37, l_38, l_39, l_40, l_41, l_42, l_43, l_44, l_45, l_46, l_47, l_48, l_49, l_50, l_51, l_52, l_53, l_54, l_55, l_56, l_57, l_59, l_60, l_61, l_62, l_63, l_64, l_65, l_80, l_86, l_87, l_88, l_89, l_90, l_91, l_92, l_93, l_94, l_95, l_97, l_99, l_100, l_107, l_119, l_122, l_124, l_129, l_140, l_141, l_142, l_143, l_144, l_145, l_147, l_150, l_159, l_160, l_161, l_162, l_205, l_253, l_255, l_256, l_269, l_305, l_380, l_399, l_400, l_420, l_430, l_516, l_600, l_720, l_820, l_905, l_921, l_937, l_953, l_970, l_999, l_1000, l_1790, l_4096, l_9999, l_1000000], by rw [z_upK (by omega), z_upO (by omega), z_upO (by omega), z_upO (by omega), z_upK (by omega)]; exact h8, by simp (disch := omega) only [List.length_cons, ↓reduceIte, ↓p_ld, ↓p_st, ↓p_nm, ↓p_nS, ↓p_jn, ↓p_call, ↓p_callv, ↓p_dv, ↓p_rem, h_ldE, h_stE, h_nmE, h_nSE, h_callE, h_callvE, h_dvE, h_remE, if_true, if_false, z_upS, z_upO, z_upK, nI_add, z_mul, z_sub, z_div, Nat.add_zero, Nat.mul_zero, Nat.zero_add, Nat.sub_zero, Nat.zero_mul, z_ltT, z_ltF, z_leT, z_leF, z_eqT, z_eqF, z_inT, z_clT, not_true_eq_false, not_false_eq_true, eq_self, true_or, or_true, z_m_lt, z_m_le, z_lt_m, z_le_m, z_eq_m, z_m_eq, z_rz0, z_rz1, z_m_add, z_of, ↓z_m1, l_0, l_1, l_2, l_3, l_4, l_5, l_6, l_7, l_8, l_9, l_10, l_11, l_12, l_13, l_14, l_15, l_16, l_17, l_18, l_19, l_20, l_21, l_22, l_23, l_24, l_25, l_26, l_27, l_28, l_29, l_30, l_31, l_32, l_33, l_34, l_35, l_36, l_37, l_38, l_39, l_40, l_41, l_42, l_43, l_44, l_45, l_46, l_47, l_48, l_49, l_50, l_51, l_52, l_53, l_54, l_55, l_56, l_57, l_59, l_60, l_61, l_62, l_63, l_64, l_65, l_80, l_86, l_87, l_88, l_89, l_90, l_91, l_92, l_93, l_94, l_95, l_97, l_99, l_100, l_107, l_119, l_122, l_124, l_129, l_140, l_141, l_142, l_143, l_144, l_145, l_147, l_150, l_159, l_160, l_161, l_162, l_205, l_253, l_255, l_256, l_269, l_305, l_380, l_399, l_400, l_420, l_430, l_516, l_600, l_720, l_820, l_905, l_921, l_937, l_953, l_970, l_999, l_1000, l_1790, l_4096, l_9999, l_1000000], ⟨⟨by simp (disch := omega) only [↓reduceIte, ↓p_ld, ↓p_st, ↓p_nm, ↓p_nS, ↓p_jn, ↓p_call, ↓p_callv, ↓p_dv, ↓p_rem, h_ldE, h_stE, h_nmE, h_nSE, h_callE, h_callvE, h_dvE, h_remE, if_true, if_false, z_upS, z_upO, z_upK, nI_add, z_mul, z_sub, z_div, Nat.add_zero, Nat.mul_zero, Nat.zero_add, Nat.sub_zero, Nat.zero_mul, z_ltT, z_ltF, z_leT, z_leF, z_eqT, z_eqF, z_inT, z_clT, not_true_eq_false, not_false_eq_true, eq_self, true_or, or_true, z_m_lt, z_m_le, z_lt_m, z_le_m, z_eq_m, z_m_eq, z_rz0, z_rz1, z_m_add, z_of, ↓z_m1, l_0, l_1, l_2, l_3, l_4, l_5, l_6, l_7, l_8, l_9, l_10, l_11, l_12, l_13, l_14, l_15, l_16, l_17, l_18, l_19, l_20, l_21, l_22, l_23, l_24, l_25, l_26, l_27, l_28, l_29, l_30, l_31, l_32, l_33, l_34, l_35, l_36, l_37, l_38, l_39, l_40, l_41, l_42, l_43, l_44, l_45, l_46, l_47, l_48, l_49, l_50, l_51, l_52, l_53, l_54, l_55, l_56, l_57, l_59, l_60, l_61, l_62, l_63, l_64, l_65, l_80, l_86, l_87, l_88, l_89, l_90, l_91, l_92, l_93, l_94, l_95, l_97, l_99, l_100, l_107, l_119, l_122, l_124, l_129, l_140, l_141, l_142, l_143, l_144, l_145, l_147, l_150, l_159, l_160, l_161, l_162, l_205, l_253, l_255, l_256, l_269, l_305, l_380, l_399, l_400, l_420, l_430, l_516, l_600, l_720, l_820, l_905, l_921, l_937, l_953, l_970, l_999, l_1000, l_1790, l_4096, l_9999, l_1000000], by simp (disch := omega) only [↓reduceIte, ↓p_ld, ↓p_st, ↓p_nm, ↓p_nS, ↓p_jn, ↓p_call, ↓p_callv, ↓p_dv, ↓p_rem, h_ldE, h_stE, h_nmE, h_nSE, h_callE, h_callvE, h_dvE, h_remE, if_true, if_false, z_upS, z_upO, z_upK, nI_add, z_mul, z_sub, z_div, Nat.add_zero, Nat.mul_zero, Nat.zero_add, Nat.sub_zero, Nat.zero_mul, z_ltT, z_ltF, z_leT, z_leF, z_eqT, z_eqF, z_inT, z_clT, not_true_eq_false, not_false_eq_true, eq_self, true_or, or_true, z_m_lt, z_m_le, z_lt_m, z_le_m, z_eq_m, z_m_eq, z_rz0, z_rz1, z_m_add, z_of, ↓z_m1, l_0, l_1, l_2, l_3, l_4, l_5, l_6, l_7, l_8, l_9, l_10, l_11, l_12, l_13, l_14, l_15, l_16, l_17, l_18, l_19, l_20, l_21, l_22, l_23, l_24, l_25, l_26, l_27, l_28, l_29, l_30, l_31, l_32, l_33, l_34, l_35, l_36, l_37, l_38, l_39, l_40, l_41, l_42, l_43, l_44, l_45, l_46, l_47, l_48, l_49, l_50, l_51, l_52, l_53, l_54, l_55, l_56, l_57, l_59, l_60, l_61, l_62, l_63, l_64, l_65, l_80, l_86, l_87, l_88, l_89, l_90, l_91, l_92, l_93, l_94, l_95, l_97, l_99, l_100, l_107, l_119, l_122, l_124, l_129, l_140, l_141, l_142, l_143, l_144, l_145, l_147, l_150, l_159, l_160, l_161, l_162, l_205, l_253, l_255, l_256, l_269, l_305, l_380, l_399, l_400, l_420, l_430, l_516, l_600, l_720, l_820, l_905, l_921, l_937, l_953, l_970, l_999, l_1000, l_1790, l_4096, l_9999, l_1000000]⟩, zl_ot_up ho (fun i hi => ⟨by simp (disch := omega) only [↓reduceIte, ↓p_ld, ↓p_st, ↓p_nm, ↓p_nS, ↓p_jn, ↓p_call, ↓p_callv, ↓p_dv, ↓p_rem, h_ldE, h_stE, h_nmE, h_nSE, h_callE, h_callvE, h_dvE, h_remE, if_true, if_false, z_upS, z_upO, z_upK, nI_add, z_mul, z_sub, z_div, Nat.add_zero, Nat.mul_zero, Nat.zero_add, Nat.sub_zero, Nat.zero_mul, z_ltT, z_ltF, z_leT, z_leF, z_eqT, z_eqF, z_inT, z_clT, not_true_eq_false, not_false_eq_true, eq_self, true_or, or_true, z_m_lt, z_m_le, z_lt_m, z_le_m, z_eq_m, z_m_eq, z_rz0, z_rz1, z_m_add, z_of, ↓z_m1, l_0, l_1, l_2, l_3, l_4, l_5, l_6, l_7, l_8, l_9, l_10, l_11, l_12, l_13, l_14, l_15, l_16, l_17, l_18, l_19, l_20, l_21, l_22, l_23, l_24, l_25, l_26, l_27, l_28, l_29, l_30, l_31, l_32, l_33, l_34, l_35, l_36, l_37, l_38, l_39, l_40, l_41, l_42, l_43, l_44, l_45, l_46, l_47, l_48, l_49, l_50, l_51, l_52, l_53, l_54, l_55, l_56, l_57, l_59, l_60, l_61, l_62, l_63, l_64, l_65, l_80, l_86, l_87, l_88, l_89, l_90, l_91, l_92, l_93, l_94, l_95, l_97, l_99, l_100, l_107, l_119, l_122, l_124, l_129, l_140, l_141, l_142, l_143, l_144, l_145, l_147, l_150, l_159, l_160, l_161, l_162, l_205, l_253, l_255, l_256, l_269, l_305, l_380, l_399, l_400, l_420, l_430, l_516, l_600, l_720, l_820, l_905, l_921, l_937, l_953, l_970, l_999, l_1000, l_1790, l_4096, l_9999, l_1000000], by simp (disch := omega) only [↓reduceIte, ↓p_ld, ↓p_st, ↓p_nm, ↓p_nS, ↓p_jn, ↓p_call, ↓p_callv, ↓p_dv, ↓p_rem, h_ldE, h_stE, h_nmE, h_nSE, h_callE, h_callvE, h_dvE, h_remE, if_true, if_false, z_upS, z_upO, z_upK, nI_add, z_mul, z_sub, z_div, Nat.add_zero, Nat.mul_zero, Nat.zero_add, Nat.sub_zero, Nat.zero_mul, z_ltT, z_ltF, z_leT, z_leF, z_eqT, z_eqF, z_inT, z_clT, not_true_eq_false, not_false_eq_true, eq_self, true_or, or_true, z_m_lt, z_m_le, z_lt_m, z_le_m, z_eq_m, z_m_eq, z_rz0, z_rz1, z_m_add, z_of, ↓z_m1, l_0, l_1, l_2, l_3, l_4, l_5, l_6, l_7, l_8, l_9, l_10, l_11, l_12, l_13, l_14, l_15, l_16, l_17, l_18, l_19, l_20, l_21, l_22, l_23, l_24, l_25, l_26, l_27, l_28, l_29, l_30, l_31, l_32, l_33, l_34, l_35, l_36, l_37, l_38, l_39, l_40, l_41, l_42, l_43, l_44, l_45, l_46, l_47, l_48, l_49, l_50, l_51, l_52, l_53, l_54, l_55, l_56, l_57, l_59, l_60, l_61, l_62, l_63, l_64, l_65, l_80, l_86, l_87, l_88, l_89, l_90, l_91, l_92, l_93, l_94, l_95, l_97, l_99, l_100, l_107, l_119, l_122, l_124, l_129, l_140, l_141, l_142, l_143, l_144, l_145, l_147, l_150, l_159, l_160, l_161, l_162, l_205, l_253, l_255, l_256, l_269, l_305, l_380, l_399, l_400, l_420, l_430, l_516, l_600, l_720, l_820, l_905, l_921, l_937, l_953, l_970, l_999, l_1000, l_1790, l_4096, l_9999, l_1000000]⟩)⟩, by simp (disch := omega) only [hN, ↓reduceIte, ↓p_ld, ↓p_st, ↓p_nm, ↓p_nS, ↓p_jn, ↓p_call, ↓p_callv, ↓p_dv, ↓p_rem, h_ldE, h_stE, h_nmE, h_nSE, h_callE, h_callvE, h_dvE, h_remE, if_true, if_false, z_upS, z_upO, z_upK, nI_add, z_mul, z_sub, z_div, Nat.add_zero, Nat.mul_zero, Nat.zero_add, Nat.sub_zero, Nat.zero_mul, z_ltT, z_ltF, z_leT, z_leF, z_eqT, z_eqF, z_inT, z_clT, not_true_eq_false, not_false_eq_true, eq_self, true_or, or_true, z_m_lt, z_m_le, z_lt_m, z_le_m, z_eq_m, z_m_eq, z_rz0, z_rz1, z_m_add, z_of, ↓z_m1, l_0, l_1, l_2, l_3, l_4, l_5, l_6, l_7, l_8, l_9, l_10, l_11, l_12, l_13, l_14, l_15, l_16, l_17, l_18, l_19, l_20, l_21, l_22, l_23, l_24, l_25, l_26, l_27, l_28, l_29, l_30, l_31, l_32, l_33, l_34, l_35, l_36, l_37, l_38, l_39, l_40, l_41, l_42, l_43, l_44, l_45, l_46, l_47, l_48, l_49, l_50, l_51, l_52, l_53, l_54, l_55, l_56, l_57, l_59, l_60, l_61, l_62, l_63, l_64, l_65, l_80, l_86, l_87, l_88, l_89, l_90, l_91, l_92, l_93, l_94, l_95, l_97, l_99, l_100, l_107, l_119, l_122, l_124, l_129, l_140, l_141, l_142, l_143, l_144, l_145, l_147, l_150, l_159, l_160, l_161, l_162, l_205, l_253, l_255, l_256, l_269, l_305, l_380, l_399, l_400, l_420, l_430, l_516, l_600, l_720, l_820, l_905, l_921, l_937, l_953, l_970, l_999, l_1000, l_1790, l_4096, l_9999, l_1000000], by rw [z_upO (by omega), z_upO (by omega), z_upO (by omega), z_upO (by omega), z_upO (by omega)]; exact hwh⟩
        refine ⟨σ', ⟨fun o o1 o2 o3 o4 o5 o6 => by rw [k1.1 o o1 o2 o3 o4 o5 o6, z_upO o1, z_upO o2, z_upO o5, z_upO o4, z_upO o1], fun i hi => by rw [k1.2 i hi, z_upO (by omega), z_upO (by omega), z_upO (by omega), z_upO (by omega), z_upO (by omega)]⟩, k2, ?_⟩
        have ee := c_emit (n := q_F) (m := O.length) (x := x) (v := 0) (σ := q_up σ 144 3 (nI W.length)) (by rw [z_upO (by omega)]; exact hs) (by omega)
        subst q9
        rw [← k3, f_X3_release_L0]
        generalize W.length = w at *
        generalize O.length = o at *
        generalize zl_rk 9 = rk at *
        generalize zl_cn W = cn at *
        simp (disch := omega) only [h3, w1, er, ee, h5, Nat.add_sub_cancel, ↓reduceIte, ↓p_ld, ↓p_st, ↓p_nm, ↓p_nS, ↓p_jn, ↓p_call, ↓p_callv, ↓p_dv, ↓p_rem, h_ldE, h_stE, h_nmE, h_nSE, h_callE, h_callvE, h_dvE, h_remE, if_true, if_false, z_upS, z_upO, z_upK, nI_add, z_mul, z_sub, z_div, Nat.add_zero, Nat.mul_zero, Nat.zero_add, Nat.sub_zero, Nat.zero_mul, z_ltT, z_ltF, z_leT, z_leF, z_eqT, z_eqF, z_inT, z_clT, not_true_eq_false, not_false_eq_true, eq_self, true_or, or_true, z_m_lt, z_m_le, z_lt_m, z_le_m, z_eq_m, z_m_eq, z_rz0, z_rz1, z_m_add, z_of, r_0_0, r_0_1, r_0_3, r_0_4, r_0_5, r_0_6, r_0_7, r_0_8, r_0_9, r_0_10, r_1_0, r_1_1, r_1_2, r_1_3, r_1_4, r_1_5, r_1_6, r_1_7, r_1_8, r_2_0, r_2_1, r_2_2, r_2_3, r_2_4, r_2_5, r_2_6, r_2_7, r_11_0, r_11_1, r_11_2, r_11_3, r_11_4, r_11_5, r_11_6, r_19_0, r_21_0, r_23_0, r_25_0, r_27_0, r_31_0, r_31_1, r_31_2, r_31_3, r_31_4, r_31_5, r_31_6, r_31_7, r_31_8, r_32_0, r_32_1, r_32_2, r_32_3, r_32_4, r_32_5, r_32_6, r_32_7, r_41_0, r_41_1, r_41_2, r_41_3, r_41_4, r_41_5, r_41_6, r_49_0, r_51_0, r_53_0, r_55_0, r_57_0, r_61_0, r_63_0, r_63_1, r_63_2, r_63_3, r_63_4, r_63_5, r_63_6, r_63_7, r_72_0, r_72_1, r_72_2, r_72_3, r_72_4, r_72_5, r_72_6, r_72_7, r_81_0, r_81_1, r_81_2, r_81_3, r_81_4, r_81_5, r_81_6, r_81_7, r_90_0, r_90_1, r_90_2, r_90_3, r_90_4, r_90_5, r_90_6, r_90_7, r_99_0, r_99_1, r_99_2, r_99_3, r_99_4, r_99_5, r_99_6, r_99_7, r_108_0, r_108_1, r_108_2, r_108_3, r_108_4, r_108_5, r_108_6, r_108_7, r_117_0, r_117_1, r_117_2, r_117_3, r_117_4, r_117_5, r_117_6, r_117_7, r_126_0, r_126_1, r_126_2, r_126_3, r_126_4, r_132_0, r_132_1, r_135_0, r_135_1, r_135_2, r_135_3, r_135_4, r_135_5, r_142_0, r_144_0, r_144_1, r_144_2, r_145_0, r_145_1, r_145_2, r_145_3, r_145_4, r_145_5, r_145_6, r_154_0, r_154_1, r_155_0, r_157_0, r_157_1, r_157_2, r_157_3, r_157_6, r_157_7, r_157_8, r_157_9, r_157_10, r_157_11, r_157_27, r_157_28, r_157_29, r_157_30, ↓z_m1, l_0, l_1, l_2, l_3, l_4, l_5, l_6, l_7, l_8, l_9, l_10, l_11, l_12, l_13, l_14, l_15, l_16, l_17, l_18, l_19, l_20, l_21, l_22, l_23, l_24, l_25, l_26, l_27, l_28, l_29, l_30, l_31, l_32, l_33, l_34, l_35, l_36, l_37, l_38, l_39, l_40, l_41, l_42, l_43, l_44, l_45, l_46, l_47, l_48, l_49, l_50, l_51, l_52, l_53, l_54, l_55, l_56, l_57, l_59, l_60, l_61, l_62, l_63, l_64, l_65, l_80, l_86, l_87, l_88, l_89, l_90, l_91, l_92, l_93, l_94, l_95, l_97, l_99, l_100, l_107, l_119, l_122, l_124, l_129, l_140, l_141, l_142, l_143, l_144, l_145, l_147, l_150, l_159, l_160, l_161, l_162, l_205, l_253, l_255, l_256, l_269, l_305, l_380, l_399, l_400, l_420, l_430, l_516, l_600, l_720, l_820, l_905, l_921, l_937, l_953, l_970, l_999, l_1000, l_1790, l_4096, l_9999, l_1000000]
      · have hcn : zl_cn (x :: W) = zl_cn W := by
          show zl_cn W + (if x = 9 ∨ x = 12 then 1 else 0) = _
          rw [if_neg (by omega), Nat.add_zero]
        rw [hcn] at h5
        obtain ⟨σ', k1, k2, k3⟩ := c_rel_L (N := N) (ex := ex) (iw := iw) (ic := ic) hr hr7 W ((x, 0) :: O) f (q_up (q_up (q_up (q_up σ 144 3 (nI W.length)) 150 O.length (nI x)) 151 O.length (nI 0)) 145 7 (nI (O.length+1))) (by omega) (by simp only [List.length_cons]; omega) ⟨by simp (disch := omega) only [↓reduceIte, ↓p_ld, ↓p_st, ↓p_nm, ↓p_nS, ↓p_jn, ↓p_call, ↓p_callv, ↓p_dv, ↓p_rem, h_ldE, h_stE, h_nmE, h_nSE, h_callE, h_callvE, h_dvE, h_remE, if_true, if_false, z_upS, z_upO, z_upK, nI_add, z_mul, z_sub, z_div, Nat.add_zero, Nat.mul_zero, Nat.zero_add, Nat.sub_zero, Nat.zero_mul, z_ltT, z_ltF, z_leT, z_leF, z_eqT, z_eqF, z_inT, z_clT, not_true_eq_false, not_false_eq_true, eq_self, true_or, or_true, z_m_lt, z_m_le, z_lt_m, z_le_m, z_eq_m, z_m_eq, z_rz0, z_rz1, z_m_add, z_of, ↓z_m1, l_0, l_1, l_2, l_3, l_4, l_5, l_6, l_7, l_8, l_9, l_10, l_11, l_12, l_13, l_14, l_15, l_16, l_17, l_18, l_19, l_20, l_21, l_22, l_23, l_24, l_25, l_26, l_27, l_28, l_29, l_30, l_31, l_32, l_33, l_34, l_35, l_36, l_37, l_38, l_39, l_40, l_41, l_42, l_43, l_44, l_45, l_46, l_47, l_48, l_49, l_50, l_51, l_52, l_53, l_54, l_55, l_56, l_57, l_59, l_60, l_61, l_62, l_63, l_64, l_65, l_80, l_86, l_87, l_88, l_89, l_90, l_91, l_92, l_93, l_94, l_95, l_97, l_99, l_100, l_107, l_119, l_122, l_124, l_129, l_140, l_141, l_142, l_143, l_144, l_145, l_147, l_150, l_159, l_160, l_161, l_162, l_205, l_253, l_255, l_256, l_269, l_305, l_380, l_399, l_400, l_420, l_430, l_516, l_600, l_720, l_820, l_905, l_921, l_937, l_953, l_970, l_999, l_1000, l_1790, l_4096, l_9999, l_1000000], by rw [z_upO (by omega), z_upO (by omega), z_upO (by omega), z_upO (by omega)]; exact w3, by simp (disch := omega) only [h4, ↓reduceIte, ↓p_ld, ↓p_st, ↓p_nm, ↓p_nS, ↓p_jn, ↓p_call, ↓p_callv, ↓p_dv, ↓p_rem, h_ldE, h_stE, h_nmE, h_nSE, h_callE, h_callvE, h_dvE, h_remE, if_true, if_false, z_upS, z_upO, z_upK, nI_add, z_mul, z_sub, z_div, Nat.add_zero, Nat.mul_zero, Nat.zero_add, Nat.sub_zero, Nat.zero_mul, z_ltT, z_ltF, z_leT, z_leF, z_eqT, z_eqF, z_inT, z_clT, not_true_eq_false, not_false_eq_true, eq_self, true_or, or_true, z_m_lt, z_m_le, z_lt_m, z_le_m, z_eq_m, z_m_eq, z_rz0, z_rz1, z_m_add, z_of, ↓z_m1, l_0, l_1, l_2, l_3, l_4, l_5, l_6, l_7, l_8, l_9, l_10, l_11, l_12, l_13, l_14, l_15, l_16, l_17, l_18, l_19, l_20, l_21, l_22, l_23, l_24, l_25, l_26, l_27, l_28, l_29, l_30, l_31, l_32, l_33, l_34, l_35, l_36, l_37, l_38, l_39, l_40, l_41, l_42, l_43, l_44, l_45, l_46, l_47, l_48, l_49, l_50, l_51, l_52, l_53, l_54, l_55, l_56, l_57, l_59, l_60, l_61, l_62, l_63, l_64, l_65, l_80, l_86, l_87, l_88, l_89, l_90, l_91, l_92, l_93, l_94, l_95, l_97, l_99, l_100, l_107, l_119, l_122, l_124, l_129, l_140, l_141, l_142, l_143, l_144, l_145, l_147, l_150, l_159, l_160, l_161, l_162, l_205, l_253, l_255, l_256, l_269, l_305, l_380, l_399, l_400, l_420, l_430, l_516, l_600, l_720, l_820, l_905, l_921, l_937, l_953, l_970, l_999, l_1000, l_1790, l_4096, l_9999, l_1000000], by simp (disch := omega) only [h5, ↓reduceIte, ↓p_ld, ↓p_st, ↓p_nm, ↓p_nS, ↓p_jn, ↓p_call, ↓p_callv, ↓p_dv, ↓p_rem, h_ldE, h_stE, h_nmE, h_nSE, h_callE, h_callvE, h_dvE, h_remE, if_true, if_false, z_upS, z_upO, z_upK, nI_add, z_mul, z_sub, z_div, Nat.add_zero, Nat.mul_zero, Nat.zero_add, Nat.sub_zero, Nat.zero_mul, z_ltT, z_ltF, z_leT, z_leF, z_eqT, z_eqF, z_inT, z_clT, not_true_eq_false, not_false_eq_true, eq_self, true_or, or_true, z_m_lt, z_m_le, z_lt_m, z_le_m, z_eq_m, z_m_eq, z_rz0, z_rz1, z_m_add, z_of, ↓z_m1, l_0, l_1, l_2, l_3, l_4, l_5, l_6, l_7, l_8, l_9, l_10, l_11, l_12, l_13, l_14, l_15, l_16, l_17, l_18, l_19, l_20, l_21, l_22, l_23, l_24, l_25, l_26, l_27, l_28, l_29, l_30, l_31, l_32, l_33, l_34, l_35, l_36, l_37, l_38, l_39, l_40, l_41, l_42, l_43, l_44, l_45, l_46, l_47, l_48, l_49, l_50, l_51, l_52, l_53, l_54, l_55, l_56, l_57, l_59, l_60, l_61, l_62, l_63, l_64, l_65, l_80, l_86, l_87, l_88, l_89, l_90, l_91, l_92, l_93, l_94, l_95, l_97, l_99, l_100, l_107, l_119, l_122, l_124, l_129, l_140, l_141, l_142, l_143, l_144, l_145, l_147, l_150, l_159, l_160, l_161, l_162, l_205, l_253, l_255, l_256, l_269, l_305, l_380, l_399, l_400, l_420, l_430, l_516, l_600, l_720, l_820, l_905, l_921, l_937, l_953, l_970, l_999, l_1000, l_1790, l_4096, l_9999, l_1000000], by simp (disch := omega) only [h6, ↓reduceIte, ↓p_ld, ↓p_st, ↓p_nm, ↓p_nS, ↓p_jn, ↓p_call, ↓p_callv, ↓p_dv, ↓p_rem, h_ldE, h_stE, h_nmE, h_nSE, h_callE, h_callvE, h_dvE, h_remE, if_true, if_false, z_upS, z_upO, z_upK, nI_add, z_mul, z_sub, z_div, Nat.add_zero, Nat.mul_zero, Nat.zero_add, Nat.sub_zero, Nat.zero_mul, z_ltT, z_ltF, z_leT, z_leF, z_eqT, z_eqF, z_inT, z_clT, not_true_eq_false, not_false_eq_true, eq_self, true_or, or_true, z_m_lt, z_m_le, z_lt_m, z_le_m, z_eq_m, z_m_eq, z_rz0, z_rz1, z_m_add, z_of, ↓z_m1, l_0, l_1, l_2, l_3, l_4, l_5, l_6, l_7, l_8, l_9, l_10, l_11, l_12, l_13, l_14, l_15, l_16, l_17, l_18, l_19, l_20, l_21, l_22, l_23, l_24, l_25, l_26, l_27, l_28, l_29, l_30, l_31, l_32, l_33, l_34, l_35, l_36, l_37, l_38, l_39, l_40, l_41, l_42, l_43, l_44, l_45, l_46, l_47, l_48, l_49, l_50, l_51, l_52, l_53, l_54, l_55, l_56, l_57, l_59, l_60, l_61, l_62, l_63, l_64, l_65, l_80, l_86, l_87, l_88, l_89, l_90, l_91, l_92, l_93, l_94, l_95, l_97, l_99, l_100, l_107, l_119, l_122, l_124, l_129, l_140, l_141, l_142, l_143, l_144, l_145, l_147, l_150, l_159, l_160, l_161, l_162, l_205, l_253, l_255, l_256, l_269, l_305, l_380, l_399, l_400, l_420, l_430, l_516, l_600, l_720, l_820, l_905, l_921, l_937, l_953, l_970, l_999, l_1000, l_1790, l_4096, l_9999, l_1000000], by simp (disch := omega) only [h7, ↓reduceIte, ↓p_ld, ↓p_st, ↓p_nm, ↓p_nS, ↓p_jn, ↓p_call, ↓p_callv, ↓p_dv, ↓p_rem, h_ldE, h_stE, h_nmE, h_nSE, h_callE, h_callvE, h_dvE, h_remE, if_true, if_false, z_upS, z_upO, z_upK, nI_add, z_mul, z_sub, z_div, Nat.add_zero, Nat.mul_zero, Nat.zero_add, Nat.sub_zero, Nat.zero_mul, z_ltT, z_ltF, z_leT, z_leF, z_eqT, z_eqF, z_inT, z_clT, not_true_eq_false, not_false_eq_true, eq_self, true_or, or_true, z_m_lt, z_m_le, z_lt_m, z_le_m, z_eq_m, z_m_eq, z_rz0, z_rz1, z_m_add, z_of, ↓z_m1, l_0, l_1, l_2, l_3, l_4, l_5, l_6, l_7, l_8, l_9, l_10, l_11, l_12, l_13, l_14, l_15, l_16, l_17, l_18, l_19, l_20, l_21, l_22, l_23, l_24, l_25, l_26, l_27, l_28, l_29, l_30, l_31, l_32, l_33, l_34, l_35, l_36, l_37, l_38, l_39, l_40, l_41, l_42, l_43, l_44, l_45, l_46, l_47, l_48, l_49, l_50, l_51, l_52, l_53, l_54, l_55, l_56, l_57, l_59, l_60, l_61, l_62, l_63, l_64, l_65, l_80, l_86, l_87, l_88, l_89, l_90, l_91, l_92, l_93, l_94, l_95, l_97, l_99, l_100, l_107, l_119, l_122, l_124, l_129, l_140, l_141, l_142, l_143, l_144, l_145, l_147, l_150, l_159, l_160, l_161, l_162, l_205, l_253, l_255, l_256, l_269, l_305, l_380, l_399, l_400, l_420, l_430, l_516, l_600, l_720, l_820, l_905, l_921, l_937, l_953, l_970, l_999, l_1000, l_1790, l_4096, l_9999, l_1000000], by rw [z_upO (by omega), z_upO (by omega), z_upO (by omega), z_upK (by omega)]; exact h8, by simp (disch := omega) only [List.length_cons, ↓reduceIte, ↓p_ld, ↓p_st, ↓p_nm, ↓p_nS, ↓p_jn, ↓p_call, ↓p_callv, ↓p_dv, ↓p_rem, h_ldE, h_stE, h_nmE, h_nSE, h_callE, h_callvE, h_dvE, h_remE, if_true, if_false, z_upS, z_upO, z_upK, nI_add, z_mul, z_sub, z_div, Nat.add_zero, Nat.mul_zero, Nat.zero_add, Nat.sub_zero, Nat.zero_mul, z_ltT, z_ltF, z_leT, z_leF, z_eqT, z_eqF, z_inT, z_clT, not_true_eq_false, not_false_eq_true, eq_self, true_or, or_true, z_m_lt, z_m_le, z_lt_m, z_le_m, z_eq_m, z_m_eq, z_rz0, z_rz1, z_m_add, z_of, ↓z_m1, l_0, l_1, l_2, l_3, l_4, l_5, l_6, l_7, l_8, l_9, l_10, l_11, l_12, l_13, l_14, l_15, l_16, l_17, l_18, l_19, l_20, l_21, l_22, l_23, l_24, l_25, l_26, l_27, l_28, l_29, l_30, l_31, l_32, l_33, l_34, l_35, l_36, l_37, l_38, l_39, l_40, l_41, l_42, l_43, l_44, l_45, l_46, l_47, l_48, l_49, l_50, l_51, l_52, l_53, l_54, l_55, l_56, l_57, l_59, l_60, l_61, l_62, l_63, l_64, l_65, l_80, l_86, l_87, l_88, l_89, l_90, l_91, l_92, l_93, l_94, l_95, l_97, l_99, l_100, l_107, l_119, l_122, l_124, l_129, l_140, l_141, l_142, l_143, l_144, l_145, l_147, l_150, l_159, l_160, l_161, l_162, l_205, l_253, l_255, l_256, l_269, l_305, l_380, l_399, l_400, l_420, l_430, l_516, l_600, l_720, l_820, l_905, l_921, l_937, l_953, l_970, l_999, l_1000, l_1790, l_4096, l_9999, l_1000000], ⟨⟨by simp (disch := omega) only [↓reduceIte, ↓p_ld, ↓p_st, ↓p_nm, ↓p_nS, ↓p_jn, ↓p_call, ↓p_callv, ↓p_dv, ↓p_rem, h_ldE, h_stE, h_nmE, h_nSE, h_callE, h_callvE, h_dvE, h_remE, if_true, if_false, z_upS, z_upO, z_upK, nI_add, z_mul, z_sub, z_div, Nat.add_zero, Nat.mul_zero, Nat.zero_add, Nat.sub_zero, Nat.zero_mul, z_ltT, z_ltF, z_leT, z_leF, z_eqT, z_eqF, z_inT, z_clT, not_true_eq_false, not_false_eq_true, eq_self, true_or, or_true, z_m_lt, z_m_le, z_lt_m, z_le_m, z_eq_m, z_m_eq, z_rz0, z_rz1, z_m_add, z_of, ↓z_m1, l_0, l_1, l_2, l_3, l_4, l_5, l_6, l_7, l_8, l_9, l_10, l_11, l_12, l_13, l_14, l_15, l_16, l_17, l_18, l_19, l_20, l_21, l_22, l_23, l_24, l_25, l_26, l_27, l_28, l_29, l_30, l_31, l_32, l_33, l_34, l_35, l_36, l_37, l_38, l_39, l_40, l_41, l_42, l_43, l_44, l_45, l_46, l_47, l_48, l_49, l_50, l_51, l_52, l_53, l_54, l_55, l_56, l_57, l_59, l_60, l_61, l_62, l_63, l_64, l_65, l_80, l_86, l_87, l_88, l_89, l_90, l_91, l_92, l_93, l_94, l_95, l_97, l_99, l_100, l_107, l_119, l_122, l_124, l_129, l_140, l_141, l_142, l_143, l_144, l_145, l_147, l_150, l_159, l_160, l_161, l_162, l_205, l_253, l_255, l_256, l_269, l_305, l_380, l_399, l_400, l_420, l_430, l_516, l_600, l_720, l_820, l_905, l_921, l_937, l_953, l_970, l_999, l_1000, l_1790, l_4096, l_9999, l_1000000], by simp (disch := omega) only [↓reduceIte, ↓p_ld, ↓p_st, ↓p_nm, ↓p_nS, ↓p_jn, ↓p_call, ↓p_callv, ↓p_dv, ↓p_rem, h_ldE, h_stE, h_nmE, h_nSE, h_callE, h_callvE, h_dvE, h_remE, if_true, if_false, z_upS, z_upO, z_upK, nI_add, z_mul, z_sub, z_div, Nat.add_zero, Nat.mul_zero, Nat.zero_add, Nat.sub_zero, Nat.zero_mul, z_ltT, z_ltF, z_leT, z_leF, z_eqT, z_eqF, z_inT, z_clT, not_true_eq_false, not_false_eq_true, eq_self, true_or, or_true, z_m_lt, z_m_le, z_lt_m, z_le_m, z_eq_m, z_m_eq, z_rz0, z_rz1, z_m_add, z_of, ↓z_m1, l_0, l_1, l_2, l_3, l_4, l_5, l_6, l_7, l_8, l_9, l_10, l_11, l_12, l_13, l_14, l_15, l_16, l_17, l_18, l_19, l_20, l_21, l_22, l_23, l_24, l_25, l_26, l_27, l_28, l_29, l_30, l_31, l_32, l_33, l_34, l_35, l_36, l_37, l_38, l_39, l_40, l_41, l_42, l_43, l_44, l_45, l_46, l_47, l_48, l_49, l_50, l_51, l_52, l_53, l_54, l_55, l_56, l_57, l_59, l_60, l_61, l_62, l_63, l_64, l_65, l_80, l_86, l_87, l_88, l_89, l_90, l_91, l_92, l_93, l_94, l_95, l_97, l_99, l_100, l_107, l_119, l_122, l_124, l_129, l_140, l_141, l_142, l_143, l_144, l_145, l_147, l_150, l_159, l_160, l_161, l_162, l_205, l_253, l_255, l_256, l_269, l_305, l_380, l_399, l_400, l_420, l_430, l_516, l_600, l_720, l_820, l_905, l_921, l_937, l_953, l_970, l_999, l_1000, l_1790, l_4096, l_9999, l_1000000]⟩, zl_ot_up ho (fun i hi => ⟨by simp (disch := omega) only [↓reduceIte, ↓p_ld, ↓p_st, ↓p_nm, ↓p_nS, ↓p_jn, ↓p_call, ↓p_callv, ↓p_dv, ↓p_rem, h_ldE, h_stE, h_nmE, h_nSE, h_callE, h_callvE, h_dvE, h_remE, if_true, if_false, z_upS, z_upO, z_upK, nI_add, z_mul, z_sub, z_div, Nat.add_zero, Nat.mul_zero, Nat.zero_add, Nat.sub_zero, Nat.zero_mul, z_ltT, z_ltF, z_leT, z_leF, z_eqT, z_eqF, z_inT, z_clT, not_true_eq_false, not_false_eq_true, eq_self, true_or, or_true, z_m_lt, z_m_le, z_lt_m, z_le_m, z_eq_m, z_m_eq, z_rz0, z_rz1, z_m_add, z_of, ↓z_m1, l_0, l_1, l_2, l_3, l_4, l_5, l_6, l_7, l_8, l_9, l_10, l_11, l_12, l_13, l_14, l_15, l_16, l_17, l_18, l_19, l_20, l_21, l_22, l_23, l_24, l_25, l_26, l_27, l_28, l_29, l_30, l_31, l_32, l_33, l_34, l_35, l_36, l_37, l_38, l_39, l_40, l_41, l_42, l_43, l_44, l_45, l_46, l_47, l_48, l_49, l_50, l_51, l_52, l_53, l_54, l_55, l_56, l_57, l_59, l_60, l_61, l_62, l_63, l_64, l_65, l_80, l_86, l_87, l_88, l_89, l_90, l_91, l_92, l_93, l_94, l_95, l_97, l_99, l_100, l_107, l_119, l_122, l_124, l_129, l_140, l_141, l_142, l_143, l_144, l_145, l_147, l_150, l_159, l_160, l_161, l_162, l_205, l_253, l_255, l_256, l_269, l_305, l_380, l_399, l_400, l_420, l_430, l_516, l_600, l_720, l_820, l_905, l_921, l_937, l_953, l_970, l_999, l_1000, l_1790, l_4096, l_9999, l_1000000], by simp (disch := omega) only [↓reduceIte, ↓p_ld, ↓p_st, ↓p_nm, ↓p_nS, ↓p_jn, ↓p_call, ↓p_callv, ↓p_dv, ↓p_rem, h_ldE, h_stE, h_nmE, h_nSE, h_callE, h_callvE, h_dvE, h_remE, if_true, if_false, z_upS, z_upO, z_upK, nI_add, z_mul, z_sub, z_div, Nat.add_zero, Nat.mul_zero, Nat.zero_add, Nat.sub_zero, Nat.zero_mul, z_ltT, z_ltF, z_leT, z_leF, z_eqT, z_eqF, z_inT, z_clT, not_true_eq_false, not_false_eq_true, eq_self, true_or, or_true, z_m_lt, z_m_le, z_lt_m, z_le_m, z_eq_m, z_m_eq, z_rz0, z_rz1, z_m_add, z_of, ↓z_m1, l_0, l_1, l_2, l_3, l_4, l_5, l_6, l_7, l_8, l_9, l_10, l_11, l_12, l_13, l_14, l_15, l_16, l_17, l_18, l_19, l_20, l_21, l_22, l_23, l_24, l_25, l_26, l_27, l_28, l_29, l_30, l_31, l_32, l_33, l_34, l_35, l_36, l_37, l_38, l_39, l_40, l_41, l_42, l_43, l_44, l_45, l_46, l_47, l_48, l_49, l_50, l_51, l_52, l_53, l_54, l_55, l_56, l_57, l_59, l_60, l_61, l_62, l_63, l_64, l_65, l_80, l_86, l_87, l_88, l_89, l_90, l_91, l_92, l_93, l_94, l_95, l_97, l_99, l_100, l_107, l_119, l_122, l_124, l_129, l_140, l_141, l_142, l_143, l_144, l_145, l_147, l_150, l_159, l_160, l_161, l_162, l_205, l_253, l_255, l_256, l_269, l_305, l_380, l_399, l_400, l_420, l_430, l_516, l_600, l_720, l_820, l_905, l_921, l_937, l_953, l_970, l_999, l_1000, l_1790, l_4096, l_9999, l_1000000]⟩)⟩, by simp (disch := omega) only [hN, ↓reduceIte, ↓p_ld, ↓p_st, ↓p_nm, ↓p_nS, ↓p_jn, ↓p_call, ↓p_callv, ↓p_dv, ↓p_rem, h_ldE, h_stE, h_nmE, h_nSE, h_callE, h_callvE, h_dvE, h_remE, if_true, if_false, z_upS, z_upO, z_upK, nI_add, z_mul, z_sub, z_div, Nat.add_zero, Nat.mul_zero, Nat.zero_add, Nat.sub_zero, Nat.zero_mul, z_ltT, z_ltF, z_leT, z_leF, z_eqT, z_eqF, z_inT, z_clT, not_true_eq_false, not_false_eq_true, eq_self, true_or, or_true, z_m_lt, z_m_le, z_lt_m, z_le_m, z_eq_m, z_m_eq, z_rz0, z_rz1, z_m_add, z_of, ↓z_m1, l_0, l_1, l_2, l_3, l_4, l_5, l_6, l_7, l_8, l_9, l_10, l_11, l_12, l_13, l_14, l_15, l_16, l_17, l_18, l_19, l_20, l_21, l_22, l_23, l_24, l_25, l_26, l_27, l_28, l_29, l_30, l_31, l_32, l_33, l_34, l_35, l_36, l_37, l_38, l_39, l_40, l_41, l_42, l_43, l_44, l_45, l_46, l_47, l_48, l_49, l_50, l_51, l_52, l_53, l_54, l_55, l_56, l_57, l_59, l_60, l_61, l_62, l_63, l_64, l_65, l_80, l_86, l_87, l_88, l_89, l_90, l_91, l_92, l_93, l_94, l_95, l_97, l_99, l_100, l_107, l_119, l_122, l_124, l_129, l_140, l_141, l_142, l_143, l_144, l_145, l_147, l_150, l_159, l_160, l_161, l_162, l_205, l_253, l_255, l_256, l_269, l_305, l_380, l_399, l_400, l_420, l_430, l_516, l_600, l_720, l_820, l_905, l_921, l_937, l_953, l_970, l_999, l_1000, l_1790, l_4096, l_9999, l_1000000], by rw [z_upO (by omega), z_upO (by omega), z_upO (by omega), z_upO (by omega)]; exact hwh⟩
        refine ⟨σ', ⟨fun o o1 o2 o3 o4 o5 o6 => by rw [k1.1 o o1 o2 o3 o4 o5 o6, z_upO o2, z_upO o5, z_upO o4, z_upO o1], fun i hi => by rw [k1.2 i hi, z_upO (by omega), z_upO (by omega), z_upO (by omega), z_upO (by omega)]⟩, k2, ?_⟩
        have ee := c_emit (n := q_F) (m := O.length) (x := x) (v := 0) (σ := q_up σ 144 3 (nI W.length)) (by rw [z_upO (by omega)]; exact hs) (by omega)
        rw [← k3, f_X3_release_L0]
        generalize W.length = w at *
        generalize O.length = o at *
        generalize zl_rk x = rk at *
        simp (disch := omega) only [h3, w1, er, ee, Nat.add_sub_cancel, ↓reduceIte, ↓p_ld, ↓p_st, ↓p_nm, ↓p_nS, ↓p_jn, ↓p_call, ↓p_callv, ↓p_dv, ↓p_rem, h_ldE, h_stE, h_nmE, h_nSE, h_callE, h_callvE, h_dvE, h_remE, if_true, if_false, z_upS, z_upO, z_upK, nI_add, z_mul, z_sub, z_div, Nat.add_zero, Nat.mul_zero, Nat.zero_add, Nat.sub_zero, Nat.zero_mul, z_ltT, z_ltF, z_leT, z_leF, z_eqT, z_eqF, z_inT, z_clT, not_true_eq_false, not_false_eq_true, eq_self, true_or, or_true, z_m_lt, z_m_le, z_lt_m, z_le_m, z_eq_m, z_m_eq, z_rz0, z_rz1, z_m_add, z_of, r_0_0, r_0_1, r_0_3, r_0_4, r_0_5, r_0_6, r_0_7, r_0_8, r_0_9, r_0_10, r_1_0, r_1_1, r_1_2, r_1_3, r_1_4, r_1_5, r_1_6, r_1_7, r_1_8, r_2_0, r_2_1, r_2_2, r_2_3, r_2_4, r_2_5, r_2_6, r_2_7, r_11_0, r_11_1, r_11_2, r_11_3, r_11_4, r_11_5, r_11_6, r_19_0, r_21_0, r_23_0, r_25_0, r_27_0, r_31_0, r_31_1, r_31_2, r_31_3, r_31_4, r_31_5, r_31_6, r_31_7, r_31_8, r_32_0, r_32_1, r_32_2, r_32_3, r_32_4, r_32_5, r_32_6, r_32_7, r_41_0, r_41_1, r_41_2, r_41_3, r_41_4, r_41_5, r_41_6, r_49_0, r_51_0, r_53_0, r_55_0, r_57_0, r_61_0, r_63_0, r_63_1, r_63_2, r_63_3, r_63_4, r_63_5, r_63_6, r_63_7, r_72_0, r_72_1, r_72_2, r_72_3, r_72_4, r_72_5, r_72_6, r_72_7, r_81_0, r_81_1, r_81_2, r_81_3, r_81_4, r_81_5, r_81_6, r_81_7, r_90_0, r_90_1, r_90_2, r_90_3, r_90_4, r_90_5, r_90_6, r_90_7, r_99_0, r_99_1, r_99_2, r_99_3, r_99_4, r_99_5, r_99_6, r_99_7, r_108_0, r_108_1, r_108_2, r_108_3, r_108_4, r_108_5, r_108_6, r_108_7, r_117_0, r_117_1, r_117_2, r_117_3, r_117_4, r_117_5, r_117_6, r_117_7, r_126_0, r_126_1, r_126_2, r_126_3, r_126_4, r_132_0, r_132_1, r_135_0, r_135_1, r_135_2, r_135_3, r_135_4, r_135_5, r_142_0, r_144_0, r_144_1, r_144_2, r_145_0, r_145_1, r_145_2, r_145_3, r_145_4, r_145_5, r_145_6, r_154_0, r_154_1, r_155_0, r_157_0, r_157_1, r_157_2, r_157_3, r_157_6, r_157_7, r_157_8, r_157_9, r_157_10, r_157_11, r_157_27, r_157_28, r_157_29, r_157_30, ↓z_m1, l_0, l_1, l_2, l_3, l_4, l_5, l_6, l_7, l_8, l_9, l_10, l_11, l_12, l_13, l_14, l_15, l_16, l_17, l_18, l_19, l_20, l_21, l_22, l_23, l_24, l_25, l_26, l_27, l_28, l_29, l_30, l_31, l_32, l_33, l_34, l_35, l_36, l_37, l_38, l_39, l_40, l_41, l_42, l_43, l_44, l_45, l_46, l_47, l_48, l_49, l_50, l_51, l_52, l_53, l_54, l_55, l_56, l_57, l_59, l_60, l_61, l_62, l_63, l_64, l_65, l_80, l_86, l_87, l_88, l_89, l_90, l_91, l_92, l_93, l_94, l_95, l_97, l_99, l_100, l_107, l_119, l_122, l_124, l_129, l_140, l_141, l_142, l_143, l_144, l_145, l_147, l_150, l_159, l_160, l_161, l_162, l_205, l_253, l_255, l_256, l_269, l_305, l_380, l_399, l_400, l_420, l_430, l_516, l_600, l_720, l_820, l_905, l_921, l_937, l_953, l_970, l_999, l_1000, l_1790, l_4096, l_9999, l_1000000]
    · rw [e, if_neg q]
      refine ⟨σ, zl_fL.refl N σ, ⟨h3, ⟨⟨w1, w2⟩, w3⟩, h4, h5, h6, h7, h8, hs, ho, hN, hwh⟩, ?_⟩
      rw [f_X3_release_L0]
      generalize W.length = w at *
      generalize zl_rk x = rk at *
      simp (disch := omega) only [h3, w1, er, Nat.add_sub_cancel, ↓reduceIte, ↓p_ld, ↓p_st, ↓p_nm, ↓p_nS, ↓p_jn, ↓p_call, ↓p_callv, ↓p_dv, ↓p_rem, h_ldE, h_stE, h_nmE, h_nSE, h_callE, h_callvE, h_dvE, h_remE, if_true, if_false, z_upS, z_upO, z_upK, nI_add, z_mul, z_sub, z_div, Nat.add_zero, Nat.mul_zero, Nat.zero_add, Nat.sub_zero, Nat.zero_mul, z_ltT, z_ltF, z_leT, z_leF, z_eqT, z_eqF, z_inT, z_clT, not_true_eq_false, not_false_eq_true, eq_self, true_or, or_true, z_m_lt, z_m_le, z_lt_m, z_le_m, z_eq_m, z_m_eq, z_rz0, z_rz1, z_m_add, z_of, r_0_0, r_0_1, r_0_3, r_0_4, r_0_5, r_0_6, r_0_7, r_0_8, r_0_9, r_0_10, r_1_0, r_1_1, r_1_2, r_1_3, r_1_4, r_1_5, r_1_6, r_1_7, r_1_8, r_2_0, r_2_1, r_2_2, r_2_3, r_2_4, r_2_5, r_2_6, r_2_7, r_11_0, r_11_1, r_11_2, r_11_3, r_11_4, r_11_5, r_11_6, r_19_0, r_21_0, r_23_0, r_25_0, r_27_0, r_31_0, r_31_1, r_31_2, r_31_3, r_31_4, r_31_5, r_31_6, r_31_7, r_31_8, r_32_0, r_32_1, r_32_2, r_32_3, r_32_4, r_32_5, r_32_6, r_32_7, r_41_0, r_41_1, r_41_2, r_41_3, r_41_4, r_41_5, r_41_6, r_49_0, r_51_0, r_53_0, r_55_0, r_57_0, r_61_0, r_63_0, r_63_1, r_63_2, r_63_3, r_63_4, r_63_5, r_63_6, r_63_7, r_72_0, r_72_1, r_72_2, r_72_3, r_72_4, r_72_5, r_72_6, r_72_7, r_81_0, r_81_1, r_81_2, r_81_3, r_81_4, r_81_5, r_81_6, r_81_7, r_90_0, r_90_1, r_90_2, r_90_3, r_90_4, r_90_5, r_90_6, r_90_7, r_99_0, r_99_1, r_99_2, r_99_3, r_99_4, r_99_5, r_99_6, r_99_7, r_108_0, r_108_1, r_108_2, r_108_3, r_108_4, r_108_5, r_108_6, r_108_7, r_117_0, r_117_1, r_117_2, r_117_3, r_117_4, r_117_5, r_117_6, r_117_7, r_126_0, r_126_1, r_126_2, r_126_3, r_126_4, r_132_0, r_132_1, r_135_0, r_135_1, r_135_2, r_135_3, r_135_4, r_135_5, r_142_0, r_144_0, r_144_1, r_144_2, r_145_0, r_145_1, r_145_2, r_145_3, r_145_4, r_145_5, r_145_6, r_154_0, r_154_1, r_155_0, r_157_0, r_157_1, r_157_2, r_157_3, r_157_6, r_157_7, r_157_8, r_157_9, r_157_10, r_157_11, r_157_27, r_157_28, r_157_29, r_157_30, ↓z_m1, l_0, l_1, l_2, l_3, l_4, l_5, l_6, l_7, l_8, l_9, l_10, l_11, l_12, l_13, l_14, l_15, l_16, l_17, l_18, l_19, l_20, l_21, l_22, l_23, l_24, l_25, l_26, l_27, l_28, l_29, l_30, l_31, l_32, l_33, l_34, l_35, l_36, l_37, l_38, l_39, l_40, l_41, l_42, l_43, l_44, l_45, l_46, l_47, l_48, l_49, l_50, l_51, l_52, l_53, l_54, l_55, l_56, l_57, l_59, l_60, l_61, l_62, l_63, l_64, l_65, l_80, l_86, l_87, l_88, l_89, l_90, l_91, l_92, l_93, l_94, l_95, l_97, l_99, l_100, l_107, l_119, l_122, l_124, l_129, l_140, l_141, l_142, l_143, l_144, l_145, l_147, l_150, l_159, l_160, l_161, l_162, l_205, l_253, l_255, l_256, l_269, l_305, l_380, l_399, l_400, l_420, l_430, l_516, l_600, l_720, l_820, l_905, l_921, l_937, l_953, l_970, l_999, l_1000, l_1790, l_4096, l_9999, l_1000000]
theorem c_rel {N ex iw r : Nat} {ic : Bool} {W : List Nat} {O : List (Nat × Nat)} {σ : q_Sto} (hr : 1 ≤ r) (hr7 : r ≤ 7) (hl : W.length + O.length ≤ 400) (h : zl_D σ N W O ex iw ic) :
    ∃ σ', zl_fL N σ σ' ∧ zl_D σ' N (zl_rel r W O).1 (zl_rel r W O).2 ex iw ic ∧ f_X3_release q_F 144 (nI r) σ = some (nI 0, σ') :=
  c_rel_L hr hr7 W O q_F σ (by unfold q_F; omega) hl h
theorem c_push {n x w : Nat} {σ : q_Sto} (h3 : σ 144 3 = nI w) (h : w < 400) : f_X3_push n 144 (nI x) σ = some (nI 0, q_up (q_up σ 153 w (nI x)) 144 3 (nI (w+1))) := by
  unfold f_X3_push
  simp (disch := omega) only [h3, ↓reduceIte, ↓p_ld, ↓p_st, ↓p_nm, ↓p_nS, ↓p_jn, ↓p_call, ↓p_callv, ↓p_dv, ↓p_rem, h_ldE, h_stE, h_nmE, h_nSE, h_callE, h_callvE, h_dvE, h_remE, if_true, if_false, z_upS, z_upO, z_upK, nI_add, z_mul, z_sub, z_div, Nat.add_zero, Nat.mul_zero, Nat.zero_add, Nat.sub_zero, Nat.zero_mul, z_ltT, z_ltF, z_leT, z_leF, z_eqT, z_eqF, z_inT, z_clT, not_true_eq_false, not_false_eq_true, eq_self, true_or, or_true, z_m_lt, z_m_le, z_lt_m, z_le_m, z_eq_m, z_m_eq, z_rz0, z_rz1, z_m_add, z_of, r_0_0, r_0_1, r_0_3, r_0_4, r_0_5, r_0_6, r_0_7, r_0_8, r_0_9, r_0_10, r_1_0, r_1_1, r_1_2, r_1_3, r_1_4, r_1_5, r_1_6, r_1_7, r_1_8, r_2_0, r_2_1, r_2_2, r_2_3, r_2_4, r_2_5, r_2_6, r_2_7, r_11_0, r_11_1, r_11_2, r_11_3, r_11_4, r_11_5, r_11_6, r_19_0, r_21_0, r_23_0, r_25_0, r_27_0, r_31_0, r_31_1, r_31_2, r_31_3, r_31_4, r_31_5, r_31_6, r_31_7, r_31_8, r_32_0, r_32_1, r_32_2, r_32_3, r_32_4, r_32_5, r_32_6, r_32_7, r_41_0, r_41_1, r_41_2, r_41_3, r_41_4, r_41_5, r_41_6, r_49_0, r_51_0, r_53_0, r_55_0, r_57_0, r_61_0, r_63_0, r_63_1, r_63_2, r_63_3, r_63_4, r_63_5, r_63_6, r_63_7, r_72_0, r_72_1, r_72_2, r_72_3, r_72_4, r_72_5, r_72_6, r_72_7, r_81_0, r_81_1, r_81_2, r_81_3, r_81_4, r_81_5, r_81_6, r_81_7, r_90_0, r_90_1, r_90_2, r_90_3, r_90_4, r_90_5, r_90_6, r_90_7, r_99_0, r_99_1, r_99_2, r_99_3, r_99_4, r_99_5, r_99_6, r_99_7, r_108_0, r_108_1, r_108_2, r_108_3, r_108_4, r_108_5, r_108_6, r_108_7, r_117_0, r_117_1, r_117_2, r_117_3, r_117_4, r_117_5, r_117_6, r_117_7, r_126_0, r_126_1, r_126_2, r_126_3, r_126_4, r_132_0, r_132_1, r_135_0, r_135_1, r_135_2, r_135_3, r_135_4, r_135_5, r_142_0, r_144_0, r_144_1, r_144_2, r_145_0, r_145_1, r_145_2, r_145_3, r_145_4, r_145_5, r_145_6, r_154_0, r_154_1, r_155_0, r_157_0, r_157_1, r_157_2, r_157_3, r_157_6, r_157_7, r_157_8, r_157_9, r_157_10, r_157_11, r_157_27, r_157_28, r_157_29, r_157_30, ↓z_m1, l_0, l_1, l_2, l_3, l_4, l_5, l_6, l_7, l_8, l_9, l_10, l_11, l_12, l_13, l_14, l_15, l_16, l_17, l_18, l_19, l_20, l_21, l_22, l_23, l_24, l_25, l_26, l_27, l_28, l_29, l_30, l_31, l_32, l_33, l_34, l_35, l_36, l_37, l_38, l_39, l_40, l_41, l_42, l_43, l_44, l_45, l_46, l_47, l_48, l_49, l_50, l_51, l_52, l_53, l_54, l_55, l_56, l_57, l_59, l_60, l_61, l_62, l_63, l_64, l_65, l_80, l_86, l_87, l_88, l_89, l_90, l_91, l_92, l_93, l_94, l_95, l_97, l_99, l_100, l_107, l_119, l_122, l_124, l_129, l_140, l_141, l_142, l_143, l_144, l_145, l_147, l_150, l_159, l_160, l_161, l_162, l_205, l_253, l_255, l_256, l_269, l_305, l_380, l_399, l_400, l_420, l_430, l_516, l_600, l_720, l_820, l_905, l_921, l_937, l_953, l_970, l_999, l_1000, l_1790, l_4096, l_9999, l_1000000]
/-- a sign joins those that wait -/
theorem c_join {N ex iw x ex' p : Nat} {ic : Bool} {T : zt_T} {W : List Nat} {O : List (Nat × Nat)} {σ : q_Sto} (hx : x < 12) (hx9 : x ≠ 9) (hrk : 1 ≤ zl_rk x) (hC : zt_C σ T p) (hg : p < zt_nx T p) (hl : W.length + O.length ≤ p) (h : zl_D σ N W O ex iw ic) :
    ∃ σ', zl_fT N σ σ' ∧ zt_C σ' T (zt_nx T p) ∧ (x :: (zl_rel (zl_rk x) W O).1).length + (zl_rel (zl_rk x) W O).2.length ≤ zt_nx T p ∧ zl_D σ' N (x :: (zl_rel (zl_rk x) W O).1) (zl_rel (zl_rk x) W O).2 ex' iw ic ∧ f_X3_join q_F 144 (nI x) (nI ex') σ = some (nI 1, σ') := by
  have hL := hC.1.1
  have hpL := hC.2.1
  have hr6 := zl_rk6 x
  have er := c_rank (n := q_F) (σ := σ) (show x < 13 by omega)
  obtain ⟨σ1, a1, a2, a3⟩ := c_rel hrk (show zl_rk x ≤ 7 by omega) (by omega) h
  have hlen := zl_rel_len (r := zl_rk x) W O
  generalize zl_rel (zl_rk x) W O = R at *
  obtain ⟨W', O'⟩ := R
  have hlen : W'.length + O'.length = W.length + O.length := hlen
  have a2 : zl_D σ1 N W' O' ex iw ic := a2
  have hnx := (zt_nx_b hpL).2.1
  obtain ⟨h3, hw, h4, h5, h6, h7, h8, hs, ho, hN, hwh⟩ := a2
  have ep := c_push (n := q_F) (x := x) h3 (show W'.length < 400 by omega)
  have hC1 := hC.fL a1
  obtain ⟨σ2, b1, b2, b3, b4⟩ := c_nextC (σ := q_up (q_up σ1 153 W'.length (nI x)) 144 3 (nI (W'.length+1))) (hC1.fr (by rw [z_upO (by omega), z_upO (by omega)]) (fun a _ _ => by rw [z_upO (by omega), z_upO (by omega)]))
  have hcb : zl_cb (x :: W') = zl_cb W' := by
    show zl_cb W' + (if x = 12 then 1 else 0) = _
    rw [if_neg (by omega), Nat.add_zero]
  have hcn : zl_cn (x :: W') = zl_cn W' := by
    show zl_cn W' + (if x = 9 ∨ x = 12 then 1 else 0) = _
    rw [if_neg (by omega), Nat.add_zero]
  refine ⟨q_up σ2 144 6 (nI ex'), ?_, b3.fr (by rw [z_upO (by omega)]) (fun a _ _ => by rw [z_upO (by omega)]), by simp only [List.length_cons]; omega, ?_, ?_⟩
  · refine ⟨fun o o0 o1 o2 o3 o4 o5 o6 => by rw [z_upO o1, b1 o o0, z_upO o1, z_upO o6, a1.1 o o1 o2 o3 o4 o5 o6], fun i hi => by rw [z_upO (by omega), b1 148 (by omega), z_upO (by omega), z_upO (by omega), a1.2 i hi], fun a x1 x2 x3 x4 => by rw [z_upO (by omega), b2 a x1 x2 x3 x4, z_upO (by omega), z_upO (by omega), a1.1 142 (by omega) (by omega) (by omega) (by omega) (by omega) (by omega)]⟩
  · have g : ∀ o, o ≠ 142 → o ≠ 144 → o ≠ 153 → q_up σ2 144 6 (nI ex') o = σ1 o := fun o o1 o2 o3 => by rw [z_upO o2, b1 o o1, z_upO o2, z_upO o3]
    have g4 : ∀ a, a ≠ 6 → a ≠ 3 → q_up σ2 144 6 (nI ex') 144 a = σ1 144 a := fun a a1 a2 => by rw [z_upK a1, b1 144 (by omega), z_upK a2, z_upO (by omega)]
    refine ⟨?_, ⟨⟨?_, by omega⟩, zl_wt_up hw (fun i hi => ?_)⟩, by rw [g4 4 (by omega) (by omega), hcb]; exact h4, by rw [g4 5 (by omega) (by omega), hcn]; exact h5, z_upS, by rw [g4 7 (by omega) (by omega)]; exact h7, by rw [g4 8 (by omega) (by omega)]; exact h8, by rw [g 145 (by omega) (by omega) (by omega)]; exact hs, by rw [g 150 (by omega) (by omega) (by omega), g 151 (by omega) (by omega) (by omega)]; exact ho, by rw [g 145 (by omega) (by omega) (by omega)]; exact hN, by rw [g 148 (by omega) (by omega) (by omega)]; exact hwh⟩
    · rw [z_upK (by omega), b1 144 (by omega)]; exact z_upS
    · rw [z_upO (by omega), b1 153 (by omega), z_upO (by omega)]; exact z_upS
    · rw [z_upO (by omega), b1 153 (by omega), z_upO (by omega), z_upK (Nat.ne_of_lt hi)]
  · unfold f_X3_join
    generalize zl_rk x = rk at *
    generalize W'.length = w at *
    simp (disch := omega) only [er, a3, ep, b4, ↓reduceIte, ↓p_ld, ↓p_st, ↓p_nm, ↓p_nS, ↓p_jn, ↓p_call, ↓p_callv, ↓p_dv, ↓p_rem, h_ldE, h_stE, h_nmE, h_nSE, h_callE, h_callvE, h_dvE, h_remE, if_true, if_false, z_upS, z_upO, z_upK, nI_add, z_mul, z_sub, z_div, Nat.add_zero, Nat.mul_zero, Nat.zero_add, Nat.sub_zero, Nat.zero_mul, z_ltT, z_ltF, z_leT, z_leF, z_eqT, z_eqF, z_inT, z_clT, not_true_eq_false, not_false_eq_true, eq_self, true_or, or_true, z_m_lt, z_m_le, z_lt_m, z_le_m, z_eq_m, z_m_eq, z_rz0, z_rz1, z_m_add, z_of, r_0_0, r_0_1, r_0_3, r_0_4, r_0_5, r_0_6, r_0_7, r_0_8, r_0_9, r_0_10, r_1_0, r_1_1, r_1_2, r_1_3, r_1_4, r_1_5, r_1_6, r_1_7, r_1_8, r_2_0, r_2_1, r_2_2, r_2_3, r_2_4, r_2_5, r_2_6, r_2_7, r_11_0, r_11_1, r_11_2, r_11_3, r_11_4, r_11_5, r_11_6, r_19_0, r_21_0, r_23_0, r_25_0, r_27_0, r_31_0, r_31_1, r_31_2, r_31_3, r_31_4, r_31_5, r_31_6, r_31_7, r_31_8, r_32_0, r_32_1, r_32_2, r_32_3, r_32_4, r_32_5, r_32_6, r_32_7, r_41_0, r_41_1, r_41_2, r_41_3, r_41_4, r_41_5, r_41_6, r_49_0, r_51_0, r_53_0, r_55_0, r_57_0, r_61_0, r_63_0, r_63_1, r_63_2, r_63_3, r_63_4, r_63_5, r_63_6, r_63_7, r_72_0, r_72_1, r_72_2, r_72_3, r_72_4, r_72_5, r_72_6, r_72_7, r_81_0, r_81_1, r_81_2, r_81_3, r_81_4, r_81_5, r_81_6, r_81_7, r_90_0, r_90_1, r_90_2, r_90_3, r_90_4, r_90_5, r_90_6, r_90_7, r_99_0, r_99_1, r_99_2, r_99_3, r_99_4, r_99_5, r_99_6, r_99_7, r_108_0, r_108_1, r_108_2, r_108_3, r_108_4, r_108_5, r_108_6, r_108_7, r_117_0, r_117_1, r_117_2, r_117_3, r_117_4, r_117_5, r_117_6, r_117_7, r_126_0, r_126_1, r_126_2, r_126_3, r_126_4, r_132_0, r_132_1, r_135_0, r_135_1, r_135_2, r_135_3, r_135_4, r_135_5, r_142_0, r_144_0, r_144_1, r_144_2, r_145_0, r_145_1, r_145_2, r_145_3, r_145_4, r_145_5, r_145_6, r_154_0, r_154_1, r_155_0, r_157_0, r_157_1, r_157_2, r_157_3, r_157_6, r_157_7, r_157_8, r_157_9, r_157_10, r_157_11, r_157_27, r_157_28, r_157_29, r_157_30, ↓z_m1, l_0, l_1, l_2, l_3, l_4, l_5, l_6, l_7, l_8, l_9, l_10, l_11, l_12, l_13, l_14, l_15, l_16, l_17, l_18, l_19, l_20, l_21, l_22, l_23, l_24, l_25, l_26, l_27, l_28, l_29, l_30, l_31, l_32, l_33, l_34, l_35, l_36, l_37, l_38, l_39, l_40, l_41, l_42, l_43, l_44, l_45, l_46, l_47, l_48, l_49, l_50, l_51, l_52, l_53, l_54, l_55, l_56, l_57, l_59, l_60, l_61, l_62, l_63, l_64, l_65, l_80, l_86, l_87, l_88, l_89, l_90, l_91, l_92, l_93, l_94, l_95, l_97, l_99, l_100, l_107, l_119, l_122, l_124, l_129, l_140, l_141, l_142, l_143, l_144, l_145, l_147, l_150, l_159, l_160, l_161, l_162, l_205, l_253, l_255, l_256, l_269, l_305, l_380, l_399, l_400, l_420, l_430, l_516, l_600, l_720, l_820, l_905, l_921, l_937, l_953, l_970, l_999, l_1000, l_1790, l_4096, l_9999, l_1000000]
/-! THE LAW's reader: the class, step by step -/
/-- a NUMBER that is expected -/
theorem c_expOK {k p : Nat} {T : zt_T} {σ : q_Sto} {lo hi b : Int32} (hC : zt_C σ T p) (hk : k < 5) (h2 : zt_cd k T p = 2) (g1 : (nI (zt_va T p) < lo) = False) (g2 : (nI (zt_va T p) ≤ hi) = True) (g3 : (nI (zt_va T p) = b) = False) :
    ∃ σ', (∀ o, o ≠ 142 → σ' o = σ o) ∧ (∀ a, a ≠ 2 → a ≠ 3 → a ≠ 4 → a ≠ 5 → σ' 142 a = σ 142 a) ∧ zt_C σ' T (zt_nx T p) ∧ f_X8_expectNumber q_F 142 lo hi b σ = some (nI (zt_va T p), σ') := by
  obtain ⟨σ', b1, b2, b3, b4⟩ := c_nextC hC
  have hn := c_nT hC hk h2
  have hv := c_nV hC hk h2
  refine ⟨σ', b1, b2, b3, ?_⟩
  unfold f_X8_expectNumber
  generalize zt_va T p = v at *
  simp (disch := omega) only [hn, hv, g1, g2, g3, b4, ↓reduceIte, ↓p_ld, ↓p_st, ↓p_nm, ↓p_nS, ↓p_jn, ↓p_call, ↓p_callv, ↓p_dv, ↓p_rem, h_ldE, h_stE, h_nmE, h_nSE, h_callE, h_callvE, h_dvE, h_remE, if_true, if_false, z_upS, z_upO, z_upK, nI_add, z_mul, z_sub, z_div, Nat.add_zero, Nat.mul_zero, Nat.zero_add, Nat.sub_zero, Nat.zero_mul, z_ltT, z_ltF, z_leT, z_leF, z_eqT, z_eqF, z_inT, z_clT, not_true_eq_false, not_false_eq_true, eq_self, true_or, or_true, z_m_lt, z_m_le, z_lt_m, z_le_m, z_eq_m, z_m_eq, z_rz0, z_rz1, z_m_add, z_of, r_0_0, r_0_1, r_0_3, r_0_4, r_0_5, r_0_6, r_0_7, r_0_8, r_0_9, r_0_10, r_1_0, r_1_1, r_1_2, r_1_3, r_1_4, r_1_5, r_1_6, r_1_7, r_1_8, r_2_0, r_2_1, r_2_2, r_2_3, r_2_4, r_2_5, r_2_6, r_2_7, r_11_0, r_11_1, r_11_2, r_11_3, r_11_4, r_11_5, r_11_6, r_19_0, r_21_0, r_23_0, r_25_0, r_27_0, r_61_0, r_117_0, r_117_1, r_117_2, r_117_3, r_117_4, r_117_5, r_117_6, r_117_7, r_126_0, r_126_1, r_126_2, r_126_3, r_126_4, r_132_0, r_132_1, r_135_0, r_135_1, r_135_2, r_135_3, r_135_4, r_135_5, r_142_0, r_144_0, r_144_1, r_144_2, r_145_0, r_145_1, r_145_2, r_145_3, r_145_4, r_145_5, r_145_6, r_154_0, r_154_1, r_155_0, ↓z_m1, l_0, l_1, l_2, l_3, l_4, l_5, l_6, l_7, l_8, l_9, l_10, l_11, l_12, l_13, l_14, l_15, l_16, l_17, l_18, l_19, l_20, l_21, l_22, l_23, l_24, l_25, l_26, l_27, l_28, l_29, l_30, l_31, l_32, l_33, l_34, l_35, l_36, l_37, l_38, l_39, l_40, l_41, l_42, l_43, l_44, l_45, l_46, l_47, l_48, l_49, l_50, l_51, l_52, l_53, l_54, l_55, l_56, l_57, l_59, l_60, l_61, l_62, l_63, l_64, l_65, l_80, l_86, l_87, l_88, l_89, l_90, l_91, l_92, l_93, l_94, l_95, l_97, l_99, l_100, l_107, l_119, l_122, l_124, l_129, l_140, l_141, l_142, l_143, l_144, l_145, l_147, l_150, l_159, l_160, l_161, l_162, l_205, l_253, l_255, l_256, l_269, l_305, l_380, l_399, l_400, l_420, l_430, l_516, l_600, l_720, l_820, l_905, l_921, l_937, l_953, l_970, l_999, l_1000, l_1790, l_4096, l_9999, l_1000000]
theorem c_expF1 {k p : Nat} {T : zt_T} {σ : q_Sto} {lo hi b : Int32} (hC : zt_C σ T p) (hk : k < 5) (h2 : ¬ zt_cd k T p = 2) :
    ∃ σ', (∀ o, o ≠ 142 → σ' o = σ o) ∧ (∀ a, a ≠ 6 → a ≠ 7 → σ' 142 a = σ 142 a) ∧ σ' 142 6 = nI 1 ∧ σ' 142 7 = nI (zt_at T p) ∧ f_X8_expectNumber q_F 142 lo hi b σ = some (z_m, σ') := by
  obtain ⟨σ', b1, b2, b3, b4, b5⟩ := c_fail (n := q_F) (f := 1) hC
  have hn := c_nF hC hk h2
  refine ⟨σ', b1, b2, b3, b4, ?_⟩
  unfold f_X8_expectNumber
  simp (disch := omega) only [hn, b5, ↓reduceIte, ↓p_ld, ↓p_st, ↓p_nm, ↓p_nS, ↓p_jn, ↓p_call, ↓p_callv, ↓p_dv, ↓p_rem, h_ldE, h_stE, h_nmE, h_nSE, h_callE, h_callvE, h_dvE, h_remE, if_true, if_false, z_upS, z_upO, z_upK, nI_add, z_mul, z_sub, z_div, Nat.add_zero, Nat.mul_zero, Nat.zero_add, Nat.sub_zero, Nat.zero_mul, z_ltT, z_ltF, z_leT, z_leF, z_eqT, z_eqF, z_inT, z_clT, not_true_eq_false, not_false_eq_true, eq_self, true_or, or_true, z_m_lt, z_m_le, z_lt_m, z_le_m, z_eq_m, z_m_eq, z_rz0, z_rz1, z_m_add, z_of, r_0_0, r_0_1, r_0_3, r_0_4, r_0_5, r_0_6, r_0_7, r_0_8, r_0_9, r_0_10, r_1_0, r_1_1, r_1_2, r_1_3, r_1_4, r_1_5, r_1_6, r_1_7, r_1_8, r_2_0, r_2_1, r_2_2, r_2_3, r_2_4, r_2_5, r_2_6, r_2_7, r_11_0, r_11_1, r_11_2, r_11_3, r_11_4, r_11_5, r_11_6, r_19_0, r_21_0, r_23_0, r_25_0, r_27_0, r_61_0, r_117_0, r_117_1, r_117_2, r_117_3, r_117_4, r_117_5, r_117_6, r_117_7, r_126_0, r_126_1, r_126_2, r_126_3, r_126_4, r_132_0, r_132_1, r_135_0, r_135_1, r_135_2, r_135_3, r_135_4, r_135_5, r_142_0, r_144_0, r_144_1, r_144_2, r_145_0, r_145_1, r_145_2, r_145_3, r_145_4, r_145_5, r_145_6, r_154_0, r_154_1, r_155_0, ↓z_m1, l_0, l_1, l_2, l_3, l_4, l_5, l_6, l_7, l_8, l_9, l_10, l_11, l_12, l_13, l_14, l_15, l_16, l_17, l_18, l_19, l_20, l_21, l_22, l_23, l_24, l_25, l_26, l_27, l_28, l_29, l_30, l_31, l_32, l_33, l_34, l_35, l_36, l_37, l_38, l_39, l_40, l_41, l_42, l_43, l_44, l_45, l_46, l_47, l_48, l_49, l_50, l_51, l_52, l_53, l_54, l_55, l_56, l_57, l_59, l_60, l_61, l_62, l_63, l_64, l_65, l_80, l_86, l_87, l_88, l_89, l_90, l_91, l_92, l_93, l_94, l_95, l_97, l_99, l_100, l_107, l_119, l_122, l_124, l_129, l_140, l_141, l_142, l_143, l_144, l_145, l_147, l_150, l_159, l_160, l_161, l_162, l_205, l_253, l_255, l_256, l_269, l_305, l_380, l_399, l_400, l_420, l_430, l_516, l_600, l_720, l_820, l_905, l_921, l_937, l_953, l_970, l_999, l_1000, l_1790, l_4096, l_9999, l_1000000]
theorem c_expF2 {k p : Nat} {T : zt_T} {σ : q_Sto} {lo hi b : Int32} (hC : zt_C σ T p) (hk : k < 5) (h2 : zt_cd k T p = 2) (g : (nI (zt_va T p) < lo) = True ∨ ((nI (zt_va T p) < lo) = False ∧ (nI (zt_va T p) ≤ hi) = False) ∨ ((nI (zt_va T p) < lo) = False ∧ (nI (zt_va T p) ≤ hi) = True ∧ (nI (zt_va T p) = b) = True)) :
    ∃ σ', (∀ o, o ≠ 142 → σ' o = σ o) ∧ (∀ a, a ≠ 6 → a ≠ 7 → σ' 142 a = σ 142 a) ∧ σ' 142 6 = nI 2 ∧ σ' 142 7 = nI (zt_at T p) ∧ f_X8_expectNumber q_F 142 lo hi b σ = some (z_m, σ') := by
  obtain ⟨σ', b1, b2, b3, b4, b5⟩ := c_fail (n := q_F) (f := 2) hC
  have hn := c_nT hC hk h2
  have hv := c_nV hC hk h2
  refine ⟨σ', b1, b2, b3, b4, ?_⟩
  unfold f_X8_expectNumber
  generalize zt_va T p = v at *
  rcases g with g1 | ⟨g1, g2⟩ | ⟨g1, g2, g3⟩
  · simp (disch := omega) only [hn, hv, g1, b5, ↓reduceIte, ↓p_ld, ↓p_st, ↓p_nm, ↓p_nS, ↓p_jn, ↓p_call, ↓p_callv, ↓p_dv, ↓p_rem, h_ldE, h_stE, h_nmE, h_nSE, h_callE, h_callvE, h_dvE, h_remE, if_true, if_false, z_upS, z_upO, z_upK, nI_add, z_mul, z_sub, z_div, Nat.add_zero, Nat.mul_zero, Nat.zero_add, Nat.sub_zero, Nat.zero_mul, z_ltT, z_ltF, z_leT, z_leF, z_eqT, z_eqF, z_inT, z_clT, not_true_eq_false, not_false_eq_true, eq_self, true_or, or_true, z_m_lt, z_m_le, z_lt_m, z_le_m, z_eq_m, z_m_eq, z_rz0, z_rz1, z_m_add, z_of, r_0_0, r_0_1, r_0_3, r_0_4, r_0_5, r_0_6, r_0_7, r_0_8, r_0_9, r_0_10, r_1_0, r_1_1, r_1_2, r_1_3, r_1_4, r_1_5, r_1_6, r_1_7, r_1_8, r_2_0, r_2_1, r_2_2, r_2_3, r_2_4, r_2_5, r_2_6, r_2_7, r_11_0, r_11_1, r_11_2, r_11_3, r_11_4, r_11_5, r_11_6, r_19_0, r_21_0, r_23_0, r_25_0, r_27_0, r_61_0, r_117_0, r_117_1, r_117_2, r_117_3, r_117_4, r_117_5, r_117_6, r_117_7, r_126_0, r_126_1, r_126_2, r_126_3, r_126_4, r_132_0, r_132_1, r_135_0, r_135_1, r_135_2, r_135_3, r_135_4, r_135_5, r_142_0, r_144_0, r_144_1, r_144_2, r_145_0, r_145_1, r_145_2, r_145_3, r_145_4, r_145_5, r_145_6, r_154_0, r_154_1, r_155_0, ↓z_m1, l_0, l_1, l_2, l_3, l_4, l_5, l_6, l_7, l_8, l_9, l_10, l_11, l_12, l_13, l_14, l_15, l_16, l_17, l_18, l_19, l_20, l_21, l_22, l_23, l_24, l_25, l_26, l_27, l_28, l_29, l_30, l_31, l_32, l_33, l_34, l_35, l_36, l_37, l_38, l_39, l_40, l_41, l_42, l_43, l_44, l_45, l_46, l_47, l_48, l_49, l_50, l_51, l_52, l_53, l_54, l_55, l_56, l_57, l_59, l_60, l_61, l_62, l_63, l_64, l_65, l_80, l_86, l_87, l_88, l_89, l_90, l_91, l_92, l_93, l_94, l_95, l_97, l_99, l_100, l_107, l_119, l_122, l_124, l_129, l_140, l_141, l_142, l_143, l_144, l_145, l_147, l_150, l_159, l_160, l_161, l_162, l_205, l_253, l_255, l_256, l_269, l_305, l_380, l_399, l_400, l_420, l_430, l_516, l_600, l_720, l_820, l_905, l_921, l_937, l_953, l_970, l_999, l_1000, l_1790, l_4096, l_9999, l_1000000]
  · simp (disch := omega) only [hn, hv, g1, g2, b5, ↓reduceIte, ↓p_ld, ↓p_st, ↓p_nm, ↓p_nS, ↓p_jn, ↓p_call, ↓p_callv, ↓p_dv, ↓p_rem, h_ldE, h_stE, h_nmE, h_nSE, h_callE, h_callvE, h_dvE, h_remE, if_true, if_false, z_upS, z_upO, z_upK, nI_add, z_mul, z_sub, z_div, Nat.add_zero, Nat.mul_zero, Nat.zero_add, Nat.sub_zero, Nat.zero_mul, z_ltT, z_ltF, z_leT, z_leF, z_eqT, z_eqF, z_inT, z_clT, not_true_eq_false, not_false_eq_true, eq_self, true_or, or_true, z_m_lt, z_m_le, z_lt_m, z_le_m, z_eq_m, z_m_eq, z_rz0, z_rz1, z_m_add, z_of, r_0_0, r_0_1, r_0_3, r_0_4, r_0_5, r_0_6, r_0_7, r_0_8, r_0_9, r_0_10, r_1_0, r_1_1, r_1_2, r_1_3, r_1_4, r_1_5, r_1_6, r_1_7, r_1_8, r_2_0, r_2_1, r_2_2, r_2_3, r_2_4, r_2_5, r_2_6, r_2_7, r_11_0, r_11_1, r_11_2, r_11_3, r_11_4, r_11_5, r_11_6, r_19_0, r_21_0, r_23_0, r_25_0, r_27_0, r_61_0, r_117_0, r_117_1, r_117_2, r_117_3, r_117_4, r_117_5, r_117_6, r_117_7, r_126_0, r_126_1, r_126_2, r_126_3, r_126_4, r_132_0, r_132_1, r_135_0, r_135_1, r_135_2, r_135_3, r_135_4, r_135_5, r_142_0, r_144_0, r_144_1, r_144_2, r_145_0, r_145_1, r_145_2, r_145_3, r_145_4, r_145_5, r_145_6, r_154_0, r_154_1, r_155_0, ↓z_m1, l_0, l_1, l_2, l_3, l_4, l_5, l_6, l_7, l_8, l_9, l_10, l_11, l_12, l_13, l_14, l_15, l_16, l_17, l_18, l_19, l_20, l_21, l_22, l_23, l_24, l_25, l_26, l_27, l_28, l_29, l_30, l_31, l_32, l_33, l_34, l_35, l_36, l_37, l_38, l_39, l_40, l_41, l_42, l_43, l_44, l_45, l_46, l_47, l_48, l_49, l_50, l_51, l_52, l_53, l_54, l_55, l_56, l_57, l_59, l_60, l_61, l_62, l_63, l_64, l_65, l_80, l_86, l_87, l_88, l_89, l_90, l_91, l_92, l_93, l_94, l_95, l_97, l_99, l_100, l_107, l_119, l_122, l_124, l_129, l_140, l_141, l_142, l_143, l_144, l_145, l_147, l_150, l_159, l_160, l_161, l_162, l_205, l_253, l_255, l_256, l_269, l_305, l_380, l_399, l_400, l_420, l_430, l_516, l_600, l_720, l_820, l_905, l_921, l_937, l_953, l_970, l_999, l_1000, l_1790, l_4096, l_9999, l_1000000]
  · simp (disch := omega) only [hn, hv, g1, g2, g3, b5, ↓reduceIte, ↓p_ld, ↓p_st, ↓p_nm, ↓p_nS, ↓p_jn, ↓p_call, ↓p_callv, ↓p_dv, ↓p_rem, h_ldE, h_stE, h_nmE, h_nSE, h_callE, h_callvE, h_dvE, h_remE, if_true, if_false, z_upS, z_upO, z_upK, nI_add, z_mul, z_sub, z_div, Nat.add_zero, Nat.mul_zero, Nat.zero_add, Nat.sub_zero, Nat.zero_mul, z_ltT, z_ltF, z_leT, z_leF, z_eqT, z_eqF, z_inT, z_clT, not_true_eq_false, not_false_eq_true, eq_self, true_or, or_true, z_m_lt, z_m_le, z_lt_m, z_le_m, z_eq_m, z_m_eq, z_rz0, z_rz1, z_m_add, z_of, r_0_0, r_0_1, r_0_3, r_0_4, r_0_5, r_0_6, r_0_7, r_0_8, r_0_9, r_0_10, r_1_0, r_1_1, r_1_2, r_1_3, r_1_4, r_1_5, r_1_6, r_1_7, r_1_8, r_2_0, r_2_1, r_2_2, r_2_3, r_2_4, r_2_5, r_2_6, r_2_7, r_11_0, r_11_1, r_11_2, r_11_3, r_11_4, r_11_5, r_11_6, r_19_0, r_21_0, r_23_0, r_25_0, r_27_0, r_61_0, r_117_0, r_117_1, r_117_2, r_117_3, r_117_4, r_117_5, r_117_6, r_117_7, r_126_0, r_126_1, r_126_2, r_126_3, r_126_4, r_132_0, r_132_1, r_135_0, r_135_1, r_135_2, r_135_3, r_135_4, r_135_5, r_142_0, r_144_0, r_144_1, r_144_2, r_145_0, r_145_1, r_145_2, r_145_3, r_145_4, r_145_5, r_145_6, r_154_0, r_154_1, r_155_0, ↓z_m1, l_0, l_1, l_2, l_3, l_4, l_5, l_6, l_7, l_8, l_9, l_10, l_11, l_12, l_13, l_14, l_15, l_16, l_17, l_18, l_19, l_20, l_21, l_22, l_23, l_24, l_25, l_26, l_27, l_28, l_29, l_30, l_31, l_32, l_33, l_34, l_35, l_36, l_37, l_38, l_39, l_40, l_41, l_42, l_43, l_44, l_45, l_46, l_47, l_48, l_49, l_50, l_51, l_52, l_53, l_54, l_55, l_56, l_57, l_59, l_60, l_61, l_62, l_63, l_64, l_65, l_80, l_86, l_87, l_88, l_89, l_90, l_91, l_92, l_93, l_94, l_95, l_97, l_99, l_100, l_107, l_119, l_122, l_124, l_129, l_140, l_141, l_142, l_143, l_144, l_145, l_147, l_150, l_159, l_160, l_161, l_162, l_205, l_253, l_255, l_256, l_269, l_305, l_380, l_399, l_400, l_420, l_430, l_516, l_600, l_720, l_820, l_905, l_921, l_937, l_953, l_970, l_999, l_1000, l_1790, l_4096, l_9999, l_1000000]
/-- the frame of a failing step, and of a line's end -/
def zl_fF (N : Nat) (σ σ' : q_Sto) : Prop := (∀ o, o ≠ 142 → o ≠ 144 → o ≠ 145 → o ≠ 148 → o ≠ 150 → o ≠ 151 → o ≠ 153 → σ' o = σ o) ∧ (∀ i, i ≠ N → σ' 148 i = σ 148 i) ∧ σ' 142 1 = σ 142 1
def zl_fE (N : Nat) (σ σ' : q_Sto) : Prop := (∀ o, o ≠ 142 → o ≠ 144 → o ≠ 145 → o ≠ 148 → o ≠ 149 → o ≠ 150 → o ≠ 151 → o ≠ 153 → σ' o = σ o) ∧ (∀ i, i ≠ N → σ' 148 i = σ 148 i ∧ σ' 149 i = σ 149 i) ∧ ∀ a, a ≠ 2 → a ≠ 3 → a ≠ 4 → a ≠ 5 → σ' 142 a = σ 142 a
def zl_oF (F : Option (Int32 × q_Sto)) (σ : q_Sto) (N f q : Nat) : Prop := ∃ σ', F = some (nI 0, σ') ∧ zl_fF N σ σ' ∧ σ' 142 6 = nI f ∧ σ' 142 7 = nI q
def zl_oG (F : Option (Int32 × q_Sto)) (σ : q_Sto) (T : zt_T) (N : Nat) (p : Nat) (W : List Nat) (O : List (Nat × Nat)) (ex iw : Nat) (ic : Bool) : Prop := ∃ σ', F = some (nI 1, σ') ∧ zl_fT N σ σ' ∧ zt_C σ' T p ∧ W.length + O.length ≤ p ∧ ex ≤ 3 ∧ zl_D σ' N W O ex iw ic
def zl_oE (F : Option (Int32 × q_Sto)) (σ : q_Sto) (T : zt_T) (N : Nat) (p : Nat) (W : List Nat) (O : List (Nat × Nat)) (iw : Nat) : Prop := ∃ σ', F = some (nI 0, σ') ∧ zl_fE N σ σ' ∧ zt_C σ' T p ∧ W.length + O.length ≤ p ∧ σ' 149 N = nI O.length ∧ σ' 148 N = z_vw iw ∧ σ' 145 7 = nI O.length ∧ zl_ot (σ' 150) (σ' 151) O ∧ σ' 145 8 = nI (N+1)
def zl_out (F : Option (Int32 × q_Sto)) (σ : q_Sto) (T : zt_T) (N : Nat) : zl_Rs → Prop
  | Sum.inl (f, q) => zl_oF F σ N f q
  | Sum.inr (true, (p, W, O, ex, iw, ic)) => zl_oG F σ T N p W O ex iw ic
  | Sum.inr (false, (p, W, O, _, iw, _)) => zl_oE F σ T N p W O iw
theorem zl_out.of {F : Option (Int32 × q_Sto)} {σ σ1 : q_Sto} {T : zt_T} {N : Nat} {R : zl_Rs} (h : zl_fT N σ σ1) (g : zl_out F σ1 T N R) : zl_out F σ T N R := by
  rcases R with ⟨f, q⟩ | ⟨b, p, W, O, ex, iw, ic⟩
  · obtain ⟨σ', e, ⟨g1, g2, g3⟩, g4, g5⟩ := g
    exact ⟨σ', e, ⟨fun o o0 o1 o2 o3 o4 o5 o6 => (g1 o o0 o1 o2 o3 o4 o5 o6).trans (h.1 o o0 o1 o2 o3 o4 o5 o6), fun i hi => (g2 i hi).trans (h.2.1 i hi), g3.trans (h.2.2 1 (by omega) (by omega) (by omega) (by omega))⟩, g4, g5⟩
  · cases b with
    | true =>
      obtain ⟨σ', e, g1, g2⟩ := g
      exact ⟨σ', e, h.trans g1, g2⟩
    | false =>
      obtain ⟨σ', e, ⟨g1, g2, g3⟩, g4⟩ := g
      exact ⟨σ', e, ⟨fun o o0 o1 o2 o3 o4 o5 o6 o7 => (g1 o o0 o1 o2 o3 o4 o5 o6 o7).trans (h.1 o o0 o1 o2 o3 o5 o6 o7), fun i hi => ⟨(g2 i hi).1.trans (h.2.1 i hi), (g2 i hi).2.trans (by rw [h.1 149 (by omega) (by omega) (by omega) (by omega) (by omega) (by omega) (by omega)])⟩, fun a x1 x2 x3 x4 => (g3 a x1 x2 x3 x4).trans (h.2.2 a x1 x2 x3 x4)⟩, g4⟩
theorem zl_out.rz {F : Option (Int32 × q_Sto)} {σ : q_Sto} {T : zt_T} {N : Nat} {R : zl_Rs} (g : zl_out F σ T N R) : zl_out (q_call F fun r s => q_rz r s) σ T N R := by
  rcases R with ⟨f, q⟩ | ⟨b, p, W, O, ex, iw, ic⟩
  · obtain ⟨σ', e, g⟩ := g
    exact ⟨σ', by rw [e, z_call]; exact z_rz0, g⟩
  · cases b with
    | true =>
      obtain ⟨σ', e, g⟩ := g
      exact ⟨σ', by rw [e, z_call]; exact z_rz1, g⟩
    | false =>
      obtain ⟨σ', e, g⟩ := g
      exact ⟨σ', by rw [e, z_call]; exact z_rz0, g⟩
theorem c_failO {p f N : Nat} {T : zt_T} {σ : q_Sto} (hC : zt_C σ T p) : zl_out (f_X8_fail q_F 142 (nI f) σ) σ T N (Sum.inl (f, zt_at T p)) := by
  obtain ⟨σ', b1, b2, b3, b4, b5⟩ := c_fail (n := q_F) (f := f) hC
  exact ⟨σ', b5, ⟨fun o o0 _ _ _ _ _ _ => b1 o o0, fun i _ => by rw [b1 148 (by omega)], b2 1 (by omega) (by omega)⟩, b3, b4⟩
theorem c_joinO {N ex iw x ex' p : Nat} {ic : Bool} {T : zt_T} {W : List Nat} {O : List (Nat × Nat)} {σ : q_Sto} (hx : x < 12) (hx9 : x ≠ 9) (hrk : 1 ≤ zl_rk x) (hex : ex' ≤ 3) (hC : zt_C σ T p) (hg : zt_cd 0 T p ≠ 0) (hl : W.length + O.length ≤ p) (h : zl_D σ N W O ex iw ic) : zl_out (f_X3_join q_F 144 (nI x) (nI ex') σ) σ T N (zl_join T x ex' p W O iw ic) := by
  have hgo := zt_go (k := 0) (by omega) hC.2.1 hg
  obtain ⟨σ', k1, k2, k3, k4, k5⟩ := c_join (ex' := ex') hx hx9 hrk hC hgo.1 hl h
  exact ⟨σ', k5, k1, k2, k3, hex, k4⟩
theorem c_wok : zt_ok 0 0 20 = true ∧ zt_ok 0 1 21 = true ∧ zt_ok 0 2 22 = true ∧ zt_ok 0 3 6 = true ∧ zt_ok 0 4 41 = true ∧ zt_ok 0 5 42 = true ∧ zt_ok 0 6 43 = true ∧ zt_ok 0 7 44 = true ∧ zt_ok 0 8 45 = true ∧ zt_ok 0 9 46 = true ∧ zt_ok 0 10 47 = true ∧ zt_ok 0 11 48 = true ∧ zt_ok 0 12 49 = true ∧ zt_ok 0 13 50 = true ∧ zt_ok 0 14 3 = true ∧ zt_ok 0 15 5 = true ∧ zt_ok 0 16 4 = true := by decide +kernel
/-- the FACT at hand -/
theorem c_fact {p : Nat} {T : zt_T} {σ : q_Sto} (hC : zt_C σ T p) : f_X3_factAtHand q_F 144 σ = some (if 41 ≤ zt_cd 0 T p ∧ zt_cd 0 T p ≤ 50 then nI (zt_cd 0 T p - 41) else z_m, σ) := by
  obtain ⟨o0, o1, o2, o3, o4, o5, o6, o7, o8, o9, o10, o11, o12, o13, o14, o15, o16⟩ := c_wok
  have t4 := c_wT hC (by omega) o4
  have t5 := c_wT hC (by omega) o5
  have t6 := c_wT hC (by omega) o6
  have t7 := c_wT hC (by omega) o7
  have t8 := c_wT hC (by omega) o8
  have t9 := c_wT hC (by omega) o9
  have t10 := c_wT hC (by omega) o10
  have t11 := c_wT hC (by omega) o11
  have t12 := c_wT hC (by omega) o12
  have t13 := c_wT hC (by omega) o13
  have u4 := c_wF hC (by omega) o4
  have u5 := c_wF hC (by omega) o5
  have u6 := c_wF hC (by omega) o6
  have u7 := c_wF hC (by omega) o7
  have u8 := c_wF hC (by omega) o8
  have u9 := c_wF hC (by omega) o9
  have u10 := c_wF hC (by omega) o10
  have u11 := c_wF hC (by omega) o11
  have u12 := c_wF hC (by omega) o12
  have u13 := c_wF hC (by omega) o13
  unfold f_X3_factAtHand
  generalize zt_cd 0 T p = c at *
  by_cases q : 41 ≤ c ∧ c ≤ 50
  · rw [if_pos q]
    have hc : c = 41 ∨ c = 42 ∨ c = 43 ∨ c = 44 ∨ c = 45 ∨ c = 46 ∨ c = 47 ∨ c = 48 ∨ c = 49 ∨ c = 50 := by omega
    rcases hc with rfl | rfl | rfl | rfl | rfl | rfl | rfl | rfl | rfl | rfl
    · simp (disch := omega) only [t4, ↓reduceIte, ↓p_ld, ↓p_st, ↓p_nm, ↓p_nS, ↓p_jn, ↓p_call, ↓p_callv, ↓p_dv, ↓p_rem, h_ldE, h_stE, h_nmE, h_nSE, h_callE, h_callvE, h_dvE, h_remE, if_true, if_false, z_upS, z_upO, z_upK, nI_add, z_mul, z_sub, z_div, Nat.add_zero, Nat.mul_zero, Nat.zero_add, Nat.sub_zero, Nat.zero_mul, z_ltT, z_ltF, z_leT, z_leF, z_eqT, z_eqF, z_inT, z_clT, not_true_eq_false, not_false_eq_true, eq_self, true_or, or_true, z_m_lt, z_m_le, z_lt_m, z_le_m, z_eq_m, z_m_eq, z_rz0, z_rz1, z_m_add, z_of, r_0_0, r_0_1, r_0_3, r_0_4, r_0_5, r_0_6, r_0_7, r_0_8, r_0_9, r_0_10, r_1_0, r_1_1, r_1_2, r_1_3, r_1_4, r_1_5, r_1_6, r_1_7, r_1_8, r_2_0, r_2_1, r_2_2, r_2_3, r_2_4, r_2_5, r_2_6, r_2_7, r_11_0, r_11_1, r_11_2, r_11_3, r_11_4, r_11_5, r_11_6, r_19_0, r_21_0, r_23_0, r_25_0, r_27_0, r_31_0, r_31_1, r_31_2, r_31_3, r_31_4, r_31_5, r_31_6, r_31_7, r_31_8, r_32_0, r_32_1, r_32_2, r_32_3, r_32_4, r_32_5, r_32_6, r_32_7, r_41_0, r_41_1, r_41_2, r_41_3, r_41_4, r_41_5, r_41_6, r_49_0, r_51_0, r_53_0, r_55_0, r_57_0, r_61_0, r_63_0, r_63_1, r_63_2, r_63_3, r_63_4, r_63_5, r_63_6, r_63_7, r_72_0, r_72_1, r_72_2, r_72_3, r_72_4, r_72_5, r_72_6, r_72_7, r_81_0, r_81_1, r_81_2, r_81_3, r_81_4, r_81_5, r_81_6, r_81_7, r_90_0, r_90_1, r_90_2, r_90_3, r_90_4, r_90_5, r_90_6, r_90_7, r_99_0, r_99_1, r_99_2, r_99_3, r_99_4, r_99_5, r_99_6, r_99_7, r_108_0, r_108_1, r_108_2, r_108_3, r_108_4, r_108_5, r_108_6, r_108_7, r_117_0, r_117_1, r_117_2, r_117_3, r_117_4, r_117_5, r_117_6, r_117_7, r_126_0, r_126_1, r_126_2, r_126_3, r_126_4, r_132_0, r_132_1, r_135_0, r_135_1, r_135_2, r_135_3, r_135_4, r_135_5, r_142_0, r_144_0, r_144_1, r_144_2, r_145_0, r_145_1, r_145_2, r_145_3, r_145_4, r_145_5, r_145_6, r_154_0, r_154_1, r_155_0, r_157_0, r_157_1, r_157_2, r_157_3, r_157_6, r_157_7, r_157_8, r_157_9, r_157_10, r_157_11, r_157_27, r_157_28, r_157_29, r_157_30, ↓z_m1, l_0, l_1, l_2, l_3, l_4, l_5, l_6, l_7, l_8, l_9, l_10, l_11, l_12, l_13, l_14, l_15, l_16, l_17, l_18, l_19, l_20, l_21, l_22, l_23, l_24, l_25, l_26, l_27, l_28, l_29, l_30, l_31, l_32, l_33, l_34, l_35, l_36, l_37, l_38, l_39, l_40, l_41, l_42, l_43, l_44, l_45, l_46, l_47, l_48, l_49, l_50, l_51, l_52, l_53, l_54, l_55, l_56, l_57, l_59, l_60, l_61, l_62, l_63, l_64, l_65, l_80, l_86, l_87, l_88, l_89, l_90, l_91, l_92, l_93, l_94, l_95, l_97, l_99, l_100, l_107, l_119, l_122, l_124, l_129, l_140, l_141, l_142, l_143, l_144, l_145, l_147, l_150, l_159, l_160, l_161, l_162, l_205, l_253, l_255, l_256, l_269, l_305, l_380, l_399, l_400, l_420, l_430, l_516, l_600, l_720, l_820, l_905, l_921, l_937, l_953, l_970, l_999, l_1000, l_1790, l_4096, l_9999, l_1000000]
    · simp (disch := omega) only [u4, t5, ↓reduceIte, ↓p_ld, ↓p_st, ↓p_nm, ↓p_nS, ↓p_jn, ↓p_call, ↓p_callv, ↓p_dv, ↓p_rem, h_ldE, h_stE, h_nmE, h_nSE, h_callE, h_callvE, h_dvE, h_remE, if_true, if_false, z_upS, z_upO, z_upK, nI_add, z_mul, z_sub, z_div, Nat.add_zero, Nat.mul_zero, Nat.zero_add, Nat.sub_zero, Nat.zero_mul, z_ltT, z_ltF, z_leT, z_leF, z_eqT, z_eqF, z_inT, z_clT, not_true_eq_false, not_false_eq_true, eq_self, true_or, or_true, z_m_lt, z_m_le, z_lt_m, z_le_m, z_eq_m, z_m_eq, z_rz0, z_rz1, z_m_add, z_of, r_0_0, r_0_1, r_0_3, r_0_4, r_0_5, r_0_6, r_0_7, r_0_8, r_0_9, r_0_10, r_1_0, r_1_1, r_1_2, r_1_3, r_1_4, r_1_5, r_1_6, r_1_7, r_1_8, r_2_0, r_2_1, r_2_2, r_2_3, r_2_4, r_2_5, r_2_6, r_2_7, r_11_0, r_11_1, r_11_2, r_11_3, r_11_4, r_11_5, r_11_6, r_19_0, r_21_0, r_23_0, r_25_0, r_27_0, r_31_0, r_31_1, r_31_2, r_31_3, r_31_4, r_31_5, r_31_6, r_31_7, r_31_8, r_32_0, r_32_1, r_32_2, r_32_3, r_32_4, r_32_5, r_32_6, r_32_7, r_41_0, r_41_1, r_41_2, r_41_3, r_41_4, r_41_5, r_41_6, r_49_0, r_51_0, r_53_0, r_55_0, r_57_0, r_61_0, r_63_0, r_63_1, r_63_2, r_63_3, r_63_4, r_63_5, r_63_6, r_63_7, r_72_0, r_72_1, r_72_2, r_72_3, r_72_4, r_72_5, r_72_6, r_72_7, r_81_0, r_81_1, r_81_2, r_81_3, r_81_4, r_81_5, r_81_6, r_81_7, r_90_0, r_90_1, r_90_2, r_90_3, r_90_4, r_90_5, r_90_6, r_90_7, r_99_0, r_99_1, r_99_2, r_99_3, r_99_4, r_99_5, r_99_6, r_99_7, r_108_0, r_108_1, r_108_2, r_108_3, r_108_4, r_108_5, r_108_6, r_108_7, r_117_0, r_117_1, r_117_2, r_117_3, r_117_4, r_117_5, r_117_6, r_117_7, r_126_0, r_126_1, r_126_2, r_126_3, r_126_4, r_132_0, r_132_1, r_135_0, r_135_1, r_135_2, r_135_3, r_135_4, r_135_5, r_142_0, r_144_0, r_144_1, r_144_2, r_145_0, r_145_1, r_145_2, r_145_3, r_145_4, r_145_5, r_145_6, r_154_0, r_154_1, r_155_0, r_157_0, r_157_1, r_157_2, r_157_3, r_157_6, r_157_7, r_157_8, r_157_9, r_157_10, r_157_11, r_157_27, r_157_28, r_157_29, r_157_30, ↓z_m1, l_0, l_1, l_2, l_3, l_4, l_5, l_6, l_7, l_8, l_9, l_10, l_11, l_12, l_13, l_14, l_15, l_16, l_17, l_18, l_19, l_20, l_21, l_22, l_23, l_24, l_25, l_26, l_27, l_28, l_29, l_30, l_31, l_32, l_33, l_34, l_35, l_36, l_37, l_38, l_39, l_40, l_41, l_42, l_43, l_44, l_45, l_46, l_47, l_48, l_49, l_50, l_51, l_52, l_53, l_54, l_55, l_56, l_57, l_59, l_60, l_61, l_62, l_63, l_64, l_65, l_80, l_86, l_87, l_88, l_89, l_90, l_91, l_92, l_93, l_94, l_95, l_97, l_99, l_100, l_107, l_119, l_122, l_124, l_129, l_140, l_141, l_142, l_143, l_144, l_145, l_147, l_150, l_159, l_160, l_161, l_162, l_205, l_253, l_255, l_256, l_269, l_305, l_380, l_399, l_400, l_420, l_430, l_516, l_600, l_720, l_820, l_905, l_921, l_937, l_953, l_970, l_999, l_1000, l_1790, l_4096, l_9999, l_1000000]
    · simp (disch := omega) only [u4, u5, t6, ↓reduceIte, ↓p_ld, ↓p_st, ↓p_nm, ↓p_nS, ↓p_jn, ↓p_call, ↓p_callv, ↓p_dv, ↓p_rem, h_ldE, h_stE, h_nmE, h_nSE, h_callE, h_callvE, h_dvE, h_remE, if_true, if_false, z_upS, z_upO, z_upK, nI_add, z_mul, z_sub, z_div, Nat.add_zero, Nat.mul_zero, Nat.zero_add, Nat.sub_zero, Nat.zero_mul, z_ltT, z_ltF, z_leT, z_leF, z_eqT, z_eqF, z_inT, z_clT, not_true_eq_false, not_false_eq_true, eq_self, true_or, or_true, z_m_lt, z_m_le, z_lt_m, z_le_m, z_eq_m, z_m_eq, z_rz0, z_rz1, z_m_add, z_of, r_0_0, r_0_1, r_0_3, r_0_4, r_0_5, r_0_6, r_0_7, r_0_8, r_0_9, r_0_10, r_1_0, r_1_1, r_1_2, r_1_3, r_1_4, r_1_5, r_1_6, r_1_7, r_1_8, r_2_0, r_2_1, r_2_2, r_2_3, r_2_4, r_2_5, r_2_6, r_2_7, r_11_0, r_11_1, r_11_2, r_11_3, r_11_4, r_11_5, r_11_6, r_19_0, r_21_0, r_23_0, r_25_0, r_27_0, r_31_0, r_31_1, r_31_2, r_31_3, r_31_4, r_31_5, r_31_6, r_31_7, r_31_8, r_32_0, r_32_1, r_32_2, r_32_3, r_32_4, r_32_5, r_32_6, r_32_7, r_41_0, r_41_1, r_41_2, r_41_3, r_41_4, r_41_5, r_41_6, r_49_0, r_51_0, r_53_0, r_55_0, r_57_0, r_61_0, r_63_0, r_63_1, r_63_2, r_63_3, r_63_4, r_63_5, r_63_6, r_63_7, r_72_0, r_72_1, r_72_2, r_72_3, r_72_4, r_72_5, r_72_6, r_72_7, r_81_0, r_81_1, r_81_2, r_81_3, r_81_4, r_81_5, r_81_6, r_81_7, r_90_0, r_90_1, r_90_2, r_90_3, r_90_4, r_90_5, r_90_6, r_90_7, r_99_0, r_99_1, r_99_2, r_99_3, r_99_4, r_99_5, r_99_6, r_99_7, r_108_0, r_108_1, r_108_2, r_108_3, r_108_4, r_108_5, r_108_6, r_108_7, r_117_0, r_117_1, r_117_2, r_117_3, r_117_4, r_117_5, r_117_6, r_117_7, r_126_0, r_126_1, r_126_2, r_126_3, r_126_4, r_132_0, r_132_1, r_135_0, r_135_1, r_135_2, r_135_3, r_135_4, r_135_5, r_142_0, r_144_0, r_144_1, r_144_2, r_145_0, r_145_1, r_145_2, r_145_3, r_145_4, r_145_5, r_145_6, r_154_0, r_154_1, r_155_0, r_157_0, r_157_1, r_157_2, r_157_3, r_157_6, r_157_7, r_157_8, r_157_9, r_157_10, r_157_11, r_157_27, r_157_28, r_157_29, r_157_30, ↓z_m1, l_0, l_1, l_2, l_3, l_4, l_5, l_6, l_7, l_8, l_9, l_10, l_11, l_12, l_13, l_14, l_15, l_16, l_17, l_18, l_19, l_20, l_21, l_22, l_23, l_24, l_25, l_26, l_27, l_28, l_29, l_30, l_31, l_32, l_33, l_34, l_35, l_36, l_37, l_38, l_39, l_40, l_41, l_42, l_43, l_44, l_45, l_46, l_47, l_48, l_49, l_50, l_51, l_52, l_53, l_54, l_55, l_56, l_57, l_59, l_60, l_61, l_62, l_63, l_64, l_65, l_80, l_86, l_87, l_88, l_89, l_90, l_91, l_92, l_93, l_94, l_95, l_97, l_99, l_100, l_107, l_119, l_122, l_124, l_129, l_140, l_141, l_142, l_143, l_144, l_145, l_147, l_150, l_159, l_160, l_161, l_162, l_205, l_253, l_255, l_256, l_269, l_305, l_380, l_399, l_400, l_420, l_430, l_516, l_600, l_720, l_820, l_905, l_921, l_937, l_953, l_970, l_999, l_1000, l_1790, l_4096, l_9999, l_1000000]
    · simp (disch := omega) only [u4, u5, u6, t7, ↓reduceIte, ↓p_ld, ↓p_st, ↓p_nm, ↓p_nS, ↓p_jn, ↓p_call, ↓p_callv, ↓p_dv, ↓p_rem, h_ldE, h_stE, h_nmE, h_nSE, h_callE, h_callvE, h_dvE, h_remE, if_true, if_false, z_upS, z_upO, z_upK, nI_add, z_mul, z_sub, z_div, Nat.add_zero, Nat.mul_zero, Nat.zero_add, Nat.sub_zero, Nat.zero_mul, z_ltT, z_ltF, z_leT, z_leF, z_eqT, z_eqF, z_inT, z_clT, not_true_eq_false, not_false_eq_true, eq_self, true_or, or_true, z_m_lt, z_m_le, z_lt_m, z_le_m, z_eq_m, z_m_eq, z_rz0, z_rz1, z_m_add, z_of, r_0_0, r_0_1, r_0_3, r_0_4, r_0_5, r_0_6, r_0_7, r_0_8, r_0_9, r_0_10, r_1_0, r_1_1, r_1_2, r_1_3, r_1_4, r_1_5, r_1_6, r_1_7, r_1_8, r_2_0, r_2_1, r_2_2, r_2_3, r_2_4, r_2_5, r_2_6, r_2_7, r_11_0, r_11_1, r_11_2, r_11_3, r_11_4, r_11_5, r_11_6, r_19_0, r_21_0, r_23_0, r_25_0, r_27_0, r_31_0, r_31_1, r_31_2, r_31_3, r_31_4, r_31_5, r_31_6, r_31_7, r_31_8, r_32_0, r_32_1, r_32_2, r_32_3, r_32_4, r_32_5, r_32_6, r_32_7, r_41_0, r_41_1, r_41_2, r_41_3, r_41_4, r_41_5, r_41_6, r_49_0, r_51_0, r_53_0, r_55_0, r_57_0, r_61_0, r_63_0, r_63_1, r_63_2, r_63_3, r_63_4, r_63_5, r_63_6, r_63_7, r_72_0, r_72_1, r_72_2, r_72_3, r_72_4, r_72_5, r_72_6, r_72_7, r_81_0, r_81_1, r_81_2, r_81_3, r_81_4, r_81_5, r_81_6, r_81_7, r_90_0, r_90_1, r_90_2, r_90_3, r_90_4, r_90_5, r_90_6, r_90_7, r_99_0, r_99_1, r_99_2, r_99_3, r_99_4, r_99_5, r_99_6, r_99_7, r_108_0, r_108_1, r_108_2, r_108_3, r_108_4, r_108_5, r_108_6, r_108_7, r_117_0, r_117_1, r_117_2, r_117_3, r_117_4, r_117_5, r_117_6, r_117_7, r_126_0, r_126_1, r_126_2, r_126_3, r_126_4, r_132_0, r_132_1, r_135_0, r_135_1, r_135_2, r_135_3, r_135_4, r_135_5, r_142_0, r_144_0, r_144_1, r_144_2, r_145_0, r_145_1, r_145_2, r_145_3, r_145_4, r_145_5, r_145_6, r_154_0, r_154_1, r_155_0, r_157_0, r_157_1, r_157_2, r_157_3, r_157_6, r_157_7, r_157_8, r_157_9, r_157_10, r_157_11, r_157_27, r_157_28, r_157_29, r_157_30, ↓z_m1, l_0, l_1, l_2, l_3, l_4, l_5, l_6, l_7, l_8, l_9, l_10, l_11, l_12, l_13, l_14, l_15, l_16, l_17, l_18, l_19, l_20, l_21, l_22, l_23, l_24, l_25, l_26, l_27, l_28, l_29, l_30, l_31, l_32, l_33, l_34, l_35, l_36, l_37, l_38, l_39, l_40, l_41, l_42, l_43, l_44, l_45, l_46, l_47, l_48, l_49, l_50, l_51, l_52, l_53, l_54, l_55, l_56, l_57, l_59, l_60, l_61, l_62, l_63, l_64, l_65, l_80, l_86, l_87, l_88, l_89, l_90, l_91, l_92, l_93, l_94, l_95, l_97, l_99, l_100, l_107, l_119, l_122, l_124, l_129, l_140, l_141, l_142, l_143, l_144, l_145, l_147, l_150, l_159, l_160, l_161, l_162, l_205, l_253, l_255, l_256, l_269, l_305, l_380, l_399, l_400, l_420, l_430, l_516, l_600, l_720, l_820, l_905, l_921, l_937, l_953, l_970, l_999, l_1000, l_1790, l_4096, l_9999, l_1000000]
    · simp (disch := omega) only [u4, u5, u6, u7, t8, ↓reduceIte, ↓p_ld, ↓p_st, ↓p_nm, ↓p_nS, ↓p_jn, ↓p_call, ↓p_callv, ↓p_dv, ↓p_rem, h_ldE, h_stE, h_nmE, h_nSE, h_callE, h_callvE, h_dvE, h_remE, if_true, if_false, z_upS, z_upO, z_upK, nI_add, z_mul, z_sub, z_div, Nat.add_zero, Nat.mul_zero, Nat.zero_add, Nat.sub_zero, Nat.zero_mul, z_ltT, z_ltF, z_leT, z_leF, z_eqT, z_eqF, z_inT, z_clT, not_true_eq_false, not_false_eq_true, eq_self, true_or, or_true, z_m_lt, z_m_le, z_lt_m, z_le_m, z_eq_m, z_m_eq, z_rz0, z_rz1, z_m_add, z_of, r_0_0, r_0_1, r_0_3, r_0_4, r_0_5, r_0_6, r_0_7, r_0_8, r_0_9, r_0_10, r_1_0, r_1_1, r_1_2, r_1_3, r_1_4, r_1_5, r_1_6, r_1_7, r_1_8, r_2_0, r_2_1, r_2_2, r_2_3, r_2_4, r_2_5, r_2_6, r_2_7, r_11_0, r_11_1, r_11_2, r_11_3, r_11_4, r_11_5, r_11_6, r_19_0, r_21_0, r_23_0, r_25_0, r_27_0, r_31_0, r_31_1, r_31_2, r_31_3, r_31_4, r_31_5, r_31_6, r_31_7, r_31_8, r_32_0, r_32_1, r_32_2, r_32_3, r_32_4, r_32_5, r_32_6, r_32_7, r_41_0, r_41_1, r_41_2, r_41_3, r_41_4, r_41_5, r_41_6, r_49_0, r_51_0, r_53_0, r_55_0, r_57_0, r_61_0, r_63_0, r_63_1, r_63_2, r_63_3, r_63_4, r_63_5, r_63_6, r_63_7, r_72_0, r_72_1, r_72_2, r_72_3, r_72_4, r_72_5, r_72_6, r_72_7, r_81_0, r_81_1, r_81_2, r_81_3, r_81_4, r_81_5, r_81_6, r_81_7, r_90_0, r_90_1, r_90_2, r_90_3, r_90_4, r_90_5, r_90_6, r_90_7, r_99_0, r_99_1, r_99_2, r_99_3, r_99_4, r_99_5, r_99_6, r_99_7, r_108_0, r_108_1, r_108_2, r_108_3, r_108_4, r_108_5, r_108_6, r_108_7, r_117_0, r_117_1, r_117_2, r_117_3, r_117_4, r_117_5, r_117_6, r_117_7, r_126_0, r_126_1, r_126_2, r_126_3, r_126_4, r_132_0, r_132_1, r_135_0, r_135_1, r_135_2, r_135_3, r_135_4, r_135_5, r_142_0, r_144_0, r_144_1, r_144_2, r_145_0, r_145_1, r_145_2, r_145_3, r_145_4, r_145_5, r_145_6, r_154_0, r_154_1, r_155_0, r_157_0, r_157_1, r_157_2, r_157_3, r_157_6, r_157_7, r_157_8, r_157_9, r_157_10, r_157_11, r_157_27, r_157_28, r_157_29, r_157_30, ↓z_m1, l_0, l_1, l_2, l_3, l_4, l_5, l_6, l_7, l_8, l_9, l_10, l_11, l_12, l_13, l_14, l_15, l_16, l_17, l_18, l_19, l_20, l_21, l_22, l_23, l_24, l_25, l_26, l_27, l_28, l_29, l_30, l_31, l_32, l_33, l_34, l_35, l_36, l_37, l_38, l_39, l_40, l_41, l_42, l_43, l_44, l_45, l_46, l_47, l_48, l_49, l_50, l_51, l_52, l_53, l_54, l_55, l_56, l_57, l_59, l_60, l_61, l_62, l_63, l_64, l_65, l_80, l_86, l_87, l_88, l_89, l_90, l_91, l_92, l_93, l_94, l_95, l_97, l_99, l_100, l_107, l_119, l_122, l_124, l_129, l_140, l_141, l_142, l_143, l_144, l_145, l_147, l_150, l_159, l_160, l_161, l_162, l_205, l_253, l_255, l_256, l_269, l_305, l_380, l_399, l_400, l_420, l_430, l_516, l_600, l_720, l_820, l_905, l_921, l_937, l_953, l_970, l_999, l_1000, l_1790, l_4096, l_9999, l_1000000]
    · simp (disch := omega) only [u4, u5, u6, u7, u8, t9, ↓reduceIte, ↓p_ld, ↓p_st, ↓p_nm, ↓p_nS, ↓p_jn, ↓p_call, ↓p_callv, ↓p_dv, ↓p_rem, h_ldE, h_stE, h_nmE, h_nSE, h_callE, h_callvE, h_dvE, h_remE, if_true, if_false, z_upS, z_upO, z_upK, nI_add, z_mul, z_sub, z_div, Nat.add_zero, Nat.mul_zero, Nat.zero_add, Nat.sub_zero, Nat.zero_mul, z_ltT, z_ltF, z_leT, z_leF, z_eqT, z_eqF, z_inT, z_clT, not_true_eq_false, not_false_eq_true, eq_self, true_or, or_true, z_m_lt, z_m_le, z_lt_m, z_le_m, z_eq_m, z_m_eq, z_rz0, z_rz1, z_m_add, z_of, r_0_0, r_0_1, r_0_3, r_0_4, r_0_5, r_0_6, r_0_7, r_0_8, r_0_9, r_0_10, r_1_0, r_1_1, r_1_2, r_1_3, r_1_4, r_1_5, r_1_6, r_1_7, r_1_8, r_2_0, r_2_1, r_2_2, r_2_3, r_2_4, r_2_5, r_2_6, r_2_7, r_11_0, r_11_1, r_11_2, r_11_3, r_11_4, r_11_5, r_11_6, r_19_0, r_21_0, r_23_0, r_25_0, r_27_0, r_31_0, r_31_1, r_31_2, r_31_3, r_31_4, r_31_5, r_31_6, r_31_7, r_31_8, r_32_0, r_32_1, r_32_2, r_32_3, r_32_4, r_32_5, r_32_6, r_32_7, r_41_0, r_41_1, r_41_2, r_41_3, r_41_4, r_41_5, r_41_6, r_49_0, r_51_0, r_53_0, r_55_0, r_57_0, r_61_0, r_63_0, r_63_1, r_63_2, r_63_3, r_63_4, r_63_5, r_63_6, r_63_7, r_72_0, r_72_1, r_72_2, r_72_3, r_72_4, r_72_5, r_72_6, r_72_7, r_81_0, r_81_1, r_81_2, r_81_3, r_81_4, r_81_5, r_81_6, r_81_7, r_90_0, r_90_1, r_90_2, r_90_3, r_90_4, r_90_5, r_90_6, r_90_7, r_99_0, r_99_1, r_99_2, r_99_3, r_99_4, r_99_5, r_99_6, r_99_7, r_108_0, r_108_1, r_108_2, r_108_3, r_108_4, r_108_5, r_108_6, r_108_7, r_117_0, r_117_1, r_117_2, r_117_3, r_117_4, r_117_5, r_117_6, r_117_7, r_126_0, r_126_1, r_126_2, r_126_3, r_126_4, r_132_0, r_132_1, r_135_0, r_135_1, r_135_2, r_135_3, r_135_4, r_135_5, r_142_0, r_144_0, r_144_1, r_144_2, r_145_0, r_145_1, r_145_2, r_145_3, r_145_4, r_145_5, r_145_6, r_154_0, r_154_1, r_155_0, r_157_0, r_157_1, r_157_2, r_157_3, r_157_6, r_157_7, r_157_8, r_157_9, r_157_10, r_157_11, r_157_27, r_157_28, r_157_29, r_157_30, ↓z_m1, l_0, l_1, l_2, l_3, l_4, l_5, l_6, l_7, l_8, l_9, l_10, l_11, l_12, l_13, l_14, l_15, l_16, l_17, l_18, l_19, l_20, l_21, l_22, l_23, l_24, l_25, l_26, l_27, l_28, l_29, l_30, l_31, l_32, l_33, l_34, l_35, l_36, l_37, l_38, l_39, l_40, l_41, l_42, l_43, l_44, l_45, l_46, l_47, l_48, l_49, l_50, l_51, l_52, l_53, l_54, l_55, l_56, l_57, l_59, l_60, l_61, l_62, l_63, l_64, l_65, l_80, l_86, l_87, l_88, l_89, l_90, l_91, l_92, l_93, l_94, l_95, l_97, l_99, l_100, l_107, l_119, l_122, l_124, l_129, l_140, l_141, l_142, l_143, l_144, l_145, l_147, l_150, l_159, l_160, l_161, l_162, l_205, l_253, l_255, l_256, l_269, l_305, l_380, l_399, l_400, l_420, l_430, l_516, l_600, l_720, l_820, l_905, l_921, l_937, l_953, l_970, l_999, l_1000, l_1790, l_4096, l_9999, l_1000000]
    · simp (disch := omega) only [u4, u5, u6, u7, u8, u9, t10, ↓reduceIte, ↓p_ld, ↓p_st, ↓p_nm, ↓p_nS, ↓p_jn, ↓p_call, ↓p_callv, ↓p_dv, ↓p_rem, h_ldE, h_stE, h_nmE, h_nSE, h_callE, h_callvE, h_dvE, h_remE, if_true, if_false, z_upS, z_upO, z_upK, nI_add, z_mul, z_sub, z_div, Nat.add_zero, Nat.mul_zero, Nat.zero_add, Nat.sub_zero, Nat.zero_mul, z_ltT, z_ltF, z_leT, z_leF, z_eqT, z_eqF, z_inT, z_clT, not_true_eq_false, not_false_eq_true, eq_self, true_or, or_true, z_m_lt, z_m_le, z_lt_m, z_le_m, z_eq_m, z_m_eq, z_rz0, z_rz1, z_m_add, z_of, r_0_0, r_0_1, r_0_3, r_0_4, r_0_5, r_0_6, r_0_7, r_0_8, r_0_9, r_0_10, r_1_0, r_1_1, r_1_2, r_1_3, r_1_4, r_1_5, r_1_6, r_1_7, r_1_8, r_2_0, r_2_1, r_2_2, r_2_3, r_2_4, r_2_5, r_2_6, r_2_7, r_11_0, r_11_1, r_11_2, r_11_3, r_11_4, r_11_5, r_11_6, r_19_0, r_21_0, r_23_0, r_25_0, r_27_0, r_31_0, r_31_1, r_31_2, r_31_3, r_31_4, r_31_5, r_31_6, r_31_7, r_31_8, r_32_0, r_32_1, r_32_2, r_32_3, r_32_4, r_32_5, r_32_6, r_32_7, r_41_0, r_41_1, r_41_2, r_41_3, r_41_4, r_41_5, r_41_6, r_49_0, r_51_0, r_53_0, r_55_0, r_57_0, r_61_0, r_63_0, r_63_1, r_63_2, r_63_3, r_63_4, r_63_5, r_63_6, r_63_7, r_72_0, r_72_1, r_72_2, r_72_3, r_72_4, r_72_5, r_72_6, r_72_7, r_81_0, r_81_1, r_81_2, r_81_3, r_81_4, r_81_5, r_81_6, r_81_7, r_90_0, r_90_1, r_90_2, r_90_3, r_90_4, r_90_5, r_90_6, r_90_7, r_99_0, r_99_1, r_99_2, r_99_3, r_99_4, r_99_5, r_99_6, r_99_7, r_108_0, r_108_1, r_108_2, r_108_3, r_108_4, r_108_5, r_108_6, r_108_7, r_117_0, r_117_1, r_117_2, r_117_3, r_117_4, r_117_5, r_117_6, r_117_7, r_126_0, r_126_1, r_126_2, r_126_3, r_126_4, r_132_0, r_132_1, r_135_0, r_135_1, r_135_2, r_135_3, r_135_4, r_135_5, r_142_0, r_144_0, r_144_1, r_144_2, r_145_0, r_145_1, r_145_2, r_145_3, r_145_4, r_145_5, r_145_6, r_154_0, r_154_1, r_155_0, r_157_0, r_157_1, r_157_2, r_157_3, r_157_6, r_157_7, r_157_8, r_157_9, r_157_10, r_157_11, r_157_27, r_157_28, r_157_29, r_157_30, ↓z_m1, l_0, l_1, l_2, l_3, l_4, l_5, l_6, l_7, l_8, l_9, l_10, l_11, l_12, l_13, l_14, l_15, l_16, l_17, l_18, l_19, l_20, l_21, l_22, l_23, l_24, l_25, l_26, l_27, l_28, l_29, l_30, l_31, l_32, l_33, l_34, l_35, l_36, l_37, l_38, l_39, l_40, l_41, l_42, l_43, l_44, l_45, l_46, l_47, l_48, l_49, l_50, l_51, l_52, l_53, l_54, l_55, l_56, l_57, l_59, l_60, l_61, l_62, l_63, l_64, l_65, l_80, l_86, l_87, l_88, l_89, l_90, l_91, l_92, l_93, l_94, l_95, l_97, l_99, l_100, l_107, l_119, l_122, l_124, l_129, l_140, l_141, l_142, l_143, l_144, l_145, l_147, l_150, l_159, l_160, l_161, l_162, l_205, l_253, l_255, l_256, l_269, l_305, l_380, l_399, l_400, l_420, l_430, l_516, l_600, l_720, l_820, l_905, l_921, l_937, l_953, l_970, l_999, l_1000, l_1790, l_4096, l_9999, l_1000000]
    · simp (disch := omega) only [u4, u5, u6, u7, u8, u9, u10, t11, ↓reduceIte, ↓p_ld, ↓p_st, ↓p_nm, ↓p_nS, ↓p_jn, ↓p_call, ↓p_callv, ↓p_dv, ↓p_rem, h_ldE, h_stE, h_nmE, h_nSE, h_callE, h_callvE, h_dvE, h_remE, if_true, if_false, z_upS, z_upO, z_upK, nI_add, z_mul, z_sub, z_div, Nat.add_zero, Nat.mul_zero, Nat.zero_add, Nat.sub_zero, Nat.zero_mul, z_ltT, z_ltF, z_leT, z_leF, z_eqT, z_eqF, z_inT, z_clT, not_true_eq_false, not_false_eq_true, eq_self, true_or, or_true, z_m_lt, z_m_le, z_lt_m, z_le_m, z_eq_m, z_m_eq, z_rz0, z_rz1, z_m_add, z_of, r_0_0, r_0_1, r_0_3, r_0_4, r_0_5, r_0_6, r_0_7, r_0_8, r_0_9, r_0_10, r_1_0, r_1_1, r_1_2, r_1_3, r_1_4, r_1_5, r_1_6, r_1_7, r_1_8, r_2_0, r_2_1, r_2_2, r_2_3, r_2_4, r_2_5, r_2_6, r_2_7, r_11_0, r_11_1, r_11_2, r_11_3, r_11_4, r_11_5, r_11_6, r_19_0, r_21_0, r_23_0, r_25_0, r_27_0, r_31_0, r_31_1, r_31_2, r_31_3, r_31_4, r_31_5, r_31_6, r_31_7, r_31_8, r_32_0, r_32_1, r_32_2, r_32_3, r_32_4, r_32_5, r_32_6, r_32_7, r_41_0, r_41_1, r_41_2, r_41_3, r_41_4, r_41_5, r_41_6, r_49_0, r_51_0, r_53_0, r_55_0, r_57_0, r_61_0, r_63_0, r_63_1, r_63_2, r_63_3, r_63_4, r_63_5, r_63_6, r_63_7, r_72_0, r_72_1, r_72_2, r_72_3, r_72_4, r_72_5, r_72_6, r_72_7, r_81_0, r_81_1, r_81_2, r_81_3, r_81_4, r_81_5, r_81_6, r_81_7, r_90_0, r_90_1, r_90_2, r_90_3, r_90_4, r_90_5, r_90_6, r_90_7, r_99_0, r_99_1, r_99_2, r_99_3, r_99_4, r_99_5, r_99_6, r_99_7, r_108_0, r_108_1, r_108_2, r_108_3, r_108_4, r_108_5, r_108_6, r_108_7, r_117_0, r_117_1, r_117_2, r_117_3, r_117_4, r_117_5, r_117_6, r_117_7, r_126_0, r_126_1, r_126_2, r_126_3, r_126_4, r_132_0, r_132_1, r_135_0, r_135_1, r_135_2, r_135_3, r_135_4, r_135_5, r_142_0, r_144_0, r_144_1, r_144_2, r_145_0, r_145_1, r_145_2, r_145_3, r_145_4, r_145_5, r_145_6, r_154_0, r_154_1, r_155_0, r_157_0, r_157_1, r_157_2, r_157_3, r_157_6, r_157_7, r_157_8, r_157_9, r_157_10, r_157_11, r_157_27, r_157_28, r_157_29, r_157_30, ↓z_m1, l_0, l_1, l_2, l_3, l_4, l_5, l_6, l_7, l_8, l_9, l_10, l_11, l_12, l_13, l_14, l_15, l_16, l_17, l_18, l_19, l_20, l_21, l_22, l_23, l_24, l_25, l_26, l_27, l_28, l_29, l_30, l_31, l_32, l_33, l_34, l_35, l_36, l_37, l_38, l_39, l_40, l_41, l_42, l_43, l_44, l_45, l_46, l_47, l_48, l_49, l_50, l_51, l_52, l_53, l_54, l_55, l_56, l_57, l_59, l_60, l_61, l_62, l_63, l_64, l_65, l_80, l_86, l_87, l_88, l_89, l_90, l_91, l_92, l_93, l_94, l_95, l_97, l_99, l_100, l_107, l_119, l_122, l_124, l_129, l_140, l_141, l_142, l_143, l_144, l_145, l_147, l_150, l_159, l_160, l_161, l_162, l_205, l_253, l_255, l_256, l_269, l_305, l_380, l_399, l_400, l_420, l_430, l_516, l_600, l_720, l_820, l_905, l_921, l_937, l_953, l_970, l_999, l_1000, l_1790, l_4096, l_9999, l_1000000]
    · simp (disch := omega) only [u4, u5, u6, u7, u8, u9, u10, u11, t12, ↓reduceIte, ↓p_ld, ↓p_st, ↓p_nm, ↓p_nS, ↓p_jn, ↓p_call, ↓p_callv, ↓p_dv, ↓p_rem, h_ldE, h_stE, h_nmE, h_nSE, h_callE, h_callvE, h_dvE, h_remE, if_true, if_false, z_upS, z_upO, z_upK, nI_add, z_mul, z_sub, z_div, Nat.add_zero, Nat.mul_zero, Nat.zero_add, Nat.sub_zero, Nat.zero_mul, z_ltT, z_ltF, z_leT, z_leF, z_eqT, z_eqF, z_inT, z_clT, not_true_eq_false, not_false_eq_true, eq_self, true_or, or_true, z_m_lt, z_m_le, z_lt_m, z_le_m, z_eq_m, z_m_eq, z_rz0, z_rz1, z_m_add, z_of, r_0_0, r_0_1, r_0_3, r_0_4, r_0_5, r_0_6, r_0_7, r_0_8, r_0_9, r_0_10, r_1_0, r_1_1, r_1_2, r_1_3, r_1_4, r_1_5, r_1_6, r_1_7, r_1_8, r_2_0, r_2_1, r_2_2, r_2_3, r_2_4, r_2_5, r_2_6, r_2_7, r_11_0, r_11_1, r_11_2, r_11_3, r_11_4, r_11_5, r_11_6, r_19_0, r_21_0, r_23_0, r_25_0, r_27_0, r_31_0, r_31_1, r_31_2, r_31_3, r_31_4, r_31_5, r_31_6, r_31_7, r_31_8, r_32_0, r_32_1, r_32_2, r_32_3, r_32_4, r_32_5, r_32_6, r_32_7, r_41_0, r_41_1, r_41_2, r_41_3, r_41_4, r_41_5, r_41_6, r_49_0, r_51_0, r_53_0, r_55_0, r_57_0, r_61_0, r_63_0, r_63_1, r_63_2, r_63_3, r_63_4, r_63_5, r_63_6, r_63_7, r_72_0, r_72_1, r_72_2, r_72_3, r_72_4, r_72_5, r_72_6, r_72_7, r_81_0, r_81_1, r_81_2, r_81_3, r_81_4, r_81_5, r_81_6, r_81_7, r_90_0, r_90_1, r_90_2, r_90_3, r_90_4, r_90_5, r_90_6, r_90_7, r_99_0, r_99_1, r_99_2, r_99_3, r_99_4, r_99_5, r_99_6, r_99_7, r_108_0, r_108_1, r_108_2, r_108_3, r_108_4, r_108_5, r_108_6, r_108_7, r_117_0, r_117_1, r_117_2, r_117_3, r_117_4, r_117_5, r_117_6, r_117_7, r_126_0, r_126_1, r_126_2, r_126_3, r_126_4, r_132_0, r_132_1, r_135_0, r_135_1, r_135_2, r_135_3, r_135_4, r_135_5, r_142_0, r_144_0, r_144_1, r_144_2, r_145_0, r_145_1, r_145_2, r_145_3, r_145_4, r_145_5, r_145_6, r_154_0, r_154_1, r_155_0, r_157_0, r_157_1, r_157_2, r_157_3, r_157_6, r_157_7, r_157_8, r_157_9, r_157_10, r_157_11, r_157_27, r_157_28, r_157_29, r_157_30, ↓z_m1, l_0, l_1, l_2, l_3, l_4, l_5, l_6, l_7, l_8, l_9, l_10, l_11, l_12, l_13, l_14, l_15, l_16, l_17, l_18, l_19, l_20, l_21, l_22, l_23, l_24, l_25, l_26, l_27, l_28, l_29, l_30, l_31, l_32, l_33, l_34, l_35, l_36, l_37, l_38, l_39, l_40, l_41, l_42, l_43, l_44, l_45, l_46, l_47, l_48, l_49, l_50, l_51, l_52, l_53, l_54, l_55, l_56, l_57, l_59, l_60, l_61, l_62, l_63, l_64, l_65, l_80, l_86, l_87, l_88, l_89, l_90, l_91, l_92, l_93, l_94, l_95, l_97, l_99, l_100, l_107, l_119, l_122, l_124, l_129, l_140, l_141, l_142, l_143, l_144, l_145, l_147, l_150, l_159, l_160, l_161, l_162, l_205, l_253, l_255, l_256, l_269, l_305, l_380, l_399, l_400, l_420, l_430, l_516, l_600, l_720, l_820, l_905, l_921, l_937, l_953, l_970, l_999, l_1000, l_1790, l_4096, l_9999, l_1000000]
    · simp (disch := omega) only [u4, u5, u6, u7, u8, u9, u10, u11, u12, t13, ↓reduceIte, ↓p_ld, ↓p_st, ↓p_nm, ↓p_nS, ↓p_jn, ↓p_call, ↓p_callv, ↓p_dv, ↓p_rem, h_ldE, h_stE, h_nmE, h_nSE, h_callE, h_callvE, h_dvE, h_remE, if_true, if_false, z_upS, z_upO, z_upK, nI_add, z_mul, z_sub, z_div, Nat.add_zero, Nat.mul_zero, Nat.zero_add, Nat.sub_zero, Nat.zero_mul, z_ltT, z_ltF, z_leT, z_leF, z_eqT, z_eqF, z_inT, z_clT, not_true_eq_false, not_false_eq_true, eq_self, true_or, or_true, z_m_lt, z_m_le, z_lt_m, z_le_m, z_eq_m, z_m_eq, z_rz0, z_rz1, z_m_add, z_of, r_0_0, r_0_1, r_0_3, r_0_4, r_0_5, r_0_6, r_0_7, r_0_8, r_0_9, r_0_10, r_1_0, r_1_1, r_1_2, r_1_3, r_1_4, r_1_5, r_1_6, r_1_7, r_1_8, r_2_0, r_2_1, r_2_2, r_2_3, r_2_4, r_2_5, r_2_6, r_2_7, r_11_0, r_11_1, r_11_2, r_11_3, r_11_4, r_11_5, r_11_6, r_19_0, r_21_0, r_23_0, r_25_0, r_27_0, r_31_0, r_31_1, r_31_2, r_31_3, r_31_4, r_31_5, r_31_6, r_31_7, r_31_8, r_32_0, r_32_1, r_32_2, r_32_3, r_32_4, r_32_5, r_32_6, r_32_7, r_41_0, r_41_1, r_41_2, r_41_3, r_41_4, r_41_5, r_41_6, r_49_0, r_51_0, r_53_0, r_55_0, r_57_0, r_61_0, r_63_0, r_63_1, r_63_2, r_63_3, r_63_4, r_63_5, r_63_6, r_63_7, r_72_0, r_72_1, r_72_2, r_72_3, r_72_4, r_72_5, r_72_6, r_72_7, r_81_0, r_81_1, r_81_2, r_81_3, r_81_4, r_81_5, r_81_6, r_81_7, r_90_0, r_90_1, r_90_2, r_90_3, r_90_4, r_90_5, r_90_6, r_90_7, r_99_0, r_99_1, r_99_2, r_99_3, r_99_4, r_99_5, r_99_6, r_99_7, r_108_0, r_108_1, r_108_2, r_108_3, r_108_4, r_108_5, r_108_6, r_108_7, r_117_0, r_117_1, r_117_2, r_117_3, r_117_4, r_117_5, r_117_6, r_117_7, r_126_0, r_126_1, r_126_2, r_126_3, r_126_4, r_132_0, r_132_1, r_135_0, r_135_1, r_135_2, r_135_3, r_135_4, r_135_5, r_142_0, r_144_0, r_144_1, r_144_2, r_145_0, r_145_1, r_145_2, r_145_3, r_145_4, r_145_5, r_145_6, r_154_0, r_154_1, r_155_0, r_157_0, r_157_1, r_157_2, r_157_3, r_157_6, r_157_7, r_157_8, r_157_9, r_157_10, r_157_11, r_157_27, r_157_28, r_157_29, r_157_30, ↓z_m1, l_0, l_1, l_2, l_3, l_4, l_5, l_6, l_7, l_8, l_9, l_10, l_11, l_12, l_13, l_14, l_15, l_16, l_17, l_18, l_19, l_20, l_21, l_22, l_23, l_24, l_25, l_26, l_27, l_28, l_29, l_30, l_31, l_32, l_33, l_34, l_35, l_36, l_37, l_38, l_39, l_40, l_41, l_42, l_43, l_44, l_45, l_46, l_47, l_48, l_49, l_50, l_51, l_52, l_53, l_54, l_55, l_56, l_57, l_59, l_60, l_61, l_62, l_63, l_64, l_65, l_80, l_86, l_87, l_88, l_89, l_90, l_91, l_92, l_93, l_94, l_95, l_97, l_99, l_100, l_107, l_119, l_122, l_124, l_129, l_140, l_141, l_142, l_143, l_144, l_145, l_147, l_150, l_159, l_160, l_161, l_162, l_205, l_253, l_255, l_256, l_269, l_305, l_380, l_399, l_400, l_420, l_430, l_516, l_600, l_720, l_820, l_905, l_921, l_937, l_953, l_970, l_999, l_1000, l_1790, l_4096, l_9999, l_1000000]
  · rw [if_neg q]
    simp (disch := omega) only [u4, u5, u6, u7, u8, u9, u10, u11, u12, u13, ↓reduceIte, ↓p_ld, ↓p_st, ↓p_nm, ↓p_nS, ↓p_jn, ↓p_call, ↓p_callv, ↓p_dv, ↓p_rem, h_ldE, h_stE, h_nmE, h_nSE, h_callE, h_callvE, h_dvE, h_remE, if_true, if_false, z_upS, z_upO, z_upK, nI_add, z_mul, z_sub, z_div, Nat.add_zero, Nat.mul_zero, Nat.zero_add, Nat.sub_zero, Nat.zero_mul, z_ltT, z_ltF, z_leT, z_leF, z_eqT, z_eqF, z_inT, z_clT, not_true_eq_false, not_false_eq_true, eq_self, true_or, or_true, z_m_lt, z_m_le, z_lt_m, z_le_m, z_eq_m, z_m_eq, z_rz0, z_rz1, z_m_add, z_of, r_0_0, r_0_1, r_0_3, r_0_4, r_0_5, r_0_6, r_0_7, r_0_8, r_0_9, r_0_10, r_1_0, r_1_1, r_1_2, r_1_3, r_1_4, r_1_5, r_1_6, r_1_7, r_1_8, r_2_0, r_2_1, r_2_2, r_2_3, r_2_4, r_2_5, r_2_6, r_2_7, r_11_0, r_11_1, r_11_2, r_11_3, r_11_4, r_11_5, r_11_6, r_19_0, r_21_0, r_23_0, r_25_0, r_27_0, r_31_0, r_31_1, r_31_2, r_31_3, r_31_4, r_31_5, r_31_6, r_31_7, r_31_8, r_32_0, r_32_1, r_32_2, r_32_3, r_32_4, r_32_5, r_32_6, r_32_7, r_41_0, r_41_1, r_41_2, r_41_3, r_41_4, r_41_5, r_41_6, r_49_0, r_51_0, r_53_0, r_55_0, r_57_0, r_61_0, r_63_0, r_63_1, r_63_2, r_63_3, r_63_4, r_63_5, r_63_6, r_63_7, r_72_0, r_72_1, r_72_2, r_72_3, r_72_4, r_72_5, r_72_6, r_72_7, r_81_0, r_81_1, r_81_2, r_81_3, r_81_4, r_81_5, r_81_6, r_81_7, r_90_0, r_90_1, r_90_2, r_90_3, r_90_4, r_90_5, r_90_6, r_90_7, r_99_0, r_99_1, r_99_2, r_99_3, r_99_4, r_99_5, r_99_6, r_99_7, r_108_0, r_108_1, r_108_2, r_108_3, r_108_4, r_108_5, r_108_6, r_108_7, r_117_0, r_117_1, r_117_2, r_117_3, r_117_4, r_117_5, r_117_6, r_117_7, r_126_0, r_126_1, r_126_2, r_126_3, r_126_4, r_132_0, r_132_1, r_135_0, r_135_1, r_135_2, r_135_3, r_135_4, r_135_5, r_142_0, r_144_0, r_144_1, r_144_2, r_145_0, r_145_1, r_145_2, r_145_3, r_145_4, r_145_5, r_145_6, r_154_0, r_154_1, r_155_0, r_157_0, r_157_1, r_157_2, r_157_3, r_157_6, r_157_7, r_157_8, r_157_9, r_157_10, r_157_11, r_157_27, r_157_28, r_157_29, r_157_30, ↓z_m1, l_0, l_1, l_2, l_3, l_4, l_5, l_6, l_7, l_8, l_9, l_10, l_11, l_12, l_13, l_14, l_15, l_16, l_17, l_18, l_19, l_20, l_21, l_22, l_23, l_24, l_25, l_26, l_27, l_28, l_29, l_30, l_31, l_32, l_33, l_34, l_35, l_36, l_37, l_38, l_39, l_40, l_41, l_42, l_43, l_44, l_45, l_46, l_47, l_48, l_49, l_50, l_51, l_52, l_53, l_54, l_55, l_56, l_57, l_59, l_60, l_61, l_62, l_63, l_64, l_65, l_80, l_86, l_87, l_88, l_89, l_90, l_91, l_92, l_93, l_94, l_95, l_97, l_99, l_100, l_107, l_119, l_122, l_124, l_129, l_140, l_141, l_142, l_143, l_144, l_145, l_147, l_150, l_159, l_160, l_161, l_162, l_205, l_253, l_255, l_256, l_269, l_305, l_380, l_399, l_400, l_420, l_430, l_516, l_600, l_720, l_820, l_905, l_921, l_937, l_953, l_970, l_999, l_1000, l_1790, l_4096, l_9999, l_1000000]
theorem c_emitD {N ex iw x v p : Nat} {ic : Bool} {T : zt_T} {W : List Nat} {O : List (Nat × Nat)} {σ : q_Sto} (hC : zt_C σ T p) (hl : O.length < 400) (h : zl_D σ N W O ex iw ic) : ∃ σ', zl_fT N σ σ' ∧ σ' 142 = σ 142 ∧ zt_C σ' T p ∧ zl_D σ' N W ((x, v) :: O) ex iw ic ∧ f_X2_emit q_F 145 (nI x) (nI v) σ = some (nI 0, σ') := by
  obtain ⟨h3, hw, h4, h5, h6, h7, h8, hs, ho, hN, hwh⟩ := h
  have ee := c_emit (n := q_F) (x := x) (v := v) hs hl
  refine ⟨_, ⟨fun o o0 o1 o2 o3 o4 o5 o6 => by rw [z_upO o2, z_upO o5, z_upO o4], fun i hi => by rw [z_upO (by omega), z_upO (by omega), z_upO (by omega)], fun a _ _ _ _ => by rw [z_upO (by omega), z_upO (by omega), z_upO (by omega)]⟩, by rw [z_upO (by omega), z_upO (by omega), z_upO (by omega)], hC.fr (by rw [z_upO (by omega), z_upO (by omega), z_upO (by omega)]) (fun a _ _ => by rw [z_upO (by omega), z_upO (by omega), z_upO (by omega)]), ?_, ee⟩
  have g : ∀ o, o ≠ 145 → o ≠ 150 → o ≠ 151 → q_up (q_up (q_up σ 150 O.length (nI x)) 151 O.length (nI v)) 145 7 (nI (O.length+1)) o = σ o := fun o o1 o2 o3 => by rw [z_upO o1, z_upO o3, z_upO o2]
  refine ⟨by rw [g 144 (by omega) (by omega) (by omega)]; exact h3, by rw [g 153 (by omega) (by omega) (by omega)]; exact hw, by rw [g 144 (by omega) (by omega) (by omega)]; exact h4, by rw [g 144 (by omega) (by omega) (by omega)]; exact h5, by rw [g 144 (by omega) (by omega) (by omega)]; exact h6, by rw [g 144 (by omega) (by omega) (by omega)]; exact h7, by rw [g 144 (by omega) (by omega) (by omega)]; exact h8, z_upS, ⟨⟨?_, ?_⟩, zl_ot_up ho (fun i hi => ⟨?_, ?_⟩)⟩, ?_, by rw [g 148 (by omega) (by omega) (by omega)]; exact hwh⟩
  · rw [z_upO (by omega), z_upO (by omega)]; exact z_upS
  · rw [z_upO (by omega)]; exact z_upS
  · rw [z_upO (by omega), z_upO (by omega), z_upK (by omega)]
  · rw [z_upO (by omega), z_upK (by omega), z_upO (by omega)]
  · rw [z_upK (by omega), z_upO (by omega), z_upO (by omega)]; exact hN
theorem zl_D.ex {N ex iw ex' : Nat} {ic : Bool} {W : List Nat} {O : List (Nat × Nat)} {σ : q_Sto} (h : zl_D σ N W O ex iw ic) : zl_D (q_up σ 144 6 (nI ex')) N W O ex' iw ic := by
  obtain ⟨h3, hw, h4, h5, h6, h7, h8, hs, ho, hN, hwh⟩ := h
  refine ⟨by rw [z_upK (by omega)]; exact h3, by rw [z_upO (by omega)]; exact hw, by rw [z_upK (by omega)]; exact h4, by rw [z_upK (by omega)]; exact h5, z_upS, by rw [z_upK (by omega)]; exact h7, by rw [z_upK (by omega)]; exact h8, by rw [z_upO (by omega)]; exact hs, by rw [z_upO (by omega), z_upO (by omega)]; exact ho, by rw [z_upO (by omega)]; exact hN, by rw [z_upO (by omega)]; exact hwh⟩
theorem zl_D.ic {N ex iw : Nat} {ic ic' : Bool} {W : List Nat} {O : List (Nat × Nat)} {σ : q_Sto} (h : zl_D σ N W O ex iw ic) : zl_D (q_up σ 144 8 (z_fb ic')) N W O ex iw ic' := by
  obtain ⟨h3, hw, h4, h5, h6, h7, h8, hs, ho, hN, hwh⟩ := h
  refine ⟨by rw [z_upK (by omega)]; exact h3, by rw [z_upO (by omega)]; exact hw, by rw [z_upK (by omega)]; exact h4, by rw [z_upK (by omega)]; exact h5, by rw [z_upK (by omega)]; exact h6, by rw [z_upK (by omega)]; exact h7, z_upS, by rw [z_upO (by omega)]; exact hs, by rw [z_upO (by omega), z_upO (by omega)]; exact ho, by rw [z_upO (by omega)]; exact hN, by rw [z_upO (by omega)]; exact hwh⟩
theorem zl_fL.up {N a : Nat} {v : Int32} (σ : q_Sto) : zl_fL N σ (q_up σ 144 a v) := ⟨fun o o1 _ _ _ _ _ => z_upO o1, fun i _ => by rw [z_upO (by omega)]⟩
def zl_bo (σ : q_Sto) : Option (Int32 × q_Sto) := q_call (f_X8_isNumber q_F 142 σ) fun r3 s2 =>
    if r3 = 0 then (
    q_call (f_X3_factAtHand q_F 144 s2) fun r6 s5 =>
    if r6 = (-1) then (
    q_call (f_X8_fail q_F 142 1 s5) fun r9 s8 =>
    q_rz r9 s8)
    else (
    q_callv (f_X2_emit q_F 145 1 r6 s5) fun s10 =>
    q_callv (f_X8_next q_F 142 s10) fun s12 =>
    q_nS1 (q_up s12 144 6 2) fun s14 =>
    some (1, s14)))
    else (
    q_call (f_X8_number q_F 142 s2) fun r16 s15 =>
    q_callv (f_X2_emit q_F 145 0 r16 s15) fun s17 =>
    q_callv (f_X8_next q_F 142 s17) fun s19 =>
    q_nS1 (q_up s19 144 6 2) fun s21 =>
    some (1, s21))
/-- an operand that is no ( and no not -/
theorem c_opd {N ex iw p : Nat} {ic : Bool} {T : zt_T} {W : List Nat} {O : List (Nat × Nat)} {σ : q_Sto} (hC : zt_C σ T p) (hl : W.length + O.length ≤ p) (h : zl_D σ N W O ex iw ic) :
    zl_out (zl_bo σ) σ T N (zl_opd T p W O iw ic) := by
  have hL := hC.1.1
  have hpL := hC.2.1
  unfold zl_opd zl_bo
  by_cases q2 : zt_cd 0 T p = 2
  · rw [if_pos q2]
    obtain ⟨g1, g2⟩ := zt_go (k := 0) (by omega) hpL (show zt_cd 0 T p ≠ 0 by omega)
    have hn := c_nT hC (by omega) q2
    have hv := c_nV hC (by omega) q2
    obtain ⟨σ1, a1, a2, a3, a4, a5⟩ := c_emitD (x := 0) (v := zt_va T p) hC (by omega) h
    obtain ⟨σ2, b1, b2, b3, b4⟩ := c_nextC a3
    refine ⟨q_up σ2 144 6 (nI 2), ?_, a1.trans ((zl_fT.tape b1 b2).trans (zl_fL.up σ2).T), b3.fL (zl_fL.up (N := N) σ2), ?_, by omega, (a4.fr b1).ex⟩
    · generalize zt_va T p = v at *
      simp (disch := omega) only [hn, f_X8_number, hv, a5, b4, ↓reduceIte, ↓p_ld, ↓p_st, ↓p_nm, ↓p_nS, ↓p_jn, ↓p_call, ↓p_callv, ↓p_dv, ↓p_rem, h_ldE, h_stE, h_nmE, h_nSE, h_callE, h_callvE, h_dvE, h_remE, if_true, if_false, z_upS, z_upO, z_upK, nI_add, z_mul, z_sub, z_div, Nat.add_zero, Nat.mul_zero, Nat.zero_add, Nat.sub_zero, Nat.zero_mul, z_ltT, z_ltF, z_leT, z_leF, z_eqT, z_eqF, z_inT, z_clT, not_true_eq_false, not_false_eq_true, eq_self, true_or, or_true, z_m_lt, z_m_le, z_lt_m, z_le_m, z_eq_m, z_m_eq, z_rz0, z_rz1, z_m_add, z_of, r_0_0, r_0_1, r_0_3, r_0_4, r_0_5, r_0_6, r_0_7, r_0_8, r_0_9, r_0_10, r_1_0, r_1_1, r_1_2, r_1_3, r_1_4, r_1_5, r_1_6, r_1_7, r_1_8, r_2_0, r_2_1, r_2_2, r_2_3, r_2_4, r_2_5, r_2_6, r_2_7, r_11_0, r_11_1, r_11_2, r_11_3, r_11_4, r_11_5, r_11_6, r_19_0, r_21_0, r_23_0, r_25_0, r_27_0, r_31_0, r_31_1, r_31_2, r_31_3, r_31_4, r_31_5, r_31_6, r_31_7, r_31_8, r_32_0, r_32_1, r_32_2, r_32_3, r_32_4, r_32_5, r_32_6, r_32_7, r_41_0, r_41_1, r_41_2, r_41_3, r_41_4, r_41_5, r_41_6, r_49_0, r_51_0, r_53_0, r_55_0, r_57_0, r_61_0, r_63_0, r_63_1, r_63_2, r_63_3, r_63_4, r_63_5, r_63_6, r_63_7, r_72_0, r_72_1, r_72_2, r_72_3, r_72_4, r_72_5, r_72_6, r_72_7, r_81_0, r_81_1, r_81_2, r_81_3, r_81_4, r_81_5, r_81_6, r_81_7, r_90_0, r_90_1, r_90_2, r_90_3, r_90_4, r_90_5, r_90_6, r_90_7, r_99_0, r_99_1, r_99_2, r_99_3, r_99_4, r_99_5, r_99_6, r_99_7, r_108_0, r_108_1, r_108_2, r_108_3, r_108_4, r_108_5, r_108_6, r_108_7, r_117_0, r_117_1, r_117_2, r_117_3, r_117_4, r_117_5, r_117_6, r_117_7, r_126_0, r_126_1, r_126_2, r_126_3, r_126_4, r_132_0, r_132_1, r_135_0, r_135_1, r_135_2, r_135_3, r_135_4, r_135_5, r_142_0, r_144_0, r_144_1, r_144_2, r_145_0, r_145_1, r_145_2, r_145_3, r_145_4, r_145_5, r_145_6, r_154_0, r_154_1, r_155_0, r_157_0, r_157_1, r_157_2, r_157_3, r_157_6, r_157_7, r_157_8, r_157_9, r_157_10, r_157_11, r_157_27, r_157_28, r_157_29, r_157_30, ↓z_m1, l_0, l_1, l_2, l_3, l_4, l_5, l_6, l_7, l_8, l_9, l_10, l_11, l_12, l_13, l_14, l_15, l_16, l_17, l_18, l_19, l_20, l_21, l_22, l_23, l_24, l_25, l_26, l_27, l_28, l_29, l_30, l_31, l_32, l_33, l_34, l_35, l_36, l_37, l_38, l_39, l_40, l_41, l_42, l_43, l_44, l_45, l_46, l_47, l_48, l_49, l_50, l_51, l_52, l_53, l_54, l_55, l_56, l_57, l_59, l_60, l_61, l_62, l_63, l_64, l_65, l_80, l_86, l_87, l_88, l_89, l_90, l_91, l_92, l_93, l_94, l_95, l_97, l_99, l_100, l_107, l_119, l_122, l_124, l_129, l_140, l_141, l_142, l_143, l_144, l_145, l_147, l_150, l_159, l_160, l_161, l_162, l_205, l_253, l_255, l_256, l_269, l_305, l_380, l_399, l_400, l_420, l_430, l_516, l_600, l_720, l_820, l_905, l_921, l_937, l_953, l_970, l_999, l_1000, l_1790, l_4096, l_9999, l_1000000]
    · simp only [List.length_cons]; omega
  · rw [if_neg q2]
    have hn := c_nF hC (by omega) q2
    have ef := c_fact hC
    by_cases q : 41 ≤ zt_cd 0 T p ∧ zt_cd 0 T p ≤ 50
    · rw [if_pos q] at ef ⊢
      obtain ⟨g1, g2⟩ := zt_go (k := 0) (by omega) hpL (show zt_cd 0 T p ≠ 0 by omega)
      obtain ⟨σ1, a1, a2, a3, a4, a5⟩ := c_emitD (x := 1) (v := zt_cd 0 T p - 41) hC (by omega) h
      obtain ⟨σ2, b1, b2, b3, b4⟩ := c_nextC a3
      refine ⟨q_up σ2 144 6 (nI 2), ?_, a1.trans ((zl_fT.tape b1 b2).trans (zl_fL.up σ2).T), b3.fL (zl_fL.up (N := N) σ2), ?_, by omega, (a4.fr b1).ex⟩
      · have hlt : zt_cd 0 T p - 41 < 10 := by omega
        generalize zt_cd 0 T p - 41 = v at *
        simp (disch := omega) only [hn, ef, a5, b4, ↓reduceIte, ↓p_ld, ↓p_st, ↓p_nm, ↓p_nS, ↓p_jn, ↓p_call, ↓p_callv, ↓p_dv, ↓p_rem, h_ldE, h_stE, h_nmE, h_nSE, h_callE, h_callvE, h_dvE, h_remE, if_true, if_false, z_upS, z_upO, z_upK, nI_add, z_mul, z_sub, z_div, Nat.add_zero, Nat.mul_zero, Nat.zero_add, Nat.sub_zero, Nat.zero_mul, z_ltT, z_ltF, z_leT, z_leF, z_eqT, z_eqF, z_inT, z_clT, not_true_eq_false, not_false_eq_true, eq_self, true_or, or_true, z_m_lt, z_m_le, z_lt_m, z_le_m, z_eq_m, z_m_eq, z_rz0, z_rz1, z_m_add, z_of, r_0_0, r_0_1, r_0_3, r_0_4, r_0_5, r_0_6, r_0_7, r_0_8, r_0_9, r_0_10, r_1_0, r_1_1, r_1_2, r_1_3, r_1_4, r_1_5, r_1_6, r_1_7, r_1_8, r_2_0, r_2_1, r_2_2, r_2_3, r_2_4, r_2_5, r_2_6, r_2_7, r_11_0, r_11_1, r_11_2, r_11_3, r_11_4, r_11_5, r_11_6, r_19_0, r_21_0, r_23_0, r_25_0, r_27_0, r_31_0, r_31_1, r_31_2, r_31_3, r_31_4, r_31_5, r_31_6, r_31_7, r_31_8, r_32_0, r_32_1, r_32_2, r_32_3, r_32_4, r_32_5, r_32_6, r_32_7, r_41_0, r_41_1, r_41_2, r_41_3, r_41_4, r_41_5, r_41_6, r_49_0, r_51_0, r_53_0, r_55_0, r_57_0, r_61_0, r_63_0, r_63_1, r_63_2, r_63_3, r_63_4, r_63_5, r_63_6, r_63_7, r_72_0, r_72_1, r_72_2, r_72_3, r_72_4, r_72_5, r_72_6, r_72_7, r_81_0, r_81_1, r_81_2, r_81_3, r_81_4, r_81_5, r_81_6, r_81_7, r_90_0, r_90_1, r_90_2, r_90_3, r_90_4, r_90_5, r_90_6, r_90_7, r_99_0, r_99_1, r_99_2, r_99_3, r_99_4, r_99_5, r_99_6, r_99_7, r_108_0, r_108_1, r_108_2, r_108_3, r_108_4, r_108_5, r_108_6, r_108_7, r_117_0, r_117_1, r_117_2, r_117_3, r_117_4, r_117_5, r_117_6, r_117_7, r_126_0, r_126_1, r_126_2, r_126_3, r_126_4, r_132_0, r_132_1, r_135_0, r_135_1, r_135_2, r_135_3, r_135_4, r_135_5, r_142_0, r_144_0, r_144_1, r_144_2, r_145_0, r_145_1, r_145_2, r_145_3, r_145_4, r_145_5, r_145_6, r_154_0, r_154_1, r_155_0, r_157_0, r_157_1, r_157_2, r_157_3, r_157_6, r_157_7, r_157_8, r_157_9, r_157_10, r_157_11, r_157_27, r_157_28, r_157_29, r_157_30, ↓z_m1, l_0, l_1, l_2, l_3, l_4, l_5, l_6, l_7, l_8, l_9, l_10, l_11, l_12, l_13, l_14, l_15, l_16, l_17, l_18, l_19, l_20, l_21, l_22, l_23, l_24, l_25, l_26, l_27, l_28, l_29, l_30, l_31, l_32, l_33, l_34, l_35, l_36, l_37, l_38, l_39, l_40, l_41, l_42, l_43, l_44, l_45, l_46, l_47, l_48, l_49, l_50, l_51, l_52, l_53, l_54, l_55, l_56, l_57, l_59, l_60, l_61, l_62, l_63, l_64, l_65, l_80, l_86, l_87, l_88, l_89, l_90, l_91, l_92, l_93, l_94, l_95, l_97, l_99, l_100, l_107, l_119, l_122, l_124, l_129, l_140, l_141, l_142, l_143, l_144, l_145, l_147, l_150, l_159, l_160, l_161, l_162, l_205, l_253, l_255, l_256, l_269, l_305, l_380, l_399, l_400, l_420, l_430, l_516, l_600, l_720, l_820, l_905, l_921, l_937, l_953, l_970, l_999, l_1000, l_1790, l_4096, l_9999, l_1000000]
      · simp only [List.length_cons]; omega
    · rw [if_neg q] at ef ⊢
      obtain ⟨σ', e, g⟩ := (c_failO (f := 1) (N := N) hC).rz
      refine ⟨σ', ?_, g⟩
      rw [← e]
      simp (disch := omega) only [hn, ef, ↓reduceIte, ↓p_ld, ↓p_st, ↓p_nm, ↓p_nS, ↓p_jn, ↓p_call, ↓p_callv, ↓p_dv, ↓p_rem, h_ldE, h_stE, h_nmE, h_nSE, h_callE, h_callvE, h_dvE, h_remE, if_true, if_false, z_upS, z_upO, z_upK, nI_add, z_mul, z_sub, z_div, Nat.add_zero, Nat.mul_zero, Nat.zero_add, Nat.sub_zero, Nat.zero_mul, z_ltT, z_ltF, z_leT, z_leF, z_eqT, z_eqF, z_inT, z_clT, not_true_eq_false, not_false_eq_true, eq_self, true_or, or_true, z_m_lt, z_m_le, z_lt_m, z_le_m, z_eq_m, z_m_eq, z_rz0, z_rz1, z_m_add, z_of, r_0_0, r_0_1, r_0_3, r_0_4, r_0_5, r_0_6, r_0_7, r_0_8, r_0_9, r_0_10, r_1_0, r_1_1, r_1_2, r_1_3, r_1_4, r_1_5, r_1_6, r_1_7, r_1_8, r_2_0, r_2_1, r_2_2, r_2_3, r_2_4, r_2_5, r_2_6, r_2_7, r_11_0, r_11_1, r_11_2, r_11_3, r_11_4, r_11_5, r_11_6, r_19_0, r_21_0, r_23_0, r_25_0, r_27_0, r_31_0, r_31_1, r_31_2, r_31_3, r_31_4, r_31_5, r_31_6, r_31_7, r_31_8, r_32_0, r_32_1, r_32_2, r_32_3, r_32_4, r_32_5, r_32_6, r_32_7, r_41_0, r_41_1, r_41_2, r_41_3, r_41_4, r_41_5, r_41_6, r_49_0, r_51_0, r_53_0, r_55_0, r_57_0, r_61_0, r_63_0, r_63_1, r_63_2, r_63_3, r_63_4, r_63_5, r_63_6, r_63_7, r_72_0, r_72_1, r_72_2, r_72_3, r_72_4, r_72_5, r_72_6, r_72_7, r_81_0, r_81_1, r_81_2, r_81_3, r_81_4, r_81_5, r_81_6, r_81_7, r_90_0, r_90_1, r_90_2, r_90_3, r_90_4, r_90_5, r_90_6, r_90_7, r_99_0, r_99_1, r_99_2, r_99_3, r_99_4, r_99_5, r_99_6, r_99_7, r_108_0, r_108_1, r_108_2, r_108_3, r_108_4, r_108_5, r_108_6, r_108_7, r_117_0, r_117_1, r_117_2, r_117_3, r_117_4, r_117_5, r_117_6, r_117_7, r_126_0, r_126_1, r_126_2, r_126_3, r_126_4, r_132_0, r_132_1, r_135_0, r_135_1, r_135_2, r_135_3, r_135_4, r_135_5, r_142_0, r_144_0, r_144_1, r_144_2, r_145_0, r_145_1, r_145_2, r_145_3, r_145_4, r_145_5, r_145_6, r_154_0, r_154_1, r_155_0, r_157_0, r_157_1, r_157_2, r_157_3, r_157_6, r_157_7, r_157_8, r_157_9, r_157_10, r_157_11, r_157_27, r_157_28, r_157_29, r_157_30, ↓z_m1, l_0, l_1, l_2, l_3, l_4, l_5, l_6, l_7, l_8, l_9, l_10, l_11, l_12, l_13, l_14, l_15, l_16, l_17, l_18, l_19, l_20, l_21, l_22, l_23, l_24, l_25, l_26, l_27, l_28, l_29, l_30, l_31, l_32, l_33, l_34, l_35, l_36, l_37, l_38, l_39, l_40, l_41, l_42, l_43, l_44, l_45, l_46, l_47, l_48, l_49, l_50, l_51, l_52, l_53, l_54, l_55, l_56, l_57, l_59, l_60, l_61, l_62, l_63, l_64, l_65, l_80, l_86, l_87, l_88, l_89, l_90, l_91, l_92, l_93, l_94, l_95, l_97, l_99, l_100, l_107, l_119, l_122, l_124, l_129, l_140, l_141, l_142, l_143, l_144, l_145, l_147, l_150, l_159, l_160, l_161, l_162, l_205, l_253, l_255, l_256, l_269, l_305, l_380, l_399, l_400, l_420, l_430, l_516, l_600, l_720, l_820, l_905, l_921, l_937, l_953, l_970, l_999, l_1000, l_1790, l_4096, l_9999, l_1000000]
/-- ( or not -/
theorem c_opn {N iw p x : Nat} {ic : Bool} {T : zt_T} {W : List Nat} {O : List (Nat × Nat)} {σ : q_Sto} (hx : x = 9 ∨ x = 12) (hC : zt_C σ T p) (hg : zt_cd 0 T p ≠ 0) (hl : W.length + O.length ≤ p) (h : zl_D σ N W O 1 iw false) : zl_out (f_X3_readOpening q_F 144 (nI x) σ) σ T N (zl_opn T x p W O iw) := by
  have hL := hC.1.1
  have hpL := hC.2.1
  have hcn := zl_cn_le W
  have hcb := zl_cb_le W
  obtain ⟨h3, hw, h4, h5, h6, h7, h8, hs, ho, hN, hwh⟩ := h
  obtain ⟨g1, g2⟩ := zt_go (k := 0) (by omega) hpL hg
  unfold zl_opn
  by_cases q : zl_cn W < 8
  · rw [if_pos q]
    have hcn' : zl_cn (x :: W) = zl_cn W + 1 := by
      show zl_cn W + (if x = 9 ∨ x = 12 then 1 else 0) = _
      rw [if_pos hx]
    rcases hx with rfl | rfl
    · have hcb' : zl_cb (9 :: W) = zl_cb W := Nat.add_zero _
      have ep := c_push (n := q_F) (x := 9) (w := W.length) (σ := q_up σ 144 5 (nI (zl_cn W + 1))) (by rw [z_upK (by omega)]; exact h3) (by omega)
      obtain ⟨σ2, b1, b2, b3, b4⟩ := c_nextC (σ := q_up (q_up (q_up σ 144 5 (nI (zl_cn W + 1))) 153 W.length (nI 9)) 144 3 (nI (W.length+1))) (hC.fr (by rw [z_upO (by omega), z_upO (by omega), z_upO (by omega)]) (fun a _ _ => by rw [z_upO (by omega), z_upO (by omega), z_upO (by omega)]))
      refine ⟨σ2, ?_, ⟨fun o o0 o1 o2 o3 o4 o5 o6 => by rw [b1 o o0, z_upO o1, z_upO o6, z_upO o1], fun i hi => by rw [b1 148 (by omega), z_upO (by omega), z_upO (by omega), z_upO (by omega)], fun a x1 x2 x3 x4 => by rw [b2 a x1 x2 x3 x4, z_upO (by omega), z_upO (by omega), z_upO (by omega)]⟩, b3, by simp only [List.length_cons]; omega, by omega, ?_⟩
      · unfold f_X3_readOpening
        generalize zl_cn W = cn at *
        generalize W.length = w at *
        simp (disch := omega) only [h5, ep, b4, ↓reduceIte, ↓p_ld, ↓p_st, ↓p_nm, ↓p_nS, ↓p_jn, ↓p_call, ↓p_callv, ↓p_dv, ↓p_rem, h_ldE, h_stE, h_nmE, h_nSE, h_callE, h_callvE, h_dvE, h_remE, if_true, if_false, z_upS, z_upO, z_upK, nI_add, z_mul, z_sub, z_div, Nat.add_zero, Nat.mul_zero, Nat.zero_add, Nat.sub_zero, Nat.zero_mul, z_ltT, z_ltF, z_leT, z_leF, z_eqT, z_eqF, z_inT, z_clT, not_true_eq_false, not_false_eq_true, eq_self, true_or, or_true, z_m_lt, z_m_le, z_lt_m, z_le_m, z_eq_m, z_m_eq, z_rz0, z_rz1, z_m_add, z_of, r_0_0, r_0_1, r_0_3, r_0_4, r_0_5, r_0_6, r_0_7, r_0_8, r_0_9, r_0_10, r_1_0, r_1_1, r_1_2, r_1_3, r_1_4, r_1_5, r_1_6, r_1_7, r_1_8, r_2_0, r_2_1, r_2_2, r_2_3, r_2_4, r_2_5, r_2_6, r_2_7, r_11_0, r_11_1, r_11_2, r_11_3, r_11_4, r_11_5, r_11_6, r_19_0, r_21_0, r_23_0, r_25_0, r_27_0, r_31_0, r_31_1, r_31_2, r_31_3, r_31_4, r_31_5, r_31_6, r_31_7, r_31_8, r_32_0, r_32_1, r_32_2, r_32_3, r_32_4, r_32_5, r_32_6, r_32_7, r_41_0, r_41_1, r_41_2, r_41_3, r_41_4, r_41_5, r_41_6, r_49_0, r_51_0, r_53_0, r_55_0, r_57_0, r_61_0, r_63_0, r_63_1, r_63_2, r_63_3, r_63_4, r_63_5, r_63_6, r_63_7, r_72_0, r_72_1, r_72_2, r_72_3, r_72_4, r_72_5, r_72_6, r_72_7, r_81_0, r_81_1, r_81_2, r_81_3, r_81_4, r_81_5, r_81_6, r_81_7, r_90_0, r_90_1, r_90_2, r_90_3, r_90_4, r_90_5, r_90_6, r_90_7, r_99_0, r_99_1, r_99_2, r_99_3, r_99_4, r_99_5, r_99_6, r_99_7, r_108_0, r_108_1, r_108_2, r_108_3, r_108_4, r_108_5, r_108_6, r_108_7, r_117_0, r_117_1, r_117_2, r_117_3, r_117_4, r_117_5, r_117_6, r_117_7, r_126_0, r_126_1, r_126_2, r_126_3, r_126_4, r_132_0, r_132_1, r_135_0, r_135_1, r_135_2, r_135_3, r_135_4, r_135_5, r_142_0, r_144_0, r_144_1, r_144_2, r_145_0, r_145_1, r_145_2, r_145_3, r_145_4, r_145_5, r_145_6, r_154_0, r_154_1, r_155_0, r_157_0, r_157_1, r_157_2, r_157_3, r_157_6, r_157_7, r_157_8, r_157_9, r_157_10, r_157_11, r_157_27, r_157_28, r_157_29, r_157_30, ↓z_m1, l_0, l_1, l_2, l_3, l_4, l_5, l_6, l_7, l_8, l_9, l_10, l_11, l_12, l_13, l_14, l_15, l_16, l_17, l_18, l_19, l_20, l_21, l_22, l_23, l_24, l_25, l_26, l_27, l_28, l_29, l_30, l_31, l_32, l_33, l_34, l_35, l_36, l_37, l_38, l_39, l_40, l_41, l_42, l_43, l_44, l_45, l_46, l_47, l_48, l_49, l_50, l_51, l_52, l_53, l_54, l_55, l_56, l_57, l_59, l_60, l_61, l_62, l_63, l_64, l_65, l_80, l_86, l_87, l_88, l_89, l_90, l_91, l_92, l_93, l_94, l_95, l_97, l_99, l_100, l_107, l_119, l_122, l_124, l_129, l_140, l_141, l_142, l_143, l_144, l_145, l_147, l_150, l_159, l_160, l_161, l_162, l_205, l_253, l_255, l_256, l_269, l_305, l_380, l_399, l_400, l_420, l_430, l_516, l_600, l_720, l_820, l_905, l_921, l_937, l_953, l_970, l_999, l_1000, l_1790, l_4096, l_9999, l_1000000]
      · have g4 : ∀ a, a ≠ 3 → a ≠ 5 → σ2 144 a = σ 144 a := fun a a1 a2 => by rw [b1 144 (by omega), z_upK a1, z_upO (by omega), z_upK a2]
        have g : ∀ o, o ≠ 142 → o ≠ 144 → o ≠ 153 → σ2 o = σ o := fun o o1 o2 o3 => by rw [b1 o o1, z_upO o2, z_upO o3, z_upO o2]
        refine ⟨by rw [b1 144 (by omega)]; exact z_upS, ⟨⟨by rw [b1 153 (by omega), z_upO (by omega)]; exact z_upS, by omega⟩, zl_wt_up hw (fun i hi => by rw [b1 153 (by omega), z_upO (by omega), z_upK (by omega), z_upO (by omega)])⟩, by rw [g4 4 (by omega) (by omega), hcb']; exact h4, by rw [b1 144 (by omega), z_upK (by omega), z_upO (by omega), hcn']; exact z_upS, by rw [g4 6 (by omega) (by omega)]; exact h6, by rw [g4 7 (by omega) (by omega)]; exact h7, by rw [g4 8 (by omega) (by omega)]; exact h8, by rw [g 145 (by omega) (by omega) (by omega)]; exact hs, by rw [g 150 (by omega) (by omega) (by omega), g 151 (by omega) (by omega) (by omega)]; exact ho, by rw [g 145 (by omega) (by omega) (by omega)]; exact hN, by rw [g 148 (by omega) (by omega) (by omega)]; exact hwh⟩
    · have hcb' : zl_cb (12 :: W) = zl_cb W + 1 := rfl
      have ep := c_push (n := q_F) (x := 12) (w := W.length) (σ := q_up (q_up σ 144 5 (nI (zl_cn W + 1))) 144 4 (nI (zl_cb W + 1))) (by rw [z_upK (by omega), z_upK (by omega)]; exact h3) (by omega)
      obtain ⟨σ2, b1, b2, b3, b4⟩ := c_nextC (σ := q_up (q_up (q_up (q_up σ 144 5 (nI (zl_cn W + 1))) 144 4 (nI (zl_cb W + 1))) 153 W.length (nI 12)) 144 3 (nI (W.length+1))) (hC.fr (by rw [z_upO (by omega), z_upO (by omega), z_upO (by omega), z_upO (by omega)]) (fun a _ _ => by rw [z_upO (by omega), z_upO (by omega), z_upO (by omega), z_upO (by omega)]))
      refine ⟨σ2, ?_, ⟨fun o o0 o1 o2 o3 o4 o5 o6 => by rw [b1 o o0, z_upO o1, z_upO o6, z_upO o1, z_upO o1], fun i hi => by rw [b1 148 (by omega), z_upO (by omega), z_upO (by omega), z_upO (by omega), z_upO (by omega)], fun a x1 x2 x3 x4 => by rw [b2 a x1 x2 x3 x4, z_upO (by omega), z_upO (by omega), z_upO (by omega), z_upO (by omega)]⟩, b3, by simp only [List.length_cons]; omega, by omega, ?_⟩
      · unfold f_X3_readOpening
        generalize zl_cn W = cn at *
        generalize zl_cb W = cb at *
        generalize W.length = w at *
        simp (disch := omega) only [h5, h4, ep, b4, ↓reduceIte, ↓p_ld, ↓p_st, ↓p_nm, ↓p_nS, ↓p_jn, ↓p_call, ↓p_callv, ↓p_dv, ↓p_rem, h_ldE, h_stE, h_nmE, h_nSE, h_callE, h_callvE, h_dvE, h_remE, if_true, if_false, z_upS, z_upO, z_upK, nI_add, z_mul, z_sub, z_div, Nat.add_zero, Nat.mul_zero, Nat.zero_add, Nat.sub_zero, Nat.zero_mul, z_ltT, z_ltF, z_leT, z_leF, z_eqT, z_eqF, z_inT, z_clT, not_true_eq_false, not_false_eq_true, eq_self, true_or, or_true, z_m_lt, z_m_le, z_lt_m, z_le_m, z_eq_m, z_m_eq, z_rz0, z_rz1, z_m_add, z_of, r_0_0, r_0_1, r_0_3, r_0_4, r_0_5, r_0_6, r_0_7, r_0_8, r_0_9, r_0_10, r_1_0, r_1_1, r_1_2, r_1_3, r_1_4, r_1_5, r_1_6, r_1_7, r_1_8, r_2_0, r_2_1, r_2_2, r_2_3, r_2_4, r_2_5, r_2_6, r_2_7, r_11_0, r_11_1, r_11_2, r_11_3, r_11_4, r_11_5, r_11_6, r_19_0, r_21_0, r_23_0, r_25_0, r_27_0, r_31_0, r_31_1, r_31_2, r_31_3, r_31_4, r_31_5, r_31_6, r_31_7, r_31_8, r_32_0, r_32_1, r_32_2, r_32_3, r_32_4, r_32_5, r_32_6, r_32_7, r_41_0, r_41_1, r_41_2, r_41_3, r_41_4, r_41_5, r_41_6, r_49_0, r_51_0, r_53_0, r_55_0, r_57_0, r_61_0, r_63_0, r_63_1, r_63_2, r_63_3, r_63_4, r_63_5, r_63_6, r_63_7, r_72_0, r_72_1, r_72_2, r_72_3, r_72_4, r_72_5, r_72_6, r_72_7, r_81_0, r_81_1, r_81_2, r_81_3, r_81_4, r_81_5, r_81_6, r_81_7, r_90_0, r_90_1, r_90_2, r_90_3, r_90_4, r_90_5, r_90_6, r_90_7, r_99_0, r_99_1, r_99_2, r_99_3, r_99_4, r_99_5, r_99_6, r_99_7, r_108_0, r_108_1, r_108_2, r_108_3, r_108_4, r_108_5, r_108_6, r_108_7, r_117_0, r_117_1, r_117_2, r_117_3, r_117_4, r_117_5, r_117_6, r_117_7, r_126_0, r_126_1, r_126_2, r_126_3, r_126_4, r_132_0, r_132_1, r_135_0, r_135_1, r_135_2, r_135_3, r_135_4, r_135_5, r_142_0, r_144_0, r_144_1, r_144_2, r_145_0, r_145_1, r_145_2, r_145_3, r_145_4, r_145_5, r_145_6, r_154_0, r_154_1, r_155_0, r_157_0, r_157_1, r_157_2, r_157_3, r_157_6, r_157_7, r_157_8, r_157_9, r_157_10, r_157_11, r_157_27, r_157_28, r_157_29, r_157_30, ↓z_m1, l_0, l_1, l_2, l_3, l_4, l_5, l_6, l_7, l_8, l_9, l_10, l_11, l_12, l_13, l_14, l_15, l_16, l_17, l_18, l_19, l_20, l_21, l_22, l_23, l_24, l_25, l_26, l_27, l_28, l_29, l_30, l_31, l_32, l_33, l_34, l_35, l_36, l_37, l_38, l_39, l_40, l_41, l_42, l_43, l_44, l_45, l_46, l_47, l_48, l_49, l_50, l_51, l_52, l_53, l_54, l_55, l_56, l_57, l_59, l_60, l_61, l_62, l_63, l_64, l_65, l_80, l_86, l_87, l_88, l_89, l_90, l_91, l_92, l_93, l_94, l_95, l_97, l_99, l_100, l_107, l_119, l_122, l_124, l_129, l_140, l_141, l_142, l_143, l_144, l_145, l_147, l_150, l_159, l_160, l_161, l_162, l_205, l_253, l_255, l_256, l_269, l_305, l_380, l_399, l_400, l_420, l_430, l_516, l_600, l_720, l_820, l_905, l_921, l_937, l_953, l_970, l_999, l_1000, l_1790, l_4096, l_9999, l_1000000]
      · have g4 : ∀ a, a ≠ 3 → a ≠ 4 → a ≠ 5 → σ2 144 a = σ 144 a := fun a a1 a2 a3 => by rw [b1 144 (by omega), z_upK a1, z_upO (by omega), z_upK a2, z_upK a3]
        have g : ∀ o, o ≠ 142 → o ≠ 144 → o ≠ 153 → σ2 o = σ o := fun o o1 o2 o3 => by rw [b1 o o1, z_upO o2, z_upO o3, z_upO o2, z_upO o2]
        refine ⟨by rw [b1 144 (by omega)]; exact z_upS, ⟨⟨by rw [b1 153 (by omega), z_upO (by omega)]; exact z_upS, by omega⟩, zl_wt_up hw (fun i hi => by rw [b1 153 (by omega), z_upO (by omega), z_upK (by omega), z_upO (by omega), z_upO (by omega)])⟩, by rw [b1 144 (by omega), z_upK (by omega), z_upO (by omega), hcb']; exact z_upS, by rw [b1 144 (by omega), z_upK (by omega), z_upO (by omega), z_upK (by omega), hcn']; exact z_upS, by rw [g4 6 (by omega) (by omega) (by omega)]; exact h6, by rw [g4 7 (by omega) (by omega) (by omega)]; exact h7, by rw [g4 8 (by omega) (by omega) (by omega)]; exact h8, by rw [g 145 (by omega) (by omega) (by omega)]; exact hs, by rw [g 150 (by omega) (by omega) (by omega), g 151 (by omega) (by omega) (by omega)]; exact ho, by rw [g 145 (by omega) (by omega) (by omega)]; exact hN, by rw [g 148 (by omega) (by omega) (by omega)]; exact hwh⟩
  · rw [if_neg q]
    obtain ⟨σ', e, g⟩ := (c_failO (f := 3) (N := N) hC).rz
    refine ⟨σ', ?_, g⟩
    rw [← e]
    unfold f_X3_readOpening
    generalize zl_cn W = cn at *
    simp (disch := omega) only [h5, ↓reduceIte, ↓p_ld, ↓p_st, ↓p_nm, ↓p_nS, ↓p_jn, ↓p_call, ↓p_callv, ↓p_dv, ↓p_rem, h_ldE, h_stE, h_nmE, h_nSE, h_callE, h_callvE, h_dvE, h_remE, if_true, if_false, z_upS, z_upO, z_upK, nI_add, z_mul, z_sub, z_div, Nat.add_zero, Nat.mul_zero, Nat.zero_add, Nat.sub_zero, Nat.zero_mul, z_ltT, z_ltF, z_leT, z_leF, z_eqT, z_eqF, z_inT, z_clT, not_true_eq_false, not_false_eq_true, eq_self, true_or, or_true, z_m_lt, z_m_le, z_lt_m, z_le_m, z_eq_m, z_m_eq, z_rz0, z_rz1, z_m_add, z_of, r_0_0, r_0_1, r_0_3, r_0_4, r_0_5, r_0_6, r_0_7, r_0_8, r_0_9, r_0_10, r_1_0, r_1_1, r_1_2, r_1_3, r_1_4, r_1_5, r_1_6, r_1_7, r_1_8, r_2_0, r_2_1, r_2_2, r_2_3, r_2_4, r_2_5, r_2_6, r_2_7, r_11_0, r_11_1, r_11_2, r_11_3, r_11_4, r_11_5, r_11_6, r_19_0, r_21_0, r_23_0, r_25_0, r_27_0, r_31_0, r_31_1, r_31_2, r_31_3, r_31_4, r_31_5, r_31_6, r_31_7, r_31_8, r_32_0, r_32_1, r_32_2, r_32_3, r_32_4, r_32_5, r_32_6, r_32_7, r_41_0, r_41_1, r_41_2, r_41_3, r_41_4, r_41_5, r_41_6, r_49_0, r_51_0, r_53_0, r_55_0, r_57_0, r_61_0, r_63_0, r_63_1, r_63_2, r_63_3, r_63_4, r_63_5, r_63_6, r_63_7, r_72_0, r_72_1, r_72_2, r_72_3, r_72_4, r_72_5, r_72_6, r_72_7, r_81_0, r_81_1, r_81_2, r_81_3, r_81_4, r_81_5, r_81_6, r_81_7, r_90_0, r_90_1, r_90_2, r_90_3, r_90_4, r_90_5, r_90_6, r_90_7, r_99_0, r_99_1, r_99_2, r_99_3, r_99_4, r_99_5, r_99_6, r_99_7, r_108_0, r_108_1, r_108_2, r_108_3, r_108_4, r_108_5, r_108_6, r_108_7, r_117_0, r_117_1, r_117_2, r_117_3, r_117_4, r_117_5, r_117_6, r_117_7, r_126_0, r_126_1, r_126_2, r_126_3, r_126_4, r_132_0, r_132_1, r_135_0, r_135_1, r_135_2, r_135_3, r_135_4, r_135_5, r_142_0, r_144_0, r_144_1, r_144_2, r_145_0, r_145_1, r_145_2, r_145_3, r_145_4, r_145_5, r_145_6, r_154_0, r_154_1, r_155_0, r_157_0, r_157_1, r_157_2, r_157_3, r_157_6, r_157_7, r_157_8, r_157_9, r_157_10, r_157_11, r_157_27, r_157_28, r_157_29, r_157_30, ↓z_m1, l_0, l_1, l_2, l_3, l_4, l_5, l_6, l_7, l_8, l_9, l_10, l_11, l_12, l_13, l_14, l_15, l_16, l_17, l_18, l_19, l_20, l_21, l_22, l_23, l_24, l_25, l_26, l_27, l_28, l_29, l_30, l_31, l_32, l_33, l_34, l_35, l_36, l_37, l_38, l_39, l_40, l_41, l_42, l_43, l_44, l_45, l_46, l_47, l_48, l_49, l_50, l_51, l_52, l_53, l_54, l_55, l_56, l_57, l_59, l_60, l_61, l_62, l_63, l_64, l_65, l_80, l_86, l_87, l_88, l_89, l_90, l_91, l_92, l_93, l_94, l_95, l_97, l_99, l_100, l_107, l_119, l_122, l_124, l_129, l_140, l_141, l_142, l_143, l_144, l_145, l_147, l_150, l_159, l_160, l_161, l_162, l_205, l_253, l_255, l_256, l_269, l_305, l_380, l_399, l_400, l_420, l_430, l_516, l_600, l_720, l_820, l_905, l_921, l_937, l_953, l_970, l_999, l_1000, l_1790, l_4096, l_9999, l_1000000]
/-- a part -/
theorem c_part {N iw p : Nat} {ic : Bool} {T : zt_T} {W : List Nat} {O : List (Nat × Nat)} {σ : q_Sto} (hC : zt_C σ T p) (hg : zt_cd 0 T p ≠ 0) (hl : W.length + O.length ≤ p) (h : zl_D σ N W O 2 iw ic) : zl_out (f_X3_readPart q_F 144 σ) σ T N (zl_part T p W O iw ic) := by
  have hL := hC.1.1
  have hpL := hC.2.1
  obtain ⟨g1, g2⟩ := zt_go (k := 0) (by omega) hpL hg
  have er : f_X3_rank q_F (nI 2) σ = some (nI 6, σ) := c_rank (show 2 < 13 by omega)
  obtain ⟨σ1, a1, a2, a3⟩ := c_rel (r := 6) (by omega) (by omega) (by omega) h
  have hlen := zl_rel_len (r := 6) W O
  unfold zl_part
  generalize zl_rel 6 W O = R at *
  obtain ⟨W', O'⟩ := R
  have hlen : W'.length + O'.length = W.length + O.length := hlen
  have a2 : zl_D σ1 N W' O' 2 iw ic := a2
  obtain ⟨σ2, b1, b2, b3, b4⟩ := c_nextC (hC.fL a1)
  have hf2 : zl_fT N σ σ2 := a1.T.trans (zl_fT.tape b1 b2)
  by_cases q2 : zt_cd 0 T (zt_nx T p) = 2
  · rw [if_pos q2]
    have hv := zt_va_lt (k := 0) (by omega) g2 q2
    obtain ⟨g3, g4⟩ := zt_go (k := 0) (by omega) g2 (show zt_cd 0 T (zt_nx T p) ≠ 0 by omega)
    by_cases q0 : zt_va T (zt_nx T p) = 0
    · rw [if_pos q0]
      obtain ⟨σ3, c1, c2, c3, c4, c5⟩ := c_expF2 (lo := nI 1) (hi := nI 9999) (b := z_m) b3 (by omega) q2 (Or.inl (by rw [q0]; exact z_ltT (by omega) (by omega)))
      have hout : zl_out (some (nI 0, σ3)) σ2 T N (Sum.inl (2, zt_at T (zt_nx T p))) := ⟨σ3, rfl, ⟨fun o o0 _ _ _ _ _ _ => c1 o o0, fun i _ => by rw [c1 148 (by omega)], c2 1 (by omega) (by omega)⟩, c3, c4⟩
      obtain ⟨σ', e, g⟩ := hout.of hf2
      refine ⟨σ', ?_, g⟩
      rw [← e]
      unfold f_X3_readPart
      simp (disch := omega) only [er, a3, b4, c5, ↓reduceIte, ↓p_ld, ↓p_st, ↓p_nm, ↓p_nS, ↓p_jn, ↓p_call, ↓p_callv, ↓p_dv, ↓p_rem, h_ldE, h_stE, h_nmE, h_nSE, h_callE, h_callvE, h_dvE, h_remE, if_true, if_false, z_upS, z_upO, z_upK, nI_add, z_mul, z_sub, z_div, Nat.add_zero, Nat.mul_zero, Nat.zero_add, Nat.sub_zero, Nat.zero_mul, z_ltT, z_ltF, z_leT, z_leF, z_eqT, z_eqF, z_inT, z_clT, not_true_eq_false, not_false_eq_true, eq_self, true_or, or_true, z_m_lt, z_m_le, z_lt_m, z_le_m, z_eq_m, z_m_eq, z_rz0, z_rz1, z_m_add, z_of, r_0_0, r_0_1, r_0_3, r_0_4, r_0_5, r_0_6, r_0_7, r_0_8, r_0_9, r_0_10, r_1_0, r_1_1, r_1_2, r_1_3, r_1_4, r_1_5, r_1_6, r_1_7, r_1_8, r_2_0, r_2_1, r_2_2, r_2_3, r_2_4, r_2_5, r_2_6, r_2_7, r_11_0, r_11_1, r_11_2, r_11_3, r_11_4, r_11_5, r_11_6, r_19_0, r_21_0, r_23_0, r_25_0, r_27_0, r_31_0, r_31_1, r_31_2, r_31_3, r_31_4, r_31_5, r_31_6, r_31_7, r_31_8, r_32_0, r_32_1, r_32_2, r_32_3, r_32_4, r_32_5, r_32_6, r_32_7, r_41_0, r_41_1, r_41_2, r_41_3, r_41_4, r_41_5, r_41_6, r_49_0, r_51_0, r_53_0, r_55_0, r_57_0, r_61_0, r_63_0, r_63_1, r_63_2, r_63_3, r_63_4, r_63_5, r_63_6, r_63_7, r_72_0, r_72_1, r_72_2, r_72_3, r_72_4, r_72_5, r_72_6, r_72_7, r_81_0, r_81_1, r_81_2, r_81_3, r_81_4, r_81_5, r_81_6, r_81_7, r_90_0, r_90_1, r_90_2, r_90_3, r_90_4, r_90_5, r_90_6, r_90_7, r_99_0, r_99_1, r_99_2, r_99_3, r_99_4, r_99_5, r_99_6, r_99_7, r_108_0, r_108_1, r_108_2, r_108_3, r_108_4, r_108_5, r_108_6, r_108_7, r_117_0, r_117_1, r_117_2, r_117_3, r_117_4, r_117_5, r_117_6, r_117_7, r_126_0, r_126_1, r_126_2, r_126_3, r_126_4, r_132_0, r_132_1, r_135_0, r_135_1, r_135_2, r_135_3, r_135_4, r_135_5, r_142_0, r_144_0, r_144_1, r_144_2, r_145_0, r_145_1, r_145_2, r_145_3, r_145_4, r_145_5, r_145_6, r_154_0, r_154_1, r_155_0, r_157_0, r_157_1, r_157_2, r_157_3, r_157_6, r_157_7, r_157_8, r_157_9, r_157_10, r_157_11, r_157_27, r_157_28, r_157_29, r_157_30, ↓z_m1, l_0, l_1, l_2, l_3, l_4, l_5, l_6, l_7, l_8, l_9, l_10, l_11, l_12, l_13, l_14, l_15, l_16, l_17, l_18, l_19, l_20, l_21, l_22, l_23, l_24, l_25, l_26, l_27, l_28, l_29, l_30, l_31, l_32, l_33, l_34, l_35, l_36, l_37, l_38, l_39, l_40, l_41, l_42, l_43, l_44, l_45, l_46, l_47, l_48, l_49, l_50, l_51, l_52, l_53, l_54, l_55, l_56, l_57, l_59, l_60, l_61, l_62, l_63, l_64, l_65, l_80, l_86, l_87, l_88, l_89, l_90, l_91, l_92, l_93, l_94, l_95, l_97, l_99, l_100, l_107, l_119, l_122, l_124, l_129, l_140, l_141, l_142, l_143, l_144, l_145, l_147, l_150, l_159, l_160, l_161, l_162, l_205, l_253, l_255, l_256, l_269, l_305, l_380, l_399, l_400, l_420, l_430, l_516, l_600, l_720, l_820, l_905, l_921, l_937, l_953, l_970, l_999, l_1000, l_1790, l_4096, l_9999, l_1000000]
    · rw [if_neg q0]
      obtain ⟨σ3, c1, c2, c3, c4⟩ := c_expOK (lo := nI 1) (hi := nI 9999) (b := z_m) b3 (by omega) q2 (z_ltF (by omega) (by omega)) (z_leT (by omega) (by omega)) (z_eq_m (by omega))
      have hf3 := hf2.trans (zl_fT.tape c1 c2)
      obtain ⟨σ4, d1, d2, d3, d4, d5⟩ := c_emitD (N := N) (x := 2) (v := zt_va T (zt_nx T p)) c3 (by omega) ((a2.fr b1).fr c1)
      refine ⟨σ4, ?_, hf3.trans d1, d3, ?_, by omega, d4⟩
      · unfold f_X3_readPart
        generalize zt_va T (zt_nx T p) = v at *
        simp (disch := omega) only [er, a3, b4, c4, d5, ↓reduceIte, ↓p_ld, ↓p_st, ↓p_nm, ↓p_nS, ↓p_jn, ↓p_call, ↓p_callv, ↓p_dv, ↓p_rem, h_ldE, h_stE, h_nmE, h_nSE, h_callE, h_callvE, h_dvE, h_remE, if_true, if_false, z_upS, z_upO, z_upK, nI_add, z_mul, z_sub, z_div, Nat.add_zero, Nat.mul_zero, Nat.zero_add, Nat.sub_zero, Nat.zero_mul, z_ltT, z_ltF, z_leT, z_leF, z_eqT, z_eqF, z_inT, z_clT, not_true_eq_false, not_false_eq_true, eq_self, true_or, or_true, z_m_lt, z_m_le, z_lt_m, z_le_m, z_eq_m, z_m_eq, z_rz0, z_rz1, z_m_add, z_of, r_0_0, r_0_1, r_0_3, r_0_4, r_0_5, r_0_6, r_0_7, r_0_8, r_0_9, r_0_10, r_1_0, r_1_1, r_1_2, r_1_3, r_1_4, r_1_5, r_1_6, r_1_7, r_1_8, r_2_0, r_2_1, r_2_2, r_2_3, r_2_4, r_2_5, r_2_6, r_2_7, r_11_0, r_11_1, r_11_2, r_11_3, r_11_4, r_11_5, r_11_6, r_19_0, r_21_0, r_23_0, r_25_0, r_27_0, r_31_0, r_31_1, r_31_2, r_31_3, r_31_4, r_31_5, r_31_6, r_31_7, r_31_8, r_32_0, r_32_1, r_32_2, r_32_3, r_32_4, r_32_5, r_32_6, r_32_7, r_41_0, r_41_1, r_41_2, r_41_3, r_41_4, r_41_5, r_41_6, r_49_0, r_51_0, r_53_0, r_55_0, r_57_0, r_61_0, r_63_0, r_63_1, r_63_2, r_63_3, r_63_4, r_63_5, r_63_6, r_63_7, r_72_0, r_72_1, r_72_2, r_72_3, r_72_4, r_72_5, r_72_6, r_72_7, r_81_0, r_81_1, r_81_2, r_81_3, r_81_4, r_81_5, r_81_6, r_81_7, r_90_0, r_90_1, r_90_2, r_90_3, r_90_4, r_90_5, r_90_6, r_90_7, r_99_0, r_99_1, r_99_2, r_99_3, r_99_4, r_99_5, r_99_6, r_99_7, r_108_0, r_108_1, r_108_2, r_108_3, r_108_4, r_108_5, r_108_6, r_108_7, r_117_0, r_117_1, r_117_2, r_117_3, r_117_4, r_117_5, r_117_6, r_117_7, r_126_0, r_126_1, r_126_2, r_126_3, r_126_4, r_132_0, r_132_1, r_135_0, r_135_1, r_135_2, r_135_3, r_135_4, r_135_5, r_142_0, r_144_0, r_144_1, r_144_2, r_145_0, r_145_1, r_145_2, r_145_3, r_145_4, r_145_5, r_145_6, r_154_0, r_154_1, r_155_0, r_157_0, r_157_1, r_157_2, r_157_3, r_157_6, r_157_7, r_157_8, r_157_9, r_157_10, r_157_11, r_157_27, r_157_28, r_157_29, r_157_30, ↓z_m1, l_0, l_1, l_2, l_3, l_4, l_5, l_6, l_7, l_8, l_9, l_10, l_11, l_12, l_13, l_14, l_15, l_16, l_17, l_18, l_19, l_20, l_21, l_22, l_23, l_24, l_25, l_26, l_27, l_28, l_29, l_30, l_31, l_32, l_33, l_34, l_35, l_36, l_37, l_38, l_39, l_40, l_41, l_42, l_43, l_44, l_45, l_46, l_47, l_48, l_49, l_50, l_51, l_52, l_53, l_54, l_55, l_56, l_57, l_59, l_60, l_61, l_62, l_63, l_64, l_65, l_80, l_86, l_87, l_88, l_89, l_90, l_91, l_92, l_93, l_94, l_95, l_97, l_99, l_100, l_107, l_119, l_122, l_124, l_129, l_140, l_141, l_142, l_143, l_144, l_145, l_147, l_150, l_159, l_160, l_161, l_162, l_205, l_253, l_255, l_256, l_269, l_305, l_380, l_399, l_400, l_420, l_430, l_516, l_600, l_720, l_820, l_905, l_921, l_937, l_953, l_970, l_999, l_1000, l_1790, l_4096, l_9999, l_1000000]
      · show W'.length + (O'.length + 1) ≤ _
        omega
  · rw [if_neg q2]
    obtain ⟨σ3, c1, c2, c3, c4, c5⟩ := c_expF1 (lo := nI 1) (hi := nI 9999) (b := z_m) b3 (by omega) q2
    have hout : zl_out (some (nI 0, σ3)) σ2 T N (Sum.inl (1, zt_at T (zt_nx T p))) := ⟨σ3, rfl, ⟨fun o o0 _ _ _ _ _ _ => c1 o o0, fun i _ => by rw [c1 148 (by omega)], c2 1 (by omega) (by omega)⟩, c3, c4⟩
    obtain ⟨σ', e, g⟩ := hout.of hf2
    refine ⟨σ', ?_, g⟩
    rw [← e]
    unfold f_X3_readPart
    simp (disch := omega) only [er, a3, b4, c5, ↓reduceIte, ↓p_ld, ↓p_st, ↓p_nm, ↓p_nS, ↓p_jn, ↓p_call, ↓p_callv, ↓p_dv, ↓p_rem, h_ldE, h_stE, h_nmE, h_nSE, h_callE, h_callvE, h_dvE, h_remE, if_true, if_false, z_upS, z_upO, z_upK, nI_add, z_mul, z_sub, z_div, Nat.add_zero, Nat.mul_zero, Nat.zero_add, Nat.sub_zero, Nat.zero_mul, z_ltT, z_ltF, z_leT, z_leF, z_eqT, z_eqF, z_inT, z_clT, not_true_eq_false, not_false_eq_true, eq_self, true_or, or_true, z_m_lt, z_m_le, z_lt_m, z_le_m, z_eq_m, z_m_eq, z_rz0, z_rz1, z_m_add, z_of, r_0_0, r_0_1, r_0_3, r_0_4, r_0_5, r_0_6, r_0_7, r_0_8, r_0_9, r_0_10, r_1_0, r_1_1, r_1_2, r_1_3, r_1_4, r_1_5, r_1_6, r_1_7, r_1_8, r_2_0, r_2_1, r_2_2, r_2_3, r_2_4, r_2_5, r_2_6, r_2_7, r_11_0, r_11_1, r_11_2, r_11_3, r_11_4, r_11_5, r_11_6, r_19_0, r_21_0, r_23_0, r_25_0, r_27_0, r_31_0, r_31_1, r_31_2, r_31_3, r_31_4, r_31_5, r_31_6, r_31_7, r_31_8, r_32_0, r_32_1, r_32_2, r_32_3, r_32_4, r_32_5, r_32_6, r_32_7, r_41_0, r_41_1, r_41_2, r_41_3, r_41_4, r_41_5, r_41_6, r_49_0, r_51_0, r_53_0, r_55_0, r_57_0, r_61_0, r_63_0, r_63_1, r_63_2, r_63_3, r_63_4, r_63_5, r_63_6, r_63_7, r_72_0, r_72_1, r_72_2, r_72_3, r_72_4, r_72_5, r_72_6, r_72_7, r_81_0, r_81_1, r_81_2, r_81_3, r_81_4, r_81_5, r_81_6, r_81_7, r_90_0, r_90_1, r_90_2, r_90_3, r_90_4, r_90_5, r_90_6, r_90_7, r_99_0, r_99_1, r_99_2, r_99_3, r_99_4, r_99_5, r_99_6, r_99_7, r_108_0, r_108_1, r_108_2, r_108_3, r_108_4, r_108_5, r_108_6, r_108_7, r_117_0, r_117_1, r_117_2, r_117_3, r_117_4, r_117_5, r_117_6, r_117_7, r_126_0, r_126_1, r_126_2, r_126_3, r_126_4, r_132_0, r_132_1, r_135_0, r_135_1, r_135_2, r_135_3, r_135_4, r_135_5, r_142_0, r_144_0, r_144_1, r_144_2, r_145_0, r_145_1, r_145_2, r_145_3, r_145_4, r_145_5, r_145_6, r_154_0, r_154_1, r_155_0, r_157_0, r_157_1, r_157_2, r_157_3, r_157_6, r_157_7, r_157_8, r_157_9, r_157_10, r_157_11, r_157_27, r_157_28, r_157_29, r_157_30, ↓z_m1, l_0, l_1, l_2, l_3, l_4, l_5, l_6, l_7, l_8, l_9, l_10, l_11, l_12, l_13, l_14, l_15, l_16, l_17, l_18, l_19, l_20, l_21, l_22, l_23, l_24, l_25, l_26, l_27, l_28, l_29, l_30, l_31, l_32, l_33, l_34, l_35, l_36, l_37, l_38, l_39, l_40, l_41, l_42, l_43, l_44, l_45, l_46, l_47, l_48, l_49, l_50, l_51, l_52, l_53, l_54, l_55, l_56, l_57, l_59, l_60, l_61, l_62, l_63, l_64, l_65, l_80, l_86, l_87, l_88, l_89, l_90, l_91, l_92, l_93, l_94, l_95, l_97, l_99, l_100, l_107, l_119, l_122, l_124, l_129, l_140, l_141, l_142, l_143, l_144, l_145, l_147, l_150, l_159, l_160, l_161, l_162, l_205, l_253, l_255, l_256, l_269, l_305, l_380, l_399, l_400, l_420, l_430, l_516, l_600, l_720, l_820, l_905, l_921, l_937, l_953, l_970, l_999, l_1000, l_1790, l_4096, l_9999, l_1000000]
/-- the end of a line -/
theorem c_endl {N ex iw p : Nat} {ic : Bool} {T : zt_T} {W : List Nat} {O : List (Nat × Nat)} {σ : q_Sto} (hN : N < 16) (hC : zt_C σ T p) (hl : W.length + O.length ≤ p) (h : zl_D σ N W O ex iw ic) : zl_out (f_X3_endLine q_F 144 σ) σ T N (zl_endl T p W O ex iw ic) := by
  have hL := hC.1.1
  have hpL := hC.2.1
  unfold zl_endl
  by_cases q : zt_cd 0 T p = 159
  · rw [if_pos q]
    obtain ⟨g1, g2⟩ := zt_go (k := 0) (by omega) hpL (show zt_cd 0 T p ≠ 0 by omega)
    have es := c_sT (k := 0) (c := 59) hC (by omega) (Or.inl rfl) (by omega)
    obtain ⟨σ1, a1, a2, a3⟩ := c_rel (r := 1) (by omega) (by omega) (by omega) h
    have hlen := zl_rel_len (r := 1) W O
    generalize zl_rel 1 W O = R at *
    obtain ⟨W', O'⟩ := R
    have hlen : W'.length + O'.length = W.length + O.length := hlen
    have a2 : zl_D σ1 N W' O' ex iw ic := a2
    obtain ⟨h3, hw, h4, h5, h6, h7, h8, hs, ho, h8N, hwh⟩ := a2
    have hs : σ1 145 7 = nI O'.length := hs
    have ee : f_X2_endLine q_F 145 σ1 = some (nI 0, q_up (q_up σ1 149 N (nI O'.length)) 145 8 (nI (N+1))) := by
      unfold f_X2_endLine
      generalize O'.length = ol at *
      simp (disch := omega) only [h8N, hs, ↓reduceIte, ↓p_ld, ↓p_st, ↓p_nm, ↓p_nS, ↓p_jn, ↓p_call, ↓p_callv, ↓p_dv, ↓p_rem, h_ldE, h_stE, h_nmE, h_nSE, h_callE, h_callvE, h_dvE, h_remE, if_true, if_false, z_upS, z_upO, z_upK, nI_add, z_mul, z_sub, z_div, Nat.add_zero, Nat.mul_zero, Nat.zero_add, Nat.sub_zero, Nat.zero_mul, z_ltT, z_ltF, z_leT, z_leF, z_eqT, z_eqF, z_inT, z_clT, not_true_eq_false, not_false_eq_true, eq_self, true_or, or_true, z_m_lt, z_m_le, z_lt_m, z_le_m, z_eq_m, z_m_eq, z_rz0, z_rz1, z_m_add, z_of, r_0_0, r_0_1, r_0_3, r_0_4, r_0_5, r_0_6, r_0_7, r_0_8, r_0_9, r_0_10, r_1_0, r_1_1, r_1_2, r_1_3, r_1_4, r_1_5, r_1_6, r_1_7, r_1_8, r_2_0, r_2_1, r_2_2, r_2_3, r_2_4, r_2_5, r_2_6, r_2_7, r_11_0, r_11_1, r_11_2, r_11_3, r_11_4, r_11_5, r_11_6, r_19_0, r_21_0, r_23_0, r_25_0, r_27_0, r_31_0, r_31_1, r_31_2, r_31_3, r_31_4, r_31_5, r_31_6, r_31_7, r_31_8, r_32_0, r_32_1, r_32_2, r_32_3, r_32_4, r_32_5, r_32_6, r_32_7, r_41_0, r_41_1, r_41_2, r_41_3, r_41_4, r_41_5, r_41_6, r_49_0, r_51_0, r_53_0, r_55_0, r_57_0, r_61_0, r_63_0, r_63_1, r_63_2, r_63_3, r_63_4, r_63_5, r_63_6, r_63_7, r_72_0, r_72_1, r_72_2, r_72_3, r_72_4, r_72_5, r_72_6, r_72_7, r_81_0, r_81_1, r_81_2, r_81_3, r_81_4, r_81_5, r_81_6, r_81_7, r_90_0, r_90_1, r_90_2, r_90_3, r_90_4, r_90_5, r_90_6, r_90_7, r_99_0, r_99_1, r_99_2, r_99_3, r_99_4, r_99_5, r_99_6, r_99_7, r_108_0, r_108_1, r_108_2, r_108_3, r_108_4, r_108_5, r_108_6, r_108_7, r_117_0, r_117_1, r_117_2, r_117_3, r_117_4, r_117_5, r_117_6, r_117_7, r_126_0, r_126_1, r_126_2, r_126_3, r_126_4, r_132_0, r_132_1, r_135_0, r_135_1, r_135_2, r_135_3, r_135_4, r_135_5, r_142_0, r_144_0, r_144_1, r_144_2, r_145_0, r_145_1, r_145_2, r_145_3, r_145_4, r_145_5, r_145_6, r_154_0, r_154_1, r_155_0, r_157_0, r_157_1, r_157_2, r_157_3, r_157_6, r_157_7, r_157_8, r_157_9, r_157_10, r_157_11, r_157_27, r_157_28, r_157_29, r_157_30, ↓z_m1, l_0, l_1, l_2, l_3, l_4, l_5, l_6, l_7, l_8, l_9, l_10, l_11, l_12, l_13, l_14, l_15, l_16, l_17, l_18, l_19, l_20, l_21, l_22, l_23, l_24, l_25, l_26, l_27, l_28, l_29, l_30, l_31, l_32, l_33, l_34, l_35, l_36, l_37, l_38, l_39, l_40, l_41, l_42, l_43, l_44, l_45, l_46, l_47, l_48, l_49, l_50, l_51, l_52, l_53, l_54, l_55, l_56, l_57, l_59, l_60, l_61, l_62, l_63, l_64, l_65, l_80, l_86, l_87, l_88, l_89, l_90, l_91, l_92, l_93, l_94, l_95, l_97, l_99, l_100, l_107, l_119, l_122, l_124, l_129, l_140, l_141, l_142, l_143, l_144, l_145, l_147, l_150, l_159, l_160, l_161, l_162, l_205, l_253, l_255, l_256, l_269, l_305, l_380, l_399, l_400, l_420, l_430, l_516, l_600, l_720, l_820, l_905, l_921, l_937, l_953, l_970, l_999, l_1000, l_1790, l_4096, l_9999, l_1000000]
    obtain ⟨σ2, b1, b2, b3, b4⟩ := c_nextC (σ := q_up (q_up σ1 149 N (nI O'.length)) 145 8 (nI (N+1))) ((hC.fL a1).fr (by rw [z_upO (by omega), z_upO (by omega)]) (fun a _ _ => by rw [z_upO (by omega), z_upO (by omega)]))
    refine ⟨σ2, ?_, ⟨fun o o0 o1 o2 o3 o4 o5 o6 o7 => by rw [b1 o o0, z_upO o2, z_upO o4, a1.1 o o1 o2 o3 o5 o6 o7], fun i hi => ⟨by rw [b1 148 (by omega), z_upO (by omega), z_upO (by omega), a1.2 i hi], by rw [b1 149 (by omega), z_upO (by omega), z_upK hi, a1.1 149 (by omega) (by omega) (by omega) (by omega) (by omega) (by omega)]⟩, fun a x1 x2 x3 x4 => by rw [b2 a x1 x2 x3 x4, z_upO (by omega), z_upO (by omega), a1.1 142 (by omega) (by omega) (by omega) (by omega) (by omega) (by omega)]⟩, b3, by omega, ?_, ?_, ?_, ?_, ?_⟩
    · unfold f_X3_endLine
      generalize O'.length = ol at *
      simp (disch := omega) only [es, a3, ee, b4, ↓reduceIte, ↓p_ld, ↓p_st, ↓p_nm, ↓p_nS, ↓p_jn, ↓p_call, ↓p_callv, ↓p_dv, ↓p_rem, h_ldE, h_stE, h_nmE, h_nSE, h_callE, h_callvE, h_dvE, h_remE, if_true, if_false, z_upS, z_upO, z_upK, nI_add, z_mul, z_sub, z_div, Nat.add_zero, Nat.mul_zero, Nat.zero_add, Nat.sub_zero, Nat.zero_mul, z_ltT, z_ltF, z_leT, z_leF, z_eqT, z_eqF, z_inT, z_clT, not_true_eq_false, not_false_eq_true, eq_self, true_or, or_true, z_m_lt, z_m_le, z_lt_m, z_le_m, z_eq_m, z_m_eq, z_rz0, z_rz1, z_m_add, z_of, r_0_0, r_0_1, r_0_3, r_0_4, r_0_5, r_0_6, r_0_7, r_0_8, r_0_9, r_0_10, r_1_0, r_1_1, r_1_2, r_1_3, r_1_4, r_1_5, r_1_6, r_1_7, r_1_8, r_2_0, r_2_1, r_2_2, r_2_3, r_2_4, r_2_5, r_2_6, r_2_7, r_11_0, r_11_1, r_11_2, r_11_3, r_11_4, r_11_5, r_11_6, r_19_0, r_21_0, r_23_0, r_25_0, r_27_0, r_31_0, r_31_1, r_31_2, r_31_3, r_31_4, r_31_5, r_31_6, r_31_7, r_31_8, r_32_0, r_32_1, r_32_2, r_32_3, r_32_4, r_32_5, r_32_6, r_32_7, r_41_0, r_41_1, r_41_2, r_41_3, r_41_4, r_41_5, r_41_6, r_49_0, r_51_0, r_53_0, r_55_0, r_57_0, r_61_0, r_63_0, r_63_1, r_63_2, r_63_3, r_63_4, r_63_5, r_63_6, r_63_7, r_72_0, r_72_1, r_72_2, r_72_3, r_72_4, r_72_5, r_72_6, r_72_7, r_81_0, r_81_1, r_81_2, r_81_3, r_81_4, r_81_5, r_81_6, r_81_7, r_90_0, r_90_1, r_90_2, r_90_3, r_90_4, r_90_5, r_90_6, r_90_7, r_99_0, r_99_1, r_99_2, r_99_3, r_99_4, r_99_5, r_99_6, r_99_7, r_108_0, r_108_1, r_108_2, r_108_3, r_108_4, r_108_5, r_108_6, r_108_7, r_117_0, r_117_1, r_117_2, r_117_3, r_117_4, r_117_5, r_117_6, r_117_7, r_126_0, r_126_1, r_126_2, r_126_3, r_126_4, r_132_0, r_132_1, r_135_0, r_135_1, r_135_2, r_135_3, r_135_4, r_135_5, r_142_0, r_144_0, r_144_1, r_144_2, r_145_0, r_145_1, r_145_2, r_145_3, r_145_4, r_145_5, r_145_6, r_154_0, r_154_1, r_155_0, r_157_0, r_157_1, r_157_2, r_157_3, r_157_6, r_157_7, r_157_8, r_157_9, r_157_10, r_157_11, r_157_27, r_157_28, r_157_29, r_157_30, ↓z_m1, l_0, l_1, l_2, l_3, l_4, l_5, l_6, l_7, l_8, l_9, l_10, l_11, l_12, l_13, l_14, l_15, l_16, l_17, l_18, l_19, l_20, l_21, l_22, l_23, l_24, l_25, l_26, l_27, l_28, l_29, l_30, l_31, l_32, l_33, l_34, l_35, l_36, l_37, l_38, l_39, l_40, l_41, l_42, l_43, l_44, l_45, l_46, l_47, l_48, l_49, l_50, l_51, l_52, l_53, l_54, l_55, l_56, l_57, l_59, l_60, l_61, l_62, l_63, l_64, l_65, l_80, l_86, l_87, l_88, l_89, l_90, l_91, l_92, l_93, l_94, l_95, l_97, l_99, l_100, l_107, l_119, l_122, l_124, l_129, l_140, l_141, l_142, l_143, l_144, l_145, l_147, l_150, l_159, l_160, l_161, l_162, l_205, l_253, l_255, l_256, l_269, l_305, l_380, l_399, l_400, l_420, l_430, l_516, l_600, l_720, l_820, l_905, l_921, l_937, l_953, l_970, l_999, l_1000, l_1790, l_4096, l_9999, l_1000000]
    · rw [b1 149 (by omega), z_upO (by omega)]; exact z_upS
    · rw [b1 148 (by omega), z_upO (by omega), z_upO (by omega)]; exact hwh
    · rw [b1 145 (by omega), z_upK (by omega), z_upO (by omega)]; exact hs
    · rw [b1 150 (by omega), b1 151 (by omega), z_upO (by omega), z_upO (by omega), z_upO (by omega), z_upO (by omega)]; exact ho
    · rw [b1 145 (by omega)]; exact z_upS
  · rw [if_neg q]
    have es := c_sF (k := 0) (c := 59) hC (by omega) (Or.inl rfl) (by omega)
    obtain ⟨σ', e, g⟩ := (c_failO (f := 1) (N := N) hC).rz
    refine ⟨σ', ?_, g⟩
    rw [← e]
    unfold f_X3_endLine
    simp (disch := omega) only [es, ↓reduceIte, ↓p_ld, ↓p_st, ↓p_nm, ↓p_nS, ↓p_jn, ↓p_call, ↓p_callv, ↓p_dv, ↓p_rem, h_ldE, h_stE, h_nmE, h_nSE, h_callE, h_callvE, h_dvE, h_remE, if_true, if_false, z_upS, z_upO, z_upK, nI_add, z_mul, z_sub, z_div, Nat.add_zero, Nat.mul_zero, Nat.zero_add, Nat.sub_zero, Nat.zero_mul, z_ltT, z_ltF, z_leT, z_leF, z_eqT, z_eqF, z_inT, z_clT, not_true_eq_false, not_false_eq_true, eq_self, true_or, or_true, z_m_lt, z_m_le, z_lt_m, z_le_m, z_eq_m, z_m_eq, z_rz0, z_rz1, z_m_add, z_of, r_0_0, r_0_1, r_0_3, r_0_4, r_0_5, r_0_6, r_0_7, r_0_8, r_0_9, r_0_10, r_1_0, r_1_1, r_1_2, r_1_3, r_1_4, r_1_5, r_1_6, r_1_7, r_1_8, r_2_0, r_2_1, r_2_2, r_2_3, r_2_4, r_2_5, r_2_6, r_2_7, r_11_0, r_11_1, r_11_2, r_11_3, r_11_4, r_11_5, r_11_6, r_19_0, r_21_0, r_23_0, r_25_0, r_27_0, r_31_0, r_31_1, r_31_2, r_31_3, r_31_4, r_31_5, r_31_6, r_31_7, r_31_8, r_32_0, r_32_1, r_32_2, r_32_3, r_32_4, r_32_5, r_32_6, r_32_7, r_41_0, r_41_1, r_41_2, r_41_3, r_41_4, r_41_5, r_41_6, r_49_0, r_51_0, r_53_0, r_55_0, r_57_0, r_61_0, r_63_0, r_63_1, r_63_2, r_63_3, r_63_4, r_63_5, r_63_6, r_63_7, r_72_0, r_72_1, r_72_2, r_72_3, r_72_4, r_72_5, r_72_6, r_72_7, r_81_0, r_81_1, r_81_2, r_81_3, r_81_4, r_81_5, r_81_6, r_81_7, r_90_0, r_90_1, r_90_2, r_90_3, r_90_4, r_90_5, r_90_6, r_90_7, r_99_0, r_99_1, r_99_2, r_99_3, r_99_4, r_99_5, r_99_6, r_99_7, r_108_0, r_108_1, r_108_2, r_108_3, r_108_4, r_108_5, r_108_6, r_108_7, r_117_0, r_117_1, r_117_2, r_117_3, r_117_4, r_117_5, r_117_6, r_117_7, r_126_0, r_126_1, r_126_2, r_126_3, r_126_4, r_132_0, r_132_1, r_135_0, r_135_1, r_135_2, r_135_3, r_135_4, r_135_5, r_142_0, r_144_0, r_144_1, r_144_2, r_145_0, r_145_1, r_145_2, r_145_3, r_145_4, r_145_5, r_145_6, r_154_0, r_154_1, r_155_0, r_157_0, r_157_1, r_157_2, r_157_3, r_157_6, r_157_7, r_157_8, r_157_9, r_157_10, r_157_11, r_157_27, r_157_28, r_157_29, r_157_30, ↓z_m1, l_0, l_1, l_2, l_3, l_4, l_5, l_6, l_7, l_8, l_9, l_10, l_11, l_12, l_13, l_14, l_15, l_16, l_17, l_18, l_19, l_20, l_21, l_22, l_23, l_24, l_25, l_26, l_27, l_28, l_29, l_30, l_31, l_32, l_33, l_34, l_35, l_36, l_37, l_38, l_39, l_40, l_41, l_42, l_43, l_44, l_45, l_46, l_47, l_48, l_49, l_50, l_51, l_52, l_53, l_54, l_55, l_56, l_57, l_59, l_60, l_61, l_62, l_63, l_64, l_65, l_80, l_86, l_87, l_88, l_89, l_90, l_91, l_92, l_93, l_94, l_95, l_97, l_99, l_100, l_107, l_119, l_122, l_124, l_129, l_140, l_141, l_142, l_143, l_144, l_145, l_147, l_150, l_159, l_160, l_161, l_162, l_205, l_253, l_255, l_256, l_269, l_305, l_380, l_399, l_400, l_420, l_430, l_516, l_600, l_720, l_820, l_905, l_921, l_937, l_953, l_970, l_999, l_1000, l_1790, l_4096, l_9999, l_1000000]
/-- a ) -/
theorem c_clos {N ex iw p : Nat} {ic : Bool} {T : zt_T} {W : List Nat} {O : List (Nat × Nat)} {σ : q_Sto} (hcb : zl_cb W ≠ 0) (hC : zt_C σ T p) (hl : W.length + O.length ≤ p) (h : zl_D σ N W O ex iw ic) : zl_out (f_X3_readClosing q_F 144 σ) σ T N (zl_clos T p W O iw ic) := by
  have hL := hC.1.1
  have hpL := hC.2.1
  unfold zl_clos
  by_cases q : zt_cd 0 T p = 141
  · rw [if_pos q]
    obtain ⟨g1, g2⟩ := zt_go (k := 0) (by omega) hpL (show zt_cd 0 T p ≠ 0 by omega)
    have es := c_sT (k := 0) (c := 41) hC (by omega) (by omega) (by omega)
    obtain ⟨σ1, a1, a2, a3⟩ := c_rel (r := 1) (by omega) (by omega) (by omega) h
    have hlen := zl_rel_len (r := 1) W O
    have hhd := zl_rel_out (r := 1) W O
    have hcb2 := zl_rel_cb (r := 1) (Nat.le_refl _) W O
    generalize zl_rel 1 W O = R at *
    obtain ⟨W', O'⟩ := R
    have hlen : W'.length + O'.length = W.length + O.length := hlen
    have hcb2 : zl_cb W' = zl_cb W := hcb2
    have a2 : zl_D σ1 N W' O' ex iw ic := a2
    cases W' with
    | nil =>
      exfalso
      have : zl_cb ([] : List Nat) = 0 := rfl
      omega
    | cons x W' =>
      obtain ⟨h3, ⟨⟨w1, w2⟩, hw⟩, h4, h5, h6, h7, h8, hs, ho, h8N, hwh⟩ := a2
      have hx : x = 12 := by
        have hhd : zl_rk x < 1 := hhd
        have hc : x = 0 ∨ x = 1 ∨ x = 2 ∨ x = 3 ∨ x = 4 ∨ x = 5 ∨ x = 6 ∨ x = 7 ∨ x = 8 ∨ x = 9 ∨ x = 10 ∨ x = 11 ∨ x = 12 := by omega
        rcases hc with rfl | rfl | rfl | rfl | rfl | rfl | rfl | rfl | rfl | rfl | rfl | rfl | rfl <;> first | rfl | (exfalso; revert hhd; decide)
      subst hx
      have h3 : σ1 144 3 = nI (W'.length + 1) := h3
      have h4 : σ1 144 4 = nI (zl_cb W' + 1) := h4
      have h5 : σ1 144 5 = nI (zl_cn W' + 1) := h5
      have hcn1 := zl_cn_le W'
      have hcb1 := zl_cb_le W'
      have hlen : W'.length + 1 + O'.length = W.length + O.length := hlen
      obtain ⟨σ2, b1, b2, b3, b4⟩ := c_nextC (σ := q_up (q_up (q_up σ1 144 3 (nI W'.length)) 144 4 (nI (zl_cb W'))) 144 5 (nI (zl_cn W'))) ((hC.fL a1).fr (by rw [z_upO (by omega), z_upO (by omega), z_upO (by omega)]) (fun a _ _ => by rw [z_upO (by omega), z_upO (by omega), z_upO (by omega)]))
      refine ⟨q_up σ2 144 6 (nI 3), ?_, a1.T.trans ⟨fun o o0 o1 o2 o3 o4 o5 o6 => by rw [z_upO o1, b1 o o0, z_upO o1, z_upO o1, z_upO o1], fun i hi => by rw [z_upO (by omega), b1 148 (by omega), z_upO (by omega), z_upO (by omega), z_upO (by omega)], fun a x1 x2 x3 x4 => by rw [z_upO (by omega), b2 a x1 x2 x3 x4, z_upO (by omega), z_upO (by omega), z_upO (by omega)]⟩, b3.fL (zl_fL.up (N := N) σ2), ?_, by omega, ?_⟩
      · have emx : q_mx (nI 0) (nI W'.length) = nI W'.length := by
          rw [z_mxE (by omega) (by omega), show max 0 W'.length = W'.length by omega]
        unfold f_X3_readClosing
        generalize W'.length = w at *
        generalize zl_cb W' = cb at *
        generalize zl_cn W' = cn at *
        simp (disch := omega) only [es, a3, h3, h4, h5, emx, b4, Nat.add_sub_cancel, ↓reduceIte, ↓p_ld, ↓p_st, ↓p_nm, ↓p_nS, ↓p_jn, ↓p_call, ↓p_callv, ↓p_dv, ↓p_rem, h_ldE, h_stE, h_nmE, h_nSE, h_callE, h_callvE, h_dvE, h_remE, if_true, if_false, z_upS, z_upO, z_upK, nI_add, z_mul, z_sub, z_div, Nat.add_zero, Nat.mul_zero, Nat.zero_add, Nat.sub_zero, Nat.zero_mul, z_ltT, z_ltF, z_leT, z_leF, z_eqT, z_eqF, z_inT, z_clT, not_true_eq_false, not_false_eq_true, eq_self, true_or, or_true, z_m_lt, z_m_le, z_lt_m, z_le_m, z_eq_m, z_m_eq, z_rz0, z_rz1, z_m_add, z_of, r_0_0, r_0_1, r_0_3, r_0_4, r_0_5, r_0_6, r_0_7, r_0_8, r_0_9, r_0_10, r_1_0, r_1_1, r_1_2, r_1_3, r_1_4, r_1_5, r_1_6, r_1_7, r_1_8, r_2_0, r_2_1, r_2_2, r_2_3, r_2_4, r_2_5, r_2_6, r_2_7, r_11_0, r_11_1, r_11_2, r_11_3, r_11_4, r_11_5, r_11_6, r_19_0, r_21_0, r_23_0, r_25_0, r_27_0, r_31_0, r_31_1, r_31_2, r_31_3, r_31_4, r_31_5, r_31_6, r_31_7, r_31_8, r_32_0, r_32_1, r_32_2, r_32_3, r_32_4, r_32_5, r_32_6, r_32_7, r_41_0, r_41_1, r_41_2, r_41_3, r_41_4, r_41_5, r_41_6, r_49_0, r_51_0, r_53_0, r_55_0, r_57_0, r_61_0, r_63_0, r_63_1, r_63_2, r_63_3, r_63_4, r_63_5, r_63_6, r_63_7, r_72_0, r_72_1, r_72_2, r_72_3, r_72_4, r_72_5, r_72_6, r_72_7, r_81_0, r_81_1, r_81_2, r_81_3, r_81_4, r_81_5, r_81_6, r_81_7, r_90_0, r_90_1, r_90_2, r_90_3, r_90_4, r_90_5, r_90_6, r_90_7, r_99_0, r_99_1, r_99_2, r_99_3, r_99_4, r_99_5, r_99_6, r_99_7, r_108_0, r_108_1, r_108_2, r_108_3, r_108_4, r_108_5, r_108_6, r_108_7, r_117_0, r_117_1, r_117_2, r_117_3, r_117_4, r_117_5, r_117_6, r_117_7, r_126_0, r_126_1, r_126_2, r_126_3, r_126_4, r_132_0, r_132_1, r_135_0, r_135_1, r_135_2, r_135_3, r_135_4, r_135_5, r_142_0, r_144_0, r_144_1, r_144_2, r_145_0, r_145_1, r_145_2, r_145_3, r_145_4, r_145_5, r_145_6, r_154_0, r_154_1, r_155_0, r_157_0, r_157_1, r_157_2, r_157_3, r_157_6, r_157_7, r_157_8, r_157_9, r_157_10, r_157_11, r_157_27, r_157_28, r_157_29, r_157_30, ↓z_m1, l_0, l_1, l_2, l_3, l_4, l_5, l_6, l_7, l_8, l_9, l_10, l_11, l_12, l_13, l_14, l_15, l_16, l_17, l_18, l_19, l_20, l_21, l_22, l_23, l_24, l_25, l_26, l_27, l_28, l_29, l_30, l_31, l_32, l_33, l_34, l_35, l_36, l_37, l_38, l_39, l_40, l_41, l_42, l_43, l_44, l_45, l_46, l_47, l_48, l_49, l_50, l_51, l_52, l_53, l_54, l_55, l_56, l_57, l_59, l_60, l_61, l_62, l_63, l_64, l_65, l_80, l_86, l_87, l_88, l_89, l_90, l_91, l_92, l_93, l_94, l_95, l_97, l_99, l_100, l_107, l_119, l_122, l_124, l_129, l_140, l_141, l_142, l_143, l_144, l_145, l_147, l_150, l_159, l_160, l_161, l_162, l_205, l_253, l_255, l_256, l_269, l_305, l_380, l_399, l_400, l_420, l_430, l_516, l_600, l_720, l_820, l_905, l_921, l_937, l_953, l_970, l_999, l_1000, l_1790, l_4096, l_9999, l_1000000]
      · show W'.length + O'.length ≤ _
        omega
      · have g4 : ∀ a, a ≠ 3 → a ≠ 4 → a ≠ 5 → a ≠ 6 → q_up σ2 144 6 (nI 3) 144 a = σ1 144 a := fun a a1 a2 a3 a4 => by rw [z_upK a4, b1 144 (by omega), z_upK a3, z_upK a2, z_upK a1]
        have g : ∀ o, o ≠ 142 → o ≠ 144 → q_up σ2 144 6 (nI 3) o = σ1 o := fun o o1 o2 => by rw [z_upO o2, b1 o o1, z_upO o2, z_upO o2, z_upO o2]
        refine ⟨by rw [z_upK (by omega), b1 144 (by omega), z_upK (by omega), z_upK (by omega)]; exact z_upS, by rw [g 153 (by omega) (by omega)]; exact hw, by rw [z_upK (by omega), b1 144 (by omega), z_upK (by omega)]; exact z_upS, by rw [z_upK (by omega), b1 144 (by omega)]; exact z_upS, z_upS, by rw [g4 7 (by omega) (by omega) (by omega) (by omega)]; exact h7, by rw [g4 8 (by omega) (by omega) (by omega) (by omega)]; exact h8, by rw [g 145 (by omega) (by omega)]; exact hs, by rw [g 150 (by omega) (by omega), g 151 (by omega) (by omega)]; exact ho, by rw [g 145 (by omega) (by omega)]; exact h8N, by rw [g 148 (by omega) (by omega)]; exact hwh⟩
  · rw [if_neg q]
    have es := c_sF (k := 0) (c := 41) hC (by omega) (by omega) (by omega)
    obtain ⟨σ', e, g⟩ := (c_failO (f := 1) (N := N) hC).rz
    refine ⟨σ', ?_, g⟩
    rw [← e]
    unfold f_X3_readClosing
    simp (disch := omega) only [es, ↓reduceIte, ↓p_ld, ↓p_st, ↓p_nm, ↓p_nS, ↓p_jn, ↓p_call, ↓p_callv, ↓p_dv, ↓p_rem, h_ldE, h_stE, h_nmE, h_nSE, h_callE, h_callvE, h_dvE, h_remE, if_true, if_false, z_upS, z_upO, z_upK, nI_add, z_mul, z_sub, z_div, Nat.add_zero, Nat.mul_zero, Nat.zero_add, Nat.sub_zero, Nat.zero_mul, z_ltT, z_ltF, z_leT, z_leF, z_eqT, z_eqF, z_inT, z_clT, not_true_eq_false, not_false_eq_true, eq_self, true_or, or_true, z_m_lt, z_m_le, z_lt_m, z_le_m, z_eq_m, z_m_eq, z_rz0, z_rz1, z_m_add, z_of, r_0_0, r_0_1, r_0_3, r_0_4, r_0_5, r_0_6, r_0_7, r_0_8, r_0_9, r_0_10, r_1_0, r_1_1, r_1_2, r_1_3, r_1_4, r_1_5, r_1_6, r_1_7, r_1_8, r_2_0, r_2_1, r_2_2, r_2_3, r_2_4, r_2_5, r_2_6, r_2_7, r_11_0, r_11_1, r_11_2, r_11_3, r_11_4, r_11_5, r_11_6, r_19_0, r_21_0, r_23_0, r_25_0, r_27_0, r_31_0, r_31_1, r_31_2, r_31_3, r_31_4, r_31_5, r_31_6, r_31_7, r_31_8, r_32_0, r_32_1, r_32_2, r_32_3, r_32_4, r_32_5, r_32_6, r_32_7, r_41_0, r_41_1, r_41_2, r_41_3, r_41_4, r_41_5, r_41_6, r_49_0, r_51_0, r_53_0, r_55_0, r_57_0, r_61_0, r_63_0, r_63_1, r_63_2, r_63_3, r_63_4, r_63_5, r_63_6, r_63_7, r_72_0, r_72_1, r_72_2, r_72_3, r_72_4, r_72_5, r_72_6, r_72_7, r_81_0, r_81_1, r_81_2, r_81_3, r_81_4, r_81_5, r_81_6, r_81_7, r_90_0, r_90_1, r_90_2, r_90_3, r_90_4, r_90_5, r_90_6, r_90_7, r_99_0, r_99_1, r_99_2, r_99_3, r_99_4, r_99_5, r_99_6, r_99_7, r_108_0, r_108_1, r_108_2, r_108_3, r_108_4, r_108_5, r_108_6, r_108_7, r_117_0, r_117_1, r_117_2, r_117_3, r_117_4, r_117_5, r_117_6, r_117_7, r_126_0, r_126_1, r_126_2, r_126_3, r_126_4, r_132_0, r_132_1, r_135_0, r_135_1, r_135_2, r_135_3, r_135_4, r_135_5, r_142_0, r_144_0, r_144_1, r_144_2, r_145_0, r_145_1, r_145_2, r_145_3, r_145_4, r_145_5, r_145_6, r_154_0, r_154_1, r_155_0, r_157_0, r_157_1, r_157_2, r_157_3, r_157_6, r_157_7, r_157_8, r_157_9, r_157_10, r_157_11, r_157_27, r_157_28, r_157_29, r_157_30, ↓z_m1, l_0, l_1, l_2, l_3, l_4, l_5, l_6, l_7, l_8, l_9, l_10, l_11, l_12, l_13, l_14, l_15, l_16, l_17, l_18, l_19, l_20, l_21, l_22, l_23, l_24, l_25, l_26, l_27, l_28, l_29, l_30, l_31, l_32, l_33, l_34, l_35, l_36, l_37, l_38, l_39, l_40, l_41, l_42, l_43, l_44, l_45, l_46, l_47, l_48, l_49, l_50, l_51, l_52, l_53, l_54, l_55, l_56, l_57, l_59, l_60, l_61, l_62, l_63, l_64, l_65, l_80, l_86, l_87, l_88, l_89, l_90, l_91, l_92, l_93, l_94, l_95, l_97, l_99, l_100, l_107, l_119, l_122, l_124, l_129, l_140, l_141, l_142, l_143, l_144, l_145, l_147, l_150, l_159, l_160, l_161, l_162, l_205, l_253, l_255, l_256, l_269, l_305, l_380, l_399, l_400, l_420, l_430, l_516, l_600, l_720, l_820, l_905, l_921, l_937, l_953, l_970, l_999, l_1000, l_1790, l_4096, l_9999, l_1000000]
/-! THE LAW's reader: the class, a sign -/
theorem c_when {N iw p : Nat} {ic : Bool} {T : zt_T} {W : List Nat} {O : List (Nat × Nat)} {σ : q_Sto} (hN : N < 16) (hC : zt_C σ T p) (hl : W.length + O.length ≤ p) (h : zl_D σ N W O 2 iw ic) : zl_out (f_X3_readWhen q_F 144 σ) σ T N (zl_when T p W O iw ic) := by
  have hL := hC.1.1
  have hpL := hC.2.1
  obtain ⟨o0, o1, o2, o3, o4, o5, o6, o7, o8, o9, o10, o11, o12, o13, o14, o15, o16⟩ := c_wok
  unfold zl_when
  by_cases q : zt_cd 0 T p = 3
  · rw [if_pos q]
    obtain ⟨g1, g2⟩ := zt_go (k := 0) (by omega) hpL (show zt_cd 0 T p ≠ 0 by omega)
    have es := c_wT hC (by omega) o14 q
    obtain ⟨σ1, a1, a2, a3⟩ := c_rel (r := 1) (by omega) (by omega) (by omega) h
    have hlen := zl_rel_len (r := 1) W O
    generalize zl_rel 1 W O = R at *
    obtain ⟨W', O'⟩ := R
    have hlen : W'.length + O'.length = W.length + O.length := hlen
    have a2 : zl_D σ1 N W' O' 2 iw ic := a2
    obtain ⟨h3, hw, h4, h5, h6, h7, h8, hs, ho, h8N, hwh⟩ := a2
    have hs : σ1 145 7 = nI O'.length := hs
    have ee : f_X2_beginWhen q_F 145 σ1 = some (nI 0, q_up σ1 148 N (nI O'.length)) := by
      unfold f_X2_beginWhen
      generalize O'.length = ol at *
      simp (disch := omega) only [h8N, hs, ↓reduceIte, ↓p_ld, ↓p_st, ↓p_nm, ↓p_nS, ↓p_jn, ↓p_call, ↓p_callv, ↓p_dv, ↓p_rem, h_ldE, h_stE, h_nmE, h_nSE, h_callE, h_callvE, h_dvE, h_remE, if_true, if_false, z_upS, z_upO, z_upK, nI_add, z_mul, z_sub, z_div, Nat.add_zero, Nat.mul_zero, Nat.zero_add, Nat.sub_zero, Nat.zero_mul, z_ltT, z_ltF, z_leT, z_leF, z_eqT, z_eqF, z_inT, z_clT, not_true_eq_false, not_false_eq_true, eq_self, true_or, or_true, z_m_lt, z_m_le, z_lt_m, z_le_m, z_eq_m, z_m_eq, z_rz0, z_rz1, z_m_add, z_of, r_0_0, r_0_1, r_0_3, r_0_4, r_0_5, r_0_6, r_0_7, r_0_8, r_0_9, r_0_10, r_1_0, r_1_1, r_1_2, r_1_3, r_1_4, r_1_5, r_1_6, r_1_7, r_1_8, r_2_0, r_2_1, r_2_2, r_2_3, r_2_4, r_2_5, r_2_6, r_2_7, r_11_0, r_11_1, r_11_2, r_11_3, r_11_4, r_11_5, r_11_6, r_19_0, r_21_0, r_23_0, r_25_0, r_27_0, r_31_0, r_31_1, r_31_2, r_31_3, r_31_4, r_31_5, r_31_6, r_31_7, r_31_8, r_32_0, r_32_1, r_32_2, r_32_3, r_32_4, r_32_5, r_32_6, r_32_7, r_41_0, r_41_1, r_41_2, r_41_3, r_41_4, r_41_5, r_41_6, r_49_0, r_51_0, r_53_0, r_55_0, r_57_0, r_61_0, r_63_0, r_63_1, r_63_2, r_63_3, r_63_4, r_63_5, r_63_6, r_63_7, r_72_0, r_72_1, r_72_2, r_72_3, r_72_4, r_72_5, r_72_6, r_72_7, r_81_0, r_81_1, r_81_2, r_81_3, r_81_4, r_81_5, r_81_6, r_81_7, r_90_0, r_90_1, r_90_2, r_90_3, r_90_4, r_90_5, r_90_6, r_90_7, r_99_0, r_99_1, r_99_2, r_99_3, r_99_4, r_99_5, r_99_6, r_99_7, r_108_0, r_108_1, r_108_2, r_108_3, r_108_4, r_108_5, r_108_6, r_108_7, r_117_0, r_117_1, r_117_2, r_117_3, r_117_4, r_117_5, r_117_6, r_117_7, r_126_0, r_126_1, r_126_2, r_126_3, r_126_4, r_132_0, r_132_1, r_135_0, r_135_1, r_135_2, r_135_3, r_135_4, r_135_5, r_142_0, r_144_0, r_144_1, r_144_2, r_145_0, r_145_1, r_145_2, r_145_3, r_145_4, r_145_5, r_145_6, r_154_0, r_154_1, r_155_0, r_157_0, r_157_1, r_157_2, r_157_3, r_157_6, r_157_7, r_157_8, r_157_9, r_157_10, r_157_11, r_157_27, r_157_28, r_157_29, r_157_30, ↓z_m1, l_0, l_1, l_2, l_3, l_4, l_5, l_6, l_7, l_8, l_9, l_10, l_11, l_12, l_13, l_14, l_15, l_16, l_17, l_18, l_19, l_20, l_21, l_22, l_23, l_24, l_25, l_26, l_27, l_28, l_29, l_30, l_31, l_32, l_33, l_34, l_35, l_36, l_37, l_38, l_39, l_40, l_41, l_42, l_43, l_44, l_45, l_46, l_47, l_48, l_49, l_50, l_51, l_52, l_53, l_54, l_55, l_56, l_57, l_59, l_60, l_61, l_62, l_63, l_64, l_65, l_80, l_86, l_87, l_88, l_89, l_90, l_91, l_92, l_93, l_94, l_95, l_97, l_99, l_100, l_107, l_119, l_122, l_124, l_129, l_140, l_141, l_142, l_143, l_144, l_145, l_147, l_150, l_159, l_160, l_161, l_162, l_205, l_253, l_255, l_256, l_269, l_305, l_380, l_399, l_400, l_420, l_430, l_516, l_600, l_720, l_820, l_905, l_921, l_937, l_953, l_970, l_999, l_1000, l_1790, l_4096, l_9999, l_1000000]
    obtain ⟨σ2, b1, b2, b3, b4⟩ := c_nextC (σ := q_up σ1 148 N (nI O'.length)) ((hC.fL a1).fr (by rw [z_upO (by omega)]) (fun a _ _ => by rw [z_upO (by omega)]))
    refine ⟨q_up (q_up σ2 144 7 (nI 1)) 144 6 (nI 1), ?_, a1.T.trans ⟨fun o o0 o1 o2 o3 o4 o5 o6 => by rw [z_upO o1, z_upO o1, b1 o o0, z_upO o3], fun i hi => by rw [z_upO (by omega), z_upO (by omega), b1 148 (by omega), z_upK hi], fun a x1 x2 x3 x4 => by rw [z_upO (by omega), z_upO (by omega), b2 a x1 x2 x3 x4, z_upO (by omega)]⟩, (b3.fL (zl_fL.up (N := N) σ2)).fL (zl_fL.up (N := N) _), ?_, by omega, ?_⟩
    · unfold f_X3_readWhen
      generalize O'.length = ol at *
      simp (disch := omega) only [es, a3, ee, b4, ↓reduceIte, ↓p_ld, ↓p_st, ↓p_nm, ↓p_nS, ↓p_jn, ↓p_call, ↓p_callv, ↓p_dv, ↓p_rem, h_ldE, h_stE, h_nmE, h_nSE, h_callE, h_callvE, h_dvE, h_remE, if_true, if_false, z_upS, z_upO, z_upK, nI_add, z_mul, z_sub, z_div, Nat.add_zero, Nat.mul_zero, Nat.zero_add, Nat.sub_zero, Nat.zero_mul, z_ltT, z_ltF, z_leT, z_leF, z_eqT, z_eqF, z_inT, z_clT, not_true_eq_false, not_false_eq_true, eq_self, true_or, or_true, z_m_lt, z_m_le, z_lt_m, z_le_m, z_eq_m, z_m_eq, z_rz0, z_rz1, z_m_add, z_of, r_0_0, r_0_1, r_0_3, r_0_4, r_0_5, r_0_6, r_0_7, r_0_8, r_0_9, r_0_10, r_1_0, r_1_1, r_1_2, r_1_3, r_1_4, r_1_5, r_1_6, r_1_7, r_1_8, r_2_0, r_2_1, r_2_2, r_2_3, r_2_4, r_2_5, r_2_6, r_2_7, r_11_0, r_11_1, r_11_2, r_11_3, r_11_4, r_11_5, r_11_6, r_19_0, r_21_0, r_23_0, r_25_0, r_27_0, r_31_0, r_31_1, r_31_2, r_31_3, r_31_4, r_31_5, r_31_6, r_31_7, r_31_8, r_32_0, r_32_1, r_32_2, r_32_3, r_32_4, r_32_5, r_32_6, r_32_7, r_41_0, r_41_1, r_41_2, r_41_3, r_41_4, r_41_5, r_41_6, r_49_0, r_51_0, r_53_0, r_55_0, r_57_0, r_61_0, r_63_0, r_63_1, r_63_2, r_63_3, r_63_4, r_63_5, r_63_6, r_63_7, r_72_0, r_72_1, r_72_2, r_72_3, r_72_4, r_72_5, r_72_6, r_72_7, r_81_0, r_81_1, r_81_2, r_81_3, r_81_4, r_81_5, r_81_6, r_81_7, r_90_0, r_90_1, r_90_2, r_90_3, r_90_4, r_90_5, r_90_6, r_90_7, r_99_0, r_99_1, r_99_2, r_99_3, r_99_4, r_99_5, r_99_6, r_99_7, r_108_0, r_108_1, r_108_2, r_108_3, r_108_4, r_108_5, r_108_6, r_108_7, r_117_0, r_117_1, r_117_2, r_117_3, r_117_4, r_117_5, r_117_6, r_117_7, r_126_0, r_126_1, r_126_2, r_126_3, r_126_4, r_132_0, r_132_1, r_135_0, r_135_1, r_135_2, r_135_3, r_135_4, r_135_5, r_142_0, r_144_0, r_144_1, r_144_2, r_145_0, r_145_1, r_145_2, r_145_3, r_145_4, r_145_5, r_145_6, r_154_0, r_154_1, r_155_0, r_157_0, r_157_1, r_157_2, r_157_3, r_157_6, r_157_7, r_157_8, r_157_9, r_157_10, r_157_11, r_157_27, r_157_28, r_157_29, r_157_30, ↓z_m1, l_0, l_1, l_2, l_3, l_4, l_5, l_6, l_7, l_8, l_9, l_10, l_11, l_12, l_13, l_14, l_15, l_16, l_17, l_18, l_19, l_20, l_21, l_22, l_23, l_24, l_25, l_26, l_27, l_28, l_29, l_30, l_31, l_32, l_33, l_34, l_35, l_36, l_37, l_38, l_39, l_40, l_41, l_42, l_43, l_44, l_45, l_46, l_47, l_48, l_49, l_50, l_51, l_52, l_53, l_54, l_55, l_56, l_57, l_59, l_60, l_61, l_62, l_63, l_64, l_65, l_80, l_86, l_87, l_88, l_89, l_90, l_91, l_92, l_93, l_94, l_95, l_97, l_99, l_100, l_107, l_119, l_122, l_124, l_129, l_140, l_141, l_142, l_143, l_144, l_145, l_147, l_150, l_159, l_160, l_161, l_162, l_205, l_253, l_255, l_256, l_269, l_305, l_380, l_399, l_400, l_420, l_430, l_516, l_600, l_720, l_820, l_905, l_921, l_937, l_953, l_970, l_999, l_1000, l_1790, l_4096, l_9999, l_1000000]
    · show W'.length + O'.length ≤ _
      omega
    · have g : ∀ o, o ≠ 142 → o ≠ 144 → o ≠ 148 → q_up (q_up σ2 144 7 (nI 1)) 144 6 (nI 1) o = σ1 o := fun o o1 o2 o3 => by rw [z_upO o2, z_upO o2, b1 o o1, z_upO o3]
      have g4 : ∀ a, a ≠ 6 → a ≠ 7 → q_up (q_up σ2 144 7 (nI 1)) 144 6 (nI 1) 144 a = σ1 144 a := fun a a1 a2 => by rw [z_upK a1, z_upK a2, b1 144 (by omega), z_upO (by omega)]
      refine ⟨by rw [g4 3 (by omega) (by omega)]; exact h3, by rw [g 153 (by omega) (by omega) (by omega)]; exact hw, by rw [g4 4 (by omega) (by omega)]; exact h4, by rw [g4 5 (by omega) (by omega)]; exact h5, z_upS, by rw [z_upK (by omega)]; exact z_upS, by rw [g4 8 (by omega) (by omega)]; exact h8, by rw [g 145 (by omega) (by omega) (by omega)]; exact hs, by rw [g 150 (by omega) (by omega) (by omega), g 151 (by omega) (by omega) (by omega)]; exact ho, by rw [g 145 (by omega) (by omega) (by omega)]; exact h8N, by rw [z_upO (by omega), z_upO (by omega), b1 148 (by omega)]; exact z_upS⟩
  · rw [if_neg q]
    have es := c_wF hC (by omega) o14 q
    have key : f_X3_readWhen q_F 144 σ = q_call (f_X3_endLine q_F 144 σ) fun r s => q_rz r s := by
      unfold f_X3_readWhen
      simp (disch := omega) only [es, ↓reduceIte, ↓p_ld, ↓p_st, ↓p_nm, ↓p_nS, ↓p_jn, ↓p_call, ↓p_callv, ↓p_dv, ↓p_rem, h_ldE, h_stE, h_nmE, h_nSE, h_callE, h_callvE, h_dvE, h_remE, if_true, if_false, z_upS, z_upO, z_upK, nI_add, z_mul, z_sub, z_div, Nat.add_zero, Nat.mul_zero, Nat.zero_add, Nat.sub_zero, Nat.zero_mul, z_ltT, z_ltF, z_leT, z_leF, z_eqT, z_eqF, z_inT, z_clT, not_true_eq_false, not_false_eq_true, eq_self, true_or, or_true, z_m_lt, z_m_le, z_lt_m, z_le_m, z_eq_m, z_m_eq, z_rz0, z_rz1, z_m_add, z_of, r_0_0, r_0_1, r_0_3, r_0_4, r_0_5, r_0_6, r_0_7, r_0_8, r_0_9, r_0_10, r_1_0, r_1_1, r_1_2, r_1_3, r_1_4, r_1_5, r_1_6, r_1_7, r_1_8, r_2_0, r_2_1, r_2_2, r_2_3, r_2_4, r_2_5, r_2_6, r_2_7, r_11_0, r_11_1, r_11_2, r_11_3, r_11_4, r_11_5, r_11_6, r_19_0, r_21_0, r_23_0, r_25_0, r_27_0, r_31_0, r_31_1, r_31_2, r_31_3, r_31_4, r_31_5, r_31_6, r_31_7, r_31_8, r_32_0, r_32_1, r_32_2, r_32_3, r_32_4, r_32_5, r_32_6, r_32_7, r_41_0, r_41_1, r_41_2, r_41_3, r_41_4, r_41_5, r_41_6, r_49_0, r_51_0, r_53_0, r_55_0, r_57_0, r_61_0, r_63_0, r_63_1, r_63_2, r_63_3, r_63_4, r_63_5, r_63_6, r_63_7, r_72_0, r_72_1, r_72_2, r_72_3, r_72_4, r_72_5, r_72_6, r_72_7, r_81_0, r_81_1, r_81_2, r_81_3, r_81_4, r_81_5, r_81_6, r_81_7, r_90_0, r_90_1, r_90_2, r_90_3, r_90_4, r_90_5, r_90_6, r_90_7, r_99_0, r_99_1, r_99_2, r_99_3, r_99_4, r_99_5, r_99_6, r_99_7, r_108_0, r_108_1, r_108_2, r_108_3, r_108_4, r_108_5, r_108_6, r_108_7, r_117_0, r_117_1, r_117_2, r_117_3, r_117_4, r_117_5, r_117_6, r_117_7, r_126_0, r_126_1, r_126_2, r_126_3, r_126_4, r_132_0, r_132_1, r_135_0, r_135_1, r_135_2, r_135_3, r_135_4, r_135_5, r_142_0, r_144_0, r_144_1, r_144_2, r_145_0, r_145_1, r_145_2, r_145_3, r_145_4, r_145_5, r_145_6, r_154_0, r_154_1, r_155_0, r_157_0, r_157_1, r_157_2, r_157_3, r_157_6, r_157_7, r_157_8, r_157_9, r_157_10, r_157_11, r_157_27, r_157_28, r_157_29, r_157_30, ↓z_m1, l_0, l_1, l_2, l_3, l_4, l_5, l_6, l_7, l_8, l_9, l_10, l_11, l_12, l_13, l_14, l_15, l_16, l_17, l_18, l_19, l_20, l_21, l_22, l_23, l_24, l_25, l_26, l_27, l_28, l_29, l_30, l_31, l_32, l_33, l_34, l_35, l_36, l_37, l_38, l_39, l_40, l_41, l_42, l_43, l_44, l_45, l_46, l_47, l_48, l_49, l_50, l_51, l_52, l_53, l_54, l_55, l_56, l_57, l_59, l_60, l_61, l_62, l_63, l_64, l_65, l_80, l_86, l_87, l_88, l_89, l_90, l_91, l_92, l_93, l_94, l_95, l_97, l_99, l_100, l_107, l_119, l_122, l_124, l_129, l_140, l_141, l_142, l_143, l_144, l_145, l_147, l_150, l_159, l_160, l_161, l_162, l_205, l_253, l_255, l_256, l_269, l_305, l_380, l_399, l_400, l_420, l_430, l_516, l_600, l_720, l_820, l_905, l_921, l_937, l_953, l_970, l_999, l_1000, l_1790, l_4096, l_9999, l_1000000]
    rw [key]
    exact (c_endl hN hC hl h).rz
theorem c_cmp {N iw p : Nat} {T : zt_T} {W : List Nat} {O : List (Nat × Nat)} {σ : q_Sto} (hC : zt_C σ T p) (hl : W.length + O.length ≤ p) (h : zl_D σ N W O 2 iw false) : zl_out (f_X3_readComparison q_F 144 σ) σ T N (zl_cmp T p W O iw) := by
  have hL := hC.1.1
  have hpL := hC.2.1
  have h1 : zl_D (q_up σ 144 8 (nI 1)) N W O 2 iw true := h.ic (ic' := true)
  have hC1 : zt_C (q_up σ 144 8 (nI 1)) T p := hC.fL (zl_fL.up (N := N) σ)
  have hf := (zl_fL.up (N := N) (a := 8) (v := nI 1) σ).T
  have t60 := c_sT (k := 0) (c := 60) hC (by omega) (by omega)
  have t61 := c_sT (k := 0) (c := 61) hC (by omega) (by omega)
  have t62 := c_sT (k := 0) (c := 62) hC (by omega) (by omega)
  have u60 := c_sF (k := 0) (c := 60) hC (by omega) (by omega)
  have u61 := c_sF (k := 0) (c := 61) hC (by omega) (by omega)
  have u62 := c_sF (k := 0) (c := 62) hC (by omega) (by omega)
  unfold zl_cmp
  by_cases q1 : zt_cd 0 T p = 160
  · rw [if_pos q1]
    have t60 := t60 q1
    have key : f_X3_readComparison q_F 144 σ = q_call (f_X3_join q_F 144 (nI 6) (nI 0) (q_up σ 144 8 (nI 1))) fun r s => q_rz r s := by
      unfold f_X3_readComparison
      simp (disch := omega) only [t60, ↓reduceIte, ↓p_ld, ↓p_st, ↓p_nm, ↓p_nS, ↓p_jn, ↓p_call, ↓p_callv, ↓p_dv, ↓p_rem, h_ldE, h_stE, h_nmE, h_nSE, h_callE, h_callvE, h_dvE, h_remE, if_true, if_false, z_upS, z_upO, z_upK, nI_add, z_mul, z_sub, z_div, Nat.add_zero, Nat.mul_zero, Nat.zero_add, Nat.sub_zero, Nat.zero_mul, z_ltT, z_ltF, z_leT, z_leF, z_eqT, z_eqF, z_inT, z_clT, not_true_eq_false, not_false_eq_true, eq_self, true_or, or_true, z_m_lt, z_m_le, z_lt_m, z_le_m, z_eq_m, z_m_eq, z_rz0, z_rz1, z_m_add, z_of, r_0_0, r_0_1, r_0_3, r_0_4, r_0_5, r_0_6, r_0_7, r_0_8, r_0_9, r_0_10, r_1_0, r_1_1, r_1_2, r_1_3, r_1_4, r_1_5, r_1_6, r_1_7, r_1_8, r_2_0, r_2_1, r_2_2, r_2_3, r_2_4, r_2_5, r_2_6, r_2_7, r_11_0, r_11_1, r_11_2, r_11_3, r_11_4, r_11_5, r_11_6, r_19_0, r_21_0, r_23_0, r_25_0, r_27_0, r_31_0, r_31_1, r_31_2, r_31_3, r_31_4, r_31_5, r_31_6, r_31_7, r_31_8, r_32_0, r_32_1, r_32_2, r_32_3, r_32_4, r_32_5, r_32_6, r_32_7, r_41_0, r_41_1, r_41_2, r_41_3, r_41_4, r_41_5, r_41_6, r_49_0, r_51_0, r_53_0, r_55_0, r_57_0, r_61_0, r_63_0, r_63_1, r_63_2, r_63_3, r_63_4, r_63_5, r_63_6, r_63_7, r_72_0, r_72_1, r_72_2, r_72_3, r_72_4, r_72_5, r_72_6, r_72_7, r_81_0, r_81_1, r_81_2, r_81_3, r_81_4, r_81_5, r_81_6, r_81_7, r_90_0, r_90_1, r_90_2, r_90_3, r_90_4, r_90_5, r_90_6, r_90_7, r_99_0, r_99_1, r_99_2, r_99_3, r_99_4, r_99_5, r_99_6, r_99_7, r_108_0, r_108_1, r_108_2, r_108_3, r_108_4, r_108_5, r_108_6, r_108_7, r_117_0, r_117_1, r_117_2, r_117_3, r_117_4, r_117_5, r_117_6, r_117_7, r_126_0, r_126_1, r_126_2, r_126_3, r_126_4, r_132_0, r_132_1, r_135_0, r_135_1, r_135_2, r_135_3, r_135_4, r_135_5, r_142_0, r_144_0, r_144_1, r_144_2, r_145_0, r_145_1, r_145_2, r_145_3, r_145_4, r_145_5, r_145_6, r_154_0, r_154_1, r_155_0, r_157_0, r_157_1, r_157_2, r_157_3, r_157_6, r_157_7, r_157_8, r_157_9, r_157_10, r_157_11, r_157_27, r_157_28, r_157_29, r_157_30, ↓z_m1, l_0, l_1, l_2, l_3, l_4, l_5, l_6, l_7, l_8, l_9, l_10, l_11, l_12, l_13, l_14, l_15, l_16, l_17, l_18, l_19, l_20, l_21, l_22, l_23, l_24, l_25, l_26, l_27, l_28, l_29, l_30, l_31, l_32, l_33, l_34, l_35, l_36, l_37, l_38, l_39, l_40, l_41, l_42, l_43, l_44, l_45, l_46, l_47, l_48, l_49, l_50, l_51, l_52, l_53, l_54, l_55, l_56, l_57, l_59, l_60, l_61, l_62, l_63, l_64, l_65, l_80, l_86, l_87, l_88, l_89, l_90, l_91, l_92, l_93, l_94, l_95, l_97, l_99, l_100, l_107, l_119, l_122, l_124, l_129, l_140, l_141, l_142, l_143, l_144, l_145, l_147, l_150, l_159, l_160, l_161, l_162, l_205, l_253, l_255, l_256, l_269, l_305, l_380, l_399, l_400, l_420, l_430, l_516, l_600, l_720, l_820, l_905, l_921, l_937, l_953, l_970, l_999, l_1000, l_1790, l_4096, l_9999, l_1000000]
    rw [key]
    exact ((c_joinO (by omega) (by omega) (by decide) (by omega) hC1 (by omega) hl h1).rz).of hf
  · rw [if_neg q1]
    have u60 := u60 q1
    by_cases q2 : zt_cd 0 T p = 161
    · rw [if_pos q2]
      have t61 := t61 q2
      have key : f_X3_readComparison q_F 144 σ = q_call (f_X3_join q_F 144 (nI 7) (nI 0) (q_up σ 144 8 (nI 1))) fun r s => q_rz r s := by
        unfold f_X3_readComparison
        simp (disch := omega) only [u60, t61, ↓reduceIte, ↓p_ld, ↓p_st, ↓p_nm, ↓p_nS, ↓p_jn, ↓p_call, ↓p_callv, ↓p_dv, ↓p_rem, h_ldE, h_stE, h_nmE, h_nSE, h_callE, h_callvE, h_dvE, h_remE, if_true, if_false, z_upS, z_upO, z_upK, nI_add, z_mul, z_sub, z_div, Nat.add_zero, Nat.mul_zero, Nat.zero_add, Nat.sub_zero, Nat.zero_mul, z_ltT, z_ltF, z_leT, z_leF, z_eqT, z_eqF, z_inT, z_clT, not_true_eq_false, not_false_eq_true, eq_self, true_or, or_true, z_m_lt, z_m_le, z_lt_m, z_le_m, z_eq_m, z_m_eq, z_rz0, z_rz1, z_m_add, z_of, r_0_0, r_0_1, r_0_3, r_0_4, r_0_5, r_0_6, r_0_7, r_0_8, r_0_9, r_0_10, r_1_0, r_1_1, r_1_2, r_1_3, r_1_4, r_1_5, r_1_6, r_1_7, r_1_8, r_2_0, r_2_1, r_2_2, r_2_3, r_2_4, r_2_5, r_2_6, r_2_7, r_11_0, r_11_1, r_11_2, r_11_3, r_11_4, r_11_5, r_11_6, r_19_0, r_21_0, r_23_0, r_25_0, r_27_0, r_31_0, r_31_1, r_31_2, r_31_3, r_31_4, r_31_5, r_31_6, r_31_7, r_31_8, r_32_0, r_32_1, r_32_2, r_32_3, r_32_4, r_32_5, r_32_6, r_32_7, r_41_0, r_41_1, r_41_2, r_41_3, r_41_4, r_41_5, r_41_6, r_49_0, r_51_0, r_53_0, r_55_0, r_57_0, r_61_0, r_63_0, r_63_1, r_63_2, r_63_3, r_63_4, r_63_5, r_63_6, r_63_7, r_72_0, r_72_1, r_72_2, r_72_3, r_72_4, r_72_5, r_72_6, r_72_7, r_81_0, r_81_1, r_81_2, r_81_3, r_81_4, r_81_5, r_81_6, r_81_7, r_90_0, r_90_1, r_90_2, r_90_3, r_90_4, r_90_5, r_90_6, r_90_7, r_99_0, r_99_1, r_99_2, r_99_3, r_99_4, r_99_5, r_99_6, r_99_7, r_108_0, r_108_1, r_108_2, r_108_3, r_108_4, r_108_5, r_108_6, r_108_7, r_117_0, r_117_1, r_117_2, r_117_3, r_117_4, r_117_5, r_117_6, r_117_7, r_126_0, r_126_1, r_126_2, r_126_3, r_126_4, r_132_0, r_132_1, r_135_0, r_135_1, r_135_2, r_135_3, r_135_4, r_135_5, r_142_0, r_144_0, r_144_1, r_144_2, r_145_0, r_145_1, r_145_2, r_145_3, r_145_4, r_145_5, r_145_6, r_154_0, r_154_1, r_155_0, r_157_0, r_157_1, r_157_2, r_157_3, r_157_6, r_157_7, r_157_8, r_157_9, r_157_10, r_157_11, r_157_27, r_157_28, r_157_29, r_157_30, ↓z_m1, l_0, l_1, l_2, l_3, l_4, l_5, l_6, l_7, l_8, l_9, l_10, l_11, l_12, l_13, l_14, l_15, l_16, l_17, l_18, l_19, l_20, l_21, l_22, l_23, l_24, l_25, l_26, l_27, l_28, l_29, l_30, l_31, l_32, l_33, l_34, l_35, l_36, l_37, l_38, l_39, l_40, l_41, l_42, l_43, l_44, l_45, l_46, l_47, l_48, l_49, l_50, l_51, l_52, l_53, l_54, l_55, l_56, l_57, l_59, l_60, l_61, l_62, l_63, l_64, l_65, l_80, l_86, l_87, l_88, l_89, l_90, l_91, l_92, l_93, l_94, l_95, l_97, l_99, l_100, l_107, l_119, l_122, l_124, l_129, l_140, l_141, l_142, l_143, l_144, l_145, l_147, l_150, l_159, l_160, l_161, l_162, l_205, l_253, l_255, l_256, l_269, l_305, l_380, l_399, l_400, l_420, l_430, l_516, l_600, l_720, l_820, l_905, l_921, l_937, l_953, l_970, l_999, l_1000, l_1790, l_4096, l_9999, l_1000000]
      rw [key]
      exact ((c_joinO (by omega) (by omega) (by decide) (by omega) hC1 (by omega) hl h1).rz).of hf
    · rw [if_neg q2]
      have u61 := u61 q2
      by_cases q3 : zt_cd 0 T p = 162
      · rw [if_pos q3]
        have t62 := t62 q3
        have key : f_X3_readComparison q_F 144 σ = q_call (f_X3_join q_F 144 (nI 8) (nI 0) (q_up σ 144 8 (nI 1))) fun r s => q_rz r s := by
          unfold f_X3_readComparison
          simp (disch := omega) only [u60, u61, t62, ↓reduceIte, ↓p_ld, ↓p_st, ↓p_nm, ↓p_nS, ↓p_jn, ↓p_call, ↓p_callv, ↓p_dv, ↓p_rem, h_ldE, h_stE, h_nmE, h_nSE, h_callE, h_callvE, h_dvE, h_remE, if_true, if_false, z_upS, z_upO, z_upK, nI_add, z_mul, z_sub, z_div, Nat.add_zero, Nat.mul_zero, Nat.zero_add, Nat.sub_zero, Nat.zero_mul, z_ltT, z_ltF, z_leT, z_leF, z_eqT, z_eqF, z_inT, z_clT, not_true_eq_false, not_false_eq_true, eq_self, true_or, or_true, z_m_lt, z_m_le, z_lt_m, z_le_m, z_eq_m, z_m_eq, z_rz0, z_rz1, z_m_add, z_of, r_0_0, r_0_1, r_0_3, r_0_4, r_0_5, r_0_6, r_0_7, r_0_8, r_0_9, r_0_10, r_1_0, r_1_1, r_1_2, r_1_3, r_1_4, r_1_5, r_1_6, r_1_7, r_1_8, r_2_0, r_2_1, r_2_2, r_2_3, r_2_4, r_2_5, r_2_6, r_2_7, r_11_0, r_11_1, r_11_2, r_11_3, r_11_4, r_11_5, r_11_6, r_19_0, r_21_0, r_23_0, r_25_0, r_27_0, r_31_0, r_31_1, r_31_2, r_31_3, r_31_4, r_31_5, r_31_6, r_31_7, r_31_8, r_32_0, r_32_1, r_32_2, r_32_3, r_32_4, r_32_5, r_32_6, r_32_7, r_41_0, r_41_1, r_41_2, r_41_3, r_41_4, r_41_5, r_41_6, r_49_0, r_51_0, r_53_0, r_55_0, r_57_0, r_61_0, r_63_0, r_63_1, r_63_2, r_63_3, r_63_4, r_63_5, r_63_6, r_63_7, r_72_0, r_72_1, r_72_2, r_72_3, r_72_4, r_72_5, r_72_6, r_72_7, r_81_0, r_81_1, r_81_2, r_81_3, r_81_4, r_81_5, r_81_6, r_81_7, r_90_0, r_90_1, r_90_2, r_90_3, r_90_4, r_90_5, r_90_6, r_90_7, r_99_0, r_99_1, r_99_2, r_99_3, r_99_4, r_99_5, r_99_6, r_99_7, r_108_0, r_108_1, r_108_2, r_108_3, r_108_4, r_108_5, r_108_6, r_108_7, r_117_0, r_117_1, r_117_2, r_117_3, r_117_4, r_117_5, r_117_6, r_117_7, r_126_0, r_126_1, r_126_2, r_126_3, r_126_4, r_132_0, r_132_1, r_135_0, r_135_1, r_135_2, r_135_3, r_135_4, r_135_5, r_142_0, r_144_0, r_144_1, r_144_2, r_145_0, r_145_1, r_145_2, r_145_3, r_145_4, r_145_5, r_145_6, r_154_0, r_154_1, r_155_0, r_157_0, r_157_1, r_157_2, r_157_3, r_157_6, r_157_7, r_157_8, r_157_9, r_157_10, r_157_11, r_157_27, r_157_28, r_157_29, r_157_30, ↓z_m1, l_0, l_1, l_2, l_3, l_4, l_5, l_6, l_7, l_8, l_9, l_10, l_11, l_12, l_13, l_14, l_15, l_16, l_17, l_18, l_19, l_20, l_21, l_22, l_23, l_24, l_25, l_26, l_27, l_28, l_29, l_30, l_31, l_32, l_33, l_34, l_35, l_36, l_37, l_38, l_39, l_40, l_41, l_42, l_43, l_44, l_45, l_46, l_47, l_48, l_49, l_50, l_51, l_52, l_53, l_54, l_55, l_56, l_57, l_59, l_60, l_61, l_62, l_63, l_64, l_65, l_80, l_86, l_87, l_88, l_89, l_90, l_91, l_92, l_93, l_94, l_95, l_97, l_99, l_100, l_107, l_119, l_122, l_124, l_129, l_140, l_141, l_142, l_143, l_144, l_145, l_147, l_150, l_159, l_160, l_161, l_162, l_205, l_253, l_255, l_256, l_269, l_305, l_380, l_399, l_400, l_420, l_430, l_516, l_600, l_720, l_820, l_905, l_921, l_937, l_953, l_970, l_999, l_1000, l_1790, l_4096, l_9999, l_1000000]
        rw [key]
        exact ((c_joinO (by omega) (by omega) (by decide) (by omega) hC1 (by omega) hl h1).rz).of hf
      · rw [if_neg q3]
        have u62 := u62 q3
        have key : f_X3_readComparison q_F 144 σ = q_call (f_X8_fail q_F 142 (nI 1) σ) fun r s => q_rz r s := by
          unfold f_X3_readComparison
          simp (disch := omega) only [u60, u61, u62, ↓reduceIte, ↓p_ld, ↓p_st, ↓p_nm, ↓p_nS, ↓p_jn, ↓p_call, ↓p_callv, ↓p_dv, ↓p_rem, h_ldE, h_stE, h_nmE, h_nSE, h_callE, h_callvE, h_dvE, h_remE, if_true, if_false, z_upS, z_upO, z_upK, nI_add, z_mul, z_sub, z_div, Nat.add_zero, Nat.mul_zero, Nat.zero_add, Nat.sub_zero, Nat.zero_mul, z_ltT, z_ltF, z_leT, z_leF, z_eqT, z_eqF, z_inT, z_clT, not_true_eq_false, not_false_eq_true, eq_self, true_or, or_true, z_m_lt, z_m_le, z_lt_m, z_le_m, z_eq_m, z_m_eq, z_rz0, z_rz1, z_m_add, z_of, r_0_0, r_0_1, r_0_3, r_0_4, r_0_5, r_0_6, r_0_7, r_0_8, r_0_9, r_0_10, r_1_0, r_1_1, r_1_2, r_1_3, r_1_4, r_1_5, r_1_6, r_1_7, r_1_8, r_2_0, r_2_1, r_2_2, r_2_3, r_2_4, r_2_5, r_2_6, r_2_7, r_11_0, r_11_1, r_11_2, r_11_3, r_11_4, r_11_5, r_11_6, r_19_0, r_21_0, r_23_0, r_25_0, r_27_0, r_31_0, r_31_1, r_31_2, r_31_3, r_31_4, r_31_5, r_31_6, r_31_7, r_31_8, r_32_0, r_32_1, r_32_2, r_32_3, r_32_4, r_32_5, r_32_6, r_32_7, r_41_0, r_41_1, r_41_2, r_41_3, r_41_4, r_41_5, r_41_6, r_49_0, r_51_0, r_53_0, r_55_0, r_57_0, r_61_0, r_63_0, r_63_1, r_63_2, r_63_3, r_63_4, r_63_5, r_63_6, r_63_7, r_72_0, r_72_1, r_72_2, r_72_3, r_72_4, r_72_5, r_72_6, r_72_7, r_81_0, r_81_1, r_81_2, r_81_3, r_81_4, r_81_5, r_81_6, r_81_7, r_90_0, r_90_1, r_90_2, r_90_3, r_90_4, r_90_5, r_90_6, r_90_7, r_99_0, r_99_1, r_99_2, r_99_3, r_99_4, r_99_5, r_99_6, r_99_7, r_108_0, r_108_1, r_108_2, r_108_3, r_108_4, r_108_5, r_108_6, r_108_7, r_117_0, r_117_1, r_117_2, r_117_3, r_117_4, r_117_5, r_117_6, r_117_7, r_126_0, r_126_1, r_126_2, r_126_3, r_126_4, r_132_0, r_132_1, r_135_0, r_135_1, r_135_2, r_135_3, r_135_4, r_135_5, r_142_0, r_144_0, r_144_1, r_144_2, r_145_0, r_145_1, r_145_2, r_145_3, r_145_4, r_145_5, r_145_6, r_154_0, r_154_1, r_155_0, r_157_0, r_157_1, r_157_2, r_157_3, r_157_6, r_157_7, r_157_8, r_157_9, r_157_10, r_157_11, r_157_27, r_157_28, r_157_29, r_157_30, ↓z_m1, l_0, l_1, l_2, l_3, l_4, l_5, l_6, l_7, l_8, l_9, l_10, l_11, l_12, l_13, l_14, l_15, l_16, l_17, l_18, l_19, l_20, l_21, l_22, l_23, l_24, l_25, l_26, l_27, l_28, l_29, l_30, l_31, l_32, l_33, l_34, l_35, l_36, l_37, l_38, l_39, l_40, l_41, l_42, l_43, l_44, l_45, l_46, l_47, l_48, l_49, l_50, l_51, l_52, l_53, l_54, l_55, l_56, l_57, l_59, l_60, l_61, l_62, l_63, l_64, l_65, l_80, l_86, l_87, l_88, l_89, l_90, l_91, l_92, l_93, l_94, l_95, l_97, l_99, l_100, l_107, l_119, l_122, l_124, l_129, l_140, l_141, l_142, l_143, l_144, l_145, l_147, l_150, l_159, l_160, l_161, l_162, l_205, l_253, l_255, l_256, l_269, l_305, l_380, l_399, l_400, l_420, l_430, l_516, l_600, l_720, l_820, l_905, l_921, l_937, l_953, l_970, l_999, l_1000, l_1790, l_4096, l_9999, l_1000000]
        rw [key]
        exact (c_failO hC).rz
theorem c_tail {N ex iw p : Nat} {ic : Bool} {T : zt_T} {W : List Nat} {O : List (Nat × Nat)} {σ : q_Sto} (hN : N < 16) (hC : zt_C σ T p) (hl : W.length + O.length ≤ p) (h : zl_D σ N W O ex iw ic) (hpre : (ex = 2 ∧ ¬ zl_ar (zt_cd 0 T p) ∧ iw ≠ 0 ∧ ic = true) ∨ ex = 3) : zl_out (f_X3_readSign q_F 144 σ) σ T N (zl_tail T p W O ex iw ic) := by
  have hL := hC.1.1
  have hpL := hC.2.1
  obtain ⟨o0, o1, o2, o3, o4, o5, o6, o7, o8, o9, o10, o11, o12, o13, o14, o15, o16⟩ := c_wok
  have h4 := h.2.2.1
  have h6 := h.2.2.2.2.1
  have h7 := h.2.2.2.2.2.1
  have h8 := h.2.2.2.2.2.2.1
  have hcb := zl_cb_le W
  have tA := c_wT hC (by omega) o15
  have uA := c_wF hC (by omega) o15
  have tO := c_wT hC (by omega) o16
  have uO := c_wF hC (by omega) o16
  have u47 := c_sF (k := 0) (c := 47) hC (by omega) (by omega)
  have u42 := c_sF (k := 0) (c := 42) hC (by omega) (by omega)
  have u43 := c_sF (k := 0) (c := 43) hC (by omega) (by omega)
  have u45 := c_sF (k := 0) (c := 45) hC (by omega) (by omega)
  have e1 : z_fb true = nI 1 := rfl
  unfold zl_tail
  by_cases qA : zt_cd 0 T p = 5
  · rw [if_pos qA]
    have tA := tA qA
    have key : f_X3_readSign q_F 144 σ = q_call (f_X3_join q_F 144 (nI 10) (nI 1) σ) fun r s => q_rz r s := by
      unfold f_X3_readSign
      rcases hpre with ⟨rfl, ha, hi, rfl⟩ | rfl
      · unfold zl_ar at ha
        have u47 := u47 (by omega)
        have u42 := u42 (by omega)
        have u43 := u43 (by omega)
        have u45 := u45 (by omega)
        rw [if_neg hi] at h7
        rw [e1] at h8
        simp (disch := omega) only [h6, h7, h8, u47, u42, u43, u45, tA, ↓reduceIte, ↓p_ld, ↓p_st, ↓p_nm, ↓p_nS, ↓p_jn, ↓p_call, ↓p_callv, ↓p_dv, ↓p_rem, h_ldE, h_stE, h_nmE, h_nSE, h_callE, h_callvE, h_dvE, h_remE, if_true, if_false, z_upS, z_upO, z_upK, nI_add, z_mul, z_sub, z_div, Nat.add_zero, Nat.mul_zero, Nat.zero_add, Nat.sub_zero, Nat.zero_mul, z_ltT, z_ltF, z_leT, z_leF, z_eqT, z_eqF, z_inT, z_clT, not_true_eq_false, not_false_eq_true, eq_self, true_or, or_true, z_m_lt, z_m_le, z_lt_m, z_le_m, z_eq_m, z_m_eq, z_rz0, z_rz1, z_m_add, z_of, r_0_0, r_0_1, r_0_3, r_0_4, r_0_5, r_0_6, r_0_7, r_0_8, r_0_9, r_0_10, r_1_0, r_1_1, r_1_2, r_1_3, r_1_4, r_1_5, r_1_6, r_1_7, r_1_8, r_2_0, r_2_1, r_2_2, r_2_3, r_2_4, r_2_5, r_2_6, r_2_7, r_11_0, r_11_1, r_11_2, r_11_3, r_11_4, r_11_5, r_11_6, r_19_0, r_21_0, r_23_0, r_25_0, r_27_0, r_31_0, r_31_1, r_31_2, r_31_3, r_31_4, r_31_5, r_31_6, r_31_7, r_31_8, r_32_0, r_32_1, r_32_2, r_32_3, r_32_4, r_32_5, r_32_6, r_32_7, r_41_0, r_41_1, r_41_2, r_41_3, r_41_4, r_41_5, r_41_6, r_49_0, r_51_0, r_53_0, r_55_0, r_57_0, r_61_0, r_63_0, r_63_1, r_63_2, r_63_3, r_63_4, r_63_5, r_63_6, r_63_7, r_72_0, r_72_1, r_72_2, r_72_3, r_72_4, r_72_5, r_72_6, r_72_7, r_81_0, r_81_1, r_81_2, r_81_3, r_81_4, r_81_5, r_81_6, r_81_7, r_90_0, r_90_1, r_90_2, r_90_3, r_90_4, r_90_5, r_90_6, r_90_7, r_99_0, r_99_1, r_99_2, r_99_3, r_99_4, r_99_5, r_99_6, r_99_7, r_108_0, r_108_1, r_108_2, r_108_3, r_108_4, r_108_5, r_108_6, r_108_7, r_117_0, r_117_1, r_117_2, r_117_3, r_117_4, r_117_5, r_117_6, r_117_7, r_126_0, r_126_1, r_126_2, r_126_3, r_126_4, r_132_0, r_132_1, r_135_0, r_135_1, r_135_2, r_135_3, r_135_4, r_135_5, r_142_0, r_144_0, r_144_1, r_144_2, r_145_0, r_145_1, r_145_2, r_145_3, r_145_4, r_145_5, r_145_6, r_154_0, r_154_1, r_155_0, r_157_0, r_157_1, r_157_2, r_157_3, r_157_6, r_157_7, r_157_8, r_157_9, r_157_10, r_157_11, r_157_27, r_157_28, r_157_29, r_157_30, ↓z_m1, l_0, l_1, l_2, l_3, l_4, l_5, l_6, l_7, l_8, l_9, l_10, l_11, l_12, l_13, l_14, l_15, l_16, l_17, l_18, l_19, l_20, l_21, l_22, l_23, l_24, l_25, l_26, l_27, l_28, l_29, l_30, l_31, l_32, l_33, l_34, l_35, l_36, l_37, l_38, l_39, l_40, l_41, l_42, l_43, l_44, l_45, l_46, l_47, l_48, l_49, l_50, l_51, l_52, l_53, l_54, l_55, l_56, l_57, l_59, l_60, l_61, l_62, l_63, l_64, l_65, l_80, l_86, l_87, l_88, l_89, l_90, l_91, l_92, l_93, l_94, l_95, l_97, l_99, l_100, l_107, l_119, l_122, l_124, l_129, l_140, l_141, l_142, l_143, l_144, l_145, l_147, l_150, l_159, l_160, l_161, l_162, l_205, l_253, l_255, l_256, l_269, l_305, l_380, l_399, l_400, l_420, l_430, l_516, l_600, l_720, l_820, l_905, l_921, l_937, l_953, l_970, l_999, l_1000, l_1790, l_4096, l_9999, l_1000000]
      · simp (disch := omega) only [h6, tA, ↓reduceIte, ↓p_ld, ↓p_st, ↓p_nm, ↓p_nS, ↓p_jn, ↓p_call, ↓p_callv, ↓p_dv, ↓p_rem, h_ldE, h_stE, h_nmE, h_nSE, h_callE, h_callvE, h_dvE, h_remE, if_true, if_false, z_upS, z_upO, z_upK, nI_add, z_mul, z_sub, z_div, Nat.add_zero, Nat.mul_zero, Nat.zero_add, Nat.sub_zero, Nat.zero_mul, z_ltT, z_ltF, z_leT, z_leF, z_eqT, z_eqF, z_inT, z_clT, not_true_eq_false, not_false_eq_true, eq_self, true_or, or_true, z_m_lt, z_m_le, z_lt_m, z_le_m, z_eq_m, z_m_eq, z_rz0, z_rz1, z_m_add, z_of, r_0_0, r_0_1, r_0_3, r_0_4, r_0_5, r_0_6, r_0_7, r_0_8, r_0_9, r_0_10, r_1_0, r_1_1, r_1_2, r_1_3, r_1_4, r_1_5, r_1_6, r_1_7, r_1_8, r_2_0, r_2_1, r_2_2, r_2_3, r_2_4, r_2_5, r_2_6, r_2_7, r_11_0, r_11_1, r_11_2, r_11_3, r_11_4, r_11_5, r_11_6, r_19_0, r_21_0, r_23_0, r_25_0, r_27_0, r_31_0, r_31_1, r_31_2, r_31_3, r_31_4, r_31_5, r_31_6, r_31_7, r_31_8, r_32_0, r_32_1, r_32_2, r_32_3, r_32_4, r_32_5, r_32_6, r_32_7, r_41_0, r_41_1, r_41_2, r_41_3, r_41_4, r_41_5, r_41_6, r_49_0, r_51_0, r_53_0, r_55_0, r_57_0, r_61_0, r_63_0, r_63_1, r_63_2, r_63_3, r_63_4, r_63_5, r_63_6, r_63_7, r_72_0, r_72_1, r_72_2, r_72_3, r_72_4, r_72_5, r_72_6, r_72_7, r_81_0, r_81_1, r_81_2, r_81_3, r_81_4, r_81_5, r_81_6, r_81_7, r_90_0, r_90_1, r_90_2, r_90_3, r_90_4, r_90_5, r_90_6, r_90_7, r_99_0, r_99_1, r_99_2, r_99_3, r_99_4, r_99_5, r_99_6, r_99_7, r_108_0, r_108_1, r_108_2, r_108_3, r_108_4, r_108_5, r_108_6, r_108_7, r_117_0, r_117_1, r_117_2, r_117_3, r_117_4, r_117_5, r_117_6, r_117_7, r_126_0, r_126_1, r_126_2, r_126_3, r_126_4, r_132_0, r_132_1, r_135_0, r_135_1, r_135_2, r_135_3, r_135_4, r_135_5, r_142_0, r_144_0, r_144_1, r_144_2, r_145_0, r_145_1, r_145_2, r_145_3, r_145_4, r_145_5, r_145_6, r_154_0, r_154_1, r_155_0, r_157_0, r_157_1, r_157_2, r_157_3, r_157_6, r_157_7, r_157_8, r_157_9, r_157_10, r_157_11, r_157_27, r_157_28, r_157_29, r_157_30, ↓z_m1, l_0, l_1, l_2, l_3, l_4, l_5, l_6, l_7, l_8, l_9, l_10, l_11, l_12, l_13, l_14, l_15, l_16, l_17, l_18, l_19, l_20, l_21, l_22, l_23, l_24, l_25, l_26, l_27, l_28, l_29, l_30, l_31, l_32, l_33, l_34, l_35, l_36, l_37, l_38, l_39, l_40, l_41, l_42, l_43, l_44, l_45, l_46, l_47, l_48, l_49, l_50, l_51, l_52, l_53, l_54, l_55, l_56, l_57, l_59, l_60, l_61, l_62, l_63, l_64, l_65, l_80, l_86, l_87, l_88, l_89, l_90, l_91, l_92, l_93, l_94, l_95, l_97, l_99, l_100, l_107, l_119, l_122, l_124, l_129, l_140, l_141, l_142, l_143, l_144, l_145, l_147, l_150, l_159, l_160, l_161, l_162, l_205, l_253, l_255, l_256, l_269, l_305, l_380, l_399, l_400, l_420, l_430, l_516, l_600, l_720, l_820, l_905, l_921, l_937, l_953, l_970, l_999, l_1000, l_1790, l_4096, l_9999, l_1000000]
    rw [key]
    exact (c_joinO (by omega) (by omega) (by decide) (by omega) hC (by omega) hl h).rz
  · rw [if_neg qA]
    have uA := uA qA
    by_cases qO : zt_cd 0 T p = 4
    · rw [if_pos qO]
      have tO := tO qO
      have key : f_X3_readSign q_F 144 σ = q_call (f_X3_join q_F 144 (nI 11) (nI 1) σ) fun r s => q_rz r s := by
        unfold f_X3_readSign
        rcases hpre with ⟨rfl, ha, hi, rfl⟩ | rfl
        · unfold zl_ar at ha
          have u47 := u47 (by omega)
          have u42 := u42 (by omega)
          have u43 := u43 (by omega)
          have u45 := u45 (by omega)
          rw [if_neg hi] at h7
          rw [e1] at h8
          simp (disch := omega) only [h6, h7, h8, u47, u42, u43, u45, uA, tO, ↓reduceIte, ↓p_ld, ↓p_st, ↓p_nm, ↓p_nS, ↓p_jn, ↓p_call, ↓p_callv, ↓p_dv, ↓p_rem, h_ldE, h_stE, h_nmE, h_nSE, h_callE, h_callvE, h_dvE, h_remE, if_true, if_false, z_upS, z_upO, z_upK, nI_add, z_mul, z_sub, z_div, Nat.add_zero, Nat.mul_zero, Nat.zero_add, Nat.sub_zero, Nat.zero_mul, z_ltT, z_ltF, z_leT, z_leF, z_eqT, z_eqF, z_inT, z_clT, not_true_eq_false, not_false_eq_true, eq_self, true_or, or_true, z_m_lt, z_m_le, z_lt_m, z_le_m, z_eq_m, z_m_eq, z_rz0, z_rz1, z_m_add, z_of, r_0_0, r_0_1, r_0_3, r_0_4, r_0_5, r_0_6, r_0_7, r_0_8, r_0_9, r_0_10, r_1_0, r_1_1, r_1_2, r_1_3, r_1_4, r_1_5, r_1_6, r_1_7, r_1_8, r_2_0, r_2_1, r_2_2, r_2_3, r_2_4, r_2_5, r_2_6, r_2_7, r_11_0, r_11_1, r_11_2, r_11_3, r_11_4, r_11_5, r_11_6, r_19_0, r_21_0, r_23_0, r_25_0, r_27_0, r_31_0, r_31_1, r_31_2, r_31_3, r_31_4, r_31_5, r_31_6, r_31_7, r_31_8, r_32_0, r_32_1, r_32_2, r_32_3, r_32_4, r_32_5, r_32_6, r_32_7, r_41_0, r_41_1, r_41_2, r_41_3, r_41_4, r_41_5, r_41_6, r_49_0, r_51_0, r_53_0, r_55_0, r_57_0, r_61_0, r_63_0, r_63_1, r_63_2, r_63_3, r_63_4, r_63_5, r_63_6, r_63_7, r_72_0, r_72_1, r_72_2, r_72_3, r_72_4, r_72_5, r_72_6, r_72_7, r_81_0, r_81_1, r_81_2, r_81_3, r_81_4, r_81_5, r_81_6, r_81_7, r_90_0, r_90_1, r_90_2, r_90_3, r_90_4, r_90_5, r_90_6, r_90_7, r_99_0, r_99_1, r_99_2, r_99_3, r_99_4, r_99_5, r_99_6, r_99_7, r_108_0, r_108_1, r_108_2, r_108_3, r_108_4, r_108_5, r_108_6, r_108_7, r_117_0, r_117_1, r_117_2, r_117_3, r_117_4, r_117_5, r_117_6, r_117_7, r_126_0, r_126_1, r_126_2, r_126_3, r_126_4, r_132_0, r_132_1, r_135_0, r_135_1, r_135_2, r_135_3, r_135_4, r_135_5, r_142_0, r_144_0, r_144_1, r_144_2, r_145_0, r_145_1, r_145_2, r_145_3, r_145_4, r_145_5, r_145_6, r_154_0, r_154_1, r_155_0, r_157_0, r_157_1, r_157_2, r_157_3, r_157_6, r_157_7, r_157_8, r_157_9, r_157_10, r_157_11, r_157_27, r_157_28, r_157_29, r_157_30, ↓z_m1, l_0, l_1, l_2, l_3, l_4, l_5, l_6, l_7, l_8, l_9, l_10, l_11, l_12, l_13, l_14, l_15, l_16, l_17, l_18, l_19, l_20, l_21, l_22, l_23, l_24, l_25, l_26, l_27, l_28, l_29, l_30, l_31, l_32, l_33, l_34, l_35, l_36, l_37, l_38, l_39, l_40, l_41, l_42, l_43, l_44, l_45, l_46, l_47, l_48, l_49, l_50, l_51, l_52, l_53, l_54, l_55, l_56, l_57, l_59, l_60, l_61, l_62, l_63, l_64, l_65, l_80, l_86, l_87, l_88, l_89, l_90, l_91, l_92, l_93, l_94, l_95, l_97, l_99, l_100, l_107, l_119, l_122, l_124, l_129, l_140, l_141, l_142, l_143, l_144, l_145, l_147, l_150, l_159, l_160, l_161, l_162, l_205, l_253, l_255, l_256, l_269, l_305, l_380, l_399, l_400, l_420, l_430, l_516, l_600, l_720, l_820, l_905, l_921, l_937, l_953, l_970, l_999, l_1000, l_1790, l_4096, l_9999, l_1000000]
        · simp (disch := omega) only [h6, uA, tO, ↓reduceIte, ↓p_ld, ↓p_st, ↓p_nm, ↓p_nS, ↓p_jn, ↓p_call, ↓p_callv, ↓p_dv, ↓p_rem, h_ldE, h_stE, h_nmE, h_nSE, h_callE, h_callvE, h_dvE, h_remE, if_true, if_false, z_upS, z_upO, z_upK, nI_add, z_mul, z_sub, z_div, Nat.add_zero, Nat.mul_zero, Nat.zero_add, Nat.sub_zero, Nat.zero_mul, z_ltT, z_ltF, z_leT, z_leF, z_eqT, z_eqF, z_inT, z_clT, not_true_eq_false, not_false_eq_true, eq_self, true_or, or_true, z_m_lt, z_m_le, z_lt_m, z_le_m, z_eq_m, z_m_eq, z_rz0, z_rz1, z_m_add, z_of, r_0_0, r_0_1, r_0_3, r_0_4, r_0_5, r_0_6, r_0_7, r_0_8, r_0_9, r_0_10, r_1_0, r_1_1, r_1_2, r_1_3, r_1_4, r_1_5, r_1_6, r_1_7, r_1_8, r_2_0, r_2_1, r_2_2, r_2_3, r_2_4, r_2_5, r_2_6, r_2_7, r_11_0, r_11_1, r_11_2, r_11_3, r_11_4, r_11_5, r_11_6, r_19_0, r_21_0, r_23_0, r_25_0, r_27_0, r_31_0, r_31_1, r_31_2, r_31_3, r_31_4, r_31_5, r_31_6, r_31_7, r_31_8, r_32_0, r_32_1, r_32_2, r_32_3, r_32_4, r_32_5, r_32_6, r_32_7, r_41_0, r_41_1, r_41_2, r_41_3, r_41_4, r_41_5, r_41_6, r_49_0, r_51_0, r_53_0, r_55_0, r_57_0, r_61_0, r_63_0, r_63_1, r_63_2, r_63_3, r_63_4, r_63_5, r_63_6, r_63_7, r_72_0, r_72_1, r_72_2, r_72_3, r_72_4, r_72_5, r_72_6, r_72_7, r_81_0, r_81_1, r_81_2, r_81_3, r_81_4, r_81_5, r_81_6, r_81_7, r_90_0, r_90_1, r_90_2, r_90_3, r_90_4, r_90_5, r_90_6, r_90_7, r_99_0, r_99_1, r_99_2, r_99_3, r_99_4, r_99_5, r_99_6, r_99_7, r_108_0, r_108_1, r_108_2, r_108_3, r_108_4, r_108_5, r_108_6, r_108_7, r_117_0, r_117_1, r_117_2, r_117_3, r_117_4, r_117_5, r_117_6, r_117_7, r_126_0, r_126_1, r_126_2, r_126_3, r_126_4, r_132_0, r_132_1, r_135_0, r_135_1, r_135_2, r_135_3, r_135_4, r_135_5, r_142_0, r_144_0, r_144_1, r_144_2, r_145_0, r_145_1, r_145_2, r_145_3, r_145_4, r_145_5, r_145_6, r_154_0, r_154_1, r_155_0, r_157_0, r_157_1, r_157_2, r_157_3, r_157_6, r_157_7, r_157_8, r_157_9, r_157_10, r_157_11, r_157_27, r_157_28, r_157_29, r_157_30, ↓z_m1, l_0, l_1, l_2, l_3, l_4, l_5, l_6, l_7, l_8, l_9, l_10, l_11, l_12, l_13, l_14, l_15, l_16, l_17, l_18, l_19, l_20, l_21, l_22, l_23, l_24, l_25, l_26, l_27, l_28, l_29, l_30, l_31, l_32, l_33, l_34, l_35, l_36, l_37, l_38, l_39, l_40, l_41, l_42, l_43, l_44, l_45, l_46, l_47, l_48, l_49, l_50, l_51, l_52, l_53, l_54, l_55, l_56, l_57, l_59, l_60, l_61, l_62, l_63, l_64, l_65, l_80, l_86, l_87, l_88, l_89, l_90, l_91, l_92, l_93, l_94, l_95, l_97, l_99, l_100, l_107, l_119, l_122, l_124, l_129, l_140, l_141, l_142, l_143, l_144, l_145, l_147, l_150, l_159, l_160, l_161, l_162, l_205, l_253, l_255, l_256, l_269, l_305, l_380, l_399, l_400, l_420, l_430, l_516, l_600, l_720, l_820, l_905, l_921, l_937, l_953, l_970, l_999, l_1000, l_1790, l_4096, l_9999, l_1000000]
      rw [key]
      exact (c_joinO (by omega) (by omega) (by decide) (by omega) hC (by omega) hl h).rz
    · rw [if_neg qO]
      have uO := uO qO
      by_cases qb : zl_cb W = 0
      · rw [if_pos qb]
        have h4' := h4
        rw [qb] at h4'
        have key : f_X3_readSign q_F 144 σ = q_call (f_X3_endLine q_F 144 σ) fun r s => q_rz r s := by
          unfold f_X3_readSign
          rcases hpre with ⟨rfl, ha, hi, rfl⟩ | rfl
          · unfold zl_ar at ha
            have u47 := u47 (by omega)
            have u42 := u42 (by omega)
            have u43 := u43 (by omega)
            have u45 := u45 (by omega)
            rw [if_neg hi] at h7
            rw [e1] at h8
            simp (disch := omega) only [h6, h7, h8, u47, u42, u43, u45, uA, uO, h4', ↓reduceIte, ↓p_ld, ↓p_st, ↓p_nm, ↓p_nS, ↓p_jn, ↓p_call, ↓p_callv, ↓p_dv, ↓p_rem, h_ldE, h_stE, h_nmE, h_nSE, h_callE, h_callvE, h_dvE, h_remE, if_true, if_false, z_upS, z_upO, z_upK, nI_add, z_mul, z_sub, z_div, Nat.add_zero, Nat.mul_zero, Nat.zero_add, Nat.sub_zero, Nat.zero_mul, z_ltT, z_ltF, z_leT, z_leF, z_eqT, z_eqF, z_inT, z_clT, not_true_eq_false, not_false_eq_true, eq_self, true_or, or_true, z_m_lt, z_m_le, z_lt_m, z_le_m, z_eq_m, z_m_eq, z_rz0, z_rz1, z_m_add, z_of, r_0_0, r_0_1, r_0_3, r_0_4, r_0_5, r_0_6, r_0_7, r_0_8, r_0_9, r_0_10, r_1_0, r_1_1, r_1_2, r_1_3, r_1_4, r_1_5, r_1_6, r_1_7, r_1_8, r_2_0, r_2_1, r_2_2, r_2_3, r_2_4, r_2_5, r_2_6, r_2_7, r_11_0, r_11_1, r_11_2, r_11_3, r_11_4, r_11_5, r_11_6, r_19_0, r_21_0, r_23_0, r_25_0, r_27_0, r_31_0, r_31_1, r_31_2, r_31_3, r_31_4, r_31_5, r_31_6, r_31_7, r_31_8, r_32_0, r_32_1, r_32_2, r_32_3, r_32_4, r_32_5, r_32_6, r_32_7, r_41_0, r_41_1, r_41_2, r_41_3, r_41_4, r_41_5, r_41_6, r_49_0, r_51_0, r_53_0, r_55_0, r_57_0, r_61_0, r_63_0, r_63_1, r_63_2, r_63_3, r_63_4, r_63_5, r_63_6, r_63_7, r_72_0, r_72_1, r_72_2, r_72_3, r_72_4, r_72_5, r_72_6, r_72_7, r_81_0, r_81_1, r_81_2, r_81_3, r_81_4, r_81_5, r_81_6, r_81_7, r_90_0, r_90_1, r_90_2, r_90_3, r_90_4, r_90_5, r_90_6, r_90_7, r_99_0, r_99_1, r_99_2, r_99_3, r_99_4, r_99_5, r_99_6, r_99_7, r_108_0, r_108_1, r_108_2, r_108_3, r_108_4, r_108_5, r_108_6, r_108_7, r_117_0, r_117_1, r_117_2, r_117_3, r_117_4, r_117_5, r_117_6, r_117_7, r_126_0, r_126_1, r_126_2, r_126_3, r_126_4, r_132_0, r_132_1, r_135_0, r_135_1, r_135_2, r_135_3, r_135_4, r_135_5, r_142_0, r_144_0, r_144_1, r_144_2, r_145_0, r_145_1, r_145_2, r_145_3, r_145_4, r_145_5, r_145_6, r_154_0, r_154_1, r_155_0, r_157_0, r_157_1, r_157_2, r_157_3, r_157_6, r_157_7, r_157_8, r_157_9, r_157_10, r_157_11, r_157_27, r_157_28, r_157_29, r_157_30, ↓z_m1, l_0, l_1, l_2, l_3, l_4, l_5, l_6, l_7, l_8, l_9, l_10, l_11, l_12, l_13, l_14, l_15, l_16, l_17, l_18, l_19, l_20, l_21, l_22, l_23, l_24, l_25, l_26, l_27, l_28, l_29, l_30, l_31, l_32, l_33, l_34, l_35, l_36, l_37, l_38, l_39, l_40, l_41, l_42, l_43, l_44, l_45, l_46, l_47, l_48, l_49, l_50, l_51, l_52, l_53, l_54, l_55, l_56, l_57, l_59, l_60, l_61, l_62, l_63, l_64, l_65, l_80, l_86, l_87, l_88, l_89, l_90, l_91, l_92, l_93, l_94, l_95, l_97, l_99, l_100, l_107, l_119, l_122, l_124, l_129, l_140, l_141, l_142, l_143, l_144, l_145, l_147, l_150, l_159, l_160, l_161, l_162, l_205, l_253, l_255, l_256, l_269, l_305, l_380, l_399, l_400, l_420, l_430, l_516, l_600, l_720, l_820, l_905, l_921, l_937, l_953, l_970, l_999, l_1000, l_1790, l_4096, l_9999, l_1000000]
          · simp (disch := omega) only [h6, uA, uO, h4', ↓reduceIte, ↓p_ld, ↓p_st, ↓p_nm, ↓p_nS, ↓p_jn, ↓p_call, ↓p_callv, ↓p_dv, ↓p_rem, h_ldE, h_stE, h_nmE, h_nSE, h_callE, h_callvE, h_dvE, h_remE, if_true, if_false, z_upS, z_upO, z_upK, nI_add, z_mul, z_sub, z_div, Nat.add_zero, Nat.mul_zero, Nat.zero_add, Nat.sub_zero, Nat.zero_mul, z_ltT, z_ltF, z_leT, z_leF, z_eqT, z_eqF, z_inT, z_clT, not_true_eq_false, not_false_eq_true, eq_self, true_or, or_true, z_m_lt, z_m_le, z_lt_m, z_le_m, z_eq_m, z_m_eq, z_rz0, z_rz1, z_m_add, z_of, r_0_0, r_0_1, r_0_3, r_0_4, r_0_5, r_0_6, r_0_7, r_0_8, r_0_9, r_0_10, r_1_0, r_1_1, r_1_2, r_1_3, r_1_4, r_1_5, r_1_6, r_1_7, r_1_8, r_2_0, r_2_1, r_2_2, r_2_3, r_2_4, r_2_5, r_2_6, r_2_7, r_11_0, r_11_1, r_11_2, r_11_3, r_11_4, r_11_5, r_11_6, r_19_0, r_21_0, r_23_0, r_25_0, r_27_0, r_31_0, r_31_1, r_31_2, r_31_3, r_31_4, r_31_5, r_31_6, r_31_7, r_31_8, r_32_0, r_32_1, r_32_2, r_32_3, r_32_4, r_32_5, r_32_6, r_32_7, r_41_0, r_41_1, r_41_2, r_41_3, r_41_4, r_41_5, r_41_6, r_49_0, r_51_0, r_53_0, r_55_0, r_57_0, r_61_0, r_63_0, r_63_1, r_63_2, r_63_3, r_63_4, r_63_5, r_63_6, r_63_7, r_72_0, r_72_1, r_72_2, r_72_3, r_72_4, r_72_5, r_72_6, r_72_7, r_81_0, r_81_1, r_81_2, r_81_3, r_81_4, r_81_5, r_81_6, r_81_7, r_90_0, r_90_1, r_90_2, r_90_3, r_90_4, r_90_5, r_90_6, r_90_7, r_99_0, r_99_1, r_99_2, r_99_3, r_99_4, r_99_5, r_99_6, r_99_7, r_108_0, r_108_1, r_108_2, r_108_3, r_108_4, r_108_5, r_108_6, r_108_7, r_117_0, r_117_1, r_117_2, r_117_3, r_117_4, r_117_5, r_117_6, r_117_7, r_126_0, r_126_1, r_126_2, r_126_3, r_126_4, r_132_0, r_132_1, r_135_0, r_135_1, r_135_2, r_135_3, r_135_4, r_135_5, r_142_0, r_144_0, r_144_1, r_144_2, r_145_0, r_145_1, r_145_2, r_145_3, r_145_4, r_145_5, r_145_6, r_154_0, r_154_1, r_155_0, r_157_0, r_157_1, r_157_2, r_157_3, r_157_6, r_157_7, r_157_8, r_157_9, r_157_10, r_157_11, r_157_27, r_157_28, r_157_29, r_157_30, ↓z_m1, l_0, l_1, l_2, l_3, l_4, l_5, l_6, l_7, l_8, l_9, l_10, l_11, l_12, l_13, l_14, l_15, l_16, l_17, l_18, l_19, l_20, l_21, l_22, l_23, l_24, l_25, l_26, l_27, l_28, l_29, l_30, l_31, l_32, l_33, l_34, l_35, l_36, l_37, l_38, l_39, l_40, l_41, l_42, l_43, l_44, l_45, l_46, l_47, l_48, l_49, l_50, l_51, l_52, l_53, l_54, l_55, l_56, l_57, l_59, l_60, l_61, l_62, l_63, l_64, l_65, l_80, l_86, l_87, l_88, l_89, l_90, l_91, l_92, l_93, l_94, l_95, l_97, l_99, l_100, l_107, l_119, l_122, l_124, l_129, l_140, l_141, l_142, l_143, l_144, l_145, l_147, l_150, l_159, l_160, l_161, l_162, l_205, l_253, l_255, l_256, l_269, l_305, l_380, l_399, l_400, l_420, l_430, l_516, l_600, l_720, l_820, l_905, l_921, l_937, l_953, l_970, l_999, l_1000, l_1790, l_4096, l_9999, l_1000000]
        rw [key]
        exact (c_endl hN hC hl h).rz
      · rw [if_neg qb]
        have key : f_X3_readSign q_F 144 σ = q_call (f_X3_readClosing q_F 144 σ) fun r s => q_rz r s := by
          unfold f_X3_readSign
          generalize zl_cb W = cb at *
          rcases hpre with ⟨rfl, ha, hi, rfl⟩ | rfl
          · unfold zl_ar at ha
            have u47 := u47 (by omega)
            have u42 := u42 (by omega)
            have u43 := u43 (by omega)
            have u45 := u45 (by omega)
            rw [if_neg hi] at h7
            rw [e1] at h8
            simp (disch := omega) only [h6, h7, h8, u47, u42, u43, u45, uA, uO, h4, ↓reduceIte, ↓p_ld, ↓p_st, ↓p_nm, ↓p_nS, ↓p_jn, ↓p_call, ↓p_callv, ↓p_dv, ↓p_rem, h_ldE, h_stE, h_nmE, h_nSE, h_callE, h_callvE, h_dvE, h_remE, if_true, if_false, z_upS, z_upO, z_upK, nI_add, z_mul, z_sub, z_div, Nat.add_zero, Nat.mul_zero, Nat.zero_add, Nat.sub_zero, Nat.zero_mul, z_ltT, z_ltF, z_leT, z_leF, z_eqT, z_eqF, z_inT, z_clT, not_true_eq_false, not_false_eq_true, eq_self, true_or, or_true, z_m_lt, z_m_le, z_lt_m, z_le_m, z_eq_m, z_m_eq, z_rz0, z_rz1, z_m_add, z_of, r_0_0, r_0_1, r_0_3, r_0_4, r_0_5, r_0_6, r_0_7, r_0_8, r_0_9, r_0_10, r_1_0, r_1_1, r_1_2, r_1_3, r_1_4, r_1_5, r_1_6, r_1_7, r_1_8, r_2_0, r_2_1, r_2_2, r_2_3, r_2_4, r_2_5, r_2_6, r_2_7, r_11_0, r_11_1, r_11_2, r_11_3, r_11_4, r_11_5, r_11_6, r_19_0, r_21_0, r_23_0, r_25_0, r_27_0, r_31_0, r_31_1, r_31_2, r_31_3, r_31_4, r_31_5, r_31_6, r_31_7, r_31_8, r_32_0, r_32_1, r_32_2, r_32_3, r_32_4, r_32_5, r_32_6, r_32_7, r_41_0, r_41_1, r_41_2, r_41_3, r_41_4, r_41_5, r_41_6, r_49_0, r_51_0, r_53_0, r_55_0, r_57_0, r_61_0, r_63_0, r_63_1, r_63_2, r_63_3, r_63_4, r_63_5, r_63_6, r_63_7, r_72_0, r_72_1, r_72_2, r_72_3, r_72_4, r_72_5, r_72_6, r_72_7, r_81_0, r_81_1, r_81_2, r_81_3, r_81_4, r_81_5, r_81_6, r_81_7, r_90_0, r_90_1, r_90_2, r_90_3, r_90_4, r_90_5, r_90_6, r_90_7, r_99_0, r_99_1, r_99_2, r_99_3, r_99_4, r_99_5, r_99_6, r_99_7, r_108_0, r_108_1, r_108_2, r_108_3, r_108_4, r_108_5, r_108_6, r_108_7, r_117_0, r_117_1, r_117_2, r_117_3, r_117_4, r_117_5, r_117_6, r_117_7, r_126_0, r_126_1, r_126_2, r_126_3, r_126_4, r_132_0, r_132_1, r_135_0, r_135_1, r_135_2, r_135_3, r_135_4, r_135_5, r_142_0, r_144_0, r_144_1, r_144_2, r_145_0, r_145_1, r_145_2, r_145_3, r_145_4, r_145_5, r_145_6, r_154_0, r_154_1, r_155_0, r_157_0, r_157_1, r_157_2, r_157_3, r_157_6, r_157_7, r_157_8, r_157_9, r_157_10, r_157_11, r_157_27, r_157_28, r_157_29, r_157_30, ↓z_m1, l_0, l_1, l_2, l_3, l_4, l_5, l_6, l_7, l_8, l_9, l_10, l_11, l_12, l_13, l_14, l_15, l_16, l_17, l_18, l_19, l_20, l_21, l_22, l_23, l_24, l_25, l_26, l_27, l_28, l_29, l_30, l_31, l_32, l_33, l_34, l_35, l_36, l_37, l_38, l_39, l_40, l_41, l_42, l_43, l_44, l_45, l_46, l_47, l_48, l_49, l_50, l_51, l_52, l_53, l_54, l_55, l_56, l_57, l_59, l_60, l_61, l_62, l_63, l_64, l_65, l_80, l_86, l_87, l_88, l_89, l_90, l_91, l_92, l_93, l_94, l_95, l_97, l_99, l_100, l_107, l_119, l_122, l_124, l_129, l_140, l_141, l_142, l_143, l_144, l_145, l_147, l_150, l_159, l_160, l_161, l_162, l_205, l_253, l_255, l_256, l_269, l_305, l_380, l_399, l_400, l_420, l_430, l_516, l_600, l_720, l_820, l_905, l_921, l_937, l_953, l_970, l_999, l_1000, l_1790, l_4096, l_9999, l_1000000]
          · simp (disch := omega) only [h6, uA, uO, h4, ↓reduceIte, ↓p_ld, ↓p_st, ↓p_nm, ↓p_nS, ↓p_jn, ↓p_call, ↓p_callv, ↓p_dv, ↓p_rem, h_ldE, h_stE, h_nmE, h_nSE, h_callE, h_callvE, h_dvE, h_remE, if_true, if_false, z_upS, z_upO, z_upK, nI_add, z_mul, z_sub, z_div, Nat.add_zero, Nat.mul_zero, Nat.zero_add, Nat.sub_zero, Nat.zero_mul, z_ltT, z_ltF, z_leT, z_leF, z_eqT, z_eqF, z_inT, z_clT, not_true_eq_false, not_false_eq_true, eq_self, true_or, or_true, z_m_lt, z_m_le, z_lt_m, z_le_m, z_eq_m, z_m_eq, z_rz0, z_rz1, z_m_add, z_of, r_0_0, r_0_1, r_0_3, r_0_4, r_0_5, r_0_6, r_0_7, r_0_8, r_0_9, r_0_10, r_1_0, r_1_1, r_1_2, r_1_3, r_1_4, r_1_5, r_1_6, r_1_7, r_1_8, r_2_0, r_2_1, r_2_2, r_2_3, r_2_4, r_2_5, r_2_6, r_2_7, r_11_0, r_11_1, r_11_2, r_11_3, r_11_4, r_11_5, r_11_6, r_19_0, r_21_0, r_23_0, r_25_0, r_27_0, r_31_0, r_31_1, r_31_2, r_31_3, r_31_4, r_31_5, r_31_6, r_31_7, r_31_8, r_32_0, r_32_1, r_32_2, r_32_3, r_32_4, r_32_5, r_32_6, r_32_7, r_41_0, r_41_1, r_41_2, r_41_3, r_41_4, r_41_5, r_41_6, r_49_0, r_51_0, r_53_0, r_55_0, r_57_0, r_61_0, r_63_0, r_63_1, r_63_2, r_63_3, r_63_4, r_63_5, r_63_6, r_63_7, r_72_0, r_72_1, r_72_2, r_72_3, r_72_4, r_72_5, r_72_6, r_72_7, r_81_0, r_81_1, r_81_2, r_81_3, r_81_4, r_81_5, r_81_6, r_81_7, r_90_0, r_90_1, r_90_2, r_90_3, r_90_4, r_90_5, r_90_6, r_90_7, r_99_0, r_99_1, r_99_2, r_99_3, r_99_4, r_99_5, r_99_6, r_99_7, r_108_0, r_108_1, r_108_2, r_108_3, r_108_4, r_108_5, r_108_6, r_108_7, r_117_0, r_117_1, r_117_2, r_117_3, r_117_4, r_117_5, r_117_6, r_117_7, r_126_0, r_126_1, r_126_2, r_126_3, r_126_4, r_132_0, r_132_1, r_135_0, r_135_1, r_135_2, r_135_3, r_135_4, r_135_5, r_142_0, r_144_0, r_144_1, r_144_2, r_145_0, r_145_1, r_145_2, r_145_3, r_145_4, r_145_5, r_145_6, r_154_0, r_154_1, r_155_0, r_157_0, r_157_1, r_157_2, r_157_3, r_157_6, r_157_7, r_157_8, r_157_9, r_157_10, r_157_11, r_157_27, r_157_28, r_157_29, r_157_30, ↓z_m1, l_0, l_1, l_2, l_3, l_4, l_5, l_6, l_7, l_8, l_9, l_10, l_11, l_12, l_13, l_14, l_15, l_16, l_17, l_18, l_19, l_20, l_21, l_22, l_23, l_24, l_25, l_26, l_27, l_28, l_29, l_30, l_31, l_32, l_33, l_34, l_35, l_36, l_37, l_38, l_39, l_40, l_41, l_42, l_43, l_44, l_45, l_46, l_47, l_48, l_49, l_50, l_51, l_52, l_53, l_54, l_55, l_56, l_57, l_59, l_60, l_61, l_62, l_63, l_64, l_65, l_80, l_86, l_87, l_88, l_89, l_90, l_91, l_92, l_93, l_94, l_95, l_97, l_99, l_100, l_107, l_119, l_122, l_124, l_129, l_140, l_141, l_142, l_143, l_144, l_145, l_147, l_150, l_159, l_160, l_161, l_162, l_205, l_253, l_255, l_256, l_269, l_305, l_380, l_399, l_400, l_420, l_430, l_516, l_600, l_720, l_820, l_905, l_921, l_937, l_953, l_970, l_999, l_1000, l_1790, l_4096, l_9999, l_1000000]
        rw [key]
        exact (c_clos qb hC hl h).rz
theorem c_sgn {N iw p : Nat} {ic : Bool} {T : zt_T} {W : List Nat} {O : List (Nat × Nat)} {σ : q_Sto} (hN : N < 16) (hC : zt_C σ T p) (hl : W.length + O.length ≤ p) (h : zl_D σ N W O 2 iw ic) : zl_out (f_X3_readSign q_F 144 σ) σ T N (zl_sgn T p W O iw ic) := by
  have hL := hC.1.1
  have hpL := hC.2.1
  have h6 := h.2.2.2.2.1
  have h7 := h.2.2.2.2.2.1
  have h8 := h.2.2.2.2.2.2.1
  have t47 := c_sT (k := 0) (c := 47) hC (by omega) (by omega)
  have t42 := c_sT (k := 0) (c := 42) hC (by omega) (by omega)
  have t43 := c_sT (k := 0) (c := 43) hC (by omega) (by omega)
  have t45 := c_sT (k := 0) (c := 45) hC (by omega) (by omega)
  have u47 := c_sF (k := 0) (c := 47) hC (by omega) (by omega)
  have u42 := c_sF (k := 0) (c := 42) hC (by omega) (by omega)
  have u43 := c_sF (k := 0) (c := 43) hC (by omega) (by omega)
  have u45 := c_sF (k := 0) (c := 45) hC (by omega) (by omega)
  unfold zl_sgn
  by_cases q47 : zt_cd 0 T p = 147
  · rw [if_pos q47]
    have t47 := t47 q47
    have key : f_X3_readSign q_F 144 σ = q_call (f_X3_readPart q_F 144 σ) fun r s => q_rz r s := by
      unfold f_X3_readSign
      simp (disch := omega) only [h6, t47, ↓reduceIte, ↓p_ld, ↓p_st, ↓p_nm, ↓p_nS, ↓p_jn, ↓p_call, ↓p_callv, ↓p_dv, ↓p_rem, h_ldE, h_stE, h_nmE, h_nSE, h_callE, h_callvE, h_dvE, h_remE, if_true, if_false, z_upS, z_upO, z_upK, nI_add, z_mul, z_sub, z_div, Nat.add_zero, Nat.mul_zero, Nat.zero_add, Nat.sub_zero, Nat.zero_mul, z_ltT, z_ltF, z_leT, z_leF, z_eqT, z_eqF, z_inT, z_clT, not_true_eq_false, not_false_eq_true, eq_self, true_or, or_true, z_m_lt, z_m_le, z_lt_m, z_le_m, z_eq_m, z_m_eq, z_rz0, z_rz1, z_m_add, z_of, r_0_0, r_0_1, r_0_3, r_0_4, r_0_5, r_0_6, r_0_7, r_0_8, r_0_9, r_0_10, r_1_0, r_1_1, r_1_2, r_1_3, r_1_4, r_1_5, r_1_6, r_1_7, r_1_8, r_2_0, r_2_1, r_2_2, r_2_3, r_2_4, r_2_5, r_2_6, r_2_7, r_11_0, r_11_1, r_11_2, r_11_3, r_11_4, r_11_5, r_11_6, r_19_0, r_21_0, r_23_0, r_25_0, r_27_0, r_31_0, r_31_1, r_31_2, r_31_3, r_31_4, r_31_5, r_31_6, r_31_7, r_31_8, r_32_0, r_32_1, r_32_2, r_32_3, r_32_4, r_32_5, r_32_6, r_32_7, r_41_0, r_41_1, r_41_2, r_41_3, r_41_4, r_41_5, r_41_6, r_49_0, r_51_0, r_53_0, r_55_0, r_57_0, r_61_0, r_63_0, r_63_1, r_63_2, r_63_3, r_63_4, r_63_5, r_63_6, r_63_7, r_72_0, r_72_1, r_72_2, r_72_3, r_72_4, r_72_5, r_72_6, r_72_7, r_81_0, r_81_1, r_81_2, r_81_3, r_81_4, r_81_5, r_81_6, r_81_7, r_90_0, r_90_1, r_90_2, r_90_3, r_90_4, r_90_5, r_90_6, r_90_7, r_99_0, r_99_1, r_99_2, r_99_3, r_99_4, r_99_5, r_99_6, r_99_7, r_108_0, r_108_1, r_108_2, r_108_3, r_108_4, r_108_5, r_108_6, r_108_7, r_117_0, r_117_1, r_117_2, r_117_3, r_117_4, r_117_5, r_117_6, r_117_7, r_126_0, r_126_1, r_126_2, r_126_3, r_126_4, r_132_0, r_132_1, r_135_0, r_135_1, r_135_2, r_135_3, r_135_4, r_135_5, r_142_0, r_144_0, r_144_1, r_144_2, r_145_0, r_145_1, r_145_2, r_145_3, r_145_4, r_145_5, r_145_6, r_154_0, r_154_1, r_155_0, r_157_0, r_157_1, r_157_2, r_157_3, r_157_6, r_157_7, r_157_8, r_157_9, r_157_10, r_157_11, r_157_27, r_157_28, r_157_29, r_157_30, ↓z_m1, l_0, l_1, l_2, l_3, l_4, l_5, l_6, l_7, l_8, l_9, l_10, l_11, l_12, l_13, l_14, l_15, l_16, l_17, l_18, l_19, l_20, l_21, l_22, l_23, l_24, l_25, l_26, l_27, l_28, l_29, l_30, l_31, l_32, l_33, l_34, l_35, l_36, l_37, l_38, l_39, l_40, l_41, l_42, l_43, l_44, l_45, l_46, l_47, l_48, l_49, l_50, l_51, l_52, l_53, l_54, l_55, l_56, l_57, l_59, l_60, l_61, l_62, l_63, l_64, l_65, l_80, l_86, l_87, l_88, l_89, l_90, l_91, l_92, l_93, l_94, l_95, l_97, l_99, l_100, l_107, l_119, l_122, l_124, l_129, l_140, l_141, l_142, l_143, l_144, l_145, l_147, l_150, l_159, l_160, l_161, l_162, l_205, l_253, l_255, l_256, l_269, l_305, l_380, l_399, l_400, l_420, l_430, l_516, l_600, l_720, l_820, l_905, l_921, l_937, l_953, l_970, l_999, l_1000, l_1790, l_4096, l_9999, l_1000000]
    rw [key]
    exact (c_part hC (by omega) hl h).rz
  · rw [if_neg q47]
    have u47 := u47 q47
    by_cases q42 : zt_cd 0 T p = 142
    · rw [if_pos q42]
      have t42 := t42 q42
      have key : f_X3_readSign q_F 144 σ = q_call (f_X3_join q_F 144 (nI 3) (nI 0) σ) fun r s => q_rz r s := by
        unfold f_X3_readSign
        simp (disch := omega) only [h6, u47, t42, ↓reduceIte, ↓p_ld, ↓p_st, ↓p_nm, ↓p_nS, ↓p_jn, ↓p_call, ↓p_callv, ↓p_dv, ↓p_rem, h_ldE, h_stE, h_nmE, h_nSE, h_callE, h_callvE, h_dvE, h_remE, if_true, if_false, z_upS, z_upO, z_upK, nI_add, z_mul, z_sub, z_div, Nat.add_zero, Nat.mul_zero, Nat.zero_add, Nat.sub_zero, Nat.zero_mul, z_ltT, z_ltF, z_leT, z_leF, z_eqT, z_eqF, z_inT, z_clT, not_true_eq_false, not_false_eq_true, eq_self, true_or, or_true, z_m_lt, z_m_le, z_lt_m, z_le_m, z_eq_m, z_m_eq, z_rz0, z_rz1, z_m_add, z_of, r_0_0, r_0_1, r_0_3, r_0_4, r_0_5, r_0_6, r_0_7, r_0_8, r_0_9, r_0_10, r_1_0, r_1_1, r_1_2, r_1_3, r_1_4, r_1_5, r_1_6, r_1_7, r_1_8, r_2_0, r_2_1, r_2_2, r_2_3, r_2_4, r_2_5, r_2_6, r_2_7, r_11_0, r_11_1, r_11_2, r_11_3, r_11_4, r_11_5, r_11_6, r_19_0, r_21_0, r_23_0, r_25_0, r_27_0, r_31_0, r_31_1, r_31_2, r_31_3, r_31_4, r_31_5, r_31_6, r_31_7, r_31_8, r_32_0, r_32_1, r_32_2, r_32_3, r_32_4, r_32_5, r_32_6, r_32_7, r_41_0, r_41_1, r_41_2, r_41_3, r_41_4, r_41_5, r_41_6, r_49_0, r_51_0, r_53_0, r_55_0, r_57_0, r_61_0, r_63_0, r_63_1, r_63_2, r_63_3, r_63_4, r_63_5, r_63_6, r_63_7, r_72_0, r_72_1, r_72_2, r_72_3, r_72_4, r_72_5, r_72_6, r_72_7, r_81_0, r_81_1, r_81_2, r_81_3, r_81_4, r_81_5, r_81_6, r_81_7, r_90_0, r_90_1, r_90_2, r_90_3, r_90_4, r_90_5, r_90_6, r_90_7, r_99_0, r_99_1, r_99_2, r_99_3, r_99_4, r_99_5, r_99_6, r_99_7, r_108_0, r_108_1, r_108_2, r_108_3, r_108_4, r_108_5, r_108_6, r_108_7, r_117_0, r_117_1, r_117_2, r_117_3, r_117_4, r_117_5, r_117_6, r_117_7, r_126_0, r_126_1, r_126_2, r_126_3, r_126_4, r_132_0, r_132_1, r_135_0, r_135_1, r_135_2, r_135_3, r_135_4, r_135_5, r_142_0, r_144_0, r_144_1, r_144_2, r_145_0, r_145_1, r_145_2, r_145_3, r_145_4, r_145_5, r_145_6, r_154_0, r_154_1, r_155_0, r_157_0, r_157_1, r_157_2, r_157_3, r_157_6, r_157_7, r_157_8, r_157_9, r_157_10, r_157_11, r_157_27, r_157_28, r_157_29, r_157_30, ↓z_m1, l_0, l_1, l_2, l_3, l_4, l_5, l_6, l_7, l_8, l_9, l_10, l_11, l_12, l_13, l_14, l_15, l_16, l_17, l_18, l_19, l_20, l_21, l_22, l_23, l_24, l_25, l_26, l_27, l_28, l_29, l_30, l_31, l_32, l_33, l_34, l_35, l_36, l_37, l_38, l_39, l_40, l_41, l_42, l_43, l_44, l_45, l_46, l_47, l_48, l_49, l_50, l_51, l_52, l_53, l_54, l_55, l_56, l_57, l_59, l_60, l_61, l_62, l_63, l_64, l_65, l_80, l_86, l_87, l_88, l_89, l_90, l_91, l_92, l_93, l_94, l_95, l_97, l_99, l_100, l_107, l_119, l_122, l_124, l_129, l_140, l_141, l_142, l_143, l_144, l_145, l_147, l_150, l_159, l_160, l_161, l_162, l_205, l_253, l_255, l_256, l_269, l_305, l_380, l_399, l_400, l_420, l_430, l_516, l_600, l_720, l_820, l_905, l_921, l_937, l_953, l_970, l_999, l_1000, l_1790, l_4096, l_9999, l_1000000]
      rw [key]
      exact (c_joinO (by omega) (by omega) (by decide) (by omega) hC (by omega) hl h).rz
    · rw [if_neg q42]
      have u42 := u42 q42
      by_cases q43 : zt_cd 0 T p = 143
      · rw [if_pos q43]
        have t43 := t43 q43
        have key : f_X3_readSign q_F 144 σ = q_call (f_X3_join q_F 144 (nI 4) (nI 0) σ) fun r s => q_rz r s := by
          unfold f_X3_readSign
          simp (disch := omega) only [h6, u47, u42, t43, ↓reduceIte, ↓p_ld, ↓p_st, ↓p_nm, ↓p_nS, ↓p_jn, ↓p_call, ↓p_callv, ↓p_dv, ↓p_rem, h_ldE, h_stE, h_nmE, h_nSE, h_callE, h_callvE, h_dvE, h_remE, if_true, if_false, z_upS, z_upO, z_upK, nI_add, z_mul, z_sub, z_div, Nat.add_zero, Nat.mul_zero, Nat.zero_add, Nat.sub_zero, Nat.zero_mul, z_ltT, z_ltF, z_leT, z_leF, z_eqT, z_eqF, z_inT, z_clT, not_true_eq_false, not_false_eq_true, eq_self, true_or, or_true, z_m_lt, z_m_le, z_lt_m, z_le_m, z_eq_m, z_m_eq, z_rz0, z_rz1, z_m_add, z_of, r_0_0, r_0_1, r_0_3, r_0_4, r_0_5, r_0_6, r_0_7, r_0_8, r_0_9, r_0_10, r_1_0, r_1_1, r_1_2, r_1_3, r_1_4, r_1_5, r_1_6, r_1_7, r_1_8, r_2_0, r_2_1, r_2_2, r_2_3, r_2_4, r_2_5, r_2_6, r_2_7, r_11_0, r_11_1, r_11_2, r_11_3, r_11_4, r_11_5, r_11_6, r_19_0, r_21_0, r_23_0, r_25_0, r_27_0, r_31_0, r_31_1, r_31_2, r_31_3, r_31_4, r_31_5, r_31_6, r_31_7, r_31_8, r_32_0, r_32_1, r_32_2, r_32_3, r_32_4, r_32_5, r_32_6, r_32_7, r_41_0, r_41_1, r_41_2, r_41_3, r_41_4, r_41_5, r_41_6, r_49_0, r_51_0, r_53_0, r_55_0, r_57_0, r_61_0, r_63_0, r_63_1, r_63_2, r_63_3, r_63_4, r_63_5, r_63_6, r_63_7, r_72_0, r_72_1, r_72_2, r_72_3, r_72_4, r_72_5, r_72_6, r_72_7, r_81_0, r_81_1, r_81_2, r_81_3, r_81_4, r_81_5, r_81_6, r_81_7, r_90_0, r_90_1, r_90_2, r_90_3, r_90_4, r_90_5, r_90_6, r_90_7, r_99_0, r_99_1, r_99_2, r_99_3, r_99_4, r_99_5, r_99_6, r_99_7, r_108_0, r_108_1, r_108_2, r_108_3, r_108_4, r_108_5, r_108_6, r_108_7, r_117_0, r_117_1, r_117_2, r_117_3, r_117_4, r_117_5, r_117_6, r_117_7, r_126_0, r_126_1, r_126_2, r_126_3, r_126_4, r_132_0, r_132_1, r_135_0, r_135_1, r_135_2, r_135_3, r_135_4, r_135_5, r_142_0, r_144_0, r_144_1, r_144_2, r_145_0, r_145_1, r_145_2, r_145_3, r_145_4, r_145_5, r_145_6, r_154_0, r_154_1, r_155_0, r_157_0, r_157_1, r_157_2, r_157_3, r_157_6, r_157_7, r_157_8, r_157_9, r_157_10, r_157_11, r_157_27, r_157_28, r_157_29, r_157_30, ↓z_m1, l_0, l_1, l_2, l_3, l_4, l_5, l_6, l_7, l_8, l_9, l_10, l_11, l_12, l_13, l_14, l_15, l_16, l_17, l_18, l_19, l_20, l_21, l_22, l_23, l_24, l_25, l_26, l_27, l_28, l_29, l_30, l_31, l_32, l_33, l_34, l_35, l_36, l_37, l_38, l_39, l_40, l_41, l_42, l_43, l_44, l_45, l_46, l_47, l_48, l_49, l_50, l_51, l_52, l_53, l_54, l_55, l_56, l_57, l_59, l_60, l_61, l_62, l_63, l_64, l_65, l_80, l_86, l_87, l_88, l_89, l_90, l_91, l_92, l_93, l_94, l_95, l_97, l_99, l_100, l_107, l_119, l_122, l_124, l_129, l_140, l_141, l_142, l_143, l_144, l_145, l_147, l_150, l_159, l_160, l_161, l_162, l_205, l_253, l_255, l_256, l_269, l_305, l_380, l_399, l_400, l_420, l_430, l_516, l_600, l_720, l_820, l_905, l_921, l_937, l_953, l_970, l_999, l_1000, l_1790, l_4096, l_9999, l_1000000]
        rw [key]
        exact (c_joinO (by omega) (by omega) (by decide) (by omega) hC (by omega) hl h).rz
      · rw [if_neg q43]
        have u43 := u43 q43
        by_cases q45 : zt_cd 0 T p = 145
        · rw [if_pos q45]
          have t45 := t45 q45
          have key : f_X3_readSign q_F 144 σ = q_call (f_X3_join q_F 144 (nI 5) (nI 0) σ) fun r s => q_rz r s := by
            unfold f_X3_readSign
            simp (disch := omega) only [h6, u47, u42, u43, t45, ↓reduceIte, ↓p_ld, ↓p_st, ↓p_nm, ↓p_nS, ↓p_jn, ↓p_call, ↓p_callv, ↓p_dv, ↓p_rem, h_ldE, h_stE, h_nmE, h_nSE, h_callE, h_callvE, h_dvE, h_remE, if_true, if_false, z_upS, z_upO, z_upK, nI_add, z_mul, z_sub, z_div, Nat.add_zero, Nat.mul_zero, Nat.zero_add, Nat.sub_zero, Nat.zero_mul, z_ltT, z_ltF, z_leT, z_leF, z_eqT, z_eqF, z_inT, z_clT, not_true_eq_false, not_false_eq_true, eq_self, true_or, or_true, z_m_lt, z_m_le, z_lt_m, z_le_m, z_eq_m, z_m_eq, z_rz0, z_rz1, z_m_add, z_of, r_0_0, r_0_1, r_0_3, r_0_4, r_0_5, r_0_6, r_0_7, r_0_8, r_0_9, r_0_10, r_1_0, r_1_1, r_1_2, r_1_3, r_1_4, r_1_5, r_1_6, r_1_7, r_1_8, r_2_0, r_2_1, r_2_2, r_2_3, r_2_4, r_2_5, r_2_6, r_2_7, r_11_0, r_11_1, r_11_2, r_11_3, r_11_4, r_11_5, r_11_6, r_19_0, r_21_0, r_23_0, r_25_0, r_27_0, r_31_0, r_31_1, r_31_2, r_31_3, r_31_4, r_31_5, r_31_6, r_31_7, r_31_8, r_32_0, r_32_1, r_32_2, r_32_3, r_32_4, r_32_5, r_32_6, r_32_7, r_41_0, r_41_1, r_41_2, r_41_3, r_41_4, r_41_5, r_41_6, r_49_0, r_51_0, r_53_0, r_55_0, r_57_0, r_61_0, r_63_0, r_63_1, r_63_2, r_63_3, r_63_4, r_63_5, r_63_6, r_63_7, r_72_0, r_72_1, r_72_2, r_72_3, r_72_4, r_72_5, r_72_6, r_72_7, r_81_0, r_81_1, r_81_2, r_81_3, r_81_4, r_81_5, r_81_6, r_81_7, r_90_0, r_90_1, r_90_2, r_90_3, r_90_4, r_90_5, r_90_6, r_90_7, r_99_0, r_99_1, r_99_2, r_99_3, r_99_4, r_99_5, r_99_6, r_99_7, r_108_0, r_108_1, r_108_2, r_108_3, r_108_4, r_108_5, r_108_6, r_108_7, r_117_0, r_117_1, r_117_2, r_117_3, r_117_4, r_117_5, r_117_6, r_117_7, r_126_0, r_126_1, r_126_2, r_126_3, r_126_4, r_132_0, r_132_1, r_135_0, r_135_1, r_135_2, r_135_3, r_135_4, r_135_5, r_142_0, r_144_0, r_144_1, r_144_2, r_145_0, r_145_1, r_145_2, r_145_3, r_145_4, r_145_5, r_145_6, r_154_0, r_154_1, r_155_0, r_157_0, r_157_1, r_157_2, r_157_3, r_157_6, r_157_7, r_157_8, r_157_9, r_157_10, r_157_11, r_157_27, r_157_28, r_157_29, r_157_30, ↓z_m1, l_0, l_1, l_2, l_3, l_4, l_5, l_6, l_7, l_8, l_9, l_10, l_11, l_12, l_13, l_14, l_15, l_16, l_17, l_18, l_19, l_20, l_21, l_22, l_23, l_24, l_25, l_26, l_27, l_28, l_29, l_30, l_31, l_32, l_33, l_34, l_35, l_36, l_37, l_38, l_39, l_40, l_41, l_42, l_43, l_44, l_45, l_46, l_47, l_48, l_49, l_50, l_51, l_52, l_53, l_54, l_55, l_56, l_57, l_59, l_60, l_61, l_62, l_63, l_64, l_65, l_80, l_86, l_87, l_88, l_89, l_90, l_91, l_92, l_93, l_94, l_95, l_97, l_99, l_100, l_107, l_119, l_122, l_124, l_129, l_140, l_141, l_142, l_143, l_144, l_145, l_147, l_150, l_159, l_160, l_161, l_162, l_205, l_253, l_255, l_256, l_269, l_305, l_380, l_399, l_400, l_420, l_430, l_516, l_600, l_720, l_820, l_905, l_921, l_937, l_953, l_970, l_999, l_1000, l_1790, l_4096, l_9999, l_1000000]
          rw [key]
          exact (c_joinO (by omega) (by omega) (by decide) (by omega) hC (by omega) hl h).rz
        · rw [if_neg q45]
          have u45 := u45 q45
          by_cases qw : iw = 0
          · rw [if_pos qw]
            rw [if_pos qw] at h7
            have key : f_X3_readSign q_F 144 σ = q_call (f_X3_readWhen q_F 144 σ) fun r s => q_rz r s := by
              unfold f_X3_readSign
              simp (disch := omega) only [h6, u47, u42, u43, u45, h7, ↓reduceIte, ↓p_ld, ↓p_st, ↓p_nm, ↓p_nS, ↓p_jn, ↓p_call, ↓p_callv, ↓p_dv, ↓p_rem, h_ldE, h_stE, h_nmE, h_nSE, h_callE, h_callvE, h_dvE, h_remE, if_true, if_false, z_upS, z_upO, z_upK, nI_add, z_mul, z_sub, z_div, Nat.add_zero, Nat.mul_zero, Nat.zero_add, Nat.sub_zero, Nat.zero_mul, z_ltT, z_ltF, z_leT, z_leF, z_eqT, z_eqF, z_inT, z_clT, not_true_eq_false, not_false_eq_true, eq_self, true_or, or_true, z_m_lt, z_m_le, z_lt_m, z_le_m, z_eq_m, z_m_eq, z_rz0, z_rz1, z_m_add, z_of, r_0_0, r_0_1, r_0_3, r_0_4, r_0_5, r_0_6, r_0_7, r_0_8, r_0_9, r_0_10, r_1_0, r_1_1, r_1_2, r_1_3, r_1_4, r_1_5, r_1_6, r_1_7, r_1_8, r_2_0, r_2_1, r_2_2, r_2_3, r_2_4, r_2_5, r_2_6, r_2_7, r_11_0, r_11_1, r_11_2, r_11_3, r_11_4, r_11_5, r_11_6, r_19_0, r_21_0, r_23_0, r_25_0, r_27_0, r_31_0, r_31_1, r_31_2, r_31_3, r_31_4, r_31_5, r_31_6, r_31_7, r_31_8, r_32_0, r_32_1, r_32_2, r_32_3, r_32_4, r_32_5, r_32_6, r_32_7, r_41_0, r_41_1, r_41_2, r_41_3, r_41_4, r_41_5, r_41_6, r_49_0, r_51_0, r_53_0, r_55_0, r_57_0, r_61_0, r_63_0, r_63_1, r_63_2, r_63_3, r_63_4, r_63_5, r_63_6, r_63_7, r_72_0, r_72_1, r_72_2, r_72_3, r_72_4, r_72_5, r_72_6, r_72_7, r_81_0, r_81_1, r_81_2, r_81_3, r_81_4, r_81_5, r_81_6, r_81_7, r_90_0, r_90_1, r_90_2, r_90_3, r_90_4, r_90_5, r_90_6, r_90_7, r_99_0, r_99_1, r_99_2, r_99_3, r_99_4, r_99_5, r_99_6, r_99_7, r_108_0, r_108_1, r_108_2, r_108_3, r_108_4, r_108_5, r_108_6, r_108_7, r_117_0, r_117_1, r_117_2, r_117_3, r_117_4, r_117_5, r_117_6, r_117_7, r_126_0, r_126_1, r_126_2, r_126_3, r_126_4, r_132_0, r_132_1, r_135_0, r_135_1, r_135_2, r_135_3, r_135_4, r_135_5, r_142_0, r_144_0, r_144_1, r_144_2, r_145_0, r_145_1, r_145_2, r_145_3, r_145_4, r_145_5, r_145_6, r_154_0, r_154_1, r_155_0, r_157_0, r_157_1, r_157_2, r_157_3, r_157_6, r_157_7, r_157_8, r_157_9, r_157_10, r_157_11, r_157_27, r_157_28, r_157_29, r_157_30, ↓z_m1, l_0, l_1, l_2, l_3, l_4, l_5, l_6, l_7, l_8, l_9, l_10, l_11, l_12, l_13, l_14, l_15, l_16, l_17, l_18, l_19, l_20, l_21, l_22, l_23, l_24, l_25, l_26, l_27, l_28, l_29, l_30, l_31, l_32, l_33, l_34, l_35, l_36, l_37, l_38, l_39, l_40, l_41, l_42, l_43, l_44, l_45, l_46, l_47, l_48, l_49, l_50, l_51, l_52, l_53, l_54, l_55, l_56, l_57, l_59, l_60, l_61, l_62, l_63, l_64, l_65, l_80, l_86, l_87, l_88, l_89, l_90, l_91, l_92, l_93, l_94, l_95, l_97, l_99, l_100, l_107, l_119, l_122, l_124, l_129, l_140, l_141, l_142, l_143, l_144, l_145, l_147, l_150, l_159, l_160, l_161, l_162, l_205, l_253, l_255, l_256, l_269, l_305, l_380, l_399, l_400, l_420, l_430, l_516, l_600, l_720, l_820, l_905, l_921, l_937, l_953, l_970, l_999, l_1000, l_1790, l_4096, l_9999, l_1000000]
            rw [key]
            exact (c_when hN hC hl h).rz
          · rw [if_neg qw]
            rw [if_neg qw] at h7
            cases ic with
            | false =>
              have e0 : z_fb false = nI 0 := rfl
              rw [e0] at h8
              rw [if_pos rfl]
              have key : f_X3_readSign q_F 144 σ = q_call (f_X3_readComparison q_F 144 σ) fun r s => q_rz r s := by
                unfold f_X3_readSign
                simp (disch := omega) only [h6, u47, u42, u43, u45, h7, h8, ↓reduceIte, ↓p_ld, ↓p_st, ↓p_nm, ↓p_nS, ↓p_jn, ↓p_call, ↓p_callv, ↓p_dv, ↓p_rem, h_ldE, h_stE, h_nmE, h_nSE, h_callE, h_callvE, h_dvE, h_remE, if_true, if_false, z_upS, z_upO, z_upK, nI_add, z_mul, z_sub, z_div, Nat.add_zero, Nat.mul_zero, Nat.zero_add, Nat.sub_zero, Nat.zero_mul, z_ltT, z_ltF, z_leT, z_leF, z_eqT, z_eqF, z_inT, z_clT, not_true_eq_false, not_false_eq_true, eq_self, true_or, or_true, z_m_lt, z_m_le, z_lt_m, z_le_m, z_eq_m, z_m_eq, z_rz0, z_rz1, z_m_add, z_of, r_0_0, r_0_1, r_0_3, r_0_4, r_0_5, r_0_6, r_0_7, r_0_8, r_0_9, r_0_10, r_1_0, r_1_1, r_1_2, r_1_3, r_1_4, r_1_5, r_1_6, r_1_7, r_1_8, r_2_0, r_2_1, r_2_2, r_2_3, r_2_4, r_2_5, r_2_6, r_2_7, r_11_0, r_11_1, r_11_2, r_11_3, r_11_4, r_11_5, r_11_6, r_19_0, r_21_0, r_23_0, r_25_0, r_27_0, r_31_0, r_31_1, r_31_2, r_31_3, r_31_4, r_31_5, r_31_6, r_31_7, r_31_8, r_32_0, r_32_1, r_32_2, r_32_3, r_32_4, r_32_5, r_32_6, r_32_7, r_41_0, r_41_1, r_41_2, r_41_3, r_41_4, r_41_5, r_41_6, r_49_0, r_51_0, r_53_0, r_55_0, r_57_0, r_61_0, r_63_0, r_63_1, r_63_2, r_63_3, r_63_4, r_63_5, r_63_6, r_63_7, r_72_0, r_72_1, r_72_2, r_72_3, r_72_4, r_72_5, r_72_6, r_72_7, r_81_0, r_81_1, r_81_2, r_81_3, r_81_4, r_81_5, r_81_6, r_81_7, r_90_0, r_90_1, r_90_2, r_90_3, r_90_4, r_90_5, r_90_6, r_90_7, r_99_0, r_99_1, r_99_2, r_99_3, r_99_4, r_99_5, r_99_6, r_99_7, r_108_0, r_108_1, r_108_2, r_108_3, r_108_4, r_108_5, r_108_6, r_108_7, r_117_0, r_117_1, r_117_2, r_117_3, r_117_4, r_117_5, r_117_6, r_117_7, r_126_0, r_126_1, r_126_2, r_126_3, r_126_4, r_132_0, r_132_1, r_135_0, r_135_1, r_135_2, r_135_3, r_135_4, r_135_5, r_142_0, r_144_0, r_144_1, r_144_2, r_145_0, r_145_1, r_145_2, r_145_3, r_145_4, r_145_5, r_145_6, r_154_0, r_154_1, r_155_0, r_157_0, r_157_1, r_157_2, r_157_3, r_157_6, r_157_7, r_157_8, r_157_9, r_157_10, r_157_11, r_157_27, r_157_28, r_157_29, r_157_30, ↓z_m1, l_0, l_1, l_2, l_3, l_4, l_5, l_6, l_7, l_8, l_9, l_10, l_11, l_12, l_13, l_14, l_15, l_16, l_17, l_18, l_19, l_20, l_21, l_22, l_23, l_24, l_25, l_26, l_27, l_28, l_29, l_30, l_31, l_32, l_33, l_34, l_35, l_36, l_37, l_38, l_39, l_40, l_41, l_42, l_43, l_44, l_45, l_46, l_47, l_48, l_49, l_50, l_51, l_52, l_53, l_54, l_55, l_56, l_57, l_59, l_60, l_61, l_62, l_63, l_64, l_65, l_80, l_86, l_87, l_88, l_89, l_90, l_91, l_92, l_93, l_94, l_95, l_97, l_99, l_100, l_107, l_119, l_122, l_124, l_129, l_140, l_141, l_142, l_143, l_144, l_145, l_147, l_150, l_159, l_160, l_161, l_162, l_205, l_253, l_255, l_256, l_269, l_305, l_380, l_399, l_400, l_420, l_430, l_516, l_600, l_720, l_820, l_905, l_921, l_937, l_953, l_970, l_999, l_1000, l_1790, l_4096, l_9999, l_1000000]
              rw [key]
              exact (c_cmp hC hl h).rz
            | true =>
              rw [if_neg (by decide)]
              exact c_tail hN hC hl h (Or.inl ⟨rfl, by unfold zl_ar; omega, qw, rfl⟩)
/-- one step of the class -/
def zl_fn (σ : q_Sto) (ex : Nat) : Option (Int32 × q_Sto) := if ex = 0 ∨ ex = 1 then f_X3_readOperand q_F 144 σ else f_X3_readSign q_F 144 σ
theorem c_stp {N ex iw p : Nat} {ic : Bool} {T : zt_T} {W : List Nat} {O : List (Nat × Nat)} {σ : q_Sto} (hN : N < 16) (hex : ex ≤ 3) (hC : zt_C σ T p) (hl : W.length + O.length ≤ p) (h : zl_D σ N W O ex iw ic) : zl_out (zl_fn σ ex) σ T N (zl_stp T (p, W, O, ex, iw, ic)) := by
  obtain ⟨o0, o1, o2, o3, o4, o5, o6, o7, o8, o9, o10, o11, o12, o13, o14, o15, o16⟩ := c_wok
  have h6 := h.2.2.2.2.1
  have hc : ex = 0 ∨ ex = 1 ∨ ex = 2 ∨ ex = 3 := by omega
  have key : f_X3_readOperand q_F 144 σ = if σ 144 6 = 1 then (q_nS1 (q_up σ 144 8 0) fun s23 => q_call (f_X8_isWord q_F 142 3 s23) fun r25 s24 => if r25 = 0 then (q_call (f_X8_isSign q_F 142 40 s24) fun r28 s27 => if r28 = 0 then zl_bo s27 else (q_call (f_X3_readOpening q_F 144 12 s27) fun r31 s30 => q_rz r31 s30)) else (q_call (f_X3_readOpening q_F 144 9 s24) fun r33 s32 => q_rz r33 s32)) else zl_bo σ := rfl
  rcases hc with rfl | rfl | rfl | rfl
  · show zl_out (f_X3_readOperand q_F 144 σ) σ T N (zl_opd T p W O iw ic)
    rw [key]
    have e := c_opd hC hl h
    simp (disch := omega) only [h6, ↓reduceIte, ↓p_ld, ↓p_st, ↓p_nm, ↓p_nS, ↓p_jn, ↓p_call, ↓p_callv, ↓p_dv, ↓p_rem, h_ldE, h_stE, h_nmE, h_nSE, h_callE, h_callvE, h_dvE, h_remE, if_true, if_false, z_upS, z_upO, z_upK, nI_add, z_mul, z_sub, z_div, Nat.add_zero, Nat.mul_zero, Nat.zero_add, Nat.sub_zero, Nat.zero_mul, z_ltT, z_ltF, z_leT, z_leF, z_eqT, z_eqF, z_inT, z_clT, not_true_eq_false, not_false_eq_true, eq_self, true_or, or_true, z_m_lt, z_m_le, z_lt_m, z_le_m, z_eq_m, z_m_eq, z_rz0, z_rz1, z_m_add, z_of, r_0_0, r_0_1, r_0_3, r_0_4, r_0_5, r_0_6, r_0_7, r_0_8, r_0_9, r_0_10, r_1_0, r_1_1, r_1_2, r_1_3, r_1_4, r_1_5, r_1_6, r_1_7, r_1_8, r_2_0, r_2_1, r_2_2, r_2_3, r_2_4, r_2_5, r_2_6, r_2_7, r_11_0, r_11_1, r_11_2, r_11_3, r_11_4, r_11_5, r_11_6, r_19_0, r_21_0, r_23_0, r_25_0, r_27_0, r_31_0, r_31_1, r_31_2, r_31_3, r_31_4, r_31_5, r_31_6, r_31_7, r_31_8, r_32_0, r_32_1, r_32_2, r_32_3, r_32_4, r_32_5, r_32_6, r_32_7, r_41_0, r_41_1, r_41_2, r_41_3, r_41_4, r_41_5, r_41_6, r_49_0, r_51_0, r_53_0, r_55_0, r_57_0, r_61_0, r_63_0, r_63_1, r_63_2, r_63_3, r_63_4, r_63_5, r_63_6, r_63_7, r_72_0, r_72_1, r_72_2, r_72_3, r_72_4, r_72_5, r_72_6, r_72_7, r_81_0, r_81_1, r_81_2, r_81_3, r_81_4, r_81_5, r_81_6, r_81_7, r_90_0, r_90_1, r_90_2, r_90_3, r_90_4, r_90_5, r_90_6, r_90_7, r_99_0, r_99_1, r_99_2, r_99_3, r_99_4, r_99_5, r_99_6, r_99_7, r_108_0, r_108_1, r_108_2, r_108_3, r_108_4, r_108_5, r_108_6, r_108_7, r_117_0, r_117_1, r_117_2, r_117_3, r_117_4, r_117_5, r_117_6, r_117_7, r_126_0, r_126_1, r_126_2, r_126_3, r_126_4, r_132_0, r_132_1, r_135_0, r_135_1, r_135_2, r_135_3, r_135_4, r_135_5, r_142_0, r_144_0, r_144_1, r_144_2, r_145_0, r_145_1, r_145_2, r_145_3, r_145_4, r_145_5, r_145_6, r_154_0, r_154_1, r_155_0, r_157_0, r_157_1, r_157_2, r_157_3, r_157_6, r_157_7, r_157_8, r_157_9, r_157_10, r_157_11, r_157_27, r_157_28, r_157_29, r_157_30, ↓z_m1, l_0, l_1, l_2, l_3, l_4, l_5, l_6, l_7, l_8, l_9, l_10, l_11, l_12, l_13, l_14, l_15, l_16, l_17, l_18, l_19, l_20, l_21, l_22, l_23, l_24, l_25, l_26, l_27, l_28, l_29, l_30, l_31, l_32, l_33, l_34, l_35, l_36, l_37, l_38, l_39, l_40, l_41, l_42, l_43, l_44, l_45, l_46, l_47, l_48, l_49, l_50, l_51, l_52, l_53, l_54, l_55, l_56, l_57, l_59, l_60, l_61, l_62, l_63, l_64, l_65, l_80, l_86, l_87, l_88, l_89, l_90, l_91, l_92, l_93, l_94, l_95, l_97, l_99, l_100, l_107, l_119, l_122, l_124, l_129, l_140, l_141, l_142, l_143, l_144, l_145, l_147, l_150, l_159, l_160, l_161, l_162, l_205, l_253, l_255, l_256, l_269, l_305, l_380, l_399, l_400, l_420, l_430, l_516, l_600, l_720, l_820, l_905, l_921, l_937, l_953, l_970, l_999, l_1000, l_1790, l_4096, l_9999, l_1000000]
    exact e
  · have h1 : zl_D (q_up σ 144 8 (nI 0)) N W O 1 iw false := h.ic (ic' := false)
    have hC1 : zt_C (q_up σ 144 8 (nI 0)) T p := hC.fL (zl_fL.up (N := N) σ)
    have hf := (zl_fL.up (N := N) (a := 8) (v := nI 0) σ).T
    show zl_out (f_X3_readOperand q_F 144 σ) σ T N (if zt_cd 0 T p = 6 then zl_opn T 9 p W O iw else if zt_cd 0 T p = 140 then zl_opn T 12 p W O iw else zl_opd T p W O iw false)
    by_cases q6 : zt_cd 0 T p = 6
    · rw [if_pos q6]
      have t3 := c_wT hC1 (by omega) o3 q6
      clear key
      have key : f_X3_readOperand q_F 144 σ = q_call (f_X3_readOpening q_F 144 (nI 9) (q_up σ 144 8 (nI 0))) fun r s => q_rz r s := by
        unfold f_X3_readOperand
        simp (disch := omega) only [h6, t3, ↓reduceIte, ↓p_ld, ↓p_st, ↓p_nm, ↓p_nS, ↓p_jn, ↓p_call, ↓p_callv, ↓p_dv, ↓p_rem, h_ldE, h_stE, h_nmE, h_nSE, h_callE, h_callvE, h_dvE, h_remE, if_true, if_false, z_upS, z_upO, z_upK, nI_add, z_mul, z_sub, z_div, Nat.add_zero, Nat.mul_zero, Nat.zero_add, Nat.sub_zero, Nat.zero_mul, z_ltT, z_ltF, z_leT, z_leF, z_eqT, z_eqF, z_inT, z_clT, not_true_eq_false, not_false_eq_true, eq_self, true_or, or_true, z_m_lt, z_m_le, z_lt_m, z_le_m, z_eq_m, z_m_eq, z_rz0, z_rz1, z_m_add, z_of, r_0_0, r_0_1, r_0_3, r_0_4, r_0_5, r_0_6, r_0_7, r_0_8, r_0_9, r_0_10, r_1_0, r_1_1, r_1_2, r_1_3, r_1_4, r_1_5, r_1_6, r_1_7, r_1_8, r_2_0, r_2_1, r_2_2, r_2_3, r_2_4, r_2_5, r_2_6, r_2_7, r_11_0, r_11_1, r_11_2, r_11_3, r_11_4, r_11_5, r_11_6, r_19_0, r_21_0, r_23_0, r_25_0, r_27_0, r_31_0, r_31_1, r_31_2, r_31_3, r_31_4, r_31_5, r_31_6, r_31_7, r_31_8, r_32_0, r_32_1, r_32_2, r_32_3, r_32_4, r_32_5, r_32_6, r_32_7, r_41_0, r_41_1, r_41_2, r_41_3, r_41_4, r_41_5, r_41_6, r_49_0, r_51_0, r_53_0, r_55_0, r_57_0, r_61_0, r_63_0, r_63_1, r_63_2, r_63_3, r_63_4, r_63_5, r_63_6, r_63_7, r_72_0, r_72_1, r_72_2, r_72_3, r_72_4, r_72_5, r_72_6, r_72_7, r_81_0, r_81_1, r_81_2, r_81_3, r_81_4, r_81_5, r_81_6, r_81_7, r_90_0, r_90_1, r_90_2, r_90_3, r_90_4, r_90_5, r_90_6, r_90_7, r_99_0, r_99_1, r_99_2, r_99_3, r_99_4, r_99_5, r_99_6, r_99_7, r_108_0, r_108_1, r_108_2, r_108_3, r_108_4, r_108_5, r_108_6, r_108_7, r_117_0, r_117_1, r_117_2, r_117_3, r_117_4, r_117_5, r_117_6, r_117_7, r_126_0, r_126_1, r_126_2, r_126_3, r_126_4, r_132_0, r_132_1, r_135_0, r_135_1, r_135_2, r_135_3, r_135_4, r_135_5, r_142_0, r_144_0, r_144_1, r_144_2, r_145_0, r_145_1, r_145_2, r_145_3, r_145_4, r_145_5, r_145_6, r_154_0, r_154_1, r_155_0, r_157_0, r_157_1, r_157_2, r_157_3, r_157_6, r_157_7, r_157_8, r_157_9, r_157_10, r_157_11, r_157_27, r_157_28, r_157_29, r_157_30, ↓z_m1, l_0, l_1, l_2, l_3, l_4, l_5, l_6, l_7, l_8, l_9, l_10, l_11, l_12, l_13, l_14, l_15, l_16, l_17, l_18, l_19, l_20, l_21, l_22, l_23, l_24, l_25, l_26, l_27, l_28, l_29, l_30, l_31, l_32, l_33, l_34, l_35, l_36, l_37, l_38, l_39, l_40, l_41, l_42, l_43, l_44, l_45, l_46, l_47, l_48, l_49, l_50, l_51, l_52, l_53, l_54, l_55, l_56, l_57, l_59, l_60, l_61, l_62, l_63, l_64, l_65, l_80, l_86, l_87, l_88, l_89, l_90, l_91, l_92, l_93, l_94, l_95, l_97, l_99, l_100, l_107, l_119, l_122, l_124, l_129, l_140, l_141, l_142, l_143, l_144, l_145, l_147, l_150, l_159, l_160, l_161, l_162, l_205, l_253, l_255, l_256, l_269, l_305, l_380, l_399, l_400, l_420, l_430, l_516, l_600, l_720, l_820, l_905, l_921, l_937, l_953, l_970, l_999, l_1000, l_1790, l_4096, l_9999, l_1000000]
      rw [key]
      exact ((c_opn (Or.inl rfl) hC1 (by omega) hl h1).rz).of hf
    · rw [if_neg q6]
      have u3 := c_wF hC1 (by omega) o3 q6
      by_cases q40 : zt_cd 0 T p = 140
      · rw [if_pos q40]
        have t40 := c_sT (k := 0) (c := 40) hC1 (by omega) (by omega) q40
        clear key
        have key : f_X3_readOperand q_F 144 σ = q_call (f_X3_readOpening q_F 144 (nI 12) (q_up σ 144 8 (nI 0))) fun r s => q_rz r s := by
          unfold f_X3_readOperand
          simp (disch := omega) only [h6, u3, t40, ↓reduceIte, ↓p_ld, ↓p_st, ↓p_nm, ↓p_nS, ↓p_jn, ↓p_call, ↓p_callv, ↓p_dv, ↓p_rem, h_ldE, h_stE, h_nmE, h_nSE, h_callE, h_callvE, h_dvE, h_remE, if_true, if_false, z_upS, z_upO, z_upK, nI_add, z_mul, z_sub, z_div, Nat.add_zero, Nat.mul_zero, Nat.zero_add, Nat.sub_zero, Nat.zero_mul, z_ltT, z_ltF, z_leT, z_leF, z_eqT, z_eqF, z_inT, z_clT, not_true_eq_false, not_false_eq_true, eq_self, true_or, or_true, z_m_lt, z_m_le, z_lt_m, z_le_m, z_eq_m, z_m_eq, z_rz0, z_rz1, z_m_add, z_of, r_0_0, r_0_1, r_0_3, r_0_4, r_0_5, r_0_6, r_0_7, r_0_8, r_0_9, r_0_10, r_1_0, r_1_1, r_1_2, r_1_3, r_1_4, r_1_5, r_1_6, r_1_7, r_1_8, r_2_0, r_2_1, r_2_2, r_2_3, r_2_4, r_2_5, r_2_6, r_2_7, r_11_0, r_11_1, r_11_2, r_11_3, r_11_4, r_11_5, r_11_6, r_19_0, r_21_0, r_23_0, r_25_0, r_27_0, r_31_0, r_31_1, r_31_2, r_31_3, r_31_4, r_31_5, r_31_6, r_31_7, r_31_8, r_32_0, r_32_1, r_32_2, r_32_3, r_32_4, r_32_5, r_32_6, r_32_7, r_41_0, r_41_1, r_41_2, r_41_3, r_41_4, r_41_5, r_41_6, r_49_0, r_51_0, r_53_0, r_55_0, r_57_0, r_61_0, r_63_0, r_63_1, r_63_2, r_63_3, r_63_4, r_63_5, r_63_6, r_63_7, r_72_0, r_72_1, r_72_2, r_72_3, r_72_4, r_72_5, r_72_6, r_72_7, r_81_0, r_81_1, r_81_2, r_81_3, r_81_4, r_81_5, r_81_6, r_81_7, r_90_0, r_90_1, r_90_2, r_90_3, r_90_4, r_90_5, r_90_6, r_90_7, r_99_0, r_99_1, r_99_2, r_99_3, r_99_4, r_99_5, r_99_6, r_99_7, r_108_0, r_108_1, r_108_2, r_108_3, r_108_4, r_108_5, r_108_6, r_108_7, r_117_0, r_117_1, r_117_2, r_117_3, r_117_4, r_117_5, r_117_6, r_117_7, r_126_0, r_126_1, r_126_2, r_126_3, r_126_4, r_132_0, r_132_1, r_135_0, r_135_1, r_135_2, r_135_3, r_135_4, r_135_5, r_142_0, r_144_0, r_144_1, r_144_2, r_145_0, r_145_1, r_145_2, r_145_3, r_145_4, r_145_5, r_145_6, r_154_0, r_154_1, r_155_0, r_157_0, r_157_1, r_157_2, r_157_3, r_157_6, r_157_7, r_157_8, r_157_9, r_157_10, r_157_11, r_157_27, r_157_28, r_157_29, r_157_30, ↓z_m1, l_0, l_1, l_2, l_3, l_4, l_5, l_6, l_7, l_8, l_9, l_10, l_11, l_12, l_13, l_14, l_15, l_16, l_17, l_18, l_19, l_20, l_21, l_22, l_23, l_24, l_25, l_26, l_27, l_28, l_29, l_30, l_31, l_32, l_33, l_34, l_35, l_36, l_37, l_38, l_39, l_40, l_41, l_42, l_43, l_44, l_45, l_46, l_47, l_48, l_49, l_50, l_51, l_52, l_53, l_54, l_55, l_56, l_57, l_59, l_60, l_61, l_62, l_63, l_64, l_65, l_80, l_86, l_87, l_88, l_89, l_90, l_91, l_92, l_93, l_94, l_95, l_97, l_99, l_100, l_107, l_119, l_122, l_124, l_129, l_140, l_141, l_142, l_143, l_144, l_145, l_147, l_150, l_159, l_160, l_161, l_162, l_205, l_253, l_255, l_256, l_269, l_305, l_380, l_399, l_400, l_420, l_430, l_516, l_600, l_720, l_820, l_905, l_921, l_937, l_953, l_970, l_999, l_1000, l_1790, l_4096, l_9999, l_1000000]
        rw [key]
        exact ((c_opn (Or.inr rfl) hC1 (by omega) hl h1).rz).of hf
      · rw [if_neg q40]
        have u40 := c_sF (k := 0) (c := 40) hC1 (by omega) (by omega) q40
        have e := (c_opd hC1 hl h1).of hf
        rw [key]
        simp (disch := omega) only [h6, u3, u40, ↓reduceIte, ↓p_ld, ↓p_st, ↓p_nm, ↓p_nS, ↓p_jn, ↓p_call, ↓p_callv, ↓p_dv, ↓p_rem, h_ldE, h_stE, h_nmE, h_nSE, h_callE, h_callvE, h_dvE, h_remE, if_true, if_false, z_upS, z_upO, z_upK, nI_add, z_mul, z_sub, z_div, Nat.add_zero, Nat.mul_zero, Nat.zero_add, Nat.sub_zero, Nat.zero_mul, z_ltT, z_ltF, z_leT, z_leF, z_eqT, z_eqF, z_inT, z_clT, not_true_eq_false, not_false_eq_true, eq_self, true_or, or_true, z_m_lt, z_m_le, z_lt_m, z_le_m, z_eq_m, z_m_eq, z_rz0, z_rz1, z_m_add, z_of, r_0_0, r_0_1, r_0_3, r_0_4, r_0_5, r_0_6, r_0_7, r_0_8, r_0_9, r_0_10, r_1_0, r_1_1, r_1_2, r_1_3, r_1_4, r_1_5, r_1_6, r_1_7, r_1_8, r_2_0, r_2_1, r_2_2, r_2_3, r_2_4, r_2_5, r_2_6, r_2_7, r_11_0, r_11_1, r_11_2, r_11_3, r_11_4, r_11_5, r_11_6, r_19_0, r_21_0, r_23_0, r_25_0, r_27_0, r_31_0, r_31_1, r_31_2, r_31_3, r_31_4, r_31_5, r_31_6, r_31_7, r_31_8, r_32_0, r_32_1, r_32_2, r_32_3, r_32_4, r_32_5, r_32_6, r_32_7, r_41_0, r_41_1, r_41_2, r_41_3, r_41_4, r_41_5, r_41_6, r_49_0, r_51_0, r_53_0, r_55_0, r_57_0, r_61_0, r_63_0, r_63_1, r_63_2, r_63_3, r_63_4, r_63_5, r_63_6, r_63_7, r_72_0, r_72_1, r_72_2, r_72_3, r_72_4, r_72_5, r_72_6, r_72_7, r_81_0, r_81_1, r_81_2, r_81_3, r_81_4, r_81_5, r_81_6, r_81_7, r_90_0, r_90_1, r_90_2, r_90_3, r_90_4, r_90_5, r_90_6, r_90_7, r_99_0, r_99_1, r_99_2, r_99_3, r_99_4, r_99_5, r_99_6, r_99_7, r_108_0, r_108_1, r_108_2, r_108_3, r_108_4, r_108_5, r_108_6, r_108_7, r_117_0, r_117_1, r_117_2, r_117_3, r_117_4, r_117_5, r_117_6, r_117_7, r_126_0, r_126_1, r_126_2, r_126_3, r_126_4, r_132_0, r_132_1, r_135_0, r_135_1, r_135_2, r_135_3, r_135_4, r_135_5, r_142_0, r_144_0, r_144_1, r_144_2, r_145_0, r_145_1, r_145_2, r_145_3, r_145_4, r_145_5, r_145_6, r_154_0, r_154_1, r_155_0, r_157_0, r_157_1, r_157_2, r_157_3, r_157_6, r_157_7, r_157_8, r_157_9, r_157_10, r_157_11, r_157_27, r_157_28, r_157_29, r_157_30, ↓z_m1, l_0, l_1, l_2, l_3, l_4, l_5, l_6, l_7, l_8, l_9, l_10, l_11, l_12, l_13, l_14, l_15, l_16, l_17, l_18, l_19, l_20, l_21, l_22, l_23, l_24, l_25, l_26, l_27, l_28, l_29, l_30, l_31, l_32, l_33, l_34, l_35, l_36, l_37, l_38, l_39, l_40, l_41, l_42, l_43, l_44, l_45, l_46, l_47, l_48, l_49, l_50, l_51, l_52, l_53, l_54, l_55, l_56, l_57, l_59, l_60, l_61, l_62, l_63, l_64, l_65, l_80, l_86, l_87, l_88, l_89, l_90, l_91, l_92, l_93, l_94, l_95, l_97, l_99, l_100, l_107, l_119, l_122, l_124, l_129, l_140, l_141, l_142, l_143, l_144, l_145, l_147, l_150, l_159, l_160, l_161, l_162, l_205, l_253, l_255, l_256, l_269, l_305, l_380, l_399, l_400, l_420, l_430, l_516, l_600, l_720, l_820, l_905, l_921, l_937, l_953, l_970, l_999, l_1000, l_1790, l_4096, l_9999, l_1000000]
        exact e
  · exact c_sgn hN hC hl h
  · exact c_tail hN hC hl h (Or.inr rfl)
/-! it always goes on -/
def zl_gt (p : Nat) (R : zl_Rs) : Prop := ∀ s, R = Sum.inr (true, s) → p < s.1
theorem zl_gt.l {p f q : Nat} : zl_gt p (Sum.inl (f, q)) := fun s h => by cases h
theorem zl_gt.e {p : Nat} {s : zl_S} : zl_gt p (Sum.inr (false, s)) := fun s h => by cases h
theorem zl_gt.r {p : Nat} {s : zl_S} (h : p < s.1) : zl_gt p (Sum.inr (true, s)) := fun s h => by cases h; assumption
theorem zl_gt.i {p : Nat} {c : Prop} [Decidable c] {A B : zl_Rs} (h : c → zl_gt p A) (g : ¬ c → zl_gt p B) : zl_gt p (if c then A else B) := by
  by_cases q : c
  · rw [if_pos q]; exact h q
  · rw [if_neg q]; exact g q
theorem zl_stp_gt {T : zt_T} {p ex iw : Nat} {W : List Nat} {O : List (Nat × Nat)} {ic : Bool} (hp : p ≤ T.2) : zl_gt p (zl_stp T (p, W, O, ex, iw, ic)) := by
  have go : zt_cd 0 T p ≠ 0 → p < zt_nx T p := fun h => (zt_go (k := 0) (by omega) hp h).1
  have go2 : zt_cd 0 T p ≠ 0 → p < zt_nx T (zt_nx T p) := fun h => by
    have := zt_go (k := 0) (by omega) hp h
    have := zt_at_b this.2
    have := zt_nx_b (T := T) (p := zt_nx T p) (by omega)
    omega
  have hopd : ∀ iw ic, zl_gt p (zl_opd T p W O iw ic) := fun iw ic => zl_gt.i (fun h => zl_gt.r (go (by omega))) (fun _ => zl_gt.i (fun h => zl_gt.r (go (by omega))) (fun _ => zl_gt.l))
  have hopn : ∀ x, zt_cd 0 T p ≠ 0 → zl_gt p (zl_opn T x p W O iw) := fun x h => zl_gt.i (fun _ => zl_gt.r (go h)) (fun _ => zl_gt.l)
  have hj : ∀ x ex ic, zt_cd 0 T p ≠ 0 → zl_gt p (zl_join T x ex p W O iw ic) := fun x ex ic h => zl_gt.r (go h)
  have hen : ∀ ex, zl_gt p (zl_endl T p W O ex iw ic) := fun ex => zl_gt.i (fun _ => zl_gt.e) (fun _ => zl_gt.l)
  have hta : ∀ ex, zl_gt p (zl_tail T p W O ex iw ic) := fun ex => zl_gt.i (fun h => hj _ _ _ (by omega)) (fun _ => zl_gt.i (fun h => hj _ _ _ (by omega)) (fun _ => zl_gt.i (fun _ => hen ex) (fun _ => zl_gt.i (fun h => zl_gt.r (go (by omega))) (fun _ => zl_gt.l))))
  have hsg : zl_gt p (zl_sgn T p W O iw ic) := zl_gt.i (fun h => zl_gt.i (fun _ => zl_gt.i (fun _ => zl_gt.l) (fun _ => zl_gt.r (go2 (by omega)))) (fun _ => zl_gt.l)) (fun _ => zl_gt.i (fun h => hj _ _ _ (by omega)) (fun _ => zl_gt.i (fun h => hj _ _ _ (by omega)) (fun _ => zl_gt.i (fun h => hj _ _ _ (by omega)) (fun _ => zl_gt.i (fun _ => zl_gt.i (fun h => zl_gt.r (go (by omega))) (fun _ => hen 2)) (fun _ => zl_gt.i (fun _ => zl_gt.i (fun h => hj _ _ _ (by omega)) (fun _ => zl_gt.i (fun h => hj _ _ _ (by omega)) (fun _ => zl_gt.i (fun h => hj _ _ _ (by omega)) (fun _ => zl_gt.l)))) (fun _ => hta 2))))))
  exact zl_gt.i (fun _ => hopd _ _) (fun _ => zl_gt.i (fun _ => zl_gt.i (fun h => hopn _ (by omega)) (fun _ => zl_gt.i (fun h => hopn _ (by omega)) (fun _ => hopd _ _))) (fun _ => zl_gt.i (fun _ => hsg) (fun _ => hta ex)))
/-- the loop over a line's steps -/
def zl_at (σ : q_Sto) (T : zt_T) (N : Nat) : zl_S → Prop
  | (p, W, O, ex, iw, ic) => zt_C σ T p ∧ W.length + O.length ≤ p ∧ ex ≤ 3 ∧ zl_D σ N W O ex iw ic
theorem c_line1 {N i j ex iw p : Nat} {ic : Bool} {T : zt_T} {W : List Nat} {O : List (Nat × Nat)} {σ σ' : q_Sto} {r : Int32} {K : q_Sto → Option (Int32 × q_Sto)} (hi : i ≤ p) (hex : ex ≤ 3) (hC : zt_C σ T p) (h : zl_D σ N W O ex iw ic) (e : zl_fn σ ex = some (r, σ')) : f_X3_readLine_L127 q_F 144 K (j+1) (nI 1) (nI i) σ = f_X3_readLine_L127 q_F 144 K j r (nI (i+1)) σ' := by
  have hL := hC.1.1
  have hpL := hC.2.1
  have h6 := h.2.2.2.2.1
  have hc : ex = 0 ∨ ex = 1 ∨ ex = 2 ∨ ex = 3 := by omega
  rw [f_X3_readLine_L127]
  rcases hc with rfl | rfl | rfl | rfl
  · have e : f_X3_readOperand q_F 144 σ = some (r, σ') := e
    simp (disch := omega) only [h6, e, ↓reduceIte, ↓p_ld, ↓p_st, ↓p_nm, ↓p_nS, ↓p_jn, ↓p_call, ↓p_callv, ↓p_dv, ↓p_rem, h_ldE, h_stE, h_nmE, h_nSE, h_callE, h_callvE, h_dvE, h_remE, if_true, if_false, z_upS, z_upO, z_upK, nI_add, z_mul, z_sub, z_div, Nat.add_zero, Nat.mul_zero, Nat.zero_add, Nat.sub_zero, Nat.zero_mul, z_ltT, z_ltF, z_leT, z_leF, z_eqT, z_eqF, z_inT, z_clT, not_true_eq_false, not_false_eq_true, eq_self, true_or, or_true, z_m_lt, z_m_le, z_lt_m, z_le_m, z_eq_m, z_m_eq, z_rz0, z_rz1, z_m_add, z_of, r_0_0, r_0_1, r_0_3, r_0_4, r_0_5, r_0_6, r_0_7, r_0_8, r_0_9, r_0_10, r_1_0, r_1_1, r_1_2, r_1_3, r_1_4, r_1_5, r_1_6, r_1_7, r_1_8, r_2_0, r_2_1, r_2_2, r_2_3, r_2_4, r_2_5, r_2_6, r_2_7, r_11_0, r_11_1, r_11_2, r_11_3, r_11_4, r_11_5, r_11_6, r_19_0, r_21_0, r_23_0, r_25_0, r_27_0, r_31_0, r_31_1, r_31_2, r_31_3, r_31_4, r_31_5, r_31_6, r_31_7, r_31_8, r_32_0, r_32_1, r_32_2, r_32_3, r_32_4, r_32_5, r_32_6, r_32_7, r_41_0, r_41_1, r_41_2, r_41_3, r_41_4, r_41_5, r_41_6, r_49_0, r_51_0, r_53_0, r_55_0, r_57_0, r_61_0, r_63_0, r_63_1, r_63_2, r_63_3, r_63_4, r_63_5, r_63_6, r_63_7, r_72_0, r_72_1, r_72_2, r_72_3, r_72_4, r_72_5, r_72_6, r_72_7, r_81_0, r_81_1, r_81_2, r_81_3, r_81_4, r_81_5, r_81_6, r_81_7, r_90_0, r_90_1, r_90_2, r_90_3, r_90_4, r_90_5, r_90_6, r_90_7, r_99_0, r_99_1, r_99_2, r_99_3, r_99_4, r_99_5, r_99_6, r_99_7, r_108_0, r_108_1, r_108_2, r_108_3, r_108_4, r_108_5, r_108_6, r_108_7, r_117_0, r_117_1, r_117_2, r_117_3, r_117_4, r_117_5, r_117_6, r_117_7, r_126_0, r_126_1, r_126_2, r_126_3, r_126_4, r_132_0, r_132_1, r_135_0, r_135_1, r_135_2, r_135_3, r_135_4, r_135_5, r_142_0, r_144_0, r_144_1, r_144_2, r_145_0, r_145_1, r_145_2, r_145_3, r_145_4, r_145_5, r_145_6, r_154_0, r_154_1, r_155_0, r_157_0, r_157_1, r_157_2, r_157_3, r_157_6, r_157_7, r_157_8, r_157_9, r_157_10, r_157_11, r_157_27, r_157_28, r_157_29, r_157_30, ↓z_m1, l_0, l_1, l_2, l_3, l_4, l_5, l_6, l_7, l_8, l_9, l_10, l_11, l_12, l_13, l_14, l_15, l_16, l_17, l_18, l_19, l_20, l_21, l_22, l_23, l_24, l_25, l_26, l_27, l_28, l_29, l_30, l_31, l_32, l_33, l_34, l_35, l_36, l_37, l_38, l_39, l_40, l_41, l_42, l_43, l_44, l_45, l_46, l_47, l_48, l_49, l_50, l_51, l_52, l_53, l_54, l_55, l_56, l_57, l_59, l_60, l_61, l_62, l_63, l_64, l_65, l_80, l_86, l_87, l_88, l_89, l_90, l_91, l_92, l_93, l_94, l_95, l_97, l_99, l_100, l_107, l_119, l_122, l_124, l_129, l_140, l_141, l_142, l_143, l_144, l_145, l_147, l_150, l_159, l_160, l_161, l_162, l_205, l_253, l_255, l_256, l_269, l_305, l_380, l_399, l_400, l_420, l_430, l_516, l_600, l_720, l_820, l_905, l_921, l_937, l_953, l_970, l_999, l_1000, l_1790, l_4096, l_9999, l_1000000]
  · have e : f_X3_readOperand q_F 144 σ = some (r, σ') := e
    simp (disch := omega) only [h6, e, ↓reduceIte, ↓p_ld, ↓p_st, ↓p_nm, ↓p_nS, ↓p_jn, ↓p_call, ↓p_callv, ↓p_dv, ↓p_rem, h_ldE, h_stE, h_nmE, h_nSE, h_callE, h_callvE, h_dvE, h_remE, if_true, if_false, z_upS, z_upO, z_upK, nI_add, z_mul, z_sub, z_div, Nat.add_zero, Nat.mul_zero, Nat.zero_add, Nat.sub_zero, Nat.zero_mul, z_ltT, z_ltF, z_leT, z_leF, z_eqT, z_eqF, z_inT, z_clT, not_true_eq_false, not_false_eq_true, eq_self, true_or, or_true, z_m_lt, z_m_le, z_lt_m, z_le_m, z_eq_m, z_m_eq, z_rz0, z_rz1, z_m_add, z_of, r_0_0, r_0_1, r_0_3, r_0_4, r_0_5, r_0_6, r_0_7, r_0_8, r_0_9, r_0_10, r_1_0, r_1_1, r_1_2, r_1_3, r_1_4, r_1_5, r_1_6, r_1_7, r_1_8, r_2_0, r_2_1, r_2_2, r_2_3, r_2_4, r_2_5, r_2_6, r_2_7, r_11_0, r_11_1, r_11_2, r_11_3, r_11_4, r_11_5, r_11_6, r_19_0, r_21_0, r_23_0, r_25_0, r_27_0, r_31_0, r_31_1, r_31_2, r_31_3, r_31_4, r_31_5, r_31_6, r_31_7, r_31_8, r_32_0, r_32_1, r_32_2, r_32_3, r_32_4, r_32_5, r_32_6, r_32_7, r_41_0, r_41_1, r_41_2, r_41_3, r_41_4, r_41_5, r_41_6, r_49_0, r_51_0, r_53_0, r_55_0, r_57_0, r_61_0, r_63_0, r_63_1, r_63_2, r_63_3, r_63_4, r_63_5, r_63_6, r_63_7, r_72_0, r_72_1, r_72_2, r_72_3, r_72_4, r_72_5, r_72_6, r_72_7, r_81_0, r_81_1, r_81_2, r_81_3, r_81_4, r_81_5, r_81_6, r_81_7, r_90_0, r_90_1, r_90_2, r_90_3, r_90_4, r_90_5, r_90_6, r_90_7, r_99_0, r_99_1, r_99_2, r_99_3, r_99_4, r_99_5, r_99_6, r_99_7, r_108_0, r_108_1, r_108_2, r_108_3, r_108_4, r_108_5, r_108_6, r_108_7, r_117_0, r_117_1, r_117_2, r_117_3, r_117_4, r_117_5, r_117_6, r_117_7, r_126_0, r_126_1, r_126_2, r_126_3, r_126_4, r_132_0, r_132_1, r_135_0, r_135_1, r_135_2, r_135_3, r_135_4, r_135_5, r_142_0, r_144_0, r_144_1, r_144_2, r_145_0, r_145_1, r_145_2, r_145_3, r_145_4, r_145_5, r_145_6, r_154_0, r_154_1, r_155_0, r_157_0, r_157_1, r_157_2, r_157_3, r_157_6, r_157_7, r_157_8, r_157_9, r_157_10, r_157_11, r_157_27, r_157_28, r_157_29, r_157_30, ↓z_m1, l_0, l_1, l_2, l_3, l_4, l_5, l_6, l_7, l_8, l_9, l_10, l_11, l_12, l_13, l_14, l_15, l_16, l_17, l_18, l_19, l_20, l_21, l_22, l_23, l_24, l_25, l_26, l_27, l_28, l_29, l_30, l_31, l_32, l_33, l_34, l_35, l_36, l_37, l_38, l_39, l_40, l_41, l_42, l_43, l_44, l_45, l_46, l_47, l_48, l_49, l_50, l_51, l_52, l_53, l_54, l_55, l_56, l_57, l_59, l_60, l_61, l_62, l_63, l_64, l_65, l_80, l_86, l_87, l_88, l_89, l_90, l_91, l_92, l_93, l_94, l_95, l_97, l_99, l_100, l_107, l_119, l_122, l_124, l_129, l_140, l_141, l_142, l_143, l_144, l_145, l_147, l_150, l_159, l_160, l_161, l_162, l_205, l_253, l_255, l_256, l_269, l_305, l_380, l_399, l_400, l_420, l_430, l_516, l_600, l_720, l_820, l_905, l_921, l_937, l_953, l_970, l_999, l_1000, l_1790, l_4096, l_9999, l_1000000]
  · have e : f_X3_readSign q_F 144 σ = some (r, σ') := e
    simp (disch := omega) only [h6, e, ↓reduceIte, ↓p_ld, ↓p_st, ↓p_nm, ↓p_nS, ↓p_jn, ↓p_call, ↓p_callv, ↓p_dv, ↓p_rem, h_ldE, h_stE, h_nmE, h_nSE, h_callE, h_callvE, h_dvE, h_remE, if_true, if_false, z_upS, z_upO, z_upK, nI_add, z_mul, z_sub, z_div, Nat.add_zero, Nat.mul_zero, Nat.zero_add, Nat.sub_zero, Nat.zero_mul, z_ltT, z_ltF, z_leT, z_leF, z_eqT, z_eqF, z_inT, z_clT, not_true_eq_false, not_false_eq_true, eq_self, true_or, or_true, z_m_lt, z_m_le, z_lt_m, z_le_m, z_eq_m, z_m_eq, z_rz0, z_rz1, z_m_add, z_of, r_0_0, r_0_1, r_0_3, r_0_4, r_0_5, r_0_6, r_0_7, r_0_8, r_0_9, r_0_10, r_1_0, r_1_1, r_1_2, r_1_3, r_1_4, r_1_5, r_1_6, r_1_7, r_1_8, r_2_0, r_2_1, r_2_2, r_2_3, r_2_4, r_2_5, r_2_6, r_2_7, r_11_0, r_11_1, r_11_2, r_11_3, r_11_4, r_11_5, r_11_6, r_19_0, r_21_0, r_23_0, r_25_0, r_27_0, r_31_0, r_31_1, r_31_2, r_31_3, r_31_4, r_31_5, r_31_6, r_31_7, r_31_8, r_32_0, r_32_1, r_32_2, r_32_3, r_32_4, r_32_5, r_32_6, r_32_7, r_41_0, r_41_1, r_41_2, r_41_3, r_41_4, r_41_5, r_41_6, r_49_0, r_51_0, r_53_0, r_55_0, r_57_0, r_61_0, r_63_0, r_63_1, r_63_2, r_63_3, r_63_4, r_63_5, r_63_6, r_63_7, r_72_0, r_72_1, r_72_2, r_72_3, r_72_4, r_72_5, r_72_6, r_72_7, r_81_0, r_81_1, r_81_2, r_81_3, r_81_4, r_81_5, r_81_6, r_81_7, r_90_0, r_90_1, r_90_2, r_90_3, r_90_4, r_90_5, r_90_6, r_90_7, r_99_0, r_99_1, r_99_2, r_99_3, r_99_4, r_99_5, r_99_6, r_99_7, r_108_0, r_108_1, r_108_2, r_108_3, r_108_4, r_108_5, r_108_6, r_108_7, r_117_0, r_117_1, r_117_2, r_117_3, r_117_4, r_117_5, r_117_6, r_117_7, r_126_0, r_126_1, r_126_2, r_126_3, r_126_4, r_132_0, r_132_1, r_135_0, r_135_1, r_135_2, r_135_3, r_135_4, r_135_5, r_142_0, r_144_0, r_144_1, r_144_2, r_145_0, r_145_1, r_145_2, r_145_3, r_145_4, r_145_5, r_145_6, r_154_0, r_154_1, r_155_0, r_157_0, r_157_1, r_157_2, r_157_3, r_157_6, r_157_7, r_157_8, r_157_9, r_157_10, r_157_11, r_157_27, r_157_28, r_157_29, r_157_30, ↓z_m1, l_0, l_1, l_2, l_3, l_4, l_5, l_6, l_7, l_8, l_9, l_10, l_11, l_12, l_13, l_14, l_15, l_16, l_17, l_18, l_19, l_20, l_21, l_22, l_23, l_24, l_25, l_26, l_27, l_28, l_29, l_30, l_31, l_32, l_33, l_34, l_35, l_36, l_37, l_38, l_39, l_40, l_41, l_42, l_43, l_44, l_45, l_46, l_47, l_48, l_49, l_50, l_51, l_52, l_53, l_54, l_55, l_56, l_57, l_59, l_60, l_61, l_62, l_63, l_64, l_65, l_80, l_86, l_87, l_88, l_89, l_90, l_91, l_92, l_93, l_94, l_95, l_97, l_99, l_100, l_107, l_119, l_122, l_124, l_129, l_140, l_141, l_142, l_143, l_144, l_145, l_147, l_150, l_159, l_160, l_161, l_162, l_205, l_253, l_255, l_256, l_269, l_305, l_380, l_399, l_400, l_420, l_430, l_516, l_600, l_720, l_820, l_905, l_921, l_937, l_953, l_970, l_999, l_1000, l_1790, l_4096, l_9999, l_1000000]
  · have e : f_X3_readSign q_F 144 σ = some (r, σ') := e
    simp (disch := omega) only [h6, e, ↓reduceIte, ↓p_ld, ↓p_st, ↓p_nm, ↓p_nS, ↓p_jn, ↓p_call, ↓p_callv, ↓p_dv, ↓p_rem, h_ldE, h_stE, h_nmE, h_nSE, h_callE, h_callvE, h_dvE, h_remE, if_true, if_false, z_upS, z_upO, z_upK, nI_add, z_mul, z_sub, z_div, Nat.add_zero, Nat.mul_zero, Nat.zero_add, Nat.sub_zero, Nat.zero_mul, z_ltT, z_ltF, z_leT, z_leF, z_eqT, z_eqF, z_inT, z_clT, not_true_eq_false, not_false_eq_true, eq_self, true_or, or_true, z_m_lt, z_m_le, z_lt_m, z_le_m, z_eq_m, z_m_eq, z_rz0, z_rz1, z_m_add, z_of, r_0_0, r_0_1, r_0_3, r_0_4, r_0_5, r_0_6, r_0_7, r_0_8, r_0_9, r_0_10, r_1_0, r_1_1, r_1_2, r_1_3, r_1_4, r_1_5, r_1_6, r_1_7, r_1_8, r_2_0, r_2_1, r_2_2, r_2_3, r_2_4, r_2_5, r_2_6, r_2_7, r_11_0, r_11_1, r_11_2, r_11_3, r_11_4, r_11_5, r_11_6, r_19_0, r_21_0, r_23_0, r_25_0, r_27_0, r_31_0, r_31_1, r_31_2, r_31_3, r_31_4, r_31_5, r_31_6, r_31_7, r_31_8, r_32_0, r_32_1, r_32_2, r_32_3, r_32_4, r_32_5, r_32_6, r_32_7, r_41_0, r_41_1, r_41_2, r_41_3, r_41_4, r_41_5, r_41_6, r_49_0, r_51_0, r_53_0, r_55_0, r_57_0, r_61_0, r_63_0, r_63_1, r_63_2, r_63_3, r_63_4, r_63_5, r_63_6, r_63_7, r_72_0, r_72_1, r_72_2, r_72_3, r_72_4, r_72_5, r_72_6, r_72_7, r_81_0, r_81_1, r_81_2, r_81_3, r_81_4, r_81_5, r_81_6, r_81_7, r_90_0, r_90_1, r_90_2, r_90_3, r_90_4, r_90_5, r_90_6, r_90_7, r_99_0, r_99_1, r_99_2, r_99_3, r_99_4, r_99_5, r_99_6, r_99_7, r_108_0, r_108_1, r_108_2, r_108_3, r_108_4, r_108_5, r_108_6, r_108_7, r_117_0, r_117_1, r_117_2, r_117_3, r_117_4, r_117_5, r_117_6, r_117_7, r_126_0, r_126_1, r_126_2, r_126_3, r_126_4, r_132_0, r_132_1, r_135_0, r_135_1, r_135_2, r_135_3, r_135_4, r_135_5, r_142_0, r_144_0, r_144_1, r_144_2, r_145_0, r_145_1, r_145_2, r_145_3, r_145_4, r_145_5, r_145_6, r_154_0, r_154_1, r_155_0, r_157_0, r_157_1, r_157_2, r_157_3, r_157_6, r_157_7, r_157_8, r_157_9, r_157_10, r_157_11, r_157_27, r_157_28, r_157_29, r_157_30, ↓z_m1, l_0, l_1, l_2, l_3, l_4, l_5, l_6, l_7, l_8, l_9, l_10, l_11, l_12, l_13, l_14, l_15, l_16, l_17, l_18, l_19, l_20, l_21, l_22, l_23, l_24, l_25, l_26, l_27, l_28, l_29, l_30, l_31, l_32, l_33, l_34, l_35, l_36, l_37, l_38, l_39, l_40, l_41, l_42, l_43, l_44, l_45, l_46, l_47, l_48, l_49, l_50, l_51, l_52, l_53, l_54, l_55, l_56, l_57, l_59, l_60, l_61, l_62, l_63, l_64, l_65, l_80, l_86, l_87, l_88, l_89, l_90, l_91, l_92, l_93, l_94, l_95, l_97, l_99, l_100, l_107, l_119, l_122, l_124, l_129, l_140, l_141, l_142, l_143, l_144, l_145, l_147, l_150, l_159, l_160, l_161, l_162, l_205, l_253, l_255, l_256, l_269, l_305, l_380, l_399, l_400, l_420, l_430, l_516, l_600, l_720, l_820, l_905, l_921, l_937, l_953, l_970, l_999, l_1000, l_1790, l_4096, l_9999, l_1000000]
theorem c_lineK {N : Nat} {T : zt_T} {K : q_Sto → Option (Int32 × q_Sto)} (hN : N < 16) : ∀ k (s b : zl_S) i j (σ : q_Sto), zl_it T k s = some b → zl_at σ T N s → i ≤ s.1 → ∃ σ', zl_fT N σ σ' ∧ zl_at σ' T N b ∧ i + k ≤ b.1 ∧ f_X3_readLine_L127 q_F 144 K (k + j) (nI 1) (nI i) σ = f_X3_readLine_L127 q_F 144 K j (nI 1) (nI (i+k)) σ'
  | 0, s, b, i, j, σ, h, hs, hi => by
    have h : some s = some b := h
    cases h
    refine ⟨σ, zl_fT.refl N σ, hs, hi, ?_⟩
    rw [Nat.zero_add, Nat.add_zero]
  | k + 1, (p, W, O, ex, iw, ic), b, i, j, σ, h, ⟨hC, hl, hex, hD⟩, hi => by
    have hi : i ≤ p := hi
    have ho := c_stp hN hex hC hl hD
    have hg := zl_stp_gt (T := T) (p := p) (ex := ex) (iw := iw) (W := W) (O := O) (ic := ic) hC.2.1
    cases hs : zl_stp T (p, W, O, ex, iw, ic) with
    | inl x =>
      have h : (match zl_stp T (p, W, O, ex, iw, ic) with | Sum.inr (true, b) => zl_it T k b | _ => none) = some b := h
      rw [hs] at h; cases h
    | inr x =>
      obtain ⟨u, p', W', O', ex', iw', ic'⟩ := x
      cases u with
      | false =>
        have h : (match zl_stp T (p, W, O, ex, iw, ic) with | Sum.inr (true, b) => zl_it T k b | _ => none) = some b := h
        rw [hs] at h; cases h
      | true =>
        rw [zl_it_s hs] at h
        rw [hs] at ho
        obtain ⟨σ1, e, a1, a2, a3, a4, a5⟩ := ho
        have hpp : p < p' := hg _ hs
        obtain ⟨σ', k1, k2, k3, k4⟩ := c_lineK hN k (p', W', O', ex', iw', ic') b (i+1) j σ1 h ⟨a2, a3, a4, a5⟩ (by show i + 1 ≤ p'; omega)
        refine ⟨σ', a1.trans k1, k2, by omega, ?_⟩
        rw [show k + 1 + j = (k + j) + 1 by omega, c_line1 hi hex hC hD e, k4, show i + 1 + k = i + (k + 1) by omega]
theorem c_line0 {i j : Nat} {σ : q_Sto} {K : q_Sto → Option (Int32 × q_Sto)} (hi : i ≤ 401) : f_X3_readLine_L127 q_F 144 K (j+1) (nI 0) (nI i) σ = K σ := by
  rw [f_X3_readLine_L127]
  by_cases q : i ≤ 400
  · simp (disch := omega) only [↓reduceIte, ↓p_ld, ↓p_st, ↓p_nm, ↓p_nS, ↓p_jn, ↓p_call, ↓p_callv, ↓p_dv, ↓p_rem, h_ldE, h_stE, h_nmE, h_nSE, h_callE, h_callvE, h_dvE, h_remE, if_true, if_false, z_upS, z_upO, z_upK, nI_add, z_mul, z_sub, z_div, Nat.add_zero, Nat.mul_zero, Nat.zero_add, Nat.sub_zero, Nat.zero_mul, z_ltT, z_ltF, z_leT, z_leF, z_eqT, z_eqF, z_inT, z_clT, not_true_eq_false, not_false_eq_true, eq_self, true_or, or_true, z_m_lt, z_m_le, z_lt_m, z_le_m, z_eq_m, z_m_eq, z_rz0, z_rz1, z_m_add, z_of, r_0_0, r_0_1, r_0_3, r_0_4, r_0_5, r_0_6, r_0_7, r_0_8, r_0_9, r_0_10, r_1_0, r_1_1, r_1_2, r_1_3, r_1_4, r_1_5, r_1_6, r_1_7, r_1_8, r_2_0, r_2_1, r_2_2, r_2_3, r_2_4, r_2_5, r_2_6, r_2_7, r_11_0, r_11_1, r_11_2, r_11_3, r_11_4, r_11_5, r_11_6, r_19_0, r_21_0, r_23_0, r_25_0, r_27_0, r_31_0, r_31_1, r_31_2, r_31_3, r_31_4, r_31_5, r_31_6, r_31_7, r_31_8, r_32_0, r_32_1, r_32_2, r_32_3, r_32_4, r_32_5, r_32_6, r_32_7, r_41_0, r_41_1, r_41_2, r_41_3, r_41_4, r_41_5, r_41_6, r_49_0, r_51_0, r_53_0, r_55_0, r_57_0, r_61_0, r_63_0, r_63_1, r_63_2, r_63_3, r_63_4, r_63_5, r_63_6, r_63_7, r_72_0, r_72_1, r_72_2, r_72_3, r_72_4, r_72_5, r_72_6, r_72_7, r_81_0, r_81_1, r_81_2, r_81_3, r_81_4, r_81_5, r_81_6, r_81_7, r_90_0, r_90_1, r_90_2, r_90_3, r_90_4, r_90_5, r_90_6, r_90_7, r_99_0, r_99_1, r_99_2, r_99_3, r_99_4, r_99_5, r_99_6, r_99_7, r_108_0, r_108_1, r_108_2, r_108_3, r_108_4, r_108_5, r_108_6, r_108_7, r_117_0, r_117_1, r_117_2, r_117_3, r_117_4, r_117_5, r_117_6, r_117_7, r_126_0, r_126_1, r_126_2, r_126_3, r_126_4, r_132_0, r_132_1, r_135_0, r_135_1, r_135_2, r_135_3, r_135_4, r_135_5, r_142_0, r_144_0, r_144_1, r_144_2, r_145_0, r_145_1, r_145_2, r_145_3, r_145_4, r_145_5, r_145_6, r_154_0, r_154_1, r_155_0, r_157_0, r_157_1, r_157_2, r_157_3, r_157_6, r_157_7, r_157_8, r_157_9, r_157_10, r_157_11, r_157_27, r_157_28, r_157_29, r_157_30, ↓z_m1, l_0, l_1, l_2, l_3, l_4, l_5, l_6, l_7, l_8, l_9, l_10, l_11, l_12, l_13, l_14, l_15, l_16, l_17, l_18, l_19, l_20, l_21, l_22, l_23, l_24, l_25, l_26, l_27, l_28, l_29, l_30, l_31, l_32, l_33, l_34, l_35, l_36, l_37, l_38, l_39, l_40, l_41, l_42, l_43, l_44, l_45, l_46, l_47, l_48, l_49, l_50, l_51, l_52, l_53, l_54, l_55, l_56, l_57, l_59, l_60, l_61, l_62, l_63, l_64, l_65, l_80, l_86, l_87, l_88, l_89, l_90, l_91, l_92, l_93, l_94, l_95, l_97, l_99, l_100, l_107, l_119, l_122, l_124, l_129, l_140, l_141, l_142, l_143, l_144, l_145, l_147, l_150, l_159, l_160, l_161, l_162, l_205, l_253, l_255, l_256, l_269, l_305, l_380, l_399, l_400, l_420, l_430, l_516, l_600, l_720, l_820, l_905, l_921, l_937, l_953, l_970, l_999, l_1000, l_1790, l_4096, l_9999, l_1000000]
  · simp (disch := omega) only [↓reduceIte, ↓p_ld, ↓p_st, ↓p_nm, ↓p_nS, ↓p_jn, ↓p_call, ↓p_callv, ↓p_dv, ↓p_rem, h_ldE, h_stE, h_nmE, h_nSE, h_callE, h_callvE, h_dvE, h_remE, if_true, if_false, z_upS, z_upO, z_upK, nI_add, z_mul, z_sub, z_div, Nat.add_zero, Nat.mul_zero, Nat.zero_add, Nat.sub_zero, Nat.zero_mul, z_ltT, z_ltF, z_leT, z_leF, z_eqT, z_eqF, z_inT, z_clT, not_true_eq_false, not_false_eq_true, eq_self, true_or, or_true, z_m_lt, z_m_le, z_lt_m, z_le_m, z_eq_m, z_m_eq, z_rz0, z_rz1, z_m_add, z_of, r_0_0, r_0_1, r_0_3, r_0_4, r_0_5, r_0_6, r_0_7, r_0_8, r_0_9, r_0_10, r_1_0, r_1_1, r_1_2, r_1_3, r_1_4, r_1_5, r_1_6, r_1_7, r_1_8, r_2_0, r_2_1, r_2_2, r_2_3, r_2_4, r_2_5, r_2_6, r_2_7, r_11_0, r_11_1, r_11_2, r_11_3, r_11_4, r_11_5, r_11_6, r_19_0, r_21_0, r_23_0, r_25_0, r_27_0, r_31_0, r_31_1, r_31_2, r_31_3, r_31_4, r_31_5, r_31_6, r_31_7, r_31_8, r_32_0, r_32_1, r_32_2, r_32_3, r_32_4, r_32_5, r_32_6, r_32_7, r_41_0, r_41_1, r_41_2, r_41_3, r_41_4, r_41_5, r_41_6, r_49_0, r_51_0, r_53_0, r_55_0, r_57_0, r_61_0, r_63_0, r_63_1, r_63_2, r_63_3, r_63_4, r_63_5, r_63_6, r_63_7, r_72_0, r_72_1, r_72_2, r_72_3, r_72_4, r_72_5, r_72_6, r_72_7, r_81_0, r_81_1, r_81_2, r_81_3, r_81_4, r_81_5, r_81_6, r_81_7, r_90_0, r_90_1, r_90_2, r_90_3, r_90_4, r_90_5, r_90_6, r_90_7, r_99_0, r_99_1, r_99_2, r_99_3, r_99_4, r_99_5, r_99_6, r_99_7, r_108_0, r_108_1, r_108_2, r_108_3, r_108_4, r_108_5, r_108_6, r_108_7, r_117_0, r_117_1, r_117_2, r_117_3, r_117_4, r_117_5, r_117_6, r_117_7, r_126_0, r_126_1, r_126_2, r_126_3, r_126_4, r_132_0, r_132_1, r_135_0, r_135_1, r_135_2, r_135_3, r_135_4, r_135_5, r_142_0, r_144_0, r_144_1, r_144_2, r_145_0, r_145_1, r_145_2, r_145_3, r_145_4, r_145_5, r_145_6, r_154_0, r_154_1, r_155_0, r_157_0, r_157_1, r_157_2, r_157_3, r_157_6, r_157_7, r_157_8, r_157_9, r_157_10, r_157_11, r_157_27, r_157_28, r_157_29, r_157_30, ↓z_m1, l_0, l_1, l_2, l_3, l_4, l_5, l_6, l_7, l_8, l_9, l_10, l_11, l_12, l_13, l_14, l_15, l_16, l_17, l_18, l_19, l_20, l_21, l_22, l_23, l_24, l_25, l_26, l_27, l_28, l_29, l_30, l_31, l_32, l_33, l_34, l_35, l_36, l_37, l_38, l_39, l_40, l_41, l_42, l_43, l_44, l_45, l_46, l_47, l_48, l_49, l_50, l_51, l_52, l_53, l_54, l_55, l_56, l_57, l_59, l_60, l_61, l_62, l_63, l_64, l_65, l_80, l_86, l_87, l_88, l_89, l_90, l_91, l_92, l_93, l_94, l_95, l_97, l_99, l_100, l_107, l_119, l_122, l_124, l_129, l_140, l_141, l_142, l_143, l_144, l_145, l_147, l_150, l_159, l_160, l_161, l_162, l_205, l_253, l_255, l_256, l_269, l_305, l_380, l_399, l_400, l_420, l_430, l_516, l_600, l_720, l_820, l_905, l_921, l_937, l_953, l_970, l_999, l_1000, l_1790, l_4096, l_9999, l_1000000]
/-- a line that has a FAULT -/
theorem c_lineF {N f q : Nat} {T : zt_T} {s : zl_S} {σ : q_Sto} {K : q_Sto → Option (Int32 × q_Sto)} (hN : N < 16) (hs : zl_at σ T N s) (h : zl_flt T s f q) : ∃ σ', zl_fF N σ σ' ∧ σ' 142 6 = nI f ∧ σ' 142 7 = nI q ∧ f_X3_readLine_L127 q_F 144 K q_F (nI 1) (nI 0) σ = K σ' := by
  obtain ⟨b, ⟨k, hk⟩, hb⟩ := h
  obtain ⟨σ1, a1, a2, a3, a4⟩ := c_lineK (K := K) hN k s b 0 (q_F - k) σ hk hs (Nat.zero_le _)
  obtain ⟨p, W, O, ex, iw, ic⟩ := b
  obtain ⟨hC, hl, hex, hD⟩ := a2
  have a3 : 0 + k ≤ p := a3
  have hL := hC.1.1
  have hpL := hC.2.1
  have ho := c_stp hN hex hC hl hD
  rw [hb] at ho
  obtain ⟨σ', e, ⟨g1, g2, g3⟩, g4, g5⟩ := ho
  refine ⟨σ', ⟨fun o o0 o1 o2 o3 o4 o5 o6 => (g1 o o0 o1 o2 o3 o4 o5 o6).trans (a1.1 o o0 o1 o2 o3 o4 o5 o6), fun i hi => (g2 i hi).trans (a1.2.1 i hi), g3.trans (a1.2.2 1 (by omega) (by omega) (by omega) (by omega))⟩, g4, g5, ?_⟩
  have hq : q_F = 20000 := rfl
  rw [show k + (q_F - k) = q_F by omega] at a4
  obtain ⟨m, hm⟩ : ∃ m, q_F - k = m + 1 + 1 := ⟨q_F - k - 2, by omega⟩
  rw [a4, hm, c_line1 (by omega) hex hC hD e, c_line0 (by omega)]
/-- a line that ends -/
theorem c_lineE {N : Nat} {T : zt_T} {s b e : zl_S} {σ : q_Sto} {K : q_Sto → Option (Int32 × q_Sto)} (hN : N < 16) (hs : zl_at σ T N s) (h : zl_rch T s b) (hb : zl_stp T b = Sum.inr (false, e)) : ∃ σ', zl_oE (some (nI 0, σ')) σ T N e.1 e.2.1 e.2.2.1 e.2.2.2.2.1 ∧ f_X3_readLine_L127 q_F 144 K q_F (nI 1) (nI 0) σ = K σ' := by
  obtain ⟨k, hk⟩ := h
  obtain ⟨σ1, a1, a2, a3, a4⟩ := c_lineK (K := K) hN k s b 0 (q_F - k) σ hk hs (Nat.zero_le _)
  obtain ⟨p, W, O, ex, iw, ic⟩ := b
  obtain ⟨hC, hl, hex, hD⟩ := a2
  have a3 : 0 + k ≤ p := a3
  have hL := hC.1.1
  have hpL := hC.2.1
  have ho := c_stp hN hex hC hl hD
  rw [hb] at ho
  obtain ⟨p', W', O', ex', iw', ic'⟩ := e
  have ho := zl_out.of a1 ho
  obtain ⟨σ', e, g⟩ := ho
  refine ⟨σ', ⟨σ', rfl, g⟩, ?_⟩
  have hq : q_F = 20000 := rfl
  rw [show k + (q_F - k) = q_F by omega] at a4
  obtain ⟨m, hm⟩ : ∃ m, q_F - k = m + 1 + 1 := ⟨q_F - k - 2, by omega⟩
  rw [a4, hm, c_line1 (by omega) hex hC hD e, c_line0 (by omega)]
