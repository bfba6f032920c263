/-! the longest row -/
def z_ex (q : Nat → Bool) : Nat → Bool
  | 0 => false
  | k + 1 => z_ex q k || q k
def z_E (H : Nat → Nat) (mu : Nat) : Nat → Nat → Nat
  | 0, _ => 0
  | n + 1, s => z_set (fun m => s.testBit m && (decide (s &&& (2 ^ m ^^^ 4095) = 0) || z_ex (fun k => (z_E H mu n (s &&& (2 ^ m ^^^ 4095))).testBit k && (H k).testBit m) mu)) mu
theorem z_E_succ {H : Nat → Nat} {mu n s : Nat} : z_E H mu (n+1) s = z_set (fun m => s.testBit m && (decide (s &&& (2 ^ m ^^^ 4095) = 0) || z_ex (fun k => (z_E H mu n (s &&& (2 ^ m ^^^ 4095))).testBit k && (H k).testBit m) mu)) mu := rfl
theorem z_dl {y m : Nat} (hm : m < 12) (i : Nat) (hy : y < 4096) : (y &&& (2 ^ m ^^^ 4095)).testBit i = (y.testBit i && decide (i ≠ m)) := by
  rw [show 4095 = 2 ^ 12 - 1 by omega, Nat.testBit_and, Nat.testBit_xor, Nat.testBit_two_pow, Nat.testBit_two_pow_sub_one]
  by_cases q : i < 12
  · by_cases q2 : i = m
    · subst q2; simp [q]
    · have : ¬ m = i := fun h => q2 h.symm
      simp [q, q2, this]
  · have : y.testBit i = false := z_tb_lt (N := 12) hy (by omega)
    simp [this]
theorem z_dl_lt {y m : Nat} (hm : m < 12) (hy : y < 4096) (h : y.testBit m = true) : y &&& (2 ^ m ^^^ 4095) < y := by
  have h1 : y &&& (2 ^ m ^^^ 4095) ≤ y := Nat.and_le_left
  have h2 : y &&& (2 ^ m ^^^ 4095) ≠ y := fun e => by
    have := z_dl hm m hy
    rw [e, h] at this
    simp at this
  omega
theorem z_E_irr {H : Nat → Nat} {mu : Nat} (hmu : mu ≤ 12) : ∀ n k s, s < 4096 → s < n → s < k → z_E H mu n s = z_E H mu k s := by
  intro n
  induction n with
  | zero => intro k s _ h; omega
  | succ n ih =>
    intro k s hs h1 h2
    cases k with
    | zero => omega
    | succ k =>
      rw [z_E_succ, z_E_succ]
      refine z_set_congr (fun m hm => ?_)
      by_cases q : s.testBit m = true
      · have hlt := z_dl_lt (show m < 12 by omega) hs q
        rw [ih k (s &&& (2 ^ m ^^^ 4095)) (by omega) (by omega) (by omega)]
      · have q : s.testBit m = false := by cases h : s.testBit m with | false => rfl | true => exact absurd h q
        rw [q, Bool.false_and, Bool.false_and]
def z_ES (H : Nat → Nat) (mu s : Nat) : Nat := z_E H mu (s+1) s
/-- what makes m an end of s -/
def z_ep (H : Nat → Nat) (mu s m : Nat) : Bool := s.testBit m && (decide (s &&& (2 ^ m ^^^ 4095) = 0) || z_ex (fun k => (z_ES H mu (s &&& (2 ^ m ^^^ 4095))).testBit k && (H k).testBit m) mu)
theorem z_ES_eq {H : Nat → Nat} {mu s : Nat} (hmu : mu ≤ 12) (hs : s < 4096) : z_ES H mu s = z_set (z_ep H mu s) mu := by
  unfold z_ES
  rw [z_E_succ]
  refine z_set_congr (fun m hm => ?_)
  unfold z_ep
  by_cases q : s.testBit m = true
  · have hlt := z_dl_lt (show m < 12 by omega) hs q
    have e : z_E H mu s (s &&& (2 ^ m ^^^ 4095)) = z_ES H mu (s &&& (2 ^ m ^^^ 4095)) := z_E_irr hmu _ _ _ (by omega) (by omega) (by omega)
    rw [e]
  · have q : s.testBit m = false := by cases h : s.testBit m with | false => rfl | true => exact absurd h q
    rw [q, Bool.false_and, Bool.false_and]
theorem z_ES0 {H : Nat → Nat} {mu : Nat} (hmu : mu ≤ 12) : z_ES H mu 0 = 0 := by
  rw [z_ES_eq hmu (by omega)]
  apply Nat.eq_of_testBit_eq
  intro i
  rw [z_set_tb]
  unfold z_ep
  rw [Nat.zero_testBit, Bool.false_and, Bool.and_false]
/-! the longest row: the reference -/
theorem z_bb {a b k m : Nat} (ha : a < 2147483648) (hb : b < 2147483648) (hk : k < 31) (hm : m < 31) : ((nI a >>> (nI k &&& nI 31)) &&& (nI b >>> (nI m &&& nI 31))) &&& nI 1 = nI (if (a.testBit k && b.testBit m) = true then 1 else 0) := by
  rw [z_shr ha hk, z_shr hb hm, z_and, z_and]
  congr 1
  have e1 := z_mod2 a k
  have e2 := z_mod2 b m
  have : (a / 2 ^ k &&& b / 2 ^ m) &&& 1 = (a / 2 ^ k &&& 1) &&& (b / 2 ^ m &&& 1) := by
    apply Nat.eq_of_testBit_eq
    intro i
    rw [Nat.testBit_and, Nat.testBit_and, Nat.testBit_and, Nat.testBit_and, Nat.testBit_and]
    cases (a / 2 ^ k).testBit i <;> cases (b / 2 ^ m).testBit i <;> cases (1 : Nat).testBit i <;> rfl
  rw [this, Nat.and_one_is_mod, Nat.and_one_is_mod, e1, e2]
  cases a.testBit k <;> cases b.testBit m <;> rfl
def z_fb (b : Bool) : Int32 := nI (if b = true then 1 else 0)
theorem m_flag_L {n mu m r e0 : Nat} {x2 x3 x4 : Int32} {init : Bool} {H : Nat → Nat} {V : Nat → Int32} {σ : q_Sto} {K : Int32 → q_Sto → Option (Int32 × q_Sto)} (hV : σ 158 = V) (hmu : mu ≤ 12) (hm : m < 12) (hr : r < 4096)
    (hH : ∀ k, k < 12 → V (129+k) = nI (H k) ∧ H k < 4096) (he : σ 170 r = nI e0) (he0 : e0 < 4096) : ∀ j i, i ≤ mu → mu < j + i →
    f_X12_row_L75 n 157 (nI mu) x2 x3 x4 (nI m) (nI r) K j (z_fb (init || z_ex (fun k => e0.testBit k && (H k).testBit m) i)) (nI i) σ = K (z_fb (init || z_ex (fun k => e0.testBit k && (H k).testBit m) mu)) σ := by
  intro j
  induction j with
  | zero => intro i h1 h2; omega
  | succ j ih =>
    intro i h1 h2
    by_cases hi : i = mu
    · subst hi
      generalize z_fb (init || z_ex (fun k => e0.testBit k && (H k).testBit m) i) = y
      rw [f_X12_row_L75]
      simp (disch := omega) only [↓reduceIte, ↓p_ld, ↓p_st, ↓p_nm, ↓p_nS, ↓p_jn, ↓p_call, ↓p_callv, ↓p_dv, ↓p_rem, h_ldE, h_stE, h_nmE, h_nSE, h_callE, h_callvE, h_dvE, h_remE, if_true, if_false, z_upS, z_upO, z_upK, nI_add, z_mul, z_sub, z_div, Nat.add_zero, Nat.mul_zero, Nat.zero_add, Nat.sub_zero, Nat.zero_mul, z_ltT, z_ltF, z_leT, z_leF, z_eqT, z_eqF, z_inT, z_clT, not_true_eq_false, not_false_eq_true, eq_self, true_or, or_true, z_m_lt, z_m_le, z_lt_m, z_le_m, z_eq_m, z_m_eq, z_rz0, z_rz1, z_m_add, z_of, r_157_0, r_157_1, r_157_2, r_157_3, r_157_6, r_157_7, r_157_8, r_157_9, r_157_10, r_157_11, r_157_27, r_157_28, r_157_29, r_157_30, ↓z_m1, l_0, l_1, l_2, l_3, l_4, l_5, l_6, l_7, l_8, l_9, l_10, l_11, l_12, l_13, l_14, l_15, l_16, l_17, l_18, l_19, l_20, l_21, l_22, l_23, l_24, l_25, l_26, l_27, l_28, l_29, l_30, l_31, l_32, l_33, l_34, l_35, l_36, l_37, l_38, l_39, l_40, l_41, l_42, l_43, l_44, l_45, l_46, l_47, l_48, l_49, l_50, l_51, l_52, l_53, l_54, l_55, l_56, l_57, l_59, l_60, l_61, l_62, l_63, l_64, l_65, l_80, l_86, l_87, l_88, l_89, l_90, l_91, l_92, l_93, l_94, l_95, l_97, l_99, l_100, l_107, l_119, l_122, l_124, l_129, l_140, l_141, l_142, l_143, l_144, l_145, l_147, l_150, l_159, l_160, l_161, l_162, l_205, l_253, l_255, l_256, l_269, l_305, l_380, l_399, l_400, l_420, l_430, l_516, l_600, l_720, l_820, l_905, l_921, l_937, l_953, l_970, l_999, l_1000, l_1790, l_4096, l_9999, l_1000000]
    · have ih := ih (i+1) (by omega) (by omega)
      have e : z_ex (fun k => e0.testBit k && (H k).testBit m) (i+1) = (z_ex (fun k => e0.testBit k && (H k).testBit m) i || (e0.testBit i && (H i).testBit m)) := rfl
      obtain ⟨g1, g2⟩ := hH i (by omega)
      have eb := z_bb (a := e0) (b := H i) (k := i) (m := m) (by omega) (by omega) (by omega) (by omega)
      rw [e, ← Bool.or_assoc] at ih
      rw [← ih, f_X12_row_L75]
      cases q : (init || z_ex (fun k => e0.testBit k && (H k).testBit m) i) with
      | true =>
        have ez : z_fb true = nI 1 := rfl
        rw [Bool.true_or, ez]
        simp (disch := omega) only [↓reduceIte, ↓p_ld, ↓p_st, ↓p_nm, ↓p_nS, ↓p_jn, ↓p_call, ↓p_callv, ↓p_dv, ↓p_rem, h_ldE, h_stE, h_nmE, h_nSE, h_callE, h_callvE, h_dvE, h_remE, if_true, if_false, z_upS, z_upO, z_upK, nI_add, z_mul, z_sub, z_div, Nat.add_zero, Nat.mul_zero, Nat.zero_add, Nat.sub_zero, Nat.zero_mul, z_ltT, z_ltF, z_leT, z_leF, z_eqT, z_eqF, z_inT, z_clT, not_true_eq_false, not_false_eq_true, eq_self, true_or, or_true, z_m_lt, z_m_le, z_lt_m, z_le_m, z_eq_m, z_m_eq, z_rz0, z_rz1, z_m_add, z_of, r_157_0, r_157_1, r_157_2, r_157_3, r_157_6, r_157_7, r_157_8, r_157_9, r_157_10, r_157_11, r_157_27, r_157_28, r_157_29, r_157_30, ↓z_m1, l_0, l_1, l_2, l_3, l_4, l_5, l_6, l_7, l_8, l_9, l_10, l_11, l_12, l_13, l_14, l_15, l_16, l_17, l_18, l_19, l_20, l_21, l_22, l_23, l_24, l_25, l_26, l_27, l_28, l_29, l_30, l_31, l_32, l_33, l_34, l_35, l_36, l_37, l_38, l_39, l_40, l_41, l_42, l_43, l_44, l_45, l_46, l_47, l_48, l_49, l_50, l_51, l_52, l_53, l_54, l_55, l_56, l_57, l_59, l_60, l_61, l_62, l_63, l_64, l_65, l_80, l_86, l_87, l_88, l_89, l_90, l_91, l_92, l_93, l_94, l_95, l_97, l_99, l_100, l_107, l_119, l_122, l_124, l_129, l_140, l_141, l_142, l_143, l_144, l_145, l_147, l_150, l_159, l_160, l_161, l_162, l_205, l_253, l_255, l_256, l_269, l_305, l_380, l_399, l_400, l_420, l_430, l_516, l_600, l_720, l_820, l_905, l_921, l_937, l_953, l_970, l_999, l_1000, l_1790, l_4096, l_9999, l_1000000]
      | false =>
        have ez : z_fb false = nI 0 := rfl
        have ez1 : z_fb true = nI 1 := rfl
        rw [Bool.false_or]
        cases q2 : (e0.testBit i && (H i).testBit m) with
        | true =>
          rw [q2, if_pos rfl] at eb
          rw [ez, ez1]
          simp (disch := omega) only [hV, he, g1, eb, ↓reduceIte, ↓p_ld, ↓p_st, ↓p_nm, ↓p_nS, ↓p_jn, ↓p_call, ↓p_callv, ↓p_dv, ↓p_rem, h_ldE, h_stE, h_nmE, h_nSE, h_callE, h_callvE, h_dvE, h_remE, if_true, if_false, z_upS, z_upO, z_upK, nI_add, z_mul, z_sub, z_div, Nat.add_zero, Nat.mul_zero, Nat.zero_add, Nat.sub_zero, Nat.zero_mul, z_ltT, z_ltF, z_leT, z_leF, z_eqT, z_eqF, z_inT, z_clT, not_true_eq_false, not_false_eq_true, eq_self, true_or, or_true, z_m_lt, z_m_le, z_lt_m, z_le_m, z_eq_m, z_m_eq, z_rz0, z_rz1, z_m_add, z_of, r_157_0, r_157_1, r_157_2, r_157_3, r_157_6, r_157_7, r_157_8, r_157_9, r_157_10, r_157_11, r_157_27, r_157_28, r_157_29, r_157_30, ↓z_m1, l_0, l_1, l_2, l_3, l_4, l_5, l_6, l_7, l_8, l_9, l_10, l_11, l_12, l_13, l_14, l_15, l_16, l_17, l_18, l_19, l_20, l_21, l_22, l_23, l_24, l_25, l_26, l_27, l_28, l_29, l_30, l_31, l_32, l_33, l_34, l_35, l_36, l_37, l_38, l_39, l_40, l_41, l_42, l_43, l_44, l_45, l_46, l_47, l_48, l_49, l_50, l_51, l_52, l_53, l_54, l_55, l_56, l_57, l_59, l_60, l_61, l_62, l_63, l_64, l_65, l_80, l_86, l_87, l_88, l_89, l_90, l_91, l_92, l_93, l_94, l_95, l_97, l_99, l_100, l_107, l_119, l_122, l_124, l_129, l_140, l_141, l_142, l_143, l_144, l_145, l_147, l_150, l_159, l_160, l_161, l_162, l_205, l_253, l_255, l_256, l_269, l_305, l_380, l_399, l_400, l_420, l_430, l_516, l_600, l_720, l_820, l_905, l_921, l_937, l_953, l_970, l_999, l_1000, l_1790, l_4096, l_9999, l_1000000]
        | false =>
          rw [q2, if_neg (by decide)] at eb
          rw [ez]
          simp (disch := omega) only [hV, he, g1, eb, ↓reduceIte, ↓p_ld, ↓p_st, ↓p_nm, ↓p_nS, ↓p_jn, ↓p_call, ↓p_callv, ↓p_dv, ↓p_rem, h_ldE, h_stE, h_nmE, h_nSE, h_callE, h_callvE, h_dvE, h_remE, if_true, if_false, z_upS, z_upO, z_upK, nI_add, z_mul, z_sub, z_div, Nat.add_zero, Nat.mul_zero, Nat.zero_add, Nat.sub_zero, Nat.zero_mul, z_ltT, z_ltF, z_leT, z_leF, z_eqT, z_eqF, z_inT, z_clT, not_true_eq_false, not_false_eq_true, eq_self, true_or, or_true, z_m_lt, z_m_le, z_lt_m, z_le_m, z_eq_m, z_m_eq, z_rz0, z_rz1, z_m_add, z_of, r_157_0, r_157_1, r_157_2, r_157_3, r_157_6, r_157_7, r_157_8, r_157_9, r_157_10, r_157_11, r_157_27, r_157_28, r_157_29, r_157_30, ↓z_m1, l_0, l_1, l_2, l_3, l_4, l_5, l_6, l_7, l_8, l_9, l_10, l_11, l_12, l_13, l_14, l_15, l_16, l_17, l_18, l_19, l_20, l_21, l_22, l_23, l_24, l_25, l_26, l_27, l_28, l_29, l_30, l_31, l_32, l_33, l_34, l_35, l_36, l_37, l_38, l_39, l_40, l_41, l_42, l_43, l_44, l_45, l_46, l_47, l_48, l_49, l_50, l_51, l_52, l_53, l_54, l_55, l_56, l_57, l_59, l_60, l_61, l_62, l_63, l_64, l_65, l_80, l_86, l_87, l_88, l_89, l_90, l_91, l_92, l_93, l_94, l_95, l_97, l_99, l_100, l_107, l_119, l_122, l_124, l_129, l_140, l_141, l_142, l_143, l_144, l_145, l_147, l_150, l_159, l_160, l_161, l_162, l_205, l_253, l_255, l_256, l_269, l_305, l_380, l_399, l_400, l_420, l_430, l_516, l_600, l_720, l_820, l_905, l_921, l_937, l_953, l_970, l_999, l_1000, l_1790, l_4096, l_9999, l_1000000]
theorem m_ends_L {mu s : Nat} {x2 : Int32} {H : Nat → Nat} {V : Nat → Int32} {σ : q_Sto} {K : Int32 → q_Sto → Option (Int32 × q_Sto)} (hV : σ 158 = V) (hmu : mu ≤ 12) (hs : s < 4096) (hH : ∀ k, k < 12 → V (129+k) = nI (H k) ∧ H k < 4096)
    (hT : ∀ y, y < s → σ 170 y = nI (z_ES H mu y)) : ∀ j i, i ≤ mu → mu < j + i →
    f_X12_row_L32 q_F 157 (nI mu) x2 (nI s) K j (nI (z_set (z_ep H mu s) i)) (nI i) σ = K (nI (z_set (z_ep H mu s) mu)) σ := by
  intro j
  induction j with
  | zero => intro i h1 h2; omega
  | succ j ih =>
    intro i h1 h2
    by_cases hi : i = mu
    · subst hi
      generalize z_set (z_ep H i s) i = y
      rw [f_X12_row_L32]
      simp (disch := omega) only [↓reduceIte, ↓p_ld, ↓p_st, ↓p_nm, ↓p_nS, ↓p_jn, ↓p_call, ↓p_callv, ↓p_dv, ↓p_rem, h_ldE, h_stE, h_nmE, h_nSE, h_callE, h_callvE, h_dvE, h_remE, if_true, if_false, z_upS, z_upO, z_upK, nI_add, z_mul, z_sub, z_div, Nat.add_zero, Nat.mul_zero, Nat.zero_add, Nat.sub_zero, Nat.zero_mul, z_ltT, z_ltF, z_leT, z_leF, z_eqT, z_eqF, z_inT, z_clT, not_true_eq_false, not_false_eq_true, eq_self, true_or, or_true, z_m_lt, z_m_le, z_lt_m, z_le_m, z_eq_m, z_m_eq, z_rz0, z_rz1, z_m_add, z_of, r_157_0, r_157_1, r_157_2, r_157_3, r_157_6, r_157_7, r_157_8, r_157_9, r_157_10, r_157_11, r_157_27, r_157_28, r_157_29, r_157_30, ↓z_m1, l_0, l_1, l_2, l_3, l_4, l_5, l_6, l_7, l_8, l_9, l_10, l_11, l_12, l_13, l_14, l_15, l_16, l_17, l_18, l_19, l_20, l_21, l_22, l_23, l_24, l_25, l_26, l_27, l_28, l_29, l_30, l_31, l_32, l_33, l_34, l_35, l_36, l_37, l_38, l_39, l_40, l_41, l_42, l_43, l_44, l_45, l_46, l_47, l_48, l_49, l_50, l_51, l_52, l_53, l_54, l_55, l_56, l_57, l_59, l_60, l_61, l_62, l_63, l_64, l_65, l_80, l_86, l_87, l_88, l_89, l_90, l_91, l_92, l_93, l_94, l_95, l_97, l_99, l_100, l_107, l_119, l_122, l_124, l_129, l_140, l_141, l_142, l_143, l_144, l_145, l_147, l_150, l_159, l_160, l_161, l_162, l_205, l_253, l_255, l_256, l_269, l_305, l_380, l_399, l_400, l_420, l_430, l_516, l_600, l_720, l_820, l_905, l_921, l_937, l_953, l_970, l_999, l_1000, l_1790, l_4096, l_9999, l_1000000]
    · have ih := ih (i+1) (by omega) (by omega)
      have eb := z_bitE (a := s) (m := i) (by omega) (by omega)
      unfold z_bit at eb
      have esh := z_shl (m := i) (by omega)
      have hp := z_set_lt12 (z_ep H mu s) (show i ≤ 12 by omega)
      by_cases q : s.testBit i = true
      · rw [if_pos q] at eb
        have ea : nI s &&& (nI (2 ^ i) ^^^ z_m) = nI (s &&& (2 ^ i ^^^ 4095)) := z_andn12 (by omega)
        have hlt := z_dl_lt (show i < 12 by omega) hs q
        have hTr := hT _ hlt
        have hE : z_ES H mu (s &&& (2 ^ i ^^^ 4095)) < 4096 := by rw [z_ES_eq hmu (by omega)]; exact z_set_lt12 _ hmu
        have eo : z_ep H mu s i = (decide (s &&& (2 ^ i ^^^ 4095) = 0) || z_ex (fun k => (z_ES H mu (s &&& (2 ^ i ^^^ 4095))).testBit k && (H k).testBit i) mu) := by
          show (s.testBit i && _) = _
          rw [q, Bool.true_and]
        generalize s &&& (2 ^ i ^^^ 4095) = r at *
        have key := m_flag_L (n := q_F) (x2 := x2) (x3 := nI s) (x4 := nI (z_set (z_ep H mu s) i)) (init := decide (r = 0)) (K := (fun (y13 : Int32) (s14 : q_Sto) =>
    if y13 = 0 then (
    q_nm (nI (z_set (z_ep H mu s) i) ||| 0) fun v16 =>
    f_X12_row_L32 q_F 157 (nI mu) x2 (nI s) K j v16 (nI i + 1) s14)
    else (
    q_nm (nI (z_set (z_ep H mu s) i) ||| (1 <<< (nI i &&& 31))) fun v17 =>
    f_X12_row_L32 q_F 157 (nI mu) x2 (nI s) K j v17 (nI i + 1) s14))) hV hmu (show i < 12 by omega) (show r < 4096 by omega) hH hTr hE q_F 0 (Nat.zero_le _) (by unfold q_F; omega)
        have e00 : z_ex (fun k => (z_ES H mu r).testBit k && (H k).testBit i) 0 = false := rfl
        rw [← eo, e00, Bool.or_false] at key
        have e01 : ∀ a, nI a ||| nI 0 = nI a := fun a => by rw [z_or, Nat.or_zero]
        have fin : f_X12_row_L32 q_F 157 (nI mu) x2 (nI s) K (j+1) (nI (z_set (z_ep H mu s) i)) (nI i) σ = f_X12_row_L75 q_F 157 (nI mu) x2 (nI s) (nI (z_set (z_ep H mu s) i)) (nI i) (nI r) (fun (y13 : Int32) (s14 : q_Sto) =>
    if y13 = 0 then (
    q_nm (nI (z_set (z_ep H mu s) i) ||| 0) fun v16 =>
    f_X12_row_L32 q_F 157 (nI mu) x2 (nI s) K j v16 (nI i + 1) s14)
    else (
    q_nm (nI (z_set (z_ep H mu s) i) ||| (1 <<< (nI i &&& 31))) fun v17 =>
    f_X12_row_L32 q_F 157 (nI mu) x2 (nI s) K j v17 (nI i + 1) s14)) q_F (z_fb (decide (r = 0))) (nI 0) σ := by
          rw [f_X12_row_L32]
          generalize z_set (z_ep H mu s) i = v at *
          by_cases q0 : r = 0
          · subst q0
            have ez : z_fb (decide (0 = 0)) = nI 1 := by rw [decide_eq_true (rfl : 0 = 0)]; rfl
            rw [ez]
            simp (disch := omega) only [eb, esh, ea, ↓reduceIte, ↓p_ld, ↓p_st, ↓p_nm, ↓p_nS, ↓p_jn, ↓p_call, ↓p_callv, ↓p_dv, ↓p_rem, h_ldE, h_stE, h_nmE, h_nSE, h_callE, h_callvE, h_dvE, h_remE, if_true, if_false, z_upS, z_upO, z_upK, nI_add, z_mul, z_sub, z_div, Nat.add_zero, Nat.mul_zero, Nat.zero_add, Nat.sub_zero, Nat.zero_mul, z_ltT, z_ltF, z_leT, z_leF, z_eqT, z_eqF, z_inT, z_clT, not_true_eq_false, not_false_eq_true, eq_self, true_or, or_true, z_m_lt, z_m_le, z_lt_m, z_le_m, z_eq_m, z_m_eq, z_rz0, z_rz1, z_m_add, z_of, r_157_0, r_157_1, r_157_2, r_157_3, r_157_6, r_157_7, r_157_8, r_157_9, r_157_10, r_157_11, r_157_27, r_157_28, r_157_29, r_157_30, ↓z_m1, l_0, l_1, l_2, l_3, l_4, l_5, l_6, l_7, l_8, l_9, l_10, l_11, l_12, l_13, l_14, l_15, l_16, l_17, l_18, l_19, l_20, l_21, l_22, l_23, l_24, l_25, l_26, l_27, l_28, l_29, l_30, l_31, l_32, l_33, l_34, l_35, l_36, l_37, l_38, l_39, l_40, l_41, l_42, l_43, l_44, l_45, l_46, l_47, l_48, l_49, l_50, l_51, l_52, l_53, l_54, l_55, l_56, l_57, l_59, l_60, l_61, l_62, l_63, l_64, l_65, l_80, l_86, l_87, l_88, l_89, l_90, l_91, l_92, l_93, l_94, l_95, l_97, l_99, l_100, l_107, l_119, l_122, l_124, l_129, l_140, l_141, l_142, l_143, l_144, l_145, l_147, l_150, l_159, l_160, l_161, l_162, l_205, l_253, l_255, l_256, l_269, l_305, l_380, l_399, l_400, l_420, l_430, l_516, l_600, l_720, l_820, l_905, l_921, l_937, l_953, l_970, l_999, l_1000, l_1790, l_4096, l_9999, l_1000000]
          · have ez : z_fb (decide (r = 0)) = nI 0 := by rw [decide_eq_false q0]; rfl
            rw [ez]
            simp (disch := omega) only [eb, esh, ea, ↓reduceIte, ↓p_ld, ↓p_st, ↓p_nm, ↓p_nS, ↓p_jn, ↓p_call, ↓p_callv, ↓p_dv, ↓p_rem, h_ldE, h_stE, h_nmE, h_nSE, h_callE, h_callvE, h_dvE, h_remE, if_true, if_false, z_upS, z_upO, z_upK, nI_add, z_mul, z_sub, z_div, Nat.add_zero, Nat.mul_zero, Nat.zero_add, Nat.sub_zero, Nat.zero_mul, z_ltT, z_ltF, z_leT, z_leF, z_eqT, z_eqF, z_inT, z_clT, not_true_eq_false, not_false_eq_true, eq_self, true_or, or_true, z_m_lt, z_m_le, z_lt_m, z_le_m, z_eq_m, z_m_eq, z_rz0, z_rz1, z_m_add, z_of, r_157_0, r_157_1, r_157_2, r_157_3, r_157_6, r_157_7, r_157_8, r_157_9, r_157_10, r_157_11, r_157_27, r_157_28, r_157_29, r_157_30, ↓z_m1, l_0, l_1, l_2, l_3, l_4, l_5, l_6, l_7, l_8, l_9, l_10, l_11, l_12, l_13, l_14, l_15, l_16, l_17, l_18, l_19, l_20, l_21, l_22, l_23, l_24, l_25, l_26, l_27, l_28, l_29, l_30, l_31, l_32, l_33, l_34, l_35, l_36, l_37, l_38, l_39, l_40, l_41, l_42, l_43, l_44, l_45, l_46, l_47, l_48, l_49, l_50, l_51, l_52, l_53, l_54, l_55, l_56, l_57, l_59, l_60, l_61, l_62, l_63, l_64, l_65, l_80, l_86, l_87, l_88, l_89, l_90, l_91, l_92, l_93, l_94, l_95, l_97, l_99, l_100, l_107, l_119, l_122, l_124, l_129, l_140, l_141, l_142, l_143, l_144, l_145, l_147, l_150, l_159, l_160, l_161, l_162, l_205, l_253, l_255, l_256, l_269, l_305, l_380, l_399, l_400, l_420, l_430, l_516, l_600, l_720, l_820, l_905, l_921, l_937, l_953, l_970, l_999, l_1000, l_1790, l_4096, l_9999, l_1000000]
        rw [fin, key, ← ih]
        cases qe : z_ep H mu s i with
        | true =>
          have ez : z_fb true = nI 1 := rfl
          rw [z_setT qe, ez]
          generalize z_set (z_ep H mu s) i = v at *
          simp (disch := omega) only [esh, z_or, ↓reduceIte, ↓p_ld, ↓p_st, ↓p_nm, ↓p_nS, ↓p_jn, ↓p_call, ↓p_callv, ↓p_dv, ↓p_rem, h_ldE, h_stE, h_nmE, h_nSE, h_callE, h_callvE, h_dvE, h_remE, if_true, if_false, z_upS, z_upO, z_upK, nI_add, z_mul, z_sub, z_div, Nat.add_zero, Nat.mul_zero, Nat.zero_add, Nat.sub_zero, Nat.zero_mul, z_ltT, z_ltF, z_leT, z_leF, z_eqT, z_eqF, z_inT, z_clT, not_true_eq_false, not_false_eq_true, eq_self, true_or, or_true, z_m_lt, z_m_le, z_lt_m, z_le_m, z_eq_m, z_m_eq, z_rz0, z_rz1, z_m_add, z_of, r_157_0, r_157_1, r_157_2, r_157_3, r_157_6, r_157_7, r_157_8, r_157_9, r_157_10, r_157_11, r_157_27, r_157_28, r_157_29, r_157_30, ↓z_m1, l_0, l_1, l_2, l_3, l_4, l_5, l_6, l_7, l_8, l_9, l_10, l_11, l_12, l_13, l_14, l_15, l_16, l_17, l_18, l_19, l_20, l_21, l_22, l_23, l_24, l_25, l_26, l_27, l_28, l_29, l_30, l_31, l_32, l_33, l_34, l_35, l_36, l_37, l_38, l_39, l_40, l_41, l_42, l_43, l_44, l_45, l_46, l_47, l_48, l_49, l_50, l_51, l_52, l_53, l_54, l_55, l_56, l_57, l_59, l_60, l_61, l_62, l_63, l_64, l_65, l_80, l_86, l_87, l_88, l_89, l_90, l_91, l_92, l_93, l_94, l_95, l_97, l_99, l_100, l_107, l_119, l_122, l_124, l_129, l_140, l_141, l_142, l_143, l_144, l_145, l_147, l_150, l_159, l_160, l_161, l_162, l_205, l_253, l_255, l_256, l_269, l_305, l_380, l_399, l_400, l_420, l_430, l_516, l_600, l_720, l_820, l_905, l_921, l_937, l_953, l_970, l_999, l_1000, l_1790, l_4096, l_9999, l_1000000]
        | false =>
          have ez : z_fb false = nI 0 := rfl
          rw [z_setF (by rw [qe]; decide), ez]
          generalize z_set (z_ep H mu s) i = v at *
          simp (disch := omega) only [e01, ↓reduceIte, ↓p_ld, ↓p_st, ↓p_nm, ↓p_nS, ↓p_jn, ↓p_call, ↓p_callv, ↓p_dv, ↓p_rem, h_ldE, h_stE, h_nmE, h_nSE, h_callE, h_callvE, h_dvE, h_remE, if_true, if_false, z_upS, z_upO, z_upK, nI_add, z_mul, z_sub, z_div, Nat.add_zero, Nat.mul_zero, Nat.zero_add, Nat.sub_zero, Nat.zero_mul, z_ltT, z_ltF, z_leT, z_leF, z_eqT, z_eqF, z_inT, z_clT, not_true_eq_false, not_false_eq_true, eq_self, true_or, or_true, z_m_lt, z_m_le, z_lt_m, z_le_m, z_eq_m, z_m_eq, z_rz0, z_rz1, z_m_add, z_of, r_157_0, r_157_1, r_157_2, r_157_3, r_157_6, r_157_7, r_157_8, r_157_9, r_157_10, r_157_11, r_157_27, r_157_28, r_157_29, r_157_30, ↓z_m1, l_0, l_1, l_2, l_3, l_4, l_5, l_6, l_7, l_8, l_9, l_10, l_11, l_12, l_13, l_14, l_15, l_16, l_17, l_18, l_19, l_20, l_21, l_22, l_23, l_24, l_25, l_26, l_27, l_28, l_29, l_30, l_31, l_32, l_33, l_34, l_35, l_36, l_37, l_38, l_39, l_40, l_41, l_42, l_43, l_44, l_45, l_46, l_47, l_48, l_49, l_50, l_51, l_52, l_53, l_54, l_55, l_56, l_57, l_59, l_60, l_61, l_62, l_63, l_64, l_65, l_80, l_86, l_87, l_88, l_89, l_90, l_91, l_92, l_93, l_94, l_95, l_97, l_99, l_100, l_107, l_119, l_122, l_124, l_129, l_140, l_141, l_142, l_143, l_144, l_145, l_147, l_150, l_159, l_160, l_161, l_162, l_205, l_253, l_255, l_256, l_269, l_305, l_380, l_399, l_400, l_420, l_430, l_516, l_600, l_720, l_820, l_905, l_921, l_937, l_953, l_970, l_999, l_1000, l_1790, l_4096, l_9999, l_1000000]
      · rw [if_neg q] at eb
        have eo : z_ep H mu s i = false := by
          have q : s.testBit i = false := by cases h : s.testBit i with | false => rfl | true => exact absurd h q
          show (s.testBit i && _) = _
          rw [q, Bool.false_and]
        rw [z_setF (by rw [eo]; decide)] at ih
        rw [← ih, f_X12_row_L32]
        generalize z_set (z_ep H mu s) i = v at *
        simp (disch := omega) only [eb, ↓reduceIte, ↓p_ld, ↓p_st, ↓p_nm, ↓p_nS, ↓p_jn, ↓p_call, ↓p_callv, ↓p_dv, ↓p_rem, h_ldE, h_stE, h_nmE, h_nSE, h_callE, h_callvE, h_dvE, h_remE, if_true, if_false, z_upS, z_upO, z_upK, nI_add, z_mul, z_sub, z_div, Nat.add_zero, Nat.mul_zero, Nat.zero_add, Nat.sub_zero, Nat.zero_mul, z_ltT, z_ltF, z_leT, z_leF, z_eqT, z_eqF, z_inT, z_clT, not_true_eq_false, not_false_eq_true, eq_self, true_or, or_true, z_m_lt, z_m_le, z_lt_m, z_le_m, z_eq_m, z_m_eq, z_rz0, z_rz1, z_m_add, z_of, r_157_0, r_157_1, r_157_2, r_157_3, r_157_6, r_157_7, r_157_8, r_157_9, r_157_10, r_157_11, r_157_27, r_157_28, r_157_29, r_157_30, ↓z_m1, l_0, l_1, l_2, l_3, l_4, l_5, l_6, l_7, l_8, l_9, l_10, l_11, l_12, l_13, l_14, l_15, l_16, l_17, l_18, l_19, l_20, l_21, l_22, l_23, l_24, l_25, l_26, l_27, l_28, l_29, l_30, l_31, l_32, l_33, l_34, l_35, l_36, l_37, l_38, l_39, l_40, l_41, l_42, l_43, l_44, l_45, l_46, l_47, l_48, l_49, l_50, l_51, l_52, l_53, l_54, l_55, l_56, l_57, l_59, l_60, l_61, l_62, l_63, l_64, l_65, l_80, l_86, l_87, l_88, l_89, l_90, l_91, l_92, l_93, l_94, l_95, l_97, l_99, l_100, l_107, l_119, l_122, l_124, l_129, l_140, l_141, l_142, l_143, l_144, l_145, l_147, l_150, l_159, l_160, l_161, l_162, l_205, l_253, l_255, l_256, l_269, l_305, l_380, l_399, l_400, l_420, l_430, l_516, l_600, l_720, l_820, l_905, l_921, l_937, l_953, l_970, l_999, l_1000, l_1790, l_4096, l_9999, l_1000000]
/-- the longest so far -/
def z_lr (H : Nat → Nat) (mu : Nat) : Nat → Nat
  | 0 => 0
  | s + 1 => if z_ES H mu s = 0 then z_lr H mu s else max (z_lr H mu s) (z_cnt s 12)
theorem z_lr_le {H : Nat → Nat} {mu : Nat} : ∀ s, z_lr H mu s ≤ 12
  | 0 => Nat.zero_le _
  | s + 1 => z_ite_le (z_lr_le s) (Nat.max_le.mpr ⟨z_lr_le s, z_cnt_le _ _⟩)
theorem m_row_L {mu N : Nat} {H : Nat → Nat} {V : Nat → Int32} (hmu : mu ≤ 12) (es : nI 1 <<< (nI mu &&& nI 31) = nI N) (hN : N ≤ 4096) (hH : ∀ k, k < 12 → V (129+k) = nI (H k) ∧ H k < 4096) : ∀ j s (σ : q_Sto), s ≤ N → N < j + s → σ 158 = V → (∀ y, y < s → σ 170 y = nI (z_ES H mu y)) →
    ∃ σ', (∀ o, o ≠ 170 → σ' o = σ o) ∧ f_X12_row_L19 q_F 157 (nI mu) j (nI (z_lr H mu s)) (nI s) σ = some (nI (z_lr H mu N), σ') := by
  intro j
  induction j with
  | zero => intro s σ h1 h2; omega
  | succ j ih =>
    intro s σ h1 h2 hV hT
    by_cases hi : s = N
    · subst hi
      refine ⟨σ, fun _ _ => rfl, ?_⟩
      generalize z_lr H mu s = y
      rw [f_X12_row_L19]
      simp (disch := omega) only [es, ↓reduceIte, ↓p_ld, ↓p_st, ↓p_nm, ↓p_nS, ↓p_jn, ↓p_call, ↓p_callv, ↓p_dv, ↓p_rem, h_ldE, h_stE, h_nmE, h_nSE, h_callE, h_callvE, h_dvE, h_remE, if_true, if_false, z_upS, z_upO, z_upK, nI_add, z_mul, z_sub, z_div, Nat.add_zero, Nat.mul_zero, Nat.zero_add, Nat.sub_zero, Nat.zero_mul, z_ltT, z_ltF, z_leT, z_leF, z_eqT, z_eqF, z_inT, z_clT, not_true_eq_false, not_false_eq_true, eq_self, true_or, or_true, z_m_lt, z_m_le, z_lt_m, z_le_m, z_eq_m, z_m_eq, z_rz0, z_rz1, z_m_add, z_of, r_157_0, r_157_1, r_157_2, r_157_3, r_157_6, r_157_7, r_157_8, r_157_9, r_157_10, r_157_11, r_157_27, r_157_28, r_157_29, r_157_30, ↓z_m1, l_0, l_1, l_2, l_3, l_4, l_5, l_6, l_7, l_8, l_9, l_10, l_11, l_12, l_13, l_14, l_15, l_16, l_17, l_18, l_19, l_20, l_21, l_22, l_23, l_24, l_25, l_26, l_27, l_28, l_29, l_30, l_31, l_32, l_33, l_34, l_35, l_36, l_37, l_38, l_39, l_40, l_41, l_42, l_43, l_44, l_45, l_46, l_47, l_48, l_49, l_50, l_51, l_52, l_53, l_54, l_55, l_56, l_57, l_59, l_60, l_61, l_62, l_63, l_64, l_65, l_80, l_86, l_87, l_88, l_89, l_90, l_91, l_92, l_93, l_94, l_95, l_97, l_99, l_100, l_107, l_119, l_122, l_124, l_129, l_140, l_141, l_142, l_143, l_144, l_145, l_147, l_150, l_159, l_160, l_161, l_162, l_205, l_253, l_255, l_256, l_269, l_305, l_380, l_399, l_400, l_420, l_430, l_516, l_600, l_720, l_820, l_905, l_921, l_937, l_953, l_970, l_999, l_1000, l_1790, l_4096, l_9999, l_1000000]
    · obtain ⟨σ', k1, k2⟩ := ih (s+1) (q_up σ 170 s (nI (z_ES H mu s))) (by omega) (by omega) (by rw [z_upO (by omega)]; exact hV) (fun y hy => by
        by_cases q : y = s
        · subst q; exact z_upS
        · rw [z_upK q]; exact hT y (by omega))
      refine ⟨σ', fun o ho => by rw [k1 o ho, z_upO ho], ?_⟩
      have key := m_ends_L (x2 := nI (z_lr H mu s)) (K := (fun (y28 : Int32) (s29 : q_Sto) =>
    q_st s29 (q_RF 157 29) (nI s) 4096 y28 fun s30 =>
    if y28 = 0 then (
    f_X12_row_L19 q_F 157 (nI mu) j (nI (z_lr H mu s)) (nI s + 1) s30)
    else (
    q_call (f_X12_count q_F (nI s) s30) fun r33 s32 =>
    q_call (f_X12_greater q_F (nI (z_lr H mu s)) r33 s32) fun r35 s34 =>
    f_X12_row_L19 q_F 157 (nI mu) j r35 (nI s + 1) s34))) hV hmu (show s < 4096 by omega) hH hT q_F 0 (Nat.zero_le _) (by unfold q_F; omega)
      have e0 : z_set (z_ep H mu s) 0 = 0 := rfl
      rw [e0, ← z_ES_eq hmu (by omega)] at key
      have hE : z_ES H mu s < 4096 := by rw [z_ES_eq hmu (by omega)]; exact z_set_lt12 _ hmu
      have e : z_lr H mu (s+1) = if z_ES H mu s = 0 then z_lr H mu s else max (z_lr H mu s) (z_cnt s 12) := rfl
      have fin : f_X12_row_L19 q_F 157 (nI mu) (j+1) (nI (z_lr H mu s)) (nI s) σ = f_X12_row_L32 q_F 157 (nI mu) (nI (z_lr H mu s)) (nI s) (fun (y28 : Int32) (s29 : q_Sto) =>
    q_st s29 (q_RF 157 29) (nI s) 4096 y28 fun s30 =>
    if y28 = 0 then (
    f_X12_row_L19 q_F 157 (nI mu) j (nI (z_lr H mu s)) (nI s + 1) s30)
    else (
    q_call (f_X12_count q_F (nI s) s30) fun r33 s32 =>
    q_call (f_X12_greater q_F (nI (z_lr H mu s)) r33 s32) fun r35 s34 =>
    f_X12_row_L19 q_F 157 (nI mu) j r35 (nI s + 1) s34)) q_F (nI 0) (nI 0) σ := by
        rw [f_X12_row_L19]
        generalize z_lr H mu s = y
        simp (disch := omega) only [es, ↓reduceIte, ↓p_ld, ↓p_st, ↓p_nm, ↓p_nS, ↓p_jn, ↓p_call, ↓p_callv, ↓p_dv, ↓p_rem, h_ldE, h_stE, h_nmE, h_nSE, h_callE, h_callvE, h_dvE, h_remE, if_true, if_false, z_upS, z_upO, z_upK, nI_add, z_mul, z_sub, z_div, Nat.add_zero, Nat.mul_zero, Nat.zero_add, Nat.sub_zero, Nat.zero_mul, z_ltT, z_ltF, z_leT, z_leF, z_eqT, z_eqF, z_inT, z_clT, not_true_eq_false, not_false_eq_true, eq_self, true_or, or_true, z_m_lt, z_m_le, z_lt_m, z_le_m, z_eq_m, z_m_eq, z_rz0, z_rz1, z_m_add, z_of, r_157_0, r_157_1, r_157_2, r_157_3, r_157_6, r_157_7, r_157_8, r_157_9, r_157_10, r_157_11, r_157_27, r_157_28, r_157_29, r_157_30, ↓z_m1, l_0, l_1, l_2, l_3, l_4, l_5, l_6, l_7, l_8, l_9, l_10, l_11, l_12, l_13, l_14, l_15, l_16, l_17, l_18, l_19, l_20, l_21, l_22, l_23, l_24, l_25, l_26, l_27, l_28, l_29, l_30, l_31, l_32, l_33, l_34, l_35, l_36, l_37, l_38, l_39, l_40, l_41, l_42, l_43, l_44, l_45, l_46, l_47, l_48, l_49, l_50, l_51, l_52, l_53, l_54, l_55, l_56, l_57, l_59, l_60, l_61, l_62, l_63, l_64, l_65, l_80, l_86, l_87, l_88, l_89, l_90, l_91, l_92, l_93, l_94, l_95, l_97, l_99, l_100, l_107, l_119, l_122, l_124, l_129, l_140, l_141, l_142, l_143, l_144, l_145, l_147, l_150, l_159, l_160, l_161, l_162, l_205, l_253, l_255, l_256, l_269, l_305, l_380, l_399, l_400, l_420, l_430, l_516, l_600, l_720, l_820, l_905, l_921, l_937, l_953, l_970, l_999, l_1000, l_1790, l_4096, l_9999, l_1000000]
      rw [fin, key, ← k2, e]
      have hb := z_lr_le (H := H) (mu := mu) s
      have hc := z_cnt_le s 12
      have ec : ∀ σ : q_Sto, f_X12_count q_F (nI s) σ = some (nI (z_cnt s 12), σ) := fun σ => m_count (by unfold q_F; omega) (by omega)
      have eg : ∀ (y r : Nat) (s : q_Sto), y ≤ 12 → r ≤ 12 → f_X12_greater q_F (nI y) (nI r) s = some (nI (max y r), s) := fun y r s hy hr => by
        unfold f_X12_greater
        by_cases q : y ≤ r
        · rw [show max y r = r by omega]
          simp (disch := omega) only [↓reduceIte, ↓p_ld, ↓p_st, ↓p_nm, ↓p_nS, ↓p_jn, ↓p_call, ↓p_callv, ↓p_dv, ↓p_rem, h_ldE, h_stE, h_nmE, h_nSE, h_callE, h_callvE, h_dvE, h_remE, if_true, if_false, z_upS, z_upO, z_upK, nI_add, z_mul, z_sub, z_div, Nat.add_zero, Nat.mul_zero, Nat.zero_add, Nat.sub_zero, Nat.zero_mul, z_ltT, z_ltF, z_leT, z_leF, z_eqT, z_eqF, z_inT, z_clT, not_true_eq_false, not_false_eq_true, eq_self, true_or, or_true, z_m_lt, z_m_le, z_lt_m, z_le_m, z_eq_m, z_m_eq, z_rz0, z_rz1, z_m_add, z_of, ↓z_m1, l_0, l_1, l_2, l_3, l_4, l_5, l_6, l_7, l_8, l_9, l_10, l_11, l_12, l_13, l_14, l_15, l_16, l_17, l_18, l_19, l_20, l_21, l_22, l_23, l_24, l_25, l_26, l_27, l_28, l_29, l_30, l_31, l_32, l_33, l_34, l_35, l_36, l_37, l_38, l_39, l_40, l_41, l_42, l_43, l_44, l_45, l_46, l_47, l_48, l_49, l_50, l_51, l_52, l_53, l_54, l_55, l_56, l_57, l_59, l_60, l_61, l_62, l_63, l_64, l_65, l_80, l_86, l_87, l_88, l_89, l_90, l_91, l_92, l_93, l_94, l_95, l_97, l_99, l_100, l_107, l_119, l_122, l_124, l_129, l_140, l_141, l_142, l_143, l_144, l_145, l_147, l_150, l_159, l_160, l_161, l_162, l_205, l_253, l_255, l_256, l_269, l_305, l_380, l_399, l_400, l_420, l_430, l_516, l_600, l_720, l_820, l_905, l_921, l_937, l_953, l_970, l_999, l_1000, l_1790, l_4096, l_9999, l_1000000]
        · rw [show max y r = y by omega]
          simp (disch := omega) only [↓reduceIte, ↓p_ld, ↓p_st, ↓p_nm, ↓p_nS, ↓p_jn, ↓p_call, ↓p_callv, ↓p_dv, ↓p_rem, h_ldE, h_stE, h_nmE, h_nSE, h_callE, h_callvE, h_dvE, h_remE, if_true, if_false, z_upS, z_upO, z_upK, nI_add, z_mul, z_sub, z_div, Nat.add_zero, Nat.mul_zero, Nat.zero_add, Nat.sub_zero, Nat.zero_mul, z_ltT, z_ltF, z_leT, z_leF, z_eqT, z_eqF, z_inT, z_clT, not_true_eq_false, not_false_eq_true, eq_self, true_or, or_true, z_m_lt, z_m_le, z_lt_m, z_le_m, z_eq_m, z_m_eq, z_rz0, z_rz1, z_m_add, z_of, ↓z_m1, l_0, l_1, l_2, l_3, l_4, l_5, l_6, l_7, l_8, l_9, l_10, l_11, l_12, l_13, l_14, l_15, l_16, l_17, l_18, l_19, l_20, l_21, l_22, l_23, l_24, l_25, l_26, l_27, l_28, l_29, l_30, l_31, l_32, l_33, l_34, l_35, l_36, l_37, l_38, l_39, l_40, l_41, l_42, l_43, l_44, l_45, l_46, l_47, l_48, l_49, l_50, l_51, l_52, l_53, l_54, l_55, l_56, l_57, l_59, l_60, l_61, l_62, l_63, l_64, l_65, l_80, l_86, l_87, l_88, l_89, l_90, l_91, l_92, l_93, l_94, l_95, l_97, l_99, l_100, l_107, l_119, l_122, l_124, l_129, l_140, l_141, l_142, l_143, l_144, l_145, l_147, l_150, l_159, l_160, l_161, l_162, l_205, l_253, l_255, l_256, l_269, l_305, l_380, l_399, l_400, l_420, l_430, l_516, l_600, l_720, l_820, l_905, l_921, l_937, l_953, l_970, l_999, l_1000, l_1790, l_4096, l_9999, l_1000000]
      generalize z_lr H mu s = y at *
      generalize z_cnt s 12 = cn at *
      generalize z_ES H mu s = E at *
      by_cases q : E = 0
      · subst q
        rw [if_pos rfl]
        simp (disch := omega) only [↓reduceIte, ↓p_ld, ↓p_st, ↓p_nm, ↓p_nS, ↓p_jn, ↓p_call, ↓p_callv, ↓p_dv, ↓p_rem, h_ldE, h_stE, h_nmE, h_nSE, h_callE, h_callvE, h_dvE, h_remE, if_true, if_false, z_upS, z_upO, z_upK, nI_add, z_mul, z_sub, z_div, Nat.add_zero, Nat.mul_zero, Nat.zero_add, Nat.sub_zero, Nat.zero_mul, z_ltT, z_ltF, z_leT, z_leF, z_eqT, z_eqF, z_inT, z_clT, not_true_eq_false, not_false_eq_true, eq_self, true_or, or_true, z_m_lt, z_m_le, z_lt_m, z_le_m, z_eq_m, z_m_eq, z_rz0, z_rz1, z_m_add, z_of, r_157_0, r_157_1, r_157_2, r_157_3, r_157_6, r_157_7, r_157_8, r_157_9, r_157_10, r_157_11, r_157_27, r_157_28, r_157_29, r_157_30, ↓z_m1, l_0, l_1, l_2, l_3, l_4, l_5, l_6, l_7, l_8, l_9, l_10, l_11, l_12, l_13, l_14, l_15, l_16, l_17, l_18, l_19, l_20, l_21, l_22, l_23, l_24, l_25, l_26, l_27, l_28, l_29, l_30, l_31, l_32, l_33, l_34, l_35, l_36, l_37, l_38, l_39, l_40, l_41, l_42, l_43, l_44, l_45, l_46, l_47, l_48, l_49, l_50, l_51, l_52, l_53, l_54, l_55, l_56, l_57, l_59, l_60, l_61, l_62, l_63, l_64, l_65, l_80, l_86, l_87, l_88, l_89, l_90, l_91, l_92, l_93, l_94, l_95, l_97, l_99, l_100, l_107, l_119, l_122, l_124, l_129, l_140, l_141, l_142, l_143, l_144, l_145, l_147, l_150, l_159, l_160, l_161, l_162, l_205, l_253, l_255, l_256, l_269, l_305, l_380, l_399, l_400, l_420, l_430, l_516, l_600, l_720, l_820, l_905, l_921, l_937, l_953, l_970, l_999, l_1000, l_1790, l_4096, l_9999, l_1000000]
      · rw [if_neg q]
        simp (disch := omega) only [ec, eg, ↓reduceIte, ↓p_ld, ↓p_st, ↓p_nm, ↓p_nS, ↓p_jn, ↓p_call, ↓p_callv, ↓p_dv, ↓p_rem, h_ldE, h_stE, h_nmE, h_nSE, h_callE, h_callvE, h_dvE, h_remE, if_true, if_false, z_upS, z_upO, z_upK, nI_add, z_mul, z_sub, z_div, Nat.add_zero, Nat.mul_zero, Nat.zero_add, Nat.sub_zero, Nat.zero_mul, z_ltT, z_ltF, z_leT, z_leF, z_eqT, z_eqF, z_inT, z_clT, not_true_eq_false, not_false_eq_true, eq_self, true_or, or_true, z_m_lt, z_m_le, z_lt_m, z_le_m, z_eq_m, z_m_eq, z_rz0, z_rz1, z_m_add, z_of, r_157_0, r_157_1, r_157_2, r_157_3, r_157_6, r_157_7, r_157_8, r_157_9, r_157_10, r_157_11, r_157_27, r_157_28, r_157_29, r_157_30, ↓z_m1, l_0, l_1, l_2, l_3, l_4, l_5, l_6, l_7, l_8, l_9, l_10, l_11, l_12, l_13, l_14, l_15, l_16, l_17, l_18, l_19, l_20, l_21, l_22, l_23, l_24, l_25, l_26, l_27, l_28, l_29, l_30, l_31, l_32, l_33, l_34, l_35, l_36, l_37, l_38, l_39, l_40, l_41, l_42, l_43, l_44, l_45, l_46, l_47, l_48, l_49, l_50, l_51, l_52, l_53, l_54, l_55, l_56, l_57, l_59, l_60, l_61, l_62, l_63, l_64, l_65, l_80, l_86, l_87, l_88, l_89, l_90, l_91, l_92, l_93, l_94, l_95, l_97, l_99, l_100, l_107, l_119, l_122, l_124, l_129, l_140, l_141, l_142, l_143, l_144, l_145, l_147, l_150, l_159, l_160, l_161, l_162, l_205, l_253, l_255, l_256, l_269, l_305, l_380, l_399, l_400, l_420, l_430, l_516, l_600, l_720, l_820, l_905, l_921, l_937, l_953, l_970, l_999, l_1000, l_1790, l_4096, l_9999, l_1000000]
/-! the longest row: the class -/
/-- the bit m of table y when the sets below s are done -/
def z_tpp (H : Nat → Nat) (mu s y m : Nat) : Bool := y.testBit m && (decide (y &&& (2 ^ m ^^^ 4095) = 0) || (decide (y &&& (2 ^ m ^^^ 4095) < s) && z_ex (fun k => (z_ES H mu (y &&& (2 ^ m ^^^ 4095))).testBit k && (H k).testBit m) mu))
def z_TQ (H : Nat → Nat) (mu s y : Nat) : Nat := z_set (z_tpp H mu s y) mu
theorem z_bf {b : Bool} (h : ¬ b = true) : b = false := by cases b with | false => rfl | true => exact absurd rfl h
theorem z_TQ_E {H : Nat → Nat} {mu y s : Nat} (hmu : mu ≤ 12) (hy : y < 4096) (hs : y ≤ s) : z_TQ H mu s y = z_ES H mu y := by
  rw [z_ES_eq hmu hy]
  unfold z_TQ
  refine z_set_congr (fun m hm => ?_)
  unfold z_tpp z_ep
  by_cases q : y.testBit m = true
  · have hlt := z_dl_lt (show m < 12 by omega) hy q
    rw [decide_eq_true (show y &&& (2 ^ m ^^^ 4095) < s by omega), Bool.true_and]
  · rw [z_bf q, Bool.false_and, Bool.false_and]
theorem z_dlA {y m s : Nat} (hm : m < 12) (hy : y < 4096) (h : y.testBit m = true) (e : y &&& (2 ^ m ^^^ 4095) = s) : y = s ||| 2 ^ m := by
  subst e
  apply Nat.eq_of_testBit_eq
  intro i
  rw [Nat.testBit_or, z_dl hm i hy, Nat.testBit_two_pow]
  by_cases q : i = m
  · subst q; rw [h]; simp
  · have : ¬ m = i := fun h => q h.symm
    simp [q, this]
theorem z_dlB {m s : Nat} (hm : m < 12) (hs : s < 4096) (h : ¬ s.testBit m = true) : (s ||| 2 ^ m) &&& (2 ^ m ^^^ 4095) = s ∧ (s ||| 2 ^ m).testBit m = true ∧ s ||| 2 ^ m < 4096 := by
  have h12 : 2 ^ m < 2 ^ 12 := Nat.pow_lt_pow_right (by omega) hm
  have hlt : s ||| 2 ^ m < 2 ^ 12 := Nat.or_lt_two_pow hs h12
  refine ⟨?_, ?_, hlt⟩
  · apply Nat.eq_of_testBit_eq
    intro i
    rw [z_dl hm i hlt, Nat.testBit_or, Nat.testBit_two_pow]
    by_cases q : i = m
    · subst q; rw [z_bf h]; simp
    · have : ¬ m = i := fun h => q h.symm
      simp [q, this]
  · rw [Nat.testBit_or, Nat.testBit_two_pow]; simp
/-- those that are heeded by an end -/
def z_nxs (H : Nat → Nat) (E : Nat) : Nat → Nat
  | 0 => 0
  | i + 1 => if E.testBit i = true then z_nxs H E i ||| H i else z_nxs H E i
theorem z_nxs_tb {H : Nat → Nat} {E m : Nat} : ∀ i, (z_nxs H E i).testBit m = z_ex (fun k => E.testBit k && (H k).testBit m) i
  | 0 => Nat.zero_testBit m
  | i + 1 => by
    have e : z_ex (fun k => E.testBit k && (H k).testBit m) (i+1) = (z_ex (fun k => E.testBit k && (H k).testBit m) i || (E.testBit i && (H i).testBit m)) := rfl
    have ez : z_nxs H E (i+1) = if E.testBit i = true then z_nxs H E i ||| H i else z_nxs H E i := rfl
    rw [e, ez, ← z_nxs_tb i]
    by_cases q : E.testBit i = true
    · rw [if_pos q, Nat.testBit_or, q, Bool.true_and]
    · rw [if_neg q, z_bf q, Bool.false_and, Bool.or_false]
theorem z_nxs_lt {H : Nat → Nat} {E : Nat} (hH : ∀ k, k < 12 → H k < 4096) : ∀ i, i ≤ 12 → z_nxs H E i < 4096
  | 0, _ => by show 0 < 4096; omega
  | i + 1, h => by
    have ez : z_nxs H E (i+1) = if E.testBit i = true then z_nxs H E i ||| H i else z_nxs H E i := rfl
    rw [ez]
    have h1 := z_nxs_lt (E := E) hH i (by omega)
    split
    · exact Nat.or_lt_two_pow (n := 12) h1 (hH i (by omega))
    · exact h1
/-- table y while the set s goes on, the mules below i done -/
def z_uq (H : Nat → Nat) (mu s nx i y m : Nat) : Bool := z_tpp H mu s y m || (decide (m < i) && (y.testBit m && (decide (y &&& (2 ^ m ^^^ 4095) = s) && nx.testBit m)))
def z_UQ (H : Nat → Nat) (mu s nx i y : Nat) : Nat := z_set (z_uq H mu s nx i y) mu
theorem z_UQ0 {H : Nat → Nat} {mu s nx y : Nat} : z_UQ H mu s nx 0 y = z_TQ H mu s y := by
  unfold z_UQ z_TQ
  refine z_set_congr (fun m hm => ?_)
  unfold z_uq
  rw [decide_eq_false (show ¬ m < 0 by omega), Bool.false_and, Bool.or_false]
theorem z_UQ_end {H : Nat → Nat} {mu s y : Nat} (hmu : mu ≤ 12) (hy : y < 4096) (hs0 : s ≠ 0) : z_UQ H mu s (z_nxs H (z_ES H mu s) mu) mu y = z_TQ H mu (s+1) y := by
  unfold z_UQ z_TQ
  refine z_set_congr (fun m hm => ?_)
  unfold z_uq z_tpp
  rw [z_nxs_tb, decide_eq_true hm, Bool.true_and]
  generalize y &&& (2 ^ m ^^^ 4095) = r
  by_cases q : r = s
  · subst q
    rw [decide_eq_true (rfl : r = r), decide_eq_false hs0, decide_eq_false (show ¬ r < r by omega), decide_eq_true (show r < r + 1 by omega)]
    generalize z_ex (fun k => (z_ES H mu r).testBit k && (H k).testBit m) mu = a
    cases y.testBit m <;> cases a <;> rfl
  · rw [decide_eq_false q, Bool.false_and, Bool.and_false, Bool.or_false]
    by_cases q2 : r < s
    · rw [decide_eq_true q2, decide_eq_true (show r < s + 1 by omega)]
    · rw [decide_eq_false q2, decide_eq_false (show ¬ r < s + 1 by omega)]
theorem z_UQ_no {H : Nat → Nat} {mu s nx i y : Nat} (h : ¬ (y.testBit i = true ∧ y &&& (2 ^ i ^^^ 4095) = s ∧ nx.testBit i = true)) : z_UQ H mu s nx (i+1) y = z_UQ H mu s nx i y := by
  unfold z_UQ
  refine z_set_congr (fun m hm => ?_)
  unfold z_uq
  by_cases q : m = i
  · subst q
    have : (y.testBit m && (decide (y &&& (2 ^ m ^^^ 4095) = s) && nx.testBit m)) = false := by
      by_cases q1 : y.testBit m = true
      · by_cases q2 : y &&& (2 ^ m ^^^ 4095) = s
        · by_cases q3 : nx.testBit m = true
          · exact absurd ⟨q1, q2, q3⟩ h
          · rw [z_bf q3, Bool.and_false, Bool.and_false]
        · rw [decide_eq_false q2, Bool.false_and, Bool.and_false]
      · rw [z_bf q1, Bool.false_and]
    rw [this, Bool.and_false, Bool.and_false]
  · by_cases q2 : m < i
    · rw [decide_eq_true q2, decide_eq_true (show m < i + 1 by omega)]
    · rw [decide_eq_false q2, decide_eq_false (show ¬ m < i + 1 by omega)]
theorem z_UQ_yes {H : Nat → Nat} {mu s nx i y : Nat} (hi : i < mu) (h : y.testBit i = true ∧ y &&& (2 ^ i ^^^ 4095) = s ∧ nx.testBit i = true) : z_UQ H mu s nx (i+1) y = z_UQ H mu s nx i y ||| 2 ^ i := by
  obtain ⟨h1, h2, h3⟩ := h
  apply Nat.eq_of_testBit_eq
  intro m
  unfold z_UQ
  rw [Nat.testBit_or, z_set_tb, z_set_tb, Nat.testBit_two_pow]
  unfold z_uq
  by_cases q : m = i
  · subst q
    rw [h1, h2, h3, decide_eq_true hi, decide_eq_true (rfl : s = s), decide_eq_true (show m < m + 1 by omega), decide_eq_true (rfl : m = m)]
    simp
  · rw [decide_eq_false (show ¬ i = m from fun h => q h.symm), Bool.or_false]
    by_cases q2 : m < i
    · rw [decide_eq_true q2, decide_eq_true (show m < i + 1 by omega)]
    · rw [decide_eq_false q2, decide_eq_false (show ¬ m < i + 1 by omega)]
theorem z_UQ_lt {H : Nat → Nat} {mu s nx i y : Nat} (hmu : mu ≤ 12) : z_UQ H mu s nx i y < 4096 := z_set_lt12 _ hmu
theorem c_nexts_L {n mu s E : Nat} {H : Nat → Nat} {σ : q_Sto} {K : Int32 → q_Sto → Option (Int32 × q_Sto)} (hmu : mu ≤ 12) (hs : s < 4096) (hE : E < 4096) (he : σ 138 s = nI E) (hH : ∀ k, k < 12 → H k < 4096) (h141 : ∀ k, k < mu → σ 141 k = nI (H k)) : ∀ j i, i ≤ mu → mu < j + i →
    f_X4_goOn_L17 n 135 (nI s) (nI mu) K j (nI (z_nxs H E i)) (nI i) σ = K (nI (z_nxs H E mu)) σ := by
  intro j
  induction j with
  | zero => intro i h1 h2; omega
  | succ j ih =>
    intro i h1 h2
    by_cases hi : i = mu
    · subst hi
      generalize z_nxs H E i = y
      rw [f_X4_goOn_L17]
      simp (disch := omega) only [↓reduceIte, ↓p_ld, ↓p_st, ↓p_nm, ↓p_nS, ↓p_jn, ↓p_call, ↓p_callv, ↓p_dv, ↓p_rem, h_ldE, h_stE, h_nmE, h_nSE, h_callE, h_callvE, h_dvE, h_remE, if_true, if_false, z_upS, z_upO, z_upK, nI_add, z_mul, z_sub, z_div, Nat.add_zero, Nat.mul_zero, Nat.zero_add, Nat.sub_zero, Nat.zero_mul, z_ltT, z_ltF, z_leT, z_leF, z_eqT, z_eqF, z_inT, z_clT, not_true_eq_false, not_false_eq_true, eq_self, true_or, or_true, z_m_lt, z_m_le, z_lt_m, z_le_m, z_eq_m, z_m_eq, z_rz0, z_rz1, z_m_add, z_of, r_0_0, r_0_1, r_0_3, r_0_4, r_0_5, r_0_6, r_0_7, r_0_8, r_0_9, r_0_10, r_1_0, r_1_1, r_1_2, r_1_3, r_1_4, r_1_5, r_1_6, r_1_7, r_1_8, r_2_0, r_2_1, r_2_2, r_2_3, r_2_4, r_2_5, r_2_6, r_2_7, r_11_0, r_11_1, r_11_2, r_11_3, r_11_4, r_11_5, r_11_6, r_19_0, r_21_0, r_23_0, r_25_0, r_27_0, r_61_0, r_117_0, r_117_1, r_117_2, r_117_3, r_117_4, r_117_5, r_117_6, r_117_7, r_126_0, r_126_1, r_126_2, r_126_3, r_126_4, r_132_0, r_132_1, r_135_0, r_135_1, r_135_2, r_135_3, r_135_4, r_135_5, r_142_0, r_144_0, r_144_1, r_144_2, r_145_0, r_145_1, r_145_2, r_145_3, r_145_4, r_145_5, r_145_6, r_154_0, r_154_1, r_155_0, ↓z_m1, l_0, l_1, l_2, l_3, l_4, l_5, l_6, l_7, l_8, l_9, l_10, l_11, l_12, l_13, l_14, l_15, l_16, l_17, l_18, l_19, l_20, l_21, l_22, l_23, l_24, l_25, l_26, l_27, l_28, l_29, l_30, l_31, l_32, l_33, l_34, l_35, l_36, l_37, l_38, l_39, l_40, l_41, l_42, l_43, l_44, l_45, l_46, l_47, l_48, l_49, l_50, l_51, l_52, l_53, l_54, l_55, l_56, l_57, l_59, l_60, l_61, l_62, l_63, l_64, l_65, l_80, l_86, l_87, l_88, l_89, l_90, l_91, l_92, l_93, l_94, l_95, l_97, l_99, l_100, l_107, l_119, l_122, l_124, l_129, l_140, l_141, l_142, l_143, l_144, l_145, l_147, l_150, l_159, l_160, l_161, l_162, l_205, l_253, l_255, l_256, l_269, l_305, l_380, l_399, l_400, l_420, l_430, l_516, l_600, l_720, l_820, l_905, l_921, l_937, l_953, l_970, l_999, l_1000, l_1790, l_4096, l_9999, l_1000000]
    · have ih := ih (i+1) (by omega) (by omega)
      have ez : z_nxs H E (i+1) = if E.testBit i = true then z_nxs H E i ||| H i else z_nxs H E i := rfl
      have g := h141 i (by omega)
      have e0 : ∀ a, nI a ||| nI 0 = nI a := fun a => by rw [z_or, Nat.or_zero]
      by_cases q : E.testBit i = true
      · have eI := c_isInT (n := n) (σ := σ) (s := E) (by omega) (show i < 31 by omega) q
        rw [if_pos q] at ez
        rw [ez] at ih
        rw [← ih, f_X4_goOn_L17]
        generalize z_nxs H E i = y at *
        generalize H i = hi' at *
        simp (disch := omega) only [he, eI, g, z_or, ↓reduceIte, ↓p_ld, ↓p_st, ↓p_nm, ↓p_nS, ↓p_jn, ↓p_call, ↓p_callv, ↓p_dv, ↓p_rem, h_ldE, h_stE, h_nmE, h_nSE, h_callE, h_callvE, h_dvE, h_remE, if_true, if_false, z_upS, z_upO, z_upK, nI_add, z_mul, z_sub, z_div, Nat.add_zero, Nat.mul_zero, Nat.zero_add, Nat.sub_zero, Nat.zero_mul, z_ltT, z_ltF, z_leT, z_leF, z_eqT, z_eqF, z_inT, z_clT, not_true_eq_false, not_false_eq_true, eq_self, true_or, or_true, z_m_lt, z_m_le, z_lt_m, z_le_m, z_eq_m, z_m_eq, z_rz0, z_rz1, z_m_add, z_of, r_0_0, r_0_1, r_0_3, r_0_4, r_0_5, r_0_6, r_0_7, r_0_8, r_0_9, r_0_10, r_1_0, r_1_1, r_1_2, r_1_3, r_1_4, r_1_5, r_1_6, r_1_7, r_1_8, r_2_0, r_2_1, r_2_2, r_2_3, r_2_4, r_2_5, r_2_6, r_2_7, r_11_0, r_11_1, r_11_2, r_11_3, r_11_4, r_11_5, r_11_6, r_19_0, r_21_0, r_23_0, r_25_0, r_27_0, r_61_0, r_117_0, r_117_1, r_117_2, r_117_3, r_117_4, r_117_5, r_117_6, r_117_7, r_126_0, r_126_1, r_126_2, r_126_3, r_126_4, r_132_0, r_132_1, r_135_0, r_135_1, r_135_2, r_135_3, r_135_4, r_135_5, r_142_0, r_144_0, r_144_1, r_144_2, r_145_0, r_145_1, r_145_2, r_145_3, r_145_4, r_145_5, r_145_6, r_154_0, r_154_1, r_155_0, ↓z_m1, l_0, l_1, l_2, l_3, l_4, l_5, l_6, l_7, l_8, l_9, l_10, l_11, l_12, l_13, l_14, l_15, l_16, l_17, l_18, l_19, l_20, l_21, l_22, l_23, l_24, l_25, l_26, l_27, l_28, l_29, l_30, l_31, l_32, l_33, l_34, l_35, l_36, l_37, l_38, l_39, l_40, l_41, l_42, l_43, l_44, l_45, l_46, l_47, l_48, l_49, l_50, l_51, l_52, l_53, l_54, l_55, l_56, l_57, l_59, l_60, l_61, l_62, l_63, l_64, l_65, l_80, l_86, l_87, l_88, l_89, l_90, l_91, l_92, l_93, l_94, l_95, l_97, l_99, l_100, l_107, l_119, l_122, l_124, l_129, l_140, l_141, l_142, l_143, l_144, l_145, l_147, l_150, l_159, l_160, l_161, l_162, l_205, l_253, l_255, l_256, l_269, l_305, l_380, l_399, l_400, l_420, l_430, l_516, l_600, l_720, l_820, l_905, l_921, l_937, l_953, l_970, l_999, l_1000, l_1790, l_4096, l_9999, l_1000000]
      · have eI := c_isInF (n := n) (σ := σ) (s := E) (by omega) (show i < 31 by omega) q
        rw [if_neg q] at ez
        rw [ez] at ih
        rw [← ih, f_X4_goOn_L17]
        generalize z_nxs H E i = y at *
        simp (disch := omega) only [he, eI, e0, ↓reduceIte, ↓p_ld, ↓p_st, ↓p_nm, ↓p_nS, ↓p_jn, ↓p_call, ↓p_callv, ↓p_dv, ↓p_rem, h_ldE, h_stE, h_nmE, h_nSE, h_callE, h_callvE, h_dvE, h_remE, if_true, if_false, z_upS, z_upO, z_upK, nI_add, z_mul, z_sub, z_div, Nat.add_zero, Nat.mul_zero, Nat.zero_add, Nat.sub_zero, Nat.zero_mul, z_ltT, z_ltF, z_leT, z_leF, z_eqT, z_eqF, z_inT, z_clT, not_true_eq_false, not_false_eq_true, eq_self, true_or, or_true, z_m_lt, z_m_le, z_lt_m, z_le_m, z_eq_m, z_m_eq, z_rz0, z_rz1, z_m_add, z_of, r_0_0, r_0_1, r_0_3, r_0_4, r_0_5, r_0_6, r_0_7, r_0_8, r_0_9, r_0_10, r_1_0, r_1_1, r_1_2, r_1_3, r_1_4, r_1_5, r_1_6, r_1_7, r_1_8, r_2_0, r_2_1, r_2_2, r_2_3, r_2_4, r_2_5, r_2_6, r_2_7, r_11_0, r_11_1, r_11_2, r_11_3, r_11_4, r_11_5, r_11_6, r_19_0, r_21_0, r_23_0, r_25_0, r_27_0, r_61_0, r_117_0, r_117_1, r_117_2, r_117_3, r_117_4, r_117_5, r_117_6, r_117_7, r_126_0, r_126_1, r_126_2, r_126_3, r_126_4, r_132_0, r_132_1, r_135_0, r_135_1, r_135_2, r_135_3, r_135_4, r_135_5, r_142_0, r_144_0, r_144_1, r_144_2, r_145_0, r_145_1, r_145_2, r_145_3, r_145_4, r_145_5, r_145_6, r_154_0, r_154_1, r_155_0, ↓z_m1, l_0, l_1, l_2, l_3, l_4, l_5, l_6, l_7, l_8, l_9, l_10, l_11, l_12, l_13, l_14, l_15, l_16, l_17, l_18, l_19, l_20, l_21, l_22, l_23, l_24, l_25, l_26, l_27, l_28, l_29, l_30, l_31, l_32, l_33, l_34, l_35, l_36, l_37, l_38, l_39, l_40, l_41, l_42, l_43, l_44, l_45, l_46, l_47, l_48, l_49, l_50, l_51, l_52, l_53, l_54, l_55, l_56, l_57, l_59, l_60, l_61, l_62, l_63, l_64, l_65, l_80, l_86, l_87, l_88, l_89, l_90, l_91, l_92, l_93, l_94, l_95, l_97, l_99, l_100, l_107, l_119, l_122, l_124, l_129, l_140, l_141, l_142, l_143, l_144, l_145, l_147, l_150, l_159, l_160, l_161, l_162, l_205, l_253, l_255, l_256, l_269, l_305, l_380, l_399, l_400, l_420, l_430, l_516, l_600, l_720, l_820, l_905, l_921, l_937, l_953, l_970, l_999, l_1000, l_1790, l_4096, l_9999, l_1000000]
theorem c_push_L {n mu s nx N : Nat} {H : Nat → Nat} (hmu : mu ≤ 12) (hN : N = 2 ^ mu) (hs : s < N) (hnx : nx < 4096) (hns : ∀ m, nx.testBit m = true → ¬ s.testBit m = true) : ∀ j i (σ : q_Sto), i ≤ mu → mu < j + i → (∀ y, y < N → σ 138 y = nI (z_UQ H mu s nx i y)) →
    ∃ σ', (∀ o, o ≠ 138 → σ' o = σ o) ∧ (∀ y, y < N → σ' 138 y = nI (z_UQ H mu s nx mu y)) ∧ f_X4_goOn_L73 n 135 (nI s) (nI mu) (nI nx) j (nI i) σ = some (nI 0, σ') := by
  have h12 := z_p12 hmu
  intro j
  induction j with
  | zero => intro i σ h1 h2; omega
  | succ j ih =>
    intro i σ h1 h2 hT
    by_cases hi : i = mu
    · subst hi
      refine ⟨σ, fun _ _ => rfl, hT, ?_⟩
      rw [f_X4_goOn_L73]
      simp (disch := omega) only [↓reduceIte, ↓p_ld, ↓p_st, ↓p_nm, ↓p_nS, ↓p_jn, ↓p_call, ↓p_callv, ↓p_dv, ↓p_rem, h_ldE, h_stE, h_nmE, h_nSE, h_callE, h_callvE, h_dvE, h_remE, if_true, if_false, z_upS, z_upO, z_upK, nI_add, z_mul, z_sub, z_div, Nat.add_zero, Nat.mul_zero, Nat.zero_add, Nat.sub_zero, Nat.zero_mul, z_ltT, z_ltF, z_leT, z_leF, z_eqT, z_eqF, z_inT, z_clT, not_true_eq_false, not_false_eq_true, eq_self, true_or, or_true, z_m_lt, z_m_le, z_lt_m, z_le_m, z_eq_m, z_m_eq, z_rz0, z_rz1, z_m_add, z_of, r_0_0, r_0_1, r_0_3, r_0_4, r_0_5, r_0_6, r_0_7, r_0_8, r_0_9, r_0_10, r_1_0, r_1_1, r_1_2, r_1_3, r_1_4, r_1_5, r_1_6, r_1_7, r_1_8, r_2_0, r_2_1, r_2_2, r_2_3, r_2_4, r_2_5, r_2_6, r_2_7, r_11_0, r_11_1, r_11_2, r_11_3, r_11_4, r_11_5, r_11_6, r_19_0, r_21_0, r_23_0, r_25_0, r_27_0, r_61_0, r_117_0, r_117_1, r_117_2, r_117_3, r_117_4, r_117_5, r_117_6, r_117_7, r_126_0, r_126_1, r_126_2, r_126_3, r_126_4, r_132_0, r_132_1, r_135_0, r_135_1, r_135_2, r_135_3, r_135_4, r_135_5, r_142_0, r_144_0, r_144_1, r_144_2, r_145_0, r_145_1, r_145_2, r_145_3, r_145_4, r_145_5, r_145_6, r_154_0, r_154_1, r_155_0, ↓z_m1, l_0, l_1, l_2, l_3, l_4, l_5, l_6, l_7, l_8, l_9, l_10, l_11, l_12, l_13, l_14, l_15, l_16, l_17, l_18, l_19, l_20, l_21, l_22, l_23, l_24, l_25, l_26, l_27, l_28, l_29, l_30, l_31, l_32, l_33, l_34, l_35, l_36, l_37, l_38, l_39, l_40, l_41, l_42, l_43, l_44, l_45, l_46, l_47, l_48, l_49, l_50, l_51, l_52, l_53, l_54, l_55, l_56, l_57, l_59, l_60, l_61, l_62, l_63, l_64, l_65, l_80, l_86, l_87, l_88, l_89, l_90, l_91, l_92, l_93, l_94, l_95, l_97, l_99, l_100, l_107, l_119, l_122, l_124, l_129, l_140, l_141, l_142, l_143, l_144, l_145, l_147, l_150, l_159, l_160, l_161, l_162, l_205, l_253, l_255, l_256, l_269, l_305, l_380, l_399, l_400, l_420, l_430, l_516, l_600, l_720, l_820, l_905, l_921, l_937, l_953, l_970, l_999, l_1000, l_1790, l_4096, l_9999, l_1000000]
    · have esh := z_shl (m := i) (by omega)
      by_cases q : nx.testBit i = true
      · have eI := c_isInT (n := n) (σ := σ) (s := nx) (by omega) (show i < 31 by omega) q
        obtain ⟨b1, b2, b3⟩ := z_dlB (show i < 12 by omega) (show s < 4096 by omega) (hns i q)
        have hy : s ||| 2 ^ i < N := by
          subst hN
          exact Nat.or_lt_two_pow hs (Nat.pow_lt_pow_right (by omega) (by omega))
        have hu := hT _ hy
        have hyes := z_UQ_yes (H := H) (mu := mu) (s := s) (nx := nx) (show i < mu by omega) ⟨b2, b1, q⟩
        obtain ⟨σ', k1, k2, k3⟩ := ih (i+1) (q_up σ 138 (s ||| 2 ^ i) (nI (z_UQ H mu s nx (i+1) (s ||| 2 ^ i)))) (by omega) (by omega) (fun y hyN => by
          by_cases qy : y = s ||| 2 ^ i
          · subst qy; exact z_upS
          · rw [z_upK qy, hT y hyN, z_UQ_no (fun hh => qy (z_dlA (by omega) (by omega) hh.1 hh.2.1))])
        refine ⟨σ', fun o ho => by rw [k1 o ho, z_upO ho], k2, ?_⟩
        rw [hyes] at k3
        rw [← k3, f_X4_goOn_L73]
        have eor : nI s ||| nI (2 ^ i) = nI (s ||| 2 ^ i) := z_or _ _
        have eor2 : nI (z_UQ H mu s nx i (s ||| 2 ^ i)) ||| nI (2 ^ i) = nI (z_UQ H mu s nx i (s ||| 2 ^ i) ||| 2 ^ i) := z_or _ _
        have hb : s ||| 2 ^ i < 4096 := b3
        generalize z_UQ H mu s nx i (s ||| 2 ^ i) = u at *
        generalize s ||| 2 ^ i = y at *
        generalize 2 ^ i = p at *
        simp (disch := omega) only [eI, esh, eor, hu, eor2, ↓reduceIte, ↓p_ld, ↓p_st, ↓p_nm, ↓p_nS, ↓p_jn, ↓p_call, ↓p_callv, ↓p_dv, ↓p_rem, h_ldE, h_stE, h_nmE, h_nSE, h_callE, h_callvE, h_dvE, h_remE, if_true, if_false, z_upS, z_upO, z_upK, nI_add, z_mul, z_sub, z_div, Nat.add_zero, Nat.mul_zero, Nat.zero_add, Nat.sub_zero, Nat.zero_mul, z_ltT, z_ltF, z_leT, z_leF, z_eqT, z_eqF, z_inT, z_clT, not_true_eq_false, not_false_eq_true, eq_self, true_or, or_true, z_m_lt, z_m_le, z_lt_m, z_le_m, z_eq_m, z_m_eq, z_rz0, z_rz1, z_m_add, z_of, r_0_0, r_0_1, r_0_3, r_0_4, r_0_5, r_0_6, r_0_7, r_0_8, r_0_9, r_0_10, r_1_0, r_1_1, r_1_2, r_1_3, r_1_4, r_1_5, r_1_6, r_1_7, r_1_8, r_2_0, r_2_1, r_2_2, r_2_3, r_2_4, r_2_5, r_2_6, r_2_7, r_11_0, r_11_1, r_11_2, r_11_3, r_11_4, r_11_5, r_11_6, r_19_0, r_21_0, r_23_0, r_25_0, r_27_0, r_61_0, r_117_0, r_117_1, r_117_2, r_117_3, r_117_4, r_117_5, r_117_6, r_117_7, r_126_0, r_126_1, r_126_2, r_126_3, r_126_4, r_132_0, r_132_1, r_135_0, r_135_1, r_135_2, r_135_3, r_135_4, r_135_5, r_142_0, r_144_0, r_144_1, r_144_2, r_145_0, r_145_1, r_145_2, r_145_3, r_145_4, r_145_5, r_145_6, r_154_0, r_154_1, r_155_0, ↓z_m1, l_0, l_1, l_2, l_3, l_4, l_5, l_6, l_7, l_8, l_9, l_10, l_11, l_12, l_13, l_14, l_15, l_16, l_17, l_18, l_19, l_20, l_21, l_22, l_23, l_24, l_25, l_26, l_27, l_28, l_29, l_30, l_31, l_32, l_33, l_34, l_35, l_36, l_37, l_38, l_39, l_40, l_41, l_42, l_43, l_44, l_45, l_46, l_47, l_48, l_49, l_50, l_51, l_52, l_53, l_54, l_55, l_56, l_57, l_59, l_60, l_61, l_62, l_63, l_64, l_65, l_80, l_86, l_87, l_88, l_89, l_90, l_91, l_92, l_93, l_94, l_95, l_97, l_99, l_100, l_107, l_119, l_122, l_124, l_129, l_140, l_141, l_142, l_143, l_144, l_145, l_147, l_150, l_159, l_160, l_161, l_162, l_205, l_253, l_255, l_256, l_269, l_305, l_380, l_399, l_400, l_420, l_430, l_516, l_600, l_720, l_820, l_905, l_921, l_937, l_953, l_970, l_999, l_1000, l_1790, l_4096, l_9999, l_1000000]
      · have eI := c_isInF (n := n) (σ := σ) (s := nx) (by omega) (show i < 31 by omega) q
        obtain ⟨σ', k1, k2, k3⟩ := ih (i+1) σ (by omega) (by omega) (fun y hyN => by rw [hT y hyN, z_UQ_no (fun hh => q hh.2.2)])
        refine ⟨σ', k1, k2, ?_⟩
        rw [← k3, f_X4_goOn_L73]
        simp (disch := omega) only [eI, ↓reduceIte, ↓p_ld, ↓p_st, ↓p_nm, ↓p_nS, ↓p_jn, ↓p_call, ↓p_callv, ↓p_dv, ↓p_rem, h_ldE, h_stE, h_nmE, h_nSE, h_callE, h_callvE, h_dvE, h_remE, if_true, if_false, z_upS, z_upO, z_upK, nI_add, z_mul, z_sub, z_div, Nat.add_zero, Nat.mul_zero, Nat.zero_add, Nat.sub_zero, Nat.zero_mul, z_ltT, z_ltF, z_leT, z_leF, z_eqT, z_eqF, z_inT, z_clT, not_true_eq_false, not_false_eq_true, eq_self, true_or, or_true, z_m_lt, z_m_le, z_lt_m, z_le_m, z_eq_m, z_m_eq, z_rz0, z_rz1, z_m_add, z_of, r_0_0, r_0_1, r_0_3, r_0_4, r_0_5, r_0_6, r_0_7, r_0_8, r_0_9, r_0_10, r_1_0, r_1_1, r_1_2, r_1_3, r_1_4, r_1_5, r_1_6, r_1_7, r_1_8, r_2_0, r_2_1, r_2_2, r_2_3, r_2_4, r_2_5, r_2_6, r_2_7, r_11_0, r_11_1, r_11_2, r_11_3, r_11_4, r_11_5, r_11_6, r_19_0, r_21_0, r_23_0, r_25_0, r_27_0, r_61_0, r_117_0, r_117_1, r_117_2, r_117_3, r_117_4, r_117_5, r_117_6, r_117_7, r_126_0, r_126_1, r_126_2, r_126_3, r_126_4, r_132_0, r_132_1, r_135_0, r_135_1, r_135_2, r_135_3, r_135_4, r_135_5, r_142_0, r_144_0, r_144_1, r_144_2, r_145_0, r_145_1, r_145_2, r_145_3, r_145_4, r_145_5, r_145_6, r_154_0, r_154_1, r_155_0, ↓z_m1, l_0, l_1, l_2, l_3, l_4, l_5, l_6, l_7, l_8, l_9, l_10, l_11, l_12, l_13, l_14, l_15, l_16, l_17, l_18, l_19, l_20, l_21, l_22, l_23, l_24, l_25, l_26, l_27, l_28, l_29, l_30, l_31, l_32, l_33, l_34, l_35, l_36, l_37, l_38, l_39, l_40, l_41, l_42, l_43, l_44, l_45, l_46, l_47, l_48, l_49, l_50, l_51, l_52, l_53, l_54, l_55, l_56, l_57, l_59, l_60, l_61, l_62, l_63, l_64, l_65, l_80, l_86, l_87, l_88, l_89, l_90, l_91, l_92, l_93, l_94, l_95, l_97, l_99, l_100, l_107, l_119, l_122, l_124, l_129, l_140, l_141, l_142, l_143, l_144, l_145, l_147, l_150, l_159, l_160, l_161, l_162, l_205, l_253, l_255, l_256, l_269, l_305, l_380, l_399, l_400, l_420, l_430, l_516, l_600, l_720, l_820, l_905, l_921, l_937, l_953, l_970, l_999, l_1000, l_1790, l_4096, l_9999, l_1000000]
theorem c_goOn {mu s N : Nat} {H : Nat → Nat} {σ : q_Sto} (hmu : mu ≤ 12) (hN : N = 2 ^ mu) (hs0 : s ≠ 0) (hs : s < N) (hH : ∀ k, k < 12 → H k < 4096) (h141 : ∀ k, k < mu → σ 141 k = nI (H k)) (hT : ∀ y, y < N → σ 138 y = nI (z_TQ H mu s y)) :
    ∃ σ', (∀ o, o ≠ 138 → σ' o = σ o) ∧ (∀ y, y < N → σ' 138 y = nI (z_TQ H mu (s+1) y)) ∧ f_X4_goOn q_F 135 (nI s) (nI mu) σ = some (nI 0, σ') := by
  have h12 := z_p12 hmu
  have he := hT s hs
  rw [z_TQ_E hmu (by omega) (Nat.le_refl s)] at he
  have hE : z_ES H mu s < 4096 := by rw [z_ES_eq hmu (by omega)]; exact z_set_lt12 _ hmu
  have hx := z_nxs_lt (E := z_ES H mu s) hH mu hmu
  have key := c_nexts_L (n := q_F) (E := z_ES H mu s) (K := (fun (y12 : Int32) (s13 : q_Sto) =>
  q_nm (y12 &&& (nI s ^^^ (-1))) fun v14 =>
  f_X4_goOn_L73 q_F 135 (nI s) (nI mu) v14 q_F 0 s13)) hmu (show s < 4096 by omega) hE he hH h141 q_F 0 (Nat.zero_le _) (by unfold q_F; omega)
  have e0 : z_nxs H (z_ES H mu s) 0 = 0 := rfl
  rw [e0] at key
  have ea : nI (z_nxs H (z_ES H mu s) mu) &&& (nI s ^^^ z_m) = nI (z_nxs H (z_ES H mu s) mu &&& (s ^^^ 4095)) := z_andn12 hx
  have htb : ∀ i, (z_nxs H (z_ES H mu s) mu &&& (s ^^^ 4095)).testBit i = ((z_nxs H (z_ES H mu s) mu).testBit i && !s.testBit i) := by
    intro i
    rw [show 4095 = 2 ^ 12 - 1 by omega, Nat.testBit_and, Nat.testBit_xor, Nat.testBit_two_pow_sub_one]
    by_cases q : i < 12
    · simp [q]
    · have : (z_nxs H (z_ES H mu s) mu).testBit i = false := z_tb_lt (N := 12) hx (by omega)
      simp [this]
  have hle : z_nxs H (z_ES H mu s) mu &&& (s ^^^ 4095) ≤ z_nxs H (z_ES H mu s) mu := Nat.and_le_left
  obtain ⟨σ', k1, k2, k3⟩ := c_push_L (n := q_F) (H := H) (nx := z_nxs H (z_ES H mu s) mu &&& (s ^^^ 4095)) hmu hN hs (by omega) (fun m hm => by
    rw [htb] at hm
    intro hh
    rw [hh] at hm
    simp at hm) q_F 0 σ (Nat.zero_le _) (by unfold q_F; omega) (fun y hy => by rw [z_UQ0]; exact hT y hy)
  refine ⟨σ', k1, fun y hy => ?_, ?_⟩
  · rw [k2 y hy, ← z_UQ_end hmu (by omega) hs0]
    congr 1
    unfold z_UQ
    refine z_set_congr (fun m hm => ?_)
    unfold z_uq
    rw [htb]
    by_cases q : y &&& (2 ^ m ^^^ 4095) = s
    · have : s.testBit m = false := by
        rw [← q, z_dl (show m < 12 by omega) m (by omega)]
        simp
      rw [this]
      simp
    · rw [decide_eq_false q]
      simp
  · rw [← k3]
    generalize z_nxs H (z_ES H mu s) mu = nx at *
    generalize nx &&& (s ^^^ 4095) = nx' at *
    have key2 : f_X4_goOn_L17 q_F 135 (nI s) (nI mu) (fun (y12 : Int32) (s13 : q_Sto) =>
  q_nm (y12 &&& (nI s ^^^ (-1))) fun v14 =>
  f_X4_goOn_L73 q_F 135 (nI s) (nI mu) v14 q_F 0 s13) q_F 0 0 σ = f_X4_goOn_L73 q_F 135 (nI s) (nI mu) (nI nx') q_F 0 σ := by
      refine Eq.trans key ?_
      simp (disch := omega) only [ea, ↓reduceIte, ↓p_ld, ↓p_st, ↓p_nm, ↓p_nS, ↓p_jn, ↓p_call, ↓p_callv, ↓p_dv, ↓p_rem, h_ldE, h_stE, h_nmE, h_nSE, h_callE, h_callvE, h_dvE, h_remE, if_true, if_false, z_upS, z_upO, z_upK, nI_add, z_mul, z_sub, z_div, Nat.add_zero, Nat.mul_zero, Nat.zero_add, Nat.sub_zero, Nat.zero_mul, z_ltT, z_ltF, z_leT, z_leF, z_eqT, z_eqF, z_inT, z_clT, not_true_eq_false, not_false_eq_true, eq_self, true_or, or_true, z_m_lt, z_m_le, z_lt_m, z_le_m, z_eq_m, z_m_eq, z_rz0, z_rz1, z_m_add, z_of, r_0_0, r_0_1, r_0_3, r_0_4, r_0_5, r_0_6, r_0_7, r_0_8, r_0_9, r_0_10, r_1_0, r_1_1, r_1_2, r_1_3, r_1_4, r_1_5, r_1_6, r_1_7, r_1_8, r_2_0, r_2_1, r_2_2, r_2_3, r_2_4, r_2_5, r_2_6, r_2_7, r_11_0, r_11_1, r_11_2, r_11_3, r_11_4, r_11_5, r_11_6, r_19_0, r_21_0, r_23_0, r_25_0, r_27_0, r_61_0, r_117_0, r_117_1, r_117_2, r_117_3, r_117_4, r_117_5, r_117_6, r_117_7, r_126_0, r_126_1, r_126_2, r_126_3, r_126_4, r_132_0, r_132_1, r_135_0, r_135_1, r_135_2, r_135_3, r_135_4, r_135_5, r_142_0, r_144_0, r_144_1, r_144_2, r_145_0, r_145_1, r_145_2, r_145_3, r_145_4, r_145_5, r_145_6, r_154_0, r_154_1, r_155_0, ↓z_m1, l_0, l_1, l_2, l_3, l_4, l_5, l_6, l_7, l_8, l_9, l_10, l_11, l_12, l_13, l_14, l_15, l_16, l_17, l_18, l_19, l_20, l_21, l_22, l_23, l_24, l_25, l_26, l_27, l_28, l_29, l_30, l_31, l_32, l_33, l_34, l_35, l_36, l_37, l_38, l_39, l_40, l_41, l_42, l_43, l_44, l_45, l_46, l_47, l_48, l_49, l_50, l_51, l_52, l_53, l_54, l_55, l_56, l_57, l_59, l_60, l_61, l_62, l_63, l_64, l_65, l_80, l_86, l_87, l_88, l_89, l_90, l_91, l_92, l_93, l_94, l_95, l_97, l_99, l_100, l_107, l_119, l_122, l_124, l_129, l_140, l_141, l_142, l_143, l_144, l_145, l_147, l_150, l_159, l_160, l_161, l_162, l_205, l_253, l_255, l_256, l_269, l_305, l_380, l_399, l_400, l_420, l_430, l_516, l_600, l_720, l_820, l_905, l_921, l_937, l_953, l_970, l_999, l_1000, l_1790, l_4096, l_9999, l_1000000]
    unfold f_X4_goOn
    rw [key2]
    simp (disch := omega) only [↓reduceIte, ↓p_ld, ↓p_st, ↓p_nm, ↓p_nS, ↓p_jn, ↓p_call, ↓p_callv, ↓p_dv, ↓p_rem, h_ldE, h_stE, h_nmE, h_nSE, h_callE, h_callvE, h_dvE, h_remE, if_true, if_false, z_upS, z_upO, z_upK, nI_add, z_mul, z_sub, z_div, Nat.add_zero, Nat.mul_zero, Nat.zero_add, Nat.sub_zero, Nat.zero_mul, z_ltT, z_ltF, z_leT, z_leF, z_eqT, z_eqF, z_inT, z_clT, not_true_eq_false, not_false_eq_true, eq_self, true_or, or_true, z_m_lt, z_m_le, z_lt_m, z_le_m, z_eq_m, z_m_eq, z_rz0, z_rz1, z_m_add, z_of, r_0_0, r_0_1, r_0_3, r_0_4, r_0_5, r_0_6, r_0_7, r_0_8, r_0_9, r_0_10, r_1_0, r_1_1, r_1_2, r_1_3, r_1_4, r_1_5, r_1_6, r_1_7, r_1_8, r_2_0, r_2_1, r_2_2, r_2_3, r_2_4, r_2_5, r_2_6, r_2_7, r_11_0, r_11_1, r_11_2, r_11_3, r_11_4, r_11_5, r_11_6, r_19_0, r_21_0, r_23_0, r_25_0, r_27_0, r_61_0, r_117_0, r_117_1, r_117_2, r_117_3, r_117_4, r_117_5, r_117_6, r_117_7, r_126_0, r_126_1, r_126_2, r_126_3, r_126_4, r_132_0, r_132_1, r_135_0, r_135_1, r_135_2, r_135_3, r_135_4, r_135_5, r_142_0, r_144_0, r_144_1, r_144_2, r_145_0, r_145_1, r_145_2, r_145_3, r_145_4, r_145_5, r_145_6, r_154_0, r_154_1, r_155_0, ↓z_m1, l_0, l_1, l_2, l_3, l_4, l_5, l_6, l_7, l_8, l_9, l_10, l_11, l_12, l_13, l_14, l_15, l_16, l_17, l_18, l_19, l_20, l_21, l_22, l_23, l_24, l_25, l_26, l_27, l_28, l_29, l_30, l_31, l_32, l_33, l_34, l_35, l_36, l_37, l_38, l_39, l_40, l_41, l_42, l_43, l_44, l_45, l_46, l_47, l_48, l_49, l_50, l_51, l_52, l_53, l_54, l_55, l_56, l_57, l_59, l_60, l_61, l_62, l_63, l_64, l_65, l_80, l_86, l_87, l_88, l_89, l_90, l_91, l_92, l_93, l_94, l_95, l_97, l_99, l_100, l_107, l_119, l_122, l_124, l_129, l_140, l_141, l_142, l_143, l_144, l_145, l_147, l_150, l_159, l_160, l_161, l_162, l_205, l_253, l_255, l_256, l_269, l_305, l_380, l_399, l_400, l_420, l_430, l_516, l_600, l_720, l_820, l_905, l_921, l_937, l_953, l_970, l_999, l_1000, l_1790, l_4096, l_9999, l_1000000]
theorem c_row_L {mu N : Nat} {H : Nat → Nat} (hmu : mu ≤ 12) (hN : N = 2 ^ mu) (hH : ∀ k, k < 12 → H k < 4096) : ∀ j s (σ : q_Sto), 1 ≤ s → s ≤ N → N < j + s → (∀ k, k < mu → σ 141 k = nI (H k)) → (∀ y, y < N → σ 138 y = nI (z_TQ H mu s y)) →
    ∃ σ', (∀ o, o ≠ 138 → σ' o = σ o) ∧ f_X4_longestRow_L83 q_F 135 (nI mu) (nI N) j (nI (z_lr H mu s)) (nI s) σ = some (nI (z_lr H mu N), σ') := by
  have h12 := z_p12 hmu
  intro j
  induction j with
  | zero => intro s σ h0 h1 h2; omega
  | succ j ih =>
    intro s σ h0 h1 h2 h141 hT
    by_cases hi : s = N
    · subst hi
      refine ⟨σ, fun _ _ => rfl, ?_⟩
      generalize z_lr H mu s = y
      rw [f_X4_longestRow_L83]
      simp (disch := omega) only [↓reduceIte, ↓p_ld, ↓p_st, ↓p_nm, ↓p_nS, ↓p_jn, ↓p_call, ↓p_callv, ↓p_dv, ↓p_rem, h_ldE, h_stE, h_nmE, h_nSE, h_callE, h_callvE, h_dvE, h_remE, if_true, if_false, z_upS, z_upO, z_upK, nI_add, z_mul, z_sub, z_div, Nat.add_zero, Nat.mul_zero, Nat.zero_add, Nat.sub_zero, Nat.zero_mul, z_ltT, z_ltF, z_leT, z_leF, z_eqT, z_eqF, z_inT, z_clT, not_true_eq_false, not_false_eq_true, eq_self, true_or, or_true, z_m_lt, z_m_le, z_lt_m, z_le_m, z_eq_m, z_m_eq, z_rz0, z_rz1, z_m_add, z_of, r_0_0, r_0_1, r_0_3, r_0_4, r_0_5, r_0_6, r_0_7, r_0_8, r_0_9, r_0_10, r_1_0, r_1_1, r_1_2, r_1_3, r_1_4, r_1_5, r_1_6, r_1_7, r_1_8, r_2_0, r_2_1, r_2_2, r_2_3, r_2_4, r_2_5, r_2_6, r_2_7, r_11_0, r_11_1, r_11_2, r_11_3, r_11_4, r_11_5, r_11_6, r_19_0, r_21_0, r_23_0, r_25_0, r_27_0, r_61_0, r_117_0, r_117_1, r_117_2, r_117_3, r_117_4, r_117_5, r_117_6, r_117_7, r_126_0, r_126_1, r_126_2, r_126_3, r_126_4, r_132_0, r_132_1, r_135_0, r_135_1, r_135_2, r_135_3, r_135_4, r_135_5, r_142_0, r_144_0, r_144_1, r_144_2, r_145_0, r_145_1, r_145_2, r_145_3, r_145_4, r_145_5, r_145_6, r_154_0, r_154_1, r_155_0, ↓z_m1, l_0, l_1, l_2, l_3, l_4, l_5, l_6, l_7, l_8, l_9, l_10, l_11, l_12, l_13, l_14, l_15, l_16, l_17, l_18, l_19, l_20, l_21, l_22, l_23, l_24, l_25, l_26, l_27, l_28, l_29, l_30, l_31, l_32, l_33, l_34, l_35, l_36, l_37, l_38, l_39, l_40, l_41, l_42, l_43, l_44, l_45, l_46, l_47, l_48, l_49, l_50, l_51, l_52, l_53, l_54, l_55, l_56, l_57, l_59, l_60, l_61, l_62, l_63, l_64, l_65, l_80, l_86, l_87, l_88, l_89, l_90, l_91, l_92, l_93, l_94, l_95, l_97, l_99, l_100, l_107, l_119, l_122, l_124, l_129, l_140, l_141, l_142, l_143, l_144, l_145, l_147, l_150, l_159, l_160, l_161, l_162, l_205, l_253, l_255, l_256, l_269, l_305, l_380, l_399, l_400, l_420, l_430, l_516, l_600, l_720, l_820, l_905, l_921, l_937, l_953, l_970, l_999, l_1000, l_1790, l_4096, l_9999, l_1000000]
    · have he := hT s (by omega)
      rw [z_TQ_E hmu (by omega) (Nat.le_refl s)] at he
      have hE : z_ES H mu s < 4096 := by rw [z_ES_eq hmu (by omega)]; exact z_set_lt12 _ hmu
      have e : z_lr H mu (s+1) = if z_ES H mu s = 0 then z_lr H mu s else max (z_lr H mu s) (z_cnt s 12) := rfl
      by_cases q : z_ES H mu s = 0
      · obtain ⟨σ', k1, k2⟩ := ih (s+1) σ (by omega) (by omega) (by omega) h141 (fun y hy => by
          rw [hT y hy]
          congr 1
          unfold z_TQ
          refine z_set_congr (fun m hm => ?_)
          unfold z_tpp
          generalize hr : y &&& (2 ^ m ^^^ 4095) = r
          by_cases q1 : r < s
          · rw [decide_eq_true q1, decide_eq_true (show r < s + 1 by omega)]
          · rw [decide_eq_false q1]
            by_cases q2 : r < s + 1
            · have : r = s := by omega
              subst this
              have ex : ∀ i, z_ex (fun k => (z_ES H mu r).testBit k && (H k).testBit m) i = false := by
                intro i
                induction i with
                | zero => rfl
                | succ i ih =>
                  show (z_ex (fun k => (z_ES H mu r).testBit k && (H k).testBit m) i || ((z_ES H mu r).testBit i && (H i).testBit m)) = false
                  rw [ih, q, Nat.zero_testBit]
                  rfl
              rw [ex, Bool.and_false, Bool.and_false]
            · rw [decide_eq_false q2])
        refine ⟨σ', k1, ?_⟩
        rw [e, if_pos q] at k2
        rw [q] at he
        rw [← k2, f_X4_longestRow_L83]
        generalize z_lr H mu s = y at *
        simp (disch := omega) only [he, ↓reduceIte, ↓p_ld, ↓p_st, ↓p_nm, ↓p_nS, ↓p_jn, ↓p_call, ↓p_callv, ↓p_dv, ↓p_rem, h_ldE, h_stE, h_nmE, h_nSE, h_callE, h_callvE, h_dvE, h_remE, if_true, if_false, z_upS, z_upO, z_upK, nI_add, z_mul, z_sub, z_div, Nat.add_zero, Nat.mul_zero, Nat.zero_add, Nat.sub_zero, Nat.zero_mul, z_ltT, z_ltF, z_leT, z_leF, z_eqT, z_eqF, z_inT, z_clT, not_true_eq_false, not_false_eq_true, eq_self, true_or, or_true, z_m_lt, z_m_le, z_lt_m, z_le_m, z_eq_m, z_m_eq, z_rz0, z_rz1, z_m_add, z_of, r_0_0, r_0_1, r_0_3, r_0_4, r_0_5, r_0_6, r_0_7, r_0_8, r_0_9, r_0_10, r_1_0, r_1_1, r_1_2, r_1_3, r_1_4, r_1_5, r_1_6, r_1_7, r_1_8, r_2_0, r_2_1, r_2_2, r_2_3, r_2_4, r_2_5, r_2_6, r_2_7, r_11_0, r_11_1, r_11_2, r_11_3, r_11_4, r_11_5, r_11_6, r_19_0, r_21_0, r_23_0, r_25_0, r_27_0, r_61_0, r_117_0, r_117_1, r_117_2, r_117_3, r_117_4, r_117_5, r_117_6, r_117_7, r_126_0, r_126_1, r_126_2, r_126_3, r_126_4, r_132_0, r_132_1, r_135_0, r_135_1, r_135_2, r_135_3, r_135_4, r_135_5, r_142_0, r_144_0, r_144_1, r_144_2, r_145_0, r_145_1, r_145_2, r_145_3, r_145_4, r_145_5, r_145_6, r_154_0, r_154_1, r_155_0, ↓z_m1, l_0, l_1, l_2, l_3, l_4, l_5, l_6, l_7, l_8, l_9, l_10, l_11, l_12, l_13, l_14, l_15, l_16, l_17, l_18, l_19, l_20, l_21, l_22, l_23, l_24, l_25, l_26, l_27, l_28, l_29, l_30, l_31, l_32, l_33, l_34, l_35, l_36, l_37, l_38, l_39, l_40, l_41, l_42, l_43, l_44, l_45, l_46, l_47, l_48, l_49, l_50, l_51, l_52, l_53, l_54, l_55, l_56, l_57, l_59, l_60, l_61, l_62, l_63, l_64, l_65, l_80, l_86, l_87, l_88, l_89, l_90, l_91, l_92, l_93, l_94, l_95, l_97, l_99, l_100, l_107, l_119, l_122, l_124, l_129, l_140, l_141, l_142, l_143, l_144, l_145, l_147, l_150, l_159, l_160, l_161, l_162, l_205, l_253, l_255, l_256, l_269, l_305, l_380, l_399, l_400, l_420, l_430, l_516, l_600, l_720, l_820, l_905, l_921, l_937, l_953, l_970, l_999, l_1000, l_1790, l_4096, l_9999, l_1000000]
      · obtain ⟨σ1, g1, g2, g3⟩ := c_goOn hmu hN (show s ≠ 0 by omega) (show s < N by omega) hH h141 hT
        obtain ⟨σ', k1, k2⟩ := ih (s+1) σ1 (by omega) (by omega) (by omega) (fun k hk => by rw [g1 141 (by omega)]; exact h141 k hk) g2
        refine ⟨σ', fun o ho => by rw [k1 o ho, g1 o ho], ?_⟩
        rw [e, if_neg q] at k2
        have ec := c_bitCount (n := q_F) (σ := σ) (show s < 4096 by omega)
        have hb := z_lr_le (H := H) (mu := mu) s
        have hc := z_cnt_le s 12
        rw [← k2, f_X4_longestRow_L83]
        generalize z_lr H mu s = y at *
        generalize z_cnt s 12 = cn at *
        generalize z_ES H mu s = E at *
        simp (disch := omega) only [he, ec, z_mxE, g3, ↓reduceIte, ↓p_ld, ↓p_st, ↓p_nm, ↓p_nS, ↓p_jn, ↓p_call, ↓p_callv, ↓p_dv, ↓p_rem, h_ldE, h_stE, h_nmE, h_nSE, h_callE, h_callvE, h_dvE, h_remE, if_true, if_false, z_upS, z_upO, z_upK, nI_add, z_mul, z_sub, z_div, Nat.add_zero, Nat.mul_zero, Nat.zero_add, Nat.sub_zero, Nat.zero_mul, z_ltT, z_ltF, z_leT, z_leF, z_eqT, z_eqF, z_inT, z_clT, not_true_eq_false, not_false_eq_true, eq_self, true_or, or_true, z_m_lt, z_m_le, z_lt_m, z_le_m, z_eq_m, z_m_eq, z_rz0, z_rz1, z_m_add, z_of, r_0_0, r_0_1, r_0_3, r_0_4, r_0_5, r_0_6, r_0_7, r_0_8, r_0_9, r_0_10, r_1_0, r_1_1, r_1_2, r_1_3, r_1_4, r_1_5, r_1_6, r_1_7, r_1_8, r_2_0, r_2_1, r_2_2, r_2_3, r_2_4, r_2_5, r_2_6, r_2_7, r_11_0, r_11_1, r_11_2, r_11_3, r_11_4, r_11_5, r_11_6, r_19_0, r_21_0, r_23_0, r_25_0, r_27_0, r_61_0, r_117_0, r_117_1, r_117_2, r_117_3, r_117_4, r_117_5, r_117_6, r_117_7, r_126_0, r_126_1, r_126_2, r_126_3, r_126_4, r_132_0, r_132_1, r_135_0, r_135_1, r_135_2, r_135_3, r_135_4, r_135_5, r_142_0, r_144_0, r_144_1, r_144_2, r_145_0, r_145_1, r_145_2, r_145_3, r_145_4, r_145_5, r_145_6, r_154_0, r_154_1, r_155_0, ↓z_m1, l_0, l_1, l_2, l_3, l_4, l_5, l_6, l_7, l_8, l_9, l_10, l_11, l_12, l_13, l_14, l_15, l_16, l_17, l_18, l_19, l_20, l_21, l_22, l_23, l_24, l_25, l_26, l_27, l_28, l_29, l_30, l_31, l_32, l_33, l_34, l_35, l_36, l_37, l_38, l_39, l_40, l_41, l_42, l_43, l_44, l_45, l_46, l_47, l_48, l_49, l_50, l_51, l_52, l_53, l_54, l_55, l_56, l_57, l_59, l_60, l_61, l_62, l_63, l_64, l_65, l_80, l_86, l_87, l_88, l_89, l_90, l_91, l_92, l_93, l_94, l_95, l_97, l_99, l_100, l_107, l_119, l_122, l_124, l_129, l_140, l_141, l_142, l_143, l_144, l_145, l_147, l_150, l_159, l_160, l_161, l_162, l_205, l_253, l_255, l_256, l_269, l_305, l_380, l_399, l_400, l_420, l_430, l_516, l_600, l_720, l_820, l_905, l_921, l_937, l_953, l_970, l_999, l_1000, l_1790, l_4096, l_9999, l_1000000]
theorem c_fillN {n t N : Nat} (hN : N < 1073741824) : ∀ j i (σ : q_Sto), i ≤ N → N < j + i → (∀ k, k < i → σ t k = nI 0) → ∃ σ', (∀ o, o ≠ t → σ' o = σ o) ∧ (∀ k, k < N → σ' t k = nI 0) ∧ f_J7_fill_53178_L5 n N t (nI 0) (nI N) j (nI i) σ = some (nI 0, σ') := by
  intro j
  induction j with
  | zero => intro i σ h1 h2; omega
  | succ j ih =>
    intro i σ h1 h2 h
    by_cases hi : i = N
    · subst hi
      refine ⟨σ, fun _ _ => rfl, h, ?_⟩
      rw [f_J7_fill_53178_L5]
      simp (disch := omega) only [↓reduceIte, ↓p_ld, ↓p_st, ↓p_nm, ↓p_nS, ↓p_jn, ↓p_call, ↓p_callv, ↓p_dv, ↓p_rem, h_ldE, h_stE, h_nmE, h_nSE, h_callE, h_callvE, h_dvE, h_remE, if_true, if_false, z_upS, z_upO, z_upK, nI_add, z_mul, z_sub, z_div, Nat.add_zero, Nat.mul_zero, Nat.zero_add, Nat.sub_zero, Nat.zero_mul, z_ltT, z_ltF, z_leT, z_leF, z_eqT, z_eqF, z_inT, z_clT, not_true_eq_false, not_false_eq_true, eq_self, true_or, or_true, z_m_lt, z_m_le, z_lt_m, z_le_m, z_eq_m, z_m_eq, z_rz0, z_rz1, z_m_add, z_of, ↓z_m1, l_0, l_1, l_2, l_3, l_4, l_5, l_6, l_7, l_8, l_9, l_10, l_11, l_12, l_13, l_14, l_15, l_16, l_17, l_18, l_19, l_20, l_21, l_22, l_23, l_24, l_25, l_26, l_27, l_28, l_29, l_30, l_31, l_32, l_33, l_34, l_35, l_36, l_37, l_38, l_39, l_40, l_41, l_42, l_43, l_44, l_45, l_46, l_47, l_48, l_49, l_50, l_51, l_52, l_53, l_54, l_55, l_56, l_57, l_59, l_60, l_61, l_62, l_63, l_64, l_65, l_80, l_86, l_87, l_88, l_89, l_90, l_91, l_92, l_93, l_94, l_95, l_97, l_99, l_100, l_107, l_119, l_122, l_124, l_129, l_140, l_141, l_142, l_143, l_144, l_145, l_147, l_150, l_159, l_160, l_161, l_162, l_205, l_253, l_255, l_256, l_269, l_305, l_380, l_399, l_400, l_420, l_430, l_516, l_600, l_720, l_820, l_905, l_921, l_937, l_953, l_970, l_999, l_1000, l_1790, l_4096, l_9999, l_1000000]
    · obtain ⟨σ', k1, k2, k3⟩ := ih (i+1) (q_up σ t i (nI 0)) (by omega) (by omega) (fun k hk => by
        by_cases q : k = i
        · subst q; exact z_upS
        · rw [z_upK q]; exact h k (by omega))
      refine ⟨σ', fun o ho => by rw [k1 o ho, z_upO ho], k2, ?_⟩
      rw [← k3, f_J7_fill_53178_L5]
      simp (disch := omega) only [↓reduceIte, ↓p_ld, ↓p_st, ↓p_nm, ↓p_nS, ↓p_jn, ↓p_call, ↓p_callv, ↓p_dv, ↓p_rem, h_ldE, h_stE, h_nmE, h_nSE, h_callE, h_callvE, h_dvE, h_remE, if_true, if_false, z_upS, z_upO, z_upK, nI_add, z_mul, z_sub, z_div, Nat.add_zero, Nat.mul_zero, Nat.zero_add, Nat.sub_zero, Nat.zero_mul, z_ltT, z_ltF, z_leT, z_leF, z_eqT, z_eqF, z_inT, z_clT, not_true_eq_false, not_false_eq_true, eq_self, true_or, or_true, z_m_lt, z_m_le, z_lt_m, z_le_m, z_eq_m, z_m_eq, z_rz0, z_rz1, z_m_add, z_of, ↓z_m1, l_0, l_1, l_2, l_3, l_4, l_5, l_6, l_7, l_8, l_9, l_10, l_11, l_12, l_13, l_14, l_15, l_16, l_17, l_18, l_19, l_20, l_21, l_22, l_23, l_24, l_25, l_26, l_27, l_28, l_29, l_30, l_31, l_32, l_33, l_34, l_35, l_36, l_37, l_38, l_39, l_40, l_41, l_42, l_43, l_44, l_45, l_46, l_47, l_48, l_49, l_50, l_51, l_52, l_53, l_54, l_55, l_56, l_57, l_59, l_60, l_61, l_62, l_63, l_64, l_65, l_80, l_86, l_87, l_88, l_89, l_90, l_91, l_92, l_93, l_94, l_95, l_97, l_99, l_100, l_107, l_119, l_122, l_124, l_129, l_140, l_141, l_142, l_143, l_144, l_145, l_147, l_150, l_159, l_160, l_161, l_162, l_205, l_253, l_255, l_256, l_269, l_305, l_380, l_399, l_400, l_420, l_430, l_516, l_600, l_720, l_820, l_905, l_921, l_937, l_953, l_970, l_999, l_1000, l_1790, l_4096, l_9999, l_1000000]
theorem c_fillE {n t N : Nat} {v : Int32} {σ : q_Sto} : f_J7_fill_53178 n t N v σ = f_J7_fill_53178_L5 n N t v (nI N) n (nI 0) σ := rfl
theorem c_rowH_L {n mu N : Nat} {V : Nat → Int32} {H : Nat → Nat} {K : q_Sto → Option (Int32 × q_Sto)} (hn : 17 ≤ n) (hmu : mu ≤ 12) (hH : ∀ k, k < 12 → V (129+k) = nI (H k) ∧ H k < 4096) : ∀ j i (σ : q_Sto), i ≤ mu → mu < j + i → z_HE σ 1 V N → (∀ k, k < i → σ 141 k = nI (H k)) →
    ∃ σ', (∀ o, o ≠ 141 → σ' o = σ o) ∧ (∀ k, k < mu → σ' 141 k = nI (H k)) ∧ f_X4_longestRow_L15 n 135 1 (nI mu) K j (nI i) σ = K σ' := by
  intro j
  induction j with
  | zero => intro i σ h1 h2; omega
  | succ j ih =>
    intro i σ h1 h2 hE h
    by_cases hi : i = mu
    · subst hi
      refine ⟨σ, fun _ _ => rfl, h, ?_⟩
      rw [f_X4_longestRow_L15]
      simp (disch := omega) only [↓reduceIte, ↓p_ld, ↓p_st, ↓p_nm, ↓p_nS, ↓p_jn, ↓p_call, ↓p_callv, ↓p_dv, ↓p_rem, h_ldE, h_stE, h_nmE, h_nSE, h_callE, h_callvE, h_dvE, h_remE, if_true, if_false, z_upS, z_upO, z_upK, nI_add, z_mul, z_sub, z_div, Nat.add_zero, Nat.mul_zero, Nat.zero_add, Nat.sub_zero, Nat.zero_mul, z_ltT, z_ltF, z_leT, z_leF, z_eqT, z_eqF, z_inT, z_clT, not_true_eq_false, not_false_eq_true, eq_self, true_or, or_true, z_m_lt, z_m_le, z_lt_m, z_le_m, z_eq_m, z_m_eq, z_rz0, z_rz1, z_m_add, z_of, r_0_0, r_0_1, r_0_3, r_0_4, r_0_5, r_0_6, r_0_7, r_0_8, r_0_9, r_0_10, r_1_0, r_1_1, r_1_2, r_1_3, r_1_4, r_1_5, r_1_6, r_1_7, r_1_8, r_2_0, r_2_1, r_2_2, r_2_3, r_2_4, r_2_5, r_2_6, r_2_7, r_11_0, r_11_1, r_11_2, r_11_3, r_11_4, r_11_5, r_11_6, r_19_0, r_21_0, r_23_0, r_25_0, r_27_0, r_61_0, r_117_0, r_117_1, r_117_2, r_117_3, r_117_4, r_117_5, r_117_6, r_117_7, r_126_0, r_126_1, r_126_2, r_126_3, r_126_4, r_132_0, r_132_1, r_135_0, r_135_1, r_135_2, r_135_3, r_135_4, r_135_5, r_142_0, r_144_0, r_144_1, r_144_2, r_145_0, r_145_1, r_145_2, r_145_3, r_145_4, r_145_5, r_145_6, r_154_0, r_154_1, r_155_0, ↓z_m1, l_0, l_1, l_2, l_3, l_4, l_5, l_6, l_7, l_8, l_9, l_10, l_11, l_12, l_13, l_14, l_15, l_16, l_17, l_18, l_19, l_20, l_21, l_22, l_23, l_24, l_25, l_26, l_27, l_28, l_29, l_30, l_31, l_32, l_33, l_34, l_35, l_36, l_37, l_38, l_39, l_40, l_41, l_42, l_43, l_44, l_45, l_46, l_47, l_48, l_49, l_50, l_51, l_52, l_53, l_54, l_55, l_56, l_57, l_59, l_60, l_61, l_62, l_63, l_64, l_65, l_80, l_86, l_87, l_88, l_89, l_90, l_91, l_92, l_93, l_94, l_95, l_97, l_99, l_100, l_107, l_119, l_122, l_124, l_129, l_140, l_141, l_142, l_143, l_144, l_145, l_147, l_150, l_159, l_160, l_161, l_162, l_205, l_253, l_255, l_256, l_269, l_305, l_380, l_399, l_400, l_420, l_430, l_516, l_600, l_720, l_820, l_905, l_921, l_937, l_953, l_970, l_999, l_1000, l_1790, l_4096, l_9999, l_1000000]
    · have eh := c_heededBy (n := n) (m := i) hn hE (by omega)
      rw [(hH i (by omega)).1] at eh
      have hE' : z_HE (q_up σ 141 i (nI (H i))) 1 V N := by
        unfold z_HE at *
        rw [z_upO (show 1+18 ≠ 141 by omega), z_upO (show 1+19 ≠ 141 by omega)]
        exact hE
      obtain ⟨σ', k1, k2, k3⟩ := ih (i+1) (q_up σ 141 i (nI (H i))) (by omega) (by omega) hE' (fun k hk => by
        by_cases q : k = i
        · subst q; exact z_upS
        · rw [z_upK q]; exact h k (by omega))
      refine ⟨σ', fun o ho => by rw [k1 o ho, z_upO ho], k2, ?_⟩
      rw [← k3, f_X4_longestRow_L15]
      simp (disch := omega) only [eh, ↓reduceIte, ↓p_ld, ↓p_st, ↓p_nm, ↓p_nS, ↓p_jn, ↓p_call, ↓p_callv, ↓p_dv, ↓p_rem, h_ldE, h_stE, h_nmE, h_nSE, h_callE, h_callvE, h_dvE, h_remE, if_true, if_false, z_upS, z_upO, z_upK, nI_add, z_mul, z_sub, z_div, Nat.add_zero, Nat.mul_zero, Nat.zero_add, Nat.sub_zero, Nat.zero_mul, z_ltT, z_ltF, z_leT, z_leF, z_eqT, z_eqF, z_inT, z_clT, not_true_eq_false, not_false_eq_true, eq_self, true_or, or_true, z_m_lt, z_m_le, z_lt_m, z_le_m, z_eq_m, z_m_eq, z_rz0, z_rz1, z_m_add, z_of, r_0_0, r_0_1, r_0_3, r_0_4, r_0_5, r_0_6, r_0_7, r_0_8, r_0_9, r_0_10, r_1_0, r_1_1, r_1_2, r_1_3, r_1_4, r_1_5, r_1_6, r_1_7, r_1_8, r_2_0, r_2_1, r_2_2, r_2_3, r_2_4, r_2_5, r_2_6, r_2_7, r_11_0, r_11_1, r_11_2, r_11_3, r_11_4, r_11_5, r_11_6, r_19_0, r_21_0, r_23_0, r_25_0, r_27_0, r_61_0, r_117_0, r_117_1, r_117_2, r_117_3, r_117_4, r_117_5, r_117_6, r_117_7, r_126_0, r_126_1, r_126_2, r_126_3, r_126_4, r_132_0, r_132_1, r_135_0, r_135_1, r_135_2, r_135_3, r_135_4, r_135_5, r_142_0, r_144_0, r_144_1, r_144_2, r_145_0, r_145_1, r_145_2, r_145_3, r_145_4, r_145_5, r_145_6, r_154_0, r_154_1, r_155_0, ↓z_m1, l_0, l_1, l_2, l_3, l_4, l_5, l_6, l_7, l_8, l_9, l_10, l_11, l_12, l_13, l_14, l_15, l_16, l_17, l_18, l_19, l_20, l_21, l_22, l_23, l_24, l_25, l_26, l_27, l_28, l_29, l_30, l_31, l_32, l_33, l_34, l_35, l_36, l_37, l_38, l_39, l_40, l_41, l_42, l_43, l_44, l_45, l_46, l_47, l_48, l_49, l_50, l_51, l_52, l_53, l_54, l_55, l_56, l_57, l_59, l_60, l_61, l_62, l_63, l_64, l_65, l_80, l_86, l_87, l_88, l_89, l_90, l_91, l_92, l_93, l_94, l_95, l_97, l_99, l_100, l_107, l_119, l_122, l_124, l_129, l_140, l_141, l_142, l_143, l_144, l_145, l_147, l_150, l_159, l_160, l_161, l_162, l_205, l_253, l_255, l_256, l_269, l_305, l_380, l_399, l_400, l_420, l_430, l_516, l_600, l_720, l_820, l_905, l_921, l_937, l_953, l_970, l_999, l_1000, l_1790, l_4096, l_9999, l_1000000]
theorem c_ones_L {n mu N : Nat} {H : Nat → Nat} {K : q_Sto → Option (Int32 × q_Sto)} (hmu : mu ≤ 12) (hN : N = 2 ^ mu) : ∀ j i (σ : q_Sto), i ≤ mu → mu < j + i → (∀ y, y < N → σ 138 y = nI (z_set (fun m => decide (m < i) && decide (y = 2 ^ m)) mu)) →
    ∃ σ', (∀ o, o ≠ 138 → σ' o = σ o) ∧ (∀ y, y < N → σ' 138 y = nI (z_TQ H mu 1 y)) ∧ f_X4_longestRow_L52 n 135 (nI mu) (nI N) K j (nI i) σ = K σ' := by
  have h12 := z_p12 hmu
  intro j
  induction j with
  | zero => intro i σ h1 h2; omega
  | succ j ih =>
    intro i σ h1 h2 h
    by_cases hi : i = mu
    · subst hi
      refine ⟨σ, fun _ _ => rfl, fun y hy => ?_, ?_⟩
      · rw [h y hy]
        congr 1
        refine z_set_congr (fun m hm => ?_)
        unfold z_tpp
        rw [decide_eq_true hm, Bool.true_and]
        by_cases q : y = 2 ^ m
        · subst q
          have b := z_dlB (m := m) (s := 0) (by omega) (by omega) (by rw [Nat.zero_testBit]; decide)
          rw [Nat.zero_or] at b
          rw [b.1, b.2.1]
          simp
        · rw [decide_eq_false q]
          by_cases q1 : y.testBit m = true
          · have : ¬ y &&& (2 ^ m ^^^ 4095) = 0 := fun e => q (by
              have := z_dlA (by omega) (by omega) q1 e
              rw [Nat.zero_or] at this
              exact this)
            rw [decide_eq_false this, decide_eq_false (show ¬ y &&& (2 ^ m ^^^ 4095) < 1 by omega)]
            simp
          · rw [z_bf q1, Bool.false_and]
      · rw [f_X4_longestRow_L52]
        simp (disch := omega) only [↓reduceIte, ↓p_ld, ↓p_st, ↓p_nm, ↓p_nS, ↓p_jn, ↓p_call, ↓p_callv, ↓p_dv, ↓p_rem, h_ldE, h_stE, h_nmE, h_nSE, h_callE, h_callvE, h_dvE, h_remE, if_true, if_false, z_upS, z_upO, z_upK, nI_add, z_mul, z_sub, z_div, Nat.add_zero, Nat.mul_zero, Nat.zero_add, Nat.sub_zero, Nat.zero_mul, z_ltT, z_ltF, z_leT, z_leF, z_eqT, z_eqF, z_inT, z_clT, not_true_eq_false, not_false_eq_true, eq_self, true_or, or_true, z_m_lt, z_m_le, z_lt_m, z_le_m, z_eq_m, z_m_eq, z_rz0, z_rz1, z_m_add, z_of, r_0_0, r_0_1, r_0_3, r_0_4, r_0_5, r_0_6, r_0_7, r_0_8, r_0_9, r_0_10, r_1_0, r_1_1, r_1_2, r_1_3, r_1_4, r_1_5, r_1_6, r_1_7, r_1_8, r_2_0, r_2_1, r_2_2, r_2_3, r_2_4, r_2_5, r_2_6, r_2_7, r_11_0, r_11_1, r_11_2, r_11_3, r_11_4, r_11_5, r_11_6, r_19_0, r_21_0, r_23_0, r_25_0, r_27_0, r_61_0, r_117_0, r_117_1, r_117_2, r_117_3, r_117_4, r_117_5, r_117_6, r_117_7, r_126_0, r_126_1, r_126_2, r_126_3, r_126_4, r_132_0, r_132_1, r_135_0, r_135_1, r_135_2, r_135_3, r_135_4, r_135_5, r_142_0, r_144_0, r_144_1, r_144_2, r_145_0, r_145_1, r_145_2, r_145_3, r_145_4, r_145_5, r_145_6, r_154_0, r_154_1, r_155_0, ↓z_m1, l_0, l_1, l_2, l_3, l_4, l_5, l_6, l_7, l_8, l_9, l_10, l_11, l_12, l_13, l_14, l_15, l_16, l_17, l_18, l_19, l_20, l_21, l_22, l_23, l_24, l_25, l_26, l_27, l_28, l_29, l_30, l_31, l_32, l_33, l_34, l_35, l_36, l_37, l_38, l_39, l_40, l_41, l_42, l_43, l_44, l_45, l_46, l_47, l_48, l_49, l_50, l_51, l_52, l_53, l_54, l_55, l_56, l_57, l_59, l_60, l_61, l_62, l_63, l_64, l_65, l_80, l_86, l_87, l_88, l_89, l_90, l_91, l_92, l_93, l_94, l_95, l_97, l_99, l_100, l_107, l_119, l_122, l_124, l_129, l_140, l_141, l_142, l_143, l_144, l_145, l_147, l_150, l_159, l_160, l_161, l_162, l_205, l_253, l_255, l_256, l_269, l_305, l_380, l_399, l_400, l_420, l_430, l_516, l_600, l_720, l_820, l_905, l_921, l_937, l_953, l_970, l_999, l_1000, l_1790, l_4096, l_9999, l_1000000]
    · have esh := z_shl (m := i) (by omega)
      have hp : 2 ^ i < N := by subst hN; exact Nat.pow_lt_pow_right (by omega) (by omega)
      obtain ⟨σ', k1, k2, k3⟩ := ih (i+1) (q_up σ 138 (2 ^ i) (nI (2 ^ i))) (by omega) (by omega) (fun y hy => by
        by_cases q : y = 2 ^ i
        · subst q
          rw [z_upS]
          congr 1
          apply Nat.eq_of_testBit_eq
          intro m
          rw [z_set_tb, Nat.testBit_two_pow]
          by_cases q2 : i = m
          · subst q2
            rw [decide_eq_true (show i < mu by omega), decide_eq_true (show i < i + 1 by omega), decide_eq_true (rfl : 2 ^ i = 2 ^ i), decide_eq_true (rfl : i = i)]
            rfl
          · have : ¬ 2 ^ i = 2 ^ m := fun e => by
              rcases Nat.lt_trichotomy i m with h | h | h
              · have := Nat.pow_lt_pow_right (a := 2) (by omega) h; omega
              · exact q2 h
              · have := Nat.pow_lt_pow_right (a := 2) (by omega) h; omega
            rw [decide_eq_false this, decide_eq_false q2, Bool.and_false, Bool.and_false]
        · rw [z_upK q, h y hy]
          congr 1
          refine z_set_congr (fun m hm => ?_)
          by_cases q2 : m = i
          · subst q2
            rw [decide_eq_false q, Bool.and_false, Bool.and_false]
          · by_cases q3 : m < i
            · rw [decide_eq_true q3, decide_eq_true (show m < i + 1 by omega)]
            · rw [decide_eq_false q3, decide_eq_false (show ¬ m < i + 1 by omega)])
      refine ⟨σ', fun o ho => by rw [k1 o ho, z_upO ho], k2, ?_⟩
      rw [← k3, f_X4_longestRow_L52]
      generalize 2 ^ i = p at *
      simp (disch := omega) only [esh, ↓reduceIte, ↓p_ld, ↓p_st, ↓p_nm, ↓p_nS, ↓p_jn, ↓p_call, ↓p_callv, ↓p_dv, ↓p_rem, h_ldE, h_stE, h_nmE, h_nSE, h_callE, h_callvE, h_dvE, h_remE, if_true, if_false, z_upS, z_upO, z_upK, nI_add, z_mul, z_sub, z_div, Nat.add_zero, Nat.mul_zero, Nat.zero_add, Nat.sub_zero, Nat.zero_mul, z_ltT, z_ltF, z_leT, z_leF, z_eqT, z_eqF, z_inT, z_clT, not_true_eq_false, not_false_eq_true, eq_self, true_or, or_true, z_m_lt, z_m_le, z_lt_m, z_le_m, z_eq_m, z_m_eq, z_rz0, z_rz1, z_m_add, z_of, r_0_0, r_0_1, r_0_3, r_0_4, r_0_5, r_0_6, r_0_7, r_0_8, r_0_9, r_0_10, r_1_0, r_1_1, r_1_2, r_1_3, r_1_4, r_1_5, r_1_6, r_1_7, r_1_8, r_2_0, r_2_1, r_2_2, r_2_3, r_2_4, r_2_5, r_2_6, r_2_7, r_11_0, r_11_1, r_11_2, r_11_3, r_11_4, r_11_5, r_11_6, r_19_0, r_21_0, r_23_0, r_25_0, r_27_0, r_61_0, r_117_0, r_117_1, r_117_2, r_117_3, r_117_4, r_117_5, r_117_6, r_117_7, r_126_0, r_126_1, r_126_2, r_126_3, r_126_4, r_132_0, r_132_1, r_135_0, r_135_1, r_135_2, r_135_3, r_135_4, r_135_5, r_142_0, r_144_0, r_144_1, r_144_2, r_145_0, r_145_1, r_145_2, r_145_3, r_145_4, r_145_5, r_145_6, r_154_0, r_154_1, r_155_0, ↓z_m1, l_0, l_1, l_2, l_3, l_4, l_5, l_6, l_7, l_8, l_9, l_10, l_11, l_12, l_13, l_14, l_15, l_16, l_17, l_18, l_19, l_20, l_21, l_22, l_23, l_24, l_25, l_26, l_27, l_28, l_29, l_30, l_31, l_32, l_33, l_34, l_35, l_36, l_37, l_38, l_39, l_40, l_41, l_42, l_43, l_44, l_45, l_46, l_47, l_48, l_49, l_50, l_51, l_52, l_53, l_54, l_55, l_56, l_57, l_59, l_60, l_61, l_62, l_63, l_64, l_65, l_80, l_86, l_87, l_88, l_89, l_90, l_91, l_92, l_93, l_94, l_95, l_97, l_99, l_100, l_107, l_119, l_122, l_124, l_129, l_140, l_141, l_142, l_143, l_144, l_145, l_147, l_150, l_159, l_160, l_161, l_162, l_205, l_253, l_255, l_256, l_269, l_305, l_380, l_399, l_400, l_420, l_430, l_516, l_600, l_720, l_820, l_905, l_921, l_937, l_953, l_970, l_999, l_1000, l_1790, l_4096, l_9999, l_1000000]
theorem P_row {σ : q_Sto} (h : q_Sim σ)   : ∃ (r : Int32) (σ1 σ2 : q_Sto), f_X11_row q_F 0  σ = some (r, σ1) ∧ f_X12_row q_F 157  σ1 = some (r, σ2) ∧ q_Sim σ2 := by
  obtain ⟨mu, me, h⟩ := h
  have hC := z_Sim.C h
  have hmu := hC.1.1
  have h86 := hC.1.2.2.1
  have h8 := hC.2.1.1.1
  have hHE := hC.2.2.2.1
  have h12 := z_p12 hmu
  have es := z_shl (m := mu) (by omega)
  have hH : ∀ k, k < 12 → σ 158 (129+k) = nI (zn (σ 158 (129+k))) ∧ zn (σ 158 (129+k)) < 4096 := fun k hk => by
    obtain ⟨c, c16, _, _, _, h2⟩ := hHE
    obtain ⟨_, s, s1, _, s3⟩ := h2 k hk
    rw [s3, zn_nI (by omega)]
    exact ⟨rfl, by omega⟩
  generalize hHd : (fun k => zn (σ 158 (129+k))) = H at *
  have hH : ∀ k, k < 12 → σ 158 (129+k) = nI (H k) ∧ H k < 4096 := fun k hk => by rw [← hHd]; exact hH k hk
  obtain ⟨N, hN⟩ : ∃ N, N = 2 ^ mu := ⟨_, rfl⟩
  rw [← hN] at es
  have hN1 : 1 ≤ N := by rw [hN]; exact Nat.one_le_two_pow
  obtain ⟨σ1, a1, a2, a3⟩ := c_rowH_L (n := q_F) (mu := mu) (K := fun (s6 : q_Sto) =>
  q_nm (1 <<< (nI mu &&& 31)) fun v7 =>
  q_callv (f_J7_fill_53178 q_F (q_RF 135 2) 4096 0 s6) fun s8 =>
  f_X4_longestRow_L52 q_F 135 (nI mu) v7 (fun  (s12 : q_Sto) =>
  f_X4_longestRow_L83 q_F 135 (nI mu) v7  q_F 0 1 s12) q_F 0 s8) (by unfold q_F; omega) hmu hH q_F 0 σ (Nat.zero_le _) (by unfold q_F; omega) hHE (fun k hk => by omega)
  obtain ⟨σ2, b1, b2, b3⟩ := c_fillN (n := q_F) (t := 138) (N := 4096) (by omega) q_F 0 σ1 (Nat.zero_le _) (by unfold q_F; omega) (fun k hk => by omega)
  have b3 : f_J7_fill_53178 q_F 138 4096 (nI 0) σ1 = some (nI 0, σ2) := c_fillE.trans b3
  obtain ⟨σ3, c1, c2, c3⟩ := c_ones_L (n := q_F) (H := H) (K := fun (s12 : q_Sto) =>
  f_X4_longestRow_L83 q_F 135 (nI mu) (nI N)  q_F 0 1 s12) hmu hN q_F 0 σ2 (Nat.zero_le _) (by unfold q_F; omega) (fun y hy => by
    have e0 : z_set (fun m => decide (m < 0) && decide (y = 2 ^ m)) mu = 0 := by
      apply Nat.eq_of_testBit_eq
      intro m
      rw [z_set_tb, Nat.zero_testBit, decide_eq_false (show ¬ m < 0 by omega), Bool.false_and, Bool.and_false]
    rw [b2 y (by omega), e0])
  obtain ⟨σ4, d1, d2⟩ := c_row_L hmu hN (fun k hk => (hH k hk).2) q_F 1 σ3 (Nat.le_refl _) hN1 (by unfold q_F; omega) (fun k hk => by rw [c1 141 (by omega), b1 141 (by omega)]; exact a2 k hk) c2
  have e1 : z_lr H mu 1 = 0 := by
    show (if z_ES H mu 0 = 0 then 0 else _) = 0
    rw [if_pos (z_ES0 hmu)]
  rw [e1] at d2
  have fr4 : ∀ o, o ≠ 138 → o ≠ 141 → σ4 o = σ o := fun o o1 o2 => by rw [d1 o o1, c1 o o1, b1 o o1, a1 o o2]
  have hV4 := fr4 158 (by omega) (by omega)
  obtain ⟨σ5, g1, g2⟩ := m_row_L (N := N) hmu es (by omega) hH q_F 1 (q_up σ4 170 0 (nI 0)) hN1 (by unfold q_F; omega) (by rw [z_upO (by omega)]; exact hV4) (fun y hy => by
    have : y = 0 := by omega
    subst this
    rw [z_upS, z_ES0 hmu])
  rw [e1] at g2
  have fr5 : ∀ o, o ≠ 138 → o ≠ 141 → o ≠ 170 → σ5 o = σ o := fun o o1 o2 o3 => by rw [g1 o o3, z_upO o3, fr4 o o1 o2]
  refine ⟨nI (z_lr H mu N), σ4, σ5, ?_, ?_, ⟨mu, me, z_Sim.th h (fun o o1 o2 o3 o4 o5 o6 => fr5 o (by omega) (by omega) (by omega)) (fun a ha => by rw [fr5 157 (by omega) (by omega) (by omega)])⟩⟩
  · have emn : q_mn (nI 12) (nI mu) = nI mu := by
      rw [z_mnE (by omega) (by omega), show min 12 mu = mu by omega]
    have eL : f_X4_longestRow q_F 135 1 σ = some (nI (z_lr H mu N), σ4) := by
      rw [← d2]
      refine Eq.trans ?_ c3
      have a4 : ∀ x, x = nI mu → f_X4_longestRow_L15 q_F 135 1 x (fun (s6 : q_Sto) =>
  q_nm (1 <<< (x &&& 31)) fun v7 =>
  q_callv (f_J7_fill_53178 q_F (q_RF 135 2) 4096 0 s6) fun s8 =>
  f_X4_longestRow_L52 q_F 135 x v7 (fun  (s12 : q_Sto) =>
  f_X4_longestRow_L83 q_F 135 x v7  q_F 0 1 s12) q_F 0 s8) q_F 0 σ = f_X4_longestRow_L52 q_F 135 (nI mu) (nI N) (fun (s12 : q_Sto) =>
  f_X4_longestRow_L83 q_F 135 (nI mu) (nI N)  q_F 0 1 s12) q_F (nI 0) σ2 := by
        intro x hx
        subst hx
        refine Eq.trans a3 ?_
        simp (disch := omega) only [es, b3, ↓reduceIte, ↓p_ld, ↓p_st, ↓p_nm, ↓p_nS, ↓p_jn, ↓p_call, ↓p_callv, ↓p_dv, ↓p_rem, h_ldE, h_stE, h_nmE, h_nSE, h_callE, h_callvE, h_dvE, h_remE, if_true, if_false, z_upS, z_upO, z_upK, nI_add, z_mul, z_sub, z_div, Nat.add_zero, Nat.mul_zero, Nat.zero_add, Nat.sub_zero, Nat.zero_mul, z_ltT, z_ltF, z_leT, z_leF, z_eqT, z_eqF, z_inT, z_clT, not_true_eq_false, not_false_eq_true, eq_self, true_or, or_true, z_m_lt, z_m_le, z_lt_m, z_le_m, z_eq_m, z_m_eq, z_rz0, z_rz1, z_m_add, z_of, r_0_0, r_0_1, r_0_3, r_0_4, r_0_5, r_0_6, r_0_7, r_0_8, r_0_9, r_0_10, r_1_0, r_1_1, r_1_2, r_1_3, r_1_4, r_1_5, r_1_6, r_1_7, r_1_8, r_2_0, r_2_1, r_2_2, r_2_3, r_2_4, r_2_5, r_2_6, r_2_7, r_11_0, r_11_1, r_11_2, r_11_3, r_11_4, r_11_5, r_11_6, r_19_0, r_21_0, r_23_0, r_25_0, r_27_0, r_61_0, r_117_0, r_117_1, r_117_2, r_117_3, r_117_4, r_117_5, r_117_6, r_117_7, r_126_0, r_126_1, r_126_2, r_126_3, r_126_4, r_132_0, r_132_1, r_135_0, r_135_1, r_135_2, r_135_3, r_135_4, r_135_5, r_142_0, r_144_0, r_144_1, r_144_2, r_145_0, r_145_1, r_145_2, r_145_3, r_145_4, r_145_5, r_145_6, r_154_0, r_154_1, r_155_0, ↓z_m1, l_0, l_1, l_2, l_3, l_4, l_5, l_6, l_7, l_8, l_9, l_10, l_11, l_12, l_13, l_14, l_15, l_16, l_17, l_18, l_19, l_20, l_21, l_22, l_23, l_24, l_25, l_26, l_27, l_28, l_29, l_30, l_31, l_32, l_33, l_34, l_35, l_36, l_37, l_38, l_39, l_40, l_41, l_42, l_43, l_44, l_45, l_46, l_47, l_48, l_49, l_50, l_51, l_52, l_53, l_54, l_55, l_56, l_57, l_59, l_60, l_61, l_62, l_63, l_64, l_65, l_80, l_86, l_87, l_88, l_89, l_90, l_91, l_92, l_93, l_94, l_95, l_97, l_99, l_100, l_107, l_119, l_122, l_124, l_129, l_140, l_141, l_142, l_143, l_144, l_145, l_147, l_150, l_159, l_160, l_161, l_162, l_205, l_253, l_255, l_256, l_269, l_305, l_380, l_399, l_400, l_420, l_430, l_516, l_600, l_720, l_820, l_905, l_921, l_937, l_953, l_970, l_999, l_1000, l_1790, l_4096, l_9999, l_1000000]
      refine Eq.trans ?_ (a4 _ rfl)
      unfold f_X4_longestRow
      simp (disch := omega) only [h8, emn, ↓reduceIte, ↓p_ld, ↓p_st, ↓p_nm, ↓p_nS, ↓p_jn, ↓p_call, ↓p_callv, ↓p_dv, ↓p_rem, h_ldE, h_stE, h_nmE, h_nSE, h_callE, h_callvE, h_dvE, h_remE, if_true, if_false, z_upS, z_upO, z_upK, nI_add, z_mul, z_sub, z_div, Nat.add_zero, Nat.mul_zero, Nat.zero_add, Nat.sub_zero, Nat.zero_mul, z_ltT, z_ltF, z_leT, z_leF, z_eqT, z_eqF, z_inT, z_clT, not_true_eq_false, not_false_eq_true, eq_self, true_or, or_true, z_m_lt, z_m_le, z_lt_m, z_le_m, z_eq_m, z_m_eq, z_rz0, z_rz1, z_m_add, z_of, r_0_0, r_0_1, r_0_3, r_0_4, r_0_5, r_0_6, r_0_7, r_0_8, r_0_9, r_0_10, r_1_0, r_1_1, r_1_2, r_1_3, r_1_4, r_1_5, r_1_6, r_1_7, r_1_8, r_2_0, r_2_1, r_2_2, r_2_3, r_2_4, r_2_5, r_2_6, r_2_7, r_11_0, r_11_1, r_11_2, r_11_3, r_11_4, r_11_5, r_11_6, r_19_0, r_21_0, r_23_0, r_25_0, r_27_0, r_61_0, r_117_0, r_117_1, r_117_2, r_117_3, r_117_4, r_117_5, r_117_6, r_117_7, r_126_0, r_126_1, r_126_2, r_126_3, r_126_4, r_132_0, r_132_1, r_135_0, r_135_1, r_135_2, r_135_3, r_135_4, r_135_5, r_142_0, r_144_0, r_144_1, r_144_2, r_145_0, r_145_1, r_145_2, r_145_3, r_145_4, r_145_5, r_145_6, r_154_0, r_154_1, r_155_0, ↓z_m1, l_0, l_1, l_2, l_3, l_4, l_5, l_6, l_7, l_8, l_9, l_10, l_11, l_12, l_13, l_14, l_15, l_16, l_17, l_18, l_19, l_20, l_21, l_22, l_23, l_24, l_25, l_26, l_27, l_28, l_29, l_30, l_31, l_32, l_33, l_34, l_35, l_36, l_37, l_38, l_39, l_40, l_41, l_42, l_43, l_44, l_45, l_46, l_47, l_48, l_49, l_50, l_51, l_52, l_53, l_54, l_55, l_56, l_57, l_59, l_60, l_61, l_62, l_63, l_64, l_65, l_80, l_86, l_87, l_88, l_89, l_90, l_91, l_92, l_93, l_94, l_95, l_97, l_99, l_100, l_107, l_119, l_122, l_124, l_129, l_140, l_141, l_142, l_143, l_144, l_145, l_147, l_150, l_159, l_160, l_161, l_162, l_205, l_253, l_255, l_256, l_269, l_305, l_380, l_399, l_400, l_420, l_430, l_516, l_600, l_720, l_820, l_905, l_921, l_937, l_953, l_970, l_999, l_1000, l_1790, l_4096, l_9999, l_1000000]
    generalize z_lr H mu N = r at *
    unfold f_X11_row
    simp (disch := omega) only [eL, ↓reduceIte, ↓p_ld, ↓p_st, ↓p_nm, ↓p_nS, ↓p_jn, ↓p_call, ↓p_callv, ↓p_dv, ↓p_rem, h_ldE, h_stE, h_nmE, h_nSE, h_callE, h_callvE, h_dvE, h_remE, if_true, if_false, z_upS, z_upO, z_upK, nI_add, z_mul, z_sub, z_div, Nat.add_zero, Nat.mul_zero, Nat.zero_add, Nat.sub_zero, Nat.zero_mul, z_ltT, z_ltF, z_leT, z_leF, z_eqT, z_eqF, z_inT, z_clT, not_true_eq_false, not_false_eq_true, eq_self, true_or, or_true, z_m_lt, z_m_le, z_lt_m, z_le_m, z_eq_m, z_m_eq, z_rz0, z_rz1, z_m_add, z_of, r_0_0, r_0_1, r_0_3, r_0_4, r_0_5, r_0_6, r_0_7, r_0_8, r_0_9, r_0_10, r_1_0, r_1_1, r_1_2, r_1_3, r_1_4, r_1_5, r_1_6, r_1_7, r_1_8, r_2_0, r_2_1, r_2_2, r_2_3, r_2_4, r_2_5, r_2_6, r_2_7, r_11_0, r_11_1, r_11_2, r_11_3, r_11_4, r_11_5, r_11_6, r_19_0, r_21_0, r_23_0, r_25_0, r_27_0, r_61_0, r_117_0, r_117_1, r_117_2, r_117_3, r_117_4, r_117_5, r_117_6, r_117_7, r_126_0, r_126_1, r_126_2, r_126_3, r_126_4, r_132_0, r_132_1, r_135_0, r_135_1, r_135_2, r_135_3, r_135_4, r_135_5, r_142_0, r_144_0, r_144_1, r_144_2, r_145_0, r_145_1, r_145_2, r_145_3, r_145_4, r_145_5, r_145_6, r_154_0, r_154_1, r_155_0, ↓z_m1, l_0, l_1, l_2, l_3, l_4, l_5, l_6, l_7, l_8, l_9, l_10, l_11, l_12, l_13, l_14, l_15, l_16, l_17, l_18, l_19, l_20, l_21, l_22, l_23, l_24, l_25, l_26, l_27, l_28, l_29, l_30, l_31, l_32, l_33, l_34, l_35, l_36, l_37, l_38, l_39, l_40, l_41, l_42, l_43, l_44, l_45, l_46, l_47, l_48, l_49, l_50, l_51, l_52, l_53, l_54, l_55, l_56, l_57, l_59, l_60, l_61, l_62, l_63, l_64, l_65, l_80, l_86, l_87, l_88, l_89, l_90, l_91, l_92, l_93, l_94, l_95, l_97, l_99, l_100, l_107, l_119, l_122, l_124, l_129, l_140, l_141, l_142, l_143, l_144, l_145, l_147, l_150, l_159, l_160, l_161, l_162, l_205, l_253, l_255, l_256, l_269, l_305, l_380, l_399, l_400, l_420, l_430, l_516, l_600, l_720, l_820, l_905, l_921, l_937, l_953, l_970, l_999, l_1000, l_1790, l_4096, l_9999, l_1000000]
  · generalize z_lr H mu N = r at *
    unfold f_X12_row
    simp (disch := omega) only [hV4, h86, g2, ↓reduceIte, ↓p_ld, ↓p_st, ↓p_nm, ↓p_nS, ↓p_jn, ↓p_call, ↓p_callv, ↓p_dv, ↓p_rem, h_ldE, h_stE, h_nmE, h_nSE, h_callE, h_callvE, h_dvE, h_remE, if_true, if_false, z_upS, z_upO, z_upK, nI_add, z_mul, z_sub, z_div, Nat.add_zero, Nat.mul_zero, Nat.zero_add, Nat.sub_zero, Nat.zero_mul, z_ltT, z_ltF, z_leT, z_leF, z_eqT, z_eqF, z_inT, z_clT, not_true_eq_false, not_false_eq_true, eq_self, true_or, or_true, z_m_lt, z_m_le, z_lt_m, z_le_m, z_eq_m, z_m_eq, z_rz0, z_rz1, z_m_add, z_of, r_157_0, r_157_1, r_157_2, r_157_3, r_157_6, r_157_7, r_157_8, r_157_9, r_157_10, r_157_11, r_157_27, r_157_28, r_157_29, r_157_30, ↓z_m1, l_0, l_1, l_2, l_3, l_4, l_5, l_6, l_7, l_8, l_9, l_10, l_11, l_12, l_13, l_14, l_15, l_16, l_17, l_18, l_19, l_20, l_21, l_22, l_23, l_24, l_25, l_26, l_27, l_28, l_29, l_30, l_31, l_32, l_33, l_34, l_35, l_36, l_37, l_38, l_39, l_40, l_41, l_42, l_43, l_44, l_45, l_46, l_47, l_48, l_49, l_50, l_51, l_52, l_53, l_54, l_55, l_56, l_57, l_59, l_60, l_61, l_62, l_63, l_64, l_65, l_80, l_86, l_87, l_88, l_89, l_90, l_91, l_92, l_93, l_94, l_95, l_97, l_99, l_100, l_107, l_119, l_122, l_124, l_129, l_140, l_141, l_142, l_143, l_144, l_145, l_147, l_150, l_159, l_160, l_161, l_162, l_205, l_253, l_255, l_256, l_269, l_305, l_380, l_399, l_400, l_420, l_430, l_516, l_600, l_720, l_820, l_905, l_921, l_937, l_953, l_970, l_999, l_1000, l_1790, l_4096, l_9999, l_1000000]
