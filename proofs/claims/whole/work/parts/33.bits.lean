/-! bits -/
theorem z_sh31 {m : Nat} (h : m < 31) : ((nI m &&& nI 31).toBitVec.smod 32).toNat = m := by
  have : ∀ m, m < 31 → ((nI m &&& nI 31).toBitVec.smod 32).toNat = m := by decide +kernel
  exact this m h
theorem z_shl {m : Nat} (h : m < 31) : nI 1 <<< (nI m &&& nI 31) = nI (2 ^ m) := by
  rw [pk_shlN _ m (z_sh31 h)]
  · rw [Nat.one_mul]
  · have : 2 ^ m < 2 ^ 31 := Nat.pow_lt_pow_right (by omega) h
    omega
theorem z_shr {a m : Nat} (ha : a < 2147483648) (h : m < 31) : nI a >>> (nI m &&& nI 31) = nI (a / 2 ^ m) := pk_shrN ha _ m (z_sh31 h)
theorem z_bv {a b : Int32} (h : a.toBitVec = b.toBitVec) : a = b := Int32.toBitVec_inj.mp h
theorem z_nIb (a : Nat) : (nI a).toBitVec = BitVec.ofNat 32 a := rfl
theorem z_or (a b : Nat) : nI a ||| nI b = nI (a ||| b) := by
  apply z_bv
  rw [Int32.toBitVec_or, z_nIb, z_nIb, z_nIb, BitVec.ofNat_or]
theorem z_and (a b : Nat) : nI a &&& nI b = nI (a &&& b) := by
  apply z_bv
  rw [Int32.toBitVec_and, z_nIb, z_nIb, z_nIb, BitVec.ofNat_and]
theorem z_xor (a b : Nat) : nI a ^^^ nI b = nI (a ^^^ b) := by
  apply z_bv
  rw [Int32.toBitVec_xor, z_nIb, z_nIb, z_nIb, BitVec.ofNat_xor]
theorem z_mod2 (a m : Nat) : a / 2 ^ m % 2 = if a.testBit m then 1 else 0 := by
  rw [Nat.testBit_eq_decide_div_mod_eq]
  have : a / 2 ^ m % 2 < 2 := Nat.mod_lt _ (by omega)
  by_cases h : a / 2 ^ m % 2 = 1
  · simp [h]
  · simp [h]; omega
theorem z_bitE {a m : Nat} (ha : a < 2147483648) (h : m < 31) : z_bit (nI a) m = nI (if a.testBit m then 1 else 0) := by
  unfold z_bit
  rw [z_shr ha h, z_and, Nat.and_one_is_mod, z_mod2]
/-- the set m and those in a of b that are beyond the bits -/
theorem z_mN : z_m = nI (2 ^ 32 - 1) := by decide
theorem z_andn {a b : Nat} (ha : a < 4096) : nI a &&& (nI b ^^^ z_m) = nI (a &&& (b ^^^ (2 ^ 12 - 1))) := by
  rw [z_mN, z_xor, z_and]
  congr 1
  apply Nat.eq_of_testBit_eq
  intro i
  rw [Nat.testBit_and, Nat.testBit_and, Nat.testBit_xor, Nat.testBit_xor, Nat.testBit_two_pow_sub_one, Nat.testBit_two_pow_sub_one]
  by_cases hi : i < 12
  · have h2 : i < 32 := by omega
    simp [hi, h2]
  · have h3 : a.testBit i = false := Nat.testBit_lt_two_pow (Nat.lt_of_lt_of_le ha (Nat.pow_le_pow_right (n := 2) (by omega) (show 12 ≤ i by omega)))
    simp [h3]
/-- how many -/
def z_cnt (a : Nat) : Nat → Nat
  | 0 => 0
  | m + 1 => z_cnt a m + (if a.testBit m then 1 else 0)
theorem z_cnt_le (a : Nat) : ∀ m, z_cnt a m ≤ m
  | 0 => Nat.le_refl _
  | m + 1 => by
    have := z_cnt_le a m
    unfold z_cnt
    split <;> omega
theorem m_count_L {n : Nat} {x0 : Int32} {σ : q_Sto} {s : Nat} (hs : x0 = nI s) (hl : s < 4096) : ∀ j i, i ≤ 12 → 12 < j + i → f_X12_count_L4 n x0 j (nI (z_cnt s i)) (nI i) σ = some (nI (z_cnt s 12), σ) := by
  intro j
  induction j with
  | zero => intro i h1 h2; omega
  | succ j ih =>
    intro i h1 h2
    subst hs
    have hz := z_cnt_le s i
    by_cases hi : i = 12
    · subst hi
      simp (disch := omega) only [f_X12_count_L4, ↓reduceIte, ↓p_ld, ↓p_st, ↓p_nm, ↓p_nS, ↓p_jn, ↓p_call, ↓p_callv, ↓p_dv, ↓p_rem, h_ldE, h_stE, h_nmE, h_nSE, h_callE, h_callvE, h_dvE, h_remE, if_true, if_false, z_upS, z_upO, z_upK, nI_add, z_mul, z_sub, z_div, Nat.add_zero, Nat.mul_zero, Nat.zero_add, Nat.sub_zero, Nat.zero_mul, z_ltT, z_ltF, z_leT, z_leF, z_eqT, z_eqF, z_inT, z_clT, not_true_eq_false, not_false_eq_true, eq_self, true_or, or_true, z_m_lt, z_m_le, z_lt_m, z_le_m, z_eq_m, z_m_eq, z_rz0, z_rz1, z_m_add, z_of, ↓z_m1, l_0, l_1, l_2, l_3, l_4, l_5, l_6, l_7, l_8, l_9, l_10, l_11, l_12, l_13, l_14, l_15, l_16, l_17, l_18, l_19, l_20, l_21, l_22, l_23, l_24, l_25, l_26, l_27, l_28, l_29, l_30, l_31, l_32, l_33, l_34, l_35, l_36, l_37, l_38, l_39, l_40, l_41, l_42, l_43, l_44, l_45, l_46, l_47, l_48, l_49, l_50, l_51, l_52, l_53, l_54, l_55, l_56, l_57, l_59, l_60, l_61, l_62, l_63, l_64, l_65, l_80, l_86, l_87, l_88, l_89, l_90, l_91, l_92, l_93, l_94, l_95, l_97, l_99, l_100, l_107, l_119, l_122, l_124, l_129, l_140, l_141, l_142, l_143, l_144, l_145, l_147, l_150, l_159, l_160, l_161, l_162, l_205, l_253, l_255, l_256, l_269, l_305, l_380, l_399, l_400, l_420, l_430, l_516, l_600, l_720, l_820, l_905, l_921, l_937, l_953, l_970, l_999, l_1000, l_1790, l_4096, l_9999, l_1000000]
    · have e := z_bitE (a := s) (m := i) (by omega) (by omega)
      unfold z_bit at e
      have := ih (i + 1) (by omega) (by omega)
      simp (disch := omega) only [f_X12_count_L4, e, ↓reduceIte, ↓p_ld, ↓p_st, ↓p_nm, ↓p_nS, ↓p_jn, ↓p_call, ↓p_callv, ↓p_dv, ↓p_rem, h_ldE, h_stE, h_nmE, h_nSE, h_callE, h_callvE, h_dvE, h_remE, if_true, if_false, z_upS, z_upO, z_upK, nI_add, z_mul, z_sub, z_div, Nat.add_zero, Nat.mul_zero, Nat.zero_add, Nat.sub_zero, Nat.zero_mul, z_ltT, z_ltF, z_leT, z_leF, z_eqT, z_eqF, z_inT, z_clT, not_true_eq_false, not_false_eq_true, eq_self, true_or, or_true, z_m_lt, z_m_le, z_lt_m, z_le_m, z_eq_m, z_m_eq, z_rz0, z_rz1, z_m_add, z_of, ↓z_m1, l_0, l_1, l_2, l_3, l_4, l_5, l_6, l_7, l_8, l_9, l_10, l_11, l_12, l_13, l_14, l_15, l_16, l_17, l_18, l_19, l_20, l_21, l_22, l_23, l_24, l_25, l_26, l_27, l_28, l_29, l_30, l_31, l_32, l_33, l_34, l_35, l_36, l_37, l_38, l_39, l_40, l_41, l_42, l_43, l_44, l_45, l_46, l_47, l_48, l_49, l_50, l_51, l_52, l_53, l_54, l_55, l_56, l_57, l_59, l_60, l_61, l_62, l_63, l_64, l_65, l_80, l_86, l_87, l_88, l_89, l_90, l_91, l_92, l_93, l_94, l_95, l_97, l_99, l_100, l_107, l_119, l_122, l_124, l_129, l_140, l_141, l_142, l_143, l_144, l_145, l_147, l_150, l_159, l_160, l_161, l_162, l_205, l_253, l_255, l_256, l_269, l_305, l_380, l_399, l_400, l_420, l_430, l_516, l_600, l_720, l_820, l_905, l_921, l_937, l_953, l_970, l_999, l_1000, l_1790, l_4096, l_9999, l_1000000]
      exact this
theorem m_count {n : Nat} (hn : 12 < n) {σ : q_Sto} {s : Nat} (hl : s < 4096) : f_X12_count n (nI s) σ = some (nI (z_cnt s 12), σ) := by
  unfold f_X12_count
  exact m_count_L rfl hl n 0 (by omega) (by omega)
/-- the class's own count of bits, as a number -/
def z_bcf (a0 : Int32) : Int32 :=
  let v1 := a0 - ((q_ushr a0 1) &&& 1431655765)
  let v2 := (v1 &&& 858993459) + ((q_ushr v1 2) &&& 858993459)
  let v3 := (v2 + (q_ushr v2 4)) &&& 252645135
  let v4 := v3 + (q_ushr v3 8)
  let v5 := v4 + (q_ushr v4 16)
  v5 &&& 63
theorem z_bcf_all : (List.range 4096).all (fun s => z_bcf (nI s) == nI (z_cnt s 12)) = true := by decide +kernel
theorem c_bitCount {n : Nat} {σ : q_Sto} {s : Nat} (hl : s < 4096) : f_J6_bitCount_0f7a4 n (nI s) σ = some (nI (z_cnt s 12), σ) := by
  have h := List.all_eq_true.mp z_bcf_all s (List.mem_range.mpr hl)
  have h := eq_of_beq h
  show some (z_bcf (nI s), σ) = _
  rw [h]
