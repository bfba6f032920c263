/-! bits -/
theorem z_sh31 {m : Nat} (h : m < 31) : ((nI m &&& nI 31).toBitVec.smod 32).toNat = m := by
  have : ∀ m, m < 31 → ((nI m &&& nI 31).toBitVec.smod 32).toNat = m := by decide +kernel
  exact this m h
theorem z_shl {m : Nat} (h : m < 31) : nI 1 <<< (nI m &&& nI 31) = nI (2 ^ m) := by
  rw [pk_shlN _ m (z_sh31 h)]
  · rw [Nat.one_mul]
  · have : 2 ^ m < 2 ^ 31 := Nat.pow_lt_pow_right (by omega) h
    omega
theorem z_shr {a m : Nat} (ha : a < 2147483648) (h : m < 31) : nI a >>> (nI m &&& nI 31) = nI (a / 2 ^ m) := pk_shrN ha _ m (z_sh31 h)
theorem z_bv {a b : Int32} (h : a.toBitVec = b.toBitVec) : a = b := Int32.toBitVec_inj.mp h
theorem z_nIb (a : Nat) : (nI a).toBitVec = BitVec.ofNat 32 a := rfl
theorem z_or (a b : Nat) : nI a ||| nI b = nI (a ||| b) := by
  apply z_bv
  rw [Int32.toBitVec_or, z_nIb, z_nIb, z_nIb, BitVec.ofNat_or]
theorem z_and (a b : Nat) : nI a &&& nI b = nI (a &&& b) := by
  apply z_bv
  rw [Int32.toBitVec_and, z_nIb, z_nIb, z_nIb, BitVec.ofNat_and]
theorem z_xor (a b : Nat) : nI a ^^^ nI b = nI (a ^^^ b) := by
  apply z_bv
  rw [Int32.toBitVec_xor, z_nIb, z_nIb, z_nIb, BitVec.ofNat_xor]
theorem z_mod2 (a m : Nat) : a / 2 ^ m % 2 = if a.testBit m then 1 else 0 := by
  rw [Nat.testBit_eq_decide_div_mod_eq]
  have : a / 2 ^ m % 2 < 2 := Nat.mod_lt _ (by omega)
  by_cases h : a / 2 ^ m % 2 = 1
  · simp [h]
  · simp [h]; omega
theorem z_bitE {a m : Nat} (ha : a < 2147483648) (h : m < 31) : z_bit (nI a) m = nI (if a.testBit m then 1 else 0) := by
  unfold z_bit
  rw [z_shr ha h, z_and, Nat.and_one_is_mod, z_mod2]
/-- the set m and those in a of b that are beyond the bits -/
theorem z_mN : z_m = nI (2 ^ 32 - 1) := by decide
theorem z_andn {a b : Nat} (ha : a < 4096) : nI a &&& (nI b ^^^ z_m) = nI (a &&& (b ^^^ (2 ^ 12 - 1))) := by
  rw [z_mN, z_xor, z_and]
  congr 1
  apply Nat.eq_of_testBit_eq
  intro i
  rw [Nat.testBit_and, Nat.testBit_and, Nat.testBit_xor, Nat.testBit_xor, Nat.testBit_two_pow_sub_one, Nat.testBit_two_pow_sub_one]
  by_cases hi : i < 12
  · have h2 : i < 32 := by omega
    simp [hi, h2]
  · have h3 : a.testBit i = false := Nat.testBit_lt_two_pow (Nat.lt_of_lt_of_le ha (Nat.pow_le_pow_right (n := 2) (by omega) (show 12 ≤ i by omega)))
    simp [h3]
/-- how many -/
def z_cnt (a : Nat) : Nat → Nat
  | 0 => 0
  | m + 1 => z_cnt a m + (if a.testBit m then 1 else 0)
theorem z_cnt_le (a : Nat) : ∀ m, z_cnt a m ≤ m
  | 0 => Nat.le_refl _
  | m + 1 => by
    have := z_cnt_le a m
    unfold z_cnt
    split <;> omega
/-- the class's own count of bits, as a number -/
def z_bcf (a0 : Int32) : Int32 :=
  let v1 := a0 - ((q_ushr a0 1) &&& 1431655765)
  let v2 := (v1 &&& 858993459) + ((q_ushr v1 2) &&& 858993459)
  let v3 := (v2 + (q_ushr v2 4)) &&& 252645135
  let v4 := v3 + (q_ushr v3 8)
  let v5 := v4 + (q_ushr v4 16)
  v5 &&& 63
theorem z_bcf_all : (List.range 4096).all (fun s => z_bcf (nI s) == nI (z_cnt s 12)) = true := by decide +kernel
theorem c_bitCount {n : Nat} {σ : q_Sto} {s : Nat} (hl : s < 4096) : f_J6_bitCount_0f7a4 n (nI s) σ = some (nI (z_cnt s 12), σ) := by
  have h := List.all_eq_true.mp z_bcf_all s (List.mem_range.mpr hl)
  have h := eq_of_beq h
  show some (z_bcf (nI s), σ) = _
  rw [h]
