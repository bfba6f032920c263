/-! ranges -/
def z_w (x lo hi : Int32) : Int32 := if x < lo then nI 0 else if x ≤ hi then nI 1 else nI 0
theorem c_isWithin {n : Nat} {x lo hi : Int32} {σ : q_Sto} : f_X11_isWithin n x lo hi σ = some (z_w x lo hi, σ) := by
  unfold f_X11_isWithin z_w
  split
  · rfl
  · split <;> rfl
theorem z_nn {x : Int32} (h : ¬ x < nI 0) : ∃ j, j < 2147483648 ∧ x = nI j := nI_of h
theorem z_nn2 {x : Int32} {a : Nat} (ha : a < 2147483648) (h : ¬ x < nI a) : ¬ x < nI 0 := by
  intro h0
  rw [Int32.lt_iff_toInt_lt, nI_toInt (by omega)] at h h0
  omega
theorem z_w_in {lo hi k : Nat} (h1 : lo ≤ k) (h2 : k ≤ hi) (h3 : hi < 2147483648) : z_w (nI k) (nI lo) (nI hi) = nI 1 := by
  unfold z_w
  simp (disch := omega) only [nI_ltI, nI_leI, if_pos, if_neg]
theorem z_w_cases (x : Int32) {lo hi : Nat} (hl : lo ≤ hi) (h : hi < 2147483648) : (∃ k, lo ≤ k ∧ k ≤ hi ∧ x = nI k ∧ z_w x (nI lo) (nI hi) = nI 1) ∨ z_w x (nI lo) (nI hi) = nI 0 := by
  by_cases h1 : x < nI lo
  · right; unfold z_w; rw [if_pos h1]
  · by_cases h2 : x ≤ nI hi
    · left
      obtain ⟨k, hk, rfl⟩ := z_nn (z_nn2 (by omega) h1)
      rw [nI_ltI hk (by omega)] at h1
      rw [nI_leI hk (by omega)] at h2
      exact ⟨k, by omega, h2, rfl, z_w_in (by omega) h2 h⟩
    · right; unfold z_w; rw [if_neg h1, if_neg h2]
/-- a number below some count: what the class's and the reference's tests say -/
theorem z_out {x : Int32} {N : Nat} (hN : N < 1073741824) (h : x < nI 0 ∨ nI N ≤ x) : ¬ (¬ x < nI 0 ∧ x < nI N) ∧ z_w x (nI 0) (nI N - nI 1) = nI 0 := by
  constructor
  · rintro ⟨h1, h2⟩
    rcases h with h | h
    · exact h1 h
    · exact Int32.not_lt.mpr h h2
  · unfold z_w
    rcases h with h | h
    · rw [if_pos h]
    · split
      · rfl
      · rw [if_neg]
        rw [Int32.le_iff_toInt_le, pk_sub_toInt (by omega) (by omega)]
        rw [Int32.le_iff_toInt_le, nI_toInt (by omega)] at h
        omega
theorem z_win {k N : Nat} (hN : N < 1073741824) (h : k < N) : z_w (nI k) (nI 0) (nI N - nI 1) = nI 1 := by
  rw [z_sub (by omega)]
  exact z_w_in (by omega) (by omega) (by omega)
theorem c_has {σ : q_Sto} {n f : Nat} {x : Int32} (hf : f = 8 ∨ f = 9) {N : Nat} (h8 : σ 2 f = nI N) (hN : N ≤ 12) (hm : f = 9 → N ≤ 5) : (∀ k, k < N → x = nI k → (f = 8 → f_X9_hasMule n 2 x σ = some (nI 1, σ)) ∧ (f = 9 → f_X9_hasMan n 2 x σ = some (nI 1, σ))) ∧
    (x < nI 0 ∨ nI N ≤ x → (f = 8 → f_X9_hasMule n 2 x σ = some (nI 0, σ)) ∧ (f = 9 → f_X9_hasMan n 2 x σ = some (nI 0, σ))) := by
  constructor
  · rintro k hk rfl
    constructor
    · rintro rfl
      simp (disch := omega) only [f_X9_hasMule, h8, ↓reduceIte, ↓p_ld, ↓p_st, ↓p_nm, ↓p_nS, ↓p_jn, ↓p_call, ↓p_callv, ↓p_dv, ↓p_rem, h_ldE, h_stE, h_nmE, h_nSE, h_callE, h_callvE, h_dvE, h_remE, if_true, if_false, z_upS, z_upO, z_upK, nI_add, z_mul, z_sub, z_div, Nat.add_zero, Nat.mul_zero, Nat.zero_add, Nat.sub_zero, Nat.zero_mul, z_ltT, z_ltF, z_leT, z_leF, z_eqT, z_eqF, z_inT, z_clT, not_true_eq_false, not_false_eq_true, eq_self, true_or, or_true, z_m_lt, z_m_le, z_lt_m, z_le_m, z_eq_m, z_m_eq, z_rz0, z_rz1, z_m_add, z_of, r_0_0, r_0_1, r_0_3, r_0_4, r_0_5, r_0_6, r_0_7, r_0_8, r_0_9, r_0_10, r_1_0, r_1_1, r_1_2, r_1_3, r_1_4, r_1_5, r_1_6, r_1_7, r_1_8, r_2_0, r_2_1, r_2_2, r_2_3, r_2_4, r_2_5, r_2_6, r_2_7, r_11_0, r_11_1, r_11_2, r_11_3, r_11_4, r_11_5, r_11_6, r_19_0, r_21_0, r_23_0, r_25_0, r_27_0, r_61_0, r_117_0, r_117_1, r_117_2, r_117_3, r_117_4, r_117_5, r_117_6, r_117_7, r_126_0, r_126_1, r_126_2, r_126_3, r_126_4, r_132_0, r_132_1, r_135_0, r_135_1, r_135_2, r_135_3, r_135_4, r_135_5, r_142_0, r_144_0, r_144_1, r_144_2, r_145_0, r_145_1, r_145_2, r_145_3, r_145_4, r_145_5, r_145_6, r_154_0, r_154_1, r_155_0, ↓z_m1, l_0, l_1, l_2, l_3, l_4, l_5, l_6, l_7, l_8, l_9, l_10, l_11, l_12, l_13, l_14, l_15, l_16, l_17, l_18, l_19, l_20, l_21, l_22, l_23, l_24, l_25, l_26, l_27, l_28, l_29, l_30, l_31, l_32, l_33, l_34, l_35, l_36, l_37, l_38, l_39, l_40, l_41, l_42, l_43, l_44, l_45, l_46, l_47, l_48, l_49, l_50, l_51, l_52, l_53, l_54, l_55, l_56, l_57, l_59, l_60, l_61, l_62, l_63, l_64, l_65, l_80, l_86, l_87, l_88, l_89, l_90, l_91, l_92, l_93, l_94, l_95, l_97, l_99, l_100, l_107, l_119, l_122, l_124, l_129, l_140, l_141, l_142, l_143, l_144, l_145, l_147, l_150, l_159, l_160, l_161, l_162, l_205, l_253, l_255, l_256, l_269, l_305, l_380, l_399, l_400, l_420, l_430, l_516, l_600, l_720, l_820, l_905, l_921, l_937, l_953, l_970, l_999, l_1000, l_1790, l_4096, l_9999, l_1000000]
    · rintro rfl
      have := hm rfl
      simp (disch := omega) only [f_X9_hasMan, h8, ↓reduceIte, ↓p_ld, ↓p_st, ↓p_nm, ↓p_nS, ↓p_jn, ↓p_call, ↓p_callv, ↓p_dv, ↓p_rem, h_ldE, h_stE, h_nmE, h_nSE, h_callE, h_callvE, h_dvE, h_remE, if_true, if_false, z_upS, z_upO, z_upK, nI_add, z_mul, z_sub, z_div, Nat.add_zero, Nat.mul_zero, Nat.zero_add, Nat.sub_zero, Nat.zero_mul, z_ltT, z_ltF, z_leT, z_leF, z_eqT, z_eqF, z_inT, z_clT, not_true_eq_false, not_false_eq_true, eq_self, true_or, or_true, z_m_lt, z_m_le, z_lt_m, z_le_m, z_eq_m, z_m_eq, z_rz0, z_rz1, z_m_add, z_of, r_0_0, r_0_1, r_0_3, r_0_4, r_0_5, r_0_6, r_0_7, r_0_8, r_0_9, r_0_10, r_1_0, r_1_1, r_1_2, r_1_3, r_1_4, r_1_5, r_1_6, r_1_7, r_1_8, r_2_0, r_2_1, r_2_2, r_2_3, r_2_4, r_2_5, r_2_6, r_2_7, r_11_0, r_11_1, r_11_2, r_11_3, r_11_4, r_11_5, r_11_6, r_19_0, r_21_0, r_23_0, r_25_0, r_27_0, r_61_0, r_117_0, r_117_1, r_117_2, r_117_3, r_117_4, r_117_5, r_117_6, r_117_7, r_126_0, r_126_1, r_126_2, r_126_3, r_126_4, r_132_0, r_132_1, r_135_0, r_135_1, r_135_2, r_135_3, r_135_4, r_135_5, r_142_0, r_144_0, r_144_1, r_144_2, r_145_0, r_145_1, r_145_2, r_145_3, r_145_4, r_145_5, r_145_6, r_154_0, r_154_1, r_155_0, ↓z_m1, l_0, l_1, l_2, l_3, l_4, l_5, l_6, l_7, l_8, l_9, l_10, l_11, l_12, l_13, l_14, l_15, l_16, l_17, l_18, l_19, l_20, l_21, l_22, l_23, l_24, l_25, l_26, l_27, l_28, l_29, l_30, l_31, l_32, l_33, l_34, l_35, l_36, l_37, l_38, l_39, l_40, l_41, l_42, l_43, l_44, l_45, l_46, l_47, l_48, l_49, l_50, l_51, l_52, l_53, l_54, l_55, l_56, l_57, l_59, l_60, l_61, l_62, l_63, l_64, l_65, l_80, l_86, l_87, l_88, l_89, l_90, l_91, l_92, l_93, l_94, l_95, l_97, l_99, l_100, l_107, l_119, l_122, l_124, l_129, l_140, l_141, l_142, l_143, l_144, l_145, l_147, l_150, l_159, l_160, l_161, l_162, l_205, l_253, l_255, l_256, l_269, l_305, l_380, l_399, l_400, l_420, l_430, l_516, l_600, l_720, l_820, l_905, l_921, l_937, l_953, l_970, l_999, l_1000, l_1790, l_4096, l_9999, l_1000000]
  · intro h
    have h0 := (z_out (by omega) h).1
    constructor
    · rintro rfl
      unfold f_X9_hasMule
      split
      · rfl
      · rename_i h1
        rw [h8, if_neg (fun h2 => h0 ⟨h1, h2⟩)]; rfl
    · rintro rfl
      unfold f_X9_hasMan
      split
      · rfl
      · rename_i h1
        rw [h8, if_neg (fun h2 => h0 ⟨h1, h2⟩)]; rfl
/-! the answers of the image's kind: nothing changes -/
theorem z_look_l {σ : q_Sto} (h : q_Sim σ) : True := trivial
