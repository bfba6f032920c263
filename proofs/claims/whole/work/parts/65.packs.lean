/-! the loads: mule by mule -/
def z_a1 (V : Nat → Int32) (C S x : Nat) (A : Nat → Nat) : Nat → Nat := fun y => if y = x ∧ A x = 0 then z_sb V C A x S q_F x else A y
def z_ad (V : Nat → Int32) (C S : Nat) : Nat → (Nat → Nat) → (Nat → Nat)
  | 0, A => A
  | x + 1, A => z_ad V C S x (z_a1 V C S (x+1) A)
theorem z_a1_le {V : Nat → Int32} {C S x : Nat} {A : Nat → Nat} (h : ∀ y, A y ≤ 1) : ∀ y, z_a1 V C S x A y ≤ 1 := fun y => z_ite_le (z_sb_le _ _) (h y)
theorem z_ad_le {V : Nat → Int32} {C S : Nat} : ∀ x A, (∀ y, A y ≤ 1) → ∀ y, z_ad V C S x A y ≤ 1
  | 0, _, h => h
  | x + 1, A, h => z_ad_le x _ (z_a1_le h)
theorem z_decr {a : Nat} : nI (a+1) + z_m = nI a := by rw [Int32.add_comm]; exact z_m_add a
theorem c_muleA_L {C N S m lame : Nat} {N' : Int32} {V : Nat → Int32} {K : q_Sto → Option (Int32 × q_Sto)} (hL : z_LD V C) (hN : N ≤ 256) (hS : S ≤ 40) (hm : m < 12) (hl : lame < 4096) (hnl : ¬ lame.testBit m = true) :
    ∀ x j (σ : q_Sto) A, x < N → x < j → (∀ y, A y ≤ 1) → σ 3 m = nI S → (∀ y, y < N → σ 136 y = nI (z_we V y C)) → (∀ y, y < N → σ 137 y = nI (A y)) →
    ∃ σ', (∀ o, o ≠ 137 → σ' o = σ o) ∧ (∀ y, y < N → σ' 137 y = nI (z_ad V C S x A y)) ∧ f_X4_bestPack_L59 q_F 135 1 2 N' (nI lame) (nI m) K j (nI x) σ = K σ' := by
  intro x
  induction x with
  | zero =>
    intro j σ A hx hj hA h3 h6 h7
    obtain ⟨j, rfl⟩ : ∃ j2, j = j2 + 1 := ⟨j - 1, by omega⟩
    refine ⟨σ, fun _ _ => rfl, h7, ?_⟩
    rw [f_X4_bestPack_L59]
    simp (disch := omega) only [↓reduceIte, ↓p_ld, ↓p_st, ↓p_nm, ↓p_nS, ↓p_jn, ↓p_call, ↓p_callv, ↓p_dv, ↓p_rem, h_ldE, h_stE, h_nmE, h_nSE, h_callE, h_callvE, h_dvE, h_remE, if_true, if_false, z_upS, z_upO, z_upK, nI_add, z_mul, z_sub, z_div, Nat.add_zero, Nat.mul_zero, Nat.zero_add, Nat.sub_zero, Nat.zero_mul, z_ltT, z_ltF, z_leT, z_leF, z_eqT, z_eqF, z_inT, z_clT, not_true_eq_false, not_false_eq_true, eq_self, true_or, or_true, z_m_lt, z_m_le, z_lt_m, z_le_m, z_eq_m, z_m_eq, z_rz0, z_rz1, z_m_add, z_of, r_0_0, r_0_1, r_0_3, r_0_4, r_0_5, r_0_6, r_0_7, r_0_8, r_0_9, r_0_10, r_1_0, r_1_1, r_1_2, r_1_3, r_1_4, r_1_5, r_1_6, r_1_7, r_1_8, r_2_0, r_2_1, r_2_2, r_2_3, r_2_4, r_2_5, r_2_6, r_2_7, r_11_0, r_11_1, r_11_2, r_11_3, r_11_4, r_11_5, r_11_6, r_19_0, r_21_0, r_23_0, r_25_0, r_27_0, r_61_0, r_117_0, r_117_1, r_117_2, r_117_3, r_117_4, r_117_5, r_117_6, r_117_7, r_126_0, r_126_1, r_126_2, r_126_3, r_126_4, r_132_0, r_132_1, r_135_0, r_135_1, r_135_2, r_135_3, r_135_4, r_135_5, r_142_0, r_144_0, r_144_1, r_144_2, r_145_0, r_145_1, r_145_2, r_145_3, r_145_4, r_145_5, r_145_6, r_154_0, r_154_1, r_155_0, ↓z_m1, l_0, l_1, l_2, l_3, l_4, l_5, l_6, l_7, l_8, l_9, l_10, l_11, l_12, l_13, l_14, l_15, l_16, l_17, l_18, l_19, l_20, l_21, l_22, l_23, l_24, l_25, l_26, l_27, l_28, l_29, l_30, l_31, l_32, l_33, l_34, l_35, l_36, l_37, l_38, l_39, l_40, l_41, l_42, l_43, l_44, l_45, l_46, l_47, l_48, l_49, l_50, l_51, l_52, l_53, l_54, l_55, l_56, l_57, l_59, l_60, l_61, l_62, l_63, l_64, l_65, l_80, l_86, l_87, l_88, l_89, l_90, l_91, l_92, l_93, l_94, l_95, l_97, l_99, l_100, l_107, l_119, l_122, l_124, l_129, l_140, l_141, l_142, l_143, l_144, l_145, l_147, l_150, l_159, l_160, l_161, l_162, l_205, l_253, l_255, l_256, l_269, l_305, l_380, l_399, l_400, l_420, l_430, l_516, l_600, l_720, l_820, l_905, l_921, l_937, l_953, l_970, l_999, l_1000, l_1790, l_4096, l_9999, l_1000000]
  | succ x ih =>
    intro j σ A hx hj hA h3 h6 h7
    obtain ⟨j, rfl⟩ : ∃ j2, j = j2 + 1 := ⟨j - 1, by omega⟩
    have eI := c_isInF (n := q_F) (σ := σ) (s := lame) (by omega) (show m < 31 by omega) hnl
    have gx := h7 (x+1) hx
    have hAx := hA (x+1)
    have ez : z_ad V C S (x+1) A = z_ad V C S x (z_a1 V C S (x+1) A) := rfl
    have ecan := c_can_L (n := q_F) (σ := σ) hL hN hx hS hA h6 h7 q_F (x+1) (Nat.le_refl _) (by unfold q_F; omega)
    have ecan : f_X4_canAdd q_F 135 (nI (x+1)) (nI S) σ = some (nI (z_sb V C A (x+1) S q_F (x+1)), σ) := ecan
    have hd : nI (x+1) + z_m = nI x := z_decr
    by_cases q : A (x+1) = 0
    · rw [q] at gx
      have hsb := z_sb_le (V := V) (C := C) (A := A) (x := x+1) (S := S) q_F (x+1)
      by_cases q2 : z_sb V C A (x+1) S q_F (x+1) = 0
      · obtain ⟨σ', k1, k2, k3⟩ := ih j σ (z_a1 V C S (x+1) A) (by omega) (by omega) (z_a1_le hA) h3 h6 (fun y hy => by
          unfold z_a1
          by_cases qy : y = x + 1
          · subst qy
            rw [if_pos ⟨rfl, q⟩, q2]; exact gx
          · rw [if_neg (fun h => qy h.1)]; exact h7 y hy)
        refine ⟨σ', k1, by rw [ez]; exact k2, ?_⟩
        rw [q2] at ecan
        rw [← k3, f_X4_bestPack_L59]
        simp (disch := omega) only [eI, gx, h3, ecan, hd, ↓reduceIte, ↓p_ld, ↓p_st, ↓p_nm, ↓p_nS, ↓p_jn, ↓p_call, ↓p_callv, ↓p_dv, ↓p_rem, h_ldE, h_stE, h_nmE, h_nSE, h_callE, h_callvE, h_dvE, h_remE, if_true, if_false, z_upS, z_upO, z_upK, nI_add, z_mul, z_sub, z_div, Nat.add_zero, Nat.mul_zero, Nat.zero_add, Nat.sub_zero, Nat.zero_mul, z_ltT, z_ltF, z_leT, z_leF, z_eqT, z_eqF, z_inT, z_clT, not_true_eq_false, not_false_eq_true, eq_self, true_or, or_true, z_m_lt, z_m_le, z_lt_m, z_le_m, z_eq_m, z_m_eq, z_rz0, z_rz1, z_m_add, z_of, r_0_0, r_0_1, r_0_3, r_0_4, r_0_5, r_0_6, r_0_7, r_0_8, r_0_9, r_0_10, r_1_0, r_1_1, r_1_2, r_1_3, r_1_4, r_1_5, r_1_6, r_1_7, r_1_8, r_2_0, r_2_1, r_2_2, r_2_3, r_2_4, r_2_5, r_2_6, r_2_7, r_11_0, r_11_1, r_11_2, r_11_3, r_11_4, r_11_5, r_11_6, r_19_0, r_21_0, r_23_0, r_25_0, r_27_0, r_61_0, r_117_0, r_117_1, r_117_2, r_117_3, r_117_4, r_117_5, r_117_6, r_117_7, r_126_0, r_126_1, r_126_2, r_126_3, r_126_4, r_132_0, r_132_1, r_135_0, r_135_1, r_135_2, r_135_3, r_135_4, r_135_5, r_142_0, r_144_0, r_144_1, r_144_2, r_145_0, r_145_1, r_145_2, r_145_3, r_145_4, r_145_5, r_145_6, r_154_0, r_154_1, r_155_0, ↓z_m1, l_0, l_1, l_2, l_3, l_4, l_5, l_6, l_7, l_8, l_9, l_10, l_11, l_12, l_13, l_14, l_15, l_16, l_17, l_18, l_19, l_20, l_21, l_22, l_23, l_24, l_25, l_26, l_27, l_28, l_29, l_30, l_31, l_32, l_33, l_34, l_35, l_36, l_37, l_38, l_39, l_40, l_41, l_42, l_43, l_44, l_45, l_46, l_47, l_48, l_49, l_50, l_51, l_52, l_53, l_54, l_55, l_56, l_57, l_59, l_60, l_61, l_62, l_63, l_64, l_65, l_80, l_86, l_87, l_88, l_89, l_90, l_91, l_92, l_93, l_94, l_95, l_97, l_99, l_100, l_107, l_119, l_122, l_124, l_129, l_140, l_141, l_142, l_143, l_144, l_145, l_147, l_150, l_159, l_160, l_161, l_162, l_205, l_253, l_255, l_256, l_269, l_305, l_380, l_399, l_400, l_420, l_430, l_516, l_600, l_720, l_820, l_905, l_921, l_937, l_953, l_970, l_999, l_1000, l_1790, l_4096, l_9999, l_1000000]
      · have q3 : z_sb V C A (x+1) S q_F (x+1) = 1 := by omega
        obtain ⟨σ', k1, k2, k3⟩ := ih j (q_up σ 137 (x+1) (nI 1)) (z_a1 V C S (x+1) A) (by omega) (by omega) (z_a1_le hA) (by rw [z_upO (by omega)]; exact h3) (fun y hy => by rw [z_upO (by omega)]; exact h6 y hy) (fun y hy => by
          unfold z_a1
          by_cases qy : y = x + 1
          · subst qy
            rw [if_pos ⟨rfl, q⟩, q3, z_upS]
          · rw [if_neg (fun h => qy h.1), z_upK qy]; exact h7 y hy)
        refine ⟨σ', fun o ho => by rw [k1 o ho, z_upO ho], by rw [ez]; exact k2, ?_⟩
        rw [q3] at ecan
        rw [← k3, f_X4_bestPack_L59]
        simp (disch := omega) only [eI, gx, h3, ecan, hd, ↓reduceIte, ↓p_ld, ↓p_st, ↓p_nm, ↓p_nS, ↓p_jn, ↓p_call, ↓p_callv, ↓p_dv, ↓p_rem, h_ldE, h_stE, h_nmE, h_nSE, h_callE, h_callvE, h_dvE, h_remE, if_true, if_false, z_upS, z_upO, z_upK, nI_add, z_mul, z_sub, z_div, Nat.add_zero, Nat.mul_zero, Nat.zero_add, Nat.sub_zero, Nat.zero_mul, z_ltT, z_ltF, z_leT, z_leF, z_eqT, z_eqF, z_inT, z_clT, not_true_eq_false, not_false_eq_true, eq_self, true_or, or_true, z_m_lt, z_m_le, z_lt_m, z_le_m, z_eq_m, z_m_eq, z_rz0, z_rz1, z_m_add, z_of, r_0_0, r_0_1, r_0_3, r_0_4, r_0_5, r_0_6, r_0_7, r_0_8, r_0_9, r_0_10, r_1_0, r_1_1, r_1_2, r_1_3, r_1_4, r_1_5, r_1_6, r_1_7, r_1_8, r_2_0, r_2_1, r_2_2, r_2_3, r_2_4, r_2_5, r_2_6, r_2_7, r_11_0, r_11_1, r_11_2, r_11_3, r_11_4, r_11_5, r_11_6, r_19_0, r_21_0, r_23_0, r_25_0, r_27_0, r_61_0, r_117_0, r_117_1, r_117_2, r_117_3, r_117_4, r_117_5, r_117_6, r_117_7, r_126_0, r_126_1, r_126_2, r_126_3, r_126_4, r_132_0, r_132_1, r_135_0, r_135_1, r_135_2, r_135_3, r_135_4, r_135_5, r_142_0, r_144_0, r_144_1, r_144_2, r_145_0, r_145_1, r_145_2, r_145_3, r_145_4, r_145_5, r_145_6, r_154_0, r_154_1, r_155_0, ↓z_m1, l_0, l_1, l_2, l_3, l_4, l_5, l_6, l_7, l_8, l_9, l_10, l_11, l_12, l_13, l_14, l_15, l_16, l_17, l_18, l_19, l_20, l_21, l_22, l_23, l_24, l_25, l_26, l_27, l_28, l_29, l_30, l_31, l_32, l_33, l_34, l_35, l_36, l_37, l_38, l_39, l_40, l_41, l_42, l_43, l_44, l_45, l_46, l_47, l_48, l_49, l_50, l_51, l_52, l_53, l_54, l_55, l_56, l_57, l_59, l_60, l_61, l_62, l_63, l_64, l_65, l_80, l_86, l_87, l_88, l_89, l_90, l_91, l_92, l_93, l_94, l_95, l_97, l_99, l_100, l_107, l_119, l_122, l_124, l_129, l_140, l_141, l_142, l_143, l_144, l_145, l_147, l_150, l_159, l_160, l_161, l_162, l_205, l_253, l_255, l_256, l_269, l_305, l_380, l_399, l_400, l_420, l_430, l_516, l_600, l_720, l_820, l_905, l_921, l_937, l_953, l_970, l_999, l_1000, l_1790, l_4096, l_9999, l_1000000]
    · have q1 : A (x+1) = 1 := by omega
      rw [q1] at gx
      obtain ⟨σ', k1, k2, k3⟩ := ih j σ (z_a1 V C S (x+1) A) (by omega) (by omega) (z_a1_le hA) h3 h6 (fun y hy => by
        unfold z_a1
        rw [if_neg (fun h => q h.2)]
        exact h7 y hy)
      refine ⟨σ', k1, by rw [ez]; exact k2, ?_⟩
      rw [← k3, f_X4_bestPack_L59]
      simp (disch := omega) only [eI, gx, hd, ↓reduceIte, ↓p_ld, ↓p_st, ↓p_nm, ↓p_nS, ↓p_jn, ↓p_call, ↓p_callv, ↓p_dv, ↓p_rem, h_ldE, h_stE, h_nmE, h_nSE, h_callE, h_callvE, h_dvE, h_remE, if_true, if_false, z_upS, z_upO, z_upK, nI_add, z_mul, z_sub, z_div, Nat.add_zero, Nat.mul_zero, Nat.zero_add, Nat.sub_zero, Nat.zero_mul, z_ltT, z_ltF, z_leT, z_leF, z_eqT, z_eqF, z_inT, z_clT, not_true_eq_false, not_false_eq_true, eq_self, true_or, or_true, z_m_lt, z_m_le, z_lt_m, z_le_m, z_eq_m, z_m_eq, z_rz0, z_rz1, z_m_add, z_of, r_0_0, r_0_1, r_0_3, r_0_4, r_0_5, r_0_6, r_0_7, r_0_8, r_0_9, r_0_10, r_1_0, r_1_1, r_1_2, r_1_3, r_1_4, r_1_5, r_1_6, r_1_7, r_1_8, r_2_0, r_2_1, r_2_2, r_2_3, r_2_4, r_2_5, r_2_6, r_2_7, r_11_0, r_11_1, r_11_2, r_11_3, r_11_4, r_11_5, r_11_6, r_19_0, r_21_0, r_23_0, r_25_0, r_27_0, r_61_0, r_117_0, r_117_1, r_117_2, r_117_3, r_117_4, r_117_5, r_117_6, r_117_7, r_126_0, r_126_1, r_126_2, r_126_3, r_126_4, r_132_0, r_132_1, r_135_0, r_135_1, r_135_2, r_135_3, r_135_4, r_135_5, r_142_0, r_144_0, r_144_1, r_144_2, r_145_0, r_145_1, r_145_2, r_145_3, r_145_4, r_145_5, r_145_6, r_154_0, r_154_1, r_155_0, ↓z_m1, l_0, l_1, l_2, l_3, l_4, l_5, l_6, l_7, l_8, l_9, l_10, l_11, l_12, l_13, l_14, l_15, l_16, l_17, l_18, l_19, l_20, l_21, l_22, l_23, l_24, l_25, l_26, l_27, l_28, l_29, l_30, l_31, l_32, l_33, l_34, l_35, l_36, l_37, l_38, l_39, l_40, l_41, l_42, l_43, l_44, l_45, l_46, l_47, l_48, l_49, l_50, l_51, l_52, l_53, l_54, l_55, l_56, l_57, l_59, l_60, l_61, l_62, l_63, l_64, l_65, l_80, l_86, l_87, l_88, l_89, l_90, l_91, l_92, l_93, l_94, l_95, l_97, l_99, l_100, l_107, l_119, l_122, l_124, l_129, l_140, l_141, l_142, l_143, l_144, l_145, l_147, l_150, l_159, l_160, l_161, l_162, l_205, l_253, l_255, l_256, l_269, l_305, l_380, l_399, l_400, l_420, l_430, l_516, l_600, l_720, l_820, l_905, l_921, l_937, l_953, l_970, l_999, l_1000, l_1790, l_4096, l_9999, l_1000000]
theorem m_muleA_L {C N S m : Nat} {x1 : Int32} {V : Nat → Int32} {K : q_Sto → Option (Int32 × q_Sto)} (hL : z_LD V C) (hN : N ≤ 256) (hS : S ≤ 40) (hm : m < 12) (hV95 : V (95+m) = nI S) :
    ∀ x j (σ : q_Sto) A, x < N → x < j → (∀ y, A y ≤ 1) → σ 158 = V → (∀ y, y < N → σ 169 y = nI (A y)) →
    ∃ σ', (∀ o, o ≠ 169 → σ' o = σ o) ∧ (∀ y, y < N → σ' 169 y = nI (z_ad V C S x A y)) ∧ f_X12_laysLoads_L66 q_F 157 x1 (nI m) K j (nI x) σ = K σ' := by
  intro x
  induction x with
  | zero =>
    intro j σ A hx hj hA hV h7
    obtain ⟨j, rfl⟩ : ∃ j2, j = j2 + 1 := ⟨j - 1, by omega⟩
    refine ⟨σ, fun _ _ => rfl, h7, ?_⟩
    rw [f_X12_laysLoads_L66]
    simp (disch := omega) only [↓reduceIte, ↓p_ld, ↓p_st, ↓p_nm, ↓p_nS, ↓p_jn, ↓p_call, ↓p_callv, ↓p_dv, ↓p_rem, h_ldE, h_stE, h_nmE, h_nSE, h_callE, h_callvE, h_dvE, h_remE, if_true, if_false, z_upS, z_upO, z_upK, nI_add, z_mul, z_sub, z_div, Nat.add_zero, Nat.mul_zero, Nat.zero_add, Nat.sub_zero, Nat.zero_mul, z_ltT, z_ltF, z_leT, z_leF, z_eqT, z_eqF, z_inT, z_clT, not_true_eq_false, not_false_eq_true, eq_self, true_or, or_true, z_m_lt, z_m_le, z_lt_m, z_le_m, z_eq_m, z_m_eq, z_rz0, z_rz1, z_m_add, z_of, r_157_0, r_157_1, r_157_2, r_157_3, r_157_6, r_157_7, r_157_8, r_157_9, r_157_10, r_157_11, r_157_27, r_157_28, r_157_29, r_157_30, ↓z_m1, l_0, l_1, l_2, l_3, l_4, l_5, l_6, l_7, l_8, l_9, l_10, l_11, l_12, l_13, l_14, l_15, l_16, l_17, l_18, l_19, l_20, l_21, l_22, l_23, l_24, l_25, l_26, l_27, l_28, l_29, l_30, l_31, l_32, l_33, l_34, l_35, l_36, l_37, l_38, l_39, l_40, l_41, l_42, l_43, l_44, l_45, l_46, l_47, l_48, l_49, l_50, l_51, l_52, l_53, l_54, l_55, l_56, l_57, l_59, l_60, l_61, l_62, l_63, l_64, l_65, l_80, l_86, l_87, l_88, l_89, l_90, l_91, l_92, l_93, l_94, l_95, l_97, l_99, l_100, l_107, l_119, l_122, l_124, l_129, l_140, l_141, l_142, l_143, l_144, l_145, l_147, l_150, l_159, l_160, l_161, l_162, l_205, l_253, l_255, l_256, l_269, l_305, l_380, l_399, l_400, l_420, l_430, l_516, l_600, l_720, l_820, l_905, l_921, l_937, l_953, l_970, l_999, l_1000, l_1790, l_4096, l_9999, l_1000000]
  | succ x ih =>
    intro j σ A hx hj hA hV h7
    obtain ⟨j, rfl⟩ : ∃ j2, j = j2 + 1 := ⟨j - 1, by omega⟩
    have gx := h7 (x+1) hx
    have hAx := hA (x+1)
    have ez : z_ad V C S (x+1) A = z_ad V C S x (z_a1 V C S (x+1) A) := rfl
    have hd : nI (x+1) + z_m = nI x := z_decr
    by_cases q : A (x+1) = 0
    · obtain ⟨σ1, f1, f2, f3, f4⟩ := m_sub_L (x1 := x1) (K := fun (s30 : q_Sto) => f_X12_laysLoads_L66 q_F 157 x1 (nI m) K j (nI x) s30) hL hN hx hm hS hV95 hA q q_F (x+1) σ (Nat.le_refl _) (by unfold q_F; omega) hV h7
      obtain ⟨σ', k1, k2, k3⟩ := ih j σ1 (z_a1 V C S (x+1) A) (by omega) (by omega) (z_a1_le hA) (by rw [f1 158 (by omega)]; exact hV) (fun y hy => by
        unfold z_a1
        by_cases qy : y = x + 1
        · subst qy
          rw [if_pos ⟨rfl, q⟩]; exact f2
        · rw [if_neg (fun h => qy h.1)]; exact f3 y hy qy)
      refine ⟨σ', fun o ho => by rw [k1 o ho, f1 o ho], by rw [ez]; exact k2, ?_⟩
      rw [← k3, ← f4, f_X12_laysLoads_L66]
      simp (disch := omega) only [hd, ↓reduceIte, ↓p_ld, ↓p_st, ↓p_nm, ↓p_nS, ↓p_jn, ↓p_call, ↓p_callv, ↓p_dv, ↓p_rem, h_ldE, h_stE, h_nmE, h_nSE, h_callE, h_callvE, h_dvE, h_remE, if_true, if_false, z_upS, z_upO, z_upK, nI_add, z_mul, z_sub, z_div, Nat.add_zero, Nat.mul_zero, Nat.zero_add, Nat.sub_zero, Nat.zero_mul, z_ltT, z_ltF, z_leT, z_leF, z_eqT, z_eqF, z_inT, z_clT, not_true_eq_false, not_false_eq_true, eq_self, true_or, or_true, z_m_lt, z_m_le, z_lt_m, z_le_m, z_eq_m, z_m_eq, z_rz0, z_rz1, z_m_add, z_of, r_157_0, r_157_1, r_157_2, r_157_3, r_157_6, r_157_7, r_157_8, r_157_9, r_157_10, r_157_11, r_157_27, r_157_28, r_157_29, r_157_30, ↓z_m1, l_0, l_1, l_2, l_3, l_4, l_5, l_6, l_7, l_8, l_9, l_10, l_11, l_12, l_13, l_14, l_15, l_16, l_17, l_18, l_19, l_20, l_21, l_22, l_23, l_24, l_25, l_26, l_27, l_28, l_29, l_30, l_31, l_32, l_33, l_34, l_35, l_36, l_37, l_38, l_39, l_40, l_41, l_42, l_43, l_44, l_45, l_46, l_47, l_48, l_49, l_50, l_51, l_52, l_53, l_54, l_55, l_56, l_57, l_59, l_60, l_61, l_62, l_63, l_64, l_65, l_80, l_86, l_87, l_88, l_89, l_90, l_91, l_92, l_93, l_94, l_95, l_97, l_99, l_100, l_107, l_119, l_122, l_124, l_129, l_140, l_141, l_142, l_143, l_144, l_145, l_147, l_150, l_159, l_160, l_161, l_162, l_205, l_253, l_255, l_256, l_269, l_305, l_380, l_399, l_400, l_420, l_430, l_516, l_600, l_720, l_820, l_905, l_921, l_937, l_953, l_970, l_999, l_1000, l_1790, l_4096, l_9999, l_1000000]
    · have q1 : A (x+1) = 1 := by omega
      rw [q1] at gx
      obtain ⟨σ', k1, k2, k3⟩ := ih j σ (z_a1 V C S (x+1) A) (by omega) (by omega) (z_a1_le hA) hV (fun y hy => by
        unfold z_a1
        rw [if_neg (fun h => q h.2)]
        exact h7 y hy)
      refine ⟨σ', k1, by rw [ez]; exact k2, ?_⟩
      have hF : ∃ M, q_F = M + 1 := ⟨19999, by unfold q_F; omega⟩
      obtain ⟨M, hM⟩ := hF
      have eS : ∀ K : q_Sto → Option (Int32 × q_Sto), f_X12_laysLoads_L73 q_F 157 x1 (nI m) (nI (x+1)) K q_F (nI (x+1)) σ = K σ := by
        intro K
        conv => lhs; arg 7; rw [hM]
        rw [f_X12_laysLoads_L73]
        simp (disch := omega) only [gx, ↓reduceIte, ↓p_ld, ↓p_st, ↓p_nm, ↓p_nS, ↓p_jn, ↓p_call, ↓p_callv, ↓p_dv, ↓p_rem, h_ldE, h_stE, h_nmE, h_nSE, h_callE, h_callvE, h_dvE, h_remE, if_true, if_false, z_upS, z_upO, z_upK, nI_add, z_mul, z_sub, z_div, Nat.add_zero, Nat.mul_zero, Nat.zero_add, Nat.sub_zero, Nat.zero_mul, z_ltT, z_ltF, z_leT, z_leF, z_eqT, z_eqF, z_inT, z_clT, not_true_eq_false, not_false_eq_true, eq_self, true_or, or_true, z_m_lt, z_m_le, z_lt_m, z_le_m, z_eq_m, z_m_eq, z_rz0, z_rz1, z_m_add, z_of, r_157_0, r_157_1, r_157_2, r_157_3, r_157_6, r_157_7, r_157_8, r_157_9, r_157_10, r_157_11, r_157_27, r_157_28, r_157_29, r_157_30, ↓z_m1, l_0, l_1, l_2, l_3, l_4, l_5, l_6, l_7, l_8, l_9, l_10, l_11, l_12, l_13, l_14, l_15, l_16, l_17, l_18, l_19, l_20, l_21, l_22, l_23, l_24, l_25, l_26, l_27, l_28, l_29, l_30, l_31, l_32, l_33, l_34, l_35, l_36, l_37, l_38, l_39, l_40, l_41, l_42, l_43, l_44, l_45, l_46, l_47, l_48, l_49, l_50, l_51, l_52, l_53, l_54, l_55, l_56, l_57, l_59, l_60, l_61, l_62, l_63, l_64, l_65, l_80, l_86, l_87, l_88, l_89, l_90, l_91, l_92, l_93, l_94, l_95, l_97, l_99, l_100, l_107, l_119, l_122, l_124, l_129, l_140, l_141, l_142, l_143, l_144, l_145, l_147, l_150, l_159, l_160, l_161, l_162, l_205, l_253, l_255, l_256, l_269, l_305, l_380, l_399, l_400, l_420, l_430, l_516, l_600, l_720, l_820, l_905, l_921, l_937, l_953, l_970, l_999, l_1000, l_1790, l_4096, l_9999, l_1000000]
      rw [← k3, f_X12_laysLoads_L66]
      simp (disch := omega) only [hd, eS, ↓reduceIte, ↓p_ld, ↓p_st, ↓p_nm, ↓p_nS, ↓p_jn, ↓p_call, ↓p_callv, ↓p_dv, ↓p_rem, h_ldE, h_stE, h_nmE, h_nSE, h_callE, h_callvE, h_dvE, h_remE, if_true, if_false, z_upS, z_upO, z_upK, nI_add, z_mul, z_sub, z_div, Nat.add_zero, Nat.mul_zero, Nat.zero_add, Nat.sub_zero, Nat.zero_mul, z_ltT, z_ltF, z_leT, z_leF, z_eqT, z_eqF, z_inT, z_clT, not_true_eq_false, not_false_eq_true, eq_self, true_or, or_true, z_m_lt, z_m_le, z_lt_m, z_le_m, z_eq_m, z_m_eq, z_rz0, z_rz1, z_m_add, z_of, r_157_0, r_157_1, r_157_2, r_157_3, r_157_6, r_157_7, r_157_8, r_157_9, r_157_10, r_157_11, r_157_27, r_157_28, r_157_29, r_157_30, ↓z_m1, l_0, l_1, l_2, l_3, l_4, l_5, l_6, l_7, l_8, l_9, l_10, l_11, l_12, l_13, l_14, l_15, l_16, l_17, l_18, l_19, l_20, l_21, l_22, l_23, l_24, l_25, l_26, l_27, l_28, l_29, l_30, l_31, l_32, l_33, l_34, l_35, l_36, l_37, l_38, l_39, l_40, l_41, l_42, l_43, l_44, l_45, l_46, l_47, l_48, l_49, l_50, l_51, l_52, l_53, l_54, l_55, l_56, l_57, l_59, l_60, l_61, l_62, l_63, l_64, l_65, l_80, l_86, l_87, l_88, l_89, l_90, l_91, l_92, l_93, l_94, l_95, l_97, l_99, l_100, l_107, l_119, l_122, l_124, l_129, l_140, l_141, l_142, l_143, l_144, l_145, l_147, l_150, l_159, l_160, l_161, l_162, l_205, l_253, l_255, l_256, l_269, l_305, l_380, l_399, l_400, l_420, l_430, l_516, l_600, l_720, l_820, l_905, l_921, l_937, l_953, l_970, l_999, l_1000, l_1790, l_4096, l_9999, l_1000000]
def z_am (V : Nat → Int32) (C N lame : Nat) : Nat → Nat → (Nat → Nat) → (Nat → Nat)
  | 0, _, A => A
  | n + 1, m, A => z_am V C N lame n (m+1) (if lame.testBit m = true then A else z_ad V C (zn (V (95+m))) (N-1) A)
theorem z_ifA_le {V : Nat → Int32} {C N lame m : Nat} {A : Nat → Nat} (h : ∀ y, A y ≤ 1) : ∀ y, (if lame.testBit m = true then A else z_ad V C (zn (V (95+m))) (N-1) A) y ≤ 1 := by
  intro y
  split
  · exact h y
  · exact z_ad_le _ _ h y
theorem c_mulesA_L {C N lame mu me : Nat} {V : Nat → Int32} {K : q_Sto → Option (Int32 × q_Sto)} (hL : z_LD V C) (hN : N ≤ 256) (hN0 : 1 ≤ N) (hl : lame < 4096) : ∀ i m j (σ : q_Sto) A, i + m = mu → i < j → z_C σ V mu me → (∀ y, A y ≤ 1) → (∀ y, y < N → σ 136 y = nI (z_we V y C)) → (∀ y, y < N → σ 137 y = nI (A y)) →
    ∃ σ', (∀ o, o ≠ 137 → σ' o = σ o) ∧ (∀ y, y < N → σ' 137 y = nI (z_am V C N lame i m A y)) ∧ f_X4_bestPack_L38 q_F 135 1 2 (nI N) (nI lame) K j (nI m) σ = K σ' := by
  intro i
  induction i with
  | zero =>
    intro m j σ A hi hj hC hA h6 h7
    obtain ⟨j, rfl⟩ : ∃ j2, j = j2 + 1 := ⟨j - 1, by omega⟩
    have hi : m = mu := by omega
    subst hi
    have g8 : σ 2 8 = nI m := hC.2.1.1.1
    have hmu := hC.1.1
    refine ⟨σ, fun _ _ => rfl, h7, ?_⟩
    rw [f_X4_bestPack_L38]
    simp (disch := omega) only [g8, ↓reduceIte, ↓p_ld, ↓p_st, ↓p_nm, ↓p_nS, ↓p_jn, ↓p_call, ↓p_callv, ↓p_dv, ↓p_rem, h_ldE, h_stE, h_nmE, h_nSE, h_callE, h_callvE, h_dvE, h_remE, if_true, if_false, z_upS, z_upO, z_upK, nI_add, z_mul, z_sub, z_div, Nat.add_zero, Nat.mul_zero, Nat.zero_add, Nat.sub_zero, Nat.zero_mul, z_ltT, z_ltF, z_leT, z_leF, z_eqT, z_eqF, z_inT, z_clT, not_true_eq_false, not_false_eq_true, eq_self, true_or, or_true, z_m_lt, z_m_le, z_lt_m, z_le_m, z_eq_m, z_m_eq, z_rz0, z_rz1, z_m_add, z_of, r_0_0, r_0_1, r_0_3, r_0_4, r_0_5, r_0_6, r_0_7, r_0_8, r_0_9, r_0_10, r_1_0, r_1_1, r_1_2, r_1_3, r_1_4, r_1_5, r_1_6, r_1_7, r_1_8, r_2_0, r_2_1, r_2_2, r_2_3, r_2_4, r_2_5, r_2_6, r_2_7, r_11_0, r_11_1, r_11_2, r_11_3, r_11_4, r_11_5, r_11_6, r_19_0, r_21_0, r_23_0, r_25_0, r_27_0, r_61_0, r_117_0, r_117_1, r_117_2, r_117_3, r_117_4, r_117_5, r_117_6, r_117_7, r_126_0, r_126_1, r_126_2, r_126_3, r_126_4, r_132_0, r_132_1, r_135_0, r_135_1, r_135_2, r_135_3, r_135_4, r_135_5, r_142_0, r_144_0, r_144_1, r_144_2, r_145_0, r_145_1, r_145_2, r_145_3, r_145_4, r_145_5, r_145_6, r_154_0, r_154_1, r_155_0, ↓z_m1, l_0, l_1, l_2, l_3, l_4, l_5, l_6, l_7, l_8, l_9, l_10, l_11, l_12, l_13, l_14, l_15, l_16, l_17, l_18, l_19, l_20, l_21, l_22, l_23, l_24, l_25, l_26, l_27, l_28, l_29, l_30, l_31, l_32, l_33, l_34, l_35, l_36, l_37, l_38, l_39, l_40, l_41, l_42, l_43, l_44, l_45, l_46, l_47, l_48, l_49, l_50, l_51, l_52, l_53, l_54, l_55, l_56, l_57, l_59, l_60, l_61, l_62, l_63, l_64, l_65, l_80, l_86, l_87, l_88, l_89, l_90, l_91, l_92, l_93, l_94, l_95, l_97, l_99, l_100, l_107, l_119, l_122, l_124, l_129, l_140, l_141, l_142, l_143, l_144, l_145, l_147, l_150, l_159, l_160, l_161, l_162, l_205, l_253, l_255, l_256, l_269, l_305, l_380, l_399, l_400, l_420, l_430, l_516, l_600, l_720, l_820, l_905, l_921, l_937, l_953, l_970, l_999, l_1000, l_1790, l_4096, l_9999, l_1000000]
  | succ i ih =>
    intro m j σ A hi hj hC hA h6 h7
    obtain ⟨j, rfl⟩ : ∃ j2, j = j2 + 1 := ⟨j - 1, by omega⟩
    have g8 : σ 2 8 = nI mu := hC.2.1.1.1
    have hmu := hC.1.1
    obtain ⟨x1, x2⟩ := z_leE (hC.1.2.2.2.2.2.1 m (by omega)).2.1 (by omega)
    have g3 : σ 3 m = nI (zn (V (95+m))) := ((hC.2.1.2.1 m (by omega)).1).trans x1
    have ez : z_am V C N lame (i+1) m A = z_am V C N lame i (m+1) (if lame.testBit m = true then A else z_ad V C (zn (V (95+m))) (N-1) A) := rfl
    have en : nI N - nI 1 = nI (N-1) := z_sub hN0
    by_cases q : lame.testBit m = true
    · obtain ⟨σ', k1, k2, k3⟩ := ih (m+1) j σ A (by omega) (by omega) hC hA h6 h7
      refine ⟨σ', k1, by rw [ez, if_pos q]; exact k2, ?_⟩
      have hF : ∃ M, q_F = M + 1 := ⟨19999, by unfold q_F; omega⟩
      obtain ⟨M, hM⟩ := hF
      have eI := c_isInT (n := q_F) (σ := σ) (s := lame) (by omega) (show m < 31 by omega) q
      have eS : ∀ (K : q_Sto → Option (Int32 × q_Sto)), f_X4_bestPack_L59 q_F 135 1 2 (nI N) (nI lame) (nI m) K q_F (nI (N-1)) σ = K σ := by
        intro K
        conv => lhs; arg 9; rw [hM]
        rw [f_X4_bestPack_L59]
        by_cases q0 : N - 1 = 0
        · rw [q0]
          simp (disch := omega) only [↓reduceIte, ↓p_ld, ↓p_st, ↓p_nm, ↓p_nS, ↓p_jn, ↓p_call, ↓p_callv, ↓p_dv, ↓p_rem, h_ldE, h_stE, h_nmE, h_nSE, h_callE, h_callvE, h_dvE, h_remE, if_true, if_false, z_upS, z_upO, z_upK, nI_add, z_mul, z_sub, z_div, Nat.add_zero, Nat.mul_zero, Nat.zero_add, Nat.sub_zero, Nat.zero_mul, z_ltT, z_ltF, z_leT, z_leF, z_eqT, z_eqF, z_inT, z_clT, not_true_eq_false, not_false_eq_true, eq_self, true_or, or_true, z_m_lt, z_m_le, z_lt_m, z_le_m, z_eq_m, z_m_eq, z_rz0, z_rz1, z_m_add, z_of, r_0_0, r_0_1, r_0_3, r_0_4, r_0_5, r_0_6, r_0_7, r_0_8, r_0_9, r_0_10, r_1_0, r_1_1, r_1_2, r_1_3, r_1_4, r_1_5, r_1_6, r_1_7, r_1_8, r_2_0, r_2_1, r_2_2, r_2_3, r_2_4, r_2_5, r_2_6, r_2_7, r_11_0, r_11_1, r_11_2, r_11_3, r_11_4, r_11_5, r_11_6, r_19_0, r_21_0, r_23_0, r_25_0, r_27_0, r_61_0, r_117_0, r_117_1, r_117_2, r_117_3, r_117_4, r_117_5, r_117_6, r_117_7, r_126_0, r_126_1, r_126_2, r_126_3, r_126_4, r_132_0, r_132_1, r_135_0, r_135_1, r_135_2, r_135_3, r_135_4, r_135_5, r_142_0, r_144_0, r_144_1, r_144_2, r_145_0, r_145_1, r_145_2, r_145_3, r_145_4, r_145_5, r_145_6, r_154_0, r_154_1, r_155_0, ↓z_m1, l_0, l_1, l_2, l_3, l_4, l_5, l_6, l_7, l_8, l_9, l_10, l_11, l_12, l_13, l_14, l_15, l_16, l_17, l_18, l_19, l_20, l_21, l_22, l_23, l_24, l_25, l_26, l_27, l_28, l_29, l_30, l_31, l_32, l_33, l_34, l_35, l_36, l_37, l_38, l_39, l_40, l_41, l_42, l_43, l_44, l_45, l_46, l_47, l_48, l_49, l_50, l_51, l_52, l_53, l_54, l_55, l_56, l_57, l_59, l_60, l_61, l_62, l_63, l_64, l_65, l_80, l_86, l_87, l_88, l_89, l_90, l_91, l_92, l_93, l_94, l_95, l_97, l_99, l_100, l_107, l_119, l_122, l_124, l_129, l_140, l_141, l_142, l_143, l_144, l_145, l_147, l_150, l_159, l_160, l_161, l_162, l_205, l_253, l_255, l_256, l_269, l_305, l_380, l_399, l_400, l_420, l_430, l_516, l_600, l_720, l_820, l_905, l_921, l_937, l_953, l_970, l_999, l_1000, l_1790, l_4096, l_9999, l_1000000]
        · simp (disch := omega) only [eI, ↓reduceIte, ↓p_ld, ↓p_st, ↓p_nm, ↓p_nS, ↓p_jn, ↓p_call, ↓p_callv, ↓p_dv, ↓p_rem, h_ldE, h_stE, h_nmE, h_nSE, h_callE, h_callvE, h_dvE, h_remE, if_true, if_false, z_upS, z_upO, z_upK, nI_add, z_mul, z_sub, z_div, Nat.add_zero, Nat.mul_zero, Nat.zero_add, Nat.sub_zero, Nat.zero_mul, z_ltT, z_ltF, z_leT, z_leF, z_eqT, z_eqF, z_inT, z_clT, not_true_eq_false, not_false_eq_true, eq_self, true_or, or_true, z_m_lt, z_m_le, z_lt_m, z_le_m, z_eq_m, z_m_eq, z_rz0, z_rz1, z_m_add, z_of, r_0_0, r_0_1, r_0_3, r_0_4, r_0_5, r_0_6, r_0_7, r_0_8, r_0_9, r_0_10, r_1_0, r_1_1, r_1_2, r_1_3, r_1_4, r_1_5, r_1_6, r_1_7, r_1_8, r_2_0, r_2_1, r_2_2, r_2_3, r_2_4, r_2_5, r_2_6, r_2_7, r_11_0, r_11_1, r_11_2, r_11_3, r_11_4, r_11_5, r_11_6, r_19_0, r_21_0, r_23_0, r_25_0, r_27_0, r_61_0, r_117_0, r_117_1, r_117_2, r_117_3, r_117_4, r_117_5, r_117_6, r_117_7, r_126_0, r_126_1, r_126_2, r_126_3, r_126_4, r_132_0, r_132_1, r_135_0, r_135_1, r_135_2, r_135_3, r_135_4, r_135_5, r_142_0, r_144_0, r_144_1, r_144_2, r_145_0, r_145_1, r_145_2, r_145_3, r_145_4, r_145_5, r_145_6, r_154_0, r_154_1, r_155_0, ↓z_m1, l_0, l_1, l_2, l_3, l_4, l_5, l_6, l_7, l_8, l_9, l_10, l_11, l_12, l_13, l_14, l_15, l_16, l_17, l_18, l_19, l_20, l_21, l_22, l_23, l_24, l_25, l_26, l_27, l_28, l_29, l_30, l_31, l_32, l_33, l_34, l_35, l_36, l_37, l_38, l_39, l_40, l_41, l_42, l_43, l_44, l_45, l_46, l_47, l_48, l_49, l_50, l_51, l_52, l_53, l_54, l_55, l_56, l_57, l_59, l_60, l_61, l_62, l_63, l_64, l_65, l_80, l_86, l_87, l_88, l_89, l_90, l_91, l_92, l_93, l_94, l_95, l_97, l_99, l_100, l_107, l_119, l_122, l_124, l_129, l_140, l_141, l_142, l_143, l_144, l_145, l_147, l_150, l_159, l_160, l_161, l_162, l_205, l_253, l_255, l_256, l_269, l_305, l_380, l_399, l_400, l_420, l_430, l_516, l_600, l_720, l_820, l_905, l_921, l_937, l_953, l_970, l_999, l_1000, l_1790, l_4096, l_9999, l_1000000]
      rw [← k3, f_X4_bestPack_L38]
      simp (disch := omega) only [g8, en, eS, ↓reduceIte, ↓p_ld, ↓p_st, ↓p_nm, ↓p_nS, ↓p_jn, ↓p_call, ↓p_callv, ↓p_dv, ↓p_rem, h_ldE, h_stE, h_nmE, h_nSE, h_callE, h_callvE, h_dvE, h_remE, if_true, if_false, z_upS, z_upO, z_upK, nI_add, z_mul, z_sub, z_div, Nat.add_zero, Nat.mul_zero, Nat.zero_add, Nat.sub_zero, Nat.zero_mul, z_ltT, z_ltF, z_leT, z_leF, z_eqT, z_eqF, z_inT, z_clT, not_true_eq_false, not_false_eq_true, eq_self, true_or, or_true, z_m_lt, z_m_le, z_lt_m, z_le_m, z_eq_m, z_m_eq, z_rz0, z_rz1, z_m_add, z_of, r_0_0, r_0_1, r_0_3, r_0_4, r_0_5, r_0_6, r_0_7, r_0_8, r_0_9, r_0_10, r_1_0, r_1_1, r_1_2, r_1_3, r_1_4, r_1_5, r_1_6, r_1_7, r_1_8, r_2_0, r_2_1, r_2_2, r_2_3, r_2_4, r_2_5, r_2_6, r_2_7, r_11_0, r_11_1, r_11_2, r_11_3, r_11_4, r_11_5, r_11_6, r_19_0, r_21_0, r_23_0, r_25_0, r_27_0, r_61_0, r_117_0, r_117_1, r_117_2, r_117_3, r_117_4, r_117_5, r_117_6, r_117_7, r_126_0, r_126_1, r_126_2, r_126_3, r_126_4, r_132_0, r_132_1, r_135_0, r_135_1, r_135_2, r_135_3, r_135_4, r_135_5, r_142_0, r_144_0, r_144_1, r_144_2, r_145_0, r_145_1, r_145_2, r_145_3, r_145_4, r_145_5, r_145_6, r_154_0, r_154_1, r_155_0, ↓z_m1, l_0, l_1, l_2, l_3, l_4, l_5, l_6, l_7, l_8, l_9, l_10, l_11, l_12, l_13, l_14, l_15, l_16, l_17, l_18, l_19, l_20, l_21, l_22, l_23, l_24, l_25, l_26, l_27, l_28, l_29, l_30, l_31, l_32, l_33, l_34, l_35, l_36, l_37, l_38, l_39, l_40, l_41, l_42, l_43, l_44, l_45, l_46, l_47, l_48, l_49, l_50, l_51, l_52, l_53, l_54, l_55, l_56, l_57, l_59, l_60, l_61, l_62, l_63, l_64, l_65, l_80, l_86, l_87, l_88, l_89, l_90, l_91, l_92, l_93, l_94, l_95, l_97, l_99, l_100, l_107, l_119, l_122, l_124, l_129, l_140, l_141, l_142, l_143, l_144, l_145, l_147, l_150, l_159, l_160, l_161, l_162, l_205, l_253, l_255, l_256, l_269, l_305, l_380, l_399, l_400, l_420, l_430, l_516, l_600, l_720, l_820, l_905, l_921, l_937, l_953, l_970, l_999, l_1000, l_1790, l_4096, l_9999, l_1000000]
    · obtain ⟨σ1, f1, f2, f3⟩ := c_muleA_L (N' := nI N) (K := fun (s20 : q_Sto) => f_X4_bestPack_L38 q_F 135 1 2 (nI N) (nI lame) K j (nI (m+1)) s20) hL hN x2 (show m < 12 by omega) hl q (N-1) q_F σ A (by omega) (by unfold q_F; omega) hA g3 h6 h7
      obtain ⟨σ', k1, k2, k3⟩ := ih (m+1) j σ1 (z_ad V C (zn (V (95+m))) (N-1) A) (by omega) (by omega) (hC.fr (fun o o1 o2 o3 => f1 o (by omega))) (z_ad_le _ _ hA) (fun y hy => by rw [f1 136 (by omega)]; exact h6 y hy) f2
      refine ⟨σ', fun o ho => by rw [k1 o ho, f1 o ho], by rw [ez, if_neg q]; exact k2, ?_⟩
      rw [← k3, ← f3, f_X4_bestPack_L38]
      simp (disch := omega) only [g8, en, ↓reduceIte, ↓p_ld, ↓p_st, ↓p_nm, ↓p_nS, ↓p_jn, ↓p_call, ↓p_callv, ↓p_dv, ↓p_rem, h_ldE, h_stE, h_nmE, h_nSE, h_callE, h_callvE, h_dvE, h_remE, if_true, if_false, z_upS, z_upO, z_upK, nI_add, z_mul, z_sub, z_div, Nat.add_zero, Nat.mul_zero, Nat.zero_add, Nat.sub_zero, Nat.zero_mul, z_ltT, z_ltF, z_leT, z_leF, z_eqT, z_eqF, z_inT, z_clT, not_true_eq_false, not_false_eq_true, eq_self, true_or, or_true, z_m_lt, z_m_le, z_lt_m, z_le_m, z_eq_m, z_m_eq, z_rz0, z_rz1, z_m_add, z_of, r_0_0, r_0_1, r_0_3, r_0_4, r_0_5, r_0_6, r_0_7, r_0_8, r_0_9, r_0_10, r_1_0, r_1_1, r_1_2, r_1_3, r_1_4, r_1_5, r_1_6, r_1_7, r_1_8, r_2_0, r_2_1, r_2_2, r_2_3, r_2_4, r_2_5, r_2_6, r_2_7, r_11_0, r_11_1, r_11_2, r_11_3, r_11_4, r_11_5, r_11_6, r_19_0, r_21_0, r_23_0, r_25_0, r_27_0, r_61_0, r_117_0, r_117_1, r_117_2, r_117_3, r_117_4, r_117_5, r_117_6, r_117_7, r_126_0, r_126_1, r_126_2, r_126_3, r_126_4, r_132_0, r_132_1, r_135_0, r_135_1, r_135_2, r_135_3, r_135_4, r_135_5, r_142_0, r_144_0, r_144_1, r_144_2, r_145_0, r_145_1, r_145_2, r_145_3, r_145_4, r_145_5, r_145_6, r_154_0, r_154_1, r_155_0, ↓z_m1, l_0, l_1, l_2, l_3, l_4, l_5, l_6, l_7, l_8, l_9, l_10, l_11, l_12, l_13, l_14, l_15, l_16, l_17, l_18, l_19, l_20, l_21, l_22, l_23, l_24, l_25, l_26, l_27, l_28, l_29, l_30, l_31, l_32, l_33, l_34, l_35, l_36, l_37, l_38, l_39, l_40, l_41, l_42, l_43, l_44, l_45, l_46, l_47, l_48, l_49, l_50, l_51, l_52, l_53, l_54, l_55, l_56, l_57, l_59, l_60, l_61, l_62, l_63, l_64, l_65, l_80, l_86, l_87, l_88, l_89, l_90, l_91, l_92, l_93, l_94, l_95, l_97, l_99, l_100, l_107, l_119, l_122, l_124, l_129, l_140, l_141, l_142, l_143, l_144, l_145, l_147, l_150, l_159, l_160, l_161, l_162, l_205, l_253, l_255, l_256, l_269, l_305, l_380, l_399, l_400, l_420, l_430, l_516, l_600, l_720, l_820, l_905, l_921, l_937, l_953, l_970, l_999, l_1000, l_1790, l_4096, l_9999, l_1000000]
theorem m_mulesA_L {C N lame mu me : Nat} {V : Nat → Int32} {σc : q_Sto} (hL : z_LD V C) (hN : N ≤ 256) (hN0 : 1 ≤ N) (hl : lame < 4096) (h7l : V 7 = nI lame) (hC : z_C σc V mu me) : ∀ i m j (σ : q_Sto) A, i + m = mu → i < j → σ 158 = V → (∀ y, A y ≤ 1) → (∀ y, y < N → σ 169 y = nI (A y)) →
    ∃ σ', (∀ o, o ≠ 169 → σ' o = σ o) ∧ (∀ y, y < N → σ' 169 y = nI (z_am V C N lame i m A y)) ∧ f_X12_laysLoads_L40 q_F 157 (nI N) j (nI m) σ = some (nI 0, σ') := by
  have hmu := hC.1.1
  have h86 := hC.1.2.2.1
  intro i
  induction i with
  | zero =>
    intro m j σ A hi hj hV hA h7
    obtain ⟨j, rfl⟩ : ∃ j2, j = j2 + 1 := ⟨j - 1, by omega⟩
    have hi : m = mu := by omega
    subst hi
    refine ⟨σ, fun _ _ => rfl, h7, ?_⟩
    rw [f_X12_laysLoads_L40]
    simp (disch := omega) only [hV, h86, ↓reduceIte, ↓p_ld, ↓p_st, ↓p_nm, ↓p_nS, ↓p_jn, ↓p_call, ↓p_callv, ↓p_dv, ↓p_rem, h_ldE, h_stE, h_nmE, h_nSE, h_callE, h_callvE, h_dvE, h_remE, if_true, if_false, z_upS, z_upO, z_upK, nI_add, z_mul, z_sub, z_div, Nat.add_zero, Nat.mul_zero, Nat.zero_add, Nat.sub_zero, Nat.zero_mul, z_ltT, z_ltF, z_leT, z_leF, z_eqT, z_eqF, z_inT, z_clT, not_true_eq_false, not_false_eq_true, eq_self, true_or, or_true, z_m_lt, z_m_le, z_lt_m, z_le_m, z_eq_m, z_m_eq, z_rz0, z_rz1, z_m_add, z_of, r_157_0, r_157_1, r_157_2, r_157_3, r_157_6, r_157_7, r_157_8, r_157_9, r_157_10, r_157_11, r_157_27, r_157_28, r_157_29, r_157_30, ↓z_m1, l_0, l_1, l_2, l_3, l_4, l_5, l_6, l_7, l_8, l_9, l_10, l_11, l_12, l_13, l_14, l_15, l_16, l_17, l_18, l_19, l_20, l_21, l_22, l_23, l_24, l_25, l_26, l_27, l_28, l_29, l_30, l_31, l_32, l_33, l_34, l_35, l_36, l_37, l_38, l_39, l_40, l_41, l_42, l_43, l_44, l_45, l_46, l_47, l_48, l_49, l_50, l_51, l_52, l_53, l_54, l_55, l_56, l_57, l_59, l_60, l_61, l_62, l_63, l_64, l_65, l_80, l_86, l_87, l_88, l_89, l_90, l_91, l_92, l_93, l_94, l_95, l_97, l_99, l_100, l_107, l_119, l_122, l_124, l_129, l_140, l_141, l_142, l_143, l_144, l_145, l_147, l_150, l_159, l_160, l_161, l_162, l_205, l_253, l_255, l_256, l_269, l_305, l_380, l_399, l_400, l_420, l_430, l_516, l_600, l_720, l_820, l_905, l_921, l_937, l_953, l_970, l_999, l_1000, l_1790, l_4096, l_9999, l_1000000]
  | succ i ih =>
    intro m j σ A hi hj hV hA h7
    obtain ⟨j, rfl⟩ : ∃ j2, j = j2 + 1 := ⟨j - 1, by omega⟩
    obtain ⟨x1, x2⟩ := z_leE (hC.1.2.2.2.2.2.1 m (by omega)).2.1 (by omega)
    have ez : z_am V C N lame (i+1) m A = z_am V C N lame i (m+1) (if lame.testBit m = true then A else z_ad V C (zn (V (95+m))) (N-1) A) := rfl
    have en : nI N - nI 1 = nI (N-1) := z_sub hN0
    have eI := m_isLame (n := q_F) (m := m) hV h7l (by omega) (by omega)
    by_cases q : lame.testBit m = true
    · obtain ⟨σ', k1, k2, k3⟩ := ih (m+1) j σ A (by omega) (by omega) hV hA h7
      refine ⟨σ', k1, by rw [ez, if_pos q]; exact k2, ?_⟩
      rw [if_pos q] at eI
      rw [← k3, f_X12_laysLoads_L40]
      simp (disch := omega) only [hV, h86, eI, ↓reduceIte, ↓p_ld, ↓p_st, ↓p_nm, ↓p_nS, ↓p_jn, ↓p_call, ↓p_callv, ↓p_dv, ↓p_rem, h_ldE, h_stE, h_nmE, h_nSE, h_callE, h_callvE, h_dvE, h_remE, if_true, if_false, z_upS, z_upO, z_upK, nI_add, z_mul, z_sub, z_div, Nat.add_zero, Nat.mul_zero, Nat.zero_add, Nat.sub_zero, Nat.zero_mul, z_ltT, z_ltF, z_leT, z_leF, z_eqT, z_eqF, z_inT, z_clT, not_true_eq_false, not_false_eq_true, eq_self, true_or, or_true, z_m_lt, z_m_le, z_lt_m, z_le_m, z_eq_m, z_m_eq, z_rz0, z_rz1, z_m_add, z_of, r_157_0, r_157_1, r_157_2, r_157_3, r_157_6, r_157_7, r_157_8, r_157_9, r_157_10, r_157_11, r_157_27, r_157_28, r_157_29, r_157_30, ↓z_m1, l_0, l_1, l_2, l_3, l_4, l_5, l_6, l_7, l_8, l_9, l_10, l_11, l_12, l_13, l_14, l_15, l_16, l_17, l_18, l_19, l_20, l_21, l_22, l_23, l_24, l_25, l_26, l_27, l_28, l_29, l_30, l_31, l_32, l_33, l_34, l_35, l_36, l_37, l_38, l_39, l_40, l_41, l_42, l_43, l_44, l_45, l_46, l_47, l_48, l_49, l_50, l_51, l_52, l_53, l_54, l_55, l_56, l_57, l_59, l_60, l_61, l_62, l_63, l_64, l_65, l_80, l_86, l_87, l_88, l_89, l_90, l_91, l_92, l_93, l_94, l_95, l_97, l_99, l_100, l_107, l_119, l_122, l_124, l_129, l_140, l_141, l_142, l_143, l_144, l_145, l_147, l_150, l_159, l_160, l_161, l_162, l_205, l_253, l_255, l_256, l_269, l_305, l_380, l_399, l_400, l_420, l_430, l_516, l_600, l_720, l_820, l_905, l_921, l_937, l_953, l_970, l_999, l_1000, l_1790, l_4096, l_9999, l_1000000]
    · obtain ⟨σ1, f1, f2, f3⟩ := m_muleA_L (x1 := nI N) (K := fun (s31 : q_Sto) => f_X12_laysLoads_L40 q_F 157 (nI N) j (nI (m+1)) s31) hL hN x2 (show m < 12 by omega) x1 (N-1) q_F σ A (by omega) (by unfold q_F; omega) hA hV h7
      obtain ⟨σ', k1, k2, k3⟩ := ih (m+1) j σ1 (z_ad V C (zn (V (95+m))) (N-1) A) (by omega) (by omega) (by rw [f1 158 (by omega)]; exact hV) (z_ad_le _ _ hA) f2
      refine ⟨σ', fun o ho => by rw [k1 o ho, f1 o ho], by rw [ez, if_neg q]; exact k2, ?_⟩
      rw [if_neg q] at eI
      rw [← k3, ← f3, f_X12_laysLoads_L40]
      simp (disch := omega) only [hV, h86, eI, en, ↓reduceIte, ↓p_ld, ↓p_st, ↓p_nm, ↓p_nS, ↓p_jn, ↓p_call, ↓p_callv, ↓p_dv, ↓p_rem, h_ldE, h_stE, h_nmE, h_nSE, h_callE, h_callvE, h_dvE, h_remE, if_true, if_false, z_upS, z_upO, z_upK, nI_add, z_mul, z_sub, z_div, Nat.add_zero, Nat.mul_zero, Nat.zero_add, Nat.sub_zero, Nat.zero_mul, z_ltT, z_ltF, z_leT, z_leF, z_eqT, z_eqF, z_inT, z_clT, not_true_eq_false, not_false_eq_true, eq_self, true_or, or_true, z_m_lt, z_m_le, z_lt_m, z_le_m, z_eq_m, z_m_eq, z_rz0, z_rz1, z_m_add, z_of, r_157_0, r_157_1, r_157_2, r_157_3, r_157_6, r_157_7, r_157_8, r_157_9, r_157_10, r_157_11, r_157_27, r_157_28, r_157_29, r_157_30, ↓z_m1, l_0, l_1, l_2, l_3, l_4, l_5, l_6, l_7, l_8, l_9, l_10, l_11, l_12, l_13, l_14, l_15, l_16, l_17, l_18, l_19, l_20, l_21, l_22, l_23, l_24, l_25, l_26, l_27, l_28, l_29, l_30, l_31, l_32, l_33, l_34, l_35, l_36, l_37, l_38, l_39, l_40, l_41, l_42, l_43, l_44, l_45, l_46, l_47, l_48, l_49, l_50, l_51, l_52, l_53, l_54, l_55, l_56, l_57, l_59, l_60, l_61, l_62, l_63, l_64, l_65, l_80, l_86, l_87, l_88, l_89, l_90, l_91, l_92, l_93, l_94, l_95, l_97, l_99, l_100, l_107, l_119, l_122, l_124, l_129, l_140, l_141, l_142, l_143, l_144, l_145, l_147, l_150, l_159, l_160, l_161, l_162, l_205, l_253, l_255, l_256, l_269, l_305, l_380, l_399, l_400, l_420, l_430, l_516, l_600, l_720, l_820, l_905, l_921, l_937, l_953, l_970, l_999, l_1000, l_1790, l_4096, l_9999, l_1000000]
/-- the best set -/
def z_bp (V : Nat → Int32) (C : Nat) (A : Nat → Nat) : Nat → Nat
  | 0 => 0
  | x + 1 => if A x ≠ 0 ∧ z_wo V (z_bp V C A x) C < z_wo V x C then x else z_bp V C A x
theorem z_bp_lt {V : Nat → Int32} {C : Nat} {A : Nat → Nat} : ∀ x, 1 ≤ x → z_bp V C A x < x
  | 0, h => by omega
  | x + 1, _ => by
    show (if _ then x else z_bp V C A x) < x + 1
    split
    · omega
    · by_cases q : x = 0
      · subst q; exact Nat.lt_succ_self 0
      · have := z_bp_lt (V := V) (C := C) (A := A) x (by omega); omega
theorem c_best_L {C N : Nat} {V : Nat → Int32} {A : Nat → Nat} {σ : q_Sto} (hL : z_LD V C) (hc : z_LC σ V C) (hN : N ≤ 256) (hN0 : 1 ≤ N) (hA : ∀ y, A y ≤ 1) (h7 : ∀ y, y < N → σ 137 y = nI (A y)) : ∀ j x, x ≤ N → N < j + x →
    f_X4_bestPack_L126 q_F 135 1 (nI N) j (nI (z_bp V C A x)) (nI x) σ = some (nI (z_bp V C A N), σ) := by
  intro j
  induction j with
  | zero => intro x h1 h2; omega
  | succ j ih =>
    intro x h1 h2
    by_cases hi : x = N
    · subst hi
      have hb := z_bp_lt (V := V) (C := C) (A := A) x hN0
      generalize z_bp V C A x = b at *
      rw [f_X4_bestPack_L126]
      simp (disch := omega) only [↓reduceIte, ↓p_ld, ↓p_st, ↓p_nm, ↓p_nS, ↓p_jn, ↓p_call, ↓p_callv, ↓p_dv, ↓p_rem, h_ldE, h_stE, h_nmE, h_nSE, h_callE, h_callvE, h_dvE, h_remE, if_true, if_false, z_upS, z_upO, z_upK, nI_add, z_mul, z_sub, z_div, Nat.add_zero, Nat.mul_zero, Nat.zero_add, Nat.sub_zero, Nat.zero_mul, z_ltT, z_ltF, z_leT, z_leF, z_eqT, z_eqF, z_inT, z_clT, not_true_eq_false, not_false_eq_true, eq_self, true_or, or_true, z_m_lt, z_m_le, z_lt_m, z_le_m, z_eq_m, z_m_eq, z_rz0, z_rz1, z_m_add, z_of, r_0_0, r_0_1, r_0_3, r_0_4, r_0_5, r_0_6, r_0_7, r_0_8, r_0_9, r_0_10, r_1_0, r_1_1, r_1_2, r_1_3, r_1_4, r_1_5, r_1_6, r_1_7, r_1_8, r_2_0, r_2_1, r_2_2, r_2_3, r_2_4, r_2_5, r_2_6, r_2_7, r_11_0, r_11_1, r_11_2, r_11_3, r_11_4, r_11_5, r_11_6, r_19_0, r_21_0, r_23_0, r_25_0, r_27_0, r_61_0, r_117_0, r_117_1, r_117_2, r_117_3, r_117_4, r_117_5, r_117_6, r_117_7, r_126_0, r_126_1, r_126_2, r_126_3, r_126_4, r_132_0, r_132_1, r_135_0, r_135_1, r_135_2, r_135_3, r_135_4, r_135_5, r_142_0, r_144_0, r_144_1, r_144_2, r_145_0, r_145_1, r_145_2, r_145_3, r_145_4, r_145_5, r_145_6, r_154_0, r_154_1, r_155_0, ↓z_m1, l_0, l_1, l_2, l_3, l_4, l_5, l_6, l_7, l_8, l_9, l_10, l_11, l_12, l_13, l_14, l_15, l_16, l_17, l_18, l_19, l_20, l_21, l_22, l_23, l_24, l_25, l_26, l_27, l_28, l_29, l_30, l_31, l_32, l_33, l_34, l_35, l_36, l_37, l_38, l_39, l_40, l_41, l_42, l_43, l_44, l_45, l_46, l_47, l_48, l_49, l_50, l_51, l_52, l_53, l_54, l_55, l_56, l_57, l_59, l_60, l_61, l_62, l_63, l_64, l_65, l_80, l_86, l_87, l_88, l_89, l_90, l_91, l_92, l_93, l_94, l_95, l_97, l_99, l_100, l_107, l_119, l_122, l_124, l_129, l_140, l_141, l_142, l_143, l_144, l_145, l_147, l_150, l_159, l_160, l_161, l_162, l_205, l_253, l_255, l_256, l_269, l_305, l_380, l_399, l_400, l_420, l_430, l_516, l_600, l_720, l_820, l_905, l_921, l_937, l_953, l_970, l_999, l_1000, l_1790, l_4096, l_9999, l_1000000]
    · have ih := ih (x+1) (by omega) (by omega)
      have hb : z_bp V C A x < 256 := by
        by_cases q : x = 0
        · subst q; show 0 < 256; omega
        · have := z_bp_lt (V := V) (C := C) (A := A) x (by omega); omega
      have e : z_bp V C A (x+1) = if A x ≠ 0 ∧ z_wo V (z_bp V C A x) C < z_wo V x C then x else z_bp V C A x := rfl
      have gx := h7 x (by omega)
      have hAx := hA x
      have w1 := c_worth (σ := σ) hL hc (show x < 256 by omega)
      have w2 := c_worth (σ := σ) hL hc hb
      have b1 := z_wo_le hL x C (Nat.le_refl _)
      have b2 := z_wo_le hL (z_bp V C A x) C (Nat.le_refl _)
      have hC := hL.1
      rw [← ih, e]
      generalize z_wo V (z_bp V C A x) C = u2 at *
      generalize z_wo V x C = u1 at *
      generalize z_bp V C A x = b at *
      by_cases q : A x = 0
      · rw [if_neg (fun h => h.1 q), f_X4_bestPack_L126]
        rw [q] at gx
        simp (disch := omega) only [gx, ↓reduceIte, ↓p_ld, ↓p_st, ↓p_nm, ↓p_nS, ↓p_jn, ↓p_call, ↓p_callv, ↓p_dv, ↓p_rem, h_ldE, h_stE, h_nmE, h_nSE, h_callE, h_callvE, h_dvE, h_remE, if_true, if_false, z_upS, z_upO, z_upK, nI_add, z_mul, z_sub, z_div, Nat.add_zero, Nat.mul_zero, Nat.zero_add, Nat.sub_zero, Nat.zero_mul, z_ltT, z_ltF, z_leT, z_leF, z_eqT, z_eqF, z_inT, z_clT, not_true_eq_false, not_false_eq_true, eq_self, true_or, or_true, z_m_lt, z_m_le, z_lt_m, z_le_m, z_eq_m, z_m_eq, z_rz0, z_rz1, z_m_add, z_of, r_0_0, r_0_1, r_0_3, r_0_4, r_0_5, r_0_6, r_0_7, r_0_8, r_0_9, r_0_10, r_1_0, r_1_1, r_1_2, r_1_3, r_1_4, r_1_5, r_1_6, r_1_7, r_1_8, r_2_0, r_2_1, r_2_2, r_2_3, r_2_4, r_2_5, r_2_6, r_2_7, r_11_0, r_11_1, r_11_2, r_11_3, r_11_4, r_11_5, r_11_6, r_19_0, r_21_0, r_23_0, r_25_0, r_27_0, r_61_0, r_117_0, r_117_1, r_117_2, r_117_3, r_117_4, r_117_5, r_117_6, r_117_7, r_126_0, r_126_1, r_126_2, r_126_3, r_126_4, r_132_0, r_132_1, r_135_0, r_135_1, r_135_2, r_135_3, r_135_4, r_135_5, r_142_0, r_144_0, r_144_1, r_144_2, r_145_0, r_145_1, r_145_2, r_145_3, r_145_4, r_145_5, r_145_6, r_154_0, r_154_1, r_155_0, ↓z_m1, l_0, l_1, l_2, l_3, l_4, l_5, l_6, l_7, l_8, l_9, l_10, l_11, l_12, l_13, l_14, l_15, l_16, l_17, l_18, l_19, l_20, l_21, l_22, l_23, l_24, l_25, l_26, l_27, l_28, l_29, l_30, l_31, l_32, l_33, l_34, l_35, l_36, l_37, l_38, l_39, l_40, l_41, l_42, l_43, l_44, l_45, l_46, l_47, l_48, l_49, l_50, l_51, l_52, l_53, l_54, l_55, l_56, l_57, l_59, l_60, l_61, l_62, l_63, l_64, l_65, l_80, l_86, l_87, l_88, l_89, l_90, l_91, l_92, l_93, l_94, l_95, l_97, l_99, l_100, l_107, l_119, l_122, l_124, l_129, l_140, l_141, l_142, l_143, l_144, l_145, l_147, l_150, l_159, l_160, l_161, l_162, l_205, l_253, l_255, l_256, l_269, l_305, l_380, l_399, l_400, l_420, l_430, l_516, l_600, l_720, l_820, l_905, l_921, l_937, l_953, l_970, l_999, l_1000, l_1790, l_4096, l_9999, l_1000000]
      · have q1 : A x = 1 := by omega
        rw [q1] at gx
        by_cases q2 : u2 < u1
        · rw [if_pos ⟨q, q2⟩, f_X4_bestPack_L126]
          simp (disch := omega) only [gx, w1, w2, ↓reduceIte, ↓p_ld, ↓p_st, ↓p_nm, ↓p_nS, ↓p_jn, ↓p_call, ↓p_callv, ↓p_dv, ↓p_rem, h_ldE, h_stE, h_nmE, h_nSE, h_callE, h_callvE, h_dvE, h_remE, if_true, if_false, z_upS, z_upO, z_upK, nI_add, z_mul, z_sub, z_div, Nat.add_zero, Nat.mul_zero, Nat.zero_add, Nat.sub_zero, Nat.zero_mul, z_ltT, z_ltF, z_leT, z_leF, z_eqT, z_eqF, z_inT, z_clT, not_true_eq_false, not_false_eq_true, eq_self, true_or, or_true, z_m_lt, z_m_le, z_lt_m, z_le_m, z_eq_m, z_m_eq, z_rz0, z_rz1, z_m_add, z_of, r_0_0, r_0_1, r_0_3, r_0_4, r_0_5, r_0_6, r_0_7, r_0_8, r_0_9, r_0_10, r_1_0, r_1_1, r_1_2, r_1_3, r_1_4, r_1_5, r_1_6, r_1_7, r_1_8, r_2_0, r_2_1, r_2_2, r_2_3, r_2_4, r_2_5, r_2_6, r_2_7, r_11_0, r_11_1, r_11_2, r_11_3, r_11_4, r_11_5, r_11_6, r_19_0, r_21_0, r_23_0, r_25_0, r_27_0, r_61_0, r_117_0, r_117_1, r_117_2, r_117_3, r_117_4, r_117_5, r_117_6, r_117_7, r_126_0, r_126_1, r_126_2, r_126_3, r_126_4, r_132_0, r_132_1, r_135_0, r_135_1, r_135_2, r_135_3, r_135_4, r_135_5, r_142_0, r_144_0, r_144_1, r_144_2, r_145_0, r_145_1, r_145_2, r_145_3, r_145_4, r_145_5, r_145_6, r_154_0, r_154_1, r_155_0, ↓z_m1, l_0, l_1, l_2, l_3, l_4, l_5, l_6, l_7, l_8, l_9, l_10, l_11, l_12, l_13, l_14, l_15, l_16, l_17, l_18, l_19, l_20, l_21, l_22, l_23, l_24, l_25, l_26, l_27, l_28, l_29, l_30, l_31, l_32, l_33, l_34, l_35, l_36, l_37, l_38, l_39, l_40, l_41, l_42, l_43, l_44, l_45, l_46, l_47, l_48, l_49, l_50, l_51, l_52, l_53, l_54, l_55, l_56, l_57, l_59, l_60, l_61, l_62, l_63, l_64, l_65, l_80, l_86, l_87, l_88, l_89, l_90, l_91, l_92, l_93, l_94, l_95, l_97, l_99, l_100, l_107, l_119, l_122, l_124, l_129, l_140, l_141, l_142, l_143, l_144, l_145, l_147, l_150, l_159, l_160, l_161, l_162, l_205, l_253, l_255, l_256, l_269, l_305, l_380, l_399, l_400, l_420, l_430, l_516, l_600, l_720, l_820, l_905, l_921, l_937, l_953, l_970, l_999, l_1000, l_1790, l_4096, l_9999, l_1000000]
        · rw [if_neg (fun h => q2 h.2), f_X4_bestPack_L126]
          simp (disch := omega) only [gx, w1, w2, ↓reduceIte, ↓p_ld, ↓p_st, ↓p_nm, ↓p_nS, ↓p_jn, ↓p_call, ↓p_callv, ↓p_dv, ↓p_rem, h_ldE, h_stE, h_nmE, h_nSE, h_callE, h_callvE, h_dvE, h_remE, if_true, if_false, z_upS, z_upO, z_upK, nI_add, z_mul, z_sub, z_div, Nat.add_zero, Nat.mul_zero, Nat.zero_add, Nat.sub_zero, Nat.zero_mul, z_ltT, z_ltF, z_leT, z_leF, z_eqT, z_eqF, z_inT, z_clT, not_true_eq_false, not_false_eq_true, eq_self, true_or, or_true, z_m_lt, z_m_le, z_lt_m, z_le_m, z_eq_m, z_m_eq, z_rz0, z_rz1, z_m_add, z_of, r_0_0, r_0_1, r_0_3, r_0_4, r_0_5, r_0_6, r_0_7, r_0_8, r_0_9, r_0_10, r_1_0, r_1_1, r_1_2, r_1_3, r_1_4, r_1_5, r_1_6, r_1_7, r_1_8, r_2_0, r_2_1, r_2_2, r_2_3, r_2_4, r_2_5, r_2_6, r_2_7, r_11_0, r_11_1, r_11_2, r_11_3, r_11_4, r_11_5, r_11_6, r_19_0, r_21_0, r_23_0, r_25_0, r_27_0, r_61_0, r_117_0, r_117_1, r_117_2, r_117_3, r_117_4, r_117_5, r_117_6, r_117_7, r_126_0, r_126_1, r_126_2, r_126_3, r_126_4, r_132_0, r_132_1, r_135_0, r_135_1, r_135_2, r_135_3, r_135_4, r_135_5, r_142_0, r_144_0, r_144_1, r_144_2, r_145_0, r_145_1, r_145_2, r_145_3, r_145_4, r_145_5, r_145_6, r_154_0, r_154_1, r_155_0, ↓z_m1, l_0, l_1, l_2, l_3, l_4, l_5, l_6, l_7, l_8, l_9, l_10, l_11, l_12, l_13, l_14, l_15, l_16, l_17, l_18, l_19, l_20, l_21, l_22, l_23, l_24, l_25, l_26, l_27, l_28, l_29, l_30, l_31, l_32, l_33, l_34, l_35, l_36, l_37, l_38, l_39, l_40, l_41, l_42, l_43, l_44, l_45, l_46, l_47, l_48, l_49, l_50, l_51, l_52, l_53, l_54, l_55, l_56, l_57, l_59, l_60, l_61, l_62, l_63, l_64, l_65, l_80, l_86, l_87, l_88, l_89, l_90, l_91, l_92, l_93, l_94, l_95, l_97, l_99, l_100, l_107, l_119, l_122, l_124, l_129, l_140, l_141, l_142, l_143, l_144, l_145, l_147, l_150, l_159, l_160, l_161, l_162, l_205, l_253, l_255, l_256, l_269, l_305, l_380, l_399, l_400, l_420, l_430, l_516, l_600, l_720, l_820, l_905, l_921, l_937, l_953, l_970, l_999, l_1000, l_1790, l_4096, l_9999, l_1000000]
theorem m_best_L {C N : Nat} {V : Nat → Int32} {A : Nat → Nat} {a0 : Int32} {σ : q_Sto} {K : Int32 → q_Sto → Option (Int32 × q_Sto)} (hL : z_LD V C) (hV : σ 158 = V) (hN : N ≤ 256) (hN0 : 1 ≤ N) (es : nI 1 <<< (nI C &&& nI 31) = nI N) (hA : ∀ y, A y ≤ 1) (h7 : ∀ y, y < N → σ 169 y = nI (A y)) : ∀ j x, x ≤ N → N < j + x →
    f_X12_packs_L19 q_F 157 a0 K j (nI (z_bp V C A x)) (nI x) σ = K (nI (z_bp V C A N)) σ := by
  have h93 := hL.2.1
  intro j
  induction j with
  | zero => intro x h1 h2; omega
  | succ j ih =>
    intro x h1 h2
    by_cases hi : x = N
    · subst hi
      have hb := z_bp_lt (V := V) (C := C) (A := A) x hN0
      generalize z_bp V C A x = b at *
      rw [f_X12_packs_L19]
      simp (disch := omega) only [hV, h93, es, ↓reduceIte, ↓p_ld, ↓p_st, ↓p_nm, ↓p_nS, ↓p_jn, ↓p_call, ↓p_callv, ↓p_dv, ↓p_rem, h_ldE, h_stE, h_nmE, h_nSE, h_callE, h_callvE, h_dvE, h_remE, if_true, if_false, z_upS, z_upO, z_upK, nI_add, z_mul, z_sub, z_div, Nat.add_zero, Nat.mul_zero, Nat.zero_add, Nat.sub_zero, Nat.zero_mul, z_ltT, z_ltF, z_leT, z_leF, z_eqT, z_eqF, z_inT, z_clT, not_true_eq_false, not_false_eq_true, eq_self, true_or, or_true, z_m_lt, z_m_le, z_lt_m, z_le_m, z_eq_m, z_m_eq, z_rz0, z_rz1, z_m_add, z_of, r_157_0, r_157_1, r_157_2, r_157_3, r_157_6, r_157_7, r_157_8, r_157_9, r_157_10, r_157_11, r_157_27, r_157_28, r_157_29, r_157_30, ↓z_m1, l_0, l_1, l_2, l_3, l_4, l_5, l_6, l_7, l_8, l_9, l_10, l_11, l_12, l_13, l_14, l_15, l_16, l_17, l_18, l_19, l_20, l_21, l_22, l_23, l_24, l_25, l_26, l_27, l_28, l_29, l_30, l_31, l_32, l_33, l_34, l_35, l_36, l_37, l_38, l_39, l_40, l_41, l_42, l_43, l_44, l_45, l_46, l_47, l_48, l_49, l_50, l_51, l_52, l_53, l_54, l_55, l_56, l_57, l_59, l_60, l_61, l_62, l_63, l_64, l_65, l_80, l_86, l_87, l_88, l_89, l_90, l_91, l_92, l_93, l_94, l_95, l_97, l_99, l_100, l_107, l_119, l_122, l_124, l_129, l_140, l_141, l_142, l_143, l_144, l_145, l_147, l_150, l_159, l_160, l_161, l_162, l_205, l_253, l_255, l_256, l_269, l_305, l_380, l_399, l_400, l_420, l_430, l_516, l_600, l_720, l_820, l_905, l_921, l_937, l_953, l_970, l_999, l_1000, l_1790, l_4096, l_9999, l_1000000]
    · have ih := ih (x+1) (by omega) (by omega)
      have hb : z_bp V C A x < 256 := by
        by_cases q : x = 0
        · subst q; show 0 < 256; omega
        · have := z_bp_lt (V := V) (C := C) (A := A) x (by omega); omega
      have e : z_bp V C A (x+1) = if A x ≠ 0 ∧ z_wo V (z_bp V C A x) C < z_wo V x C then x else z_bp V C A x := rfl
      have gx := h7 x (by omega)
      have hAx := hA x
      have w1 := m_worth (σ := σ) hL hV (show x < 256 by omega)
      have w2 := m_worth (σ := σ) hL hV hb
      have b1 := z_wo_le hL x C (Nat.le_refl _)
      have b2 := z_wo_le hL (z_bp V C A x) C (Nat.le_refl _)
      have hC := hL.1
      rw [← ih, e]
      generalize z_wo V (z_bp V C A x) C = u2 at *
      generalize z_wo V x C = u1 at *
      generalize z_bp V C A x = b at *
      by_cases q : A x = 0
      · rw [if_neg (fun h => h.1 q), f_X12_packs_L19]
        rw [q] at gx
        simp (disch := omega) only [hV, h93, es, gx, ↓reduceIte, ↓p_ld, ↓p_st, ↓p_nm, ↓p_nS, ↓p_jn, ↓p_call, ↓p_callv, ↓p_dv, ↓p_rem, h_ldE, h_stE, h_nmE, h_nSE, h_callE, h_callvE, h_dvE, h_remE, if_true, if_false, z_upS, z_upO, z_upK, nI_add, z_mul, z_sub, z_div, Nat.add_zero, Nat.mul_zero, Nat.zero_add, Nat.sub_zero, Nat.zero_mul, z_ltT, z_ltF, z_leT, z_leF, z_eqT, z_eqF, z_inT, z_clT, not_true_eq_false, not_false_eq_true, eq_self, true_or, or_true, z_m_lt, z_m_le, z_lt_m, z_le_m, z_eq_m, z_m_eq, z_rz0, z_rz1, z_m_add, z_of, r_157_0, r_157_1, r_157_2, r_157_3, r_157_6, r_157_7, r_157_8, r_157_9, r_157_10, r_157_11, r_157_27, r_157_28, r_157_29, r_157_30, ↓z_m1, l_0, l_1, l_2, l_3, l_4, l_5, l_6, l_7, l_8, l_9, l_10, l_11, l_12, l_13, l_14, l_15, l_16, l_17, l_18, l_19, l_20, l_21, l_22, l_23, l_24, l_25, l_26, l_27, l_28, l_29, l_30, l_31, l_32, l_33, l_34, l_35, l_36, l_37, l_38, l_39, l_40, l_41, l_42, l_43, l_44, l_45, l_46, l_47, l_48, l_49, l_50, l_51, l_52, l_53, l_54, l_55, l_56, l_57, l_59, l_60, l_61, l_62, l_63, l_64, l_65, l_80, l_86, l_87, l_88, l_89, l_90, l_91, l_92, l_93, l_94, l_95, l_97, l_99, l_100, l_107, l_119, l_122, l_124, l_129, l_140, l_141, l_142, l_143, l_144, l_145, l_147, l_150, l_159, l_160, l_161, l_162, l_205, l_253, l_255, l_256, l_269, l_305, l_380, l_399, l_400, l_420, l_430, l_516, l_600, l_720, l_820, l_905, l_921, l_937, l_953, l_970, l_999, l_1000, l_1790, l_4096, l_9999, l_1000000]
      · have q1 : A x = 1 := by omega
        rw [q1] at gx
        by_cases q2 : u2 < u1
        · rw [if_pos ⟨q, q2⟩, f_X12_packs_L19]
          simp (disch := omega) only [hV, h93, es, gx, w1, w2, ↓reduceIte, ↓p_ld, ↓p_st, ↓p_nm, ↓p_nS, ↓p_jn, ↓p_call, ↓p_callv, ↓p_dv, ↓p_rem, h_ldE, h_stE, h_nmE, h_nSE, h_callE, h_callvE, h_dvE, h_remE, if_true, if_false, z_upS, z_upO, z_upK, nI_add, z_mul, z_sub, z_div, Nat.add_zero, Nat.mul_zero, Nat.zero_add, Nat.sub_zero, Nat.zero_mul, z_ltT, z_ltF, z_leT, z_leF, z_eqT, z_eqF, z_inT, z_clT, not_true_eq_false, not_false_eq_true, eq_self, true_or, or_true, z_m_lt, z_m_le, z_lt_m, z_le_m, z_eq_m, z_m_eq, z_rz0, z_rz1, z_m_add, z_of, r_157_0, r_157_1, r_157_2, r_157_3, r_157_6, r_157_7, r_157_8, r_157_9, r_157_10, r_157_11, r_157_27, r_157_28, r_157_29, r_157_30, ↓z_m1, l_0, l_1, l_2, l_3, l_4, l_5, l_6, l_7, l_8, l_9, l_10, l_11, l_12, l_13, l_14, l_15, l_16, l_17, l_18, l_19, l_20, l_21, l_22, l_23, l_24, l_25, l_26, l_27, l_28, l_29, l_30, l_31, l_32, l_33, l_34, l_35, l_36, l_37, l_38, l_39, l_40, l_41, l_42, l_43, l_44, l_45, l_46, l_47, l_48, l_49, l_50, l_51, l_52, l_53, l_54, l_55, l_56, l_57, l_59, l_60, l_61, l_62, l_63, l_64, l_65, l_80, l_86, l_87, l_88, l_89, l_90, l_91, l_92, l_93, l_94, l_95, l_97, l_99, l_100, l_107, l_119, l_122, l_124, l_129, l_140, l_141, l_142, l_143, l_144, l_145, l_147, l_150, l_159, l_160, l_161, l_162, l_205, l_253, l_255, l_256, l_269, l_305, l_380, l_399, l_400, l_420, l_430, l_516, l_600, l_720, l_820, l_905, l_921, l_937, l_953, l_970, l_999, l_1000, l_1790, l_4096, l_9999, l_1000000]
        · rw [if_neg (fun h => q2 h.2), f_X12_packs_L19]
          simp (disch := omega) only [hV, h93, es, gx, w1, w2, ↓reduceIte, ↓p_ld, ↓p_st, ↓p_nm, ↓p_nS, ↓p_jn, ↓p_call, ↓p_callv, ↓p_dv, ↓p_rem, h_ldE, h_stE, h_nmE, h_nSE, h_callE, h_callvE, h_dvE, h_remE, if_true, if_false, z_upS, z_upO, z_upK, nI_add, z_mul, z_sub, z_div, Nat.add_zero, Nat.mul_zero, Nat.zero_add, Nat.sub_zero, Nat.zero_mul, z_ltT, z_ltF, z_leT, z_leF, z_eqT, z_eqF, z_inT, z_clT, not_true_eq_false, not_false_eq_true, eq_self, true_or, or_true, z_m_lt, z_m_le, z_lt_m, z_le_m, z_eq_m, z_m_eq, z_rz0, z_rz1, z_m_add, z_of, r_157_0, r_157_1, r_157_2, r_157_3, r_157_6, r_157_7, r_157_8, r_157_9, r_157_10, r_157_11, r_157_27, r_157_28, r_157_29, r_157_30, ↓z_m1, l_0, l_1, l_2, l_3, l_4, l_5, l_6, l_7, l_8, l_9, l_10, l_11, l_12, l_13, l_14, l_15, l_16, l_17, l_18, l_19, l_20, l_21, l_22, l_23, l_24, l_25, l_26, l_27, l_28, l_29, l_30, l_31, l_32, l_33, l_34, l_35, l_36, l_37, l_38, l_39, l_40, l_41, l_42, l_43, l_44, l_45, l_46, l_47, l_48, l_49, l_50, l_51, l_52, l_53, l_54, l_55, l_56, l_57, l_59, l_60, l_61, l_62, l_63, l_64, l_65, l_80, l_86, l_87, l_88, l_89, l_90, l_91, l_92, l_93, l_94, l_95, l_97, l_99, l_100, l_107, l_119, l_122, l_124, l_129, l_140, l_141, l_142, l_143, l_144, l_145, l_147, l_150, l_159, l_160, l_161, l_162, l_205, l_253, l_255, l_256, l_269, l_305, l_380, l_399, l_400, l_420, l_430, l_516, l_600, l_720, l_820, l_905, l_921, l_937, l_953, l_970, l_999, l_1000, l_1790, l_4096, l_9999, l_1000000]
theorem m_A0_L {N : Nat} {K : q_Sto → Option (Int32 × q_Sto)} (hN : N ≤ 256) : ∀ j x (σ : q_Sto), x ≤ N → N < j + x → (∀ y, y < x → σ 169 y = nI (z_A0 y)) →
    ∃ σ', (∀ o, o ≠ 169 → σ' o = σ o) ∧ (∀ y, y < N → σ' 169 y = nI (z_A0 y)) ∧ f_X12_laysLoads_L12 q_F 157 (nI N) K j (nI x) σ = K σ' := by
  intro j
  induction j with
  | zero => intro x σ h1 h2; omega
  | succ j ih =>
    intro x σ h1 h2 h
    by_cases hi : x = N
    · subst hi
      refine ⟨σ, fun _ _ => rfl, h, ?_⟩
      rw [f_X12_laysLoads_L12]
      simp (disch := omega) only [↓reduceIte, ↓p_ld, ↓p_st, ↓p_nm, ↓p_nS, ↓p_jn, ↓p_call, ↓p_callv, ↓p_dv, ↓p_rem, h_ldE, h_stE, h_nmE, h_nSE, h_callE, h_callvE, h_dvE, h_remE, if_true, if_false, z_upS, z_upO, z_upK, nI_add, z_mul, z_sub, z_div, Nat.add_zero, Nat.mul_zero, Nat.zero_add, Nat.sub_zero, Nat.zero_mul, z_ltT, z_ltF, z_leT, z_leF, z_eqT, z_eqF, z_inT, z_clT, not_true_eq_false, not_false_eq_true, eq_self, true_or, or_true, z_m_lt, z_m_le, z_lt_m, z_le_m, z_eq_m, z_m_eq, z_rz0, z_rz1, z_m_add, z_of, r_157_0, r_157_1, r_157_2, r_157_3, r_157_6, r_157_7, r_157_8, r_157_9, r_157_10, r_157_11, r_157_27, r_157_28, r_157_29, r_157_30, ↓z_m1, l_0, l_1, l_2, l_3, l_4, l_5, l_6, l_7, l_8, l_9, l_10, l_11, l_12, l_13, l_14, l_15, l_16, l_17, l_18, l_19, l_20, l_21, l_22, l_23, l_24, l_25, l_26, l_27, l_28, l_29, l_30, l_31, l_32, l_33, l_34, l_35, l_36, l_37, l_38, l_39, l_40, l_41, l_42, l_43, l_44, l_45, l_46, l_47, l_48, l_49, l_50, l_51, l_52, l_53, l_54, l_55, l_56, l_57, l_59, l_60, l_61, l_62, l_63, l_64, l_65, l_80, l_86, l_87, l_88, l_89, l_90, l_91, l_92, l_93, l_94, l_95, l_97, l_99, l_100, l_107, l_119, l_122, l_124, l_129, l_140, l_141, l_142, l_143, l_144, l_145, l_147, l_150, l_159, l_160, l_161, l_162, l_205, l_253, l_255, l_256, l_269, l_305, l_380, l_399, l_400, l_420, l_430, l_516, l_600, l_720, l_820, l_905, l_921, l_937, l_953, l_970, l_999, l_1000, l_1790, l_4096, l_9999, l_1000000]
    · obtain ⟨σ', k1, k2, k3⟩ := ih (x+1) (q_up σ 169 x (nI (z_A0 x))) (by omega) (by omega) (fun y hy => by
        by_cases q : y = x
        · subst q; exact z_upS
        · rw [z_upK q]; exact h y (by omega))
      refine ⟨σ', fun o ho => by rw [k1 o ho, z_upO ho], k2, ?_⟩
      rw [← k3, f_X12_laysLoads_L12]
      by_cases q : x = 0
      · subst q
        have e : z_A0 0 = 1 := rfl
        rw [e]
        simp (disch := omega) only [↓reduceIte, ↓p_ld, ↓p_st, ↓p_nm, ↓p_nS, ↓p_jn, ↓p_call, ↓p_callv, ↓p_dv, ↓p_rem, h_ldE, h_stE, h_nmE, h_nSE, h_callE, h_callvE, h_dvE, h_remE, if_true, if_false, z_upS, z_upO, z_upK, nI_add, z_mul, z_sub, z_div, Nat.add_zero, Nat.mul_zero, Nat.zero_add, Nat.sub_zero, Nat.zero_mul, z_ltT, z_ltF, z_leT, z_leF, z_eqT, z_eqF, z_inT, z_clT, not_true_eq_false, not_false_eq_true, eq_self, true_or, or_true, z_m_lt, z_m_le, z_lt_m, z_le_m, z_eq_m, z_m_eq, z_rz0, z_rz1, z_m_add, z_of, r_157_0, r_157_1, r_157_2, r_157_3, r_157_6, r_157_7, r_157_8, r_157_9, r_157_10, r_157_11, r_157_27, r_157_28, r_157_29, r_157_30, ↓z_m1, l_0, l_1, l_2, l_3, l_4, l_5, l_6, l_7, l_8, l_9, l_10, l_11, l_12, l_13, l_14, l_15, l_16, l_17, l_18, l_19, l_20, l_21, l_22, l_23, l_24, l_25, l_26, l_27, l_28, l_29, l_30, l_31, l_32, l_33, l_34, l_35, l_36, l_37, l_38, l_39, l_40, l_41, l_42, l_43, l_44, l_45, l_46, l_47, l_48, l_49, l_50, l_51, l_52, l_53, l_54, l_55, l_56, l_57, l_59, l_60, l_61, l_62, l_63, l_64, l_65, l_80, l_86, l_87, l_88, l_89, l_90, l_91, l_92, l_93, l_94, l_95, l_97, l_99, l_100, l_107, l_119, l_122, l_124, l_129, l_140, l_141, l_142, l_143, l_144, l_145, l_147, l_150, l_159, l_160, l_161, l_162, l_205, l_253, l_255, l_256, l_269, l_305, l_380, l_399, l_400, l_420, l_430, l_516, l_600, l_720, l_820, l_905, l_921, l_937, l_953, l_970, l_999, l_1000, l_1790, l_4096, l_9999, l_1000000]
      · have e : z_A0 x = 0 := if_neg q
        rw [e]
        simp (disch := omega) only [q, ↓reduceIte, ↓p_ld, ↓p_st, ↓p_nm, ↓p_nS, ↓p_jn, ↓p_call, ↓p_callv, ↓p_dv, ↓p_rem, h_ldE, h_stE, h_nmE, h_nSE, h_callE, h_callvE, h_dvE, h_remE, if_true, if_false, z_upS, z_upO, z_upK, nI_add, z_mul, z_sub, z_div, Nat.add_zero, Nat.mul_zero, Nat.zero_add, Nat.sub_zero, Nat.zero_mul, z_ltT, z_ltF, z_leT, z_leF, z_eqT, z_eqF, z_inT, z_clT, not_true_eq_false, not_false_eq_true, eq_self, true_or, or_true, z_m_lt, z_m_le, z_lt_m, z_le_m, z_eq_m, z_m_eq, z_rz0, z_rz1, z_m_add, z_of, r_157_0, r_157_1, r_157_2, r_157_3, r_157_6, r_157_7, r_157_8, r_157_9, r_157_10, r_157_11, r_157_27, r_157_28, r_157_29, r_157_30, ↓z_m1, l_0, l_1, l_2, l_3, l_4, l_5, l_6, l_7, l_8, l_9, l_10, l_11, l_12, l_13, l_14, l_15, l_16, l_17, l_18, l_19, l_20, l_21, l_22, l_23, l_24, l_25, l_26, l_27, l_28, l_29, l_30, l_31, l_32, l_33, l_34, l_35, l_36, l_37, l_38, l_39, l_40, l_41, l_42, l_43, l_44, l_45, l_46, l_47, l_48, l_49, l_50, l_51, l_52, l_53, l_54, l_55, l_56, l_57, l_59, l_60, l_61, l_62, l_63, l_64, l_65, l_80, l_86, l_87, l_88, l_89, l_90, l_91, l_92, l_93, l_94, l_95, l_97, l_99, l_100, l_107, l_119, l_122, l_124, l_129, l_140, l_141, l_142, l_143, l_144, l_145, l_147, l_150, l_159, l_160, l_161, l_162, l_205, l_253, l_255, l_256, l_269, l_305, l_380, l_399, l_400, l_420, l_430, l_516, l_600, l_720, l_820, l_905, l_921, l_937, l_953, l_970, l_999, l_1000, l_1790, l_4096, l_9999, l_1000000]
theorem P_packs {σ : q_Sto} (h : q_Sim σ) (a0 : Int32)  : ∃ (r : Int32) (σ1 σ2 : q_Sto), f_X11_packs q_F 0 a0 σ = some (r, σ1) ∧ f_X12_packs q_F 157 a0 σ1 = some (r, σ2) ∧ q_Sim σ2 := by
  have hS := h
  obtain ⟨mu, me, h⟩ := h
  have hC := z_Sim.C h
  have hmu := hC.1.1
  rcases z_w_cases a0 (lo := 0) (hi := 1) (by omega) (by omega) with ⟨c, c1, c2, rfl, hw⟩ | hw
  · obtain ⟨C, hC8, hc, h93, h1⟩ := hC.2.2.2.2.2.2.1
    have hL : z_LD (σ 158) C := ⟨hC8, h93, fun i hi => by
      obtain ⟨l, w, l1, l2, l3, l4, l5, l6, l7, l8⟩ := h1 i hi
      exact ⟨l, w, l2, l4, l7, l8⟩⟩
    have hc0 : z_LC σ (σ 158) C := ⟨hc, fun i hi => by
      obtain ⟨l, w, l1, l2, l3, l4, l5, l6, l7, l8⟩ := h1 i hi
      exact ⟨l5.trans l7.symm, l6.trans l8.symm⟩⟩
    obtain ⟨lame, hlm, h7l⟩ := hC.1.2.2.2.2.1
    have h12 := z_p12 hmu
    have es := z_shl (m := C) (by omega)
    have hN : 2 ^ C ≤ 256 := Nat.pow_le_pow_right (n := 2) (by omega) hC8
    have hN0 : 1 ≤ 2 ^ C := Nat.one_le_two_pow
    generalize 2 ^ C = N at *
    obtain ⟨σ1, f1, f2, f3⟩ := c_weigh_L (N := N) hL hN q_F 0 σ hc0 (Nat.zero_le _) (by unfold q_F; omega) (fun y hy => by omega)
    have f3 : f_X4_weigh q_F 135 25 (nI N) σ = some (nI 0, σ1) := f3
    have hC1 : z_C σ1 (σ 158) mu me := hC.fr (fun o o1 o2 o3 => f1 o (by omega) (by omega))
    have hA0 : ∀ y, z_A0 y ≤ 1 := fun y => z_ite_le (Nat.le_refl _) (Nat.zero_le _)
    have elam := c_lameOnes (n := q_F) (σ := σ1) (by unfold q_F; omega) hC1.1 hC1.2.1
    rw [h7l] at elam
    obtain ⟨σ2, g1, g2, g3⟩ := c_mulesA_L (lame := lame) (K := fun (s21 : q_Sto) => f_X4_bestPack_L126 q_F 135 1 (nI N) q_F (nI 0) (nI 0) s21) hL hN hN0 (by omega) mu 0 q_F σ1 z_A0 (by omega) (by unfold q_F; omega) hC1 hA0 (fun y hy => (f2 y hy).1) (fun y hy => (f2 y hy).2)
    have fr2 : ∀ o, o ≠ 136 → o ≠ 137 → σ2 o = σ o := fun o o1 o2 => by rw [g1 o o2, f1 o o1 o2]
    have hc2 : z_LC σ2 (σ 158) C := ⟨by rw [fr2 25 (by omega) (by omega)]; exact hc0.1, fun i hi => by rw [fr2 26 (by omega) (by omega)]; exact hc0.2 i hi⟩
    have hV2 := fr2 158 (by omega) (by omega)
    obtain ⟨τ1, m1, m2, m3⟩ := m_A0_L (N := N) (K := fun (s7 : q_Sto) => f_X12_laysLoads_L40 q_F 157 (nI N) q_F (nI 0) s7) hN q_F 0 σ2 (Nat.zero_le _) (by unfold q_F; omega) (fun y hy => by omega)
    obtain ⟨τ2, n1, n2, n3⟩ := m_mulesA_L (lame := lame) hL hN hN0 (by omega) h7l hC mu 0 q_F τ1 z_A0 (by omega) (by unfold q_F; omega) (by rw [m1 158 (by omega)]; exact hV2) hA0 m2
    have hAm : ∀ i m A, (∀ y, A y ≤ 1) → ∀ y, z_am (σ 158) C N lame i m A y ≤ 1 := by
      intro i
      induction i with
      | zero => intro m A h; exact h
      | succ i ih => intro m A h; exact ih (m+1) _ (z_ifA_le h)
    have hA := hAm mu 0 z_A0 hA0
    generalize z_am (σ 158) C N lame mu 0 z_A0 = A at *
    have frT : ∀ o, o ≠ 136 → o ≠ 137 → o ≠ 169 → τ2 o = σ o := fun o o1 o2 o3 => by rw [n1 o o3, m1 o o3, fr2 o o1 o2]
    have hVT := frT 158 (by omega) (by omega) (by omega)
    have hq : q_Sim τ2 := ⟨mu, me, z_Sim.th h (fun o o1 o2 o3 o4 o5 o6 => frT o (by omega) (by omega) (by omega)) (fun a ha => by rw [frT 157 (by omega) (by omega) (by omega)])⟩
    have bC := c_best_L (σ := σ2) hL hc2 hN hN0 hA g2 q_F 0 (Nat.zero_le _) (by unfold q_F; omega)
    have e0 : z_bp (σ 158) C A 0 = 0 := rfl
    rw [e0] at bC
    have hb : z_bp (σ 158) C A N < 256 := by have := z_bp_lt (V := σ 158) (C := C) (A := A) N hN0; omega
    have bP : f_X4_bestPack q_F 135 1 σ = some (nI (z_bp (σ 158) C A N), σ2) := by
      rw [← bC]
      have emn : q_mn (nI 8) (nI C) = nI C := by
        rw [z_mnE (by omega) (by omega), show min 8 C = C by omega]
      have h25 := hc0.1
      refine Eq.trans ?_ g3
      unfold f_X4_bestPack
      simp (disch := omega) only [h25, emn, es, f3, elam, ↓reduceIte, ↓p_ld, ↓p_st, ↓p_nm, ↓p_nS, ↓p_jn, ↓p_call, ↓p_callv, ↓p_dv, ↓p_rem, h_ldE, h_stE, h_nmE, h_nSE, h_callE, h_callvE, h_dvE, h_remE, if_true, if_false, z_upS, z_upO, z_upK, nI_add, z_mul, z_sub, z_div, Nat.add_zero, Nat.mul_zero, Nat.zero_add, Nat.sub_zero, Nat.zero_mul, z_ltT, z_ltF, z_leT, z_leF, z_eqT, z_eqF, z_inT, z_clT, not_true_eq_false, not_false_eq_true, eq_self, true_or, or_true, z_m_lt, z_m_le, z_lt_m, z_le_m, z_eq_m, z_m_eq, z_rz0, z_rz1, z_m_add, z_of, r_0_0, r_0_1, r_0_3, r_0_4, r_0_5, r_0_6, r_0_7, r_0_8, r_0_9, r_0_10, r_1_0, r_1_1, r_1_2, r_1_3, r_1_4, r_1_5, r_1_6, r_1_7, r_1_8, r_2_0, r_2_1, r_2_2, r_2_3, r_2_4, r_2_5, r_2_6, r_2_7, r_11_0, r_11_1, r_11_2, r_11_3, r_11_4, r_11_5, r_11_6, r_19_0, r_21_0, r_23_0, r_25_0, r_27_0, r_61_0, r_117_0, r_117_1, r_117_2, r_117_3, r_117_4, r_117_5, r_117_6, r_117_7, r_126_0, r_126_1, r_126_2, r_126_3, r_126_4, r_132_0, r_132_1, r_135_0, r_135_1, r_135_2, r_135_3, r_135_4, r_135_5, r_142_0, r_144_0, r_144_1, r_144_2, r_145_0, r_145_1, r_145_2, r_145_3, r_145_4, r_145_5, r_145_6, r_154_0, r_154_1, r_155_0, ↓z_m1, l_0, l_1, l_2, l_3, l_4, l_5, l_6, l_7, l_8, l_9, l_10, l_11, l_12, l_13, l_14, l_15, l_16, l_17, l_18, l_19, l_20, l_21, l_22, l_23, l_24, l_25, l_26, l_27, l_28, l_29, l_30, l_31, l_32, l_33, l_34, l_35, l_36, l_37, l_38, l_39, l_40, l_41, l_42, l_43, l_44, l_45, l_46, l_47, l_48, l_49, l_50, l_51, l_52, l_53, l_54, l_55, l_56, l_57, l_59, l_60, l_61, l_62, l_63, l_64, l_65, l_80, l_86, l_87, l_88, l_89, l_90, l_91, l_92, l_93, l_94, l_95, l_97, l_99, l_100, l_107, l_119, l_122, l_124, l_129, l_140, l_141, l_142, l_143, l_144, l_145, l_147, l_150, l_159, l_160, l_161, l_162, l_205, l_253, l_255, l_256, l_269, l_305, l_380, l_399, l_400, l_420, l_430, l_516, l_600, l_720, l_820, l_905, l_921, l_937, l_953, l_970, l_999, l_1000, l_1790, l_4096, l_9999, l_1000000]
    have wC := c_worth (σ := σ2) hL hc2 hb
    have wM := m_worth (σ := τ2) hL hVT hb
    have hlo : f_X12_laysLoads q_F 157 σ2 = some (nI 0, τ2) := by
      rw [← n3]
      refine Eq.trans ?_ m3
      unfold f_X12_laysLoads
      simp (disch := omega) only [hV2, h93, es, ↓reduceIte, ↓p_ld, ↓p_st, ↓p_nm, ↓p_nS, ↓p_jn, ↓p_call, ↓p_callv, ↓p_dv, ↓p_rem, h_ldE, h_stE, h_nmE, h_nSE, h_callE, h_callvE, h_dvE, h_remE, if_true, if_false, z_upS, z_upO, z_upK, nI_add, z_mul, z_sub, z_div, Nat.add_zero, Nat.mul_zero, Nat.zero_add, Nat.sub_zero, Nat.zero_mul, z_ltT, z_ltF, z_leT, z_leF, z_eqT, z_eqF, z_inT, z_clT, not_true_eq_false, not_false_eq_true, eq_self, true_or, or_true, z_m_lt, z_m_le, z_lt_m, z_le_m, z_eq_m, z_m_eq, z_rz0, z_rz1, z_m_add, z_of, r_157_0, r_157_1, r_157_2, r_157_3, r_157_6, r_157_7, r_157_8, r_157_9, r_157_10, r_157_11, r_157_27, r_157_28, r_157_29, r_157_30, ↓z_m1, l_0, l_1, l_2, l_3, l_4, l_5, l_6, l_7, l_8, l_9, l_10, l_11, l_12, l_13, l_14, l_15, l_16, l_17, l_18, l_19, l_20, l_21, l_22, l_23, l_24, l_25, l_26, l_27, l_28, l_29, l_30, l_31, l_32, l_33, l_34, l_35, l_36, l_37, l_38, l_39, l_40, l_41, l_42, l_43, l_44, l_45, l_46, l_47, l_48, l_49, l_50, l_51, l_52, l_53, l_54, l_55, l_56, l_57, l_59, l_60, l_61, l_62, l_63, l_64, l_65, l_80, l_86, l_87, l_88, l_89, l_90, l_91, l_92, l_93, l_94, l_95, l_97, l_99, l_100, l_107, l_119, l_122, l_124, l_129, l_140, l_141, l_142, l_143, l_144, l_145, l_147, l_150, l_159, l_160, l_161, l_162, l_205, l_253, l_255, l_256, l_269, l_305, l_380, l_399, l_400, l_420, l_430, l_516, l_600, l_720, l_820, l_905, l_921, l_937, l_953, l_970, l_999, l_1000, l_1790, l_4096, l_9999, l_1000000]
    have bM : ∀ K : Int32 → q_Sto → Option (Int32 × q_Sto), f_X12_packs_L19 q_F 157 (nI c) K q_F (nI 0) (nI 1) τ2 = K (nI (z_bp (σ 158) C A N)) τ2 := by
      intro K
      have key := m_best_L (a0 := nI c) (K := K) hL hVT hN hN0 es hA n2 q_F 1 (by omega) (by unfold q_F; omega)
      have e1 : z_bp (σ 158) C A 1 = 0 := by
        show (if _ then 0 else z_bp (σ 158) C A 0) = 0
        split
        · rfl
        · rfl
      rw [e1] at key
      exact key
    generalize z_bp (σ 158) C A N = b at *
    have hc01 : c = 0 ∨ c = 1 := by omega
    rcases hc01 with rfl | rfl
    · refine ⟨nI (z_wo (σ 158) b C), σ2, τ2, ?_, ?_, hq⟩
      · generalize z_wo (σ 158) b C = w at *
        unfold f_X11_packs
        simp (disch := omega) only [c_isWithin, hw, bP, wC, ↓reduceIte, ↓p_ld, ↓p_st, ↓p_nm, ↓p_nS, ↓p_jn, ↓p_call, ↓p_callv, ↓p_dv, ↓p_rem, h_ldE, h_stE, h_nmE, h_nSE, h_callE, h_callvE, h_dvE, h_remE, if_true, if_false, z_upS, z_upO, z_upK, nI_add, z_mul, z_sub, z_div, Nat.add_zero, Nat.mul_zero, Nat.zero_add, Nat.sub_zero, Nat.zero_mul, z_ltT, z_ltF, z_leT, z_leF, z_eqT, z_eqF, z_inT, z_clT, not_true_eq_false, not_false_eq_true, eq_self, true_or, or_true, z_m_lt, z_m_le, z_lt_m, z_le_m, z_eq_m, z_m_eq, z_rz0, z_rz1, z_m_add, z_of, r_0_0, r_0_1, r_0_3, r_0_4, r_0_5, r_0_6, r_0_7, r_0_8, r_0_9, r_0_10, r_1_0, r_1_1, r_1_2, r_1_3, r_1_4, r_1_5, r_1_6, r_1_7, r_1_8, r_2_0, r_2_1, r_2_2, r_2_3, r_2_4, r_2_5, r_2_6, r_2_7, r_11_0, r_11_1, r_11_2, r_11_3, r_11_4, r_11_5, r_11_6, r_19_0, r_21_0, r_23_0, r_25_0, r_27_0, r_61_0, r_117_0, r_117_1, r_117_2, r_117_3, r_117_4, r_117_5, r_117_6, r_117_7, r_126_0, r_126_1, r_126_2, r_126_3, r_126_4, r_132_0, r_132_1, r_135_0, r_135_1, r_135_2, r_135_3, r_135_4, r_135_5, r_142_0, r_144_0, r_144_1, r_144_2, r_145_0, r_145_1, r_145_2, r_145_3, r_145_4, r_145_5, r_145_6, r_154_0, r_154_1, r_155_0, ↓z_m1, l_0, l_1, l_2, l_3, l_4, l_5, l_6, l_7, l_8, l_9, l_10, l_11, l_12, l_13, l_14, l_15, l_16, l_17, l_18, l_19, l_20, l_21, l_22, l_23, l_24, l_25, l_26, l_27, l_28, l_29, l_30, l_31, l_32, l_33, l_34, l_35, l_36, l_37, l_38, l_39, l_40, l_41, l_42, l_43, l_44, l_45, l_46, l_47, l_48, l_49, l_50, l_51, l_52, l_53, l_54, l_55, l_56, l_57, l_59, l_60, l_61, l_62, l_63, l_64, l_65, l_80, l_86, l_87, l_88, l_89, l_90, l_91, l_92, l_93, l_94, l_95, l_97, l_99, l_100, l_107, l_119, l_122, l_124, l_129, l_140, l_141, l_142, l_143, l_144, l_145, l_147, l_150, l_159, l_160, l_161, l_162, l_205, l_253, l_255, l_256, l_269, l_305, l_380, l_399, l_400, l_420, l_430, l_516, l_600, l_720, l_820, l_905, l_921, l_937, l_953, l_970, l_999, l_1000, l_1790, l_4096, l_9999, l_1000000]
      · generalize z_wo (σ 158) b C = w at *
        unfold f_X12_packs
        simp (disch := omega) only [m_isIn, hw, hlo, bM, wM, ↓reduceIte, ↓p_ld, ↓p_st, ↓p_nm, ↓p_nS, ↓p_jn, ↓p_call, ↓p_callv, ↓p_dv, ↓p_rem, h_ldE, h_stE, h_nmE, h_nSE, h_callE, h_callvE, h_dvE, h_remE, if_true, if_false, z_upS, z_upO, z_upK, nI_add, z_mul, z_sub, z_div, Nat.add_zero, Nat.mul_zero, Nat.zero_add, Nat.sub_zero, Nat.zero_mul, z_ltT, z_ltF, z_leT, z_leF, z_eqT, z_eqF, z_inT, z_clT, not_true_eq_false, not_false_eq_true, eq_self, true_or, or_true, z_m_lt, z_m_le, z_lt_m, z_le_m, z_eq_m, z_m_eq, z_rz0, z_rz1, z_m_add, z_of, r_157_0, r_157_1, r_157_2, r_157_3, r_157_6, r_157_7, r_157_8, r_157_9, r_157_10, r_157_11, r_157_27, r_157_28, r_157_29, r_157_30, ↓z_m1, l_0, l_1, l_2, l_3, l_4, l_5, l_6, l_7, l_8, l_9, l_10, l_11, l_12, l_13, l_14, l_15, l_16, l_17, l_18, l_19, l_20, l_21, l_22, l_23, l_24, l_25, l_26, l_27, l_28, l_29, l_30, l_31, l_32, l_33, l_34, l_35, l_36, l_37, l_38, l_39, l_40, l_41, l_42, l_43, l_44, l_45, l_46, l_47, l_48, l_49, l_50, l_51, l_52, l_53, l_54, l_55, l_56, l_57, l_59, l_60, l_61, l_62, l_63, l_64, l_65, l_80, l_86, l_87, l_88, l_89, l_90, l_91, l_92, l_93, l_94, l_95, l_97, l_99, l_100, l_107, l_119, l_122, l_124, l_129, l_140, l_141, l_142, l_143, l_144, l_145, l_147, l_150, l_159, l_160, l_161, l_162, l_205, l_253, l_255, l_256, l_269, l_305, l_380, l_399, l_400, l_420, l_430, l_516, l_600, l_720, l_820, l_905, l_921, l_937, l_953, l_970, l_999, l_1000, l_1790, l_4096, l_9999, l_1000000]
    · refine ⟨nI b, σ2, τ2, ?_, ?_, hq⟩
      · unfold f_X11_packs
        simp (disch := omega) only [c_isWithin, hw, bP, ↓reduceIte, ↓p_ld, ↓p_st, ↓p_nm, ↓p_nS, ↓p_jn, ↓p_call, ↓p_callv, ↓p_dv, ↓p_rem, h_ldE, h_stE, h_nmE, h_nSE, h_callE, h_callvE, h_dvE, h_remE, if_true, if_false, z_upS, z_upO, z_upK, nI_add, z_mul, z_sub, z_div, Nat.add_zero, Nat.mul_zero, Nat.zero_add, Nat.sub_zero, Nat.zero_mul, z_ltT, z_ltF, z_leT, z_leF, z_eqT, z_eqF, z_inT, z_clT, not_true_eq_false, not_false_eq_true, eq_self, true_or, or_true, z_m_lt, z_m_le, z_lt_m, z_le_m, z_eq_m, z_m_eq, z_rz0, z_rz1, z_m_add, z_of, r_0_0, r_0_1, r_0_3, r_0_4, r_0_5, r_0_6, r_0_7, r_0_8, r_0_9, r_0_10, r_1_0, r_1_1, r_1_2, r_1_3, r_1_4, r_1_5, r_1_6, r_1_7, r_1_8, r_2_0, r_2_1, r_2_2, r_2_3, r_2_4, r_2_5, r_2_6, r_2_7, r_11_0, r_11_1, r_11_2, r_11_3, r_11_4, r_11_5, r_11_6, r_19_0, r_21_0, r_23_0, r_25_0, r_27_0, r_61_0, r_117_0, r_117_1, r_117_2, r_117_3, r_117_4, r_117_5, r_117_6, r_117_7, r_126_0, r_126_1, r_126_2, r_126_3, r_126_4, r_132_0, r_132_1, r_135_0, r_135_1, r_135_2, r_135_3, r_135_4, r_135_5, r_142_0, r_144_0, r_144_1, r_144_2, r_145_0, r_145_1, r_145_2, r_145_3, r_145_4, r_145_5, r_145_6, r_154_0, r_154_1, r_155_0, ↓z_m1, l_0, l_1, l_2, l_3, l_4, l_5, l_6, l_7, l_8, l_9, l_10, l_11, l_12, l_13, l_14, l_15, l_16, l_17, l_18, l_19, l_20, l_21, l_22, l_23, l_24, l_25, l_26, l_27, l_28, l_29, l_30, l_31, l_32, l_33, l_34, l_35, l_36, l_37, l_38, l_39, l_40, l_41, l_42, l_43, l_44, l_45, l_46, l_47, l_48, l_49, l_50, l_51, l_52, l_53, l_54, l_55, l_56, l_57, l_59, l_60, l_61, l_62, l_63, l_64, l_65, l_80, l_86, l_87, l_88, l_89, l_90, l_91, l_92, l_93, l_94, l_95, l_97, l_99, l_100, l_107, l_119, l_122, l_124, l_129, l_140, l_141, l_142, l_143, l_144, l_145, l_147, l_150, l_159, l_160, l_161, l_162, l_205, l_253, l_255, l_256, l_269, l_305, l_380, l_399, l_400, l_420, l_430, l_516, l_600, l_720, l_820, l_905, l_921, l_937, l_953, l_970, l_999, l_1000, l_1790, l_4096, l_9999, l_1000000]
      · unfold f_X12_packs
        simp (disch := omega) only [m_isIn, hw, hlo, bM, ↓reduceIte, ↓p_ld, ↓p_st, ↓p_nm, ↓p_nS, ↓p_jn, ↓p_call, ↓p_callv, ↓p_dv, ↓p_rem, h_ldE, h_stE, h_nmE, h_nSE, h_callE, h_callvE, h_dvE, h_remE, if_true, if_false, z_upS, z_upO, z_upK, nI_add, z_mul, z_sub, z_div, Nat.add_zero, Nat.mul_zero, Nat.zero_add, Nat.sub_zero, Nat.zero_mul, z_ltT, z_ltF, z_leT, z_leF, z_eqT, z_eqF, z_inT, z_clT, not_true_eq_false, not_false_eq_true, eq_self, true_or, or_true, z_m_lt, z_m_le, z_lt_m, z_le_m, z_eq_m, z_m_eq, z_rz0, z_rz1, z_m_add, z_of, r_157_0, r_157_1, r_157_2, r_157_3, r_157_6, r_157_7, r_157_8, r_157_9, r_157_10, r_157_11, r_157_27, r_157_28, r_157_29, r_157_30, ↓z_m1, l_0, l_1, l_2, l_3, l_4, l_5, l_6, l_7, l_8, l_9, l_10, l_11, l_12, l_13, l_14, l_15, l_16, l_17, l_18, l_19, l_20, l_21, l_22, l_23, l_24, l_25, l_26, l_27, l_28, l_29, l_30, l_31, l_32, l_33, l_34, l_35, l_36, l_37, l_38, l_39, l_40, l_41, l_42, l_43, l_44, l_45, l_46, l_47, l_48, l_49, l_50, l_51, l_52, l_53, l_54, l_55, l_56, l_57, l_59, l_60, l_61, l_62, l_63, l_64, l_65, l_80, l_86, l_87, l_88, l_89, l_90, l_91, l_92, l_93, l_94, l_95, l_97, l_99, l_100, l_107, l_119, l_122, l_124, l_129, l_140, l_141, l_142, l_143, l_144, l_145, l_147, l_150, l_159, l_160, l_161, l_162, l_205, l_253, l_255, l_256, l_269, l_305, l_380, l_399, l_400, l_420, l_430, l_516, l_600, l_720, l_820, l_905, l_921, l_937, l_953, l_970, l_999, l_1000, l_1790, l_4096, l_9999, l_1000000]
  · refine ⟨z_m, σ, σ, ?_, ?_, hS⟩
    · unfold f_X11_packs
      simp (disch := omega) only [c_isWithin, hw, ↓reduceIte, ↓p_ld, ↓p_st, ↓p_nm, ↓p_nS, ↓p_jn, ↓p_call, ↓p_callv, ↓p_dv, ↓p_rem, h_ldE, h_stE, h_nmE, h_nSE, h_callE, h_callvE, h_dvE, h_remE, if_true, if_false, z_upS, z_upO, z_upK, nI_add, z_mul, z_sub, z_div, Nat.add_zero, Nat.mul_zero, Nat.zero_add, Nat.sub_zero, Nat.zero_mul, z_ltT, z_ltF, z_leT, z_leF, z_eqT, z_eqF, z_inT, z_clT, not_true_eq_false, not_false_eq_true, eq_self, true_or, or_true, z_m_lt, z_m_le, z_lt_m, z_le_m, z_eq_m, z_m_eq, z_rz0, z_rz1, z_m_add, z_of, r_0_0, r_0_1, r_0_3, r_0_4, r_0_5, r_0_6, r_0_7, r_0_8, r_0_9, r_0_10, r_1_0, r_1_1, r_1_2, r_1_3, r_1_4, r_1_5, r_1_6, r_1_7, r_1_8, r_2_0, r_2_1, r_2_2, r_2_3, r_2_4, r_2_5, r_2_6, r_2_7, r_11_0, r_11_1, r_11_2, r_11_3, r_11_4, r_11_5, r_11_6, r_19_0, r_21_0, r_23_0, r_25_0, r_27_0, r_61_0, r_117_0, r_117_1, r_117_2, r_117_3, r_117_4, r_117_5, r_117_6, r_117_7, r_126_0, r_126_1, r_126_2, r_126_3, r_126_4, r_132_0, r_132_1, r_135_0, r_135_1, r_135_2, r_135_3, r_135_4, r_135_5, r_142_0, r_144_0, r_144_1, r_144_2, r_145_0, r_145_1, r_145_2, r_145_3, r_145_4, r_145_5, r_145_6, r_154_0, r_154_1, r_155_0, ↓z_m1, l_0, l_1, l_2, l_3, l_4, l_5, l_6, l_7, l_8, l_9, l_10, l_11, l_12, l_13, l_14, l_15, l_16, l_17, l_18, l_19, l_20, l_21, l_22, l_23, l_24, l_25, l_26, l_27, l_28, l_29, l_30, l_31, l_32, l_33, l_34, l_35, l_36, l_37, l_38, l_39, l_40, l_41, l_42, l_43, l_44, l_45, l_46, l_47, l_48, l_49, l_50, l_51, l_52, l_53, l_54, l_55, l_56, l_57, l_59, l_60, l_61, l_62, l_63, l_64, l_65, l_80, l_86, l_87, l_88, l_89, l_90, l_91, l_92, l_93, l_94, l_95, l_97, l_99, l_100, l_107, l_119, l_122, l_124, l_129, l_140, l_141, l_142, l_143, l_144, l_145, l_147, l_150, l_159, l_160, l_161, l_162, l_205, l_253, l_255, l_256, l_269, l_305, l_380, l_399, l_400, l_420, l_430, l_516, l_600, l_720, l_820, l_905, l_921, l_937, l_953, l_970, l_999, l_1000, l_1790, l_4096, l_9999, l_1000000]
    · unfold f_X12_packs
      simp (disch := omega) only [m_isIn, hw, ↓reduceIte, ↓p_ld, ↓p_st, ↓p_nm, ↓p_nS, ↓p_jn, ↓p_call, ↓p_callv, ↓p_dv, ↓p_rem, h_ldE, h_stE, h_nmE, h_nSE, h_callE, h_callvE, h_dvE, h_remE, if_true, if_false, z_upS, z_upO, z_upK, nI_add, z_mul, z_sub, z_div, Nat.add_zero, Nat.mul_zero, Nat.zero_add, Nat.sub_zero, Nat.zero_mul, z_ltT, z_ltF, z_leT, z_leF, z_eqT, z_eqF, z_inT, z_clT, not_true_eq_false, not_false_eq_true, eq_self, true_or, or_true, z_m_lt, z_m_le, z_lt_m, z_le_m, z_eq_m, z_m_eq, z_rz0, z_rz1, z_m_add, z_of, r_157_0, r_157_1, r_157_2, r_157_3, r_157_6, r_157_7, r_157_8, r_157_9, r_157_10, r_157_11, r_157_27, r_157_28, r_157_29, r_157_30, ↓z_m1, l_0, l_1, l_2, l_3, l_4, l_5, l_6, l_7, l_8, l_9, l_10, l_11, l_12, l_13, l_14, l_15, l_16, l_17, l_18, l_19, l_20, l_21, l_22, l_23, l_24, l_25, l_26, l_27, l_28, l_29, l_30, l_31, l_32, l_33, l_34, l_35, l_36, l_37, l_38, l_39, l_40, l_41, l_42, l_43, l_44, l_45, l_46, l_47, l_48, l_49, l_50, l_51, l_52, l_53, l_54, l_55, l_56, l_57, l_59, l_60, l_61, l_62, l_63, l_64, l_65, l_80, l_86, l_87, l_88, l_89, l_90, l_91, l_92, l_93, l_94, l_95, l_97, l_99, l_100, l_107, l_119, l_122, l_124, l_129, l_140, l_141, l_142, l_143, l_144, l_145, l_147, l_150, l_159, l_160, l_161, l_162, l_205, l_253, l_255, l_256, l_269, l_305, l_380, l_399, l_400, l_420, l_430, l_516, l_600, l_720, l_820, l_905, l_921, l_937, l_953, l_970, l_999, l_1000, l_1790, l_4096, l_9999, l_1000000]
