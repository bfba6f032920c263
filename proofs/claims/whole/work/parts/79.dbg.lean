/-! what was read is put into the world -/
/-- the reference's row, from place on -/
def z_rw (V R : Nat → Int32) (place E : Nat) : Nat → Int32 := fun a => if place ≤ a ∧ a < place + E then R (a - place) else V a
theorem z_rw_i {V R : Nat → Int32} {place E j : Nat} (h : j < E) : z_rw V R place E (place + j) = R j := by
  unfold z_rw
  rw [if_pos ⟨by omega, by omega⟩, show place + j - place = j by omega]
theorem z_rw_o {V R : Nat → Int32} {place E a : Nat} (h : a < place ∨ place + E ≤ a) : z_rw V R place E a = V a := if_neg (by omega)
theorem z_rw_s {V R : Nat → Int32} {place E : Nat} : z_u (z_rw V R place E) (place + E) (R E) = z_rw V R place (E+1) := by
  funext a
  unfold z_u z_rw
  by_cases q : a = place + E
  · subst q
    rw [if_pos rfl, if_pos ⟨by omega, by omega⟩, show place + E - place = E by omega]
  · rw [if_neg q]
    by_cases q2 : place ≤ a ∧ a < place + E
    · rw [if_pos q2, if_pos ⟨q2.1, by omega⟩]
    · rw [if_neg q2, if_neg (by omega)]
theorem m_puts2_L {n place each N : Nat} {V R : Nat → Int32} (hp : place + each * N ≤ 1790) (h64 : each * N ≤ 64) : ∀ j i (σ : q_Sto), i ≤ each * N → each * N < j + i → σ 157 15 = nI N → σ 164 = R → σ 158 = z_rw V R place i →
    ∃ σ', (∀ o, o ≠ 158 → σ' o = σ o) ∧ σ' 158 = z_rw V R place (each * N) ∧ f_X12_puts_L13 n 157 (nI place) (nI each) j (nI i) σ = some (nI N, σ') := by
  intro j
  induction j with
  | zero => intro i σ h1 h2; omega
  | succ j ih =>
    intro i σ h1 h2 h15 hR hV
    by_cases hi : i = each * N
    · subst hi
      refine ⟨σ, fun _ _ => rfl, hV, ?_⟩
      rw [f_X12_puts_L13]
      simp (disch := omega) only [h15, ↓reduceIte, ↓p_ld, ↓p_st, ↓p_nm, ↓p_nS, ↓p_jn, ↓p_call, ↓p_callv, ↓p_dv, ↓p_rem, h_ldE, h_stE, h_nmE, h_nSE, h_callE, h_callvE, h_dvE, h_remE, if_true, if_false, z_upS, z_upO, z_upK, nI_add, z_mul, z_sub, z_div, Nat.add_zero, Nat.mul_zero, Nat.zero_add, Nat.sub_zero, Nat.zero_mul, z_ltT, z_ltF, z_leT, z_leF, z_eqT, z_eqF, z_inT, z_clT, not_true_eq_false, not_false_eq_true, eq_self, true_or, or_true, z_m_lt, z_m_le, z_lt_m, z_le_m, z_eq_m, z_m_eq, z_rz0, z_rz1, z_m_add, z_of, r_157_0, r_157_1, r_157_2, r_157_3, r_157_6, r_157_7, r_157_8, r_157_9, r_157_10, r_157_11, r_157_27, r_157_28, r_157_29, r_157_30, ↓z_m1, l_0, l_1, l_2, l_3, l_4, l_5, l_6, l_7, l_8, l_9, l_10, l_11, l_12, l_13, l_14, l_15, l_16, l_17, l_18, l_19, l_20, l_21, l_22, l_23, l_24, l_25, l_26, l_27, l_28, l_29, l_30, l_31, l_32, l_33, l_34, l_35, l_36, l_37, l_38, l_39, l_40, l_41, l_42, l_43, l_44, l_45, l_46, l_47, l_48, l_49, l_50, l_51, l_52, l_53, l_54, l_55, l_56, l_57, l_59, l_60, l_61, l_62, l_63, l_64, l_65, l_80, l_86, l_87, l_88, l_89, l_90, l_91, l_92, l_93, l_94, l_95, l_97, l_99, l_100, l_107, l_119, l_122, l_124, l_129, l_140, l_141, l_142, l_143, l_144, l_145, l_147, l_150, l_159, l_160, l_161, l_162, l_205, l_253, l_255, l_256, l_269, l_305, l_380, l_399, l_400, l_420, l_430, l_516, l_600, l_720, l_820, l_905, l_921, l_937, l_953, l_970, l_999, l_1000, l_1790, l_4096, l_9999, l_1000000]
    · obtain ⟨σ', k1, k2, k3⟩ := ih (i+1) (q_up σ 158 (place + i) (R i)) (by omega) (by omega) (by rw [z_upO (by omega)]; exact h15) (by rw [z_upO (by omega)]; exact hR) (by rw [z_uV hV, z_rw_s])
      refine ⟨σ', fun o ho => by rw [k1 o ho, z_upO ho], k2, ?_⟩
      have eR : σ 164 i = R i := by rw [hR]
      rw [← k3, f_X12_puts_L13]
      simp (disch := omega) only [h15, eR, ↓reduceIte, ↓p_ld, ↓p_st, ↓p_nm, ↓p_nS, ↓p_jn, ↓p_call, ↓p_callv, ↓p_dv, ↓p_rem, h_ldE, h_stE, h_nmE, h_nSE, h_callE, h_callvE, h_dvE, h_remE, if_true, if_false, z_upS, z_upO, z_upK, nI_add, z_mul, z_sub, z_div, Nat.add_zero, Nat.mul_zero, Nat.zero_add, Nat.sub_zero, Nat.zero_mul, z_ltT, z_ltF, z_leT, z_leF, z_eqT, z_eqF, z_inT, z_clT, not_true_eq_false, not_false_eq_true, eq_self, true_or, or_true, z_m_lt, z_m_le, z_lt_m, z_le_m, z_eq_m, z_m_eq, z_rz0, z_rz1, z_m_add, z_of, r_157_0, r_157_1, r_157_2, r_157_3, r_157_6, r_157_7, r_157_8, r_157_9, r_157_10, r_157_11, r_157_27, r_157_28, r_157_29, r_157_30, ↓z_m1, l_0, l_1, l_2, l_3, l_4, l_5, l_6, l_7, l_8, l_9, l_10, l_11, l_12, l_13, l_14, l_15, l_16, l_17, l_18, l_19, l_20, l_21, l_22, l_23, l_24, l_25, l_26, l_27, l_28, l_29, l_30, l_31, l_32, l_33, l_34, l_35, l_36, l_37, l_38, l_39, l_40, l_41, l_42, l_43, l_44, l_45, l_46, l_47, l_48, l_49, l_50, l_51, l_52, l_53, l_54, l_55, l_56, l_57, l_59, l_60, l_61, l_62, l_63, l_64, l_65, l_80, l_86, l_87, l_88, l_89, l_90, l_91, l_92, l_93, l_94, l_95, l_97, l_99, l_100, l_107, l_119, l_122, l_124, l_129, l_140, l_141, l_142, l_143, l_144, l_145, l_147, l_150, l_159, l_160, l_161, l_162, l_205, l_253, l_255, l_256, l_269, l_305, l_380, l_399, l_400, l_420, l_430, l_516, l_600, l_720, l_820, l_905, l_921, l_937, l_953, l_970, l_999, l_1000, l_1790, l_4096, l_9999, l_1000000]
theorem m_puts2 {many place each N : Nat} {V R : Nat → Int32} {σ : q_Sto} (hp : place + each * N ≤ 1790) (h64 : each * N ≤ 64) (hm : many < 1790) (hmp : many < place) (h15 : σ 157 15 = nI N) (hR : σ 164 = R) (hV : σ 158 = V) :
    ∃ σ', (∀ o, o ≠ 158 → σ' o = σ o) ∧ σ' 158 = z_rw (z_u V many (nI N)) R place (each * N) ∧ f_X12_puts q_F 157 (nI many) (nI place) (nI each) σ = some (nI N, σ') := by
  have hF : q_F = 20000 := rfl
  have e0 : z_rw (z_u V many (nI N)) R place 0 = z_u V many (nI N) := by
    funext a
    unfold z_rw
    rw [if_neg (by omega)]
  obtain ⟨σ', k1, k2, k3⟩ := m_puts2_L (n := q_F) (V := z_u V many (nI N)) (R := R) hp h64 q_F 0 (q_up σ 158 many (nI N)) (Nat.zero_le _) (by omega) (by rw [z_upO (by omega)]; exact h15) (by rw [z_upO (by omega)]; exact hR) (by rw [z_uV hV, e0])
  refine ⟨σ', fun o ho => by rw [k1 o ho, z_upO ho], k2, ?_⟩
  rw [← k3]
  unfold f_X12_puts
  simp (disch := omega) only [h15, ↓reduceIte, ↓p_ld, ↓p_st, ↓p_nm, ↓p_nS, ↓p_jn, ↓p_call, ↓p_callv, ↓p_dv, ↓p_rem, h_ldE, h_stE, h_nmE, h_nSE, h_callE, h_callvE, h_dvE, h_remE, if_true, if_false, z_upS, z_upO, z_upK, nI_add, z_mul, z_sub, z_div, Nat.add_zero, Nat.mul_zero, Nat.zero_add, Nat.sub_zero, Nat.zero_mul, z_ltT, z_ltF, z_leT, z_leF, z_eqT, z_eqF, z_inT, z_clT, not_true_eq_false, not_false_eq_true, eq_self, true_or, or_true, z_m_lt, z_m_le, z_lt_m, z_le_m, z_eq_m, z_m_eq, z_rz0, z_rz1, z_m_add, z_of, r_157_0, r_157_1, r_157_2, r_157_3, r_157_6, r_157_7, r_157_8, r_157_9, r_157_10, r_157_11, r_157_27, r_157_28, r_157_29, r_157_30, ↓z_m1, l_0, l_1, l_2, l_3, l_4, l_5, l_6, l_7, l_8, l_9, l_10, l_11, l_12, l_13, l_14, l_15, l_16, l_17, l_18, l_19, l_20, l_21, l_22, l_23, l_24, l_25, l_26, l_27, l_28, l_29, l_30, l_31, l_32, l_33, l_34, l_35, l_36, l_37, l_38, l_39, l_40, l_41, l_42, l_43, l_44, l_45, l_46, l_47, l_48, l_49, l_50, l_51, l_52, l_53, l_54, l_55, l_56, l_57, l_59, l_60, l_61, l_62, l_63, l_64, l_65, l_80, l_86, l_87, l_88, l_89, l_90, l_91, l_92, l_93, l_94, l_95, l_97, l_99, l_100, l_107, l_119, l_122, l_124, l_129, l_140, l_141, l_142, l_143, l_144, l_145, l_147, l_150, l_159, l_160, l_161, l_162, l_205, l_253, l_255, l_256, l_269, l_305, l_380, l_399, l_400, l_420, l_430, l_516, l_600, l_720, l_820, l_905, l_921, l_937, l_953, l_970, l_999, l_1000, l_1790, l_4096, l_9999, l_1000000]
/-- HEEDS -/
theorem m_putsH1_L {n : Nat} {V : Nat → Int32} {K : q_Sto → Option (Int32 × q_Sto)} : ∀ j i (σ : q_Sto), i ≤ 12 → 12 < j + i → (∀ a, a < i → σ 158 (129+a) = nI 0) → (∀ a, a < 129 ∨ 141 ≤ a → σ 158 a = V a) →
    ∃ σ', (∀ o, o ≠ 158 → σ' o = σ o) ∧ (∀ a, a < 12 → σ' 158 (129+a) = nI 0) ∧ (∀ a, a < 129 ∨ 141 ≤ a → σ' 158 a = V a) ∧ f_X12_putsHeeds_L13 n 157 K j (nI i) σ = K σ' := by
  intro j
  induction j with
  | zero => intro i σ h1 h2; omega
  | succ j ih =>
    intro i σ h1 h2 h0 hV
    by_cases hi : i = 12
    · subst hi
      refine ⟨σ, fun _ _ => rfl, h0, hV, ?_⟩
      rw [f_X12_putsHeeds_L13]
      simp (disch := omega) only [↓reduceIte, ↓p_ld, ↓p_st, ↓p_nm, ↓p_nS, ↓p_jn, ↓p_call, ↓p_callv, ↓p_dv, ↓p_rem, h_ldE, h_stE, h_nmE, h_nSE, h_callE, h_callvE, h_dvE, h_remE, if_true, if_false, z_upS, z_upO, z_upK, nI_add, z_mul, z_sub, z_div, Nat.add_zero, Nat.mul_zero, Nat.zero_add, Nat.sub_zero, Nat.zero_mul, z_ltT, z_ltF, z_leT, z_leF, z_eqT, z_eqF, z_inT, z_clT, not_true_eq_false, not_false_eq_true, eq_self, true_or, or_true, z_m_lt, z_m_le, z_lt_m, z_le_m, z_eq_m, z_m_eq, z_rz0, z_rz1, z_m_add, z_of, r_157_0, r_157_1, r_157_2, r_157_3, r_157_6, r_157_7, r_157_8, r_157_9, r_157_10, r_157_11, r_157_27, r_157_28, r_157_29, r_157_30, ↓z_m1, l_0, l_1, l_2, l_3, l_4, l_5, l_6, l_7, l_8, l_9, l_10, l_11, l_12, l_13, l_14, l_15, l_16, l_17, l_18, l_19, l_20, l_21, l_22, l_23, l_24, l_25, l_26, l_27, l_28, l_29, l_30, l_31, l_32, l_33, l_34, l_35, l_36, l_37, l_38, l_39, l_40, l_41, l_42, l_43, l_44, l_45, l_46, l_47, l_48, l_49, l_50, l_51, l_52, l_53, l_54, l_55, l_56, l_57, l_59, l_60, l_61, l_62, l_63, l_64, l_65, l_80, l_86, l_87, l_88, l_89, l_90, l_91, l_92, l_93, l_94, l_95, l_97, l_99, l_100, l_107, l_119, l_122, l_124, l_129, l_140, l_141, l_142, l_143, l_144, l_145, l_147, l_150, l_159, l_160, l_161, l_162, l_205, l_253, l_255, l_256, l_269, l_305, l_380, l_399, l_400, l_420, l_430, l_516, l_600, l_720, l_820, l_905, l_921, l_937, l_953, l_970, l_999, l_1000, l_1790, l_4096, l_9999, l_1000000]
    · obtain ⟨σ', k1, k2, k3, k4⟩ := ih (i+1) (q_up σ 158 (129+i) (nI 0)) (by omega) (by omega) (fun a ha => by
        by_cases q : a = i
        · subst q; exact z_upS
        · rw [z_upK (by omega)]; exact h0 a (by omega)) (fun a ha => by rw [z_upK (by omega)]; exact hV a ha)
      refine ⟨σ', fun o ho => by rw [k1 o ho, z_upO ho], k2, k3, ?_⟩
      rw [← k4, f_X12_putsHeeds_L13]
      simp (disch := omega) only [↓reduceIte, ↓p_ld, ↓p_st, ↓p_nm, ↓p_nS, ↓p_jn, ↓p_call, ↓p_callv, ↓p_dv, ↓p_rem, h_ldE, h_stE, h_nmE, h_nSE, h_callE, h_callvE, h_dvE, h_remE, if_true, if_false, z_upS, z_upO, z_upK, nI_add, z_mul, z_sub, z_div, Nat.add_zero, Nat.mul_zero, Nat.zero_add, Nat.sub_zero, Nat.zero_mul, z_ltT, z_ltF, z_leT, z_leF, z_eqT, z_eqF, z_inT, z_clT, not_true_eq_false, not_false_eq_true, eq_self, true_or, or_true, z_m_lt, z_m_le, z_lt_m, z_le_m, z_eq_m, z_m_eq, z_rz0, z_rz1, z_m_add, z_of, r_157_0, r_157_1, r_157_2, r_157_3, r_157_6, r_157_7, r_157_8, r_157_9, r_157_10, r_157_11, r_157_27, r_157_28, r_157_29, r_157_30, ↓z_m1, l_0, l_1, l_2, l_3, l_4, l_5, l_6, l_7, l_8, l_9, l_10, l_11, l_12, l_13, l_14, l_15, l_16, l_17, l_18, l_19, l_20, l_21, l_22, l_23, l_24, l_25, l_26, l_27, l_28, l_29, l_30, l_31, l_32, l_33, l_34, l_35, l_36, l_37, l_38, l_39, l_40, l_41, l_42, l_43, l_44, l_45, l_46, l_47, l_48, l_49, l_50, l_51, l_52, l_53, l_54, l_55, l_56, l_57, l_59, l_60, l_61, l_62, l_63, l_64, l_65, l_80, l_86, l_87, l_88, l_89, l_90, l_91, l_92, l_93, l_94, l_95, l_97, l_99, l_100, l_107, l_119, l_122, l_124, l_129, l_140, l_141, l_142, l_143, l_144, l_145, l_147, l_150, l_159, l_160, l_161, l_162, l_205, l_253, l_255, l_256, l_269, l_305, l_380, l_399, l_400, l_420, l_430, l_516, l_600, l_720, l_820, l_905, l_921, l_937, l_953, l_970, l_999, l_1000, l_1790, l_4096, l_9999, l_1000000]
theorem m_putsH2_L {n N mu me : Nat} {V : Nat → Int32} {sc : q_Sto} (hN : N ≤ 16) (hmu : mu ≤ 12) : ∀ j i (σ : q_Sto), i ≤ N → N < j + i → σ 157 15 = nI N → (∀ i, i < N → zr_L 1 mu me sc σ i) → (∀ a, a < 12 → σ 158 (129+a) = z_hor (sc 156) a i) → (∀ a, a < 129 ∨ 141 ≤ a → σ 158 a = V a) →
    ∃ σ', (∀ o, o ≠ 158 → σ' o = σ o) ∧ (∀ a, a < 12 → σ' 158 (129+a) = z_hor (sc 156) a N) ∧ (∀ a, a < 129 ∨ 141 ≤ a → σ' 158 a = V a) ∧ f_X12_putsHeeds_L38 n 157 j (nI i) σ = some (nI N, σ') := by
  intro j
  induction j with
  | zero => intro i σ h1 h2; omega
  | succ j ih =>
    intro i σ h1 h2 h15 hL h0 hV
    by_cases hi : i = N
    · subst hi
      refine ⟨σ, fun _ _ => rfl, h0, hV, ?_⟩
      rw [f_X12_putsHeeds_L38]
      simp (disch := omega) only [h15, ↓reduceIte, ↓p_ld, ↓p_st, ↓p_nm, ↓p_nS, ↓p_jn, ↓p_call, ↓p_callv, ↓p_dv, ↓p_rem, h_ldE, h_stE, h_nmE, h_nSE, h_callE, h_callvE, h_dvE, h_remE, if_true, if_false, z_upS, z_upO, z_upK, nI_add, z_mul, z_sub, z_div, Nat.add_zero, Nat.mul_zero, Nat.zero_add, Nat.sub_zero, Nat.zero_mul, z_ltT, z_ltF, z_leT, z_leF, z_eqT, z_eqF, z_inT, z_clT, not_true_eq_false, not_false_eq_true, eq_self, true_or, or_true, z_m_lt, z_m_le, z_lt_m, z_le_m, z_eq_m, z_m_eq, z_rz0, z_rz1, z_m_add, z_of, r_157_0, r_157_1, r_157_2, r_157_3, r_157_6, r_157_7, r_157_8, r_157_9, r_157_10, r_157_11, r_157_27, r_157_28, r_157_29, r_157_30, ↓z_m1, l_0, l_1, l_2, l_3, l_4, l_5, l_6, l_7, l_8, l_9, l_10, l_11, l_12, l_13, l_14, l_15, l_16, l_17, l_18, l_19, l_20, l_21, l_22, l_23, l_24, l_25, l_26, l_27, l_28, l_29, l_30, l_31, l_32, l_33, l_34, l_35, l_36, l_37, l_38, l_39, l_40, l_41, l_42, l_43, l_44, l_45, l_46, l_47, l_48, l_49, l_50, l_51, l_52, l_53, l_54, l_55, l_56, l_57, l_59, l_60, l_61, l_62, l_63, l_64, l_65, l_80, l_86, l_87, l_88, l_89, l_90, l_91, l_92, l_93, l_94, l_95, l_97, l_99, l_100, l_107, l_119, l_122, l_124, l_129, l_140, l_141, l_142, l_143, l_144, l_145, l_147, l_150, l_159, l_160, l_161, l_162, l_205, l_253, l_255, l_256, l_269, l_305, l_380, l_399, l_400, l_420, l_430, l_516, l_600, l_720, l_820, l_905, l_921, l_937, l_953, l_970, l_999, l_1000, l_1790, l_4096, l_9999, l_1000000]
    · obtain ⟨a, t, l1, l2, l3, l4, l5, l6, l7⟩ := (hL i (by omega)).1 rfl
      have e : ∀ b, z_hor (sc 156) b (i+1) = if sc 156 (i*4) = nI b then z_hor (sc 156) b i ||| sc 156 (i*4+1) else z_hor (sc 156) b i := fun _ => rfl
      have ha := h0 a (by omega)
      obtain ⟨σ', k1, k2, k3, k4⟩ := ih (i+1) (q_up σ 158 (129+a) (z_hor (sc 156) a i ||| nI t)) (by omega) (by omega) (by rw [z_upO (by omega)]; exact h15) (fun i hi => by
        have := hL i hi
        unfold zr_L at *
        rw [z_upO (by omega)]
        exact this) (fun b hb => by
        rw [e b, l4, l5]
        by_cases q : a = b
        · subst q
          rw [if_pos rfl, z_upS]
        · rw [if_neg (fun h => by rw [nI_eq (by omega) (by omega)] at h; exact q h), z_upK (by omega)]
          exact h0 b hb) (fun b hb => by rw [z_upK (by omega)]; exact hV b hb)
      refine ⟨σ', fun o ho => by rw [k1 o ho, z_upO ho], k2, k3, ?_⟩
      rw [← k4, f_X12_putsHeeds_L38]
      generalize z_hor (sc 156) a i = hh at *
      simp (disch := omega) only [h15, l6, l7, ha, ↓reduceIte, ↓p_ld, ↓p_st, ↓p_nm, ↓p_nS, ↓p_jn, ↓p_call, ↓p_callv, ↓p_dv, ↓p_rem, h_ldE, h_stE, h_nmE, h_nSE, h_callE, h_callvE, h_dvE, h_remE, if_true, if_false, z_upS, z_upO, z_upK, nI_add, z_mul, z_sub, z_div, Nat.add_zero, Nat.mul_zero, Nat.zero_add, Nat.sub_zero, Nat.zero_mul, z_ltT, z_ltF, z_leT, z_leF, z_eqT, z_eqF, z_inT, z_clT, not_true_eq_false, not_false_eq_true, eq_self, true_or, or_true, z_m_lt, z_m_le, z_lt_m, z_le_m, z_eq_m, z_m_eq, z_rz0, z_rz1, z_m_add, z_of, r_157_0, r_157_1, r_157_2, r_157_3, r_157_6, r_157_7, r_157_8, r_157_9, r_157_10, r_157_11, r_157_27, r_157_28, r_157_29, r_157_30, ↓z_m1, l_0, l_1, l_2, l_3, l_4, l_5, l_6, l_7, l_8, l_9, l_10, l_11, l_12, l_13, l_14, l_15, l_16, l_17, l_18, l_19, l_20, l_21, l_22, l_23, l_24, l_25, l_26, l_27, l_28, l_29, l_30, l_31, l_32, l_33, l_34, l_35, l_36, l_37, l_38, l_39, l_40, l_41, l_42, l_43, l_44, l_45, l_46, l_47, l_48, l_49, l_50, l_51, l_52, l_53, l_54, l_55, l_56, l_57, l_59, l_60, l_61, l_62, l_63, l_64, l_65, l_80, l_86, l_87, l_88, l_89, l_90, l_91, l_92, l_93, l_94, l_95, l_97, l_99, l_100, l_107, l_119, l_122, l_124, l_129, l_140, l_141, l_142, l_143, l_144, l_145, l_147, l_150, l_159, l_160, l_161, l_162, l_205, l_253, l_255, l_256, l_269, l_305, l_380, l_399, l_400, l_420, l_430, l_516, l_600, l_720, l_820, l_905, l_921, l_937, l_953, l_970, l_999, l_1000, l_1790, l_4096, l_9999, l_1000000]
theorem m_putsH {N mu me : Nat} {V : Nat → Int32} {sc σ : q_Sto} (hN : N ≤ 16) (hmu : mu ≤ 12) (h15 : σ 157 15 = nI N) (hL : ∀ i, i < N → zr_L 1 mu me sc σ i) (hV : σ 158 = V) :
    ∃ σ', (∀ o, o ≠ 158 → σ' o = σ o) ∧ (∀ a, a < 12 → σ' 158 (129+a) = z_hor (sc 156) a N) ∧ (∀ a, a < 129 ∨ 141 ≤ a → σ' 158 a = z_u V 90 (nI N) a) ∧ f_X12_putsHeeds q_F 157 σ = some (nI N, σ') := by
  have hF : q_F = 20000 := rfl
  obtain ⟨σ1, k1, k2, k3, k4⟩ := m_putsH1_L (n := q_F) (V := z_u V 90 (nI N)) (K := fun (s4 : q_Sto) => f_X12_putsHeeds_L38 q_F 157 q_F 0 s4) q_F 0 (q_up σ 158 90 (nI N)) (by omega) (by omega) (fun a ha => by omega) (fun a ha => by rw [z_uV hV])
  obtain ⟨σ2, j1, j2, j3, j4⟩ := m_putsH2_L (n := q_F) (N := N) (mu := mu) (me := me) (V := z_u V 90 (nI N)) (sc := sc) hN hmu q_F 0 σ1 (Nat.zero_le _) (by omega) (by rw [k1 157 (by omega), z_upO (by omega)]; exact h15) (fun i hi => by
    have := hL i hi
    unfold zr_L at *
    rw [k1 164 (by omega), z_upO (by omega)]
    exact this) k2 k3
  refine ⟨σ2, fun o ho => by rw [j1 o ho, k1 o ho, z_upO ho], j2, j3, ?_⟩
  rw [← j4]
  refine Eq.trans ?_ k4
  unfold f_X12_putsHeeds
  simp (disch := omega) only [h15, ↓reduceIte, ↓p_ld, ↓p_st, ↓p_nm, ↓p_nS, ↓p_jn, ↓p_call, ↓p_callv, ↓p_dv, ↓p_rem, h_ldE, h_stE, h_nmE, h_nSE, h_callE, h_callvE, h_dvE, h_remE, if_true, if_false, z_upS, z_upO, z_upK, nI_add, z_mul, z_sub, z_div, Nat.add_zero, Nat.mul_zero, Nat.zero_add, Nat.sub_zero, Nat.zero_mul, z_ltT, z_ltF, z_leT, z_leF, z_eqT, z_eqF, z_inT, z_clT, not_true_eq_false, not_false_eq_true, eq_self, true_or, or_true, z_m_lt, z_m_le, z_lt_m, z_le_m, z_eq_m, z_m_eq, z_rz0, z_rz1, z_m_add, z_of, r_157_0, r_157_1, r_157_2, r_157_3, r_157_6, r_157_7, r_157_8, r_157_9, r_157_10, r_157_11, r_157_27, r_157_28, r_157_29, r_157_30, ↓z_m1, l_0, l_1, l_2, l_3, l_4, l_5, l_6, l_7, l_8, l_9, l_10, l_11, l_12, l_13, l_14, l_15, l_16, l_17, l_18, l_19, l_20, l_21, l_22, l_23, l_24, l_25, l_26, l_27, l_28, l_29, l_30, l_31, l_32, l_33, l_34, l_35, l_36, l_37, l_38, l_39, l_40, l_41, l_42, l_43, l_44, l_45, l_46, l_47, l_48, l_49, l_50, l_51, l_52, l_53, l_54, l_55, l_56, l_57, l_59, l_60, l_61, l_62, l_63, l_64, l_65, l_80, l_86, l_87, l_88, l_89, l_90, l_91, l_92, l_93, l_94, l_95, l_97, l_99, l_100, l_107, l_119, l_122, l_124, l_129, l_140, l_141, l_142, l_143, l_144, l_145, l_147, l_150, l_159, l_160, l_161, l_162, l_205, l_253, l_255, l_256, l_269, l_305, l_380, l_399, l_400, l_420, l_430, l_516, l_600, l_720, l_820, l_905, l_921, l_937, l_953, l_970, l_999, l_1000, l_1790, l_4096, l_9999, l_1000000]
/-- THE LAW -/
theorem m_putsL1_L {n N : Nat} {V R : Nat → Int32} {K : q_Sto → Option (Int32 × q_Sto)} (hN : N ≤ 16) : ∀ j i (σ : q_Sto), i ≤ N → N < j + i → σ 157 13 = nI N → σ 162 = R → (∀ a, a < i → σ 158 (905+a) = R (4*a) ∧ σ 158 (921+a) = R (4*a+1) ∧ σ 158 (937+a) = R (4*a+2) ∧ σ 158 (953+a) = R (4*a+3)) → (∀ a, a < 905 ∨ 969 ≤ a → σ 158 a = V a) →
    ∃ σ', (∀ o, o ≠ 158 → σ' o = σ o) ∧ (∀ a, a < N → σ' 158 (905+a) = R (4*a) ∧ σ' 158 (921+a) = R (4*a+1) ∧ σ' 158 (937+a) = R (4*a+2) ∧ σ' 158 (953+a) = R (4*a+3)) ∧ (∀ a, a < 905 ∨ 969 ≤ a → σ' 158 a = V a) ∧ f_X12_putsLaw_L13 n 157 K j (nI i) σ = K σ' := by
  intro j
  induction j with
  | zero => intro i σ h1 h2; omega
  | succ j ih =>
    intro i σ h1 h2 h13 hR h0 hV
    by_cases hi : i = N
    · subst hi
      refine ⟨σ, fun _ _ => rfl, h0, hV, ?_⟩
      rw [f_X12_putsLaw_L13]
      simp (disch := omega) only [h13, ↓reduceIte, ↓p_ld, ↓p_st, ↓p_nm, ↓p_nS, ↓p_jn, ↓p_call, ↓p_callv, ↓p_dv, ↓p_rem, h_ldE, h_stE, h_nmE, h_nSE, h_callE, h_callvE, h_dvE, h_remE, if_true, if_false, z_upS, z_upO, z_upK, nI_add, z_mul, z_sub, z_div, Nat.add_zero, Nat.mul_zero, Nat.zero_add, Nat.sub_zero, Nat.zero_mul, z_ltT, z_ltF, z_leT, z_leF, z_eqT, z_eqF, z_inT, z_clT, not_true_eq_false, not_false_eq_true, eq_self, true_or, or_true, z_m_lt, z_m_le, z_lt_m, z_le_m, z_eq_m, z_m_eq, z_rz0, z_rz1, z_m_add, z_of, r_157_0, r_157_1, r_157_2, r_157_3, r_157_6, r_157_7, r_157_8, r_157_9, r_157_10, r_157_11, r_157_27, r_157_28, r_157_29, r_157_30, ↓z_m1, l_0, l_1, l_2, l_3, l_4, l_5, l_6, l_7, l_8, l_9, l_10, l_11, l_12, l_13, l_14, l_15, l_16, l_17, l_18, l_19, l_20, l_21, l_22, l_23, l_24, l_25, l_26, l_27, l_28, l_29, l_30, l_31, l_32, l_33, l_34, l_35, l_36, l_37, l_38, l_39, l_40, l_41, l_42, l_43, l_44, l_45, l_46, l_47, l_48, l_49, l_50, l_51, l_52, l_53, l_54, l_55, l_56, l_57, l_59, l_60, l_61, l_62, l_63, l_64, l_65, l_80, l_86, l_87, l_88, l_89, l_90, l_91, l_92, l_93, l_94, l_95, l_97, l_99, l_100, l_107, l_119, l_122, l_124, l_129, l_140, l_141, l_142, l_143, l_144, l_145, l_147, l_150, l_159, l_160, l_161, l_162, l_205, l_253, l_255, l_256, l_269, l_305, l_380, l_399, l_400, l_420, l_430, l_516, l_600, l_720, l_820, l_905, l_921, l_937, l_953, l_970, l_999, l_1000, l_1790, l_4096, l_9999, l_1000000]
    · have r0 : ∀ k, σ 162 k = R k := fun k => by rw [hR]
      obtain ⟨σ', k1, k2, k3, k4⟩ := ih (i+1) (q_up (q_up (q_up (q_up σ 158 (905+i) (R (4*i))) 158 (921+i) (R (4*i+1))) 158 (937+i) (R (4*i+2))) 158 (953+i) (R (4*i+3))) (by omega) (by omega) (by rw [z_upO (by omega), z_upO (by omega), z_upO (by omega), z_upO (by omega)]; exact h13) (by rw [z_upO (by omega), z_upO (by omega), z_upO (by omega), z_upO (by omega)]; exact hR) (fun a ha => by
        by_cases q : a = i
        · subst q
          refine ⟨?_, ?_, ?_, z_upS⟩
          · rw [z_upK (by omega), z_upK (by omega), z_upK (by omega)]; exact z_upS
          · rw [z_upK (by omega), z_upK (by omega)]; exact z_upS
          · rw [z_upK (by omega)]; exact z_upS
        · obtain ⟨x1, x2, x3, x4⟩ := h0 a (by omega)
          refine ⟨?_, ?_, ?_, ?_⟩
          · rw [z_upK (by omega), z_upK (by omega), z_upK (by omega), z_upK (by omega)]; exact x1
          · rw [z_upK (by omega), z_upK (by omega), z_upK (by omega), z_upK (by omega)]; exact x2
          · rw [z_upK (by omega), z_upK (by omega), z_upK (by omega), z_upK (by omega)]; exact x3
          · rw [z_upK (by omega), z_upK (by omega), z_upK (by omega), z_upK (by omega)]; exact x4) (fun a ha => by rw [z_upK (by omega), z_upK (by omega), z_upK (by omega), z_upK (by omega)]; exact hV a ha)
      refine ⟨σ', fun o ho => by rw [k1 o ho, z_upO ho, z_upO ho, z_upO ho, z_upO ho], k2, k3, ?_⟩
      rw [← k4, f_X12_putsLaw_L13]
      simp (disch := omega) only [h13, r0, ↓reduceIte, ↓p_ld, ↓p_st, ↓p_nm, ↓p_nS, ↓p_jn, ↓p_call, ↓p_callv, ↓p_dv, ↓p_rem, h_ldE, h_stE, h_nmE, h_nSE, h_callE, h_callvE, h_dvE, h_remE, if_true, if_false, z_upS, z_upO, z_upK, nI_add, z_mul, z_sub, z_div, Nat.add_zero, Nat.mul_zero, Nat.zero_add, Nat.sub_zero, Nat.zero_mul, z_ltT, z_ltF, z_leT, z_leF, z_eqT, z_eqF, z_inT, z_clT, not_true_eq_false, not_false_eq_true, eq_self, true_or, or_true, z_m_lt, z_m_le, z_lt_m, z_le_m, z_eq_m, z_m_eq, z_rz0, z_rz1, z_m_add, z_of, r_157_0, r_157_1, r_157_2, r_157_3, r_157_6, r_157_7, r_157_8, r_157_9, r_157_10, r_157_11, r_157_27, r_157_28, r_157_29, r_157_30, ↓z_m1, l_0, l_1, l_2, l_3, l_4, l_5, l_6, l_7, l_8, l_9, l_10, l_11, l_12, l_13, l_14, l_15, l_16, l_17, l_18, l_19, l_20, l_21, l_22, l_23, l_24, l_25, l_26, l_27, l_28, l_29, l_30, l_31, l_32, l_33, l_34, l_35, l_36, l_37, l_38, l_39, l_40, l_41, l_42, l_43, l_44, l_45, l_46, l_47, l_48, l_49, l_50, l_51, l_52, l_53, l_54, l_55, l_56, l_57, l_59, l_60, l_61, l_62, l_63, l_64, l_65, l_80, l_86, l_87, l_88, l_89, l_90, l_91, l_92, l_93, l_94, l_95, l_97, l_99, l_100, l_107, l_119, l_122, l_124, l_129, l_140, l_141, l_142, l_143, l_144, l_145, l_147, l_150, l_159, l_160, l_161, l_162, l_205, l_253, l_255, l_256, l_269, l_305, l_380, l_399, l_400, l_420, l_430, l_516, l_600, l_720, l_820, l_905, l_921, l_937, l_953, l_970, l_999, l_1000, l_1790, l_4096, l_9999, l_1000000]
theorem m_putsL2_L {n N Z : Nat} {V S : Nat → Int32} (hZ : Z ≤ 400) : ∀ j i (σ : q_Sto), i ≤ 2 * Z → 2 * Z < j + i → σ 157 13 = nI N → σ 157 14 = nI Z → σ 163 = S → (∀ a, a < i → σ 158 (970+a) = S a) → (∀ a, a < 970 → σ 158 a = V a) →
    ∃ σ', (∀ o, o ≠ 158 → σ' o = σ o) ∧ (∀ a, a < 2 * Z → σ' 158 (970+a) = S a) ∧ (∀ a, a < 970 → σ' 158 a = V a) ∧ f_X12_putsLaw_L107 n 157 j (nI i) σ = some (nI N, σ') := by
  intro j
  induction j with
  | zero => intro i σ h1 h2; omega
  | succ j ih =>
    intro i σ h1 h2 h13 h14 hS h0 hV
    by_cases hi : i = 2 * Z
    · subst hi
      refine ⟨σ, fun _ _ => rfl, h0, hV, ?_⟩
      rw [f_X12_putsLaw_L107]
      simp (disch := omega) only [h13, h14, ↓reduceIte, ↓p_ld, ↓p_st, ↓p_nm, ↓p_nS, ↓p_jn, ↓p_call, ↓p_callv, ↓p_dv, ↓p_rem, h_ldE, h_stE, h_nmE, h_nSE, h_callE, h_callvE, h_dvE, h_remE, if_true, if_false, z_upS, z_upO, z_upK, nI_add, z_mul, z_sub, z_div, Nat.add_zero, Nat.mul_zero, Nat.zero_add, Nat.sub_zero, Nat.zero_mul, z_ltT, z_ltF, z_leT, z_leF, z_eqT, z_eqF, z_inT, z_clT, not_true_eq_false, not_false_eq_true, eq_self, true_or, or_true, z_m_lt, z_m_le, z_lt_m, z_le_m, z_eq_m, z_m_eq, z_rz0, z_rz1, z_m_add, z_of, r_157_0, r_157_1, r_157_2, r_157_3, r_157_6, r_157_7, r_157_8, r_157_9, r_157_10, r_157_11, r_157_27, r_157_28, r_157_29, r_157_30, ↓z_m1, l_0, l_1, l_2, l_3, l_4, l_5, l_6, l_7, l_8, l_9, l_10, l_11, l_12, l_13, l_14, l_15, l_16, l_17, l_18, l_19, l_20, l_21, l_22, l_23, l_24, l_25, l_26, l_27, l_28, l_29, l_30, l_31, l_32, l_33, l_34, l_35, l_36, l_37, l_38, l_39, l_40, l_41, l_42, l_43, l_44, l_45, l_46, l_47, l_48, l_49, l_50, l_51, l_52, l_53, l_54, l_55, l_56, l_57, l_59, l_60, l_61, l_62, l_63, l_64, l_65, l_80, l_86, l_87, l_88, l_89, l_90, l_91, l_92, l_93, l_94, l_95, l_97, l_99, l_100, l_107, l_119, l_122, l_124, l_129, l_140, l_141, l_142, l_143, l_144, l_145, l_147, l_150, l_159, l_160, l_161, l_162, l_205, l_253, l_255, l_256, l_269, l_305, l_380, l_399, l_400, l_420, l_430, l_516, l_600, l_720, l_820, l_905, l_921, l_937, l_953, l_970, l_999, l_1000, l_1790, l_4096, l_9999, l_1000000]
    · have r0 : ∀ k, σ 163 k = S k := fun k => by rw [hS]
      obtain ⟨σ', k1, k2, k3, k4⟩ := ih (i+1) (q_up σ 158 (970+i) (S i)) (by omega) (by omega) (by rw [z_upO (by omega)]; exact h13) (by rw [z_upO (by omega)]; exact h14) (by rw [z_upO (by omega)]; exact hS) (fun a ha => by
        by_cases q : a = i
        · subst q; exact z_upS
        · rw [z_upK (by omega)]; exact h0 a (by omega)) (fun a ha => by rw [z_upK (by omega)]; exact hV a ha)
      refine ⟨σ', fun o ho => by rw [k1 o ho, z_upO ho], k2, k3, ?_⟩
      rw [← k4, f_X12_putsLaw_L107]
      simp (disch := omega) only [h14, r0, ↓reduceIte, ↓p_ld, ↓p_st, ↓p_nm, ↓p_nS, ↓p_jn, ↓p_call, ↓p_callv, ↓p_dv, ↓p_rem, h_ldE, h_stE, h_nmE, h_nSE, h_callE, h_callvE, h_dvE, h_remE, if_true, if_false, z_upS, z_upO, z_upK, nI_add, z_mul, z_sub, z_div, Nat.add_zero, Nat.mul_zero, Nat.zero_add, Nat.sub_zero, Nat.zero_mul, z_ltT, z_ltF, z_leT, z_leF, z_eqT, z_eqF, z_inT, z_clT, not_true_eq_false, not_false_eq_true, eq_self, true_or, or_true, z_m_lt, z_m_le, z_lt_m, z_le_m, z_eq_m, z_m_eq, z_rz0, z_rz1, z_m_add, z_of, r_157_0, r_157_1, r_157_2, r_157_3, r_157_6, r_157_7, r_157_8, r_157_9, r_157_10, r_157_11, r_157_27, r_157_28, r_157_29, r_157_30, ↓z_m1, l_0, l_1, l_2, l_3, l_4, l_5, l_6, l_7, l_8, l_9, l_10, l_11, l_12, l_13, l_14, l_15, l_16, l_17, l_18, l_19, l_20, l_21, l_22, l_23, l_24, l_25, l_26, l_27, l_28, l_29, l_30, l_31, l_32, l_33, l_34, l_35, l_36, l_37, l_38, l_39, l_40, l_41, l_42, l_43, l_44, l_45, l_46, l_47, l_48, l_49, l_50, l_51, l_52, l_53, l_54, l_55, l_56, l_57, l_59, l_60, l_61, l_62, l_63, l_64, l_65, l_80, l_86, l_87, l_88, l_89, l_90, l_91, l_92, l_93, l_94, l_95, l_97, l_99, l_100, l_107, l_119, l_122, l_124, l_129, l_140, l_141, l_142, l_143, l_144, l_145, l_147, l_150, l_159, l_160, l_161, l_162, l_205, l_253, l_255, l_256, l_269, l_305, l_380, l_399, l_400, l_420, l_430, l_516, l_600, l_720, l_820, l_905, l_921, l_937, l_953, l_970, l_999, l_1000, l_1790, l_4096, l_9999, l_1000000]
theorem m_putsL {N Z : Nat} {V R S : Nat → Int32} {σ : q_Sto} (hN : N ≤ 16) (hZ : Z ≤ 400) (h13 : σ 157 13 = nI N) (h14 : σ 157 14 = nI Z) (hR : σ 162 = R) (hS : σ 163 = S) (hV : σ 158 = V) :
    ∃ σ', (∀ o, o ≠ 158 → σ' o = σ o) ∧ (∀ a, a < N → σ' 158 (905+a) = R (4*a) ∧ σ' 158 (921+a) = R (4*a+1) ∧ σ' 158 (937+a) = R (4*a+2) ∧ σ' 158 (953+a) = R (4*a+3)) ∧ (∀ a, a < 2 * Z → σ' 158 (970+a) = S a) ∧ (∀ a, a < 905 → σ' 158 a = z_u V 89 (nI N) a) ∧ f_X12_putsLaw q_F 157 σ = some (nI N, σ') := by
  have hF : q_F = 20000 := rfl
  obtain ⟨σ1, k1, k2, k3, k4⟩ := m_putsL1_L (n := q_F) (V := z_u V 89 (nI N)) (R := R) (K := fun (s11 : q_Sto) => f_X12_putsLaw_L107 q_F 157 q_F 0 s11) hN q_F 0 (q_up σ 158 89 (nI N)) (Nat.zero_le _) (by omega) (by rw [z_upO (by omega)]; exact h13) (by rw [z_upO (by omega)]; exact hR) (fun a ha => by omega) (fun a ha => by rw [z_uV hV])
  obtain ⟨σ2, j1, j2, j3, j4⟩ := m_putsL2_L (n := q_F) (N := N) (Z := Z) (V := σ1 158) (S := S) hZ q_F 0 σ1 (Nat.zero_le _) (by omega) (by rw [k1 157 (by omega), z_upO (by omega)]; exact h13) (by rw [k1 157 (by omega), z_upO (by omega)]; exact h14) (by rw [k1 163 (by omega), z_upO (by omega)]; exact hS) (fun a ha => by omega) (fun a ha => rfl)
  refine ⟨σ2, fun o ho => by rw [j1 o ho, k1 o ho, z_upO ho], fun a ha => ?_, j2, fun a ha => by rw [j3 a (by omega), k3 a (Or.inl ha)], ?_⟩
  · rw [j3 _ (by omega), j3 _ (by omega), j3 _ (by omega), j3 _ (by omega)]
    exact k2 a ha
  · rw [← j4]
    refine Eq.trans ?_ k4
    unfold f_X12_putsLaw
    simp (disch := omega) only [h13, ↓reduceIte, ↓p_ld, ↓p_st, ↓p_nm, ↓p_nS, ↓p_jn, ↓p_call, ↓p_callv, ↓p_dv, ↓p_rem, h_ldE, h_stE, h_nmE, h_nSE, h_callE, h_callvE, h_dvE, h_remE, if_true, if_false, z_upS, z_upO, z_upK, nI_add, z_mul, z_sub, z_div, Nat.add_zero, Nat.mul_zero, Nat.zero_add, Nat.sub_zero, Nat.zero_mul, z_ltT, z_ltF, z_leT, z_leF, z_eqT, z_eqF, z_inT, z_clT, not_true_eq_false, not_false_eq_true, eq_self, true_or, or_true, z_m_lt, z_m_le, z_lt_m, z_le_m, z_eq_m, z_m_eq, z_rz0, z_rz1, z_m_add, z_of, r_157_0, r_157_1, r_157_2, r_157_3, r_157_6, r_157_7, r_157_8, r_157_9, r_157_10, r_157_11, r_157_27, r_157_28, r_157_29, r_157_30, ↓z_m1, l_0, l_1, l_2, l_3, l_4, l_5, l_6, l_7, l_8, l_9, l_10, l_11, l_12, l_13, l_14, l_15, l_16, l_17, l_18, l_19, l_20, l_21, l_22, l_23, l_24, l_25, l_26, l_27, l_28, l_29, l_30, l_31, l_32, l_33, l_34, l_35, l_36, l_37, l_38, l_39, l_40, l_41, l_42, l_43, l_44, l_45, l_46, l_47, l_48, l_49, l_50, l_51, l_52, l_53, l_54, l_55, l_56, l_57, l_59, l_60, l_61, l_62, l_63, l_64, l_65, l_80, l_86, l_87, l_88, l_89, l_90, l_91, l_92, l_93, l_94, l_95, l_97, l_99, l_100, l_107, l_119, l_122, l_124, l_129, l_140, l_141, l_142, l_143, l_144, l_145, l_147, l_150, l_159, l_160, l_161, l_162, l_205, l_253, l_255, l_256, l_269, l_305, l_380, l_399, l_400, l_420, l_430, l_516, l_600, l_720, l_820, l_905, l_921, l_937, l_953, l_970, l_999, l_1000, l_1790, l_4096, l_9999, l_1000000]
/-! behind a text -/
theorem z_LW.tr {σ τ : q_Sto} {V V' : Nat → Int32} (h : z_LW σ 1 V) (e : ∀ o, 11 ≤ o → o ≤ 17 → τ o = σ o) (e1 : V' 89 = V 89) (e2 : ∀ a, 905 ≤ a → V' a = V a) : z_LW τ 1 V' := by
  obtain ⟨c, z, l1, l2, l3, l4, l5, l6⟩ := h
  refine ⟨c, z, l1, l2, by rw [e (1+10) (by omega) (by omega)]; exact l3, by rw [e1]; exact l4, fun i hi => ?_, fun j hj => ?_⟩
  · rw [e (1+11) (by omega) (by omega), e (1+12) (by omega) (by omega), e (1+13) (by omega) (by omega), e (1+14) (by omega) (by omega), e (1+15) (by omega) (by omega), e2 (905+i) (by omega), e2 (921+i) (by omega), e2 (937+i) (by omega), e2 (953+i) (by omega)]
    exact l5 i hi
  · rw [e (1+15) (by omega) (by omega), e (1+16) (by omega) (by omega), e2 (970+2*j) (by omega), e2 (970+2*j+1) (by omega)]
    exact l6 j hj
theorem z_HE.tr {σ τ : q_Sto} {V V' : Nat → Int32} {mu : Nat} (h : z_HE σ 1 V mu) (e1 : τ 19 = σ 19) (e2 : τ 20 = σ 20) (e3 : V' 90 = V 90) (e4 : ∀ a, 129 ≤ a → a < 141 → V' a = V a) : z_HE τ 1 V' mu := by
  obtain ⟨c, h1, h2, h3, h4, h5⟩ := h
  have e1 : τ (1+18) = σ (1+18) := e1
  have e2 : τ (1+19) = σ (1+19) := e2
  refine ⟨c, h1, by rw [e1]; exact h2, by rw [e3]; exact h3, fun i hi => by rw [e2]; exact h4 i hi, fun m hm => by rw [e2, e4 (129+m) (by omega) (by omega)]; exact h5 m hm⟩
theorem z_PL.tr {σ τ : q_Sto} {V V' : Nat → Int32} {mu me : Nat} (h : z_PL σ 1 V mu me) (e1 : τ 21 = σ 21) (e2 : τ 22 = σ 22) (e3 : V' 91 = V 91) (e4 : ∀ a, 141 ≤ a → a < 205 → V' a = V a) : z_PL τ 1 V' mu me := by
  obtain ⟨c, h1, h2, h3, h4⟩ := h
  have e1 : τ (1+20) = σ (1+20) := e1
  have e2 : τ (1+21) = σ (1+21) := e2
  refine ⟨c, h1, by rw [e1]; exact h2, by rw [e3]; exact h3, fun i hi => by rw [e2, e4 (141+4*i) (by omega) (by omega), e4 (141+4*i+1) (by omega) (by omega), e4 (141+4*i+2) (by omega) (by omega), e4 (141+4*i+3) (by omega) (by omega)]; exact h4 i hi⟩
theorem z_PA.tr {σ τ : q_Sto} {V V' : Nat → Int32} (h : z_PA σ 1 V) (e1 : τ 23 = σ 23) (e2 : τ 24 = σ 24) (e3 : V' 92 = V 92) (e4 : ∀ a, 205 ≤ a → a < 253 → V' a = V a) : z_PA τ 1 V' := by
  obtain ⟨c, h1, h2, h3, h4⟩ := h
  have e1 : τ (1+22) = σ (1+22) := e1
  have e2 : τ (1+23) = σ (1+23) := e2
  refine ⟨c, h1, by rw [e1]; exact h2, by rw [e3]; exact h3, fun i hi => by rw [e2, e4 (205+3*i) (by omega) (by omega), e4 (205+3*i+1) (by omega) (by omega), e4 (205+3*i+2) (by omega) (by omega)]; exact h4 i hi⟩
theorem z_LO.tr {σ τ : q_Sto} {V V' : Nat → Int32} (h : z_LO σ 1 V) (e1 : τ 25 = σ 25) (e2 : τ 26 = σ 26) (e3 : V' 93 = V 93) (e4 : ∀ a, 253 ≤ a → a < 269 → V' a = V a) : z_LO τ 1 V' := by
  obtain ⟨c, h1, h2, h3, h4⟩ := h
  have e1 : τ (1+24) = σ (1+24) := e1
  have e2 : τ (1+25) = σ (1+25) := e2
  refine ⟨c, h1, by rw [e1]; exact h2, by rw [e3]; exact h3, fun i hi => by rw [e2, e4 (253+2*i) (by omega) (by omega), e4 (253+2*i+1) (by omega) (by omega)]; exact h4 i hi⟩
theorem z_SI.tr {σ τ : q_Sto} {V V' : Nat → Int32} {mu me : Nat} (h : z_SI σ 1 V mu me) (e1 : τ 27 = σ 27) (e2 : τ 28 = σ 28) (e3 : V' 94 = V 94) (e4 : ∀ a, 269 ≤ a → a < 305 → V' a = V a) : z_SI τ 1 V' mu me := by
  obtain ⟨c, h1, h2, h3, h4⟩ := h
  have e1 : τ (1+26) = σ (1+26) := e1
  have e2 : τ (1+27) = σ (1+27) := e2
  refine ⟨c, h1, by rw [e1]; exact h2, by rw [e3]; exact h3, fun i hi => by rw [e2, e4 (269+3*i) (by omega) (by omega), e4 (269+3*i+1) (by omega) (by omega), e4 (269+3*i+2) (by omega) (by omega)]; exact h4 i hi⟩
theorem z_Sim.text {σ τ : q_Sto} {mu me : Nat} (h : z_SimN σ mu me) (hWT : z_WT τ 1 (τ 158) mu me) (hTP : z_TP τ) (hHI : z_HI τ mu me) (ew : ∀ a, a < 89 ∨ (95 ≤ a ∧ a < 129) ∨ (305 ≤ a ∧ a < 905) → τ 158 a = σ 158 a) (e : ∀ o, o ≤ 10 ∨ o = 29 ∨ (31 ≤ o ∧ o ≤ 60) ∨ o = 159 → τ o = σ o) (e5 : τ 157 5 = σ 157 5) (hCA : z_CA τ 1) (h155 : τ 155 1 = nI 16) : z_SimN τ mu me := by
  obtain ⟨s1, ⟨s2, s2', s2''⟩, s3, s4, s5, s6, s7, s8⟩ := h
  have ew' : ∀ a, a < 89 ∨ (95 ≤ a ∧ a < 129) → τ 158 a = σ 158 a := fun a ha => ew a (by omega)
  refine ⟨s1.congr2 ew', ⟨(s2.fr (fun o o1 o2 => e o (by omega))).congr2 s1.1.1 s1.1.2.1 ew', hWT, ?_⟩, hHI, hTP, s5.fr (fun o o1 o2 o3 => e o (by omega)) (by rw [e 0 (by omega)]) e5 (e 159 (by omega)), hCA, s7.fr (fun o o1 o2 => e o (by omega)), h155⟩
  obtain ⟨w, b1, b2, b3, b4⟩ := s2''
  exact ⟨w, b1, by rw [e (1+1) (by omega)]; exact b2, by rw [ew 6 (by omega)]; exact b3, fun i c hi hc => by rw [e (1+28) (by omega), ew (305+4*i+c) (by omega)]; exact b4 i c hi hc⟩
/-! text -/
theorem z_w_out5 {x : Int32} (h : x < nI 0 ∨ nI 5 ≤ x) : z_w x (nI 1) (nI 4) = nI 0 ∧ z_w x (nI 0) (nI 4) = nI 0 ∧ (x = nI 0) = False := by
  have t0 := nI_toInt (n := 0) (by omega)
  have t1 := nI_toInt (n := 1) (by omega)
  have t4 := nI_toInt (n := 4) (by omega)
  have t5 := nI_toInt (n := 5) (by omega)
  rw [Int32.lt_iff_toInt_lt, Int32.le_iff_toInt_le, t0, t5] at h
  have e4 : ∀ y : Int32, y < nI 0 ∨ ¬ y ≤ nI 4 → True := fun _ _ => trivial
  refine ⟨?_, ?_, eq_false (fun e => ?_)⟩
  · unfold z_w
    by_cases q : x < nI 1
    · rw [if_pos q]
    · rw [if_neg q, if_neg (fun g => by
        rw [Int32.lt_iff_toInt_lt, t1] at q
        rw [Int32.le_iff_toInt_le, t4] at g
        omega)]
  · unfold z_w
    by_cases q : x < nI 0
    · rw [if_pos q]
    · rw [if_neg q, if_neg (fun g => by
        rw [Int32.lt_iff_toInt_lt, t0] at q
        rw [Int32.le_iff_toInt_le, t4] at g
        omega)]
  · rw [e, t0] at h
    omega
theorem c_begin {T : zt_T} {σ : q_Sto} (hB : zt_B (σ 143) T) (h1 : σ 142 1 = nI T.2) : ∃ s, f_X8_begin q_F 142 σ = some (nI 0, s) ∧ zt_C s T 0 ∧ s 142 6 = nI 0 ∧ s 142 7 = z_m ∧ (∀ o, o ≠ 142 → s o = σ o) ∧ s 142 1 = σ 142 1 := by
  obtain ⟨s, b1, b2, b3, b4⟩ := c_next (n := q_F) (p := 0) (T := T) (σ := q_up (q_up (q_up σ 142 6 (nI 0)) 142 7 z_m) 142 2 (nI 0)) z_F402 (Nat.zero_le _) (by rw [z_upO (by omega), z_upO (by omega), z_upO (by omega)]; exact hB) (by rw [z_upK (by omega), z_upK (by omega), z_upK (by omega)]; exact h1) z_upS
  refine ⟨s, ?_, b3, ?_, ?_, fun o ho => by rw [b1 o ho, z_upO ho, z_upO ho, z_upO ho], by rw [b2 1 (by omega) (by omega) (by omega) (by omega), z_upK (by omega), z_upK (by omega), z_upK (by omega)]⟩
  · unfold f_X8_begin
    simp (disch := omega) only [b4, ↓reduceIte, ↓p_ld, ↓p_st, ↓p_nm, ↓p_nS, ↓p_jn, ↓p_call, ↓p_callv, ↓p_dv, ↓p_rem, h_ldE, h_stE, h_nmE, h_nSE, h_callE, h_callvE, h_dvE, h_remE, if_true, if_false, z_upS, z_upO, z_upK, nI_add, z_mul, z_sub, z_div, Nat.add_zero, Nat.mul_zero, Nat.zero_add, Nat.sub_zero, Nat.zero_mul, z_ltT, z_ltF, z_leT, z_leF, z_eqT, z_eqF, z_inT, z_clT, not_true_eq_false, not_false_eq_true, eq_self, true_or, or_true, z_m_lt, z_m_le, z_lt_m, z_le_m, z_eq_m, z_m_eq, z_rz0, z_rz1, z_m_add, z_of, r_0_0, r_0_1, r_0_3, r_0_4, r_0_5, r_0_6, r_0_7, r_0_8, r_0_9, r_0_10, r_1_0, r_1_1, r_1_2, r_1_3, r_1_4, r_1_5, r_1_6, r_1_7, r_1_8, r_2_0, r_2_1, r_2_2, r_2_3, r_2_4, r_2_5, r_2_6, r_2_7, r_11_0, r_11_1, r_11_2, r_11_3, r_11_4, r_11_5, r_11_6, r_19_0, r_21_0, r_23_0, r_25_0, r_27_0, r_61_0, r_117_0, r_117_1, r_117_2, r_117_3, r_117_4, r_117_5, r_117_6, r_117_7, r_126_0, r_126_1, r_126_2, r_126_3, r_126_4, r_132_0, r_132_1, r_135_0, r_135_1, r_135_2, r_135_3, r_135_4, r_135_5, r_142_0, r_144_0, r_144_1, r_144_2, r_145_0, r_145_1, r_145_2, r_145_3, r_145_4, r_145_5, r_145_6, r_154_0, r_154_1, r_155_0, ↓z_m1, l_0, l_1, l_2, l_3, l_4, l_5, l_6, l_7, l_8, l_9, l_10, l_11, l_12, l_13, l_14, l_15, l_16, l_17, l_18, l_19, l_20, l_21, l_22, l_23, l_24, l_25, l_26, l_27, l_28, l_29, l_30, l_31, l_32, l_33, l_34, l_35, l_36, l_37, l_38, l_39, l_40, l_41, l_42, l_43, l_44, l_45, l_46, l_47, l_48, l_49, l_50, l_51, l_52, l_53, l_54, l_55, l_56, l_57, l_59, l_60, l_61, l_62, l_63, l_64, l_65, l_80, l_86, l_87, l_88, l_89, l_90, l_91, l_92, l_93, l_94, l_95, l_97, l_99, l_100, l_107, l_119, l_122, l_124, l_129, l_140, l_141, l_142, l_143, l_144, l_145, l_147, l_150, l_159, l_160, l_161, l_162, l_205, l_253, l_255, l_256, l_269, l_305, l_380, l_399, l_400, l_420, l_430, l_516, l_600, l_720, l_820, l_905, l_921, l_937, l_953, l_970, l_999, l_1000, l_1790, l_4096, l_9999, l_1000000]
  · rw [b2 6 (by omega) (by omega) (by omega) (by omega), z_upK (by omega), z_upK (by omega)]; exact z_upS
  · rw [b2 7 (by omega) (by omega) (by omega) (by omega), z_upK (by omega)]; exact z_upS
/-- behind a FAULT, and behind no text -/
theorem z_Sim.flt {σ τ : q_Sto} {mu me : Nat} (h : z_SimN σ mu me) (hTP : z_TP τ) (e : ∀ o, o < 117 ∨ (158 ≤ o ∧ o ≤ 160) → τ o = σ o) (e4 : τ 157 4 = σ 157 4) (e5 : τ 157 5 = σ 157 5) (h155 : τ 155 1 = nI 16) : z_SimN τ mu me := by
  have ew := e 158 (by omega)
  refine z_Sim.text h ?_ hTP (h.2.2.1.fr (fun o o1 o2 => e o (by omega)) e4 ew (e 160 (by omega))) (fun a _ => by rw [ew]) (fun o ho => e o (by omega)) e5 (h.2.2.2.2.2.1.fr (fun o o1 o2 => e o (by omega))) h155
  rw [ew]
  exact h.2.1.2.1.fr (fun o o1 o2 o3 => e o (by omega))
theorem zl_ot_os {k v a : Nat → Int32} : ∀ {O : List (Nat × Nat)}, zl_ot k v O → zl_os a O → ∀ j, j < O.length → z_st1 (k j) (v j) (a (2*j)) (a (2*j+1))
  | [], _, _, j, hj => by simp at hj
  | x :: O, h, g, j, hj => by
    by_cases q : j = O.length
    · subst q
      rw [h.1.1, h.1.2]
      exact g.1
    · exact zl_ot_os h.2 g.2 j (by simp only [List.length_cons] at hj; omega)
theorem z_cA145 : ∀ k, k < 6 → q_RF 145 k = 145+1+k := by decide
/-- both stand behind a text with a FAULT -/
theorem z_TP.z {τ : q_Sto} (h1 : τ 142 1 = nI 0) (h16 : τ 157 16 = nI 0) (h6 : τ 142 6 = τ 157 23) (h7 : τ 142 7 = τ 157 25) : z_TP τ := ⟨0, by omega, h1, h16, fun i hi => by omega, h6, h7⟩
theorem P_text0 {σ : q_Sto} {mu me : Nat} (h : z_SimN σ mu me) : ∃ (r : Int32) (σ1 σ2 : q_Sto), f_X11_text q_F 0 (nI 0) σ = some (r, σ1) ∧ f_X12_text q_F 157 (nI 0) σ1 = some (r, σ2) ∧ z_SimN σ2 mu me := by
  obtain ⟨l, l1, l2, l3, l4, l5, l6⟩ := h.2.2.2.1
  have hF : q_F = 20000 := rfl
  obtain ⟨T, hT⟩ : ∃ T : zt_T, T = (fun i => zn (σ 143 i), l) := ⟨_, rfl⟩
  have hB3 : zt_B (σ 143) T := by
    subst hT
    refine ⟨l1, fun i hi => ?_⟩
    obtain ⟨x1, x2⟩ := z_leE (l4 i hi).2 (by omega)
    exact ⟨x1, x2⟩
  have hB5 : zt_B (σ 165) T := by
    subst hT
    refine ⟨l1, fun i hi => ?_⟩
    obtain ⟨x1, x2⟩ := z_leE (l4 i hi).2 (by omega)
    exact ⟨(l4 i hi).1.symm.trans x1, x2⟩
  have hT2 : T.2 = l := by rw [hT]
  obtain ⟨s0, c1, c2, c3, c4, c5, c6⟩ := c_begin hB3 (by rw [hT2]; exact l2)
  -- the class
  have f155 : σ 155 1 = nI 16 := h.2.2.2.2.2.2.2
  obtain ⟨s1, hs1⟩ : ∃ s1, s1 = q_up (q_up s0 145 7 (nI 0)) 145 8 (nI 0) := ⟨_, rfl⟩
  have s1f : ∀ o, o ≠ 145 → s1 o = s0 o := fun o ho => by rw [hs1, z_upO ho, z_upO ho]
  have s17 : s1 145 7 = nI 0 := by rw [hs1, z_upK (by omega)]; exact z_upS
  have s18 : s1 145 8 = nI 0 := by rw [hs1]; exact z_upS
  have eRead : f_X3_read q_F 144 s0 = f_X3_read_L9 q_F 144 q_F (nI 0) s1 := by
    rw [hs1]
    unfold f_X3_read f_X2_clear
    simp (disch := omega) only [↓reduceIte, ↓p_ld, ↓p_st, ↓p_nm, ↓p_nS, ↓p_jn, ↓p_call, ↓p_callv, ↓p_dv, ↓p_rem, h_ldE, h_stE, h_nmE, h_nSE, h_callE, h_callvE, h_dvE, h_remE, if_true, if_false, z_upS, z_upO, z_upK, nI_add, z_mul, z_sub, z_div, Nat.add_zero, Nat.mul_zero, Nat.zero_add, Nat.sub_zero, Nat.zero_mul, z_ltT, z_ltF, z_leT, z_leF, z_eqT, z_eqF, z_inT, z_clT, not_true_eq_false, not_false_eq_true, eq_self, true_or, or_true, z_m_lt, z_m_le, z_lt_m, z_le_m, z_eq_m, z_m_eq, z_rz0, z_rz1, z_m_add, z_of, r_0_0, r_0_1, r_0_3, r_0_4, r_0_5, r_0_6, r_0_7, r_0_8, r_0_9, r_0_10, r_1_0, r_1_1, r_1_2, r_1_3, r_1_4, r_1_5, r_1_6, r_1_7, r_1_8, r_2_0, r_2_1, r_2_2, r_2_3, r_2_4, r_2_5, r_2_6, r_2_7, r_11_0, r_11_1, r_11_2, r_11_3, r_11_4, r_11_5, r_11_6, r_19_0, r_21_0, r_23_0, r_25_0, r_27_0, r_31_0, r_31_1, r_31_2, r_31_3, r_31_4, r_31_5, r_31_6, r_31_7, r_31_8, r_32_0, r_32_1, r_32_2, r_32_3, r_32_4, r_32_5, r_32_6, r_32_7, r_41_0, r_41_1, r_41_2, r_41_3, r_41_4, r_41_5, r_41_6, r_49_0, r_51_0, r_53_0, r_55_0, r_57_0, r_61_0, r_63_0, r_63_1, r_63_2, r_63_3, r_63_4, r_63_5, r_63_6, r_63_7, r_72_0, r_72_1, r_72_2, r_72_3, r_72_4, r_72_5, r_72_6, r_72_7, r_81_0, r_81_1, r_81_2, r_81_3, r_81_4, r_81_5, r_81_6, r_81_7, r_90_0, r_90_1, r_90_2, r_90_3, r_90_4, r_90_5, r_90_6, r_90_7, r_99_0, r_99_1, r_99_2, r_99_3, r_99_4, r_99_5, r_99_6, r_99_7, r_108_0, r_108_1, r_108_2, r_108_3, r_108_4, r_108_5, r_108_6, r_108_7, r_117_0, r_117_1, r_117_2, r_117_3, r_117_4, r_117_5, r_117_6, r_117_7, r_126_0, r_126_1, r_126_2, r_126_3, r_126_4, r_132_0, r_132_1, r_135_0, r_135_1, r_135_2, r_135_3, r_135_4, r_135_5, r_142_0, r_144_0, r_144_1, r_144_2, r_145_0, r_145_1, r_145_2, r_145_3, r_145_4, r_145_5, r_145_6, r_154_0, r_154_1, r_155_0, r_157_0, r_157_1, r_157_2, r_157_3, r_157_6, r_157_7, r_157_8, r_157_9, r_157_10, r_157_11, r_157_27, r_157_28, r_157_29, r_157_30, ↓z_m1, l_0, l_1, l_2, l_3, l_4, l_5, l_6, l_7, l_8, l_9, l_10, l_11, l_12, l_13, l_14, l_15, l_16, l_17, l_18, l_19, l_20, l_21, l_22, l_23, l_24, l_25, l_26, l_27, l_28, l_29, l_30, l_31, l_32, l_33, l_34, l_35, l_36, l_37, l_38, l_39, l_40, l_41, l_42, l_43, l_44, l_45, l_46, l_47, l_48, l_49, l_50, l_51, l_52, l_53, l_54, l_55, l_56, l_57, l_59, l_60, l_61, l_62, l_63, l_64, l_65, l_80, l_86, l_87, l_88, l_89, l_90, l_91, l_92, l_93, l_94, l_95, l_97, l_99, l_100, l_107, l_119, l_122, l_124, l_129, l_140, l_141, l_142, l_143, l_144, l_145, l_147, l_150, l_159, l_160, l_161, l_162, l_205, l_253, l_255, l_256, l_269, l_305, l_380, l_399, l_400, l_420, l_430, l_516, l_600, l_720, l_820, l_905, l_921, l_937, l_953, l_970, l_999, l_1000, l_1790, l_4096, l_9999, l_1000000]
  have mstart : ∀ s' : q_Sto, (∀ o, o = 157 ∨ o = 165 → s' o = σ o) → ∃ m1, f_X12_next0 q_F 157 (q_up (q_up (q_up (q_up (q_up s' 157 23 (nI 0)) 157 25 z_m) 157 21 (nI 0)) 157 17 (nI 0)) 157 12 (nI 0)) = some (nI 0, m1) ∧ zt_R m1 T 0 0 ∧ (∀ o, o ≠ 157 → m1 o = s' o) ∧ m1 157 23 = nI 0 ∧ m1 157 25 = z_m ∧ m1 157 4 = σ 157 4 ∧ m1 157 5 = σ 157 5 := fun s' hs => by
    obtain ⟨m1, b1, b2, b3, b4⟩ := m_next (n := q_F) (k := 0) (p := 0) (T := T) (σ := q_up (q_up (q_up (q_up (q_up s' 157 23 (nI 0)) 157 25 z_m) 157 21 (nI 0)) 157 17 (nI 0)) 157 12 (nI 0)) z_F402 (by omega) (Nat.zero_le _) (by rw [z_upO (by omega), z_upO (by omega), z_upO (by omega), z_upO (by omega), z_upO (by omega), hs 165 (by omega)]; exact hB5) (by rw [z_upK (by omega), z_upK (by omega), z_upK (by omega), z_upK (by omega), z_upK (by omega), hs 157 (by omega), hT2]; exact l3) z_upS (by rw [z_upK (by omega)]; exact z_upS)
    refine ⟨m1, b4, b3, fun o ho => by rw [b1 o ho, z_upO ho, z_upO ho, z_upO ho, z_upO ho, z_upO ho], ?_, ?_, ?_, ?_⟩
    · rw [b2 23 (by omega) (by omega) (by omega) (by omega), z_upK (by omega), z_upK (by omega), z_upK (by omega), z_upK (by omega)]; exact z_upS
    · rw [b2 25 (by omega) (by omega) (by omega) (by omega), z_upK (by omega), z_upK (by omega), z_upK (by omega)]; exact z_upS
    · rw [b2 4 (by omega) (by omega) (by omega) (by omega), z_upK (by omega), z_upK (by omega), z_upK (by omega), z_upK (by omega), z_upK (by omega), hs 157 (by omega)]
    · rw [b2 5 (by omega) (by omega) (by omega) (by omega), z_upK (by omega), z_upK (by omega), z_upK (by omega), z_upK (by omega), z_upK (by omega), hs 157 (by omega)]
  have hJ : ∀ m1, zt_R m1 T 0 0 → zl_J s1 (q_up (q_up m1 157 13 (nI 0)) 157 14 (nI 0)) T 0 [] 0 := fun m1 hR => ⟨c2.fr (s1f 143 (by omega)) (fun a _ _ => by rw [s1f 142 (by omega)]), ⟨by rw [s1f 142 (by omega)]; exact c3, by rw [s1f 142 (by omega)]; exact c4⟩, s17, trivial, s18, hR.fr (by rw [z_upO (by omega), z_upO (by omega)]) (fun a ha => by rw [z_upK (by omega), z_upK (by omega)]), z_upS, trivial, by rw [z_upK (by omega)]; exact z_upS, Nat.le_refl _, by omega, fun i hi => by omega⟩
  have hj := fun m1 hR => j_law q_F q_F 0 [] 0 s1 _ (by omega) (Nat.le_refl _) (hJ m1 hR)
  have eRL : ∀ m1, f_X12_readsLaw q_F 157 m1 = f_X12_readsLaw_L12 q_F 157 q_F (nI 1) (q_up (q_up m1 157 13 (nI 0)) 157 14 (nI 0)) := fun m1 => by
    unfold f_X12_readsLaw
    simp (disch := omega) only [↓reduceIte, ↓p_ld, ↓p_st, ↓p_nm, ↓p_nS, ↓p_jn, ↓p_call, ↓p_callv, ↓p_dv, ↓p_rem, h_ldE, h_stE, h_nmE, h_nSE, h_callE, h_callvE, h_dvE, h_remE, if_true, if_false, z_upS, z_upO, z_upK, nI_add, z_mul, z_sub, z_div, Nat.add_zero, Nat.mul_zero, Nat.zero_add, Nat.sub_zero, Nat.zero_mul, z_ltT, z_ltF, z_leT, z_leF, z_eqT, z_eqF, z_inT, z_clT, not_true_eq_false, not_false_eq_true, eq_self, true_or, or_true, z_m_lt, z_m_le, z_lt_m, z_le_m, z_eq_m, z_m_eq, z_rz0, z_rz1, z_m_add, z_of, r_157_0, r_157_1, r_157_2, r_157_3, r_157_6, r_157_7, r_157_8, r_157_9, r_157_10, r_157_11, r_157_27, r_157_28, r_157_29, r_157_30, ↓z_m1, l_0, l_1, l_2, l_3, l_4, l_5, l_6, l_7, l_8, l_9, l_10, l_11, l_12, l_13, l_14, l_15, l_16, l_17, l_18, l_19, l_20, l_21, l_22, l_23, l_24, l_25, l_26, l_27, l_28, l_29, l_30, l_31, l_32, l_33, l_34, l_35, l_36, l_37, l_38, l_39, l_40, l_41, l_42, l_43, l_44, l_45, l_46, l_47, l_48, l_49, l_50, l_51, l_52, l_53, l_54, l_55, l_56, l_57, l_59, l_60, l_61, l_62, l_63, l_64, l_65, l_80, l_86, l_87, l_88, l_89, l_90, l_91, l_92, l_93, l_94, l_95, l_97, l_99, l_100, l_107, l_119, l_122, l_124, l_129, l_140, l_141, l_142, l_143, l_144, l_145, l_147, l_150, l_159, l_160, l_161, l_162, l_205, l_253, l_255, l_256, l_269, l_305, l_380, l_399, l_400, l_420, l_430, l_516, l_600, l_720, l_820, l_905, l_921, l_937, l_953, l_970, l_999, l_1000, l_1790, l_4096, l_9999, l_1000000]
  have ewI : z_w (nI 0) (nI 0) (nI 4) = nI 1 := z_w_in (by omega) (by omega) (by omega)
  have ewC : z_w (nI 0) (nI 1) (nI 4) = nI 0 := z_w_out (by omega) (by omega) (by omega) (by omega)
  have hne : ¬ nI 1 = nI 0 := by decide
  obtain ⟨m0, -, hR0, -⟩ := mstart σ (fun _ _ => rfl)
  rcases hj m0 hR0 with ⟨s', m', O', N', q, e1, -, hJ', f1, -⟩ | ⟨s', m', ff, q, e1, -, g6, g7, -, -, f1, -⟩
  · -- it stands
    have hTL := hJ'.1.1.1
    have hqL := hJ'.1.2.1
    have hN16 := hJ'.2.2.2.2.2.2.2.2.2.2.1
    have h8N := hJ'.2.2.2.2.1
    have hlen := hJ'.2.2.2.2.2.2.2.2.2.1
    obtain ⟨s2, k1, k2, k3, k4, k5⟩ := c_copyLaw (n := q_F) (t := 11) (a := 145) (σ := s') z_cA1 z_cA145 (Or.inl (by omega))
    have fr1 : ∀ o, o < 11 ∨ (17 < o ∧ o < 142) ∨ o = 143 ∨ 153 < o → q_up s2 142 1 (nI 0) o = σ o := fun o ho => by
      rw [z_upO (by omega), k2 o (by omega), f1.1 o (by omega) (by omega), s1f o (by omega), c5 o (by omega)]
    have eC : f_X11_text q_F 0 (nI 0) σ = some (nI N', q_up s2 142 1 (nI 0)) := by
      have e8 : s2 11 8 = nI N' := k3.trans h8N
      rw [e1] at eRead
      unfold f_X11_text
      simp (disch := omega) only [c1, eRead, k1, e8, ↓reduceIte, ↓p_ld, ↓p_st, ↓p_nm, ↓p_nS, ↓p_jn, ↓p_call, ↓p_callv, ↓p_dv, ↓p_rem, h_ldE, h_stE, h_nmE, h_nSE, h_callE, h_callvE, h_dvE, h_remE, if_true, if_false, z_upS, z_upO, z_upK, nI_add, z_mul, z_sub, z_div, Nat.add_zero, Nat.mul_zero, Nat.zero_add, Nat.sub_zero, Nat.zero_mul, z_ltT, z_ltF, z_leT, z_leF, z_eqT, z_eqF, z_inT, z_clT, not_true_eq_false, not_false_eq_true, eq_self, true_or, or_true, z_m_lt, z_m_le, z_lt_m, z_le_m, z_eq_m, z_m_eq, z_rz0, z_rz1, z_m_add, z_of, r_0_0, r_0_1, r_0_3, r_0_4, r_0_5, r_0_6, r_0_7, r_0_8, r_0_9, r_0_10, r_1_0, r_1_1, r_1_2, r_1_3, r_1_4, r_1_5, r_1_6, r_1_7, r_1_8, r_2_0, r_2_1, r_2_2, r_2_3, r_2_4, r_2_5, r_2_6, r_2_7, r_11_0, r_11_1, r_11_2, r_11_3, r_11_4, r_11_5, r_11_6, r_19_0, r_21_0, r_23_0, r_25_0, r_27_0, r_31_0, r_31_1, r_31_2, r_31_3, r_31_4, r_31_5, r_31_6, r_31_7, r_31_8, r_32_0, r_32_1, r_32_2, r_32_3, r_32_4, r_32_5, r_32_6, r_32_7, r_41_0, r_41_1, r_41_2, r_41_3, r_41_4, r_41_5, r_41_6, r_49_0, r_51_0, r_53_0, r_55_0, r_57_0, r_61_0, r_63_0, r_63_1, r_63_2, r_63_3, r_63_4, r_63_5, r_63_6, r_63_7, r_72_0, r_72_1, r_72_2, r_72_3, r_72_4, r_72_5, r_72_6, r_72_7, r_81_0, r_81_1, r_81_2, r_81_3, r_81_4, r_81_5, r_81_6, r_81_7, r_90_0, r_90_1, r_90_2, r_90_3, r_90_4, r_90_5, r_90_6, r_90_7, r_99_0, r_99_1, r_99_2, r_99_3, r_99_4, r_99_5, r_99_6, r_99_7, r_108_0, r_108_1, r_108_2, r_108_3, r_108_4, r_108_5, r_108_6, r_108_7, r_117_0, r_117_1, r_117_2, r_117_3, r_117_4, r_117_5, r_117_6, r_117_7, r_126_0, r_126_1, r_126_2, r_126_3, r_126_4, r_132_0, r_132_1, r_135_0, r_135_1, r_135_2, r_135_3, r_135_4, r_135_5, r_142_0, r_144_0, r_144_1, r_144_2, r_145_0, r_145_1, r_145_2, r_145_3, r_145_4, r_145_5, r_145_6, r_154_0, r_154_1, r_155_0, r_157_0, r_157_1, r_157_2, r_157_3, r_157_6, r_157_7, r_157_8, r_157_9, r_157_10, r_157_11, r_157_27, r_157_28, r_157_29, r_157_30, ↓z_m1, l_0, l_1, l_2, l_3, l_4, l_5, l_6, l_7, l_8, l_9, l_10, l_11, l_12, l_13, l_14, l_15, l_16, l_17, l_18, l_19, l_20, l_21, l_22, l_23, l_24, l_25, l_26, l_27, l_28, l_29, l_30, l_31, l_32, l_33, l_34, l_35, l_36, l_37, l_38, l_39, l_40, l_41, l_42, l_43, l_44, l_45, l_46, l_47, l_48, l_49, l_50, l_51, l_52, l_53, l_54, l_55, l_56, l_57, l_59, l_60, l_61, l_62, l_63, l_64, l_65, l_80, l_86, l_87, l_88, l_89, l_90, l_91, l_92, l_93, l_94, l_95, l_97, l_99, l_100, l_107, l_119, l_122, l_124, l_129, l_140, l_141, l_142, l_143, l_144, l_145, l_147, l_150, l_159, l_160, l_161, l_162, l_205, l_253, l_255, l_256, l_269, l_305, l_380, l_399, l_400, l_420, l_430, l_516, l_600, l_720, l_820, l_905, l_921, l_937, l_953, l_970, l_999, l_1000, l_1790, l_4096, l_9999, l_1000000]
    obtain ⟨m1, b1, b2, b3, b4, b5, b6, b7⟩ := mstart (q_up s2 142 1 (nI 0)) (fun o ho => fr1 o (by omega))
    rcases hj m1 b2 with ⟨s'', m', O', N'', q, e1', e2, hJ', f1', f2⟩ | ⟨s'', m', ff, q, e1', -⟩
    · rw [e1] at e1'
      cases e1'
      obtain ⟨j1, ⟨j2, j3⟩, j4, j5, j6, j7, j8, j9, j10, j11, j12, j13⟩ := hJ'
      have hNN : N'' = N' := by
        rw [h8N, nI_eq (by omega) (by omega)] at j6
        exact j6.symm
      subst hNN
      have hTL := j1.1.1
      have hqL := j1.2.1
      have hZ : O'.length ≤ 400 := by omega
      have fm : ∀ o, o ≠ 157 → o ≠ 162 → o ≠ 163 → m' o = q_up s2 142 1 (nI 0) o := fun o o1 o2 o3 => by rw [f2.1 o o1 o2 o3, z_upO o1, z_upO o1, b3 o o1]
      have fm7 : ∀ a, a ≠ 13 → a ≠ 14 → a ≠ 17 → a ≠ 18 → a ≠ 19 → a ≠ 20 → a ≠ 21 → a ≠ 22 → a ≠ 24 → m' 157 a = m1 157 a := fun a a1 a2 a3 a4 a5 a6 a7 a8 a9 => by rw [f2.2 a a1 a2 a3 a4 a5 a6 a7 a8 a9, z_upK a2, z_upK a1]
      obtain ⟨m3, d1, d2, d3, d4, d5⟩ := m_putsL (N := N'') (Z := O'.length) (V := σ 158) (R := m' 162) (S := m' 163) (σ := q_up m' 157 16 (nI 0)) j12 hZ (by rw [z_upK (by omega)]; exact j10) (by rw [z_upK (by omega)]; exact j8) (z_upO (by omega)) (z_upO (by omega)) (by rw [z_upO (by omega), fm 158 (by omega) (by omega) (by omega)]; exact fr1 158 (by omega))
      have eM : f_X12_text q_F 157 (nI 0) (q_up s2 142 1 (nI 0)) = some (nI N'', m3) := by
        have e2' := (eRL m1).trans e2
        unfold f_X12_text
        simp (disch := omega) only [m_isIn, ewI, b1, e2', f_X12_putsText, d5, ↓reduceIte, ↓p_ld, ↓p_st, ↓p_nm, ↓p_nS, ↓p_jn, ↓p_call, ↓p_callv, ↓p_dv, ↓p_rem, h_ldE, h_stE, h_nmE, h_nSE, h_callE, h_callvE, h_dvE, h_remE, if_true, if_false, z_upS, z_upO, z_upK, nI_add, z_mul, z_sub, z_div, Nat.add_zero, Nat.mul_zero, Nat.zero_add, Nat.sub_zero, Nat.zero_mul, z_ltT, z_ltF, z_leT, z_leF, z_eqT, z_eqF, z_inT, z_clT, not_true_eq_false, not_false_eq_true, eq_self, true_or, or_true, z_m_lt, z_m_le, z_lt_m, z_le_m, z_eq_m, z_m_eq, z_rz0, z_rz1, z_m_add, z_of, r_157_0, r_157_1, r_157_2, r_157_3, r_157_6, r_157_7, r_157_8, r_157_9, r_157_10, r_157_11, r_157_27, r_157_28, r_157_29, r_157_30, ↓z_m1, l_0, l_1, l_2, l_3, l_4, l_5, l_6, l_7, l_8, l_9, l_10, l_11, l_12, l_13, l_14, l_15, l_16, l_17, l_18, l_19, l_20, l_21, l_22, l_23, l_24, l_25, l_26, l_27, l_28, l_29, l_30, l_31, l_32, l_33, l_34, l_35, l_36, l_37, l_38, l_39, l_40, l_41, l_42, l_43, l_44, l_45, l_46, l_47, l_48, l_49, l_50, l_51, l_52, l_53, l_54, l_55, l_56, l_57, l_59, l_60, l_61, l_62, l_63, l_64, l_65, l_80, l_86, l_87, l_88, l_89, l_90, l_91, l_92, l_93, l_94, l_95, l_97, l_99, l_100, l_107, l_119, l_122, l_124, l_129, l_140, l_141, l_142, l_143, l_144, l_145, l_147, l_150, l_159, l_160, l_161, l_162, l_205, l_253, l_255, l_256, l_269, l_305, l_380, l_399, l_400, l_420, l_430, l_516, l_600, l_720, l_820, l_905, l_921, l_937, l_953, l_970, l_999, l_1000, l_1790, l_4096, l_9999, l_1000000]
      refine ⟨nI N'', _, m3, eC, eM, ?_⟩
      have fr3 : ∀ o, o < 11 ∨ (17 < o ∧ o < 142) ∨ o = 143 ∨ (153 < o ∧ o ≠ 157 ∧ o ≠ 158 ∧ o ≠ 162 ∧ o ≠ 163) → m3 o = σ o := fun o ho => by
        rw [d1 o (by omega), z_upO (by omega), fm o (by omega) (by omega) (by omega)]
        exact fr1 o (by omega)
      have fr4 : ∀ o, 11 ≤ o → o ≤ 17 → m3 o = s2 o := fun o o1 o2 => by
        rw [d1 o (by omega), z_upO (by omega), fm o (by omega) (by omega) (by omega), z_upO (by omega)]
      have fr5 : ∀ a, a ≠ 13 → a ≠ 14 → a ≠ 16 → a ≠ 17 → a ≠ 18 → a ≠ 19 → a ≠ 20 → a ≠ 21 → a ≠ 22 → a ≠ 24 → m3 157 a = m1 157 a := fun a a1 a2 a3 a4 a5 a6 a7 a8 a9 a10 => by
        rw [d1 157 (by omega), z_upK a3, fm7 a a1 a2 a4 a5 a6 a7 a8 a9 a10]
      have v89 : m3 158 89 = nI N'' := by rw [d4 89 (by omega)]; exact z_uS
      have vo : ∀ a, a < 905 → a ≠ 89 → m3 158 a = σ 158 a := fun a a1 a2 => by rw [d4 a a1, z_uK a2]
      have hW := h.2.1.2.1
      have m142 : ∀ a, m3 142 a = q_up s2 142 1 (nI 0) 142 a := fun a => by rw [d1 142 (by omega), z_upO (by omega), fm 142 (by omega) (by omega) (by omega)]
      refine z_Sim.text h ⟨?_, hW.2.1.tr (fr3 19 (by omega)) (fr3 20 (by omega)) (vo 90 (by omega) (by omega)) (fun a a1 a2 => vo a (by omega) (by omega)), hW.2.2.1.tr (fr3 21 (by omega)) (fr3 22 (by omega)) (vo 91 (by omega) (by omega)) (fun a a1 a2 => vo a (by omega) (by omega)), hW.2.2.2.1.tr (fr3 23 (by omega)) (fr3 24 (by omega)) (vo 92 (by omega) (by omega)) (fun a a1 a2 => vo a (by omega) (by omega)), hW.2.2.2.2.1.tr (fr3 25 (by omega)) (fr3 26 (by omega)) (vo 93 (by omega) (by omega)) (fun a a1 a2 => vo a (by omega) (by omega)), hW.2.2.2.2.2.tr (fr3 27 (by omega)) (fr3 28 (by omega)) (vo 94 (by omega) (by omega)) (fun a a1 a2 => vo a (by omega) (by omega))⟩ (z_TP.z ?_ ?_ ?_ ?_) (z_HI.sam h.2.2.1 (fun o o1 o2 => fr3 o (by omega)) ?_ (fr3 160 (by omega)) (fun a ha => vo a (by omega) (by omega))) (fun a ha => vo a (by omega) (by omega)) (fun o ho => fr3 o (by omega)) ?_ (h.2.2.2.2.2.1.fr (fun o o1 o2 => fr3 o (by omega))) (by rw [fr3 155 (by omega)]; exact f155)
      · obtain ⟨k4a, k4b, k4c, k4d⟩ : (∀ i, i < 16 → s2 12 i = s' 146 i) ∧ (∀ i, i < 16 → s2 13 i = s' 147 i) ∧ (∀ i, i < 16 → s2 14 i = s' 148 i) ∧ (∀ i, i < 16 → s2 15 i = s' 149 i) := ⟨fun i hi => (k4 i hi).1, fun i hi => (k4 i hi).2.1, fun i hi => (k4 i hi).2.2.1, fun i hi => (k4 i hi).2.2.2⟩
        obtain ⟨k5a, k5b⟩ : (∀ j, j < 400 → s2 16 j = s' 150 j) ∧ (∀ j, j < 400 → s2 17 j = s' 151 j) := ⟨fun j hj => (k5 j hj).1, fun j hj => (k5 j hj).2⟩
        refine ⟨N'', O'.length, j12, hZ, ?_, v89, fun i hi => ?_, fun j hj => ?_⟩
        · show m3 11 8 = _
          rw [fr4 11 (by omega) (by omega)]
          exact k3.trans h8N
        · obtain ⟨f, mm, t, w, x1, x2, x3, x4, x5, x6, x7, x8, x9, x10, x11, x12, x13⟩ := j13 i hi
          obtain ⟨y1, y2, y3, y4⟩ := d2 i hi
          refine ⟨f, mm, t, w, x1, x2, x3, x4, y1.trans x5, y2.trans x6, y3.trans x7, y4.trans x8, ?_, ?_, ?_, ?_, ?_⟩
          · show m3 12 i = _
            rw [fr4 12 (by omega) (by omega), k4a i (by omega)]; exact x9
          · show m3 13 i = _
            rw [fr4 13 (by omega) (by omega), k4b i (by omega)]; exact x10
          · show m3 15 i = _
            rw [fr4 15 (by omega) (by omega), k4d i (by omega)]; exact x11
          · rcases x12 with ⟨z1, z2⟩ | ⟨z1, z2, z3⟩
            · refine Or.inl ⟨z1, ?_⟩
              show m3 14 i = _
              rw [fr4 14 (by omega) (by omega), k4c i (by omega)]; exact z2
            · refine Or.inr ⟨z1, ?_, ?_⟩
              · show m3 14 i = _
                rw [fr4 14 (by omega) (by omega), k4c i (by omega)]; exact z2
              · show z_ty (m3 16) (t - mm) mm [] = _
                rw [fr4 16 (by omega) (by omega), z_ty_congr _ _ _ (fun j j1 j2 => k5a j (by omega))]; exact z3
          · show z_ty (m3 16) (mm - f) f [] = _
            rw [fr4 16 (by omega) (by omega), z_ty_congr _ _ _ (fun j j1 j2 => k5a j (by omega))]; exact x13
        · show z_st1 (m3 16 j) (m3 17 j) _ _
          have hos := zl_ot_os j5 j9 j hj
          have v1 := d3 (2*j) (by omega)
          have v2 := d3 (2*j+1) (by omega)
          rw [fr4 16 (by omega) (by omega), fr4 17 (by omega) (by omega), k5a j (by omega), k5b j (by omega), v1, show 970 + 2*j + 1 = 970 + (2*j+1) by omega, v2]
          exact hos
      · rw [m142]; exact z_upS
      · rw [d1 157 (by omega)]; exact z_upS
      · rw [m142, z_upK (by omega), k2 142 (by omega), j2, fr5 23 (by omega) (by omega) (by omega) (by omega) (by omega) (by omega) (by omega) (by omega) (by omega) (by omega)]; exact b4.symm
      · rw [m142, z_upK (by omega), k2 142 (by omega), j3, fr5 25 (by omega) (by omega) (by omega) (by omega) (by omega) (by omega) (by omega) (by omega) (by omega) (by omega)]; exact b5.symm
      · rw [fr5 4 (by omega) (by omega) (by omega) (by omega) (by omega) (by omega) (by omega) (by omega) (by omega) (by omega)]; exact b6
      · rw [fr5 5 (by omega) (by omega) (by omega) (by omega) (by omega) (by omega) (by omega) (by omega) (by omega) (by omega)]; exact b7
    · rw [e1] at e1'
      exact absurd (congrArg Prod.fst (Option.some.inj e1')) hne
  · -- a FAULT
    have fr1 : ∀ o, o < 142 ∨ o = 143 ∨ 153 < o → q_up s' 142 1 (nI 0) o = σ o := fun o ho => by
      rw [z_upO (by omega), f1.1 o (by omega) (by omega), s1f o (by omega), c5 o (by omega)]
    have eC : f_X11_text q_F 0 (nI 0) σ = some (z_m, q_up s' 142 1 (nI 0)) := by
      rw [e1] at eRead
      unfold f_X11_text
      simp (disch := omega) only [c1, eRead, c_isWithin, ewC, ↓reduceIte, ↓p_ld, ↓p_st, ↓p_nm, ↓p_nS, ↓p_jn, ↓p_call, ↓p_callv, ↓p_dv, ↓p_rem, h_ldE, h_stE, h_nmE, h_nSE, h_callE, h_callvE, h_dvE, h_remE, if_true, if_false, z_upS, z_upO, z_upK, nI_add, z_mul, z_sub, z_div, Nat.add_zero, Nat.mul_zero, Nat.zero_add, Nat.sub_zero, Nat.zero_mul, z_ltT, z_ltF, z_leT, z_leF, z_eqT, z_eqF, z_inT, z_clT, not_true_eq_false, not_false_eq_true, eq_self, true_or, or_true, z_m_lt, z_m_le, z_lt_m, z_le_m, z_eq_m, z_m_eq, z_rz0, z_rz1, z_m_add, z_of, r_0_0, r_0_1, r_0_3, r_0_4, r_0_5, r_0_6, r_0_7, r_0_8, r_0_9, r_0_10, r_1_0, r_1_1, r_1_2, r_1_3, r_1_4, r_1_5, r_1_6, r_1_7, r_1_8, r_2_0, r_2_1, r_2_2, r_2_3, r_2_4, r_2_5, r_2_6, r_2_7, r_11_0, r_11_1, r_11_2, r_11_3, r_11_4, r_11_5, r_11_6, r_19_0, r_21_0, r_23_0, r_25_0, r_27_0, r_31_0, r_31_1, r_31_2, r_31_3, r_31_4, r_31_5, r_31_6, r_31_7, r_31_8, r_32_0, r_32_1, r_32_2, r_32_3, r_32_4, r_32_5, r_32_6, r_32_7, r_41_0, r_41_1, r_41_2, r_41_3, r_41_4, r_41_5, r_41_6, r_49_0, r_51_0, r_53_0, r_55_0, r_57_0, r_61_0, r_63_0, r_63_1, r_63_2, r_63_3, r_63_4, r_63_5, r_63_6, r_63_7, r_72_0, r_72_1, r_72_2, r_72_3, r_72_4, r_72_5, r_72_6, r_72_7, r_81_0, r_81_1, r_81_2, r_81_3, r_81_4, r_81_5, r_81_6, r_81_7, r_90_0, r_90_1, r_90_2, r_90_3, r_90_4, r_90_5, r_90_6, r_90_7, r_99_0, r_99_1, r_99_2, r_99_3, r_99_4, r_99_5, r_99_6, r_99_7, r_108_0, r_108_1, r_108_2, r_108_3, r_108_4, r_108_5, r_108_6, r_108_7, r_117_0, r_117_1, r_117_2, r_117_3, r_117_4, r_117_5, r_117_6, r_117_7, r_126_0, r_126_1, r_126_2, r_126_3, r_126_4, r_132_0, r_132_1, r_135_0, r_135_1, r_135_2, r_135_3, r_135_4, r_135_5, r_142_0, r_144_0, r_144_1, r_144_2, r_145_0, r_145_1, r_145_2, r_145_3, r_145_4, r_145_5, r_145_6, r_154_0, r_154_1, r_155_0, r_157_0, r_157_1, r_157_2, r_157_3, r_157_6, r_157_7, r_157_8, r_157_9, r_157_10, r_157_11, r_157_27, r_157_28, r_157_29, r_157_30, ↓z_m1, l_0, l_1, l_2, l_3, l_4, l_5, l_6, l_7, l_8, l_9, l_10, l_11, l_12, l_13, l_14, l_15, l_16, l_17, l_18, l_19, l_20, l_21, l_22, l_23, l_24, l_25, l_26, l_27, l_28, l_29, l_30, l_31, l_32, l_33, l_34, l_35, l_36, l_37, l_38, l_39, l_40, l_41, l_42, l_43, l_44, l_45, l_46, l_47, l_48, l_49, l_50, l_51, l_52, l_53, l_54, l_55, l_56, l_57, l_59, l_60, l_61, l_62, l_63, l_64, l_65, l_80, l_86, l_87, l_88, l_89, l_90, l_91, l_92, l_93, l_94, l_95, l_97, l_99, l_100, l_107, l_119, l_122, l_124, l_129, l_140, l_141, l_142, l_143, l_144, l_145, l_147, l_150, l_159, l_160, l_161, l_162, l_205, l_253, l_255, l_256, l_269, l_305, l_380, l_399, l_400, l_420, l_430, l_516, l_600, l_720, l_820, l_905, l_921, l_937, l_953, l_970, l_999, l_1000, l_1790, l_4096, l_9999, l_1000000]
    obtain ⟨m1, b1, b2, b3, b4, b5, b6, b7⟩ := mstart (q_up s' 142 1 (nI 0)) (fun o ho => fr1 o (by omega))
    rcases hj m1 b2 with ⟨s'', m', O', N'', q, e1', -⟩ | ⟨s'', m', ff, q, e1', e2, g6, g7, g21, g22, f1', f2⟩
    · rw [e1] at e1'
      exact absurd (congrArg Prod.fst (Option.some.inj e1')).symm hne
    · rw [e1] at e1'
      cases e1'
      have eM : f_X12_text q_F 157 (nI 0) (q_up s' 142 1 (nI 0)) = some (z_m, q_up (q_up (q_up m' 157 16 (nI 0)) 157 23 (nI ff)) 157 25 (nI q)) := by
        have e2' := (eRL m1).trans e2
        unfold f_X12_text
        simp (disch := omega) only [m_isIn, ewI, b1, e2', g21, g22, ↓reduceIte, ↓p_ld, ↓p_st, ↓p_nm, ↓p_nS, ↓p_jn, ↓p_call, ↓p_callv, ↓p_dv, ↓p_rem, h_ldE, h_stE, h_nmE, h_nSE, h_callE, h_callvE, h_dvE, h_remE, if_true, if_false, z_upS, z_upO, z_upK, nI_add, z_mul, z_sub, z_div, Nat.add_zero, Nat.mul_zero, Nat.zero_add, Nat.sub_zero, Nat.zero_mul, z_ltT, z_ltF, z_leT, z_leF, z_eqT, z_eqF, z_inT, z_clT, not_true_eq_false, not_false_eq_true, eq_self, true_or, or_true, z_m_lt, z_m_le, z_lt_m, z_le_m, z_eq_m, z_m_eq, z_rz0, z_rz1, z_m_add, z_of, r_157_0, r_157_1, r_157_2, r_157_3, r_157_6, r_157_7, r_157_8, r_157_9, r_157_10, r_157_11, r_157_27, r_157_28, r_157_29, r_157_30, ↓z_m1, l_0, l_1, l_2, l_3, l_4, l_5, l_6, l_7, l_8, l_9, l_10, l_11, l_12, l_13, l_14, l_15, l_16, l_17, l_18, l_19, l_20, l_21, l_22, l_23, l_24, l_25, l_26, l_27, l_28, l_29, l_30, l_31, l_32, l_33, l_34, l_35, l_36, l_37, l_38, l_39, l_40, l_41, l_42, l_43, l_44, l_45, l_46, l_47, l_48, l_49, l_50, l_51, l_52, l_53, l_54, l_55, l_56, l_57, l_59, l_60, l_61, l_62, l_63, l_64, l_65, l_80, l_86, l_87, l_88, l_89, l_90, l_91, l_92, l_93, l_94, l_95, l_97, l_99, l_100, l_107, l_119, l_122, l_124, l_129, l_140, l_141, l_142, l_143, l_144, l_145, l_147, l_150, l_159, l_160, l_161, l_162, l_205, l_253, l_255, l_256, l_269, l_305, l_380, l_399, l_400, l_420, l_430, l_516, l_600, l_720, l_820, l_905, l_921, l_937, l_953, l_970, l_999, l_1000, l_1790, l_4096, l_9999, l_1000000]
      refine ⟨z_m, _, _, eC, eM, z_Sim.flt h (z_TP.z ?_ ?_ ?_ ?_) (fun o ho => ?_) ?_ ?_ ?_⟩
      · rw [z_upO (by omega), z_upO (by omega), z_upO (by omega), f2.1 142 (by omega) (by omega) (by omega), z_upO (by omega), z_upO (by omega), b3 142 (by omega)]; exact z_upS
      · rw [z_upK (by omega), z_upK (by omega)]; exact z_upS
      · rw [z_upO (by omega), z_upO (by omega), z_upO (by omega), f2.1 142 (by omega) (by omega) (by omega), z_upO (by omega), z_upO (by omega), b3 142 (by omega), z_upK (by omega), z_upK (by omega), z_upS]; exact g6
      · rw [z_upO (by omega), z_upO (by omega), z_upO (by omega), f2.1 142 (by omega) (by omega) (by omega), z_upO (by omega), z_upO (by omega), b3 142 (by omega), z_upK (by omega), z_upS]; exact g7
      · rw [z_upO (by omega), z_upO (by omega), z_upO (by omega), f2.1 o (by omega) (by omega) (by omega), z_upO (by omega), z_upO (by omega), b3 o (by omega)]; exact fr1 o (by omega)
      · rw [z_upK (by omega), z_upK (by omega), z_upK (by omega), f2.2 4 (by omega) (by omega) (by omega) (by omega) (by omega) (by omega) (by omega) (by omega) (by omega), z_upK (by omega), z_upK (by omega)]; exact b6
      · rw [z_upK (by omega), z_upK (by omega), z_upK (by omega), f2.2 5 (by omega) (by omega) (by omega) (by omega) (by omega) (by omega) (by omega) (by omega) (by omega), z_upK (by omega), z_upK (by omega)]; exact b7
      · rw [z_upO (by omega), z_upO (by omega), z_upO (by omega), f2.1 155 (by omega) (by omega) (by omega), z_upO (by omega), z_upO (by omega), b3 155 (by omega), fr1 155 (by omega)]; exact f155
