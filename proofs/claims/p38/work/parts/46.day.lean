/-! rest, and a day of plans -/
theorem c_fill12_L {n : Nat} : ∀ j i (σ : q_Sto), i ≤ 12 → 12 < j + i → (∀ k, k < i → σ 5 k = nI 0) → ∃ σ', (∀ o, o ≠ 5 → σ' o = σ o) ∧ (∀ k, k < 12 → σ' 5 k = nI 0) ∧ f_J7_fill_53178_L5 n 12 5 (nI 0) (nI 12) j (nI i) σ = some (nI 0, σ') := by
  intro j
  induction j with
  | zero => intro i σ h1 h2; omega
  | succ j ih =>
    intro i σ h1 h2 hk
    by_cases hi : i = 12
    · subst hi
      refine ⟨σ, fun o _ => rfl, hk, ?_⟩
      simp (disch := omega) only [f_J7_fill_53178_L5, ↓reduceIte, ↓p_ld, ↓p_st, ↓p_nm, ↓p_nS, ↓p_jn, ↓p_call, ↓p_callv, ↓p_dv, ↓p_rem, h_ldE, h_stE, h_nmE, h_nSE, h_callE, h_callvE, h_dvE, h_remE, if_true, if_false, z_upS, z_upO, z_upK, nI_add, z_mul, z_sub, z_div, Nat.add_zero, Nat.mul_zero, Nat.zero_add, Nat.sub_zero, Nat.zero_mul, z_ltT, z_ltF, z_leT, z_leF, z_eqT, z_eqF, z_inT, z_clT, not_true_eq_false, not_false_eq_true, eq_self, true_or, or_true, z_m_lt, z_m_le, z_lt_m, z_le_m, z_eq_m, z_m_eq, z_rz0, z_rz1, z_m_add, z_of, ↓z_m1, l_0, l_1, l_2, l_3, l_4, l_5, l_6, l_7, l_8, l_9, l_10, l_11, l_12, l_13, l_14, l_15, l_16, l_17, l_18, l_19, l_20, l_21, l_22, l_23, l_24, l_25, l_26, l_27, l_28, l_29, l_30, l_31, l_32, l_33, l_34, l_35, l_36, l_37, l_38, l_39, l_40, l_41, l_42, l_43, l_44, l_45, l_46, l_47, l_48, l_49, l_50, l_51, l_52, l_53, l_54, l_55, l_56, l_57, l_59, l_60, l_61, l_62, l_63, l_64, l_65, l_80, l_86, l_87, l_88, l_89, l_90, l_91, l_92, l_93, l_94, l_95, l_97, l_99, l_100, l_107, l_119, l_122, l_124, l_129, l_140, l_141, l_142, l_143, l_144, l_145, l_147, l_150, l_159, l_160, l_161, l_162, l_205, l_253, l_255, l_256, l_269, l_305, l_380, l_399, l_400, l_420, l_430, l_516, l_600, l_720, l_820, l_905, l_921, l_937, l_953, l_970, l_999, l_1000, l_1790, l_4096, l_9999, l_1000000]
    · obtain ⟨σ', g1, g2, g3⟩ := ih (i+1) (q_up σ 5 i (nI 0)) (by omega) (by omega) (fun k hk2 => by
        by_cases e : k = i
        · subst e; exact z_upS
        · rw [z_upK e]; exact hk k (by omega))
      refine ⟨σ', fun o ho => by rw [g1 o ho, z_upO ho], g2, ?_⟩
      rw [← g3, f_J7_fill_53178_L5]
      simp (disch := omega) only [↓reduceIte, ↓p_ld, ↓p_st, ↓p_nm, ↓p_nS, ↓p_jn, ↓p_call, ↓p_callv, ↓p_dv, ↓p_rem, h_ldE, h_stE, h_nmE, h_nSE, h_callE, h_callvE, h_dvE, h_remE, if_true, if_false, z_upS, z_upO, z_upK, nI_add, z_mul, z_sub, z_div, Nat.add_zero, Nat.mul_zero, Nat.zero_add, Nat.sub_zero, Nat.zero_mul, z_ltT, z_ltF, z_leT, z_leF, z_eqT, z_eqF, z_inT, z_clT, not_true_eq_false, not_false_eq_true, eq_self, true_or, or_true, z_m_lt, z_m_le, z_lt_m, z_le_m, z_eq_m, z_m_eq, z_rz0, z_rz1, z_m_add, z_of, ↓z_m1, l_0, l_1, l_2, l_3, l_4, l_5, l_6, l_7, l_8, l_9, l_10, l_11, l_12, l_13, l_14, l_15, l_16, l_17, l_18, l_19, l_20, l_21, l_22, l_23, l_24, l_25, l_26, l_27, l_28, l_29, l_30, l_31, l_32, l_33, l_34, l_35, l_36, l_37, l_38, l_39, l_40, l_41, l_42, l_43, l_44, l_45, l_46, l_47, l_48, l_49, l_50, l_51, l_52, l_53, l_54, l_55, l_56, l_57, l_59, l_60, l_61, l_62, l_63, l_64, l_65, l_80, l_86, l_87, l_88, l_89, l_90, l_91, l_92, l_93, l_94, l_95, l_97, l_99, l_100, l_107, l_119, l_122, l_124, l_129, l_140, l_141, l_142, l_143, l_144, l_145, l_147, l_150, l_159, l_160, l_161, l_162, l_205, l_253, l_255, l_256, l_269, l_305, l_380, l_399, l_400, l_420, l_430, l_516, l_600, l_720, l_820, l_905, l_921, l_937, l_953, l_970, l_999, l_1000, l_1790, l_4096, l_9999, l_1000000]
/-- the plans' codes: the reference's to the class's -/
def z_cd (q : Nat) : Nat := if q = 13 then 0 else if q = 14 then 4 else q - 9
theorem z_PL.cd {σ : q_Sto} {V : Nat → Int32} {mu me : Nat} (h : z_PL σ 1 V mu me) : ∃ c, c ≤ 16 ∧ σ 21 2 = nI c ∧ V 91 = nI c ∧ (∀ i, i < c → σ 22 (i*4) = V (141+4*i) ∧ σ 22 (i*4+2) = V (141+4*i+2) ∧ σ 22 (i*4+3) = V (141+4*i+3) ∧ ∃ q, 10 ≤ q ∧ q ≤ 14 ∧ V (141+4*i+1) = nI q ∧ σ 22 (i*4+1) = nI (z_cd q) ∧
    (q = 10 ∨ q = 11 ∨ q = 12 → ∃ k, k < me ∧ V (141+4*i+2) = nI k) ∧ (q = 10 ∨ q = 12 → ∃ m, m < mu ∧ V (141+4*i+3) = nI m) ∧ (q = 14 → ∃ k, k < 10 ∧ V (141+4*i+2) = nI k)) := by
  obtain ⟨c, h1, h2, h3, h4⟩ := h
  refine ⟨c, h1, h2, h3, fun i hi => ?_⟩
  obtain ⟨e0, e2, e3, -, hq⟩ := h4 i hi
  refine ⟨e0, e2, e3, ?_⟩
  rcases hq with ⟨a, b⟩ | ⟨a, b, x, y⟩ | ⟨a, b, x⟩ | ⟨a, b, x, y⟩ | ⟨a, b, x⟩
  · exact ⟨13, by omega, by omega, a, b, fun q => by omega, fun q => by omega, fun q => by omega⟩
  · exact ⟨10, by omega, by omega, a, b, fun _ => x, fun _ => y, fun q => by omega⟩
  · exact ⟨11, by omega, by omega, a, b, fun _ => x, fun q => by omega, fun q => by omega⟩
  · exact ⟨12, by omega, by omega, a, b, fun _ => x, fun _ => y, fun q => by omega⟩
  · exact ⟨14, by omega, by omega, a, b, fun q => by omega, fun q => by omega, fun _ => x⟩