/-! THE LAW's reader: the reference -/
def zl_os (a : Nat → Int32) : List (Nat × Nat) → Prop
  | [] => True
  | x :: O => z_st1 (nI x.1) (nI x.2) (a (2 * O.length)) (a (2 * O.length + 1)) ∧ zl_os a O
theorem zl_os_up {a b : Nat → Int32} : ∀ {O : List (Nat × Nat)}, zl_os a O → (∀ i, i < 2 * O.length → b i = a i) → zl_os b O
  | [], _, _ => trivial
  | x :: O, h, e => ⟨by rw [e (2 * O.length) (by simp only [List.length_cons]; omega), e (2 * O.length + 1) (by simp only [List.length_cons]; omega)]; exact h.1, zl_os_up h.2 (fun i hi => e i (by simp only [List.length_cons]; omega))⟩
def zl_R (σ : q_Sto) (T : zt_T) (p : Nat) (O : List (Nat × Nat)) (d : Nat) : Prop := zt_R σ T 0 p ∧ σ 157 14 = nI O.length ∧ zl_os (σ 163) O ∧ σ 157 24 = nI d ∧ d ≤ 8
def zl_fR (σ σ' : q_Sto) : Prop := (∀ o, o ≠ 157 → o ≠ 163 → σ' o = σ o) ∧ ∀ a, a ≠ 14 → a ≠ 17 → a ≠ 18 → a ≠ 19 → a ≠ 20 → a ≠ 21 → a ≠ 22 → a ≠ 24 → σ' 157 a = σ 157 a
theorem zl_fR.refl (σ : q_Sto) : zl_fR σ σ := ⟨fun _ _ _ => rfl, fun _ _ _ _ _ _ _ _ _ => rfl⟩
theorem zl_fR.trans {a b c : q_Sto} (h : zl_fR a b) (g : zl_fR b c) : zl_fR a c := ⟨fun o o1 o2 => (g.1 o o1 o2).trans (h.1 o o1 o2), fun x x1 x2 x3 x4 x5 x6 x7 x8 => (g.2 x x1 x2 x3 x4 x5 x6 x7 x8).trans (h.2 x x1 x2 x3 x4 x5 x6 x7 x8)⟩
theorem zl_fR.next {σ σ' : q_Sto} (h : ∀ o, o ≠ 157 → σ' o = σ o) (g : ∀ a, a ≠ 17 → a ≠ 18 → a ≠ 19 → a ≠ 20 → σ' 157 a = σ 157 a) : zl_fR σ σ' := ⟨fun o o1 _ => h o o1, fun a _ a1 a2 a3 a4 _ _ _ => g a a1 a2 a3 a4⟩
/-- it goes well, or not -/
def zl_RG (F : Option (Int32 × q_Sto)) (σ : q_Sto) (T : zt_T) (O : List (Nat × Nat)) (d : Nat) (Q : List (Nat × Nat) → Nat → Prop) : Prop := ∃ c q σ', F = some (nI 1, σ') ∧ Q c q ∧ zl_R σ' T q (c ++ O) d ∧ zl_fR σ σ'
def zl_RB (F : Option (Int32 × q_Sto)) (σ : q_Sto) (E : Nat → Nat → Prop) : Prop := ∃ f q σ', F = some (nI 0, σ') ∧ E f q ∧ σ' 157 21 = nI f ∧ σ' 157 22 = nI q ∧ zl_fR σ σ'
theorem m_badR {p f : Nat} {T : zt_T} {O : List (Nat × Nat)} {d : Nat} {σ σ0 : q_Sto} {E : Nat → Nat → Prop} (h : zl_R σ T p O d) (h0 : zl_fR σ0 σ) (hE : E f (zt_at T p)) : ∃ σ', f_X12_bad q_F 157 (nI f) σ = some (nI 0, σ') ∧ E f (zt_at T p) ∧ σ' 157 21 = nI f ∧ σ' 157 22 = nI (zt_at T p) ∧ zl_fR σ0 σ' := by
  obtain ⟨σ', b1, b2, b3, b4, b5⟩ := m_bad (n := q_F) (f := f) h.1
  exact ⟨σ', b5, hE, b3, b4, h0.trans ⟨fun o o1 _ => b1 o o1, fun a _ _ _ _ _ a5 a6 _ => b2 a a5 a6⟩⟩
theorem m_layR {p d : Nat} {T : zt_T} {O : List (Nat × Nat)} {x : Nat × Nat} {s v : Int32} {σ : q_Sto} (h : zl_R σ T p O d) (hx : z_st1 (nI x.1) (nI x.2) s v) (hl : O.length < 400) : ∃ σ', zl_R σ' T p (x :: O) d ∧ zl_fR σ σ' ∧ f_X12_lay q_F 157 s v σ = some (nI 0, σ') := by
  obtain ⟨hR, h14, hos, h24, hd⟩ := h
  have hL := hR.1.1
  have hpL := hR.2.1
  refine ⟨q_up (q_up (q_up σ 163 (2 * O.length) s) 163 (2 * O.length + 1) v) 157 14 (nI (O.length + 1)), ⟨hR.fr (by rw [z_upO (by omega), z_upO (by omega), z_upO (by omega)]) (fun a ha => by rw [z_upK (by omega), z_upO (by omega), z_upO (by omega)]), z_upS, ⟨?_, zl_os_up hos (fun i hi => ?_)⟩, ?_, hd⟩, ⟨fun o o1 o2 => by rw [z_upO o1, z_upO o2, z_upO o2], fun a a1 _ _ _ _ _ _ _ => by rw [z_upK a1, z_upO (by omega), z_upO (by omega)]⟩, ?_⟩
  · have e1 : q_up (q_up (q_up σ 163 (2 * O.length) s) 163 (2 * O.length + 1) v) 157 14 (nI (O.length + 1)) 163 (2 * O.length) = s := by
      rw [z_upO (by omega), z_upK (by omega)]; exact z_upS
    have e2 : q_up (q_up (q_up σ 163 (2 * O.length) s) 163 (2 * O.length + 1) v) 157 14 (nI (O.length + 1)) 163 (2 * O.length + 1) = v := by
      rw [z_upO (by omega)]; exact z_upS
    rw [e1, e2]
    exact hx
  · rw [z_upO (by omega), z_upK (by omega), z_upK (by omega)]
  · rw [z_upK (by omega), z_upO (by omega), z_upO (by omega)]; exact h24
  · unfold f_X12_lay
    generalize O.length = m at *
    simp (disch := omega) only [h14, ↓reduceIte, ↓p_ld, ↓p_st, ↓p_nm, ↓p_nS, ↓p_jn, ↓p_call, ↓p_callv, ↓p_dv, ↓p_rem, h_ldE, h_stE, h_nmE, h_nSE, h_callE, h_callvE, h_dvE, h_remE, if_true, if_false, z_upS, z_upO, z_upK, nI_add, z_mul, z_sub, z_div, Nat.add_zero, Nat.mul_zero, Nat.zero_add, Nat.sub_zero, Nat.zero_mul, z_ltT, z_ltF, z_leT, z_leF, z_eqT, z_eqF, z_inT, z_clT, not_true_eq_false, not_false_eq_true, eq_self, true_or, or_true, z_m_lt, z_m_le, z_lt_m, z_le_m, z_eq_m, z_m_eq, z_rz0, z_rz1, z_m_add, z_of, r_157_0, r_157_1, r_157_2, r_157_3, r_157_6, r_157_7, r_157_8, r_157_9, r_157_10, r_157_11, r_157_27, r_157_28, r_157_29, r_157_30, ↓z_m1, l_0, l_1, l_2, l_3, l_4, l_5, l_6, l_7, l_8, l_9, l_10, l_11, l_12, l_13, l_14, l_15, l_16, l_17, l_18, l_19, l_20, l_21, l_22, l_23, l_24, l_25, l_26, l_27, l_28, l_29, l_30, l_31, l_32, l_33, l_34, l_35, l_36, l_37, l_38, l_39, l_40, l_41, l_42, l_43, l_44, l_45, l_46, l_47, l_48, l_49, l_50, l_51, l_52, l_53, l_54, l_55, l_56, l_57, l_59, l_60, l_61, l_62, l_63, l_64, l_65, l_80, l_86, l_87, l_88, l_89, l_90, l_91, l_92, l_93, l_94, l_95, l_97, l_99, l_100, l_107, l_119, l_122, l_124, l_129, l_140, l_141, l_142, l_143, l_144, l_145, l_147, l_150, l_159, l_160, l_161, l_162, l_205, l_253, l_255, l_256, l_269, l_305, l_380, l_399, l_400, l_420, l_430, l_516, l_600, l_720, l_820, l_905, l_921, l_937, l_953, l_970, l_999, l_1000, l_1790, l_4096, l_9999, l_1000000]
theorem m_nextL {p d : Nat} {T : zt_T} {O : List (Nat × Nat)} {σ : q_Sto} (h : zl_R σ T p O d) : ∃ σ', zl_R σ' T (zt_nx T p) O d ∧ zl_fR σ σ' ∧ f_X12_next0 q_F 157 σ = some (nI 0, σ') := by
  obtain ⟨hR, h14, hos, h24, hd⟩ := h
  obtain ⟨σ', b1, b2, b3, b4⟩ := m_nextR hR
  exact ⟨σ', ⟨b3, by rw [b2 14 (by omega) (by omega) (by omega) (by omega)]; exact h14, by rw [b1 163 (by omega)]; exact hos, by rw [b2 24 (by omega) (by omega) (by omega) (by omega)]; exact h24, hd⟩, zl_fR.next b1 b2, b4⟩
theorem zl_st_n {v : Int32} : z_st1 (nI 0) v (nI 0) v := Or.inl ⟨rfl, rfl, rfl⟩
theorem zl_st_f {f : Nat} {v : Int32} (h : f < 10) : z_st1 (nI 1) (nI f) (nI (f+1)) v := Or.inr (Or.inl ⟨f, h, rfl, rfl, rfl⟩)
theorem zl_st_p {d : Nat} (h1 : 1 ≤ d) (h2 : d < 10000) : z_st1 (nI 2) (nI d) (nI 26) (nI d) := Or.inr (Or.inr (Or.inl ⟨d, h1, h2, rfl, rfl, rfl, rfl⟩))
theorem zl_st_o {x s : Nat} {a v : Int32} (h : (x = 3 ∧ s = 25) ∨ (x = 4 ∧ s = 23) ∨ (x = 5 ∧ s = 24) ∨ (x = 6 ∧ s = 27) ∨ (x = 7 ∧ s = 28) ∨ (x = 8 ∧ s = 29) ∨ (x = 9 ∧ s = 30) ∨ (x = 10 ∧ s = 31) ∨ (x = 11 ∧ s = 32)) : z_st1 (nI x) a (nI s) v := by
  unfold z_st1
  rcases h with ⟨rfl, rfl⟩ | ⟨rfl, rfl⟩ | ⟨rfl, rfl⟩ | ⟨rfl, rfl⟩ | ⟨rfl, rfl⟩ | ⟨rfl, rfl⟩ | ⟨rfl, rfl⟩ | ⟨rfl, rfl⟩ | ⟨rfl, rfl⟩ <;> simp
theorem zl_R.lt {p d : Nat} {T : zt_T} {O : List (Nat × Nat)} {σ : q_Sto} (h : zl_R σ T p O d) (hl : O.length ≤ p) (hg : zt_cd 0 T p ≠ 0) : O.length < 400 ∧ p ≤ T.2 ∧ p < zt_nx T p ∧ zt_nx T p ≤ T.2 := by
  have hL := h.1.1.1
  have hpL := h.1.2.1
  have := zt_go (k := 0) (by omega) hpL hg
  omega
theorem m_unit {p d : Nat} {T : zt_T} {O : List (Nat × Nat)} {σ : q_Sto} (h : zl_R σ T p O d) (hl : O.length ≤ p) : zl_RG (f_X12_unit q_F 157 σ) σ T O d (zl_m T 7 p) ∨ zl_RB (f_X12_unit q_F 157 σ) σ (zl_e T 7 p) := by
  have hR := h.1
  have hL := hR.1.1
  have hpL := hR.2.1
  have ht := m_tok hR
  have hc162 := zt_cd_r (k := 0) (T := T) (p := p) (by omega)
  by_cases q2 : zt_cd 0 T p = 2
  · have hv := m_nV hR q2
    have hm := zl_u_num hpL q2
    obtain ⟨l1, -, -, -⟩ := h.lt hl (by omega)
    have ew := z_w_out (c := zt_cd 0 T p) (lo := 41) (hi := 50) (by omega) (by omega) (Or.inl (by omega)) (by omega)
    obtain ⟨σ1, a1, a2, a3⟩ := m_layR (x := (0, zt_va T p)) (s := nI 0) (v := nI (zt_va T p)) h zl_st_n l1
    obtain ⟨σ2, b1, b2, b3⟩ := m_nextL a1
    refine Or.inl ⟨[(0, zt_va T p)], zt_nx T p, σ2, ?_, hm, b1, a2.trans b2⟩
    rw [q2] at ht ew
    unfold f_X12_unit
    generalize zt_va T p = v at *
    simp (disch := omega) only [ht, m_isIn, ew, hv, a3, b3, ↓reduceIte, ↓p_ld, ↓p_st, ↓p_nm, ↓p_nS, ↓p_jn, ↓p_call, ↓p_callv, ↓p_dv, ↓p_rem, h_ldE, h_stE, h_nmE, h_nSE, h_callE, h_callvE, h_dvE, h_remE, if_true, if_false, z_upS, z_upO, z_upK, nI_add, z_mul, z_sub, z_div, Nat.add_zero, Nat.mul_zero, Nat.zero_add, Nat.sub_zero, Nat.zero_mul, z_ltT, z_ltF, z_leT, z_leF, z_eqT, z_eqF, z_inT, z_clT, not_true_eq_false, not_false_eq_true, eq_self, true_or, or_true, z_m_lt, z_m_le, z_lt_m, z_le_m, z_eq_m, z_m_eq, z_rz0, z_rz1, z_m_add, z_of, r_157_0, r_157_1, r_157_2, r_157_3, r_157_6, r_157_7, r_157_8, r_157_9, r_157_10, r_157_11, r_157_27, r_157_28, r_157_29, r_157_30, ↓z_m1, l_0, l_1, l_2, l_3, l_4, l_5, l_6, l_7, l_8, l_9, l_10, l_11, l_12, l_13, l_14, l_15, l_16, l_17, l_18, l_19, l_20, l_21, l_22, l_23, l_24, l_25, l_26, l_27, l_28, l_29, l_30, l_31, l_32, l_33, l_34, l_35, l_36, l_37, l_38, l_39, l_40, l_41, l_42, l_43, l_44, l_45, l_46, l_47, l_48, l_49, l_50, l_51, l_52, l_53, l_54, l_55, l_56, l_57, l_59, l_60, l_61, l_62, l_63, l_64, l_65, l_80, l_86, l_87, l_88, l_89, l_90, l_91, l_92, l_93, l_94, l_95, l_97, l_99, l_100, l_107, l_119, l_122, l_124, l_129, l_140, l_141, l_142, l_143, l_144, l_145, l_147, l_150, l_159, l_160, l_161, l_162, l_205, l_253, l_255, l_256, l_269, l_305, l_380, l_399, l_400, l_420, l_430, l_516, l_600, l_720, l_820, l_905, l_921, l_937, l_953, l_970, l_999, l_1000, l_1790, l_4096, l_9999, l_1000000]
  · by_cases qf : 41 ≤ zt_cd 0 T p ∧ zt_cd 0 T p ≤ 50
    · have hm := zl_u_fact hpL qf
      obtain ⟨l1, -, -, -⟩ := h.lt hl (by omega)
      have ew := z_w_in qf.1 qf.2 (by omega)
      obtain ⟨σ1, a1, a2, a3⟩ := m_layR (x := (1, zt_cd 0 T p - 41)) (s := nI (zt_cd 0 T p - 41 + 1)) (v := σ 157 20) h (zl_st_f (by omega)) l1
      obtain ⟨σ2, b1, b2, b3⟩ := m_nextL a1
      refine Or.inl ⟨[(1, zt_cd 0 T p - 41)], zt_nx T p, σ2, ?_, hm, b1, a2.trans b2⟩
      have e40 : nI (zt_cd 0 T p) - nI 40 = nI (zt_cd 0 T p - 41 + 1) := by
        rw [z_sub (by omega)]
        congr 1; omega
      have hlo : 41 ≤ zt_cd 0 T p := qf.1
      unfold f_X12_unit
      generalize zt_cd 0 T p - 41 + 1 = w at *
      generalize zt_cd 0 T p = c at *
      simp (disch := omega) only [ht, m_isIn, ew, e40, a3, b3, ↓reduceIte, ↓p_ld, ↓p_st, ↓p_nm, ↓p_nS, ↓p_jn, ↓p_call, ↓p_callv, ↓p_dv, ↓p_rem, h_ldE, h_stE, h_nmE, h_nSE, h_callE, h_callvE, h_dvE, h_remE, if_true, if_false, z_upS, z_upO, z_upK, nI_add, z_mul, z_sub, z_div, Nat.add_zero, Nat.mul_zero, Nat.zero_add, Nat.sub_zero, Nat.zero_mul, z_ltT, z_ltF, z_leT, z_leF, z_eqT, z_eqF, z_inT, z_clT, not_true_eq_false, not_false_eq_true, eq_self, true_or, or_true, z_m_lt, z_m_le, z_lt_m, z_le_m, z_eq_m, z_m_eq, z_rz0, z_rz1, z_m_add, z_of, r_157_0, r_157_1, r_157_2, r_157_3, r_157_6, r_157_7, r_157_8, r_157_9, r_157_10, r_157_11, r_157_27, r_157_28, r_157_29, r_157_30, ↓z_m1, l_0, l_1, l_2, l_3, l_4, l_5, l_6, l_7, l_8, l_9, l_10, l_11, l_12, l_13, l_14, l_15, l_16, l_17, l_18, l_19, l_20, l_21, l_22, l_23, l_24, l_25, l_26, l_27, l_28, l_29, l_30, l_31, l_32, l_33, l_34, l_35, l_36, l_37, l_38, l_39, l_40, l_41, l_42, l_43, l_44, l_45, l_46, l_47, l_48, l_49, l_50, l_51, l_52, l_53, l_54, l_55, l_56, l_57, l_59, l_60, l_61, l_62, l_63, l_64, l_65, l_80, l_86, l_87, l_88, l_89, l_90, l_91, l_92, l_93, l_94, l_95, l_97, l_99, l_100, l_107, l_119, l_122, l_124, l_129, l_140, l_141, l_142, l_143, l_144, l_145, l_147, l_150, l_159, l_160, l_161, l_162, l_205, l_253, l_255, l_256, l_269, l_305, l_380, l_399, l_400, l_420, l_430, l_516, l_600, l_720, l_820, l_905, l_921, l_937, l_953, l_970, l_999, l_1000, l_1790, l_4096, l_9999, l_1000000]
    · have he := zl_u_bad q2 qf
      have ew := z_w_out (c := zt_cd 0 T p) (lo := 41) (hi := 50) (by omega) (by omega) (by omega) (by omega)
      obtain ⟨σ', e1, e2, e3, e4, e5⟩ := m_badR (f := 1) h (zl_fR.refl σ) he
      refine Or.inr ⟨1, _, σ', ?_, e2, e3, e4, e5⟩
      unfold f_X12_unit
      generalize zt_cd 0 T p = c at *
      simp (disch := omega) only [ht, m_isIn, ew, e1, ↓reduceIte, ↓p_ld, ↓p_st, ↓p_nm, ↓p_nS, ↓p_jn, ↓p_call, ↓p_callv, ↓p_dv, ↓p_rem, h_ldE, h_stE, h_nmE, h_nSE, h_callE, h_callvE, h_dvE, h_remE, if_true, if_false, z_upS, z_upO, z_upK, nI_add, z_mul, z_sub, z_div, Nat.add_zero, Nat.mul_zero, Nat.zero_add, Nat.sub_zero, Nat.zero_mul, z_ltT, z_ltF, z_leT, z_leF, z_eqT, z_eqF, z_inT, z_clT, not_true_eq_false, not_false_eq_true, eq_self, true_or, or_true, z_m_lt, z_m_le, z_lt_m, z_le_m, z_eq_m, z_m_eq, z_rz0, z_rz1, z_m_add, z_of, r_157_0, r_157_1, r_157_2, r_157_3, r_157_6, r_157_7, r_157_8, r_157_9, r_157_10, r_157_11, r_157_27, r_157_28, r_157_29, r_157_30, ↓z_m1, l_0, l_1, l_2, l_3, l_4, l_5, l_6, l_7, l_8, l_9, l_10, l_11, l_12, l_13, l_14, l_15, l_16, l_17, l_18, l_19, l_20, l_21, l_22, l_23, l_24, l_25, l_26, l_27, l_28, l_29, l_30, l_31, l_32, l_33, l_34, l_35, l_36, l_37, l_38, l_39, l_40, l_41, l_42, l_43, l_44, l_45, l_46, l_47, l_48, l_49, l_50, l_51, l_52, l_53, l_54, l_55, l_56, l_57, l_59, l_60, l_61, l_62, l_63, l_64, l_65, l_80, l_86, l_87, l_88, l_89, l_90, l_91, l_92, l_93, l_94, l_95, l_97, l_99, l_100, l_107, l_119, l_122, l_124, l_129, l_140, l_141, l_142, l_143, l_144, l_145, l_147, l_150, l_159, l_160, l_161, l_162, l_205, l_253, l_255, l_256, l_269, l_305, l_380, l_399, l_400, l_420, l_430, l_516, l_600, l_720, l_820, l_905, l_921, l_937, l_953, l_970, l_999, l_1000, l_1790, l_4096, l_9999, l_1000000]
theorem m_prod_L {p0 d : Nat} {T : zt_T} {O : List (Nat × Nat)} : ∀ f p c (σ : q_Sto), T.2 < p + f → zl_m T 6 p0 c p → O.length ≤ p0 → zl_R σ T p (c ++ O) d →
    zl_RG (f_X12_product_L9 q_F 157 f σ) σ T O d (fun c q => zl_m T 6 p0 c q ∧ zt_cd 0 T q ≠ 142 ∧ zt_cd 0 T q ≠ 147) ∨ zl_RB (f_X12_product_L9 q_F 157 f σ) σ (zl_e T 6 p0) := by
  intro f
  induction f with
  | zero =>
    intro p c σ hf hm hl hR
    have := hR.1.2.1
    omega
  | succ f ih =>
    intro p c σ hf hm hl hR
    have ht := m_tok hR.1
    have hc162 := zt_cd_r (k := 0) (T := T) (p := p) (by omega)
    have hlen : (c ++ O).length ≤ p := by
      have := hm.1.2.2.1
      rw [List.length_append]; omega
    by_cases q42 : zt_cd 0 T p = 142
    · obtain ⟨l1, l2, l3, l4⟩ := hR.lt hlen (by omega)
      obtain ⟨σ1, a1, a2, a3⟩ := m_nextL hR
      rw [q42] at ht
      rcases m_unit a1 (by omega) with ⟨u, q, σ2, e, hu, b1, b2⟩ | ⟨ff, q, σ2, e, hu, b1, b2, b3⟩
      · have hj := zl_m_join hm (Or.inl ⟨rfl, q42⟩) rfl hu
        have hul := hu.1.2.2.1
        have huq := hu.1.2.1
        have hup := hu.1.1
        have hTL := hR.1.1.1
        have hlen2 : (u ++ (c ++ O)).length < 400 := by
          rw [List.length_append]; omega
        obtain ⟨σ3, c1, c2, c3⟩ := m_layR (x := (3, 0)) (s := nI 25) (v := nI 0) b1 (zl_st_o (Or.inl ⟨rfl, rfl⟩)) hlen2
        have c1 : zl_R σ3 T q (((3, 0) :: (u ++ c)) ++ O) d := by
          rw [List.cons_append, List.append_assoc]; exact c1
        have hfin : f_X12_product_L9 q_F 157 (f+1) σ = f_X12_product_L9 q_F 157 f σ3 := by
          rw [f_X12_product_L9]
          simp (disch := omega) only [ht, a3, e, c3, ↓reduceIte, ↓p_ld, ↓p_st, ↓p_nm, ↓p_nS, ↓p_jn, ↓p_call, ↓p_callv, ↓p_dv, ↓p_rem, h_ldE, h_stE, h_nmE, h_nSE, h_callE, h_callvE, h_dvE, h_remE, if_true, if_false, z_upS, z_upO, z_upK, nI_add, z_mul, z_sub, z_div, Nat.add_zero, Nat.mul_zero, Nat.zero_add, Nat.sub_zero, Nat.zero_mul, z_ltT, z_ltF, z_leT, z_leF, z_eqT, z_eqF, z_inT, z_clT, not_true_eq_false, not_false_eq_true, eq_self, true_or, or_true, z_m_lt, z_m_le, z_lt_m, z_le_m, z_eq_m, z_m_eq, z_rz0, z_rz1, z_m_add, z_of, r_157_0, r_157_1, r_157_2, r_157_3, r_157_6, r_157_7, r_157_8, r_157_9, r_157_10, r_157_11, r_157_27, r_157_28, r_157_29, r_157_30, ↓z_m1, l_0, l_1, l_2, l_3, l_4, l_5, l_6, l_7, l_8, l_9, l_10, l_11, l_12, l_13, l_14, l_15, l_16, l_17, l_18, l_19, l_20, l_21, l_22, l_23, l_24, l_25, l_26, l_27, l_28, l_29, l_30, l_31, l_32, l_33, l_34, l_35, l_36, l_37, l_38, l_39, l_40, l_41, l_42, l_43, l_44, l_45, l_46, l_47, l_48, l_49, l_50, l_51, l_52, l_53, l_54, l_55, l_56, l_57, l_59, l_60, l_61, l_62, l_63, l_64, l_65, l_80, l_86, l_87, l_88, l_89, l_90, l_91, l_92, l_93, l_94, l_95, l_97, l_99, l_100, l_107, l_119, l_122, l_124, l_129, l_140, l_141, l_142, l_143, l_144, l_145, l_147, l_150, l_159, l_160, l_161, l_162, l_205, l_253, l_255, l_256, l_269, l_305, l_380, l_399, l_400, l_420, l_430, l_516, l_600, l_720, l_820, l_905, l_921, l_937, l_953, l_970, l_999, l_1000, l_1790, l_4096, l_9999, l_1000000]
        have hfr := a2.trans (b2.trans c2)
        rw [hfin]
        rcases ih q _ σ3 (by omega) hj hl c1 with ⟨c', q', σ', g1, g2, g3, g4⟩ | ⟨ff, q', σ', g1, g2, g3, g4, g5⟩
        · exact Or.inl ⟨c', q', σ', g1, g2, g3, hfr.trans g4⟩
        · exact Or.inr ⟨ff, q', σ', g1, g2, g3, g4, hfr.trans g5⟩
      · have hj := zl_m_joinE hm (Or.inl ⟨rfl, q42⟩) rfl hu
        refine Or.inr ⟨ff, q, σ2, ?_, hj, b1, b2, a2.trans b3⟩
        rw [f_X12_product_L9]
        simp (disch := omega) only [ht, a3, e, ↓reduceIte, ↓p_ld, ↓p_st, ↓p_nm, ↓p_nS, ↓p_jn, ↓p_call, ↓p_callv, ↓p_dv, ↓p_rem, h_ldE, h_stE, h_nmE, h_nSE, h_callE, h_callvE, h_dvE, h_remE, if_true, if_false, z_upS, z_upO, z_upK, nI_add, z_mul, z_sub, z_div, Nat.add_zero, Nat.mul_zero, Nat.zero_add, Nat.sub_zero, Nat.zero_mul, z_ltT, z_ltF, z_leT, z_leF, z_eqT, z_eqF, z_inT, z_clT, not_true_eq_false, not_false_eq_true, eq_self, true_or, or_true, z_m_lt, z_m_le, z_lt_m, z_le_m, z_eq_m, z_m_eq, z_rz0, z_rz1, z_m_add, z_of, r_157_0, r_157_1, r_157_2, r_157_3, r_157_6, r_157_7, r_157_8, r_157_9, r_157_10, r_157_11, r_157_27, r_157_28, r_157_29, r_157_30, ↓z_m1, l_0, l_1, l_2, l_3, l_4, l_5, l_6, l_7, l_8, l_9, l_10, l_11, l_12, l_13, l_14, l_15, l_16, l_17, l_18, l_19, l_20, l_21, l_22, l_23, l_24, l_25, l_26, l_27, l_28, l_29, l_30, l_31, l_32, l_33, l_34, l_35, l_36, l_37, l_38, l_39, l_40, l_41, l_42, l_43, l_44, l_45, l_46, l_47, l_48, l_49, l_50, l_51, l_52, l_53, l_54, l_55, l_56, l_57, l_59, l_60, l_61, l_62, l_63, l_64, l_65, l_80, l_86, l_87, l_88, l_89, l_90, l_91, l_92, l_93, l_94, l_95, l_97, l_99, l_100, l_107, l_119, l_122, l_124, l_129, l_140, l_141, l_142, l_143, l_144, l_145, l_147, l_150, l_159, l_160, l_161, l_162, l_205, l_253, l_255, l_256, l_269, l_305, l_380, l_399, l_400, l_420, l_430, l_516, l_600, l_720, l_820, l_905, l_921, l_937, l_953, l_970, l_999, l_1000, l_1790, l_4096, l_9999, l_1000000]
    · by_cases q47 : zt_cd 0 T p = 147
      · obtain ⟨l1, l2, l3, l4⟩ := hR.lt hlen (by omega)
        obtain ⟨σ1, a1, a2, a3⟩ := m_nextL hR
        rw [q47] at ht
        have ht1 := m_tok a1.1
        have hc1 := zt_cd_r (k := 0) (T := T) (p := zt_nx T p) (by omega)
        by_cases q2 : zt_cd 0 T (zt_nx T p) = 2
        · have hv := m_nV a1.1 q2
          have hvl := zt_va_lt (k := 0) (by omega) l4 q2
          rw [q2] at ht1
          by_cases q0 : zt_va T (zt_nx T p) = 0
          · have hE := zl_m_partE2 hm q47 q2 q0
            obtain ⟨σ', e1, e2, e3, e4, e5⟩ := m_badR (f := 2) a1 a2 hE
            refine Or.inr ⟨2, _, σ', ?_, e2, e3, e4, e5⟩
            rw [q0] at hv
            rw [f_X12_product_L9]
            simp (disch := omega) only [ht, a3, ht1, hv, e1, ↓reduceIte, ↓p_ld, ↓p_st, ↓p_nm, ↓p_nS, ↓p_jn, ↓p_call, ↓p_callv, ↓p_dv, ↓p_rem, h_ldE, h_stE, h_nmE, h_nSE, h_callE, h_callvE, h_dvE, h_remE, if_true, if_false, z_upS, z_upO, z_upK, nI_add, z_mul, z_sub, z_div, Nat.add_zero, Nat.mul_zero, Nat.zero_add, Nat.sub_zero, Nat.zero_mul, z_ltT, z_ltF, z_leT, z_leF, z_eqT, z_eqF, z_inT, z_clT, not_true_eq_false, not_false_eq_true, eq_self, true_or, or_true, z_m_lt, z_m_le, z_lt_m, z_le_m, z_eq_m, z_m_eq, z_rz0, z_rz1, z_m_add, z_of, r_157_0, r_157_1, r_157_2, r_157_3, r_157_6, r_157_7, r_157_8, r_157_9, r_157_10, r_157_11, r_157_27, r_157_28, r_157_29, r_157_30, ↓z_m1, l_0, l_1, l_2, l_3, l_4, l_5, l_6, l_7, l_8, l_9, l_10, l_11, l_12, l_13, l_14, l_15, l_16, l_17, l_18, l_19, l_20, l_21, l_22, l_23, l_24, l_25, l_26, l_27, l_28, l_29, l_30, l_31, l_32, l_33, l_34, l_35, l_36, l_37, l_38, l_39, l_40, l_41, l_42, l_43, l_44, l_45, l_46, l_47, l_48, l_49, l_50, l_51, l_52, l_53, l_54, l_55, l_56, l_57, l_59, l_60, l_61, l_62, l_63, l_64, l_65, l_80, l_86, l_87, l_88, l_89, l_90, l_91, l_92, l_93, l_94, l_95, l_97, l_99, l_100, l_107, l_119, l_122, l_124, l_129, l_140, l_141, l_142, l_143, l_144, l_145, l_147, l_150, l_159, l_160, l_161, l_162, l_205, l_253, l_255, l_256, l_269, l_305, l_380, l_399, l_400, l_420, l_430, l_516, l_600, l_720, l_820, l_905, l_921, l_937, l_953, l_970, l_999, l_1000, l_1790, l_4096, l_9999, l_1000000]
          · have hj := zl_m_part hm q47 q2 q0
            obtain ⟨σ2, b1, b2, b3⟩ := m_nextL a1
            obtain ⟨l5, l6, l7, l8⟩ := a1.lt (by omega) (by omega)
            obtain ⟨σ3, c1, c2, c3⟩ := m_layR (x := (2, zt_va T (zt_nx T p))) (s := nI 26) (v := nI (zt_va T (zt_nx T p))) b1 (zl_st_p (by omega) hvl) l1
            have hfin : f_X12_product_L9 q_F 157 (f+1) σ = f_X12_product_L9 q_F 157 f σ3 := by
              rw [f_X12_product_L9]
              generalize zt_va T (zt_nx T p) = v at *
              simp (disch := omega) only [ht, a3, ht1, hv, b3, c3, ↓reduceIte, ↓p_ld, ↓p_st, ↓p_nm, ↓p_nS, ↓p_jn, ↓p_call, ↓p_callv, ↓p_dv, ↓p_rem, h_ldE, h_stE, h_nmE, h_nSE, h_callE, h_callvE, h_dvE, h_remE, if_true, if_false, z_upS, z_upO, z_upK, nI_add, z_mul, z_sub, z_div, Nat.add_zero, Nat.mul_zero, Nat.zero_add, Nat.sub_zero, Nat.zero_mul, z_ltT, z_ltF, z_leT, z_leF, z_eqT, z_eqF, z_inT, z_clT, not_true_eq_false, not_false_eq_true, eq_self, true_or, or_true, z_m_lt, z_m_le, z_lt_m, z_le_m, z_eq_m, z_m_eq, z_rz0, z_rz1, z_m_add, z_of, r_157_0, r_157_1, r_157_2, r_157_3, r_157_6, r_157_7, r_157_8, r_157_9, r_157_10, r_157_11, r_157_27, r_157_28, r_157_29, r_157_30, ↓z_m1, l_0, l_1, l_2, l_3, l_4, l_5, l_6, l_7, l_8, l_9, l_10, l_11, l_12, l_13, l_14, l_15, l_16, l_17, l_18, l_19, l_20, l_21, l_22, l_23, l_24, l_25, l_26, l_27, l_28, l_29, l_30, l_31, l_32, l_33, l_34, l_35, l_36, l_37, l_38, l_39, l_40, l_41, l_42, l_43, l_44, l_45, l_46, l_47, l_48, l_49, l_50, l_51, l_52, l_53, l_54, l_55, l_56, l_57, l_59, l_60, l_61, l_62, l_63, l_64, l_65, l_80, l_86, l_87, l_88, l_89, l_90, l_91, l_92, l_93, l_94, l_95, l_97, l_99, l_100, l_107, l_119, l_122, l_124, l_129, l_140, l_141, l_142, l_143, l_144, l_145, l_147, l_150, l_159, l_160, l_161, l_162, l_205, l_253, l_255, l_256, l_269, l_305, l_380, l_399, l_400, l_420, l_430, l_516, l_600, l_720, l_820, l_905, l_921, l_937, l_953, l_970, l_999, l_1000, l_1790, l_4096, l_9999, l_1000000]
            have hfr := a2.trans (b2.trans c2)
            rw [hfin]
            rcases ih _ _ σ3 (by omega) hj hl c1 with ⟨c', q', σ', g1, g2, g3, g4⟩ | ⟨ff, q', σ', g1, g2, g3, g4, g5⟩
            · exact Or.inl ⟨c', q', σ', g1, g2, g3, hfr.trans g4⟩
            · exact Or.inr ⟨ff, q', σ', g1, g2, g3, g4, hfr.trans g5⟩
        · have hE := zl_m_partE1 hm q47 q2
          obtain ⟨σ', e1, e2, e3, e4, e5⟩ := m_badR (f := 1) a1 a2 hE
          refine Or.inr ⟨1, _, σ', ?_, e2, e3, e4, e5⟩
          rw [f_X12_product_L9]
          generalize zt_cd 0 T (zt_nx T p) = c1 at *
          simp (disch := omega) only [ht, a3, ht1, e1, ↓reduceIte, ↓p_ld, ↓p_st, ↓p_nm, ↓p_nS, ↓p_jn, ↓p_call, ↓p_callv, ↓p_dv, ↓p_rem, h_ldE, h_stE, h_nmE, h_nSE, h_callE, h_callvE, h_dvE, h_remE, if_true, if_false, z_upS, z_upO, z_upK, nI_add, z_mul, z_sub, z_div, Nat.add_zero, Nat.mul_zero, Nat.zero_add, Nat.sub_zero, Nat.zero_mul, z_ltT, z_ltF, z_leT, z_leF, z_eqT, z_eqF, z_inT, z_clT, not_true_eq_false, not_false_eq_true, eq_self, true_or, or_true, z_m_lt, z_m_le, z_lt_m, z_le_m, z_eq_m, z_m_eq, z_rz0, z_rz1, z_m_add, z_of, r_157_0, r_157_1, r_157_2, r_157_3, r_157_6, r_157_7, r_157_8, r_157_9, r_157_10, r_157_11, r_157_27, r_157_28, r_157_29, r_157_30, ↓z_m1, l_0, l_1, l_2, l_3, l_4, l_5, l_6, l_7, l_8, l_9, l_10, l_11, l_12, l_13, l_14, l_15, l_16, l_17, l_18, l_19, l_20, l_21, l_22, l_23, l_24, l_25, l_26, l_27, l_28, l_29, l_30, l_31, l_32, l_33, l_34, l_35, l_36, l_37, l_38, l_39, l_40, l_41, l_42, l_43, l_44, l_45, l_46, l_47, l_48, l_49, l_50, l_51, l_52, l_53, l_54, l_55, l_56, l_57, l_59, l_60, l_61, l_62, l_63, l_64, l_65, l_80, l_86, l_87, l_88, l_89, l_90, l_91, l_92, l_93, l_94, l_95, l_97, l_99, l_100, l_107, l_119, l_122, l_124, l_129, l_140, l_141, l_142, l_143, l_144, l_145, l_147, l_150, l_159, l_160, l_161, l_162, l_205, l_253, l_255, l_256, l_269, l_305, l_380, l_399, l_400, l_420, l_430, l_516, l_600, l_720, l_820, l_905, l_921, l_937, l_953, l_970, l_999, l_1000, l_1790, l_4096, l_9999, l_1000000]
      · refine Or.inl ⟨c, p, σ, ?_, ⟨hm, q42, q47⟩, hR, zl_fR.refl σ⟩
        rw [f_X12_product_L9]
        generalize zt_cd 0 T p = c1 at *
        simp (disch := omega) only [ht, ↓reduceIte, ↓p_ld, ↓p_st, ↓p_nm, ↓p_nS, ↓p_jn, ↓p_call, ↓p_callv, ↓p_dv, ↓p_rem, h_ldE, h_stE, h_nmE, h_nSE, h_callE, h_callvE, h_dvE, h_remE, if_true, if_false, z_upS, z_upO, z_upK, nI_add, z_mul, z_sub, z_div, Nat.add_zero, Nat.mul_zero, Nat.zero_add, Nat.sub_zero, Nat.zero_mul, z_ltT, z_ltF, z_leT, z_leF, z_eqT, z_eqF, z_inT, z_clT, not_true_eq_false, not_false_eq_true, eq_self, true_or, or_true, z_m_lt, z_m_le, z_lt_m, z_le_m, z_eq_m, z_m_eq, z_rz0, z_rz1, z_m_add, z_of, r_157_0, r_157_1, r_157_2, r_157_3, r_157_6, r_157_7, r_157_8, r_157_9, r_157_10, r_157_11, r_157_27, r_157_28, r_157_29, r_157_30, ↓z_m1, l_0, l_1, l_2, l_3, l_4, l_5, l_6, l_7, l_8, l_9, l_10, l_11, l_12, l_13, l_14, l_15, l_16, l_17, l_18, l_19, l_20, l_21, l_22, l_23, l_24, l_25, l_26, l_27, l_28, l_29, l_30, l_31, l_32, l_33, l_34, l_35, l_36, l_37, l_38, l_39, l_40, l_41, l_42, l_43, l_44, l_45, l_46, l_47, l_48, l_49, l_50, l_51, l_52, l_53, l_54, l_55, l_56, l_57, l_59, l_60, l_61, l_62, l_63, l_64, l_65, l_80, l_86, l_87, l_88, l_89, l_90, l_91, l_92, l_93, l_94, l_95, l_97, l_99, l_100, l_107, l_119, l_122, l_124, l_129, l_140, l_141, l_142, l_143, l_144, l_145, l_147, l_150, l_159, l_160, l_161, l_162, l_205, l_253, l_255, l_256, l_269, l_305, l_380, l_399, l_400, l_420, l_430, l_516, l_600, l_720, l_820, l_905, l_921, l_937, l_953, l_970, l_999, l_1000, l_1790, l_4096, l_9999, l_1000000]
theorem m_prod {p d : Nat} {T : zt_T} {O : List (Nat × Nat)} {σ : q_Sto} (h : zl_R σ T p O d) (hl : O.length ≤ p) : zl_RG (f_X12_product q_F 157 σ) σ T O d (fun c q => zl_m T 6 p c q ∧ zt_cd 0 T q ≠ 142 ∧ zt_cd 0 T q ≠ 147) ∨ zl_RB (f_X12_product q_F 157 σ) σ (zl_e T 6 p) := by
  have hL := h.1.1.1
  have hF : q_F = 20000 := rfl
  rcases m_unit h hl with ⟨u, q, σ1, e, hu, b1, b2⟩ | ⟨ff, q, σ1, e, hu, b1, b2, b3⟩
  · have hfin : f_X12_product q_F 157 σ = f_X12_product_L9 q_F 157 q_F σ1 := by
      unfold f_X12_product
      simp (disch := omega) only [e, ↓reduceIte, ↓p_ld, ↓p_st, ↓p_nm, ↓p_nS, ↓p_jn, ↓p_call, ↓p_callv, ↓p_dv, ↓p_rem, h_ldE, h_stE, h_nmE, h_nSE, h_callE, h_callvE, h_dvE, h_remE, if_true, if_false, z_upS, z_upO, z_upK, nI_add, z_mul, z_sub, z_div, Nat.add_zero, Nat.mul_zero, Nat.zero_add, Nat.sub_zero, Nat.zero_mul, z_ltT, z_ltF, z_leT, z_leF, z_eqT, z_eqF, z_inT, z_clT, not_true_eq_false, not_false_eq_true, eq_self, true_or, or_true, z_m_lt, z_m_le, z_lt_m, z_le_m, z_eq_m, z_m_eq, z_rz0, z_rz1, z_m_add, z_of, r_157_0, r_157_1, r_157_2, r_157_3, r_157_6, r_157_7, r_157_8, r_157_9, r_157_10, r_157_11, r_157_27, r_157_28, r_157_29, r_157_30, ↓z_m1, l_0, l_1, l_2, l_3, l_4, l_5, l_6, l_7, l_8, l_9, l_10, l_11, l_12, l_13, l_14, l_15, l_16, l_17, l_18, l_19, l_20, l_21, l_22, l_23, l_24, l_25, l_26, l_27, l_28, l_29, l_30, l_31, l_32, l_33, l_34, l_35, l_36, l_37, l_38, l_39, l_40, l_41, l_42, l_43, l_44, l_45, l_46, l_47, l_48, l_49, l_50, l_51, l_52, l_53, l_54, l_55, l_56, l_57, l_59, l_60, l_61, l_62, l_63, l_64, l_65, l_80, l_86, l_87, l_88, l_89, l_90, l_91, l_92, l_93, l_94, l_95, l_97, l_99, l_100, l_107, l_119, l_122, l_124, l_129, l_140, l_141, l_142, l_143, l_144, l_145, l_147, l_150, l_159, l_160, l_161, l_162, l_205, l_253, l_255, l_256, l_269, l_305, l_380, l_399, l_400, l_420, l_430, l_516, l_600, l_720, l_820, l_905, l_921, l_937, l_953, l_970, l_999, l_1000, l_1790, l_4096, l_9999, l_1000000]
    rw [hfin]
    rcases m_prod_L q_F q u σ1 (by omega) hu.weak hl b1 with ⟨c', q', σ', g1, g2, g3, g4⟩ | ⟨ff, q', σ', g1, g2, g3, g4, g5⟩
    · exact Or.inl ⟨c', q', σ', g1, g2, g3, b2.trans g4⟩
    · exact Or.inr ⟨ff, q', σ', g1, g2, g3, g4, b2.trans g5⟩
  · refine Or.inr ⟨ff, q, σ1, ?_, hu.weak, b1, b2, b3⟩
    unfold f_X12_product
    simp (disch := omega) only [e, ↓reduceIte, ↓p_ld, ↓p_st, ↓p_nm, ↓p_nS, ↓p_jn, ↓p_call, ↓p_callv, ↓p_dv, ↓p_rem, h_ldE, h_stE, h_nmE, h_nSE, h_callE, h_callvE, h_dvE, h_remE, if_true, if_false, z_upS, z_upO, z_upK, nI_add, z_mul, z_sub, z_div, Nat.add_zero, Nat.mul_zero, Nat.zero_add, Nat.sub_zero, Nat.zero_mul, z_ltT, z_ltF, z_leT, z_leF, z_eqT, z_eqF, z_inT, z_clT, not_true_eq_false, not_false_eq_true, eq_self, true_or, or_true, z_m_lt, z_m_le, z_lt_m, z_le_m, z_eq_m, z_m_eq, z_rz0, z_rz1, z_m_add, z_of, r_157_0, r_157_1, r_157_2, r_157_3, r_157_6, r_157_7, r_157_8, r_157_9, r_157_10, r_157_11, r_157_27, r_157_28, r_157_29, r_157_30, ↓z_m1, l_0, l_1, l_2, l_3, l_4, l_5, l_6, l_7, l_8, l_9, l_10, l_11, l_12, l_13, l_14, l_15, l_16, l_17, l_18, l_19, l_20, l_21, l_22, l_23, l_24, l_25, l_26, l_27, l_28, l_29, l_30, l_31, l_32, l_33, l_34, l_35, l_36, l_37, l_38, l_39, l_40, l_41, l_42, l_43, l_44, l_45, l_46, l_47, l_48, l_49, l_50, l_51, l_52, l_53, l_54, l_55, l_56, l_57, l_59, l_60, l_61, l_62, l_63, l_64, l_65, l_80, l_86, l_87, l_88, l_89, l_90, l_91, l_92, l_93, l_94, l_95, l_97, l_99, l_100, l_107, l_119, l_122, l_124, l_129, l_140, l_141, l_142, l_143, l_144, l_145, l_147, l_150, l_159, l_160, l_161, l_162, l_205, l_253, l_255, l_256, l_269, l_305, l_380, l_399, l_400, l_420, l_430, l_516, l_600, l_720, l_820, l_905, l_921, l_937, l_953, l_970, l_999, l_1000, l_1790, l_4096, l_9999, l_1000000]
theorem m_sum_L {p0 d : Nat} {T : zt_T} {O : List (Nat × Nat)} : ∀ f p c (σ : q_Sto), T.2 < p + f → zl_m T 5 p0 c p → zt_cd 0 T p ≠ 142 ∧ zt_cd 0 T p ≠ 147 → O.length ≤ p0 → zl_R σ T p (c ++ O) d →
    zl_RG (f_X12_sumUp_L9 q_F 157 f σ) σ T O d (fun c q => zl_m T 5 p0 c q ∧ ¬ zl_ar (zt_cd 0 T q)) ∨ zl_RB (f_X12_sumUp_L9 q_F 157 f σ) σ (zl_e T 5 p0) := by
  intro f
  induction f with
  | zero =>
    intro p c σ hf hm _ hl hR
    have := hR.1.2.1
    omega
  | succ f ih =>
    intro p c σ hf hm hx hl hR
    have ht := m_tok hR.1
    have hc162 := zt_cd_r (k := 0) (T := T) (p := p) (by omega)
    have hlen : (c ++ O).length ≤ p := by
      have := hm.1.2.2.1
      rw [List.length_append]; omega
    by_cases qs : zt_cd 0 T p = 143 ∨ zt_cd 0 T p = 145
    · obtain ⟨x, s, hxs, hrk, hx1, hst⟩ : ∃ x s, ((x = 4 ∧ s = 23 ∧ zt_cd 0 T p = 143) ∨ (x = 5 ∧ s = 24 ∧ zt_cd 0 T p = 145)) ∧ zl_rk x = 5 ∧ ((x = 3 ∧ zt_cd 0 T p = 142) ∨ (x = 4 ∧ zt_cd 0 T p = 143) ∨ (x = 5 ∧ zt_cd 0 T p = 145)) ∧ ∀ a v, z_st1 (nI x) a (nI s) v := by
        rcases qs with h | h
        · exact ⟨4, 23, Or.inl ⟨rfl, rfl, h⟩, rfl, Or.inr (Or.inl ⟨rfl, h⟩), fun a v => zl_st_o (Or.inr (Or.inl ⟨rfl, rfl⟩))⟩
        · exact ⟨5, 24, Or.inr ⟨rfl, rfl, h⟩, rfl, Or.inr (Or.inr ⟨rfl, h⟩), fun a v => zl_st_o (Or.inr (Or.inr (Or.inl ⟨rfl, rfl⟩)))⟩
      obtain ⟨l1, l2, l3, l4⟩ := hR.lt hlen (by omega)
      obtain ⟨σ1, a1, a2, a3⟩ := m_nextL hR
      rcases m_prod a1 (by omega) with ⟨u, q, σ2, e, ⟨hu, hq⟩, b1, b2⟩ | ⟨ff, q, σ2, e, hu, b1, b2, b3⟩
      · have hj := zl_m_join (x := x) hm hx1 hrk hu
        have hul := hu.1.2.2.1
        have huq := hu.1.2.1
        have hup := hu.1.1
        have hTL := hR.1.1.1
        have hlen2 : (u ++ (c ++ O)).length < 400 := by
          rw [List.length_append]; omega
        obtain ⟨σ3, c1, c2, c3⟩ := m_layR (x := (x, 0)) (s := nI s) (v := nI 0) b1 (hst _ _) hlen2
        have c1 : zl_R σ3 T q (((x, 0) :: (u ++ c)) ++ O) d := by
          rw [List.cons_append, List.append_assoc]; exact c1
        have hfin : f_X12_sumUp_L9 q_F 157 (f+1) σ = f_X12_sumUp_L9 q_F 157 f σ3 := by
          rw [f_X12_sumUp_L9]
          rcases hxs with ⟨rfl, rfl, hq⟩ | ⟨rfl, rfl, hq⟩
          · rw [hq] at ht
            simp (disch := omega) only [ht, a3, e, c3, ↓reduceIte, ↓p_ld, ↓p_st, ↓p_nm, ↓p_nS, ↓p_jn, ↓p_call, ↓p_callv, ↓p_dv, ↓p_rem, h_ldE, h_stE, h_nmE, h_nSE, h_callE, h_callvE, h_dvE, h_remE, if_true, if_false, z_upS, z_upO, z_upK, nI_add, z_mul, z_sub, z_div, Nat.add_zero, Nat.mul_zero, Nat.zero_add, Nat.sub_zero, Nat.zero_mul, z_ltT, z_ltF, z_leT, z_leF, z_eqT, z_eqF, z_inT, z_clT, not_true_eq_false, not_false_eq_true, eq_self, true_or, or_true, z_m_lt, z_m_le, z_lt_m, z_le_m, z_eq_m, z_m_eq, z_rz0, z_rz1, z_m_add, z_of, r_157_0, r_157_1, r_157_2, r_157_3, r_157_6, r_157_7, r_157_8, r_157_9, r_157_10, r_157_11, r_157_27, r_157_28, r_157_29, r_157_30, ↓z_m1, l_0, l_1, l_2, l_3, l_4, l_5, l_6, l_7, l_8, l_9, l_10, l_11, l_12, l_13, l_14, l_15, l_16, l_17, l_18, l_19, l_20, l_21, l_22, l_23, l_24, l_25, l_26, l_27, l_28, l_29, l_30, l_31, l_32, l_33, l_34, l_35, l_36, l_37, l_38, l_39, l_40, l_41, l_42, l_43, l_44, l_45, l_46, l_47, l_48, l_49, l_50, l_51, l_52, l_53, l_54, l_55, l_56, l_57, l_59, l_60, l_61, l_62, l_63, l_64, l_65, l_80, l_86, l_87, l_88, l_89, l_90, l_91, l_92, l_93, l_94, l_95, l_97, l_99, l_100, l_107, l_119, l_122, l_124, l_129, l_140, l_141, l_142, l_143, l_144, l_145, l_147, l_150, l_159, l_160, l_161, l_162, l_205, l_253, l_255, l_256, l_269, l_305, l_380, l_399, l_400, l_420, l_430, l_516, l_600, l_720, l_820, l_905, l_921, l_937, l_953, l_970, l_999, l_1000, l_1790, l_4096, l_9999, l_1000000]
          · rw [hq] at ht
            simp (disch := omega) only [ht, a3, e, c3, ↓reduceIte, ↓p_ld, ↓p_st, ↓p_nm, ↓p_nS, ↓p_jn, ↓p_call, ↓p_callv, ↓p_dv, ↓p_rem, h_ldE, h_stE, h_nmE, h_nSE, h_callE, h_callvE, h_dvE, h_remE, if_true, if_false, z_upS, z_upO, z_upK, nI_add, z_mul, z_sub, z_div, Nat.add_zero, Nat.mul_zero, Nat.zero_add, Nat.sub_zero, Nat.zero_mul, z_ltT, z_ltF, z_leT, z_leF, z_eqT, z_eqF, z_inT, z_clT, not_true_eq_false, not_false_eq_true, eq_self, true_or, or_true, z_m_lt, z_m_le, z_lt_m, z_le_m, z_eq_m, z_m_eq, z_rz0, z_rz1, z_m_add, z_of, r_157_0, r_157_1, r_157_2, r_157_3, r_157_6, r_157_7, r_157_8, r_157_9, r_157_10, r_157_11, r_157_27, r_157_28, r_157_29, r_157_30, ↓z_m1, l_0, l_1, l_2, l_3, l_4, l_5, l_6, l_7, l_8, l_9, l_10, l_11, l_12, l_13, l_14, l_15, l_16, l_17, l_18, l_19, l_20, l_21, l_22, l_23, l_24, l_25, l_26, l_27, l_28, l_29, l_30, l_31, l_32, l_33, l_34, l_35, l_36, l_37, l_38, l_39, l_40, l_41, l_42, l_43, l_44, l_45, l_46, l_47, l_48, l_49, l_50, l_51, l_52, l_53, l_54, l_55, l_56, l_57, l_59, l_60, l_61, l_62, l_63, l_64, l_65, l_80, l_86, l_87, l_88, l_89, l_90, l_91, l_92, l_93, l_94, l_95, l_97, l_99, l_100, l_107, l_119, l_122, l_124, l_129, l_140, l_141, l_142, l_143, l_144, l_145, l_147, l_150, l_159, l_160, l_161, l_162, l_205, l_253, l_255, l_256, l_269, l_305, l_380, l_399, l_400, l_420, l_430, l_516, l_600, l_720, l_820, l_905, l_921, l_937, l_953, l_970, l_999, l_1000, l_1790, l_4096, l_9999, l_1000000]
        have hfr := a2.trans (b2.trans c2)
        rw [hfin]
        rcases ih q _ σ3 (by omega) hj hq hl c1 with ⟨c', q', σ', g1, g2, g3, g4⟩ | ⟨ff, q', σ', g1, g2, g3, g4, g5⟩
        · exact Or.inl ⟨c', q', σ', g1, g2, g3, hfr.trans g4⟩
        · exact Or.inr ⟨ff, q', σ', g1, g2, g3, g4, hfr.trans g5⟩
      · have hj := zl_m_joinE (x := x) hm hx1 hrk hu
        refine Or.inr ⟨ff, q, σ2, ?_, hj, b1, b2, a2.trans b3⟩
        rw [f_X12_sumUp_L9]
        rcases hxs with ⟨rfl, rfl, hq⟩ | ⟨rfl, rfl, hq⟩
        · rw [hq] at ht
          simp (disch := omega) only [ht, a3, e, ↓reduceIte, ↓p_ld, ↓p_st, ↓p_nm, ↓p_nS, ↓p_jn, ↓p_call, ↓p_callv, ↓p_dv, ↓p_rem, h_ldE, h_stE, h_nmE, h_nSE, h_callE, h_callvE, h_dvE, h_remE, if_true, if_false, z_upS, z_upO, z_upK, nI_add, z_mul, z_sub, z_div, Nat.add_zero, Nat.mul_zero, Nat.zero_add, Nat.sub_zero, Nat.zero_mul, z_ltT, z_ltF, z_leT, z_leF, z_eqT, z_eqF, z_inT, z_clT, not_true_eq_false, not_false_eq_true, eq_self, true_or, or_true, z_m_lt, z_m_le, z_lt_m, z_le_m, z_eq_m, z_m_eq, z_rz0, z_rz1, z_m_add, z_of, r_157_0, r_157_1, r_157_2, r_157_3, r_157_6, r_157_7, r_157_8, r_157_9, r_157_10, r_157_11, r_157_27, r_157_28, r_157_29, r_157_30, ↓z_m1, l_0, l_1, l_2, l_3, l_4, l_5, l_6, l_7, l_8, l_9, l_10, l_11, l_12, l_13, l_14, l_15, l_16, l_17, l_18, l_19, l_20, l_21, l_22, l_23, l_24, l_25, l_26, l_27, l_28, l_29, l_30, l_31, l_32, l_33, l_34, l_35, l_36, l_37, l_38, l_39, l_40, l_41, l_42, l_43, l_44, l_45, l_46, l_47, l_48, l_49, l_50, l_51, l_52, l_53, l_54, l_55, l_56, l_57, l_59, l_60, l_61, l_62, l_63, l_64, l_65, l_80, l_86, l_87, l_88, l_89, l_90, l_91, l_92, l_93, l_94, l_95, l_97, l_99, l_100, l_107, l_119, l_122, l_124, l_129, l_140, l_141, l_142, l_143, l_144, l_145, l_147, l_150, l_159, l_160, l_161, l_162, l_205, l_253, l_255, l_256, l_269, l_305, l_380, l_399, l_400, l_420, l_430, l_516, l_600, l_720, l_820, l_905, l_921, l_937, l_953, l_970, l_999, l_1000, l_1790, l_4096, l_9999, l_1000000]
        · rw [hq] at ht
          simp (disch := omega) only [ht, a3, e, ↓reduceIte, ↓p_ld, ↓p_st, ↓p_nm, ↓p_nS, ↓p_jn, ↓p_call, ↓p_callv, ↓p_dv, ↓p_rem, h_ldE, h_stE, h_nmE, h_nSE, h_callE, h_callvE, h_dvE, h_remE, if_true, if_false, z_upS, z_upO, z_upK, nI_add, z_mul, z_sub, z_div, Nat.add_zero, Nat.mul_zero, Nat.zero_add, Nat.sub_zero, Nat.zero_mul, z_ltT, z_ltF, z_leT, z_leF, z_eqT, z_eqF, z_inT, z_clT, not_true_eq_false, not_false_eq_true, eq_self, true_or, or_true, z_m_lt, z_m_le, z_lt_m, z_le_m, z_eq_m, z_m_eq, z_rz0, z_rz1, z_m_add, z_of, r_157_0, r_157_1, r_157_2, r_157_3, r_157_6, r_157_7, r_157_8, r_157_9, r_157_10, r_157_11, r_157_27, r_157_28, r_157_29, r_157_30, ↓z_m1, l_0, l_1, l_2, l_3, l_4, l_5, l_6, l_7, l_8, l_9, l_10, l_11, l_12, l_13, l_14, l_15, l_16, l_17, l_18, l_19, l_20, l_21, l_22, l_23, l_24, l_25, l_26, l_27, l_28, l_29, l_30, l_31, l_32, l_33, l_34, l_35, l_36, l_37, l_38, l_39, l_40, l_41, l_42, l_43, l_44, l_45, l_46, l_47, l_48, l_49, l_50, l_51, l_52, l_53, l_54, l_55, l_56, l_57, l_59, l_60, l_61, l_62, l_63, l_64, l_65, l_80, l_86, l_87, l_88, l_89, l_90, l_91, l_92, l_93, l_94, l_95, l_97, l_99, l_100, l_107, l_119, l_122, l_124, l_129, l_140, l_141, l_142, l_143, l_144, l_145, l_147, l_150, l_159, l_160, l_161, l_162, l_205, l_253, l_255, l_256, l_269, l_305, l_380, l_399, l_400, l_420, l_430, l_516, l_600, l_720, l_820, l_905, l_921, l_937, l_953, l_970, l_999, l_1000, l_1790, l_4096, l_9999, l_1000000]
    · refine Or.inl ⟨c, p, σ, ?_, ⟨hm, by unfold zl_ar; omega⟩, hR, zl_fR.refl σ⟩
      rw [f_X12_sumUp_L9]
      generalize zt_cd 0 T p = c1 at *
      simp (disch := omega) only [ht, ↓reduceIte, ↓p_ld, ↓p_st, ↓p_nm, ↓p_nS, ↓p_jn, ↓p_call, ↓p_callv, ↓p_dv, ↓p_rem, h_ldE, h_stE, h_nmE, h_nSE, h_callE, h_callvE, h_dvE, h_remE, if_true, if_false, z_upS, z_upO, z_upK, nI_add, z_mul, z_sub, z_div, Nat.add_zero, Nat.mul_zero, Nat.zero_add, Nat.sub_zero, Nat.zero_mul, z_ltT, z_ltF, z_leT, z_leF, z_eqT, z_eqF, z_inT, z_clT, not_true_eq_false, not_false_eq_true, eq_self, true_or, or_true, z_m_lt, z_m_le, z_lt_m, z_le_m, z_eq_m, z_m_eq, z_rz0, z_rz1, z_m_add, z_of, r_157_0, r_157_1, r_157_2, r_157_3, r_157_6, r_157_7, r_157_8, r_157_9, r_157_10, r_157_11, r_157_27, r_157_28, r_157_29, r_157_30, ↓z_m1, l_0, l_1, l_2, l_3, l_4, l_5, l_6, l_7, l_8, l_9, l_10, l_11, l_12, l_13, l_14, l_15, l_16, l_17, l_18, l_19, l_20, l_21, l_22, l_23, l_24, l_25, l_26, l_27, l_28, l_29, l_30, l_31, l_32, l_33, l_34, l_35, l_36, l_37, l_38, l_39, l_40, l_41, l_42, l_43, l_44, l_45, l_46, l_47, l_48, l_49, l_50, l_51, l_52, l_53, l_54, l_55, l_56, l_57, l_59, l_60, l_61, l_62, l_63, l_64, l_65, l_80, l_86, l_87, l_88, l_89, l_90, l_91, l_92, l_93, l_94, l_95, l_97, l_99, l_100, l_107, l_119, l_122, l_124, l_129, l_140, l_141, l_142, l_143, l_144, l_145, l_147, l_150, l_159, l_160, l_161, l_162, l_205, l_253, l_255, l_256, l_269, l_305, l_380, l_399, l_400, l_420, l_430, l_516, l_600, l_720, l_820, l_905, l_921, l_937, l_953, l_970, l_999, l_1000, l_1790, l_4096, l_9999, l_1000000]
theorem m_sum {p d : Nat} {T : zt_T} {O : List (Nat × Nat)} {σ : q_Sto} (h : zl_R σ T p O d) (hl : O.length ≤ p) : zl_RG (f_X12_sumUp q_F 157 σ) σ T O d (fun c q => zl_m T 5 p c q ∧ ¬ zl_ar (zt_cd 0 T q)) ∨ zl_RB (f_X12_sumUp q_F 157 σ) σ (zl_e T 5 p) := by
  have hL := h.1.1.1
  have hF : q_F = 20000 := rfl
  rcases m_prod h hl with ⟨u, q, σ1, e, ⟨hu, hq⟩, b1, b2⟩ | ⟨ff, q, σ1, e, hu, b1, b2, b3⟩
  · have hfin : f_X12_sumUp q_F 157 σ = f_X12_sumUp_L9 q_F 157 q_F σ1 := by
      unfold f_X12_sumUp
      simp (disch := omega) only [e, ↓reduceIte, ↓p_ld, ↓p_st, ↓p_nm, ↓p_nS, ↓p_jn, ↓p_call, ↓p_callv, ↓p_dv, ↓p_rem, h_ldE, h_stE, h_nmE, h_nSE, h_callE, h_callvE, h_dvE, h_remE, if_true, if_false, z_upS, z_upO, z_upK, nI_add, z_mul, z_sub, z_div, Nat.add_zero, Nat.mul_zero, Nat.zero_add, Nat.sub_zero, Nat.zero_mul, z_ltT, z_ltF, z_leT, z_leF, z_eqT, z_eqF, z_inT, z_clT, not_true_eq_false, not_false_eq_true, eq_self, true_or, or_true, z_m_lt, z_m_le, z_lt_m, z_le_m, z_eq_m, z_m_eq, z_rz0, z_rz1, z_m_add, z_of, r_157_0, r_157_1, r_157_2, r_157_3, r_157_6, r_157_7, r_157_8, r_157_9, r_157_10, r_157_11, r_157_27, r_157_28, r_157_29, r_157_30, ↓z_m1, l_0, l_1, l_2, l_3, l_4, l_5, l_6, l_7, l_8, l_9, l_10, l_11, l_12, l_13, l_14, l_15, l_16, l_17, l_18, l_19, l_20, l_21, l_22, l_23, l_24, l_25, l_26, l_27, l_28, l_29, l_30, l_31, l_32, l_33, l_34, l_35, l_36, l_37, l_38, l_39, l_40, l_41, l_42, l_43, l_44, l_45, l_46, l_47, l_48, l_49, l_50, l_51, l_52, l_53, l_54, l_55, l_56, l_57, l_59, l_60, l_61, l_62, l_63, l_64, l_65, l_80, l_86, l_87, l_88, l_89, l_90, l_91, l_92, l_93, l_94, l_95, l_97, l_99, l_100, l_107, l_119, l_122, l_124, l_129, l_140, l_141, l_142, l_143, l_144, l_145, l_147, l_150, l_159, l_160, l_161, l_162, l_205, l_253, l_255, l_256, l_269, l_305, l_380, l_399, l_400, l_420, l_430, l_516, l_600, l_720, l_820, l_905, l_921, l_937, l_953, l_970, l_999, l_1000, l_1790, l_4096, l_9999, l_1000000]
    rw [hfin]
    rcases m_sum_L q_F q u σ1 (by omega) hu.weak hq hl b1 with ⟨c', q', σ', g1, g2, g3, g4⟩ | ⟨ff, q', σ', g1, g2, g3, g4, g5⟩
    · exact Or.inl ⟨c', q', σ', g1, g2, g3, b2.trans g4⟩
    · exact Or.inr ⟨ff, q', σ', g1, g2, g3, g4, b2.trans g5⟩
  · refine Or.inr ⟨ff, q, σ1, ?_, hu.weak, b1, b2, b3⟩
    unfold f_X12_sumUp
    simp (disch := omega) only [e, ↓reduceIte, ↓p_ld, ↓p_st, ↓p_nm, ↓p_nS, ↓p_jn, ↓p_call, ↓p_callv, ↓p_dv, ↓p_rem, h_ldE, h_stE, h_nmE, h_nSE, h_callE, h_callvE, h_dvE, h_remE, if_true, if_false, z_upS, z_upO, z_upK, nI_add, z_mul, z_sub, z_div, Nat.add_zero, Nat.mul_zero, Nat.zero_add, Nat.sub_zero, Nat.zero_mul, z_ltT, z_ltF, z_leT, z_leF, z_eqT, z_eqF, z_inT, z_clT, not_true_eq_false, not_false_eq_true, eq_self, true_or, or_true, z_m_lt, z_m_le, z_lt_m, z_le_m, z_eq_m, z_m_eq, z_rz0, z_rz1, z_m_add, z_of, r_157_0, r_157_1, r_157_2, r_157_3, r_157_6, r_157_7, r_157_8, r_157_9, r_157_10, r_157_11, r_157_27, r_157_28, r_157_29, r_157_30, ↓z_m1, l_0, l_1, l_2, l_3, l_4, l_5, l_6, l_7, l_8, l_9, l_10, l_11, l_12, l_13, l_14, l_15, l_16, l_17, l_18, l_19, l_20, l_21, l_22, l_23, l_24, l_25, l_26, l_27, l_28, l_29, l_30, l_31, l_32, l_33, l_34, l_35, l_36, l_37, l_38, l_39, l_40, l_41, l_42, l_43, l_44, l_45, l_46, l_47, l_48, l_49, l_50, l_51, l_52, l_53, l_54, l_55, l_56, l_57, l_59, l_60, l_61, l_62, l_63, l_64, l_65, l_80, l_86, l_87, l_88, l_89, l_90, l_91, l_92, l_93, l_94, l_95, l_97, l_99, l_100, l_107, l_119, l_122, l_124, l_129, l_140, l_141, l_142, l_143, l_144, l_145, l_147, l_150, l_159, l_160, l_161, l_162, l_205, l_253, l_255, l_256, l_269, l_305, l_380, l_399, l_400, l_420, l_430, l_516, l_600, l_720, l_820, l_905, l_921, l_937, l_953, l_970, l_999, l_1000, l_1790, l_4096, l_9999, l_1000000]
/-- what one test of the reference does -/
def zl_OT (ot : q_Sto → Option (Int32 × q_Sto)) (T : zt_T) (d : Nat) : Prop := ∀ p O (σ : q_Sto), zl_R σ T p O d → O.length ≤ p → zl_RG (ot σ) σ T O d (fun c q => zl_te T p c q d) ∨ zl_RB (ot σ) σ (fun f q => zl_f T 4 p f q d)
theorem m_every_L {p0 d : Nat} {T : zt_T} {O : List (Nat × Nat)} {ot : q_Sto → Option (Int32 × q_Sto)} (hot : zl_OT ot T d) : ∀ f p c (σ : q_Sto), T.2 < p + f → zl_t T 2 p0 c p d → O.length ≤ p0 → zl_R σ T p (c ++ O) d →
    zl_RG (f_X12_every_L9 q_F ot 157 f σ) σ T O d (fun c q => zl_t T 2 p0 c q d ∧ zt_cd 0 T q ≠ 5) ∨ zl_RB (f_X12_every_L9 q_F ot 157 f σ) σ (fun f q => zl_f T 2 p0 f q d) := by
  intro f
  induction f with
  | zero =>
    intro p c σ hf hm hl hR
    have := hR.1.2.1
    omega
  | succ f ih =>
    intro p c σ hf hm hl hR
    have ht := m_tok hR.1
    have hc162 := zt_cd_r (k := 0) (T := T) (p := p) (by omega)
    have hlen : (c ++ O).length ≤ p := by
      have := hm.1.2.2.1
      rw [List.length_append]; omega
    by_cases q5 : zt_cd 0 T p = 5
    · obtain ⟨l1, l2, l3, l4⟩ := hR.lt hlen (by omega)
      obtain ⟨σ1, a1, a2, a3⟩ := m_nextL hR
      rw [q5] at ht
      rcases hot _ _ σ1 a1 (by omega) with ⟨u, q, σ2, e, hu, b1, b2⟩ | ⟨ff, q, σ2, e, hu, b1, b2, b3⟩
      · have hj := zl_t_and hm q5 hu
        have hul := hu.1.2.2.1
        have huq := hu.1.2.1
        have hup := hu.1.1
        have hTL := hR.1.1.1
        have hlen2 : (u ++ (c ++ O)).length < 400 := by
          rw [List.length_append]; omega
        obtain ⟨σ3, c1, c2, c3⟩ := m_layR (x := (10, 0)) (s := nI 31) (v := nI 0) b1 (zl_st_o (by simp)) hlen2
        have c1 : zl_R σ3 T q (((10, 0) :: (u ++ c)) ++ O) d := by
          rw [List.cons_append, List.append_assoc]; exact c1
        have hfin : f_X12_every_L9 q_F ot 157 (f+1) σ = f_X12_every_L9 q_F ot 157 f σ3 := by
          rw [f_X12_every_L9]
          simp (disch := omega) only [ht, a3, e, c3, ↓reduceIte, ↓p_ld, ↓p_st, ↓p_nm, ↓p_nS, ↓p_jn, ↓p_call, ↓p_callv, ↓p_dv, ↓p_rem, h_ldE, h_stE, h_nmE, h_nSE, h_callE, h_callvE, h_dvE, h_remE, if_true, if_false, z_upS, z_upO, z_upK, nI_add, z_mul, z_sub, z_div, Nat.add_zero, Nat.mul_zero, Nat.zero_add, Nat.sub_zero, Nat.zero_mul, z_ltT, z_ltF, z_leT, z_leF, z_eqT, z_eqF, z_inT, z_clT, not_true_eq_false, not_false_eq_true, eq_self, true_or, or_true, z_m_lt, z_m_le, z_lt_m, z_le_m, z_eq_m, z_m_eq, z_rz0, z_rz1, z_m_add, z_of, r_157_0, r_157_1, r_157_2, r_157_3, r_157_6, r_157_7, r_157_8, r_157_9, r_157_10, r_157_11, r_157_27, r_157_28, r_157_29, r_157_30, ↓z_m1, l_0, l_1, l_2, l_3, l_4, l_5, l_6, l_7, l_8, l_9, l_10, l_11, l_12, l_13, l_14, l_15, l_16, l_17, l_18, l_19, l_20, l_21, l_22, l_23, l_24, l_25, l_26, l_27, l_28, l_29, l_30, l_31, l_32, l_33, l_34, l_35, l_36, l_37, l_38, l_39, l_40, l_41, l_42, l_43, l_44, l_45, l_46, l_47, l_48, l_49, l_50, l_51, l_52, l_53, l_54, l_55, l_56, l_57, l_59, l_60, l_61, l_62, l_63, l_64, l_65, l_80, l_86, l_87, l_88, l_89, l_90, l_91, l_92, l_93, l_94, l_95, l_97, l_99, l_100, l_107, l_119, l_122, l_124, l_129, l_140, l_141, l_142, l_143, l_144, l_145, l_147, l_150, l_159, l_160, l_161, l_162, l_205, l_253, l_255, l_256, l_269, l_305, l_380, l_399, l_400, l_420, l_430, l_516, l_600, l_720, l_820, l_905, l_921, l_937, l_953, l_970, l_999, l_1000, l_1790, l_4096, l_9999, l_1000000]
        have hfr := a2.trans (b2.trans c2)
        rw [hfin]
        rcases ih q _ σ3 (by omega) hj hl c1 with ⟨c', q', σ', g1, g2, g3, g4⟩ | ⟨ff, q', σ', g1, g2, g3, g4, g5⟩
        · exact Or.inl ⟨c', q', σ', g1, g2, g3, hfr.trans g4⟩
        · exact Or.inr ⟨ff, q', σ', g1, g2, g3, g4, hfr.trans g5⟩
      · have hj := zl_t_andE hm q5 hu
        refine Or.inr ⟨ff, q, σ2, ?_, hj, b1, b2, a2.trans b3⟩
        rw [f_X12_every_L9]
        simp (disch := omega) only [ht, a3, e, ↓reduceIte, ↓p_ld, ↓p_st, ↓p_nm, ↓p_nS, ↓p_jn, ↓p_call, ↓p_callv, ↓p_dv, ↓p_rem, h_ldE, h_stE, h_nmE, h_nSE, h_callE, h_callvE, h_dvE, h_remE, if_true, if_false, z_upS, z_upO, z_upK, nI_add, z_mul, z_sub, z_div, Nat.add_zero, Nat.mul_zero, Nat.zero_add, Nat.sub_zero, Nat.zero_mul, z_ltT, z_ltF, z_leT, z_leF, z_eqT, z_eqF, z_inT, z_clT, not_true_eq_false, not_false_eq_true, eq_self, true_or, or_true, z_m_lt, z_m_le, z_lt_m, z_le_m, z_eq_m, z_m_eq, z_rz0, z_rz1, z_m_add, z_of, r_157_0, r_157_1, r_157_2, r_157_3, r_157_6, r_157_7, r_157_8, r_157_9, r_157_10, r_157_11, r_157_27, r_157_28, r_157_29, r_157_30, ↓z_m1, l_0, l_1, l_2, l_3, l_4, l_5, l_6, l_7, l_8, l_9, l_10, l_11, l_12, l_13, l_14, l_15, l_16, l_17, l_18, l_19, l_20, l_21, l_22, l_23, l_24, l_25, l_26, l_27, l_28, l_29, l_30, l_31, l_32, l_33, l_34, l_35, l_36, l_37, l_38, l_39, l_40, l_41, l_42, l_43, l_44, l_45, l_46, l_47, l_48, l_49, l_50, l_51, l_52, l_53, l_54, l_55, l_56, l_57, l_59, l_60, l_61, l_62, l_63, l_64, l_65, l_80, l_86, l_87, l_88, l_89, l_90, l_91, l_92, l_93, l_94, l_95, l_97, l_99, l_100, l_107, l_119, l_122, l_124, l_129, l_140, l_141, l_142, l_143, l_144, l_145, l_147, l_150, l_159, l_160, l_161, l_162, l_205, l_253, l_255, l_256, l_269, l_305, l_380, l_399, l_400, l_420, l_430, l_516, l_600, l_720, l_820, l_905, l_921, l_937, l_953, l_970, l_999, l_1000, l_1790, l_4096, l_9999, l_1000000]
    · refine Or.inl ⟨c, p, σ, ?_, ⟨hm, q5⟩, hR, zl_fR.refl σ⟩
      rw [f_X12_every_L9]
      generalize zt_cd 0 T p = c1 at *
      simp (disch := omega) only [ht, ↓reduceIte, ↓p_ld, ↓p_st, ↓p_nm, ↓p_nS, ↓p_jn, ↓p_call, ↓p_callv, ↓p_dv, ↓p_rem, h_ldE, h_stE, h_nmE, h_nSE, h_callE, h_callvE, h_dvE, h_remE, if_true, if_false, z_upS, z_upO, z_upK, nI_add, z_mul, z_sub, z_div, Nat.add_zero, Nat.mul_zero, Nat.zero_add, Nat.sub_zero, Nat.zero_mul, z_ltT, z_ltF, z_leT, z_leF, z_eqT, z_eqF, z_inT, z_clT, not_true_eq_false, not_false_eq_true, eq_self, true_or, or_true, z_m_lt, z_m_le, z_lt_m, z_le_m, z_eq_m, z_m_eq, z_rz0, z_rz1, z_m_add, z_of, r_157_0, r_157_1, r_157_2, r_157_3, r_157_6, r_157_7, r_157_8, r_157_9, r_157_10, r_157_11, r_157_27, r_157_28, r_157_29, r_157_30, ↓z_m1, l_0, l_1, l_2, l_3, l_4, l_5, l_6, l_7, l_8, l_9, l_10, l_11, l_12, l_13, l_14, l_15, l_16, l_17, l_18, l_19, l_20, l_21, l_22, l_23, l_24, l_25, l_26, l_27, l_28, l_29, l_30, l_31, l_32, l_33, l_34, l_35, l_36, l_37, l_38, l_39, l_40, l_41, l_42, l_43, l_44, l_45, l_46, l_47, l_48, l_49, l_50, l_51, l_52, l_53, l_54, l_55, l_56, l_57, l_59, l_60, l_61, l_62, l_63, l_64, l_65, l_80, l_86, l_87, l_88, l_89, l_90, l_91, l_92, l_93, l_94, l_95, l_97, l_99, l_100, l_107, l_119, l_122, l_124, l_129, l_140, l_141, l_142, l_143, l_144, l_145, l_147, l_150, l_159, l_160, l_161, l_162, l_205, l_253, l_255, l_256, l_269, l_305, l_380, l_399, l_400, l_420, l_430, l_516, l_600, l_720, l_820, l_905, l_921, l_937, l_953, l_970, l_999, l_1000, l_1790, l_4096, l_9999, l_1000000]
theorem m_every {p d : Nat} {T : zt_T} {O : List (Nat × Nat)} {σ : q_Sto} {ot : q_Sto → Option (Int32 × q_Sto)} (hot : zl_OT ot T d) (h : zl_R σ T p O d) (hl : O.length ≤ p) : zl_RG (f_X12_every q_F ot 157 σ) σ T O d (fun c q => zl_t T 2 p c q d ∧ zt_cd 0 T q ≠ 5) ∨ zl_RB (f_X12_every q_F ot 157 σ) σ (fun f q => zl_f T 2 p f q d) := by
  have hL := h.1.1.1
  have hF : q_F = 20000 := rfl
  rcases hot p O σ h hl with ⟨u, q, σ1, e, hu, b1, b2⟩ | ⟨ff, q, σ1, e, hu, b1, b2, b3⟩
  · have hfin : f_X12_every q_F ot 157 σ = f_X12_every_L9 q_F ot 157 q_F σ1 := by
      unfold f_X12_every
      simp (disch := omega) only [e, ↓reduceIte, ↓p_ld, ↓p_st, ↓p_nm, ↓p_nS, ↓p_jn, ↓p_call, ↓p_callv, ↓p_dv, ↓p_rem, h_ldE, h_stE, h_nmE, h_nSE, h_callE, h_callvE, h_dvE, h_remE, if_true, if_false, z_upS, z_upO, z_upK, nI_add, z_mul, z_sub, z_div, Nat.add_zero, Nat.mul_zero, Nat.zero_add, Nat.sub_zero, Nat.zero_mul, z_ltT, z_ltF, z_leT, z_leF, z_eqT, z_eqF, z_inT, z_clT, not_true_eq_false, not_false_eq_true, eq_self, true_or, or_true, z_m_lt, z_m_le, z_lt_m, z_le_m, z_eq_m, z_m_eq, z_rz0, z_rz1, z_m_add, z_of, r_157_0, r_157_1, r_157_2, r_157_3, r_157_6, r_157_7, r_157_8, r_157_9, r_157_10, r_157_11, r_157_27, r_157_28, r_157_29, r_157_30, ↓z_m1, l_0, l_1, l_2, l_3, l_4, l_5, l_6, l_7, l_8, l_9, l_10, l_11, l_12, l_13, l_14, l_15, l_16, l_17, l_18, l_19, l_20, l_21, l_22, l_23, l_24, l_25, l_26, l_27, l_28, l_29, l_30, l_31, l_32, l_33, l_34, l_35, l_36, l_37, l_38, l_39, l_40, l_41, l_42, l_43, l_44, l_45, l_46, l_47, l_48, l_49, l_50, l_51, l_52, l_53, l_54, l_55, l_56, l_57, l_59, l_60, l_61, l_62, l_63, l_64, l_65, l_80, l_86, l_87, l_88, l_89, l_90, l_91, l_92, l_93, l_94, l_95, l_97, l_99, l_100, l_107, l_119, l_122, l_124, l_129, l_140, l_141, l_142, l_143, l_144, l_145, l_147, l_150, l_159, l_160, l_161, l_162, l_205, l_253, l_255, l_256, l_269, l_305, l_380, l_399, l_400, l_420, l_430, l_516, l_600, l_720, l_820, l_905, l_921, l_937, l_953, l_970, l_999, l_1000, l_1790, l_4096, l_9999, l_1000000]
    rw [hfin]
    rcases m_every_L hot q_F q u σ1 (by omega) (zl_t2_of hu) hl b1 with ⟨c', q', σ', g1, g2, g3, g4⟩ | ⟨ff, q', σ', g1, g2, g3, g4, g5⟩
    · exact Or.inl ⟨c', q', σ', g1, g2, g3, b2.trans g4⟩
    · exact Or.inr ⟨ff, q', σ', g1, g2, g3, g4, b2.trans g5⟩
  · refine Or.inr ⟨ff, q, σ1, ?_, hu.weak (by omega), b1, b2, b3⟩
    unfold f_X12_every
    simp (disch := omega) only [e, ↓reduceIte, ↓p_ld, ↓p_st, ↓p_nm, ↓p_nS, ↓p_jn, ↓p_call, ↓p_callv, ↓p_dv, ↓p_rem, h_ldE, h_stE, h_nmE, h_nSE, h_callE, h_callvE, h_dvE, h_remE, if_true, if_false, z_upS, z_upO, z_upK, nI_add, z_mul, z_sub, z_div, Nat.add_zero, Nat.mul_zero, Nat.zero_add, Nat.sub_zero, Nat.zero_mul, z_ltT, z_ltF, z_leT, z_leF, z_eqT, z_eqF, z_inT, z_clT, not_true_eq_false, not_false_eq_true, eq_self, true_or, or_true, z_m_lt, z_m_le, z_lt_m, z_le_m, z_eq_m, z_m_eq, z_rz0, z_rz1, z_m_add, z_of, r_157_0, r_157_1, r_157_2, r_157_3, r_157_6, r_157_7, r_157_8, r_157_9, r_157_10, r_157_11, r_157_27, r_157_28, r_157_29, r_157_30, ↓z_m1, l_0, l_1, l_2, l_3, l_4, l_5, l_6, l_7, l_8, l_9, l_10, l_11, l_12, l_13, l_14, l_15, l_16, l_17, l_18, l_19, l_20, l_21, l_22, l_23, l_24, l_25, l_26, l_27, l_28, l_29, l_30, l_31, l_32, l_33, l_34, l_35, l_36, l_37, l_38, l_39, l_40, l_41, l_42, l_43, l_44, l_45, l_46, l_47, l_48, l_49, l_50, l_51, l_52, l_53, l_54, l_55, l_56, l_57, l_59, l_60, l_61, l_62, l_63, l_64, l_65, l_80, l_86, l_87, l_88, l_89, l_90, l_91, l_92, l_93, l_94, l_95, l_97, l_99, l_100, l_107, l_119, l_122, l_124, l_129, l_140, l_141, l_142, l_143, l_144, l_145, l_147, l_150, l_159, l_160, l_161, l_162, l_205, l_253, l_255, l_256, l_269, l_305, l_380, l_399, l_400, l_420, l_430, l_516, l_600, l_720, l_820, l_905, l_921, l_937, l_953, l_970, l_999, l_1000, l_1790, l_4096, l_9999, l_1000000]
theorem m_any_L {p0 d : Nat} {T : zt_T} {O : List (Nat × Nat)} {ot : q_Sto → Option (Int32 × q_Sto)} (hot : zl_OT ot T d) : ∀ f p c (σ : q_Sto), T.2 < p + f → zl_t T 1 p0 c p d → zt_cd 0 T p ≠ 5 → O.length ≤ p0 → zl_R σ T p (c ++ O) d →
    zl_RG (f_X12_any_L9 q_F ot 157 f σ) σ T O d (fun c q => zl_t T 1 p0 c q d ∧ zt_cd 0 T q ≠ 4 ∧ zt_cd 0 T q ≠ 5) ∨ zl_RB (f_X12_any_L9 q_F ot 157 f σ) σ (fun f q => zl_f T 1 p0 f q d) := by
  intro f
  induction f with
  | zero =>
    intro p c σ hf hm _ hl hR
    have := hR.1.2.1
    omega
  | succ f ih =>
    intro p c σ hf hm h5 hl hR
    have ht := m_tok hR.1
    have hc162 := zt_cd_r (k := 0) (T := T) (p := p) (by omega)
    have hlen : (c ++ O).length ≤ p := by
      have := hm.1.2.2.1
      rw [List.length_append]; omega
    by_cases q4 : zt_cd 0 T p = 4
    · obtain ⟨l1, l2, l3, l4⟩ := hR.lt hlen (by omega)
      obtain ⟨σ1, a1, a2, a3⟩ := m_nextL hR
      rw [q4] at ht
      rcases m_every hot a1 (by omega) with ⟨u, q, σ2, e, ⟨hu, hq⟩, b1, b2⟩ | ⟨ff, q, σ2, e, hu, b1, b2, b3⟩
      · have hj := zl_t_or hm q4 hu
        have hul := hu.1.2.2.1
        have huq := hu.1.2.1
        have hup := hu.1.1
        have hTL := hR.1.1.1
        have hlen2 : (u ++ (c ++ O)).length < 400 := by
          rw [List.length_append]; omega
        obtain ⟨σ3, c1, c2, c3⟩ := m_layR (x := (11, 0)) (s := nI 32) (v := nI 0) b1 (zl_st_o (by simp)) hlen2
        have c1 : zl_R σ3 T q (((11, 0) :: (u ++ c)) ++ O) d := by
          rw [List.cons_append, List.append_assoc]; exact c1
        have hfin : f_X12_any_L9 q_F ot 157 (f+1) σ = f_X12_any_L9 q_F ot 157 f σ3 := by
          rw [f_X12_any_L9]
          simp (disch := omega) only [ht, a3, e, c3, ↓reduceIte, ↓p_ld, ↓p_st, ↓p_nm, ↓p_nS, ↓p_jn, ↓p_call, ↓p_callv, ↓p_dv, ↓p_rem, h_ldE, h_stE, h_nmE, h_nSE, h_callE, h_callvE, h_dvE, h_remE, if_true, if_false, z_upS, z_upO, z_upK, nI_add, z_mul, z_sub, z_div, Nat.add_zero, Nat.mul_zero, Nat.zero_add, Nat.sub_zero, Nat.zero_mul, z_ltT, z_ltF, z_leT, z_leF, z_eqT, z_eqF, z_inT, z_clT, not_true_eq_false, not_false_eq_true, eq_self, true_or, or_true, z_m_lt, z_m_le, z_lt_m, z_le_m, z_eq_m, z_m_eq, z_rz0, z_rz1, z_m_add, z_of, r_157_0, r_157_1, r_157_2, r_157_3, r_157_6, r_157_7, r_157_8, r_157_9, r_157_10, r_157_11, r_157_27, r_157_28, r_157_29, r_157_30, ↓z_m1, l_0, l_1, l_2, l_3, l_4, l_5, l_6, l_7, l_8, l_9, l_10, l_11, l_12, l_13, l_14, l_15, l_16, l_17, l_18, l_19, l_20, l_21, l_22, l_23, l_24, l_25, l_26, l_27, l_28, l_29, l_30, l_31, l_32, l_33, l_34, l_35, l_36, l_37, l_38, l_39, l_40, l_41, l_42, l_43, l_44, l_45, l_46, l_47, l_48, l_49, l_50, l_51, l_52, l_53, l_54, l_55, l_56, l_57, l_59, l_60, l_61, l_62, l_63, l_64, l_65, l_80, l_86, l_87, l_88, l_89, l_90, l_91, l_92, l_93, l_94, l_95, l_97, l_99, l_100, l_107, l_119, l_122, l_124, l_129, l_140, l_141, l_142, l_143, l_144, l_145, l_147, l_150, l_159, l_160, l_161, l_162, l_205, l_253, l_255, l_256, l_269, l_305, l_380, l_399, l_400, l_420, l_430, l_516, l_600, l_720, l_820, l_905, l_921, l_937, l_953, l_970, l_999, l_1000, l_1790, l_4096, l_9999, l_1000000]
        have hfr := a2.trans (b2.trans c2)
        rw [hfin]
        rcases ih q _ σ3 (by omega) hj hq hl c1 with ⟨c', q', σ', g1, g2, g3, g4⟩ | ⟨ff, q', σ', g1, g2, g3, g4, g5⟩
        · exact Or.inl ⟨c', q', σ', g1, g2, g3, hfr.trans g4⟩
        · exact Or.inr ⟨ff, q', σ', g1, g2, g3, g4, hfr.trans g5⟩
      · have hj := zl_t_orE hm q4 hu
        refine Or.inr ⟨ff, q, σ2, ?_, hj, b1, b2, a2.trans b3⟩
        rw [f_X12_any_L9]
        simp (disch := omega) only [ht, a3, e, ↓reduceIte, ↓p_ld, ↓p_st, ↓p_nm, ↓p_nS, ↓p_jn, ↓p_call, ↓p_callv, ↓p_dv, ↓p_rem, h_ldE, h_stE, h_nmE, h_nSE, h_callE, h_callvE, h_dvE, h_remE, if_true, if_false, z_upS, z_upO, z_upK, nI_add, z_mul, z_sub, z_div, Nat.add_zero, Nat.mul_zero, Nat.zero_add, Nat.sub_zero, Nat.zero_mul, z_ltT, z_ltF, z_leT, z_leF, z_eqT, z_eqF, z_inT, z_clT, not_true_eq_false, not_false_eq_true, eq_self, true_or, or_true, z_m_lt, z_m_le, z_lt_m, z_le_m, z_eq_m, z_m_eq, z_rz0, z_rz1, z_m_add, z_of, r_157_0, r_157_1, r_157_2, r_157_3, r_157_6, r_157_7, r_157_8, r_157_9, r_157_10, r_157_11, r_157_27, r_157_28, r_157_29, r_157_30, ↓z_m1, l_0, l_1, l_2, l_3, l_4, l_5, l_6, l_7, l_8, l_9, l_10, l_11, l_12, l_13, l_14, l_15, l_16, l_17, l_18, l_19, l_20, l_21, l_22, l_23, l_24, l_25, l_26, l_27, l_28, l_29, l_30, l_31, l_32, l_33, l_34, l_35, l_36, l_37, l_38, l_39, l_40, l_41, l_42, l_43, l_44, l_45, l_46, l_47, l_48, l_49, l_50, l_51, l_52, l_53, l_54, l_55, l_56, l_57, l_59, l_60, l_61, l_62, l_63, l_64, l_65, l_80, l_86, l_87, l_88, l_89, l_90, l_91, l_92, l_93, l_94, l_95, l_97, l_99, l_100, l_107, l_119, l_122, l_124, l_129, l_140, l_141, l_142, l_143, l_144, l_145, l_147, l_150, l_159, l_160, l_161, l_162, l_205, l_253, l_255, l_256, l_269, l_305, l_380, l_399, l_400, l_420, l_430, l_516, l_600, l_720, l_820, l_905, l_921, l_937, l_953, l_970, l_999, l_1000, l_1790, l_4096, l_9999, l_1000000]
    · refine Or.inl ⟨c, p, σ, ?_, ⟨hm, q4, h5⟩, hR, zl_fR.refl σ⟩
      rw [f_X12_any_L9]
      generalize zt_cd 0 T p = c1 at *
      simp (disch := omega) only [ht, ↓reduceIte, ↓p_ld, ↓p_st, ↓p_nm, ↓p_nS, ↓p_jn, ↓p_call, ↓p_callv, ↓p_dv, ↓p_rem, h_ldE, h_stE, h_nmE, h_nSE, h_callE, h_callvE, h_dvE, h_remE, if_true, if_false, z_upS, z_upO, z_upK, nI_add, z_mul, z_sub, z_div, Nat.add_zero, Nat.mul_zero, Nat.zero_add, Nat.sub_zero, Nat.zero_mul, z_ltT, z_ltF, z_leT, z_leF, z_eqT, z_eqF, z_inT, z_clT, not_true_eq_false, not_false_eq_true, eq_self, true_or, or_true, z_m_lt, z_m_le, z_lt_m, z_le_m, z_eq_m, z_m_eq, z_rz0, z_rz1, z_m_add, z_of, r_157_0, r_157_1, r_157_2, r_157_3, r_157_6, r_157_7, r_157_8, r_157_9, r_157_10, r_157_11, r_157_27, r_157_28, r_157_29, r_157_30, ↓z_m1, l_0, l_1, l_2, l_3, l_4, l_5, l_6, l_7, l_8, l_9, l_10, l_11, l_12, l_13, l_14, l_15, l_16, l_17, l_18, l_19, l_20, l_21, l_22, l_23, l_24, l_25, l_26, l_27, l_28, l_29, l_30, l_31, l_32, l_33, l_34, l_35, l_36, l_37, l_38, l_39, l_40, l_41, l_42, l_43, l_44, l_45, l_46, l_47, l_48, l_49, l_50, l_51, l_52, l_53, l_54, l_55, l_56, l_57, l_59, l_60, l_61, l_62, l_63, l_64, l_65, l_80, l_86, l_87, l_88, l_89, l_90, l_91, l_92, l_93, l_94, l_95, l_97, l_99, l_100, l_107, l_119, l_122, l_124, l_129, l_140, l_141, l_142, l_143, l_144, l_145, l_147, l_150, l_159, l_160, l_161, l_162, l_205, l_253, l_255, l_256, l_269, l_305, l_380, l_399, l_400, l_420, l_430, l_516, l_600, l_720, l_820, l_905, l_921, l_937, l_953, l_970, l_999, l_1000, l_1790, l_4096, l_9999, l_1000000]
theorem m_any {p d : Nat} {T : zt_T} {O : List (Nat × Nat)} {σ : q_Sto} {ot : q_Sto → Option (Int32 × q_Sto)} (hot : zl_OT ot T d) (h : zl_R σ T p O d) (hl : O.length ≤ p) : zl_RG (f_X12_any q_F ot 157 σ) σ T O d (fun c q => zl_t T 1 p c q d ∧ zt_cd 0 T q ≠ 4 ∧ zt_cd 0 T q ≠ 5) ∨ zl_RB (f_X12_any q_F ot 157 σ) σ (fun f q => zl_f T 1 p f q d) := by
  have hL := h.1.1.1
  have hF : q_F = 20000 := rfl
  rcases m_every hot h hl with ⟨u, q, σ1, e, ⟨hu, hq⟩, b1, b2⟩ | ⟨ff, q, σ1, e, hu, b1, b2, b3⟩
  · have hfin : f_X12_any q_F ot 157 σ = f_X12_any_L9 q_F ot 157 q_F σ1 := by
      unfold f_X12_any
      simp (disch := omega) only [e, ↓reduceIte, ↓p_ld, ↓p_st, ↓p_nm, ↓p_nS, ↓p_jn, ↓p_call, ↓p_callv, ↓p_dv, ↓p_rem, h_ldE, h_stE, h_nmE, h_nSE, h_callE, h_callvE, h_dvE, h_remE, if_true, if_false, z_upS, z_upO, z_upK, nI_add, z_mul, z_sub, z_div, Nat.add_zero, Nat.mul_zero, Nat.zero_add, Nat.sub_zero, Nat.zero_mul, z_ltT, z_ltF, z_leT, z_leF, z_eqT, z_eqF, z_inT, z_clT, not_true_eq_false, not_false_eq_true, eq_self, true_or, or_true, z_m_lt, z_m_le, z_lt_m, z_le_m, z_eq_m, z_m_eq, z_rz0, z_rz1, z_m_add, z_of, r_157_0, r_157_1, r_157_2, r_157_3, r_157_6, r_157_7, r_157_8, r_157_9, r_157_10, r_157_11, r_157_27, r_157_28, r_157_29, r_157_30, ↓z_m1, l_0, l_1, l_2, l_3, l_4, l_5, l_6, l_7, l_8, l_9, l_10, l_11, l_12, l_13, l_14, l_15, l_16, l_17, l_18, l_19, l_20, l_21, l_22, l_23, l_24, l_25, l_26, l_27, l_28, l_29, l_30, l_31, l_32, l_33, l_34, l_35, l_36, l_37, l_38, l_39, l_40, l_41, l_42, l_43, l_44, l_45, l_46, l_47, l_48, l_49, l_50, l_51, l_52, l_53, l_54, l_55, l_56, l_57, l_59, l_60, l_61, l_62, l_63, l_64, l_65, l_80, l_86, l_87, l_88, l_89, l_90, l_91, l_92, l_93, l_94, l_95, l_97, l_99, l_100, l_107, l_119, l_122, l_124, l_129, l_140, l_141, l_142, l_143, l_144, l_145, l_147, l_150, l_159, l_160, l_161, l_162, l_205, l_253, l_255, l_256, l_269, l_305, l_380, l_399, l_400, l_420, l_430, l_516, l_600, l_720, l_820, l_905, l_921, l_937, l_953, l_970, l_999, l_1000, l_1790, l_4096, l_9999, l_1000000]
    rw [hfin]
    rcases m_any_L hot q_F q u σ1 (by omega) (zl_t1_of hu) hq hl b1 with ⟨c', q', σ', g1, g2, g3, g4⟩ | ⟨ff, q', σ', g1, g2, g3, g4, g5⟩
    · exact Or.inl ⟨c', q', σ', g1, g2, g3, b2.trans g4⟩
    · exact Or.inr ⟨ff, q', σ', g1, g2, g3, g4, b2.trans g5⟩
  · refine Or.inr ⟨ff, q, σ1, ?_, hu.weak (by omega), b1, b2, b3⟩
    unfold f_X12_any
    simp (disch := omega) only [e, ↓reduceIte, ↓p_ld, ↓p_st, ↓p_nm, ↓p_nS, ↓p_jn, ↓p_call, ↓p_callv, ↓p_dv, ↓p_rem, h_ldE, h_stE, h_nmE, h_nSE, h_callE, h_callvE, h_dvE, h_remE, if_true, if_false, z_upS, z_upO, z_upK, nI_add, z_mul, z_sub, z_div, Nat.add_zero, Nat.mul_zero, Nat.zero_add, Nat.sub_zero, Nat.zero_mul, z_ltT, z_ltF, z_leT, z_leF, z_eqT, z_eqF, z_inT, z_clT, not_true_eq_false, not_false_eq_true, eq_self, true_or, or_true, z_m_lt, z_m_le, z_lt_m, z_le_m, z_eq_m, z_m_eq, z_rz0, z_rz1, z_m_add, z_of, r_157_0, r_157_1, r_157_2, r_157_3, r_157_6, r_157_7, r_157_8, r_157_9, r_157_10, r_157_11, r_157_27, r_157_28, r_157_29, r_157_30, ↓z_m1, l_0, l_1, l_2, l_3, l_4, l_5, l_6, l_7, l_8, l_9, l_10, l_11, l_12, l_13, l_14, l_15, l_16, l_17, l_18, l_19, l_20, l_21, l_22, l_23, l_24, l_25, l_26, l_27, l_28, l_29, l_30, l_31, l_32, l_33, l_34, l_35, l_36, l_37, l_38, l_39, l_40, l_41, l_42, l_43, l_44, l_45, l_46, l_47, l_48, l_49, l_50, l_51, l_52, l_53, l_54, l_55, l_56, l_57, l_59, l_60, l_61, l_62, l_63, l_64, l_65, l_80, l_86, l_87, l_88, l_89, l_90, l_91, l_92, l_93, l_94, l_95, l_97, l_99, l_100, l_107, l_119, l_122, l_124, l_129, l_140, l_141, l_142, l_143, l_144, l_145, l_147, l_150, l_159, l_160, l_161, l_162, l_205, l_253, l_255, l_256, l_269, l_305, l_380, l_399, l_400, l_420, l_430, l_516, l_600, l_720, l_820, l_905, l_921, l_937, l_953, l_970, l_999, l_1000, l_1790, l_4096, l_9999, l_1000000]
theorem m_opens {p d : Nat} {T : zt_T} {O : List (Nat × Nat)} {σ : q_Sto} (h : zl_R σ T p O d) (hd : d < 8) : ∃ σ', zl_R σ' T (zt_nx T p) O (d+1) ∧ zl_fR σ σ' ∧ f_X12_opens q_F 157 σ = some (nI 1, σ') := by
  obtain ⟨hR, h14, hos, h24, hd8⟩ := h
  have h1 : zl_R (q_up σ 157 24 (nI (d+1))) T p O (d+1) := ⟨hR.fr (by rw [z_upO (by omega)]) (fun a ha => by rw [z_upK (by omega)]), by rw [z_upK (by omega)]; exact h14, by rw [z_upO (by omega)]; exact hos, z_upS, by omega⟩
  obtain ⟨σ1, a1, a2, a3⟩ := m_nextL h1
  refine ⟨σ1, a1, zl_fR.trans ⟨fun o o1 o2 => z_upO o1, fun a _ _ _ _ _ _ _ a8 => z_upK a8⟩ a2, ?_⟩
  unfold f_X12_opens
  simp (disch := omega) only [h24, a3, ↓reduceIte, ↓p_ld, ↓p_st, ↓p_nm, ↓p_nS, ↓p_jn, ↓p_call, ↓p_callv, ↓p_dv, ↓p_rem, h_ldE, h_stE, h_nmE, h_nSE, h_callE, h_callvE, h_dvE, h_remE, if_true, if_false, z_upS, z_upO, z_upK, nI_add, z_mul, z_sub, z_div, Nat.add_zero, Nat.mul_zero, Nat.zero_add, Nat.sub_zero, Nat.zero_mul, z_ltT, z_ltF, z_leT, z_leF, z_eqT, z_eqF, z_inT, z_clT, not_true_eq_false, not_false_eq_true, eq_self, true_or, or_true, z_m_lt, z_m_le, z_lt_m, z_le_m, z_eq_m, z_m_eq, z_rz0, z_rz1, z_m_add, z_of, r_157_0, r_157_1, r_157_2, r_157_3, r_157_6, r_157_7, r_157_8, r_157_9, r_157_10, r_157_11, r_157_27, r_157_28, r_157_29, r_157_30, ↓z_m1, l_0, l_1, l_2, l_3, l_4, l_5, l_6, l_7, l_8, l_9, l_10, l_11, l_12, l_13, l_14, l_15, l_16, l_17, l_18, l_19, l_20, l_21, l_22, l_23, l_24, l_25, l_26, l_27, l_28, l_29, l_30, l_31, l_32, l_33, l_34, l_35, l_36, l_37, l_38, l_39, l_40, l_41, l_42, l_43, l_44, l_45, l_46, l_47, l_48, l_49, l_50, l_51, l_52, l_53, l_54, l_55, l_56, l_57, l_59, l_60, l_61, l_62, l_63, l_64, l_65, l_80, l_86, l_87, l_88, l_89, l_90, l_91, l_92, l_93, l_94, l_95, l_97, l_99, l_100, l_107, l_119, l_122, l_124, l_129, l_140, l_141, l_142, l_143, l_144, l_145, l_147, l_150, l_159, l_160, l_161, l_162, l_205, l_253, l_255, l_256, l_269, l_305, l_380, l_399, l_400, l_420, l_430, l_516, l_600, l_720, l_820, l_905, l_921, l_937, l_953, l_970, l_999, l_1000, l_1790, l_4096, l_9999, l_1000000]
theorem m_opens8 {p : Nat} {T : zt_T} {O : List (Nat × Nat)} {σ : q_Sto} {E : Nat → Nat → Prop} (h : zl_R σ T p O 8) (hE : E 3 (zt_at T p)) : ∃ σ', f_X12_opens q_F 157 σ = some (nI 0, σ') ∧ E 3 (zt_at T p) ∧ σ' 157 21 = nI 3 ∧ σ' 157 22 = nI (zt_at T p) ∧ zl_fR σ σ' := by
  obtain ⟨σ', e1, e2, e3, e4, e5⟩ := m_badR (f := 3) h (zl_fR.refl σ) hE
  have h24 := h.2.2.2.1
  refine ⟨σ', ?_, e2, e3, e4, e5⟩
  unfold f_X12_opens
  simp (disch := omega) only [h24, e1, ↓reduceIte, ↓p_ld, ↓p_st, ↓p_nm, ↓p_nS, ↓p_jn, ↓p_call, ↓p_callv, ↓p_dv, ↓p_rem, h_ldE, h_stE, h_nmE, h_nSE, h_callE, h_callvE, h_dvE, h_remE, if_true, if_false, z_upS, z_upO, z_upK, nI_add, z_mul, z_sub, z_div, Nat.add_zero, Nat.mul_zero, Nat.zero_add, Nat.sub_zero, Nat.zero_mul, z_ltT, z_ltF, z_leT, z_leF, z_eqT, z_eqF, z_inT, z_clT, not_true_eq_false, not_false_eq_true, eq_self, true_or, or_true, z_m_lt, z_m_le, z_lt_m, z_le_m, z_eq_m, z_m_eq, z_rz0, z_rz1, z_m_add, z_of, r_157_0, r_157_1, r_157_2, r_157_3, r_157_6, r_157_7, r_157_8, r_157_9, r_157_10, r_157_11, r_157_27, r_157_28, r_157_29, r_157_30, ↓z_m1, l_0, l_1, l_2, l_3, l_4, l_5, l_6, l_7, l_8, l_9, l_10, l_11, l_12, l_13, l_14, l_15, l_16, l_17, l_18, l_19, l_20, l_21, l_22, l_23, l_24, l_25, l_26, l_27, l_28, l_29, l_30, l_31, l_32, l_33, l_34, l_35, l_36, l_37, l_38, l_39, l_40, l_41, l_42, l_43, l_44, l_45, l_46, l_47, l_48, l_49, l_50, l_51, l_52, l_53, l_54, l_55, l_56, l_57, l_59, l_60, l_61, l_62, l_63, l_64, l_65, l_80, l_86, l_87, l_88, l_89, l_90, l_91, l_92, l_93, l_94, l_95, l_97, l_99, l_100, l_107, l_119, l_122, l_124, l_129, l_140, l_141, l_142, l_143, l_144, l_145, l_147, l_150, l_159, l_160, l_161, l_162, l_205, l_253, l_255, l_256, l_269, l_305, l_380, l_399, l_400, l_420, l_430, l_516, l_600, l_720, l_820, l_905, l_921, l_937, l_953, l_970, l_999, l_1000, l_1790, l_4096, l_9999, l_1000000]
theorem zl_R.dep {p d : Nat} {T : zt_T} {O : List (Nat × Nat)} {σ : q_Sto} (h : zl_R σ T p O (d+1)) : zl_R (q_up σ 157 24 (nI d)) T p O d ∧ zl_fR σ (q_up σ 157 24 (nI d)) := by
  obtain ⟨hR, h14, hos, h24, hd8⟩ := h
  exact ⟨⟨hR.fr (by rw [z_upO (by omega)]) (fun a ha => by rw [z_upK (by omega)]), by rw [z_upK (by omega)]; exact h14, by rw [z_upO (by omega)]; exact hos, z_upS, by omega⟩, ⟨fun o o1 o2 => z_upO o1, fun a _ _ _ _ _ _ _ a8 => z_upK a8⟩⟩
theorem m_test {T : zt_T} : ∀ D d, 8 < d + D → zl_OT (f_X12_oneTest q_F D 157) T d := by
  intro D
  induction D with
  | zero =>
    intro d hD p O σ h
    have := h.2.2.2.2
    omega
  | succ D ih =>
    intro d hD p O σ h hl
    have ht := m_tok h.1
    have hc162 := zt_cd_r (k := 0) (T := T) (p := p) (by omega)
    have hpL := h.1.2.1
    have h24 := h.2.2.2.1
    have hd8 := h.2.2.2.2
    have hTL := h.1.1.1
    by_cases q6 : zt_cd 0 T p = 6
    · obtain ⟨l1, l2, l3, l4⟩ := h.lt hl (by omega)
      rw [q6] at ht
      by_cases q8 : d < 8
      · obtain ⟨σ1, a1, a2, a3⟩ := m_opens h q8
        rcases ih (d+1) (by omega) _ _ σ1 a1 (by omega) with ⟨u, q, σ2, e, hu, b1, b2⟩ | ⟨ff, q, σ2, e, hu, b1, b2, b3⟩
        · have hj := zl_te_not hpL q6 q8 hu
          have hul := hu.1.2.2.1
          have huq := hu.1.2.1
          have hup := hu.1.1
          have hlen2 : (u ++ O).length < 400 := by
            rw [List.length_append]; omega
          have g24 := b1.2.2.2.1
          obtain ⟨b1', b2'⟩ := b1.dep
          obtain ⟨σ3, c1, c2, c3⟩ := m_layR (x := (9, 0)) (s := nI 30) (v := nI 0) b1' (zl_st_o (by simp)) hlen2
          refine Or.inl ⟨(9, 0) :: u, q, σ3, ?_, hj, by rw [List.cons_append]; exact c1, a2.trans (b2.trans (b2'.trans c2))⟩
          rw [f_X12_oneTest]
          simp (disch := omega) only [ht, a3, e, g24, c3, Nat.add_sub_cancel, ↓reduceIte, ↓p_ld, ↓p_st, ↓p_nm, ↓p_nS, ↓p_jn, ↓p_call, ↓p_callv, ↓p_dv, ↓p_rem, h_ldE, h_stE, h_nmE, h_nSE, h_callE, h_callvE, h_dvE, h_remE, if_true, if_false, z_upS, z_upO, z_upK, nI_add, z_mul, z_sub, z_div, Nat.add_zero, Nat.mul_zero, Nat.zero_add, Nat.sub_zero, Nat.zero_mul, z_ltT, z_ltF, z_leT, z_leF, z_eqT, z_eqF, z_inT, z_clT, not_true_eq_false, not_false_eq_true, eq_self, true_or, or_true, z_m_lt, z_m_le, z_lt_m, z_le_m, z_eq_m, z_m_eq, z_rz0, z_rz1, z_m_add, z_of, r_157_0, r_157_1, r_157_2, r_157_3, r_157_6, r_157_7, r_157_8, r_157_9, r_157_10, r_157_11, r_157_27, r_157_28, r_157_29, r_157_30, ↓z_m1, l_0, l_1, l_2, l_3, l_4, l_5, l_6, l_7, l_8, l_9, l_10, l_11, l_12, l_13, l_14, l_15, l_16, l_17, l_18, l_19, l_20, l_21, l_22, l_23, l_24, l_25, l_26, l_27, l_28, l_29, l_30, l_31, l_32, l_33, l_34, l_35, l_36, l_37, l_38, l_39, l_40, l_41, l_42, l_43, l_44, l_45, l_46, l_47, l_48, l_49, l_50, l_51, l_52, l_53, l_54, l_55, l_56, l_57, l_59, l_60, l_61, l_62, l_63, l_64, l_65, l_80, l_86, l_87, l_88, l_89, l_90, l_91, l_92, l_93, l_94, l_95, l_97, l_99, l_100, l_107, l_119, l_122, l_124, l_129, l_140, l_141, l_142, l_143, l_144, l_145, l_147, l_150, l_159, l_160, l_161, l_162, l_205, l_253, l_255, l_256, l_269, l_305, l_380, l_399, l_400, l_420, l_430, l_516, l_600, l_720, l_820, l_905, l_921, l_937, l_953, l_970, l_999, l_1000, l_1790, l_4096, l_9999, l_1000000]
        · have hj := zl_te_notE q6 q8 hu
          refine Or.inr ⟨ff, q, σ2, ?_, hj, b1, b2, a2.trans b3⟩
          rw [f_X12_oneTest]
          simp (disch := omega) only [ht, a3, e, ↓reduceIte, ↓p_ld, ↓p_st, ↓p_nm, ↓p_nS, ↓p_jn, ↓p_call, ↓p_callv, ↓p_dv, ↓p_rem, h_ldE, h_stE, h_nmE, h_nSE, h_callE, h_callvE, h_dvE, h_remE, if_true, if_false, z_upS, z_upO, z_upK, nI_add, z_mul, z_sub, z_div, Nat.add_zero, Nat.mul_zero, Nat.zero_add, Nat.sub_zero, Nat.zero_mul, z_ltT, z_ltF, z_leT, z_leF, z_eqT, z_eqF, z_inT, z_clT, not_true_eq_false, not_false_eq_true, eq_self, true_or, or_true, z_m_lt, z_m_le, z_lt_m, z_le_m, z_eq_m, z_m_eq, z_rz0, z_rz1, z_m_add, z_of, r_157_0, r_157_1, r_157_2, r_157_3, r_157_6, r_157_7, r_157_8, r_157_9, r_157_10, r_157_11, r_157_27, r_157_28, r_157_29, r_157_30, ↓z_m1, l_0, l_1, l_2, l_3, l_4, l_5, l_6, l_7, l_8, l_9, l_10, l_11, l_12, l_13, l_14, l_15, l_16, l_17, l_18, l_19, l_20, l_21, l_22, l_23, l_24, l_25, l_26, l_27, l_28, l_29, l_30, l_31, l_32, l_33, l_34, l_35, l_36, l_37, l_38, l_39, l_40, l_41, l_42, l_43, l_44, l_45, l_46, l_47, l_48, l_49, l_50, l_51, l_52, l_53, l_54, l_55, l_56, l_57, l_59, l_60, l_61, l_62, l_63, l_64, l_65, l_80, l_86, l_87, l_88, l_89, l_90, l_91, l_92, l_93, l_94, l_95, l_97, l_99, l_100, l_107, l_119, l_122, l_124, l_129, l_140, l_141, l_142, l_143, l_144, l_145, l_147, l_150, l_159, l_160, l_161, l_162, l_205, l_253, l_255, l_256, l_269, l_305, l_380, l_399, l_400, l_420, l_430, l_516, l_600, l_720, l_820, l_905, l_921, l_937, l_953, l_970, l_999, l_1000, l_1790, l_4096, l_9999, l_1000000]
      · have e8 : d = 8 := by omega
        subst e8
        obtain ⟨σ', e1, e2, e3, e4, e5⟩ := m_opens8 (E := fun f q => zl_f T 4 p f q 8) h (zl_te_full (Or.inl ⟨rfl, q6⟩) q8)
        refine Or.inr ⟨3, _, σ', ?_, e2, e3, e4, e5⟩
        rw [f_X12_oneTest]
        simp (disch := omega) only [ht, e1, ↓reduceIte, ↓p_ld, ↓p_st, ↓p_nm, ↓p_nS, ↓p_jn, ↓p_call, ↓p_callv, ↓p_dv, ↓p_rem, h_ldE, h_stE, h_nmE, h_nSE, h_callE, h_callvE, h_dvE, h_remE, if_true, if_false, z_upS, z_upO, z_upK, nI_add, z_mul, z_sub, z_div, Nat.add_zero, Nat.mul_zero, Nat.zero_add, Nat.sub_zero, Nat.zero_mul, z_ltT, z_ltF, z_leT, z_leF, z_eqT, z_eqF, z_inT, z_clT, not_true_eq_false, not_false_eq_true, eq_self, true_or, or_true, z_m_lt, z_m_le, z_lt_m, z_le_m, z_eq_m, z_m_eq, z_rz0, z_rz1, z_m_add, z_of, r_157_0, r_157_1, r_157_2, r_157_3, r_157_6, r_157_7, r_157_8, r_157_9, r_157_10, r_157_11, r_157_27, r_157_28, r_157_29, r_157_30, ↓z_m1, l_0, l_1, l_2, l_3, l_4, l_5, l_6, l_7, l_8, l_9, l_10, l_11, l_12, l_13, l_14, l_15, l_16, l_17, l_18, l_19, l_20, l_21, l_22, l_23, l_24, l_25, l_26, l_27, l_28, l_29, l_30, l_31, l_32, l_33, l_34, l_35, l_36, l_37, l_38, l_39, l_40, l_41, l_42, l_43, l_44, l_45, l_46, l_47, l_48, l_49, l_50, l_51, l_52, l_53, l_54, l_55, l_56, l_57, l_59, l_60, l_61, l_62, l_63, l_64, l_65, l_80, l_86, l_87, l_88, l_89, l_90, l_91, l_92, l_93, l_94, l_95, l_97, l_99, l_100, l_107, l_119, l_122, l_124, l_129, l_140, l_141, l_142, l_143, l_144, l_145, l_147, l_150, l_159, l_160, l_161, l_162, l_205, l_253, l_255, l_256, l_269, l_305, l_380, l_399, l_400, l_420, l_430, l_516, l_600, l_720, l_820, l_905, l_921, l_937, l_953, l_970, l_999, l_1000, l_1790, l_4096, l_9999, l_1000000]
    · by_cases q40 : zt_cd 0 T p = 140
      · obtain ⟨l1, l2, l3, l4⟩ := h.lt hl (by omega)
        rw [q40] at ht
        by_cases q8 : d < 8
        · obtain ⟨σ1, a1, a2, a3⟩ := m_opens h q8
          rcases m_any (ih (d+1) (by omega)) a1 (by omega) with ⟨u, q, σ2, e, ⟨hu, hq⟩, b1, b2⟩ | ⟨ff, q, σ2, e, hu, b1, b2, b3⟩
          · have htq := m_tok b1.1
            have hcq := zt_cd_r (k := 0) (T := T) (p := q) (by omega)
            by_cases q41 : zt_cd 0 T q = 141
            · have hj := zl_te_par hpL q40 q8 hu q41
              obtain ⟨σ3, c1, c2, c3⟩ := m_nextL b1
              have g24 := c1.2.2.2.1
              obtain ⟨c1', c2'⟩ := c1.dep
              refine Or.inl ⟨u, zt_nx T q, q_up σ3 157 24 (nI d), ?_, hj, c1', a2.trans (b2.trans (c2.trans c2'))⟩
              rw [q41] at htq
              rw [f_X12_oneTest]
              simp (disch := omega) only [ht, a3, e, f_X12_need, htq, c3, g24, Nat.add_sub_cancel, ↓reduceIte, ↓p_ld, ↓p_st, ↓p_nm, ↓p_nS, ↓p_jn, ↓p_call, ↓p_callv, ↓p_dv, ↓p_rem, h_ldE, h_stE, h_nmE, h_nSE, h_callE, h_callvE, h_dvE, h_remE, if_true, if_false, z_upS, z_upO, z_upK, nI_add, z_mul, z_sub, z_div, Nat.add_zero, Nat.mul_zero, Nat.zero_add, Nat.sub_zero, Nat.zero_mul, z_ltT, z_ltF, z_leT, z_leF, z_eqT, z_eqF, z_inT, z_clT, not_true_eq_false, not_false_eq_true, eq_self, true_or, or_true, z_m_lt, z_m_le, z_lt_m, z_le_m, z_eq_m, z_m_eq, z_rz0, z_rz1, z_m_add, z_of, r_157_0, r_157_1, r_157_2, r_157_3, r_157_6, r_157_7, r_157_8, r_157_9, r_157_10, r_157_11, r_157_27, r_157_28, r_157_29, r_157_30, ↓z_m1, l_0, l_1, l_2, l_3, l_4, l_5, l_6, l_7, l_8, l_9, l_10, l_11, l_12, l_13, l_14, l_15, l_16, l_17, l_18, l_19, l_20, l_21, l_22, l_23, l_24, l_25, l_26, l_27, l_28, l_29, l_30, l_31, l_32, l_33, l_34, l_35, l_36, l_37, l_38, l_39, l_40, l_41, l_42, l_43, l_44, l_45, l_46, l_47, l_48, l_49, l_50, l_51, l_52, l_53, l_54, l_55, l_56, l_57, l_59, l_60, l_61, l_62, l_63, l_64, l_65, l_80, l_86, l_87, l_88, l_89, l_90, l_91, l_92, l_93, l_94, l_95, l_97, l_99, l_100, l_107, l_119, l_122, l_124, l_129, l_140, l_141, l_142, l_143, l_144, l_145, l_147, l_150, l_159, l_160, l_161, l_162, l_205, l_253, l_255, l_256, l_269, l_305, l_380, l_399, l_400, l_420, l_430, l_516, l_600, l_720, l_820, l_905, l_921, l_937, l_953, l_970, l_999, l_1000, l_1790, l_4096, l_9999, l_1000000]
            · have hj := zl_te_parE2 q40 q8 hu ⟨q41, hq.1, hq.2⟩
              obtain ⟨σ', e1, e2, e3, e4, e5⟩ := m_badR (f := 1) (E := fun f q => zl_f T 4 p f q d) b1 (a2.trans b2) hj
              refine Or.inr ⟨1, _, σ', ?_, e2, e3, e4, e5⟩
              rw [f_X12_oneTest]
              generalize zt_cd 0 T q = c1 at *
              simp (disch := omega) only [ht, a3, e, f_X12_need, htq, e1, ↓reduceIte, ↓p_ld, ↓p_st, ↓p_nm, ↓p_nS, ↓p_jn, ↓p_call, ↓p_callv, ↓p_dv, ↓p_rem, h_ldE, h_stE, h_nmE, h_nSE, h_callE, h_callvE, h_dvE, h_remE, if_true, if_false, z_upS, z_upO, z_upK, nI_add, z_mul, z_sub, z_div, Nat.add_zero, Nat.mul_zero, Nat.zero_add, Nat.sub_zero, Nat.zero_mul, z_ltT, z_ltF, z_leT, z_leF, z_eqT, z_eqF, z_inT, z_clT, not_true_eq_false, not_false_eq_true, eq_self, true_or, or_true, z_m_lt, z_m_le, z_lt_m, z_le_m, z_eq_m, z_m_eq, z_rz0, z_rz1, z_m_add, z_of, r_157_0, r_157_1, r_157_2, r_157_3, r_157_6, r_157_7, r_157_8, r_157_9, r_157_10, r_157_11, r_157_27, r_157_28, r_157_29, r_157_30, ↓z_m1, l_0, l_1, l_2, l_3, l_4, l_5, l_6, l_7, l_8, l_9, l_10, l_11, l_12, l_13, l_14, l_15, l_16, l_17, l_18, l_19, l_20, l_21, l_22, l_23, l_24, l_25, l_26, l_27, l_28, l_29, l_30, l_31, l_32, l_33, l_34, l_35, l_36, l_37, l_38, l_39, l_40, l_41, l_42, l_43, l_44, l_45, l_46, l_47, l_48, l_49, l_50, l_51, l_52, l_53, l_54, l_55, l_56, l_57, l_59, l_60, l_61, l_62, l_63, l_64, l_65, l_80, l_86, l_87, l_88, l_89, l_90, l_91, l_92, l_93, l_94, l_95, l_97, l_99, l_100, l_107, l_119, l_122, l_124, l_129, l_140, l_141, l_142, l_143, l_144, l_145, l_147, l_150, l_159, l_160, l_161, l_162, l_205, l_253, l_255, l_256, l_269, l_305, l_380, l_399, l_400, l_420, l_430, l_516, l_600, l_720, l_820, l_905, l_921, l_937, l_953, l_970, l_999, l_1000, l_1790, l_4096, l_9999, l_1000000]
          · have hj := zl_te_parE q40 q8 hu
            refine Or.inr ⟨ff, q, σ2, ?_, hj, b1, b2, a2.trans b3⟩
            rw [f_X12_oneTest]
            simp (disch := omega) only [ht, a3, e, ↓reduceIte, ↓p_ld, ↓p_st, ↓p_nm, ↓p_nS, ↓p_jn, ↓p_call, ↓p_callv, ↓p_dv, ↓p_rem, h_ldE, h_stE, h_nmE, h_nSE, h_callE, h_callvE, h_dvE, h_remE, if_true, if_false, z_upS, z_upO, z_upK, nI_add, z_mul, z_sub, z_div, Nat.add_zero, Nat.mul_zero, Nat.zero_add, Nat.sub_zero, Nat.zero_mul, z_ltT, z_ltF, z_leT, z_leF, z_eqT, z_eqF, z_inT, z_clT, not_true_eq_false, not_false_eq_true, eq_self, true_or, or_true, z_m_lt, z_m_le, z_lt_m, z_le_m, z_eq_m, z_m_eq, z_rz0, z_rz1, z_m_add, z_of, r_157_0, r_157_1, r_157_2, r_157_3, r_157_6, r_157_7, r_157_8, r_157_9, r_157_10, r_157_11, r_157_27, r_157_28, r_157_29, r_157_30, ↓z_m1, l_0, l_1, l_2, l_3, l_4, l_5, l_6, l_7, l_8, l_9, l_10, l_11, l_12, l_13, l_14, l_15, l_16, l_17, l_18, l_19, l_20, l_21, l_22, l_23, l_24, l_25, l_26, l_27, l_28, l_29, l_30, l_31, l_32, l_33, l_34, l_35, l_36, l_37, l_38, l_39, l_40, l_41, l_42, l_43, l_44, l_45, l_46, l_47, l_48, l_49, l_50, l_51, l_52, l_53, l_54, l_55, l_56, l_57, l_59, l_60, l_61, l_62, l_63, l_64, l_65, l_80, l_86, l_87, l_88, l_89, l_90, l_91, l_92, l_93, l_94, l_95, l_97, l_99, l_100, l_107, l_119, l_122, l_124, l_129, l_140, l_141, l_142, l_143, l_144, l_145, l_147, l_150, l_159, l_160, l_161, l_162, l_205, l_253, l_255, l_256, l_269, l_305, l_380, l_399, l_400, l_420, l_430, l_516, l_600, l_720, l_820, l_905, l_921, l_937, l_953, l_970, l_999, l_1000, l_1790, l_4096, l_9999, l_1000000]
        · have e8 : d = 8 := by omega
          subst e8
          obtain ⟨σ', e1, e2, e3, e4, e5⟩ := m_opens8 (E := fun f q => zl_f T 4 p f q 8) h (zl_te_full (Or.inr ⟨rfl, q40⟩) q8)
          refine Or.inr ⟨3, _, σ', ?_, e2, e3, e4, e5⟩
          rw [f_X12_oneTest]
          simp (disch := omega) only [ht, e1, ↓reduceIte, ↓p_ld, ↓p_st, ↓p_nm, ↓p_nS, ↓p_jn, ↓p_call, ↓p_callv, ↓p_dv, ↓p_rem, h_ldE, h_stE, h_nmE, h_nSE, h_callE, h_callvE, h_dvE, h_remE, if_true, if_false, z_upS, z_upO, z_upK, nI_add, z_mul, z_sub, z_div, Nat.add_zero, Nat.mul_zero, Nat.zero_add, Nat.sub_zero, Nat.zero_mul, z_ltT, z_ltF, z_leT, z_leF, z_eqT, z_eqF, z_inT, z_clT, not_true_eq_false, not_false_eq_true, eq_self, true_or, or_true, z_m_lt, z_m_le, z_lt_m, z_le_m, z_eq_m, z_m_eq, z_rz0, z_rz1, z_m_add, z_of, r_157_0, r_157_1, r_157_2, r_157_3, r_157_6, r_157_7, r_157_8, r_157_9, r_157_10, r_157_11, r_157_27, r_157_28, r_157_29, r_157_30, ↓z_m1, l_0, l_1, l_2, l_3, l_4, l_5, l_6, l_7, l_8, l_9, l_10, l_11, l_12, l_13, l_14, l_15, l_16, l_17, l_18, l_19, l_20, l_21, l_22, l_23, l_24, l_25, l_26, l_27, l_28, l_29, l_30, l_31, l_32, l_33, l_34, l_35, l_36, l_37, l_38, l_39, l_40, l_41, l_42, l_43, l_44, l_45, l_46, l_47, l_48, l_49, l_50, l_51, l_52, l_53, l_54, l_55, l_56, l_57, l_59, l_60, l_61, l_62, l_63, l_64, l_65, l_80, l_86, l_87, l_88, l_89, l_90, l_91, l_92, l_93, l_94, l_95, l_97, l_99, l_100, l_107, l_119, l_122, l_124, l_129, l_140, l_141, l_142, l_143, l_144, l_145, l_147, l_150, l_159, l_160, l_161, l_162, l_205, l_253, l_255, l_256, l_269, l_305, l_380, l_399, l_400, l_420, l_430, l_516, l_600, l_720, l_820, l_905, l_921, l_937, l_953, l_970, l_999, l_1000, l_1790, l_4096, l_9999, l_1000000]
      · rcases m_sum h hl with ⟨u, q, σ1, e, ⟨hu, hq⟩, b1, b2⟩ | ⟨ff, q, σ1, e, hu, b1, b2, b3⟩
        · have htq := m_tok b1.1
          have hcq := zt_cd_r (k := 0) (T := T) (p := q) (by omega)
          have hul := hu.1.2.2.1
          have hlen1 : (u ++ O).length ≤ q := by
            rw [List.length_append]; omega
          by_cases qc : zt_cd 0 T q = 160 ∨ zt_cd 0 T q = 161 ∨ zt_cd 0 T q = 162
          · obtain ⟨x, s, hxs, hx1, hst⟩ : ∃ x s, ((x = 6 ∧ s = 27 ∧ zt_cd 0 T q = 160) ∨ (x = 7 ∧ s = 28 ∧ zt_cd 0 T q = 161) ∨ (x = 8 ∧ s = 29 ∧ zt_cd 0 T q = 162)) ∧ ((x = 6 ∧ zt_cd 0 T q = 160) ∨ (x = 7 ∧ zt_cd 0 T q = 161) ∨ (x = 8 ∧ zt_cd 0 T q = 162)) ∧ ∀ a v, z_st1 (nI x) a (nI s) v := by
              rcases qc with h | h | h
              · exact ⟨6, 27, Or.inl ⟨rfl, rfl, h⟩, Or.inl ⟨rfl, h⟩, fun a v => zl_st_o (Or.inr (Or.inr (Or.inr (Or.inl ⟨rfl, rfl⟩))))⟩
              · exact ⟨7, 28, Or.inr (Or.inl ⟨rfl, rfl, h⟩), Or.inr (Or.inl ⟨rfl, h⟩), fun a v => zl_st_o (Or.inr (Or.inr (Or.inr (Or.inr (Or.inl ⟨rfl, rfl⟩)))))⟩
              · exact ⟨8, 29, Or.inr (Or.inr ⟨rfl, rfl, h⟩), Or.inr (Or.inr ⟨rfl, h⟩), fun a v => zl_st_o (Or.inr (Or.inr (Or.inr (Or.inr (Or.inr (Or.inl ⟨rfl, rfl⟩))))))⟩
            obtain ⟨l1, l2, l3, l4⟩ := b1.lt hlen1 (by omega)
            obtain ⟨σ2, c1, c2, c3⟩ := m_nextL b1
            rcases m_sum c1 (by omega) with ⟨v, q2, σ3, e2, ⟨hv, hq2⟩, f1, f2⟩ | ⟨ff, q2, σ3, e2, hv, f1, f2, f3⟩
            · have hj := zl_te_cmp (x := x) (d := d) ⟨q6, q40⟩ hu hx1 hv hq2
              have hvl := hv.1.2.2.1
              have hvq := hv.1.2.1
              have hvp := hv.1.1
              have hlen2 : (v ++ (u ++ O)).length < 400 := by
                rw [List.length_append]; omega
              obtain ⟨σ4, g1, g2, g3⟩ := m_layR (x := (x, 0)) (s := nI s) (v := nI 0) f1 (hst _ _) hlen2
              have g1 : zl_R σ4 T q2 (((x, 0) :: (v ++ u)) ++ O) d := by
                rw [List.cons_append, List.append_assoc]; exact g1
              refine Or.inl ⟨(x, 0) :: (v ++ u), q2, σ4, ?_, hj, g1, b2.trans (c2.trans (f2.trans g2))⟩
              rw [f_X12_oneTest]
              generalize zt_cd 0 T p = cp at *
              rcases hxs with ⟨rfl, rfl, hcd⟩ | ⟨rfl, rfl, hcd⟩ | ⟨rfl, rfl, hcd⟩
              · rw [hcd] at htq
                simp (disch := omega) only [ht, e, htq, c3, e2, g3, ↓reduceIte, ↓p_ld, ↓p_st, ↓p_nm, ↓p_nS, ↓p_jn, ↓p_call, ↓p_callv, ↓p_dv, ↓p_rem, h_ldE, h_stE, h_nmE, h_nSE, h_callE, h_callvE, h_dvE, h_remE, if_true, if_false, z_upS, z_upO, z_upK, nI_add, z_mul, z_sub, z_div, Nat.add_zero, Nat.mul_zero, Nat.zero_add, Nat.sub_zero, Nat.zero_mul, z_ltT, z_ltF, z_leT, z_leF, z_eqT, z_eqF, z_inT, z_clT, not_true_eq_false, not_false_eq_true, eq_self, true_or, or_true, z_m_lt, z_m_le, z_lt_m, z_le_m, z_eq_m, z_m_eq, z_rz0, z_rz1, z_m_add, z_of, r_157_0, r_157_1, r_157_2, r_157_3, r_157_6, r_157_7, r_157_8, r_157_9, r_157_10, r_157_11, r_157_27, r_157_28, r_157_29, r_157_30, ↓z_m1, l_0, l_1, l_2, l_3, l_4, l_5, l_6, l_7, l_8, l_9, l_10, l_11, l_12, l_13, l_14, l_15, l_16, l_17, l_18, l_19, l_20, l_21, l_22, l_23, l_24, l_25, l_26, l_27, l_28, l_29, l_30, l_31, l_32, l_33, l_34, l_35, l_36, l_37, l_38, l_39, l_40, l_41, l_42, l_43, l_44, l_45, l_46, l_47, l_48, l_49, l_50, l_51, l_52, l_53, l_54, l_55, l_56, l_57, l_59, l_60, l_61, l_62, l_63, l_64, l_65, l_80, l_86, l_87, l_88, l_89, l_90, l_91, l_92, l_93, l_94, l_95, l_97, l_99, l_100, l_107, l_119, l_122, l_124, l_129, l_140, l_141, l_142, l_143, l_144, l_145, l_147, l_150, l_159, l_160, l_161, l_162, l_205, l_253, l_255, l_256, l_269, l_305, l_380, l_399, l_400, l_420, l_430, l_516, l_600, l_720, l_820, l_905, l_921, l_937, l_953, l_970, l_999, l_1000, l_1790, l_4096, l_9999, l_1000000]
              · rw [hcd] at htq
                simp (disch := omega) only [ht, e, htq, c3, e2, g3, ↓reduceIte, ↓p_ld, ↓p_st, ↓p_nm, ↓p_nS, ↓p_jn, ↓p_call, ↓p_callv, ↓p_dv, ↓p_rem, h_ldE, h_stE, h_nmE, h_nSE, h_callE, h_callvE, h_dvE, h_remE, if_true, if_false, z_upS, z_upO, z_upK, nI_add, z_mul, z_sub, z_div, Nat.add_zero, Nat.mul_zero, Nat.zero_add, Nat.sub_zero, Nat.zero_mul, z_ltT, z_ltF, z_leT, z_leF, z_eqT, z_eqF, z_inT, z_clT, not_true_eq_false, not_false_eq_true, eq_self, true_or, or_true, z_m_lt, z_m_le, z_lt_m, z_le_m, z_eq_m, z_m_eq, z_rz0, z_rz1, z_m_add, z_of, r_157_0, r_157_1, r_157_2, r_157_3, r_157_6, r_157_7, r_157_8, r_157_9, r_157_10, r_157_11, r_157_27, r_157_28, r_157_29, r_157_30, ↓z_m1, l_0, l_1, l_2, l_3, l_4, l_5, l_6, l_7, l_8, l_9, l_10, l_11, l_12, l_13, l_14, l_15, l_16, l_17, l_18, l_19, l_20, l_21, l_22, l_23, l_24, l_25, l_26, l_27, l_28, l_29, l_30, l_31, l_32, l_33, l_34, l_35, l_36, l_37, l_38, l_39, l_40, l_41, l_42, l_43, l_44, l_45, l_46, l_47, l_48, l_49, l_50, l_51, l_52, l_53, l_54, l_55, l_56, l_57, l_59, l_60, l_61, l_62, l_63, l_64, l_65, l_80, l_86, l_87, l_88, l_89, l_90, l_91, l_92, l_93, l_94, l_95, l_97, l_99, l_100, l_107, l_119, l_122, l_124, l_129, l_140, l_141, l_142, l_143, l_144, l_145, l_147, l_150, l_159, l_160, l_161, l_162, l_205, l_253, l_255, l_256, l_269, l_305, l_380, l_399, l_400, l_420, l_430, l_516, l_600, l_720, l_820, l_905, l_921, l_937, l_953, l_970, l_999, l_1000, l_1790, l_4096, l_9999, l_1000000]
              · rw [hcd] at htq
                simp (disch := omega) only [ht, e, htq, c3, e2, g3, ↓reduceIte, ↓p_ld, ↓p_st, ↓p_nm, ↓p_nS, ↓p_jn, ↓p_call, ↓p_callv, ↓p_dv, ↓p_rem, h_ldE, h_stE, h_nmE, h_nSE, h_callE, h_callvE, h_dvE, h_remE, if_true, if_false, z_upS, z_upO, z_upK, nI_add, z_mul, z_sub, z_div, Nat.add_zero, Nat.mul_zero, Nat.zero_add, Nat.sub_zero, Nat.zero_mul, z_ltT, z_ltF, z_leT, z_leF, z_eqT, z_eqF, z_inT, z_clT, not_true_eq_false, not_false_eq_true, eq_self, true_or, or_true, z_m_lt, z_m_le, z_lt_m, z_le_m, z_eq_m, z_m_eq, z_rz0, z_rz1, z_m_add, z_of, r_157_0, r_157_1, r_157_2, r_157_3, r_157_6, r_157_7, r_157_8, r_157_9, r_157_10, r_157_11, r_157_27, r_157_28, r_157_29, r_157_30, ↓z_m1, l_0, l_1, l_2, l_3, l_4, l_5, l_6, l_7, l_8, l_9, l_10, l_11, l_12, l_13, l_14, l_15, l_16, l_17, l_18, l_19, l_20, l_21, l_22, l_23, l_24, l_25, l_26, l_27, l_28, l_29, l_30, l_31, l_32, l_33, l_34, l_35, l_36, l_37, l_38, l_39, l_40, l_41, l_42, l_43, l_44, l_45, l_46, l_47, l_48, l_49, l_50, l_51, l_52, l_53, l_54, l_55, l_56, l_57, l_59, l_60, l_61, l_62, l_63, l_64, l_65, l_80, l_86, l_87, l_88, l_89, l_90, l_91, l_92, l_93, l_94, l_95, l_97, l_99, l_100, l_107, l_119, l_122, l_124, l_129, l_140, l_141, l_142, l_143, l_144, l_145, l_147, l_150, l_159, l_160, l_161, l_162, l_205, l_253, l_255, l_256, l_269, l_305, l_380, l_399, l_400, l_420, l_430, l_516, l_600, l_720, l_820, l_905, l_921, l_937, l_953, l_970, l_999, l_1000, l_1790, l_4096, l_9999, l_1000000]
            · have hj := zl_te_E3 (x := x) (d := d) ⟨q6, q40⟩ hu hx1 hv
              refine Or.inr ⟨ff, q2, σ3, ?_, hj, f1, f2, b2.trans (c2.trans f3)⟩
              rw [f_X12_oneTest]
              generalize zt_cd 0 T p = cp at *
              rcases hxs with ⟨rfl, rfl, hcd⟩ | ⟨rfl, rfl, hcd⟩ | ⟨rfl, rfl, hcd⟩
              · rw [hcd] at htq
                simp (disch := omega) only [ht, e, htq, c3, e2, ↓reduceIte, ↓p_ld, ↓p_st, ↓p_nm, ↓p_nS, ↓p_jn, ↓p_call, ↓p_callv, ↓p_dv, ↓p_rem, h_ldE, h_stE, h_nmE, h_nSE, h_callE, h_callvE, h_dvE, h_remE, if_true, if_false, z_upS, z_upO, z_upK, nI_add, z_mul, z_sub, z_div, Nat.add_zero, Nat.mul_zero, Nat.zero_add, Nat.sub_zero, Nat.zero_mul, z_ltT, z_ltF, z_leT, z_leF, z_eqT, z_eqF, z_inT, z_clT, not_true_eq_false, not_false_eq_true, eq_self, true_or, or_true, z_m_lt, z_m_le, z_lt_m, z_le_m, z_eq_m, z_m_eq, z_rz0, z_rz1, z_m_add, z_of, r_157_0, r_157_1, r_157_2, r_157_3, r_157_6, r_157_7, r_157_8, r_157_9, r_157_10, r_157_11, r_157_27, r_157_28, r_157_29, r_157_30, ↓z_m1, l_0, l_1, l_2, l_3, l_4, l_5, l_6, l_7, l_8, l_9, l_10, l_11, l_12, l_13, l_14, l_15, l_16, l_17, l_18, l_19, l_20, l_21, l_22, l_23, l_24, l_25, l_26, l_27, l_28, l_29, l_30, l_31, l_32, l_33, l_34, l_35, l_36, l_37, l_38, l_39, l_40, l_41, l_42, l_43, l_44, l_45, l_46, l_47, l_48, l_49, l_50, l_51, l_52, l_53, l_54, l_55, l_56, l_57, l_59, l_60, l_61, l_62, l_63, l_64, l_65, l_80, l_86, l_87, l_88, l_89, l_90, l_91, l_92, l_93, l_94, l_95, l_97, l_99, l_100, l_107, l_119, l_122, l_124, l_129, l_140, l_141, l_142, l_143, l_144, l_145, l_147, l_150, l_159, l_160, l_161, l_162, l_205, l_253, l_255, l_256, l_269, l_305, l_380, l_399, l_400, l_420, l_430, l_516, l_600, l_720, l_820, l_905, l_921, l_937, l_953, l_970, l_999, l_1000, l_1790, l_4096, l_9999, l_1000000]
              · rw [hcd] at htq
                simp (disch := omega) only [ht, e, htq, c3, e2, ↓reduceIte, ↓p_ld, ↓p_st, ↓p_nm, ↓p_nS, ↓p_jn, ↓p_call, ↓p_callv, ↓p_dv, ↓p_rem, h_ldE, h_stE, h_nmE, h_nSE, h_callE, h_callvE, h_dvE, h_remE, if_true, if_false, z_upS, z_upO, z_upK, nI_add, z_mul, z_sub, z_div, Nat.add_zero, Nat.mul_zero, Nat.zero_add, Nat.sub_zero, Nat.zero_mul, z_ltT, z_ltF, z_leT, z_leF, z_eqT, z_eqF, z_inT, z_clT, not_true_eq_false, not_false_eq_true, eq_self, true_or, or_true, z_m_lt, z_m_le, z_lt_m, z_le_m, z_eq_m, z_m_eq, z_rz0, z_rz1, z_m_add, z_of, r_157_0, r_157_1, r_157_2, r_157_3, r_157_6, r_157_7, r_157_8, r_157_9, r_157_10, r_157_11, r_157_27, r_157_28, r_157_29, r_157_30, ↓z_m1, l_0, l_1, l_2, l_3, l_4, l_5, l_6, l_7, l_8, l_9, l_10, l_11, l_12, l_13, l_14, l_15, l_16, l_17, l_18, l_19, l_20, l_21, l_22, l_23, l_24, l_25, l_26, l_27, l_28, l_29, l_30, l_31, l_32, l_33, l_34, l_35, l_36, l_37, l_38, l_39, l_40, l_41, l_42, l_43, l_44, l_45, l_46, l_47, l_48, l_49, l_50, l_51, l_52, l_53, l_54, l_55, l_56, l_57, l_59, l_60, l_61, l_62, l_63, l_64, l_65, l_80, l_86, l_87, l_88, l_89, l_90, l_91, l_92, l_93, l_94, l_95, l_97, l_99, l_100, l_107, l_119, l_122, l_124, l_129, l_140, l_141, l_142, l_143, l_144, l_145, l_147, l_150, l_159, l_160, l_161, l_162, l_205, l_253, l_255, l_256, l_269, l_305, l_380, l_399, l_400, l_420, l_430, l_516, l_600, l_720, l_820, l_905, l_921, l_937, l_953, l_970, l_999, l_1000, l_1790, l_4096, l_9999, l_1000000]
              · rw [hcd] at htq
                simp (disch := omega) only [ht, e, htq, c3, e2, ↓reduceIte, ↓p_ld, ↓p_st, ↓p_nm, ↓p_nS, ↓p_jn, ↓p_call, ↓p_callv, ↓p_dv, ↓p_rem, h_ldE, h_stE, h_nmE, h_nSE, h_callE, h_callvE, h_dvE, h_remE, if_true, if_false, z_upS, z_upO, z_upK, nI_add, z_mul, z_sub, z_div, Nat.add_zero, Nat.mul_zero, Nat.zero_add, Nat.sub_zero, Nat.zero_mul, z_ltT, z_ltF, z_leT, z_leF, z_eqT, z_eqF, z_inT, z_clT, not_true_eq_false, not_false_eq_true, eq_self, true_or, or_true, z_m_lt, z_m_le, z_lt_m, z_le_m, z_eq_m, z_m_eq, z_rz0, z_rz1, z_m_add, z_of, r_157_0, r_157_1, r_157_2, r_157_3, r_157_6, r_157_7, r_157_8, r_157_9, r_157_10, r_157_11, r_157_27, r_157_28, r_157_29, r_157_30, ↓z_m1, l_0, l_1, l_2, l_3, l_4, l_5, l_6, l_7, l_8, l_9, l_10, l_11, l_12, l_13, l_14, l_15, l_16, l_17, l_18, l_19, l_20, l_21, l_22, l_23, l_24, l_25, l_26, l_27, l_28, l_29, l_30, l_31, l_32, l_33, l_34, l_35, l_36, l_37, l_38, l_39, l_40, l_41, l_42, l_43, l_44, l_45, l_46, l_47, l_48, l_49, l_50, l_51, l_52, l_53, l_54, l_55, l_56, l_57, l_59, l_60, l_61, l_62, l_63, l_64, l_65, l_80, l_86, l_87, l_88, l_89, l_90, l_91, l_92, l_93, l_94, l_95, l_97, l_99, l_100, l_107, l_119, l_122, l_124, l_129, l_140, l_141, l_142, l_143, l_144, l_145, l_147, l_150, l_159, l_160, l_161, l_162, l_205, l_253, l_255, l_256, l_269, l_305, l_380, l_399, l_400, l_420, l_430, l_516, l_600, l_720, l_820, l_905, l_921, l_937, l_953, l_970, l_999, l_1000, l_1790, l_4096, l_9999, l_1000000]
          · have hj := zl_te_E2 (d := d) ⟨q6, q40⟩ hu hq ⟨by omega, by omega, by omega⟩
            obtain ⟨σ', e1, e2, e3, e4, e5⟩ := m_badR (f := 1) (E := fun f q => zl_f T 4 p f q d) b1 b2 hj
            refine Or.inr ⟨1, _, σ', ?_, e2, e3, e4, e5⟩
            rw [f_X12_oneTest]
            generalize zt_cd 0 T p = cp at *
            generalize zt_cd 0 T q = c1 at *
            simp (disch := omega) only [ht, e, htq, e1, ↓reduceIte, ↓p_ld, ↓p_st, ↓p_nm, ↓p_nS, ↓p_jn, ↓p_call, ↓p_callv, ↓p_dv, ↓p_rem, h_ldE, h_stE, h_nmE, h_nSE, h_callE, h_callvE, h_dvE, h_remE, if_true, if_false, z_upS, z_upO, z_upK, nI_add, z_mul, z_sub, z_div, Nat.add_zero, Nat.mul_zero, Nat.zero_add, Nat.sub_zero, Nat.zero_mul, z_ltT, z_ltF, z_leT, z_leF, z_eqT, z_eqF, z_inT, z_clT, not_true_eq_false, not_false_eq_true, eq_self, true_or, or_true, z_m_lt, z_m_le, z_lt_m, z_le_m, z_eq_m, z_m_eq, z_rz0, z_rz1, z_m_add, z_of, r_157_0, r_157_1, r_157_2, r_157_3, r_157_6, r_157_7, r_157_8, r_157_9, r_157_10, r_157_11, r_157_27, r_157_28, r_157_29, r_157_30, ↓z_m1, l_0, l_1, l_2, l_3, l_4, l_5, l_6, l_7, l_8, l_9, l_10, l_11, l_12, l_13, l_14, l_15, l_16, l_17, l_18, l_19, l_20, l_21, l_22, l_23, l_24, l_25, l_26, l_27, l_28, l_29, l_30, l_31, l_32, l_33, l_34, l_35, l_36, l_37, l_38, l_39, l_40, l_41, l_42, l_43, l_44, l_45, l_46, l_47, l_48, l_49, l_50, l_51, l_52, l_53, l_54, l_55, l_56, l_57, l_59, l_60, l_61, l_62, l_63, l_64, l_65, l_80, l_86, l_87, l_88, l_89, l_90, l_91, l_92, l_93, l_94, l_95, l_97, l_99, l_100, l_107, l_119, l_122, l_124, l_129, l_140, l_141, l_142, l_143, l_144, l_145, l_147, l_150, l_159, l_160, l_161, l_162, l_205, l_253, l_255, l_256, l_269, l_305, l_380, l_399, l_400, l_420, l_430, l_516, l_600, l_720, l_820, l_905, l_921, l_937, l_953, l_970, l_999, l_1000, l_1790, l_4096, l_9999, l_1000000]
        · refine Or.inr ⟨ff, q, σ1, ?_, zl_te_E1 ⟨q6, q40⟩ hu, b1, b2, b3⟩
          rw [f_X12_oneTest]
          generalize zt_cd 0 T p = cp at *
          simp (disch := omega) only [ht, e, ↓reduceIte, ↓p_ld, ↓p_st, ↓p_nm, ↓p_nS, ↓p_jn, ↓p_call, ↓p_callv, ↓p_dv, ↓p_rem, h_ldE, h_stE, h_nmE, h_nSE, h_callE, h_callvE, h_dvE, h_remE, if_true, if_false, z_upS, z_upO, z_upK, nI_add, z_mul, z_sub, z_div, Nat.add_zero, Nat.mul_zero, Nat.zero_add, Nat.sub_zero, Nat.zero_mul, z_ltT, z_ltF, z_leT, z_leF, z_eqT, z_eqF, z_inT, z_clT, not_true_eq_false, not_false_eq_true, eq_self, true_or, or_true, z_m_lt, z_m_le, z_lt_m, z_le_m, z_eq_m, z_m_eq, z_rz0, z_rz1, z_m_add, z_of, r_157_0, r_157_1, r_157_2, r_157_3, r_157_6, r_157_7, r_157_8, r_157_9, r_157_10, r_157_11, r_157_27, r_157_28, r_157_29, r_157_30, ↓z_m1, l_0, l_1, l_2, l_3, l_4, l_5, l_6, l_7, l_8, l_9, l_10, l_11, l_12, l_13, l_14, l_15, l_16, l_17, l_18, l_19, l_20, l_21, l_22, l_23, l_24, l_25, l_26, l_27, l_28, l_29, l_30, l_31, l_32, l_33, l_34, l_35, l_36, l_37, l_38, l_39, l_40, l_41, l_42, l_43, l_44, l_45, l_46, l_47, l_48, l_49, l_50, l_51, l_52, l_53, l_54, l_55, l_56, l_57, l_59, l_60, l_61, l_62, l_63, l_64, l_65, l_80, l_86, l_87, l_88, l_89, l_90, l_91, l_92, l_93, l_94, l_95, l_97, l_99, l_100, l_107, l_119, l_122, l_124, l_129, l_140, l_141, l_142, l_143, l_144, l_145, l_147, l_150, l_159, l_160, l_161, l_162, l_205, l_253, l_255, l_256, l_269, l_305, l_380, l_399, l_400, l_420, l_430, l_516, l_600, l_720, l_820, l_905, l_921, l_937, l_953, l_970, l_999, l_1000, l_1790, l_4096, l_9999, l_1000000]
