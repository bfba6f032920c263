/-! the class alone: mules and men made -/
def y_mV (V : Nat → Int32) (mu : Nat) (x y : Int32) : Nat → Int32 := fun a => if a = 8+mu then z_m else if a = 95+mu then x else if a = 107+mu then y else if a = 129+mu then nI 0 else if a = 86 then nI (mu+1) else if 20+5*mu ≤ a ∧ a < 25+5*mu then nI 30 else V a
def y_kV (V : Nat → Int32) (me : Nat) (x y z : Int32) : Nat → Int32 := fun a => if a = 80+me then x else if a = 119+me then y else if a = 124+me then z else if a = 87 then nI (me+1) else if 20 ≤ a ∧ a < 80 ∧ (a - 20) % 5 = me then nI 30 else V a
section MK
variable {mu me wn : Nat} {σ : q_Sto} {V : Nat → Int32} {hs : z_Hs}
theorem Q_mule {x y : Nat} (h : z_CS mu me σ V hs wn) (hlt : mu < 12) (x1 : 1 ≤ x) (x2 : x ≤ 40) (y2 : y ≤ 40) : ∃ σ', f_X11_mule q_F 0 (nI x) (nI y) σ = some (nI mu, σ') ∧ z_CS (mu+1) me σ' (y_mV V mu (nI x) (nI y)) y_h0 wn := by
  have hC := h.1.1
  have hmu := hC.1.1
  have hme := hC.1.2.1
  have g8 : σ 2 8 = nI mu := hC.2.1.1.1
  have hx := z_w_in (lo := 1) (k := x) (hi := 40) (by omega) x2 (by omega)
  have hy := z_w_in (lo := 0) (k := y) (hi := 40) (by omega) y2 (by omega)
  refine ⟨q_up (q_up (q_up (q_up σ 3 mu (nI x)) 4 mu (nI y)) 2 8 (nI (mu+1))) 61 1 (nI 0), ?_, ?_⟩
  · unfold f_X11_mule
    simp (disch := omega) only [c_isWithin, hx, hy, f_X9_addMule, g8, f_X1_forget, Nat.add_sub_cancel, ↓reduceIte, ↓p_ld, ↓p_st, ↓p_nm, ↓p_nS, ↓p_jn, ↓p_call, ↓p_callv, ↓p_dv, ↓p_rem, h_ldE, h_stE, h_nmE, h_nSE, h_callE, h_callvE, h_dvE, h_remE, if_true, if_false, z_upS, z_upO, z_upK, nI_add, z_mul, z_sub, z_div, Nat.add_zero, Nat.mul_zero, Nat.zero_add, Nat.sub_zero, Nat.zero_mul, z_ltT, z_ltF, z_leT, z_leF, z_eqT, z_eqF, z_inT, z_clT, not_true_eq_false, not_false_eq_true, eq_self, true_or, or_true, z_m_lt, z_m_le, z_lt_m, z_le_m, z_eq_m, z_m_eq, z_rz0, z_rz1, z_m_add, z_of, r_0_0, r_0_1, r_0_3, r_0_4, r_0_5, r_0_6, r_0_7, r_0_8, r_0_9, r_0_10, r_1_0, r_1_1, r_1_2, r_1_3, r_1_4, r_1_5, r_1_6, r_1_7, r_1_8, r_2_0, r_2_1, r_2_2, r_2_3, r_2_4, r_2_5, r_2_6, r_2_7, r_11_0, r_11_1, r_11_2, r_11_3, r_11_4, r_11_5, r_11_6, r_19_0, r_21_0, r_23_0, r_25_0, r_27_0, r_61_0, r_117_0, r_117_1, r_117_2, r_117_3, r_117_4, r_117_5, r_117_6, r_117_7, r_126_0, r_126_1, r_126_2, r_126_3, r_126_4, r_132_0, r_132_1, r_135_0, r_135_1, r_135_2, r_135_3, r_135_4, r_135_5, r_142_0, r_144_0, r_144_1, r_144_2, r_145_0, r_145_1, r_145_2, r_145_3, r_145_4, r_145_5, r_145_6, r_154_0, r_154_1, r_155_0, ↓z_m1, l_0, l_1, l_2, l_3, l_4, l_5, l_6, l_7, l_8, l_9, l_10, l_11, l_12, l_13, l_14, l_15, l_16, l_17, l_18, l_19, l_20, l_21, l_22, l_23, l_24, l_25, l_26, l_27, l_28, l_29, l_30, l_31, l_32, l_33, l_34, l_35, l_36, l_37, l_38, l_39, l_40, l_41, l_42, l_43, l_44, l_45, l_46, l_47, l_48, l_49, l_50, l_51, l_52, l_53, l_54, l_55, l_56, l_57, l_59, l_60, l_61, l_62, l_63, l_64, l_65, l_80, l_86, l_87, l_88, l_89, l_90, l_91, l_92, l_93, l_94, l_95, l_97, l_99, l_100, l_107, l_119, l_122, l_124, l_129, l_140, l_141, l_142, l_143, l_144, l_145, l_147, l_150, l_159, l_160, l_161, l_162, l_205, l_253, l_255, l_256, l_269, l_305, l_380, l_399, l_400, l_420, l_430, l_516, l_600, l_720, l_820, l_905, l_921, l_937, l_953, l_970, l_999, l_1000, l_1790, l_4096, l_9999, l_1000000]
  · have hV : ∀ a, a ≠ 8+mu → a ≠ 95+mu → a ≠ 107+mu → a ≠ 129+mu → a ≠ 86 → (a < 20+5*mu ∨ 25+5*mu ≤ a) → y_mV V mu (nI x) (nI y) a = V a := fun a n1 n2 n3 n4 n5 n6 => by
      unfold y_mV
      rw [if_neg n1, if_neg n2, if_neg n3, if_neg n4, if_neg n5, if_neg (by omega)]
    have v8 : y_mV V mu (nI x) (nI y) (8+mu) = z_m := if_pos rfl
    have v95 : y_mV V mu (nI x) (nI y) (95+mu) = nI x := by
      unfold y_mV
      rw [if_neg (by omega), if_pos rfl]
    have v107 : y_mV V mu (nI x) (nI y) (107+mu) = nI y := by
      unfold y_mV
      rw [if_neg (by omega), if_neg (by omega), if_pos rfl]
    have v129 : y_mV V mu (nI x) (nI y) (129+mu) = nI 0 := by
      unfold y_mV
      rw [if_neg (by omega), if_neg (by omega), if_neg (by omega), if_pos rfl]
    have v86 : y_mV V mu (nI x) (nI y) 86 = nI (mu+1) := by
      unfold y_mV
      rw [if_neg (by omega), if_neg (by omega), if_neg (by omega), if_neg (by omega), if_pos rfl]
    have v20 : ∀ k, k < 5 → y_mV V mu (nI x) (nI y) (20+5*mu+k) = nI 30 := fun k hk => by
      unfold y_mV
      rw [if_neg (by omega), if_neg (by omega), if_neg (by omega), if_neg (by omega), if_neg (by omega), if_pos (by omega)]
    have efr : ∀ o, o ≠ 61 → q_up (q_up (q_up (q_up σ 3 mu (nI x)) 4 mu (nI y)) 2 8 (nI (mu+1))) 61 1 (nI 0) o = q_up (q_up (q_up σ 3 mu (nI x)) 4 mu (nI y)) 2 8 (nI (mu+1)) o := fun o o3 => z_upO o3
    have e61 : q_up (q_up (q_up (q_up σ 3 mu (nI x)) 4 mu (nI y)) 2 8 (nI (mu+1))) 61 1 (nI 0) 61 1 = nI 0 := z_upS
    have efo : ∀ o, o = 62 ∨ o = 142 ∨ o = 155 → q_up (q_up (q_up (q_up σ 3 mu (nI x)) 4 mu (nI y)) 2 8 (nI (mu+1))) 61 1 (nI 0) o = σ o := fun o ho => by rw [efr o (by omega), z_upO (by omega), z_upO (by omega), z_upO (by omega)]
    generalize q_up (q_up (q_up (q_up σ 3 mu (nI x)) 4 mu (nI y)) 2 8 (nI (mu+1))) 61 1 (nI 0) = τ at *
    generalize y_mV V mu (nI x) (nI y) = W at *
    obtain ⟨⟨f1, f2, f3, f4, ⟨s, hs, f5⟩, f6, f7, f8, f9, f10, f11, f12⟩, hT, hWT⟩ := hC
    obtain ⟨⟨p1, p2, p3, p4, p5, p6, p7, p8, p9⟩, t1, t2, t3, t4, t5, t6⟩ := hT.un
    have hpw : 2 ^ (mu + 1) = 2 ^ mu + 2 ^ mu := by rw [Nat.pow_succ]; omega
    have ec : ∀ o, 5 ≤ o → o ≤ 60 → τ o = σ o := fun o o1 o2 => by rw [efr o (by omega), z_upO (by omega), z_upO (by omega), z_upO (by omega)]
    have e2 : ∀ a, a ≠ 8 → τ 2 a = σ 2 a := fun a ha => by rw [efr 2 (by omega), z_upK ha, z_upO (by omega), z_upO (by omega)]
    have e28 : τ 2 8 = nI (mu+1) := by rw [efr 2 (by omega)]; exact z_upS
    have e3 : ∀ a, a ≠ mu → τ 3 a = σ 3 a := fun a ha => by rw [efr 3 (by omega), z_upO (by omega), z_upO (by omega), z_upK ha]
    have e3m : τ 3 mu = nI x := by rw [efr 3 (by omega), z_upO (by omega), z_upO (by omega)]; exact z_upS
    have e4 : ∀ a, a ≠ mu → τ 4 a = σ 4 a := fun a ha => by rw [efr 4 (by omega), z_upO (by omega), z_upK ha, z_upO (by omega)]
    have e4m : τ 4 mu = nI y := by rw [efr 4 (by omega), z_upO (by omega)]; exact z_upS
    refine z_CS.told h ⟨⟨by omega, f2, v86, by rw [hV 87 (by omega) (by omega) (by omega) (by omega) (by omega) (by omega)]; exact f4, ⟨s, by omega, by rw [hV 7 (by omega) (by omega) (by omega) (by omega) (by omega) (by omega)]; exact f5⟩, fun m hm => ?_, fun m k hm hk => ?_, fun k hk => ?_, ?_, ?_, ?_, ?_⟩, ?_⟩ (z_TR.mk ⟨e28, ?_, ?_, ?_, ?_, ?_, ?_, ?_, ?_⟩ (fun m hm => ?_) (fun m hm => ?_) (fun m m1 m2 => ?_) (fun k hk => ?_) (fun m k hm hk => ?_) (fun m k hm hk hq => ?_)) ?_ ?_ (by rw [hV 6 (by omega) (by omega) (by omega) (by omega) (by omega) (by omega)]) ?_ e61 efo
    · by_cases q : m = mu
      · subst q
        rw [v8, v95, v107]
        exact ⟨Or.inl rfl, ⟨x, by omega, rfl⟩, ⟨y, by omega, rfl⟩⟩
      · rw [hV (8+m) (by omega) (by omega) (by omega) (by omega) (by omega) (by omega), hV (95+m) (by omega) (by omega) (by omega) (by omega) (by omega) (by omega), hV (107+m) (by omega) (by omega) (by omega) (by omega) (by omega) (by omega)]
        exact f6 m (by omega)
    · by_cases q : m = mu
      · subst q
        rw [v20 k (by omega)]
        exact ⟨30, by omega, rfl⟩
      · rw [hV _ (by omega) (by omega) (by omega) (by omega) (by omega) (by omega)]
        exact f7 m k (by omega) hk
    · rw [hV (80+k) (by omega) (by omega) (by omega) (by omega) (by omega) (by omega), hV (119+k) (by omega) (by omega) (by omega) (by omega) (by omega) (by omega), hV (124+k) (by omega) (by omega) (by omega) (by omega) (by omega) (by omega)]
      exact f8 k hk
    · rw [hV 1 (by omega) (by omega) (by omega) (by omega) (by omega) (by omega)]; exact f9
    · rw [hV 2 (by omega) (by omega) (by omega) (by omega) (by omega) (by omega)]; exact f10
    · rw [hV 6 (by omega) (by omega) (by omega) (by omega) (by omega) (by omega)]; exact f11
    · rw [hV 88 (by omega) (by omega) (by omega) (by omega) (by omega) (by omega)]; exact f12
    · rw [hV 0 (by omega) (by omega) (by omega) (by omega) (by omega) (by omega)]; exact h.2.1
    · rw [e2 9 (by omega)]; exact p2
    · rw [e2 10 (by omega), hV 5 (by omega) (by omega) (by omega) (by omega) (by omega) (by omega)]; exact p3
    · rw [e2 11 (by omega), hV 88 (by omega) (by omega) (by omega) (by omega) (by omega) (by omega)]; exact p4
    · rw [e2 12 (by omega), hV 1 (by omega) (by omega) (by omega) (by omega) (by omega) (by omega)]; exact p5
    · rw [e2 13 (by omega), hV 2 (by omega) (by omega) (by omega) (by omega) (by omega) (by omega)]; exact p6
    · rw [e2 14 (by omega), hV 3 (by omega) (by omega) (by omega) (by omega) (by omega) (by omega)]; exact p7
    · rw [e2 15 (by omega), hV 4 (by omega) (by omega) (by omega) (by omega) (by omega) (by omega)]; exact p8
    · rw [e2 16 (by omega), hV 0 (by omega) (by omega) (by omega) (by omega) (by omega) (by omega)]; exact p9
    · by_cases q : m = mu
      · subst q
        rw [e3m, e4m, v95, v107, v8, ec 6 (by omega) (by omega)]
        exact ⟨rfl, rfl, t3 m (by omega) (by omega)⟩
      · rw [e3 m q, e4 m q, ec 6 (by omega) (by omega), hV (8+m) (by omega) (by omega) (by omega) (by omega) (by omega) (by omega), hV (95+m) (by omega) (by omega) (by omega) (by omega) (by omega) (by omega), hV (107+m) (by omega) (by omega) (by omega) (by omega) (by omega) (by omega)]
        exact t1 m (by omega)
    · rw [ec 5 (by omega) (by omega), hV 7 (by omega) (by omega) (by omega) (by omega) (by omega) (by omega)]; exact t2 m hm
    · rw [ec 6 (by omega) (by omega)]; exact t3 m (by omega) m2
    · rw [ec 7 (by omega) (by omega), ec 8 (by omega) (by omega), ec 9 (by omega) (by omega), hV (80+k) (by omega) (by omega) (by omega) (by omega) (by omega) (by omega), hV (119+k) (by omega) (by omega) (by omega) (by omega) (by omega) (by omega), hV (124+k) (by omega) (by omega) (by omega) (by omega) (by omega) (by omega)]
      exact t4 k hk
    · rw [ec 10 (by omega) (by omega)]
      by_cases q : m = mu
      · subst q
        rw [v20 k (by omega)]
        exact t6 m k (by omega) (by omega) (Or.inl (Nat.le_refl _))
      · rw [hV _ (by omega) (by omega) (by omega) (by omega) (by omega) (by omega)]
        exact t5 m k (by omega) hk
    · rw [ec 10 (by omega) (by omega)]
      exact t6 m k hm hk (by omega)
    · refine (z_WT.grow hWT (Nat.le_succ mu) (Nat.le_refl me) (fun a ha => hV a (by omega) (by omega) (by omega) (by omega) (by omega) (by omega)) (fun m hm => ?_)).fr (fun o o1 o2 o3 => ec o (by omega) (by omega))
      by_cases q : m = mu
      · subst q; exact Or.inr ⟨Nat.le_refl _, v129⟩
      · exact Or.inl (hV _ (by omega) (by omega) (by omega) (by omega) (by omega) (by omega))
    · obtain ⟨w, b1, b2, b3, b4⟩ := h.1.2
      refine ⟨w, b1, by rw [e2 17 (by omega)]; exact b2, by rw [hV 6 (by omega) (by omega) (by omega) (by omega) (by omega) (by omega)]; exact b3, fun i c hi hc => ?_⟩
      rw [ec _ (by omega) (by omega), hV _ (by omega) (by omega) (by omega) (by omega) (by omega) (by omega)]
      exact b4 i c hi hc
    · exact h.2.2.2.2.1.fr (fun o o1 o2 => ec o (by omega) (by omega))
theorem Q_man {x y z : Nat} (h : z_CS mu me σ V hs wn) (hlt : me < 5) (x2 : x ≤ 99) (y2 : y ≤ 9) (z2 : z ≤ 9) : ∃ σ', f_X11_man q_F 0 (nI x) (nI y) (nI z) σ = some (nI me, σ') ∧ z_CS mu (me+1) σ' (y_kV V me (nI x) (nI y) (nI z)) y_h0 wn := by
  have hC := h.1.1
  have hmu := hC.1.1
  have hme := hC.1.2.1
  have g9 : σ 2 9 = nI me := hC.2.1.1.2.1
  have hx := z_w_in (lo := 0) (k := x) (hi := 99) (by omega) x2 (by omega)
  have hy := z_w_in (lo := 0) (k := y) (hi := 9) (by omega) y2 (by omega)
  have hz := z_w_in (lo := 0) (k := z) (hi := 9) (by omega) z2 (by omega)
  refine ⟨q_up (q_up (q_up (q_up (q_up σ 7 me (nI x)) 8 me (nI y)) 9 me (nI z)) 2 9 (nI (me+1))) 61 1 (nI 0), ?_, ?_⟩
  · unfold f_X11_man
    simp (disch := omega) only [c_isWithin, hx, hy, hz, f_X9_addMan, g9, f_X1_forget, Nat.add_sub_cancel, ↓reduceIte, ↓p_ld, ↓p_st, ↓p_nm, ↓p_nS, ↓p_jn, ↓p_call, ↓p_callv, ↓p_dv, ↓p_rem, h_ldE, h_stE, h_nmE, h_nSE, h_callE, h_callvE, h_dvE, h_remE, if_true, if_false, z_upS, z_upO, z_upK, nI_add, z_mul, z_sub, z_div, Nat.add_zero, Nat.mul_zero, Nat.zero_add, Nat.sub_zero, Nat.zero_mul, z_ltT, z_ltF, z_leT, z_leF, z_eqT, z_eqF, z_inT, z_clT, not_true_eq_false, not_false_eq_true, eq_self, true_or, or_true, z_m_lt, z_m_le, z_lt_m, z_le_m, z_eq_m, z_m_eq, z_rz0, z_rz1, z_m_add, z_of, r_0_0, r_0_1, r_0_3, r_0_4, r_0_5, r_0_6, r_0_7, r_0_8, r_0_9, r_0_10, r_1_0, r_1_1, r_1_2, r_1_3, r_1_4, r_1_5, r_1_6, r_1_7, r_1_8, r_2_0, r_2_1, r_2_2, r_2_3, r_2_4, r_2_5, r_2_6, r_2_7, r_11_0, r_11_1, r_11_2, r_11_3, r_11_4, r_11_5, r_11_6, r_19_0, r_21_0, r_23_0, r_25_0, r_27_0, r_61_0, r_117_0, r_117_1, r_117_2, r_117_3, r_117_4, r_117_5, r_117_6, r_117_7, r_126_0, r_126_1, r_126_2, r_126_3, r_126_4, r_132_0, r_132_1, r_135_0, r_135_1, r_135_2, r_135_3, r_135_4, r_135_5, r_142_0, r_144_0, r_144_1, r_144_2, r_145_0, r_145_1, r_145_2, r_145_3, r_145_4, r_145_5, r_145_6, r_154_0, r_154_1, r_155_0, ↓z_m1, l_0, l_1, l_2, l_3, l_4, l_5, l_6, l_7, l_8, l_9, l_10, l_11, l_12, l_13, l_14, l_15, l_16, l_17, l_18, l_19, l_20, l_21, l_22, l_23, l_24, l_25, l_26, l_27, l_28, l_29, l_30, l_31, l_32, l_33, l_34, l_35, l_36, l_37, l_38, l_39, l_40, l_41, l_42, l_43, l_44, l_45, l_46, l_47, l_48, l_49, l_50, l_51, l_52, l_53, l_54, l_55, l_56, l_57, l_59, l_60, l_61, l_62, l_63, l_64, l_65, l_80, l_86, l_87, l_88, l_89, l_90, l_91, l_92, l_93, l_94, l_95, l_97, l_99, l_100, l_107, l_119, l_122, l_124, l_129, l_140, l_141, l_142, l_143, l_144, l_145, l_147, l_150, l_159, l_160, l_161, l_162, l_205, l_253, l_255, l_256, l_269, l_305, l_380, l_399, l_400, l_420, l_430, l_516, l_600, l_720, l_820, l_905, l_921, l_937, l_953, l_970, l_999, l_1000, l_1790, l_4096, l_9999, l_1000000]
  · have hV : ∀ a, a ≠ 80+me → a ≠ 119+me → a ≠ 124+me → a ≠ 87 → (a < 20 ∨ 80 ≤ a) → y_kV V me (nI x) (nI y) (nI z) a = V a := fun a n1 n2 n3 n4 n5 => by
      unfold y_kV
      rw [if_neg n1, if_neg n2, if_neg n3, if_neg n4, if_neg (by omega)]
    have hVl : ∀ m k, m < 12 → k < 5 → k ≠ me → y_kV V me (nI x) (nI y) (nI z) (20+5*m+k) = V (20+5*m+k) := fun m k hm hk hne => by
      unfold y_kV
      rw [if_neg (by omega), if_neg (by omega), if_neg (by omega), if_neg (by omega), if_neg (by omega)]
    have v80 : y_kV V me (nI x) (nI y) (nI z) (80+me) = nI x := if_pos rfl
    have v119 : y_kV V me (nI x) (nI y) (nI z) (119+me) = nI y := by
      unfold y_kV
      rw [if_neg (by omega), if_pos rfl]
    have v124 : y_kV V me (nI x) (nI y) (nI z) (124+me) = nI z := by
      unfold y_kV
      rw [if_neg (by omega), if_neg (by omega), if_pos rfl]
    have v87 : y_kV V me (nI x) (nI y) (nI z) 87 = nI (me+1) := by
      unfold y_kV
      rw [if_neg (by omega), if_neg (by omega), if_neg (by omega), if_pos rfl]
    have v20 : ∀ m, m < 12 → y_kV V me (nI x) (nI y) (nI z) (20+5*m+me) = nI 30 := fun m hm => by
      unfold y_kV
      rw [if_neg (by omega), if_neg (by omega), if_neg (by omega), if_neg (by omega), if_pos (by omega)]
    have efr : ∀ o, o ≠ 61 → (q_up (q_up (q_up (q_up (q_up σ 7 me (nI x)) 8 me (nI y)) 9 me (nI z)) 2 9 (nI (me+1))) 61 1 (nI 0)) o = (q_up (q_up (q_up (q_up σ 7 me (nI x)) 8 me (nI y)) 9 me (nI z)) 2 9 (nI (me+1))) o := fun o o3 => z_upO o3
    have e61 : (q_up (q_up (q_up (q_up (q_up σ 7 me (nI x)) 8 me (nI y)) 9 me (nI z)) 2 9 (nI (me+1))) 61 1 (nI 0)) 61 1 = nI 0 := z_upS
    have efo : ∀ o, o = 62 ∨ o = 142 ∨ o = 155 → (q_up (q_up (q_up (q_up (q_up σ 7 me (nI x)) 8 me (nI y)) 9 me (nI z)) 2 9 (nI (me+1))) 61 1 (nI 0)) o = σ o := fun o ho => by rw [efr o (by omega), z_upO (by omega), z_upO (by omega), z_upO (by omega), z_upO (by omega)]
    generalize q_up (q_up (q_up (q_up (q_up σ 7 me (nI x)) 8 me (nI y)) 9 me (nI z)) 2 9 (nI (me+1))) 61 1 (nI 0) = τ at *
    generalize y_kV V me (nI x) (nI y) (nI z) = W at *
    obtain ⟨⟨f1, f2, f3, f4, ⟨s, hs, f5⟩, f6, f7, f8, f9, f10, f11, f12⟩, hT, hWT⟩ := hC
    obtain ⟨⟨p1, p2, p3, p4, p5, p6, p7, p8, p9⟩, t1, t2, t3, t4, t5, t6⟩ := hT.un
    have hW : ∀ a, a ≠ 87 → a < 20 ∨ (85 ≤ a ∧ a < 119) ∨ 129 ≤ a → W a = V a := fun a a1 a2 => hV a (by omega) (by omega) (by omega) a1 (by omega)
    have ec : ∀ o, 3 ≤ o → o ≤ 60 → o ≠ 7 → o ≠ 8 → o ≠ 9 → τ o = σ o := fun o o1 o2 o3 o4 o5 => by rw [efr o (by omega), z_upO (by omega), z_upO (by omega), z_upO (by omega), z_upO (by omega)]
    have e2 : ∀ a, a ≠ 9 → τ 2 a = σ 2 a := fun a ha => by rw [efr 2 (by omega), z_upK ha, z_upO (by omega), z_upO (by omega), z_upO (by omega)]
    have e29 : τ 2 9 = nI (me+1) := by rw [efr 2 (by omega)]; exact z_upS
    have e7 : ∀ a, a ≠ me → τ 7 a = σ 7 a := fun a ha => by rw [efr 7 (by omega), z_upO (by omega), z_upO (by omega), z_upO (by omega), z_upK ha]
    have e7m : τ 7 me = nI x := by rw [efr 7 (by omega), z_upO (by omega), z_upO (by omega), z_upO (by omega)]; exact z_upS
    have e8 : ∀ a, a ≠ me → τ 8 a = σ 8 a := fun a ha => by rw [efr 8 (by omega), z_upO (by omega), z_upO (by omega), z_upK ha, z_upO (by omega)]
    have e8m : τ 8 me = nI y := by rw [efr 8 (by omega), z_upO (by omega), z_upO (by omega)]; exact z_upS
    have e9 : ∀ a, a ≠ me → τ 9 a = σ 9 a := fun a ha => by rw [efr 9 (by omega), z_upO (by omega), z_upK ha, z_upO (by omega), z_upO (by omega)]
    have e9m : τ 9 me = nI z := by rw [efr 9 (by omega), z_upO (by omega)]; exact z_upS
    have hop : ∀ d : Int32, z_op d me → z_op d (me+1) := fun d hd => by
      rcases hd with q | ⟨k, q1, q2⟩
      · exact Or.inl q
      · exact Or.inr ⟨k, by omega, q2⟩
    refine z_CS.told h ⟨⟨f1, by omega, by rw [hW 86 (by omega) (by omega)]; exact f3, v87, ⟨s, hs, by rw [hW 7 (by omega) (by omega)]; exact f5⟩, fun m hm => ?_, fun m k hm hk => ?_, fun k hk => ?_, ?_, ?_, ?_, ?_⟩, ?_⟩ (z_TR.mk ⟨?_, e29, ?_, ?_, ?_, ?_, ?_, ?_, ?_⟩ (fun m hm => ?_) (fun m hm => ?_) (fun m m1 m2 => ?_) (fun k hk => ?_) (fun m k hm hk => ?_) (fun m k hm hk hq => ?_)) ?_ ?_ (by rw [hW 6 (by omega) (by omega)]) ?_ e61 efo
    · rw [hW (8+m) (by omega) (by omega), hW (95+m) (by omega) (by omega), hW (107+m) (by omega) (by omega)]
      exact ⟨hop _ (f6 m hm).1, (f6 m hm).2⟩
    · by_cases q : k = me
      · subst q
        rw [v20 m (by omega)]
        exact ⟨30, by omega, rfl⟩
      · rw [hVl m k (by omega) (by omega) q]
        exact f7 m k hm (by omega)
    · by_cases q : k = me
      · subst q
        rw [v80, v119, v124]
        exact ⟨⟨x, by omega, rfl⟩, ⟨y, by omega, rfl⟩, ⟨z, by omega, rfl⟩⟩
      · rw [hV (80+k) (by omega) (by omega) (by omega) (by omega) (by omega), hV (119+k) (by omega) (by omega) (by omega) (by omega) (by omega), hV (124+k) (by omega) (by omega) (by omega) (by omega) (by omega)]
        exact f8 k (by omega)
    · rw [hW 1 (by omega) (by omega)]; exact f9
    · rw [hW 2 (by omega) (by omega)]; exact hop _ f10
    · rw [hW 6 (by omega) (by omega)]; exact f11
    · rw [hW 88 (by omega) (by omega)]; exact f12
    · rw [hW 0 (by omega) (by omega)]; exact h.2.1
    · rw [e2 8 (by omega)]; exact p1
    · rw [e2 10 (by omega), hW 5 (by omega) (by omega)]; exact p3
    · rw [e2 11 (by omega), hW 88 (by omega) (by omega)]; exact p4
    · rw [e2 12 (by omega), hW 1 (by omega) (by omega)]; exact p5
    · rw [e2 13 (by omega), hW 2 (by omega) (by omega)]; exact p6
    · rw [e2 14 (by omega), hW 3 (by omega) (by omega)]; exact p7
    · rw [e2 15 (by omega), hW 4 (by omega) (by omega)]; exact p8
    · rw [e2 16 (by omega), hW 0 (by omega) (by omega)]; exact p9
    · rw [ec 3 (by omega) (by omega) (by omega) (by omega) (by omega), ec 4 (by omega) (by omega) (by omega) (by omega) (by omega), ec 6 (by omega) (by omega) (by omega) (by omega) (by omega), hW (8+m) (by omega) (by omega), hW (95+m) (by omega) (by omega), hW (107+m) (by omega) (by omega)]
      exact t1 m hm
    · rw [ec 5 (by omega) (by omega) (by omega) (by omega) (by omega), hW 7 (by omega) (by omega)]; exact t2 m hm
    · rw [ec 6 (by omega) (by omega) (by omega) (by omega) (by omega)]; exact t3 m m1 m2
    · by_cases q : k = me
      · subst q
        rw [e7m, e8m, e9m, v80, v119, v124]
        exact ⟨rfl, rfl, rfl⟩
      · rw [e7 k q, e8 k q, e9 k q, hV (80+k) (by omega) (by omega) (by omega) (by omega) (by omega), hV (119+k) (by omega) (by omega) (by omega) (by omega) (by omega), hV (124+k) (by omega) (by omega) (by omega) (by omega) (by omega)]
        exact t4 k (by omega)
    · rw [ec 10 (by omega) (by omega) (by omega) (by omega) (by omega)]
      by_cases q : k = me
      · subst q
        rw [v20 m (by omega)]
        exact t6 m k (by omega) (by omega) (Or.inr (Nat.le_refl _))
      · rw [hVl m k (by omega) (by omega) q]
        exact t5 m k hm (by omega)
    · rw [ec 10 (by omega) (by omega) (by omega) (by omega) (by omega)]
      exact t6 m k hm hk (by omega)
    · exact (z_WT.grow hWT (Nat.le_refl mu) (Nat.le_succ me) (fun a ha => hW a (by omega) (by omega)) (fun m hm => Or.inl (hW _ (by omega) (by omega)))).fr (fun o o1 o2 o3 => ec o (by omega) (by omega) (by omega) (by omega) (by omega))
    · obtain ⟨w, b1, b2, b3, b4⟩ := h.1.2
      refine ⟨w, b1, by rw [e2 17 (by omega)]; exact b2, by rw [hW 6 (by omega) (by omega)]; exact b3, fun i c hi hc => ?_⟩
      rw [ec _ (by omega) (by omega) (by omega) (by omega) (by omega), hW _ (by omega) (by omega)]
      exact b4 i c hi hc
    · exact h.2.2.2.2.1.fr (fun o o1 o2 => ec o (by omega) (by omega) (by omega) (by omega) (by omega))
end MK
