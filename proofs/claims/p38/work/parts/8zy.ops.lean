/-! the law's loop: days -/
section LP
variable {p b L pl pa mu me Lx wn a B q : Nat} {xs : Nat → Int32} {d : Nat → Nat} {Fz : Nat → Prop} {V : Nat → Int32} {hs : z_Hs} {u : x_U} {S : Nat → Nat → (Nat → Int32) → Prop}
theorem y_ON.w {p' : Nat} {y25 y26 : Int32} {B' : Nat} (h : y_ON Lx xs a mu me L d u p' q y25 y26 B) (hB : B ≤ B') : y_ON Lx xs a mu me L d u p' q y25 y26 B' := by
  rcases h with ⟨h26, b, pl, pa, V, hs, wn, Fz, S, h25, g1, g2, g3, g4, g5, g6, ⟨D, g7, g8⟩, g9⟩ | ⟨h26, hs, h6, h25, b, pl, pa, V, W, wn, w', Fz, S, g1, g2, g3, g4, g5, g6, g7, ⟨D, g8, g9⟩, g10⟩
  · exact Or.inl ⟨h26, b, pl, pa, V, hs, wn, Fz, S, h25, g1, g2, g3, g4, g5, g6.w hB, ⟨D, by omega, g8⟩, g9⟩
  · exact Or.inr ⟨h26, hs, h6, h25, b, pl, pa, V, W, wn, w', Fz, S, g1, g2, g3, g4, g5, g6, g7.w hB, ⟨D, by omega, g9⟩, g10⟩
set_option maxHeartbeats 4000000 in
theorem O_days {N : Nat} {x5 : Int32} (hN1 : 1 ≤ N) (hN2 : N ≤ 6) (h : y_I Lx xs a mu me L d u p b pl pa V hs wn Fz S B) (hB : B ≤ 900) (hb : x_n u + 1500 ≤ 499000) : ∃ u' y25, y_ON Lx xs a mu me L d u' p q y25 0 (B+6) ∧ x_n u ≤ x_n u' ∧ x_n u' ≤ x_n u + 1386 ∧ x_m u' ≤ x_m u + 7392 ∧ ∀ J : Nat → Int32 → Int32 → x_U → Option (Int32 × x_U), (F_L_law_L148 q_F (x_CT + 2) p a x5 q 0 (nI N) (fun (y56 : Int32) (y57 : Int32) (s58 : x_U) =>
    x_calc s58 (f_X11_days q_F 0 (nI N) (x_c s58)) fun r60 s59 =>
    if r60 = y57 then (
    J p y56 0 s59)
    else (
    some (0, s59))) q_F (nI hs.1) 0 0 u) = J p y25 0 u' := by
  have hT := h.T
  obtain ⟨hA, hS, hWA, hz, hK, hD, ⟨D, hD1, hD2⟩, hW⟩ := h
  have hzw := hz.wn
  obtain ⟨hX, -, a1, a3, a4, a5, a6, a7⟩ := hz
  have hF : N < q_F := by unfold q_F; omega
  obtain ⟨W, hs', w', r, e0, t2, tq, tdb, tK, t6, -, tc, tl⟩ := Q_days_L (n := q_F) (N := N) (B := B+6) (p := p) (b := b) (pl := pl) (pa := pa) (a := a) rfl (by omega) N 0 0 V hs wn D (x_c u) (Nat.zero_add N) hX hK hD2 (by omega) (by omega) a3 a7 (hD.w (by omega)) hzw.2.1
  obtain ⟨σ', f1, f2, f3, f4⟩ := tc q_F hF (x_c u) hX a1
  obtain ⟨u', Fz', S', l1, l2, l3, l4, l5, l6⟩ := tl q_F hF (x_CT + 2) q x5 u Fz S hA hS hWA (by omega)
  have hW' := hW.go l5
  have ln := l5.2.1
  have lm := l5.2.2.2.1
  have lk := l5.2.2.2.2
  have hI : y_I Lx xs a mu me L d (x_uc u' σ') p b pl pa W hs' w' Fz' S' (B+6) := by
    refine ⟨l1, l2, l3, ⟨f2, ⟨D + N, by omega, e0⟩, f3, t2, a4.fr (fun o o1 o2 => f1 o (by omega)), ?_, ?_, tq⟩, tK, tdb, ⟨D + N, by omega, e0⟩, hW'⟩
    · exact (congrFun (f1 142 (by omega)) 1).trans a5
    · exact (congrFun (f1 155 (by omega)) 1).trans a6
  refine ⟨x_uc u' σ', nI hs'.1, Or.inl ⟨rfl, b, pl, pa, W, hs', w', Fz', S', rfl, hI⟩, by show x_n u ≤ x_n u'; omega, by show x_n u' ≤ _; omega, by show x_m u' ≤ _; omega, fun J => ?_⟩
  have g16 : x_c u 2 16 = nI D := by
    have := hX.1.2.1.1.2.2.2.2.2.2.2.2
    rw [this]; exact hD2
  have hw := z_w_in (lo := 1) (k := N) (hi := 60) hN1 (by omega) (by omega)
  have e99 : (9999 : Int32) - nI N = nI (9999 - N) := by
    rw [show (9999 : Int32) = nI 9999 from rfl]
    exact z_sub (by omega)
  have hle : nI D ≤ nI (9999 - N) := (nI_leI (by omega) (by omega)).mpr (by omega)
  have eD : f_X11_days q_F 0 (nI N) (x_c u') = some (nI r, σ') := by
    rw [l4]
    unfold f_X11_days
    simp (disch := omega) only [c_isWithin, hw, g16, e99, hle, ↓reduceIte, ↓p_ld, ↓p_st, ↓p_nm, ↓p_nS, ↓p_jn, ↓p_call, ↓p_callv, ↓p_dv, ↓p_rem, h_ldE, h_stE, h_nmE, h_nSE, h_callE, h_callvE, h_dvE, h_remE, if_true, if_false, z_upS, z_upO, z_upK, nI_add, z_mul, z_sub, z_div, Nat.add_zero, Nat.mul_zero, Nat.zero_add, Nat.sub_zero, Nat.zero_mul, z_ltT, z_ltF, z_leT, z_leF, z_eqT, z_eqF, z_inT, z_clT, not_true_eq_false, not_false_eq_true, eq_self, true_or, or_true, z_m_lt, z_m_le, z_lt_m, z_le_m, z_eq_m, z_m_eq, z_rz0, z_rz1, z_m_add, z_of, r_0_0, r_0_1, r_0_3, r_0_4, r_0_5, r_0_6, r_0_7, r_0_8, r_0_9, r_0_10, r_1_0, r_1_1, r_1_2, r_1_3, r_1_4, r_1_5, r_1_6, r_1_7, r_1_8, r_2_0, r_2_1, r_2_2, r_2_3, r_2_4, r_2_5, r_2_6, r_2_7, r_11_0, r_11_1, r_11_2, r_11_3, r_11_4, r_11_5, r_11_6, r_19_0, r_21_0, r_23_0, r_25_0, r_27_0, r_61_0, r_117_0, r_117_1, r_117_2, r_117_3, r_117_4, r_117_5, r_117_6, r_117_7, r_126_0, r_126_1, r_126_2, r_126_3, r_126_4, r_132_0, r_132_1, r_135_0, r_135_1, r_135_2, r_135_3, r_135_4, r_135_5, r_142_0, r_144_0, r_144_1, r_144_2, r_145_0, r_145_1, r_145_2, r_145_3, r_145_4, r_145_5, r_145_6, r_154_0, r_154_1, r_155_0, ↓z_m1, l_0, l_1, l_2, l_3, l_4, l_5, l_6, l_7, l_8, l_9, l_10, l_11, l_12, l_13, l_14, l_15, l_16, l_17, l_18, l_19, l_20, l_21, l_22, l_23, l_24, l_25, l_26, l_27, l_28, l_29, l_30, l_31, l_32, l_33, l_34, l_35, l_36, l_37, l_38, l_39, l_40, l_41, l_42, l_43, l_44, l_45, l_46, l_47, l_48, l_49, l_50, l_51, l_52, l_53, l_54, l_55, l_56, l_57, l_59, l_60, l_61, l_62, l_63, l_64, l_65, l_80, l_86, l_87, l_88, l_89, l_90, l_91, l_92, l_93, l_94, l_95, l_97, l_99, l_100, l_107, l_119, l_122, l_124, l_129, l_140, l_141, l_142, l_143, l_144, l_145, l_147, l_150, l_159, l_160, l_161, l_162, l_205, l_253, l_255, l_256, l_269, l_305, l_380, l_399, l_400, l_420, l_430, l_516, l_600, l_720, l_820, l_905, l_921, l_937, l_953, l_970, l_999, l_1000, l_1790, l_4096, l_9999, l_1000000]
    exact f4
  refine (l6 _).trans ?_
  rw [eD, z_xcalc, if_pos rfl]
end LP
