/-! a text said: fed piece by piece, ended -/
theorem z_byN {X k : Nat} (hX : X < 2147483648) (hk : k < 4) : z_by (nI X) k = nI (X / 2 ^ (24 - 8 * k) % 256) := by
  have hm : (nI 255).toBitVec.toNat = 2 ^ 8 - 1 := by decide
  have e0 : (nI X).toBitVec.toNat = X := by
    have h1 : (nI X).toInt = X := nI_toInt hX
    have h2 : (nI X).toInt = (nI X).toBitVec.toInt := rfl
    rw [h2, BitVec.toInt_eq_toNat_cond] at h1
    have := (nI X).toBitVec.isLt
    split at h1 <;> omega
  have e1 : (q_ushr (nI X) (nI (24 - 8 * k))).toBitVec.toNat = X / 2 ^ (24 - 8 * k) := by
    have := pk_ushr (nI X) (nI (24 - 8 * k)) (24 - 8 * k) (by
      have : k = 0 ∨ k = 1 ∨ k = 2 ∨ k = 3 := by omega
      rcases this with rfl | rfl | rfl | rfl <;> decide)
    rw [e0] at this
    exact this
  unfold z_by
  rw [pk_and _ 8 hm, e1]
theorem c_feed {l : Nat} {w0 w1 w2 w3 w4 : Int32} {σ : q_Sto} (hl : l ≤ 380) (h : σ 142 1 = nI l) : ∃ σ', (∀ o, o ≠ 142 → o ≠ 143 → σ' o = σ o) ∧ σ' 142 1 = nI (l+20) ∧ (∀ k, k < 4 → σ' 143 (l+k) = z_by w0 k ∧ σ' 143 (l+4+k) = z_by w1 k ∧ σ' 143 (l+8+k) = z_by w2 k ∧ σ' 143 (l+12+k) = z_by w3 k ∧ σ' 143 (l+16+k) = z_by w4 k) ∧ (∀ i, i < l → σ' 143 i = σ 143 i) ∧ f_X11_feed q_F 0 w0 w1 w2 w3 w4 σ = some (nI (l+20), σ') := by
  obtain ⟨s1, a1, a2, a3, a4, a5, a6⟩ := c_add (n := q_F) (x := w0) (by unfold q_F; omega) (show l + 4 ≤ 400 by omega) h
  obtain ⟨s2, b1, b2, b3, b4, b5, b6⟩ := c_add (n := q_F) (x := w1) (by unfold q_F; omega) (show l + 4 + 4 ≤ 400 by omega) a3
  obtain ⟨s3, c1, c2, c3, c4, c5, c6⟩ := c_add (n := q_F) (x := w2) (by unfold q_F; omega) (show l + 4 + 4 + 4 ≤ 400 by omega) b3
  obtain ⟨s4, d1, d2, d3, d4, d5, d6⟩ := c_add (n := q_F) (x := w3) (by unfold q_F; omega) (show l + 4 + 4 + 4 + 4 ≤ 400 by omega) c3
  obtain ⟨s5, e1, e2, e3, e4, e5, e6⟩ := c_add (n := q_F) (x := w4) (by unfold q_F; omega) (show l + 4 + 4 + 4 + 4 + 4 ≤ 400 by omega) d3
  refine ⟨s5, fun o o1 o2 => by rw [e1 o o1 o2, d1 o o1 o2, c1 o o1 o2, b1 o o1 o2, a1 o o1 o2], e3, fun k hk => ⟨?_, ?_, ?_, ?_, e4 k hk⟩, fun i hi => by rw [e5 i (by omega), d5 i (by omega), c5 i (by omega), b5 i (by omega), a5 i hi], ?_⟩
  · rw [e5 _ (by omega), d5 _ (by omega), c5 _ (by omega), b5 _ (by omega)]; exact a4 k hk
  · rw [e5 _ (by omega), d5 _ (by omega), c5 _ (by omega)]; exact b4 k hk
  · rw [e5 _ (by omega), d5 _ (by omega)]; exact c4 k hk
  · rw [e5 _ (by omega)]; exact d4 k hk
  · unfold f_X11_feed
    simp (disch := omega) only [h, a6, b6, c6, d6, e6, e3, ↓reduceIte, ↓p_ld, ↓p_st, ↓p_nm, ↓p_nS, ↓p_jn, ↓p_call, ↓p_callv, ↓p_dv, ↓p_rem, h_ldE, h_stE, h_nmE, h_nSE, h_callE, h_callvE, h_dvE, h_remE, if_true, if_false, z_upS, z_upO, z_upK, nI_add, z_mul, z_sub, z_div, Nat.add_zero, Nat.mul_zero, Nat.zero_add, Nat.sub_zero, Nat.zero_mul, z_ltT, z_ltF, z_leT, z_leF, z_eqT, z_eqF, z_inT, z_clT, not_true_eq_false, not_false_eq_true, eq_self, true_or, or_true, z_m_lt, z_m_le, z_lt_m, z_le_m, z_eq_m, z_m_eq, z_rz0, z_rz1, z_m_add, z_of, r_0_0, r_0_1, r_0_3, r_0_4, r_0_5, r_0_6, r_0_7, r_0_8, r_0_9, r_0_10, r_1_0, r_1_1, r_1_2, r_1_3, r_1_4, r_1_5, r_1_6, r_1_7, r_1_8, r_2_0, r_2_1, r_2_2, r_2_3, r_2_4, r_2_5, r_2_6, r_2_7, r_11_0, r_11_1, r_11_2, r_11_3, r_11_4, r_11_5, r_11_6, r_19_0, r_21_0, r_23_0, r_25_0, r_27_0, r_61_0, r_117_0, r_117_1, r_117_2, r_117_3, r_117_4, r_117_5, r_117_6, r_117_7, r_126_0, r_126_1, r_126_2, r_126_3, r_126_4, r_132_0, r_132_1, r_135_0, r_135_1, r_135_2, r_135_3, r_135_4, r_135_5, r_142_0, r_144_0, r_144_1, r_144_2, r_145_0, r_145_1, r_145_2, r_145_3, r_145_4, r_145_5, r_145_6, r_154_0, r_154_1, r_155_0, ↓z_m1, l_0, l_1, l_2, l_3, l_4, l_5, l_6, l_7, l_8, l_9, l_10, l_11, l_12, l_13, l_14, l_15, l_16, l_17, l_18, l_19, l_20, l_21, l_22, l_23, l_24, l_25, l_26, l_27, l_28, l_29, l_30, l_31, l_32, l_33, l_34, l_35, l_36, l_37, l_38, l_39, l_40, l_41, l_42, l_43, l_44, l_45, l_46, l_47, l_48, l_49, l_50, l_51, l_52, l_53, l_54, l_55, l_56, l_57, l_59, l_60, l_61, l_62, l_63, l_64, l_65, l_80, l_86, l_87, l_88, l_89, l_90, l_91, l_92, l_93, l_94, l_95, l_97, l_99, l_100, l_107, l_119, l_122, l_124, l_129, l_140, l_141, l_142, l_143, l_144, l_145, l_147, l_150, l_159, l_160, l_161, l_162, l_205, l_253, l_255, l_256, l_269, l_305, l_380, l_399, l_400, l_420, l_430, l_516, l_600, l_720, l_820, l_905, l_921, l_937, l_953, l_970, l_999, l_1000, l_1790, l_4096, l_9999, l_1000000]
theorem c_end {l k : Nat} {σ : q_Sto} (h : σ 142 1 = nI l) (hk : k ≤ l) (hl : l < 1000) : f_X11_end q_F 0 (nI k) σ = some (nI 1, q_up σ 142 1 (nI k)) := by
  unfold f_X11_end
  simp (disch := omega) only [h, ↓reduceIte, ↓p_ld, ↓p_st, ↓p_nm, ↓p_nS, ↓p_jn, ↓p_call, ↓p_callv, ↓p_dv, ↓p_rem, h_ldE, h_stE, h_nmE, h_nSE, h_callE, h_callvE, h_dvE, h_remE, if_true, if_false, z_upS, z_upO, z_upK, nI_add, z_mul, z_sub, z_div, Nat.add_zero, Nat.mul_zero, Nat.zero_add, Nat.sub_zero, Nat.zero_mul, z_ltT, z_ltF, z_leT, z_leF, z_eqT, z_eqF, z_inT, z_clT, not_true_eq_false, not_false_eq_true, eq_self, true_or, or_true, z_m_lt, z_m_le, z_lt_m, z_le_m, z_eq_m, z_m_eq, z_rz0, z_rz1, z_m_add, z_of, r_0_0, r_0_1, r_0_3, r_0_4, r_0_5, r_0_6, r_0_7, r_0_8, r_0_9, r_0_10, r_1_0, r_1_1, r_1_2, r_1_3, r_1_4, r_1_5, r_1_6, r_1_7, r_1_8, r_2_0, r_2_1, r_2_2, r_2_3, r_2_4, r_2_5, r_2_6, r_2_7, r_11_0, r_11_1, r_11_2, r_11_3, r_11_4, r_11_5, r_11_6, r_19_0, r_21_0, r_23_0, r_25_0, r_27_0, r_61_0, r_117_0, r_117_1, r_117_2, r_117_3, r_117_4, r_117_5, r_117_6, r_117_7, r_126_0, r_126_1, r_126_2, r_126_3, r_126_4, r_132_0, r_132_1, r_135_0, r_135_1, r_135_2, r_135_3, r_135_4, r_135_5, r_142_0, r_144_0, r_144_1, r_144_2, r_145_0, r_145_1, r_145_2, r_145_3, r_145_4, r_145_5, r_145_6, r_154_0, r_154_1, r_155_0, ↓z_m1, l_0, l_1, l_2, l_3, l_4, l_5, l_6, l_7, l_8, l_9, l_10, l_11, l_12, l_13, l_14, l_15, l_16, l_17, l_18, l_19, l_20, l_21, l_22, l_23, l_24, l_25, l_26, l_27, l_28, l_29, l_30, l_31, l_32, l_33, l_34, l_35, l_36, l_37, l_38, l_39, l_40, l_41, l_42, l_43, l_44, l_45, l_46, l_47, l_48, l_49, l_50, l_51, l_52, l_53, l_54, l_55, l_56, l_57, l_59, l_60, l_61, l_62, l_63, l_64, l_65, l_80, l_86, l_87, l_88, l_89, l_90, l_91, l_92, l_93, l_94, l_95, l_97, l_99, l_100, l_107, l_119, l_122, l_124, l_129, l_140, l_141, l_142, l_143, l_144, l_145, l_147, l_150, l_159, l_160, l_161, l_162, l_205, l_253, l_255, l_256, l_269, l_305, l_380, l_399, l_400, l_420, l_430, l_516, l_600, l_720, l_820, l_905, l_921, l_937, l_953, l_970, l_999, l_1000, l_1790, l_4096, l_9999, l_1000000]
def y_ch (m : List Nat) (t : Nat) : Nat := if t < m.length then m.getD t 0 else 32
theorem y_ch_lt {m : List Nat} (h : ∀ j, j < m.length → m.getD j 0 < 128) (t : Nat) : y_ch m t < 128 := by
  unfold y_ch
  split
  · rename_i q; exact h t q
  · omega
/-- of a word c bytes taken -/
def y_pv (m : List Nat) (at0 : Nat) : Nat → Nat
  | 0 => 0
  | c + 1 => 256 * y_pv m at0 c + y_ch m (at0 + c)
theorem y_pv_lt {m : List Nat} (h : ∀ j, j < m.length → m.getD j 0 < 128) (a c : Nat) : y_pv m a (c+1) < 128 * 256 ^ c := by
  induction c with
  | zero =>
    have := y_ch_lt h (a + 0)
    show 256 * 0 + y_ch m (a + 0) < 128 * 1
    omega
  | succ c ih =>
    have := y_ch_lt h (a + (c+1))
    have e : y_pv m a (c+1+1) = 256 * y_pv m a (c+1) + y_ch m (a + (c+1)) := rfl
    rw [e, Nat.pow_succ]
    omega
theorem y_chr_all : (List.range 128).all (fun b => decide (((nI b &&& (255 : Int32)).toUInt32 % 65536).toInt32 = nI b) && decide (((nI b).toUInt32 % 65536).toInt32 = nI b)) = true := by decide +kernel
theorem y_chr {b : Nat} (h : b < 128) : ((nI b &&& (255 : Int32)).toUInt32 % 65536).toInt32 = nI b ∧ ((nI b).toUInt32 % 65536).toInt32 = nI b := by
  have := List.all_eq_true.mp y_chr_all b (List.mem_range.mpr h)
  simp only [Bool.and_eq_true, decide_eq_true_eq] at this
  exact this
section SAY
variable {n : Nat} {u : x_U} {s sv : Nat} {m : List Nat}
theorem S_chat {i : Nat} (g : y_ST u s sv m) (hi : i < m.length) (hm : m.length < 100000) : F_J0_charAt_5068e n s (nI i) u = some (nI (m.getD i 0), u) := by
  obtain ⟨⟨g1, g2, g3, g4⟩, ⟨t, ht, g5⟩, g6, g7, -⟩ := g
  obtain ⟨c1, c2⟩ := y_chr (g7 i hi)
  have eL : F_J0_isLatin1_aae02 n s u = some (nI 1, u) := by
    unfold F_J0_isLatin1_aae02
    rw [if_neg (by decide), p_xgi, h_xgiE g1, g3]
    rfl
  have eC : F_J0_checkIndex_df160 n (nI i) (nI m.length) u = some (0, u) := by
    unfold F_J0_checkIndex_df160 F_J3_checkIndex_8e157
    rw [if_neg (by rw [show (0 : Int32) = nI 0 from rfl, nI_ltI (by omega) (by omega)]; omega), if_pos ((nI_ltI (by omega) (by omega)).mpr hi), z_xcall]
  have e1 : F_J1_charAt_3b067 n sv (nI i) u = some (nI (m.getD i 0), u) := by
    unfold F_J1_charAt_3b067
    rw [p_xlen, h_xlenE g5 (by omega), eC, z_xcall, p_xlb, h_xlbE g5 ht hi (by omega), g6 i hi, c1]
    unfold x_rc
    rw [if_pos c2]
  unfold F_J0_charAt_5068e
  rw [p_xo, h_xoE g1, eL, z_xcall, if_neg (by decide), p_xgr, h_xgrE g1, g2, e1, z_xcall]
  unfold x_rc
  rw [if_pos c2]
/-- twenty bytes laid into five words -/
def y_w5 (m : List Nat) (at0 i k : Nat) : Nat := if i ≤ 4 * k then 0 else y_pv m (at0 + 4 * k) (min (i - 4 * k) 4)
theorem y_w5_st {m : List Nat} {at0 i : Nat} (h : ∀ j, j < m.length → m.getD j 0 < 128) (hi : i < 20) : (nI (y_w5 m at0 i (i / 4)) <<< (nI 8 &&& nI 31)) ||| nI (y_ch m (at0 + i)) = nI (y_w5 m at0 (i+1) (i / 4)) := by
  have hc := y_ch_lt h (at0 + i)
  have e : y_w5 m at0 (i+1) (i/4) = 256 * y_w5 m at0 i (i/4) + y_ch m (at0 + i) := by
    unfold y_w5
    rw [if_neg (by omega)]
    by_cases q : i ≤ 4 * (i/4)
    · rw [if_pos q, show min (i + 1 - 4 * (i/4)) 4 = 0 + 1 by omega]
      show 256 * y_pv m (at0 + 4 * (i/4)) 0 + y_ch m (at0 + 4 * (i/4) + 0) = _
      rw [show at0 + 4 * (i/4) + 0 = at0 + i by omega]
      rfl
    · rw [if_neg q, show min (i - 4 * (i/4)) 4 = i - 4 * (i/4) by omega, show min (i + 1 - 4 * (i/4)) 4 = (i - 4 * (i/4)) + 1 by omega]
      show 256 * y_pv m (at0 + 4 * (i/4)) (i - 4 * (i/4)) + y_ch m (at0 + 4 * (i/4) + (i - 4 * (i/4))) = _
      rw [show at0 + 4 * (i/4) + (i - 4 * (i/4)) = at0 + i by omega]
  have hlt : y_w5 m at0 i (i/4) < 128 * 256 ^ 2 := by
    unfold y_w5
    by_cases q : i ≤ 4 * (i/4)
    · rw [if_pos q]; decide
    · rw [if_neg q]
      have hc3 : i - 4 * (i/4) = 0 + 1 ∨ i - 4 * (i/4) = 1 + 1 ∨ i - 4 * (i/4) = 2 + 1 := by omega
      rcases hc3 with x | x | x
      · rw [x, show min (0 + 1) 4 = 0 + 1 from rfl]
        have := y_pv_lt h (at0 + 4 * (i/4)) 0
        omega
      · rw [x, show min (1 + 1) 4 = 1 + 1 from rfl]
        have := y_pv_lt h (at0 + 4 * (i/4)) 1
        omega
      · rw [x, show min (2 + 1) 4 = 2 + 1 from rfl]
        have := y_pv_lt h (at0 + 4 * (i/4)) 2
        omega
  rw [pk_shlN _ 8 (z_sh31 (by omega)) (by omega), z_or, e]
  congr 1
  have := Nat.two_pow_add_eq_or_of_lt (i := 8) (b := y_ch m (at0 + i)) (by omega) (y_w5 m at0 i (i/4))
  rw [Nat.mul_comm (y_w5 m at0 i (i/4)) (2 ^ 8), ← this]
theorem y_w5_k {m : List Nat} {at0 i k : Nat} (hk : k ≠ i / 4) : y_w5 m at0 (i+1) k = y_w5 m at0 i k := by
  unfold y_w5
  by_cases q : i ≤ 4 * k
  · by_cases q2 : i + 1 ≤ 4 * k
    · rw [if_pos q, if_pos q2]
    · omega
  · rw [if_neg q, if_neg (by omega), show min (i + 1 - 4 * k) 4 = min (i - 4 * k) 4 by omega]
theorem S_L17 {q : Nat} (g : y_ST u s sv m) (hm : m.length ≤ 400) (at0 : Nat) (ha : at0 ≤ 400) (hs : s ≠ q) (hsv : sv ≠ q) (hq : q < 500000) : ∀ j i w, i ≤ 20 → 20 < j + i → x_fr (fun z => z = q) u w → x_n w = x_n u → x_m w = x_m u → x_k w = x_k u → x_k w q = .inr (5, 0) → (∀ k, k < 5 → x_t w q k = nI (y_w5 m at0 i k)) →
    ∃ w', x_fr (fun z => z = q) u w' ∧ x_n w' = x_n u ∧ x_m w' = x_m u ∧ x_k w' = x_k u ∧ x_k w' q = .inr (5, 0) ∧ (∀ k, k < 5 → x_t w' q k = nI (y_w5 m at0 20 k)) ∧ ∀ K : x_U → Option (Int32 × x_U), F_L_say_L17 n s (nI at0) q K j (nI i) w = K w' := by
  intro j
  induction j with
  | zero => intro i w h1 h2; omega
  | succ j ih =>
    intro i w h1 h2 hf hn hmm hk hkq ht
    by_cases hi : i = 20
    · subst hi
      refine ⟨w, hf, hn, hmm, hk, hkq, ht, fun K => ?_⟩
      rw [F_L_say_L17]
      simp (disch := first | omega | ((try simp (disch := omega) only [xs_k_ui, xs_k_ur, xs_k_uc, xs_k_un, xs_k_ub, xs_r_ui, xs_r_ur, xs_r_uc, xs_r_un, xs_r_ub, xs_t_ui, xs_t_ur, xs_t_uc, xs_t_un, xs_t_ub, xs_n_ui, xs_n_ur, xs_n_uc, xs_n_un, xs_n_ub, xs_m_ui, xs_m_ur, xs_m_uc, xs_m_un, xs_m_ub, xs_c_ui, xs_c_ur, xs_c_uc, xs_c_un, xs_c_ub, x_up_s, x_up_k, x_up_o, x_fU_s, x_fU_o]) <;> first | rfl | omega | (refine (?_ : (_ : Bool) = true); with_unfolding_all rfl)) | fail) only [↓p_xgi, ↓p_xgr, ↓p_xpi, ↓p_xpr, ↓p_xo, ↓p_xld, ↓p_xlb, ↓p_xlr, ↓p_xst, ↓p_xsb, ↓p_xsr, ↓p_xlen, ↓p_xnew, ↓p_xnwa, ↓p_xcln, ↓p_xcst, ↓p_xcall, ↓p_xcalc, ↓p_xnm, ↓p_xdv, ↓p_xrem, h_xgiE, h_xgrE, h_xpiE, h_xprE, h_xoE, h_xldE, h_xlbE, h_xlrE, h_xstE, h_xsbE, h_xsrE, h_xlenE, h_xnewE, h_xnwaE, h_xclnE, h_xcstE, h_xcallE, h_xcalcE, h_xnmE, h_xdvE, h_xremE, xs_k_ui, xs_k_ur, xs_k_uc, xs_k_un, xs_k_ub, xs_r_ui, xs_r_ur, xs_r_uc, xs_r_un, xs_r_ub, xs_t_ui, xs_t_ur, xs_t_uc, xs_t_un, xs_t_ub, xs_n_ui, xs_n_ur, xs_n_uc, xs_n_un, xs_n_ub, xs_m_ui, xs_m_ur, xs_m_uc, xs_m_un, xs_m_ub, xs_c_ui, xs_c_ur, xs_c_uc, xs_c_un, xs_c_ub, x_up_s, x_up_k, x_up_o, x_fU_s, x_fU_o, ↓reduceIte, h_ldE, h_stE, h_nmE, h_nSE, h_callE, h_callvE, h_dvE, h_remE, if_true, if_false, z_upS, z_upO, z_upK, nI_add, z_mul, z_sub, z_div, Nat.add_zero, Nat.mul_zero, Nat.zero_add, Nat.sub_zero, Nat.zero_mul, z_ltT, z_ltF, z_leT, z_leF, z_eqT, z_eqF, z_inT, z_clT, not_true_eq_false, not_false_eq_true, eq_self, true_or, or_true, z_m_lt, z_m_le, z_lt_m, z_le_m, z_eq_m, z_m_eq, z_rz0, z_rz1, z_m_add, z_of, ↓z_m1, l_0, l_1, l_2, l_3, l_4, l_5, l_6, l_7, l_8, l_9, l_10, l_11, l_12, l_13, l_14, l_15, l_16, l_17, l_18, l_19, l_20, l_21, l_22, l_23, l_24, l_25, l_26, l_27, l_28, l_29, l_30, l_31, l_32, l_33, l_34, l_35, l_36, l_37, l_38, l_39, l_40, l_41, l_42, l_43, l_44, l_45, l_46, l_47, l_48, l_49, l_50, l_51, l_52, l_53, l_54, l_55, l_56, l_57, l_59, l_60, l_61, l_62, l_63, l_64, l_65, l_80, l_86, l_87, l_88, l_89, l_90, l_91, l_92, l_93, l_94, l_95, l_97, l_99, l_100, l_107, l_119, l_122, l_124, l_129, l_140, l_141, l_142, l_143, l_144, l_145, l_147, l_150, l_159, l_160, l_161, l_162, l_205, l_253, l_255, l_256, l_269, l_305, l_380, l_399, l_400, l_420, l_430, l_516, l_600, l_720, l_820, l_905, l_921, l_937, l_953, l_970, l_999, l_1000, l_1790, l_4096, l_9999, l_1000000]
    · have hi2 : i < 20 := by omega
      have gw : y_ST w s sv m := g.fr hf hs hsv
      have eL := S_len (n := n) gw
      have hks := gw.1.1
      have est := y_w5_st (at0 := at0) g.2.2.2.1 hi2
      obtain ⟨w', f1, f2, f3, f4, f5, f6, f7⟩ := ih (i+1) (x_ui w q (i/4) (nI (y_w5 m at0 (i+1) (i/4)))) (by omega) (by omega) (hf.tr (x_fr.ui rfl)) hn hmm hk hkq (fun k hk5 => by
        by_cases c : k = i/4
        · subst c; exact x_up_s
        · rw [y_w5_k c]
          exact (x_up_k c).trans (ht k hk5))
      refine ⟨w', f1, f2, f3, f4, f5, f6, fun K => ?_⟩
      have t4 := ht (i/4) (by omega)
      rw [← f7 K, F_L_say_L17]
      have hd : nI i / nI 4 = nI (i/4) := z_div (by omega) (by omega) (by omega)
      by_cases c : at0 + i < m.length
      · have eC := S_chat (n := n) gw c (by omega)
        have ech : m.getD (at0 + i) 0 = y_ch m (at0 + i) := by
          unfold y_ch
          rw [if_pos c]
        rw [ech] at eC
        simp (disch := first | omega | ((try simp (disch := omega) only [hd, hkq, t4, hks, eL, eC, est, xs_k_ui, xs_k_ur, xs_k_uc, xs_k_un, xs_k_ub, xs_r_ui, xs_r_ur, xs_r_uc, xs_r_un, xs_r_ub, xs_t_ui, xs_t_ur, xs_t_uc, xs_t_un, xs_t_ub, xs_n_ui, xs_n_ur, xs_n_uc, xs_n_un, xs_n_ub, xs_m_ui, xs_m_ur, xs_m_uc, xs_m_un, xs_m_ub, xs_c_ui, xs_c_ur, xs_c_uc, xs_c_un, xs_c_ub, x_up_s, x_up_k, x_up_o, x_fU_s, x_fU_o]) <;> first | rfl | omega | (refine (?_ : (_ : Bool) = true); with_unfolding_all rfl)) | fail) only [hd, hkq, t4, hks, eL, eC, est, ↓p_xgi, ↓p_xgr, ↓p_xpi, ↓p_xpr, ↓p_xo, ↓p_xld, ↓p_xlb, ↓p_xlr, ↓p_xst, ↓p_xsb, ↓p_xsr, ↓p_xlen, ↓p_xnew, ↓p_xnwa, ↓p_xcln, ↓p_xcst, ↓p_xcall, ↓p_xcalc, ↓p_xnm, ↓p_xdv, ↓p_xrem, h_xgiE, h_xgrE, h_xpiE, h_xprE, h_xoE, h_xldE, h_xlbE, h_xlrE, h_xstE, h_xsbE, h_xsrE, h_xlenE, h_xnewE, h_xnwaE, h_xclnE, h_xcstE, h_xcallE, h_xcalcE, h_xnmE, h_xdvE, h_xremE, xs_k_ui, xs_k_ur, xs_k_uc, xs_k_un, xs_k_ub, xs_r_ui, xs_r_ur, xs_r_uc, xs_r_un, xs_r_ub, xs_t_ui, xs_t_ur, xs_t_uc, xs_t_un, xs_t_ub, xs_n_ui, xs_n_ur, xs_n_uc, xs_n_un, xs_n_ub, xs_m_ui, xs_m_ur, xs_m_uc, xs_m_un, xs_m_ub, xs_c_ui, xs_c_ur, xs_c_uc, xs_c_un, xs_c_ub, x_up_s, x_up_k, x_up_o, x_fU_s, x_fU_o, ↓reduceIte, h_ldE, h_stE, h_nmE, h_nSE, h_callE, h_callvE, h_dvE, h_remE, if_true, if_false, z_upS, z_upO, z_upK, nI_add, z_mul, z_sub, z_div, Nat.add_zero, Nat.mul_zero, Nat.zero_add, Nat.sub_zero, Nat.zero_mul, z_ltT, z_ltF, z_leT, z_leF, z_eqT, z_eqF, z_inT, z_clT, not_true_eq_false, not_false_eq_true, eq_self, true_or, or_true, z_m_lt, z_m_le, z_lt_m, z_le_m, z_eq_m, z_m_eq, z_rz0, z_rz1, z_m_add, z_of, ↓z_m1, l_0, l_1, l_2, l_3, l_4, l_5, l_6, l_7, l_8, l_9, l_10, l_11, l_12, l_13, l_14, l_15, l_16, l_17, l_18, l_19, l_20, l_21, l_22, l_23, l_24, l_25, l_26, l_27, l_28, l_29, l_30, l_31, l_32, l_33, l_34, l_35, l_36, l_37, l_38, l_39, l_40, l_41, l_42, l_43, l_44, l_45, l_46, l_47, l_48, l_49, l_50, l_51, l_52, l_53, l_54, l_55, l_56, l_57, l_59, l_60, l_61, l_62, l_63, l_64, l_65, l_80, l_86, l_87, l_88, l_89, l_90, l_91, l_92, l_93, l_94, l_95, l_97, l_99, l_100, l_107, l_119, l_122, l_124, l_129, l_140, l_141, l_142, l_143, l_144, l_145, l_147, l_150, l_159, l_160, l_161, l_162, l_205, l_253, l_255, l_256, l_269, l_305, l_380, l_399, l_400, l_420, l_430, l_516, l_600, l_720, l_820, l_905, l_921, l_937, l_953, l_970, l_999, l_1000, l_1790, l_4096, l_9999, l_1000000]
      · have ech : nI 32 = nI (y_ch m (at0 + i)) := by
          unfold y_ch
          rw [if_neg c]
        have est2 := est
        rw [← ech] at est2
        simp (disch := first | omega | ((try simp (disch := omega) only [hd, hkq, t4, hks, eL, est2, xs_k_ui, xs_k_ur, xs_k_uc, xs_k_un, xs_k_ub, xs_r_ui, xs_r_ur, xs_r_uc, xs_r_un, xs_r_ub, xs_t_ui, xs_t_ur, xs_t_uc, xs_t_un, xs_t_ub, xs_n_ui, xs_n_ur, xs_n_uc, xs_n_un, xs_n_ub, xs_m_ui, xs_m_ur, xs_m_uc, xs_m_un, xs_m_ub, xs_c_ui, xs_c_ur, xs_c_uc, xs_c_un, xs_c_ub, x_up_s, x_up_k, x_up_o, x_fU_s, x_fU_o]) <;> first | rfl | omega | (refine (?_ : (_ : Bool) = true); with_unfolding_all rfl)) | fail) only [hd, hkq, t4, hks, eL, est2, ↓p_xgi, ↓p_xgr, ↓p_xpi, ↓p_xpr, ↓p_xo, ↓p_xld, ↓p_xlb, ↓p_xlr, ↓p_xst, ↓p_xsb, ↓p_xsr, ↓p_xlen, ↓p_xnew, ↓p_xnwa, ↓p_xcln, ↓p_xcst, ↓p_xcall, ↓p_xcalc, ↓p_xnm, ↓p_xdv, ↓p_xrem, h_xgiE, h_xgrE, h_xpiE, h_xprE, h_xoE, h_xldE, h_xlbE, h_xlrE, h_xstE, h_xsbE, h_xsrE, h_xlenE, h_xnewE, h_xnwaE, h_xclnE, h_xcstE, h_xcallE, h_xcalcE, h_xnmE, h_xdvE, h_xremE, xs_k_ui, xs_k_ur, xs_k_uc, xs_k_un, xs_k_ub, xs_r_ui, xs_r_ur, xs_r_uc, xs_r_un, xs_r_ub, xs_t_ui, xs_t_ur, xs_t_uc, xs_t_un, xs_t_ub, xs_n_ui, xs_n_ur, xs_n_uc, xs_n_un, xs_n_ub, xs_m_ui, xs_m_ur, xs_m_uc, xs_m_un, xs_m_ub, xs_c_ui, xs_c_ur, xs_c_uc, xs_c_un, xs_c_ub, x_up_s, x_up_k, x_up_o, x_fU_s, x_fU_o, ↓reduceIte, h_ldE, h_stE, h_nmE, h_nSE, h_callE, h_callvE, h_dvE, h_remE, if_true, if_false, z_upS, z_upO, z_upK, nI_add, z_mul, z_sub, z_div, Nat.add_zero, Nat.mul_zero, Nat.zero_add, Nat.sub_zero, Nat.zero_mul, z_ltT, z_ltF, z_leT, z_leF, z_eqT, z_eqF, z_inT, z_clT, not_true_eq_false, not_false_eq_true, eq_self, true_or, or_true, z_m_lt, z_m_le, z_lt_m, z_le_m, z_eq_m, z_m_eq, z_rz0, z_rz1, z_m_add, z_of, ↓z_m1, l_0, l_1, l_2, l_3, l_4, l_5, l_6, l_7, l_8, l_9, l_10, l_11, l_12, l_13, l_14, l_15, l_16, l_17, l_18, l_19, l_20, l_21, l_22, l_23, l_24, l_25, l_26, l_27, l_28, l_29, l_30, l_31, l_32, l_33, l_34, l_35, l_36, l_37, l_38, l_39, l_40, l_41, l_42, l_43, l_44, l_45, l_46, l_47, l_48, l_49, l_50, l_51, l_52, l_53, l_54, l_55, l_56, l_57, l_59, l_60, l_61, l_62, l_63, l_64, l_65, l_80, l_86, l_87, l_88, l_89, l_90, l_91, l_92, l_93, l_94, l_95, l_97, l_99, l_100, l_107, l_119, l_122, l_124, l_129, l_140, l_141, l_142, l_143, l_144, l_145, l_147, l_150, l_159, l_160, l_161, l_162, l_205, l_253, l_255, l_256, l_269, l_305, l_380, l_399, l_400, l_420, l_430, l_516, l_600, l_720, l_820, l_905, l_921, l_937, l_953, l_970, l_999, l_1000, l_1790, l_4096, l_9999, l_1000000]
end SAY
