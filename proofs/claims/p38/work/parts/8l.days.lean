/-! days: the class, and the law's train with its copies -/
def y_go (dn dm : Nat) (u u' : x_U) : Prop := (∀ i, 500000 < i → x_k u' i = x_k u i ∧ x_r u' i = x_r u i ∧ x_t u' i = x_t u i) ∧ x_n u ≤ x_n u' ∧ x_m u ≤ x_m u' ∧ x_n u' ≤ x_n u + dn ∧ x_m u' ≤ x_m u + dm
theorem y_go.rf {dn dm : Nat} {u : x_U} : y_go dn dm u u := ⟨fun _ _ => ⟨rfl, rfl, rfl⟩, Nat.le_refl _, Nat.le_refl _, Nat.le_add_right _ _, Nat.le_add_right _ _⟩
theorem y_go.tr {d1 d2 d3 m1 m2 m3 : Nat} {a b c : x_U} (h : y_go d1 m1 a b) (g : y_go d2 m2 b c) (hd : d1 + d2 ≤ d3) (hm : m1 + m2 ≤ m3) : y_go d3 m3 a c := by
  obtain ⟨h1, h2, h3, h4, h5⟩ := h
  obtain ⟨g1, g2, g3, g4, g5⟩ := g
  refine ⟨fun i hi => ?_, by omega, by omega, by omega, by omega⟩
  obtain ⟨x1, x2, x3⟩ := h1 i hi
  obtain ⟨y1, y2, y3⟩ := g1 i hi
  exact ⟨y1.trans x1, y2.trans x2, y3.trans x3⟩
theorem y_go.w {d1 m1 d3 m3 : Nat} {a b : x_U} (h : y_go d1 m1 a b) (hd : d1 ≤ d3) (hm : m1 ≤ m3) : y_go d3 m3 a b := h.tr (y_go.rf (dn := 0) (dm := 0)) (by omega) (by omega)
theorem x_sp.go {own : Nat → Prop} {dn dm : Nat} {u u' : x_U} {Fz Fz' : Nat → Prop} (h : x_sp own dn dm u u' Fz Fz') (ho : ∀ i, own i → i ≤ 500000) : y_go dn dm u u' := by
  obtain ⟨⟨h1, h2, h3, h4, h5⟩, h6, h7, -⟩ := h
  refine ⟨fun i hi => ?_, h2, h3, h6, h7⟩
  have := h5 i (Or.inr hi) (fun q => by have := ho i q; omega)
  exact ⟨h4 i (Or.inr hi), this.1, this.2⟩
theorem x_fr.go {own : Nat → Prop} {dn dm : Nat} {u u' : x_U} (h : x_fr own u u') (ho : ∀ i, own i → i ≤ 500000) (h6 : x_n u' ≤ x_n u + dn) (h7 : x_m u' ≤ x_m u + dm) : y_go dn dm u u' := by
  obtain ⟨h1, h2, h3, h4, h5⟩ := h
  refine ⟨fun i hi => ?_, h2, h3, h6, h7⟩
  have := h5 i (Or.inr hi) (fun q => by have := ho i q; omega)
  exact ⟨h4 i (Or.inr hi), this.1, this.2⟩
def y_DB (hs : z_Hs) (B : Nat) : Prop := ∀ i, i < hs.1 → ∃ x, x ≤ B ∧ hs.2.1 i 0 = nI x
theorem y_DB.push {hs : z_Hs} {V : Nat → Int32} {wn B D : Nat} (h : y_DB hs B) (h6 : hs.1 ≤ 6) (h0 : V 0 = nI D) (hD : D ≤ B) : y_DB (z_push hs V wn) B := by
  have hd : ∃ d sh, d + sh = hs.1 ∧ d ≤ 5 ∧ sh ≤ 1 ∧ (sh = 1 → hs.1 = 6) := by
    by_cases q : hs.1 = 6
    · exact ⟨5, 1, by omega, by omega, by omega, fun _ => q⟩
    · exact ⟨hs.1, 0, by omega, by omega, by omega, fun q => by omega⟩
  obtain ⟨d, sh, a1, a2, a3, a4⟩ := hd
  obtain ⟨b1, b2, b3, b4⟩ := z_push_1 (hs := hs) (V := V) (wn := wn) rfl a1 a2 a3 a4
  intro i hi
  by_cases q : i = d
  · subst q
    rw [b3]
    exact ⟨D, hD, h0⟩
  · rw [(b2 i (by omega)).1]
    exact h (i + sh) (by omega)
section DA
variable {L pl pa mu me : Nat} {d : Nat → Nat} {p b a : Nat}
/-- room for one more -/
theorem F_room165 {n x0 x2 x10 : Nat} {x5 x11 x12 x13 x14 : Int32} {u : x_U} {Fz : Nat → Prop} {S : Nat → Nat → (Nat → Int32) → Prop} {hs : z_Hs} (hn : 7 ≤ n) (hA : y_AL L pl pa mu me d u Fz S) (hW : y_WA mu me u Fz a S p hs) : ∃ v, x_fr (fun z => z = a) u v ∧ x_n v = x_n u ∧ x_m v = x_m u ∧ x_k v = x_k u ∧ y_WA mu me v Fz a S p (y_sh hs) ∧
    ∀ J : Int32 → x_U → Option (Int32 × x_U), (if nI hs.1 = 6 then (F_L_law_L165 n x0 x2 a (nI hs.1) x5 x10 x11 x12 x13 x14 (fun  (s55 : x_U) => J (nI hs.1 + (-1)) s55) n 1 u) else (J (nI hs.1) u)) = J (nI (y_sh hs).1) v := by
  have h6 := hW.2.1
  by_cases c : hs.1 = 6
  · have hk : ∀ t, t < 6 → x_k u (x_r u a t) = .inl 12 := fun t ht => by
      obtain ⟨g1, b1, g2⟩ := hW.2.2.1 t (by omega)
      exact (hA.1 _ _ _ g2).k0
    obtain ⟨v, f1, f2, f3, f4, f5, f6⟩ := F_sh165 (n := n) (x0 := x0) (x2 := x2) (x10 := x10) (x4 := nI hs.1) (x5 := x5) (x11 := x11) (x12 := x12) (x13 := x13) (x14 := x14) hW.1.2.2.2.1 ⟨hW.1.2.1, hW.1.2.2.1⟩ hk n 1 u (by omega) (by omega) (by omega) x_fr.rf rfl rfl rfl (fun t ht => by rw [if_neg (by omega)])
    refine ⟨v, f1, f2, f3, f4, hW.shift c f1 f5, fun J => ?_⟩
    have e5 : (y_sh hs).1 = 5 := by
      unfold y_sh
      rw [if_pos c]
    rw [e5, c]
    rw [c] at f6
    have e1 : (nI 6 : Int32) = 6 := by decide
    have e2 : nI 6 + (-1) = nI 5 := by decide
    rw [if_pos e1, e2]
    exact f6 _
  · have es : y_sh hs = hs := by
      unfold y_sh
      rw [if_neg c]
    refine ⟨u, x_fr.rf, rfl, rfl, rfl, by rw [es]; exact hW, fun J => ?_⟩
    rw [es, if_neg (by rw [show (6 : Int32) = nI 6 from rfl, nI_eq (by omega) (by omega)]; exact c)]
theorem F_room1004 {n x0 x2 x10 : Nat} {x5 : Int32} {u : x_U} {Fz : Nat → Prop} {S : Nat → Nat → (Nat → Int32) → Prop} {hs : z_Hs} (hn : 7 ≤ n) (hA : y_AL L pl pa mu me d u Fz S) (hW : y_WA mu me u Fz a S p hs) : ∃ v, x_fr (fun z => z = a) u v ∧ x_n v = x_n u ∧ x_m v = x_m u ∧ x_k v = x_k u ∧ y_WA mu me v Fz a S p (y_sh hs) ∧
    ∀ J : Int32 → x_U → Option (Int32 × x_U), (if nI hs.1 = 6 then (F_L_law_L1004 n x0 x2 a (nI hs.1) x5 x10 (fun  (s55 : x_U) => J (nI hs.1 + (-1)) s55) n 1 u) else (J (nI hs.1) u)) = J (nI (y_sh hs).1) v := by
  have h6 := hW.2.1
  by_cases c : hs.1 = 6
  · have hk : ∀ t, t < 6 → x_k u (x_r u a t) = .inl 12 := fun t ht => by
      obtain ⟨g1, b1, g2⟩ := hW.2.2.1 t (by omega)
      exact (hA.1 _ _ _ g2).k0
    obtain ⟨v, f1, f2, f3, f4, f5, f6⟩ := F_sh1004 (n := n) (x0 := x0) (x2 := x2) (x10 := x10) (x4 := nI hs.1) (x5 := x5) hW.1.2.2.2.1 ⟨hW.1.2.1, hW.1.2.2.1⟩ hk n 1 u (by omega) (by omega) (by omega) x_fr.rf rfl rfl rfl (fun t ht => by rw [if_neg (by omega)])
    refine ⟨v, f1, f2, f3, f4, hW.shift c f1 f5, fun J => ?_⟩
    have e5 : (y_sh hs).1 = 5 := by
      unfold y_sh
      rw [if_pos c]
    rw [e5, c]
    rw [c] at f6
    have e1 : (nI 6 : Int32) = 6 := by decide
    have e2 : nI 6 + (-1) = nI 5 := by decide
    rw [if_pos e1, e2]
    exact f6 _
  · have es : y_sh hs = hs := by
      unfold y_sh
      rw [if_neg c]
    refine ⟨u, x_fr.rf, rfl, rfl, rfl, by rw [es]; exact hW, fun J => ?_⟩
    rw [es, if_neg (by rw [show (6 : Int32) = nI 6 from rfl, nI_eq (by omega) (by omega)]; exact c)]
theorem y_shle {hs : z_Hs} (h : hs.1 ≤ 6) : (y_sh hs).1 ≤ 5 := by
  unfold y_sh
  split
  · exact Nat.le_refl 5
  · omega
theorem Q_days_L {n N B : Nat} (hn : n = q_F) (hN : N ≤ 60) : ∀ j i cnt (V : Nat → Int32) (hs : z_Hs) (wn D : Nat) (σc : q_Sto), i + j = N → z_XT mu me σc V → y_LK L d V → V 0 = nI D → D + j ≤ 9999 → D + j ≤ B → z_HPu mu me hs V wn → y_HQ hs V → y_DB hs B → V 6 = nI wn →
    ∃ W hs' w' r, W 0 = nI (D + j) ∧ z_HPu mu me hs' W w' ∧ y_HQ hs' W ∧ y_DB hs' B ∧ y_LK L d W ∧ W 6 = nI w' ∧ (∃ σd, z_XT mu me σd W) ∧
      (∀ l, j < l → ∀ σ, z_XT mu me σ V → z_HCl mu me σ hs → ∃ σ', z_fY σ σ' ∧ z_XT mu me σ' W ∧ z_HCl mu me σ' hs' ∧ f_X11_days_L34 q_F 0 (nI N) l (nI cnt) (nI i) σ = some (nI r, σ')) ∧
      (∀ l, j < l → ∀ x0 x10 x5 u Fz S, y_AL L pl pa mu me d u Fz S → S p b V → y_WA mu me u Fz a S p hs → x_n u + 240 * j ≤ 499000 → ∃ u' Fz' S', y_AL L pl pa mu me d u' Fz' S' ∧ S' p b W ∧ y_WA mu me u' Fz' a S' p hs' ∧ x_c u' = x_c u ∧ y_go (231 * j) (1232 * j) u u' ∧
        ∀ K : Int32 → Int32 → x_U → Option (Int32 × x_U), F_L_law_L148 n x0 p a x5 x10 0 (nI N) K l (nI hs.1) (nI cnt) (nI i) u = K (nI hs'.1) (nI r) u') := by
  intro j
  induction j with
  | zero =>
    intro i cnt V hs wn D σc hi hc hK h0 hD hB hu hq hdb h6
    have hi : i = N := by omega
    subst hi
    refine ⟨V, hs, wn, cnt, by rw [h0]; rfl, hu, hq, hdb, hK, h6, ⟨σc, hc⟩, fun l hl σ h1 h2 => ⟨σ, fun o _ => rfl, h1, h2, ?_⟩, fun l hl x0 x10 x5 u Fz S hA hS hW hr => ⟨u, Fz, S, hA, hS, hW, rfl, y_go.rf, fun K => ?_⟩⟩
    · cases l with
      | zero => omega
      | succ l =>
        rw [f_X11_days_L34]
        simp (disch := omega) only [↓reduceIte, ↓p_ld, ↓p_st, ↓p_nm, ↓p_nS, ↓p_jn, ↓p_call, ↓p_callv, ↓p_dv, ↓p_rem, h_ldE, h_stE, h_nmE, h_nSE, h_callE, h_callvE, h_dvE, h_remE, if_true, if_false, z_upS, z_upO, z_upK, nI_add, z_mul, z_sub, z_div, Nat.add_zero, Nat.mul_zero, Nat.zero_add, Nat.sub_zero, Nat.zero_mul, z_ltT, z_ltF, z_leT, z_leF, z_eqT, z_eqF, z_inT, z_clT, not_true_eq_false, not_false_eq_true, eq_self, true_or, or_true, z_m_lt, z_m_le, z_lt_m, z_le_m, z_eq_m, z_m_eq, z_rz0, z_rz1, z_m_add, z_of, r_0_0, r_0_1, r_0_3, r_0_4, r_0_5, r_0_6, r_0_7, r_0_8, r_0_9, r_0_10, r_1_0, r_1_1, r_1_2, r_1_3, r_1_4, r_1_5, r_1_6, r_1_7, r_1_8, r_2_0, r_2_1, r_2_2, r_2_3, r_2_4, r_2_5, r_2_6, r_2_7, r_11_0, r_11_1, r_11_2, r_11_3, r_11_4, r_11_5, r_11_6, r_19_0, r_21_0, r_23_0, r_25_0, r_27_0, r_61_0, r_117_0, r_117_1, r_117_2, r_117_3, r_117_4, r_117_5, r_117_6, r_117_7, r_126_0, r_126_1, r_126_2, r_126_3, r_126_4, r_132_0, r_132_1, r_135_0, r_135_1, r_135_2, r_135_3, r_135_4, r_135_5, r_142_0, r_144_0, r_144_1, r_144_2, r_145_0, r_145_1, r_145_2, r_145_3, r_145_4, r_145_5, r_145_6, r_154_0, r_154_1, r_155_0, ↓z_m1, l_0, l_1, l_2, l_3, l_4, l_5, l_6, l_7, l_8, l_9, l_10, l_11, l_12, l_13, l_14, l_15, l_16, l_17, l_18, l_19, l_20, l_21, l_22, l_23, l_24, l_25, l_26, l_27, l_28, l_29, l_30, l_31, l_32, l_33, l_34, l_35, l_36, l_37, l_38, l_39, l_40, l_41, l_42, l_43, l_44, l_45, l_46, l_47, l_48, l_49, l_50, l_51, l_52, l_53, l_54, l_55, l_56, l_57, l_59, l_60, l_61, l_62, l_63, l_64, l_65, l_80, l_86, l_87, l_88, l_89, l_90, l_91, l_92, l_93, l_94, l_95, l_97, l_99, l_100, l_107, l_119, l_122, l_124, l_129, l_140, l_141, l_142, l_143, l_144, l_145, l_147, l_150, l_159, l_160, l_161, l_162, l_205, l_253, l_255, l_256, l_269, l_305, l_380, l_399, l_400, l_420, l_430, l_516, l_600, l_720, l_820, l_905, l_921, l_937, l_953, l_970, l_999, l_1000, l_1790, l_4096, l_9999, l_1000000]
    · cases l with
      | zero => omega
      | succ l =>
        rw [F_L_law_L148]
        simp (disch := first | omega | ((try simp (disch := omega) only [xs_k_ui, xs_k_ur, xs_k_uc, xs_k_un, xs_k_ub, xs_r_ui, xs_r_ur, xs_r_uc, xs_r_un, xs_r_ub, xs_t_ui, xs_t_ur, xs_t_uc, xs_t_un, xs_t_ub, xs_n_ui, xs_n_ur, xs_n_uc, xs_n_un, xs_n_ub, xs_m_ui, xs_m_ur, xs_m_uc, xs_m_un, xs_m_ub, xs_c_ui, xs_c_ur, xs_c_uc, xs_c_un, xs_c_ub, x_up_s, x_up_k, x_up_o, x_fU_s, x_fU_o]) <;> first | rfl | omega | (refine (?_ : (_ : Bool) = true); with_unfolding_all rfl)) | fail) only [↓p_xgi, ↓p_xgr, ↓p_xpi, ↓p_xpr, ↓p_xo, ↓p_xld, ↓p_xlb, ↓p_xlr, ↓p_xst, ↓p_xsb, ↓p_xsr, ↓p_xlen, ↓p_xnew, ↓p_xnwa, ↓p_xcln, ↓p_xcst, ↓p_xcall, ↓p_xcalc, ↓p_xnm, ↓p_xdv, ↓p_xrem, h_xgiE, h_xgrE, h_xpiE, h_xprE, h_xoE, h_xldE, h_xlbE, h_xlrE, h_xstE, h_xsbE, h_xsrE, h_xlenE, h_xnewE, h_xnwaE, h_xclnE, h_xcstE, h_xcallE, h_xcalcE, h_xnmE, h_xdvE, h_xremE, xs_k_ui, xs_k_ur, xs_k_uc, xs_k_un, xs_k_ub, xs_r_ui, xs_r_ur, xs_r_uc, xs_r_un, xs_r_ub, xs_t_ui, xs_t_ur, xs_t_uc, xs_t_un, xs_t_ub, xs_n_ui, xs_n_ur, xs_n_uc, xs_n_un, xs_n_ub, xs_m_ui, xs_m_ur, xs_m_uc, xs_m_un, xs_m_ub, xs_c_ui, xs_c_ur, xs_c_uc, xs_c_un, xs_c_ub, x_up_s, x_up_k, x_up_o, x_fU_s, x_fU_o, ↓reduceIte, h_ldE, h_stE, h_nmE, h_nSE, h_callE, h_callvE, h_dvE, h_remE, if_true, if_false, z_upS, z_upO, z_upK, nI_add, z_mul, z_sub, z_div, Nat.add_zero, Nat.mul_zero, Nat.zero_add, Nat.sub_zero, Nat.zero_mul, z_ltT, z_ltF, z_leT, z_leF, z_eqT, z_eqF, z_inT, z_clT, not_true_eq_false, not_false_eq_true, eq_self, true_or, or_true, z_m_lt, z_m_le, z_lt_m, z_le_m, z_eq_m, z_m_eq, z_rz0, z_rz1, z_m_add, z_of, ↓z_m1, l_0, l_1, l_2, l_3, l_4, l_5, l_6, l_7, l_8, l_9, l_10, l_11, l_12, l_13, l_14, l_15, l_16, l_17, l_18, l_19, l_20, l_21, l_22, l_23, l_24, l_25, l_26, l_27, l_28, l_29, l_30, l_31, l_32, l_33, l_34, l_35, l_36, l_37, l_38, l_39, l_40, l_41, l_42, l_43, l_44, l_45, l_46, l_47, l_48, l_49, l_50, l_51, l_52, l_53, l_54, l_55, l_56, l_57, l_59, l_60, l_61, l_62, l_63, l_64, l_65, l_80, l_86, l_87, l_88, l_89, l_90, l_91, l_92, l_93, l_94, l_95, l_97, l_99, l_100, l_107, l_119, l_122, l_124, l_129, l_140, l_141, l_142, l_143, l_144, l_145, l_147, l_150, l_159, l_160, l_161, l_162, l_205, l_253, l_255, l_256, l_269, l_305, l_380, l_399, l_400, l_420, l_430, l_516, l_600, l_720, l_820, l_905, l_921, l_937, l_953, l_970, l_999, l_1000, l_1790, l_4096, l_9999, l_1000000]
  | succ j ih =>
    intro i cnt V hs wn D σc hi hc hK h0 hD hB hu hq hdb h6
    have hw := hu.2.2.2.1
    obtain ⟨W1, r1, hr1, e0, v1, v3, v2⟩ := q_day (n := q_F) (p := p) (b := b) (L := L) (pl := pl) (pa := pa) (d := d) z_F402 (hc.X h6 hw) hK
    obtain ⟨σd, -, hd, -⟩ := v1 σc (hc.X h6 hw)
    have hd' := hd
    obtain ⟨hdT, ⟨w1, wa, wb, wc⟩, hst⟩ := hd.XT
    have hst' : ∀ a, 86 ≤ a → a < 305 → W1 a = V a := fun a b1 b2 => by rw [hst a (Or.inr b1) b2, z_uK (by omega), z_PV_hi b2]
    have hst2 : ∀ a, a < 4 * wn → W1 (305+a) = V (305+a) := fun a ha => by
      obtain ⟨-, w2, p1, p2, p3, p4, p5, p6⟩ := hd'
      have := (p5 rfl).2 (a/4) (a%4) (by omega) (by omega)
      have e2 : a / 4 * 4 + a % 4 = a := by omega
      have e3 : 305 + 4 * (a / 4) + a % 4 = 305 + a := by omega
      rw [e2, e3, p4 a (by omega), z_uK (by omega)] at this
      rw [← this]
      exact if_pos (by omega)
    have hy : y_ky V W1 wn := ⟨v3, hst', hst2⟩
    have hu1 := hu.push (z_WFC hc ⟨D, by omega, h0⟩) (fun a b1 b2 => hst' a b1 (by omega)) wa wb wc
    have hq1 := hq.push hu hy
    have hdb1 := hdb.push (wn := wn) hu.1 h0 (by omega)
    obtain ⟨W, hs', w', r, t1, t2, tq, tdb, tK, t3, t4, t5, t6⟩ := ih (i+1) (cnt + r1) W1 (z_push hs V wn) w1 (D+1) σd (by omega) hdT (hK.sam v3) (by rw [e0, h0, nI_add]) (by omega) (by omega) hu1 hq1 hdb1 wc
    refine ⟨W, hs', w', r, by rw [t1]; congr 1; omega, t2, tq, tdb, tK, t3, t4, fun l hl σ h1 h2 => ?_, fun l hl x0 x10 x5 u Fz S hA hS hW hr => ?_⟩
    · cases l with
      | zero => omega
      | succ l =>
        have h17 : σ 2 17 = nI wn := by
          obtain ⟨w2, x1, x2, x3⟩ := h1.w
          rw [h6] at x2
          rw [x3, ← x2]
        obtain ⟨σ1, k1, k2, k3⟩ := c_keepH (n := q_F) (by unfold q_F; omega) h1.1 h2 hu h17
        have hX1 : z_XT mu me σ1 V := ⟨h1.1.fr (fun o o1 o2 o3 => k2 o (by omega)), h1.2.fr (k2 2 (by omega)) (k2 29 (by omega))⟩
        obtain ⟨σ2, f1, f2, f3⟩ := v1 σ1 (hX1.X h6 hw)
        have hH2 : z_HCl mu me σ2 (z_push hs V wn) := k1.fr (fun o o1 o2 => f1 o (by omega))
        obtain ⟨σ', g1, g2, g3, g4⟩ := t5 l (by omega) σ2 f2.XT.1 hH2
        refine ⟨σ', fun o ho => by rw [g1 o ho, f1 o (by omega), k2 o (by omega)], g2, g3, ?_⟩
        rw [← g4, f_X11_days_L34]
        simp (disch := omega) only [k3, f3, ↓reduceIte, ↓p_ld, ↓p_st, ↓p_nm, ↓p_nS, ↓p_jn, ↓p_call, ↓p_callv, ↓p_dv, ↓p_rem, h_ldE, h_stE, h_nmE, h_nSE, h_callE, h_callvE, h_dvE, h_remE, if_true, if_false, z_upS, z_upO, z_upK, nI_add, z_mul, z_sub, z_div, Nat.add_zero, Nat.mul_zero, Nat.zero_add, Nat.sub_zero, Nat.zero_mul, z_ltT, z_ltF, z_leT, z_leF, z_eqT, z_eqF, z_inT, z_clT, not_true_eq_false, not_false_eq_true, eq_self, true_or, or_true, z_m_lt, z_m_le, z_lt_m, z_le_m, z_eq_m, z_m_eq, z_rz0, z_rz1, z_m_add, z_of, r_0_0, r_0_1, r_0_3, r_0_4, r_0_5, r_0_6, r_0_7, r_0_8, r_0_9, r_0_10, r_1_0, r_1_1, r_1_2, r_1_3, r_1_4, r_1_5, r_1_6, r_1_7, r_1_8, r_2_0, r_2_1, r_2_2, r_2_3, r_2_4, r_2_5, r_2_6, r_2_7, r_11_0, r_11_1, r_11_2, r_11_3, r_11_4, r_11_5, r_11_6, r_19_0, r_21_0, r_23_0, r_25_0, r_27_0, r_61_0, r_117_0, r_117_1, r_117_2, r_117_3, r_117_4, r_117_5, r_117_6, r_117_7, r_126_0, r_126_1, r_126_2, r_126_3, r_126_4, r_132_0, r_132_1, r_135_0, r_135_1, r_135_2, r_135_3, r_135_4, r_135_5, r_142_0, r_144_0, r_144_1, r_144_2, r_145_0, r_145_1, r_145_2, r_145_3, r_145_4, r_145_5, r_145_6, r_154_0, r_154_1, r_155_0, ↓z_m1, l_0, l_1, l_2, l_3, l_4, l_5, l_6, l_7, l_8, l_9, l_10, l_11, l_12, l_13, l_14, l_15, l_16, l_17, l_18, l_19, l_20, l_21, l_22, l_23, l_24, l_25, l_26, l_27, l_28, l_29, l_30, l_31, l_32, l_33, l_34, l_35, l_36, l_37, l_38, l_39, l_40, l_41, l_42, l_43, l_44, l_45, l_46, l_47, l_48, l_49, l_50, l_51, l_52, l_53, l_54, l_55, l_56, l_57, l_59, l_60, l_61, l_62, l_63, l_64, l_65, l_80, l_86, l_87, l_88, l_89, l_90, l_91, l_92, l_93, l_94, l_95, l_97, l_99, l_100, l_107, l_119, l_122, l_124, l_129, l_140, l_141, l_142, l_143, l_144, l_145, l_147, l_150, l_159, l_160, l_161, l_162, l_205, l_253, l_255, l_256, l_269, l_305, l_380, l_399, l_400, l_420, l_430, l_516, l_600, l_720, l_820, l_905, l_921, l_937, l_953, l_970, l_999, l_1000, l_1790, l_4096, l_9999, l_1000000]
    · cases l with
      | zero => omega
      | succ l =>
        have hn7 : 151 ≤ n := by rw [hn]; unfold q_F; omega
        have h5 := y_shle hu.1
        obtain ⟨v, f1, f2, f3, f4, hWv, f6⟩ := F_room165 (n := n) (x0 := x0) (x2 := p) (x10 := x10) (x5 := x5) (x11 := 0) (x12 := nI N) (x13 := nI cnt) (x14 := nI i) (by omega) hA hW
        have hAa := hW.1
        have hAv := hA.fr f1 (by have := (hA.1 _ _ _ hS).bd; omega) (fun p1 b1 V1 h1 z hz hq => by
          have hq : z = a := hq
          subst hq
          exact hAa.2.2.2.2.2 _ _ _ h1 hz) (fun z hz hq => by
          have hq : z = a := hq
          subst hq
          exact hAa.2.2.2.2.1 hz)
        have hTv := hAv.1 _ _ _ hS
        have hbd := hTv.bd
        obtain ⟨u2, c1, c2, c3, c4⟩ := F_copy (n := n) hn7 hTv (by omega)
        have hA2 := hAv.copy c1.1 c3
        have hW2 := hWv.copy hAv c1.1 (V := V)
        have er2 : x_r u2 a = x_r v a := (c1.1.2.2.2.2 a (Or.inl hWv.1.2.1) (fun q => q)).1
        have hpq : p ≠ x_n v := by omega
        have hW3 := hW2.store (q := x_n v) (bq := x_n v + 6) (V := V) (wn := wn) (Or.inl ⟨rfl, rfl, rfl⟩) (Ne.symm hpq) (fun z hz => by
          rw [er2]
          obtain ⟨g1, b1, g2⟩ := hWv.2.2.1 z hz
          have := (hAv.1 _ _ _ g2).bd
          omega) hu.1
        have fa : x_fr (fun z => z = a) u2 (x_ur u2 a (y_sh hs).1 (x_n v)) := x_fr.ur rfl
        have hA3 := hA2.fr fa c2.bd.2.2.2.1 (fun p1 b1 V1 h1 z hz hq => by
          have hq : z = a := hq
          subst hq
          exact hW2.1.2.2.2.2.2 _ _ _ h1 hz) (fun z hz hq => by
          have hq : z = a := hq
          subst hq
          exact hW2.1.2.2.2.2.1 hz)
        have hS3 : y_set S (x_n v) (x_n v + 6) V p b V := Or.inr ⟨hpq, hS⟩
        have hT3 := hA3.1 _ _ _ hS3
        have en3 : x_n (x_ur u2 a (y_sh hs).1 (x_n v)) = x_n u2 := rfl
        have em3 : x_m (x_ur u2 a (y_sh hs).1 (x_n v)) = x_m u2 := rfl
        have c1n := c1.2.1
        have c1m := c1.2.2.1
        obtain ⟨u4, Fz4, s1, s2, s3⟩ := v2 _ Fz hT3 (by omega)
        rw [← hn] at s3
        have hA4 := hA3.act hS3 s1 s2
        have hW4 := hW3.act (W := W1) hS3 s1
        have s1n := s1.2.1
        obtain ⟨u', Fz', S', g1, g2, g3, g4, g5, g6⟩ := t6 l (by omega) x0 x10 x5 u4 Fz4 _ hA4 (Or.inl ⟨rfl, rfl, rfl⟩) hW4 (by omega)
        refine ⟨u', Fz', S', g1, g2, g3, ?_, ?_, fun K => ?_⟩
        · rw [g4, s1.1.1]
          show x_c u2 = x_c u
          rw [c1.1.1, f1.1]
        · have g01 : y_go 0 0 u v := f1.go (fun i hi => by have hi : i = a := hi; omega) (by omega) (by omega)
          have g12 : y_go 23 400 v u2 := c1.go (fun i hi => hi.elim)
          have g23 : y_go 0 0 u2 (x_ur u2 a (y_sh hs).1 (x_n v)) := fa.go (fun i hi => by have hi : i = a := hi; omega) (Nat.le_refl _) (Nat.le_refl _)
          have g34 : y_go 208 832 (x_ur u2 a (y_sh hs).1 (x_n v)) u4 := s1.go (fun i hi => by have := hT3.own hi; have := hT3.bd; omega)
          exact (((g01.tr g12 (Nat.le_refl _) (Nat.le_refl _)).tr g23 (Nat.le_refl _) (Nat.le_refl _)).tr g34 (Nat.le_refl _) (Nat.le_refl _)).tr g5 (by omega) (by omega)
        · have kp : x_k v p = .inl 12 := hTv.k0
          have kp3 : x_k (x_ur u2 a (y_sh hs).1 (x_n v)) p = .inl 12 := hT3.k0
          have ka2 : x_k u2 a = .inr (6, 4) := hW2.1.2.2.2.1
          have kq2 : x_k u2 (x_n v) = .inl 12 := c3.k0
          have ez : (z_push hs V wn).1 = (y_sh hs).1 + 1 := by
            have hup := hu.1
            unfold y_sh
            by_cases c : hs.1 = 6
            · rw [if_pos c]
              exact (z_push_1 (hs := hs) (V := V) (wn := wn) (c := 6) (d := 5) (sh := 1) c (by omega) (by omega) (by omega) (fun _ => rfl)).1
            · rw [if_neg c]
              exact (z_push_1 (hs := hs) (V := V) (wn := wn) (c := hs.1) (d := hs.1) (sh := 0) rfl (by omega) (by omega) (by omega) (fun q => by omega)).1
          rw [← g6 K, F_L_law_L148]
          have hlt : nI i < nI N := (nI_ltI (by omega) (by omega)).mpr (by omega)
          rw [if_pos hlt]
          have e6 := f6 (fun (y43 : Int32) (s44 : x_U) => x_o s44 p 12 <| x_call (F_X12_copy n p s44) fun o46 s45 => x_sr s45 a y43 o46 fun s48 => x_o s48 p 12 <| x_call (F_X12_passes n p 1 s48) fun r50 s49 => x_nm (nI cnt + r50) fun v52 => F_L_law_L148 n x0 p a x5 x10 0 (nI N) K l (y43 + 1) v52 (nI i + 1) s49)
          refine Eq.trans e6 ?_
          have hp1 : (1 : Int32) = nI 1 := rfl
          simp (disch := first | omega | ((try simp (disch := omega) only [kp, kp3, ka2, kq2, c4, s3, ez, xs_k_ui, xs_k_ur, xs_k_uc, xs_k_un, xs_k_ub, xs_r_ui, xs_r_ur, xs_r_uc, xs_r_un, xs_r_ub, xs_t_ui, xs_t_ur, xs_t_uc, xs_t_un, xs_t_ub, xs_n_ui, xs_n_ur, xs_n_uc, xs_n_un, xs_n_ub, xs_m_ui, xs_m_ur, xs_m_uc, xs_m_un, xs_m_ub, xs_c_ui, xs_c_ur, xs_c_uc, xs_c_un, xs_c_ub, x_up_s, x_up_k, x_up_o, x_fU_s, x_fU_o]) <;> first | rfl | omega | (refine (?_ : (_ : Bool) = true); with_unfolding_all rfl)) | fail) only [kp, kp3, ka2, kq2, c4, s3, ez, ↓p_xgi, ↓p_xgr, ↓p_xpi, ↓p_xpr, ↓p_xo, ↓p_xld, ↓p_xlb, ↓p_xlr, ↓p_xst, ↓p_xsb, ↓p_xsr, ↓p_xlen, ↓p_xnew, ↓p_xnwa, ↓p_xcln, ↓p_xcst, ↓p_xcall, ↓p_xcalc, ↓p_xnm, ↓p_xdv, ↓p_xrem, h_xgiE, h_xgrE, h_xpiE, h_xprE, h_xoE, h_xldE, h_xlbE, h_xlrE, h_xstE, h_xsbE, h_xsrE, h_xlenE, h_xnewE, h_xnwaE, h_xclnE, h_xcstE, h_xcallE, h_xcalcE, h_xnmE, h_xdvE, h_xremE, xs_k_ui, xs_k_ur, xs_k_uc, xs_k_un, xs_k_ub, xs_r_ui, xs_r_ur, xs_r_uc, xs_r_un, xs_r_ub, xs_t_ui, xs_t_ur, xs_t_uc, xs_t_un, xs_t_ub, xs_n_ui, xs_n_ur, xs_n_uc, xs_n_un, xs_n_ub, xs_m_ui, xs_m_ur, xs_m_uc, xs_m_un, xs_m_ub, xs_c_ui, xs_c_ur, xs_c_uc, xs_c_un, xs_c_ub, x_up_s, x_up_k, x_up_o, x_fU_s, x_fU_o, ↓reduceIte, h_ldE, h_stE, h_nmE, h_nSE, h_callE, h_callvE, h_dvE, h_remE, if_true, if_false, z_upS, z_upO, z_upK, nI_add, z_mul, z_sub, z_div, Nat.add_zero, Nat.mul_zero, Nat.zero_add, Nat.sub_zero, Nat.zero_mul, z_ltT, z_ltF, z_leT, z_leF, z_eqT, z_eqF, z_inT, z_clT, not_true_eq_false, not_false_eq_true, eq_self, true_or, or_true, z_m_lt, z_m_le, z_lt_m, z_le_m, z_eq_m, z_m_eq, z_rz0, z_rz1, z_m_add, z_of, ↓z_m1, l_0, l_1, l_2, l_3, l_4, l_5, l_6, l_7, l_8, l_9, l_10, l_11, l_12, l_13, l_14, l_15, l_16, l_17, l_18, l_19, l_20, l_21, l_22, l_23, l_24, l_25, l_26, l_27, l_28, l_29, l_30, l_31, l_32, l_33, l_34, l_35, l_36, l_37, l_38, l_39, l_40, l_41, l_42, l_43, l_44, l_45, l_46, l_47, l_48, l_49, l_50, l_51, l_52, l_53, l_54, l_55, l_56, l_57, l_59, l_60, l_61, l_62, l_63, l_64, l_65, l_80, l_86, l_87, l_88, l_89, l_90, l_91, l_92, l_93, l_94, l_95, l_97, l_99, l_100, l_107, l_119, l_122, l_124, l_129, l_140, l_141, l_142, l_143, l_144, l_145, l_147, l_150, l_159, l_160, l_161, l_162, l_205, l_253, l_255, l_256, l_269, l_305, l_380, l_399, l_400, l_420, l_430, l_516, l_600, l_720, l_820, l_905, l_921, l_937, l_953, l_970, l_999, l_1000, l_1790, l_4096, l_9999, l_1000000]
end DA
