/-! numbers appended, a String made; constants -/
section NUM
variable {n : Nat} {u : x_U} {o v cap : Nat} {l : List Nat} {L : Nat} {xs : Nat → Int32}
theorem S_apn {a : Nat} (hn : 5 ≤ n) (hW : y_WC L xs u) (h : y_SB u o v cap l) (ha : a < 1000) (hm : l.length + 3 ≤ 2000) (hb : x_n u + 1 ≤ 500000) : ∃ u' v' cap', x_fr (fun i => i = o ∨ i = v) u u' ∧ x_n u' ≤ x_n u + 1 ∧ x_m u' ≤ x_m u + 2 * (l.length + 3) + 2 ∧ y_SB u' o v' cap' (l ++ y_dg a) ∧ (v' = v ∨ v' = x_n u) ∧ F_J4_append_bf812 n o (nI a) u = some (o, u') := by
  have hSB := h
  obtain ⟨⟨h1, h2, h3, h4⟩, ⟨h5, h6, h7⟩, h8, h9, h10, h11, h12, h13, h14, h15⟩ := h
  obtain ⟨d1, d2, d3⟩ := y_dgl ha
  obtain ⟨u1, v', cap', f1, f2, f3, f4, f5, f6, f7, ⟨f8, f9, f10⟩, f11, f12, f13, f14, f15, f16, f17⟩ := S_ens (n := n) (need := l.length + (y_dg a).length) hSB (by omega) (by omega) hb (by omega)
  have hcap : cap' < 100000 := by
    have := f6 (l ++ y_dg a) (by simp)
    simp at this
    omega
  have hW1 : y_WC L xs u1 := hW.fr f1 (fun i hi => by have hi : i = o := hi; omega)
  have hv5 : v' ≤ 500000 := by
    rcases f7 with q | q <;> omega
  obtain ⟨U1, r, k1, k2, k3, k4, k5, k6, k7, k8⟩ := S_chr (n := n) (c := l.length) (by omega) hW1 f11 hcap ha f5 hv5
  have eL : ∀ w : x_U, x_k w o = .inl 14 → x_t w o 1 = nI 0 → F_J5_isLatin1_aae02 n o w = some (nI 1, w) := fun w hw1 hw2 => by
    unfold F_J5_isLatin1_aae02
    rw [if_neg (by decide), p_xgi, h_xgiE hw1, hw2]
    rfl
  obtain ⟨U, hU⟩ : ∃ U, U = x_ui U1 o 3 (nI (l.length + (y_dg a).length)) := ⟨_, rfl⟩
  have nU : x_n U = x_n u1 := by rw [hU]; exact k1
  have mU : x_m U = x_m u1 := by rw [hU]; exact k2
  have kU : x_k U = x_k u1 := by rw [hU]; exact k3
  have rU : x_r U = x_r u1 := by rw [hU]; exact k4
  have cU : x_c U = x_c u1 := by rw [hU]; exact k5
  have tv : ∀ j, x_t U v' j = if l.length ≤ j ∧ j < l.length + (y_dg a).length then nI ((y_dg a).getD (j - l.length) 0) else x_t u1 v' j := fun j => by
    rw [← k7 j, hU]
    exact congrFun (x_up_o (Ne.symm f16)) j
  have tO : ∀ i, i ≠ o → i ≠ v' → x_t U i = x_t u1 i := fun i i1 i2 => by
    rw [← k6 i i2, hU]
    exact x_up_o i1
  have to3 : x_t U o 3 = nI (l.length + (y_dg a).length) := by rw [hU]; exact x_up_s
  have to1 : x_t U o 1 = nI 0 := by
    rw [hU]
    have : x_t (x_ui U1 o 3 (nI (l.length + (y_dg a).length))) o 1 = x_t U1 o 1 := x_up_k (by omega)
    rw [this, k6 o f16, f10]
    exact h3
  have hlen : (l ++ y_dg a).length = l.length + (y_dg a).length := List.length_append
  refine ⟨U, v', cap', ⟨by rw [cU, f1.1], by omega, by rw [mU]; exact f1.2.2.1, fun i hi => by rw [kU, f1.2.2.2.1 i hi], fun i hi ho => ?_⟩, by omega, by omega, ⟨⟨by rw [kU]; exact f8, by rw [rU]; exact f9, to1, by rw [hlen]; exact to3⟩, ⟨by rw [kU]; exact f11, by omega, f6 _ hlen⟩, fun j hj => ?_, fun j hj => ?_, h10, by omega, f15, by omega, f16, by omega⟩, f7, ?_⟩
  · have io : ¬ i = o := fun q => ho (Or.inl q)
    have iv : ¬ i = v := fun q => ho (Or.inr q)
    have iv' : i ≠ v' := by
      rcases f7 with q | q
      · rw [q]; exact iv
      · omega
    have := f1.2.2.2.2 i hi io
    exact ⟨by rw [rU]; exact this.1, by rw [tO i io iv']; exact this.2⟩
  · rw [tv, y_gApp]
    rw [hlen] at hj
    by_cases q : j < l.length
    · rw [if_neg (by omega), if_pos q]; exact ⟨f12 j q, (h8 j q).2⟩
    · rw [if_pos (by omega), if_neg q]; exact ⟨rfl, d3 _ (by omega)⟩
  · rw [tv]
    by_cases q : l.length ≤ j ∧ j < l.length + (y_dg a).length
    · rw [if_pos q]
      exact ⟨_, d3 _ (by omega), rfl⟩
    · rw [if_neg q]; exact f13 j hj
  · have eS := S_siz (u := u) hn ha
    have k8o : x_k U1 o = .inl 14 := by rw [k3]; exact f8
    unfold F_J4_append_bf812 F_J5_append_c97b9
    rw [p_xo, h_xoE h1, p_xgi, h_xgiE h1, h4, eS, z_xcall, x_nmE, nI_add, p_xo, h_xoE h1, f17, z_xcall, p_xo, h_xoE f8, eL u1 f8 (by rw [f10]; exact h3), z_xcall, if_neg (by decide), p_xgr, h_xgrE f8, f9, k8, z_xcall, p_xpi, h_xpiE k8o (by omega), z_xcall, hU]
theorem S_toS (h : y_SB u o v cap l) (hl : l.length ≤ 2000) (hb : x_n u + 2 ≤ 500000) : ∃ u', x_fr (fun _ => False) u u' ∧ x_n u' = x_n u + 2 ∧ x_m u' ≤ x_m u + 10 + l.length ∧ y_ST u' (x_n u) (x_n u + 1) l ∧ F_J4_toString_0e30d n o u = some (x_n u, u') := by
  obtain ⟨⟨h1, h2, h3, h4⟩, ⟨h5, h6, h7⟩, h8, h9, h10, h11, h12, h13, h14, h15⟩ := h
  have e4 : q_nF 13 ≤ 10 := by decide
  have e0 : (0 : Int32) = nI 0 := rfl
  have ez : (fun (_ : Nat) => (0 : Int32)) = (fun _ => nI 0) := rfl
  have e31 : (31 : Int32) = nI 31 := rfl
  obtain ⟨W, hW⟩ : ∃ W, W = x_ui (x_un u (.inl 13) (q_nF 13) (fun _ => nI 0)) (x_n u) 1 (nI 0) := ⟨_, rfl⟩
  have nW : x_n W = x_n u + 1 := by rw [hW]; simp (disch := omega) only [xs_k_ui, xs_k_ur, xs_k_uc, xs_k_un, xs_k_ub, xs_r_ui, xs_r_ur, xs_r_uc, xs_r_un, xs_r_ub, xs_t_ui, xs_t_ur, xs_t_uc, xs_t_un, xs_t_ub, xs_n_ui, xs_n_ur, xs_n_uc, xs_n_un, xs_n_ub, xs_m_ui, xs_m_ur, xs_m_uc, xs_m_un, xs_m_ub, xs_c_ui, xs_c_ur, xs_c_uc, xs_c_un, xs_c_ub, x_up_s, x_up_k, x_up_o, x_fU_s, x_fU_o]
  have mW : x_m W = x_m u + q_nF 13 := by rw [hW]; simp (disch := omega) only [xs_k_ui, xs_k_ur, xs_k_uc, xs_k_un, xs_k_ub, xs_r_ui, xs_r_ur, xs_r_uc, xs_r_un, xs_r_ub, xs_t_ui, xs_t_ur, xs_t_uc, xs_t_un, xs_t_ub, xs_n_ui, xs_n_ur, xs_n_uc, xs_n_un, xs_n_ub, xs_m_ui, xs_m_ur, xs_m_uc, xs_m_un, xs_m_ub, xs_c_ui, xs_c_ur, xs_c_uc, xs_c_un, xs_c_ub, x_up_s, x_up_k, x_up_o, x_fU_s, x_fU_o]
  have cW : x_c W = x_c u := by rw [hW]; simp (disch := omega) only [xs_k_ui, xs_k_ur, xs_k_uc, xs_k_un, xs_k_ub, xs_r_ui, xs_r_ur, xs_r_uc, xs_r_un, xs_r_ub, xs_t_ui, xs_t_ur, xs_t_uc, xs_t_un, xs_t_ub, xs_n_ui, xs_n_ur, xs_n_uc, xs_n_un, xs_n_ub, xs_m_ui, xs_m_ur, xs_m_uc, xs_m_un, xs_m_ub, xs_c_ui, xs_c_ur, xs_c_uc, xs_c_un, xs_c_ub, x_up_s, x_up_k, x_up_o, x_fU_s, x_fU_o]
  have kW : ∀ i, i ≠ x_n u → x_k W i = x_k u i := fun i hi => by rw [hW]; simp (disch := omega) only [xs_k_ui, xs_k_ur, xs_k_uc, xs_k_un, xs_k_ub, xs_r_ui, xs_r_ur, xs_r_uc, xs_r_un, xs_r_ub, xs_t_ui, xs_t_ur, xs_t_uc, xs_t_un, xs_t_ub, xs_n_ui, xs_n_ur, xs_n_uc, xs_n_un, xs_n_ub, xs_m_ui, xs_m_ur, xs_m_uc, xs_m_un, xs_m_ub, xs_c_ui, xs_c_ur, xs_c_uc, xs_c_un, xs_c_ub, x_up_s, x_up_k, x_up_o, x_fU_s, x_fU_o]
  have rW : ∀ i, i ≠ x_n u → x_r W i = x_r u i := fun i hi => by rw [hW]; simp (disch := omega) only [xs_k_ui, xs_k_ur, xs_k_uc, xs_k_un, xs_k_ub, xs_r_ui, xs_r_ur, xs_r_uc, xs_r_un, xs_r_ub, xs_t_ui, xs_t_ur, xs_t_uc, xs_t_un, xs_t_ub, xs_n_ui, xs_n_ur, xs_n_uc, xs_n_un, xs_n_ub, xs_m_ui, xs_m_ur, xs_m_uc, xs_m_un, xs_m_ub, xs_c_ui, xs_c_ur, xs_c_uc, xs_c_un, xs_c_ub, x_up_s, x_up_k, x_up_o, x_fU_s, x_fU_o]
  have tW : ∀ i, i ≠ x_n u → x_t W i = x_t u i := fun i hi => by rw [hW]; simp (disch := omega) only [xs_k_ui, xs_k_ur, xs_k_uc, xs_k_un, xs_k_ub, xs_r_ui, xs_r_ur, xs_r_uc, xs_r_un, xs_r_ub, xs_t_ui, xs_t_ur, xs_t_uc, xs_t_un, xs_t_ub, xs_n_ui, xs_n_ur, xs_n_uc, xs_n_un, xs_n_ub, xs_m_ui, xs_m_ur, xs_m_uc, xs_m_un, xs_m_ub, xs_c_ui, xs_c_ur, xs_c_uc, xs_c_un, xs_c_ub, x_up_s, x_up_k, x_up_o, x_fU_s, x_fU_o]
  have kWs : x_k W (x_n u) = .inl 13 := by rw [hW]; simp (disch := omega) only [xs_k_ui, xs_k_ur, xs_k_uc, xs_k_un, xs_k_ub, xs_r_ui, xs_r_ur, xs_r_uc, xs_r_un, xs_r_ub, xs_t_ui, xs_t_ur, xs_t_uc, xs_t_un, xs_t_ub, xs_n_ui, xs_n_ur, xs_n_uc, xs_n_un, xs_n_ub, xs_m_ui, xs_m_ur, xs_m_uc, xs_m_un, xs_m_ub, xs_c_ui, xs_c_ur, xs_c_uc, xs_c_un, xs_c_ub, x_up_s, x_up_k, x_up_o, x_fU_s, x_fU_o]
  have tWs : x_t W (x_n u) 1 = nI 0 := by rw [hW]; simp (disch := omega) only [xs_k_ui, xs_k_ur, xs_k_uc, xs_k_un, xs_k_ub, xs_r_ui, xs_r_ur, xs_r_uc, xs_r_un, xs_r_ub, xs_t_ui, xs_t_ur, xs_t_uc, xs_t_un, xs_t_ub, xs_n_ui, xs_n_ur, xs_n_uc, xs_n_un, xs_n_ub, xs_m_ui, xs_m_ur, xs_m_uc, xs_m_un, xs_m_ub, xs_c_ui, xs_c_ur, xs_c_uc, xs_c_un, xs_c_ub, x_up_s, x_up_k, x_up_o, x_fU_s, x_fU_o]
  have hkv : x_k W v = .inr (cap, 2) := by rw [kW v (by omega)]; exact h5
  obtain ⟨f, hf⟩ : ∃ f, f = (if l.length = cap then x_t u v else x_cpy (x_t u v) (fun _ => nI 0) 0 0 l.length) := ⟨_, rfl⟩
  have hfv : ∀ j, j < l.length → f j = nI (l.getD j 0) := fun j hj => by
    rw [hf]
    split
    · exact (h8 j hj).1
    · unfold x_cpy
      rw [if_pos (by omega), show 0 + (j - 0) = j by omega]
      exact (h8 j hj).1
  obtain ⟨W2, hW2⟩ : ∃ W2, W2 = (if l.length = cap then x_un W (.inr (l.length, 2)) l.length (x_t u v) else x_ub (x_un W (.inr (l.length, 2)) l.length (fun _ => nI 0)) (x_n u + 1) (x_cpy (x_t u v) (fun _ => nI 0) 0 0 l.length)) := ⟨_, rfl⟩
  have nW2 : x_n W2 = x_n u + 2 := by rw [hW2]; split <;> simp (disch := omega) only [xs_k_ui, xs_k_ur, xs_k_uc, xs_k_un, xs_k_ub, xs_r_ui, xs_r_ur, xs_r_uc, xs_r_un, xs_r_ub, xs_t_ui, xs_t_ur, xs_t_uc, xs_t_un, xs_t_ub, xs_n_ui, xs_n_ur, xs_n_uc, xs_n_un, xs_n_ub, xs_m_ui, xs_m_ur, xs_m_uc, xs_m_un, xs_m_ub, xs_c_ui, xs_c_ur, xs_c_uc, xs_c_un, xs_c_ub, x_up_s, x_up_k, x_up_o, x_fU_s, x_fU_o] <;> omega
  have mW2 : x_m W2 = x_m u + q_nF 13 + l.length := by rw [hW2]; split <;> simp (disch := omega) only [xs_k_ui, xs_k_ur, xs_k_uc, xs_k_un, xs_k_ub, xs_r_ui, xs_r_ur, xs_r_uc, xs_r_un, xs_r_ub, xs_t_ui, xs_t_ur, xs_t_uc, xs_t_un, xs_t_ub, xs_n_ui, xs_n_ur, xs_n_uc, xs_n_un, xs_n_ub, xs_m_ui, xs_m_ur, xs_m_uc, xs_m_un, xs_m_ub, xs_c_ui, xs_c_ur, xs_c_uc, xs_c_un, xs_c_ub, x_up_s, x_up_k, x_up_o, x_fU_s, x_fU_o] <;> omega
  have cW2 : x_c W2 = x_c u := by rw [hW2, ← cW]; split <;> simp (disch := omega) only [xs_k_ui, xs_k_ur, xs_k_uc, xs_k_un, xs_k_ub, xs_r_ui, xs_r_ur, xs_r_uc, xs_r_un, xs_r_ub, xs_t_ui, xs_t_ur, xs_t_uc, xs_t_un, xs_t_ub, xs_n_ui, xs_n_ur, xs_n_uc, xs_n_un, xs_n_ub, xs_m_ui, xs_m_ur, xs_m_uc, xs_m_un, xs_m_ub, xs_c_ui, xs_c_ur, xs_c_uc, xs_c_un, xs_c_ub, x_up_s, x_up_k, x_up_o, x_fU_s, x_fU_o]
  have kW2 : ∀ i, i ≠ x_n u + 1 → x_k W2 i = x_k W i := fun i hi => by rw [hW2]; split <;> simp (disch := omega) only [nW, xs_k_ui, xs_k_ur, xs_k_uc, xs_k_un, xs_k_ub, xs_r_ui, xs_r_ur, xs_r_uc, xs_r_un, xs_r_ub, xs_t_ui, xs_t_ur, xs_t_uc, xs_t_un, xs_t_ub, xs_n_ui, xs_n_ur, xs_n_uc, xs_n_un, xs_n_ub, xs_m_ui, xs_m_ur, xs_m_uc, xs_m_un, xs_m_ub, xs_c_ui, xs_c_ur, xs_c_uc, xs_c_un, xs_c_ub, x_up_s, x_up_k, x_up_o, x_fU_s, x_fU_o]
  have rW2 : ∀ i, i ≠ x_n u + 1 → x_r W2 i = x_r W i := fun i hi => by rw [hW2]; split <;> simp (disch := omega) only [nW, xs_k_ui, xs_k_ur, xs_k_uc, xs_k_un, xs_k_ub, xs_r_ui, xs_r_ur, xs_r_uc, xs_r_un, xs_r_ub, xs_t_ui, xs_t_ur, xs_t_uc, xs_t_un, xs_t_ub, xs_n_ui, xs_n_ur, xs_n_uc, xs_n_un, xs_n_ub, xs_m_ui, xs_m_ur, xs_m_uc, xs_m_un, xs_m_ub, xs_c_ui, xs_c_ur, xs_c_uc, xs_c_un, xs_c_ub, x_up_s, x_up_k, x_up_o, x_fU_s, x_fU_o]
  have tW2 : ∀ i, i ≠ x_n u + 1 → x_t W2 i = x_t W i := fun i hi => by rw [hW2]; split <;> simp (disch := omega) only [nW, xs_k_ui, xs_k_ur, xs_k_uc, xs_k_un, xs_k_ub, xs_r_ui, xs_r_ur, xs_r_uc, xs_r_un, xs_r_ub, xs_t_ui, xs_t_ur, xs_t_uc, xs_t_un, xs_t_ub, xs_n_ui, xs_n_ur, xs_n_uc, xs_n_un, xs_n_ub, xs_m_ui, xs_m_ur, xs_m_uc, xs_m_un, xs_m_ub, xs_c_ui, xs_c_ur, xs_c_uc, xs_c_un, xs_c_ub, x_up_s, x_up_k, x_up_o, x_fU_s, x_fU_o]
  have kW2s : x_k W2 (x_n u + 1) = .inr (l.length, 2) := by rw [hW2, ← nW]; split <;> simp (disch := omega) only [xs_k_ui, xs_k_ur, xs_k_uc, xs_k_un, xs_k_ub, xs_r_ui, xs_r_ur, xs_r_uc, xs_r_un, xs_r_ub, xs_t_ui, xs_t_ur, xs_t_uc, xs_t_un, xs_t_ub, xs_n_ui, xs_n_ur, xs_n_uc, xs_n_un, xs_n_ub, xs_m_ui, xs_m_ur, xs_m_uc, xs_m_un, xs_m_ub, xs_c_ui, xs_c_ur, xs_c_uc, xs_c_un, xs_c_ub, x_up_s, x_up_k, x_up_o, x_fU_s, x_fU_o]
  have tW2s : x_t W2 (x_n u + 1) = f := by
    rw [hW2, hf]
    split
    · rw [← nW]; simp (disch := omega) only [xs_k_ui, xs_k_ur, xs_k_uc, xs_k_un, xs_k_ub, xs_r_ui, xs_r_ur, xs_r_uc, xs_r_un, xs_r_ub, xs_t_ui, xs_t_ur, xs_t_uc, xs_t_un, xs_t_ub, xs_n_ui, xs_n_ur, xs_n_uc, xs_n_un, xs_n_ub, xs_m_ui, xs_m_ur, xs_m_uc, xs_m_un, xs_m_ub, xs_c_ui, xs_c_ur, xs_c_uc, xs_c_un, xs_c_ub, x_up_s, x_up_k, x_up_o, x_fU_s, x_fU_o]
    · simp (disch := omega) only [xs_k_ui, xs_k_ur, xs_k_uc, xs_k_un, xs_k_ub, xs_r_ui, xs_r_ur, xs_r_uc, xs_r_un, xs_r_ub, xs_t_ui, xs_t_ur, xs_t_uc, xs_t_un, xs_t_ub, xs_n_ui, xs_n_ur, xs_n_uc, xs_n_un, xs_n_ub, xs_m_ui, xs_m_ur, xs_m_uc, xs_m_un, xs_m_ub, xs_c_ui, xs_c_ur, xs_c_uc, xs_c_un, xs_c_ub, x_up_s, x_up_k, x_up_o, x_fU_s, x_fU_o]
  have eR : F_J7_copyOfRange_39247 n v (nI 0) (nI l.length) W = some (x_n u + 1, W2) := by
    have etv : x_t W v = x_t u v := tW v (by omega)
    unfold F_J7_copyOfRange_39247
    rw [if_pos (show nI 0 = 0 from rfl), p_xlen, h_xlenE hkv (by omega)]
    by_cases q : l.length = cap
    · rw [if_pos (by rw [q])]
      have hbk : x_bok (x_t W v) 0 cap = true := by rw [etv]; exact y_bok (fun j hj => by rw [Nat.zero_add]; exact h9 j hj)
      rw [p_xcln, h_xclnE hkv (Or.inr hbk) (by omega), p_xcst, h_xcstE (len := cap) (by show x_fU (x_k W) (x_n W) _ (x_n W) = _; exact x_fU_s), nW, etv, hW2, if_pos q, q]
    · rw [if_neg (fun h => by rw [nI_eq (by omega) (by omega)] at h; exact q h)]
      have ek1 : x_k (x_un W (.inr (l.length, 2)) l.length (fun _ => nI 0)) v = .inr (cap, 2) := by
        show x_fU (x_k W) (x_n W) _ v = _
        rw [x_fU_o (by omega)]; exact hkv
      have ek2 : x_k (x_un W (.inr (l.length, 2)) l.length (fun _ => nI 0)) (x_n u + 1) = .inr (l.length, 2) := by
        show x_fU (x_k W) (x_n W) _ (x_n u + 1) = _
        rw [nW]; exact x_fU_s
      have et1 : x_t (x_un W (.inr (l.length, 2)) l.length (fun _ => nI 0)) v = x_t u v := by
        show x_fU (x_t W) (x_n W) _ v = _
        rw [x_fU_o (by omega)]; exact etv
      have et2 : x_t (x_un W (.inr (l.length, 2)) l.length (fun _ => nI 0)) (x_n u + 1) = fun _ => nI 0 := by
        show x_fU (x_t W) (x_n W) _ (x_n u + 1) = _
        rw [nW]; exact x_fU_s
      have ec : F_J7_checkLength_df160 n (nI 0) (nI l.length) W = some (nI 0, W) := by
        unfold F_J7_checkLength_df160
        rw [if_neg (by rw [nI_ltI (by omega) (by omega)]; omega)]
        rfl
      unfold F_J7_copyOfRangeByte_39247
      rw [ec, z_xcall, x_nmE, z_sub (by omega), Nat.sub_zero, p_xnwa, h_xnwaE (by omega) (by omega), ez, nW, p_xlen, h_xlenE ek1 (by omega), z_sub (by omega), Nat.sub_zero, z_mnE (by omega) (by omega), Nat.min_eq_right (by omega), e0, z_xcp ek1 (Or.inl rfl) ek2 (by omega) (by omega) (by omega) (y_bok (fun j hj => by rw [et1, Nat.zero_add]; exact h9 j (by omega))), et1, et2, z_xcall, hW2, if_neg q]
  obtain ⟨U, hU⟩ : ∃ U, U = x_ur W2 (x_n u) 0 (x_n u + 1) := ⟨_, rfl⟩
  have nU : x_n U = x_n u + 2 := by rw [hU]; exact nW2
  have hb128 : ∀ j, j < l.length → l.getD j 0 < 128 ∨ True := fun _ _ => Or.inr trivial
  refine ⟨U, ⟨by rw [hU]; exact cW2, by omega, ?_, fun i hi => ?_, fun i hi _ => ⟨?_, ?_⟩⟩, nU, ?_, ⟨⟨?_, ?_, ?_, by omega⟩, ⟨2, Or.inl rfl, ?_⟩, fun j hj => ?_, fun j hj => ?_, by omega, by omega⟩, ?_⟩
  · have : x_m U = x_m W2 := by rw [hU]; rfl
    omega
  · have : x_k U = x_k W2 := by rw [hU]; rfl
    rw [this, kW2 i (by omega), kW i (by omega)]
  · have : x_r U i = x_r W2 i := by rw [hU]; exact x_up_o (by omega)
    rw [this, rW2 i (by omega), rW i (by omega)]
  · have : x_t U = x_t W2 := by rw [hU]; rfl
    rw [this, tW2 i (by omega), tW i (by omega)]
  · have : x_m U = x_m W2 := by rw [hU]; rfl
    omega
  · have : x_k U = x_k W2 := by rw [hU]; rfl
    rw [this, kW2 _ (by omega)]; exact kWs
  · rw [hU]; exact x_up_s
  · have : x_t U = x_t W2 := by rw [hU]; rfl
    rw [this, tW2 _ (by omega)]; exact tWs
  · have : x_k U = x_k W2 := by rw [hU]; rfl
    rw [this]; exact kW2s
  · have : x_t U = x_t W2 := by rw [hU]; rfl
    rw [this, tW2s]; exact hfv j hj
  · exact (h8 j hj).2
  · have kW2n : x_k W2 (x_n u) = .inl 13 := by rw [kW2 _ (by omega)]; exact kWs
    obtain ⟨U0, hU0⟩ : ∃ U0, U0 = x_un u (.inl 13) (q_nF 13) (fun _ => nI 0) := ⟨_, rfl⟩
    have ko : x_k U0 o = .inl 14 := by rw [hU0]; simp (disch := omega) only [xs_k_ui, xs_k_ur, xs_k_uc, xs_k_un, xs_k_ub, xs_r_ui, xs_r_ur, xs_r_uc, xs_r_un, xs_r_ub, xs_t_ui, xs_t_ur, xs_t_uc, xs_t_un, xs_t_ub, xs_n_ui, xs_n_ur, xs_n_uc, xs_n_un, xs_n_ub, xs_m_ui, xs_m_ur, xs_m_uc, xs_m_un, xs_m_ub, xs_c_ui, xs_c_ur, xs_c_uc, xs_c_un, xs_c_ub, x_up_s, x_up_k, x_up_o, x_fU_s, x_fU_o]; exact h1
    have ks : x_k U0 (x_n u) = .inl 13 := by rw [hU0]; simp (disch := omega) only [xs_k_ui, xs_k_ur, xs_k_uc, xs_k_un, xs_k_ub, xs_r_ui, xs_r_ur, xs_r_uc, xs_r_un, xs_r_ub, xs_t_ui, xs_t_ur, xs_t_uc, xs_t_un, xs_t_ub, xs_n_ui, xs_n_ur, xs_n_uc, xs_n_un, xs_n_ub, xs_m_ui, xs_m_ur, xs_m_uc, xs_m_un, xs_m_ub, xs_c_ui, xs_c_ur, xs_c_uc, xs_c_un, xs_c_ub, x_up_s, x_up_k, x_up_o, x_fU_s, x_fU_o]
    have ro : x_r U0 o 0 = v := by rw [hU0]; simp (disch := omega) only [xs_k_ui, xs_k_ur, xs_k_uc, xs_k_un, xs_k_ub, xs_r_ui, xs_r_ur, xs_r_uc, xs_r_un, xs_r_ub, xs_t_ui, xs_t_ur, xs_t_uc, xs_t_un, xs_t_ub, xs_n_ui, xs_n_ur, xs_n_uc, xs_n_un, xs_n_ub, xs_m_ui, xs_m_ur, xs_m_uc, xs_m_un, xs_m_ub, xs_c_ui, xs_c_ur, xs_c_uc, xs_c_un, xs_c_ub, x_up_s, x_up_k, x_up_o, x_fU_s, x_fU_o]; exact h2
    have to1 : x_t U0 o 1 = nI 0 := by rw [hU0]; simp (disch := omega) only [xs_k_ui, xs_k_ur, xs_k_uc, xs_k_un, xs_k_ub, xs_r_ui, xs_r_ur, xs_r_uc, xs_r_un, xs_r_ub, xs_t_ui, xs_t_ur, xs_t_uc, xs_t_un, xs_t_ub, xs_n_ui, xs_n_ur, xs_n_uc, xs_n_un, xs_n_ub, xs_m_ui, xs_m_ur, xs_m_uc, xs_m_un, xs_m_ub, xs_c_ui, xs_c_ur, xs_c_uc, xs_c_un, xs_c_ub, x_up_s, x_up_k, x_up_o, x_fU_s, x_fU_o]; exact h3
    have to3 : x_t U0 o 3 = nI l.length := by rw [hU0]; simp (disch := omega) only [xs_k_ui, xs_k_ur, xs_k_uc, xs_k_un, xs_k_ub, xs_r_ui, xs_r_ur, xs_r_uc, xs_r_un, xs_r_ub, xs_t_ui, xs_t_ur, xs_t_uc, xs_t_un, xs_t_ub, xs_n_ui, xs_n_ur, xs_n_uc, xs_n_un, xs_n_ub, xs_m_ui, xs_m_ur, xs_m_uc, xs_m_un, xs_m_ub, xs_c_ui, xs_c_ur, xs_c_uc, xs_c_un, xs_c_ub, x_up_s, x_up_k, x_up_o, x_fU_s, x_fU_o]; exact h4
    have hWU : W = x_ui U0 (x_n u) 1 (nI 0) := by rw [hW, hU0]
    have eV : F_J5_getValue_6d5f1 n o U0 = some (v, U0) := by
      unfold F_J5_getValue_6d5f1
      rw [p_xgr, h_xgrE ko, ro]
    have eLn : F_J4_length_8abf5 n o U0 = some (nI l.length, U0) := by
      unfold F_J4_length_8abf5 F_J5_length_8abf5
      rw [p_xo, h_xoE ko, p_xgi, h_xgiE ko, to3, z_xcall]
    have eLt : F_J5_isLatin1_aae02 n o U0 = some (nI 1, U0) := by
      unfold F_J5_isLatin1_aae02
      rw [if_neg (by decide), p_xgi, h_xgiE ko, to1]
      rfl
    have hs0 : ¬ x_n u = 0 := by omega
    have eI : F_J0_init_db425 n (x_n u) o 0 U0 = some (nI 0, U) := by
      unfold F_J0_init_db425
      rw [if_neg hs0, p_xo, h_xoE ko, eV, z_xcall, p_xo, h_xoE ko, eLn, z_xcall, p_xo, h_xoE ko, eLt, z_xcall, if_neg (by decide), p_xpi, h_xpiE ks (by omega), e0, ← hWU, eR, z_xcall, p_xpr, h_xprE kW2n (by omega), hU]
    unfold F_J4_toString_0e30d F_J0_init_81219
    rw [p_xnew, h_xnewE (by omega), ez, ← hU0, p_xo, h_xoE ks, p_xo, h_xoE ks, eI, z_xcall, z_xcall]
end NUM
