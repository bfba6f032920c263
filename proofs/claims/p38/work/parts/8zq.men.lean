/-! the men made -/
section KK
variable {p b L pl pa mu me Lx wn : Nat} {xs : Nat → Int32} {d : Nat → Nat} {Fz : Nat → Prop} {V : Nat → Int32} {hs : z_Hs} {u : x_U}
def y_kv (c : Int32) (k : Nat) : Int32 := (c * (nI k + 1)) + (311 * nI k)
def y_kX (v : Int32) : Nat := y_bt (v >>> (3 &&& 31)) 0 12
def y_kY (v : Int32) : Nat := y_bt (v >>> (5 &&& 31)) 0 9
def y_kZ (v : Int32) : Nat := y_bt (v >>> (6 &&& 31)) 0 9
set_option maxHeartbeats 4000000 in
/-- a man's row -/
theorem T_kA {v : Int32} {i : Nat} (hk : x_k u p = .inl 12) (hr : x_r u p 13 = p+2) (hk1 : x_k u (p+2) = .inr (5, 3)) (hi : i < 5) (hp : p + 6 ≤ x_n u) (hb : x_n u + 1 ≤ 500000) : ∃ w, x_fr (fun o => o = p+2) u w ∧ x_n w = x_n u + 1 ∧ x_m w = x_m u + 3 ∧ x_k w (x_n u) = .inr (3, 0) ∧ x_r w (p+2) i = x_n u ∧ (∀ j, j ≠ i → x_r w (p+2) j = x_r u (p+2) j) ∧ (x_t w (x_n u) 0 = nI (y_kX v) ∧ x_t w (x_n u) 1 = nI (y_kY v) ∧ x_t w (x_n u) 2 = nI (y_kZ v)) ∧
    ∀ K : Nat → x_U → Option (Nat × x_U), (x_gr u p 12 13 fun o86 =>
    x_nwa u 0 3 fun o87 s88 =>
    x_call (F_L_between q_F (v >>> (3 &&& 31)) 0 12 s88) fun r90 s89 =>
    x_st s89 o87 0 r90 fun s91 =>
    x_call (F_L_between q_F (v >>> (5 &&& 31)) 0 9 s91) fun r93 s92 =>
    x_st s92 o87 1 r93 fun s94 =>
    x_call (F_L_between q_F (v >>> (6 &&& 31)) 0 9 s94) fun r96 s95 =>
    x_st s95 o87 2 r96 fun s97 =>
    x_sr s97 o86 (nI i) o87 fun s98 => K o87 s98) = K (x_n u) w := by
  obtain ⟨w, hw⟩ : ∃ w, w = x_ur (x_ui (x_ui (x_ui (x_un u (.inr (3, 0)) 3 (fun _ => 0)) (x_n u) 0 (nI (y_kX v))) (x_n u) 1 (nI (y_kY v))) (x_n u) 2 (nI (y_kZ v))) (p+2) i (x_n u) := ⟨_, rfl⟩
  have nW : x_n w = x_n u + 1 := by rw [hw]; simp (disch := omega) only [xs_k_ui, xs_k_ur, xs_k_uc, xs_k_un, xs_k_ub, xs_r_ui, xs_r_ur, xs_r_uc, xs_r_un, xs_r_ub, xs_t_ui, xs_t_ur, xs_t_uc, xs_t_un, xs_t_ub, xs_n_ui, xs_n_ur, xs_n_uc, xs_n_un, xs_n_ub, xs_m_ui, xs_m_ur, xs_m_uc, xs_m_un, xs_m_ub, xs_c_ui, xs_c_ur, xs_c_uc, xs_c_un, xs_c_ub, x_up_s, x_up_k, x_up_o, x_fU_s, x_fU_o]
  have mW : x_m w = x_m u + 3 := by rw [hw]; simp (disch := omega) only [xs_k_ui, xs_k_ur, xs_k_uc, xs_k_un, xs_k_ub, xs_r_ui, xs_r_ur, xs_r_uc, xs_r_un, xs_r_ub, xs_t_ui, xs_t_ur, xs_t_uc, xs_t_un, xs_t_ub, xs_n_ui, xs_n_ur, xs_n_uc, xs_n_un, xs_n_ub, xs_m_ui, xs_m_ur, xs_m_uc, xs_m_un, xs_m_ub, xs_c_ui, xs_c_ur, xs_c_uc, xs_c_un, xs_c_ub, x_up_s, x_up_k, x_up_o, x_fU_s, x_fU_o]
  have kO : ∀ o, o ≠ x_n u → x_k w o = x_k u o := fun o ho => by rw [hw]; simp (disch := omega) only [xs_k_ui, xs_k_ur, xs_k_uc, xs_k_un, xs_k_ub, xs_r_ui, xs_r_ur, xs_r_uc, xs_r_un, xs_r_ub, xs_t_ui, xs_t_ur, xs_t_uc, xs_t_un, xs_t_ub, xs_n_ui, xs_n_ur, xs_n_uc, xs_n_un, xs_n_ub, xs_m_ui, xs_m_ur, xs_m_uc, xs_m_un, xs_m_ub, xs_c_ui, xs_c_ur, xs_c_uc, xs_c_un, xs_c_ub, x_up_s, x_up_k, x_up_o, x_fU_s, x_fU_o]
  have tO : ∀ o, o ≠ x_n u → x_t w o = x_t u o := fun o ho => by rw [hw]; simp (disch := omega) only [xs_k_ui, xs_k_ur, xs_k_uc, xs_k_un, xs_k_ub, xs_r_ui, xs_r_ur, xs_r_uc, xs_r_un, xs_r_ub, xs_t_ui, xs_t_ur, xs_t_uc, xs_t_un, xs_t_ub, xs_n_ui, xs_n_ur, xs_n_uc, xs_n_un, xs_n_ub, xs_m_ui, xs_m_ur, xs_m_uc, xs_m_un, xs_m_ub, xs_c_ui, xs_c_ur, xs_c_uc, xs_c_un, xs_c_ub, x_up_s, x_up_k, x_up_o, x_fU_s, x_fU_o]
  have rO : ∀ o, o ≠ x_n u → o ≠ p+2 → x_r w o = x_r u o := fun o ho ho2 => by rw [hw]; simp (disch := omega) only [xs_k_ui, xs_k_ur, xs_k_uc, xs_k_un, xs_k_ub, xs_r_ui, xs_r_ur, xs_r_uc, xs_r_un, xs_r_ub, xs_t_ui, xs_t_ur, xs_t_uc, xs_t_un, xs_t_ub, xs_n_ui, xs_n_ur, xs_n_uc, xs_n_un, xs_n_ub, xs_m_ui, xs_m_ur, xs_m_uc, xs_m_un, xs_m_ub, xs_c_ui, xs_c_ur, xs_c_uc, xs_c_un, xs_c_ub, x_up_s, x_up_k, x_up_o, x_fU_s, x_fU_o]
  refine ⟨w, ⟨by rw [hw]; simp (disch := omega) only [xs_k_ui, xs_k_ur, xs_k_uc, xs_k_un, xs_k_ub, xs_r_ui, xs_r_ur, xs_r_uc, xs_r_un, xs_r_ub, xs_t_ui, xs_t_ur, xs_t_uc, xs_t_un, xs_t_ub, xs_n_ui, xs_n_ur, xs_n_uc, xs_n_un, xs_n_ub, xs_m_ui, xs_m_ur, xs_m_uc, xs_m_un, xs_m_ub, xs_c_ui, xs_c_ur, xs_c_uc, xs_c_un, xs_c_ub, x_up_s, x_up_k, x_up_o, x_fU_s, x_fU_o], by omega, by omega, fun o ho => kO o (by omega), fun o ho ho2 => ⟨rO o (by omega) ho2, tO o (by omega)⟩⟩, nW, mW, by rw [hw]; simp (disch := omega) only [xs_k_ui, xs_k_ur, xs_k_uc, xs_k_un, xs_k_ub, xs_r_ui, xs_r_ur, xs_r_uc, xs_r_un, xs_r_ub, xs_t_ui, xs_t_ur, xs_t_uc, xs_t_un, xs_t_ub, xs_n_ui, xs_n_ur, xs_n_uc, xs_n_un, xs_n_ub, xs_m_ui, xs_m_ur, xs_m_uc, xs_m_un, xs_m_ub, xs_c_ui, xs_c_ur, xs_c_uc, xs_c_un, xs_c_ub, x_up_s, x_up_k, x_up_o, x_fU_s, x_fU_o], by rw [hw]; simp (disch := omega) only [xs_k_ui, xs_k_ur, xs_k_uc, xs_k_un, xs_k_ub, xs_r_ui, xs_r_ur, xs_r_uc, xs_r_un, xs_r_ub, xs_t_ui, xs_t_ur, xs_t_uc, xs_t_un, xs_t_ub, xs_n_ui, xs_n_ur, xs_n_uc, xs_n_un, xs_n_ub, xs_m_ui, xs_m_ur, xs_m_uc, xs_m_un, xs_m_ub, xs_c_ui, xs_c_ur, xs_c_uc, xs_c_un, xs_c_ub, x_up_s, x_up_k, x_up_o, x_fU_s, x_fU_o], fun j hj => by rw [hw]; simp (disch := omega) only [xs_k_ui, xs_k_ur, xs_k_uc, xs_k_un, xs_k_ub, xs_r_ui, xs_r_ur, xs_r_uc, xs_r_un, xs_r_ub, xs_t_ui, xs_t_ur, xs_t_uc, xs_t_un, xs_t_ub, xs_n_ui, xs_n_ur, xs_n_uc, xs_n_un, xs_n_ub, xs_m_ui, xs_m_ur, xs_m_uc, xs_m_un, xs_m_ub, xs_c_ui, xs_c_ur, xs_c_uc, xs_c_un, xs_c_ub, x_up_s, x_up_k, x_up_o, x_fU_s, x_fU_o], ⟨by rw [hw]; simp (disch := omega) only [xs_k_ui, xs_k_ur, xs_k_uc, xs_k_un, xs_k_ub, xs_r_ui, xs_r_ur, xs_r_uc, xs_r_un, xs_r_ub, xs_t_ui, xs_t_ur, xs_t_uc, xs_t_un, xs_t_ub, xs_n_ui, xs_n_ur, xs_n_uc, xs_n_un, xs_n_ub, xs_m_ui, xs_m_ur, xs_m_uc, xs_m_un, xs_m_ub, xs_c_ui, xs_c_ur, xs_c_uc, xs_c_un, xs_c_ub, x_up_s, x_up_k, x_up_o, x_fU_s, x_fU_o], by rw [hw]; simp (disch := omega) only [xs_k_ui, xs_k_ur, xs_k_uc, xs_k_un, xs_k_ub, xs_r_ui, xs_r_ur, xs_r_uc, xs_r_un, xs_r_ub, xs_t_ui, xs_t_ur, xs_t_uc, xs_t_un, xs_t_ub, xs_n_ui, xs_n_ur, xs_n_uc, xs_n_un, xs_n_ub, xs_m_ui, xs_m_ur, xs_m_uc, xs_m_un, xs_m_ub, xs_c_ui, xs_c_ur, xs_c_uc, xs_c_un, xs_c_ub, x_up_s, x_up_k, x_up_o, x_fU_s, x_fU_o], by rw [hw]; simp (disch := omega) only [xs_k_ui, xs_k_ur, xs_k_uc, xs_k_un, xs_k_ub, xs_r_ui, xs_r_ur, xs_r_uc, xs_r_un, xs_r_ub, xs_t_ui, xs_t_ur, xs_t_uc, xs_t_un, xs_t_ub, xs_n_ui, xs_n_ur, xs_n_uc, xs_n_un, xs_n_ub, xs_m_ui, xs_m_ur, xs_m_uc, xs_m_un, xs_m_ub, xs_c_ui, xs_c_ur, xs_c_uc, xs_c_un, xs_c_ub, x_up_s, x_up_k, x_up_o, x_fU_s, x_fU_o]⟩, fun K => ?_⟩
  have e0 : ∀ s : x_U, F_L_between q_F (v >>> (3 &&& 31)) 0 12 s = some (nI (y_kX v), s) := fun s => F_btw (lo := 0) (hi := 12) (by omega) (by omega)
  have e1 : ∀ s : x_U, F_L_between q_F (v >>> (5 &&& 31)) 0 9 s = some (nI (y_kY v), s) := fun s => F_btw (lo := 0) (hi := 9) (by omega) (by omega)
  have e2 : ∀ s : x_U, F_L_between q_F (v >>> (6 &&& 31)) 0 9 s = some (nI (y_kZ v), s) := fun s => F_btw (lo := 0) (hi := 9) (by omega) (by omega)
  have hS : ∀ (s : x_U) (c : Nat) (y : Int32) (J : x_U → Option (Nat × x_U)), x_k s (x_n u) = .inr (3, 0) → c < 3 → x_st s (x_n u) (nI c) y J = J (x_ui s (x_n u) c y) := fun s c y J k hc => by
    rw [p_xst, h_xstE k hc (by omega)]
  have k0 : x_k (x_un u (.inr (3, 0)) 3 (fun _ => 0)) (x_n u) = .inr (3, 0) := x_fU_s
  have k9 : x_k (x_un u (.inr (3, 0)) 3 (fun _ => 0)) (p+2) = .inr (5, 3) := by simp (disch := omega) only [xs_k_ui, xs_k_ur, xs_k_uc, xs_k_un, xs_k_ub, xs_r_ui, xs_r_ur, xs_r_uc, xs_r_un, xs_r_ub, xs_t_ui, xs_t_ur, xs_t_uc, xs_t_un, xs_t_ub, xs_n_ui, xs_n_ur, xs_n_uc, xs_n_un, xs_n_ub, xs_m_ui, xs_m_ur, xs_m_uc, xs_m_un, xs_m_ub, xs_c_ui, xs_c_ur, xs_c_uc, xs_c_un, xs_c_ub, x_up_s, x_up_k, x_up_o, x_fU_s, x_fU_o]; exact hk1
  rw [p_xgr, h_xgrE hk, hr]
  show x_nwa u 0 (nI 3) (fun o87 s88 => _) = _
  rw [p_xnwa, h_xnwaE (by omega) (by omega), e0, z_xcall]
  refine (hS _ 0 _ _ (by exact k0) (by omega)).trans ?_
  rw [e1, z_xcall]
  refine (hS _ 1 _ _ (by exact k0) (by omega)).trans ?_
  rw [e2, z_xcall]
  refine (hS _ 2 _ _ (by exact k0) (by omega)).trans ?_
  rw [p_xsr, h_xsrE (len := 5) (t := 3) (by exact k9) (by omega) hi (by simp (disch := omega) only [xs_k_ui, xs_k_ur, xs_k_uc, xs_k_un, xs_k_ub, xs_r_ui, xs_r_ur, xs_r_uc, xs_r_un, xs_r_ub, xs_t_ui, xs_t_ur, xs_t_uc, xs_t_un, xs_t_ub, xs_n_ui, xs_n_ur, xs_n_uc, xs_n_un, xs_n_ub, xs_m_ui, xs_m_ur, xs_m_uc, xs_m_un, xs_m_ub, xs_c_ui, xs_c_ur, xs_c_uc, xs_c_un, xs_c_ub, x_up_s, x_up_k, x_up_o, x_fU_s, x_fU_o]; rfl) (by omega), hw]
theorem x_TI.kk {τ τ' : q_Sto} {V W : Nat → Int32} {k : Nat} (h : x_TI τ p b mu k V) (hmu : mu ≤ 12) (hk : k < 5) (e : ∀ m, m < mu → τ' (b+m) = τ (b+m)) (ek : ∀ j, j < k → τ' (b+mu+j) = τ (b+mu+j)) (ep : ∀ j, j ≠ 8 → τ' p j = τ p j) (e8 : τ' p 8 = nI (k+1)) (hW : ∀ a, a < 20 ∨ (88 ≤ a ∧ a < 119) ∨ (129 ≤ a ∧ a < 141) → W a = V a)
    (hl : ∀ m j, m < mu → j < k → W (20+5*m+j) = V (20+5*m+j)) (hj : ∀ j, j < k → W (80+j) = V (80+j) ∧ W (119+j) = V (119+j) ∧ W (124+j) = V (124+j)) (hm : ∀ m, m < mu → τ (b+m) (5+k) = W (20+5*m+k)) (hn : τ' (b+mu+k) 0 = W (80+k) ∧ τ' (b+mu+k) 1 = W (119+k) ∧ τ' (b+mu+k) 2 = W (124+k)) : x_TI τ' p b mu (k+1) W := by
  obtain ⟨⟨t0, t1, t2, t3, t4, t5, t6, t7, t8, t9, ta⟩, tm, tk⟩ := h
  refine ⟨?_, fun m hm2 => ?_, fun j hj2 => ?_⟩
  · rw [ep 0 (by omega), ep 1 (by omega), ep 2 (by omega), ep 3 (by omega), ep 4 (by omega), ep 5 (by omega), ep 6 (by omega), ep 7 (by omega), ep 9 (by omega), ep 10 (by omega), hW 5 (by omega), hW 0 (by omega), hW 1 (by omega), hW 2 (by omega), hW 3 (by omega), hW 4 (by omega), hW 88 (by omega), hW 6 (by omega), hW 90 (by omega)]
    exact ⟨t0, t1, t2, t3, t4, t5, t6, t7, e8, t9, ta⟩
  · obtain ⟨q0, q1, q2, q3, q4, q5⟩ := tm m hm2
    rw [e m hm2, hW (95+m) (by omega), hW (107+m) (by omega), hW 7 (by omega), hW (8+m) (by omega), hW (129+m) (by omega)]
    refine ⟨q0, q1, q2, q3, q4, fun j hj2 => ?_⟩
    by_cases q : j = k
    · subst q; exact hm m hm2
    · rw [hl m j hm2 (by omega)]; exact q5 j (by omega)
  · by_cases q : j = k
    · subst q; exact hn
    · obtain ⟨q0, q1, q2⟩ := tk j (by omega)
      obtain ⟨w0, w1, w2⟩ := hj j (by omega)
      rw [ek j (by omega), w0, w1, w2]
      exact ⟨q0, q1, q2⟩
theorem x_TB.kk {w : x_U} {W : Nat → Int32} {k : Nat} (h : x_TB u Fz p b L pl pa mu k d V) (hk : k < 5) (hbn : x_n u = b + mu + k) (hb : x_n u + 1 ≤ 500000) (f : x_fr (fun o => o = p ∨ o = p+2) u w) (hn : x_n w = x_n u + 1) (k0 : x_k w (x_n u) = .inr (3, 0)) (rp : x_r w p = x_r u p) (r1 : x_r w (p+2) k = x_n u) (rj : ∀ j, j ≠ k → x_r w (p+2) j = x_r u (p+2) j) (hI : x_TI (x_t w) p b mu (k+1) W) (h6 : W 6 = V 6) (hV : ∀ a, 305 ≤ a → a < 905 → W a = V a) : x_TB w Fz p b L pl pa mu (k+1) d W := by
  obtain ⟨⟨⟨a1, a2, a3, a4, a5, a6⟩, ⟨k1, k2, k3, k4, k5, k6⟩, s1, s2, s3, s4, s5, s6, s7, s8⟩, h2, ⟨h3, h3b⟩, h4, h5, h8⟩ := h
  have hF : ∀ o, Fz o → o < x_n u ∧ ¬ (o = p ∨ o = p+2) := fun o ho => ⟨h3 o ho, fun q => h3b o (by unfold x_own; omega) ho⟩
  have kw : ∀ o, o < x_n u → x_k w o = x_k u o := fun o ho => f.2.2.2.1 o (Or.inl ho)
  have rw' : ∀ o, o < x_n u → o ≠ p → o ≠ p+2 → x_r w o = x_r u o := fun o ho h1 h2 => (f.2.2.2.2 o (Or.inl ho) (fun q => by rcases q with q | q; exact h1 q; exact h2 q)).1
  refine ⟨⟨⟨a1, a2, by omega, by omega, a5, by omega⟩, ⟨?_, ?_, ?_, ?_, fun m hm => ?_, fun j hj => ?_⟩, ?_, ?_, ?_, ?_, ?_, ?_, fun m hm => ?_, fun j hj => ?_⟩, hI, ⟨fun o ho => by have := h3 o ho; omega, fun o ho hq => ?_⟩, h4, h5.fr f (fun hL => hF _ (h4 hL)), ?_⟩
  · rw [kw p (by omega)]; exact k1
  · rw [kw (p+1) (by omega)]; exact k2
  · rw [kw (p+2) (by omega)]; exact k3
  · rw [kw (p+5) (by omega)]; exact k4
  · rw [kw (b+m) (by omega)]; exact k5 m hm
  · by_cases q : j = k
    · subst q; rw [← hbn]; exact k0
    · rw [kw (b+mu+j) (by omega)]; exact k6 j (by omega)
  · rw [rp]; exact s1
  · rw [rp]; exact s2
  · rw [rp]; exact s3
  · rw [rp]; exact s4
  · rw [rp]; exact s5
  · rw [rp]; exact s6
  · rw [rw' (p+1) (by omega) (by omega) (by omega)]; exact s7 m hm
  · by_cases q : j = k
    · subst q; rw [r1]; exact hbn
    · rw [rj j q]; exact s8 j (by omega)
  · by_cases q : o = b + mu + k
    · have := h3 o hq; omega
    · exact h3b o (by unfold x_own at ho ⊢; omega) hq
  · have e5 : x_r w (p+5) = x_r u (p+5) := rw' _ (by omega) (by omega) (by omega)
    exact (h8.cg h6 hV).fr f e5 hF (fun _ q => q)
set_option maxHeartbeats 4000000 in
/-- what each mule thinks of the new man -/
theorem T_637 {v : Int32} {x4 x7 : Int32} {k : Nat} (hk : k < 5) : ∀ j i w V hs, i ≤ mu → mu < j + i → x_TB w Fz p b L pl pa mu (k+1) d V → z_CS mu (k+1) (x_c w) V hs wn → y_WC Lx xs w → (∀ m, i ≤ m → m < mu → V (20+5*m+k) = nI 30) → y_T30 (x_t w) b mu (k+1) →
    ∃ w' V' hs', x_n w' = x_n w ∧ x_m w' = x_m w ∧ x_TB w' Fz p b L pl pa mu (k+1) d V' ∧ z_CS mu (k+1) (x_c w') V' hs' wn ∧ y_WC Lx xs w' ∧ (∀ a, a < 20 ∨ 80 ≤ a → V' a = V a) ∧ y_T30 (x_t w') b mu (k+1) ∧ ∀ K : x_U → Option (Nat × x_U), F_L_train_L637 q_F (x_CT + 2) 0 p x4 v x7 (nI k) K j (nI i) w = K w' := by
  intro j
  induction j with
  | zero => intro i w V hs h1 h2; omega
  | succ j ih =>
    intro i w V hs h1 h2 hT hz hW h30v h30
    have hbd := hT.bd
    have kp : x_k w p = .inl 12 := hT.1.2.1.1
    have kq : x_k w (p+1) = .inr (12, 3) := hT.1.2.1.2.1
    have rp : x_r w p 12 = p+1 := hT.1.2.2.1
    have t7 : x_t w p 7 = nI mu := hT.2.1.1.2.2.2.2.2.2.2.1
    by_cases hi : i = mu
    · subst hi
      refine ⟨w, V, hs, rfl, rfl, hT, hz, hW, fun _ _ => rfl, h30, fun K => ?_⟩
      rw [F_L_train_L637, p_xgi, h_xgiE kp, t7, if_neg (fun q => by have := (nI_ltI (by omega) (by omega)).mp q; omega)]
    · have hlt : i < mu := by omega
      have rb : x_r w (p+1) i = b+i := hT.1.2.2.2.2.2.2.2.2.1 i hlt
      have kb : x_k w (b+i) = .inr (10, 0) := hT.1.2.1.2.2.2.2.1 i hlt
      obtain ⟨r, hr⟩ : ∃ r, r = y_bt ((v * (nI i + 3)) >>> (4 &&& 31)) 0 99 := ⟨_, rfl⟩
      have hr99 : r ≤ 99 := by
        rw [hr]
        exact (y_bt_b (lo := 0) (hi := 99) (by omega)).2
      have eB : F_L_between q_F ((v * (nI i + 3)) >>> (4 &&& 31)) 0 99 w = some (nI r, w) := by
        rw [hr]
        exact F_btw (lo := 0) (hi := 99) (by omega) (by omega)
      have hO := c_of10 hz hlt (k := k) (by omega)
      rw [h30v i (Nat.le_refl _) hlt] at hO
      obtain ⟨σ1, eL, hz1⟩ := Q_like (v := r) hz hlt (k := k) (by omega) hr99
      have ho : x_own p b mu (k+1) (b+i) := by unfold x_own; omega
      have hT1 : x_TB (x_ui w (b+i) (5+k) (nI r)) Fz p b L pl pa mu (k+1) d (z_u V (20+5*i+k) (nI r)) := hT.ui ho (hT.2.1.like (by omega) (by omega) (by omega) hlt (by omega)) (z_uK (by omega)) (fun a a1 a2 => z_uK (by omega))
      have hT2 : x_TB (x_uc (x_ui w (b+i) (5+k) (nI r)) σ1) Fz p b L pl pa mu (k+1) d (z_u V (20+5*i+k) (nI r)) := hT1
      have hW1 : y_WC Lx xs (x_ui w (b+i) (5+k) (nI r)) := hW.fr (x_fr.ui (own := x_own p b mu (k+1)) ho) (fun o hq => by unfold x_own at hq; omega)
      have hW2 : y_WC Lx xs (x_uc (x_ui w (b+i) (5+k) (nI r)) σ1) := hW1
      obtain ⟨w', V', hs', g1, g2, g3, g4, g5, g6, g8, g7⟩ := ih (i+1) _ _ y_h0 (by omega) (by omega) hT2 hz1 hW2 (fun m m1 m2 => by rw [z_uK (by omega)]; exact h30v m (by omega) m2) (fun m hm c c1 c2 => by
        show x_up (x_t w) (b+i) (5+k) (nI r) (b+m) (5+c) = nI 30
        by_cases q : m = i
        · subst q
          rw [x_up_k (by omega)]
          exact h30 m hm c c1 c2
        · rw [x_up_o (by omega)]
          exact h30 m hm c c1 c2)
      refine ⟨w', V', hs', g1, g2, g3, g4, g5, fun a ha => by rw [g6 a ha, z_uK (by omega)], g8, fun K => ?_⟩
      have e5 : (5 : Int32) + nI k = nI (5+k) := by rw [show (5 : Int32) = nI 5 from rfl, nI_add]
      have e10 : (10 : Int32) + nI k = nI (10+k) := by rw [show (10 : Int32) = nI 10 from rfl, nI_add]
      have k2p : x_k (x_ui w (b+i) (5+k) (nI r)) p = .inl 12 := kp
      have k2q : x_k (x_ui w (b+i) (5+k) (nI r)) (p+1) = .inr (12, 3) := kq
      have k2b : x_k (x_ui w (b+i) (5+k) (nI r)) (b+i) = .inr (10, 0) := kb
      have r2p : x_r (x_ui w (b+i) (5+k) (nI r)) p 12 = p+1 := rp
      have r2b : x_r (x_ui w (b+i) (5+k) (nI r)) (p+1) i = b+i := rb
      have t2b : x_t (x_ui w (b+i) (5+k) (nI r)) (b+i) (5+k) = nI r := x_up_s
      have hO2 : f_X11_of q_F 0 (nI i) (nI (10+k)) (x_c (x_ui w (b+i) (5+k) (nI r))) = some (30, x_c w) := hO
      have eu : x_uc (x_ui w (b+i) (5+k) (nI r)) (x_c w) = x_ui w (b+i) (5+k) (nI r) := rfl
      have eL2 : f_X11_like q_F 0 (nI i) (nI k) (nI r) (x_c (x_ui w (b+i) (5+k) (nI r))) = some (nI 1, σ1) := eL
      rw [← g7 K, F_L_train_L637, p_xgi, h_xgiE kp, t7, if_pos ((nI_ltI (by omega) (by omega)).mpr hlt), p_xgr, h_xgrE kp, rp, p_xlr, h_xlrE kq (by omega) (by omega) (by omega), rb, eB, z_xcall, e5, p_xst, h_xstE kb (by omega) (by omega), e10, hO2, z_xcalc, if_pos rfl, eu, p_xgr, h_xgrE k2p, r2p, p_xlr, h_xlrE k2q (by omega) (by omega) (by omega), r2b, p_xld, h_xldE k2b (by omega) (by omega), t2b, eL2, z_xcalc, if_neg (by decide), show (1 : Int32) = nI 1 from rfl, nI_add]
end KK
