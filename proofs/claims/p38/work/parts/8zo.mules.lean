/-! the mules made -/
section MM
variable {p b L pl pa mu me Lx wn : Nat} {xs : Nat → Int32} {d : Nat → Nat} {Fz : Nat → Prop} {V : Nat → Int32} {hs : z_Hs} {u : x_U}
def y_mv (c : Int32) (i : Nat) : Int32 := (c * (nI i + 1)) + (307 * nI i)
def y_mX (v : Int32) : Nat := y_bt (v >>> (3 &&& 31)) 1 40
def y_mY (v : Int32) : Nat := y_bt (v >>> (5 &&& 31)) 0 40
def y_mZ (v : Int32) : Nat := if (v >>> (6 &&& 31)) &&& 7 = 0 then 1 else 0
set_option maxHeartbeats 4000000 in
/-- a mule's row -/
theorem T_mkA {v : Int32} {i : Nat} (hk : x_k u p = .inl 12) (hr : x_r u p 12 = p+1) (hk1 : x_k u (p+1) = .inr (12, 3)) (hi : i < 12) (hp : p + 6 ≤ x_n u) (hb : x_n u + 1 ≤ 500000) : ∃ w, x_fr (fun o => o = p+1) u w ∧ x_n w = x_n u + 1 ∧ x_m w = x_m u + 10 ∧ x_k w (x_n u) = .inr (10, 0) ∧ x_r w (p+1) i = x_n u ∧ (∀ j, j ≠ i → x_r w (p+1) j = x_r u (p+1) j) ∧ (∀ c, c < 10 → x_t w (x_n u) c = if c = 0 then nI (y_mX v) else if c = 1 then nI (y_mY v) else if c = 2 then nI 0 else if c = 3 then z_m else if c = 4 then nI 0 else nI 30) ∧ (∀ c, x_t w (p+1) c = x_t u (p+1) c) ∧
    ∀ K : Nat → x_U → Option (Nat × x_U), (x_gr u p 12 12 fun o42 =>
    x_nwa u 0 10 fun o43 s44 =>
    x_call (F_L_between q_F (v >>> (3 &&& 31)) 1 40 s44) fun r46 s45 =>
    x_st s45 o43 0 r46 fun s47 =>
    x_call (F_L_between q_F (v >>> (5 &&& 31)) 0 40 s47) fun r49 s48 =>
    x_st s48 o43 1 r49 fun s50 =>
    x_st s50 o43 2 0 fun s51 =>
    x_st s51 o43 3 (-1) fun s52 =>
    x_st s52 o43 4 0 fun s53 =>
    x_st s53 o43 5 30 fun s54 =>
    x_st s54 o43 6 30 fun s55 =>
    x_st s55 o43 7 30 fun s56 =>
    x_st s56 o43 8 30 fun s57 =>
    x_st s57 o43 9 30 fun s58 =>
    x_sr s58 o42 (nI i) o43 fun s59 => K o43 s59) = K (x_n u) w := by
  obtain ⟨w, hw⟩ : ∃ w, w = x_ur (x_ui (x_ui (x_ui (x_ui (x_ui (x_ui (x_ui (x_ui (x_ui (x_ui (x_un u (.inr (10, 0)) 10 (fun _ => 0)) (x_n u) 0 (nI (y_mX v))) (x_n u) 1 (nI (y_mY v))) (x_n u) 2 (nI 0)) (x_n u) 3 z_m) (x_n u) 4 (nI 0)) (x_n u) 5 (nI 30)) (x_n u) 6 (nI 30)) (x_n u) 7 (nI 30)) (x_n u) 8 (nI 30)) (x_n u) 9 (nI 30)) (p+1) i (x_n u) := ⟨_, rfl⟩
  have nW : x_n w = x_n u + 1 := by rw [hw]; simp (disch := omega) only [xs_k_ui, xs_k_ur, xs_k_uc, xs_k_un, xs_k_ub, xs_r_ui, xs_r_ur, xs_r_uc, xs_r_un, xs_r_ub, xs_t_ui, xs_t_ur, xs_t_uc, xs_t_un, xs_t_ub, xs_n_ui, xs_n_ur, xs_n_uc, xs_n_un, xs_n_ub, xs_m_ui, xs_m_ur, xs_m_uc, xs_m_un, xs_m_ub, xs_c_ui, xs_c_ur, xs_c_uc, xs_c_un, xs_c_ub, x_up_s, x_up_k, x_up_o, x_fU_s, x_fU_o]
  have mW : x_m w = x_m u + 10 := by rw [hw]; simp (disch := omega) only [xs_k_ui, xs_k_ur, xs_k_uc, xs_k_un, xs_k_ub, xs_r_ui, xs_r_ur, xs_r_uc, xs_r_un, xs_r_ub, xs_t_ui, xs_t_ur, xs_t_uc, xs_t_un, xs_t_ub, xs_n_ui, xs_n_ur, xs_n_uc, xs_n_un, xs_n_ub, xs_m_ui, xs_m_ur, xs_m_uc, xs_m_un, xs_m_ub, xs_c_ui, xs_c_ur, xs_c_uc, xs_c_un, xs_c_ub, x_up_s, x_up_k, x_up_o, x_fU_s, x_fU_o]
  have kO : ∀ o, o ≠ x_n u → x_k w o = x_k u o := fun o ho => by rw [hw]; simp (disch := omega) only [xs_k_ui, xs_k_ur, xs_k_uc, xs_k_un, xs_k_ub, xs_r_ui, xs_r_ur, xs_r_uc, xs_r_un, xs_r_ub, xs_t_ui, xs_t_ur, xs_t_uc, xs_t_un, xs_t_ub, xs_n_ui, xs_n_ur, xs_n_uc, xs_n_un, xs_n_ub, xs_m_ui, xs_m_ur, xs_m_uc, xs_m_un, xs_m_ub, xs_c_ui, xs_c_ur, xs_c_uc, xs_c_un, xs_c_ub, x_up_s, x_up_k, x_up_o, x_fU_s, x_fU_o]
  have tO : ∀ o, o ≠ x_n u → x_t w o = x_t u o := fun o ho => by rw [hw]; simp (disch := omega) only [xs_k_ui, xs_k_ur, xs_k_uc, xs_k_un, xs_k_ub, xs_r_ui, xs_r_ur, xs_r_uc, xs_r_un, xs_r_ub, xs_t_ui, xs_t_ur, xs_t_uc, xs_t_un, xs_t_ub, xs_n_ui, xs_n_ur, xs_n_uc, xs_n_un, xs_n_ub, xs_m_ui, xs_m_ur, xs_m_uc, xs_m_un, xs_m_ub, xs_c_ui, xs_c_ur, xs_c_uc, xs_c_un, xs_c_ub, x_up_s, x_up_k, x_up_o, x_fU_s, x_fU_o]
  have rO : ∀ o, o ≠ x_n u → o ≠ p+1 → x_r w o = x_r u o := fun o ho ho2 => by rw [hw]; simp (disch := omega) only [xs_k_ui, xs_k_ur, xs_k_uc, xs_k_un, xs_k_ub, xs_r_ui, xs_r_ur, xs_r_uc, xs_r_un, xs_r_ub, xs_t_ui, xs_t_ur, xs_t_uc, xs_t_un, xs_t_ub, xs_n_ui, xs_n_ur, xs_n_uc, xs_n_un, xs_n_ub, xs_m_ui, xs_m_ur, xs_m_uc, xs_m_un, xs_m_ub, xs_c_ui, xs_c_ur, xs_c_uc, xs_c_un, xs_c_ub, x_up_s, x_up_k, x_up_o, x_fU_s, x_fU_o]
  refine ⟨w, ⟨by rw [hw]; simp (disch := omega) only [xs_k_ui, xs_k_ur, xs_k_uc, xs_k_un, xs_k_ub, xs_r_ui, xs_r_ur, xs_r_uc, xs_r_un, xs_r_ub, xs_t_ui, xs_t_ur, xs_t_uc, xs_t_un, xs_t_ub, xs_n_ui, xs_n_ur, xs_n_uc, xs_n_un, xs_n_ub, xs_m_ui, xs_m_ur, xs_m_uc, xs_m_un, xs_m_ub, xs_c_ui, xs_c_ur, xs_c_uc, xs_c_un, xs_c_ub, x_up_s, x_up_k, x_up_o, x_fU_s, x_fU_o], by omega, by omega, fun o ho => kO o (by omega), fun o ho ho2 => ⟨rO o (by omega) ho2, tO o (by omega)⟩⟩, nW, mW, by rw [hw]; simp (disch := omega) only [xs_k_ui, xs_k_ur, xs_k_uc, xs_k_un, xs_k_ub, xs_r_ui, xs_r_ur, xs_r_uc, xs_r_un, xs_r_ub, xs_t_ui, xs_t_ur, xs_t_uc, xs_t_un, xs_t_ub, xs_n_ui, xs_n_ur, xs_n_uc, xs_n_un, xs_n_ub, xs_m_ui, xs_m_ur, xs_m_uc, xs_m_un, xs_m_ub, xs_c_ui, xs_c_ur, xs_c_uc, xs_c_un, xs_c_ub, x_up_s, x_up_k, x_up_o, x_fU_s, x_fU_o], by rw [hw]; simp (disch := omega) only [xs_k_ui, xs_k_ur, xs_k_uc, xs_k_un, xs_k_ub, xs_r_ui, xs_r_ur, xs_r_uc, xs_r_un, xs_r_ub, xs_t_ui, xs_t_ur, xs_t_uc, xs_t_un, xs_t_ub, xs_n_ui, xs_n_ur, xs_n_uc, xs_n_un, xs_n_ub, xs_m_ui, xs_m_ur, xs_m_uc, xs_m_un, xs_m_ub, xs_c_ui, xs_c_ur, xs_c_uc, xs_c_un, xs_c_ub, x_up_s, x_up_k, x_up_o, x_fU_s, x_fU_o], fun j hj => by rw [hw]; simp (disch := omega) only [xs_k_ui, xs_k_ur, xs_k_uc, xs_k_un, xs_k_ub, xs_r_ui, xs_r_ur, xs_r_uc, xs_r_un, xs_r_ub, xs_t_ui, xs_t_ur, xs_t_uc, xs_t_un, xs_t_ub, xs_n_ui, xs_n_ur, xs_n_uc, xs_n_un, xs_n_ub, xs_m_ui, xs_m_ur, xs_m_uc, xs_m_un, xs_m_ub, xs_c_ui, xs_c_ur, xs_c_uc, xs_c_un, xs_c_ub, x_up_s, x_up_k, x_up_o, x_fU_s, x_fU_o], fun c hc => ?_, fun c => by rw [tO (p+1) (by omega)], fun K => ?_⟩
  · have : c = 0 ∨ c = 1 ∨ c = 2 ∨ c = 3 ∨ c = 4 ∨ c = 5 ∨ c = 6 ∨ c = 7 ∨ c = 8 ∨ c = 9 := by omega
    rw [hw]
    rcases this with rfl | rfl | rfl | rfl | rfl | rfl | rfl | rfl | rfl | rfl
    · show _ = nI (y_mX v)
      simp (disch := omega) only [xs_k_ui, xs_k_ur, xs_k_uc, xs_k_un, xs_k_ub, xs_r_ui, xs_r_ur, xs_r_uc, xs_r_un, xs_r_ub, xs_t_ui, xs_t_ur, xs_t_uc, xs_t_un, xs_t_ub, xs_n_ui, xs_n_ur, xs_n_uc, xs_n_un, xs_n_ub, xs_m_ui, xs_m_ur, xs_m_uc, xs_m_un, xs_m_ub, xs_c_ui, xs_c_ur, xs_c_uc, xs_c_un, xs_c_ub, x_up_s, x_up_k, x_up_o, x_fU_s, x_fU_o]
    · show _ = nI (y_mY v)
      simp (disch := omega) only [xs_k_ui, xs_k_ur, xs_k_uc, xs_k_un, xs_k_ub, xs_r_ui, xs_r_ur, xs_r_uc, xs_r_un, xs_r_ub, xs_t_ui, xs_t_ur, xs_t_uc, xs_t_un, xs_t_ub, xs_n_ui, xs_n_ur, xs_n_uc, xs_n_un, xs_n_ub, xs_m_ui, xs_m_ur, xs_m_uc, xs_m_un, xs_m_ub, xs_c_ui, xs_c_ur, xs_c_uc, xs_c_un, xs_c_ub, x_up_s, x_up_k, x_up_o, x_fU_s, x_fU_o]
    · show _ = nI 0
      simp (disch := omega) only [xs_k_ui, xs_k_ur, xs_k_uc, xs_k_un, xs_k_ub, xs_r_ui, xs_r_ur, xs_r_uc, xs_r_un, xs_r_ub, xs_t_ui, xs_t_ur, xs_t_uc, xs_t_un, xs_t_ub, xs_n_ui, xs_n_ur, xs_n_uc, xs_n_un, xs_n_ub, xs_m_ui, xs_m_ur, xs_m_uc, xs_m_un, xs_m_ub, xs_c_ui, xs_c_ur, xs_c_uc, xs_c_un, xs_c_ub, x_up_s, x_up_k, x_up_o, x_fU_s, x_fU_o]
    · show _ = z_m
      simp (disch := omega) only [xs_k_ui, xs_k_ur, xs_k_uc, xs_k_un, xs_k_ub, xs_r_ui, xs_r_ur, xs_r_uc, xs_r_un, xs_r_ub, xs_t_ui, xs_t_ur, xs_t_uc, xs_t_un, xs_t_ub, xs_n_ui, xs_n_ur, xs_n_uc, xs_n_un, xs_n_ub, xs_m_ui, xs_m_ur, xs_m_uc, xs_m_un, xs_m_ub, xs_c_ui, xs_c_ur, xs_c_uc, xs_c_un, xs_c_ub, x_up_s, x_up_k, x_up_o, x_fU_s, x_fU_o]
    · show _ = nI 0
      simp (disch := omega) only [xs_k_ui, xs_k_ur, xs_k_uc, xs_k_un, xs_k_ub, xs_r_ui, xs_r_ur, xs_r_uc, xs_r_un, xs_r_ub, xs_t_ui, xs_t_ur, xs_t_uc, xs_t_un, xs_t_ub, xs_n_ui, xs_n_ur, xs_n_uc, xs_n_un, xs_n_ub, xs_m_ui, xs_m_ur, xs_m_uc, xs_m_un, xs_m_ub, xs_c_ui, xs_c_ur, xs_c_uc, xs_c_un, xs_c_ub, x_up_s, x_up_k, x_up_o, x_fU_s, x_fU_o]
    · show _ = nI 30
      simp (disch := omega) only [xs_k_ui, xs_k_ur, xs_k_uc, xs_k_un, xs_k_ub, xs_r_ui, xs_r_ur, xs_r_uc, xs_r_un, xs_r_ub, xs_t_ui, xs_t_ur, xs_t_uc, xs_t_un, xs_t_ub, xs_n_ui, xs_n_ur, xs_n_uc, xs_n_un, xs_n_ub, xs_m_ui, xs_m_ur, xs_m_uc, xs_m_un, xs_m_ub, xs_c_ui, xs_c_ur, xs_c_uc, xs_c_un, xs_c_ub, x_up_s, x_up_k, x_up_o, x_fU_s, x_fU_o]
    · show _ = nI 30
      simp (disch := omega) only [xs_k_ui, xs_k_ur, xs_k_uc, xs_k_un, xs_k_ub, xs_r_ui, xs_r_ur, xs_r_uc, xs_r_un, xs_r_ub, xs_t_ui, xs_t_ur, xs_t_uc, xs_t_un, xs_t_ub, xs_n_ui, xs_n_ur, xs_n_uc, xs_n_un, xs_n_ub, xs_m_ui, xs_m_ur, xs_m_uc, xs_m_un, xs_m_ub, xs_c_ui, xs_c_ur, xs_c_uc, xs_c_un, xs_c_ub, x_up_s, x_up_k, x_up_o, x_fU_s, x_fU_o]
    · show _ = nI 30
      simp (disch := omega) only [xs_k_ui, xs_k_ur, xs_k_uc, xs_k_un, xs_k_ub, xs_r_ui, xs_r_ur, xs_r_uc, xs_r_un, xs_r_ub, xs_t_ui, xs_t_ur, xs_t_uc, xs_t_un, xs_t_ub, xs_n_ui, xs_n_ur, xs_n_uc, xs_n_un, xs_n_ub, xs_m_ui, xs_m_ur, xs_m_uc, xs_m_un, xs_m_ub, xs_c_ui, xs_c_ur, xs_c_uc, xs_c_un, xs_c_ub, x_up_s, x_up_k, x_up_o, x_fU_s, x_fU_o]
    · show _ = nI 30
      simp (disch := omega) only [xs_k_ui, xs_k_ur, xs_k_uc, xs_k_un, xs_k_ub, xs_r_ui, xs_r_ur, xs_r_uc, xs_r_un, xs_r_ub, xs_t_ui, xs_t_ur, xs_t_uc, xs_t_un, xs_t_ub, xs_n_ui, xs_n_ur, xs_n_uc, xs_n_un, xs_n_ub, xs_m_ui, xs_m_ur, xs_m_uc, xs_m_un, xs_m_ub, xs_c_ui, xs_c_ur, xs_c_uc, xs_c_un, xs_c_ub, x_up_s, x_up_k, x_up_o, x_fU_s, x_fU_o]
    · show _ = nI 30
      simp (disch := omega) only [xs_k_ui, xs_k_ur, xs_k_uc, xs_k_un, xs_k_ub, xs_r_ui, xs_r_ur, xs_r_uc, xs_r_un, xs_r_ub, xs_t_ui, xs_t_ur, xs_t_uc, xs_t_un, xs_t_ub, xs_n_ui, xs_n_ur, xs_n_uc, xs_n_un, xs_n_ub, xs_m_ui, xs_m_ur, xs_m_uc, xs_m_un, xs_m_ub, xs_c_ui, xs_c_ur, xs_c_uc, xs_c_un, xs_c_ub, x_up_s, x_up_k, x_up_o, x_fU_s, x_fU_o]
  · have e0 : ∀ s : x_U, F_L_between q_F (v >>> (3 &&& 31)) 1 40 s = some (nI (y_mX v), s) := fun s => F_btw (lo := 1) (hi := 40) (by omega) (by omega)
    have e1 : ∀ s : x_U, F_L_between q_F (v >>> (5 &&& 31)) 0 40 s = some (nI (y_mY v), s) := fun s => F_btw (lo := 0) (hi := 40) (by omega) (by omega)
    have hS : ∀ (s : x_U) (c : Nat) (y : Int32) (J : x_U → Option (Nat × x_U)), x_k s (x_n u) = .inr (10, 0) → c < 10 → x_st s (x_n u) (nI c) y J = J (x_ui s (x_n u) c y) := fun s c y J k hc => by
      rw [p_xst, h_xstE k hc (by omega)]
    have k0 : x_k (x_un u (.inr (10, 0)) 10 (fun _ => 0)) (x_n u) = .inr (10, 0) := x_fU_s
    have k9 : x_k (x_un u (.inr (10, 0)) 10 (fun _ => 0)) (p+1) = .inr (12, 3) := by simp (disch := omega) only [xs_k_ui, xs_k_ur, xs_k_uc, xs_k_un, xs_k_ub, xs_r_ui, xs_r_ur, xs_r_uc, xs_r_un, xs_r_ub, xs_t_ui, xs_t_ur, xs_t_uc, xs_t_un, xs_t_ub, xs_n_ui, xs_n_ur, xs_n_uc, xs_n_un, xs_n_ub, xs_m_ui, xs_m_ur, xs_m_uc, xs_m_un, xs_m_ub, xs_c_ui, xs_c_ur, xs_c_uc, xs_c_un, xs_c_ub, x_up_s, x_up_k, x_up_o, x_fU_s, x_fU_o]; exact hk1
    rw [p_xgr, h_xgrE hk, hr]
    show x_nwa u 0 (nI 10) (fun o43 s44 => _) = _
    rw [p_xnwa, h_xnwaE (by omega) (by omega), e0, z_xcall]
    refine (hS _ 0 _ _ (by exact k0) (by omega)).trans ?_
    rw [e1, z_xcall]
    refine (hS _ 1 _ _ (by exact k0) (by omega)).trans ?_
    refine (hS _ 2 (nI 0) _ (by exact k0) (by omega)).trans ?_
    refine (hS _ 3 z_m _ (by exact k0) (by omega)).trans ?_
    refine (hS _ 4 (nI 0) _ (by exact k0) (by omega)).trans ?_
    refine (hS _ 5 (nI 30) _ (by exact k0) (by omega)).trans ?_
    refine (hS _ 6 (nI 30) _ (by exact k0) (by omega)).trans ?_
    refine (hS _ 7 (nI 30) _ (by exact k0) (by omega)).trans ?_
    refine (hS _ 8 (nI 30) _ (by exact k0) (by omega)).trans ?_
    refine (hS _ 9 (nI 30) _ (by exact k0) (by omega)).trans ?_
    rw [p_xsr, h_xsrE (len := 12) (t := 3) (by exact k9) (by omega) hi (by simp (disch := omega) only [xs_k_ui, xs_k_ur, xs_k_uc, xs_k_un, xs_k_ub, xs_r_ui, xs_r_ur, xs_r_uc, xs_r_un, xs_r_ub, xs_t_ui, xs_t_ur, xs_t_uc, xs_t_un, xs_t_ub, xs_n_ui, xs_n_ur, xs_n_uc, xs_n_un, xs_n_ub, xs_m_ui, xs_m_ur, xs_m_uc, xs_m_un, xs_m_ub, xs_c_ui, xs_c_ur, xs_c_uc, xs_c_un, xs_c_ub, x_up_s, x_up_k, x_up_o, x_fU_s, x_fU_o]; rfl) (by omega), hw]
/-- the values once a mule is there, and once it leads or not -/
theorem x_TI.mk {τ τ' : q_Sto} {V W : Nat → Int32} {i : Nat} (h : x_TI τ p b i 0 V) (hb : p + 6 ≤ b) (hi : i < 12) (e : ∀ m, m < i → τ' (b+m) = τ (b+m)) (ep : ∀ j, j ≠ 7 → τ' p j = τ p j) (e7 : τ' p 7 = nI (i+1)) (hW : W 5 = V 5 ∧ W 0 = V 0 ∧ W 1 = V 1 ∧ W 2 = V 2 ∧ W 3 = V 3 ∧ W 4 = V 4 ∧ W 88 = V 88 ∧ W 6 = V 6 ∧ W 90 = V 90)
    (hm : ∀ m, m < i → W (95+m) = V (95+m) ∧ W (107+m) = V (107+m) ∧ z_bit (W 7) m = z_bit (V 7) m ∧ W (8+m) = V (8+m) ∧ W (129+m) = V (129+m)) (hn : τ' (b+i) 0 = W (95+i) ∧ τ' (b+i) 1 = W (107+i) ∧ τ' (b+i) 2 = z_bit (W 7) i ∧ τ' (b+i) 3 = W (8+i) ∧ τ' (b+i) 4 = W (129+i)) : x_TI τ' p b (i+1) 0 W := by
  obtain ⟨⟨t0, t1, t2, t3, t4, t5, t6, t7, t8, t9, ta⟩, tm, tk⟩ := h
  obtain ⟨w5, w0, w1, w2, w3, w4, w88, w6, w90⟩ := hW
  refine ⟨?_, fun m hm2 => ?_, fun k hk => by omega⟩
  · rw [ep 0 (by omega), ep 1 (by omega), ep 2 (by omega), ep 3 (by omega), ep 4 (by omega), ep 5 (by omega), ep 6 (by omega), ep 8 (by omega), ep 9 (by omega), ep 10 (by omega), w5, w0, w1, w2, w3, w4, w88, w6, w90]
    exact ⟨t0, t1, t2, t3, t4, t5, t6, e7, t8, t9, ta⟩
  · by_cases q : m = i
    · subst q
      obtain ⟨q0, q1, q2, q3, q4⟩ := hn
      exact ⟨q0, q1, q2, q3, q4, fun k hk => by omega⟩
    · obtain ⟨q0, q1, q2, q3, q4, -⟩ := tm m (by omega)
      obtain ⟨r0, r1, r2, r3, r4⟩ := hm m (by omega)
      rw [e m (by omega), r0, r1, r2, r3, r4]
      exact ⟨q0, q1, q2, q3, q4, fun k hk => by omega⟩
theorem x_TB.mk {w : x_U} {W : Nat → Int32} {i : Nat} (h : x_TB u Fz p b L pl pa i 0 d V) (hi : i < 12) (hbn : x_n u = b + i) (hb : x_n u + 1 ≤ 500000) (f : x_fr (fun o => o = p ∨ o = p+1) u w) (hn : x_n w = x_n u + 1) (k0 : x_k w (x_n u) = .inr (10, 0)) (rp : x_r w p = x_r u p) (r1 : x_r w (p+1) i = x_n u) (rj : ∀ j, j ≠ i → x_r w (p+1) j = x_r u (p+1) j) (hI : x_TI (x_t w) p b (i+1) 0 W) (h6 : W 6 = V 6) (hV : ∀ a, 305 ≤ a → a < 905 → W a = V a) : x_TB w Fz p b L pl pa (i+1) 0 d W := by
  obtain ⟨⟨⟨a1, a2, a3, a4, a5, a6⟩, ⟨k1, k2, k3, k4, k5, k6⟩, s1, s2, s3, s4, s5, s6, s7, s8⟩, h2, ⟨h3, h3b⟩, h4, h5, h8⟩ := h
  have hF : ∀ o, Fz o → o < x_n u ∧ ¬ (o = p ∨ o = p+1) := fun o ho => ⟨h3 o ho, fun q => h3b o (by unfold x_own; omega) ho⟩
  have kw : ∀ o, o < x_n u → x_k w o = x_k u o := fun o ho => f.2.2.2.1 o (Or.inl ho)
  have rw' : ∀ o, o < x_n u → o ≠ p → o ≠ p+1 → x_r w o = x_r u o := fun o ho h1 h2 => (f.2.2.2.2 o (Or.inl ho) (fun q => by rcases q with q | q; exact h1 q; exact h2 q)).1
  refine ⟨⟨⟨a1, a2, by omega, by omega, by omega, a6⟩, ⟨?_, ?_, ?_, ?_, fun m hm => ?_, fun k hk => by omega⟩, ?_, ?_, ?_, ?_, ?_, ?_, fun m hm => ?_, fun k hk => by omega⟩, hI, ⟨fun o ho => by have := h3 o ho; omega, fun o ho hq => ?_⟩, h4, h5.fr f (fun hL => hF _ (h4 hL)), ?_⟩
  · rw [kw p (by omega)]; exact k1
  · rw [kw (p+1) (by omega)]; exact k2
  · rw [kw (p+2) (by omega)]; exact k3
  · rw [kw (p+5) (by omega)]; exact k4
  · by_cases q : m = i
    · subst q; rw [← hbn]; exact k0
    · rw [kw (b+m) (by omega)]; exact k5 m (by omega)
  · rw [rp]; exact s1
  · rw [rp]; exact s2
  · rw [rp]; exact s3
  · rw [rp]; exact s4
  · rw [rp]; exact s5
  · rw [rp]; exact s6
  · by_cases q : m = i
    · subst q; rw [r1]; exact hbn
    · rw [rj m q]; exact s7 m (by omega)
  · by_cases q : o = b + i
    · have := h3 o hq; omega
    · exact h3b o (by unfold x_own at ho ⊢; omega) hq
  · have e5 : x_r w (p+5) = x_r u (p+5) := rw' _ (by omega) (by omega) (by omega)
    exact (h8.cg h6 hV).fr f e5 hF (fun _ q => q)
end MM
