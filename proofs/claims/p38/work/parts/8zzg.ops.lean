/-! the law's loop: set, whole -/
section LP
variable {p b L pl pa mu me Lx wn a B q : Nat} {xs : Nat → Int32} {d : Nat → Nat} {Fz : Nat → Prop} {V : Nat → Int32} {hs : z_Hs} {u : x_U} {S : Nat → Nat → (Nat → Int32) → Prop}
set_option maxHeartbeats 4000000 in
theorem T_bound {w : Nat} (hw : w ≤ 6) (hb : x_n u + 1 ≤ 500000) : ∃ w', x_fr (fun _ => False) u w' ∧ x_n w' = x_n u + 1 ∧ x_m w' = x_m u + 7 ∧ ∀ K : Int32 → x_U → Option (Int32 × x_U), (x_nwa u 0 7 fun o138 s139 =>
        x_st s139 o138 0 9 fun s140 =>
        x_st s140 o138 1 9 fun s141 =>
        x_st s141 o138 2 1 fun s142 =>
        x_st s142 o138 3 99 fun s143 =>
        x_st s143 o138 4 9 fun s144 =>
        x_st s144 o138 5 9 fun s145 =>
        x_st s145 o138 6 (-1) fun s146 =>
        x_ld s146 o138 (nI w) fun v147 => K v147 s146) = K (if w = 6 then z_m else if w = 2 then nI 1 else if w = 3 then nI 99 else nI 9) w' := by
  obtain ⟨w', hw'⟩ : ∃ w', w' = x_ui (x_ui (x_ui (x_ui (x_ui (x_ui (x_ui (x_un u (.inr (7, 0)) 7 (fun _ => 0)) (x_n u) 0 (nI 9)) (x_n u) 1 (nI 9)) (x_n u) 2 (nI 1)) (x_n u) 3 (nI 99)) (x_n u) 4 (nI 9)) (x_n u) 5 (nI 9)) (x_n u) 6 z_m := ⟨_, rfl⟩
  have nW : x_n w' = x_n u + 1 := by rw [hw']; simp (disch := omega) only [xs_k_ui, xs_k_ur, xs_k_uc, xs_k_un, xs_k_ub, xs_r_ui, xs_r_ur, xs_r_uc, xs_r_un, xs_r_ub, xs_t_ui, xs_t_ur, xs_t_uc, xs_t_un, xs_t_ub, xs_n_ui, xs_n_ur, xs_n_uc, xs_n_un, xs_n_ub, xs_m_ui, xs_m_ur, xs_m_uc, xs_m_un, xs_m_ub, xs_c_ui, xs_c_ur, xs_c_uc, xs_c_un, xs_c_ub, x_up_s, x_up_k, x_up_o, x_fU_s, x_fU_o]
  have mW : x_m w' = x_m u + 7 := by rw [hw']; simp (disch := omega) only [xs_k_ui, xs_k_ur, xs_k_uc, xs_k_un, xs_k_ub, xs_r_ui, xs_r_ur, xs_r_uc, xs_r_un, xs_r_ub, xs_t_ui, xs_t_ur, xs_t_uc, xs_t_un, xs_t_ub, xs_n_ui, xs_n_ur, xs_n_uc, xs_n_un, xs_n_ub, xs_m_ui, xs_m_ur, xs_m_uc, xs_m_un, xs_m_ub, xs_c_ui, xs_c_ur, xs_c_uc, xs_c_un, xs_c_ub, x_up_s, x_up_k, x_up_o, x_fU_s, x_fU_o]
  have kO : ∀ i, i ≠ x_n u → x_k w' i = x_k u i := fun i hi => by rw [hw']; simp (disch := omega) only [xs_k_ui, xs_k_ur, xs_k_uc, xs_k_un, xs_k_ub, xs_r_ui, xs_r_ur, xs_r_uc, xs_r_un, xs_r_ub, xs_t_ui, xs_t_ur, xs_t_uc, xs_t_un, xs_t_ub, xs_n_ui, xs_n_ur, xs_n_uc, xs_n_un, xs_n_ub, xs_m_ui, xs_m_ur, xs_m_uc, xs_m_un, xs_m_ub, xs_c_ui, xs_c_ur, xs_c_uc, xs_c_un, xs_c_ub, x_up_s, x_up_k, x_up_o, x_fU_s, x_fU_o]
  have rO : ∀ i, i ≠ x_n u → x_r w' i = x_r u i := fun i hi => by rw [hw']; simp (disch := omega) only [xs_k_ui, xs_k_ur, xs_k_uc, xs_k_un, xs_k_ub, xs_r_ui, xs_r_ur, xs_r_uc, xs_r_un, xs_r_ub, xs_t_ui, xs_t_ur, xs_t_uc, xs_t_un, xs_t_ub, xs_n_ui, xs_n_ur, xs_n_uc, xs_n_un, xs_n_ub, xs_m_ui, xs_m_ur, xs_m_uc, xs_m_un, xs_m_ub, xs_c_ui, xs_c_ur, xs_c_uc, xs_c_un, xs_c_ub, x_up_s, x_up_k, x_up_o, x_fU_s, x_fU_o]
  have tO : ∀ i, i ≠ x_n u → x_t w' i = x_t u i := fun i hi => by rw [hw']; simp (disch := omega) only [xs_k_ui, xs_k_ur, xs_k_uc, xs_k_un, xs_k_ub, xs_r_ui, xs_r_ur, xs_r_uc, xs_r_un, xs_r_ub, xs_t_ui, xs_t_ur, xs_t_uc, xs_t_un, xs_t_ub, xs_n_ui, xs_n_ur, xs_n_uc, xs_n_un, xs_n_ub, xs_m_ui, xs_m_ur, xs_m_uc, xs_m_un, xs_m_ub, xs_c_ui, xs_c_ur, xs_c_uc, xs_c_un, xs_c_ub, x_up_s, x_up_k, x_up_o, x_fU_s, x_fU_o]
  refine ⟨w', ⟨by rw [hw']; simp (disch := omega) only [xs_k_ui, xs_k_ur, xs_k_uc, xs_k_un, xs_k_ub, xs_r_ui, xs_r_ur, xs_r_uc, xs_r_un, xs_r_ub, xs_t_ui, xs_t_ur, xs_t_uc, xs_t_un, xs_t_ub, xs_n_ui, xs_n_ur, xs_n_uc, xs_n_un, xs_n_ub, xs_m_ui, xs_m_ur, xs_m_uc, xs_m_un, xs_m_ub, xs_c_ui, xs_c_ur, xs_c_uc, xs_c_un, xs_c_ub, x_up_s, x_up_k, x_up_o, x_fU_s, x_fU_o], by omega, by omega, fun i hi => kO i (by omega), fun i hi _ => ⟨rO i (by omega), tO i (by omega)⟩⟩, nW, mW, fun K => ?_⟩
  have k0 : x_k (x_un u (.inr (7, 0)) 7 (fun _ => 0)) (x_n u) = .inr (7, 0) := x_fU_s
  have kw : x_k w' (x_n u) = .inr (7, 0) := by rw [hw']; exact k0
  have tw : x_t w' (x_n u) w = if w = 6 then z_m else if w = 2 then nI 1 else if w = 3 then nI 99 else nI 9 := by
    have : w = 0 ∨ w = 1 ∨ w = 2 ∨ w = 3 ∨ w = 4 ∨ w = 5 ∨ w = 6 := by omega
    rw [hw']
    rcases this with rfl | rfl | rfl | rfl | rfl | rfl | rfl
    · show _ = nI 9
      simp (disch := omega) only [xs_k_ui, xs_k_ur, xs_k_uc, xs_k_un, xs_k_ub, xs_r_ui, xs_r_ur, xs_r_uc, xs_r_un, xs_r_ub, xs_t_ui, xs_t_ur, xs_t_uc, xs_t_un, xs_t_ub, xs_n_ui, xs_n_ur, xs_n_uc, xs_n_un, xs_n_ub, xs_m_ui, xs_m_ur, xs_m_uc, xs_m_un, xs_m_ub, xs_c_ui, xs_c_ur, xs_c_uc, xs_c_un, xs_c_ub, x_up_s, x_up_k, x_up_o, x_fU_s, x_fU_o]
    · show _ = nI 9
      simp (disch := omega) only [xs_k_ui, xs_k_ur, xs_k_uc, xs_k_un, xs_k_ub, xs_r_ui, xs_r_ur, xs_r_uc, xs_r_un, xs_r_ub, xs_t_ui, xs_t_ur, xs_t_uc, xs_t_un, xs_t_ub, xs_n_ui, xs_n_ur, xs_n_uc, xs_n_un, xs_n_ub, xs_m_ui, xs_m_ur, xs_m_uc, xs_m_un, xs_m_ub, xs_c_ui, xs_c_ur, xs_c_uc, xs_c_un, xs_c_ub, x_up_s, x_up_k, x_up_o, x_fU_s, x_fU_o]
    · show _ = nI 1
      simp (disch := omega) only [xs_k_ui, xs_k_ur, xs_k_uc, xs_k_un, xs_k_ub, xs_r_ui, xs_r_ur, xs_r_uc, xs_r_un, xs_r_ub, xs_t_ui, xs_t_ur, xs_t_uc, xs_t_un, xs_t_ub, xs_n_ui, xs_n_ur, xs_n_uc, xs_n_un, xs_n_ub, xs_m_ui, xs_m_ur, xs_m_uc, xs_m_un, xs_m_ub, xs_c_ui, xs_c_ur, xs_c_uc, xs_c_un, xs_c_ub, x_up_s, x_up_k, x_up_o, x_fU_s, x_fU_o]
    · show _ = nI 99
      simp (disch := omega) only [xs_k_ui, xs_k_ur, xs_k_uc, xs_k_un, xs_k_ub, xs_r_ui, xs_r_ur, xs_r_uc, xs_r_un, xs_r_ub, xs_t_ui, xs_t_ur, xs_t_uc, xs_t_un, xs_t_ub, xs_n_ui, xs_n_ur, xs_n_uc, xs_n_un, xs_n_ub, xs_m_ui, xs_m_ur, xs_m_uc, xs_m_un, xs_m_ub, xs_c_ui, xs_c_ur, xs_c_uc, xs_c_un, xs_c_ub, x_up_s, x_up_k, x_up_o, x_fU_s, x_fU_o]
    · show _ = nI 9
      simp (disch := omega) only [xs_k_ui, xs_k_ur, xs_k_uc, xs_k_un, xs_k_ub, xs_r_ui, xs_r_ur, xs_r_uc, xs_r_un, xs_r_ub, xs_t_ui, xs_t_ur, xs_t_uc, xs_t_un, xs_t_ub, xs_n_ui, xs_n_ur, xs_n_uc, xs_n_un, xs_n_ub, xs_m_ui, xs_m_ur, xs_m_uc, xs_m_un, xs_m_ub, xs_c_ui, xs_c_ur, xs_c_uc, xs_c_un, xs_c_ub, x_up_s, x_up_k, x_up_o, x_fU_s, x_fU_o]
    · show _ = nI 9
      simp (disch := omega) only [xs_k_ui, xs_k_ur, xs_k_uc, xs_k_un, xs_k_ub, xs_r_ui, xs_r_ur, xs_r_uc, xs_r_un, xs_r_ub, xs_t_ui, xs_t_ur, xs_t_uc, xs_t_un, xs_t_ub, xs_n_ui, xs_n_ur, xs_n_uc, xs_n_un, xs_n_ub, xs_m_ui, xs_m_ur, xs_m_uc, xs_m_un, xs_m_ub, xs_c_ui, xs_c_ur, xs_c_uc, xs_c_un, xs_c_ub, x_up_s, x_up_k, x_up_o, x_fU_s, x_fU_o]
    · show _ = z_m
      simp (disch := omega) only [xs_k_ui, xs_k_ur, xs_k_uc, xs_k_un, xs_k_ub, xs_r_ui, xs_r_ur, xs_r_uc, xs_r_un, xs_r_ub, xs_t_ui, xs_t_ur, xs_t_uc, xs_t_un, xs_t_ub, xs_n_ui, xs_n_ur, xs_n_uc, xs_n_un, xs_n_ub, xs_m_ui, xs_m_ur, xs_m_uc, xs_m_un, xs_m_ub, xs_c_ui, xs_c_ur, xs_c_uc, xs_c_un, xs_c_ub, x_up_s, x_up_k, x_up_o, x_fU_s, x_fU_o]
  have hS : ∀ (s : x_U) (c : Nat) (y : Int32) (J : x_U → Option (Int32 × x_U)), x_k s (x_n u) = .inr (7, 0) → c < 7 → x_st s (x_n u) (nI c) y J = J (x_ui s (x_n u) c y) := fun s c y J k hc => by
    rw [p_xst, h_xstE k hc (by omega)]
  show x_nwa u 0 (nI 7) (fun o138 s139 => _) = _
  rw [p_xnwa, h_xnwaE (by omega) (by omega)]
  refine (hS _ 0 (nI 9) _ (by exact k0) (by omega)).trans ?_
  refine (hS _ 1 (nI 9) _ (by exact k0) (by omega)).trans ?_
  refine (hS _ 2 (nI 1) _ (by exact k0) (by omega)).trans ?_
  refine (hS _ 3 (nI 99) _ (by exact k0) (by omega)).trans ?_
  refine (hS _ 4 (nI 9) _ (by exact k0) (by omega)).trans ?_
  refine (hS _ 5 (nI 9) _ (by exact k0) (by omega)).trans ?_
  refine (hS _ 6 z_m _ (by exact k0) (by omega)).trans ?_
  rw [← hw', p_xld, h_xldE kw (by omega) (by omega), tw]
end LP
