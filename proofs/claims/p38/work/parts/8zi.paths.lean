/-! paths told: the loop; a text told -/
section PT
variable {n p b L pl pa mu me Lx : Nat} {xs : Nat → Int32} {d : Nat → Nat} {Fz : Nat → Prop}
theorem T_wrow {row : Nat → Nat → Int32} {x : Int32} {k N : Nat} {w U0 : x_U} (k1 : x_k w p = .inl 12) (r5 : x_r w p 15 = pa) (hN : y_RW U0 w pa N k 3 row) (hkN : k < N) (hb : x_n w + 1 ≤ 500000) (hU : x_n U0 ≤ x_n w) (hr : row k = y_rW x k) : ∃ w', x_fr (fun i => i = pa) w w' ∧ x_n w' = x_n w + 1 ∧ x_m w' = x_m w + 3 ∧ y_RW U0 w' pa N (k+1) 3 row ∧ x_r w' pa k = x_n w ∧
    ∀ J : Int32 → x_U → Option (Int32 × x_U), (x_call (F_L_between n ((x * (nI k + 7)) + (293 * nI k)) 0 5 w) fun r227 s226 =>
    x_gr s226 p 12 15 fun o228 =>
    x_nwa s226 0 3 fun o229 s230 =>
    x_st s230 o229 0 r227 fun s231 =>
    x_call (F_L_between n (((x * (nI k + 7)) + (293 * nI k)) >>> (4 &&& 31)) 1 5 s231) fun r233 s232 =>
    x_rem (r227 + r233) 6 fun v234 =>
    x_st s232 o229 1 v234 fun s235 =>
    x_call (F_L_between n (((x * (nI k + 7)) + (293 * nI k)) >>> (5 &&& 31)) 1 24 s235) fun r237 s236 =>
    x_st s236 o229 2 r237 fun s238 =>
    x_sr s238 o228 (nI k) o229 fun s239 => J r227 s239) = J (nI (y_wA x k)) w' := by
  obtain ⟨⟨a1, a2, a3, a4⟩, a5⟩ := hN
  obtain ⟨w', hw'⟩ : ∃ w', w' = x_ur (x_ui (x_ui (x_ui (x_un w (.inr (3, 0)) 3 (fun _ => nI 0)) (x_n w) 0 (nI (y_wA x k))) (x_n w) 1 (nI (y_wB x k))) (x_n w) 2 (nI (y_wH x k))) pa k (x_n w) := ⟨_, rfl⟩
  have nW : x_n w' = x_n w + 1 := by rw [hw']; simp (disch := omega) only [xs_k_ui, xs_k_ur, xs_k_uc, xs_k_un, xs_k_ub, xs_r_ui, xs_r_ur, xs_r_uc, xs_r_un, xs_r_ub, xs_t_ui, xs_t_ur, xs_t_uc, xs_t_un, xs_t_ub, xs_n_ui, xs_n_ur, xs_n_uc, xs_n_un, xs_n_ub, xs_m_ui, xs_m_ur, xs_m_uc, xs_m_un, xs_m_ub, xs_c_ui, xs_c_ur, xs_c_uc, xs_c_un, xs_c_ub, x_up_s, x_up_k, x_up_o, x_fU_s, x_fU_o]
  have mW : x_m w' = x_m w + 3 := by rw [hw']; simp (disch := omega) only [xs_k_ui, xs_k_ur, xs_k_uc, xs_k_un, xs_k_ub, xs_r_ui, xs_r_ur, xs_r_uc, xs_r_un, xs_r_ub, xs_t_ui, xs_t_ur, xs_t_uc, xs_t_un, xs_t_ub, xs_n_ui, xs_n_ur, xs_n_uc, xs_n_un, xs_n_ub, xs_m_ui, xs_m_ur, xs_m_uc, xs_m_un, xs_m_ub, xs_c_ui, xs_c_ur, xs_c_uc, xs_c_un, xs_c_ub, x_up_s, x_up_k, x_up_o, x_fU_s, x_fU_o]
  have kq : x_k w' (x_n w) = .inr (3, 0) := by rw [hw']; simp (disch := omega) only [xs_k_ui, xs_k_ur, xs_k_uc, xs_k_un, xs_k_ub, xs_r_ui, xs_r_ur, xs_r_uc, xs_r_un, xs_r_ub, xs_t_ui, xs_t_ur, xs_t_uc, xs_t_un, xs_t_ub, xs_n_ui, xs_n_ur, xs_n_uc, xs_n_un, xs_n_ub, xs_m_ui, xs_m_ur, xs_m_uc, xs_m_un, xs_m_ub, xs_c_ui, xs_c_ur, xs_c_uc, xs_c_un, xs_c_ub, x_up_s, x_up_k, x_up_o, x_fU_s, x_fU_o]
  have rq : x_r w' pa k = x_n w := by rw [hw']; simp (disch := omega) only [xs_k_ui, xs_k_ur, xs_k_uc, xs_k_un, xs_k_ub, xs_r_ui, xs_r_ur, xs_r_uc, xs_r_un, xs_r_ub, xs_t_ui, xs_t_ur, xs_t_uc, xs_t_un, xs_t_ub, xs_n_ui, xs_n_ur, xs_n_uc, xs_n_un, xs_n_ub, xs_m_ui, xs_m_ur, xs_m_uc, xs_m_un, xs_m_ub, xs_c_ui, xs_c_ur, xs_c_uc, xs_c_un, xs_c_ub, x_up_s, x_up_k, x_up_o, x_fU_s, x_fU_o]
  have kO : ∀ i, i ≠ x_n w → x_k w' i = x_k w i := fun i hi => by rw [hw']; simp (disch := omega) only [xs_k_ui, xs_k_ur, xs_k_uc, xs_k_un, xs_k_ub, xs_r_ui, xs_r_ur, xs_r_uc, xs_r_un, xs_r_ub, xs_t_ui, xs_t_ur, xs_t_uc, xs_t_un, xs_t_ub, xs_n_ui, xs_n_ur, xs_n_uc, xs_n_un, xs_n_ub, xs_m_ui, xs_m_ur, xs_m_uc, xs_m_un, xs_m_ub, xs_c_ui, xs_c_ur, xs_c_uc, xs_c_un, xs_c_ub, x_up_s, x_up_k, x_up_o, x_fU_s, x_fU_o]
  have rO : ∀ j, j ≠ k → x_r w' pa j = x_r w pa j := fun j hj => by rw [hw']; simp (disch := omega) only [xs_k_ui, xs_k_ur, xs_k_uc, xs_k_un, xs_k_ub, xs_r_ui, xs_r_ur, xs_r_uc, xs_r_un, xs_r_ub, xs_t_ui, xs_t_ur, xs_t_uc, xs_t_un, xs_t_ub, xs_n_ui, xs_n_ur, xs_n_uc, xs_n_un, xs_n_ub, xs_m_ui, xs_m_ur, xs_m_uc, xs_m_un, xs_m_ub, xs_c_ui, xs_c_ur, xs_c_uc, xs_c_un, xs_c_ub, x_up_s, x_up_k, x_up_o, x_fU_s, x_fU_o]
  have tO : ∀ i, i ≠ x_n w → x_t w' i = x_t w i := fun i hi => by rw [hw']; simp (disch := omega) only [xs_k_ui, xs_k_ur, xs_k_uc, xs_k_un, xs_k_ub, xs_r_ui, xs_r_ur, xs_r_uc, xs_r_un, xs_r_ub, xs_t_ui, xs_t_ur, xs_t_uc, xs_t_un, xs_t_ub, xs_n_ui, xs_n_ur, xs_n_uc, xs_n_un, xs_n_ub, xs_m_ui, xs_m_ur, xs_m_uc, xs_m_un, xs_m_ub, xs_c_ui, xs_c_ur, xs_c_uc, xs_c_un, xs_c_ub, x_up_s, x_up_k, x_up_o, x_fU_s, x_fU_o]
  have tq : ∀ c, c < 3 → x_t w' (x_n w) c = row k c := fun c hc => by
    rw [hr]
    have : c = 0 ∨ c = 1 ∨ c = 2 := by omega
    rw [hw']
    rcases this with rfl | rfl | rfl
    · show _ = nI (y_wA x k)
      simp (disch := omega) only [xs_k_ui, xs_k_ur, xs_k_uc, xs_k_un, xs_k_ub, xs_r_ui, xs_r_ur, xs_r_uc, xs_r_un, xs_r_ub, xs_t_ui, xs_t_ur, xs_t_uc, xs_t_un, xs_t_ub, xs_n_ui, xs_n_ur, xs_n_uc, xs_n_un, xs_n_ub, xs_m_ui, xs_m_ur, xs_m_uc, xs_m_un, xs_m_ub, xs_c_ui, xs_c_ur, xs_c_uc, xs_c_un, xs_c_ub, x_up_s, x_up_k, x_up_o, x_fU_s, x_fU_o]
    · show _ = nI (y_wB x k)
      simp (disch := omega) only [xs_k_ui, xs_k_ur, xs_k_uc, xs_k_un, xs_k_ub, xs_r_ui, xs_r_ur, xs_r_uc, xs_r_un, xs_r_ub, xs_t_ui, xs_t_ur, xs_t_uc, xs_t_un, xs_t_ub, xs_n_ui, xs_n_ur, xs_n_uc, xs_n_un, xs_n_ub, xs_m_ui, xs_m_ur, xs_m_uc, xs_m_un, xs_m_ub, xs_c_ui, xs_c_ur, xs_c_uc, xs_c_un, xs_c_ub, x_up_s, x_up_k, x_up_o, x_fU_s, x_fU_o]
    · show _ = nI (y_wH x k)
      simp (disch := omega) only [xs_k_ui, xs_k_ur, xs_k_uc, xs_k_un, xs_k_ub, xs_r_ui, xs_r_ur, xs_r_uc, xs_r_un, xs_r_ub, xs_t_ui, xs_t_ur, xs_t_uc, xs_t_un, xs_t_ub, xs_n_ui, xs_n_ur, xs_n_uc, xs_n_un, xs_n_ub, xs_m_ui, xs_m_ur, xs_m_uc, xs_m_un, xs_m_ub, xs_c_ui, xs_c_ur, xs_c_uc, xs_c_un, xs_c_ub, x_up_s, x_up_k, x_up_o, x_fU_s, x_fU_o]
  refine ⟨w', ⟨by rw [hw']; simp (disch := omega) only [xs_k_ui, xs_k_ur, xs_k_uc, xs_k_un, xs_k_ub, xs_r_ui, xs_r_ur, xs_r_uc, xs_r_un, xs_r_ub, xs_t_ui, xs_t_ur, xs_t_uc, xs_t_un, xs_t_ub, xs_n_ui, xs_n_ur, xs_n_uc, xs_n_un, xs_n_ub, xs_m_ui, xs_m_ur, xs_m_uc, xs_m_un, xs_m_ub, xs_c_ui, xs_c_ur, xs_c_uc, xs_c_un, xs_c_ub, x_up_s, x_up_k, x_up_o, x_fU_s, x_fU_o], by omega, by omega, fun i hi => kO i (by omega), fun i hi ho => ⟨?_, tO i (by omega)⟩⟩, nW, mW, ⟨⟨by rw [kO pa (by omega)]; exact a1, a2, by omega, a4⟩, fun i hi => ?_⟩, rq, fun J => ?_⟩
  · have ho : ¬ i = pa := ho
    rw [hw']; simp (disch := omega) only [xs_k_ui, xs_k_ur, xs_k_uc, xs_k_un, xs_k_ub, xs_r_ui, xs_r_ur, xs_r_uc, xs_r_un, xs_r_ub, xs_t_ui, xs_t_ur, xs_t_uc, xs_t_un, xs_t_ub, xs_n_ui, xs_n_ur, xs_n_uc, xs_n_un, xs_n_ub, xs_m_ui, xs_m_ur, xs_m_uc, xs_m_un, xs_m_ub, xs_c_ui, xs_c_ur, xs_c_uc, xs_c_un, xs_c_ub, x_up_s, x_up_k, x_up_o, x_fU_s, x_fU_o]
  · by_cases q : i = k
    · subst q
      rw [rq]
      exact ⟨⟨by omega, by omega⟩, kq, tq⟩
    · obtain ⟨⟨b1, b2⟩, b3, b4⟩ := a5 i (by omega)
      rw [rO i q, kO _ (by omega), tO _ (by omega)]
      exact ⟨⟨b1, by omega⟩, b3, b4⟩
  · have eA : ∀ s : x_U, F_L_between n ((x * (nI k + 7)) + (293 * nI k)) 0 5 s = some (nI (y_wA x k), s) := fun s => F_btw (v := y_wh x k) (lo := 0) (hi := 5) (by omega) (by omega)
    have eB : ∀ s : x_U, F_L_between n (((x * (nI k + 7)) + (293 * nI k)) >>> (4 &&& 31)) 1 5 s = some (nI (y_bt (y_wh x k >>> (4 &&& 31)) 1 5), s) := fun s => F_btw (v := y_wh x k >>> (4 &&& 31)) (lo := 1) (hi := 5) (by omega) (by omega)
    have eH : ∀ s : x_U, F_L_between n (((x * (nI k + 7)) + (293 * nI k)) >>> (5 &&& 31)) 1 24 s = some (nI (y_wH x k), s) := fun s => F_btw (v := y_wh x k >>> (5 &&& 31)) (lo := 1) (hi := 24) (by omega) (by omega)
    have bB := (y_bt_b (v := y_wh x k >>> (4 &&& 31)) (lo := 1) (hi := 5) (by omega)).2
    have bA := (y_w_b (x := x) (k := k)).1
    have ez : (fun (_ : Nat) => (0 : Int32)) = (fun _ => nI 0) := rfl
    have kpa : x_k w pa = .inr (N, 3) := a1
    have e6 : nI ((y_wA x k + y_bt (y_wh x k >>> (4 &&& 31)) 1 5) % 6) = nI (y_wB x k) := rfl
    rw [eA, z_xcall, p_xgr, h_xgrE k1, r5, show (3 : Int32) = nI 3 from rfl, p_xnwa, h_xnwaE (by omega) (by omega), ez]
    rw [show (0 : Int32) = nI 0 from rfl, p_xst, h_xstE (len := 3) (by simp (disch := omega) only [xs_k_ui, xs_k_ur, xs_k_uc, xs_k_un, xs_k_ub, xs_r_ui, xs_r_ur, xs_r_uc, xs_r_un, xs_r_ub, xs_t_ui, xs_t_ur, xs_t_uc, xs_t_un, xs_t_ub, xs_n_ui, xs_n_ur, xs_n_uc, xs_n_un, xs_n_ub, xs_m_ui, xs_m_ur, xs_m_uc, xs_m_un, xs_m_ub, xs_c_ui, xs_c_ur, xs_c_uc, xs_c_un, xs_c_ub, x_up_s, x_up_k, x_up_o, x_fU_s, x_fU_o]) (by omega) (by omega), eB, z_xcall, nI_add, show (6 : Int32) = nI 6 from rfl, p_xrem, h_xremE (by omega) (by omega) (by omega), e6]
    rw [show (1 : Int32) = nI 1 from rfl, p_xst, h_xstE (len := 3) (by simp (disch := omega) only [xs_k_ui, xs_k_ur, xs_k_uc, xs_k_un, xs_k_ub, xs_r_ui, xs_r_ur, xs_r_uc, xs_r_un, xs_r_ub, xs_t_ui, xs_t_ur, xs_t_uc, xs_t_un, xs_t_ub, xs_n_ui, xs_n_ur, xs_n_uc, xs_n_un, xs_n_ub, xs_m_ui, xs_m_ur, xs_m_uc, xs_m_un, xs_m_ub, xs_c_ui, xs_c_ur, xs_c_uc, xs_c_un, xs_c_ub, x_up_s, x_up_k, x_up_o, x_fU_s, x_fU_o]) (by omega) (by omega)]
    have eH2 : ∀ s : x_U, F_L_between n (((x * (nI k + 7)) + (293 * nI k)) >>> (5 &&& 31)) (nI 1) 24 s = some (nI (y_wH x k), s) := eH
    rw [eH2, z_xcall, show (2 : Int32) = nI 2 from rfl, p_xst, h_xstE (len := 3) (by simp (disch := omega) only [xs_k_ui, xs_k_ur, xs_k_uc, xs_k_un, xs_k_ub, xs_r_ui, xs_r_ur, xs_r_uc, xs_r_un, xs_r_ub, xs_t_ui, xs_t_ur, xs_t_uc, xs_t_un, xs_t_ub, xs_n_ui, xs_n_ur, xs_n_uc, xs_n_un, xs_n_ub, xs_m_ui, xs_m_ur, xs_m_uc, xs_m_un, xs_m_ub, xs_c_ui, xs_c_ur, xs_c_uc, xs_c_un, xs_c_ub, x_up_s, x_up_k, x_up_o, x_fU_s, x_fU_o]) (by omega) (by omega), p_xsr, h_xsrE (len := N) (t := 3) (by simp (disch := omega) only [xs_k_ui, xs_k_ur, xs_k_uc, xs_k_un, xs_k_ub, xs_r_ui, xs_r_ur, xs_r_uc, xs_r_un, xs_r_ub, xs_t_ui, xs_t_ur, xs_t_uc, xs_t_un, xs_t_ub, xs_n_ui, xs_n_ur, xs_n_uc, xs_n_un, xs_n_ub, xs_m_ui, xs_m_ur, xs_m_uc, xs_m_un, xs_m_ub, xs_c_ui, xs_c_ur, xs_c_uc, xs_c_un, xs_c_ub, x_up_s, x_up_k, x_up_o, x_fU_s, x_fU_o]; exact kpa) (by omega) hkN (by simp (disch := omega) only [xs_k_ui, xs_k_ur, xs_k_uc, xs_k_un, xs_k_ub, xs_r_ui, xs_r_ur, xs_r_uc, xs_r_un, xs_r_ub, xs_t_ui, xs_t_ur, xs_t_uc, xs_t_un, xs_t_ub, xs_n_ui, xs_n_ur, xs_n_uc, xs_n_un, xs_n_ub, xs_m_ui, xs_m_ur, xs_m_uc, xs_m_un, xs_m_ub, xs_c_ui, xs_c_ur, xs_c_uc, xs_c_un, xs_c_ub, x_up_s, x_up_k, x_up_o, x_fU_s, x_fU_o]; rfl) (by omega), hw']
set_option maxHeartbeats 4000000 in
theorem T_722 {x : Int32} {N om : Nat} {U0 : x_U} {V : Nat → Int32} (hn : 5 ≤ n) (hN : N ≤ 14) (hFz : ∀ i, Fz i → i < x_n U0) (hbU : b + mu + me ≤ x_n U0) : ∀ j k w vm lm dn dm, k ≤ N → N < j + k → y_CH (x_own p b mu me) U0 w om vm lm dn dm → y_WC Lx xs w → x_TB w Fz p b L pl pa mu me d V → y_RW U0 w pa N k 3 (y_rW x) → x_n U0 + (dn + 20 * (N - k)) + 40 ≤ 500000 → lm.length ≤ 25 * k →
    ∃ w' vm', y_CH (x_own p b mu me) U0 w' om vm' (lm ++ y_cat (y_fW x) (N - k) k) (dn + 20 * (N - k)) (dm + 2300 * (N - k)) ∧ y_WC Lx xs w' ∧ x_TB w' Fz p b L pl pa mu me d V ∧ y_RW U0 w' pa N N 3 (y_rW x) ∧ ∀ K : x_U → Option (Int32 × x_U), F_L_texts_L722 n p x (nI N) om K j (nI k) w = K w' := by
  intro j
  induction j with
  | zero => intro k w vm lm dn dm h1 h2; omega
  | succ j ih =>
    intro k w vm lm dn dm h1 h2 hC hW hT hR hb hl
    by_cases hk : k = N
    · subst hk
      refine ⟨w, vm, ?_, hW, hT, hR, fun K => ?_⟩
      · rw [Nat.sub_self]
        show y_CH _ U0 w om vm (lm ++ []) (dn + 0) (dm + 0)
        rw [List.append_nil]
        exact hC
      · rw [F_L_texts_L722]
        simp (disch := first | omega | ((try simp (disch := omega) only [xs_k_ui, xs_k_ur, xs_k_uc, xs_k_un, xs_k_ub, xs_r_ui, xs_r_ur, xs_r_uc, xs_r_un, xs_r_ub, xs_t_ui, xs_t_ur, xs_t_uc, xs_t_un, xs_t_ub, xs_n_ui, xs_n_ur, xs_n_uc, xs_n_un, xs_n_ub, xs_m_ui, xs_m_ur, xs_m_uc, xs_m_un, xs_m_ub, xs_c_ui, xs_c_ur, xs_c_uc, xs_c_un, xs_c_ub, x_up_s, x_up_k, x_up_o, x_fU_s, x_fU_o]) <;> first | rfl | omega | (refine (?_ : (_ : Bool) = true); with_unfolding_all rfl)) | fail) only [↓p_xgi, ↓p_xgr, ↓p_xpi, ↓p_xpr, ↓p_xo, ↓p_xld, ↓p_xlb, ↓p_xlr, ↓p_xst, ↓p_xsb, ↓p_xsr, ↓p_xlen, ↓p_xnew, ↓p_xnwa, ↓p_xcln, ↓p_xcst, ↓p_xcall, ↓p_xcalc, ↓p_xnm, ↓p_xdv, ↓p_xrem, h_xgiE, h_xgrE, h_xpiE, h_xprE, h_xoE, h_xldE, h_xlbE, h_xlrE, h_xstE, h_xsbE, h_xsrE, h_xlenE, h_xnewE, h_xnwaE, h_xclnE, h_xcstE, h_xcallE, h_xcalcE, h_xnmE, h_xdvE, h_xremE, xs_k_ui, xs_k_ur, xs_k_uc, xs_k_un, xs_k_ub, xs_r_ui, xs_r_ur, xs_r_uc, xs_r_un, xs_r_ub, xs_t_ui, xs_t_ur, xs_t_uc, xs_t_un, xs_t_ub, xs_n_ui, xs_n_ur, xs_n_uc, xs_n_un, xs_n_ub, xs_m_ui, xs_m_ur, xs_m_uc, xs_m_un, xs_m_ub, xs_c_ui, xs_c_ur, xs_c_uc, xs_c_un, xs_c_ub, x_up_s, x_up_k, x_up_o, x_fU_s, x_fU_o, ↓reduceIte, h_ldE, h_stE, h_nmE, h_nSE, h_callE, h_callvE, h_dvE, h_remE, if_true, if_false, z_upS, z_upO, z_upK, nI_add, z_mul, z_sub, z_div, Nat.add_zero, Nat.mul_zero, Nat.zero_add, Nat.sub_zero, Nat.zero_mul, z_ltT, z_ltF, z_leT, z_leF, z_eqT, z_eqF, z_inT, z_clT, not_true_eq_false, not_false_eq_true, eq_self, true_or, or_true, z_m_lt, z_m_le, z_lt_m, z_le_m, z_eq_m, z_m_eq, z_rz0, z_rz1, z_m_add, z_of, ↓z_m1, l_0, l_1, l_2, l_3, l_4, l_5, l_6, l_7, l_8, l_9, l_10, l_11, l_12, l_13, l_14, l_15, l_16, l_17, l_18, l_19, l_20, l_21, l_22, l_23, l_24, l_25, l_26, l_27, l_28, l_29, l_30, l_31, l_32, l_33, l_34, l_35, l_36, l_37, l_38, l_39, l_40, l_41, l_42, l_43, l_44, l_45, l_46, l_47, l_48, l_49, l_50, l_51, l_52, l_53, l_54, l_55, l_56, l_57, l_59, l_60, l_61, l_62, l_63, l_64, l_65, l_80, l_86, l_87, l_88, l_89, l_90, l_91, l_92, l_93, l_94, l_95, l_97, l_99, l_100, l_107, l_119, l_122, l_124, l_129, l_140, l_141, l_142, l_143, l_144, l_145, l_147, l_150, l_159, l_160, l_161, l_162, l_205, l_253, l_255, l_256, l_269, l_305, l_380, l_399, l_400, l_420, l_430, l_516, l_600, l_720, l_820, l_905, l_921, l_937, l_953, l_970, l_999, l_1000, l_1790, l_4096, l_9999, l_1000000]
    · have hlt : k < N := by omega
      have hbd := hT.bd
      have hCb := hC.bd
      obtain ⟨ko, cap, kv⟩ := hC.vk
      have hC1 := hC.2.1
      have hC2 := hC.2.2.1
      have hC3 := hC.2.2.2.1
      have hC4 := hC.2.2.2.2.1
      have hC0 := hC.1.2.1
      have hown : ∀ i, x_own p b mu me i → i < x_n U0 := fun i hi => by unfold x_own at hi; omega
      obtain ⟨b1, b2, b3, b4, b5⟩ := y_w_b (x := x) (k := k)
      have k1 : x_k w p = .inl 12 := hT.1.2.1.1
      have r5 : x_r w p 15 = pa := hT.1.2.2.2.2.2.2.2.1
      have a1 := hR.1
      obtain ⟨w1, f1, n1, m1, hR1, rq, eR⟩ := T_wrow (n := n) (x := x) (p := p) (pa := pa) (row := y_rW x) k1 r5 hR hlt (by omega) hC0 rfl
      have npo : ¬ om = pa := fun q => by rw [q, a1.1] at ko; cases ko
      have npv : ¬ vm = pa := fun q => by rw [q, a1.1] at kv; cases kv
      have c1 := hC.ext2 (a := 1) (b := 3) f1 (by omega) (by omega) (by omega) npo npv (fun i hi => by
        have hi : i = pa := hi
        exact Or.inr (by omega))
      have hW1 := hW.fr f1 (fun i hi => by have hi : i = pa := hi; omega)
      have hT1 := hT.fr f1 (by omega) (fun i hi h => by
        have h : i = pa := h
        have := hown i hi
        omega) (fun i hi h => by
        have h : i = pa := h
        have := hFz i hi
        omega)
      have hl1 := (hR1.2 k (by omega))
      rw [rq] at hl1
      have kk1 : x_k w1 p = .inl 12 := hT1.1.2.1.1
      have rr1 : x_r w1 p 15 = pa := hT1.1.2.2.2.2.2.2.2.1
      obtain ⟨w2, s, ⟨fs, ns, ms, hWs, sv, gs, ls⟩, eL⟩ := T_path (n := n) (A := y_wA x k) (B := y_wB x k) (H := y_wH x k) (x1 := p) hn hW1 (by omega) (by omega) (by omega) (by omega) (by omega) kk1 rr1 hR1.1.1 hlt hR1.1.2.2.2 rq hl1.2.1 (hl1.2.2 1 (by omega)) (hl1.2.2 2 (by omega)) (by omega) (by omega) (by omega)
      have c2 := c1.ext (fs.mono (fun i hi => hi.elim)) ns ms (by omega) hown
      have hlen : (y_wl (y_wA x k) (y_wB x k) (y_wH x k)).length ≤ 25 := by
        have e1 : (y_dg (y_wA x k)).length = 1 := by unfold y_dg; rw [if_pos (by omega)]; rfl
        have e2 : (y_dg (y_wB x k)).length = 1 := by unfold y_dg; rw [if_pos (by omega)]; rfl
        obtain ⟨e3, -⟩ := y_dgl (a := y_wH x k) (by omega)
        unfold y_wl
        simp only [List.length_append, List.length_cons, List.length_nil]
        omega
      have c1b := c1.bd
      obtain ⟨w3, vm3, c3, hW3, f3, q3, e3⟩ := c2.ks (n := n) (M := 400) hWs gs (by omega) (by omega) (by omega) (by omega)
      obtain ⟨ko2, cap2, kv2⟩ := c2.vk
      have hT2 := hT1.fr fs (by omega) (fun _ _ h => h) (fun _ _ h => h)
      have hT3 := hT2.fr f3 c3.bd.2.2.1 (fun i hi h => by have := hown i hi; rcases h with q | q <;> omega) (fun i hi h => by have := hFz i hi; rcases h with q | q <;> omega)
      have hR2 := hR1.fr fs (fun h => h) (fun _ _ h => h)
      have hR3 := hR2.frB f3 ko2 kv2
      obtain ⟨w', vm', g1, g2, g3, g4, g5⟩ := ih (k+1) w3 vm3 _ _ _ (by omega) (by omega) c3 hW3 hT3 hR3 (by omega) (by rw [List.length_append]; omega)
      refine ⟨w', vm', ?_, g2, g3, g4, fun K => ?_⟩
      · have e1 : N - k = (N - (k+1)) + 1 := by omega
        have e4 : lm ++ y_wl (y_wA x k) (y_wB x k) (y_wH x k) ++ y_cat (y_fW x) (N - (k+1)) (k+1) = lm ++ y_cat (y_fW x) (N - k) k := by
          rw [e1, y_cat_s, List.append_assoc]
          rfl
        rw [e4] at g1
        obtain ⟨z1, z2, z3, z4⟩ := g1
        exact ⟨z1, by omega, by omega, z4⟩
      · rw [← g5 K, F_L_texts_L722, if_pos ((nI_ltI (by omega) (by omega)).mpr hlt), x_nmE]
        refine (eR (fun r227 s239 => _)).trans ?_
        refine (eL _ _).trans ?_
        refine (e3 _ _).trans ?_
        rw [show (1 : Int32) = nI 1 from rfl, nI_add]
/-- the text goes to the tape -/
theorem T_told {own : Nat → Prop} {U0 w : x_U} {om vm dn dm : Nat} {lm : List Nat} (hn : n = q_F) (hC : y_CH own U0 w om vm lm dn dm) (hW : y_WC Lx xs w) (hl : lm.length ≤ 380) (h0 : x_c w 142 1 = nI 0) (hb : x_n w + 30 ≤ 500000) : ∃ w' T, x_fr (fun _ => False) (x_uc w (x_c w')) w' ∧ x_n w' ≤ x_n w + 22 ∧ x_m w' ≤ x_m w + 500 ∧ y_WC Lx xs w' ∧ (∀ o, o ≠ 142 → o ≠ 143 → x_c w' o = x_c w o) ∧ zt_B (x_c w' 143) T ∧ x_c w' 142 1 = nI T.2 ∧ y_sf T 0 lm ∧
    ∀ (α : Type) (J : x_U → Option (α × x_U)), (x_o w om 14 <| x_call (F_J4_toString_0e30d n om w) fun o84 s83 => x_call (F_L_say n o84 s83) fun _ s86 => J s86) = J w' := by
  have hk := hC.bd.2.2.2.1
  obtain ⟨u1, f0, f1, f2, f3, f4, f5, f6, f7, f8⟩ := hC.toS (n := n) (M := 380) hW hl (by omega) (by omega)
  have hc1 : x_c u1 = x_c w := f3.1
  obtain ⟨w', g1, g2, g3, g4, g5, g6, g7⟩ := F_say hn f7 hl (by rw [hc1]; exact h0) (by omega)
  have fx : x_fr (fun _ => False) (x_uc w (x_c w')) w' := (f3.uc (σ := x_c w')).tr g1
  refine ⟨w', (fun i => lm.getD i 0, lm.length), fx, by omega, by omega, ?_, fun o o1 o2 => by rw [g4 o o1 o2, hc1], ⟨by show lm.length ≤ 400; omega, fun i hi => ⟨g6 i hi, ?_⟩⟩, g5, ⟨by show 0 + lm.length = lm.length; omega, fun i hi => by show lm.getD (0+i) 0 = _; rw [Nat.zero_add]⟩, fun α J => ?_⟩
  · have hWu : y_WC Lx xs (x_uc w (x_c w')) := hW
    exact hWu.fr fx (fun i h => h.elim)
  · have := f7.2.2.2.1 i hi
    show lm.getD i 0 ≤ 255
    omega
  · rw [p_xo, h_xoE hk, f8, z_xcall, g7, z_xcall]
end PT
