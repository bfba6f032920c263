/-! plans told: the loop -/
section PL
variable {n p b L pl pa mu me Lx : Nat} {xs : Nat → Int32} {d : Nat → Nat} {Fz : Nat → Prop}
/-- one, and mule -/
theorem T_pk {x : Int32} {k : Nat} {w : x_U} (k1 : x_k w p = .inl 12) (t7 : x_t w p 7 = nI mu) (t8 : x_t w p 8 = nI me) (hmu : mu ≤ 12) (hme : me ≤ 5) (J : Int32 → Int32 → x_U → Option (Int32 × x_U)) : (x_nm (fun (y113 : Int32) (s114 : x_U) =>
        x_nm (fun (y115 : Int32) (s116 : x_U) => J y113 y115 s116) fun j503 =>
        x_nm (fun  (s194 : x_U) =>
          x_gi s194 p 12 7 fun v195 =>
          x_call (F_L_between n (((x * (nI k + 5)) + (283 * nI k)) >>> (5 &&& 31)) 0 (v195 - 1) s194) fun r197 s196 =>
          j503 r197 s196) fun j485 =>
        if nI (y_pW x mu me k) = 0 then (
        j485 s114)
        else (
        if nI (y_pW x mu me k) = 2 then (
        j485 s114)
        else (
        j503 0 s114))) fun j472 =>
      if nI (y_pW x mu me k) = 3 then (
      j472 0 w)
      else (
      if nI (y_pW x mu me k) = 4 then (
      x_call (F_L_between n (((x * (nI k + 5)) + (283 * nI k)) >>> (6 &&& 31)) 0 5 w) fun r199 s198 =>
      j472 r199 s198)
      else (
      x_gi w p 12 8 fun v200 =>
      x_call (F_L_between n (((x * (nI k + 5)) + (283 * nI k)) >>> (6 &&& 31)) 0 (v200 - 1) w) fun r202 s201 =>
      j472 r202 s201))) = J (nI (y_pK x mu me k)) (nI (y_pM x mu me k)) w := by
  obtain ⟨-, hW, hKb, hK4, hMb, -, -, hK3, hMn⟩ := y_p_b (x := x) (D := 0) (k := k) hmu hme (by omega)
  have z : ∀ c : Nat, c < 10 → ((nI (y_pW x mu me k) = nI c) ↔ y_pW x mu me k = c) := fun c hc => nI_eq (by omega) (by omega)
  have z0 : (nI (y_pW x mu me k) = (0 : Int32)) ↔ y_pW x mu me k = 0 := z 0 (by omega)
  have z2 : (nI (y_pW x mu me k) = (2 : Int32)) ↔ y_pW x mu me k = 2 := z 2 (by omega)
  have z3 : (nI (y_pW x mu me k) = (3 : Int32)) ↔ y_pW x mu me k = 3 := z 3 (by omega)
  have z4 : (nI (y_pW x mu me k) = (4 : Int32)) ↔ y_pW x mu me k = 4 := z 4 (by omega)
  have inner : ∀ y : Int32, (fun (y113 : Int32) (s114 : x_U) =>
        x_nm (fun (y115 : Int32) (s116 : x_U) => J y113 y115 s116) fun j503 =>
        x_nm (fun  (s194 : x_U) =>
          x_gi s194 p 12 7 fun v195 =>
          x_call (F_L_between n (((x * (nI k + 5)) + (283 * nI k)) >>> (5 &&& 31)) 0 (v195 - 1) s194) fun r197 s196 =>
          j503 r197 s196) fun j485 =>
        if nI (y_pW x mu me k) = 0 then (
        j485 s114)
        else (
        if nI (y_pW x mu me k) = 2 then (
        j485 s114)
        else (
        j503 0 s114))) y w = J y (nI (y_pM x mu me k)) w := fun y => by
    show (x_nm _ fun j503 => x_nm _ fun j485 => _) = _
    rw [x_nmE, x_nmE]
    have eM : (y_pW x mu me k = 0 ∨ y_pW x mu me k = 2) → (x_gi w p 12 7 fun v195 =>
          x_call (F_L_between n (((x * (nI k + 5)) + (283 * nI k)) >>> (5 &&& 31)) 0 (v195 - 1) w) fun r197 s196 => J y r197 s196) = J y (nI (y_pM x mu me k)) w := fun hq => by
      have hm := hMb hq
      have e1 : nI mu - 1 = nI (mu - 1) := by
        rw [show (1 : Int32) = nI 1 from rfl]
        exact z_sub (by omega)
      have eB : F_L_between n (((x * (nI k + 5)) + (283 * nI k)) >>> (5 &&& 31)) 0 (nI mu - 1) w = some (nI (y_pM x mu me k), w) := by
        rw [e1]
        have := F_btw (n := n) (v := y_ph x k >>> (5 &&& 31)) (lo := 0) (hi := mu - 1) (u := w) (by omega) (by omega)
        unfold y_pM
        rw [if_pos hq]
        exact this
      rw [p_xgi, h_xgiE k1, t7, eB, z_xcall]
    by_cases c0 : y_pW x mu me k = 0
    · rw [if_pos (z0.mpr c0)]
      exact eM (Or.inl c0)
    · rw [if_neg (fun h => c0 (z0.mp h))]
      by_cases c2 : y_pW x mu me k = 2
      · rw [if_pos (z2.mpr c2)]
        exact eM (Or.inr c2)
      · rw [if_neg (fun h => c2 (z2.mp h)), hMn (by omega)]
        rfl
  rw [x_nmE]
  by_cases c3 : y_pW x mu me k = 3
  · rw [if_pos (z3.mpr c3)]
    refine (inner 0).trans ?_
    rw [hK3 c3]
    rfl
  · rw [if_neg (fun h => c3 (z3.mp h))]
    by_cases c4 : y_pW x mu me k = 4
    · have eB : F_L_between n (((x * (nI k + 5)) + (283 * nI k)) >>> (6 &&& 31)) 0 5 w = some (nI (y_pK x mu me k), w) := by
        have := F_btw (n := n) (v := y_ph x k >>> (6 &&& 31)) (lo := 0) (hi := 5) (u := w) (by omega) (by omega)
        unfold y_pK
        rw [if_neg c3, if_pos c4]
        exact this
      rw [if_pos (z4.mpr c4), eB, z_xcall]
      exact inner _
    · have hme1 : me ≠ 0 := fun h => by
        have := hKb (by omega)
        omega
      have e1 : nI me - 1 = nI (me - 1) := by
        rw [show (1 : Int32) = nI 1 from rfl]
        exact z_sub (by omega)
      have eB : F_L_between n (((x * (nI k + 5)) + (283 * nI k)) >>> (6 &&& 31)) 0 (nI me - 1) w = some (nI (y_pK x mu me k), w) := by
        rw [e1]
        have := F_btw (n := n) (v := y_ph x k >>> (6 &&& 31)) (lo := 0) (hi := me - 1) (u := w) (by omega) (by omega)
        unfold y_pK
        rw [if_neg c3, if_neg c4]
        exact this
      rw [if_neg (fun h => c4 (z4.mp h)), p_xgi, h_xgiE k1, t8, eB, z_xcall]
      exact inner _
/-- a plan's row laid -/
theorem T_prow {row : Nat → Nat → Int32} {x : Int32} {k D N : Nat} {w U0 : x_U} {W K M : Nat} (k1 : x_k w p = .inl 12) (r5 : x_r w p 14 = pl) (t1 : x_t w p 1 = nI D) (hD : D ≤ 900) (hN : y_RW U0 w pl N k 4 row) (hkN : k < N) (hb : x_n w + 1 ≤ 500000) (hU : x_n U0 ≤ x_n w) (hp : p < x_n w) (hW : W ≤ 4) (hK : K < 100) (hM : M < 100) (hpp : p ≠ pl) (hr : row k = y_r4 (nI (y_pD x D k)) (nI W) (nI K) (nI M)) : ∃ w', x_fr (fun i => i = pl) w w' ∧ x_n w' = x_n w + 1 ∧ x_m w' = x_m w + 4 ∧ y_RW U0 w' pl N (k+1) 4 row ∧ x_r w' pl k = x_n w ∧
    ∀ J : x_U → Option (Int32 × x_U), (x_gr w p 12 14 fun o117 =>
          x_nwa w 0 4 fun o118 s119 =>
          x_gi s119 p 12 1 fun v120 =>
          x_call (F_L_between n ((x * (nI k + 5)) + (283 * nI k)) 0 6 s119) fun r122 s121 =>
          x_st s121 o118 0 (v120 + r122) fun s123 =>
          x_st s123 o118 1 (nI W) fun s124 =>
          x_st s124 o118 2 (nI K) fun s125 =>
          x_st s125 o118 3 (nI M) fun s126 =>
          x_sr s126 o117 (nI k) o118 J) = J w' := by
  obtain ⟨⟨a1, a2, a3, a4⟩, a5⟩ := hN
  obtain ⟨w', hw'⟩ : ∃ w', w' = x_ur (x_ui (x_ui (x_ui (x_ui (x_un w (.inr (4, 0)) 4 (fun _ => nI 0)) (x_n w) 0 (nI (y_pD x D k))) (x_n w) 1 (nI W)) (x_n w) 2 (nI K)) (x_n w) 3 (nI M)) pl k (x_n w) := ⟨_, rfl⟩
  have nW : x_n w' = x_n w + 1 := by rw [hw']; simp (disch := omega) only [xs_k_ui, xs_k_ur, xs_k_uc, xs_k_un, xs_k_ub, xs_r_ui, xs_r_ur, xs_r_uc, xs_r_un, xs_r_ub, xs_t_ui, xs_t_ur, xs_t_uc, xs_t_un, xs_t_ub, xs_n_ui, xs_n_ur, xs_n_uc, xs_n_un, xs_n_ub, xs_m_ui, xs_m_ur, xs_m_uc, xs_m_un, xs_m_ub, xs_c_ui, xs_c_ur, xs_c_uc, xs_c_un, xs_c_ub, x_up_s, x_up_k, x_up_o, x_fU_s, x_fU_o]
  have mW : x_m w' = x_m w + 4 := by rw [hw']; simp (disch := omega) only [xs_k_ui, xs_k_ur, xs_k_uc, xs_k_un, xs_k_ub, xs_r_ui, xs_r_ur, xs_r_uc, xs_r_un, xs_r_ub, xs_t_ui, xs_t_ur, xs_t_uc, xs_t_un, xs_t_ub, xs_n_ui, xs_n_ur, xs_n_uc, xs_n_un, xs_n_ub, xs_m_ui, xs_m_ur, xs_m_uc, xs_m_un, xs_m_ub, xs_c_ui, xs_c_ur, xs_c_uc, xs_c_un, xs_c_ub, x_up_s, x_up_k, x_up_o, x_fU_s, x_fU_o]
  have kq : x_k w' (x_n w) = .inr (4, 0) := by rw [hw']; simp (disch := omega) only [xs_k_ui, xs_k_ur, xs_k_uc, xs_k_un, xs_k_ub, xs_r_ui, xs_r_ur, xs_r_uc, xs_r_un, xs_r_ub, xs_t_ui, xs_t_ur, xs_t_uc, xs_t_un, xs_t_ub, xs_n_ui, xs_n_ur, xs_n_uc, xs_n_un, xs_n_ub, xs_m_ui, xs_m_ur, xs_m_uc, xs_m_un, xs_m_ub, xs_c_ui, xs_c_ur, xs_c_uc, xs_c_un, xs_c_ub, x_up_s, x_up_k, x_up_o, x_fU_s, x_fU_o]
  have rq : x_r w' pl k = x_n w := by rw [hw']; simp (disch := omega) only [xs_k_ui, xs_k_ur, xs_k_uc, xs_k_un, xs_k_ub, xs_r_ui, xs_r_ur, xs_r_uc, xs_r_un, xs_r_ub, xs_t_ui, xs_t_ur, xs_t_uc, xs_t_un, xs_t_ub, xs_n_ui, xs_n_ur, xs_n_uc, xs_n_un, xs_n_ub, xs_m_ui, xs_m_ur, xs_m_uc, xs_m_un, xs_m_ub, xs_c_ui, xs_c_ur, xs_c_uc, xs_c_un, xs_c_ub, x_up_s, x_up_k, x_up_o, x_fU_s, x_fU_o]
  have kO : ∀ i, i ≠ x_n w → x_k w' i = x_k w i := fun i hi => by rw [hw']; simp (disch := omega) only [xs_k_ui, xs_k_ur, xs_k_uc, xs_k_un, xs_k_ub, xs_r_ui, xs_r_ur, xs_r_uc, xs_r_un, xs_r_ub, xs_t_ui, xs_t_ur, xs_t_uc, xs_t_un, xs_t_ub, xs_n_ui, xs_n_ur, xs_n_uc, xs_n_un, xs_n_ub, xs_m_ui, xs_m_ur, xs_m_uc, xs_m_un, xs_m_ub, xs_c_ui, xs_c_ur, xs_c_uc, xs_c_un, xs_c_ub, x_up_s, x_up_k, x_up_o, x_fU_s, x_fU_o]
  have rO : ∀ j, j ≠ k → x_r w' pl j = x_r w pl j := fun j hj => by rw [hw']; simp (disch := omega) only [xs_k_ui, xs_k_ur, xs_k_uc, xs_k_un, xs_k_ub, xs_r_ui, xs_r_ur, xs_r_uc, xs_r_un, xs_r_ub, xs_t_ui, xs_t_ur, xs_t_uc, xs_t_un, xs_t_ub, xs_n_ui, xs_n_ur, xs_n_uc, xs_n_un, xs_n_ub, xs_m_ui, xs_m_ur, xs_m_uc, xs_m_un, xs_m_ub, xs_c_ui, xs_c_ur, xs_c_uc, xs_c_un, xs_c_ub, x_up_s, x_up_k, x_up_o, x_fU_s, x_fU_o]
  have tO : ∀ i, i ≠ x_n w → x_t w' i = x_t w i := fun i hi => by rw [hw']; simp (disch := omega) only [xs_k_ui, xs_k_ur, xs_k_uc, xs_k_un, xs_k_ub, xs_r_ui, xs_r_ur, xs_r_uc, xs_r_un, xs_r_ub, xs_t_ui, xs_t_ur, xs_t_uc, xs_t_un, xs_t_ub, xs_n_ui, xs_n_ur, xs_n_uc, xs_n_un, xs_n_ub, xs_m_ui, xs_m_ur, xs_m_uc, xs_m_un, xs_m_ub, xs_c_ui, xs_c_ur, xs_c_uc, xs_c_un, xs_c_ub, x_up_s, x_up_k, x_up_o, x_fU_s, x_fU_o]
  have tq : ∀ c, c < 4 → x_t w' (x_n w) c = row k c := fun c hc => by
    rw [hr]
    have : c = 0 ∨ c = 1 ∨ c = 2 ∨ c = 3 := by omega
    rw [hw']
    rcases this with rfl | rfl | rfl | rfl
    · show _ = nI (y_pD x D k)
      simp (disch := omega) only [xs_k_ui, xs_k_ur, xs_k_uc, xs_k_un, xs_k_ub, xs_r_ui, xs_r_ur, xs_r_uc, xs_r_un, xs_r_ub, xs_t_ui, xs_t_ur, xs_t_uc, xs_t_un, xs_t_ub, xs_n_ui, xs_n_ur, xs_n_uc, xs_n_un, xs_n_ub, xs_m_ui, xs_m_ur, xs_m_uc, xs_m_un, xs_m_ub, xs_c_ui, xs_c_ur, xs_c_uc, xs_c_un, xs_c_ub, x_up_s, x_up_k, x_up_o, x_fU_s, x_fU_o]
    · show _ = nI W
      simp (disch := omega) only [xs_k_ui, xs_k_ur, xs_k_uc, xs_k_un, xs_k_ub, xs_r_ui, xs_r_ur, xs_r_uc, xs_r_un, xs_r_ub, xs_t_ui, xs_t_ur, xs_t_uc, xs_t_un, xs_t_ub, xs_n_ui, xs_n_ur, xs_n_uc, xs_n_un, xs_n_ub, xs_m_ui, xs_m_ur, xs_m_uc, xs_m_un, xs_m_ub, xs_c_ui, xs_c_ur, xs_c_uc, xs_c_un, xs_c_ub, x_up_s, x_up_k, x_up_o, x_fU_s, x_fU_o]
    · show _ = nI K
      simp (disch := omega) only [xs_k_ui, xs_k_ur, xs_k_uc, xs_k_un, xs_k_ub, xs_r_ui, xs_r_ur, xs_r_uc, xs_r_un, xs_r_ub, xs_t_ui, xs_t_ur, xs_t_uc, xs_t_un, xs_t_ub, xs_n_ui, xs_n_ur, xs_n_uc, xs_n_un, xs_n_ub, xs_m_ui, xs_m_ur, xs_m_uc, xs_m_un, xs_m_ub, xs_c_ui, xs_c_ur, xs_c_uc, xs_c_un, xs_c_ub, x_up_s, x_up_k, x_up_o, x_fU_s, x_fU_o]
    · show _ = nI M
      simp (disch := omega) only [xs_k_ui, xs_k_ur, xs_k_uc, xs_k_un, xs_k_ub, xs_r_ui, xs_r_ur, xs_r_uc, xs_r_un, xs_r_ub, xs_t_ui, xs_t_ur, xs_t_uc, xs_t_un, xs_t_ub, xs_n_ui, xs_n_ur, xs_n_uc, xs_n_un, xs_n_ub, xs_m_ui, xs_m_ur, xs_m_uc, xs_m_un, xs_m_ub, xs_c_ui, xs_c_ur, xs_c_uc, xs_c_un, xs_c_ub, x_up_s, x_up_k, x_up_o, x_fU_s, x_fU_o]
  refine ⟨w', ⟨by rw [hw']; simp (disch := omega) only [xs_k_ui, xs_k_ur, xs_k_uc, xs_k_un, xs_k_ub, xs_r_ui, xs_r_ur, xs_r_uc, xs_r_un, xs_r_ub, xs_t_ui, xs_t_ur, xs_t_uc, xs_t_un, xs_t_ub, xs_n_ui, xs_n_ur, xs_n_uc, xs_n_un, xs_n_ub, xs_m_ui, xs_m_ur, xs_m_uc, xs_m_un, xs_m_ub, xs_c_ui, xs_c_ur, xs_c_uc, xs_c_un, xs_c_ub, x_up_s, x_up_k, x_up_o, x_fU_s, x_fU_o], by omega, by omega, fun i hi => kO i (by omega), fun i hi ho => ⟨?_, tO i (by omega)⟩⟩, nW, mW, ⟨⟨by rw [kO pl (by omega)]; exact a1, a2, by omega, a4⟩, fun i hi => ?_⟩, rq, fun J => ?_⟩
  · have ho : ¬ i = pl := ho
    rw [hw']; simp (disch := omega) only [xs_k_ui, xs_k_ur, xs_k_uc, xs_k_un, xs_k_ub, xs_r_ui, xs_r_ur, xs_r_uc, xs_r_un, xs_r_ub, xs_t_ui, xs_t_ur, xs_t_uc, xs_t_un, xs_t_ub, xs_n_ui, xs_n_ur, xs_n_uc, xs_n_un, xs_n_ub, xs_m_ui, xs_m_ur, xs_m_uc, xs_m_un, xs_m_ub, xs_c_ui, xs_c_ur, xs_c_uc, xs_c_un, xs_c_ub, x_up_s, x_up_k, x_up_o, x_fU_s, x_fU_o]
  · by_cases q : i = k
    · subst q
      rw [rq]
      exact ⟨⟨by omega, by omega⟩, kq, tq⟩
    · obtain ⟨⟨b1, b2⟩, b3, b4⟩ := a5 i (by omega)
      rw [rO i q, kO _ (by omega), tO _ (by omega)]
      exact ⟨⟨b1, by omega⟩, b3, b4⟩
  · have eB : ∀ s : x_U, F_L_between n ((x * (nI k + 5)) + (283 * nI k)) 0 6 s = some (nI (y_bt (y_ph x k) 0 6), s) := fun s => F_btw (v := y_ph x k) (lo := 0) (hi := 6) (by omega) (by omega)
    have bD := (y_bt_b (v := y_ph x k) (lo := 0) (hi := 6) (by omega)).2
    have eD : nI D + nI (y_bt (y_ph x k) 0 6) = nI (y_pD x D k) := nI_add _ _
    have ez : (fun (_ : Nat) => (0 : Int32)) = (fun _ => nI 0) := rfl
    have kp : x_k (x_un w (.inr (4, 0)) 4 (fun _ => nI 0)) p = .inl 12 := by simp (disch := omega) only [xs_k_ui, xs_k_ur, xs_k_uc, xs_k_un, xs_k_ub, xs_r_ui, xs_r_ur, xs_r_uc, xs_r_un, xs_r_ub, xs_t_ui, xs_t_ur, xs_t_uc, xs_t_un, xs_t_ub, xs_n_ui, xs_n_ur, xs_n_uc, xs_n_un, xs_n_ub, xs_m_ui, xs_m_ur, xs_m_uc, xs_m_un, xs_m_ub, xs_c_ui, xs_c_ur, xs_c_uc, xs_c_un, xs_c_ub, x_up_s, x_up_k, x_up_o, x_fU_s, x_fU_o]; exact k1
    have tp : x_t (x_un w (.inr (4, 0)) 4 (fun _ => nI 0)) p 1 = nI D := by simp (disch := omega) only [xs_k_ui, xs_k_ur, xs_k_uc, xs_k_un, xs_k_ub, xs_r_ui, xs_r_ur, xs_r_uc, xs_r_un, xs_r_ub, xs_t_ui, xs_t_ur, xs_t_uc, xs_t_un, xs_t_ub, xs_n_ui, xs_n_ur, xs_n_uc, xs_n_un, xs_n_ub, xs_m_ui, xs_m_ur, xs_m_uc, xs_m_un, xs_m_ub, xs_c_ui, xs_c_ur, xs_c_uc, xs_c_un, xs_c_ub, x_up_s, x_up_k, x_up_o, x_fU_s, x_fU_o]; exact t1
    rw [p_xgr, h_xgrE k1, r5, show (4 : Int32) = nI 4 from rfl, p_xnwa, h_xnwaE (by omega) (by omega), ez, p_xgi, h_xgiE kp, tp, eB, z_xcall, eD]
    have hx : x_fk (.inr (4, 0)) 3 = true := rfl
    have kpl : x_k w pl = .inr (N, 3) := a1
    rw [show (0 : Int32) = nI 0 from rfl, show (1 : Int32) = nI 1 from rfl, show (2 : Int32) = nI 2 from rfl, show (3 : Int32) = nI 3 from rfl]
    rw [p_xst, h_xstE (len := 4) (by simp (disch := omega) only [xs_k_ui, xs_k_ur, xs_k_uc, xs_k_un, xs_k_ub, xs_r_ui, xs_r_ur, xs_r_uc, xs_r_un, xs_r_ub, xs_t_ui, xs_t_ur, xs_t_uc, xs_t_un, xs_t_ub, xs_n_ui, xs_n_ur, xs_n_uc, xs_n_un, xs_n_ub, xs_m_ui, xs_m_ur, xs_m_uc, xs_m_un, xs_m_ub, xs_c_ui, xs_c_ur, xs_c_uc, xs_c_un, xs_c_ub, x_up_s, x_up_k, x_up_o, x_fU_s, x_fU_o]) (by omega) (by omega), p_xst, h_xstE (len := 4) (by simp (disch := omega) only [xs_k_ui, xs_k_ur, xs_k_uc, xs_k_un, xs_k_ub, xs_r_ui, xs_r_ur, xs_r_uc, xs_r_un, xs_r_ub, xs_t_ui, xs_t_ur, xs_t_uc, xs_t_un, xs_t_ub, xs_n_ui, xs_n_ur, xs_n_uc, xs_n_un, xs_n_ub, xs_m_ui, xs_m_ur, xs_m_uc, xs_m_un, xs_m_ub, xs_c_ui, xs_c_ur, xs_c_uc, xs_c_un, xs_c_ub, x_up_s, x_up_k, x_up_o, x_fU_s, x_fU_o]) (by omega) (by omega), p_xst, h_xstE (len := 4) (by simp (disch := omega) only [xs_k_ui, xs_k_ur, xs_k_uc, xs_k_un, xs_k_ub, xs_r_ui, xs_r_ur, xs_r_uc, xs_r_un, xs_r_ub, xs_t_ui, xs_t_ur, xs_t_uc, xs_t_un, xs_t_ub, xs_n_ui, xs_n_ur, xs_n_uc, xs_n_un, xs_n_ub, xs_m_ui, xs_m_ur, xs_m_uc, xs_m_un, xs_m_ub, xs_c_ui, xs_c_ur, xs_c_uc, xs_c_un, xs_c_ub, x_up_s, x_up_k, x_up_o, x_fU_s, x_fU_o]) (by omega) (by omega), p_xst, h_xstE (len := 4) (by simp (disch := omega) only [xs_k_ui, xs_k_ur, xs_k_uc, xs_k_un, xs_k_ub, xs_r_ui, xs_r_ur, xs_r_uc, xs_r_un, xs_r_ub, xs_t_ui, xs_t_ur, xs_t_uc, xs_t_un, xs_t_ub, xs_n_ui, xs_n_ur, xs_n_uc, xs_n_un, xs_n_ub, xs_m_ui, xs_m_ur, xs_m_uc, xs_m_un, xs_m_ub, xs_c_ui, xs_c_ur, xs_c_uc, xs_c_un, xs_c_ub, x_up_s, x_up_k, x_up_o, x_fU_s, x_fU_o]) (by omega) (by omega), p_xsr, h_xsrE (len := N) (t := 3) (by simp (disch := omega) only [xs_k_ui, xs_k_ur, xs_k_uc, xs_k_un, xs_k_ub, xs_r_ui, xs_r_ur, xs_r_uc, xs_r_un, xs_r_ub, xs_t_ui, xs_t_ur, xs_t_uc, xs_t_un, xs_t_ub, xs_n_ui, xs_n_ur, xs_n_uc, xs_n_un, xs_n_ub, xs_m_ui, xs_m_ur, xs_m_uc, xs_m_un, xs_m_ub, xs_c_ui, xs_c_ur, xs_c_uc, xs_c_un, xs_c_ub, x_up_s, x_up_k, x_up_o, x_fU_s, x_fU_o]; exact kpl) (by omega) hkN (by simp (disch := omega) only [xs_k_ui, xs_k_ur, xs_k_uc, xs_k_un, xs_k_ub, xs_r_ui, xs_r_ur, xs_r_uc, xs_r_un, xs_r_ub, xs_t_ui, xs_t_ur, xs_t_uc, xs_t_un, xs_t_ub, xs_n_ui, xs_n_ur, xs_n_uc, xs_n_un, xs_n_ub, xs_m_ui, xs_m_ur, xs_m_uc, xs_m_un, xs_m_ub, xs_c_ui, xs_c_ur, xs_c_uc, xs_c_un, xs_c_ub, x_up_s, x_up_k, x_up_o, x_fU_s, x_fU_o]; rfl) (by omega), hw']
end PL
