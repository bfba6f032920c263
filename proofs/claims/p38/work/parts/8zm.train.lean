/-! the train, made out of the script: cells, the train itself, its law -/
def y_ce (Lx : Nat) (xs : Nat → Int32) (i : Nat) : Int32 := if i < Lx then xs i else 631 * nI i + 619
theorem F_cell {n i Lx : Nat} {xs : Nat → Int32} {u : x_U} {a : Int32} (ha : a = nI i) (hi : i < 1000) (hL : Lx ≤ 260) (hW : y_WC Lx xs u) : F_L_cell n (x_CT + 2) a u = some (y_ce Lx xs i, u) := by
  subst ha
  obtain ⟨⟨-, -, k1, t1⟩, -⟩ := hW
  unfold F_L_cell
  rw [p_xlen, h_xlenE k1 (by omega)]
  unfold y_ce
  by_cases h : i < Lx
  · have e : ∀ K : Int32 → Option (Int32 × x_U), x_ld u (x_CT + 2) (nI i) K = K (xs i) := fun K => by
      simp [x_ld, k1, t1, z_inT h (show Lx < 2147483648 by omega), z_clT (show i < 2147483648 by omega)]
    rw [if_pos ((nI_ltI (by omega) (by omega)).mpr h), if_pos h, e]
  · rw [if_neg (fun q => h ((nI_ltI (by omega) (by omega)).mp q)), if_neg h]
theorem x_TB.b0 {u : x_U} {Fz : Nat → Prop} {p b b' L pl pa : Nat} {d : Nat → Nat} {V : Nat → Int32} (h : x_TB u Fz p b L pl pa 0 0 d V) (h1 : p + 6 ≤ b') (h2 : b' ≤ x_n u) : x_TB u Fz p b' L pl pa 0 0 d V := by
  obtain ⟨⟨⟨a1, a2, a3, a4, a5, a6⟩, ⟨k1, k2, k3, k4, k5, k6⟩, r1, r2, r3, r4, r5, r6, r7, r8⟩, ⟨t1, t2, t3⟩, ⟨h3, h3b⟩, h4⟩ := h
  exact ⟨⟨⟨a1, h1, by omega, a4, a5, a6⟩, ⟨k1, k2, k3, k4, fun m hm => by omega, fun k hk => by omega⟩, r1, r2, r3, r4, r5, r6, fun m hm => by omega, fun k hk => by omega⟩, ⟨t1, fun m hm => by omega, fun k hk => by omega⟩, ⟨h3, fun i hi => h3b i (by unfold x_own at hi ⊢; omega)⟩, h4⟩
set_option maxHeartbeats 4000000 in
theorem F_made {u : x_U} {d : Nat → Nat} {V : Nat → Int32} (hu : 157 ≤ x_n u) (hb : x_n u + 2000 ≤ 500000) (hV : V 5 = nI 0 ∧ V 0 = nI 0 ∧ V 1 = nI 0 ∧ V 2 = z_m ∧ V 3 = nI 0 ∧ V 4 = nI 0 ∧ V 88 = nI 0 ∧ V 6 = nI 0 ∧ V 90 = nI 0) : ∃ w, x_TB w (fun _ => False) (x_n u) (x_n u + 6) 0 (x_n u + 3) (x_n u + 4) 0 0 d V ∧ x_fr (fun _ => False) u w ∧ x_n w = x_n u + 6 ∧ x_m w = x_m u + 185 ∧ ∀ K : Nat → x_U → Option (Nat × x_U), (x_new u 12 fun o1 s2 => x_o s2 o1 12 <| x_call (F_X12_init q_F o1 s2) fun _ s3 => K o1 s3) = K (x_n u) w := by
  obtain ⟨u1, hu1⟩ : ∃ u1, u1 = x_un u (.inl 12) (q_nF 12) (fun _ => 0) := ⟨_, rfl⟩
  have n1 : x_n u1 = x_n u + 1 := by rw [hu1]; rfl
  have m1 : x_m u1 = x_m u + 18 := by rw [hu1]; rfl
  have k1 : x_k u1 (x_n u) = .inl 12 := by rw [hu1]; exact x_fU_s
  have t1 : ∀ j, x_t u1 (x_n u) j = nI 0 := fun j => by
    have : x_t u1 (x_n u) = fun _ => 0 := by rw [hu1]; exact x_fU_s
    rw [this]; rfl
  have r1 : ∀ j, x_r u1 (x_n u) j = 0 := fun j => by
    have : x_r u1 (x_n u) = fun _ => 0 := by rw [hu1]; exact x_fU_s
    rw [this]
  have f1 : x_fr (fun _ => False) u u1 := by rw [hu1]; exact x_fr.un (by omega)
  obtain ⟨w, f2, n2, m2, ⟨c1, c2, c3, c4, c5⟩, ⟨e1, e2, e3, e4, e5, e6⟩, e7, e8, e9⟩ := F_init (n := q_F) (t := x_n u) (u := u1) k1 (by omega) (by omega)
  rw [n1] at c1 c2 c3 c4 c5 e1 e2 e3 e4 e5
  have f3 : x_fr (fun _ => False) u w := ((f1.mono (own' := fun i => False ∨ i = x_n u) (fun i hi => Or.inl hi)).tr (f2.mono (fun i hi => Or.inr hi))).sub (fun i hi hq => by
    rcases hq with q | q
    · exact q
    · omega)
  obtain ⟨v1, v2, v3, v4, v5, v6, v7, v8, v9⟩ := hV
  have kp : x_k w (x_n u) = .inl 12 := by rw [f2.2.2.2.1 _ (by omega)]; exact k1
  have tt : ∀ j, j ≠ 3 → x_t w (x_n u) j = nI 0 := fun j hj => (e8 j hj).trans (t1 j)
  refine ⟨w, ⟨⟨⟨hu, Nat.le_refl _, by omega, by omega, by omega, by omega⟩, ⟨kp, c1, c2, c5, fun m hm => by omega, fun k hk => by omega⟩, e1, e2, e5, e6.trans (r1 17), e3, e4, fun m hm => by omega, fun k hk => by omega⟩, ⟨⟨?_, ?_, ?_, ?_, ?_, ?_, ?_, ?_, ?_, ?_, ?_⟩, fun m hm => by omega, fun k hk => by omega⟩, ⟨fun i hi => hi.elim, fun i _ hi => hi⟩, fun h => absurd rfl h, fun h => absurd rfl h, 0, by omega, v8, fun i hi => by omega⟩, f3, by omega, by omega, fun K => ?_⟩
  · rw [tt 0 (by omega), v1]
  · rw [tt 1 (by omega), v2]
  · rw [tt 2 (by omega), v3]
  · rw [e7, v4]
  · rw [tt 4 (by omega), v5]
  · rw [tt 5 (by omega), v6]
  · rw [tt 6 (by omega), v7]
  · exact tt 7 (by omega)
  · exact tt 8 (by omega)
  · rw [tt 9 (by omega), v8]
  · rw [tt 10 (by omega), v9]
  · rw [p_xnew, h_xnewE (by omega), ← hu1, p_xo, h_xoE k1, e9, z_xcall]
/-- the row of the law's numbers -/
def y_dd (v : Int32) (j : Nat) : Nat := if j = 0 then y_bt v 0 30 else if j = 1 then y_bt (v >>> (3 &&& 31)) 0 9 else if j = 2 then y_bt (v >>> (5 &&& 31)) 0 9 else if j = 3 then y_bt (v >>> (6 &&& 31)) 5 30 else if j = 4 then y_bt (v >>> (4 &&& 31)) 0 60 else if j = 5 then y_bt (v >>> (7 &&& 31)) 0 20 else if j = 6 then y_bt (v >>> (2 &&& 31)) 0 11 else if j = 7 then y_bt (v >>> (8 &&& 31)) 0 40 else 0
theorem y_dd_le {v : Int32} (j : Nat) : y_dd v j ≤ 60 := by
  have b0 := (y_bt_b (v := v) (lo := 0) (hi := 30) (by omega)).2
  have b1 := (y_bt_b (v := v >>> (3 &&& 31)) (lo := 0) (hi := 9) (by omega)).2
  have b2 := (y_bt_b (v := v >>> (5 &&& 31)) (lo := 0) (hi := 9) (by omega)).2
  have b3 := (y_bt_b (v := v >>> (6 &&& 31)) (lo := 5) (hi := 30) (by omega)).2
  have b4 := (y_bt_b (v := v >>> (4 &&& 31)) (lo := 0) (hi := 60) (by omega)).2
  have b5 := (y_bt_b (v := v >>> (7 &&& 31)) (lo := 0) (hi := 20) (by omega)).2
  have b6 := (y_bt_b (v := v >>> (2 &&& 31)) (lo := 0) (hi := 11) (by omega)).2
  have b7 := (y_bt_b (v := v >>> (8 &&& 31)) (lo := 0) (hi := 40) (by omega)).2
  unfold y_dd
  repeat' split
  all_goals omega
set_option maxHeartbeats 4000000 in
theorem T_dd {u : x_U} {v : Int32} (hb : x_n u + 1 ≤ 500000) : ∃ w, x_fr (fun _ => False) u w ∧ x_n w = x_n u + 1 ∧ x_m w = x_m u + 8 ∧ x_k w (x_n u) = .inr (8, 0) ∧ (∀ j, j < 8 → x_t w (x_n u) j = nI (y_dd v j)) ∧ ∀ K : Nat → x_U → Option (Nat × x_U), (x_nwa u 0 8 fun o10 s11 =>
  x_call (F_L_between q_F v 0 30 s11) fun r13 s12 =>
  x_st s12 o10 0 r13 fun s14 =>
  x_call (F_L_between q_F (v >>> (3 &&& 31)) 0 9 s14) fun r16 s15 =>
  x_st s15 o10 1 r16 fun s17 =>
  x_call (F_L_between q_F (v >>> (5 &&& 31)) 0 9 s17) fun r19 s18 =>
  x_st s18 o10 2 r19 fun s20 =>
  x_call (F_L_between q_F (v >>> (6 &&& 31)) 5 30 s20) fun r22 s21 =>
  x_st s21 o10 3 r22 fun s23 =>
  x_call (F_L_between q_F (v >>> (4 &&& 31)) 0 60 s23) fun r25 s24 =>
  x_st s24 o10 4 r25 fun s26 =>
  x_call (F_L_between q_F (v >>> (7 &&& 31)) 0 20 s26) fun r28 s27 =>
  x_st s27 o10 5 r28 fun s29 =>
  x_call (F_L_between q_F (v >>> (2 &&& 31)) 0 11 s29) fun r31 s30 =>
  x_st s30 o10 6 r31 fun s32 =>
  x_call (F_L_between q_F (v >>> (8 &&& 31)) 0 40 s32) fun r34 s33 =>
  x_st s33 o10 7 r34 fun s35 => K o10 s35) = K (x_n u) w := by
  obtain ⟨w, hw⟩ : ∃ w, w = x_ui (x_ui (x_ui (x_ui (x_ui (x_ui (x_ui (x_ui (x_un u (.inr (8, 0)) 8 (fun _ => 0)) (x_n u) 0 (nI (y_bt v 0 30))) (x_n u) 1 (nI (y_bt (v >>> (3 &&& 31)) 0 9))) (x_n u) 2 (nI (y_bt (v >>> (5 &&& 31)) 0 9))) (x_n u) 3 (nI (y_bt (v >>> (6 &&& 31)) 5 30))) (x_n u) 4 (nI (y_bt (v >>> (4 &&& 31)) 0 60))) (x_n u) 5 (nI (y_bt (v >>> (7 &&& 31)) 0 20))) (x_n u) 6 (nI (y_bt (v >>> (2 &&& 31)) 0 11))) (x_n u) 7 (nI (y_bt (v >>> (8 &&& 31)) 0 40)) := ⟨_, rfl⟩
  have nW : x_n w = x_n u + 1 := by rw [hw]; simp (disch := omega) only [xs_k_ui, xs_k_ur, xs_k_uc, xs_k_un, xs_k_ub, xs_r_ui, xs_r_ur, xs_r_uc, xs_r_un, xs_r_ub, xs_t_ui, xs_t_ur, xs_t_uc, xs_t_un, xs_t_ub, xs_n_ui, xs_n_ur, xs_n_uc, xs_n_un, xs_n_ub, xs_m_ui, xs_m_ur, xs_m_uc, xs_m_un, xs_m_ub, xs_c_ui, xs_c_ur, xs_c_uc, xs_c_un, xs_c_ub, x_up_s, x_up_k, x_up_o, x_fU_s, x_fU_o]
  have mW : x_m w = x_m u + 8 := by rw [hw]; simp (disch := omega) only [xs_k_ui, xs_k_ur, xs_k_uc, xs_k_un, xs_k_ub, xs_r_ui, xs_r_ur, xs_r_uc, xs_r_un, xs_r_ub, xs_t_ui, xs_t_ur, xs_t_uc, xs_t_un, xs_t_ub, xs_n_ui, xs_n_ur, xs_n_uc, xs_n_un, xs_n_ub, xs_m_ui, xs_m_ur, xs_m_uc, xs_m_un, xs_m_ub, xs_c_ui, xs_c_ur, xs_c_uc, xs_c_un, xs_c_ub, x_up_s, x_up_k, x_up_o, x_fU_s, x_fU_o]
  have kO : ∀ i, i ≠ x_n u → x_k w i = x_k u i := fun i hi => by rw [hw]; simp (disch := omega) only [xs_k_ui, xs_k_ur, xs_k_uc, xs_k_un, xs_k_ub, xs_r_ui, xs_r_ur, xs_r_uc, xs_r_un, xs_r_ub, xs_t_ui, xs_t_ur, xs_t_uc, xs_t_un, xs_t_ub, xs_n_ui, xs_n_ur, xs_n_uc, xs_n_un, xs_n_ub, xs_m_ui, xs_m_ur, xs_m_uc, xs_m_un, xs_m_ub, xs_c_ui, xs_c_ur, xs_c_uc, xs_c_un, xs_c_ub, x_up_s, x_up_k, x_up_o, x_fU_s, x_fU_o]
  have rO : ∀ i, i ≠ x_n u → x_r w i = x_r u i := fun i hi => by rw [hw]; simp (disch := omega) only [xs_k_ui, xs_k_ur, xs_k_uc, xs_k_un, xs_k_ub, xs_r_ui, xs_r_ur, xs_r_uc, xs_r_un, xs_r_ub, xs_t_ui, xs_t_ur, xs_t_uc, xs_t_un, xs_t_ub, xs_n_ui, xs_n_ur, xs_n_uc, xs_n_un, xs_n_ub, xs_m_ui, xs_m_ur, xs_m_uc, xs_m_un, xs_m_ub, xs_c_ui, xs_c_ur, xs_c_uc, xs_c_un, xs_c_ub, x_up_s, x_up_k, x_up_o, x_fU_s, x_fU_o]
  have tO : ∀ i, i ≠ x_n u → x_t w i = x_t u i := fun i hi => by rw [hw]; simp (disch := omega) only [xs_k_ui, xs_k_ur, xs_k_uc, xs_k_un, xs_k_ub, xs_r_ui, xs_r_ur, xs_r_uc, xs_r_un, xs_r_ub, xs_t_ui, xs_t_ur, xs_t_uc, xs_t_un, xs_t_ub, xs_n_ui, xs_n_ur, xs_n_uc, xs_n_un, xs_n_ub, xs_m_ui, xs_m_ur, xs_m_uc, xs_m_un, xs_m_ub, xs_c_ui, xs_c_ur, xs_c_uc, xs_c_un, xs_c_ub, x_up_s, x_up_k, x_up_o, x_fU_s, x_fU_o]
  refine ⟨w, ⟨by rw [hw]; simp (disch := omega) only [xs_k_ui, xs_k_ur, xs_k_uc, xs_k_un, xs_k_ub, xs_r_ui, xs_r_ur, xs_r_uc, xs_r_un, xs_r_ub, xs_t_ui, xs_t_ur, xs_t_uc, xs_t_un, xs_t_ub, xs_n_ui, xs_n_ur, xs_n_uc, xs_n_un, xs_n_ub, xs_m_ui, xs_m_ur, xs_m_uc, xs_m_un, xs_m_ub, xs_c_ui, xs_c_ur, xs_c_uc, xs_c_un, xs_c_ub, x_up_s, x_up_k, x_up_o, x_fU_s, x_fU_o], by omega, by omega, fun i hi => kO i (by omega), fun i hi _ => ⟨rO i (by omega), tO i (by omega)⟩⟩, nW, mW, by rw [hw]; simp (disch := omega) only [xs_k_ui, xs_k_ur, xs_k_uc, xs_k_un, xs_k_ub, xs_r_ui, xs_r_ur, xs_r_uc, xs_r_un, xs_r_ub, xs_t_ui, xs_t_ur, xs_t_uc, xs_t_un, xs_t_ub, xs_n_ui, xs_n_ur, xs_n_uc, xs_n_un, xs_n_ub, xs_m_ui, xs_m_ur, xs_m_uc, xs_m_un, xs_m_ub, xs_c_ui, xs_c_ur, xs_c_uc, xs_c_un, xs_c_ub, x_up_s, x_up_k, x_up_o, x_fU_s, x_fU_o], fun j hj => ?_, fun K => ?_⟩
  · have : j = 0 ∨ j = 1 ∨ j = 2 ∨ j = 3 ∨ j = 4 ∨ j = 5 ∨ j = 6 ∨ j = 7 := by omega
    rw [hw]
    rcases this with rfl | rfl | rfl | rfl | rfl | rfl | rfl | rfl
    · show _ = nI (y_bt v 0 30)
      simp (disch := omega) only [xs_k_ui, xs_k_ur, xs_k_uc, xs_k_un, xs_k_ub, xs_r_ui, xs_r_ur, xs_r_uc, xs_r_un, xs_r_ub, xs_t_ui, xs_t_ur, xs_t_uc, xs_t_un, xs_t_ub, xs_n_ui, xs_n_ur, xs_n_uc, xs_n_un, xs_n_ub, xs_m_ui, xs_m_ur, xs_m_uc, xs_m_un, xs_m_ub, xs_c_ui, xs_c_ur, xs_c_uc, xs_c_un, xs_c_ub, x_up_s, x_up_k, x_up_o, x_fU_s, x_fU_o]
    · show _ = nI (y_bt (v >>> (3 &&& 31)) 0 9)
      simp (disch := omega) only [xs_k_ui, xs_k_ur, xs_k_uc, xs_k_un, xs_k_ub, xs_r_ui, xs_r_ur, xs_r_uc, xs_r_un, xs_r_ub, xs_t_ui, xs_t_ur, xs_t_uc, xs_t_un, xs_t_ub, xs_n_ui, xs_n_ur, xs_n_uc, xs_n_un, xs_n_ub, xs_m_ui, xs_m_ur, xs_m_uc, xs_m_un, xs_m_ub, xs_c_ui, xs_c_ur, xs_c_uc, xs_c_un, xs_c_ub, x_up_s, x_up_k, x_up_o, x_fU_s, x_fU_o]
    · show _ = nI (y_bt (v >>> (5 &&& 31)) 0 9)
      simp (disch := omega) only [xs_k_ui, xs_k_ur, xs_k_uc, xs_k_un, xs_k_ub, xs_r_ui, xs_r_ur, xs_r_uc, xs_r_un, xs_r_ub, xs_t_ui, xs_t_ur, xs_t_uc, xs_t_un, xs_t_ub, xs_n_ui, xs_n_ur, xs_n_uc, xs_n_un, xs_n_ub, xs_m_ui, xs_m_ur, xs_m_uc, xs_m_un, xs_m_ub, xs_c_ui, xs_c_ur, xs_c_uc, xs_c_un, xs_c_ub, x_up_s, x_up_k, x_up_o, x_fU_s, x_fU_o]
    · show _ = nI (y_bt (v >>> (6 &&& 31)) 5 30)
      simp (disch := omega) only [xs_k_ui, xs_k_ur, xs_k_uc, xs_k_un, xs_k_ub, xs_r_ui, xs_r_ur, xs_r_uc, xs_r_un, xs_r_ub, xs_t_ui, xs_t_ur, xs_t_uc, xs_t_un, xs_t_ub, xs_n_ui, xs_n_ur, xs_n_uc, xs_n_un, xs_n_ub, xs_m_ui, xs_m_ur, xs_m_uc, xs_m_un, xs_m_ub, xs_c_ui, xs_c_ur, xs_c_uc, xs_c_un, xs_c_ub, x_up_s, x_up_k, x_up_o, x_fU_s, x_fU_o]
    · show _ = nI (y_bt (v >>> (4 &&& 31)) 0 60)
      simp (disch := omega) only [xs_k_ui, xs_k_ur, xs_k_uc, xs_k_un, xs_k_ub, xs_r_ui, xs_r_ur, xs_r_uc, xs_r_un, xs_r_ub, xs_t_ui, xs_t_ur, xs_t_uc, xs_t_un, xs_t_ub, xs_n_ui, xs_n_ur, xs_n_uc, xs_n_un, xs_n_ub, xs_m_ui, xs_m_ur, xs_m_uc, xs_m_un, xs_m_ub, xs_c_ui, xs_c_ur, xs_c_uc, xs_c_un, xs_c_ub, x_up_s, x_up_k, x_up_o, x_fU_s, x_fU_o]
    · show _ = nI (y_bt (v >>> (7 &&& 31)) 0 20)
      simp (disch := omega) only [xs_k_ui, xs_k_ur, xs_k_uc, xs_k_un, xs_k_ub, xs_r_ui, xs_r_ur, xs_r_uc, xs_r_un, xs_r_ub, xs_t_ui, xs_t_ur, xs_t_uc, xs_t_un, xs_t_ub, xs_n_ui, xs_n_ur, xs_n_uc, xs_n_un, xs_n_ub, xs_m_ui, xs_m_ur, xs_m_uc, xs_m_un, xs_m_ub, xs_c_ui, xs_c_ur, xs_c_uc, xs_c_un, xs_c_ub, x_up_s, x_up_k, x_up_o, x_fU_s, x_fU_o]
    · show _ = nI (y_bt (v >>> (2 &&& 31)) 0 11)
      simp (disch := omega) only [xs_k_ui, xs_k_ur, xs_k_uc, xs_k_un, xs_k_ub, xs_r_ui, xs_r_ur, xs_r_uc, xs_r_un, xs_r_ub, xs_t_ui, xs_t_ur, xs_t_uc, xs_t_un, xs_t_ub, xs_n_ui, xs_n_ur, xs_n_uc, xs_n_un, xs_n_ub, xs_m_ui, xs_m_ur, xs_m_uc, xs_m_un, xs_m_ub, xs_c_ui, xs_c_ur, xs_c_uc, xs_c_un, xs_c_ub, x_up_s, x_up_k, x_up_o, x_fU_s, x_fU_o]
    · show _ = nI (y_bt (v >>> (8 &&& 31)) 0 40)
      simp (disch := omega) only [xs_k_ui, xs_k_ur, xs_k_uc, xs_k_un, xs_k_ub, xs_r_ui, xs_r_ur, xs_r_uc, xs_r_un, xs_r_ub, xs_t_ui, xs_t_ur, xs_t_uc, xs_t_un, xs_t_ub, xs_n_ui, xs_n_ur, xs_n_uc, xs_n_un, xs_n_ub, xs_m_ui, xs_m_ur, xs_m_uc, xs_m_un, xs_m_ub, xs_c_ui, xs_c_ur, xs_c_uc, xs_c_un, xs_c_ub, x_up_s, x_up_k, x_up_o, x_fU_s, x_fU_o]
  · have e0 : ∀ s : x_U, F_L_between q_F v 0 30 s = some (nI (y_bt v 0 30), s) := fun s => F_btw (lo := 0) (hi := 30) (by omega) (by omega)
    have e1 : ∀ s : x_U, F_L_between q_F (v >>> (3 &&& 31)) 0 9 s = some (nI (y_bt (v >>> (3 &&& 31)) 0 9), s) := fun s => F_btw (lo := 0) (hi := 9) (by omega) (by omega)
    have e2 : ∀ s : x_U, F_L_between q_F (v >>> (5 &&& 31)) 0 9 s = some (nI (y_bt (v >>> (5 &&& 31)) 0 9), s) := fun s => F_btw (lo := 0) (hi := 9) (by omega) (by omega)
    have e3 : ∀ s : x_U, F_L_between q_F (v >>> (6 &&& 31)) 5 30 s = some (nI (y_bt (v >>> (6 &&& 31)) 5 30), s) := fun s => F_btw (lo := 5) (hi := 30) (by omega) (by omega)
    have e4 : ∀ s : x_U, F_L_between q_F (v >>> (4 &&& 31)) 0 60 s = some (nI (y_bt (v >>> (4 &&& 31)) 0 60), s) := fun s => F_btw (lo := 0) (hi := 60) (by omega) (by omega)
    have e5 : ∀ s : x_U, F_L_between q_F (v >>> (7 &&& 31)) 0 20 s = some (nI (y_bt (v >>> (7 &&& 31)) 0 20), s) := fun s => F_btw (lo := 0) (hi := 20) (by omega) (by omega)
    have e6 : ∀ s : x_U, F_L_between q_F (v >>> (2 &&& 31)) 0 11 s = some (nI (y_bt (v >>> (2 &&& 31)) 0 11), s) := fun s => F_btw (lo := 0) (hi := 11) (by omega) (by omega)
    have e7 : ∀ s : x_U, F_L_between q_F (v >>> (8 &&& 31)) 0 40 s = some (nI (y_bt (v >>> (8 &&& 31)) 0 40), s) := fun s => F_btw (lo := 0) (hi := 40) (by omega) (by omega)
    have hS : ∀ (s : x_U) (i : Nat) (y : Int32) (J : x_U → Option (Nat × x_U)), x_k s (x_n u) = .inr (8, 0) → i < 8 → x_st s (x_n u) (nI i) y J = J (x_ui s (x_n u) i y) := fun s i y J k hi => by
      rw [p_xst, h_xstE k hi (by omega)]
    have k0 : x_k (x_un u (.inr (8, 0)) 8 (fun _ => 0)) (x_n u) = .inr (8, 0) := x_fU_s
    show x_nwa u 0 (nI 8) (fun o10 s11 => _) = _
    rw [p_xnwa, h_xnwaE (by omega) (by omega), e0, z_xcall]
    refine (hS _ 0 _ _ (by exact k0) (by omega)).trans ?_
    rw [e1, z_xcall]
    refine (hS _ 1 _ _ (by exact k0) (by omega)).trans ?_
    rw [e2, z_xcall]
    refine (hS _ 2 _ _ (by exact k0) (by omega)).trans ?_
    rw [e3, z_xcall]
    refine (hS _ 3 _ _ (by exact k0) (by omega)).trans ?_
    rw [e4, z_xcall]
    refine (hS _ 4 _ _ (by exact k0) (by omega)).trans ?_
    rw [e5, z_xcall]
    refine (hS _ 5 _ _ (by exact k0) (by omega)).trans ?_
    rw [e6, z_xcall]
    refine (hS _ 6 _ _ (by exact k0) (by omega)).trans ?_
    rw [e7, z_xcall]
    refine (hS _ 7 _ _ (by exact k0) (by omega)).trans ?_
    rw [hw]
