/-! the mules made: the loop -/
def y_T30 (τ : q_Sto) (b mu k : Nat) : Prop := ∀ m, m < mu → ∀ c, k ≤ c → c < 5 → τ (b+m) (5+c) = nI 30
section MM
variable {p b L pl pa mu me Lx wn : Nat} {xs : Nat → Int32} {d : Nat → Nat} {Fz : Nat → Prop} {V : Nat → Int32} {hs : z_Hs} {u : x_U}
theorem T_nmZ {J : Int32 → x_U → Option (Nat × x_U)} {c : Int32} : x_nm J (fun j => if c = 0 then j 1 u else j 0 u) = J (nI (if c = 0 then 1 else 0)) u := by
  rw [x_nmE]
  by_cases h : c = 0
  · rw [if_pos h, if_pos h]
    rfl
  · rw [if_neg h, if_neg h]
    rfl
set_option maxHeartbeats 4000000 in
/-- one mule, in both -/
theorem T_mkB {v : Int32} {i : Nat} (hi : i < 12) (hbn : x_n u = b + i) (hT : x_TB u Fz p b L pl pa i 0 d V) (hz : z_CS i 0 (x_c u) V hs wn) (hW : y_WC Lx xs u) (hb : x_n u + 1 ≤ 500000) (h30 : y_T30 (x_t u) b i 0) :
    ∃ w V', x_n w = b + (i+1) ∧ x_m w = x_m u + 10 ∧ x_TB w Fz p b L pl pa (i+1) 0 d V' ∧ z_CS (i+1) 0 (x_c w) V' y_h0 wn ∧ y_WC Lx xs w ∧ (∀ a, a < 7 ∨ (87 ≤ a ∧ a < 95) ∨ 141 ≤ a → V' a = V a) ∧ y_T30 (x_t w) b (i+1) 0 ∧ ∀ K : x_U → Option (Nat × x_U), (x_gr u p 12 12 fun o42 =>
    x_nwa u 0 10 fun o43 s44 =>
    x_call (F_L_between q_F (v >>> (3 &&& 31)) 1 40 s44) fun r46 s45 =>
    x_st s45 o43 0 r46 fun s47 =>
    x_call (F_L_between q_F (v >>> (5 &&& 31)) 0 40 s47) fun r49 s48 =>
    x_st s48 o43 1 r49 fun s50 =>
    x_st s50 o43 2 0 fun s51 =>
    x_st s51 o43 3 (-1) fun s52 =>
    x_st s52 o43 4 0 fun s53 =>
    x_st s53 o43 5 30 fun s54 =>
    x_st s54 o43 6 30 fun s55 =>
    x_st s55 o43 7 30 fun s56 =>
    x_st s56 o43 8 30 fun s57 =>
    x_st s57 o43 9 30 fun s58 =>
    x_sr s58 o42 (nI i) o43 fun s59 =>
    x_gr s59 p 12 12 fun o60 =>
    x_lr s59 o60 (nI i) fun o61 =>
    x_ld s59 o61 0 fun v62 =>
    x_gr s59 p 12 12 fun o63 =>
    x_lr s59 o63 (nI i) fun o64 =>
    x_ld s59 o64 1 fun v65 =>
    x_calc s59 (f_X11_mule q_F 0 v62 v65 (x_c s59)) fun r67 s66 =>
    if r67 = nI i then (
    x_gi s66 p 12 7 fun v68 =>
    x_pi s66 p 12 7 (v68 + 1) fun s69 =>
    x_gr s69 p 12 12 fun o70 =>
    x_lr s69 o70 (nI i) fun o71 =>
    x_nm (fun (y72 : Int32) (s73 : x_U) =>
      x_st s73 o71 2 y72 fun s74 =>
      x_gr s74 p 12 12 fun o75 =>
      x_lr s74 o75 (nI i) fun o76 =>
      x_ld s74 o76 2 fun v77 =>
      x_calc s74 (f_X11_set q_F 0 2 (nI i) v77 (x_c s74)) fun r79 s78 =>
      if r79 = 0 then (
      some (0, s78))
      else (
      K s78)) fun j465 =>
    if ((v >>> (6 &&& 31)) &&& 7) = 0 then (
    j465 1 s69)
    else (
    j465 0 s69))
    else (
    some (0, s66))) = K w := by
  have hbd := hT.bd
  have hT0 := hT
  obtain ⟨⟨-, ⟨k1, k2, k3, k4, -, -⟩, s1, -⟩, hI, -⟩ := hT
  obtain ⟨w1, f1, n1, m1, c1, r1, rj, tq, tp, eA⟩ := T_mkA (v := v) (i := i) k1 s1 k2 hi (by omega) hb
  have hX := y_bt_b (v := v >>> (3 &&& 31)) (lo := 1) (hi := 40) (by omega)
  have hY := y_bt_b (v := v >>> (5 &&& 31)) (lo := 0) (hi := 40) (by omega)
  have hZ : y_mZ v ≤ 1 := by
    unfold y_mZ
    split <;> omega
  have hc1 : x_c w1 = x_c u := f1.1
  obtain ⟨σ1, eM, hz1⟩ := Q_mule (x := y_mX v) (y := y_mY v) hz hi hX.1 hX.2 hY.2
  obtain ⟨s, hs2, h7⟩ := hz.1.1.1.2.2.2.2.1
  have hp2 : 2 ^ (i+1) = 2 ^ i + 2 ^ i := by rw [Nat.pow_succ]; omega
  have hV : ∀ a, a ≠ 8+i → a ≠ 95+i → a ≠ 107+i → a ≠ 129+i → a ≠ 86 → (a < 20+5*i ∨ 25+5*i ≤ a) → y_mV V i (nI (y_mX v)) (nI (y_mY v)) a = V a := fun a n1 n2 n3 n4 n5 n6 => by
    unfold y_mV
    rw [if_neg n1, if_neg n2, if_neg n3, if_neg n4, if_neg n5, if_neg (by omega)]
  have v8 : y_mV V i (nI (y_mX v)) (nI (y_mY v)) (8+i) = z_m := if_pos rfl
  have v95 : y_mV V i (nI (y_mX v)) (nI (y_mY v)) (95+i) = nI (y_mX v) := by
    unfold y_mV
    rw [if_neg (by omega), if_pos rfl]
  have v107 : y_mV V i (nI (y_mX v)) (nI (y_mY v)) (107+i) = nI (y_mY v) := by
    unfold y_mV
    rw [if_neg (by omega), if_neg (by omega), if_pos rfl]
  have v129 : y_mV V i (nI (y_mX v)) (nI (y_mY v)) (129+i) = nI 0 := by
    unfold y_mV
    rw [if_neg (by omega), if_neg (by omega), if_neg (by omega), if_pos rfl]
  generalize y_mV V i (nI (y_mX v)) (nI (y_mY v)) = V1 at *
  obtain ⟨σ2, y, y1, y2, eS, hz2⟩ := Q_set2 (m := i) (v := y_mZ v) (s := s) hz1 (by omega) hZ (by rw [hV 7 (by omega) (by omega) (by omega) (by omega) (by omega) (by omega)]; exact h7) (by omega)
  obtain ⟨w4, hw4⟩ : ∃ w4, w4 = x_uc (x_ui (x_ui (x_uc w1 σ1) p 7 (nI (i+1))) (x_n u) 2 (nI (y_mZ v))) σ2 := ⟨_, rfl⟩
  have c4 : x_c w4 = σ2 := by rw [hw4]; rfl
  have n4 : x_n w4 = x_n u + 1 := by rw [hw4]; exact n1
  have m4 : x_m w4 = x_m u + 10 := by rw [hw4]; exact m1
  have k4' : x_k w4 = x_k w1 := by rw [hw4]; rfl
  have r4' : x_r w4 = x_r w1 := by rw [hw4]; rfl
  have t4' : x_t w4 = x_up (x_up (x_t w1) p 7 (nI (i+1))) (x_n u) 2 (nI (y_mZ v)) := by rw [hw4]; rfl
  have f4 : x_fr (fun o => o = p ∨ o = p+1) (x_uc u σ2) w4 := by
    refine ⟨c4, by show x_n u ≤ _; omega, by show x_m u ≤ _; omega, fun o ho => ?_, fun o ho hq => ⟨?_, ?_⟩⟩
    · rw [k4']; exact f1.2.2.2.1 o ho
    · rw [r4']; exact (f1.2.2.2.2 o ho (fun q => hq (Or.inr q))).1
    · have ho : o < x_n u ∨ 500000 < o := ho
      rw [t4', x_up_o (by omega), x_up_o (fun q => hq (Or.inl q))]
      exact (f1.2.2.2.2 o ho (fun q => hq (Or.inr q))).2
  have hy31 : y < 2147483648 := by
    have : (2:Nat) ^ (i+1) ≤ 2 ^ 12 := Nat.pow_le_pow_right (by omega) (by omega)
    omega
  have hs31 : s < 2147483648 := by
    have : (2:Nat) ^ i ≤ 2 ^ 12 := Nat.pow_le_pow_right (by omega) (by omega)
    omega
  have hVz : ∀ a, a ≠ 7 → z_u V1 7 (nI y) a = V1 a := fun a ha => z_uK ha
  have hV7 : z_u V1 7 (nI y) 7 = nI y := z_uS
  have tO : ∀ o, o ≠ p → o ≠ x_n u → x_t w4 o = x_t w1 o := fun o h1 h2 => by rw [t4', x_up_o h2, x_up_o h1]
  have fT : ∀ o, o < x_n u → o ≠ p+1 → x_t w1 o = x_t u o := fun o h1 h2 => (f1.2.2.2.2 o (Or.inl h1) h2).2
  have q7 : nI i + 1 = nI (i+1) := by rw [show (1 : Int32) = nI 1 from rfl, nI_add]
  refine ⟨w4, z_u V1 7 (nI y), by omega, m4, ?_, by rw [c4]; exact hz2, ?_, fun a ha => by rw [hVz a (by omega), hV a (by omega) (by omega) (by omega) (by omega) (by omega) (by omega)], fun m hm c c1 c2 => ?_, fun K => ?_⟩
  · have hTu : x_TB (x_uc u σ2) Fz p b L pl pa i 0 d V := hT0
    refine hTu.mk hi hbn (by show x_n u + 1 ≤ _; omega) f4 (by show x_n w4 = x_n u + 1; omega) (by rw [k4']; exact c1) (by rw [r4']; exact (f1.2.2.2.2 p (Or.inl (by omega)) (by omega)).1) (by rw [r4']; exact r1) (fun j hj => by rw [r4']; exact rj j hj) ?_ (by rw [hVz 6 (by omega), hV 6 (by omega) (by omega) (by omega) (by omega) (by omega) (by omega)]) (fun a a1 a2 => by rw [hVz a (by omega), hV a (by omega) (by omega) (by omega) (by omega) (by omega) (by omega)])
    have e6 : ∀ a, a < 7 ∨ (87 ≤ a ∧ a < 95) → z_u V1 7 (nI y) a = V a := fun a ha => by rw [hVz a (by omega), hV a (by omega) (by omega) (by omega) (by omega) (by omega) (by omega)]
    refine hI.mk (by omega) hi (fun m hm => ?_) (fun j hj => ?_) ?_ ⟨e6 5 (by omega), e6 0 (by omega), e6 1 (by omega), e6 2 (by omega), e6 3 (by omega), e6 4 (by omega), e6 88 (by omega), e6 6 (by omega), e6 90 (by omega)⟩ (fun m hm => ⟨?_, ?_, ?_, ?_, ?_⟩) ⟨?_, ?_, ?_, ?_, ?_⟩
    · rw [tO _ (by omega) (by omega), fT _ (by omega) (by omega)]
    · rw [t4', x_up_o (by omega), x_up_k hj, fT p (by omega) (by omega)]
    · rw [t4', x_up_o (by omega), x_up_s]
    · rw [hVz _ (by omega), hV _ (by omega) (by omega) (by omega) (by omega) (by omega) (by omega)]
    · rw [hVz _ (by omega), hV _ (by omega) (by omega) (by omega) (by omega) (by omega) (by omega)]
    · have yq : y.testBit m = s.testBit m := (y2 m).trans (if_neg (by omega))
      rw [hV7, h7, z_bitE hy31 (by omega), z_bitE hs31 (by omega), yq]
    · rw [hVz _ (by omega), hV _ (by omega) (by omega) (by omega) (by omega) (by omega) (by omega)]
    · rw [hVz _ (by omega), hV _ (by omega) (by omega) (by omega) (by omega) (by omega) (by omega)]
    · rw [t4', ← hbn, x_up_k (by omega), x_up_o (by omega), hVz _ (by omega), v95]
      exact tq 0 (by omega)
    · rw [t4', ← hbn, x_up_k (by omega), x_up_o (by omega), hVz _ (by omega), v107]
      exact tq 1 (by omega)
    · have yq : y.testBit i = decide (y_mZ v = 1) := (y2 i).trans (if_pos rfl)
      rw [t4', ← hbn, x_up_s, hV7, z_bitE hy31 (by omega), yq]
      have : y_mZ v = 0 ∨ y_mZ v = 1 := by omega
      rcases this with q | q <;> rw [q] <;> rfl
    · rw [t4', ← hbn, x_up_k (by omega), x_up_o (by omega), hVz _ (by omega), v8]
      exact tq 3 (by omega)
    · rw [t4', ← hbn, x_up_k (by omega), x_up_o (by omega), hVz _ (by omega), v129]
      exact tq 4 (by omega)
  · have h : y_WC Lx xs (x_uc u σ2) := hW
    exact h.fr f4 (fun o ho => by rcases ho with q | q <;> omega)
  · by_cases q : m = i
    · subst q
      rw [t4', ← hbn, x_up_k (by omega), x_up_o (by omega), tq (5+c) (by omega), if_neg (by omega), if_neg (by omega), if_neg (by omega), if_neg (by omega), if_neg (by omega)]
    · rw [tO _ (by omega) (by omega), fT _ (by omega) (by omega)]
      exact h30 m (by omega) c c1 c2
  · have kp1 : x_k w1 p = .inl 12 := by rw [f1.2.2.2.1 p (Or.inl (by omega))]; exact k1
    have kq1 : x_k w1 (p+1) = .inr (12, 3) := by rw [f1.2.2.2.1 (p+1) (Or.inl (by omega))]; exact k2
    have rp1 : x_r w1 p 12 = p+1 := by rw [(f1.2.2.2.2 p (Or.inl (by omega)) (by omega)).1]; exact s1
    have t0 : x_t w1 (x_n u) 0 = nI (y_mX v) := tq 0 (by omega)
    have t1 : x_t w1 (x_n u) 1 = nI (y_mY v) := tq 1 (by omega)
    have t7 : x_t w1 p 7 = nI i := by rw [fT p (by omega) (by omega)]; exact hI.1.2.2.2.2.2.2.2.1
    rw [← hc1] at eM
    refine (eA _).trans ?_
    show (x_gr w1 p 12 12 fun o60 => _) = _
    rw [p_xgr, h_xgrE kp1, rp1, p_xlr, h_xlrE kq1 (by omega) hi (by omega), r1]
    show (x_ld w1 (x_n u) (nI 0) fun v62 => _) = _
    rw [p_xld, h_xldE c1 (by omega) (by omega), t0, p_xgr, h_xgrE kp1, rp1, p_xlr, h_xlrE kq1 (by omega) hi (by omega), r1]
    show (x_ld w1 (x_n u) (nI 1) fun v62 => _) = _
    rw [p_xld, h_xldE c1 (by omega) (by omega), t1, eM, z_xcalc, if_pos rfl]
    have ku1 : x_k (x_uc w1 σ1) p = .inl 12 := kp1
    have tu7 : x_t (x_uc w1 σ1) p 7 = nI i := t7
    rw [p_xgi, h_xgiE ku1, tu7, q7, p_xpi, h_xpiE ku1 (by omega)]
    have ku2 : x_k (x_ui (x_uc w1 σ1) p 7 (nI (i+1))) p = .inl 12 := kp1
    have kq2 : x_k (x_ui (x_uc w1 σ1) p 7 (nI (i+1))) (p+1) = .inr (12, 3) := kq1
    have ru2 : x_r (x_ui (x_uc w1 σ1) p 7 (nI (i+1))) p 12 = p+1 := rp1
    have rq2 : x_r (x_ui (x_uc w1 σ1) p 7 (nI (i+1))) (p+1) i = x_n u := r1
    rw [p_xgr, h_xgrE ku2, ru2, p_xlr, h_xlrE kq2 (by omega) hi (by omega), rq2]
    refine (T_nmZ (c := (v >>> (6 &&& 31)) &&& 7)).trans ?_
    show (x_st (x_ui (x_uc w1 σ1) p 7 (nI (i+1))) (x_n u) (nI 2) (nI (y_mZ v)) fun s74 => _) = _
    have kn2 : x_k (x_ui (x_uc w1 σ1) p 7 (nI (i+1))) (x_n u) = .inr (10, 0) := c1
    rw [p_xst, h_xstE kn2 (by omega) (by omega)]
    have ku3 : x_k (x_ui (x_ui (x_uc w1 σ1) p 7 (nI (i+1))) (x_n u) 2 (nI (y_mZ v))) p = .inl 12 := kp1
    have kq3 : x_k (x_ui (x_ui (x_uc w1 σ1) p 7 (nI (i+1))) (x_n u) 2 (nI (y_mZ v))) (p+1) = .inr (12, 3) := kq1
    have kn3 : x_k (x_ui (x_ui (x_uc w1 σ1) p 7 (nI (i+1))) (x_n u) 2 (nI (y_mZ v))) (x_n u) = .inr (10, 0) := c1
    have ru3 : x_r (x_ui (x_ui (x_uc w1 σ1) p 7 (nI (i+1))) (x_n u) 2 (nI (y_mZ v))) p 12 = p+1 := rp1
    have rq3 : x_r (x_ui (x_ui (x_uc w1 σ1) p 7 (nI (i+1))) (x_n u) 2 (nI (y_mZ v))) (p+1) i = x_n u := r1
    have tn3 : x_t (x_ui (x_ui (x_uc w1 σ1) p 7 (nI (i+1))) (x_n u) 2 (nI (y_mZ v))) (x_n u) 2 = nI (y_mZ v) := x_up_s
    have eS3 : f_X11_set q_F 0 (nI 2) (nI i) (nI (y_mZ v)) (x_c (x_ui (x_ui (x_uc w1 σ1) p 7 (nI (i+1))) (x_n u) 2 (nI (y_mZ v)))) = some (nI 1, σ2) := eS
    rw [p_xgr, h_xgrE ku3, ru3, p_xlr, h_xlrE kq3 (by omega) hi (by omega), rq3]
    show (x_ld (x_ui (x_ui (x_uc w1 σ1) p 7 (nI (i+1))) (x_n u) 2 (nI (y_mZ v))) (x_n u) (nI 2) fun v77 => x_calc _ (f_X11_set q_F 0 (nI 2) (nI i) v77 _) _) = _
    rw [p_xld, h_xldE kn3 (by omega) (by omega), tn3, eS3, z_xcalc, if_neg (by decide), hw4]
set_option maxHeartbeats 4000000 in
theorem T_296 {N : Nat} {x4 : Int32} (hL : Lx ≤ 260) (hN : N ≤ 12) : ∀ j i w V hs, i ≤ N → N < j + i → x_n w = b + i → x_n w + (N - i) + 1 ≤ 500000 → x_TB w Fz p b L pl pa i 0 d V → z_CS i 0 (x_c w) V hs wn → y_WC Lx xs w → y_T30 (x_t w) b i 0 →
    ∃ w' V' hs', x_n w' = b + N ∧ x_m w' = x_m w + 10 * (N - i) ∧ x_TB w' Fz p b L pl pa N 0 d V' ∧ z_CS N 0 (x_c w') V' hs' wn ∧ y_WC Lx xs w' ∧ (∀ a, a < 7 ∨ (87 ≤ a ∧ a < 95) ∨ 141 ≤ a → V' a = V a) ∧ y_T30 (x_t w') b N 0 ∧ ∀ K : x_U → Option (Nat × x_U), F_L_train_L296 q_F (x_CT + 2) 0 p x4 (nI N) K j (nI i) w = K w' := by
  intro j
  induction j with
  | zero => intro i w V hs h1 h2; omega
  | succ j ih =>
    intro i w V hs h1 h2 hbn hb hT hz hW h30
    by_cases hk : i = N
    · subst hk
      refine ⟨w, V, hs, hbn, by omega, hT, hz, hW, fun _ _ => rfl, h30, fun K => ?_⟩
      rw [F_L_train_L296]
      simp (disch := first | omega | ((try simp (disch := omega) only [xs_k_ui, xs_k_ur, xs_k_uc, xs_k_un, xs_k_ub, xs_r_ui, xs_r_ur, xs_r_uc, xs_r_un, xs_r_ub, xs_t_ui, xs_t_ur, xs_t_uc, xs_t_un, xs_t_ub, xs_n_ui, xs_n_ur, xs_n_uc, xs_n_un, xs_n_ub, xs_m_ui, xs_m_ur, xs_m_uc, xs_m_un, xs_m_ub, xs_c_ui, xs_c_ur, xs_c_uc, xs_c_un, xs_c_ub, x_up_s, x_up_k, x_up_o, x_fU_s, x_fU_o]) <;> first | rfl | omega | (refine (?_ : (_ : Bool) = true); with_unfolding_all rfl)) | fail) only [↓p_xgi, ↓p_xgr, ↓p_xpi, ↓p_xpr, ↓p_xo, ↓p_xld, ↓p_xlb, ↓p_xlr, ↓p_xst, ↓p_xsb, ↓p_xsr, ↓p_xlen, ↓p_xnew, ↓p_xnwa, ↓p_xcln, ↓p_xcst, ↓p_xcall, ↓p_xcalc, ↓p_xnm, ↓p_xdv, ↓p_xrem, h_xgiE, h_xgrE, h_xpiE, h_xprE, h_xoE, h_xldE, h_xlbE, h_xlrE, h_xstE, h_xsbE, h_xsrE, h_xlenE, h_xnewE, h_xnwaE, h_xclnE, h_xcstE, h_xcallE, h_xcalcE, h_xnmE, h_xdvE, h_xremE, xs_k_ui, xs_k_ur, xs_k_uc, xs_k_un, xs_k_ub, xs_r_ui, xs_r_ur, xs_r_uc, xs_r_un, xs_r_ub, xs_t_ui, xs_t_ur, xs_t_uc, xs_t_un, xs_t_ub, xs_n_ui, xs_n_ur, xs_n_uc, xs_n_un, xs_n_ub, xs_m_ui, xs_m_ur, xs_m_uc, xs_m_un, xs_m_ub, xs_c_ui, xs_c_ur, xs_c_uc, xs_c_un, xs_c_ub, x_up_s, x_up_k, x_up_o, x_fU_s, x_fU_o, ↓reduceIte, h_ldE, h_stE, h_nmE, h_nSE, h_callE, h_callvE, h_dvE, h_remE, if_true, if_false, z_upS, z_upO, z_upK, nI_add, z_mul, z_sub, z_div, Nat.add_zero, Nat.mul_zero, Nat.zero_add, Nat.sub_zero, Nat.zero_mul, z_ltT, z_ltF, z_leT, z_leF, z_eqT, z_eqF, z_inT, z_clT, not_true_eq_false, not_false_eq_true, eq_self, true_or, or_true, z_m_lt, z_m_le, z_lt_m, z_le_m, z_eq_m, z_m_eq, z_rz0, z_rz1, z_m_add, z_of, ↓z_m1, l_0, l_1, l_2, l_3, l_4, l_5, l_6, l_7, l_8, l_9, l_10, l_11, l_12, l_13, l_14, l_15, l_16, l_17, l_18, l_19, l_20, l_21, l_22, l_23, l_24, l_25, l_26, l_27, l_28, l_29, l_30, l_31, l_32, l_33, l_34, l_35, l_36, l_37, l_38, l_39, l_40, l_41, l_42, l_43, l_44, l_45, l_46, l_47, l_48, l_49, l_50, l_51, l_52, l_53, l_54, l_55, l_56, l_57, l_59, l_60, l_61, l_62, l_63, l_64, l_65, l_80, l_86, l_87, l_88, l_89, l_90, l_91, l_92, l_93, l_94, l_95, l_97, l_99, l_100, l_107, l_119, l_122, l_124, l_129, l_140, l_141, l_142, l_143, l_144, l_145, l_147, l_150, l_159, l_160, l_161, l_162, l_205, l_253, l_255, l_256, l_269, l_305, l_380, l_399, l_400, l_420, l_430, l_516, l_600, l_720, l_820, l_905, l_921, l_937, l_953, l_970, l_999, l_1000, l_1790, l_4096, l_9999, l_1000000]
    · have hlt : i < N := by omega
      obtain ⟨w1, V1, n1, m1, hT1, hz1, hW1, v1, h31, e1⟩ := T_mkB (v := y_mv (y_ce Lx xs 2) i) (i := i) (by omega) hbn hT hz hW (by omega) h30
      obtain ⟨w', V', hs', g1, g2, g3, g4, g5, g6, g8, g7⟩ := ih (i+1) w1 V1 y_h0 (by omega) (by omega) n1 (by omega) hT1 hz1 hW1 h31
      refine ⟨w', V', hs', g1, by omega, g3, g4, g5, fun a ha => by rw [g6 a ha, v1 a ha], g8, fun K => ?_⟩
      have eC : F_L_cell q_F (x_CT + 2) (0 + 2) w = some (y_ce Lx xs 2, w) := F_cell (i := 2) rfl (by omega) hL hW
      rw [← g7 K, F_L_train_L296, if_pos ((nI_ltI (by omega) (by omega)).mpr hlt), eC, z_xcall, x_nmE]
      refine (e1 (fun s78 => F_L_train_L296 q_F (x_CT + 2) 0 p x4 (nI N) K j (nI i + 1) s78)).trans ?_
      rw [show (1 : Int32) = nI 1 from rfl, nI_add]
end MM
