set_option maxRecDepth 100000 in
set_option maxHeartbeats 4000000 in
def f_X12_greatestRisk_L4 (n : Nat) (x0 : Nat) (x1 : Int32) : Nat → Int32 → Int32 → q_Sto → Option (Int32 × q_Sto)
  | 0, _, _, _ => none
  | j + 1, x2, x3, s0 =>
    q_ld s0 (q_RF x0 0) 86 1790 fun v1 =>
    if x3 < v1 then (
    q_call (f_X12_isLame n x0 x3 s0) fun r4 s3 =>
    if r4 = 0 then (
    q_ld s3 (q_RF x0 0) 2 1790 fun v6 =>
    q_call (f_X12_riskOf n x0 x3 x1 v6 s3) fun r8 s7 =>
    q_call (f_X12_greater n x2 r8 s7) fun r10 s9 =>
    f_X12_greatestRisk_L4 n x0 x1  j r10 (x3 + 1) s9)
    else (
    f_X12_greatestRisk_L4 n x0 x1  j x2 (x3 + 1) s3))
    else (
    some (x2, s0))
set_option maxRecDepth 100000 in
set_option maxHeartbeats 4000000 in
def f_X12_greatestRisk (n : Nat) (t : Nat) (a0 : Int32) (s0 : q_Sto) : Option (Int32 × q_Sto) :=
  f_X12_greatestRisk_L4 n t a0  n 0 0 s0
set_option maxRecDepth 100000 in
set_option maxHeartbeats 4000000 in
theorem t_X12_greatestRisk_L4 {w : q_Wd} {cx : q_Cx} (hc : q_ok w cx RX12 cX12_greatestRisk 4 (some .int) (q_rm 5 117)) {n : Nat} {x0 : Nat} {x1 : Int32} (hx0 : q_KD x0 = .inl 12)   :
    ∀ (j : Nat) (x2 : Int32) (x3 : Int32) (s0 : q_Sto), q_G w cx 4 (some .int) 4 [some (q_rf w x0), some (.int x1), some (.int x2), some (.int x3)] [] s0 (f_X12_greatestRisk_L4 n x0 x1  j x2 x3 s0) := by
  intro j
  induction j with
  | zero =>
    intro _ _ _
    rw [f_X12_greatestRisk_L4]
    exact q_none
  | succ j ih =>
    intro x2 x3 s0
    rw [f_X12_greatestRisk_L4]
    refine g_il3 hc dX12_greatestRisk_4 rfl (pc2 := 5) rfl ?_
    refine g_rl0 hc dX12_greatestRisk_5 rfl (pc2 := 6) rfl ?_
    refine g_getR hc fl_X12_7 rfl hx0 dX12_greatestRisk_6 (pc2 := 9) rfl ?_
    refine g_bipush hc dX12_greatestRisk_9 bp_86 (pc2 := 11) rfl ?_
    refine g_iald hc (kf_12_0 hx0) (kl_12_0 hx0) dX12_greatestRisk_11 (pc2 := 12) rfl (fun v1 => ?_)
    refine g_icmp_ge hc dX12_greatestRisk_12 (pc1 := 15) (pc2 := 50) rfl rfl (fun _ => ?_) (fun _ => ?_)
    · refine g_rl0 hc dX12_greatestRisk_15 rfl (pc2 := 16) rfl ?_
      refine g_il3 hc dX12_greatestRisk_16 rfl (pc2 := 17) rfl ?_
      refine g_callV1 hc (C_X12_isLame hx0) mv_X12_isLame ln_X12_336 hx0 ⟨by decide, by decide⟩ (Nat.le_of_ble_eq_true rfl) dX12_greatestRisk_17 (pc2 := 20) rfl (fun r4 s3 => ?_)
      refine g_if_eq hc dX12_greatestRisk_20 (pc1 := 27) (pc2 := 23) rfl rfl (fun _ => ?_) (fun _ => ?_)
      · refine g_il2 hc dX12_greatestRisk_27 rfl (pc2 := 28) rfl ?_
        refine g_rl0 hc dX12_greatestRisk_28 rfl (pc2 := 29) rfl ?_
        refine g_il3 hc dX12_greatestRisk_29 rfl (pc2 := 30) rfl ?_
        refine g_il1 hc dX12_greatestRisk_30 rfl (pc2 := 31) rfl ?_
        refine g_rl0 hc dX12_greatestRisk_31 rfl (pc2 := 32) rfl ?_
        refine g_getR hc fl_X12_7 rfl hx0 dX12_greatestRisk_32 (pc2 := 35) rfl ?_
        refine g_iconst hc dX12_greatestRisk_35 ic_2 (pc2 := 36) rfl ?_
        refine g_iald hc (kf_12_0 hx0) (kl_12_0 hx0) dX12_greatestRisk_36 (pc2 := 37) rfl (fun v6 => ?_)
        refine g_callV3 hc (C_X12_riskOf hx0) mv_X12_riskOf ln_X12_377 hx0 ⟨by decide, by decide⟩ (Nat.le_of_ble_eq_true rfl) dX12_greatestRisk_37 (pc2 := 40) rfl (fun r8 s7 => ?_)
        refine g_callS2 hc C_X12_greater mv_X12_greater ln_X12_307 ⟨by decide, by decide⟩ (Nat.le_of_ble_eq_true rfl) dX12_greatestRisk_40 (pc2 := 43) rfl (fun r10 s9 => ?_)
        refine g_is2 hc dX12_greatestRisk_43 (by decide) (L2 := [some (q_rf w x0), some (.int x1), some (.int r10), some (.int x3)]) rfl (pc2 := 44) rfl ?_
        refine g_iinc hc dX12_greatestRisk_44 rfl (q_ii ic_1) (by decide) (L2 := [some (q_rf w x0), some (.int x1), some (.int r10), some (.int (x3 + 1))]) rfl (pc2 := 47) rfl ?_
        refine g_goto hc dX12_greatestRisk_47 (pc2 := 4) rfl ?_
        exact ih _ _ _
      · refine g_il2 hc dX12_greatestRisk_23 rfl (pc2 := 24) rfl ?_
        refine g_goto hc dX12_greatestRisk_24 (pc2 := 43) rfl ?_
        refine g_is2 hc dX12_greatestRisk_43 (by decide) (L2 := [some (q_rf w x0), some (.int x1), some (.int x2), some (.int x3)]) rfl (pc2 := 44) rfl ?_
        refine g_iinc hc dX12_greatestRisk_44 rfl (q_ii ic_1) (by decide) (L2 := [some (q_rf w x0), some (.int x1), some (.int x2), some (.int (x3 + 1))]) rfl (pc2 := 47) rfl ?_
        refine g_goto hc dX12_greatestRisk_47 (pc2 := 4) rfl ?_
        exact ih _ _ _
    · refine g_il2 hc dX12_greatestRisk_50 rfl (pc2 := 51) rfl ?_
      exact g_iret hc dX12_greatestRisk_51
set_option maxRecDepth 100000 in
set_option maxHeartbeats 4000000 in
theorem C_X12_greatestRisk {l : Launch} {w : q_Wd} {n : Nat} {t : Nat} {a0 : Int32} (ht : q_KD t = .inl 12) {s0 : q_Sto} : q_C l w yX12_greatestRisk cX12_greatestRisk 4 (some .int) (q_rm 5 117) [q_rf w t, .int a0] s0 (f_X12_greatestRisk n t a0 s0) := q_CofG [some (q_rf w t), some (.int a0), none, none] (by decide +kernel) rfl rfl (Nat.le_of_ble_eq_true rfl) fun cx hl hc => by
  have hc : q_ok w cx RX12 cX12_greatestRisk 4 (some .int) (q_rm 5 117) := hc
  rw [f_X12_greatestRisk]
  refine g_iconst hc dX12_greatestRisk_0 ic_0 (pc2 := 1) rfl ?_
  refine g_is2 hc dX12_greatestRisk_1 (by decide) (L2 := [some (q_rf w t), some (.int a0), some (.int 0), none]) rfl (pc2 := 2) rfl ?_
  refine g_iconst hc dX12_greatestRisk_2 ic_0 (pc2 := 3) rfl ?_
  refine g_is3 hc dX12_greatestRisk_3 (by decide) (L2 := [some (q_rf w t), some (.int a0), some (.int 0), some (.int 0)]) rfl (pc2 := 4) rfl ?_
  refine t_X12_greatestRisk_L4 hc ht  n _ _ _
set_option maxRecDepth 100000 in
set_option maxHeartbeats 4000000 in
def f_X12_priceOf (n : Nat) (t : Nat) (a0 : Int32) (a1 : Int32) (a2 : Int32) (s0 : q_Sto) : Option (Int32 × q_Sto) :=
  q_call (f_X12_pathOf n t a0 a1 s0) fun r2 s1 =>
  if r2 = (-1) then (
  some (r2, s1))
  else (
  if a2 = 0 then (
  some (r2, s1))
  else (
  q_call (f_X12_greatestRisk n t r2 s1) fun r6 s5 =>
  some (r6, s5)))
set_option maxRecDepth 100000 in
set_option maxHeartbeats 4000000 in
theorem C_X12_priceOf {l : Launch} {w : q_Wd} {n : Nat} {t : Nat} {a0 : Int32} {a1 : Int32} {a2 : Int32} (ht : q_KD t = .inl 12) {s0 : q_Sto} : q_C l w yX12_priceOf cX12_priceOf 5 (some .int) (q_rm 6 140) [q_rf w t, .int a0, .int a1, .int a2] s0 (f_X12_priceOf n t a0 a1 a2 s0) := q_CofG [some (q_rf w t), some (.int a0), some (.int a1), some (.int a2), none] (by decide +kernel) rfl rfl (Nat.le_of_ble_eq_true rfl) fun cx hl hc => by
  have hc : q_ok w cx RX12 cX12_priceOf 5 (some .int) (q_rm 6 140) := hc
  rw [f_X12_priceOf]
  refine g_rl0 hc dX12_priceOf_0 rfl (pc2 := 1) rfl ?_
  refine g_il1 hc dX12_priceOf_1 rfl (pc2 := 2) rfl ?_
  refine g_il2 hc dX12_priceOf_2 rfl (pc2 := 3) rfl ?_
  refine g_callV2 hc (C_X12_pathOf ht) mv_X12_pathOf ln_X12_374 ht ⟨by decide, by decide⟩ (Nat.le_of_ble_eq_true rfl) dX12_priceOf_3 (pc2 := 6) rfl (fun r2 s1 => ?_)
  refine g_istore hc dX12_priceOf_6 (by decide) (L2 := [some (q_rf w t), some (.int a0), some (.int a1), some (.int a2), some (.int r2)]) rfl (pc2 := 8) rfl ?_
  refine g_iload hc dX12_priceOf_8 rfl (pc2 := 10) rfl ?_
  refine g_iconst hc dX12_priceOf_10 ic_m1 (pc2 := 11) rfl ?_
  refine g_icmp_eq hc dX12_priceOf_11 (pc1 := 18) (pc2 := 14) rfl rfl (fun _ => ?_) (fun _ => ?_)
  · refine g_iload hc dX12_priceOf_18 rfl (pc2 := 20) rfl ?_
    refine g_goto hc dX12_priceOf_20 (pc2 := 29) rfl ?_
    exact g_iret hc dX12_priceOf_29
  · refine g_il3 hc dX12_priceOf_14 rfl (pc2 := 15) rfl ?_
    refine g_if_ne hc dX12_priceOf_15 (pc1 := 18) (pc2 := 23) rfl rfl (fun _ => ?_) (fun _ => ?_)
    · refine g_iload hc dX12_priceOf_18 rfl (pc2 := 20) rfl ?_
      refine g_goto hc dX12_priceOf_20 (pc2 := 29) rfl ?_
      exact g_iret hc dX12_priceOf_29
    · refine g_rl0 hc dX12_priceOf_23 rfl (pc2 := 24) rfl ?_
      refine g_iload hc dX12_priceOf_24 rfl (pc2 := 26) rfl ?_
      refine g_callV1 hc (C_X12_greatestRisk ht) mv_X12_greatestRisk ln_X12_404 ht ⟨by decide, by decide⟩ (Nat.le_of_ble_eq_true rfl) dX12_priceOf_26 (pc2 := 29) rfl (fun r6 s5 => ?_)
      exact g_iret hc dX12_priceOf_29
set_option maxRecDepth 100000 in
set_option maxHeartbeats 4000000 in
def f_X12_laysWays_L2 (n : Nat) (x0 : Nat) (x1 : Int32) (x2 : Int32) (k32 : q_Sto → Option (Int32 × q_Sto)) : Nat → Int32 → q_Sto → Option (Int32 × q_Sto)
  | 0, _, _ => none
  | j + 1, x3, s0 =>
    if x3 < 10 then (
    if x3 = x1 then (
    q_st s0 (q_RF x0 27) x3 10 0 fun s3 =>
    f_X12_laysWays_L2 n x0 x1 x2 k32 j (x3 + 1) s3)
    else (
    q_st s0 (q_RF x0 27) x3 10 1000000 fun s4 =>
    f_X12_laysWays_L2 n x0 x1 x2 k32 j (x3 + 1) s4))
    else (
    k32 s0)
set_option maxRecDepth 100000 in
set_option maxHeartbeats 4000000 in
def f_X12_laysWays_L53 (n : Nat) (x0 : Nat) (x2 : Int32) (x3 : Int32) (x4 : Int32) (k127 : q_Sto → Option (Int32 × q_Sto)) : Nat → Int32 → q_Sto → Option (Int32 × q_Sto)
  | 0, _, _ => none
  | j + 1, x5, s0 =>
    if x5 < 10 then (
    q_ld s0 (q_RF x0 27) x5 10 fun v9 =>
    q_jn (fun (y10 : Int32) (s11 : q_Sto) =>
      if y10 = (-1) then (
      f_X12_laysWays_L53 n x0 x2 x3 x4 k127 j (x5 + 1) s11)
      else (
      q_ld s11 (q_RF x0 27) x4 10 fun v13 =>
      q_ld s11 (q_RF x0 27) x5 10 fun v14 =>
      q_call (f_X12_lesser n v13 (y10 + v14) s11) fun r16 s15 =>
      q_st s15 (q_RF x0 27) x4 10 r16 fun s17 =>
      f_X12_laysWays_L53 n x0 x2 x3 x4 k127 j (x5 + 1) s17)) fun j86 =>
    if v9 = 1000000 then (
    j86 (-1) s0)
    else (
    q_call (f_X12_priceOf n x0 x4 x5 x2 s0) fun r20 s19 =>
    j86 r20 s19))
    else (
    k127 s0)
set_option maxRecDepth 100000 in
set_option maxHeartbeats 4000000 in
def f_X12_laysWays_L43 (n : Nat) (x0 : Nat) (x2 : Int32) (x3 : Int32) (k133 : q_Sto → Option (Int32 × q_Sto)) : Nat → Int32 → q_Sto → Option (Int32 × q_Sto)
  | 0, _, _ => none
  | j + 1, x4, s0 =>
    if x4 < 10 then (
    f_X12_laysWays_L53 n x0 x2 x3 x4 (fun  (s21 : q_Sto) =>
    f_X12_laysWays_L43 n x0 x2 x3 k133 j (x4 + 1) s21) n 0 s0)
    else (
    k133 s0)
set_option maxRecDepth 100000 in
set_option maxHeartbeats 4000000 in
def f_X12_laysWays_L34 (n : Nat) (x0 : Nat) (x2 : Int32) : Nat → Int32 → q_Sto → Option (Int32 × q_Sto)
  | 0, _, _ => none
  | j + 1, x3, s0 =>
    if x3 < 10 then (
    f_X12_laysWays_L43 n x0 x2 x3 (fun  (s22 : q_Sto) =>
    f_X12_laysWays_L34 n x0 x2  j (x3 + 1) s22) n 0 s0)
    else (
    some (0, s0))
set_option maxRecDepth 100000 in
set_option maxHeartbeats 4000000 in
def f_X12_laysWays (n : Nat) (t : Nat) (a0 : Int32) (a1 : Int32) (s0 : q_Sto) : Option (Int32 × q_Sto) :=
  f_X12_laysWays_L2 n t a0 a1 (fun  (s5 : q_Sto) =>
  f_X12_laysWays_L34 n t a1  n 0 s5) n 0 s0
set_option maxRecDepth 100000 in
set_option maxHeartbeats 4000000 in
theorem t_X12_laysWays_L2 {w : q_Wd} {cx : q_Cx} (hc : q_ok w cx RX12 cX12_laysWays 7 (none) (q_rm 7 164)) {n : Nat} {x0 : Nat} {x1 : Int32} {x2 : Int32} (hx0 : q_KD x0 = .inl 12) {k32 : q_Sto → Option (Int32 × q_Sto)} (hk32 : ∀  (s1 : q_Sto), q_G w cx 7 (none) 32 [some (q_rf w x0), none, some (.int x2), none, none, none, none] [] s1 (k32 s1)) :
    ∀ (j : Nat) (x3 : Int32) (s0 : q_Sto), q_G w cx 7 (none) 2 [some (q_rf w x0), some (.int x1), some (.int x2), some (.int x3), none, none, none] [] s0 (f_X12_laysWays_L2 n x0 x1 x2 k32 j x3 s0) := by
  intro j
  induction j with
  | zero =>
    intro _ _
    rw [f_X12_laysWays_L2]
    exact q_none
  | succ j ih =>
    intro x3 s0
    rw [f_X12_laysWays_L2]
    refine g_il3 hc dX12_laysWays_2 rfl (pc2 := 3) rfl ?_
    refine g_bipush hc dX12_laysWays_3 bp_10 (pc2 := 5) rfl ?_
    refine g_icmp_ge hc dX12_laysWays_5 (pc1 := 8) (pc2 := 32) rfl rfl (fun _ => ?_) (fun _ => ?_)
    · refine g_rl0 hc dX12_laysWays_8 rfl (pc2 := 9) rfl ?_
      refine g_getR hc fl_X12_44 rfl hx0 dX12_laysWays_9 (pc2 := 12) rfl ?_
      refine g_il3 hc dX12_laysWays_12 rfl (pc2 := 13) rfl ?_
      refine g_il3 hc dX12_laysWays_13 rfl (pc2 := 14) rfl ?_
      refine g_il1 hc dX12_laysWays_14 rfl (pc2 := 15) rfl ?_
      refine g_icmp_ne hc dX12_laysWays_15 (pc1 := 18) (pc2 := 22) rfl rfl (fun _ => ?_) (fun _ => ?_)
      · refine g_iconst hc dX12_laysWays_18 ic_0 (pc2 := 19) rfl ?_
        refine g_goto hc dX12_laysWays_19 (pc2 := 25) rfl ?_
        refine g_iast hc (kf_12_27 hx0) (kl_12_27 hx0) dX12_laysWays_25 (pc2 := 26) rfl (fun s3 => ?_)
        refine g_iinc hc dX12_laysWays_26 rfl (q_ii ic_1) (by decide) (L2 := [some (q_rf w x0), some (.int x1), some (.int x2), some (.int (x3 + 1)), none, none, none]) rfl (pc2 := 29) rfl ?_
        refine g_goto hc dX12_laysWays_29 (pc2 := 2) rfl ?_
        exact ih _ _
      · refine g_ldcw hc cn_X12_407 dX12_laysWays_22 (pc2 := 25) rfl ?_
        refine g_iast hc (kf_12_27 hx0) (kl_12_27 hx0) dX12_laysWays_25 (pc2 := 26) rfl (fun s4 => ?_)
        refine g_iinc hc dX12_laysWays_26 rfl (q_ii ic_1) (by decide) (L2 := [some (q_rf w x0), some (.int x1), some (.int x2), some (.int (x3 + 1)), none, none, none]) rfl (pc2 := 29) rfl ?_
        refine g_goto hc dX12_laysWays_29 (pc2 := 2) rfl ?_
        exact ih _ _
    · refine q_Gmask [true, false, true, false, true, true, true] (L2 := [some (q_rf w x0), none, some (.int x2), none, none, none, none]) rfl ?_
      exact hk32 _
set_option maxRecDepth 100000 in
set_option maxHeartbeats 4000000 in
theorem t_X12_laysWays_L53 {w : q_Wd} {cx : q_Cx} (hc : q_ok w cx RX12 cX12_laysWays 7 (none) (q_rm 7 164)) {n : Nat} {x0 : Nat} {x2 : Int32} {x3 : Int32} {x4 : Int32} (hx0 : q_KD x0 = .inl 12) {k127 : q_Sto → Option (Int32 × q_Sto)} (hk127 : ∀  (s1 : q_Sto), q_G w cx 7 (none) 127 [some (q_rf w x0), none, some (.int x2), some (.int x3), some (.int x4), none, none] [] s1 (k127 s1)) :
    ∀ (j : Nat) (x5 : Int32) (s0 : q_Sto), q_G w cx 7 (none) 53 [some (q_rf w x0), none, some (.int x2), some (.int x3), some (.int x4), some (.int x5), none] [] s0 (f_X12_laysWays_L53 n x0 x2 x3 x4 k127 j x5 s0) := by
  intro j
  induction j with
  | zero =>
    intro _ _
    rw [f_X12_laysWays_L53]
    exact q_none
  | succ j ih =>
    intro x5 s0
    rw [f_X12_laysWays_L53]
    refine g_iload hc dX12_laysWays_53 rfl (pc2 := 55) rfl ?_
    refine g_bipush hc dX12_laysWays_55 bp_10 (pc2 := 57) rfl ?_
    refine g_icmp_ge hc dX12_laysWays_57 (pc1 := 60) (pc2 := 127) rfl rfl (fun _ => ?_) (fun _ => ?_)
    · refine g_rl0 hc dX12_laysWays_60 rfl (pc2 := 61) rfl ?_
      refine g_getR hc fl_X12_44 rfl hx0 dX12_laysWays_61 (pc2 := 64) rfl ?_
      refine g_iload hc dX12_laysWays_64 rfl (pc2 := 66) rfl ?_
      refine g_iald hc (kf_12_27 hx0) (kl_12_27 hx0) dX12_laysWays_66 (pc2 := 67) rfl (fun v9 => ?_)
      refine g_ldcw hc cn_X12_407 dX12_laysWays_67 (pc2 := 70) rfl ?_
      refine g_jn (P := fun j86 => ∀ (y10 : Int32) (s11 : q_Sto), q_G w cx 7 (none) 86 [some (q_rf w x0), none, some (.int x2), some (.int x3), some (.int x4), some (.int x5), none] [.int y10] s11 (j86 y10 s11)) (fun y10 s11 => ?_) (fun j86 hj86 => ?_)
      · refine g_istore hc dX12_laysWays_86 (by decide) (L2 := [some (q_rf w x0), none, some (.int x2), some (.int x3), some (.int x4), some (.int x5), some (.int y10)]) rfl (pc2 := 88) rfl ?_
        refine g_iload hc dX12_laysWays_88 rfl (pc2 := 90) rfl ?_
        refine g_iconst hc dX12_laysWays_90 ic_m1 (pc2 := 91) rfl ?_
        refine g_icmp_eq hc dX12_laysWays_91 (pc1 := 121) (pc2 := 94) rfl rfl (fun _ => ?_) (fun _ => ?_)
        · refine g_iinc hc dX12_laysWays_121 rfl (q_ii ic_1) (by decide) (L2 := [some (q_rf w x0), none, some (.int x2), some (.int x3), some (.int x4), some (.int (x5 + 1)), some (.int y10)]) rfl (pc2 := 124) rfl ?_
          refine g_goto hc dX12_laysWays_124 (pc2 := 53) rfl ?_
          refine q_Gmask [true, true, true, true, true, true, false] (L2 := [some (q_rf w x0), none, some (.int x2), some (.int x3), some (.int x4), some (.int (x5 + 1)), none]) rfl ?_
          exact ih _ _
        · refine g_rl0 hc dX12_laysWays_94 rfl (pc2 := 95) rfl ?_
          refine g_getR hc fl_X12_44 rfl hx0 dX12_laysWays_95 (pc2 := 98) rfl ?_
          refine g_iload hc dX12_laysWays_98 rfl (pc2 := 100) rfl ?_
          refine g_rl0 hc dX12_laysWays_100 rfl (pc2 := 101) rfl ?_
          refine g_getR hc fl_X12_44 rfl hx0 dX12_laysWays_101 (pc2 := 104) rfl ?_
          refine g_iload hc dX12_laysWays_104 rfl (pc2 := 106) rfl ?_
          refine g_iald hc (kf_12_27 hx0) (kl_12_27 hx0) dX12_laysWays_106 (pc2 := 107) rfl (fun v13 => ?_)
          refine g_iload hc dX12_laysWays_107 rfl (pc2 := 109) rfl ?_
          refine g_rl0 hc dX12_laysWays_109 rfl (pc2 := 110) rfl ?_
          refine g_getR hc fl_X12_44 rfl hx0 dX12_laysWays_110 (pc2 := 113) rfl ?_
          refine g_iload hc dX12_laysWays_113 rfl (pc2 := 115) rfl ?_
          refine g_iald hc (kf_12_27 hx0) (kl_12_27 hx0) dX12_laysWays_115 (pc2 := 116) rfl (fun v14 => ?_)
          refine g_iadd hc dX12_laysWays_116 (pc2 := 117) rfl ?_
          refine g_callS2 hc C_X12_lesser mv_X12_lesser ln_X12_303 ⟨by decide, by decide⟩ (Nat.le_of_ble_eq_true rfl) dX12_laysWays_117 (pc2 := 120) rfl (fun r16 s15 => ?_)
          refine g_iast hc (kf_12_27 hx0) (kl_12_27 hx0) dX12_laysWays_120 (pc2 := 121) rfl (fun s17 => ?_)
          refine g_iinc hc dX12_laysWays_121 rfl (q_ii ic_1) (by decide) (L2 := [some (q_rf w x0), none, some (.int x2), some (.int x3), some (.int x4), some (.int (x5 + 1)), some (.int y10)]) rfl (pc2 := 124) rfl ?_
          refine g_goto hc dX12_laysWays_124 (pc2 := 53) rfl ?_
          refine q_Gmask [true, true, true, true, true, true, false] (L2 := [some (q_rf w x0), none, some (.int x2), some (.int x3), some (.int x4), some (.int (x5 + 1)), none]) rfl ?_
          exact ih _ _
      · refine g_icmp_ne hc dX12_laysWays_70 (pc1 := 73) (pc2 := 77) rfl rfl (fun _ => ?_) (fun _ => ?_)
        · refine g_iconst hc dX12_laysWays_73 ic_m1 (pc2 := 74) rfl ?_
          refine g_goto hc dX12_laysWays_74 (pc2 := 86) rfl ?_
          exact hj86 _ _
        · refine g_rl0 hc dX12_laysWays_77 rfl (pc2 := 78) rfl ?_
          refine g_iload hc dX12_laysWays_78 rfl (pc2 := 80) rfl ?_
          refine g_iload hc dX12_laysWays_80 rfl (pc2 := 82) rfl ?_
          refine g_il2 hc dX12_laysWays_82 rfl (pc2 := 83) rfl ?_
          refine g_callV3 hc (C_X12_priceOf hx0) mv_X12_priceOf ln_X12_408 hx0 ⟨by decide, by decide⟩ (Nat.le_of_ble_eq_true rfl) dX12_laysWays_83 (pc2 := 86) rfl (fun r20 s19 => ?_)
          exact hj86 _ _
    · refine q_Gmask [true, true, true, true, true, false, true] (L2 := [some (q_rf w x0), none, some (.int x2), some (.int x3), some (.int x4), none, none]) rfl ?_
      exact hk127 _
set_option maxRecDepth 100000 in
set_option maxHeartbeats 4000000 in
theorem t_X12_laysWays_L43 {w : q_Wd} {cx : q_Cx} (hc : q_ok w cx RX12 cX12_laysWays 7 (none) (q_rm 7 164)) {n : Nat} {x0 : Nat} {x2 : Int32} {x3 : Int32} (hx0 : q_KD x0 = .inl 12) {k133 : q_Sto → Option (Int32 × q_Sto)} (hk133 : ∀  (s1 : q_Sto), q_G w cx 7 (none) 133 [some (q_rf w x0), none, some (.int x2), some (.int x3), none, none, none] [] s1 (k133 s1)) :
    ∀ (j : Nat) (x4 : Int32) (s0 : q_Sto), q_G w cx 7 (none) 43 [some (q_rf w x0), none, some (.int x2), some (.int x3), some (.int x4), none, none] [] s0 (f_X12_laysWays_L43 n x0 x2 x3 k133 j x4 s0) := by
  intro j
  induction j with
  | zero =>
    intro _ _
    rw [f_X12_laysWays_L43]
    exact q_none
  | succ j ih =>
    intro x4 s0
    rw [f_X12_laysWays_L43]
    refine g_iload hc dX12_laysWays_43 rfl (pc2 := 45) rfl ?_
    refine g_bipush hc dX12_laysWays_45 bp_10 (pc2 := 47) rfl ?_
    refine g_icmp_ge hc dX12_laysWays_47 (pc1 := 50) (pc2 := 133) rfl rfl (fun _ => ?_) (fun _ => ?_)
    · refine g_iconst hc dX12_laysWays_50 ic_0 (pc2 := 51) rfl ?_
      refine g_istore hc dX12_laysWays_51 (by decide) (L2 := [some (q_rf w x0), none, some (.int x2), some (.int x3), some (.int x4), some (.int 0), none]) rfl (pc2 := 53) rfl ?_
      refine t_X12_laysWays_L53 hc hx0 (fun s21 => ?_) n _ _
      refine g_iinc hc dX12_laysWays_127 rfl (q_ii ic_1) (by decide) (L2 := [some (q_rf w x0), none, some (.int x2), some (.int x3), some (.int (x4 + 1)), none, none]) rfl (pc2 := 130) rfl ?_
      refine g_goto hc dX12_laysWays_130 (pc2 := 43) rfl ?_
      exact ih _ _
    · refine q_Gmask [true, true, true, true, false, true, true] (L2 := [some (q_rf w x0), none, some (.int x2), some (.int x3), none, none, none]) rfl ?_
      exact hk133 _
set_option maxRecDepth 100000 in
set_option maxHeartbeats 4000000 in
theorem t_X12_laysWays_L34 {w : q_Wd} {cx : q_Cx} (hc : q_ok w cx RX12 cX12_laysWays 7 (none) (q_rm 7 164)) {n : Nat} {x0 : Nat} {x2 : Int32} (hx0 : q_KD x0 = .inl 12)   :
    ∀ (j : Nat) (x3 : Int32) (s0 : q_Sto), q_G w cx 7 (none) 34 [some (q_rf w x0), none, some (.int x2), some (.int x3), none, none, none] [] s0 (f_X12_laysWays_L34 n x0 x2  j x3 s0) := by
  intro j
  induction j with
  | zero =>
    intro _ _
    rw [f_X12_laysWays_L34]
    exact q_none
  | succ j ih =>
    intro x3 s0
    rw [f_X12_laysWays_L34]
    refine g_il3 hc dX12_laysWays_34 rfl (pc2 := 35) rfl ?_
    refine g_bipush hc dX12_laysWays_35 bp_10 (pc2 := 37) rfl ?_
    refine g_icmp_ge hc dX12_laysWays_37 (pc1 := 40) (pc2 := 139) rfl rfl (fun _ => ?_) (fun _ => ?_)
    · refine g_iconst hc dX12_laysWays_40 ic_0 (pc2 := 41) rfl ?_
      refine g_istore hc dX12_laysWays_41 (by decide) (L2 := [some (q_rf w x0), none, some (.int x2), some (.int x3), some (.int 0), none, none]) rfl (pc2 := 43) rfl ?_
      refine t_X12_laysWays_L43 hc hx0 (fun s22 => ?_) n _ _
      refine g_iinc hc dX12_laysWays_133 rfl (q_ii ic_1) (by decide) (L2 := [some (q_rf w x0), none, some (.int x2), some (.int (x3 + 1)), none, none, none]) rfl (pc2 := 136) rfl ?_
      refine g_goto hc dX12_laysWays_136 (pc2 := 34) rfl ?_
      exact ih _ _
    · exact g_vret hc dX12_laysWays_139
set_option maxRecDepth 100000 in
set_option maxHeartbeats 4000000 in
theorem C_X12_laysWays {l : Launch} {w : q_Wd} {n : Nat} {t : Nat} {a0 : Int32} {a1 : Int32} (ht : q_KD t = .inl 12) {s0 : q_Sto} : q_C l w yX12_laysWays cX12_laysWays 7 (none) (q_rm 7 164) [q_rf w t, .int a0, .int a1] s0 (f_X12_laysWays n t a0 a1 s0) := q_CofG [some (q_rf w t), some (.int a0), some (.int a1), none, none, none, none] (by decide +kernel) rfl rfl (Nat.le_of_ble_eq_true rfl) fun cx hl hc => by
  have hc : q_ok w cx RX12 cX12_laysWays 7 (none) (q_rm 7 164) := hc
  rw [f_X12_laysWays]
  refine g_iconst hc dX12_laysWays_0 ic_0 (pc2 := 1) rfl ?_
  refine g_is3 hc dX12_laysWays_1 (by decide) (L2 := [some (q_rf w t), some (.int a0), some (.int a1), some (.int 0), none, none, none]) rfl (pc2 := 2) rfl ?_
  refine t_X12_laysWays_L2 hc ht (fun s5 => ?_) n _ _
  refine g_iconst hc dX12_laysWays_32 ic_0 (pc2 := 33) rfl ?_
  refine g_is3 hc dX12_laysWays_33 (by decide) (L2 := [some (q_rf w t), none, some (.int a1), some (.int 0), none, none, none]) rfl (pc2 := 34) rfl ?_
  refine t_X12_laysWays_L34 hc ht  n _ _
set_option maxRecDepth 100000 in
set_option maxHeartbeats 4000000 in
def f_X12_way_L69 (n : Nat) (x0 : Nat) (x1 : Int32) (x2 : Int32) : Nat → Int32 → q_Sto → Option (Int32 × q_Sto)
  | 0, _, _ => none
  | j + 1, x4, s0 =>
    if x4 < 10 then (
    if x1 = x2 then (
    some ((-1), s0))
    else (
    q_call (f_X12_pathOf n x0 x1 x4 s0) fun r20 s19 =>
    if r20 = (-1) then (
    f_X12_way_L69 n x0 x1 x2  j (x4 + 1) s19)
    else (
    q_call (f_X12_pathOf n x0 x1 x4 s19) fun r23 s22 =>
    q_ld s22 (q_RF x0 27) x4 10 fun v24 =>
    q_ld s22 (q_RF x0 27) x1 10 fun v25 =>
    if (r23 + v24) = v25 then (
    some (x4, s22))
    else (
    f_X12_way_L69 n x0 x1 x2  j (x4 + 1) s22))))
    else (
    some ((-1), s0))
set_option maxRecDepth 100000 in
set_option maxHeartbeats 4000000 in
def f_X12_way (n : Nat) (t : Nat) (a0 : Int32) (a1 : Int32) (a2 : Int32) (s0 : q_Sto) : Option (Int32 × q_Sto) :=
  q_call (f_X12_isCamp n a0 s0) fun r2 s1 =>
  if r2 = 0 then (
  some ((-1), s1))
  else (
  q_call (f_X12_isCamp n a1 s1) fun r5 s4 =>
  if r5 = 0 then (
  some ((-1), s4))
  else (
  q_call (f_X12_isIn n a2 0 2 s4) fun r8 s7 =>
  if r8 = 0 then (
  some ((-1), s7))
  else (
  q_jn (fun (y10 : Int32) (s11 : q_Sto) =>
    q_callv (f_X12_laysWays n t a1 y10 s11) fun s12 =>
    q_ld s12 (q_RF t 27) a0 10 fun v14 =>
    if v14 = 1000000 then (
    some ((-1), s12))
    else (
    if a2 = 1 then (
    f_X12_way_L69 n t a0 a1  n 0 s12)
    else (
    q_ld s12 (q_RF t 27) a0 10 fun v27 =>
    some (v27, s12)))) fun j37 =>
  if a2 = 2 then (
  j37 1 s7)
  else (
  j37 0 s7))))
set_option maxRecDepth 100000 in
set_option maxHeartbeats 4000000 in
theorem t_X12_way_L69 {w : q_Wd} {cx : q_Cx} (hc : q_ok w cx RX12 cX12_way 5 (some .int) (q_rm 8 190)) {n : Nat} {x0 : Nat} {x1 : Int32} {x2 : Int32} (hx0 : q_KD x0 = .inl 12)   :
    ∀ (j : Nat) (x4 : Int32) (s0 : q_Sto), q_G w cx 5 (some .int) 69 [some (q_rf w x0), some (.int x1), some (.int x2), none, some (.int x4)] [] s0 (f_X12_way_L69 n x0 x1 x2  j x4 s0) := by
  intro j
  induction j with
  | zero =>
    intro _ _
    rw [f_X12_way_L69]
    exact q_none
  | succ j ih =>
    intro x4 s0
    rw [f_X12_way_L69]
    refine g_iload hc dX12_way_69 rfl (pc2 := 71) rfl ?_
    refine g_bipush hc dX12_way_71 bp_10 (pc2 := 73) rfl ?_
    refine g_icmp_ge hc dX12_way_73 (pc1 := 76) (pc2 := 125) rfl rfl (fun _ => ?_) (fun _ => ?_)
    · refine g_il1 hc dX12_way_76 rfl (pc2 := 77) rfl ?_
      refine g_il2 hc dX12_way_77 rfl (pc2 := 78) rfl ?_
      refine g_icmp_eq hc dX12_way_78 (pc1 := 125) (pc2 := 81) rfl rfl (fun _ => ?_) (fun _ => ?_)
      · refine g_iconst hc dX12_way_125 ic_m1 (pc2 := 126) rfl ?_
        exact g_iret hc dX12_way_126
      · refine g_rl0 hc dX12_way_81 rfl (pc2 := 82) rfl ?_
        refine g_il1 hc dX12_way_82 rfl (pc2 := 83) rfl ?_
        refine g_iload hc dX12_way_83 rfl (pc2 := 85) rfl ?_
        refine g_callV2 hc (C_X12_pathOf hx0) mv_X12_pathOf ln_X12_374 hx0 ⟨by decide, by decide⟩ (Nat.le_of_ble_eq_true rfl) dX12_way_85 (pc2 := 88) rfl (fun r20 s19 => ?_)
        refine g_iconst hc dX12_way_88 ic_m1 (pc2 := 89) rfl ?_
        refine g_icmp_eq hc dX12_way_89 (pc1 := 119) (pc2 := 92) rfl rfl (fun _ => ?_) (fun _ => ?_)
        · refine g_iinc hc dX12_way_119 rfl (q_ii ic_1) (by decide) (L2 := [some (q_rf w x0), some (.int x1), some (.int x2), none, some (.int (x4 + 1))]) rfl (pc2 := 122) rfl ?_
          refine g_goto hc dX12_way_122 (pc2 := 69) rfl ?_
          exact ih _ _
        · refine g_rl0 hc dX12_way_92 rfl (pc2 := 93) rfl ?_
          refine g_il1 hc dX12_way_93 rfl (pc2 := 94) rfl ?_
          refine g_iload hc dX12_way_94 rfl (pc2 := 96) rfl ?_
          refine g_callV2 hc (C_X12_pathOf hx0) mv_X12_pathOf ln_X12_374 hx0 ⟨by decide, by decide⟩ (Nat.le_of_ble_eq_true rfl) dX12_way_96 (pc2 := 99) rfl (fun r23 s22 => ?_)
          refine g_rl0 hc dX12_way_99 rfl (pc2 := 100) rfl ?_
          refine g_getR hc fl_X12_44 rfl hx0 dX12_way_100 (pc2 := 103) rfl ?_
          refine g_iload hc dX12_way_103 rfl (pc2 := 105) rfl ?_
          refine g_iald hc (kf_12_27 hx0) (kl_12_27 hx0) dX12_way_105 (pc2 := 106) rfl (fun v24 => ?_)
          refine g_iadd hc dX12_way_106 (pc2 := 107) rfl ?_
          refine g_rl0 hc dX12_way_107 rfl (pc2 := 108) rfl ?_
          refine g_getR hc fl_X12_44 rfl hx0 dX12_way_108 (pc2 := 111) rfl ?_
          refine g_il1 hc dX12_way_111 rfl (pc2 := 112) rfl ?_
          refine g_iald hc (kf_12_27 hx0) (kl_12_27 hx0) dX12_way_112 (pc2 := 113) rfl (fun v25 => ?_)
          refine g_icmp_ne hc dX12_way_113 (pc1 := 116) (pc2 := 119) rfl rfl (fun _ => ?_) (fun _ => ?_)
          · refine g_iload hc dX12_way_116 rfl (pc2 := 118) rfl ?_
            exact g_iret hc dX12_way_118
          · refine g_iinc hc dX12_way_119 rfl (q_ii ic_1) (by decide) (L2 := [some (q_rf w x0), some (.int x1), some (.int x2), none, some (.int (x4 + 1))]) rfl (pc2 := 122) rfl ?_
            refine g_goto hc dX12_way_122 (pc2 := 69) rfl ?_
            exact ih _ _
    · refine g_iconst hc dX12_way_125 ic_m1 (pc2 := 126) rfl ?_
      exact g_iret hc dX12_way_126
set_option maxRecDepth 100000 in
set_option maxHeartbeats 4000000 in
theorem C_X12_way {l : Launch} {w : q_Wd} {n : Nat} {t : Nat} {a0 : Int32} {a1 : Int32} {a2 : Int32} (ht : q_KD t = .inl 12) {s0 : q_Sto} : q_C l w yX12_way cX12_way 5 (some .int) (q_rm 8 190) [q_rf w t, .int a0, .int a1, .int a2] s0 (f_X12_way n t a0 a1 a2 s0) := q_CofG [some (q_rf w t), some (.int a0), some (.int a1), some (.int a2), none] (by decide +kernel) rfl rfl (Nat.le_of_ble_eq_true rfl) fun cx hl hc => by
  have hc : q_ok w cx RX12 cX12_way 5 (some .int) (q_rm 8 190) := hc
  rw [f_X12_way]
  refine g_il1 hc dX12_way_0 rfl (pc2 := 1) rfl ?_
  refine g_callS1 hc C_X12_isCamp mv_X12_isCamp ln_X12_68 ⟨by decide, by decide⟩ (Nat.le_of_ble_eq_true rfl) dX12_way_1 (pc2 := 4) rfl (fun r2 s1 => ?_)
  refine g_if_eq hc dX12_way_4 (pc1 := 23) (pc2 := 7) rfl rfl (fun _ => ?_) (fun _ => ?_)
  · refine g_iconst hc dX12_way_23 ic_m1 (pc2 := 24) rfl ?_
    exact g_iret hc dX12_way_24
  · refine g_il2 hc dX12_way_7 rfl (pc2 := 8) rfl ?_
    refine g_callS1 hc C_X12_isCamp mv_X12_isCamp ln_X12_68 ⟨by decide, by decide⟩ (Nat.le_of_ble_eq_true rfl) dX12_way_8 (pc2 := 11) rfl (fun r5 s4 => ?_)
    refine g_if_eq hc dX12_way_11 (pc1 := 23) (pc2 := 14) rfl rfl (fun _ => ?_) (fun _ => ?_)
    · refine g_iconst hc dX12_way_23 ic_m1 (pc2 := 24) rfl ?_
      exact g_iret hc dX12_way_24
    · refine g_il3 hc dX12_way_14 rfl (pc2 := 15) rfl ?_
      refine g_iconst hc dX12_way_15 ic_0 (pc2 := 16) rfl ?_
      refine g_iconst hc dX12_way_16 ic_2 (pc2 := 17) rfl ?_
      refine g_callS3 hc C_X12_isIn mv_X12_isIn ln_X12_56 ⟨by decide, by decide⟩ (Nat.le_of_ble_eq_true rfl) dX12_way_17 (pc2 := 20) rfl (fun r8 s7 => ?_)
      refine g_if_ne hc dX12_way_20 (pc1 := 23) (pc2 := 25) rfl rfl (fun _ => ?_) (fun _ => ?_)
      · refine g_iconst hc dX12_way_23 ic_m1 (pc2 := 24) rfl ?_
        exact g_iret hc dX12_way_24
      · refine g_rl0 hc dX12_way_25 rfl (pc2 := 26) rfl ?_
        refine g_il2 hc dX12_way_26 rfl (pc2 := 27) rfl ?_
        refine g_il3 hc dX12_way_27 rfl (pc2 := 28) rfl ?_
        refine g_iconst hc dX12_way_28 ic_2 (pc2 := 29) rfl ?_
        refine g_jn (P := fun j37 => ∀ (y10 : Int32) (s11 : q_Sto), q_G w cx 5 (some .int) 37 [some (q_rf w t), some (.int a0), some (.int a1), some (.int a2), none] [.int y10, .int a1, q_rf w t] s11 (j37 y10 s11)) (fun y10 s11 => ?_) (fun j37 hj37 => ?_)
        · refine g_callV2v hc (C_X12_laysWays ht) mv_X12_laysWays ln_X12_412 ht ⟨by decide, by decide⟩ (Nat.le_of_ble_eq_true rfl) dX12_way_37 (pc2 := 40) rfl (fun s12 => ?_)
          refine g_rl0 hc dX12_way_40 rfl (pc2 := 41) rfl ?_
          refine g_getR hc fl_X12_44 rfl ht dX12_way_41 (pc2 := 44) rfl ?_
          refine g_il1 hc dX12_way_44 rfl (pc2 := 45) rfl ?_
          refine g_iald hc (kf_12_27 ht) (kl_12_27 ht) dX12_way_45 (pc2 := 46) rfl (fun v14 => ?_)
          refine g_ldcw hc cn_X12_407 dX12_way_46 (pc2 := 49) rfl ?_
          refine g_icmp_ne hc dX12_way_49 (pc1 := 52) (pc2 := 54) rfl rfl (fun _ => ?_) (fun _ => ?_)
          · refine g_iconst hc dX12_way_52 ic_m1 (pc2 := 53) rfl ?_
            exact g_iret hc dX12_way_53
          · refine g_il3 hc dX12_way_54 rfl (pc2 := 55) rfl ?_
            refine g_iconst hc dX12_way_55 ic_1 (pc2 := 56) rfl ?_
            refine g_icmp_eq hc dX12_way_56 (pc1 := 66) (pc2 := 59) rfl rfl (fun _ => ?_) (fun _ => ?_)
            · refine g_iconst hc dX12_way_66 ic_0 (pc2 := 67) rfl ?_
              refine g_istore hc dX12_way_67 (by decide) (L2 := [some (q_rf w t), some (.int a0), some (.int a1), some (.int a2), some (.int 0)]) rfl (pc2 := 69) rfl ?_
              refine q_Gmask [true, true, true, false, true] (L2 := [some (q_rf w t), some (.int a0), some (.int a1), none, some (.int 0)]) rfl ?_
              refine t_X12_way_L69 hc ht  n _ _
            · refine g_rl0 hc dX12_way_59 rfl (pc2 := 60) rfl ?_
              refine g_getR hc fl_X12_44 rfl ht dX12_way_60 (pc2 := 63) rfl ?_
              refine g_il1 hc dX12_way_63 rfl (pc2 := 64) rfl ?_
              refine g_iald hc (kf_12_27 ht) (kl_12_27 ht) dX12_way_64 (pc2 := 65) rfl (fun v27 => ?_)
              exact g_iret hc dX12_way_65
        · refine g_icmp_ne hc dX12_way_29 (pc1 := 32) (pc2 := 36) rfl rfl (fun _ => ?_) (fun _ => ?_)
          · refine g_iconst hc dX12_way_32 ic_1 (pc2 := 33) rfl ?_
            refine g_goto hc dX12_way_33 (pc2 := 37) rfl ?_
            exact hj37 _ _
          · refine g_iconst hc dX12_way_36 ic_0 (pc2 := 37) rfl ?_
            exact hj37 _ _
set_option maxRecDepth 100000 in
set_option maxHeartbeats 4000000 in
def f_X12_weightOf_L4 (n : Nat) (x0 : Nat) (x1 : Int32) : Nat → Int32 → Int32 → q_Sto → Option (Int32 × q_Sto)
  | 0, _, _, _ => none
  | j + 1, x2, x3, s0 =>
    q_ld s0 (q_RF x0 0) 93 1790 fun v1 =>
    if x3 < v1 then (
    if ((x1 >>> (x3 &&& 31)) &&& 1) = 1 then (
    q_ld s0 (q_RF x0 0) (253 + (2 * x3)) 1790 fun v4 =>
    q_nm (x2 + v4) fun v5 =>
    f_X12_weightOf_L4 n x0 x1  j v5 (x3 + 1) s0)
    else (
    q_nm (x2 + 0) fun v6 =>
    f_X12_weightOf_L4 n x0 x1  j v6 (x3 + 1) s0))
    else (
    some (x2, s0))
set_option maxRecDepth 100000 in
set_option maxHeartbeats 4000000 in
def f_X12_weightOf (n : Nat) (t : Nat) (a0 : Int32) (s0 : q_Sto) : Option (Int32 × q_Sto) :=
  f_X12_weightOf_L4 n t a0  n 0 0 s0
set_option maxRecDepth 100000 in
set_option maxHeartbeats 4000000 in
theorem t_X12_weightOf_L4 {w : q_Wd} {cx : q_Cx} (hc : q_ok w cx RX12 cX12_weightOf 4 (some .int) (q_rm 0 0)) {n : Nat} {x0 : Nat} {x1 : Int32} (hx0 : q_KD x0 = .inl 12)   :
    ∀ (j : Nat) (x2 : Int32) (x3 : Int32) (s0 : q_Sto), q_G w cx 4 (some .int) 4 [some (q_rf w x0), some (.int x1), some (.int x2), some (.int x3)] [] s0 (f_X12_weightOf_L4 n x0 x1  j x2 x3 s0) := by
  intro j
  induction j with
  | zero =>
    intro _ _ _
    rw [f_X12_weightOf_L4]
    exact q_none
  | succ j ih =>
    intro x2 x3 s0
    rw [f_X12_weightOf_L4]
    refine g_il3 hc dX12_weightOf_4 rfl (pc2 := 5) rfl ?_
    refine g_rl0 hc dX12_weightOf_5 rfl (pc2 := 6) rfl ?_
    refine g_getR hc fl_X12_7 rfl hx0 dX12_weightOf_6 (pc2 := 9) rfl ?_
    refine g_bipush hc dX12_weightOf_9 bp_93 (pc2 := 11) rfl ?_
    refine g_iald hc (kf_12_0 hx0) (kl_12_0 hx0) dX12_weightOf_11 (pc2 := 12) rfl (fun v1 => ?_)
    refine g_icmp_ge hc dX12_weightOf_12 (pc1 := 15) (pc2 := 49) rfl rfl (fun _ => ?_) (fun _ => ?_)
    · refine g_il2 hc dX12_weightOf_15 rfl (pc2 := 16) rfl ?_
      refine g_il1 hc dX12_weightOf_16 rfl (pc2 := 17) rfl ?_
      refine g_il3 hc dX12_weightOf_17 rfl (pc2 := 18) rfl ?_
      refine g_ishr hc dX12_weightOf_18 (pc2 := 19) rfl ?_
      refine g_iconst hc dX12_weightOf_19 ic_1 (pc2 := 20) rfl ?_
      refine g_iand hc dX12_weightOf_20 (pc2 := 21) rfl ?_
      refine g_iconst hc dX12_weightOf_21 ic_1 (pc2 := 22) rfl ?_
      refine g_icmp_ne hc dX12_weightOf_22 (pc1 := 25) (pc2 := 40) rfl rfl (fun _ => ?_) (fun _ => ?_)
      · refine g_rl0 hc dX12_weightOf_25 rfl (pc2 := 26) rfl ?_
        refine g_getR hc fl_X12_7 rfl hx0 dX12_weightOf_26 (pc2 := 29) rfl ?_
        refine g_sipush hc dX12_weightOf_29 sp_253 (pc2 := 32) rfl ?_
        refine g_iconst hc dX12_weightOf_32 ic_2 (pc2 := 33) rfl ?_
        refine g_il3 hc dX12_weightOf_33 rfl (pc2 := 34) rfl ?_
        refine g_imul hc dX12_weightOf_34 (pc2 := 35) rfl ?_
        refine g_iadd hc dX12_weightOf_35 (pc2 := 36) rfl ?_
        refine g_iald hc (kf_12_0 hx0) (kl_12_0 hx0) dX12_weightOf_36 (pc2 := 37) rfl (fun v4 => ?_)
        refine g_goto hc dX12_weightOf_37 (pc2 := 41) rfl ?_
        refine g_iadd hc dX12_weightOf_41 (pc2 := 42) rfl ?_
        refine g_nm (fun v5 => ?_)
        refine g_is2 hc dX12_weightOf_42 (by decide) (L2 := [some (q_rf w x0), some (.int x1), some (.int v5), some (.int x3)]) rfl (pc2 := 43) rfl ?_
        refine g_iinc hc dX12_weightOf_43 rfl (q_ii ic_1) (by decide) (L2 := [some (q_rf w x0), some (.int x1), some (.int v5), some (.int (x3 + 1))]) rfl (pc2 := 46) rfl ?_
        refine g_goto hc dX12_weightOf_46 (pc2 := 4) rfl ?_
        exact ih _ _ _
      · refine g_iconst hc dX12_weightOf_40 ic_0 (pc2 := 41) rfl ?_
        refine g_iadd hc dX12_weightOf_41 (pc2 := 42) rfl ?_
        refine g_nm (fun v6 => ?_)
        refine g_is2 hc dX12_weightOf_42 (by decide) (L2 := [some (q_rf w x0), some (.int x1), some (.int v6), some (.int x3)]) rfl (pc2 := 43) rfl ?_
        refine g_iinc hc dX12_weightOf_43 rfl (q_ii ic_1) (by decide) (L2 := [some (q_rf w x0), some (.int x1), some (.int v6), some (.int (x3 + 1))]) rfl (pc2 := 46) rfl ?_
        refine g_goto hc dX12_weightOf_46 (pc2 := 4) rfl ?_
        exact ih _ _ _
    · refine g_il2 hc dX12_weightOf_49 rfl (pc2 := 50) rfl ?_
      exact g_iret hc dX12_weightOf_50
set_option maxRecDepth 100000 in
set_option maxHeartbeats 4000000 in
theorem C_X12_weightOf {l : Launch} {w : q_Wd} {n : Nat} {t : Nat} {a0 : Int32} (ht : q_KD t = .inl 12) {s0 : q_Sto} : q_C l w yX12_weightOf cX12_weightOf 4 (some .int) (q_rm 0 0) [q_rf w t, .int a0] s0 (f_X12_weightOf n t a0 s0) := q_CofG [some (q_rf w t), some (.int a0), none, none] (by decide +kernel) rfl rfl (Nat.le_of_ble_eq_true rfl) fun cx hl hc => by
  have hc : q_ok w cx RX12 cX12_weightOf 4 (some .int) (q_rm 0 0) := hc
  rw [f_X12_weightOf]
  refine g_iconst hc dX12_weightOf_0 ic_0 (pc2 := 1) rfl ?_
  refine g_is2 hc dX12_weightOf_1 (by decide) (L2 := [some (q_rf w t), some (.int a0), some (.int 0), none]) rfl (pc2 := 2) rfl ?_
  refine g_iconst hc dX12_weightOf_2 ic_0 (pc2 := 3) rfl ?_
  refine g_is3 hc dX12_weightOf_3 (by decide) (L2 := [some (q_rf w t), some (.int a0), some (.int 0), some (.int 0)]) rfl (pc2 := 4) rfl ?_
  refine t_X12_weightOf_L4 hc ht  n _ _ _
set_option maxRecDepth 100000 in
set_option maxHeartbeats 4000000 in
def f_X12_worthOf_L4 (n : Nat) (x0 : Nat) (x1 : Int32) : Nat → Int32 → Int32 → q_Sto → Option (Int32 × q_Sto)
  | 0, _, _, _ => none
  | j + 1, x2, x3, s0 =>
    q_ld s0 (q_RF x0 0) 93 1790 fun v1 =>
    if x3 < v1 then (
    if ((x1 >>> (x3 &&& 31)) &&& 1) = 1 then (
    q_ld s0 (q_RF x0 0) ((253 + (2 * x3)) + 1) 1790 fun v4 =>
    q_nm (x2 + v4) fun v5 =>
    f_X12_worthOf_L4 n x0 x1  j v5 (x3 + 1) s0)
    else (
    q_nm (x2 + 0) fun v6 =>
    f_X12_worthOf_L4 n x0 x1  j v6 (x3 + 1) s0))
    else (
    some (x2, s0))
set_option maxRecDepth 100000 in
set_option maxHeartbeats 4000000 in
def f_X12_worthOf (n : Nat) (t : Nat) (a0 : Int32) (s0 : q_Sto) : Option (Int32 × q_Sto) :=
  f_X12_worthOf_L4 n t a0  n 0 0 s0
set_option maxRecDepth 100000 in
set_option maxHeartbeats 4000000 in
theorem t_X12_worthOf_L4 {w : q_Wd} {cx : q_Cx} (hc : q_ok w cx RX12 cX12_worthOf 4 (some .int) (q_rm 0 0)) {n : Nat} {x0 : Nat} {x1 : Int32} (hx0 : q_KD x0 = .inl 12)   :
    ∀ (j : Nat) (x2 : Int32) (x3 : Int32) (s0 : q_Sto), q_G w cx 4 (some .int) 4 [some (q_rf w x0), some (.int x1), some (.int x2), some (.int x3)] [] s0 (f_X12_worthOf_L4 n x0 x1  j x2 x3 s0) := by
  intro j
  induction j with
  | zero =>
    intro _ _ _
    rw [f_X12_worthOf_L4]
    exact q_none
  | succ j ih =>
    intro x2 x3 s0
    rw [f_X12_worthOf_L4]
    refine g_il3 hc dX12_worthOf_4 rfl (pc2 := 5) rfl ?_
    refine g_rl0 hc dX12_worthOf_5 rfl (pc2 := 6) rfl ?_
    refine g_getR hc fl_X12_7 rfl hx0 dX12_worthOf_6 (pc2 := 9) rfl ?_
    refine g_bipush hc dX12_worthOf_9 bp_93 (pc2 := 11) rfl ?_
    refine g_iald hc (kf_12_0 hx0) (kl_12_0 hx0) dX12_worthOf_11 (pc2 := 12) rfl (fun v1 => ?_)
    refine g_icmp_ge hc dX12_worthOf_12 (pc1 := 15) (pc2 := 51) rfl rfl (fun _ => ?_) (fun _ => ?_)
    · refine g_il2 hc dX12_worthOf_15 rfl (pc2 := 16) rfl ?_
      refine g_il1 hc dX12_worthOf_16 rfl (pc2 := 17) rfl ?_
      refine g_il3 hc dX12_worthOf_17 rfl (pc2 := 18) rfl ?_
      refine g_ishr hc dX12_worthOf_18 (pc2 := 19) rfl ?_
      refine g_iconst hc dX12_worthOf_19 ic_1 (pc2 := 20) rfl ?_
      refine g_iand hc dX12_worthOf_20 (pc2 := 21) rfl ?_
      refine g_iconst hc dX12_worthOf_21 ic_1 (pc2 := 22) rfl ?_
      refine g_icmp_ne hc dX12_worthOf_22 (pc1 := 25) (pc2 := 42) rfl rfl (fun _ => ?_) (fun _ => ?_)
      · refine g_rl0 hc dX12_worthOf_25 rfl (pc2 := 26) rfl ?_
        refine g_getR hc fl_X12_7 rfl hx0 dX12_worthOf_26 (pc2 := 29) rfl ?_
        refine g_sipush hc dX12_worthOf_29 sp_253 (pc2 := 32) rfl ?_
        refine g_iconst hc dX12_worthOf_32 ic_2 (pc2 := 33) rfl ?_
        refine g_il3 hc dX12_worthOf_33 rfl (pc2 := 34) rfl ?_
        refine g_imul hc dX12_worthOf_34 (pc2 := 35) rfl ?_
        refine g_iadd hc dX12_worthOf_35 (pc2 := 36) rfl ?_
        refine g_iconst hc dX12_worthOf_36 ic_1 (pc2 := 37) rfl ?_
        refine g_iadd hc dX12_worthOf_37 (pc2 := 38) rfl ?_
        refine g_iald hc (kf_12_0 hx0) (kl_12_0 hx0) dX12_worthOf_38 (pc2 := 39) rfl (fun v4 => ?_)
        refine g_goto hc dX12_worthOf_39 (pc2 := 43) rfl ?_
        refine g_iadd hc dX12_worthOf_43 (pc2 := 44) rfl ?_
        refine g_nm (fun v5 => ?_)
        refine g_is2 hc dX12_worthOf_44 (by decide) (L2 := [some (q_rf w x0), some (.int x1), some (.int v5), some (.int x3)]) rfl (pc2 := 45) rfl ?_
        refine g_iinc hc dX12_worthOf_45 rfl (q_ii ic_1) (by decide) (L2 := [some (q_rf w x0), some (.int x1), some (.int v5), some (.int (x3 + 1))]) rfl (pc2 := 48) rfl ?_
        refine g_goto hc dX12_worthOf_48 (pc2 := 4) rfl ?_
        exact ih _ _ _
      · refine g_iconst hc dX12_worthOf_42 ic_0 (pc2 := 43) rfl ?_
        refine g_iadd hc dX12_worthOf_43 (pc2 := 44) rfl ?_
        refine g_nm (fun v6 => ?_)
        refine g_is2 hc dX12_worthOf_44 (by decide) (L2 := [some (q_rf w x0), some (.int x1), some (.int v6), some (.int x3)]) rfl (pc2 := 45) rfl ?_
        refine g_iinc hc dX12_worthOf_45 rfl (q_ii ic_1) (by decide) (L2 := [some (q_rf w x0), some (.int x1), some (.int v6), some (.int (x3 + 1))]) rfl (pc2 := 48) rfl ?_
        refine g_goto hc dX12_worthOf_48 (pc2 := 4) rfl ?_
        exact ih _ _ _
    · refine g_il2 hc dX12_worthOf_51 rfl (pc2 := 52) rfl ?_
      exact g_iret hc dX12_worthOf_52
set_option maxRecDepth 100000 in
set_option maxHeartbeats 4000000 in
theorem C_X12_worthOf {l : Launch} {w : q_Wd} {n : Nat} {t : Nat} {a0 : Int32} (ht : q_KD t = .inl 12) {s0 : q_Sto} : q_C l w yX12_worthOf cX12_worthOf 4 (some .int) (q_rm 0 0) [q_rf w t, .int a0] s0 (f_X12_worthOf n t a0 s0) := q_CofG [some (q_rf w t), some (.int a0), none, none] (by decide +kernel) rfl rfl (Nat.le_of_ble_eq_true rfl) fun cx hl hc => by
  have hc : q_ok w cx RX12 cX12_worthOf 4 (some .int) (q_rm 0 0) := hc
  rw [f_X12_worthOf]
  refine g_iconst hc dX12_worthOf_0 ic_0 (pc2 := 1) rfl ?_
  refine g_is2 hc dX12_worthOf_1 (by decide) (L2 := [some (q_rf w t), some (.int a0), some (.int 0), none]) rfl (pc2 := 2) rfl ?_
  refine g_iconst hc dX12_worthOf_2 ic_0 (pc2 := 3) rfl ?_
  refine g_is3 hc dX12_worthOf_3 (by decide) (L2 := [some (q_rf w t), some (.int a0), some (.int 0), some (.int 0)]) rfl (pc2 := 4) rfl ?_
  refine t_X12_worthOf_L4 hc ht  n _ _ _
set_option maxRecDepth 100000 in
set_option maxHeartbeats 4000000 in
def f_X12_laysLoads_L12 (n : Nat) (x0 : Nat) (x1 : Int32) (k38 : q_Sto → Option (Int32 × q_Sto)) : Nat → Int32 → q_Sto → Option (Int32 × q_Sto)
  | 0, _, _ => none
  | j + 1, x2, s0 =>
    if x2 < x1 then (
    if x2 = 0 then (
    q_st s0 (q_RF x0 28) x2 256 1 fun s5 =>
    f_X12_laysLoads_L12 n x0 x1 k38 j (x2 + 1) s5)
    else (
    q_st s0 (q_RF x0 28) x2 256 0 fun s6 =>
    f_X12_laysLoads_L12 n x0 x1 k38 j (x2 + 1) s6))
    else (
    k38 s0)
set_option maxRecDepth 100000 in
set_option maxHeartbeats 4000000 in
def f_X12_laysLoads_L73 (n : Nat) (x0 : Nat) (x1 : Int32) (x2 : Int32) (x3 : Int32) (k142 : q_Sto → Option (Int32 × q_Sto)) : Nat → Int32 → q_Sto → Option (Int32 × q_Sto)
  | 0, _, _ => none
  | j + 1, x4, s0 =>
    if x4 ≤ 0 then (
    k142 s0)
    else (
    q_ld s0 (q_RF x0 28) x3 256 fun v16 =>
    if v16 = 0 then (
    q_ld s0 (q_RF x0 28) (x3 &&& (x4 ^^^ (-1))) 256 fun v18 =>
    if v18 = 1 then (
    q_call (f_X12_weightOf n x0 x4 s0) fun r21 s20 =>
    q_ld s20 (q_RF x0 0) (95 + x2) 1790 fun v22 =>
    if r21 ≤ v22 then (
    q_st s20 (q_RF x0 28) x3 256 1 fun s24 =>
    q_nm ((x4 - 1) &&& x3) fun v25 =>
    f_X12_laysLoads_L73 n x0 x1 x2 x3 k142 j v25 s24)
    else (
    q_st s20 (q_RF x0 28) x3 256 0 fun s26 =>
    q_nm ((x4 - 1) &&& x3) fun v27 =>
    f_X12_laysLoads_L73 n x0 x1 x2 x3 k142 j v27 s26))
    else (
    q_st s0 (q_RF x0 28) x3 256 0 fun s28 =>
    q_nm ((x4 - 1) &&& x3) fun v29 =>
    f_X12_laysLoads_L73 n x0 x1 x2 x3 k142 j v29 s28))
    else (
    k142 s0))
set_option maxRecDepth 100000 in
set_option maxHeartbeats 4000000 in
def f_X12_laysLoads_L66 (n : Nat) (x0 : Nat) (x1 : Int32) (x2 : Int32) (k148 : q_Sto → Option (Int32 × q_Sto)) : Nat → Int32 → q_Sto → Option (Int32 × q_Sto)
  | 0, _, _ => none
  | j + 1, x3, s0 =>
    if x3 ≤ 0 then (
    k148 s0)
    else (
    f_X12_laysLoads_L73 n x0 x1 x2 x3 (fun  (s30 : q_Sto) =>
    f_X12_laysLoads_L66 n x0 x1 x2 k148 j (x3 + (-1)) s30) n x3 s0)
set_option maxRecDepth 100000 in
set_option maxHeartbeats 4000000 in
def f_X12_laysLoads_L40 (n : Nat) (x0 : Nat) (x1 : Int32) : Nat → Int32 → q_Sto → Option (Int32 × q_Sto)
  | 0, _, _ => none
  | j + 1, x2, s0 =>
    q_ld s0 (q_RF x0 0) 86 1790 fun v8 =>
    if x2 < v8 then (
    q_call (f_X12_isLame n x0 x2 s0) fun r11 s10 =>
    if r11 = 0 then (
    q_nm (x1 - 1) fun v13 =>
    f_X12_laysLoads_L66 n x0 x1 x2 (fun  (s31 : q_Sto) =>
    f_X12_laysLoads_L40 n x0 x1  j (x2 + 1) s31) n v13 s10)
    else (
    f_X12_laysLoads_L40 n x0 x1  j (x2 + 1) s10))
    else (
    some (0, s0))
set_option maxRecDepth 100000 in
set_option maxHeartbeats 4000000 in
def f_X12_laysLoads (n : Nat) (t : Nat) (s0 : q_Sto) : Option (Int32 × q_Sto) :=
  q_ld s0 (q_RF t 0) 93 1790 fun v1 =>
  q_nm (1 <<< (v1 &&& 31)) fun v2 =>
  f_X12_laysLoads_L12 n t v2 (fun  (s7 : q_Sto) =>
  f_X12_laysLoads_L40 n t v2  n 0 s7) n 0 s0
set_option maxRecDepth 100000 in
set_option maxHeartbeats 4000000 in
theorem t_X12_laysLoads_L12 {w : q_Wd} {cx : q_Cx} (hc : q_ok w cx RX12 cX12_laysLoads 5 (none) (q_rm 1 23)) {n : Nat} {x0 : Nat} {x1 : Int32} (hx0 : q_KD x0 = .inl 12) {k38 : q_Sto → Option (Int32 × q_Sto)} (hk38 : ∀  (s1 : q_Sto), q_G w cx 5 (none) 38 [some (q_rf w x0), some (.int x1), none, none, none] [] s1 (k38 s1)) :
    ∀ (j : Nat) (x2 : Int32) (s0 : q_Sto), q_G w cx 5 (none) 12 [some (q_rf w x0), some (.int x1), some (.int x2), none, none] [] s0 (f_X12_laysLoads_L12 n x0 x1 k38 j x2 s0) := by
  intro j
  induction j with
  | zero =>
    intro _ _
    rw [f_X12_laysLoads_L12]
    exact q_none
  | succ j ih =>
    intro x2 s0
    rw [f_X12_laysLoads_L12]
    refine g_il2 hc dX12_laysLoads_12 rfl (pc2 := 13) rfl ?_
    refine g_il1 hc dX12_laysLoads_13 rfl (pc2 := 14) rfl ?_
    refine g_icmp_ge hc dX12_laysLoads_14 (pc1 := 17) (pc2 := 38) rfl rfl (fun _ => ?_) (fun _ => ?_)
    · refine g_rl0 hc dX12_laysLoads_17 rfl (pc2 := 18) rfl ?_
      refine g_getR hc fl_X12_47 rfl hx0 dX12_laysLoads_18 (pc2 := 21) rfl ?_
      refine g_il2 hc dX12_laysLoads_21 rfl (pc2 := 22) rfl ?_
      refine g_il2 hc dX12_laysLoads_22 rfl (pc2 := 23) rfl ?_
      refine g_if_ne hc dX12_laysLoads_23 (pc1 := 26) (pc2 := 30) rfl rfl (fun _ => ?_) (fun _ => ?_)
      · refine g_iconst hc dX12_laysLoads_26 ic_1 (pc2 := 27) rfl ?_
        refine g_goto hc dX12_laysLoads_27 (pc2 := 31) rfl ?_
        refine g_iast hc (kf_12_28 hx0) (kl_12_28 hx0) dX12_laysLoads_31 (pc2 := 32) rfl (fun s5 => ?_)
        refine g_iinc hc dX12_laysLoads_32 rfl (q_ii ic_1) (by decide) (L2 := [some (q_rf w x0), some (.int x1), some (.int (x2 + 1)), none, none]) rfl (pc2 := 35) rfl ?_
        refine g_goto hc dX12_laysLoads_35 (pc2 := 12) rfl ?_
        exact ih _ _
      · refine g_iconst hc dX12_laysLoads_30 ic_0 (pc2 := 31) rfl ?_
        refine g_iast hc (kf_12_28 hx0) (kl_12_28 hx0) dX12_laysLoads_31 (pc2 := 32) rfl (fun s6 => ?_)
        refine g_iinc hc dX12_laysLoads_32 rfl (q_ii ic_1) (by decide) (L2 := [some (q_rf w x0), some (.int x1), some (.int (x2 + 1)), none, none]) rfl (pc2 := 35) rfl ?_
        refine g_goto hc dX12_laysLoads_35 (pc2 := 12) rfl ?_
        exact ih _ _
    · refine q_Gmask [true, true, false, true, true] (L2 := [some (q_rf w x0), some (.int x1), none, none, none]) rfl ?_
      exact hk38 _
set_option maxRecDepth 100000 in
set_option maxHeartbeats 4000000 in
theorem t_X12_laysLoads_L73 {w : q_Wd} {cx : q_Cx} (hc : q_ok w cx RX12 cX12_laysLoads 5 (none) (q_rm 1 23)) {n : Nat} {x0 : Nat} {x1 : Int32} {x2 : Int32} {x3 : Int32} (hx0 : q_KD x0 = .inl 12) {k142 : q_Sto → Option (Int32 × q_Sto)} (hk142 : ∀  (s1 : q_Sto), q_G w cx 5 (none) 142 [some (q_rf w x0), some (.int x1), some (.int x2), some (.int x3), none] [] s1 (k142 s1)) :
    ∀ (j : Nat) (x4 : Int32) (s0 : q_Sto), q_G w cx 5 (none) 73 [some (q_rf w x0), some (.int x1), some (.int x2), some (.int x3), some (.int x4)] [] s0 (f_X12_laysLoads_L73 n x0 x1 x2 x3 k142 j x4 s0) := by
  intro j
  induction j with
  | zero =>
    intro _ _
    rw [f_X12_laysLoads_L73]
    exact q_none
  | succ j ih =>
    intro x4 s0
    rw [f_X12_laysLoads_L73]
    refine g_iload hc dX12_laysLoads_73 rfl (pc2 := 75) rfl ?_
    refine g_if_le hc dX12_laysLoads_75 (pc1 := 142) (pc2 := 78) rfl rfl (fun _ => ?_) (fun _ => ?_)
    · refine q_Gmask [true, true, true, true, false] (L2 := [some (q_rf w x0), some (.int x1), some (.int x2), some (.int x3), none]) rfl ?_
      exact hk142 _
    · refine g_rl0 hc dX12_laysLoads_78 rfl (pc2 := 79) rfl ?_
      refine g_getR hc fl_X12_47 rfl hx0 dX12_laysLoads_79 (pc2 := 82) rfl ?_
      refine g_il3 hc dX12_laysLoads_82 rfl (pc2 := 83) rfl ?_
      refine g_iald hc (kf_12_28 hx0) (kl_12_28 hx0) dX12_laysLoads_83 (pc2 := 84) rfl (fun v16 => ?_)
      refine g_if_ne hc dX12_laysLoads_84 (pc1 := 87) (pc2 := 142) rfl rfl (fun _ => ?_) (fun _ => ?_)
      · refine g_rl0 hc dX12_laysLoads_87 rfl (pc2 := 88) rfl ?_
        refine g_getR hc fl_X12_47 rfl hx0 dX12_laysLoads_88 (pc2 := 91) rfl ?_
        refine g_il3 hc dX12_laysLoads_91 rfl (pc2 := 92) rfl ?_
        refine g_rl0 hc dX12_laysLoads_92 rfl (pc2 := 93) rfl ?_
        refine g_getR hc fl_X12_47 rfl hx0 dX12_laysLoads_93 (pc2 := 96) rfl ?_
        refine g_il3 hc dX12_laysLoads_96 rfl (pc2 := 97) rfl ?_
        refine g_iload hc dX12_laysLoads_97 rfl (pc2 := 99) rfl ?_
        refine g_iconst hc dX12_laysLoads_99 ic_m1 (pc2 := 100) rfl ?_
        refine g_ixor hc dX12_laysLoads_100 (pc2 := 101) rfl ?_
        refine g_iand hc dX12_laysLoads_101 (pc2 := 102) rfl ?_
        refine g_iald hc (kf_12_28 hx0) (kl_12_28 hx0) dX12_laysLoads_102 (pc2 := 103) rfl (fun v18 => ?_)
        refine g_iconst hc dX12_laysLoads_103 ic_1 (pc2 := 104) rfl ?_
        refine g_icmp_ne hc dX12_laysLoads_104 (pc1 := 107) (pc2 := 129) rfl rfl (fun _ => ?_) (fun _ => ?_)
        · refine g_rl0 hc dX12_laysLoads_107 rfl (pc2 := 108) rfl ?_
          refine g_iload hc dX12_laysLoads_108 rfl (pc2 := 110) rfl ?_
          refine g_callV1 hc (C_X12_weightOf hx0) mv_X12_weightOf ln_X12_416 hx0 ⟨by decide, by decide⟩ (Nat.le_of_ble_eq_true rfl) dX12_laysLoads_110 (pc2 := 113) rfl (fun r21 s20 => ?_)
          refine g_rl0 hc dX12_laysLoads_113 rfl (pc2 := 114) rfl ?_
          refine g_getR hc fl_X12_7 rfl hx0 dX12_laysLoads_114 (pc2 := 117) rfl ?_
          refine g_bipush hc dX12_laysLoads_117 bp_95 (pc2 := 119) rfl ?_
          refine g_il2 hc dX12_laysLoads_119 rfl (pc2 := 120) rfl ?_
          refine g_iadd hc dX12_laysLoads_120 (pc2 := 121) rfl ?_
          refine g_iald hc (kf_12_0 hx0) (kl_12_0 hx0) dX12_laysLoads_121 (pc2 := 122) rfl (fun v22 => ?_)
          refine g_icmp_gt hc dX12_laysLoads_122 (pc1 := 125) (pc2 := 129) rfl rfl (fun _ => ?_) (fun _ => ?_)
          · refine g_iconst hc dX12_laysLoads_125 ic_1 (pc2 := 126) rfl ?_
            refine g_goto hc dX12_laysLoads_126 (pc2 := 130) rfl ?_
            refine g_iast hc (kf_12_28 hx0) (kl_12_28 hx0) dX12_laysLoads_130 (pc2 := 131) rfl (fun s24 => ?_)
            refine g_iload hc dX12_laysLoads_131 rfl (pc2 := 133) rfl ?_
            refine g_iconst hc dX12_laysLoads_133 ic_1 (pc2 := 134) rfl ?_
            refine g_isub hc dX12_laysLoads_134 (pc2 := 135) rfl ?_
            refine g_il3 hc dX12_laysLoads_135 rfl (pc2 := 136) rfl ?_
            refine g_iand hc dX12_laysLoads_136 (pc2 := 137) rfl ?_
            refine g_nm (fun v25 => ?_)
            refine g_istore hc dX12_laysLoads_137 (by decide) (L2 := [some (q_rf w x0), some (.int x1), some (.int x2), some (.int x3), some (.int v25)]) rfl (pc2 := 139) rfl ?_
            refine g_goto hc dX12_laysLoads_139 (pc2 := 73) rfl ?_
            exact ih _ _
          · refine g_iconst hc dX12_laysLoads_129 ic_0 (pc2 := 130) rfl ?_
            refine g_iast hc (kf_12_28 hx0) (kl_12_28 hx0) dX12_laysLoads_130 (pc2 := 131) rfl (fun s26 => ?_)
            refine g_iload hc dX12_laysLoads_131 rfl (pc2 := 133) rfl ?_
            refine g_iconst hc dX12_laysLoads_133 ic_1 (pc2 := 134) rfl ?_
            refine g_isub hc dX12_laysLoads_134 (pc2 := 135) rfl ?_
            refine g_il3 hc dX12_laysLoads_135 rfl (pc2 := 136) rfl ?_
            refine g_iand hc dX12_laysLoads_136 (pc2 := 137) rfl ?_
            refine g_nm (fun v27 => ?_)
            refine g_istore hc dX12_laysLoads_137 (by decide) (L2 := [some (q_rf w x0), some (.int x1), some (.int x2), some (.int x3), some (.int v27)]) rfl (pc2 := 139) rfl ?_
            refine g_goto hc dX12_laysLoads_139 (pc2 := 73) rfl ?_
            exact ih _ _
        · refine g_iconst hc dX12_laysLoads_129 ic_0 (pc2 := 130) rfl ?_
          refine g_iast hc (kf_12_28 hx0) (kl_12_28 hx0) dX12_laysLoads_130 (pc2 := 131) rfl (fun s28 => ?_)
          refine g_iload hc dX12_laysLoads_131 rfl (pc2 := 133) rfl ?_
          refine g_iconst hc dX12_laysLoads_133 ic_1 (pc2 := 134) rfl ?_
          refine g_isub hc dX12_laysLoads_134 (pc2 := 135) rfl ?_
          refine g_il3 hc dX12_laysLoads_135 rfl (pc2 := 136) rfl ?_
          refine g_iand hc dX12_laysLoads_136 (pc2 := 137) rfl ?_
          refine g_nm (fun v29 => ?_)
          refine g_istore hc dX12_laysLoads_137 (by decide) (L2 := [some (q_rf w x0), some (.int x1), some (.int x2), some (.int x3), some (.int v29)]) rfl (pc2 := 139) rfl ?_
          refine g_goto hc dX12_laysLoads_139 (pc2 := 73) rfl ?_
          exact ih _ _
      · refine q_Gmask [true, true, true, true, false] (L2 := [some (q_rf w x0), some (.int x1), some (.int x2), some (.int x3), none]) rfl ?_
        exact hk142 _
set_option maxRecDepth 100000 in
set_option maxHeartbeats 4000000 in
theorem t_X12_laysLoads_L66 {w : q_Wd} {cx : q_Cx} (hc : q_ok w cx RX12 cX12_laysLoads 5 (none) (q_rm 1 23)) {n : Nat} {x0 : Nat} {x1 : Int32} {x2 : Int32} (hx0 : q_KD x0 = .inl 12) {k148 : q_Sto → Option (Int32 × q_Sto)} (hk148 : ∀  (s1 : q_Sto), q_G w cx 5 (none) 148 [some (q_rf w x0), some (.int x1), some (.int x2), none, none] [] s1 (k148 s1)) :
    ∀ (j : Nat) (x3 : Int32) (s0 : q_Sto), q_G w cx 5 (none) 66 [some (q_rf w x0), some (.int x1), some (.int x2), some (.int x3), none] [] s0 (f_X12_laysLoads_L66 n x0 x1 x2 k148 j x3 s0) := by
  intro j
  induction j with
  | zero =>
    intro _ _
    rw [f_X12_laysLoads_L66]
    exact q_none
  | succ j ih =>
    intro x3 s0
    rw [f_X12_laysLoads_L66]
    refine g_il3 hc dX12_laysLoads_66 rfl (pc2 := 67) rfl ?_
    refine g_if_le hc dX12_laysLoads_67 (pc1 := 148) (pc2 := 70) rfl rfl (fun _ => ?_) (fun _ => ?_)
    · refine q_Gmask [true, true, true, false, true] (L2 := [some (q_rf w x0), some (.int x1), some (.int x2), none, none]) rfl ?_
      exact hk148 _
    · refine g_il3 hc dX12_laysLoads_70 rfl (pc2 := 71) rfl ?_
      refine g_istore hc dX12_laysLoads_71 (by decide) (L2 := [some (q_rf w x0), some (.int x1), some (.int x2), some (.int x3), some (.int x3)]) rfl (pc2 := 73) rfl ?_
      refine t_X12_laysLoads_L73 hc hx0 (fun s30 => ?_) n _ _
      refine g_iinc hc dX12_laysLoads_142 rfl (q_ii ic_m1) (by decide) (L2 := [some (q_rf w x0), some (.int x1), some (.int x2), some (.int (x3 + (-1))), none]) rfl (pc2 := 145) rfl ?_
      refine g_goto hc dX12_laysLoads_145 (pc2 := 66) rfl ?_
      exact ih _ _
set_option maxRecDepth 100000 in
set_option maxHeartbeats 4000000 in
theorem t_X12_laysLoads_L40 {w : q_Wd} {cx : q_Cx} (hc : q_ok w cx RX12 cX12_laysLoads 5 (none) (q_rm 1 23)) {n : Nat} {x0 : Nat} {x1 : Int32} (hx0 : q_KD x0 = .inl 12)   :
    ∀ (j : Nat) (x2 : Int32) (s0 : q_Sto), q_G w cx 5 (none) 40 [some (q_rf w x0), some (.int x1), some (.int x2), none, none] [] s0 (f_X12_laysLoads_L40 n x0 x1  j x2 s0) := by
  intro j
  induction j with
  | zero =>
    intro _ _
    rw [f_X12_laysLoads_L40]
    exact q_none
  | succ j ih =>
    intro x2 s0
    rw [f_X12_laysLoads_L40]
    refine g_il2 hc dX12_laysLoads_40 rfl (pc2 := 41) rfl ?_
    refine g_rl0 hc dX12_laysLoads_41 rfl (pc2 := 42) rfl ?_
    refine g_getR hc fl_X12_7 rfl hx0 dX12_laysLoads_42 (pc2 := 45) rfl ?_
    refine g_bipush hc dX12_laysLoads_45 bp_86 (pc2 := 47) rfl ?_
    refine g_iald hc (kf_12_0 hx0) (kl_12_0 hx0) dX12_laysLoads_47 (pc2 := 48) rfl (fun v8 => ?_)
    refine g_icmp_ge hc dX12_laysLoads_48 (pc1 := 51) (pc2 := 154) rfl rfl (fun _ => ?_) (fun _ => ?_)
    · refine g_rl0 hc dX12_laysLoads_51 rfl (pc2 := 52) rfl ?_
      refine g_il2 hc dX12_laysLoads_52 rfl (pc2 := 53) rfl ?_
      refine g_callV1 hc (C_X12_isLame hx0) mv_X12_isLame ln_X12_336 hx0 ⟨by decide, by decide⟩ (Nat.le_of_ble_eq_true rfl) dX12_laysLoads_53 (pc2 := 56) rfl (fun r11 s10 => ?_)
      refine g_if_eq hc dX12_laysLoads_56 (pc1 := 62) (pc2 := 59) rfl rfl (fun _ => ?_) (fun _ => ?_)
      · refine g_il1 hc dX12_laysLoads_62 rfl (pc2 := 63) rfl ?_
        refine g_iconst hc dX12_laysLoads_63 ic_1 (pc2 := 64) rfl ?_
        refine g_isub hc dX12_laysLoads_64 (pc2 := 65) rfl ?_
        refine g_nm (fun v13 => ?_)
        refine g_is3 hc dX12_laysLoads_65 (by decide) (L2 := [some (q_rf w x0), some (.int x1), some (.int x2), some (.int v13), none]) rfl (pc2 := 66) rfl ?_
        refine t_X12_laysLoads_L66 hc hx0 (fun s31 => ?_) n _ _
        refine g_iinc hc dX12_laysLoads_148 rfl (q_ii ic_1) (by decide) (L2 := [some (q_rf w x0), some (.int x1), some (.int (x2 + 1)), none, none]) rfl (pc2 := 151) rfl ?_
        refine g_goto hc dX12_laysLoads_151 (pc2 := 40) rfl ?_
        exact ih _ _
      · refine g_goto hc dX12_laysLoads_59 (pc2 := 148) rfl ?_
        refine g_iinc hc dX12_laysLoads_148 rfl (q_ii ic_1) (by decide) (L2 := [some (q_rf w x0), some (.int x1), some (.int (x2 + 1)), none, none]) rfl (pc2 := 151) rfl ?_
        refine g_goto hc dX12_laysLoads_151 (pc2 := 40) rfl ?_
        exact ih _ _
    · exact g_vret hc dX12_laysLoads_154
set_option maxRecDepth 100000 in
set_option maxHeartbeats 4000000 in
theorem C_X12_laysLoads {l : Launch} {w : q_Wd} {n : Nat} {t : Nat} (ht : q_KD t = .inl 12) {s0 : q_Sto} : q_C l w yX12_laysLoads cX12_laysLoads 5 (none) (q_rm 1 23) [q_rf w t] s0 (f_X12_laysLoads n t s0) := q_CofG [some (q_rf w t), none, none, none, none] (by decide +kernel) rfl rfl (Nat.le_of_ble_eq_true rfl) fun cx hl hc => by
  have hc : q_ok w cx RX12 cX12_laysLoads 5 (none) (q_rm 1 23) := hc
  rw [f_X12_laysLoads]
  refine g_iconst hc dX12_laysLoads_0 ic_1 (pc2 := 1) rfl ?_
  refine g_rl0 hc dX12_laysLoads_1 rfl (pc2 := 2) rfl ?_
  refine g_getR hc fl_X12_7 rfl ht dX12_laysLoads_2 (pc2 := 5) rfl ?_
  refine g_bipush hc dX12_laysLoads_5 bp_93 (pc2 := 7) rfl ?_
  refine g_iald hc (kf_12_0 ht) (kl_12_0 ht) dX12_laysLoads_7 (pc2 := 8) rfl (fun v1 => ?_)
  refine g_ishl hc dX12_laysLoads_8 (pc2 := 9) rfl ?_
  refine g_nm (fun v2 => ?_)
  refine g_is1 hc dX12_laysLoads_9 (by decide) (L2 := [some (q_rf w t), some (.int v2), none, none, none]) rfl (pc2 := 10) rfl ?_
  refine g_iconst hc dX12_laysLoads_10 ic_0 (pc2 := 11) rfl ?_
  refine g_is2 hc dX12_laysLoads_11 (by decide) (L2 := [some (q_rf w t), some (.int v2), some (.int 0), none, none]) rfl (pc2 := 12) rfl ?_
  refine t_X12_laysLoads_L12 hc ht (fun s7 => ?_) n _ _
  refine g_iconst hc dX12_laysLoads_38 ic_0 (pc2 := 39) rfl ?_
  refine g_is2 hc dX12_laysLoads_39 (by decide) (L2 := [some (q_rf w t), some (.int v2), some (.int 0), none, none]) rfl (pc2 := 40) rfl ?_
  refine t_X12_laysLoads_L40 hc ht  n _ _
set_option maxRecDepth 100000 in
set_option maxHeartbeats 4000000 in
def f_X12_packs_L19 (n : Nat) (x0 : Nat) (x1 : Int32) (k63 : Int32 → q_Sto → Option (Int32 × q_Sto)) : Nat → Int32 → Int32 → q_Sto → Option (Int32 × q_Sto)
  | 0, _, _, _ => none
  | j + 1, x2, x3, s0 =>
    q_ld s0 (q_RF x0 0) 93 1790 fun v6 =>
    if x3 < (1 <<< (v6 &&& 31)) then (
    q_ld s0 (q_RF x0 28) x3 256 fun v8 =>
    if v8 = 1 then (
    q_call (f_X12_worthOf n x0 x3 s0) fun r11 s10 =>
    q_call (f_X12_worthOf n x0 x2 s10) fun r13 s12 =>
    if r11 ≤ r13 then (
    f_X12_packs_L19 n x0 x1 k63 j x2 (x3 + 1) s12)
    else (
    f_X12_packs_L19 n x0 x1 k63 j x3 (x3 + 1) s12))
    else (
    f_X12_packs_L19 n x0 x1 k63 j x2 (x3 + 1) s0))
    else (
    k63 x2 s0)
set_option maxRecDepth 100000 in
set_option maxHeartbeats 4000000 in
def f_X12_packs (n : Nat) (t : Nat) (a0 : Int32) (s0 : q_Sto) : Option (Int32 × q_Sto) :=
  q_call (f_X12_isIn n a0 0 1 s0) fun r2 s1 =>
  if r2 = 0 then (
  some ((-1), s1))
  else (
  q_callv (f_X12_laysLoads n t s1) fun s4 =>
  f_X12_packs_L19 n t a0 (fun (y15 : Int32) (s16 : q_Sto) =>
  if a0 = 0 then (
  q_call (f_X12_worthOf n t y15 s16) fun r19 s18 =>
  some (r19, s18))
  else (
  some (y15, s16))) n 0 1 s4)
set_option maxRecDepth 100000 in
set_option maxHeartbeats 4000000 in
theorem t_X12_packs_L19 {w : q_Wd} {cx : q_Cx} (hc : q_ok w cx RX12 cX12_packs 4 (some .int) (q_rm 2 47)) {n : Nat} {x0 : Nat} {x1 : Int32} (hx0 : q_KD x0 = .inl 12) {k63 : Int32 → q_Sto → Option (Int32 × q_Sto)} (hk63 : ∀ (y2 : Int32) (s1 : q_Sto), q_G w cx 4 (some .int) 63 [some (q_rf w x0), some (.int x1), some (.int y2), none] [] s1 (k63 y2 s1)) :
    ∀ (j : Nat) (x2 : Int32) (x3 : Int32) (s0 : q_Sto), q_G w cx 4 (some .int) 19 [some (q_rf w x0), some (.int x1), some (.int x2), some (.int x3)] [] s0 (f_X12_packs_L19 n x0 x1 k63 j x2 x3 s0) := by
  intro j
  induction j with
  | zero =>
    intro _ _ _
    rw [f_X12_packs_L19]
    exact q_none
  | succ j ih =>
    intro x2 x3 s0
    rw [f_X12_packs_L19]
    refine g_il3 hc dX12_packs_19 rfl (pc2 := 20) rfl ?_
    refine g_iconst hc dX12_packs_20 ic_1 (pc2 := 21) rfl ?_
    refine g_rl0 hc dX12_packs_21 rfl (pc2 := 22) rfl ?_
    refine g_getR hc fl_X12_7 rfl hx0 dX12_packs_22 (pc2 := 25) rfl ?_
    refine g_bipush hc dX12_packs_25 bp_93 (pc2 := 27) rfl ?_
    refine g_iald hc (kf_12_0 hx0) (kl_12_0 hx0) dX12_packs_27 (pc2 := 28) rfl (fun v6 => ?_)
    refine g_ishl hc dX12_packs_28 (pc2 := 29) rfl ?_
    refine g_icmp_ge hc dX12_packs_29 (pc1 := 32) (pc2 := 63) rfl rfl (fun _ => ?_) (fun _ => ?_)
    · refine g_rl0 hc dX12_packs_32 rfl (pc2 := 33) rfl ?_
      refine g_getR hc fl_X12_47 rfl hx0 dX12_packs_33 (pc2 := 36) rfl ?_
      refine g_il3 hc dX12_packs_36 rfl (pc2 := 37) rfl ?_
      refine g_iald hc (kf_12_28 hx0) (kl_12_28 hx0) dX12_packs_37 (pc2 := 38) rfl (fun v8 => ?_)
      refine g_iconst hc dX12_packs_38 ic_1 (pc2 := 39) rfl ?_
      refine g_icmp_ne hc dX12_packs_39 (pc1 := 42) (pc2 := 57) rfl rfl (fun _ => ?_) (fun _ => ?_)
      · refine g_rl0 hc dX12_packs_42 rfl (pc2 := 43) rfl ?_
        refine g_il3 hc dX12_packs_43 rfl (pc2 := 44) rfl ?_
        refine g_callV1 hc (C_X12_worthOf hx0) mv_X12_worthOf ln_X12_422 hx0 ⟨by decide, by decide⟩ (Nat.le_of_ble_eq_true rfl) dX12_packs_44 (pc2 := 47) rfl (fun r11 s10 => ?_)
        refine g_rl0 hc dX12_packs_47 rfl (pc2 := 48) rfl ?_
        refine g_il2 hc dX12_packs_48 rfl (pc2 := 49) rfl ?_
        refine g_callV1 hc (C_X12_worthOf hx0) mv_X12_worthOf ln_X12_422 hx0 ⟨by decide, by decide⟩ (Nat.le_of_ble_eq_true rfl) dX12_packs_49 (pc2 := 52) rfl (fun r13 s12 => ?_)
        refine g_icmp_le hc dX12_packs_52 (pc1 := 57) (pc2 := 55) rfl rfl (fun _ => ?_) (fun _ => ?_)
        · refine g_iinc hc dX12_packs_57 rfl (q_ii ic_1) (by decide) (L2 := [some (q_rf w x0), some (.int x1), some (.int x2), some (.int (x3 + 1))]) rfl (pc2 := 60) rfl ?_
          refine g_goto hc dX12_packs_60 (pc2 := 19) rfl ?_
          exact ih _ _ _
        · refine g_il3 hc dX12_packs_55 rfl (pc2 := 56) rfl ?_
          refine g_is2 hc dX12_packs_56 (by decide) (L2 := [some (q_rf w x0), some (.int x1), some (.int x3), some (.int x3)]) rfl (pc2 := 57) rfl ?_
          refine g_iinc hc dX12_packs_57 rfl (q_ii ic_1) (by decide) (L2 := [some (q_rf w x0), some (.int x1), some (.int x3), some (.int (x3 + 1))]) rfl (pc2 := 60) rfl ?_
          refine g_goto hc dX12_packs_60 (pc2 := 19) rfl ?_
          exact ih _ _ _
      · refine g_iinc hc dX12_packs_57 rfl (q_ii ic_1) (by decide) (L2 := [some (q_rf w x0), some (.int x1), some (.int x2), some (.int (x3 + 1))]) rfl (pc2 := 60) rfl ?_
        refine g_goto hc dX12_packs_60 (pc2 := 19) rfl ?_
        exact ih _ _ _
    · refine q_Gmask [true, true, true, false] (L2 := [some (q_rf w x0), some (.int x1), some (.int x2), none]) rfl ?_
      exact hk63 _ _
set_option maxRecDepth 100000 in
set_option maxHeartbeats 4000000 in
theorem C_X12_packs {l : Launch} {w : q_Wd} {n : Nat} {t : Nat} {a0 : Int32} (ht : q_KD t = .inl 12) {s0 : q_Sto} : q_C l w yX12_packs cX12_packs 4 (some .int) (q_rm 2 47) [q_rf w t, .int a0] s0 (f_X12_packs n t a0 s0) := q_CofG [some (q_rf w t), some (.int a0), none, none] (by decide +kernel) rfl rfl (Nat.le_of_ble_eq_true rfl) fun cx hl hc => by
  have hc : q_ok w cx RX12 cX12_packs 4 (some .int) (q_rm 2 47) := hc
  rw [f_X12_packs]
  refine g_il1 hc dX12_packs_0 rfl (pc2 := 1) rfl ?_
  refine g_iconst hc dX12_packs_1 ic_0 (pc2 := 2) rfl ?_
  refine g_iconst hc dX12_packs_2 ic_1 (pc2 := 3) rfl ?_
  refine g_callS3 hc C_X12_isIn mv_X12_isIn ln_X12_56 ⟨by decide, by decide⟩ (Nat.le_of_ble_eq_true rfl) dX12_packs_3 (pc2 := 6) rfl (fun r2 s1 => ?_)
  refine g_if_ne hc dX12_packs_6 (pc1 := 9) (pc2 := 11) rfl rfl (fun _ => ?_) (fun _ => ?_)
  · refine g_iconst hc dX12_packs_9 ic_m1 (pc2 := 10) rfl ?_
    exact g_iret hc dX12_packs_10
  · refine g_rl0 hc dX12_packs_11 rfl (pc2 := 12) rfl ?_
    refine g_callV0v hc (C_X12_laysLoads ht) mv_X12_laysLoads ln_X12_419 ht ⟨by decide, by decide⟩ (Nat.le_of_ble_eq_true rfl) dX12_packs_12 (pc2 := 15) rfl (fun s4 => ?_)
    refine g_iconst hc dX12_packs_15 ic_0 (pc2 := 16) rfl ?_
    refine g_is2 hc dX12_packs_16 (by decide) (L2 := [some (q_rf w t), some (.int a0), some (.int 0), none]) rfl (pc2 := 17) rfl ?_
    refine g_iconst hc dX12_packs_17 ic_1 (pc2 := 18) rfl ?_
    refine g_is3 hc dX12_packs_18 (by decide) (L2 := [some (q_rf w t), some (.int a0), some (.int 0), some (.int 1)]) rfl (pc2 := 19) rfl ?_
    refine t_X12_packs_L19 hc ht (fun y15 s16 => ?_) n _ _ _
    refine g_il1 hc dX12_packs_63 rfl (pc2 := 64) rfl ?_
    refine g_if_ne hc dX12_packs_64 (pc1 := 67) (pc2 := 75) rfl rfl (fun _ => ?_) (fun _ => ?_)
    · refine g_rl0 hc dX12_packs_67 rfl (pc2 := 68) rfl ?_
      refine g_il2 hc dX12_packs_68 rfl (pc2 := 69) rfl ?_
      refine g_callV1 hc (C_X12_worthOf ht) mv_X12_worthOf ln_X12_422 ht ⟨by decide, by decide⟩ (Nat.le_of_ble_eq_true rfl) dX12_packs_69 (pc2 := 72) rfl (fun r19 s18 => ?_)
      refine g_goto hc dX12_packs_72 (pc2 := 76) rfl ?_
      exact g_iret hc dX12_packs_76
    · refine g_il2 hc dX12_packs_75 rfl (pc2 := 76) rfl ?_
      exact g_iret hc dX12_packs_76
set_option maxRecDepth 100000 in
set_option maxHeartbeats 4000000 in
def f_X12_row_L75 (n : Nat) (x0 : Nat) (x1 : Int32) (x2 : Int32) (x3 : Int32) (x4 : Int32) (x5 : Int32) (x6 : Int32) (k130 : Int32 → q_Sto → Option (Int32 × q_Sto)) : Nat → Int32 → Int32 → q_Sto → Option (Int32 × q_Sto)
  | 0, _, _, _ => none
  | j + 1, x7, x8, s0 =>
    if x8 < x1 then (
    if x7 = 0 then (
    q_ld s0 (q_RF x0 29) x6 4096 fun v10 =>
    q_ld s0 (q_RF x0 0) (129 + x8) 1790 fun v11 =>
    if (((v10 >>> (x8 &&& 31)) &&& (v11 >>> (x5 &&& 31))) &&& 1) = 1 then (
    f_X12_row_L75 n x0 x1 x2 x3 x4 x5 x6 k130 j 1 (x8 + 1) s0)
    else (
    f_X12_row_L75 n x0 x1 x2 x3 x4 x5 x6 k130 j 0 (x8 + 1) s0))
    else (
    f_X12_row_L75 n x0 x1 x2 x3 x4 x5 x6 k130 j 1 (x8 + 1) s0))
    else (
    k130 x7 s0)
set_option maxRecDepth 100000 in
set_option maxHeartbeats 4000000 in
def f_X12_row_L32 (n : Nat) (x0 : Nat) (x1 : Int32) (x2 : Int32) (x3 : Int32) (k154 : Int32 → q_Sto → Option (Int32 × q_Sto)) : Nat → Int32 → Int32 → q_Sto → Option (Int32 × q_Sto)
  | 0, _, _, _ => none
  | j + 1, x4, x5, s0 =>
    if x5 < x1 then (
    if ((x3 >>> (x5 &&& 31)) &&& 1) = 0 then (
    f_X12_row_L32 n x0 x1 x2 x3 k154 j x4 (x5 + 1) s0)
    else (
    q_nm (x3 &&& ((1 <<< (x5 &&& 31)) ^^^ (-1))) fun v6 =>
    if v6 = 0 then (
    f_X12_row_L75 n x0 x1 x2 x3 x4 x5 v6 (fun (y13 : Int32) (s14 : q_Sto) =>
    if y13 = 0 then (
    q_nm (x4 ||| 0) fun v16 =>
    f_X12_row_L32 n x0 x1 x2 x3 k154 j v16 (x5 + 1) s14)
    else (
    q_nm (x4 ||| (1 <<< (x5 &&& 31))) fun v17 =>
    f_X12_row_L32 n x0 x1 x2 x3 k154 j v17 (x5 + 1) s14)) n 1 0 s0)
    else (
    f_X12_row_L75 n x0 x1 x2 x3 x4 x5 v6 (fun (y23 : Int32) (s24 : q_Sto) =>
    if y23 = 0 then (
    q_nm (x4 ||| 0) fun v26 =>
    f_X12_row_L32 n x0 x1 x2 x3 k154 j v26 (x5 + 1) s24)
    else (
    q_nm (x4 ||| (1 <<< (x5 &&& 31))) fun v27 =>
    f_X12_row_L32 n x0 x1 x2 x3 k154 j v27 (x5 + 1) s24)) n 0 0 s0)))
    else (
    k154 x4 s0)
set_option maxRecDepth 100000 in
set_option maxHeartbeats 4000000 in
def f_X12_row_L19 (n : Nat) (x0 : Nat) (x1 : Int32) : Nat → Int32 → Int32 → q_Sto → Option (Int32 × q_Sto)
  | 0, _, _, _ => none
  | j + 1, x2, x3, s0 =>
    if x3 < (1 <<< (x1 &&& 31)) then (
    f_X12_row_L32 n x0 x1 x2 x3 (fun (y28 : Int32) (s29 : q_Sto) =>
    q_st s29 (q_RF x0 29) x3 4096 y28 fun s30 =>
    if y28 = 0 then (
    f_X12_row_L19 n x0 x1  j x2 (x3 + 1) s30)
    else (
    q_call (f_X12_count n x3 s30) fun r33 s32 =>
    q_call (f_X12_greater n x2 r33 s32) fun r35 s34 =>
    f_X12_row_L19 n x0 x1  j r35 (x3 + 1) s34)) n 0 0 s0)
    else (
    some (x2, s0))
set_option maxRecDepth 100000 in
set_option maxHeartbeats 4000000 in
def f_X12_row (n : Nat) (t : Nat) (s0 : q_Sto) : Option (Int32 × q_Sto) :=
  q_ld s0 (q_RF t 0) 86 1790 fun v1 =>
  q_st s0 (q_RF t 29) 0 4096 0 fun s2 =>
  f_X12_row_L19 n t v1  n 0 1 s2
set_option maxRecDepth 100000 in
set_option maxHeartbeats 4000000 in
theorem t_X12_row_L75 {w : q_Wd} {cx : q_Cx} (hc : q_ok w cx RX12 cX12_row 9 (some .int) (q_rm 1 22)) {n : Nat} {x0 : Nat} {x1 : Int32} {x2 : Int32} {x3 : Int32} {x4 : Int32} {x5 : Int32} {x6 : Int32} (hx0 : q_KD x0 = .inl 12) {k130 : Int32 → q_Sto → Option (Int32 × q_Sto)} (hk130 : ∀ (y7 : Int32) (s1 : q_Sto), q_G w cx 9 (some .int) 130 [some (q_rf w x0), some (.int x1), some (.int x2), some (.int x3), some (.int x4), some (.int x5), none, some (.int y7), none] [] s1 (k130 y7 s1)) :
    ∀ (j : Nat) (x7 : Int32) (x8 : Int32) (s0 : q_Sto), q_G w cx 9 (some .int) 75 [some (q_rf w x0), some (.int x1), some (.int x2), some (.int x3), some (.int x4), some (.int x5), some (.int x6), some (.int x7), some (.int x8)] [] s0 (f_X12_row_L75 n x0 x1 x2 x3 x4 x5 x6 k130 j x7 x8 s0) := by
  intro j
  induction j with
  | zero =>
    intro _ _ _
    rw [f_X12_row_L75]
    exact q_none
  | succ j ih =>
    intro x7 x8 s0
    rw [f_X12_row_L75]
    refine g_iload hc dX12_row_75 rfl (pc2 := 77) rfl ?_
    refine g_il1 hc dX12_row_77 rfl (pc2 := 78) rfl ?_
    refine g_icmp_ge hc dX12_row_78 (pc1 := 81) (pc2 := 130) rfl rfl (fun _ => ?_) (fun _ => ?_)
    · refine g_iload hc dX12_row_81 rfl (pc2 := 83) rfl ?_
      refine g_if_ne hc dX12_row_83 (pc1 := 86) (pc2 := 117) rfl rfl (fun _ => ?_) (fun _ => ?_)
      · refine g_rl0 hc dX12_row_86 rfl (pc2 := 87) rfl ?_
        refine g_getR hc fl_X12_50 rfl hx0 dX12_row_87 (pc2 := 90) rfl ?_
        refine g_iload hc dX12_row_90 rfl (pc2 := 92) rfl ?_
        refine g_iald hc (kf_12_29 hx0) (kl_12_29 hx0) dX12_row_92 (pc2 := 93) rfl (fun v10 => ?_)
        refine g_iload hc dX12_row_93 rfl (pc2 := 95) rfl ?_
        refine g_ishr hc dX12_row_95 (pc2 := 96) rfl ?_
        refine g_rl0 hc dX12_row_96 rfl (pc2 := 97) rfl ?_
        refine g_getR hc fl_X12_7 rfl hx0 dX12_row_97 (pc2 := 100) rfl ?_
        refine g_sipush hc dX12_row_100 sp_129 (pc2 := 103) rfl ?_
        refine g_iload hc dX12_row_103 rfl (pc2 := 105) rfl ?_
        refine g_iadd hc dX12_row_105 (pc2 := 106) rfl ?_
        refine g_iald hc (kf_12_0 hx0) (kl_12_0 hx0) dX12_row_106 (pc2 := 107) rfl (fun v11 => ?_)
        refine g_iload hc dX12_row_107 rfl (pc2 := 109) rfl ?_
        refine g_ishr hc dX12_row_109 (pc2 := 110) rfl ?_
        refine g_iand hc dX12_row_110 (pc2 := 111) rfl ?_
        refine g_iconst hc dX12_row_111 ic_1 (pc2 := 112) rfl ?_
        refine g_iand hc dX12_row_112 (pc2 := 113) rfl ?_
        refine g_iconst hc dX12_row_113 ic_1 (pc2 := 114) rfl ?_
        refine g_icmp_ne hc dX12_row_114 (pc1 := 117) (pc2 := 121) rfl rfl (fun _ => ?_) (fun _ => ?_)
        · refine g_iconst hc dX12_row_117 ic_1 (pc2 := 118) rfl ?_
          refine g_goto hc dX12_row_118 (pc2 := 122) rfl ?_
          refine g_istore hc dX12_row_122 (by decide) (L2 := [some (q_rf w x0), some (.int x1), some (.int x2), some (.int x3), some (.int x4), some (.int x5), some (.int x6), some (.int 1), some (.int x8)]) rfl (pc2 := 124) rfl ?_
          refine g_iinc hc dX12_row_124 rfl (q_ii ic_1) (by decide) (L2 := [some (q_rf w x0), some (.int x1), some (.int x2), some (.int x3), some (.int x4), some (.int x5), some (.int x6), some (.int 1), some (.int (x8 + 1))]) rfl (pc2 := 127) rfl ?_
          refine g_goto hc dX12_row_127 (pc2 := 75) rfl ?_
          exact ih _ _ _
        · refine g_iconst hc dX12_row_121 ic_0 (pc2 := 122) rfl ?_
          refine g_istore hc dX12_row_122 (by decide) (L2 := [some (q_rf w x0), some (.int x1), some (.int x2), some (.int x3), some (.int x4), some (.int x5), some (.int x6), some (.int 0), some (.int x8)]) rfl (pc2 := 124) rfl ?_
          refine g_iinc hc dX12_row_124 rfl (q_ii ic_1) (by decide) (L2 := [some (q_rf w x0), some (.int x1), some (.int x2), some (.int x3), some (.int x4), some (.int x5), some (.int x6), some (.int 0), some (.int (x8 + 1))]) rfl (pc2 := 127) rfl ?_
          refine g_goto hc dX12_row_127 (pc2 := 75) rfl ?_
          exact ih _ _ _
      · refine g_iconst hc dX12_row_117 ic_1 (pc2 := 118) rfl ?_
        refine g_goto hc dX12_row_118 (pc2 := 122) rfl ?_
        refine g_istore hc dX12_row_122 (by decide) (L2 := [some (q_rf w x0), some (.int x1), some (.int x2), some (.int x3), some (.int x4), some (.int x5), some (.int x6), some (.int 1), some (.int x8)]) rfl (pc2 := 124) rfl ?_
        refine g_iinc hc dX12_row_124 rfl (q_ii ic_1) (by decide) (L2 := [some (q_rf w x0), some (.int x1), some (.int x2), some (.int x3), some (.int x4), some (.int x5), some (.int x6), some (.int 1), some (.int (x8 + 1))]) rfl (pc2 := 127) rfl ?_
        refine g_goto hc dX12_row_127 (pc2 := 75) rfl ?_
        exact ih _ _ _
    · refine q_Gmask [true, true, true, true, true, true, false, true, false] (L2 := [some (q_rf w x0), some (.int x1), some (.int x2), some (.int x3), some (.int x4), some (.int x5), none, some (.int x7), none]) rfl ?_
      exact hk130 _ _
set_option maxRecDepth 100000 in
set_option maxHeartbeats 4000000 in
theorem t_X12_row_L32 {w : q_Wd} {cx : q_Cx} (hc : q_ok w cx RX12 cX12_row 9 (some .int) (q_rm 1 22)) {n : Nat} {x0 : Nat} {x1 : Int32} {x2 : Int32} {x3 : Int32} (hx0 : q_KD x0 = .inl 12) {k154 : Int32 → q_Sto → Option (Int32 × q_Sto)} (hk154 : ∀ (y4 : Int32) (s1 : q_Sto), q_G w cx 9 (some .int) 154 [some (q_rf w x0), some (.int x1), some (.int x2), some (.int x3), some (.int y4), none, none, none, none] [] s1 (k154 y4 s1)) :
    ∀ (j : Nat) (x4 : Int32) (x5 : Int32) (s0 : q_Sto), q_G w cx 9 (some .int) 32 [some (q_rf w x0), some (.int x1), some (.int x2), some (.int x3), some (.int x4), some (.int x5), none, none, none] [] s0 (f_X12_row_L32 n x0 x1 x2 x3 k154 j x4 x5 s0) := by
  intro j
  induction j with
  | zero =>
    intro _ _ _
    rw [f_X12_row_L32]
    exact q_none
  | succ j ih =>
    intro x4 x5 s0
    rw [f_X12_row_L32]
    refine g_iload hc dX12_row_32 rfl (pc2 := 34) rfl ?_
    refine g_il1 hc dX12_row_34 rfl (pc2 := 35) rfl ?_
    refine g_icmp_ge hc dX12_row_35 (pc1 := 38) (pc2 := 154) rfl rfl (fun _ => ?_) (fun _ => ?_)
    · refine g_il3 hc dX12_row_38 rfl (pc2 := 39) rfl ?_
      refine g_iload hc dX12_row_39 rfl (pc2 := 41) rfl ?_
      refine g_ishr hc dX12_row_41 (pc2 := 42) rfl ?_
      refine g_iconst hc dX12_row_42 ic_1 (pc2 := 43) rfl ?_
      refine g_iand hc dX12_row_43 (pc2 := 44) rfl ?_
      refine g_if_ne hc dX12_row_44 (pc1 := 47) (pc2 := 50) rfl rfl (fun _ => ?_) (fun _ => ?_)
      · refine g_goto hc dX12_row_47 (pc2 := 148) rfl ?_
        refine g_iinc hc dX12_row_148 rfl (q_ii ic_1) (by decide) (L2 := [some (q_rf w x0), some (.int x1), some (.int x2), some (.int x3), some (.int x4), some (.int (x5 + 1)), none, none, none]) rfl (pc2 := 151) rfl ?_
        refine g_goto hc dX12_row_151 (pc2 := 32) rfl ?_
        exact ih _ _ _
      · refine g_il3 hc dX12_row_50 rfl (pc2 := 51) rfl ?_
        refine g_iconst hc dX12_row_51 ic_1 (pc2 := 52) rfl ?_
        refine g_iload hc dX12_row_52 rfl (pc2 := 54) rfl ?_
        refine g_ishl hc dX12_row_54 (pc2 := 55) rfl ?_
        refine g_iconst hc dX12_row_55 ic_m1 (pc2 := 56) rfl ?_
        refine g_ixor hc dX12_row_56 (pc2 := 57) rfl ?_
        refine g_iand hc dX12_row_57 (pc2 := 58) rfl ?_
        refine g_nm (fun v6 => ?_)
        refine g_istore hc dX12_row_58 (by decide) (L2 := [some (q_rf w x0), some (.int x1), some (.int x2), some (.int x3), some (.int x4), some (.int x5), some (.int v6), none, none]) rfl (pc2 := 60) rfl ?_
        refine g_iload hc dX12_row_60 rfl (pc2 := 62) rfl ?_
        refine g_if_ne hc dX12_row_62 (pc1 := 65) (pc2 := 69) rfl rfl (fun _ => ?_) (fun _ => ?_)
        · refine g_iconst hc dX12_row_65 ic_1 (pc2 := 66) rfl ?_
          refine g_goto hc dX12_row_66 (pc2 := 70) rfl ?_
          refine g_istore hc dX12_row_70 (by decide) (L2 := [some (q_rf w x0), some (.int x1), some (.int x2), some (.int x3), some (.int x4), some (.int x5), some (.int v6), some (.int 1), none]) rfl (pc2 := 72) rfl ?_
          refine g_iconst hc dX12_row_72 ic_0 (pc2 := 73) rfl ?_
          refine g_istore hc dX12_row_73 (by decide) (L2 := [some (q_rf w x0), some (.int x1), some (.int x2), some (.int x3), some (.int x4), some (.int x5), some (.int v6), some (.int 1), some (.int 0)]) rfl (pc2 := 75) rfl ?_
          refine t_X12_row_L75 hc hx0 (fun y13 s14 => ?_) n _ _ _
          refine g_iload hc dX12_row_130 rfl (pc2 := 132) rfl ?_
          refine g_iload hc dX12_row_132 rfl (pc2 := 134) rfl ?_
          refine g_if_eq hc dX12_row_134 (pc1 := 144) (pc2 := 137) rfl rfl (fun _ => ?_) (fun _ => ?_)
          · refine g_iconst hc dX12_row_144 ic_0 (pc2 := 145) rfl ?_
            refine g_ior hc dX12_row_145 (pc2 := 146) rfl ?_
            refine g_nm (fun v16 => ?_)
            refine g_istore hc dX12_row_146 (by decide) (L2 := [some (q_rf w x0), some (.int x1), some (.int x2), some (.int x3), some (.int v16), some (.int x5), none, some (.int y13), none]) rfl (pc2 := 148) rfl ?_
            refine g_iinc hc dX12_row_148 rfl (q_ii ic_1) (by decide) (L2 := [some (q_rf w x0), some (.int x1), some (.int x2), some (.int x3), some (.int v16), some (.int (x5 + 1)), none, some (.int y13), none]) rfl (pc2 := 151) rfl ?_
            refine g_goto hc dX12_row_151 (pc2 := 32) rfl ?_
            refine q_Gmask [true, true, true, true, true, true, true, false, true] (L2 := [some (q_rf w x0), some (.int x1), some (.int x2), some (.int x3), some (.int v16), some (.int (x5 + 1)), none, none, none]) rfl ?_
            exact ih _ _ _
          · refine g_iconst hc dX12_row_137 ic_1 (pc2 := 138) rfl ?_
            refine g_iload hc dX12_row_138 rfl (pc2 := 140) rfl ?_
            refine g_ishl hc dX12_row_140 (pc2 := 141) rfl ?_
            refine g_goto hc dX12_row_141 (pc2 := 145) rfl ?_
            refine g_ior hc dX12_row_145 (pc2 := 146) rfl ?_
            refine g_nm (fun v17 => ?_)
            refine g_istore hc dX12_row_146 (by decide) (L2 := [some (q_rf w x0), some (.int x1), some (.int x2), some (.int x3), some (.int v17), some (.int x5), none, some (.int y13), none]) rfl (pc2 := 148) rfl ?_
            refine g_iinc hc dX12_row_148 rfl (q_ii ic_1) (by decide) (L2 := [some (q_rf w x0), some (.int x1), some (.int x2), some (.int x3), some (.int v17), some (.int (x5 + 1)), none, some (.int y13), none]) rfl (pc2 := 151) rfl ?_
            refine g_goto hc dX12_row_151 (pc2 := 32) rfl ?_
            refine q_Gmask [true, true, true, true, true, true, true, false, true] (L2 := [some (q_rf w x0), some (.int x1), some (.int x2), some (.int x3), some (.int v17), some (.int (x5 + 1)), none, none, none]) rfl ?_
            exact ih _ _ _
        · refine g_iconst hc dX12_row_69 ic_0 (pc2 := 70) rfl ?_
          refine g_istore hc dX12_row_70 (by decide) (L2 := [some (q_rf w x0), some (.int x1), some (.int x2), some (.int x3), some (.int x4), some (.int x5), some (.int v6), some (.int 0), none]) rfl (pc2 := 72) rfl ?_
          refine g_iconst hc dX12_row_72 ic_0 (pc2 := 73) rfl ?_
          refine g_istore hc dX12_row_73 (by decide) (L2 := [some (q_rf w x0), some (.int x1), some (.int x2), some (.int x3), some (.int x4), some (.int x5), some (.int v6), some (.int 0), some (.int 0)]) rfl (pc2 := 75) rfl ?_
          refine t_X12_row_L75 hc hx0 (fun y23 s24 => ?_) n _ _ _
          refine g_iload hc dX12_row_130 rfl (pc2 := 132) rfl ?_
          refine g_iload hc dX12_row_132 rfl (pc2 := 134) rfl ?_
          refine g_if_eq hc dX12_row_134 (pc1 := 144) (pc2 := 137) rfl rfl (fun _ => ?_) (fun _ => ?_)
          · refine g_iconst hc dX12_row_144 ic_0 (pc2 := 145) rfl ?_
            refine g_ior hc dX12_row_145 (pc2 := 146) rfl ?_
            refine g_nm (fun v26 => ?_)
            refine g_istore hc dX12_row_146 (by decide) (L2 := [some (q_rf w x0), some (.int x1), some (.int x2), some (.int x3), some (.int v26), some (.int x5), none, some (.int y23), none]) rfl (pc2 := 148) rfl ?_
            refine g_iinc hc dX12_row_148 rfl (q_ii ic_1) (by decide) (L2 := [some (q_rf w x0), some (.int x1), some (.int x2), some (.int x3), some (.int v26), some (.int (x5 + 1)), none, some (.int y23), none]) rfl (pc2 := 151) rfl ?_
            refine g_goto hc dX12_row_151 (pc2 := 32) rfl ?_
            refine q_Gmask [true, true, true, true, true, true, true, false, true] (L2 := [some (q_rf w x0), some (.int x1), some (.int x2), some (.int x3), some (.int v26), some (.int (x5 + 1)), none, none, none]) rfl ?_
            exact ih _ _ _
          · refine g_iconst hc dX12_row_137 ic_1 (pc2 := 138) rfl ?_
            refine g_iload hc dX12_row_138 rfl (pc2 := 140) rfl ?_
            refine g_ishl hc dX12_row_140 (pc2 := 141) rfl ?_
            refine g_goto hc dX12_row_141 (pc2 := 145) rfl ?_
            refine g_ior hc dX12_row_145 (pc2 := 146) rfl ?_
            refine g_nm (fun v27 => ?_)
            refine g_istore hc dX12_row_146 (by decide) (L2 := [some (q_rf w x0), some (.int x1), some (.int x2), some (.int x3), some (.int v27), some (.int x5), none, some (.int y23), none]) rfl (pc2 := 148) rfl ?_
            refine g_iinc hc dX12_row_148 rfl (q_ii ic_1) (by decide) (L2 := [some (q_rf w x0), some (.int x1), some (.int x2), some (.int x3), some (.int v27), some (.int (x5 + 1)), none, some (.int y23), none]) rfl (pc2 := 151) rfl ?_
            refine g_goto hc dX12_row_151 (pc2 := 32) rfl ?_
            refine q_Gmask [true, true, true, true, true, true, true, false, true] (L2 := [some (q_rf w x0), some (.int x1), some (.int x2), some (.int x3), some (.int v27), some (.int (x5 + 1)), none, none, none]) rfl ?_
            exact ih _ _ _
    · refine q_Gmask [true, true, true, true, true, false, true, true, true] (L2 := [some (q_rf w x0), some (.int x1), some (.int x2), some (.int x3), some (.int x4), none, none, none, none]) rfl ?_
      exact hk154 _ _
set_option maxRecDepth 100000 in
set_option maxHeartbeats 4000000 in
theorem t_X12_row_L19 {w : q_Wd} {cx : q_Cx} (hc : q_ok w cx RX12 cX12_row 9 (some .int) (q_rm 1 22)) {n : Nat} {x0 : Nat} {x1 : Int32} (hx0 : q_KD x0 = .inl 12)   :
    ∀ (j : Nat) (x2 : Int32) (x3 : Int32) (s0 : q_Sto), q_G w cx 9 (some .int) 19 [some (q_rf w x0), some (.int x1), some (.int x2), some (.int x3), none, none, none, none, none] [] s0 (f_X12_row_L19 n x0 x1  j x2 x3 s0) := by
  intro j
  induction j with
  | zero =>
    intro _ _ _
    rw [f_X12_row_L19]
    exact q_none
  | succ j ih =>
    intro x2 x3 s0
    rw [f_X12_row_L19]
    refine g_il3 hc dX12_row_19 rfl (pc2 := 20) rfl ?_
    refine g_iconst hc dX12_row_20 ic_1 (pc2 := 21) rfl ?_
    refine g_il1 hc dX12_row_21 rfl (pc2 := 22) rfl ?_
    refine g_ishl hc dX12_row_22 (pc2 := 23) rfl ?_
    refine g_icmp_ge hc dX12_row_23 (pc1 := 26) (pc2 := 186) rfl rfl (fun _ => ?_) (fun _ => ?_)
    · refine g_iconst hc dX12_row_26 ic_0 (pc2 := 27) rfl ?_
      refine g_istore hc dX12_row_27 (by decide) (L2 := [some (q_rf w x0), some (.int x1), some (.int x2), some (.int x3), some (.int 0), none, none, none, none]) rfl (pc2 := 29) rfl ?_
      refine g_iconst hc dX12_row_29 ic_0 (pc2 := 30) rfl ?_
      refine g_istore hc dX12_row_30 (by decide) (L2 := [some (q_rf w x0), some (.int x1), some (.int x2), some (.int x3), some (.int 0), some (.int 0), none, none, none]) rfl (pc2 := 32) rfl ?_
      refine t_X12_row_L32 hc hx0 (fun y28 s29 => ?_) n _ _ _
      refine g_rl0 hc dX12_row_154 rfl (pc2 := 155) rfl ?_
      refine g_getR hc fl_X12_50 rfl hx0 dX12_row_155 (pc2 := 158) rfl ?_
      refine g_il3 hc dX12_row_158 rfl (pc2 := 159) rfl ?_
      refine g_iload hc dX12_row_159 rfl (pc2 := 161) rfl ?_
      refine g_iast hc (kf_12_29 hx0) (kl_12_29 hx0) dX12_row_161 (pc2 := 162) rfl (fun s30 => ?_)
      refine g_iload hc dX12_row_162 rfl (pc2 := 164) rfl ?_
      refine g_if_ne hc dX12_row_164 (pc1 := 167) (pc2 := 171) rfl rfl (fun _ => ?_) (fun _ => ?_)
      · refine g_il2 hc dX12_row_167 rfl (pc2 := 168) rfl ?_
        refine g_goto hc dX12_row_168 (pc2 := 179) rfl ?_
        refine g_is2 hc dX12_row_179 (by decide) (L2 := [some (q_rf w x0), some (.int x1), some (.int x2), some (.int x3), some (.int y28), none, none, none, none]) rfl (pc2 := 180) rfl ?_
        refine g_iinc hc dX12_row_180 rfl (q_ii ic_1) (by decide) (L2 := [some (q_rf w x0), some (.int x1), some (.int x2), some (.int (x3 + 1)), some (.int y28), none, none, none, none]) rfl (pc2 := 183) rfl ?_
        refine g_goto hc dX12_row_183 (pc2 := 19) rfl ?_
        refine q_Gmask [true, true, true, true, false, true, true, true, true] (L2 := [some (q_rf w x0), some (.int x1), some (.int x2), some (.int (x3 + 1)), none, none, none, none, none]) rfl ?_
        exact ih _ _ _
      · refine g_il2 hc dX12_row_171 rfl (pc2 := 172) rfl ?_
        refine g_il3 hc dX12_row_172 rfl (pc2 := 173) rfl ?_
        refine g_callS1 hc C_X12_count mv_X12_count ln_X12_320 ⟨by decide, by decide⟩ (Nat.le_of_ble_eq_true rfl) dX12_row_173 (pc2 := 176) rfl (fun r33 s32 => ?_)
        refine g_callS2 hc C_X12_greater mv_X12_greater ln_X12_307 ⟨by decide, by decide⟩ (Nat.le_of_ble_eq_true rfl) dX12_row_176 (pc2 := 179) rfl (fun r35 s34 => ?_)
        refine g_is2 hc dX12_row_179 (by decide) (L2 := [some (q_rf w x0), some (.int x1), some (.int r35), some (.int x3), some (.int y28), none, none, none, none]) rfl (pc2 := 180) rfl ?_
        refine g_iinc hc dX12_row_180 rfl (q_ii ic_1) (by decide) (L2 := [some (q_rf w x0), some (.int x1), some (.int r35), some (.int (x3 + 1)), some (.int y28), none, none, none, none]) rfl (pc2 := 183) rfl ?_
        refine g_goto hc dX12_row_183 (pc2 := 19) rfl ?_
        refine q_Gmask [true, true, true, true, false, true, true, true, true] (L2 := [some (q_rf w x0), some (.int x1), some (.int r35), some (.int (x3 + 1)), none, none, none, none, none]) rfl ?_
        exact ih _ _ _
    · refine g_il2 hc dX12_row_186 rfl (pc2 := 187) rfl ?_
      exact g_iret hc dX12_row_187
set_option maxRecDepth 100000 in
set_option maxHeartbeats 4000000 in
theorem C_X12_row {l : Launch} {w : q_Wd} {n : Nat} {t : Nat} (ht : q_KD t = .inl 12) {s0 : q_Sto} : q_C l w yX12_row cX12_row 9 (some .int) (q_rm 1 22) [q_rf w t] s0 (f_X12_row n t s0) := q_CofG [some (q_rf w t), none, none, none, none, none, none, none, none] (by decide +kernel) rfl rfl (Nat.le_of_ble_eq_true rfl) fun cx hl hc => by
  have hc : q_ok w cx RX12 cX12_row 9 (some .int) (q_rm 1 22) := hc
  rw [f_X12_row]
  refine g_rl0 hc dX12_row_0 rfl (pc2 := 1) rfl ?_
  refine g_getR hc fl_X12_7 rfl ht dX12_row_1 (pc2 := 4) rfl ?_
  refine g_bipush hc dX12_row_4 bp_86 (pc2 := 6) rfl ?_
  refine g_iald hc (kf_12_0 ht) (kl_12_0 ht) dX12_row_6 (pc2 := 7) rfl (fun v1 => ?_)
  refine g_is1 hc dX12_row_7 (by decide) (L2 := [some (q_rf w t), some (.int v1), none, none, none, none, none, none, none]) rfl (pc2 := 8) rfl ?_
  refine g_iconst hc dX12_row_8 ic_0 (pc2 := 9) rfl ?_
  refine g_is2 hc dX12_row_9 (by decide) (L2 := [some (q_rf w t), some (.int v1), some (.int 0), none, none, none, none, none, none]) rfl (pc2 := 10) rfl ?_
  refine g_rl0 hc dX12_row_10 rfl (pc2 := 11) rfl ?_
  refine g_getR hc fl_X12_50 rfl ht dX12_row_11 (pc2 := 14) rfl ?_
  refine g_iconst hc dX12_row_14 ic_0 (pc2 := 15) rfl ?_
  refine g_iconst hc dX12_row_15 ic_0 (pc2 := 16) rfl ?_
  refine g_iast hc (kf_12_29 ht) (kl_12_29 ht) dX12_row_16 (pc2 := 17) rfl (fun s2 => ?_)
  refine g_iconst hc dX12_row_17 ic_1 (pc2 := 18) rfl ?_
  refine g_is3 hc dX12_row_18 (by decide) (L2 := [some (q_rf w t), some (.int v1), some (.int 0), some (.int 1), none, none, none, none, none]) rfl (pc2 := 19) rfl ?_
  refine t_X12_row_L19 hc ht  n _ _ _
set_option maxRecDepth 100000 in
set_option maxHeartbeats 4000000 in
def f_X12_seen (n : Nat) (t : Nat) (a0 : Int32) (a1 : Int32) (a2 : Int32) (s0 : q_Sto) : Option (Int32 × q_Sto) :=
  if a0 = (-1) then (
  q_st s0 (q_RF t 0) 94 1790 0 fun s2 =>
  some (0, s2))
  else (
  q_call (f_X12_isMule n t a0 s0) fun r4 s3 =>
  if r4 = 0 then (
  some ((-1), s3))
  else (
  q_call (f_X12_isMan n t a1 s3) fun r7 s6 =>
  if r7 = 0 then (
  some ((-1), s6))
  else (
  q_ld s6 (q_RF t 0) 94 1790 fun v9 =>
  if v9 = 12 then (
  some ((-1), s6))
  else (
  q_ld s6 (q_RF t 0) 94 1790 fun v11 =>
  q_nm (269 + (3 * v11)) fun v12 =>
  q_st s6 (q_RF t 0) v12 1790 a0 fun s13 =>
  q_st s13 (q_RF t 0) (v12 + 1) 1790 a1 fun s14 =>
  q_jn (fun (y15 : Int32) (s16 : q_Sto) =>
    q_st s16 (q_RF t 0) (v12 + 2) 1790 y15 fun s17 =>
    q_ld s17 (q_RF t 0) 94 1790 fun v18 =>
    q_st s17 (q_RF t 0) 94 1790 (v18 + 1) fun s19 =>
    q_ld s19 (q_RF t 0) 94 1790 fun v20 =>
    some (v20, s19)) fun j95 =>
  if a2 = 0 then (
  j95 0 s14)
  else (
  j95 1 s14)))))
set_option maxRecDepth 100000 in
set_option maxHeartbeats 4000000 in
theorem C_X12_seen {l : Launch} {w : q_Wd} {n : Nat} {t : Nat} {a0 : Int32} {a1 : Int32} {a2 : Int32} (ht : q_KD t = .inl 12) {s0 : q_Sto} : q_C l w yX12_seen cX12_seen 5 (some .int) (q_rm 2 43) [q_rf w t, .int a0, .int a1, .int a2] s0 (f_X12_seen n t a0 a1 a2 s0) := q_CofG [some (q_rf w t), some (.int a0), some (.int a1), some (.int a2), none] (by decide +kernel) rfl rfl (Nat.le_of_ble_eq_true rfl) fun cx hl hc => by
  have hc : q_ok w cx RX12 cX12_seen 5 (some .int) (q_rm 2 43) := hc
  rw [f_X12_seen]
  refine g_il1 hc dX12_seen_0 rfl (pc2 := 1) rfl ?_
  refine g_iconst hc dX12_seen_1 ic_m1 (pc2 := 2) rfl ?_
  refine g_icmp_ne hc dX12_seen_2 (pc1 := 5) (pc2 := 15) rfl rfl (fun _ => ?_) (fun _ => ?_)
  · refine g_rl0 hc dX12_seen_5 rfl (pc2 := 6) rfl ?_
    refine g_getR hc fl_X12_7 rfl ht dX12_seen_6 (pc2 := 9) rfl ?_
    refine g_bipush hc dX12_seen_9 bp_94 (pc2 := 11) rfl ?_
    refine g_iconst hc dX12_seen_11 ic_0 (pc2 := 12) rfl ?_
    refine g_iast hc (kf_12_0 ht) (kl_12_0 ht) dX12_seen_12 (pc2 := 13) rfl (fun s2 => ?_)
    refine g_iconst hc dX12_seen_13 ic_0 (pc2 := 14) rfl ?_
    exact g_iret hc dX12_seen_14
  · refine g_rl0 hc dX12_seen_15 rfl (pc2 := 16) rfl ?_
    refine g_il1 hc dX12_seen_16 rfl (pc2 := 17) rfl ?_
    refine g_callV1 hc (C_X12_isMule ht) mv_X12_isMule ln_X12_72 ht ⟨by decide, by decide⟩ (Nat.le_of_ble_eq_true rfl) dX12_seen_17 (pc2 := 20) rfl (fun r4 s3 => ?_)
    refine g_if_eq hc dX12_seen_20 (pc1 := 43) (pc2 := 23) rfl rfl (fun _ => ?_) (fun _ => ?_)
    · refine g_iconst hc dX12_seen_43 ic_m1 (pc2 := 44) rfl ?_
      exact g_iret hc dX12_seen_44
    · refine g_rl0 hc dX12_seen_23 rfl (pc2 := 24) rfl ?_
      refine g_il2 hc dX12_seen_24 rfl (pc2 := 25) rfl ?_
      refine g_callV1 hc (C_X12_isMan ht) mv_X12_isMan ln_X12_75 ht ⟨by decide, by decide⟩ (Nat.le_of_ble_eq_true rfl) dX12_seen_25 (pc2 := 28) rfl (fun r7 s6 => ?_)
      refine g_if_eq hc dX12_seen_28 (pc1 := 43) (pc2 := 31) rfl rfl (fun _ => ?_) (fun _ => ?_)
      · refine g_iconst hc dX12_seen_43 ic_m1 (pc2 := 44) rfl ?_
        exact g_iret hc dX12_seen_44
      · refine g_rl0 hc dX12_seen_31 rfl (pc2 := 32) rfl ?_
        refine g_getR hc fl_X12_7 rfl ht dX12_seen_32 (pc2 := 35) rfl ?_
        refine g_bipush hc dX12_seen_35 bp_94 (pc2 := 37) rfl ?_
        refine g_iald hc (kf_12_0 ht) (kl_12_0 ht) dX12_seen_37 (pc2 := 38) rfl (fun v9 => ?_)
        refine g_bipush hc dX12_seen_38 bp_12 (pc2 := 40) rfl ?_
        refine g_icmp_ne hc dX12_seen_40 (pc1 := 43) (pc2 := 45) rfl rfl (fun _ => ?_) (fun _ => ?_)
        · refine g_iconst hc dX12_seen_43 ic_m1 (pc2 := 44) rfl ?_
          exact g_iret hc dX12_seen_44
        · refine g_sipush hc dX12_seen_45 sp_269 (pc2 := 48) rfl ?_
          refine g_iconst hc dX12_seen_48 ic_3 (pc2 := 49) rfl ?_
          refine g_rl0 hc dX12_seen_49 rfl (pc2 := 50) rfl ?_
          refine g_getR hc fl_X12_7 rfl ht dX12_seen_50 (pc2 := 53) rfl ?_
          refine g_bipush hc dX12_seen_53 bp_94 (pc2 := 55) rfl ?_
          refine g_iald hc (kf_12_0 ht) (kl_12_0 ht) dX12_seen_55 (pc2 := 56) rfl (fun v11 => ?_)
          refine g_imul hc dX12_seen_56 (pc2 := 57) rfl ?_
          refine g_iadd hc dX12_seen_57 (pc2 := 58) rfl ?_
          refine g_nm (fun v12 => ?_)
          refine g_istore hc dX12_seen_58 (by decide) (L2 := [some (q_rf w t), some (.int a0), some (.int a1), some (.int a2), some (.int v12)]) rfl (pc2 := 60) rfl ?_
          refine g_rl0 hc dX12_seen_60 rfl (pc2 := 61) rfl ?_
          refine g_getR hc fl_X12_7 rfl ht dX12_seen_61 (pc2 := 64) rfl ?_
          refine g_iload hc dX12_seen_64 rfl (pc2 := 66) rfl ?_
          refine g_il1 hc dX12_seen_66 rfl (pc2 := 67) rfl ?_
          refine g_iast hc (kf_12_0 ht) (kl_12_0 ht) dX12_seen_67 (pc2 := 68) rfl (fun s13 => ?_)
          refine g_rl0 hc dX12_seen_68 rfl (pc2 := 69) rfl ?_
          refine g_getR hc fl_X12_7 rfl ht dX12_seen_69 (pc2 := 72) rfl ?_
          refine g_iload hc dX12_seen_72 rfl (pc2 := 74) rfl ?_
          refine g_iconst hc dX12_seen_74 ic_1 (pc2 := 75) rfl ?_
          refine g_iadd hc dX12_seen_75 (pc2 := 76) rfl ?_
          refine g_il2 hc dX12_seen_76 rfl (pc2 := 77) rfl ?_
          refine g_iast hc (kf_12_0 ht) (kl_12_0 ht) dX12_seen_77 (pc2 := 78) rfl (fun s14 => ?_)
          refine g_rl0 hc dX12_seen_78 rfl (pc2 := 79) rfl ?_
          refine g_getR hc fl_X12_7 rfl ht dX12_seen_79 (pc2 := 82) rfl ?_
          refine g_iload hc dX12_seen_82 rfl (pc2 := 84) rfl ?_
          refine g_iconst hc dX12_seen_84 ic_2 (pc2 := 85) rfl ?_
          refine g_iadd hc dX12_seen_85 (pc2 := 86) rfl ?_
          refine g_il3 hc dX12_seen_86 rfl (pc2 := 87) rfl ?_
          refine g_jn (P := fun j95 => ∀ (y15 : Int32) (s16 : q_Sto), q_G w cx 5 (some .int) 95 [some (q_rf w t), none, none, none, none] [.int y15, .int (v12 + 2), q_rf w (q_RF t 0)] s16 (j95 y15 s16)) (fun y15 s16 => ?_) (fun j95 hj95 => ?_)
          · refine g_iast hc (kf_12_0 ht) (kl_12_0 ht) dX12_seen_95 (pc2 := 96) rfl (fun s17 => ?_)
            refine g_rl0 hc dX12_seen_96 rfl (pc2 := 97) rfl ?_
            refine g_getR hc fl_X12_7 rfl ht dX12_seen_97 (pc2 := 100) rfl ?_
            refine g_bipush hc dX12_seen_100 bp_94 (pc2 := 102) rfl ?_
            refine g_dup2 hc dX12_seen_102 rfl rfl (pc2 := 103) rfl ?_
            refine g_iald hc (kf_12_0 ht) (kl_12_0 ht) dX12_seen_103 (pc2 := 104) rfl (fun v18 => ?_)
            refine g_iconst hc dX12_seen_104 ic_1 (pc2 := 105) rfl ?_
            refine g_iadd hc dX12_seen_105 (pc2 := 106) rfl ?_
            refine g_iast hc (kf_12_0 ht) (kl_12_0 ht) dX12_seen_106 (pc2 := 107) rfl (fun s19 => ?_)
            refine g_rl0 hc dX12_seen_107 rfl (pc2 := 108) rfl ?_
            refine g_getR hc fl_X12_7 rfl ht dX12_seen_108 (pc2 := 111) rfl ?_
            refine g_bipush hc dX12_seen_111 bp_94 (pc2 := 113) rfl ?_
            refine g_iald hc (kf_12_0 ht) (kl_12_0 ht) dX12_seen_113 (pc2 := 114) rfl (fun v20 => ?_)
            exact g_iret hc dX12_seen_114
          · refine g_if_eq hc dX12_seen_87 (pc1 := 94) (pc2 := 90) rfl rfl (fun _ => ?_) (fun _ => ?_)
            · refine g_iconst hc dX12_seen_94 ic_0 (pc2 := 95) rfl ?_
              refine q_Gmask [true, false, false, false, false] (L2 := [some (q_rf w t), none, none, none, none]) rfl ?_
              exact hj95 _ _
            · refine g_iconst hc dX12_seen_90 ic_1 (pc2 := 91) rfl ?_
              refine g_goto hc dX12_seen_91 (pc2 := 95) rfl ?_
              refine q_Gmask [true, false, false, false, false] (L2 := [some (q_rf w t), none, none, none, none]) rfl ?_
              exact hj95 _ _
set_option maxRecDepth 100000 in
set_option maxHeartbeats 4000000 in
def f_X12_isFitting_L2 (n : Nat) (x0 : Nat) (x1 : Int32) : Nat → Int32 → q_Sto → Option (Int32 × q_Sto)
  | 0, _, _ => none
  | j + 1, x2, s0 =>
    q_ld s0 (q_RF x0 0) 94 1790 fun v1 =>
    if x2 < v1 then (
    q_nm (269 + (3 * x2)) fun v3 =>
    q_ld s0 (q_RF x0 0) v3 1790 fun v4 =>
    q_ld s0 (q_RF x0 0) (v3 + 1) 1790 fun v5 =>
    q_call (f_X12_likingOf n x0 v4 v5 s0) fun r7 s6 =>
    q_jn (fun (y8 : Int32) (s9 : q_Sto) =>
      q_ld s9 (q_RF x0 0) (v3 + 2) 1790 fun v10 =>
      if y8 = v10 then (
      f_X12_isFitting_L2 n x0 x1  j (x2 + 1) s9)
      else (
      some (0, s9))) fun j48 =>
    if r7 < x1 then (
    j48 0 s6)
    else (
    j48 1 s6))
    else (
    some (1, s0))
set_option maxRecDepth 100000 in
set_option maxHeartbeats 4000000 in
def f_X12_isFitting (n : Nat) (t : Nat) (a0 : Int32) (s0 : q_Sto) : Option (Int32 × q_Sto) :=
  f_X12_isFitting_L2 n t a0  n 0 s0
set_option maxRecDepth 100000 in
set_option maxHeartbeats 4000000 in
theorem t_X12_isFitting_L2 {w : q_Wd} {cx : q_Cx} (hc : q_ok w cx RX12 cX12_isFitting 4 (some .boolean) (q_rm 1 22)) {n : Nat} {x0 : Nat} {x1 : Int32} (hx0 : q_KD x0 = .inl 12)   :
    ∀ (j : Nat) (x2 : Int32) (s0 : q_Sto), q_G w cx 4 (some .boolean) 2 [some (q_rf w x0), some (.int x1), some (.int x2), none] [] s0 (f_X12_isFitting_L2 n x0 x1  j x2 s0) := by
  intro j
  induction j with
  | zero =>
    intro _ _
    rw [f_X12_isFitting_L2]
    exact q_none
  | succ j ih =>
    intro x2 s0
    rw [f_X12_isFitting_L2]
    refine g_il2 hc dX12_isFitting_2 rfl (pc2 := 3) rfl ?_
    refine g_rl0 hc dX12_isFitting_3 rfl (pc2 := 4) rfl ?_
    refine g_getR hc fl_X12_7 rfl hx0 dX12_isFitting_4 (pc2 := 7) rfl ?_
    refine g_bipush hc dX12_isFitting_7 bp_94 (pc2 := 9) rfl ?_
    refine g_iald hc (kf_12_0 hx0) (kl_12_0 hx0) dX12_isFitting_9 (pc2 := 10) rfl (fun v1 => ?_)
    refine g_icmp_ge hc dX12_isFitting_10 (pc1 := 13) (pc2 := 67) rfl rfl (fun _ => ?_) (fun _ => ?_)
    · refine g_sipush hc dX12_isFitting_13 sp_269 (pc2 := 16) rfl ?_
      refine g_iconst hc dX12_isFitting_16 ic_3 (pc2 := 17) rfl ?_
      refine g_il2 hc dX12_isFitting_17 rfl (pc2 := 18) rfl ?_
      refine g_imul hc dX12_isFitting_18 (pc2 := 19) rfl ?_
      refine g_iadd hc dX12_isFitting_19 (pc2 := 20) rfl ?_
      refine g_nm (fun v3 => ?_)
      refine g_is3 hc dX12_isFitting_20 (by decide) (L2 := [some (q_rf w x0), some (.int x1), some (.int x2), some (.int v3)]) rfl (pc2 := 21) rfl ?_
      refine g_rl0 hc dX12_isFitting_21 rfl (pc2 := 22) rfl ?_
      refine g_rl0 hc dX12_isFitting_22 rfl (pc2 := 23) rfl ?_
      refine g_getR hc fl_X12_7 rfl hx0 dX12_isFitting_23 (pc2 := 26) rfl ?_
      refine g_il3 hc dX12_isFitting_26 rfl (pc2 := 27) rfl ?_
      refine g_iald hc (kf_12_0 hx0) (kl_12_0 hx0) dX12_isFitting_27 (pc2 := 28) rfl (fun v4 => ?_)
      refine g_rl0 hc dX12_isFitting_28 rfl (pc2 := 29) rfl ?_
      refine g_getR hc fl_X12_7 rfl hx0 dX12_isFitting_29 (pc2 := 32) rfl ?_
      refine g_il3 hc dX12_isFitting_32 rfl (pc2 := 33) rfl ?_
      refine g_iconst hc dX12_isFitting_33 ic_1 (pc2 := 34) rfl ?_
      refine g_iadd hc dX12_isFitting_34 (pc2 := 35) rfl ?_
      refine g_iald hc (kf_12_0 hx0) (kl_12_0 hx0) dX12_isFitting_35 (pc2 := 36) rfl (fun v5 => ?_)
      refine g_callV2 hc (C_X12_likingOf hx0) mv_X12_likingOf ln_X12_314 hx0 ⟨by decide, by decide⟩ (Nat.le_of_ble_eq_true rfl) dX12_isFitting_36 (pc2 := 39) rfl (fun r7 s6 => ?_)
      refine g_il1 hc dX12_isFitting_39 rfl (pc2 := 40) rfl ?_
      refine g_jn (P := fun j48 => ∀ (y8 : Int32) (s9 : q_Sto), q_G w cx 4 (some .boolean) 48 [some (q_rf w x0), some (.int x1), some (.int x2), some (.int v3)] [.int y8] s9 (j48 y8 s9)) (fun y8 s9 => ?_) (fun j48 hj48 => ?_)
      · refine g_rl0 hc dX12_isFitting_48 rfl (pc2 := 49) rfl ?_
        refine g_getR hc fl_X12_7 rfl hx0 dX12_isFitting_49 (pc2 := 52) rfl ?_
        refine g_il3 hc dX12_isFitting_52 rfl (pc2 := 53) rfl ?_
        refine g_iconst hc dX12_isFitting_53 ic_2 (pc2 := 54) rfl ?_
        refine g_iadd hc dX12_isFitting_54 (pc2 := 55) rfl ?_
        refine g_iald hc (kf_12_0 hx0) (kl_12_0 hx0) dX12_isFitting_55 (pc2 := 56) rfl (fun v10 => ?_)
        refine g_icmp_eq hc dX12_isFitting_56 (pc1 := 61) (pc2 := 59) rfl rfl (fun _ => ?_) (fun _ => ?_)
        · refine g_iinc hc dX12_isFitting_61 rfl (q_ii ic_1) (by decide) (L2 := [some (q_rf w x0), some (.int x1), some (.int (x2 + 1)), some (.int v3)]) rfl (pc2 := 64) rfl ?_
          refine g_goto hc dX12_isFitting_64 (pc2 := 2) rfl ?_
          refine q_Gmask [true, true, true, false] (L2 := [some (q_rf w x0), some (.int x1), some (.int (x2 + 1)), none]) rfl ?_
          exact ih _ _
        · refine g_iconst hc dX12_isFitting_59 ic_0 (pc2 := 60) rfl ?_
          exact g_zret0 (by decide) hc dX12_isFitting_60
      · refine g_icmp_lt hc dX12_isFitting_40 (pc1 := 47) (pc2 := 43) rfl rfl (fun _ => ?_) (fun _ => ?_)
        · refine g_iconst hc dX12_isFitting_47 ic_0 (pc2 := 48) rfl ?_
          exact hj48 _ _
        · refine g_iconst hc dX12_isFitting_43 ic_1 (pc2 := 44) rfl ?_
          refine g_goto hc dX12_isFitting_44 (pc2 := 48) rfl ?_
          exact hj48 _ _
    · refine g_iconst hc dX12_isFitting_67 ic_1 (pc2 := 68) rfl ?_
      exact g_zret0 (by decide) hc dX12_isFitting_68
set_option maxRecDepth 100000 in
set_option maxHeartbeats 4000000 in
theorem C_X12_isFitting {l : Launch} {w : q_Wd} {n : Nat} {t : Nat} {a0 : Int32} (ht : q_KD t = .inl 12) {s0 : q_Sto} : q_C l w yX12_isFitting cX12_isFitting 4 (some .boolean) (q_rm 1 22) [q_rf w t, .int a0] s0 (f_X12_isFitting n t a0 s0) := q_CofG [some (q_rf w t), some (.int a0), none, none] (by decide +kernel) rfl rfl (Nat.le_of_ble_eq_true rfl) fun cx hl hc => by
  have hc : q_ok w cx RX12 cX12_isFitting 4 (some .boolean) (q_rm 1 22) := hc
  rw [f_X12_isFitting]
  refine g_iconst hc dX12_isFitting_0 ic_0 (pc2 := 1) rfl ?_
  refine g_is2 hc dX12_isFitting_1 (by decide) (L2 := [some (q_rf w t), some (.int a0), some (.int 0), none]) rfl (pc2 := 2) rfl ?_
  refine t_X12_isFitting_L2 hc ht  n _ _
set_option maxRecDepth 100000 in
set_option maxHeartbeats 4000000 in
def f_X12_fitting_L4 (n : Nat) (x0 : Nat) (x1 : Int32) : Nat → Int32 → Int32 → q_Sto → Option (Int32 × q_Sto)
  | 0, _, _, _ => none
  | j + 1, x2, x3, s0 =>
    if x3 ≤ x1 then (
    q_call (f_X12_isFitting n x0 x3 s0) fun r3 s2 =>
    if r3 = 0 then (
    q_nm (x2 + 0) fun v5 =>
    f_X12_fitting_L4 n x0 x1  j v5 (x3 + 1) s2)
    else (
    q_nm (x2 + 1) fun v6 =>
    f_X12_fitting_L4 n x0 x1  j v6 (x3 + 1) s2))
    else (
    some (x2, s0))
set_option maxRecDepth 100000 in
set_option maxHeartbeats 4000000 in
def f_X12_fitting (n : Nat) (t : Nat) (a0 : Int32) (s0 : q_Sto) : Option (Int32 × q_Sto) :=
  f_X12_fitting_L4 n t a0  n 0 0 s0
set_option maxRecDepth 100000 in
set_option maxHeartbeats 4000000 in
theorem t_X12_fitting_L4 {w : q_Wd} {cx : q_Cx} (hc : q_ok w cx RX12 cX12_fitting 4 (some .int) (q_rm 2 45)) {n : Nat} {x0 : Nat} {x1 : Int32} (hx0 : q_KD x0 = .inl 12)   :
    ∀ (j : Nat) (x2 : Int32) (x3 : Int32) (s0 : q_Sto), q_G w cx 4 (some .int) 4 [some (q_rf w x0), some (.int x1), some (.int x2), some (.int x3)] [] s0 (f_X12_fitting_L4 n x0 x1  j x2 x3 s0) := by
  intro j
  induction j with
  | zero =>
    intro _ _ _
    rw [f_X12_fitting_L4]
    exact q_none
  | succ j ih =>
    intro x2 x3 s0
    rw [f_X12_fitting_L4]
    refine g_il3 hc dX12_fitting_4 rfl (pc2 := 5) rfl ?_
    refine g_il1 hc dX12_fitting_5 rfl (pc2 := 6) rfl ?_
    refine g_icmp_gt hc dX12_fitting_6 (pc1 := 9) (pc2 := 31) rfl rfl (fun _ => ?_) (fun _ => ?_)
    · refine g_il2 hc dX12_fitting_9 rfl (pc2 := 10) rfl ?_
      refine g_rl0 hc dX12_fitting_10 rfl (pc2 := 11) rfl ?_
      refine g_il3 hc dX12_fitting_11 rfl (pc2 := 12) rfl ?_
      refine g_callV1 hc (C_X12_isFitting hx0) mv_X12_isFitting ln_X12_425 hx0 ⟨by decide, by decide⟩ (Nat.le_of_ble_eq_true rfl) dX12_fitting_12 (pc2 := 15) rfl (fun r3 s2 => ?_)
      refine g_if_eq hc dX12_fitting_15 (pc1 := 22) (pc2 := 18) rfl rfl (fun _ => ?_) (fun _ => ?_)
      · refine g_iconst hc dX12_fitting_22 ic_0 (pc2 := 23) rfl ?_
        refine g_iadd hc dX12_fitting_23 (pc2 := 24) rfl ?_
        refine g_nm (fun v5 => ?_)
        refine g_is2 hc dX12_fitting_24 (by decide) (L2 := [some (q_rf w x0), some (.int x1), some (.int v5), some (.int x3)]) rfl (pc2 := 25) rfl ?_
        refine g_iinc hc dX12_fitting_25 rfl (q_ii ic_1) (by decide) (L2 := [some (q_rf w x0), some (.int x1), some (.int v5), some (.int (x3 + 1))]) rfl (pc2 := 28) rfl ?_
        refine g_goto hc dX12_fitting_28 (pc2 := 4) rfl ?_
        exact ih _ _ _
      · refine g_iconst hc dX12_fitting_18 ic_1 (pc2 := 19) rfl ?_
        refine g_goto hc dX12_fitting_19 (pc2 := 23) rfl ?_
        refine g_iadd hc dX12_fitting_23 (pc2 := 24) rfl ?_
        refine g_nm (fun v6 => ?_)
        refine g_is2 hc dX12_fitting_24 (by decide) (L2 := [some (q_rf w x0), some (.int x1), some (.int v6), some (.int x3)]) rfl (pc2 := 25) rfl ?_
        refine g_iinc hc dX12_fitting_25 rfl (q_ii ic_1) (by decide) (L2 := [some (q_rf w x0), some (.int x1), some (.int v6), some (.int (x3 + 1))]) rfl (pc2 := 28) rfl ?_
        refine g_goto hc dX12_fitting_28 (pc2 := 4) rfl ?_
        exact ih _ _ _
    · refine g_il2 hc dX12_fitting_31 rfl (pc2 := 32) rfl ?_
      exact g_iret hc dX12_fitting_32
set_option maxRecDepth 100000 in
set_option maxHeartbeats 4000000 in
theorem C_X12_fitting {l : Launch} {w : q_Wd} {n : Nat} {t : Nat} {a0 : Int32} (ht : q_KD t = .inl 12) {s0 : q_Sto} : q_C l w yX12_fitting cX12_fitting 4 (some .int) (q_rm 2 45) [q_rf w t, .int a0] s0 (f_X12_fitting n t a0 s0) := q_CofG [some (q_rf w t), some (.int a0), none, none] (by decide +kernel) rfl rfl (Nat.le_of_ble_eq_true rfl) fun cx hl hc => by
  have hc : q_ok w cx RX12 cX12_fitting 4 (some .int) (q_rm 2 45) := hc
  rw [f_X12_fitting]
  refine g_iconst hc dX12_fitting_0 ic_0 (pc2 := 1) rfl ?_
  refine g_is2 hc dX12_fitting_1 (by decide) (L2 := [some (q_rf w t), some (.int a0), some (.int 0), none]) rfl (pc2 := 2) rfl ?_
  refine g_iconst hc dX12_fitting_2 ic_0 (pc2 := 3) rfl ?_
  refine g_is3 hc dX12_fitting_3 (by decide) (L2 := [some (q_rf w t), some (.int a0), some (.int 0), some (.int 0)]) rfl (pc2 := 4) rfl ?_
  refine t_X12_fitting_L4 hc ht  n _ _ _
