set_option maxRecDepth 100000 in
set_option maxHeartbeats 4000000 in
def f_X12_meets_L18 (n : Nat) (x0 : Nat) (x1 : Int32) (x2 : Int32) : Nat → Int32 → q_Sto → Option (Int32 × q_Sto)
  | 0, _, _ => none
  | j + 1, x3, s0 =>
    if x3 < 100 then (
    q_call (f_X12_campAt n x0 x1 x3 s0) fun r9 s8 =>
    if r9 = (-1) then (
    f_X12_meets_L18 n x0 x1 x2  j (x3 + 1) s8)
    else (
    q_call (f_X12_campAt n x0 x1 x3 s8) fun r12 s11 =>
    q_call (f_X12_campAt n x0 x2 x3 s11) fun r14 s13 =>
    if r12 = r14 then (
    some (x3, s13))
    else (
    f_X12_meets_L18 n x0 x1 x2  j (x3 + 1) s13)))
    else (
    some ((-1), s0))
set_option maxRecDepth 100000 in
set_option maxHeartbeats 4000000 in
def f_X12_meets (n : Nat) (t : Nat) (a0 : Int32) (a1 : Int32) (s0 : q_Sto) : Option (Int32 × q_Sto) :=
  q_call (f_X12_isCamp n a0 s0) fun r2 s1 =>
  if r2 = 0 then (
  some ((-1), s1))
  else (
  q_call (f_X12_isCamp n a1 s1) fun r5 s4 =>
  if r5 = 0 then (
  some ((-1), s4))
  else (
  f_X12_meets_L18 n t a0 a1  n 0 s4))
set_option maxRecDepth 100000 in
set_option maxHeartbeats 4000000 in
theorem t_X12_meets_L18 {w : q_Wd} {cx : q_Cx} (hc : q_ok w cx RX12 cX12_meets 4 (some .int) (q_rm 2 47)) {n : Nat} {x0 : Nat} {x1 : Int32} {x2 : Int32} (hx0 : q_KD x0 = .inl 12)   :
    ∀ (j : Nat) (x3 : Int32) (s0 : q_Sto), q_G w cx 4 (some .int) 18 [some (q_rf w x0), some (.int x1), some (.int x2), some (.int x3)] [] s0 (f_X12_meets_L18 n x0 x1 x2  j x3 s0) := by
  intro j
  induction j with
  | zero =>
    intro _ _
    rw [f_X12_meets_L18]
    exact q_none
  | succ j ih =>
    intro x3 s0
    rw [f_X12_meets_L18]
    refine g_il3 hc dX12_meets_18 rfl (pc2 := 19) rfl ?_
    refine g_bipush hc dX12_meets_19 bp_100 (pc2 := 21) rfl ?_
    refine g_icmp_ge hc dX12_meets_21 (pc1 := 24) (pc2 := 57) rfl rfl (fun _ => ?_) (fun _ => ?_)
    · refine g_rl0 hc dX12_meets_24 rfl (pc2 := 25) rfl ?_
      refine g_il1 hc dX12_meets_25 rfl (pc2 := 26) rfl ?_
      refine g_il3 hc dX12_meets_26 rfl (pc2 := 27) rfl ?_
      refine g_callV2 hc (C_X12_campAt hx0) mv_X12_campAt ln_X12_446 hx0 ⟨by decide, by decide⟩ (Nat.le_of_ble_eq_true rfl) dX12_meets_27 (pc2 := 30) rfl (fun r9 s8 => ?_)
      refine g_iconst hc dX12_meets_30 ic_m1 (pc2 := 31) rfl ?_
      refine g_icmp_eq hc dX12_meets_31 (pc1 := 51) (pc2 := 34) rfl rfl (fun _ => ?_) (fun _ => ?_)
      · refine g_iinc hc dX12_meets_51 rfl (q_ii ic_1) (by decide) (L2 := [some (q_rf w x0), some (.int x1), some (.int x2), some (.int (x3 + 1))]) rfl (pc2 := 54) rfl ?_
        refine g_goto hc dX12_meets_54 (pc2 := 18) rfl ?_
        exact ih _ _
      · refine g_rl0 hc dX12_meets_34 rfl (pc2 := 35) rfl ?_
        refine g_il1 hc dX12_meets_35 rfl (pc2 := 36) rfl ?_
        refine g_il3 hc dX12_meets_36 rfl (pc2 := 37) rfl ?_
        refine g_callV2 hc (C_X12_campAt hx0) mv_X12_campAt ln_X12_446 hx0 ⟨by decide, by decide⟩ (Nat.le_of_ble_eq_true rfl) dX12_meets_37 (pc2 := 40) rfl (fun r12 s11 => ?_)
        refine g_rl0 hc dX12_meets_40 rfl (pc2 := 41) rfl ?_
        refine g_il2 hc dX12_meets_41 rfl (pc2 := 42) rfl ?_
        refine g_il3 hc dX12_meets_42 rfl (pc2 := 43) rfl ?_
        refine g_callV2 hc (C_X12_campAt hx0) mv_X12_campAt ln_X12_446 hx0 ⟨by decide, by decide⟩ (Nat.le_of_ble_eq_true rfl) dX12_meets_43 (pc2 := 46) rfl (fun r14 s13 => ?_)
        refine g_icmp_ne hc dX12_meets_46 (pc1 := 49) (pc2 := 51) rfl rfl (fun _ => ?_) (fun _ => ?_)
        · refine g_il3 hc dX12_meets_49 rfl (pc2 := 50) rfl ?_
          exact g_iret hc dX12_meets_50
        · refine g_iinc hc dX12_meets_51 rfl (q_ii ic_1) (by decide) (L2 := [some (q_rf w x0), some (.int x1), some (.int x2), some (.int (x3 + 1))]) rfl (pc2 := 54) rfl ?_
          refine g_goto hc dX12_meets_54 (pc2 := 18) rfl ?_
          exact ih _ _
    · refine g_iconst hc dX12_meets_57 ic_m1 (pc2 := 58) rfl ?_
      exact g_iret hc dX12_meets_58
set_option maxRecDepth 100000 in
set_option maxHeartbeats 4000000 in
theorem C_X12_meets {l : Launch} {w : q_Wd} {n : Nat} {t : Nat} {a0 : Int32} {a1 : Int32} (ht : q_KD t = .inl 12) {s0 : q_Sto} : q_C l w yX12_meets cX12_meets 4 (some .int) (q_rm 2 47) [q_rf w t, .int a0, .int a1] s0 (f_X12_meets n t a0 a1 s0) := q_CofG [some (q_rf w t), some (.int a0), some (.int a1), none] (by decide +kernel) rfl rfl (Nat.le_of_ble_eq_true rfl) fun cx hl hc => by
  have hc : q_ok w cx RX12 cX12_meets 4 (some .int) (q_rm 2 47) := hc
  rw [f_X12_meets]
  refine g_il1 hc dX12_meets_0 rfl (pc2 := 1) rfl ?_
  refine g_callS1 hc C_X12_isCamp mv_X12_isCamp ln_X12_68 ⟨by decide, by decide⟩ (Nat.le_of_ble_eq_true rfl) dX12_meets_1 (pc2 := 4) rfl (fun r2 s1 => ?_)
  refine g_if_eq hc dX12_meets_4 (pc1 := 14) (pc2 := 7) rfl rfl (fun _ => ?_) (fun _ => ?_)
  · refine g_iconst hc dX12_meets_14 ic_m1 (pc2 := 15) rfl ?_
    exact g_iret hc dX12_meets_15
  · refine g_il2 hc dX12_meets_7 rfl (pc2 := 8) rfl ?_
    refine g_callS1 hc C_X12_isCamp mv_X12_isCamp ln_X12_68 ⟨by decide, by decide⟩ (Nat.le_of_ble_eq_true rfl) dX12_meets_8 (pc2 := 11) rfl (fun r5 s4 => ?_)
    refine g_if_ne hc dX12_meets_11 (pc1 := 14) (pc2 := 16) rfl rfl (fun _ => ?_) (fun _ => ?_)
    · refine g_iconst hc dX12_meets_14 ic_m1 (pc2 := 15) rfl ?_
      exact g_iret hc dX12_meets_15
    · refine g_iconst hc dX12_meets_16 ic_0 (pc2 := 17) rfl ?_
      refine g_is3 hc dX12_meets_17 (by decide) (L2 := [some (q_rf w t), some (.int a0), some (.int a1), some (.int 0)]) rfl (pc2 := 18) rfl ?_
      refine t_X12_meets_L18 hc ht  n _ _
set_option maxRecDepth 100000 in
set_option maxHeartbeats 4000000 in
def f_X12_image_L15 (n : Nat) (x0 : Nat) (x1 : Int32) (k59 : q_Sto → Option (Int32 × q_Sto)) : Nat → Int32 → q_Sto → Option (Int32 × q_Sto)
  | 0, _, _ => none
  | j + 1, x2, s0 =>
    if x2 < 1790 then (
    if x1 = 0 then (
    q_ld s0 (q_RF x0 1) x2 1790 fun v5 =>
    q_st s0 (q_RF x0 0) x2 1790 v5 fun s6 =>
    f_X12_image_L15 n x0 x1 k59 j (x2 + 1) s6)
    else (
    q_ld s0 (q_RF x0 0) x2 1790 fun v7 =>
    q_st s0 (q_RF x0 1) x2 1790 v7 fun s8 =>
    f_X12_image_L15 n x0 x1 k59 j (x2 + 1) s8))
    else (
    k59 s0)
set_option maxRecDepth 100000 in
set_option maxHeartbeats 4000000 in
def f_X12_image_L15 (n : Nat) (x0 : Nat) (x1 : Int32) (k59 : q_Sto → Option (Int32 × q_Sto)) : Nat → Int32 → q_Sto → Option (Int32 × q_Sto)
  | 0, _, _ => none
  | j + 1, x2, s0 =>
    if x2 < 1790 then (
    if x1 = 0 then (
    q_ld s0 (q_RF x0 1) x2 1790 fun v17 =>
    q_st s0 (q_RF x0 0) x2 1790 v17 fun s18 =>
    f_X12_image_L15 n x0 x1 k59 j (x2 + 1) s18)
    else (
    q_ld s0 (q_RF x0 0) x2 1790 fun v19 =>
    q_st s0 (q_RF x0 1) x2 1790 v19 fun s20 =>
    f_X12_image_L15 n x0 x1 k59 j (x2 + 1) s20))
    else (
    k59 s0)
set_option maxRecDepth 100000 in
set_option maxHeartbeats 4000000 in
def f_X12_image (n : Nat) (t : Nat) (a0 : Int32) (s0 : q_Sto) : Option (Int32 × q_Sto) :=
  if a0 = 0 then (
  if (s0 t 5) = 0 then (
  some (0, s0))
  else (
  f_X12_image_L15 n t a0 (fun  (s9 : q_Sto) =>
  if a0 = 0 then (
  q_callv (f_X12_forgets n t s9) fun s11 =>
  q_nS1 (q_up s11 t 5 1) fun s13 =>
  some (1, s13))
  else (
  q_nS1 (q_up s9 t 5 1) fun s14 =>
  some (1, s14))) n 0 s0))
  else (
  f_X12_image_L15 n t a0 (fun  (s21 : q_Sto) =>
  if a0 = 0 then (
  q_callv (f_X12_forgets n t s21) fun s23 =>
  q_nS1 (q_up s23 t 5 1) fun s25 =>
  some (1, s25))
  else (
  q_nS1 (q_up s21 t 5 1) fun s26 =>
  some (1, s26))) n 0 s0)
set_option maxRecDepth 100000 in
set_option maxHeartbeats 4000000 in
theorem t_X12_image_L15 {w : q_Wd} {cx : q_Cx} (hc : q_ok w cx RX12 cX12_image 3 (some .boolean) (q_rm 1 20)) {n : Nat} {x0 : Nat} {x1 : Int32} (hx0 : q_KD x0 = .inl 12) {k59 : q_Sto → Option (Int32 × q_Sto)} (hk59 : ∀  (s1 : q_Sto), q_G w cx 3 (some .boolean) 59 [some (q_rf w x0), some (.int x1), none] [] s1 (k59 s1)) :
    ∀ (j : Nat) (x2 : Int32) (s0 : q_Sto), q_G w cx 3 (some .boolean) 15 [some (q_rf w x0), some (.int x1), some (.int x2)] [] s0 (f_X12_image_L15 n x0 x1 k59 j x2 s0) := by
  intro j
  induction j with
  | zero =>
    intro _ _
    rw [f_X12_image_L15]
    exact q_none
  | succ j ih =>
    intro x2 s0
    rw [f_X12_image_L15]
    refine g_il2 hc dX12_image_15 rfl (pc2 := 16) rfl ?_
    refine g_sipush hc dX12_image_16 sp_1790 (pc2 := 19) rfl ?_
    refine g_icmp_ge hc dX12_image_19 (pc1 := 22) (pc2 := 59) rfl rfl (fun _ => ?_) (fun _ => ?_)
    · refine g_il1 hc dX12_image_22 rfl (pc2 := 23) rfl ?_
      refine g_if_eq hc dX12_image_23 (pc1 := 41) (pc2 := 26) rfl rfl (fun _ => ?_) (fun _ => ?_)
      · refine g_rl0 hc dX12_image_41 rfl (pc2 := 42) rfl ?_
        refine g_getR hc fl_X12_7 rfl hx0 dX12_image_42 (pc2 := 45) rfl ?_
        refine g_il2 hc dX12_image_45 rfl (pc2 := 46) rfl ?_
        refine g_rl0 hc dX12_image_46 rfl (pc2 := 47) rfl ?_
        refine g_getR hc fl_X12_13 rfl hx0 dX12_image_47 (pc2 := 50) rfl ?_
        refine g_il2 hc dX12_image_50 rfl (pc2 := 51) rfl ?_
        refine g_iald hc (kf_12_1 hx0) (kl_12_1 hx0) dX12_image_51 (pc2 := 52) rfl (fun v5 => ?_)
        refine g_iast hc (kf_12_0 hx0) (kl_12_0 hx0) dX12_image_52 (pc2 := 53) rfl (fun s6 => ?_)
        refine g_iinc hc dX12_image_53 rfl (q_ii ic_1) (by decide) (L2 := [some (q_rf w x0), some (.int x1), some (.int (x2 + 1))]) rfl (pc2 := 56) rfl ?_
        refine g_goto hc dX12_image_56 (pc2 := 15) rfl ?_
        exact ih _ _
      · refine g_rl0 hc dX12_image_26 rfl (pc2 := 27) rfl ?_
        refine g_getR hc fl_X12_13 rfl hx0 dX12_image_27 (pc2 := 30) rfl ?_
        refine g_il2 hc dX12_image_30 rfl (pc2 := 31) rfl ?_
        refine g_rl0 hc dX12_image_31 rfl (pc2 := 32) rfl ?_
        refine g_getR hc fl_X12_7 rfl hx0 dX12_image_32 (pc2 := 35) rfl ?_
        refine g_il2 hc dX12_image_35 rfl (pc2 := 36) rfl ?_
        refine g_iald hc (kf_12_0 hx0) (kl_12_0 hx0) dX12_image_36 (pc2 := 37) rfl (fun v7 => ?_)
        refine g_iast hc (kf_12_1 hx0) (kl_12_1 hx0) dX12_image_37 (pc2 := 38) rfl (fun s8 => ?_)
        refine g_goto hc dX12_image_38 (pc2 := 53) rfl ?_
        refine g_iinc hc dX12_image_53 rfl (q_ii ic_1) (by decide) (L2 := [some (q_rf w x0), some (.int x1), some (.int (x2 + 1))]) rfl (pc2 := 56) rfl ?_
        refine g_goto hc dX12_image_56 (pc2 := 15) rfl ?_
        exact ih _ _
    · refine q_Gmask [true, true, false] (L2 := [some (q_rf w x0), some (.int x1), none]) rfl ?_
      exact hk59 _
set_option maxRecDepth 100000 in
set_option maxHeartbeats 4000000 in
theorem t_X12_image_L15 {w : q_Wd} {cx : q_Cx} (hc : q_ok w cx RX12 cX12_image 3 (some .boolean) (q_rm 1 20)) {n : Nat} {x0 : Nat} {x1 : Int32} (hx0 : q_KD x0 = .inl 12) {k59 : q_Sto → Option (Int32 × q_Sto)} (hk59 : ∀  (s1 : q_Sto), q_G w cx 3 (some .boolean) 59 [some (q_rf w x0), some (.int x1), none] [] s1 (k59 s1)) :
    ∀ (j : Nat) (x2 : Int32) (s0 : q_Sto), q_G w cx 3 (some .boolean) 15 [some (q_rf w x0), some (.int x1), some (.int x2)] [] s0 (f_X12_image_L15 n x0 x1 k59 j x2 s0) := by
  intro j
  induction j with
  | zero =>
    intro _ _
    rw [f_X12_image_L15]
    exact q_none
  | succ j ih =>
    intro x2 s0
    rw [f_X12_image_L15]
    refine g_il2 hc dX12_image_15 rfl (pc2 := 16) rfl ?_
    refine g_sipush hc dX12_image_16 sp_1790 (pc2 := 19) rfl ?_
    refine g_icmp_ge hc dX12_image_19 (pc1 := 22) (pc2 := 59) rfl rfl (fun _ => ?_) (fun _ => ?_)
    · refine g_il1 hc dX12_image_22 rfl (pc2 := 23) rfl ?_
      refine g_if_eq hc dX12_image_23 (pc1 := 41) (pc2 := 26) rfl rfl (fun _ => ?_) (fun _ => ?_)
      · refine g_rl0 hc dX12_image_41 rfl (pc2 := 42) rfl ?_
        refine g_getR hc fl_X12_7 rfl hx0 dX12_image_42 (pc2 := 45) rfl ?_
        refine g_il2 hc dX12_image_45 rfl (pc2 := 46) rfl ?_
        refine g_rl0 hc dX12_image_46 rfl (pc2 := 47) rfl ?_
        refine g_getR hc fl_X12_13 rfl hx0 dX12_image_47 (pc2 := 50) rfl ?_
        refine g_il2 hc dX12_image_50 rfl (pc2 := 51) rfl ?_
        refine g_iald hc (kf_12_1 hx0) (kl_12_1 hx0) dX12_image_51 (pc2 := 52) rfl (fun v17 => ?_)
        refine g_iast hc (kf_12_0 hx0) (kl_12_0 hx0) dX12_image_52 (pc2 := 53) rfl (fun s18 => ?_)
        refine g_iinc hc dX12_image_53 rfl (q_ii ic_1) (by decide) (L2 := [some (q_rf w x0), some (.int x1), some (.int (x2 + 1))]) rfl (pc2 := 56) rfl ?_
        refine g_goto hc dX12_image_56 (pc2 := 15) rfl ?_
        exact ih _ _
      · refine g_rl0 hc dX12_image_26 rfl (pc2 := 27) rfl ?_
        refine g_getR hc fl_X12_13 rfl hx0 dX12_image_27 (pc2 := 30) rfl ?_
        refine g_il2 hc dX12_image_30 rfl (pc2 := 31) rfl ?_
        refine g_rl0 hc dX12_image_31 rfl (pc2 := 32) rfl ?_
        refine g_getR hc fl_X12_7 rfl hx0 dX12_image_32 (pc2 := 35) rfl ?_
        refine g_il2 hc dX12_image_35 rfl (pc2 := 36) rfl ?_
        refine g_iald hc (kf_12_0 hx0) (kl_12_0 hx0) dX12_image_36 (pc2 := 37) rfl (fun v19 => ?_)
        refine g_iast hc (kf_12_1 hx0) (kl_12_1 hx0) dX12_image_37 (pc2 := 38) rfl (fun s20 => ?_)
        refine g_goto hc dX12_image_38 (pc2 := 53) rfl ?_
        refine g_iinc hc dX12_image_53 rfl (q_ii ic_1) (by decide) (L2 := [some (q_rf w x0), some (.int x1), some (.int (x2 + 1))]) rfl (pc2 := 56) rfl ?_
        refine g_goto hc dX12_image_56 (pc2 := 15) rfl ?_
        exact ih _ _
    · refine q_Gmask [true, true, false] (L2 := [some (q_rf w x0), some (.int x1), none]) rfl ?_
      exact hk59 _
set_option maxRecDepth 100000 in
set_option maxHeartbeats 4000000 in
theorem C_X12_image {l : Launch} {w : q_Wd} {n : Nat} {t : Nat} {a0 : Int32} (ht : q_KD t = .inl 12) {s0 : q_Sto} : q_C l w yX12_image cX12_image 3 (some .boolean) (q_rm 1 20) [q_rf w t, .int a0] s0 (f_X12_image n t a0 s0) := q_CofG [some (q_rf w t), some (.int a0), none] (by decide +kernel) rfl rfl (Nat.le_of_ble_eq_true rfl) fun cx hl hc => by
  have hc : q_ok w cx RX12 cX12_image 3 (some .boolean) (q_rm 1 20) := hc
  rw [f_X12_image]
  refine g_il1 hc dX12_image_0 rfl (pc2 := 1) rfl ?_
  refine g_if_ne hc dX12_image_1 (pc1 := 4) (pc2 := 13) rfl rfl (fun _ => ?_) (fun _ => ?_)
  · refine g_rl0 hc dX12_image_4 rfl (pc2 := 5) rfl ?_
    refine g_getI hc fl_X12_449 rfl ht dX12_image_5 (pc2 := 8) rfl ?_
    refine g_if_ne hc dX12_image_8 (pc1 := 11) (pc2 := 13) rfl rfl (fun _ => ?_) (fun _ => ?_)
    · refine g_iconst hc dX12_image_11 ic_0 (pc2 := 12) rfl ?_
      exact g_zret0 (by decide) hc dX12_image_12
    · refine g_iconst hc dX12_image_13 ic_0 (pc2 := 14) rfl ?_
      refine g_is2 hc dX12_image_14 (by decide) (L2 := [some (q_rf w t), some (.int a0), some (.int 0)]) rfl (pc2 := 15) rfl ?_
      refine t_X12_image_L15 hc ht (fun s9 => ?_) n _ _
      refine g_il1 hc dX12_image_59 rfl (pc2 := 60) rfl ?_
      refine g_if_ne hc dX12_image_60 (pc1 := 63) (pc2 := 67) rfl rfl (fun _ => ?_) (fun _ => ?_)
      · refine g_rl0 hc dX12_image_63 rfl (pc2 := 64) rfl ?_
        refine g_callV0v hc (C_X12_forgets ht) mv_X12_forgets ln_X12_63 ht ⟨by decide, by decide⟩ (Nat.le_of_ble_eq_true rfl) dX12_image_64 (pc2 := 67) rfl (fun s11 => ?_)
        refine g_rl0 hc dX12_image_67 rfl (pc2 := 68) rfl ?_
        refine g_iconst hc dX12_image_68 ic_1 (pc2 := 69) rfl ?_
        refine g_putZ (by decide) hc fl_X12_449 rfl ht dX12_image_69 (pc2 := 72) rfl (fun s13 => ?_)
        refine g_iconst hc dX12_image_72 ic_1 (pc2 := 73) rfl ?_
        exact g_zret0 (by decide) hc dX12_image_73
      · refine g_rl0 hc dX12_image_67 rfl (pc2 := 68) rfl ?_
        refine g_iconst hc dX12_image_68 ic_1 (pc2 := 69) rfl ?_
        refine g_putZ (by decide) hc fl_X12_449 rfl ht dX12_image_69 (pc2 := 72) rfl (fun s14 => ?_)
        refine g_iconst hc dX12_image_72 ic_1 (pc2 := 73) rfl ?_
        exact g_zret0 (by decide) hc dX12_image_73
  · refine g_iconst hc dX12_image_13 ic_0 (pc2 := 14) rfl ?_
    refine g_is2 hc dX12_image_14 (by decide) (L2 := [some (q_rf w t), some (.int a0), some (.int 0)]) rfl (pc2 := 15) rfl ?_
    refine t_X12_image_L15 hc ht (fun s21 => ?_) n _ _
    refine g_il1 hc dX12_image_59 rfl (pc2 := 60) rfl ?_
    refine g_if_ne hc dX12_image_60 (pc1 := 63) (pc2 := 67) rfl rfl (fun _ => ?_) (fun _ => ?_)
    · refine g_rl0 hc dX12_image_63 rfl (pc2 := 64) rfl ?_
      refine g_callV0v hc (C_X12_forgets ht) mv_X12_forgets ln_X12_63 ht ⟨by decide, by decide⟩ (Nat.le_of_ble_eq_true rfl) dX12_image_64 (pc2 := 67) rfl (fun s23 => ?_)
      refine g_rl0 hc dX12_image_67 rfl (pc2 := 68) rfl ?_
      refine g_iconst hc dX12_image_68 ic_1 (pc2 := 69) rfl ?_
      refine g_putZ (by decide) hc fl_X12_449 rfl ht dX12_image_69 (pc2 := 72) rfl (fun s25 => ?_)
      refine g_iconst hc dX12_image_72 ic_1 (pc2 := 73) rfl ?_
      exact g_zret0 (by decide) hc dX12_image_73
    · refine g_rl0 hc dX12_image_67 rfl (pc2 := 68) rfl ?_
      refine g_iconst hc dX12_image_68 ic_1 (pc2 := 69) rfl ?_
      refine g_putZ (by decide) hc fl_X12_449 rfl ht dX12_image_69 (pc2 := 72) rfl (fun s26 => ?_)
      refine g_iconst hc dX12_image_72 ic_1 (pc2 := 73) rfl ?_
      exact g_zret0 (by decide) hc dX12_image_73
set_option maxRecDepth 100000 in
set_option maxHeartbeats 4000000 in
def f_X12_look (n : Nat) (t : Nat) (a0 : Int32) (s0 : q_Sto) : Option (Int32 × q_Sto) :=
  if a0 = 0 then (
  q_ld s0 (q_RF t 0) 86 1790 fun v2 =>
  some (v2, s0))
  else
  if a0 = 1 then (
  q_ld s0 (q_RF t 0) 87 1790 fun v4 =>
  some (v4, s0))
  else
  if a0 = 2 then (
  q_ld s0 (q_RF t 0) 0 1790 fun v6 =>
  some (v6, s0))
  else
  if a0 = 3 then (
  q_ld s0 (q_RF t 0) 88 1790 fun v8 =>
  some (v8, s0))
  else
  if a0 = 4 then (
  q_ld s0 (q_RF t 0) 1 1790 fun v10 =>
  some (v10, s0))
  else
  if a0 = 5 then (
  q_ld s0 (q_RF t 0) 2 1790 fun v12 =>
  some (v12, s0))
  else
  if a0 = 6 then (
  q_ld s0 (q_RF t 0) 3 1790 fun v14 =>
  some (v14, s0))
  else
  if a0 = 7 then (
  q_ld s0 (q_RF t 0) 4 1790 fun v16 =>
  some (v16, s0))
  else
  if a0 = 8 then (
  q_ld s0 (q_RF t 0) 7 1790 fun v18 =>
  some (v18, s0))
  else
  if a0 = 9 then (
  q_ld s0 (q_RF t 0) 6 1790 fun v20 =>
  some (v20, s0))
  else
  if a0 = 10 then (
  q_ld s0 (q_RF t 0) 5 1790 fun v22 =>
  some (v22, s0))
  else
  if a0 = 11 then (
  q_ld s0 (q_RF t 0) 89 1790 fun v24 =>
  some (v24, s0))
  else
  if a0 = 12 then (
  q_ld s0 (q_RF t 0) 90 1790 fun v26 =>
  some (v26, s0))
  else
  if a0 = 13 then (
  q_ld s0 (q_RF t 0) 91 1790 fun v28 =>
  some (v28, s0))
  else
  if a0 = 14 then (
  q_ld s0 (q_RF t 0) 92 1790 fun v30 =>
  some (v30, s0))
  else
  if a0 = 15 then (
  q_ld s0 (q_RF t 0) 93 1790 fun v32 =>
  some (v32, s0))
  else
  if a0 = 16 then (
  q_ld s0 (q_RF t 0) 94 1790 fun v34 =>
  some (v34, s0))
  else
  if a0 = 17 then (
  some ((s0 t 4), s0))
  else
  (some ((-1), s0))
set_option maxRecDepth 100000 in
set_option maxHeartbeats 4000000 in
theorem C_X12_look {l : Launch} {w : q_Wd} {n : Nat} {t : Nat} {a0 : Int32} (ht : q_KD t = .inl 12) {s0 : q_Sto} : q_C l w yX12_look cX12_look 2 (some .int) (q_rm 0 0) [q_rf w t, .int a0] s0 (f_X12_look n t a0 s0) := q_CofG [some (q_rf w t), some (.int a0)] (by decide +kernel) rfl rfl (Nat.le_of_ble_eq_true rfl) fun cx hl hc => by
  have hc : q_ok w cx RX12 cX12_look 2 (some .int) (q_rm 0 0) := hc
  rw [f_X12_look]
  refine g_il1 hc dX12_look_0 rfl (pc2 := 1) rfl ?_
  refine g_swc hc dX12_look_1 (c := 0) (by decide) (by decide) rfl (pc1 := 88) rfl (fun _ => ?_) (fun c1 => ?_)
  · refine g_rl0 hc dX12_look_88 rfl (pc2 := 89) rfl ?_
    refine g_getR hc fl_X12_7 rfl ht dX12_look_89 (pc2 := 92) rfl ?_
    refine g_bipush hc dX12_look_92 bp_86 (pc2 := 94) rfl ?_
    refine g_iald hc (kf_12_0 ht) (kl_12_0 ht) dX12_look_94 (pc2 := 95) rfl (fun v2 => ?_)
    exact g_iret hc dX12_look_95
  refine g_swc hc dX12_look_1 (c := 1) (by decide) (by decide) rfl (pc1 := 96) rfl (fun _ => ?_) (fun c3 => ?_)
  · refine g_rl0 hc dX12_look_96 rfl (pc2 := 97) rfl ?_
    refine g_getR hc fl_X12_7 rfl ht dX12_look_97 (pc2 := 100) rfl ?_
    refine g_bipush hc dX12_look_100 bp_87 (pc2 := 102) rfl ?_
    refine g_iald hc (kf_12_0 ht) (kl_12_0 ht) dX12_look_102 (pc2 := 103) rfl (fun v4 => ?_)
    exact g_iret hc dX12_look_103
  refine g_swc hc dX12_look_1 (c := 2) (by decide) (by decide) rfl (pc1 := 104) rfl (fun _ => ?_) (fun c5 => ?_)
  · refine g_rl0 hc dX12_look_104 rfl (pc2 := 105) rfl ?_
    refine g_getR hc fl_X12_7 rfl ht dX12_look_105 (pc2 := 108) rfl ?_
    refine g_iconst hc dX12_look_108 ic_0 (pc2 := 109) rfl ?_
    refine g_iald hc (kf_12_0 ht) (kl_12_0 ht) dX12_look_109 (pc2 := 110) rfl (fun v6 => ?_)
    exact g_iret hc dX12_look_110
  refine g_swc hc dX12_look_1 (c := 3) (by decide) (by decide) rfl (pc1 := 111) rfl (fun _ => ?_) (fun c7 => ?_)
  · refine g_rl0 hc dX12_look_111 rfl (pc2 := 112) rfl ?_
    refine g_getR hc fl_X12_7 rfl ht dX12_look_112 (pc2 := 115) rfl ?_
    refine g_bipush hc dX12_look_115 bp_88 (pc2 := 117) rfl ?_
    refine g_iald hc (kf_12_0 ht) (kl_12_0 ht) dX12_look_117 (pc2 := 118) rfl (fun v8 => ?_)
    exact g_iret hc dX12_look_118
  refine g_swc hc dX12_look_1 (c := 4) (by decide) (by decide) rfl (pc1 := 119) rfl (fun _ => ?_) (fun c9 => ?_)
  · refine g_rl0 hc dX12_look_119 rfl (pc2 := 120) rfl ?_
    refine g_getR hc fl_X12_7 rfl ht dX12_look_120 (pc2 := 123) rfl ?_
    refine g_iconst hc dX12_look_123 ic_1 (pc2 := 124) rfl ?_
    refine g_iald hc (kf_12_0 ht) (kl_12_0 ht) dX12_look_124 (pc2 := 125) rfl (fun v10 => ?_)
    exact g_iret hc dX12_look_125
  refine g_swc hc dX12_look_1 (c := 5) (by decide) (by decide) rfl (pc1 := 126) rfl (fun _ => ?_) (fun c11 => ?_)
  · refine g_rl0 hc dX12_look_126 rfl (pc2 := 127) rfl ?_
    refine g_getR hc fl_X12_7 rfl ht dX12_look_127 (pc2 := 130) rfl ?_
    refine g_iconst hc dX12_look_130 ic_2 (pc2 := 131) rfl ?_
    refine g_iald hc (kf_12_0 ht) (kl_12_0 ht) dX12_look_131 (pc2 := 132) rfl (fun v12 => ?_)
    exact g_iret hc dX12_look_132
  refine g_swc hc dX12_look_1 (c := 6) (by decide) (by decide) rfl (pc1 := 133) rfl (fun _ => ?_) (fun c13 => ?_)
  · refine g_rl0 hc dX12_look_133 rfl (pc2 := 134) rfl ?_
    refine g_getR hc fl_X12_7 rfl ht dX12_look_134 (pc2 := 137) rfl ?_
    refine g_iconst hc dX12_look_137 ic_3 (pc2 := 138) rfl ?_
    refine g_iald hc (kf_12_0 ht) (kl_12_0 ht) dX12_look_138 (pc2 := 139) rfl (fun v14 => ?_)
    exact g_iret hc dX12_look_139
  refine g_swc hc dX12_look_1 (c := 7) (by decide) (by decide) rfl (pc1 := 140) rfl (fun _ => ?_) (fun c15 => ?_)
  · refine g_rl0 hc dX12_look_140 rfl (pc2 := 141) rfl ?_
    refine g_getR hc fl_X12_7 rfl ht dX12_look_141 (pc2 := 144) rfl ?_
    refine g_iconst hc dX12_look_144 ic_4 (pc2 := 145) rfl ?_
    refine g_iald hc (kf_12_0 ht) (kl_12_0 ht) dX12_look_145 (pc2 := 146) rfl (fun v16 => ?_)
    exact g_iret hc dX12_look_146
  refine g_swc hc dX12_look_1 (c := 8) (by decide) (by decide) rfl (pc1 := 147) rfl (fun _ => ?_) (fun c17 => ?_)
  · refine g_rl0 hc dX12_look_147 rfl (pc2 := 148) rfl ?_
    refine g_getR hc fl_X12_7 rfl ht dX12_look_148 (pc2 := 151) rfl ?_
    refine g_bipush hc dX12_look_151 bp_7 (pc2 := 153) rfl ?_
    refine g_iald hc (kf_12_0 ht) (kl_12_0 ht) dX12_look_153 (pc2 := 154) rfl (fun v18 => ?_)
    exact g_iret hc dX12_look_154
  refine g_swc hc dX12_look_1 (c := 9) (by decide) (by decide) rfl (pc1 := 155) rfl (fun _ => ?_) (fun c19 => ?_)
  · refine g_rl0 hc dX12_look_155 rfl (pc2 := 156) rfl ?_
    refine g_getR hc fl_X12_7 rfl ht dX12_look_156 (pc2 := 159) rfl ?_
    refine g_bipush hc dX12_look_159 bp_6 (pc2 := 161) rfl ?_
    refine g_iald hc (kf_12_0 ht) (kl_12_0 ht) dX12_look_161 (pc2 := 162) rfl (fun v20 => ?_)
    exact g_iret hc dX12_look_162
  refine g_swc hc dX12_look_1 (c := 10) (by decide) (by decide) rfl (pc1 := 163) rfl (fun _ => ?_) (fun c21 => ?_)
  · refine g_rl0 hc dX12_look_163 rfl (pc2 := 164) rfl ?_
    refine g_getR hc fl_X12_7 rfl ht dX12_look_164 (pc2 := 167) rfl ?_
    refine g_iconst hc dX12_look_167 ic_5 (pc2 := 168) rfl ?_
    refine g_iald hc (kf_12_0 ht) (kl_12_0 ht) dX12_look_168 (pc2 := 169) rfl (fun v22 => ?_)
    exact g_iret hc dX12_look_169
  refine g_swc hc dX12_look_1 (c := 11) (by decide) (by decide) rfl (pc1 := 170) rfl (fun _ => ?_) (fun c23 => ?_)
  · refine g_rl0 hc dX12_look_170 rfl (pc2 := 171) rfl ?_
    refine g_getR hc fl_X12_7 rfl ht dX12_look_171 (pc2 := 174) rfl ?_
    refine g_bipush hc dX12_look_174 bp_89 (pc2 := 176) rfl ?_
    refine g_iald hc (kf_12_0 ht) (kl_12_0 ht) dX12_look_176 (pc2 := 177) rfl (fun v24 => ?_)
    exact g_iret hc dX12_look_177
  refine g_swc hc dX12_look_1 (c := 12) (by decide) (by decide) rfl (pc1 := 178) rfl (fun _ => ?_) (fun c25 => ?_)
  · refine g_rl0 hc dX12_look_178 rfl (pc2 := 179) rfl ?_
    refine g_getR hc fl_X12_7 rfl ht dX12_look_179 (pc2 := 182) rfl ?_
    refine g_bipush hc dX12_look_182 bp_90 (pc2 := 184) rfl ?_
    refine g_iald hc (kf_12_0 ht) (kl_12_0 ht) dX12_look_184 (pc2 := 185) rfl (fun v26 => ?_)
    exact g_iret hc dX12_look_185
  refine g_swc hc dX12_look_1 (c := 13) (by decide) (by decide) rfl (pc1 := 186) rfl (fun _ => ?_) (fun c27 => ?_)
  · refine g_rl0 hc dX12_look_186 rfl (pc2 := 187) rfl ?_
    refine g_getR hc fl_X12_7 rfl ht dX12_look_187 (pc2 := 190) rfl ?_
    refine g_bipush hc dX12_look_190 bp_91 (pc2 := 192) rfl ?_
    refine g_iald hc (kf_12_0 ht) (kl_12_0 ht) dX12_look_192 (pc2 := 193) rfl (fun v28 => ?_)
    exact g_iret hc dX12_look_193
  refine g_swc hc dX12_look_1 (c := 14) (by decide) (by decide) rfl (pc1 := 194) rfl (fun _ => ?_) (fun c29 => ?_)
  · refine g_rl0 hc dX12_look_194 rfl (pc2 := 195) rfl ?_
    refine g_getR hc fl_X12_7 rfl ht dX12_look_195 (pc2 := 198) rfl ?_
    refine g_bipush hc dX12_look_198 bp_92 (pc2 := 200) rfl ?_
    refine g_iald hc (kf_12_0 ht) (kl_12_0 ht) dX12_look_200 (pc2 := 201) rfl (fun v30 => ?_)
    exact g_iret hc dX12_look_201
  refine g_swc hc dX12_look_1 (c := 15) (by decide) (by decide) rfl (pc1 := 202) rfl (fun _ => ?_) (fun c31 => ?_)
  · refine g_rl0 hc dX12_look_202 rfl (pc2 := 203) rfl ?_
    refine g_getR hc fl_X12_7 rfl ht dX12_look_203 (pc2 := 206) rfl ?_
    refine g_bipush hc dX12_look_206 bp_93 (pc2 := 208) rfl ?_
    refine g_iald hc (kf_12_0 ht) (kl_12_0 ht) dX12_look_208 (pc2 := 209) rfl (fun v32 => ?_)
    exact g_iret hc dX12_look_209
  refine g_swc hc dX12_look_1 (c := 16) (by decide) (by decide) rfl (pc1 := 210) rfl (fun _ => ?_) (fun c33 => ?_)
  · refine g_rl0 hc dX12_look_210 rfl (pc2 := 211) rfl ?_
    refine g_getR hc fl_X12_7 rfl ht dX12_look_211 (pc2 := 214) rfl ?_
    refine g_bipush hc dX12_look_214 bp_94 (pc2 := 216) rfl ?_
    refine g_iald hc (kf_12_0 ht) (kl_12_0 ht) dX12_look_216 (pc2 := 217) rfl (fun v34 => ?_)
    exact g_iret hc dX12_look_217
  refine g_swc hc dX12_look_1 (c := 17) (by decide) (by decide) rfl (pc1 := 218) rfl (fun _ => ?_) (fun c35 => ?_)
  · refine g_rl0 hc dX12_look_218 rfl (pc2 := 219) rfl ?_
    refine g_getI hc fl_X12_60 rfl ht dX12_look_219 (pc2 := 222) rfl ?_
    exact g_iret hc dX12_look_222
  refine g_swd hc dX12_look_1 (fun i a b e => ?_) (pc1 := 223) rfl ?_
  · rcases (show i = 0 ∨ i = 1 ∨ i = 2 ∨ i = 3 ∨ i = 4 ∨ i = 5 ∨ i = 6 ∨ i = 7 ∨ i = 8 ∨ i = 9 ∨ i = 10 ∨ i = 11 ∨ i = 12 ∨ i = 13 ∨ i = 14 ∨ i = 15 ∨ i = 16 ∨ i = 17 by omega) with rfl | rfl | rfl | rfl | rfl | rfl | rfl | rfl | rfl | rfl | rfl | rfl | rfl | rfl | rfl | rfl | rfl | rfl
    · exact q_swx (c := 0) (by decide) c1 e
    · exact q_swx (c := 1) (by decide) c3 e
    · exact q_swx (c := 2) (by decide) c5 e
    · exact q_swx (c := 3) (by decide) c7 e
    · exact q_swx (c := 4) (by decide) c9 e
    · exact q_swx (c := 5) (by decide) c11 e
    · exact q_swx (c := 6) (by decide) c13 e
    · exact q_swx (c := 7) (by decide) c15 e
    · exact q_swx (c := 8) (by decide) c17 e
    · exact q_swx (c := 9) (by decide) c19 e
    · exact q_swx (c := 10) (by decide) c21 e
    · exact q_swx (c := 11) (by decide) c23 e
    · exact q_swx (c := 12) (by decide) c25 e
    · exact q_swx (c := 13) (by decide) c27 e
    · exact q_swx (c := 14) (by decide) c29 e
    · exact q_swx (c := 15) (by decide) c31 e
    · exact q_swx (c := 16) (by decide) c33 e
    · exact q_swx (c := 17) (by decide) c35 e
  · refine g_iconst hc dX12_look_223 ic_m1 (pc2 := 224) rfl ?_
    exact g_iret hc dX12_look_224
