set_option maxRecDepth 100000 in
set_option maxHeartbeats 4000000 in
def f_X12_leastFitting_L2 (n : Nat) (x0 : Nat) : Nat → Int32 → q_Sto → Option (Int32 × q_Sto)
  | 0, _, _ => none
  | j + 1, x1, s0 =>
    if x1 ≤ 99 then (
    q_call (f_X12_isFitting n x0 x1 s0) fun r3 s2 =>
    if r3 = 0 then (
    f_X12_leastFitting_L2 n x0  j (x1 + 1) s2)
    else (
    some (x1, s2)))
    else (
    some ((-1), s0))
set_option maxRecDepth 100000 in
set_option maxHeartbeats 4000000 in
def f_X12_leastFitting (n : Nat) (t : Nat) (s0 : q_Sto) : Option (Int32 × q_Sto) :=
  f_X12_leastFitting_L2 n t  n 0 s0
set_option maxRecDepth 100000 in
set_option maxHeartbeats 4000000 in
theorem t_X12_leastFitting_L2 {w : q_Wd} {cx : q_Cx} (hc : q_ok w cx RX12 cX12_leastFitting 2 (some .int) (q_rm 2 45)) {n : Nat} {x0 : Nat} (hx0 : q_KD x0 = .inl 12)   :
    ∀ (j : Nat) (x1 : Int32) (s0 : q_Sto), q_G w cx 2 (some .int) 2 [some (q_rf w x0), some (.int x1)] [] s0 (f_X12_leastFitting_L2 n x0  j x1 s0) := by
  intro j
  induction j with
  | zero =>
    intro _ _
    rw [f_X12_leastFitting_L2]
    exact q_none
  | succ j ih =>
    intro x1 s0
    rw [f_X12_leastFitting_L2]
    refine g_il1 hc dX12_leastFitting_2 rfl (pc2 := 3) rfl ?_
    refine g_bipush hc dX12_leastFitting_3 bp_99 (pc2 := 5) rfl ?_
    refine g_icmp_gt hc dX12_leastFitting_5 (pc1 := 8) (pc2 := 24) rfl rfl (fun _ => ?_) (fun _ => ?_)
    · refine g_rl0 hc dX12_leastFitting_8 rfl (pc2 := 9) rfl ?_
      refine g_il1 hc dX12_leastFitting_9 rfl (pc2 := 10) rfl ?_
      refine g_callV1 hc (C_X12_isFitting hx0) mv_X12_isFitting ln_X12_425 hx0 ⟨by decide, by decide⟩ (Nat.le_of_ble_eq_true rfl) dX12_leastFitting_10 (pc2 := 13) rfl (fun r3 s2 => ?_)
      refine g_if_eq hc dX12_leastFitting_13 (pc1 := 18) (pc2 := 16) rfl rfl (fun _ => ?_) (fun _ => ?_)
      · refine g_iinc hc dX12_leastFitting_18 rfl (q_ii ic_1) (by decide) (L2 := [some (q_rf w x0), some (.int (x1 + 1))]) rfl (pc2 := 21) rfl ?_
        refine g_goto hc dX12_leastFitting_21 (pc2 := 2) rfl ?_
        exact ih _ _
      · refine g_il1 hc dX12_leastFitting_16 rfl (pc2 := 17) rfl ?_
        exact g_iret hc dX12_leastFitting_17
    · refine g_iconst hc dX12_leastFitting_24 ic_m1 (pc2 := 25) rfl ?_
      exact g_iret hc dX12_leastFitting_25
set_option maxRecDepth 100000 in
set_option maxHeartbeats 4000000 in
theorem C_X12_leastFitting {l : Launch} {w : q_Wd} {n : Nat} {t : Nat} (ht : q_KD t = .inl 12) {s0 : q_Sto} : q_C l w yX12_leastFitting cX12_leastFitting 2 (some .int) (q_rm 2 45) [q_rf w t] s0 (f_X12_leastFitting n t s0) := q_CofG [some (q_rf w t), none] (by decide +kernel) rfl rfl (Nat.le_of_ble_eq_true rfl) fun cx hl hc => by
  have hc : q_ok w cx RX12 cX12_leastFitting 2 (some .int) (q_rm 2 45) := hc
  rw [f_X12_leastFitting]
  refine g_iconst hc dX12_leastFitting_0 ic_0 (pc2 := 1) rfl ?_
  refine g_is1 hc dX12_leastFitting_1 (by decide) (L2 := [some (q_rf w t), some (.int 0)]) rfl (pc2 := 2) rfl ?_
  refine t_X12_leastFitting_L2 hc ht  n _ _
set_option maxRecDepth 100000 in
set_option maxHeartbeats 4000000 in
def f_X12_fits_L66 (n : Nat) (x0 : Nat) (x1 : Int32) (x2 : Int32) (x5 : Int32) (k134 : Int32 → Int32 → q_Sto → Option (Int32 × q_Sto)) : Nat → Int32 → Int32 → Int32 → q_Sto → Option (Int32 × q_Sto)
  | 0, _, _, _, _ => none
  | j + 1, x3, x4, x6, s0 =>
    q_ld s0 (q_RF x0 0) 87 1790 fun v13 =>
    if x6 < v13 then (
    q_call (f_X12_likingOf n x0 x5 x6 s0) fun r16 s15 =>
    q_call (f_X12_fitting n x0 r16 s15) fun r18 s17 =>
    q_call (f_X12_greater n r18 (x2 - r18) s17) fun r20 s19 =>
    if r20 < x4 then (
    q_call (f_X12_greater n r18 (x2 - r18) s19) fun r23 s22 =>
    q_nm ((5 * x5) + x6) fun v24 =>
    f_X12_fits_L66 n x0 x1 x2 x5 k134 j v24 r23 (x6 + 1) s22)
    else (
    f_X12_fits_L66 n x0 x1 x2 x5 k134 j x3 x4 (x6 + 1) s19))
    else (
    k134 x3 x4 s0)
set_option maxRecDepth 100000 in
set_option maxHeartbeats 4000000 in
def f_X12_fits_L46 (n : Nat) (x0 : Nat) (x1 : Int32) (x2 : Int32) (k140 : Int32 → q_Sto → Option (Int32 × q_Sto)) : Nat → Int32 → Int32 → Int32 → q_Sto → Option (Int32 × q_Sto)
  | 0, _, _, _, _ => none
  | j + 1, x3, x4, x5, s0 =>
    q_ld s0 (q_RF x0 0) 86 1790 fun v10 =>
    if x5 < v10 then (
    if x2 ≤ 1 then (
    k140 x3 s0)
    else (
    f_X12_fits_L66 n x0 x1 x2 x5 (fun (y25 : Int32) (y26 : Int32) (s27 : q_Sto) =>
    f_X12_fits_L46 n x0 x1 x2 k140 j y25 y26 (x5 + 1) s27) n x3 x4 0 s0))
    else (
    k140 x3 s0)
set_option maxRecDepth 100000 in
set_option maxHeartbeats 4000000 in
def f_X12_fits (n : Nat) (t : Nat) (a0 : Int32) (s0 : q_Sto) : Option (Int32 × q_Sto) :=
  q_call (f_X12_isIn n a0 0 3 s0) fun r2 s1 =>
  if r2 = 0 then (
  some ((-1), s1))
  else (
  q_call (f_X12_fitting n t 99 s1) fun r5 s4 =>
  if a0 < 2 then (
  if a0 = 0 then (
  some (r5, s4))
  else (
  q_call (f_X12_leastFitting n t s4) fun r9 s8 =>
  some (r9, s8)))
  else (
  f_X12_fits_L46 n t a0 r5 (fun (y28 : Int32) (s29 : q_Sto) =>
  if y28 = (-1) then (
  some ((-1), s29))
  else (
  if a0 = 2 then (
  q_dv y28 5 fun v32 =>
  some (v32, s29))
  else (
  q_rem y28 5 fun v33 =>
  some (v33, s29)))) n (-1) 1000000 0 s4))
set_option maxRecDepth 100000 in
set_option maxHeartbeats 4000000 in
theorem t_X12_fits_L66 {w : q_Wd} {cx : q_Cx} (hc : q_ok w cx RX12 cX12_fits 8 (some .int) (q_rm 3 68)) {n : Nat} {x0 : Nat} {x1 : Int32} {x2 : Int32} {x5 : Int32} (hx0 : q_KD x0 = .inl 12) {k134 : Int32 → Int32 → q_Sto → Option (Int32 × q_Sto)} (hk134 : ∀ (y3 : Int32) (y4 : Int32) (s1 : q_Sto), q_G w cx 8 (some .int) 134 [some (q_rf w x0), some (.int x1), some (.int x2), some (.int y3), some (.int y4), some (.int x5), none, none] [] s1 (k134 y3 y4 s1)) :
    ∀ (j : Nat) (x3 : Int32) (x4 : Int32) (x6 : Int32) (s0 : q_Sto), q_G w cx 8 (some .int) 66 [some (q_rf w x0), some (.int x1), some (.int x2), some (.int x3), some (.int x4), some (.int x5), some (.int x6), none] [] s0 (f_X12_fits_L66 n x0 x1 x2 x5 k134 j x3 x4 x6 s0) := by
  intro j
  induction j with
  | zero =>
    intro _ _ _ _
    rw [f_X12_fits_L66]
    exact q_none
  | succ j ih =>
    intro x3 x4 x6 s0
    rw [f_X12_fits_L66]
    refine g_iload hc dX12_fits_66 rfl (pc2 := 68) rfl ?_
    refine g_rl0 hc dX12_fits_68 rfl (pc2 := 69) rfl ?_
    refine g_getR hc fl_X12_7 rfl hx0 dX12_fits_69 (pc2 := 72) rfl ?_
    refine g_bipush hc dX12_fits_72 bp_87 (pc2 := 74) rfl ?_
    refine g_iald hc (kf_12_0 hx0) (kl_12_0 hx0) dX12_fits_74 (pc2 := 75) rfl (fun v13 => ?_)
    refine g_icmp_ge hc dX12_fits_75 (pc1 := 78) (pc2 := 134) rfl rfl (fun _ => ?_) (fun _ => ?_)
    · refine g_rl0 hc dX12_fits_78 rfl (pc2 := 79) rfl ?_
      refine g_rl0 hc dX12_fits_79 rfl (pc2 := 80) rfl ?_
      refine g_iload hc dX12_fits_80 rfl (pc2 := 82) rfl ?_
      refine g_iload hc dX12_fits_82 rfl (pc2 := 84) rfl ?_
      refine g_callV2 hc (C_X12_likingOf hx0) mv_X12_likingOf ln_X12_314 hx0 ⟨by decide, by decide⟩ (Nat.le_of_ble_eq_true rfl) dX12_fits_84 (pc2 := 87) rfl (fun r16 s15 => ?_)
      refine g_callV1 hc (C_X12_fitting hx0) mv_X12_fitting ln_X12_428 hx0 ⟨by decide, by decide⟩ (Nat.le_of_ble_eq_true rfl) dX12_fits_87 (pc2 := 90) rfl (fun r18 s17 => ?_)
      refine g_istore hc dX12_fits_90 (by decide) (L2 := [some (q_rf w x0), some (.int x1), some (.int x2), some (.int x3), some (.int x4), some (.int x5), some (.int x6), some (.int r18)]) rfl (pc2 := 92) rfl ?_
      refine g_iload hc dX12_fits_92 rfl (pc2 := 94) rfl ?_
      refine g_il2 hc dX12_fits_94 rfl (pc2 := 95) rfl ?_
      refine g_iload hc dX12_fits_95 rfl (pc2 := 97) rfl ?_
      refine g_isub hc dX12_fits_97 (pc2 := 98) rfl ?_
      refine g_callS2 hc C_X12_greater mv_X12_greater ln_X12_307 ⟨by decide, by decide⟩ (Nat.le_of_ble_eq_true rfl) dX12_fits_98 (pc2 := 101) rfl (fun r20 s19 => ?_)
      refine g_iload hc dX12_fits_101 rfl (pc2 := 103) rfl ?_
      refine g_icmp_lt hc dX12_fits_103 (pc1 := 109) (pc2 := 106) rfl rfl (fun _ => ?_) (fun _ => ?_)
      · refine g_iload hc dX12_fits_109 rfl (pc2 := 111) rfl ?_
        refine g_il2 hc dX12_fits_111 rfl (pc2 := 112) rfl ?_
        refine g_iload hc dX12_fits_112 rfl (pc2 := 114) rfl ?_
        refine g_isub hc dX12_fits_114 (pc2 := 115) rfl ?_
        refine g_callS2 hc C_X12_greater mv_X12_greater ln_X12_307 ⟨by decide, by decide⟩ (Nat.le_of_ble_eq_true rfl) dX12_fits_115 (pc2 := 118) rfl (fun r23 s22 => ?_)
        refine g_istore hc dX12_fits_118 (by decide) (L2 := [some (q_rf w x0), some (.int x1), some (.int x2), some (.int x3), some (.int r23), some (.int x5), some (.int x6), some (.int r18)]) rfl (pc2 := 120) rfl ?_
        refine g_iconst hc dX12_fits_120 ic_5 (pc2 := 121) rfl ?_
        refine g_iload hc dX12_fits_121 rfl (pc2 := 123) rfl ?_
        refine g_imul hc dX12_fits_123 (pc2 := 124) rfl ?_
        refine g_iload hc dX12_fits_124 rfl (pc2 := 126) rfl ?_
        refine g_iadd hc dX12_fits_126 (pc2 := 127) rfl ?_
        refine g_nm (fun v24 => ?_)
        refine g_is3 hc dX12_fits_127 (by decide) (L2 := [some (q_rf w x0), some (.int x1), some (.int x2), some (.int v24), some (.int r23), some (.int x5), some (.int x6), some (.int r18)]) rfl (pc2 := 128) rfl ?_
        refine g_iinc hc dX12_fits_128 rfl (q_ii ic_1) (by decide) (L2 := [some (q_rf w x0), some (.int x1), some (.int x2), some (.int v24), some (.int r23), some (.int x5), some (.int (x6 + 1)), some (.int r18)]) rfl (pc2 := 131) rfl ?_
        refine g_goto hc dX12_fits_131 (pc2 := 66) rfl ?_
        refine q_Gmask [true, true, true, true, true, true, true, false] (L2 := [some (q_rf w x0), some (.int x1), some (.int x2), some (.int v24), some (.int r23), some (.int x5), some (.int (x6 + 1)), none]) rfl ?_
        exact ih _ _ _ _
      · refine g_goto hc dX12_fits_106 (pc2 := 128) rfl ?_
        refine g_iinc hc dX12_fits_128 rfl (q_ii ic_1) (by decide) (L2 := [some (q_rf w x0), some (.int x1), some (.int x2), some (.int x3), some (.int x4), some (.int x5), some (.int (x6 + 1)), some (.int r18)]) rfl (pc2 := 131) rfl ?_
        refine g_goto hc dX12_fits_131 (pc2 := 66) rfl ?_
        refine q_Gmask [true, true, true, true, true, true, true, false] (L2 := [some (q_rf w x0), some (.int x1), some (.int x2), some (.int x3), some (.int x4), some (.int x5), some (.int (x6 + 1)), none]) rfl ?_
        exact ih _ _ _ _
    · refine q_Gmask [true, true, true, true, true, true, false, true] (L2 := [some (q_rf w x0), some (.int x1), some (.int x2), some (.int x3), some (.int x4), some (.int x5), none, none]) rfl ?_
      exact hk134 _ _ _
set_option maxRecDepth 100000 in
set_option maxHeartbeats 4000000 in
theorem t_X12_fits_L46 {w : q_Wd} {cx : q_Cx} (hc : q_ok w cx RX12 cX12_fits 8 (some .int) (q_rm 3 68)) {n : Nat} {x0 : Nat} {x1 : Int32} {x2 : Int32} (hx0 : q_KD x0 = .inl 12) {k140 : Int32 → q_Sto → Option (Int32 × q_Sto)} (hk140 : ∀ (y3 : Int32) (s1 : q_Sto), q_G w cx 8 (some .int) 140 [none, some (.int x1), none, some (.int y3), none, none, none, none] [] s1 (k140 y3 s1)) :
    ∀ (j : Nat) (x3 : Int32) (x4 : Int32) (x5 : Int32) (s0 : q_Sto), q_G w cx 8 (some .int) 46 [some (q_rf w x0), some (.int x1), some (.int x2), some (.int x3), some (.int x4), some (.int x5), none, none] [] s0 (f_X12_fits_L46 n x0 x1 x2 k140 j x3 x4 x5 s0) := by
  intro j
  induction j with
  | zero =>
    intro _ _ _ _
    rw [f_X12_fits_L46]
    exact q_none
  | succ j ih =>
    intro x3 x4 x5 s0
    rw [f_X12_fits_L46]
    refine g_iload hc dX12_fits_46 rfl (pc2 := 48) rfl ?_
    refine g_rl0 hc dX12_fits_48 rfl (pc2 := 49) rfl ?_
    refine g_getR hc fl_X12_7 rfl hx0 dX12_fits_49 (pc2 := 52) rfl ?_
    refine g_bipush hc dX12_fits_52 bp_86 (pc2 := 54) rfl ?_
    refine g_iald hc (kf_12_0 hx0) (kl_12_0 hx0) dX12_fits_54 (pc2 := 55) rfl (fun v10 => ?_)
    refine g_icmp_ge hc dX12_fits_55 (pc1 := 58) (pc2 := 140) rfl rfl (fun _ => ?_) (fun _ => ?_)
    · refine g_il2 hc dX12_fits_58 rfl (pc2 := 59) rfl ?_
      refine g_iconst hc dX12_fits_59 ic_1 (pc2 := 60) rfl ?_
      refine g_icmp_le hc dX12_fits_60 (pc1 := 140) (pc2 := 63) rfl rfl (fun _ => ?_) (fun _ => ?_)
      · refine q_Gmask [false, true, false, true, false, false, true, true] (L2 := [none, some (.int x1), none, some (.int x3), none, none, none, none]) rfl ?_
        exact hk140 _ _
      · refine g_iconst hc dX12_fits_63 ic_0 (pc2 := 64) rfl ?_
        refine g_istore hc dX12_fits_64 (by decide) (L2 := [some (q_rf w x0), some (.int x1), some (.int x2), some (.int x3), some (.int x4), some (.int x5), some (.int 0), none]) rfl (pc2 := 66) rfl ?_
        refine t_X12_fits_L66 hc hx0 (fun y25 y26 s27 => ?_) n _ _ _ _
        refine g_iinc hc dX12_fits_134 rfl (q_ii ic_1) (by decide) (L2 := [some (q_rf w x0), some (.int x1), some (.int x2), some (.int y25), some (.int y26), some (.int (x5 + 1)), none, none]) rfl (pc2 := 137) rfl ?_
        refine g_goto hc dX12_fits_137 (pc2 := 46) rfl ?_
        exact ih _ _ _ _
    · refine q_Gmask [false, true, false, true, false, false, true, true] (L2 := [none, some (.int x1), none, some (.int x3), none, none, none, none]) rfl ?_
      exact hk140 _ _
set_option maxRecDepth 100000 in
set_option maxHeartbeats 4000000 in
theorem C_X12_fits {l : Launch} {w : q_Wd} {n : Nat} {t : Nat} {a0 : Int32} (ht : q_KD t = .inl 12) {s0 : q_Sto} : q_C l w yX12_fits cX12_fits 8 (some .int) (q_rm 3 68) [q_rf w t, .int a0] s0 (f_X12_fits n t a0 s0) := q_CofG [some (q_rf w t), some (.int a0), none, none, none, none, none, none] (by decide +kernel) rfl rfl (Nat.le_of_ble_eq_true rfl) fun cx hl hc => by
  have hc : q_ok w cx RX12 cX12_fits 8 (some .int) (q_rm 3 68) := hc
  rw [f_X12_fits]
  refine g_il1 hc dX12_fits_0 rfl (pc2 := 1) rfl ?_
  refine g_iconst hc dX12_fits_1 ic_0 (pc2 := 2) rfl ?_
  refine g_iconst hc dX12_fits_2 ic_3 (pc2 := 3) rfl ?_
  refine g_callS3 hc C_X12_isIn mv_X12_isIn ln_X12_56 ⟨by decide, by decide⟩ (Nat.le_of_ble_eq_true rfl) dX12_fits_3 (pc2 := 6) rfl (fun r2 s1 => ?_)
  refine g_if_ne hc dX12_fits_6 (pc1 := 9) (pc2 := 11) rfl rfl (fun _ => ?_) (fun _ => ?_)
  · refine g_iconst hc dX12_fits_9 ic_m1 (pc2 := 10) rfl ?_
    exact g_iret hc dX12_fits_10
  · refine g_rl0 hc dX12_fits_11 rfl (pc2 := 12) rfl ?_
    refine g_bipush hc dX12_fits_12 bp_99 (pc2 := 14) rfl ?_
    refine g_callV1 hc (C_X12_fitting ht) mv_X12_fitting ln_X12_428 ht ⟨by decide, by decide⟩ (Nat.le_of_ble_eq_true rfl) dX12_fits_14 (pc2 := 17) rfl (fun r5 s4 => ?_)
    refine g_is2 hc dX12_fits_17 (by decide) (L2 := [some (q_rf w t), some (.int a0), some (.int r5), none, none, none, none, none]) rfl (pc2 := 18) rfl ?_
    refine g_il1 hc dX12_fits_18 rfl (pc2 := 19) rfl ?_
    refine g_iconst hc dX12_fits_19 ic_2 (pc2 := 20) rfl ?_
    refine g_icmp_ge hc dX12_fits_20 (pc1 := 23) (pc2 := 36) rfl rfl (fun _ => ?_) (fun _ => ?_)
    · refine g_il1 hc dX12_fits_23 rfl (pc2 := 24) rfl ?_
      refine g_if_ne hc dX12_fits_24 (pc1 := 27) (pc2 := 31) rfl rfl (fun _ => ?_) (fun _ => ?_)
      · refine g_il2 hc dX12_fits_27 rfl (pc2 := 28) rfl ?_
        refine g_goto hc dX12_fits_28 (pc2 := 35) rfl ?_
        exact g_iret hc dX12_fits_35
      · refine g_rl0 hc dX12_fits_31 rfl (pc2 := 32) rfl ?_
        refine g_callV0 hc (C_X12_leastFitting ht) mv_X12_leastFitting ln_X12_431 ht ⟨by decide, by decide⟩ (Nat.le_of_ble_eq_true rfl) dX12_fits_32 (pc2 := 35) rfl (fun r9 s8 => ?_)
        exact g_iret hc dX12_fits_35
    · refine g_iconst hc dX12_fits_36 ic_m1 (pc2 := 37) rfl ?_
      refine g_is3 hc dX12_fits_37 (by decide) (L2 := [some (q_rf w t), some (.int a0), some (.int r5), some (.int (-1)), none, none, none, none]) rfl (pc2 := 38) rfl ?_
      refine g_ldcw hc cn_X12_407 dX12_fits_38 (pc2 := 41) rfl ?_
      refine g_istore hc dX12_fits_41 (by decide) (L2 := [some (q_rf w t), some (.int a0), some (.int r5), some (.int (-1)), some (.int 1000000), none, none, none]) rfl (pc2 := 43) rfl ?_
      refine g_iconst hc dX12_fits_43 ic_0 (pc2 := 44) rfl ?_
      refine g_istore hc dX12_fits_44 (by decide) (L2 := [some (q_rf w t), some (.int a0), some (.int r5), some (.int (-1)), some (.int 1000000), some (.int 0), none, none]) rfl (pc2 := 46) rfl ?_
      refine t_X12_fits_L46 hc ht (fun y28 s29 => ?_) n _ _ _ _
      refine g_il3 hc dX12_fits_140 rfl (pc2 := 141) rfl ?_
      refine g_iconst hc dX12_fits_141 ic_m1 (pc2 := 142) rfl ?_
      refine g_icmp_ne hc dX12_fits_142 (pc1 := 145) (pc2 := 149) rfl rfl (fun _ => ?_) (fun _ => ?_)
      · refine g_iconst hc dX12_fits_145 ic_m1 (pc2 := 146) rfl ?_
        refine g_goto hc dX12_fits_146 (pc2 := 163) rfl ?_
        exact g_iret hc dX12_fits_163
      · refine g_il1 hc dX12_fits_149 rfl (pc2 := 150) rfl ?_
        refine g_iconst hc dX12_fits_150 ic_2 (pc2 := 151) rfl ?_
        refine g_icmp_ne hc dX12_fits_151 (pc1 := 154) (pc2 := 160) rfl rfl (fun _ => ?_) (fun _ => ?_)
        · refine g_il3 hc dX12_fits_154 rfl (pc2 := 155) rfl ?_
          refine g_iconst hc dX12_fits_155 ic_5 (pc2 := 156) rfl ?_
          refine g_idiv hc dX12_fits_156 (pc2 := 157) rfl (fun v32 => ?_)
          refine g_goto hc dX12_fits_157 (pc2 := 163) rfl ?_
          exact g_iret hc dX12_fits_163
        · refine g_il3 hc dX12_fits_160 rfl (pc2 := 161) rfl ?_
          refine g_iconst hc dX12_fits_161 ic_5 (pc2 := 162) rfl ?_
          refine g_irem hc dX12_fits_162 (pc2 := 163) rfl (fun v33 => ?_)
          exact g_iret hc dX12_fits_163
set_option maxRecDepth 100000 in
set_option maxHeartbeats 4000000 in
def f_X12_ledBy_L8 (n : Nat) (x0 : Nat) (x1 : Int32) (x2 : Int32) (x3 : Int32) : Nat → Int32 → Int32 → q_Sto → Option (Int32 × q_Sto)
  | 0, _, _, _ => none
  | j + 1, x4, x5, s0 =>
    q_ld s0 (q_RF x0 0) 86 1790 fun v1 =>
    if x5 < v1 then (
    q_call (f_X12_riskOf n x0 x5 x3 x1 s0) fun r4 s3 =>
    q_jn (fun (y5 : Int32) (s6 : q_Sto) =>
      q_dv x4 1000 fun v7 =>
      q_rem x4 1000 fun v8 =>
      q_dv (v8 * y5) 1000 fun v9 =>
      q_nm ((v7 * y5) + v9) fun v10 =>
      f_X12_ledBy_L8 n x0 x1 x2 x3  j v10 (x5 + 1) s6) fun j51 =>
    if ((x2 >>> (x5 &&& 31)) &&& 1) = 1 then (
    j51 r4 s3)
    else (
    j51 (1000 - r4) s3))
    else (
    some (x4, s0))
set_option maxRecDepth 100000 in
set_option maxHeartbeats 4000000 in
def f_X12_ledBy (n : Nat) (t : Nat) (a0 : Int32) (a1 : Int32) (a2 : Int32) (s0 : q_Sto) : Option (Int32 × q_Sto) :=
  f_X12_ledBy_L8 n t a0 a1 a2  n 1000000 0 s0
set_option maxRecDepth 100000 in
set_option maxHeartbeats 4000000 in
theorem t_X12_ledBy_L8 {w : q_Wd} {cx : q_Cx} (hc : q_ok w cx RX12 cX12_ledBy 8 (some .int) (q_rm 5 117)) {n : Nat} {x0 : Nat} {x1 : Int32} {x2 : Int32} {x3 : Int32} (hx0 : q_KD x0 = .inl 12)   :
    ∀ (j : Nat) (x4 : Int32) (x5 : Int32) (s0 : q_Sto), q_G w cx 8 (some .int) 8 [some (q_rf w x0), some (.int x1), some (.int x2), some (.int x3), some (.int x4), some (.int x5), none, none] [] s0 (f_X12_ledBy_L8 n x0 x1 x2 x3  j x4 x5 s0) := by
  intro j
  induction j with
  | zero =>
    intro _ _ _
    rw [f_X12_ledBy_L8]
    exact q_none
  | succ j ih =>
    intro x4 x5 s0
    rw [f_X12_ledBy_L8]
    refine g_iload hc dX12_ledBy_8 rfl (pc2 := 10) rfl ?_
    refine g_rl0 hc dX12_ledBy_10 rfl (pc2 := 11) rfl ?_
    refine g_getR hc fl_X12_7 rfl hx0 dX12_ledBy_11 (pc2 := 14) rfl ?_
    refine g_bipush hc dX12_ledBy_14 bp_86 (pc2 := 16) rfl ?_
    refine g_iald hc (kf_12_0 hx0) (kl_12_0 hx0) dX12_ledBy_16 (pc2 := 17) rfl (fun v1 => ?_)
    refine g_icmp_ge hc dX12_ledBy_17 (pc1 := 20) (pc2 := 84) rfl rfl (fun _ => ?_) (fun _ => ?_)
    · refine g_rl0 hc dX12_ledBy_20 rfl (pc2 := 21) rfl ?_
      refine g_iload hc dX12_ledBy_21 rfl (pc2 := 23) rfl ?_
      refine g_il3 hc dX12_ledBy_23 rfl (pc2 := 24) rfl ?_
      refine g_il1 hc dX12_ledBy_24 rfl (pc2 := 25) rfl ?_
      refine g_callV3 hc (C_X12_riskOf hx0) mv_X12_riskOf ln_X12_377 hx0 ⟨by decide, by decide⟩ (Nat.le_of_ble_eq_true rfl) dX12_ledBy_25 (pc2 := 28) rfl (fun r4 s3 => ?_)
      refine g_istore hc dX12_ledBy_28 (by decide) (L2 := [some (q_rf w x0), some (.int x1), some (.int x2), some (.int x3), some (.int x4), some (.int x5), some (.int r4), none]) rfl (pc2 := 30) rfl ?_
      refine g_il2 hc dX12_ledBy_30 rfl (pc2 := 31) rfl ?_
      refine g_iload hc dX12_ledBy_31 rfl (pc2 := 33) rfl ?_
      refine g_ishr hc dX12_ledBy_33 (pc2 := 34) rfl ?_
      refine g_iconst hc dX12_ledBy_34 ic_1 (pc2 := 35) rfl ?_
      refine g_iand hc dX12_ledBy_35 (pc2 := 36) rfl ?_
      refine g_iconst hc dX12_ledBy_36 ic_1 (pc2 := 37) rfl ?_
      refine g_jn (P := fun j51 => ∀ (y5 : Int32) (s6 : q_Sto), q_G w cx 8 (some .int) 51 [some (q_rf w x0), some (.int x1), some (.int x2), some (.int x3), some (.int x4), some (.int x5), none, none] [.int y5] s6 (j51 y5 s6)) (fun y5 s6 => ?_) (fun j51 hj51 => ?_)
      · refine g_istore hc dX12_ledBy_51 (by decide) (L2 := [some (q_rf w x0), some (.int x1), some (.int x2), some (.int x3), some (.int x4), some (.int x5), none, some (.int y5)]) rfl (pc2 := 53) rfl ?_
        refine g_iload hc dX12_ledBy_53 rfl (pc2 := 55) rfl ?_
        refine g_sipush hc dX12_ledBy_55 sp_1000 (pc2 := 58) rfl ?_
        refine g_idiv hc dX12_ledBy_58 (pc2 := 59) rfl (fun v7 => ?_)
        refine g_iload hc dX12_ledBy_59 rfl (pc2 := 61) rfl ?_
        refine g_imul hc dX12_ledBy_61 (pc2 := 62) rfl ?_
        refine g_iload hc dX12_ledBy_62 rfl (pc2 := 64) rfl ?_
        refine g_sipush hc dX12_ledBy_64 sp_1000 (pc2 := 67) rfl ?_
        refine g_irem hc dX12_ledBy_67 (pc2 := 68) rfl (fun v8 => ?_)
        refine g_iload hc dX12_ledBy_68 rfl (pc2 := 70) rfl ?_
        refine g_imul hc dX12_ledBy_70 (pc2 := 71) rfl ?_
        refine g_sipush hc dX12_ledBy_71 sp_1000 (pc2 := 74) rfl ?_
        refine g_idiv hc dX12_ledBy_74 (pc2 := 75) rfl (fun v9 => ?_)
        refine g_iadd hc dX12_ledBy_75 (pc2 := 76) rfl ?_
        refine g_nm (fun v10 => ?_)
        refine g_istore hc dX12_ledBy_76 (by decide) (L2 := [some (q_rf w x0), some (.int x1), some (.int x2), some (.int x3), some (.int v10), some (.int x5), none, some (.int y5)]) rfl (pc2 := 78) rfl ?_
        refine g_iinc hc dX12_ledBy_78 rfl (q_ii ic_1) (by decide) (L2 := [some (q_rf w x0), some (.int x1), some (.int x2), some (.int x3), some (.int v10), some (.int (x5 + 1)), none, some (.int y5)]) rfl (pc2 := 81) rfl ?_
        refine g_goto hc dX12_ledBy_81 (pc2 := 8) rfl ?_
        refine q_Gmask [true, true, true, true, true, true, true, false] (L2 := [some (q_rf w x0), some (.int x1), some (.int x2), some (.int x3), some (.int v10), some (.int (x5 + 1)), none, none]) rfl ?_
        exact ih _ _ _
      · refine g_icmp_ne hc dX12_ledBy_37 (pc1 := 40) (pc2 := 45) rfl rfl (fun _ => ?_) (fun _ => ?_)
        · refine g_iload hc dX12_ledBy_40 rfl (pc2 := 42) rfl ?_
          refine g_goto hc dX12_ledBy_42 (pc2 := 51) rfl ?_
          refine q_Gmask [true, true, true, true, true, true, false, true] (L2 := [some (q_rf w x0), some (.int x1), some (.int x2), some (.int x3), some (.int x4), some (.int x5), none, none]) rfl ?_
          exact hj51 _ _
        · refine g_sipush hc dX12_ledBy_45 sp_1000 (pc2 := 48) rfl ?_
          refine g_iload hc dX12_ledBy_48 rfl (pc2 := 50) rfl ?_
          refine g_isub hc dX12_ledBy_50 (pc2 := 51) rfl ?_
          refine q_Gmask [true, true, true, true, true, true, false, true] (L2 := [some (q_rf w x0), some (.int x1), some (.int x2), some (.int x3), some (.int x4), some (.int x5), none, none]) rfl ?_
          exact hj51 _ _
    · refine g_iload hc dX12_ledBy_84 rfl (pc2 := 86) rfl ?_
      exact g_iret hc dX12_ledBy_86
set_option maxRecDepth 100000 in
set_option maxHeartbeats 4000000 in
theorem C_X12_ledBy {l : Launch} {w : q_Wd} {n : Nat} {t : Nat} {a0 : Int32} {a1 : Int32} {a2 : Int32} (ht : q_KD t = .inl 12) {s0 : q_Sto} : q_C l w yX12_ledBy cX12_ledBy 8 (some .int) (q_rm 5 117) [q_rf w t, .int a0, .int a1, .int a2] s0 (f_X12_ledBy n t a0 a1 a2 s0) := q_CofG [some (q_rf w t), some (.int a0), some (.int a1), some (.int a2), none, none, none, none] (by decide +kernel) rfl rfl (Nat.le_of_ble_eq_true rfl) fun cx hl hc => by
  have hc : q_ok w cx RX12 cX12_ledBy 8 (some .int) (q_rm 5 117) := hc
  rw [f_X12_ledBy]
  refine g_ldcw hc cn_X12_407 dX12_ledBy_0 (pc2 := 3) rfl ?_
  refine g_istore hc dX12_ledBy_3 (by decide) (L2 := [some (q_rf w t), some (.int a0), some (.int a1), some (.int a2), some (.int 1000000), none, none, none]) rfl (pc2 := 5) rfl ?_
  refine g_iconst hc dX12_ledBy_5 ic_0 (pc2 := 6) rfl ?_
  refine g_istore hc dX12_ledBy_6 (by decide) (L2 := [some (q_rf w t), some (.int a0), some (.int a1), some (.int a2), some (.int 1000000), some (.int 0), none, none]) rfl (pc2 := 8) rfl ?_
  refine t_X12_ledBy_L8 hc ht  n _ _ _
set_option maxRecDepth 100000 in
set_option maxHeartbeats 4000000 in
def f_X12_led_L49 (n : Nat) (x0 : Nat) (x1 : Int32) (x2 : Int32) (x3 : Int32) (k95 : Int32 → Int32 → q_Sto → Option (Int32 × q_Sto)) : Nat → Int32 → Int32 → Int32 → q_Sto → Option (Int32 × q_Sto)
  | 0, _, _, _, _ => none
  | j + 1, x4, x5, x6, s0 =>
    q_ld s0 (q_RF x0 0) 87 1790 fun v11 =>
    if x6 < v11 then (
    q_call (f_X12_ledBy n x0 x6 x1 x2 s0) fun r14 s13 =>
    if r14 ≤ x5 then (
    f_X12_led_L49 n x0 x1 x2 x3 k95 j x4 x5 (x6 + 1) s13)
    else (
    f_X12_led_L49 n x0 x1 x2 x3 k95 j x6 r14 (x6 + 1) s13))
    else (
    k95 x4 x5 s0)
set_option maxRecDepth 100000 in
set_option maxHeartbeats 4000000 in
def f_X12_led (n : Nat) (t : Nat) (a0 : Int32) (a1 : Int32) (a2 : Int32) (s0 : q_Sto) : Option (Int32 × q_Sto) :=
  q_ld s0 (q_RF t 0) 86 1790 fun v1 =>
  q_call (f_X12_isIn n a0 0 ((1 <<< (v1 &&& 31)) - 1) s0) fun r3 s2 =>
  if r3 = 0 then (
  some ((-1), s2))
  else (
  q_call (f_X12_isIn n a1 1 24 s2) fun r6 s5 =>
  if r6 = 0 then (
  some ((-1), s5))
  else (
  q_call (f_X12_isIn n a2 0 1 s5) fun r9 s8 =>
  if r9 = 0 then (
  some ((-1), s8))
  else (
  f_X12_led_L49 n t a0 a1 a2 (fun (y16 : Int32) (y17 : Int32) (s18 : q_Sto) =>
  if a2 = 0 then (
  some (y16, s18))
  else (
  some (y17, s18))) n (-1) (-1) 0 s8)))
set_option maxRecDepth 100000 in
set_option maxHeartbeats 4000000 in
theorem t_X12_led_L49 {w : q_Wd} {cx : q_Cx} (hc : q_ok w cx RX12 cX12_led 8 (some .int) (q_rm 6 144)) {n : Nat} {x0 : Nat} {x1 : Int32} {x2 : Int32} {x3 : Int32} (hx0 : q_KD x0 = .inl 12) {k95 : Int32 → Int32 → q_Sto → Option (Int32 × q_Sto)} (hk95 : ∀ (y4 : Int32) (y5 : Int32) (s1 : q_Sto), q_G w cx 8 (some .int) 95 [none, none, none, some (.int x3), some (.int y4), some (.int y5), none, none] [] s1 (k95 y4 y5 s1)) :
    ∀ (j : Nat) (x4 : Int32) (x5 : Int32) (x6 : Int32) (s0 : q_Sto), q_G w cx 8 (some .int) 49 [some (q_rf w x0), some (.int x1), some (.int x2), some (.int x3), some (.int x4), some (.int x5), some (.int x6), none] [] s0 (f_X12_led_L49 n x0 x1 x2 x3 k95 j x4 x5 x6 s0) := by
  intro j
  induction j with
  | zero =>
    intro _ _ _ _
    rw [f_X12_led_L49]
    exact q_none
  | succ j ih =>
    intro x4 x5 x6 s0
    rw [f_X12_led_L49]
    refine g_iload hc dX12_led_49 rfl (pc2 := 51) rfl ?_
    refine g_rl0 hc dX12_led_51 rfl (pc2 := 52) rfl ?_
    refine g_getR hc fl_X12_7 rfl hx0 dX12_led_52 (pc2 := 55) rfl ?_
    refine g_bipush hc dX12_led_55 bp_87 (pc2 := 57) rfl ?_
    refine g_iald hc (kf_12_0 hx0) (kl_12_0 hx0) dX12_led_57 (pc2 := 58) rfl (fun v11 => ?_)
    refine g_icmp_ge hc dX12_led_58 (pc1 := 61) (pc2 := 95) rfl rfl (fun _ => ?_) (fun _ => ?_)
    · refine g_rl0 hc dX12_led_61 rfl (pc2 := 62) rfl ?_
      refine g_iload hc dX12_led_62 rfl (pc2 := 64) rfl ?_
      refine g_il1 hc dX12_led_64 rfl (pc2 := 65) rfl ?_
      refine g_il2 hc dX12_led_65 rfl (pc2 := 66) rfl ?_
      refine g_callV3 hc (C_X12_ledBy hx0) mv_X12_ledBy ln_X12_434 hx0 ⟨by decide, by decide⟩ (Nat.le_of_ble_eq_true rfl) dX12_led_66 (pc2 := 69) rfl (fun r14 s13 => ?_)
      refine g_istore hc dX12_led_69 (by decide) (L2 := [some (q_rf w x0), some (.int x1), some (.int x2), some (.int x3), some (.int x4), some (.int x5), some (.int x6), some (.int r14)]) rfl (pc2 := 71) rfl ?_
      refine g_iload hc dX12_led_71 rfl (pc2 := 73) rfl ?_
      refine g_iload hc dX12_led_73 rfl (pc2 := 75) rfl ?_
      refine g_icmp_gt hc dX12_led_75 (pc1 := 78) (pc2 := 81) rfl rfl (fun _ => ?_) (fun _ => ?_)
      · refine g_goto hc dX12_led_78 (pc2 := 89) rfl ?_
        refine g_iinc hc dX12_led_89 rfl (q_ii ic_1) (by decide) (L2 := [some (q_rf w x0), some (.int x1), some (.int x2), some (.int x3), some (.int x4), some (.int x5), some (.int (x6 + 1)), some (.int r14)]) rfl (pc2 := 92) rfl ?_
        refine g_goto hc dX12_led_92 (pc2 := 49) rfl ?_
        refine q_Gmask [true, true, true, true, true, true, true, false] (L2 := [some (q_rf w x0), some (.int x1), some (.int x2), some (.int x3), some (.int x4), some (.int x5), some (.int (x6 + 1)), none]) rfl ?_
        exact ih _ _ _ _
      · refine g_iload hc dX12_led_81 rfl (pc2 := 83) rfl ?_
        refine g_istore hc dX12_led_83 (by decide) (L2 := [some (q_rf w x0), some (.int x1), some (.int x2), some (.int x3), some (.int x4), some (.int r14), some (.int x6), some (.int r14)]) rfl (pc2 := 85) rfl ?_
        refine g_iload hc dX12_led_85 rfl (pc2 := 87) rfl ?_
        refine g_istore hc dX12_led_87 (by decide) (L2 := [some (q_rf w x0), some (.int x1), some (.int x2), some (.int x3), some (.int x6), some (.int r14), some (.int x6), some (.int r14)]) rfl (pc2 := 89) rfl ?_
        refine g_iinc hc dX12_led_89 rfl (q_ii ic_1) (by decide) (L2 := [some (q_rf w x0), some (.int x1), some (.int x2), some (.int x3), some (.int x6), some (.int r14), some (.int (x6 + 1)), some (.int r14)]) rfl (pc2 := 92) rfl ?_
        refine g_goto hc dX12_led_92 (pc2 := 49) rfl ?_
        refine q_Gmask [true, true, true, true, true, true, true, false] (L2 := [some (q_rf w x0), some (.int x1), some (.int x2), some (.int x3), some (.int x6), some (.int r14), some (.int (x6 + 1)), none]) rfl ?_
        exact ih _ _ _ _
    · refine q_Gmask [false, false, false, true, true, true, false, true] (L2 := [none, none, none, some (.int x3), some (.int x4), some (.int x5), none, none]) rfl ?_
      exact hk95 _ _ _
set_option maxRecDepth 100000 in
set_option maxHeartbeats 4000000 in
theorem C_X12_led {l : Launch} {w : q_Wd} {n : Nat} {t : Nat} {a0 : Int32} {a1 : Int32} {a2 : Int32} (ht : q_KD t = .inl 12) {s0 : q_Sto} : q_C l w yX12_led cX12_led 8 (some .int) (q_rm 6 144) [q_rf w t, .int a0, .int a1, .int a2] s0 (f_X12_led n t a0 a1 a2 s0) := q_CofG [some (q_rf w t), some (.int a0), some (.int a1), some (.int a2), none, none, none, none] (by decide +kernel) rfl rfl (Nat.le_of_ble_eq_true rfl) fun cx hl hc => by
  have hc : q_ok w cx RX12 cX12_led 8 (some .int) (q_rm 6 144) := hc
  rw [f_X12_led]
  refine g_il1 hc dX12_led_0 rfl (pc2 := 1) rfl ?_
  refine g_iconst hc dX12_led_1 ic_0 (pc2 := 2) rfl ?_
  refine g_iconst hc dX12_led_2 ic_1 (pc2 := 3) rfl ?_
  refine g_rl0 hc dX12_led_3 rfl (pc2 := 4) rfl ?_
  refine g_getR hc fl_X12_7 rfl ht dX12_led_4 (pc2 := 7) rfl ?_
  refine g_bipush hc dX12_led_7 bp_86 (pc2 := 9) rfl ?_
  refine g_iald hc (kf_12_0 ht) (kl_12_0 ht) dX12_led_9 (pc2 := 10) rfl (fun v1 => ?_)
  refine g_ishl hc dX12_led_10 (pc2 := 11) rfl ?_
  refine g_iconst hc dX12_led_11 ic_1 (pc2 := 12) rfl ?_
  refine g_isub hc dX12_led_12 (pc2 := 13) rfl ?_
  refine g_callS3 hc C_X12_isIn mv_X12_isIn ln_X12_56 ⟨by decide, by decide⟩ (Nat.le_of_ble_eq_true rfl) dX12_led_13 (pc2 := 16) rfl (fun r3 s2 => ?_)
  refine g_if_eq hc dX12_led_16 (pc1 := 38) (pc2 := 19) rfl rfl (fun _ => ?_) (fun _ => ?_)
  · refine g_iconst hc dX12_led_38 ic_m1 (pc2 := 39) rfl ?_
    exact g_iret hc dX12_led_39
  · refine g_il2 hc dX12_led_19 rfl (pc2 := 20) rfl ?_
    refine g_iconst hc dX12_led_20 ic_1 (pc2 := 21) rfl ?_
    refine g_bipush hc dX12_led_21 bp_24 (pc2 := 23) rfl ?_
    refine g_callS3 hc C_X12_isIn mv_X12_isIn ln_X12_56 ⟨by decide, by decide⟩ (Nat.le_of_ble_eq_true rfl) dX12_led_23 (pc2 := 26) rfl (fun r6 s5 => ?_)
    refine g_if_eq hc dX12_led_26 (pc1 := 38) (pc2 := 29) rfl rfl (fun _ => ?_) (fun _ => ?_)
    · refine g_iconst hc dX12_led_38 ic_m1 (pc2 := 39) rfl ?_
      exact g_iret hc dX12_led_39
    · refine g_il3 hc dX12_led_29 rfl (pc2 := 30) rfl ?_
      refine g_iconst hc dX12_led_30 ic_0 (pc2 := 31) rfl ?_
      refine g_iconst hc dX12_led_31 ic_1 (pc2 := 32) rfl ?_
      refine g_callS3 hc C_X12_isIn mv_X12_isIn ln_X12_56 ⟨by decide, by decide⟩ (Nat.le_of_ble_eq_true rfl) dX12_led_32 (pc2 := 35) rfl (fun r9 s8 => ?_)
      refine g_if_ne hc dX12_led_35 (pc1 := 38) (pc2 := 40) rfl rfl (fun _ => ?_) (fun _ => ?_)
      · refine g_iconst hc dX12_led_38 ic_m1 (pc2 := 39) rfl ?_
        exact g_iret hc dX12_led_39
      · refine g_iconst hc dX12_led_40 ic_m1 (pc2 := 41) rfl ?_
        refine g_istore hc dX12_led_41 (by decide) (L2 := [some (q_rf w t), some (.int a0), some (.int a1), some (.int a2), some (.int (-1)), none, none, none]) rfl (pc2 := 43) rfl ?_
        refine g_iconst hc dX12_led_43 ic_m1 (pc2 := 44) rfl ?_
        refine g_istore hc dX12_led_44 (by decide) (L2 := [some (q_rf w t), some (.int a0), some (.int a1), some (.int a2), some (.int (-1)), some (.int (-1)), none, none]) rfl (pc2 := 46) rfl ?_
        refine g_iconst hc dX12_led_46 ic_0 (pc2 := 47) rfl ?_
        refine g_istore hc dX12_led_47 (by decide) (L2 := [some (q_rf w t), some (.int a0), some (.int a1), some (.int a2), some (.int (-1)), some (.int (-1)), some (.int 0), none]) rfl (pc2 := 49) rfl ?_
        refine t_X12_led_L49 hc ht (fun y16 y17 s18 => ?_) n _ _ _ _
        refine g_il3 hc dX12_led_95 rfl (pc2 := 96) rfl ?_
        refine g_if_ne hc dX12_led_96 (pc1 := 99) (pc2 := 104) rfl rfl (fun _ => ?_) (fun _ => ?_)
        · refine g_iload hc dX12_led_99 rfl (pc2 := 101) rfl ?_
          refine g_goto hc dX12_led_101 (pc2 := 106) rfl ?_
          exact g_iret hc dX12_led_106
        · refine g_iload hc dX12_led_104 rfl (pc2 := 106) rfl ?_
          exact g_iret hc dX12_led_106
set_option maxRecDepth 100000 in
set_option maxHeartbeats 4000000 in
def f_X12_leastBut_L2 (n : Nat) (x0 : Int32) (x1 : Int32) : Nat → Int32 → q_Sto → Option (Int32 × q_Sto)
  | 0, _, _ => none
  | j + 1, x2, s0 =>
    if x2 = x0 then (
    f_X12_leastBut_L2 n x0 x1  j (x2 + 1) s0)
    else (
    if x2 = x1 then (
    f_X12_leastBut_L2 n x0 x1  j (x2 + 1) s0)
    else (
    some (x2, s0)))
set_option maxRecDepth 100000 in
set_option maxHeartbeats 4000000 in
def f_X12_leastBut (n : Nat) (a0 : Int32) (a1 : Int32) (s0 : q_Sto) : Option (Int32 × q_Sto) :=
  f_X12_leastBut_L2 n a0 a1  n 0 s0
set_option maxRecDepth 100000 in
set_option maxHeartbeats 4000000 in
theorem t_X12_leastBut_L2 {w : q_Wd} {cx : q_Cx} (hc : q_ok w cx RX12 cX12_leastBut 3 (some .int) (q_rm 0 0)) {n : Nat} {x0 : Int32} {x1 : Int32}    :
    ∀ (j : Nat) (x2 : Int32) (s0 : q_Sto), q_G w cx 3 (some .int) 2 [some (.int x0), some (.int x1), some (.int x2)] [] s0 (f_X12_leastBut_L2 n x0 x1  j x2 s0) := by
  intro j
  induction j with
  | zero =>
    intro _ _
    rw [f_X12_leastBut_L2]
    exact q_none
  | succ j ih =>
    intro x2 s0
    rw [f_X12_leastBut_L2]
    refine g_il2 hc dX12_leastBut_2 rfl (pc2 := 3) rfl ?_
    refine g_il0 hc dX12_leastBut_3 rfl (pc2 := 4) rfl ?_
    refine g_icmp_eq hc dX12_leastBut_4 (pc1 := 12) (pc2 := 7) rfl rfl (fun _ => ?_) (fun _ => ?_)
    · refine g_iinc hc dX12_leastBut_12 rfl (q_ii ic_1) (by decide) (L2 := [some (.int x0), some (.int x1), some (.int (x2 + 1))]) rfl (pc2 := 15) rfl ?_
      refine g_goto hc dX12_leastBut_15 (pc2 := 2) rfl ?_
      exact ih _ _
    · refine g_il2 hc dX12_leastBut_7 rfl (pc2 := 8) rfl ?_
      refine g_il1 hc dX12_leastBut_8 rfl (pc2 := 9) rfl ?_
      refine g_icmp_ne hc dX12_leastBut_9 (pc1 := 12) (pc2 := 18) rfl rfl (fun _ => ?_) (fun _ => ?_)
      · refine g_iinc hc dX12_leastBut_12 rfl (q_ii ic_1) (by decide) (L2 := [some (.int x0), some (.int x1), some (.int (x2 + 1))]) rfl (pc2 := 15) rfl ?_
        refine g_goto hc dX12_leastBut_15 (pc2 := 2) rfl ?_
        exact ih _ _
      · refine g_il2 hc dX12_leastBut_18 rfl (pc2 := 19) rfl ?_
        exact g_iret hc dX12_leastBut_19
set_option maxRecDepth 100000 in
set_option maxHeartbeats 4000000 in
theorem C_X12_leastBut {l : Launch} {w : q_Wd} {n : Nat} {a0 : Int32} {a1 : Int32}  {s0 : q_Sto} : q_C l w yX12_leastBut cX12_leastBut 3 (some .int) (q_rm 0 0) [.int a0, .int a1] s0 (f_X12_leastBut n a0 a1 s0) := q_CofG [some (.int a0), some (.int a1), none] (by decide +kernel) rfl rfl (Nat.le_of_ble_eq_true rfl) fun cx hl hc => by
  have hc : q_ok w cx RX12 cX12_leastBut 3 (some .int) (q_rm 0 0) := hc
  rw [f_X12_leastBut]
  refine g_iconst hc dX12_leastBut_0 ic_0 (pc2 := 1) rfl ?_
  refine g_is2 hc dX12_leastBut_1 (by decide) (L2 := [some (.int a0), some (.int a1), some (.int 0)]) rfl (pc2 := 2) rfl ?_
  refine t_X12_leastBut_L2 hc   n _ _
set_option maxRecDepth 100000 in
set_option maxHeartbeats 4000000 in
def f_X12_game_L20 (n : Nat) (x0 : Nat) (x1 : Int32) (k57 : q_Sto → Option (Int32 × q_Sto)) : Nat → Int32 → q_Sto → Option (Int32 × q_Sto)
  | 0, _, _ => none
  | j + 1, x2, s0 =>
    if x2 ≤ 99 then (
    q_ld s0 (q_RF x0 30) (x2 - 1) 100 fun v6 =>
    q_dv x2 2 fun v7 =>
    q_ld s0 (q_RF x0 30) v7 100 fun v8 =>
    q_call (f_X12_leastBut n v6 v8 s0) fun r10 s9 =>
    q_st s9 (q_RF x0 30) x2 100 r10 fun s11 =>
    f_X12_game_L20 n x0 x1 k57 j (x2 + 1) s11)
    else (
    k57 s0)
set_option maxRecDepth 100000 in
set_option maxHeartbeats 4000000 in
def f_X12_game_L61 (n : Nat) (x0 : Nat) (x1 : Int32) (k95 : Int32 → q_Sto → Option (Int32 × q_Sto)) : Nat → Int32 → Int32 → q_Sto → Option (Int32 × q_Sto)
  | 0, _, _, _ => none
  | j + 1, x2, x3, s0 =>
    q_ld s0 (q_RF x0 0) 87 1790 fun v13 =>
    if x3 < v13 then (
    q_ld s0 (q_RF x0 0) (80 + x3) 1790 fun v15 =>
    q_ld s0 (q_RF x0 30) v15 100 fun v16 =>
    q_nm (x2 ^^^ v16) fun v17 =>
    f_X12_game_L61 n x0 x1 k95 j v17 (x3 + 1) s0)
    else (
    k95 x2 s0)
set_option maxRecDepth 100000 in
set_option maxHeartbeats 4000000 in
def f_X12_game_L97 (n : Nat) (x0 : Nat) (x1 : Int32) (x2 : Int32) (k149 : Int32 → Int32 → q_Sto → Option (Int32 × q_Sto)) (k181 : Int32 → Int32 → q_Sto → Option (Int32 × q_Sto)) : Nat → Int32 → q_Sto → Option (Int32 × q_Sto)
  | 0, _, _ => none
  | j + 1, x3, s0 =>
    q_ld s0 (q_RF x0 0) 87 1790 fun v20 =>
    if x3 < v20 then (
    q_ld s0 (q_RF x0 0) (80 + x3) 1790 fun v22 =>
    q_ld s0 (q_RF x0 30) v22 100 fun v23 =>
    q_nm (x2 ^^^ v23) fun v24 =>
    q_jn (fun  (s25 : q_Sto) =>
      if v22 ≤ 0 then (
      f_X12_game_L97 n x0 x1 x2 k149 k181 j (x3 + 1) s25)
      else (
      q_ld s25 (q_RF x0 30) (v22 - 1) 100 fun v27 =>
      if v27 = v24 then (
      k181 x3 v22 s25)
      else (
      f_X12_game_L97 n x0 x1 x2 k149 k181 j (x3 + 1) s25))) fun j162 =>
    if v22 ≤ 0 then (
    j162 s0)
    else (
    q_dv v22 2 fun v30 =>
    q_ld s0 (q_RF x0 30) v30 100 fun v31 =>
    if v31 = v24 then (
    k149 x3 v22 s0)
    else (
    j162 s0)))
    else (
    some ((-1), s0))
set_option maxRecDepth 100000 in
set_option maxHeartbeats 4000000 in
def f_X12_game (n : Nat) (t : Nat) (a0 : Int32) (s0 : q_Sto) : Option (Int32 × q_Sto) :=
  q_call (f_X12_isIn n a0 0 1 s0) fun r2 s1 =>
  if r2 = 0 then (
  some ((-1), s1))
  else (
  q_st s1 (q_RF t 30) 0 100 0 fun s4 =>
  f_X12_game_L20 n t a0 (fun  (s12 : q_Sto) =>
  f_X12_game_L61 n t a0 (fun (y18 : Int32) (s19 : q_Sto) =>
  f_X12_game_L97 n t a0 y18 (fun (y33 : Int32) (y34 : Int32) (s35 : q_Sto) =>
  if a0 = 0 then (
  some (y33, s35))
  else (
  q_dv y34 2 fun v37 =>
  some (v37, s35))) (fun (y38 : Int32) (y39 : Int32) (s40 : q_Sto) =>
  if a0 = 0 then (
  some (y38, s40))
  else (
  some (y39 - 1, s40))) n 0 s19) n 0 0 s12) n 1 s4)
set_option maxRecDepth 100000 in
set_option maxHeartbeats 4000000 in
theorem t_X12_game_L20 {w : q_Wd} {cx : q_Cx} (hc : q_ok w cx RX12 cX12_game 6 (some .int) (q_rm 1 22)) {n : Nat} {x0 : Nat} {x1 : Int32} (hx0 : q_KD x0 = .inl 12) {k57 : q_Sto → Option (Int32 × q_Sto)} (hk57 : ∀  (s1 : q_Sto), q_G w cx 6 (some .int) 57 [some (q_rf w x0), some (.int x1), none, none, none, none] [] s1 (k57 s1)) :
    ∀ (j : Nat) (x2 : Int32) (s0 : q_Sto), q_G w cx 6 (some .int) 20 [some (q_rf w x0), some (.int x1), some (.int x2), none, none, none] [] s0 (f_X12_game_L20 n x0 x1 k57 j x2 s0) := by
  intro j
  induction j with
  | zero =>
    intro _ _
    rw [f_X12_game_L20]
    exact q_none
  | succ j ih =>
    intro x2 s0
    rw [f_X12_game_L20]
    refine g_il2 hc dX12_game_20 rfl (pc2 := 21) rfl ?_
    refine g_bipush hc dX12_game_21 bp_99 (pc2 := 23) rfl ?_
    refine g_icmp_gt hc dX12_game_23 (pc1 := 26) (pc2 := 57) rfl rfl (fun _ => ?_) (fun _ => ?_)
    · refine g_rl0 hc dX12_game_26 rfl (pc2 := 27) rfl ?_
      refine g_getR hc fl_X12_53 rfl hx0 dX12_game_27 (pc2 := 30) rfl ?_
      refine g_il2 hc dX12_game_30 rfl (pc2 := 31) rfl ?_
      refine g_rl0 hc dX12_game_31 rfl (pc2 := 32) rfl ?_
      refine g_getR hc fl_X12_53 rfl hx0 dX12_game_32 (pc2 := 35) rfl ?_
      refine g_il2 hc dX12_game_35 rfl (pc2 := 36) rfl ?_
      refine g_iconst hc dX12_game_36 ic_1 (pc2 := 37) rfl ?_
      refine g_isub hc dX12_game_37 (pc2 := 38) rfl ?_
      refine g_iald hc (kf_12_30 hx0) (kl_12_30 hx0) dX12_game_38 (pc2 := 39) rfl (fun v6 => ?_)
      refine g_rl0 hc dX12_game_39 rfl (pc2 := 40) rfl ?_
      refine g_getR hc fl_X12_53 rfl hx0 dX12_game_40 (pc2 := 43) rfl ?_
      refine g_il2 hc dX12_game_43 rfl (pc2 := 44) rfl ?_
      refine g_iconst hc dX12_game_44 ic_2 (pc2 := 45) rfl ?_
      refine g_idiv hc dX12_game_45 (pc2 := 46) rfl (fun v7 => ?_)
      refine g_iald hc (kf_12_30 hx0) (kl_12_30 hx0) dX12_game_46 (pc2 := 47) rfl (fun v8 => ?_)
      refine g_callS2 hc C_X12_leastBut mv_X12_leastBut ln_X12_437 ⟨by decide, by decide⟩ (Nat.le_of_ble_eq_true rfl) dX12_game_47 (pc2 := 50) rfl (fun r10 s9 => ?_)
      refine g_iast hc (kf_12_30 hx0) (kl_12_30 hx0) dX12_game_50 (pc2 := 51) rfl (fun s11 => ?_)
      refine g_iinc hc dX12_game_51 rfl (q_ii ic_1) (by decide) (L2 := [some (q_rf w x0), some (.int x1), some (.int (x2 + 1)), none, none, none]) rfl (pc2 := 54) rfl ?_
      refine g_goto hc dX12_game_54 (pc2 := 20) rfl ?_
      exact ih _ _
    · refine q_Gmask [true, true, false, true, true, true] (L2 := [some (q_rf w x0), some (.int x1), none, none, none, none]) rfl ?_
      exact hk57 _
set_option maxRecDepth 100000 in
set_option maxHeartbeats 4000000 in
theorem t_X12_game_L61 {w : q_Wd} {cx : q_Cx} (hc : q_ok w cx RX12 cX12_game 6 (some .int) (q_rm 1 22)) {n : Nat} {x0 : Nat} {x1 : Int32} (hx0 : q_KD x0 = .inl 12) {k95 : Int32 → q_Sto → Option (Int32 × q_Sto)} (hk95 : ∀ (y2 : Int32) (s1 : q_Sto), q_G w cx 6 (some .int) 95 [some (q_rf w x0), some (.int x1), some (.int y2), none, none, none] [] s1 (k95 y2 s1)) :
    ∀ (j : Nat) (x2 : Int32) (x3 : Int32) (s0 : q_Sto), q_G w cx 6 (some .int) 61 [some (q_rf w x0), some (.int x1), some (.int x2), some (.int x3), none, none] [] s0 (f_X12_game_L61 n x0 x1 k95 j x2 x3 s0) := by
  intro j
  induction j with
  | zero =>
    intro _ _ _
    rw [f_X12_game_L61]
    exact q_none
  | succ j ih =>
    intro x2 x3 s0
    rw [f_X12_game_L61]
    refine g_il3 hc dX12_game_61 rfl (pc2 := 62) rfl ?_
    refine g_rl0 hc dX12_game_62 rfl (pc2 := 63) rfl ?_
    refine g_getR hc fl_X12_7 rfl hx0 dX12_game_63 (pc2 := 66) rfl ?_
    refine g_bipush hc dX12_game_66 bp_87 (pc2 := 68) rfl ?_
    refine g_iald hc (kf_12_0 hx0) (kl_12_0 hx0) dX12_game_68 (pc2 := 69) rfl (fun v13 => ?_)
    refine g_icmp_ge hc dX12_game_69 (pc1 := 72) (pc2 := 95) rfl rfl (fun _ => ?_) (fun _ => ?_)
    · refine g_il2 hc dX12_game_72 rfl (pc2 := 73) rfl ?_
      refine g_rl0 hc dX12_game_73 rfl (pc2 := 74) rfl ?_
      refine g_getR hc fl_X12_53 rfl hx0 dX12_game_74 (pc2 := 77) rfl ?_
      refine g_rl0 hc dX12_game_77 rfl (pc2 := 78) rfl ?_
      refine g_getR hc fl_X12_7 rfl hx0 dX12_game_78 (pc2 := 81) rfl ?_
      refine g_bipush hc dX12_game_81 bp_80 (pc2 := 83) rfl ?_
      refine g_il3 hc dX12_game_83 rfl (pc2 := 84) rfl ?_
      refine g_iadd hc dX12_game_84 (pc2 := 85) rfl ?_
      refine g_iald hc (kf_12_0 hx0) (kl_12_0 hx0) dX12_game_85 (pc2 := 86) rfl (fun v15 => ?_)
      refine g_iald hc (kf_12_30 hx0) (kl_12_30 hx0) dX12_game_86 (pc2 := 87) rfl (fun v16 => ?_)
      refine g_ixor hc dX12_game_87 (pc2 := 88) rfl ?_
      refine g_nm (fun v17 => ?_)
      refine g_is2 hc dX12_game_88 (by decide) (L2 := [some (q_rf w x0), some (.int x1), some (.int v17), some (.int x3), none, none]) rfl (pc2 := 89) rfl ?_
      refine g_iinc hc dX12_game_89 rfl (q_ii ic_1) (by decide) (L2 := [some (q_rf w x0), some (.int x1), some (.int v17), some (.int (x3 + 1)), none, none]) rfl (pc2 := 92) rfl ?_
      refine g_goto hc dX12_game_92 (pc2 := 61) rfl ?_
      exact ih _ _ _
    · refine q_Gmask [true, true, true, false, true, true] (L2 := [some (q_rf w x0), some (.int x1), some (.int x2), none, none, none]) rfl ?_
      exact hk95 _ _
set_option maxRecDepth 100000 in
set_option maxHeartbeats 4000000 in
theorem t_X12_game_L97 {w : q_Wd} {cx : q_Cx} (hc : q_ok w cx RX12 cX12_game 6 (some .int) (q_rm 1 22)) {n : Nat} {x0 : Nat} {x1 : Int32} {x2 : Int32} (hx0 : q_KD x0 = .inl 12) {k149 : Int32 → Int32 → q_Sto → Option (Int32 × q_Sto)} {k181 : Int32 → Int32 → q_Sto → Option (Int32 × q_Sto)} (hk149 : ∀ (y3 : Int32) (y4 : Int32) (s1 : q_Sto), q_G w cx 6 (some .int) 149 [none, some (.int x1), none, some (.int y3), some (.int y4), none] [] s1 (k149 y3 y4 s1)) (hk181 : ∀ (y3 : Int32) (y4 : Int32) (s1 : q_Sto), q_G w cx 6 (some .int) 181 [none, some (.int x1), none, some (.int y3), some (.int y4), none] [] s1 (k181 y3 y4 s1)) :
    ∀ (j : Nat) (x3 : Int32) (s0 : q_Sto), q_G w cx 6 (some .int) 97 [some (q_rf w x0), some (.int x1), some (.int x2), some (.int x3), none, none] [] s0 (f_X12_game_L97 n x0 x1 x2 k149 k181 j x3 s0) := by
  intro j
  induction j with
  | zero =>
    intro _ _
    rw [f_X12_game_L97]
    exact q_none
  | succ j ih =>
    intro x3 s0
    rw [f_X12_game_L97]
    refine g_il3 hc dX12_game_97 rfl (pc2 := 98) rfl ?_
    refine g_rl0 hc dX12_game_98 rfl (pc2 := 99) rfl ?_
    refine g_getR hc fl_X12_7 rfl hx0 dX12_game_99 (pc2 := 102) rfl ?_
    refine g_bipush hc dX12_game_102 bp_87 (pc2 := 104) rfl ?_
    refine g_iald hc (kf_12_0 hx0) (kl_12_0 hx0) dX12_game_104 (pc2 := 105) rfl (fun v20 => ?_)
    refine g_icmp_ge hc dX12_game_105 (pc1 := 108) (pc2 := 200) rfl rfl (fun _ => ?_) (fun _ => ?_)
    · refine g_rl0 hc dX12_game_108 rfl (pc2 := 109) rfl ?_
      refine g_getR hc fl_X12_7 rfl hx0 dX12_game_109 (pc2 := 112) rfl ?_
      refine g_bipush hc dX12_game_112 bp_80 (pc2 := 114) rfl ?_
      refine g_il3 hc dX12_game_114 rfl (pc2 := 115) rfl ?_
      refine g_iadd hc dX12_game_115 (pc2 := 116) rfl ?_
      refine g_iald hc (kf_12_0 hx0) (kl_12_0 hx0) dX12_game_116 (pc2 := 117) rfl (fun v22 => ?_)
      refine g_istore hc dX12_game_117 (by decide) (L2 := [some (q_rf w x0), some (.int x1), some (.int x2), some (.int x3), some (.int v22), none]) rfl (pc2 := 119) rfl ?_
      refine g_il2 hc dX12_game_119 rfl (pc2 := 120) rfl ?_
      refine g_rl0 hc dX12_game_120 rfl (pc2 := 121) rfl ?_
      refine g_getR hc fl_X12_53 rfl hx0 dX12_game_121 (pc2 := 124) rfl ?_
      refine g_iload hc dX12_game_124 rfl (pc2 := 126) rfl ?_
      refine g_iald hc (kf_12_30 hx0) (kl_12_30 hx0) dX12_game_126 (pc2 := 127) rfl (fun v23 => ?_)
      refine g_ixor hc dX12_game_127 (pc2 := 128) rfl ?_
      refine g_nm (fun v24 => ?_)
      refine g_istore hc dX12_game_128 (by decide) (L2 := [some (q_rf w x0), some (.int x1), some (.int x2), some (.int x3), some (.int v22), some (.int v24)]) rfl (pc2 := 130) rfl ?_
      refine g_iload hc dX12_game_130 rfl (pc2 := 132) rfl ?_
      refine g_jn (P := fun j162 => ∀  (s25 : q_Sto), q_G w cx 6 (some .int) 162 [some (q_rf w x0), some (.int x1), some (.int x2), some (.int x3), some (.int v22), some (.int v24)] [] s25 (j162 s25)) (fun s25 => ?_) (fun j162 hj162 => ?_)
      · refine g_iload hc dX12_game_162 rfl (pc2 := 164) rfl ?_
        refine g_if_le hc dX12_game_164 (pc1 := 194) (pc2 := 167) rfl rfl (fun _ => ?_) (fun _ => ?_)
        · refine g_iinc hc dX12_game_194 rfl (q_ii ic_1) (by decide) (L2 := [some (q_rf w x0), some (.int x1), some (.int x2), some (.int (x3 + 1)), some (.int v22), some (.int v24)]) rfl (pc2 := 197) rfl ?_
          refine g_goto hc dX12_game_197 (pc2 := 97) rfl ?_
          refine q_Gmask [true, true, true, true, false, false] (L2 := [some (q_rf w x0), some (.int x1), some (.int x2), some (.int (x3 + 1)), none, none]) rfl ?_
          exact ih _ _
        · refine g_rl0 hc dX12_game_167 rfl (pc2 := 168) rfl ?_
          refine g_getR hc fl_X12_53 rfl hx0 dX12_game_168 (pc2 := 171) rfl ?_
          refine g_iload hc dX12_game_171 rfl (pc2 := 173) rfl ?_
          refine g_iconst hc dX12_game_173 ic_1 (pc2 := 174) rfl ?_
          refine g_isub hc dX12_game_174 (pc2 := 175) rfl ?_
          refine g_iald hc (kf_12_30 hx0) (kl_12_30 hx0) dX12_game_175 (pc2 := 176) rfl (fun v27 => ?_)
          refine g_iload hc dX12_game_176 rfl (pc2 := 178) rfl ?_
          refine g_icmp_ne hc dX12_game_178 (pc1 := 181) (pc2 := 194) rfl rfl (fun _ => ?_) (fun _ => ?_)
          · refine q_Gmask [false, true, false, true, true, false] (L2 := [none, some (.int x1), none, some (.int x3), some (.int v22), none]) rfl ?_
            exact hk181 _ _ _
          · refine g_iinc hc dX12_game_194 rfl (q_ii ic_1) (by decide) (L2 := [some (q_rf w x0), some (.int x1), some (.int x2), some (.int (x3 + 1)), some (.int v22), some (.int v24)]) rfl (pc2 := 197) rfl ?_
            refine g_goto hc dX12_game_197 (pc2 := 97) rfl ?_
            refine q_Gmask [true, true, true, true, false, false] (L2 := [some (q_rf w x0), some (.int x1), some (.int x2), some (.int (x3 + 1)), none, none]) rfl ?_
            exact ih _ _
      · refine g_if_le hc dX12_game_132 (pc1 := 162) (pc2 := 135) rfl rfl (fun _ => ?_) (fun _ => ?_)
        · exact hj162 _
        · refine g_rl0 hc dX12_game_135 rfl (pc2 := 136) rfl ?_
          refine g_getR hc fl_X12_53 rfl hx0 dX12_game_136 (pc2 := 139) rfl ?_
          refine g_iload hc dX12_game_139 rfl (pc2 := 141) rfl ?_
          refine g_iconst hc dX12_game_141 ic_2 (pc2 := 142) rfl ?_
          refine g_idiv hc dX12_game_142 (pc2 := 143) rfl (fun v30 => ?_)
          refine g_iald hc (kf_12_30 hx0) (kl_12_30 hx0) dX12_game_143 (pc2 := 144) rfl (fun v31 => ?_)
          refine g_iload hc dX12_game_144 rfl (pc2 := 146) rfl ?_
          refine g_icmp_ne hc dX12_game_146 (pc1 := 149) (pc2 := 162) rfl rfl (fun _ => ?_) (fun _ => ?_)
          · refine q_Gmask [false, true, false, true, true, false] (L2 := [none, some (.int x1), none, some (.int x3), some (.int v22), none]) rfl ?_
            exact hk149 _ _ _
          · exact hj162 _
    · refine g_iconst hc dX12_game_200 ic_m1 (pc2 := 201) rfl ?_
      exact g_iret hc dX12_game_201
set_option maxRecDepth 100000 in
set_option maxHeartbeats 4000000 in
theorem C_X12_game {l : Launch} {w : q_Wd} {n : Nat} {t : Nat} {a0 : Int32} (ht : q_KD t = .inl 12) {s0 : q_Sto} : q_C l w yX12_game cX12_game 6 (some .int) (q_rm 1 22) [q_rf w t, .int a0] s0 (f_X12_game n t a0 s0) := q_CofG [some (q_rf w t), some (.int a0), none, none, none, none] (by decide +kernel) rfl rfl (Nat.le_of_ble_eq_true rfl) fun cx hl hc => by
  have hc : q_ok w cx RX12 cX12_game 6 (some .int) (q_rm 1 22) := hc
  rw [f_X12_game]
  refine g_il1 hc dX12_game_0 rfl (pc2 := 1) rfl ?_
  refine g_iconst hc dX12_game_1 ic_0 (pc2 := 2) rfl ?_
  refine g_iconst hc dX12_game_2 ic_1 (pc2 := 3) rfl ?_
  refine g_callS3 hc C_X12_isIn mv_X12_isIn ln_X12_56 ⟨by decide, by decide⟩ (Nat.le_of_ble_eq_true rfl) dX12_game_3 (pc2 := 6) rfl (fun r2 s1 => ?_)
  refine g_if_ne hc dX12_game_6 (pc1 := 9) (pc2 := 11) rfl rfl (fun _ => ?_) (fun _ => ?_)
  · refine g_iconst hc dX12_game_9 ic_m1 (pc2 := 10) rfl ?_
    exact g_iret hc dX12_game_10
  · refine g_rl0 hc dX12_game_11 rfl (pc2 := 12) rfl ?_
    refine g_getR hc fl_X12_53 rfl ht dX12_game_12 (pc2 := 15) rfl ?_
    refine g_iconst hc dX12_game_15 ic_0 (pc2 := 16) rfl ?_
    refine g_iconst hc dX12_game_16 ic_0 (pc2 := 17) rfl ?_
    refine g_iast hc (kf_12_30 ht) (kl_12_30 ht) dX12_game_17 (pc2 := 18) rfl (fun s4 => ?_)
    refine g_iconst hc dX12_game_18 ic_1 (pc2 := 19) rfl ?_
    refine g_is2 hc dX12_game_19 (by decide) (L2 := [some (q_rf w t), some (.int a0), some (.int 1), none, none, none]) rfl (pc2 := 20) rfl ?_
    refine t_X12_game_L20 hc ht (fun s12 => ?_) n _ _
    refine g_iconst hc dX12_game_57 ic_0 (pc2 := 58) rfl ?_
    refine g_is2 hc dX12_game_58 (by decide) (L2 := [some (q_rf w t), some (.int a0), some (.int 0), none, none, none]) rfl (pc2 := 59) rfl ?_
    refine g_iconst hc dX12_game_59 ic_0 (pc2 := 60) rfl ?_
    refine g_is3 hc dX12_game_60 (by decide) (L2 := [some (q_rf w t), some (.int a0), some (.int 0), some (.int 0), none, none]) rfl (pc2 := 61) rfl ?_
    refine t_X12_game_L61 hc ht (fun y18 s19 => ?_) n _ _ _
    refine g_iconst hc dX12_game_95 ic_0 (pc2 := 96) rfl ?_
    refine g_is3 hc dX12_game_96 (by decide) (L2 := [some (q_rf w t), some (.int a0), some (.int y18), some (.int 0), none, none]) rfl (pc2 := 97) rfl ?_
    refine t_X12_game_L97 hc ht (fun y33 y34 s35 => ?_) (fun y38 y39 s40 => ?_) n _ _
    · refine g_il1 hc dX12_game_149 rfl (pc2 := 150) rfl ?_
      refine g_if_ne hc dX12_game_150 (pc1 := 153) (pc2 := 157) rfl rfl (fun _ => ?_) (fun _ => ?_)
      · refine g_il3 hc dX12_game_153 rfl (pc2 := 154) rfl ?_
        refine g_goto hc dX12_game_154 (pc2 := 161) rfl ?_
        exact g_iret hc dX12_game_161
      · refine g_iload hc dX12_game_157 rfl (pc2 := 159) rfl ?_
        refine g_iconst hc dX12_game_159 ic_2 (pc2 := 160) rfl ?_
        refine g_idiv hc dX12_game_160 (pc2 := 161) rfl (fun v37 => ?_)
        exact g_iret hc dX12_game_161
    · refine g_il1 hc dX12_game_181 rfl (pc2 := 182) rfl ?_
      refine g_if_ne hc dX12_game_182 (pc1 := 185) (pc2 := 189) rfl rfl (fun _ => ?_) (fun _ => ?_)
      · refine g_il3 hc dX12_game_185 rfl (pc2 := 186) rfl ?_
        refine g_goto hc dX12_game_186 (pc2 := 193) rfl ?_
        exact g_iret hc dX12_game_193
      · refine g_iload hc dX12_game_189 rfl (pc2 := 191) rfl ?_
        refine g_iconst hc dX12_game_191 ic_1 (pc2 := 192) rfl ?_
        refine g_isub hc dX12_game_192 (pc2 := 193) rfl ?_
        exact g_iret hc dX12_game_193
set_option maxRecDepth 100000 in
set_option maxHeartbeats 4000000 in
def f_X12_heedersOf_L4 (n : Nat) (x0 : Nat) (x1 : Int32) : Nat → Int32 → Int32 → q_Sto → Option (Int32 × q_Sto)
  | 0, _, _, _ => none
  | j + 1, x2, x3, s0 =>
    q_ld s0 (q_RF x0 0) 86 1790 fun v1 =>
    if x3 < v1 then (
    q_ld s0 (q_RF x0 0) (129 + x3) 1790 fun v3 =>
    q_nm (x2 + ((v3 >>> (x1 &&& 31)) &&& 1)) fun v4 =>
    f_X12_heedersOf_L4 n x0 x1  j v4 (x3 + 1) s0)
    else (
    some (x2, s0))
set_option maxRecDepth 100000 in
set_option maxHeartbeats 4000000 in
def f_X12_heedersOf (n : Nat) (t : Nat) (a0 : Int32) (s0 : q_Sto) : Option (Int32 × q_Sto) :=
  f_X12_heedersOf_L4 n t a0  n 0 0 s0
set_option maxRecDepth 100000 in
set_option maxHeartbeats 4000000 in
theorem t_X12_heedersOf_L4 {w : q_Wd} {cx : q_Cx} (hc : q_ok w cx RX12 cX12_heedersOf 4 (some .int) (q_rm 0 0)) {n : Nat} {x0 : Nat} {x1 : Int32} (hx0 : q_KD x0 = .inl 12)   :
    ∀ (j : Nat) (x2 : Int32) (x3 : Int32) (s0 : q_Sto), q_G w cx 4 (some .int) 4 [some (q_rf w x0), some (.int x1), some (.int x2), some (.int x3)] [] s0 (f_X12_heedersOf_L4 n x0 x1  j x2 x3 s0) := by
  intro j
  induction j with
  | zero =>
    intro _ _ _
    rw [f_X12_heedersOf_L4]
    exact q_none
  | succ j ih =>
    intro x2 x3 s0
    rw [f_X12_heedersOf_L4]
    refine g_il3 hc dX12_heedersOf_4 rfl (pc2 := 5) rfl ?_
    refine g_rl0 hc dX12_heedersOf_5 rfl (pc2 := 6) rfl ?_
    refine g_getR hc fl_X12_7 rfl hx0 dX12_heedersOf_6 (pc2 := 9) rfl ?_
    refine g_bipush hc dX12_heedersOf_9 bp_86 (pc2 := 11) rfl ?_
    refine g_iald hc (kf_12_0 hx0) (kl_12_0 hx0) dX12_heedersOf_11 (pc2 := 12) rfl (fun v1 => ?_)
    refine g_icmp_ge hc dX12_heedersOf_12 (pc1 := 15) (pc2 := 38) rfl rfl (fun _ => ?_) (fun _ => ?_)
    · refine g_il2 hc dX12_heedersOf_15 rfl (pc2 := 16) rfl ?_
      refine g_rl0 hc dX12_heedersOf_16 rfl (pc2 := 17) rfl ?_
      refine g_getR hc fl_X12_7 rfl hx0 dX12_heedersOf_17 (pc2 := 20) rfl ?_
      refine g_sipush hc dX12_heedersOf_20 sp_129 (pc2 := 23) rfl ?_
      refine g_il3 hc dX12_heedersOf_23 rfl (pc2 := 24) rfl ?_
      refine g_iadd hc dX12_heedersOf_24 (pc2 := 25) rfl ?_
      refine g_iald hc (kf_12_0 hx0) (kl_12_0 hx0) dX12_heedersOf_25 (pc2 := 26) rfl (fun v3 => ?_)
      refine g_il1 hc dX12_heedersOf_26 rfl (pc2 := 27) rfl ?_
      refine g_ishr hc dX12_heedersOf_27 (pc2 := 28) rfl ?_
      refine g_iconst hc dX12_heedersOf_28 ic_1 (pc2 := 29) rfl ?_
      refine g_iand hc dX12_heedersOf_29 (pc2 := 30) rfl ?_
      refine g_iadd hc dX12_heedersOf_30 (pc2 := 31) rfl ?_
      refine g_nm (fun v4 => ?_)
      refine g_is2 hc dX12_heedersOf_31 (by decide) (L2 := [some (q_rf w x0), some (.int x1), some (.int v4), some (.int x3)]) rfl (pc2 := 32) rfl ?_
      refine g_iinc hc dX12_heedersOf_32 rfl (q_ii ic_1) (by decide) (L2 := [some (q_rf w x0), some (.int x1), some (.int v4), some (.int (x3 + 1))]) rfl (pc2 := 35) rfl ?_
      refine g_goto hc dX12_heedersOf_35 (pc2 := 4) rfl ?_
      exact ih _ _ _
    · refine g_il2 hc dX12_heedersOf_38 rfl (pc2 := 39) rfl ?_
      exact g_iret hc dX12_heedersOf_39
set_option maxRecDepth 100000 in
set_option maxHeartbeats 4000000 in
theorem C_X12_heedersOf {l : Launch} {w : q_Wd} {n : Nat} {t : Nat} {a0 : Int32} (ht : q_KD t = .inl 12) {s0 : q_Sto} : q_C l w yX12_heedersOf cX12_heedersOf 4 (some .int) (q_rm 0 0) [q_rf w t, .int a0] s0 (f_X12_heedersOf n t a0 s0) := q_CofG [some (q_rf w t), some (.int a0), none, none] (by decide +kernel) rfl rfl (Nat.le_of_ble_eq_true rfl) fun cx hl hc => by
  have hc : q_ok w cx RX12 cX12_heedersOf 4 (some .int) (q_rm 0 0) := hc
  rw [f_X12_heedersOf]
  refine g_iconst hc dX12_heedersOf_0 ic_0 (pc2 := 1) rfl ?_
  refine g_is2 hc dX12_heedersOf_1 (by decide) (L2 := [some (q_rf w t), some (.int a0), some (.int 0), none]) rfl (pc2 := 2) rfl ?_
  refine g_iconst hc dX12_heedersOf_2 ic_0 (pc2 := 3) rfl ?_
  refine g_is3 hc dX12_heedersOf_3 (by decide) (L2 := [some (q_rf w t), some (.int a0), some (.int 0), some (.int 0)]) rfl (pc2 := 4) rfl ?_
  refine t_X12_heedersOf_L4 hc ht  n _ _ _
set_option maxRecDepth 100000 in
set_option maxHeartbeats 4000000 in
def f_X12_share_L26 (n : Nat) (x0 : Nat) (x1 : Int32) (x2 : Int32) (k53 : Int32 → q_Sto → Option (Int32 × q_Sto)) : Nat → Int32 → Int32 → q_Sto → Option (Int32 × q_Sto)
  | 0, _, _, _ => none
  | j + 1, x3, x4, s0 =>
    q_ld s0 (q_RF x0 0) 86 1790 fun v7 =>
    if x4 < v7 then (
    q_call (f_X12_heedersOf n x0 x4 s0) fun r10 s9 =>
    q_nm (x3 + r10) fun v11 =>
    f_X12_share_L26 n x0 x1 x2 k53 j v11 (x4 + 1) s9)
    else (
    k53 x3 s0)
set_option maxRecDepth 100000 in
set_option maxHeartbeats 4000000 in
def f_X12_share_L76 (n : Nat) (x0 : Nat) (x1 : Int32) (x2 : Int32) (x3 : Int32) (k134 : Int32 → Int32 → q_Sto → Option (Int32 × q_Sto)) : Nat → Int32 → Int32 → Int32 → q_Sto → Option (Int32 × q_Sto)
  | 0, _, _, _, _ => none
  | j + 1, x4, x5, x6, s0 =>
    q_ld s0 (q_RF x0 0) 86 1790 fun v18 =>
    if x6 < v18 then (
    q_call (f_X12_heedersOf n x0 x6 s0) fun r21 s20 =>
    q_dv (x1 * r21) x3 fun v22 =>
    q_nm (x4 - v22) fun v23 =>
    if x6 < x2 then (
    q_call (f_X12_heedersOf n x0 x6 s20) fun r26 s25 =>
    if r26 ≤ 0 then (
    q_nm (x5 + 0) fun v28 =>
    f_X12_share_L76 n x0 x1 x2 x3 k134 j v23 v28 (x6 + 1) s25)
    else (
    q_nm (x5 + 1) fun v29 =>
    f_X12_share_L76 n x0 x1 x2 x3 k134 j v23 v29 (x6 + 1) s25))
    else (
    q_nm (x5 + 0) fun v30 =>
    f_X12_share_L76 n x0 x1 x2 x3 k134 j v23 v30 (x6 + 1) s20))
    else (
    k134 x4 x5 s0)
set_option maxRecDepth 100000 in
set_option maxHeartbeats 4000000 in
def f_X12_share (n : Nat) (t : Nat) (a0 : Int32) (a1 : Int32) (s0 : q_Sto) : Option (Int32 × q_Sto) :=
  q_call (f_X12_isIn n a0 0 9999 s0) fun r2 s1 =>
  if r2 = 0 then (
  some ((-1), s1))
  else (
  q_call (f_X12_isMule n t a1 s1) fun r5 s4 =>
  if r5 = 0 then (
  some ((-1), s4))
  else (
  f_X12_share_L26 n t a0 a1 (fun (y12 : Int32) (s13 : q_Sto) =>
  if y12 = 0 then (
  some (0, s13))
  else (
  q_call (f_X12_heedersOf n t a1 s13) fun r16 s15 =>
  if r16 = 0 then (
  some (0, s15))
  else (
  f_X12_share_L76 n t a0 a1 y12 (fun (y31 : Int32) (y32 : Int32) (s33 : q_Sto) =>
  q_call (f_X12_heedersOf n t a1 s33) fun r35 s34 =>
  q_dv (a0 * r35) y12 fun v36 =>
  if y32 < y31 then (
  some (v36 + 1, s34))
  else (
  some (v36 + 0, s34))) n a0 0 0 s15))) n 0 0 s4))
set_option maxRecDepth 100000 in
set_option maxHeartbeats 4000000 in
theorem t_X12_share_L26 {w : q_Wd} {cx : q_Cx} (hc : q_ok w cx RX12 cX12_share 7 (some .int) (q_rm 2 43)) {n : Nat} {x0 : Nat} {x1 : Int32} {x2 : Int32} (hx0 : q_KD x0 = .inl 12) {k53 : Int32 → q_Sto → Option (Int32 × q_Sto)} (hk53 : ∀ (y3 : Int32) (s1 : q_Sto), q_G w cx 7 (some .int) 53 [some (q_rf w x0), some (.int x1), some (.int x2), some (.int y3), none, none, none] [] s1 (k53 y3 s1)) :
    ∀ (j : Nat) (x3 : Int32) (x4 : Int32) (s0 : q_Sto), q_G w cx 7 (some .int) 26 [some (q_rf w x0), some (.int x1), some (.int x2), some (.int x3), some (.int x4), none, none] [] s0 (f_X12_share_L26 n x0 x1 x2 k53 j x3 x4 s0) := by
  intro j
  induction j with
  | zero =>
    intro _ _ _
    rw [f_X12_share_L26]
    exact q_none
  | succ j ih =>
    intro x3 x4 s0
    rw [f_X12_share_L26]
    refine g_iload hc dX12_share_26 rfl (pc2 := 28) rfl ?_
    refine g_rl0 hc dX12_share_28 rfl (pc2 := 29) rfl ?_
    refine g_getR hc fl_X12_7 rfl hx0 dX12_share_29 (pc2 := 32) rfl ?_
    refine g_bipush hc dX12_share_32 bp_86 (pc2 := 34) rfl ?_
    refine g_iald hc (kf_12_0 hx0) (kl_12_0 hx0) dX12_share_34 (pc2 := 35) rfl (fun v7 => ?_)
    refine g_icmp_ge hc dX12_share_35 (pc1 := 38) (pc2 := 53) rfl rfl (fun _ => ?_) (fun _ => ?_)
    · refine g_il3 hc dX12_share_38 rfl (pc2 := 39) rfl ?_
      refine g_rl0 hc dX12_share_39 rfl (pc2 := 40) rfl ?_
      refine g_iload hc dX12_share_40 rfl (pc2 := 42) rfl ?_
      refine g_callV1 hc (C_X12_heedersOf hx0) mv_X12_heedersOf ln_X12_440 hx0 ⟨by decide, by decide⟩ (Nat.le_of_ble_eq_true rfl) dX12_share_42 (pc2 := 45) rfl (fun r10 s9 => ?_)
      refine g_iadd hc dX12_share_45 (pc2 := 46) rfl ?_
      refine g_nm (fun v11 => ?_)
      refine g_is3 hc dX12_share_46 (by decide) (L2 := [some (q_rf w x0), some (.int x1), some (.int x2), some (.int v11), some (.int x4), none, none]) rfl (pc2 := 47) rfl ?_
      refine g_iinc hc dX12_share_47 rfl (q_ii ic_1) (by decide) (L2 := [some (q_rf w x0), some (.int x1), some (.int x2), some (.int v11), some (.int (x4 + 1)), none, none]) rfl (pc2 := 50) rfl ?_
      refine g_goto hc dX12_share_50 (pc2 := 26) rfl ?_
      exact ih _ _ _
    · refine q_Gmask [true, true, true, true, false, true, true] (L2 := [some (q_rf w x0), some (.int x1), some (.int x2), some (.int x3), none, none, none]) rfl ?_
      exact hk53 _ _
set_option maxRecDepth 100000 in
set_option maxHeartbeats 4000000 in
theorem t_X12_share_L76 {w : q_Wd} {cx : q_Cx} (hc : q_ok w cx RX12 cX12_share 7 (some .int) (q_rm 2 43)) {n : Nat} {x0 : Nat} {x1 : Int32} {x2 : Int32} {x3 : Int32} (hx0 : q_KD x0 = .inl 12) {k134 : Int32 → Int32 → q_Sto → Option (Int32 × q_Sto)} (hk134 : ∀ (y4 : Int32) (y5 : Int32) (s1 : q_Sto), q_G w cx 7 (some .int) 134 [some (q_rf w x0), some (.int x1), some (.int x2), some (.int x3), some (.int y4), some (.int y5), none] [] s1 (k134 y4 y5 s1)) :
    ∀ (j : Nat) (x4 : Int32) (x5 : Int32) (x6 : Int32) (s0 : q_Sto), q_G w cx 7 (some .int) 76 [some (q_rf w x0), some (.int x1), some (.int x2), some (.int x3), some (.int x4), some (.int x5), some (.int x6)] [] s0 (f_X12_share_L76 n x0 x1 x2 x3 k134 j x4 x5 x6 s0) := by
  intro j
  induction j with
  | zero =>
    intro _ _ _ _
    rw [f_X12_share_L76]
    exact q_none
  | succ j ih =>
    intro x4 x5 x6 s0
    rw [f_X12_share_L76]
    refine g_iload hc dX12_share_76 rfl (pc2 := 78) rfl ?_
    refine g_rl0 hc dX12_share_78 rfl (pc2 := 79) rfl ?_
    refine g_getR hc fl_X12_7 rfl hx0 dX12_share_79 (pc2 := 82) rfl ?_
    refine g_bipush hc dX12_share_82 bp_86 (pc2 := 84) rfl ?_
    refine g_iald hc (kf_12_0 hx0) (kl_12_0 hx0) dX12_share_84 (pc2 := 85) rfl (fun v18 => ?_)
    refine g_icmp_ge hc dX12_share_85 (pc1 := 88) (pc2 := 134) rfl rfl (fun _ => ?_) (fun _ => ?_)
    · refine g_iload hc dX12_share_88 rfl (pc2 := 90) rfl ?_
      refine g_il1 hc dX12_share_90 rfl (pc2 := 91) rfl ?_
      refine g_rl0 hc dX12_share_91 rfl (pc2 := 92) rfl ?_
      refine g_iload hc dX12_share_92 rfl (pc2 := 94) rfl ?_
      refine g_callV1 hc (C_X12_heedersOf hx0) mv_X12_heedersOf ln_X12_440 hx0 ⟨by decide, by decide⟩ (Nat.le_of_ble_eq_true rfl) dX12_share_94 (pc2 := 97) rfl (fun r21 s20 => ?_)
      refine g_imul hc dX12_share_97 (pc2 := 98) rfl ?_
      refine g_il3 hc dX12_share_98 rfl (pc2 := 99) rfl ?_
      refine g_idiv hc dX12_share_99 (pc2 := 100) rfl (fun v22 => ?_)
      refine g_isub hc dX12_share_100 (pc2 := 101) rfl ?_
      refine g_nm (fun v23 => ?_)
      refine g_istore hc dX12_share_101 (by decide) (L2 := [some (q_rf w x0), some (.int x1), some (.int x2), some (.int x3), some (.int v23), some (.int x5), some (.int x6)]) rfl (pc2 := 103) rfl ?_
      refine g_iload hc dX12_share_103 rfl (pc2 := 105) rfl ?_
      refine g_iload hc dX12_share_105 rfl (pc2 := 107) rfl ?_
      refine g_il2 hc dX12_share_107 rfl (pc2 := 108) rfl ?_
      refine g_icmp_ge hc dX12_share_108 (pc1 := 111) (pc2 := 124) rfl rfl (fun _ => ?_) (fun _ => ?_)
      · refine g_rl0 hc dX12_share_111 rfl (pc2 := 112) rfl ?_
        refine g_iload hc dX12_share_112 rfl (pc2 := 114) rfl ?_
        refine g_callV1 hc (C_X12_heedersOf hx0) mv_X12_heedersOf ln_X12_440 hx0 ⟨by decide, by decide⟩ (Nat.le_of_ble_eq_true rfl) dX12_share_114 (pc2 := 117) rfl (fun r26 s25 => ?_)
        refine g_if_le hc dX12_share_117 (pc1 := 124) (pc2 := 120) rfl rfl (fun _ => ?_) (fun _ => ?_)
        · refine g_iconst hc dX12_share_124 ic_0 (pc2 := 125) rfl ?_
          refine g_iadd hc dX12_share_125 (pc2 := 126) rfl ?_
          refine g_nm (fun v28 => ?_)
          refine g_istore hc dX12_share_126 (by decide) (L2 := [some (q_rf w x0), some (.int x1), some (.int x2), some (.int x3), some (.int v23), some (.int v28), some (.int x6)]) rfl (pc2 := 128) rfl ?_
          refine g_iinc hc dX12_share_128 rfl (q_ii ic_1) (by decide) (L2 := [some (q_rf w x0), some (.int x1), some (.int x2), some (.int x3), some (.int v23), some (.int v28), some (.int (x6 + 1))]) rfl (pc2 := 131) rfl ?_
          refine g_goto hc dX12_share_131 (pc2 := 76) rfl ?_
          exact ih _ _ _ _
        · refine g_iconst hc dX12_share_120 ic_1 (pc2 := 121) rfl ?_
          refine g_goto hc dX12_share_121 (pc2 := 125) rfl ?_
          refine g_iadd hc dX12_share_125 (pc2 := 126) rfl ?_
          refine g_nm (fun v29 => ?_)
          refine g_istore hc dX12_share_126 (by decide) (L2 := [some (q_rf w x0), some (.int x1), some (.int x2), some (.int x3), some (.int v23), some (.int v29), some (.int x6)]) rfl (pc2 := 128) rfl ?_
          refine g_iinc hc dX12_share_128 rfl (q_ii ic_1) (by decide) (L2 := [some (q_rf w x0), some (.int x1), some (.int x2), some (.int x3), some (.int v23), some (.int v29), some (.int (x6 + 1))]) rfl (pc2 := 131) rfl ?_
          refine g_goto hc dX12_share_131 (pc2 := 76) rfl ?_
          exact ih _ _ _ _
      · refine g_iconst hc dX12_share_124 ic_0 (pc2 := 125) rfl ?_
        refine g_iadd hc dX12_share_125 (pc2 := 126) rfl ?_
        refine g_nm (fun v30 => ?_)
        refine g_istore hc dX12_share_126 (by decide) (L2 := [some (q_rf w x0), some (.int x1), some (.int x2), some (.int x3), some (.int v23), some (.int v30), some (.int x6)]) rfl (pc2 := 128) rfl ?_
        refine g_iinc hc dX12_share_128 rfl (q_ii ic_1) (by decide) (L2 := [some (q_rf w x0), some (.int x1), some (.int x2), some (.int x3), some (.int v23), some (.int v30), some (.int (x6 + 1))]) rfl (pc2 := 131) rfl ?_
        refine g_goto hc dX12_share_131 (pc2 := 76) rfl ?_
        exact ih _ _ _ _
    · refine q_Gmask [true, true, true, true, true, true, false] (L2 := [some (q_rf w x0), some (.int x1), some (.int x2), some (.int x3), some (.int x4), some (.int x5), none]) rfl ?_
      exact hk134 _ _ _
set_option maxRecDepth 100000 in
set_option maxHeartbeats 4000000 in
theorem C_X12_share {l : Launch} {w : q_Wd} {n : Nat} {t : Nat} {a0 : Int32} {a1 : Int32} (ht : q_KD t = .inl 12) {s0 : q_Sto} : q_C l w yX12_share cX12_share 7 (some .int) (q_rm 2 43) [q_rf w t, .int a0, .int a1] s0 (f_X12_share n t a0 a1 s0) := q_CofG [some (q_rf w t), some (.int a0), some (.int a1), none, none, none, none] (by decide +kernel) rfl rfl (Nat.le_of_ble_eq_true rfl) fun cx hl hc => by
  have hc : q_ok w cx RX12 cX12_share 7 (some .int) (q_rm 2 43) := hc
  rw [f_X12_share]
  refine g_il1 hc dX12_share_0 rfl (pc2 := 1) rfl ?_
  refine g_iconst hc dX12_share_1 ic_0 (pc2 := 2) rfl ?_
  refine g_sipush hc dX12_share_2 sp_9999 (pc2 := 5) rfl ?_
  refine g_callS3 hc C_X12_isIn mv_X12_isIn ln_X12_56 ⟨by decide, by decide⟩ (Nat.le_of_ble_eq_true rfl) dX12_share_5 (pc2 := 8) rfl (fun r2 s1 => ?_)
  refine g_if_eq hc dX12_share_8 (pc1 := 19) (pc2 := 11) rfl rfl (fun _ => ?_) (fun _ => ?_)
  · refine g_iconst hc dX12_share_19 ic_m1 (pc2 := 20) rfl ?_
    exact g_iret hc dX12_share_20
  · refine g_rl0 hc dX12_share_11 rfl (pc2 := 12) rfl ?_
    refine g_il2 hc dX12_share_12 rfl (pc2 := 13) rfl ?_
    refine g_callV1 hc (C_X12_isMule ht) mv_X12_isMule ln_X12_72 ht ⟨by decide, by decide⟩ (Nat.le_of_ble_eq_true rfl) dX12_share_13 (pc2 := 16) rfl (fun r5 s4 => ?_)
    refine g_if_ne hc dX12_share_16 (pc1 := 19) (pc2 := 21) rfl rfl (fun _ => ?_) (fun _ => ?_)
    · refine g_iconst hc dX12_share_19 ic_m1 (pc2 := 20) rfl ?_
      exact g_iret hc dX12_share_20
    · refine g_iconst hc dX12_share_21 ic_0 (pc2 := 22) rfl ?_
      refine g_is3 hc dX12_share_22 (by decide) (L2 := [some (q_rf w t), some (.int a0), some (.int a1), some (.int 0), none, none, none]) rfl (pc2 := 23) rfl ?_
      refine g_iconst hc dX12_share_23 ic_0 (pc2 := 24) rfl ?_
      refine g_istore hc dX12_share_24 (by decide) (L2 := [some (q_rf w t), some (.int a0), some (.int a1), some (.int 0), some (.int 0), none, none]) rfl (pc2 := 26) rfl ?_
      refine t_X12_share_L26 hc ht (fun y12 s13 => ?_) n _ _ _
      refine g_il3 hc dX12_share_53 rfl (pc2 := 54) rfl ?_
      refine g_if_eq hc dX12_share_54 (pc1 := 65) (pc2 := 57) rfl rfl (fun _ => ?_) (fun _ => ?_)
      · refine g_iconst hc dX12_share_65 ic_0 (pc2 := 66) rfl ?_
        exact g_iret hc dX12_share_66
      · refine g_rl0 hc dX12_share_57 rfl (pc2 := 58) rfl ?_
        refine g_il2 hc dX12_share_58 rfl (pc2 := 59) rfl ?_
        refine g_callV1 hc (C_X12_heedersOf ht) mv_X12_heedersOf ln_X12_440 ht ⟨by decide, by decide⟩ (Nat.le_of_ble_eq_true rfl) dX12_share_59 (pc2 := 62) rfl (fun r16 s15 => ?_)
        refine g_if_ne hc dX12_share_62 (pc1 := 65) (pc2 := 67) rfl rfl (fun _ => ?_) (fun _ => ?_)
        · refine g_iconst hc dX12_share_65 ic_0 (pc2 := 66) rfl ?_
          exact g_iret hc dX12_share_66
        · refine g_il1 hc dX12_share_67 rfl (pc2 := 68) rfl ?_
          refine g_istore hc dX12_share_68 (by decide) (L2 := [some (q_rf w t), some (.int a0), some (.int a1), some (.int y12), some (.int a0), none, none]) rfl (pc2 := 70) rfl ?_
          refine g_iconst hc dX12_share_70 ic_0 (pc2 := 71) rfl ?_
          refine g_istore hc dX12_share_71 (by decide) (L2 := [some (q_rf w t), some (.int a0), some (.int a1), some (.int y12), some (.int a0), some (.int 0), none]) rfl (pc2 := 73) rfl ?_
          refine g_iconst hc dX12_share_73 ic_0 (pc2 := 74) rfl ?_
          refine g_istore hc dX12_share_74 (by decide) (L2 := [some (q_rf w t), some (.int a0), some (.int a1), some (.int y12), some (.int a0), some (.int 0), some (.int 0)]) rfl (pc2 := 76) rfl ?_
          refine t_X12_share_L76 hc ht (fun y31 y32 s33 => ?_) n _ _ _ _
          refine g_il1 hc dX12_share_134 rfl (pc2 := 135) rfl ?_
          refine g_rl0 hc dX12_share_135 rfl (pc2 := 136) rfl ?_
          refine g_il2 hc dX12_share_136 rfl (pc2 := 137) rfl ?_
          refine g_callV1 hc (C_X12_heedersOf ht) mv_X12_heedersOf ln_X12_440 ht ⟨by decide, by decide⟩ (Nat.le_of_ble_eq_true rfl) dX12_share_137 (pc2 := 140) rfl (fun r35 s34 => ?_)
          refine g_imul hc dX12_share_140 (pc2 := 141) rfl ?_
          refine g_il3 hc dX12_share_141 rfl (pc2 := 142) rfl ?_
          refine g_idiv hc dX12_share_142 (pc2 := 143) rfl (fun v36 => ?_)
          refine g_iload hc dX12_share_143 rfl (pc2 := 145) rfl ?_
          refine g_iload hc dX12_share_145 rfl (pc2 := 147) rfl ?_
          refine g_icmp_ge hc dX12_share_147 (pc1 := 150) (pc2 := 154) rfl rfl (fun _ => ?_) (fun _ => ?_)
          · refine g_iconst hc dX12_share_150 ic_1 (pc2 := 151) rfl ?_
            refine g_goto hc dX12_share_151 (pc2 := 155) rfl ?_
            refine g_iadd hc dX12_share_155 (pc2 := 156) rfl ?_
            exact g_iret hc dX12_share_156
          · refine g_iconst hc dX12_share_154 ic_0 (pc2 := 155) rfl ?_
            refine g_iadd hc dX12_share_155 (pc2 := 156) rfl ?_
            exact g_iret hc dX12_share_156
set_option maxRecDepth 100000 in
set_option maxHeartbeats 4000000 in
def f_X12_lineFrom_L2 (n : Nat) (x0 : Nat) (x1 : Int32) (k29 : Int32 → q_Sto → Option (Int32 × q_Sto)) : Nat → Int32 → q_Sto → Option (Int32 × q_Sto)
  | 0, _, _ => none
  | j + 1, x2, s0 =>
    q_ld s0 (q_RF x0 0) 92 1790 fun v1 =>
    if x2 < v1 then (
    q_ld s0 (q_RF x0 0) (205 + (3 * x2)) 1790 fun v3 =>
    if v3 = x1 then (
    k29 x2 s0)
    else (
    f_X12_lineFrom_L2 n x0 x1 k29 j (x2 + 1) s0))
    else (
    some ((-1), s0))
set_option maxRecDepth 100000 in
set_option maxHeartbeats 4000000 in
def f_X12_lineFrom (n : Nat) (t : Nat) (a0 : Int32) (s0 : q_Sto) : Option (Int32 × q_Sto) :=
  f_X12_lineFrom_L2 n t a0 (fun (y5 : Int32) (s6 : q_Sto) =>
  some (205 + (3 * y5), s6)) n 0 s0
set_option maxRecDepth 100000 in
set_option maxHeartbeats 4000000 in
theorem t_X12_lineFrom_L2 {w : q_Wd} {cx : q_Cx} (hc : q_ok w cx RX12 cX12_lineFrom 3 (some .int) (q_rm 0 0)) {n : Nat} {x0 : Nat} {x1 : Int32} (hx0 : q_KD x0 = .inl 12) {k29 : Int32 → q_Sto → Option (Int32 × q_Sto)} (hk29 : ∀ (y2 : Int32) (s1 : q_Sto), q_G w cx 3 (some .int) 29 [none, none, some (.int y2)] [] s1 (k29 y2 s1)) :
    ∀ (j : Nat) (x2 : Int32) (s0 : q_Sto), q_G w cx 3 (some .int) 2 [some (q_rf w x0), some (.int x1), some (.int x2)] [] s0 (f_X12_lineFrom_L2 n x0 x1 k29 j x2 s0) := by
  intro j
  induction j with
  | zero =>
    intro _ _
    rw [f_X12_lineFrom_L2]
    exact q_none
  | succ j ih =>
    intro x2 s0
    rw [f_X12_lineFrom_L2]
    refine g_il2 hc dX12_lineFrom_2 rfl (pc2 := 3) rfl ?_
    refine g_rl0 hc dX12_lineFrom_3 rfl (pc2 := 4) rfl ?_
    refine g_getR hc fl_X12_7 rfl hx0 dX12_lineFrom_4 (pc2 := 7) rfl ?_
    refine g_bipush hc dX12_lineFrom_7 bp_92 (pc2 := 9) rfl ?_
    refine g_iald hc (kf_12_0 hx0) (kl_12_0 hx0) dX12_lineFrom_9 (pc2 := 10) rfl (fun v1 => ?_)
    refine g_icmp_ge hc dX12_lineFrom_10 (pc1 := 13) (pc2 := 43) rfl rfl (fun _ => ?_) (fun _ => ?_)
    · refine g_rl0 hc dX12_lineFrom_13 rfl (pc2 := 14) rfl ?_
      refine g_getR hc fl_X12_7 rfl hx0 dX12_lineFrom_14 (pc2 := 17) rfl ?_
      refine g_sipush hc dX12_lineFrom_17 sp_205 (pc2 := 20) rfl ?_
      refine g_iconst hc dX12_lineFrom_20 ic_3 (pc2 := 21) rfl ?_
      refine g_il2 hc dX12_lineFrom_21 rfl (pc2 := 22) rfl ?_
      refine g_imul hc dX12_lineFrom_22 (pc2 := 23) rfl ?_
      refine g_iadd hc dX12_lineFrom_23 (pc2 := 24) rfl ?_
      refine g_iald hc (kf_12_0 hx0) (kl_12_0 hx0) dX12_lineFrom_24 (pc2 := 25) rfl (fun v3 => ?_)
      refine g_il1 hc dX12_lineFrom_25 rfl (pc2 := 26) rfl ?_
      refine g_icmp_ne hc dX12_lineFrom_26 (pc1 := 29) (pc2 := 37) rfl rfl (fun _ => ?_) (fun _ => ?_)
      · refine q_Gmask [false, false, true] (L2 := [none, none, some (.int x2)]) rfl ?_
        exact hk29 _ _
      · refine g_iinc hc dX12_lineFrom_37 rfl (q_ii ic_1) (by decide) (L2 := [some (q_rf w x0), some (.int x1), some (.int (x2 + 1))]) rfl (pc2 := 40) rfl ?_
        refine g_goto hc dX12_lineFrom_40 (pc2 := 2) rfl ?_
        exact ih _ _
    · refine g_iconst hc dX12_lineFrom_43 ic_m1 (pc2 := 44) rfl ?_
      exact g_iret hc dX12_lineFrom_44
set_option maxRecDepth 100000 in
set_option maxHeartbeats 4000000 in
theorem C_X12_lineFrom {l : Launch} {w : q_Wd} {n : Nat} {t : Nat} {a0 : Int32} (ht : q_KD t = .inl 12) {s0 : q_Sto} : q_C l w yX12_lineFrom cX12_lineFrom 3 (some .int) (q_rm 0 0) [q_rf w t, .int a0] s0 (f_X12_lineFrom n t a0 s0) := q_CofG [some (q_rf w t), some (.int a0), none] (by decide +kernel) rfl rfl (Nat.le_of_ble_eq_true rfl) fun cx hl hc => by
  have hc : q_ok w cx RX12 cX12_lineFrom 3 (some .int) (q_rm 0 0) := hc
  rw [f_X12_lineFrom]
  refine g_iconst hc dX12_lineFrom_0 ic_0 (pc2 := 1) rfl ?_
  refine g_is2 hc dX12_lineFrom_1 (by decide) (L2 := [some (q_rf w t), some (.int a0), some (.int 0)]) rfl (pc2 := 2) rfl ?_
  refine t_X12_lineFrom_L2 hc ht (fun y5 s6 => ?_) n _ _
  refine g_sipush hc dX12_lineFrom_29 sp_205 (pc2 := 32) rfl ?_
  refine g_iconst hc dX12_lineFrom_32 ic_3 (pc2 := 33) rfl ?_
  refine g_il2 hc dX12_lineFrom_33 rfl (pc2 := 34) rfl ?_
  refine g_imul hc dX12_lineFrom_34 (pc2 := 35) rfl ?_
  refine g_iadd hc dX12_lineFrom_35 (pc2 := 36) rfl ?_
  exact g_iret hc dX12_lineFrom_36
set_option maxRecDepth 100000 in
set_option maxHeartbeats 4000000 in
def f_X12_campAt_L12 (n : Nat) (x0 : Nat) : Nat → Int32 → Int32 → Int32 → q_Sto → Option (Int32 × q_Sto)
  | 0, _, _, _, _ => none
  | j + 1, x3, x4, x5, s0 =>
    if x4 ≤ 0 then (
    some (x3, s0))
    else (
    if x5 = (-1) then (
    some (x3, s0))
    else (
    q_ld s0 (q_RF x0 0) (x5 + 2) 1790 fun v5 =>
    if v5 ≤ x4 then (
    q_ld s0 (q_RF x0 0) (x5 + 2) 1790 fun v7 =>
    q_nm (x4 - v7) fun v8 =>
    q_ld s0 (q_RF x0 0) (x5 + 1) 1790 fun v9 =>
    q_call (f_X12_lineFrom n x0 v9 s0) fun r11 s10 =>
    f_X12_campAt_L12 n x0  j v9 v8 r11 s10)
    else (
    some ((-1), s0))))
set_option maxRecDepth 100000 in
set_option maxHeartbeats 4000000 in
def f_X12_campAt (n : Nat) (t : Nat) (a0 : Int32) (a1 : Int32) (s0 : q_Sto) : Option (Int32 × q_Sto) :=
  q_call (f_X12_lineFrom n t a0 s0) fun r2 s1 =>
  f_X12_campAt_L12 n t  n a0 a1 r2 s1
set_option maxRecDepth 100000 in
set_option maxHeartbeats 4000000 in
theorem t_X12_campAt_L12 {w : q_Wd} {cx : q_Cx} (hc : q_ok w cx RX12 cX12_campAt 6 (some .int) (q_rm 1 22)) {n : Nat} {x0 : Nat} (hx0 : q_KD x0 = .inl 12)   :
    ∀ (j : Nat) (x3 : Int32) (x4 : Int32) (x5 : Int32) (s0 : q_Sto), q_G w cx 6 (some .int) 12 [some (q_rf w x0), none, none, some (.int x3), some (.int x4), some (.int x5)] [] s0 (f_X12_campAt_L12 n x0  j x3 x4 x5 s0) := by
  intro j
  induction j with
  | zero =>
    intro _ _ _ _
    rw [f_X12_campAt_L12]
    exact q_none
  | succ j ih =>
    intro x3 x4 x5 s0
    rw [f_X12_campAt_L12]
    refine g_iload hc dX12_campAt_12 rfl (pc2 := 14) rfl ?_
    refine g_if_le hc dX12_campAt_14 (pc1 := 73) (pc2 := 17) rfl rfl (fun _ => ?_) (fun _ => ?_)
    · refine g_il3 hc dX12_campAt_73 rfl (pc2 := 74) rfl ?_
      exact g_iret hc dX12_campAt_74
    · refine g_iload hc dX12_campAt_17 rfl (pc2 := 19) rfl ?_
      refine g_iconst hc dX12_campAt_19 ic_m1 (pc2 := 20) rfl ?_
      refine g_icmp_eq hc dX12_campAt_20 (pc1 := 73) (pc2 := 23) rfl rfl (fun _ => ?_) (fun _ => ?_)
      · refine g_il3 hc dX12_campAt_73 rfl (pc2 := 74) rfl ?_
        exact g_iret hc dX12_campAt_74
      · refine g_rl0 hc dX12_campAt_23 rfl (pc2 := 24) rfl ?_
        refine g_getR hc fl_X12_7 rfl hx0 dX12_campAt_24 (pc2 := 27) rfl ?_
        refine g_iload hc dX12_campAt_27 rfl (pc2 := 29) rfl ?_
        refine g_iconst hc dX12_campAt_29 ic_2 (pc2 := 30) rfl ?_
        refine g_iadd hc dX12_campAt_30 (pc2 := 31) rfl ?_
        refine g_iald hc (kf_12_0 hx0) (kl_12_0 hx0) dX12_campAt_31 (pc2 := 32) rfl (fun v5 => ?_)
        refine g_iload hc dX12_campAt_32 rfl (pc2 := 34) rfl ?_
        refine g_icmp_le hc dX12_campAt_34 (pc1 := 39) (pc2 := 37) rfl rfl (fun _ => ?_) (fun _ => ?_)
        · refine g_iload hc dX12_campAt_39 rfl (pc2 := 41) rfl ?_
          refine g_rl0 hc dX12_campAt_41 rfl (pc2 := 42) rfl ?_
          refine g_getR hc fl_X12_7 rfl hx0 dX12_campAt_42 (pc2 := 45) rfl ?_
          refine g_iload hc dX12_campAt_45 rfl (pc2 := 47) rfl ?_
          refine g_iconst hc dX12_campAt_47 ic_2 (pc2 := 48) rfl ?_
          refine g_iadd hc dX12_campAt_48 (pc2 := 49) rfl ?_
          refine g_iald hc (kf_12_0 hx0) (kl_12_0 hx0) dX12_campAt_49 (pc2 := 50) rfl (fun v7 => ?_)
          refine g_isub hc dX12_campAt_50 (pc2 := 51) rfl ?_
          refine g_nm (fun v8 => ?_)
          refine g_istore hc dX12_campAt_51 (by decide) (L2 := [some (q_rf w x0), none, none, some (.int x3), some (.int v8), some (.int x5)]) rfl (pc2 := 53) rfl ?_
          refine g_rl0 hc dX12_campAt_53 rfl (pc2 := 54) rfl ?_
          refine g_getR hc fl_X12_7 rfl hx0 dX12_campAt_54 (pc2 := 57) rfl ?_
          refine g_iload hc dX12_campAt_57 rfl (pc2 := 59) rfl ?_
          refine g_iconst hc dX12_campAt_59 ic_1 (pc2 := 60) rfl ?_
          refine g_iadd hc dX12_campAt_60 (pc2 := 61) rfl ?_
          refine g_iald hc (kf_12_0 hx0) (kl_12_0 hx0) dX12_campAt_61 (pc2 := 62) rfl (fun v9 => ?_)
          refine g_is3 hc dX12_campAt_62 (by decide) (L2 := [some (q_rf w x0), none, none, some (.int v9), some (.int v8), some (.int x5)]) rfl (pc2 := 63) rfl ?_
          refine g_rl0 hc dX12_campAt_63 rfl (pc2 := 64) rfl ?_
          refine g_il3 hc dX12_campAt_64 rfl (pc2 := 65) rfl ?_
          refine g_callV1 hc (C_X12_lineFrom hx0) mv_X12_lineFrom ln_X12_443 hx0 ⟨by decide, by decide⟩ (Nat.le_of_ble_eq_true rfl) dX12_campAt_65 (pc2 := 68) rfl (fun r11 s10 => ?_)
          refine g_istore hc dX12_campAt_68 (by decide) (L2 := [some (q_rf w x0), none, none, some (.int v9), some (.int v8), some (.int r11)]) rfl (pc2 := 70) rfl ?_
          refine g_goto hc dX12_campAt_70 (pc2 := 12) rfl ?_
          exact ih _ _ _ _
        · refine g_iconst hc dX12_campAt_37 ic_m1 (pc2 := 38) rfl ?_
          exact g_iret hc dX12_campAt_38
set_option maxRecDepth 100000 in
set_option maxHeartbeats 4000000 in
theorem C_X12_campAt {l : Launch} {w : q_Wd} {n : Nat} {t : Nat} {a0 : Int32} {a1 : Int32} (ht : q_KD t = .inl 12) {s0 : q_Sto} : q_C l w yX12_campAt cX12_campAt 6 (some .int) (q_rm 1 22) [q_rf w t, .int a0, .int a1] s0 (f_X12_campAt n t a0 a1 s0) := q_CofG [some (q_rf w t), some (.int a0), some (.int a1), none, none, none] (by decide +kernel) rfl rfl (Nat.le_of_ble_eq_true rfl) fun cx hl hc => by
  have hc : q_ok w cx RX12 cX12_campAt 6 (some .int) (q_rm 1 22) := hc
  rw [f_X12_campAt]
  refine g_il1 hc dX12_campAt_0 rfl (pc2 := 1) rfl ?_
  refine g_is3 hc dX12_campAt_1 (by decide) (L2 := [some (q_rf w t), some (.int a0), some (.int a1), some (.int a0), none, none]) rfl (pc2 := 2) rfl ?_
  refine g_il2 hc dX12_campAt_2 rfl (pc2 := 3) rfl ?_
  refine g_istore hc dX12_campAt_3 (by decide) (L2 := [some (q_rf w t), some (.int a0), some (.int a1), some (.int a0), some (.int a1), none]) rfl (pc2 := 5) rfl ?_
  refine g_rl0 hc dX12_campAt_5 rfl (pc2 := 6) rfl ?_
  refine g_il3 hc dX12_campAt_6 rfl (pc2 := 7) rfl ?_
  refine g_callV1 hc (C_X12_lineFrom ht) mv_X12_lineFrom ln_X12_443 ht ⟨by decide, by decide⟩ (Nat.le_of_ble_eq_true rfl) dX12_campAt_7 (pc2 := 10) rfl (fun r2 s1 => ?_)
  refine g_istore hc dX12_campAt_10 (by decide) (L2 := [some (q_rf w t), some (.int a0), some (.int a1), some (.int a0), some (.int a1), some (.int r2)]) rfl (pc2 := 12) rfl ?_
  refine q_Gmask [true, false, false, true, true, true] (L2 := [some (q_rf w t), none, none, some (.int a0), some (.int a1), some (.int r2)]) rfl ?_
  refine t_X12_campAt_L12 hc ht  n _ _ _ _
set_option maxRecDepth 100000 in
set_option maxHeartbeats 4000000 in
def f_X12_meets_L18 (n : Nat) (x0 : Nat) (x1 : Int32) (x2 : Int32) : Nat → Int32 → q_Sto → Option (Int32 × q_Sto)
  | 0, _, _ => none
  | j + 1, x3, s0 =>
    if x3 < 100 then (
    q_call (f_X12_campAt n x0 x1 x3 s0) fun r9 s8 =>
    if r9 = (-1) then (
    f_X12_meets_L18 n x0 x1 x2  j (x3 + 1) s8)
    else (
    q_call (f_X12_campAt n x0 x1 x3 s8) fun r12 s11 =>
    q_call (f_X12_campAt n x0 x2 x3 s11) fun r14 s13 =>
    if r12 = r14 then (
    some (x3, s13))
    else (
    f_X12_meets_L18 n x0 x1 x2  j (x3 + 1) s13)))
    else (
    some ((-1), s0))
set_option maxRecDepth 100000 in
set_option maxHeartbeats 4000000 in
def f_X12_meets (n : Nat) (t : Nat) (a0 : Int32) (a1 : Int32) (s0 : q_Sto) : Option (Int32 × q_Sto) :=
  q_call (f_X12_isCamp n a0 s0) fun r2 s1 =>
  if r2 = 0 then (
  some ((-1), s1))
  else (
  q_call (f_X12_isCamp n a1 s1) fun r5 s4 =>
  if r5 = 0 then (
  some ((-1), s4))
  else (
  f_X12_meets_L18 n t a0 a1  n 0 s4))
set_option maxRecDepth 100000 in
set_option maxHeartbeats 4000000 in
theorem t_X12_meets_L18 {w : q_Wd} {cx : q_Cx} (hc : q_ok w cx RX12 cX12_meets 4 (some .int) (q_rm 2 47)) {n : Nat} {x0 : Nat} {x1 : Int32} {x2 : Int32} (hx0 : q_KD x0 = .inl 12)   :
    ∀ (j : Nat) (x3 : Int32) (s0 : q_Sto), q_G w cx 4 (some .int) 18 [some (q_rf w x0), some (.int x1), some (.int x2), some (.int x3)] [] s0 (f_X12_meets_L18 n x0 x1 x2  j x3 s0) := by
  intro j
  induction j with
  | zero =>
    intro _ _
    rw [f_X12_meets_L18]
    exact q_none
  | succ j ih =>
    intro x3 s0
    rw [f_X12_meets_L18]
    refine g_il3 hc dX12_meets_18 rfl (pc2 := 19) rfl ?_
    refine g_bipush hc dX12_meets_19 bp_100 (pc2 := 21) rfl ?_
    refine g_icmp_ge hc dX12_meets_21 (pc1 := 24) (pc2 := 57) rfl rfl (fun _ => ?_) (fun _ => ?_)
    · refine g_rl0 hc dX12_meets_24 rfl (pc2 := 25) rfl ?_
      refine g_il1 hc dX12_meets_25 rfl (pc2 := 26) rfl ?_
      refine g_il3 hc dX12_meets_26 rfl (pc2 := 27) rfl ?_
      refine g_callV2 hc (C_X12_campAt hx0) mv_X12_campAt ln_X12_446 hx0 ⟨by decide, by decide⟩ (Nat.le_of_ble_eq_true rfl) dX12_meets_27 (pc2 := 30) rfl (fun r9 s8 => ?_)
      refine g_iconst hc dX12_meets_30 ic_m1 (pc2 := 31) rfl ?_
      refine g_icmp_eq hc dX12_meets_31 (pc1 := 51) (pc2 := 34) rfl rfl (fun _ => ?_) (fun _ => ?_)
      · refine g_iinc hc dX12_meets_51 rfl (q_ii ic_1) (by decide) (L2 := [some (q_rf w x0), some (.int x1), some (.int x2), some (.int (x3 + 1))]) rfl (pc2 := 54) rfl ?_
        refine g_goto hc dX12_meets_54 (pc2 := 18) rfl ?_
        exact ih _ _
      · refine g_rl0 hc dX12_meets_34 rfl (pc2 := 35) rfl ?_
        refine g_il1 hc dX12_meets_35 rfl (pc2 := 36) rfl ?_
        refine g_il3 hc dX12_meets_36 rfl (pc2 := 37) rfl ?_
        refine g_callV2 hc (C_X12_campAt hx0) mv_X12_campAt ln_X12_446 hx0 ⟨by decide, by decide⟩ (Nat.le_of_ble_eq_true rfl) dX12_meets_37 (pc2 := 40) rfl (fun r12 s11 => ?_)
        refine g_rl0 hc dX12_meets_40 rfl (pc2 := 41) rfl ?_
        refine g_il2 hc dX12_meets_41 rfl (pc2 := 42) rfl ?_
        refine g_il3 hc dX12_meets_42 rfl (pc2 := 43) rfl ?_
        refine g_callV2 hc (C_X12_campAt hx0) mv_X12_campAt ln_X12_446 hx0 ⟨by decide, by decide⟩ (Nat.le_of_ble_eq_true rfl) dX12_meets_43 (pc2 := 46) rfl (fun r14 s13 => ?_)
        refine g_icmp_ne hc dX12_meets_46 (pc1 := 49) (pc2 := 51) rfl rfl (fun _ => ?_) (fun _ => ?_)
        · refine g_il3 hc dX12_meets_49 rfl (pc2 := 50) rfl ?_
          exact g_iret hc dX12_meets_50
        · refine g_iinc hc dX12_meets_51 rfl (q_ii ic_1) (by decide) (L2 := [some (q_rf w x0), some (.int x1), some (.int x2), some (.int (x3 + 1))]) rfl (pc2 := 54) rfl ?_
          refine g_goto hc dX12_meets_54 (pc2 := 18) rfl ?_
          exact ih _ _
    · refine g_iconst hc dX12_meets_57 ic_m1 (pc2 := 58) rfl ?_
      exact g_iret hc dX12_meets_58
set_option maxRecDepth 100000 in
set_option maxHeartbeats 4000000 in
theorem C_X12_meets {l : Launch} {w : q_Wd} {n : Nat} {t : Nat} {a0 : Int32} {a1 : Int32} (ht : q_KD t = .inl 12) {s0 : q_Sto} : q_C l w yX12_meets cX12_meets 4 (some .int) (q_rm 2 47) [q_rf w t, .int a0, .int a1] s0 (f_X12_meets n t a0 a1 s0) := q_CofG [some (q_rf w t), some (.int a0), some (.int a1), none] (by decide +kernel) rfl rfl (Nat.le_of_ble_eq_true rfl) fun cx hl hc => by
  have hc : q_ok w cx RX12 cX12_meets 4 (some .int) (q_rm 2 47) := hc
  rw [f_X12_meets]
  refine g_il1 hc dX12_meets_0 rfl (pc2 := 1) rfl ?_
  refine g_callS1 hc C_X12_isCamp mv_X12_isCamp ln_X12_68 ⟨by decide, by decide⟩ (Nat.le_of_ble_eq_true rfl) dX12_meets_1 (pc2 := 4) rfl (fun r2 s1 => ?_)
  refine g_if_eq hc dX12_meets_4 (pc1 := 14) (pc2 := 7) rfl rfl (fun _ => ?_) (fun _ => ?_)
  · refine g_iconst hc dX12_meets_14 ic_m1 (pc2 := 15) rfl ?_
    exact g_iret hc dX12_meets_15
  · refine g_il2 hc dX12_meets_7 rfl (pc2 := 8) rfl ?_
    refine g_callS1 hc C_X12_isCamp mv_X12_isCamp ln_X12_68 ⟨by decide, by decide⟩ (Nat.le_of_ble_eq_true rfl) dX12_meets_8 (pc2 := 11) rfl (fun r5 s4 => ?_)
    refine g_if_ne hc dX12_meets_11 (pc1 := 14) (pc2 := 16) rfl rfl (fun _ => ?_) (fun _ => ?_)
    · refine g_iconst hc dX12_meets_14 ic_m1 (pc2 := 15) rfl ?_
      exact g_iret hc dX12_meets_15
    · refine g_iconst hc dX12_meets_16 ic_0 (pc2 := 17) rfl ?_
      refine g_is3 hc dX12_meets_17 (by decide) (L2 := [some (q_rf w t), some (.int a0), some (.int a1), some (.int 0)]) rfl (pc2 := 18) rfl ?_
      refine t_X12_meets_L18 hc ht  n _ _
set_option maxRecDepth 100000 in
set_option maxHeartbeats 4000000 in
def f_X12_image_L15 (n : Nat) (x0 : Nat) (x1 : Int32) (k59 : q_Sto → Option (Int32 × q_Sto)) : Nat → Int32 → q_Sto → Option (Int32 × q_Sto)
  | 0, _, _ => none
  | j + 1, x2, s0 =>
    if x2 < 1790 then (
    if x1 = 0 then (
    q_ld s0 (q_RF x0 1) x2 1790 fun v5 =>
    q_st s0 (q_RF x0 0) x2 1790 v5 fun s6 =>
    f_X12_image_L15 n x0 x1 k59 j (x2 + 1) s6)
    else (
    q_ld s0 (q_RF x0 0) x2 1790 fun v7 =>
    q_st s0 (q_RF x0 1) x2 1790 v7 fun s8 =>
    f_X12_image_L15 n x0 x1 k59 j (x2 + 1) s8))
    else (
    k59 s0)
set_option maxRecDepth 100000 in
set_option maxHeartbeats 4000000 in
def f_X12_image (n : Nat) (t : Nat) (a0 : Int32) (s0 : q_Sto) : Option (Int32 × q_Sto) :=
  if a0 = 0 then (
  if (s0 t 5) = 0 then (
  some (0, s0))
  else (
  f_X12_image_L15 n t a0 (fun  (s9 : q_Sto) =>
  if a0 = 0 then (
  q_callv (f_X12_forgets n t s9) fun s11 =>
  q_nS1 (q_up s11 t 5 1) fun s13 =>
  some (1, s13))
  else (
  q_nS1 (q_up s9 t 5 1) fun s14 =>
  some (1, s14))) n 0 s0))
  else (
  f_X12_image_L15 n t a0 (fun  (s21 : q_Sto) =>
  if a0 = 0 then (
  q_callv (f_X12_forgets n t s21) fun s23 =>
  q_nS1 (q_up s23 t 5 1) fun s25 =>
  some (1, s25))
  else (
  q_nS1 (q_up s21 t 5 1) fun s26 =>
  some (1, s26))) n 0 s0)
set_option maxRecDepth 100000 in
set_option maxHeartbeats 4000000 in
theorem t_X12_image_L15 {w : q_Wd} {cx : q_Cx} (hc : q_ok w cx RX12 cX12_image 3 (some .boolean) (q_rm 1 20)) {n : Nat} {x0 : Nat} {x1 : Int32} (hx0 : q_KD x0 = .inl 12) {k59 : q_Sto → Option (Int32 × q_Sto)} (hk59 : ∀  (s1 : q_Sto), q_G w cx 3 (some .boolean) 59 [some (q_rf w x0), some (.int x1), none] [] s1 (k59 s1)) :
    ∀ (j : Nat) (x2 : Int32) (s0 : q_Sto), q_G w cx 3 (some .boolean) 15 [some (q_rf w x0), some (.int x1), some (.int x2)] [] s0 (f_X12_image_L15 n x0 x1 k59 j x2 s0) := by
  intro j
  induction j with
  | zero =>
    intro _ _
    rw [f_X12_image_L15]
    exact q_none
  | succ j ih =>
    intro x2 s0
    rw [f_X12_image_L15]
    refine g_il2 hc dX12_image_15 rfl (pc2 := 16) rfl ?_
    refine g_sipush hc dX12_image_16 sp_1790 (pc2 := 19) rfl ?_
    refine g_icmp_ge hc dX12_image_19 (pc1 := 22) (pc2 := 59) rfl rfl (fun _ => ?_) (fun _ => ?_)
    · refine g_il1 hc dX12_image_22 rfl (pc2 := 23) rfl ?_
      refine g_if_eq hc dX12_image_23 (pc1 := 41) (pc2 := 26) rfl rfl (fun _ => ?_) (fun _ => ?_)
      · refine g_rl0 hc dX12_image_41 rfl (pc2 := 42) rfl ?_
        refine g_getR hc fl_X12_7 rfl hx0 dX12_image_42 (pc2 := 45) rfl ?_
        refine g_il2 hc dX12_image_45 rfl (pc2 := 46) rfl ?_
        refine g_rl0 hc dX12_image_46 rfl (pc2 := 47) rfl ?_
        refine g_getR hc fl_X12_13 rfl hx0 dX12_image_47 (pc2 := 50) rfl ?_
        refine g_il2 hc dX12_image_50 rfl (pc2 := 51) rfl ?_
        refine g_iald hc (kf_12_1 hx0) (kl_12_1 hx0) dX12_image_51 (pc2 := 52) rfl (fun v5 => ?_)
        refine g_iast hc (kf_12_0 hx0) (kl_12_0 hx0) dX12_image_52 (pc2 := 53) rfl (fun s6 => ?_)
        refine g_iinc hc dX12_image_53 rfl (q_ii ic_1) (by decide) (L2 := [some (q_rf w x0), some (.int x1), some (.int (x2 + 1))]) rfl (pc2 := 56) rfl ?_
        refine g_goto hc dX12_image_56 (pc2 := 15) rfl ?_
        exact ih _ _
      · refine g_rl0 hc dX12_image_26 rfl (pc2 := 27) rfl ?_
        refine g_getR hc fl_X12_13 rfl hx0 dX12_image_27 (pc2 := 30) rfl ?_
        refine g_il2 hc dX12_image_30 rfl (pc2 := 31) rfl ?_
        refine g_rl0 hc dX12_image_31 rfl (pc2 := 32) rfl ?_
        refine g_getR hc fl_X12_7 rfl hx0 dX12_image_32 (pc2 := 35) rfl ?_
        refine g_il2 hc dX12_image_35 rfl (pc2 := 36) rfl ?_
        refine g_iald hc (kf_12_0 hx0) (kl_12_0 hx0) dX12_image_36 (pc2 := 37) rfl (fun v7 => ?_)
        refine g_iast hc (kf_12_1 hx0) (kl_12_1 hx0) dX12_image_37 (pc2 := 38) rfl (fun s8 => ?_)
        refine g_goto hc dX12_image_38 (pc2 := 53) rfl ?_
        refine g_iinc hc dX12_image_53 rfl (q_ii ic_1) (by decide) (L2 := [some (q_rf w x0), some (.int x1), some (.int (x2 + 1))]) rfl (pc2 := 56) rfl ?_
        refine g_goto hc dX12_image_56 (pc2 := 15) rfl ?_
        exact ih _ _
    · refine q_Gmask [true, true, false] (L2 := [some (q_rf w x0), some (.int x1), none]) rfl ?_
      exact hk59 _
set_option maxRecDepth 100000 in
set_option maxHeartbeats 4000000 in
theorem C_X12_image {l : Launch} {w : q_Wd} {n : Nat} {t : Nat} {a0 : Int32} (ht : q_KD t = .inl 12) {s0 : q_Sto} : q_C l w yX12_image cX12_image 3 (some .boolean) (q_rm 1 20) [q_rf w t, .int a0] s0 (f_X12_image n t a0 s0) := q_CofG [some (q_rf w t), some (.int a0), none] (by decide +kernel) rfl rfl (Nat.le_of_ble_eq_true rfl) fun cx hl hc => by
  have hc : q_ok w cx RX12 cX12_image 3 (some .boolean) (q_rm 1 20) := hc
  rw [f_X12_image]
  refine g_il1 hc dX12_image_0 rfl (pc2 := 1) rfl ?_
  refine g_if_ne hc dX12_image_1 (pc1 := 4) (pc2 := 13) rfl rfl (fun _ => ?_) (fun _ => ?_)
  · refine g_rl0 hc dX12_image_4 rfl (pc2 := 5) rfl ?_
    refine g_getI hc fl_X12_449 rfl ht dX12_image_5 (pc2 := 8) rfl ?_
    refine g_if_ne hc dX12_image_8 (pc1 := 11) (pc2 := 13) rfl rfl (fun _ => ?_) (fun _ => ?_)
    · refine g_iconst hc dX12_image_11 ic_0 (pc2 := 12) rfl ?_
      exact g_zret0 (by decide) hc dX12_image_12
    · refine g_iconst hc dX12_image_13 ic_0 (pc2 := 14) rfl ?_
      refine g_is2 hc dX12_image_14 (by decide) (L2 := [some (q_rf w t), some (.int a0), some (.int 0)]) rfl (pc2 := 15) rfl ?_
      refine t_X12_image_L15 hc ht (fun s9 => ?_) n _ _
      refine g_il1 hc dX12_image_59 rfl (pc2 := 60) rfl ?_
      refine g_if_ne hc dX12_image_60 (pc1 := 63) (pc2 := 67) rfl rfl (fun _ => ?_) (fun _ => ?_)
      · refine g_rl0 hc dX12_image_63 rfl (pc2 := 64) rfl ?_
        refine g_callV0v hc (C_X12_forgets ht) mv_X12_forgets ln_X12_63 ht ⟨by decide, by decide⟩ (Nat.le_of_ble_eq_true rfl) dX12_image_64 (pc2 := 67) rfl (fun s11 => ?_)
        refine g_rl0 hc dX12_image_67 rfl (pc2 := 68) rfl ?_
        refine g_iconst hc dX12_image_68 ic_1 (pc2 := 69) rfl ?_
        refine g_putZ (by decide) hc fl_X12_449 rfl ht dX12_image_69 (pc2 := 72) rfl (fun s13 => ?_)
        refine g_iconst hc dX12_image_72 ic_1 (pc2 := 73) rfl ?_
        exact g_zret0 (by decide) hc dX12_image_73
      · refine g_rl0 hc dX12_image_67 rfl (pc2 := 68) rfl ?_
        refine g_iconst hc dX12_image_68 ic_1 (pc2 := 69) rfl ?_
        refine g_putZ (by decide) hc fl_X12_449 rfl ht dX12_image_69 (pc2 := 72) rfl (fun s14 => ?_)
        refine g_iconst hc dX12_image_72 ic_1 (pc2 := 73) rfl ?_
        exact g_zret0 (by decide) hc dX12_image_73
  · refine g_iconst hc dX12_image_13 ic_0 (pc2 := 14) rfl ?_
    refine g_is2 hc dX12_image_14 (by decide) (L2 := [some (q_rf w t), some (.int a0), some (.int 0)]) rfl (pc2 := 15) rfl ?_
    refine t_X12_image_L15 hc ht (fun s21 => ?_) n _ _
    refine g_il1 hc dX12_image_59 rfl (pc2 := 60) rfl ?_
    refine g_if_ne hc dX12_image_60 (pc1 := 63) (pc2 := 67) rfl rfl (fun _ => ?_) (fun _ => ?_)
    · refine g_rl0 hc dX12_image_63 rfl (pc2 := 64) rfl ?_
      refine g_callV0v hc (C_X12_forgets ht) mv_X12_forgets ln_X12_63 ht ⟨by decide, by decide⟩ (Nat.le_of_ble_eq_true rfl) dX12_image_64 (pc2 := 67) rfl (fun s23 => ?_)
      refine g_rl0 hc dX12_image_67 rfl (pc2 := 68) rfl ?_
      refine g_iconst hc dX12_image_68 ic_1 (pc2 := 69) rfl ?_
      refine g_putZ (by decide) hc fl_X12_449 rfl ht dX12_image_69 (pc2 := 72) rfl (fun s25 => ?_)
      refine g_iconst hc dX12_image_72 ic_1 (pc2 := 73) rfl ?_
      exact g_zret0 (by decide) hc dX12_image_73
    · refine g_rl0 hc dX12_image_67 rfl (pc2 := 68) rfl ?_
      refine g_iconst hc dX12_image_68 ic_1 (pc2 := 69) rfl ?_
      refine g_putZ (by decide) hc fl_X12_449 rfl ht dX12_image_69 (pc2 := 72) rfl (fun s26 => ?_)
      refine g_iconst hc dX12_image_72 ic_1 (pc2 := 73) rfl ?_
      exact g_zret0 (by decide) hc dX12_image_73
