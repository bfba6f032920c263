set_option maxRecDepth 100000 in
set_option maxHeartbeats 4000000 in
def f_X10_greatestRisk_L13 (n : Nat) (x0 : Nat) (x1 : Int32) (x3 : Int32) : Nat → Int32 → Int32 → q_Sto → Option (Int32 × q_Sto)
  | 0, _, _, _ => none
  | j + 1, x2, x4, s0 =>
    if x4 < (s0 (q_RF x0 0) 8) then (
    q_call (f_X11_isIn n x3 x4 s0) fun r5 s4 =>
    if r5 = 0 then (
    q_call (f_X10_riskOf n x0 x4 x1 (s4 (q_RF x0 0) 13) s4) fun r8 s7 =>
    q_nm (q_mx x2 r8) fun v9 =>
    f_X10_greatestRisk_L13 n x0 x1 x3  j v9 (x4 + 1) s7)
    else (
    f_X10_greatestRisk_L13 n x0 x1 x3  j x2 (x4 + 1) s4))
    else (
    some (x2, s0))
set_option maxRecDepth 100000 in
set_option maxHeartbeats 4000000 in
def f_X10_greatestRisk (n : Nat) (t : Nat) (a0 : Int32) (s0 : q_Sto) : Option (Int32 × q_Sto) :=
  q_call (f_X9_lameOnes n (q_RF t 0) s0) fun r2 s1 =>
  f_X10_greatestRisk_L13 n t a0 r2  n 0 0 s1
set_option maxRecDepth 100000 in
set_option maxHeartbeats 4000000 in
theorem t_X10_greatestRisk_L13 {w : q_Wd} {cx : q_Cx} (hc : q_ok w cx RX10 cX10_greatestRisk 5 (some .int) (q_rm 3 76)) {n : Nat} {x0 : Nat} {x1 : Int32} {x3 : Int32} (hx0 : q_KD x0 = .inl 10)   :
    ∀ (j : Nat) (x2 : Int32) (x4 : Int32) (s0 : q_Sto), q_G w cx 5 (some .int) 13 [some (q_rf w x0), some (.int x1), some (.int x2), some (.int x3), some (.int x4)] [] s0 (f_X10_greatestRisk_L13 n x0 x1 x3  j x2 x4 s0) := by
  intro j
  induction j with
  | zero =>
    intro _ _ _
    rw [f_X10_greatestRisk_L13]
    exact q_none
  | succ j ih =>
    intro x2 x4 s0
    rw [f_X10_greatestRisk_L13]
    refine g_iload hc dX10_greatestRisk_13 rfl (pc2 := 15) rfl ?_
    refine g_rl0 hc dX10_greatestRisk_15 rfl (pc2 := 16) rfl ?_
    refine g_getR hc fl_X10_12 rfl hx0 dX10_greatestRisk_16 (pc2 := 19) rfl ?_
    refine g_getI hc fl_X10_133 rfl (kf_10_0 hx0) dX10_greatestRisk_19 (pc2 := 22) rfl ?_
    refine g_icmp_ge hc dX10_greatestRisk_22 (pc1 := 25) (pc2 := 59) rfl rfl (fun _ => ?_) (fun _ => ?_)
    · refine g_il3 hc dX10_greatestRisk_25 rfl (pc2 := 26) rfl ?_
      refine g_iload hc dX10_greatestRisk_26 rfl (pc2 := 28) rfl ?_
      refine g_callSN2 (host := "MuleVote") hc C_X11_isIn mv_X11_isIn (by decide +kernel) ⟨by decide, by decide⟩ (Nat.le_of_ble_eq_true rfl) dX10_greatestRisk_28 (pc2 := 31) rfl (fun r5 s4 => ?_)
      refine g_if_ne hc dX10_greatestRisk_31 (pc1 := 34) (pc2 := 53) rfl rfl (fun _ => ?_) (fun _ => ?_)
      · refine g_il2 hc dX10_greatestRisk_34 rfl (pc2 := 35) rfl ?_
        refine g_rl0 hc dX10_greatestRisk_35 rfl (pc2 := 36) rfl ?_
        refine g_iload hc dX10_greatestRisk_36 rfl (pc2 := 38) rfl ?_
        refine g_il1 hc dX10_greatestRisk_38 rfl (pc2 := 39) rfl ?_
        refine g_rl0 hc dX10_greatestRisk_39 rfl (pc2 := 40) rfl ?_
        refine g_getR hc fl_X10_12 rfl hx0 dX10_greatestRisk_40 (pc2 := 43) rfl ?_
        refine g_getI hc fl_X10_140 rfl (kf_10_0 hx0) dX10_greatestRisk_43 (pc2 := 46) rfl ?_
        refine g_callV3 hc (C_X10_riskOf hx0) mv_X10_riskOf ln_X10_143 hx0 ⟨by decide, by decide⟩ (Nat.le_of_ble_eq_true rfl) dX10_greatestRisk_46 (pc2 := 49) rfl (fun r8 s7 => ?_)
        refine g_max hc ln_X10_107 ⟨by decide, by decide⟩ (Nat.le_of_ble_eq_true rfl) dX10_greatestRisk_49 (pc2 := 52) rfl ?_
        refine g_nm (fun v9 => ?_)
        refine g_is2 hc dX10_greatestRisk_52 (by decide) (L2 := [some (q_rf w x0), some (.int x1), some (.int v9), some (.int x3), some (.int x4)]) rfl (pc2 := 53) rfl ?_
        refine g_iinc hc dX10_greatestRisk_53 rfl (q_ii ic_1) (by decide) (L2 := [some (q_rf w x0), some (.int x1), some (.int v9), some (.int x3), some (.int (x4 + 1))]) rfl (pc2 := 56) rfl ?_
        refine g_goto hc dX10_greatestRisk_56 (pc2 := 13) rfl ?_
        exact ih _ _ _
      · refine g_iinc hc dX10_greatestRisk_53 rfl (q_ii ic_1) (by decide) (L2 := [some (q_rf w x0), some (.int x1), some (.int x2), some (.int x3), some (.int (x4 + 1))]) rfl (pc2 := 56) rfl ?_
        refine g_goto hc dX10_greatestRisk_56 (pc2 := 13) rfl ?_
        exact ih _ _ _
    · refine g_il2 hc dX10_greatestRisk_59 rfl (pc2 := 60) rfl ?_
      exact g_iret hc dX10_greatestRisk_60
set_option maxRecDepth 100000 in
set_option maxHeartbeats 4000000 in
theorem C_X10_greatestRisk {l : Launch} {w : q_Wd} {n : Nat} {t : Nat} {a0 : Int32} (ht : q_KD t = .inl 10) {s0 : q_Sto} : q_C l w yX10_greatestRisk cX10_greatestRisk 5 (some .int) (q_rm 3 76) [q_rf w t, .int a0] s0 (f_X10_greatestRisk n t a0 s0) := q_CofG [some (q_rf w t), some (.int a0), none, none, none] (by decide +kernel) rfl rfl (Nat.le_of_ble_eq_true rfl) fun cx hl hc => by
  have hc : q_ok w cx RX10 cX10_greatestRisk 5 (some .int) (q_rm 3 76) := hc
  rw [f_X10_greatestRisk]
  refine g_iconst hc dX10_greatestRisk_0 ic_0 (pc2 := 1) rfl ?_
  refine g_is2 hc dX10_greatestRisk_1 (by decide) (L2 := [some (q_rf w t), some (.int a0), some (.int 0), none, none]) rfl (pc2 := 2) rfl ?_
  refine g_rl0 hc dX10_greatestRisk_2 rfl (pc2 := 3) rfl ?_
  refine g_getR hc fl_X10_12 rfl ht dX10_greatestRisk_3 (pc2 := 6) rfl ?_
  refine g_callV0 hc (C_X9_lameOnes (kf_10_0 ht)) mv_X9_lameOnes ln_X10_129 (kf_10_0 ht) ⟨by decide, by decide⟩ (Nat.le_of_ble_eq_true rfl) dX10_greatestRisk_6 (pc2 := 9) rfl (fun r2 s1 => ?_)
  refine g_is3 hc dX10_greatestRisk_9 (by decide) (L2 := [some (q_rf w t), some (.int a0), some (.int 0), some (.int r2), none]) rfl (pc2 := 10) rfl ?_
  refine g_iconst hc dX10_greatestRisk_10 ic_0 (pc2 := 11) rfl ?_
  refine g_istore hc dX10_greatestRisk_11 (by decide) (L2 := [some (q_rf w t), some (.int a0), some (.int 0), some (.int r2), some (.int 0)]) rfl (pc2 := 13) rfl ?_
  refine t_X10_greatestRisk_L13 hc ht  n _ _ _
set_option maxRecDepth 100000 in
set_option maxHeartbeats 4000000 in
def f_X5_measure_L16 (n : Nat) (x0 : Nat) (x1 : Nat) (x2 : Int32) (x3 : Nat) : Nat → Int32 → q_Sto → Option (Int32 × q_Sto)
  | 0, _, _ => none
  | j + 1, x4, s0 =>
    if x4 < (s0 x3 2) then (
    q_call (f_X6_cell n x3 x4 0 s0) fun r5 s4 =>
    q_call (f_X6_cell n x3 x4 1 s4) fun r7 s6 =>
    q_call (f_X11_isCamp n r5 s6) fun r9 s8 =>
    if r9 = 0 then (
    f_X5_measure_L16 n x0 x1 x2 x3  j (x4 + 1) s8)
    else (
    q_call (f_X11_isCamp n r7 s8) fun r12 s11 =>
    if r12 = 0 then (
    f_X5_measure_L16 n x0 x1 x2 x3  j (x4 + 1) s11)
    else (
    q_ld s11 (q_RF x0 0) ((r5 * 10) + r7) 100 fun v14 =>
    if v14 = (-1) then (
    q_call (f_X6_cell n x3 x4 2 s11) fun r17 s16 =>
    if x2 = 0 then (
    q_st s16 (q_RF x0 0) ((r5 * 10) + r7) 100 r17 fun s19 =>
    f_X5_measure_L16 n x0 x1 x2 x3  j (x4 + 1) s19)
    else (
    q_call (f_X10_greatestRisk n x1 r17 s16) fun r21 s20 =>
    q_st s20 (q_RF x0 0) ((r5 * 10) + r7) 100 r21 fun s22 =>
    f_X5_measure_L16 n x0 x1 x2 x3  j (x4 + 1) s22))
    else (
    f_X5_measure_L16 n x0 x1 x2 x3  j (x4 + 1) s11))))
    else (
    some (0, s0))
set_option maxRecDepth 100000 in
set_option maxHeartbeats 4000000 in
def f_X5_measure (n : Nat) (t : Nat) (a0 : Nat) (a1 : Int32) (s0 : q_Sto) : Option (Int32 × q_Sto) :=
  q_callv (f_J7_fill_53178 n (q_RF t 0) 100 (-1) s0) fun s1 =>
  f_X5_measure_L16 n t a0 a1 (q_RF a0 4)  n 0 s1
set_option maxRecDepth 100000 in
set_option maxHeartbeats 4000000 in
theorem t_X5_measure_L16 {w : q_Wd} {cx : q_Cx} (hc : q_ok w cx RX5 cX5_measure 8 (none) (q_rm 4 100)) {n : Nat} {x0 : Nat} {x1 : Nat} {x2 : Int32} {x3 : Nat} (hx0 : q_KD x0 = .inl 5) (hx1 : q_KD x1 = .inl 10) (hx3 : q_KD x3 = .inl 6)   :
    ∀ (j : Nat) (x4 : Int32) (s0 : q_Sto), q_G w cx 8 (none) 16 [some (q_rf w x0), some (q_rf w x1), some (.int x2), some (q_rf w x3), some (.int x4), none, none, none] [] s0 (f_X5_measure_L16 n x0 x1 x2 x3  j x4 s0) := by
  intro j
  induction j with
  | zero =>
    intro _ _
    rw [f_X5_measure_L16]
    exact q_none
  | succ j ih =>
    intro x4 s0
    rw [f_X5_measure_L16]
    refine g_iload hc dX5_measure_16 rfl (pc2 := 18) rfl ?_
    refine g_rl3 hc dX5_measure_18 rfl (pc2 := 19) rfl ?_
    refine g_getI hc fl_X5_30 rfl hx3 dX5_measure_19 (pc2 := 22) rfl ?_
    refine g_icmp_ge hc dX5_measure_22 (pc1 := 25) (pc2 := 119) rfl rfl (fun _ => ?_) (fun _ => ?_)
    · refine g_rl3 hc dX5_measure_25 rfl (pc2 := 26) rfl ?_
      refine g_iload hc dX5_measure_26 rfl (pc2 := 28) rfl ?_
      refine g_iconst hc dX5_measure_28 ic_0 (pc2 := 29) rfl ?_
      refine g_callV2 hc (C_X6_cell hx3) mv_X6_cell ln_X5_36 hx3 ⟨by decide, by decide⟩ (Nat.le_of_ble_eq_true rfl) dX5_measure_29 (pc2 := 32) rfl (fun r5 s4 => ?_)
      refine g_istore hc dX5_measure_32 (by decide) (L2 := [some (q_rf w x0), some (q_rf w x1), some (.int x2), some (q_rf w x3), some (.int x4), some (.int r5), none, none]) rfl (pc2 := 34) rfl ?_
      refine g_rl3 hc dX5_measure_34 rfl (pc2 := 35) rfl ?_
      refine g_iload hc dX5_measure_35 rfl (pc2 := 37) rfl ?_
      refine g_iconst hc dX5_measure_37 ic_1 (pc2 := 38) rfl ?_
      refine g_callV2 hc (C_X6_cell hx3) mv_X6_cell ln_X5_36 hx3 ⟨by decide, by decide⟩ (Nat.le_of_ble_eq_true rfl) dX5_measure_38 (pc2 := 41) rfl (fun r7 s6 => ?_)
      refine g_istore hc dX5_measure_41 (by decide) (L2 := [some (q_rf w x0), some (q_rf w x1), some (.int x2), some (q_rf w x3), some (.int x4), some (.int r5), some (.int r7), none]) rfl (pc2 := 43) rfl ?_
      refine g_iload hc dX5_measure_43 rfl (pc2 := 45) rfl ?_
      refine g_callSN1 (host := "MuleVote") hc C_X11_isCamp mv_X11_isCamp (by decide +kernel) ⟨by decide, by decide⟩ (Nat.le_of_ble_eq_true rfl) dX5_measure_45 (pc2 := 48) rfl (fun r9 s8 => ?_)
      refine g_if_eq hc dX5_measure_48 (pc1 := 113) (pc2 := 51) rfl rfl (fun _ => ?_) (fun _ => ?_)
      · refine g_iinc hc dX5_measure_113 rfl (q_ii ic_1) (by decide) (L2 := [some (q_rf w x0), some (q_rf w x1), some (.int x2), some (q_rf w x3), some (.int (x4 + 1)), some (.int r5), some (.int r7), none]) rfl (pc2 := 116) rfl ?_
        refine g_goto hc dX5_measure_116 (pc2 := 16) rfl ?_
        refine q_Gmask [true, true, true, true, true, false, false, true] (L2 := [some (q_rf w x0), some (q_rf w x1), some (.int x2), some (q_rf w x3), some (.int (x4 + 1)), none, none, none]) rfl ?_
        exact ih _ _
      · refine g_iload hc dX5_measure_51 rfl (pc2 := 53) rfl ?_
        refine g_callSN1 (host := "MuleVote") hc C_X11_isCamp mv_X11_isCamp (by decide +kernel) ⟨by decide, by decide⟩ (Nat.le_of_ble_eq_true rfl) dX5_measure_53 (pc2 := 56) rfl (fun r12 s11 => ?_)
        refine g_if_eq hc dX5_measure_56 (pc1 := 113) (pc2 := 59) rfl rfl (fun _ => ?_) (fun _ => ?_)
        · refine g_iinc hc dX5_measure_113 rfl (q_ii ic_1) (by decide) (L2 := [some (q_rf w x0), some (q_rf w x1), some (.int x2), some (q_rf w x3), some (.int (x4 + 1)), some (.int r5), some (.int r7), none]) rfl (pc2 := 116) rfl ?_
          refine g_goto hc dX5_measure_116 (pc2 := 16) rfl ?_
          refine q_Gmask [true, true, true, true, true, false, false, true] (L2 := [some (q_rf w x0), some (q_rf w x1), some (.int x2), some (q_rf w x3), some (.int (x4 + 1)), none, none, none]) rfl ?_
          exact ih _ _
        · refine g_rl0 hc dX5_measure_59 rfl (pc2 := 60) rfl ?_
          refine g_getR hc fl_X5_9 rfl hx0 dX5_measure_60 (pc2 := 63) rfl ?_
          refine g_iload hc dX5_measure_63 rfl (pc2 := 65) rfl ?_
          refine g_bipush hc dX5_measure_65 bp_10 (pc2 := 67) rfl ?_
          refine g_imul hc dX5_measure_67 (pc2 := 68) rfl ?_
          refine g_iload hc dX5_measure_68 rfl (pc2 := 70) rfl ?_
          refine g_iadd hc dX5_measure_70 (pc2 := 71) rfl ?_
          refine g_iald hc (kf_5_0 hx0) (kl_5_0 hx0) dX5_measure_71 (pc2 := 72) rfl (fun v14 => ?_)
          refine g_iconst hc dX5_measure_72 ic_m1 (pc2 := 73) rfl ?_
          refine g_icmp_ne hc dX5_measure_73 (pc1 := 76) (pc2 := 113) rfl rfl (fun _ => ?_) (fun _ => ?_)
          · refine g_rl3 hc dX5_measure_76 rfl (pc2 := 77) rfl ?_
            refine g_iload hc dX5_measure_77 rfl (pc2 := 79) rfl ?_
            refine g_iconst hc dX5_measure_79 ic_2 (pc2 := 80) rfl ?_
            refine g_callV2 hc (C_X6_cell hx3) mv_X6_cell ln_X5_36 hx3 ⟨by decide, by decide⟩ (Nat.le_of_ble_eq_true rfl) dX5_measure_80 (pc2 := 83) rfl (fun r17 s16 => ?_)
            refine g_istore hc dX5_measure_83 (by decide) (L2 := [some (q_rf w x0), some (q_rf w x1), some (.int x2), some (q_rf w x3), some (.int x4), some (.int r5), some (.int r7), some (.int r17)]) rfl (pc2 := 85) rfl ?_
            refine g_rl0 hc dX5_measure_85 rfl (pc2 := 86) rfl ?_
            refine g_getR hc fl_X5_9 rfl hx0 dX5_measure_86 (pc2 := 89) rfl ?_
            refine g_iload hc dX5_measure_89 rfl (pc2 := 91) rfl ?_
            refine g_bipush hc dX5_measure_91 bp_10 (pc2 := 93) rfl ?_
            refine g_imul hc dX5_measure_93 (pc2 := 94) rfl ?_
            refine g_iload hc dX5_measure_94 rfl (pc2 := 96) rfl ?_
            refine g_iadd hc dX5_measure_96 (pc2 := 97) rfl ?_
            refine g_il2 hc dX5_measure_97 rfl (pc2 := 98) rfl ?_
            refine g_if_eq hc dX5_measure_98 (pc1 := 110) (pc2 := 101) rfl rfl (fun _ => ?_) (fun _ => ?_)
            · refine g_iload hc dX5_measure_110 rfl (pc2 := 112) rfl ?_
              refine g_iast hc (kf_5_0 hx0) (kl_5_0 hx0) dX5_measure_112 (pc2 := 113) rfl (fun s19 => ?_)
              refine g_iinc hc dX5_measure_113 rfl (q_ii ic_1) (by decide) (L2 := [some (q_rf w x0), some (q_rf w x1), some (.int x2), some (q_rf w x3), some (.int (x4 + 1)), some (.int r5), some (.int r7), some (.int r17)]) rfl (pc2 := 116) rfl ?_
              refine g_goto hc dX5_measure_116 (pc2 := 16) rfl ?_
              refine q_Gmask [true, true, true, true, true, false, false, false] (L2 := [some (q_rf w x0), some (q_rf w x1), some (.int x2), some (q_rf w x3), some (.int (x4 + 1)), none, none, none]) rfl ?_
              exact ih _ _
            · refine g_rl1 hc dX5_measure_101 rfl (pc2 := 102) rfl ?_
              refine g_iload hc dX5_measure_102 rfl (pc2 := 104) rfl ?_
              refine g_callV1 hc (C_X10_greatestRisk hx1) mv_X10_greatestRisk ln_X5_44 hx1 ⟨by decide, by decide⟩ (Nat.le_of_ble_eq_true rfl) dX5_measure_104 (pc2 := 107) rfl (fun r21 s20 => ?_)
              refine g_goto hc dX5_measure_107 (pc2 := 112) rfl ?_
              refine g_iast hc (kf_5_0 hx0) (kl_5_0 hx0) dX5_measure_112 (pc2 := 113) rfl (fun s22 => ?_)
              refine g_iinc hc dX5_measure_113 rfl (q_ii ic_1) (by decide) (L2 := [some (q_rf w x0), some (q_rf w x1), some (.int x2), some (q_rf w x3), some (.int (x4 + 1)), some (.int r5), some (.int r7), some (.int r17)]) rfl (pc2 := 116) rfl ?_
              refine g_goto hc dX5_measure_116 (pc2 := 16) rfl ?_
              refine q_Gmask [true, true, true, true, true, false, false, false] (L2 := [some (q_rf w x0), some (q_rf w x1), some (.int x2), some (q_rf w x3), some (.int (x4 + 1)), none, none, none]) rfl ?_
              exact ih _ _
          · refine g_iinc hc dX5_measure_113 rfl (q_ii ic_1) (by decide) (L2 := [some (q_rf w x0), some (q_rf w x1), some (.int x2), some (q_rf w x3), some (.int (x4 + 1)), some (.int r5), some (.int r7), none]) rfl (pc2 := 116) rfl ?_
            refine g_goto hc dX5_measure_116 (pc2 := 16) rfl ?_
            refine q_Gmask [true, true, true, true, true, false, false, true] (L2 := [some (q_rf w x0), some (q_rf w x1), some (.int x2), some (q_rf w x3), some (.int (x4 + 1)), none, none, none]) rfl ?_
            exact ih _ _
    · exact g_vret hc dX5_measure_119
set_option maxRecDepth 100000 in
set_option maxHeartbeats 4000000 in
theorem C_X5_measure {l : Launch} {w : q_Wd} {n : Nat} {t : Nat} {a0 : Nat} {a1 : Int32} (ht : q_KD t = .inl 5) (ha0 : q_KD a0 = .inl 10) {s0 : q_Sto} : q_C l w yX5_measure cX5_measure 8 (none) (q_rm 4 100) [q_rf w t, q_rf w a0, .int a1] s0 (f_X5_measure n t a0 a1 s0) := q_CofG [some (q_rf w t), some (q_rf w a0), some (.int a1), none, none, none, none, none] (by decide +kernel) rfl rfl (Nat.le_of_ble_eq_true rfl) fun cx hl hc => by
  have hc : q_ok w cx RX5 cX5_measure 8 (none) (q_rm 4 100) := hc
  rw [f_X5_measure]
  refine g_rl0 hc dX5_measure_0 rfl (pc2 := 1) rfl ?_
  refine g_getR hc fl_X5_9 rfl ht dX5_measure_1 (pc2 := 4) rfl ?_
  refine g_iconst hc dX5_measure_4 ic_m1 (pc2 := 5) rfl ?_
  refine g_callS2v hc (C_J7_fill_53178 (kf_5_0 ht) (kl_5_0 ht)) mv_J7_fill_53178 ln_X5_18 ⟨by decide, by decide⟩ (Nat.le_of_ble_eq_true rfl) dX5_measure_5 (pc2 := 8) rfl (fun s1 => ?_)
  refine g_rl1 hc dX5_measure_8 rfl (pc2 := 9) rfl ?_
  refine g_getR hc fl_X5_24 rfl ha0 dX5_measure_9 (pc2 := 12) rfl ?_
  refine g_rs3 hc dX5_measure_12 (by decide) (L2 := [some (q_rf w t), some (q_rf w a0), some (.int a1), some (q_rf w (q_RF a0 4)), none, none, none, none]) rfl (pc2 := 13) rfl ?_
  refine g_iconst hc dX5_measure_13 ic_0 (pc2 := 14) rfl ?_
  refine g_istore hc dX5_measure_14 (by decide) (L2 := [some (q_rf w t), some (q_rf w a0), some (.int a1), some (q_rf w (q_RF a0 4)), some (.int 0), none, none, none]) rfl (pc2 := 16) rfl ?_
  refine t_X5_measure_L16 hc ht ha0 (kf_10_4 ha0)  n _ _
set_option maxRecDepth 100000 in
set_option maxHeartbeats 4000000 in
def f_X5_through (n : Nat) (t : Nat) (a0 : Int32) (a1 : Int32) (s0 : q_Sto) : Option (Int32 × q_Sto) :=
  q_call (f_X11_isCamp n a0 s0) fun r2 s1 =>
  if r2 = 0 then (
  some ((-1), s1))
  else (
  q_call (f_X11_isCamp n a1 s1) fun r5 s4 =>
  if r5 = 0 then (
  some ((-1), s4))
  else (
  q_ld s4 (q_RF t 0) ((a0 * 10) + a1) 100 fun v7 =>
  if v7 = (-1) then (
  some ((-1), s4))
  else (
  q_ld s4 (q_RF t 1) a1 10 fun v9 =>
  if v9 = (-1) then (
  some ((-1), s4))
  else (
  q_ld s4 (q_RF t 0) ((a0 * 10) + a1) 100 fun v11 =>
  q_ld s4 (q_RF t 1) a1 10 fun v12 =>
  some (v11 + v12, s4)))))
set_option maxRecDepth 100000 in
set_option maxHeartbeats 4000000 in
theorem C_X5_through {l : Launch} {w : q_Wd} {n : Nat} {t : Nat} {a0 : Int32} {a1 : Int32} (ht : q_KD t = .inl 5) {s0 : q_Sto} : q_C l w yX5_through cX5_through 3 (some .int) (q_rm 1 20) [q_rf w t, .int a0, .int a1] s0 (f_X5_through n t a0 a1 s0) := q_CofG [some (q_rf w t), some (.int a0), some (.int a1)] (by decide +kernel) rfl rfl (Nat.le_of_ble_eq_true rfl) fun cx hl hc => by
  have hc : q_ok w cx RX5 cX5_through 3 (some .int) (q_rm 1 20) := hc
  rw [f_X5_through]
  refine g_il1 hc dX5_through_0 rfl (pc2 := 1) rfl ?_
  refine g_callSN1 (host := "MuleVote") hc C_X11_isCamp mv_X11_isCamp (by decide +kernel) ⟨by decide, by decide⟩ (Nat.le_of_ble_eq_true rfl) dX5_through_1 (pc2 := 4) rfl (fun r2 s1 => ?_)
  refine g_if_eq hc dX5_through_4 (pc1 := 39) (pc2 := 7) rfl rfl (fun _ => ?_) (fun _ => ?_)
  · refine g_iconst hc dX5_through_39 ic_m1 (pc2 := 40) rfl ?_
    exact g_iret hc dX5_through_40
  · refine g_il2 hc dX5_through_7 rfl (pc2 := 8) rfl ?_
    refine g_callSN1 (host := "MuleVote") hc C_X11_isCamp mv_X11_isCamp (by decide +kernel) ⟨by decide, by decide⟩ (Nat.le_of_ble_eq_true rfl) dX5_through_8 (pc2 := 11) rfl (fun r5 s4 => ?_)
    refine g_if_eq hc dX5_through_11 (pc1 := 39) (pc2 := 14) rfl rfl (fun _ => ?_) (fun _ => ?_)
    · refine g_iconst hc dX5_through_39 ic_m1 (pc2 := 40) rfl ?_
      exact g_iret hc dX5_through_40
    · refine g_rl0 hc dX5_through_14 rfl (pc2 := 15) rfl ?_
      refine g_getR hc fl_X5_9 rfl ht dX5_through_15 (pc2 := 18) rfl ?_
      refine g_il1 hc dX5_through_18 rfl (pc2 := 19) rfl ?_
      refine g_bipush hc dX5_through_19 bp_10 (pc2 := 21) rfl ?_
      refine g_imul hc dX5_through_21 (pc2 := 22) rfl ?_
      refine g_il2 hc dX5_through_22 rfl (pc2 := 23) rfl ?_
      refine g_iadd hc dX5_through_23 (pc2 := 24) rfl ?_
      refine g_iald hc (kf_5_0 ht) (kl_5_0 ht) dX5_through_24 (pc2 := 25) rfl (fun v7 => ?_)
      refine g_iconst hc dX5_through_25 ic_m1 (pc2 := 26) rfl ?_
      refine g_icmp_eq hc dX5_through_26 (pc1 := 39) (pc2 := 29) rfl rfl (fun _ => ?_) (fun _ => ?_)
      · refine g_iconst hc dX5_through_39 ic_m1 (pc2 := 40) rfl ?_
        exact g_iret hc dX5_through_40
      · refine g_rl0 hc dX5_through_29 rfl (pc2 := 30) rfl ?_
        refine g_getR hc fl_X5_15 rfl ht dX5_through_30 (pc2 := 33) rfl ?_
        refine g_il2 hc dX5_through_33 rfl (pc2 := 34) rfl ?_
        refine g_iald hc (kf_5_1 ht) (kl_5_1 ht) dX5_through_34 (pc2 := 35) rfl (fun v9 => ?_)
        refine g_iconst hc dX5_through_35 ic_m1 (pc2 := 36) rfl ?_
        refine g_icmp_ne hc dX5_through_36 (pc1 := 39) (pc2 := 41) rfl rfl (fun _ => ?_) (fun _ => ?_)
        · refine g_iconst hc dX5_through_39 ic_m1 (pc2 := 40) rfl ?_
          exact g_iret hc dX5_through_40
        · refine g_rl0 hc dX5_through_41 rfl (pc2 := 42) rfl ?_
          refine g_getR hc fl_X5_9 rfl ht dX5_through_42 (pc2 := 45) rfl ?_
          refine g_il1 hc dX5_through_45 rfl (pc2 := 46) rfl ?_
          refine g_bipush hc dX5_through_46 bp_10 (pc2 := 48) rfl ?_
          refine g_imul hc dX5_through_48 (pc2 := 49) rfl ?_
          refine g_il2 hc dX5_through_49 rfl (pc2 := 50) rfl ?_
          refine g_iadd hc dX5_through_50 (pc2 := 51) rfl ?_
          refine g_iald hc (kf_5_0 ht) (kl_5_0 ht) dX5_through_51 (pc2 := 52) rfl (fun v11 => ?_)
          refine g_rl0 hc dX5_through_52 rfl (pc2 := 53) rfl ?_
          refine g_getR hc fl_X5_15 rfl ht dX5_through_53 (pc2 := 56) rfl ?_
          refine g_il2 hc dX5_through_56 rfl (pc2 := 57) rfl ?_
          refine g_iald hc (kf_5_1 ht) (kl_5_1 ht) dX5_through_57 (pc2 := 58) rfl (fun v12 => ?_)
          refine g_iadd hc dX5_through_58 (pc2 := 59) rfl ?_
          exact g_iret hc dX5_through_59
set_option maxRecDepth 100000 in
set_option maxHeartbeats 4000000 in
def f_X5_reach_L42 (n : Nat) (x0 : Nat) (x2 : Int32) (x3 : Int32) (k99 : q_Sto → Option (Int32 × q_Sto)) : Nat → Int32 → q_Sto → Option (Int32 × q_Sto)
  | 0, _, _ => none
  | j + 1, x4, s0 =>
    if x4 < 10 then (
    q_call (f_X5_through n x0 x3 x4 s0) fun r11 s10 =>
    if r11 = (-1) then (
    f_X5_reach_L42 n x0 x2 x3 k99 j (x4 + 1) s10)
    else (
    q_ld s10 (q_RF x0 1) x3 10 fun v13 =>
    if v13 = (-1) then (
    q_st s10 (q_RF x0 1) x3 10 r11 fun s15 =>
    f_X5_reach_L42 n x0 x2 x3 k99 j (x4 + 1) s15)
    else (
    q_ld s10 (q_RF x0 1) x3 10 fun v16 =>
    if r11 < v16 then (
    q_st s10 (q_RF x0 1) x3 10 r11 fun s18 =>
    f_X5_reach_L42 n x0 x2 x3 k99 j (x4 + 1) s18)
    else (
    f_X5_reach_L42 n x0 x2 x3 k99 j (x4 + 1) s10))))
    else (
    k99 s0)
set_option maxRecDepth 100000 in
set_option maxHeartbeats 4000000 in
def f_X5_reach_L33 (n : Nat) (x0 : Nat) (x2 : Int32) (k105 : q_Sto → Option (Int32 × q_Sto)) : Nat → Int32 → q_Sto → Option (Int32 × q_Sto)
  | 0, _, _ => none
  | j + 1, x3, s0 =>
    if x3 < 10 then (
    f_X5_reach_L42 n x0 x2 x3 (fun  (s19 : q_Sto) =>
    f_X5_reach_L33 n x0 x2 k105 j (x3 + 1) s19) n 0 s0)
    else (
    k105 s0)
set_option maxRecDepth 100000 in
set_option maxHeartbeats 4000000 in
def f_X5_reach_L25 (n : Nat) (x0 : Nat) : Nat → Int32 → q_Sto → Option (Int32 × q_Sto)
  | 0, _, _ => none
  | j + 1, x2, s0 =>
    if x2 < 10 then (
    f_X5_reach_L33 n x0 x2 (fun  (s20 : q_Sto) =>
    f_X5_reach_L25 n x0  j (x2 + 1) s20) n 0 s0)
    else (
    some (0, s0))
set_option maxRecDepth 100000 in
set_option maxHeartbeats 4000000 in
def f_X5_reach (n : Nat) (t : Nat) (a0 : Int32) (s0 : q_Sto) : Option (Int32 × q_Sto) :=
  q_callv (f_J7_fill_53178 n (q_RF t 1) 10 (-1) s0) fun s1 =>
  q_call (f_X11_isCamp n a0 s1) fun r4 s3 =>
  if r4 = 0 then (
  some (0, s3))
  else (
  q_st s3 (q_RF t 1) a0 10 0 fun s6 =>
  f_X5_reach_L25 n t  n 0 s6)
set_option maxRecDepth 100000 in
set_option maxHeartbeats 4000000 in
theorem t_X5_reach_L42 {w : q_Wd} {cx : q_Cx} (hc : q_ok w cx RX5 cX5_reach 6 (none) (q_rm 2 42)) {n : Nat} {x0 : Nat} {x2 : Int32} {x3 : Int32} (hx0 : q_KD x0 = .inl 5) {k99 : q_Sto → Option (Int32 × q_Sto)} (hk99 : ∀  (s1 : q_Sto), q_G w cx 6 (none) 99 [some (q_rf w x0), none, some (.int x2), some (.int x3), none, none] [] s1 (k99 s1)) :
    ∀ (j : Nat) (x4 : Int32) (s0 : q_Sto), q_G w cx 6 (none) 42 [some (q_rf w x0), none, some (.int x2), some (.int x3), some (.int x4), none] [] s0 (f_X5_reach_L42 n x0 x2 x3 k99 j x4 s0) := by
  intro j
  induction j with
  | zero =>
    intro _ _
    rw [f_X5_reach_L42]
    exact q_none
  | succ j ih =>
    intro x4 s0
    rw [f_X5_reach_L42]
    refine g_iload hc dX5_reach_42 rfl (pc2 := 44) rfl ?_
    refine g_bipush hc dX5_reach_44 bp_10 (pc2 := 46) rfl ?_
    refine g_icmp_ge hc dX5_reach_46 (pc1 := 49) (pc2 := 99) rfl rfl (fun _ => ?_) (fun _ => ?_)
    · refine g_rl0 hc dX5_reach_49 rfl (pc2 := 50) rfl ?_
      refine g_il3 hc dX5_reach_50 rfl (pc2 := 51) rfl ?_
      refine g_iload hc dX5_reach_51 rfl (pc2 := 53) rfl ?_
      refine g_callV2 hc (C_X5_through hx0) mv_X5_through ln_X5_48 hx0 ⟨by decide, by decide⟩ (Nat.le_of_ble_eq_true rfl) dX5_reach_53 (pc2 := 56) rfl (fun r11 s10 => ?_)
      refine g_istore hc dX5_reach_56 (by decide) (L2 := [some (q_rf w x0), none, some (.int x2), some (.int x3), some (.int x4), some (.int r11)]) rfl (pc2 := 58) rfl ?_
      refine g_iload hc dX5_reach_58 rfl (pc2 := 60) rfl ?_
      refine g_iconst hc dX5_reach_60 ic_m1 (pc2 := 61) rfl ?_
      refine g_icmp_eq hc dX5_reach_61 (pc1 := 93) (pc2 := 64) rfl rfl (fun _ => ?_) (fun _ => ?_)
      · refine g_iinc hc dX5_reach_93 rfl (q_ii ic_1) (by decide) (L2 := [some (q_rf w x0), none, some (.int x2), some (.int x3), some (.int (x4 + 1)), some (.int r11)]) rfl (pc2 := 96) rfl ?_
        refine g_goto hc dX5_reach_96 (pc2 := 42) rfl ?_
        refine q_Gmask [true, true, true, true, true, false] (L2 := [some (q_rf w x0), none, some (.int x2), some (.int x3), some (.int (x4 + 1)), none]) rfl ?_
        exact ih _ _
      · refine g_rl0 hc dX5_reach_64 rfl (pc2 := 65) rfl ?_
        refine g_getR hc fl_X5_15 rfl hx0 dX5_reach_65 (pc2 := 68) rfl ?_
        refine g_il3 hc dX5_reach_68 rfl (pc2 := 69) rfl ?_
        refine g_iald hc (kf_5_1 hx0) (kl_5_1 hx0) dX5_reach_69 (pc2 := 70) rfl (fun v13 => ?_)
        refine g_iconst hc dX5_reach_70 ic_m1 (pc2 := 71) rfl ?_
        refine g_icmp_eq hc dX5_reach_71 (pc1 := 85) (pc2 := 74) rfl rfl (fun _ => ?_) (fun _ => ?_)
        · refine g_rl0 hc dX5_reach_85 rfl (pc2 := 86) rfl ?_
          refine g_getR hc fl_X5_15 rfl hx0 dX5_reach_86 (pc2 := 89) rfl ?_
          refine g_il3 hc dX5_reach_89 rfl (pc2 := 90) rfl ?_
          refine g_iload hc dX5_reach_90 rfl (pc2 := 92) rfl ?_
          refine g_iast hc (kf_5_1 hx0) (kl_5_1 hx0) dX5_reach_92 (pc2 := 93) rfl (fun s15 => ?_)
          refine g_iinc hc dX5_reach_93 rfl (q_ii ic_1) (by decide) (L2 := [some (q_rf w x0), none, some (.int x2), some (.int x3), some (.int (x4 + 1)), some (.int r11)]) rfl (pc2 := 96) rfl ?_
          refine g_goto hc dX5_reach_96 (pc2 := 42) rfl ?_
          refine q_Gmask [true, true, true, true, true, false] (L2 := [some (q_rf w x0), none, some (.int x2), some (.int x3), some (.int (x4 + 1)), none]) rfl ?_
          exact ih _ _
        · refine g_iload hc dX5_reach_74 rfl (pc2 := 76) rfl ?_
          refine g_rl0 hc dX5_reach_76 rfl (pc2 := 77) rfl ?_
          refine g_getR hc fl_X5_15 rfl hx0 dX5_reach_77 (pc2 := 80) rfl ?_
          refine g_il3 hc dX5_reach_80 rfl (pc2 := 81) rfl ?_
          refine g_iald hc (kf_5_1 hx0) (kl_5_1 hx0) dX5_reach_81 (pc2 := 82) rfl (fun v16 => ?_)
          refine g_icmp_ge hc dX5_reach_82 (pc1 := 85) (pc2 := 93) rfl rfl (fun _ => ?_) (fun _ => ?_)
          · refine g_rl0 hc dX5_reach_85 rfl (pc2 := 86) rfl ?_
            refine g_getR hc fl_X5_15 rfl hx0 dX5_reach_86 (pc2 := 89) rfl ?_
            refine g_il3 hc dX5_reach_89 rfl (pc2 := 90) rfl ?_
            refine g_iload hc dX5_reach_90 rfl (pc2 := 92) rfl ?_
            refine g_iast hc (kf_5_1 hx0) (kl_5_1 hx0) dX5_reach_92 (pc2 := 93) rfl (fun s18 => ?_)
            refine g_iinc hc dX5_reach_93 rfl (q_ii ic_1) (by decide) (L2 := [some (q_rf w x0), none, some (.int x2), some (.int x3), some (.int (x4 + 1)), some (.int r11)]) rfl (pc2 := 96) rfl ?_
            refine g_goto hc dX5_reach_96 (pc2 := 42) rfl ?_
            refine q_Gmask [true, true, true, true, true, false] (L2 := [some (q_rf w x0), none, some (.int x2), some (.int x3), some (.int (x4 + 1)), none]) rfl ?_
            exact ih _ _
          · refine g_iinc hc dX5_reach_93 rfl (q_ii ic_1) (by decide) (L2 := [some (q_rf w x0), none, some (.int x2), some (.int x3), some (.int (x4 + 1)), some (.int r11)]) rfl (pc2 := 96) rfl ?_
            refine g_goto hc dX5_reach_96 (pc2 := 42) rfl ?_
            refine q_Gmask [true, true, true, true, true, false] (L2 := [some (q_rf w x0), none, some (.int x2), some (.int x3), some (.int (x4 + 1)), none]) rfl ?_
            exact ih _ _
    · refine q_Gmask [true, true, true, true, false, true] (L2 := [some (q_rf w x0), none, some (.int x2), some (.int x3), none, none]) rfl ?_
      exact hk99 _
set_option maxRecDepth 100000 in
set_option maxHeartbeats 4000000 in
theorem t_X5_reach_L33 {w : q_Wd} {cx : q_Cx} (hc : q_ok w cx RX5 cX5_reach 6 (none) (q_rm 2 42)) {n : Nat} {x0 : Nat} {x2 : Int32} (hx0 : q_KD x0 = .inl 5) {k105 : q_Sto → Option (Int32 × q_Sto)} (hk105 : ∀  (s1 : q_Sto), q_G w cx 6 (none) 105 [some (q_rf w x0), none, some (.int x2), none, none, none] [] s1 (k105 s1)) :
    ∀ (j : Nat) (x3 : Int32) (s0 : q_Sto), q_G w cx 6 (none) 33 [some (q_rf w x0), none, some (.int x2), some (.int x3), none, none] [] s0 (f_X5_reach_L33 n x0 x2 k105 j x3 s0) := by
  intro j
  induction j with
  | zero =>
    intro _ _
    rw [f_X5_reach_L33]
    exact q_none
  | succ j ih =>
    intro x3 s0
    rw [f_X5_reach_L33]
    refine g_il3 hc dX5_reach_33 rfl (pc2 := 34) rfl ?_
    refine g_bipush hc dX5_reach_34 bp_10 (pc2 := 36) rfl ?_
    refine g_icmp_ge hc dX5_reach_36 (pc1 := 39) (pc2 := 105) rfl rfl (fun _ => ?_) (fun _ => ?_)
    · refine g_iconst hc dX5_reach_39 ic_0 (pc2 := 40) rfl ?_
      refine g_istore hc dX5_reach_40 (by decide) (L2 := [some (q_rf w x0), none, some (.int x2), some (.int x3), some (.int 0), none]) rfl (pc2 := 42) rfl ?_
      refine t_X5_reach_L42 hc hx0 (fun s19 => ?_) n _ _
      refine g_iinc hc dX5_reach_99 rfl (q_ii ic_1) (by decide) (L2 := [some (q_rf w x0), none, some (.int x2), some (.int (x3 + 1)), none, none]) rfl (pc2 := 102) rfl ?_
      refine g_goto hc dX5_reach_102 (pc2 := 33) rfl ?_
      exact ih _ _
    · refine q_Gmask [true, true, true, false, true, true] (L2 := [some (q_rf w x0), none, some (.int x2), none, none, none]) rfl ?_
      exact hk105 _
set_option maxRecDepth 100000 in
set_option maxHeartbeats 4000000 in
theorem t_X5_reach_L25 {w : q_Wd} {cx : q_Cx} (hc : q_ok w cx RX5 cX5_reach 6 (none) (q_rm 2 42)) {n : Nat} {x0 : Nat} (hx0 : q_KD x0 = .inl 5)   :
    ∀ (j : Nat) (x2 : Int32) (s0 : q_Sto), q_G w cx 6 (none) 25 [some (q_rf w x0), none, some (.int x2), none, none, none] [] s0 (f_X5_reach_L25 n x0  j x2 s0) := by
  intro j
  induction j with
  | zero =>
    intro _ _
    rw [f_X5_reach_L25]
    exact q_none
  | succ j ih =>
    intro x2 s0
    rw [f_X5_reach_L25]
    refine g_il2 hc dX5_reach_25 rfl (pc2 := 26) rfl ?_
    refine g_bipush hc dX5_reach_26 bp_10 (pc2 := 28) rfl ?_
    refine g_icmp_ge hc dX5_reach_28 (pc1 := 31) (pc2 := 111) rfl rfl (fun _ => ?_) (fun _ => ?_)
    · refine g_iconst hc dX5_reach_31 ic_0 (pc2 := 32) rfl ?_
      refine g_is3 hc dX5_reach_32 (by decide) (L2 := [some (q_rf w x0), none, some (.int x2), some (.int 0), none, none]) rfl (pc2 := 33) rfl ?_
      refine t_X5_reach_L33 hc hx0 (fun s20 => ?_) n _ _
      refine g_iinc hc dX5_reach_105 rfl (q_ii ic_1) (by decide) (L2 := [some (q_rf w x0), none, some (.int (x2 + 1)), none, none, none]) rfl (pc2 := 108) rfl ?_
      refine g_goto hc dX5_reach_108 (pc2 := 25) rfl ?_
      exact ih _ _
    · exact g_vret hc dX5_reach_111
set_option maxRecDepth 100000 in
set_option maxHeartbeats 4000000 in
theorem C_X5_reach {l : Launch} {w : q_Wd} {n : Nat} {t : Nat} {a0 : Int32} (ht : q_KD t = .inl 5) {s0 : q_Sto} : q_C l w yX5_reach cX5_reach 6 (none) (q_rm 2 42) [q_rf w t, .int a0] s0 (f_X5_reach n t a0 s0) := q_CofG [some (q_rf w t), some (.int a0), none, none, none, none] (by decide +kernel) rfl rfl (Nat.le_of_ble_eq_true rfl) fun cx hl hc => by
  have hc : q_ok w cx RX5 cX5_reach 6 (none) (q_rm 2 42) := hc
  rw [f_X5_reach]
  refine g_rl0 hc dX5_reach_0 rfl (pc2 := 1) rfl ?_
  refine g_getR hc fl_X5_15 rfl ht dX5_reach_1 (pc2 := 4) rfl ?_
  refine g_iconst hc dX5_reach_4 ic_m1 (pc2 := 5) rfl ?_
  refine g_callS2v hc (C_J7_fill_53178 (kf_5_1 ht) (kl_5_1 ht)) mv_J7_fill_53178 ln_X5_18 ⟨by decide, by decide⟩ (Nat.le_of_ble_eq_true rfl) dX5_reach_5 (pc2 := 8) rfl (fun s1 => ?_)
  refine g_il1 hc dX5_reach_8 rfl (pc2 := 9) rfl ?_
  refine g_callSN1 (host := "MuleVote") hc C_X11_isCamp mv_X11_isCamp (by decide +kernel) ⟨by decide, by decide⟩ (Nat.le_of_ble_eq_true rfl) dX5_reach_9 (pc2 := 12) rfl (fun r4 s3 => ?_)
  refine g_if_ne hc dX5_reach_12 (pc1 := 15) (pc2 := 16) rfl rfl (fun _ => ?_) (fun _ => ?_)
  · exact g_vret hc dX5_reach_15
  · refine g_rl0 hc dX5_reach_16 rfl (pc2 := 17) rfl ?_
    refine g_getR hc fl_X5_15 rfl ht dX5_reach_17 (pc2 := 20) rfl ?_
    refine g_il1 hc dX5_reach_20 rfl (pc2 := 21) rfl ?_
    refine g_iconst hc dX5_reach_21 ic_0 (pc2 := 22) rfl ?_
    refine g_iast hc (kf_5_1 ht) (kl_5_1 ht) dX5_reach_22 (pc2 := 23) rfl (fun s6 => ?_)
    refine g_iconst hc dX5_reach_23 ic_0 (pc2 := 24) rfl ?_
    refine g_is2 hc dX5_reach_24 (by decide) (L2 := [some (q_rf w t), some (.int a0), some (.int 0), none, none, none]) rfl (pc2 := 25) rfl ?_
    refine q_Gmask [true, false, true, true, true, true] (L2 := [some (q_rf w t), none, some (.int 0), none, none, none]) rfl ?_
    refine t_X5_reach_L25 hc ht  n _ _
set_option maxRecDepth 100000 in
set_option maxHeartbeats 4000000 in
def f_X5_farFrom (n : Nat) (t : Nat) (a0 : Int32) (s0 : q_Sto) : Option (Int32 × q_Sto) :=
  q_call (f_X11_isCamp n a0 s0) fun r2 s1 =>
  if r2 = 0 then (
  some ((-1), s1))
  else (
  q_ld s1 (q_RF t 1) a0 10 fun v4 =>
  some (v4, s1))
set_option maxRecDepth 100000 in
set_option maxHeartbeats 4000000 in
theorem C_X5_farFrom {l : Launch} {w : q_Wd} {n : Nat} {t : Nat} {a0 : Int32} (ht : q_KD t = .inl 5) {s0 : q_Sto} : q_C l w yX5_farFrom cX5_farFrom 2 (some .int) (q_rm 1 20) [q_rf w t, .int a0] s0 (f_X5_farFrom n t a0 s0) := q_CofG [some (q_rf w t), some (.int a0)] (by decide +kernel) rfl rfl (Nat.le_of_ble_eq_true rfl) fun cx hl hc => by
  have hc : q_ok w cx RX5 cX5_farFrom 2 (some .int) (q_rm 1 20) := hc
  rw [f_X5_farFrom]
  refine g_il1 hc dX5_farFrom_0 rfl (pc2 := 1) rfl ?_
  refine g_callSN1 (host := "MuleVote") hc C_X11_isCamp mv_X11_isCamp (by decide +kernel) ⟨by decide, by decide⟩ (Nat.le_of_ble_eq_true rfl) dX5_farFrom_1 (pc2 := 4) rfl (fun r2 s1 => ?_)
  refine g_if_eq hc dX5_farFrom_4 (pc1 := 16) (pc2 := 7) rfl rfl (fun _ => ?_) (fun _ => ?_)
  · refine g_iconst hc dX5_farFrom_16 ic_m1 (pc2 := 17) rfl ?_
    exact g_iret hc dX5_farFrom_17
  · refine g_rl0 hc dX5_farFrom_7 rfl (pc2 := 8) rfl ?_
    refine g_getR hc fl_X5_15 rfl ht dX5_farFrom_8 (pc2 := 11) rfl ?_
    refine g_il1 hc dX5_farFrom_11 rfl (pc2 := 12) rfl ?_
    refine g_iald hc (kf_5_1 ht) (kl_5_1 ht) dX5_farFrom_12 (pc2 := 13) rfl (fun v4 => ?_)
    refine g_goto hc dX5_farFrom_13 (pc2 := 17) rfl ?_
    exact g_iret hc dX5_farFrom_17
set_option maxRecDepth 100000 in
set_option maxHeartbeats 4000000 in
def f_X5_nextFrom_L18 (n : Nat) (x0 : Nat) (x1 : Int32) : Nat → Int32 → q_Sto → Option (Int32 × q_Sto)
  | 0, _, _ => none
  | j + 1, x3, s0 =>
    if x3 < 10 then (
    q_call (f_X5_through n x0 x1 x3 s0) fun r7 s6 =>
    q_call (f_X5_farFrom n x0 x1 s6) fun r9 s8 =>
    if r7 = r9 then (
    some (x3, s8))
    else (
    f_X5_nextFrom_L18 n x0 x1  j (x3 + 1) s8))
    else (
    some ((-1), s0))
set_option maxRecDepth 100000 in
set_option maxHeartbeats 4000000 in
def f_X5_nextFrom (n : Nat) (t : Nat) (a0 : Int32) (a1 : Int32) (s0 : q_Sto) : Option (Int32 × q_Sto) :=
  if a0 = a1 then (
  some ((-1), s0))
  else (
  q_call (f_X5_farFrom n t a0 s0) fun r3 s2 =>
  if r3 = (-1) then (
  some ((-1), s2))
  else (
  f_X5_nextFrom_L18 n t a0  n 0 s2))
set_option maxRecDepth 100000 in
set_option maxHeartbeats 4000000 in
theorem t_X5_nextFrom_L18 {w : q_Wd} {cx : q_Cx} (hc : q_ok w cx RX5 cX5_nextFrom 4 (some .int) (q_rm 2 42)) {n : Nat} {x0 : Nat} {x1 : Int32} (hx0 : q_KD x0 = .inl 5)   :
    ∀ (j : Nat) (x3 : Int32) (s0 : q_Sto), q_G w cx 4 (some .int) 18 [some (q_rf w x0), some (.int x1), none, some (.int x3)] [] s0 (f_X5_nextFrom_L18 n x0 x1  j x3 s0) := by
  intro j
  induction j with
  | zero =>
    intro _ _
    rw [f_X5_nextFrom_L18]
    exact q_none
  | succ j ih =>
    intro x3 s0
    rw [f_X5_nextFrom_L18]
    refine g_il3 hc dX5_nextFrom_18 rfl (pc2 := 19) rfl ?_
    refine g_bipush hc dX5_nextFrom_19 bp_10 (pc2 := 21) rfl ?_
    refine g_icmp_ge hc dX5_nextFrom_21 (pc1 := 24) (pc2 := 46) rfl rfl (fun _ => ?_) (fun _ => ?_)
    · refine g_rl0 hc dX5_nextFrom_24 rfl (pc2 := 25) rfl ?_
      refine g_il1 hc dX5_nextFrom_25 rfl (pc2 := 26) rfl ?_
      refine g_il3 hc dX5_nextFrom_26 rfl (pc2 := 27) rfl ?_
      refine g_callV2 hc (C_X5_through hx0) mv_X5_through ln_X5_48 hx0 ⟨by decide, by decide⟩ (Nat.le_of_ble_eq_true rfl) dX5_nextFrom_27 (pc2 := 30) rfl (fun r7 s6 => ?_)
      refine g_rl0 hc dX5_nextFrom_30 rfl (pc2 := 31) rfl ?_
      refine g_il1 hc dX5_nextFrom_31 rfl (pc2 := 32) rfl ?_
      refine g_callV1 hc (C_X5_farFrom hx0) mv_X5_farFrom ln_X5_51 hx0 ⟨by decide, by decide⟩ (Nat.le_of_ble_eq_true rfl) dX5_nextFrom_32 (pc2 := 35) rfl (fun r9 s8 => ?_)
      refine g_icmp_ne hc dX5_nextFrom_35 (pc1 := 38) (pc2 := 40) rfl rfl (fun _ => ?_) (fun _ => ?_)
      · refine g_il3 hc dX5_nextFrom_38 rfl (pc2 := 39) rfl ?_
        exact g_iret hc dX5_nextFrom_39
      · refine g_iinc hc dX5_nextFrom_40 rfl (q_ii ic_1) (by decide) (L2 := [some (q_rf w x0), some (.int x1), none, some (.int (x3 + 1))]) rfl (pc2 := 43) rfl ?_
        refine g_goto hc dX5_nextFrom_43 (pc2 := 18) rfl ?_
        exact ih _ _
    · refine g_iconst hc dX5_nextFrom_46 ic_m1 (pc2 := 47) rfl ?_
      exact g_iret hc dX5_nextFrom_47
set_option maxRecDepth 100000 in
set_option maxHeartbeats 4000000 in
theorem C_X5_nextFrom {l : Launch} {w : q_Wd} {n : Nat} {t : Nat} {a0 : Int32} {a1 : Int32} (ht : q_KD t = .inl 5) {s0 : q_Sto} : q_C l w yX5_nextFrom cX5_nextFrom 4 (some .int) (q_rm 2 42) [q_rf w t, .int a0, .int a1] s0 (f_X5_nextFrom n t a0 a1 s0) := q_CofG [some (q_rf w t), some (.int a0), some (.int a1), none] (by decide +kernel) rfl rfl (Nat.le_of_ble_eq_true rfl) fun cx hl hc => by
  have hc : q_ok w cx RX5 cX5_nextFrom 4 (some .int) (q_rm 2 42) := hc
  rw [f_X5_nextFrom]
  refine g_il1 hc dX5_nextFrom_0 rfl (pc2 := 1) rfl ?_
  refine g_il2 hc dX5_nextFrom_1 rfl (pc2 := 2) rfl ?_
  refine g_icmp_eq hc dX5_nextFrom_2 (pc1 := 14) (pc2 := 5) rfl rfl (fun _ => ?_) (fun _ => ?_)
  · refine g_iconst hc dX5_nextFrom_14 ic_m1 (pc2 := 15) rfl ?_
    exact g_iret hc dX5_nextFrom_15
  · refine g_rl0 hc dX5_nextFrom_5 rfl (pc2 := 6) rfl ?_
    refine g_il1 hc dX5_nextFrom_6 rfl (pc2 := 7) rfl ?_
    refine g_callV1 hc (C_X5_farFrom ht) mv_X5_farFrom ln_X5_51 ht ⟨by decide, by decide⟩ (Nat.le_of_ble_eq_true rfl) dX5_nextFrom_7 (pc2 := 10) rfl (fun r3 s2 => ?_)
    refine g_iconst hc dX5_nextFrom_10 ic_m1 (pc2 := 11) rfl ?_
    refine g_icmp_ne hc dX5_nextFrom_11 (pc1 := 14) (pc2 := 16) rfl rfl (fun _ => ?_) (fun _ => ?_)
    · refine g_iconst hc dX5_nextFrom_14 ic_m1 (pc2 := 15) rfl ?_
      exact g_iret hc dX5_nextFrom_15
    · refine g_iconst hc dX5_nextFrom_16 ic_0 (pc2 := 17) rfl ?_
      refine g_is3 hc dX5_nextFrom_17 (by decide) (L2 := [some (q_rf w t), some (.int a0), some (.int a1), some (.int 0)]) rfl (pc2 := 18) rfl ?_
      refine q_Gmask [true, true, false, true] (L2 := [some (q_rf w t), some (.int a0), none, some (.int 0)]) rfl ?_
      refine t_X5_nextFrom_L18 hc ht  n _ _
set_option maxRecDepth 100000 in
set_option maxHeartbeats 4000000 in
def f_X5_firstLineFrom_L2 (n : Nat) (x0 : Nat) (x1 : Int32) : Nat → Int32 → q_Sto → Option (Int32 × q_Sto)
  | 0, _, _ => none
  | j + 1, x2, s0 =>
    if x2 < (s0 x0 2) then (
    q_call (f_X6_cell n x0 x2 0 s0) fun r3 s2 =>
    if r3 = x1 then (
    some (x2, s2))
    else (
    f_X5_firstLineFrom_L2 n x0 x1  j (x2 + 1) s2))
    else (
    some ((-1), s0))
set_option maxRecDepth 100000 in
set_option maxHeartbeats 4000000 in
def f_X5_firstLineFrom (n : Nat) (a0 : Nat) (a1 : Int32) (s0 : q_Sto) : Option (Int32 × q_Sto) :=
  f_X5_firstLineFrom_L2 n a0 a1  n 0 s0
set_option maxRecDepth 100000 in
set_option maxHeartbeats 4000000 in
theorem t_X5_firstLineFrom_L2 {w : q_Wd} {cx : q_Cx} (hc : q_ok w cx RX5 cX5_firstLineFrom 3 (some .int) (q_rm 1 22)) {n : Nat} {x0 : Nat} {x1 : Int32} (hx0 : q_KD x0 = .inl 6)   :
    ∀ (j : Nat) (x2 : Int32) (s0 : q_Sto), q_G w cx 3 (some .int) 2 [some (q_rf w x0), some (.int x1), some (.int x2)] [] s0 (f_X5_firstLineFrom_L2 n x0 x1  j x2 s0) := by
  intro j
  induction j with
  | zero =>
    intro _ _
    rw [f_X5_firstLineFrom_L2]
    exact q_none
  | succ j ih =>
    intro x2 s0
    rw [f_X5_firstLineFrom_L2]
    refine g_il2 hc dX5_firstLineFrom_2 rfl (pc2 := 3) rfl ?_
    refine g_rl0 hc dX5_firstLineFrom_3 rfl (pc2 := 4) rfl ?_
    refine g_getI hc fl_X5_30 rfl hx0 dX5_firstLineFrom_4 (pc2 := 7) rfl ?_
    refine g_icmp_ge hc dX5_firstLineFrom_7 (pc1 := 10) (pc2 := 28) rfl rfl (fun _ => ?_) (fun _ => ?_)
    · refine g_rl0 hc dX5_firstLineFrom_10 rfl (pc2 := 11) rfl ?_
      refine g_il2 hc dX5_firstLineFrom_11 rfl (pc2 := 12) rfl ?_
      refine g_iconst hc dX5_firstLineFrom_12 ic_0 (pc2 := 13) rfl ?_
      refine g_callV2 hc (C_X6_cell hx0) mv_X6_cell ln_X5_36 hx0 ⟨by decide, by decide⟩ (Nat.le_of_ble_eq_true rfl) dX5_firstLineFrom_13 (pc2 := 16) rfl (fun r3 s2 => ?_)
      refine g_il1 hc dX5_firstLineFrom_16 rfl (pc2 := 17) rfl ?_
      refine g_icmp_ne hc dX5_firstLineFrom_17 (pc1 := 20) (pc2 := 22) rfl rfl (fun _ => ?_) (fun _ => ?_)
      · refine g_il2 hc dX5_firstLineFrom_20 rfl (pc2 := 21) rfl ?_
        exact g_iret hc dX5_firstLineFrom_21
      · refine g_iinc hc dX5_firstLineFrom_22 rfl (q_ii ic_1) (by decide) (L2 := [some (q_rf w x0), some (.int x1), some (.int (x2 + 1))]) rfl (pc2 := 25) rfl ?_
        refine g_goto hc dX5_firstLineFrom_25 (pc2 := 2) rfl ?_
        exact ih _ _
    · refine g_iconst hc dX5_firstLineFrom_28 ic_m1 (pc2 := 29) rfl ?_
      exact g_iret hc dX5_firstLineFrom_29
set_option maxRecDepth 100000 in
set_option maxHeartbeats 4000000 in
theorem C_X5_firstLineFrom {l : Launch} {w : q_Wd} {n : Nat} {a0 : Nat} {a1 : Int32} (ha0 : q_KD a0 = .inl 6) {s0 : q_Sto} : q_C l w yX5_firstLineFrom cX5_firstLineFrom 3 (some .int) (q_rm 1 22) [q_rf w a0, .int a1] s0 (f_X5_firstLineFrom n a0 a1 s0) := q_CofG [some (q_rf w a0), some (.int a1), none] (by decide +kernel) rfl rfl (Nat.le_of_ble_eq_true rfl) fun cx hl hc => by
  have hc : q_ok w cx RX5 cX5_firstLineFrom 3 (some .int) (q_rm 1 22) := hc
  rw [f_X5_firstLineFrom]
  refine g_iconst hc dX5_firstLineFrom_0 ic_0 (pc2 := 1) rfl ?_
  refine g_is2 hc dX5_firstLineFrom_1 (by decide) (L2 := [some (q_rf w a0), some (.int a1), some (.int 0)]) rfl (pc2 := 2) rfl ?_
  refine t_X5_firstLineFrom_L2 hc ha0  n _ _
set_option maxRecDepth 100000 in
set_option maxHeartbeats 4000000 in
def f_X5_meeting_L21 (n : Nat) (x4 : Nat) : Nat → Int32 → Int32 → Int32 → Int32 → Int32 → q_Sto → Option (Int32 × q_Sto)
  | 0, _, _, _, _, _, _ => none
  | j + 1, x5, x6, x7, x8, x9, s0 =>
    if x9 ≤ 99 then (
    q_jn (fun  (s2 : q_Sto) =>
      q_jn (fun (y3 : Int32) (s4 : q_Sto) =>
        q_jn (fun (y5 : Int32) (y6 : Int32) (s7 : q_Sto) =>
          q_jn (fun (y8 : Int32) (s9 : q_Sto) =>
            q_jn (fun (y10 : Int32) (y11 : Int32) (s12 : q_Sto) =>
              q_nm (q_mx 0 (y6 - 1)) fun v13 =>
              q_nm (q_mx 0 (y11 - 1)) fun v14 =>
              f_X5_meeting_L21 n x4  j y5 y10 v13 v14 (x9 + 1) s12) fun j136 =>
            if y8 = (-1) then (
            j136 x6 x8 s9)
            else (
            q_call (f_X6_cell n x4 y8 1 s9) fun r17 s16 =>
            q_call (f_X6_cell n x4 y8 2 s16) fun r19 s18 =>
            j136 r17 r19 s18)) fun j108 =>
          if x8 = 0 then (
          q_call (f_X5_firstLineFrom n x4 x6 s7) fun r22 s21 =>
          j108 r22 s21)
          else (
          j108 (-1) s7)) fun j92 =>
        if y3 = (-1) then (
        j92 x5 x7 s4)
        else (
        q_call (f_X6_cell n x4 y3 1 s4) fun r25 s24 =>
        q_call (f_X6_cell n x4 y3 2 s24) fun r27 s26 =>
        j92 r25 r27 s26)) fun j64 =>
      if x7 = 0 then (
      q_call (f_X5_firstLineFrom n x4 x5 s2) fun r30 s29 =>
      j64 r30 s29)
      else (
      j64 (-1) s2)) fun j48 =>
    if x7 = 0 then (
    if x8 = 0 then (
    if x5 = x6 then (
    some (x9, s0))
    else (
    j48 s0))
    else (
    j48 s0))
    else (
    j48 s0))
    else (
    some ((-1), s0))
set_option maxRecDepth 100000 in
set_option maxHeartbeats 4000000 in
def f_X5_meeting (n : Nat) (t : Nat) (a0 : Nat) (a1 : Int32) (a2 : Int32) (s0 : q_Sto) : Option (Int32 × q_Sto) :=
  f_X5_meeting_L21 n (q_RF a0 4)  n a1 a2 0 0 0 s0
set_option maxRecDepth 100000 in
set_option maxHeartbeats 4000000 in
theorem t_X5_meeting_L21 {w : q_Wd} {cx : q_Cx} (hc : q_ok w cx RX5 cX5_meeting 12 (some .int) (q_rm 2 44)) {n : Nat} {x4 : Nat} (hx4 : q_KD x4 = .inl 6)   :
    ∀ (j : Nat) (x5 : Int32) (x6 : Int32) (x7 : Int32) (x8 : Int32) (x9 : Int32) (s0 : q_Sto), q_G w cx 12 (some .int) 21 [none, none, none, none, some (q_rf w x4), some (.int x5), some (.int x6), some (.int x7), some (.int x8), some (.int x9), none, none] [] s0 (f_X5_meeting_L21 n x4  j x5 x6 x7 x8 x9 s0) := by
  intro j
  induction j with
  | zero =>
    intro _ _ _ _ _ _
    rw [f_X5_meeting_L21]
    exact q_none
  | succ j ih =>
    intro x5 x6 x7 x8 x9 s0
    rw [f_X5_meeting_L21]
    refine g_iload hc dX5_meeting_21 rfl (pc2 := 23) rfl ?_
    refine g_bipush hc dX5_meeting_23 bp_99 (pc2 := 25) rfl ?_
    refine g_icmp_gt hc dX5_meeting_25 (pc1 := 28) (pc2 := 162) rfl rfl (fun _ => ?_) (fun _ => ?_)
    · refine g_iload hc dX5_meeting_28 rfl (pc2 := 30) rfl ?_
      refine g_jn (P := fun j48 => ∀  (s2 : q_Sto), q_G w cx 12 (some .int) 48 [none, none, none, none, some (q_rf w x4), some (.int x5), some (.int x6), some (.int x7), some (.int x8), some (.int x9), none, none] [] s2 (j48 s2)) (fun s2 => ?_) (fun j48 hj48 => ?_)
      · refine g_iload hc dX5_meeting_48 rfl (pc2 := 50) rfl ?_
        refine g_jn (P := fun j64 => ∀ (y3 : Int32) (s4 : q_Sto), q_G w cx 12 (some .int) 64 [none, none, none, none, some (q_rf w x4), some (.int x5), some (.int x6), some (.int x7), some (.int x8), some (.int x9), none, none] [.int y3] s4 (j64 y3 s4)) (fun y3 s4 => ?_) (fun j64 hj64 => ?_)
        · refine g_istore hc dX5_meeting_64 (by decide) (L2 := [none, none, none, none, some (q_rf w x4), some (.int x5), some (.int x6), some (.int x7), some (.int x8), some (.int x9), some (.int y3), none]) rfl (pc2 := 66) rfl ?_
          refine g_iload hc dX5_meeting_66 rfl (pc2 := 68) rfl ?_
          refine g_iconst hc dX5_meeting_68 ic_m1 (pc2 := 69) rfl ?_
          refine g_jn (P := fun j92 => ∀ (y5 : Int32) (y6 : Int32) (s7 : q_Sto), q_G w cx 12 (some .int) 92 [none, none, none, none, some (q_rf w x4), some (.int y5), some (.int x6), some (.int y6), some (.int x8), some (.int x9), none, none] [] s7 (j92 y5 y6 s7)) (fun y5 y6 s7 => ?_) (fun j92 hj92 => ?_)
          · refine g_iload hc dX5_meeting_92 rfl (pc2 := 94) rfl ?_
            refine g_jn (P := fun j108 => ∀ (y8 : Int32) (s9 : q_Sto), q_G w cx 12 (some .int) 108 [none, none, none, none, some (q_rf w x4), some (.int y5), some (.int x6), some (.int y6), some (.int x8), some (.int x9), none, none] [.int y8] s9 (j108 y8 s9)) (fun y8 s9 => ?_) (fun j108 hj108 => ?_)
            · refine g_istore hc dX5_meeting_108 (by decide) (L2 := [none, none, none, none, some (q_rf w x4), some (.int y5), some (.int x6), some (.int y6), some (.int x8), some (.int x9), none, some (.int y8)]) rfl (pc2 := 110) rfl ?_
              refine g_iload hc dX5_meeting_110 rfl (pc2 := 112) rfl ?_
              refine g_iconst hc dX5_meeting_112 ic_m1 (pc2 := 113) rfl ?_
              refine g_jn (P := fun j136 => ∀ (y10 : Int32) (y11 : Int32) (s12 : q_Sto), q_G w cx 12 (some .int) 136 [none, none, none, none, some (q_rf w x4), some (.int y5), some (.int y10), some (.int y6), some (.int y11), some (.int x9), none, none] [] s12 (j136 y10 y11 s12)) (fun y10 y11 s12 => ?_) (fun j136 hj136 => ?_)
              · refine g_iconst hc dX5_meeting_136 ic_0 (pc2 := 137) rfl ?_
                refine g_iload hc dX5_meeting_137 rfl (pc2 := 139) rfl ?_
                refine g_iconst hc dX5_meeting_139 ic_1 (pc2 := 140) rfl ?_
                refine g_isub hc dX5_meeting_140 (pc2 := 141) rfl ?_
                refine g_max hc ln_X5_58 ⟨by decide, by decide⟩ (Nat.le_of_ble_eq_true rfl) dX5_meeting_141 (pc2 := 144) rfl ?_
                refine g_nm (fun v13 => ?_)
                refine g_istore hc dX5_meeting_144 (by decide) (L2 := [none, none, none, none, some (q_rf w x4), some (.int y5), some (.int y10), some (.int v13), some (.int y11), some (.int x9), none, none]) rfl (pc2 := 146) rfl ?_
                refine g_iconst hc dX5_meeting_146 ic_0 (pc2 := 147) rfl ?_
                refine g_iload hc dX5_meeting_147 rfl (pc2 := 149) rfl ?_
                refine g_iconst hc dX5_meeting_149 ic_1 (pc2 := 150) rfl ?_
                refine g_isub hc dX5_meeting_150 (pc2 := 151) rfl ?_
                refine g_max hc ln_X5_58 ⟨by decide, by decide⟩ (Nat.le_of_ble_eq_true rfl) dX5_meeting_151 (pc2 := 154) rfl ?_
                refine g_nm (fun v14 => ?_)
                refine g_istore hc dX5_meeting_154 (by decide) (L2 := [none, none, none, none, some (q_rf w x4), some (.int y5), some (.int y10), some (.int v13), some (.int v14), some (.int x9), none, none]) rfl (pc2 := 156) rfl ?_
                refine g_iinc hc dX5_meeting_156 rfl (q_ii ic_1) (by decide) (L2 := [none, none, none, none, some (q_rf w x4), some (.int y5), some (.int y10), some (.int v13), some (.int v14), some (.int (x9 + 1)), none, none]) rfl (pc2 := 159) rfl ?_
                refine g_goto hc dX5_meeting_159 (pc2 := 21) rfl ?_
                exact ih _ _ _ _ _ _
              · refine g_icmp_eq hc dX5_meeting_113 (pc1 := 136) (pc2 := 116) rfl rfl (fun _ => ?_) (fun _ => ?_)
                · refine q_Gmask [true, true, true, true, true, true, true, true, true, true, true, false] (L2 := [none, none, none, none, some (q_rf w x4), some (.int y5), some (.int x6), some (.int y6), some (.int x8), some (.int x9), none, none]) rfl ?_
                  exact hj136 _ _ _
                · refine g_rl hc dX5_meeting_116 rfl (pc2 := 118) rfl ?_
                  refine g_iload hc dX5_meeting_118 rfl (pc2 := 120) rfl ?_
                  refine g_iconst hc dX5_meeting_120 ic_1 (pc2 := 121) rfl ?_
                  refine g_callV2 hc (C_X6_cell hx4) mv_X6_cell ln_X5_36 hx4 ⟨by decide, by decide⟩ (Nat.le_of_ble_eq_true rfl) dX5_meeting_121 (pc2 := 124) rfl (fun r17 s16 => ?_)
                  refine g_istore hc dX5_meeting_124 (by decide) (L2 := [none, none, none, none, some (q_rf w x4), some (.int y5), some (.int r17), some (.int y6), some (.int x8), some (.int x9), none, some (.int y8)]) rfl (pc2 := 126) rfl ?_
                  refine g_rl hc dX5_meeting_126 rfl (pc2 := 128) rfl ?_
                  refine g_iload hc dX5_meeting_128 rfl (pc2 := 130) rfl ?_
                  refine g_iconst hc dX5_meeting_130 ic_2 (pc2 := 131) rfl ?_
                  refine g_callV2 hc (C_X6_cell hx4) mv_X6_cell ln_X5_36 hx4 ⟨by decide, by decide⟩ (Nat.le_of_ble_eq_true rfl) dX5_meeting_131 (pc2 := 134) rfl (fun r19 s18 => ?_)
                  refine g_istore hc dX5_meeting_134 (by decide) (L2 := [none, none, none, none, some (q_rf w x4), some (.int y5), some (.int r17), some (.int y6), some (.int r19), some (.int x9), none, some (.int y8)]) rfl (pc2 := 136) rfl ?_
                  refine q_Gmask [true, true, true, true, true, true, true, true, true, true, true, false] (L2 := [none, none, none, none, some (q_rf w x4), some (.int y5), some (.int r17), some (.int y6), some (.int r19), some (.int x9), none, none]) rfl ?_
                  exact hj136 _ _ _
            · refine g_if_ne hc dX5_meeting_94 (pc1 := 97) (pc2 := 107) rfl rfl (fun _ => ?_) (fun _ => ?_)
              · refine g_rl hc dX5_meeting_97 rfl (pc2 := 99) rfl ?_
                refine g_iload hc dX5_meeting_99 rfl (pc2 := 101) rfl ?_
                refine g_callS2 hc (C_X5_firstLineFrom hx4) mv_X5_firstLineFrom ln_X5_54 ⟨by decide, by decide⟩ (Nat.le_of_ble_eq_true rfl) dX5_meeting_101 (pc2 := 104) rfl (fun r22 s21 => ?_)
                refine g_goto hc dX5_meeting_104 (pc2 := 108) rfl ?_
                exact hj108 _ _
              · refine g_iconst hc dX5_meeting_107 ic_m1 (pc2 := 108) rfl ?_
                exact hj108 _ _
          · refine g_icmp_eq hc dX5_meeting_69 (pc1 := 92) (pc2 := 72) rfl rfl (fun _ => ?_) (fun _ => ?_)
            · refine q_Gmask [true, true, true, true, true, true, true, true, true, true, false, true] (L2 := [none, none, none, none, some (q_rf w x4), some (.int x5), some (.int x6), some (.int x7), some (.int x8), some (.int x9), none, none]) rfl ?_
              exact hj92 _ _ _
            · refine g_rl hc dX5_meeting_72 rfl (pc2 := 74) rfl ?_
              refine g_iload hc dX5_meeting_74 rfl (pc2 := 76) rfl ?_
              refine g_iconst hc dX5_meeting_76 ic_1 (pc2 := 77) rfl ?_
              refine g_callV2 hc (C_X6_cell hx4) mv_X6_cell ln_X5_36 hx4 ⟨by decide, by decide⟩ (Nat.le_of_ble_eq_true rfl) dX5_meeting_77 (pc2 := 80) rfl (fun r25 s24 => ?_)
              refine g_istore hc dX5_meeting_80 (by decide) (L2 := [none, none, none, none, some (q_rf w x4), some (.int r25), some (.int x6), some (.int x7), some (.int x8), some (.int x9), some (.int y3), none]) rfl (pc2 := 82) rfl ?_
              refine g_rl hc dX5_meeting_82 rfl (pc2 := 84) rfl ?_
              refine g_iload hc dX5_meeting_84 rfl (pc2 := 86) rfl ?_
              refine g_iconst hc dX5_meeting_86 ic_2 (pc2 := 87) rfl ?_
              refine g_callV2 hc (C_X6_cell hx4) mv_X6_cell ln_X5_36 hx4 ⟨by decide, by decide⟩ (Nat.le_of_ble_eq_true rfl) dX5_meeting_87 (pc2 := 90) rfl (fun r27 s26 => ?_)
              refine g_istore hc dX5_meeting_90 (by decide) (L2 := [none, none, none, none, some (q_rf w x4), some (.int r25), some (.int x6), some (.int r27), some (.int x8), some (.int x9), some (.int y3), none]) rfl (pc2 := 92) rfl ?_
              refine q_Gmask [true, true, true, true, true, true, true, true, true, true, false, true] (L2 := [none, none, none, none, some (q_rf w x4), some (.int r25), some (.int x6), some (.int r27), some (.int x8), some (.int x9), none, none]) rfl ?_
              exact hj92 _ _ _
        · refine g_if_ne hc dX5_meeting_50 (pc1 := 53) (pc2 := 63) rfl rfl (fun _ => ?_) (fun _ => ?_)
          · refine g_rl hc dX5_meeting_53 rfl (pc2 := 55) rfl ?_
            refine g_iload hc dX5_meeting_55 rfl (pc2 := 57) rfl ?_
            refine g_callS2 hc (C_X5_firstLineFrom hx4) mv_X5_firstLineFrom ln_X5_54 ⟨by decide, by decide⟩ (Nat.le_of_ble_eq_true rfl) dX5_meeting_57 (pc2 := 60) rfl (fun r30 s29 => ?_)
            refine g_goto hc dX5_meeting_60 (pc2 := 64) rfl ?_
            exact hj64 _ _
          · refine g_iconst hc dX5_meeting_63 ic_m1 (pc2 := 64) rfl ?_
            exact hj64 _ _
      · refine g_if_ne hc dX5_meeting_30 (pc1 := 33) (pc2 := 48) rfl rfl (fun _ => ?_) (fun _ => ?_)
        · refine g_iload hc dX5_meeting_33 rfl (pc2 := 35) rfl ?_
          refine g_if_ne hc dX5_meeting_35 (pc1 := 38) (pc2 := 48) rfl rfl (fun _ => ?_) (fun _ => ?_)
          · refine g_iload hc dX5_meeting_38 rfl (pc2 := 40) rfl ?_
            refine g_iload hc dX5_meeting_40 rfl (pc2 := 42) rfl ?_
            refine g_icmp_ne hc dX5_meeting_42 (pc1 := 45) (pc2 := 48) rfl rfl (fun _ => ?_) (fun _ => ?_)
            · refine g_iload hc dX5_meeting_45 rfl (pc2 := 47) rfl ?_
              exact g_iret hc dX5_meeting_47
            · exact hj48 _
          · exact hj48 _
        · exact hj48 _
    · refine g_iconst hc dX5_meeting_162 ic_m1 (pc2 := 163) rfl ?_
      exact g_iret hc dX5_meeting_163
set_option maxRecDepth 100000 in
set_option maxHeartbeats 4000000 in
theorem C_X5_meeting {l : Launch} {w : q_Wd} {n : Nat} {t : Nat} {a0 : Nat} {a1 : Int32} {a2 : Int32} (ht : q_KD t = .inl 5) (ha0 : q_KD a0 = .inl 10) {s0 : q_Sto} : q_C l w yX5_meeting cX5_meeting 12 (some .int) (q_rm 2 44) [q_rf w t, q_rf w a0, .int a1, .int a2] s0 (f_X5_meeting n t a0 a1 a2 s0) := q_CofG [some (q_rf w t), some (q_rf w a0), some (.int a1), some (.int a2), none, none, none, none, none, none, none, none] (by decide +kernel) rfl rfl (Nat.le_of_ble_eq_true rfl) fun cx hl hc => by
  have hc : q_ok w cx RX5 cX5_meeting 12 (some .int) (q_rm 2 44) := hc
  rw [f_X5_meeting]
  refine g_rl1 hc dX5_meeting_0 rfl (pc2 := 1) rfl ?_
  refine g_getR hc fl_X5_24 rfl ha0 dX5_meeting_1 (pc2 := 4) rfl ?_
  refine g_rs hc dX5_meeting_4 (by decide) (L2 := [some (q_rf w t), some (q_rf w a0), some (.int a1), some (.int a2), some (q_rf w (q_RF a0 4)), none, none, none, none, none, none, none]) rfl (pc2 := 6) rfl ?_
  refine g_il2 hc dX5_meeting_6 rfl (pc2 := 7) rfl ?_
  refine g_istore hc dX5_meeting_7 (by decide) (L2 := [some (q_rf w t), some (q_rf w a0), some (.int a1), some (.int a2), some (q_rf w (q_RF a0 4)), some (.int a1), none, none, none, none, none, none]) rfl (pc2 := 9) rfl ?_
  refine g_il3 hc dX5_meeting_9 rfl (pc2 := 10) rfl ?_
  refine g_istore hc dX5_meeting_10 (by decide) (L2 := [some (q_rf w t), some (q_rf w a0), some (.int a1), some (.int a2), some (q_rf w (q_RF a0 4)), some (.int a1), some (.int a2), none, none, none, none, none]) rfl (pc2 := 12) rfl ?_
  refine g_iconst hc dX5_meeting_12 ic_0 (pc2 := 13) rfl ?_
  refine g_istore hc dX5_meeting_13 (by decide) (L2 := [some (q_rf w t), some (q_rf w a0), some (.int a1), some (.int a2), some (q_rf w (q_RF a0 4)), some (.int a1), some (.int a2), some (.int 0), none, none, none, none]) rfl (pc2 := 15) rfl ?_
  refine g_iconst hc dX5_meeting_15 ic_0 (pc2 := 16) rfl ?_
  refine g_istore hc dX5_meeting_16 (by decide) (L2 := [some (q_rf w t), some (q_rf w a0), some (.int a1), some (.int a2), some (q_rf w (q_RF a0 4)), some (.int a1), some (.int a2), some (.int 0), some (.int 0), none, none, none]) rfl (pc2 := 18) rfl ?_
  refine g_iconst hc dX5_meeting_18 ic_0 (pc2 := 19) rfl ?_
  refine g_istore hc dX5_meeting_19 (by decide) (L2 := [some (q_rf w t), some (q_rf w a0), some (.int a1), some (.int a2), some (q_rf w (q_RF a0 4)), some (.int a1), some (.int a2), some (.int 0), some (.int 0), some (.int 0), none, none]) rfl (pc2 := 21) rfl ?_
  refine q_Gmask [false, false, false, false, true, true, true, true, true, true, true, true] (L2 := [none, none, none, none, some (q_rf w (q_RF a0 4)), some (.int a1), some (.int a2), some (.int 0), some (.int 0), some (.int 0), none, none]) rfl ?_
  refine t_X5_meeting_L21 hc (kf_10_4 ha0)  n _ _ _ _ _ _
set_option maxRecDepth 100000 in
set_option maxHeartbeats 4000000 in
def f_X6_clear (n : Nat) (t : Nat) (s0 : q_Sto) : Option (Int32 × q_Sto) :=
  q_nS1 (q_up s0 t 2 0) fun s1 =>
  some (0, s1)
set_option maxRecDepth 100000 in
set_option maxHeartbeats 4000000 in
theorem C_X6_clear {l : Launch} {w : q_Wd} {n : Nat} {t : Nat} (ht : q_KD t = .inl 6) {s0 : q_Sto} : q_C l w yX6_clear cX6_clear 1 (none) (q_rm 0 0) [q_rf w t] s0 (f_X6_clear n t s0) := q_CofG [some (q_rf w t)] (by decide +kernel) rfl rfl (Nat.le_of_ble_eq_true rfl) fun cx hl hc => by
  have hc : q_ok w cx RX6 cX6_clear 1 (none) (q_rm 0 0) := hc
  rw [f_X6_clear]
  refine g_rl0 hc dX6_clear_0 rfl (pc2 := 1) rfl ?_
  refine g_iconst hc dX6_clear_1 ic_0 (pc2 := 2) rfl ?_
  refine g_putI hc fl_X6_15 rfl ht dX6_clear_2 (pc2 := 5) rfl (fun s1 => ?_)
  exact g_vret hc dX6_clear_5
set_option maxRecDepth 100000 in
set_option maxHeartbeats 4000000 in
def f_X6_isFull (n : Nat) (t : Nat) (s0 : q_Sto) : Option (Int32 × q_Sto) :=
  if (s0 t 2) < (s0 t 1) then (
  some (0, s0))
  else (
  some (1, s0))
set_option maxRecDepth 100000 in
set_option maxHeartbeats 4000000 in
theorem C_X6_isFull {l : Launch} {w : q_Wd} {n : Nat} {t : Nat} (ht : q_KD t = .inl 6) {s0 : q_Sto} : q_C l w yX6_isFull cX6_isFull 1 (some .boolean) (q_rm 0 0) [q_rf w t] s0 (f_X6_isFull n t s0) := q_CofG [some (q_rf w t)] (by decide +kernel) rfl rfl (Nat.le_of_ble_eq_true rfl) fun cx hl hc => by
  have hc : q_ok w cx RX6 cX6_isFull 1 (some .boolean) (q_rm 0 0) := hc
  rw [f_X6_isFull]
  refine g_rl0 hc dX6_isFull_0 rfl (pc2 := 1) rfl ?_
  refine g_getI hc fl_X6_15 rfl ht dX6_isFull_1 (pc2 := 4) rfl ?_
  refine g_rl0 hc dX6_isFull_4 rfl (pc2 := 5) rfl ?_
  refine g_getI hc fl_X6_28 rfl ht dX6_isFull_5 (pc2 := 8) rfl ?_
  refine g_icmp_lt hc dX6_isFull_8 (pc1 := 15) (pc2 := 11) rfl rfl (fun _ => ?_) (fun _ => ?_)
  · refine g_iconst hc dX6_isFull_15 ic_0 (pc2 := 16) rfl ?_
    exact g_zret0 (by decide) hc dX6_isFull_16
  · refine g_iconst hc dX6_isFull_11 ic_1 (pc2 := 12) rfl ?_
    refine g_goto hc dX6_isFull_12 (pc2 := 16) rfl ?_
    exact g_zret0 (by decide) hc dX6_isFull_16
set_option maxRecDepth 100000 in
set_option maxHeartbeats 4000000 in
def f_X6_add (n : Nat) (t : Nat) (a0 : Int32) (a1 : Int32) (a2 : Int32) (a3 : Int32) (s0 : q_Sto) : Option (Int32 × q_Sto) :=
  if (s0 t 2) < 0 then (
  some (0, s0))
  else (
  if (s0 t 2) < (s0 t 1) then (
  q_nm ((s0 t 2) * 4) fun v3 =>
  q_st s0 (q_RF t 0) v3 64 a0 fun s4 =>
  q_st s4 (q_RF t 0) (v3 + 1) 64 a1 fun s5 =>
  q_st s5 (q_RF t 0) (v3 + 2) 64 a2 fun s6 =>
  q_st s6 (q_RF t 0) (v3 + 3) 64 a3 fun s7 =>
  q_nS1 (q_up s7 t 2 ((s7 t 2) + 1)) fun s8 =>
  some (0, s8))
  else (
  some (0, s0)))
set_option maxRecDepth 100000 in
set_option maxHeartbeats 4000000 in
theorem C_X6_add {l : Launch} {w : q_Wd} {n : Nat} {t : Nat} {a0 : Int32} {a1 : Int32} {a2 : Int32} {a3 : Int32} (ht : q_KD t = .inl 6) {s0 : q_Sto} : q_C l w yX6_add cX6_add 6 (none) (q_rm 0 0) [q_rf w t, .int a0, .int a1, .int a2, .int a3] s0 (f_X6_add n t a0 a1 a2 a3 s0) := q_CofG [some (q_rf w t), some (.int a0), some (.int a1), some (.int a2), some (.int a3), none] (by decide +kernel) rfl rfl (Nat.le_of_ble_eq_true rfl) fun cx hl hc => by
  have hc : q_ok w cx RX6 cX6_add 6 (none) (q_rm 0 0) := hc
  rw [f_X6_add]
  refine g_rl0 hc dX6_add_0 rfl (pc2 := 1) rfl ?_
  refine g_getI hc fl_X6_15 rfl ht dX6_add_1 (pc2 := 4) rfl ?_
  refine g_if_lt hc dX6_add_4 (pc1 := 75) (pc2 := 7) rfl rfl (fun _ => ?_) (fun _ => ?_)
  · exact g_vret hc dX6_add_75
  · refine g_rl0 hc dX6_add_7 rfl (pc2 := 8) rfl ?_
    refine g_getI hc fl_X6_15 rfl ht dX6_add_8 (pc2 := 11) rfl ?_
    refine g_rl0 hc dX6_add_11 rfl (pc2 := 12) rfl ?_
    refine g_getI hc fl_X6_28 rfl ht dX6_add_12 (pc2 := 15) rfl ?_
    refine g_icmp_ge hc dX6_add_15 (pc1 := 18) (pc2 := 75) rfl rfl (fun _ => ?_) (fun _ => ?_)
    · refine g_rl0 hc dX6_add_18 rfl (pc2 := 19) rfl ?_
      refine g_getI hc fl_X6_15 rfl ht dX6_add_19 (pc2 := 22) rfl ?_
      refine g_iconst hc dX6_add_22 ic_4 (pc2 := 23) rfl ?_
      refine g_imul hc dX6_add_23 (pc2 := 24) rfl ?_
      refine g_nm (fun v3 => ?_)
      refine g_istore hc dX6_add_24 (by decide) (L2 := [some (q_rf w t), some (.int a0), some (.int a1), some (.int a2), some (.int a3), some (.int v3)]) rfl (pc2 := 26) rfl ?_
      refine g_rl0 hc dX6_add_26 rfl (pc2 := 27) rfl ?_
      refine g_getR hc fl_X6_11 rfl ht dX6_add_27 (pc2 := 30) rfl ?_
      refine g_iload hc dX6_add_30 rfl (pc2 := 32) rfl ?_
      refine g_il1 hc dX6_add_32 rfl (pc2 := 33) rfl ?_
      refine g_iast hc (kf_6_0 ht) (kl_6_0 ht) dX6_add_33 (pc2 := 34) rfl (fun s4 => ?_)
      refine g_rl0 hc dX6_add_34 rfl (pc2 := 35) rfl ?_
      refine g_getR hc fl_X6_11 rfl ht dX6_add_35 (pc2 := 38) rfl ?_
      refine g_iload hc dX6_add_38 rfl (pc2 := 40) rfl ?_
      refine g_iconst hc dX6_add_40 ic_1 (pc2 := 41) rfl ?_
      refine g_iadd hc dX6_add_41 (pc2 := 42) rfl ?_
      refine g_il2 hc dX6_add_42 rfl (pc2 := 43) rfl ?_
      refine g_iast hc (kf_6_0 ht) (kl_6_0 ht) dX6_add_43 (pc2 := 44) rfl (fun s5 => ?_)
      refine g_rl0 hc dX6_add_44 rfl (pc2 := 45) rfl ?_
      refine g_getR hc fl_X6_11 rfl ht dX6_add_45 (pc2 := 48) rfl ?_
      refine g_iload hc dX6_add_48 rfl (pc2 := 50) rfl ?_
      refine g_iconst hc dX6_add_50 ic_2 (pc2 := 51) rfl ?_
      refine g_iadd hc dX6_add_51 (pc2 := 52) rfl ?_
      refine g_il3 hc dX6_add_52 rfl (pc2 := 53) rfl ?_
      refine g_iast hc (kf_6_0 ht) (kl_6_0 ht) dX6_add_53 (pc2 := 54) rfl (fun s6 => ?_)
      refine g_rl0 hc dX6_add_54 rfl (pc2 := 55) rfl ?_
      refine g_getR hc fl_X6_11 rfl ht dX6_add_55 (pc2 := 58) rfl ?_
      refine g_iload hc dX6_add_58 rfl (pc2 := 60) rfl ?_
      refine g_iconst hc dX6_add_60 ic_3 (pc2 := 61) rfl ?_
      refine g_iadd hc dX6_add_61 (pc2 := 62) rfl ?_
      refine g_iload hc dX6_add_62 rfl (pc2 := 64) rfl ?_
      refine g_iast hc (kf_6_0 ht) (kl_6_0 ht) dX6_add_64 (pc2 := 65) rfl (fun s7 => ?_)
      refine g_rl0 hc dX6_add_65 rfl (pc2 := 66) rfl ?_
      refine g_dup hc dX6_add_66 rfl (pc2 := 67) rfl ?_
      refine g_getI hc fl_X6_15 rfl ht dX6_add_67 (pc2 := 70) rfl ?_
      refine g_iconst hc dX6_add_70 ic_1 (pc2 := 71) rfl ?_
      refine g_iadd hc dX6_add_71 (pc2 := 72) rfl ?_
      refine g_putI hc fl_X6_15 rfl ht dX6_add_72 (pc2 := 75) rfl (fun s8 => ?_)
      exact g_vret hc dX6_add_75
    · exact g_vret hc dX6_add_75
set_option maxRecDepth 100000 in
set_option maxHeartbeats 4000000 in
def f_X6_copyFrom (n : Nat) (t : Nat) (a0 : Nat) (s0 : q_Sto) : Option (Int32 × q_Sto) :=
  q_callv (f_X11_copyRow n (q_RF a0 0) 64 (q_RF t 0) 64 s0) fun s1 =>
  q_nS1 (q_up s1 t 2 (q_mn (s1 a0 2) (s1 t 1))) fun s3 =>
  some (0, s3)
set_option maxRecDepth 100000 in
set_option maxHeartbeats 4000000 in
theorem C_X6_copyFrom {l : Launch} {w : q_Wd} {n : Nat} {t : Nat} {a0 : Nat} (ht : q_KD t = .inl 6) (ha0 : q_KD a0 = .inl 6) {s0 : q_Sto} : q_C l w yX6_copyFrom cX6_copyFrom 2 (none) (q_rm 2 101) [q_rf w t, q_rf w a0] s0 (f_X6_copyFrom n t a0 s0) := q_CofG [some (q_rf w t), some (q_rf w a0)] (by decide +kernel) rfl rfl (Nat.le_of_ble_eq_true rfl) fun cx hl hc => by
  have hc : q_ok w cx RX6 cX6_copyFrom 2 (none) (q_rm 2 101) := hc
  rw [f_X6_copyFrom]
  refine g_rl1 hc dX6_copyFrom_0 rfl (pc2 := 1) rfl ?_
  refine g_getR hc fl_X6_11 rfl ha0 dX6_copyFrom_1 (pc2 := 4) rfl ?_
  refine g_rl0 hc dX6_copyFrom_4 rfl (pc2 := 5) rfl ?_
  refine g_getR hc fl_X6_11 rfl ht dX6_copyFrom_5 (pc2 := 8) rfl ?_
  refine g_callSN2v (host := "MuleVote") hc (C_X11_copyRow (kf_6_0 ha0) (kl_6_0 ha0) (kf_6_0 ht) (kl_6_0 ht)) mv_X11_copyRow (by decide +kernel) ⟨by decide, by decide⟩ (Nat.le_of_ble_eq_true rfl) dX6_copyFrom_8 (pc2 := 11) rfl (fun s1 => ?_)
  refine g_rl0 hc dX6_copyFrom_11 rfl (pc2 := 12) rfl ?_
  refine g_rl1 hc dX6_copyFrom_12 rfl (pc2 := 13) rfl ?_
  refine g_getI hc fl_X6_15 rfl ha0 dX6_copyFrom_13 (pc2 := 16) rfl ?_
  refine g_rl0 hc dX6_copyFrom_16 rfl (pc2 := 17) rfl ?_
  refine g_getI hc fl_X6_28 rfl ht dX6_copyFrom_17 (pc2 := 20) rfl ?_
  refine g_min hc ln_X6_19 ⟨by decide, by decide⟩ (Nat.le_of_ble_eq_true rfl) dX6_copyFrom_20 (pc2 := 23) rfl ?_
  refine g_putI hc fl_X6_15 rfl ht dX6_copyFrom_23 (pc2 := 26) rfl (fun s3 => ?_)
  exact g_vret hc dX6_copyFrom_26
set_option maxRecDepth 100000 in
set_option maxHeartbeats 4000000 in
def f_X8_takeWord (n : Nat) (t : Nat) (a0 : Nat) (s0 : q_Sto) : Option (Int32 × q_Sto) :=
  q_call (f_X8_isWord n t a0 s0) fun r2 s1 =>
  if r2 = 0 then (
  some (0, s1))
  else (
  q_callv (f_X8_next n t s1) fun s4 =>
  some (1, s4))
set_option maxRecDepth 100000 in
set_option maxHeartbeats 4000000 in
theorem C_X8_takeWord {l : Launch} {w : q_Wd} {n : Nat} {t : Nat} {a0 : Nat} (ht : q_KD t = .inl 8) (ha0 : a0 < q_nS) {s0 : q_Sto} : q_C l w yX8_takeWord cX8_takeWord 2 (some .boolean) (q_rm 7 162) [q_rf w t, q_rs w a0] s0 (f_X8_takeWord n t a0 s0) := q_CofG [some (q_rf w t), some (q_rs w a0)] (by decide +kernel) rfl rfl (Nat.le_of_ble_eq_true rfl) fun cx hl hc => by
  have hc : q_ok w cx RX8 cX8_takeWord 2 (some .boolean) (q_rm 7 162) := hc
  rw [f_X8_takeWord]
  refine g_rl0 hc dX8_takeWord_0 rfl (pc2 := 1) rfl ?_
  refine g_sl1 hc dX8_takeWord_1 rfl (pc2 := 2) rfl ?_
  refine g_callV1 hc (C_X8_isWord ht ha0) mv_X8_isWord ln_X8_64 ht ⟨by decide, by decide⟩ (Nat.le_of_ble_eq_true rfl) dX8_takeWord_2 (pc2 := 5) rfl (fun r2 s1 => ?_)
  refine g_if_ne hc dX8_takeWord_5 (pc1 := 8) (pc2 := 10) rfl rfl (fun _ => ?_) (fun _ => ?_)
  · refine g_iconst hc dX8_takeWord_8 ic_0 (pc2 := 9) rfl ?_
    exact g_zret0 (by decide) hc dX8_takeWord_9
  · refine g_rl0 hc dX8_takeWord_10 rfl (pc2 := 11) rfl ?_
    refine g_callV0v hc (C_X8_next ht) mv_X8_next ln_X8_37 ht ⟨by decide, by decide⟩ (Nat.le_of_ble_eq_true rfl) dX8_takeWord_11 (pc2 := 14) rfl (fun s4 => ?_)
    refine g_iconst hc dX8_takeWord_14 ic_1 (pc2 := 15) rfl ?_
    exact g_zret0 (by decide) hc dX8_takeWord_15
set_option maxRecDepth 100000 in
set_option maxHeartbeats 4000000 in
def f_X8_expectWord (n : Nat) (t : Nat) (a0 : Nat) (s0 : q_Sto) : Option (Int32 × q_Sto) :=
  q_call (f_X8_takeWord n t a0 s0) fun r2 s1 =>
  if r2 = 0 then (
  q_call (f_X8_fail n t 1 s1) fun r5 s4 =>
  if r5 = 0 then (
  some (0, s4))
  else (
  some (1, s4)))
  else (
  some (1, s1))
set_option maxRecDepth 100000 in
set_option maxHeartbeats 4000000 in
theorem C_X8_expectWord {l : Launch} {w : q_Wd} {n : Nat} {t : Nat} {a0 : Nat} (ht : q_KD t = .inl 8) (ha0 : a0 < q_nS) {s0 : q_Sto} : q_C l w yX8_expectWord cX8_expectWord 2 (some .boolean) (q_rm 8 183) [q_rf w t, q_rs w a0] s0 (f_X8_expectWord n t a0 s0) := q_CofG [some (q_rf w t), some (q_rs w a0)] (by decide +kernel) rfl rfl (Nat.le_of_ble_eq_true rfl) fun cx hl hc => by
  have hc : q_ok w cx RX8 cX8_expectWord 2 (some .boolean) (q_rm 8 183) := hc
  rw [f_X8_expectWord]
  refine g_rl0 hc dX8_expectWord_0 rfl (pc2 := 1) rfl ?_
  refine g_sl1 hc dX8_expectWord_1 rfl (pc2 := 2) rfl ?_
  refine g_callV1 hc (C_X8_takeWord ht ha0) mv_X8_takeWord ln_X8_68 ht ⟨by decide, by decide⟩ (Nat.le_of_ble_eq_true rfl) dX8_expectWord_2 (pc2 := 5) rfl (fun r2 s1 => ?_)
  refine g_if_ne hc dX8_expectWord_5 (pc1 := 8) (pc2 := 16) rfl rfl (fun _ => ?_) (fun _ => ?_)
  · refine g_rl0 hc dX8_expectWord_8 rfl (pc2 := 9) rfl ?_
    refine g_iconst hc dX8_expectWord_9 ic_1 (pc2 := 10) rfl ?_
    refine g_callV1 hc (C_X8_fail ht) mv_X8_fail ln_X8_71 ht ⟨by decide, by decide⟩ (Nat.le_of_ble_eq_true rfl) dX8_expectWord_10 (pc2 := 13) rfl (fun r5 s4 => ?_)
    refine g_if_eq hc dX8_expectWord_13 (pc1 := 20) (pc2 := 16) rfl rfl (fun _ => ?_) (fun _ => ?_)
    · refine g_iconst hc dX8_expectWord_20 ic_0 (pc2 := 21) rfl ?_
      exact g_zret0 (by decide) hc dX8_expectWord_21
    · refine g_iconst hc dX8_expectWord_16 ic_1 (pc2 := 17) rfl ?_
      refine g_goto hc dX8_expectWord_17 (pc2 := 21) rfl ?_
      exact g_zret0 (by decide) hc dX8_expectWord_21
  · refine g_iconst hc dX8_expectWord_16 ic_1 (pc2 := 17) rfl ?_
    refine g_goto hc dX8_expectWord_17 (pc2 := 21) rfl ?_
    exact g_zret0 (by decide) hc dX8_expectWord_21
set_option maxRecDepth 100000 in
set_option maxHeartbeats 4000000 in
def f_X7_readHeed_L43 (n : Nat) (x0 : Nat) (x1 : Nat) (x2 : Int32) (k105 : Int32 → q_Sto → Option (Int32 × q_Sto)) : Nat → Int32 → Int32 → Int32 → q_Sto → Option (Int32 × q_Sto)
  | 0, _, _, _, _ => none
  | j + 1, x3, x4, x5, s0 =>
    if x5 ≤ 400 then (
    if x4 = 0 then (
    k105 x3 s0)
    else (
    q_call (f_X8_expectNumber n (q_RF x0 0) 0 ((s0 x1 8) - 1) x2 s0) fun r10 s9 =>
    if r10 = (-1) then (
    some (0, s9))
    else (
    q_nm (x3 ||| (1 <<< (r10 &&& 31))) fun v12 =>
    q_call (f_X8_takeWord n (q_RF x0 0) 22 s9) fun r14 s13 =>
    f_X7_readHeed_L43 n x0 x1 x2 k105 j v12 r14 (x5 + 1) s13)))
    else (
    k105 x3 s0)
set_option maxRecDepth 100000 in
set_option maxHeartbeats 4000000 in
def f_X7_readHeed (n : Nat) (t : Nat) (a0 : Nat) (s0 : q_Sto) : Option (Int32 × q_Sto) :=
  q_call (f_X8_expectNumber n (q_RF t 0) 0 ((s0 a0 8) - 1) (-1) s0) fun r2 s1 =>
  if r2 = (-1) then (
  some (0, s1))
  else (
  q_call (f_X8_expectWord n (q_RF t 0) 21 s1) fun r5 s4 =>
  if r5 = 0 then (
  some (0, s4))
  else (
  f_X7_readHeed_L43 n t a0 r2 (fun (y15 : Int32) (s16 : q_Sto) =>
  q_callv (f_X6_add n (q_RF t 1) r2 y15 0 0 s16) fun s17 =>
  some (1, s17)) n 0 1 0 s4))
set_option maxRecDepth 100000 in
set_option maxHeartbeats 4000000 in
theorem t_X7_readHeed_L43 {w : q_Wd} {cx : q_Cx} (hc : q_ok w cx RX7 cX7_readHeed 7 (some .boolean) (q_rm 9 204)) {n : Nat} {x0 : Nat} {x1 : Nat} {x2 : Int32} (hx0 : q_KD x0 = .inl 7) (hx1 : q_KD x1 = .inl 9) {k105 : Int32 → q_Sto → Option (Int32 × q_Sto)} (hk105 : ∀ (y3 : Int32) (s1 : q_Sto), q_G w cx 7 (some .boolean) 105 [some (q_rf w x0), none, some (.int x2), some (.int y3), none, none, none] [] s1 (k105 y3 s1)) :
    ∀ (j : Nat) (x3 : Int32) (x4 : Int32) (x5 : Int32) (s0 : q_Sto), q_G w cx 7 (some .boolean) 43 [some (q_rf w x0), some (q_rf w x1), some (.int x2), some (.int x3), some (.int x4), some (.int x5), none] [] s0 (f_X7_readHeed_L43 n x0 x1 x2 k105 j x3 x4 x5 s0) := by
  intro j
  induction j with
  | zero =>
    intro _ _ _ _
    rw [f_X7_readHeed_L43]
    exact q_none
  | succ j ih =>
    intro x3 x4 x5 s0
    rw [f_X7_readHeed_L43]
    refine g_iload hc dX7_readHeed_43 rfl (pc2 := 45) rfl ?_
    refine g_sipush hc dX7_readHeed_45 sp_400 (pc2 := 48) rfl ?_
    refine g_icmp_gt hc dX7_readHeed_48 (pc1 := 51) (pc2 := 105) rfl rfl (fun _ => ?_) (fun _ => ?_)
    · refine g_iload hc dX7_readHeed_51 rfl (pc2 := 53) rfl ?_
      refine g_if_eq hc dX7_readHeed_53 (pc1 := 105) (pc2 := 56) rfl rfl (fun _ => ?_) (fun _ => ?_)
      · refine q_Gmask [true, false, true, true, false, false, true] (L2 := [some (q_rf w x0), none, some (.int x2), some (.int x3), none, none, none]) rfl ?_
        exact hk105 _ _
      · refine g_rl0 hc dX7_readHeed_56 rfl (pc2 := 57) rfl ?_
        refine g_getR hc fl_X7_20 rfl hx0 dX7_readHeed_57 (pc2 := 60) rfl ?_
        refine g_iconst hc dX7_readHeed_60 ic_0 (pc2 := 61) rfl ?_
        refine g_rl1 hc dX7_readHeed_61 rfl (pc2 := 62) rfl ?_
        refine g_getI hc fl_X7_77 rfl hx1 dX7_readHeed_62 (pc2 := 65) rfl ?_
        refine g_iconst hc dX7_readHeed_65 ic_1 (pc2 := 66) rfl ?_
        refine g_isub hc dX7_readHeed_66 (pc2 := 67) rfl ?_
        refine g_il2 hc dX7_readHeed_67 rfl (pc2 := 68) rfl ?_
        refine g_callV3 hc (C_X8_expectNumber (kf_7_0 hx0)) mv_X8_expectNumber ln_X7_82 (kf_7_0 hx0) ⟨by decide, by decide⟩ (Nat.le_of_ble_eq_true rfl) dX7_readHeed_68 (pc2 := 71) rfl (fun r10 s9 => ?_)
        refine g_istore hc dX7_readHeed_71 (by decide) (L2 := [some (q_rf w x0), some (q_rf w x1), some (.int x2), some (.int x3), some (.int x4), some (.int x5), some (.int r10)]) rfl (pc2 := 73) rfl ?_
        refine g_iload hc dX7_readHeed_73 rfl (pc2 := 75) rfl ?_
        refine g_iconst hc dX7_readHeed_75 ic_m1 (pc2 := 76) rfl ?_
        refine g_icmp_ne hc dX7_readHeed_76 (pc1 := 79) (pc2 := 81) rfl rfl (fun _ => ?_) (fun _ => ?_)
        · refine g_iconst hc dX7_readHeed_79 ic_0 (pc2 := 80) rfl ?_
          exact g_zret0 (by decide) hc dX7_readHeed_80
        · refine g_il3 hc dX7_readHeed_81 rfl (pc2 := 82) rfl ?_
          refine g_iconst hc dX7_readHeed_82 ic_1 (pc2 := 83) rfl ?_
          refine g_iload hc dX7_readHeed_83 rfl (pc2 := 85) rfl ?_
          refine g_ishl hc dX7_readHeed_85 (pc2 := 86) rfl ?_
          refine g_ior hc dX7_readHeed_86 (pc2 := 87) rfl ?_
          refine g_nm (fun v12 => ?_)
          refine g_is3 hc dX7_readHeed_87 (by decide) (L2 := [some (q_rf w x0), some (q_rf w x1), some (.int x2), some (.int v12), some (.int x4), some (.int x5), some (.int r10)]) rfl (pc2 := 88) rfl ?_
          refine g_rl0 hc dX7_readHeed_88 rfl (pc2 := 89) rfl ?_
          refine g_getR hc fl_X7_20 rfl hx0 dX7_readHeed_89 (pc2 := 92) rfl ?_
          refine g_ldcS (i := 22) (tx := "and") hc (by decide +kernel) dX7_readHeed_92 (pc2 := 94) rfl ?_
          refine g_callV1 hc (C_X8_takeWord (kf_7_0 hx0) (by decide)) mv_X8_takeWord ln_X7_93 (kf_7_0 hx0) ⟨by decide, by decide⟩ (Nat.le_of_ble_eq_true rfl) dX7_readHeed_94 (pc2 := 97) rfl (fun r14 s13 => ?_)
          refine g_istore hc dX7_readHeed_97 (by decide) (L2 := [some (q_rf w x0), some (q_rf w x1), some (.int x2), some (.int v12), some (.int r14), some (.int x5), some (.int r10)]) rfl (pc2 := 99) rfl ?_
          refine g_iinc hc dX7_readHeed_99 rfl (q_ii ic_1) (by decide) (L2 := [some (q_rf w x0), some (q_rf w x1), some (.int x2), some (.int v12), some (.int r14), some (.int (x5 + 1)), some (.int r10)]) rfl (pc2 := 102) rfl ?_
          refine g_goto hc dX7_readHeed_102 (pc2 := 43) rfl ?_
          refine q_Gmask [true, true, true, true, true, true, false] (L2 := [some (q_rf w x0), some (q_rf w x1), some (.int x2), some (.int v12), some (.int r14), some (.int (x5 + 1)), none]) rfl ?_
          exact ih _ _ _ _
    · refine q_Gmask [true, false, true, true, false, false, true] (L2 := [some (q_rf w x0), none, some (.int x2), some (.int x3), none, none, none]) rfl ?_
      exact hk105 _ _
set_option maxRecDepth 100000 in
set_option maxHeartbeats 4000000 in
theorem C_X7_readHeed {l : Launch} {w : q_Wd} {n : Nat} {t : Nat} {a0 : Nat} (ht : q_KD t = .inl 7) (ha0 : q_KD a0 = .inl 9) {s0 : q_Sto} : q_C l w yX7_readHeed cX7_readHeed 7 (some .boolean) (q_rm 9 204) [q_rf w t, q_rf w a0] s0 (f_X7_readHeed n t a0 s0) := q_CofG [some (q_rf w t), some (q_rf w a0), none, none, none, none, none] (by decide +kernel) rfl rfl (Nat.le_of_ble_eq_true rfl) fun cx hl hc => by
  have hc : q_ok w cx RX7 cX7_readHeed 7 (some .boolean) (q_rm 9 204) := hc
  rw [f_X7_readHeed]
  refine g_rl0 hc dX7_readHeed_0 rfl (pc2 := 1) rfl ?_
  refine g_getR hc fl_X7_20 rfl ht dX7_readHeed_1 (pc2 := 4) rfl ?_
  refine g_iconst hc dX7_readHeed_4 ic_0 (pc2 := 5) rfl ?_
  refine g_rl1 hc dX7_readHeed_5 rfl (pc2 := 6) rfl ?_
  refine g_getI hc fl_X7_77 rfl ha0 dX7_readHeed_6 (pc2 := 9) rfl ?_
  refine g_iconst hc dX7_readHeed_9 ic_1 (pc2 := 10) rfl ?_
  refine g_isub hc dX7_readHeed_10 (pc2 := 11) rfl ?_
  refine g_iconst hc dX7_readHeed_11 ic_m1 (pc2 := 12) rfl ?_
  refine g_callV3 hc (C_X8_expectNumber (kf_7_0 ht)) mv_X8_expectNumber ln_X7_82 (kf_7_0 ht) ⟨by decide, by decide⟩ (Nat.le_of_ble_eq_true rfl) dX7_readHeed_12 (pc2 := 15) rfl (fun r2 s1 => ?_)
  refine g_is2 hc dX7_readHeed_15 (by decide) (L2 := [some (q_rf w t), some (q_rf w a0), some (.int r2), none, none, none, none]) rfl (pc2 := 16) rfl ?_
  refine g_il2 hc dX7_readHeed_16 rfl (pc2 := 17) rfl ?_
  refine g_iconst hc dX7_readHeed_17 ic_m1 (pc2 := 18) rfl ?_
  refine g_icmp_eq hc dX7_readHeed_18 (pc1 := 33) (pc2 := 21) rfl rfl (fun _ => ?_) (fun _ => ?_)
  · refine g_iconst hc dX7_readHeed_33 ic_0 (pc2 := 34) rfl ?_
    exact g_zret0 (by decide) hc dX7_readHeed_34
  · refine g_rl0 hc dX7_readHeed_21 rfl (pc2 := 22) rfl ?_
    refine g_getR hc fl_X7_20 rfl ht dX7_readHeed_22 (pc2 := 25) rfl ?_
    refine g_ldcS (i := 21) (tx := "heeds") hc (by decide +kernel) dX7_readHeed_25 (pc2 := 27) rfl ?_
    refine g_callV1 hc (C_X8_expectWord (kf_7_0 ht) (by decide)) mv_X8_expectWord ln_X7_88 (kf_7_0 ht) ⟨by decide, by decide⟩ (Nat.le_of_ble_eq_true rfl) dX7_readHeed_27 (pc2 := 30) rfl (fun r5 s4 => ?_)
    refine g_if_ne hc dX7_readHeed_30 (pc1 := 33) (pc2 := 35) rfl rfl (fun _ => ?_) (fun _ => ?_)
    · refine g_iconst hc dX7_readHeed_33 ic_0 (pc2 := 34) rfl ?_
      exact g_zret0 (by decide) hc dX7_readHeed_34
    · refine g_iconst hc dX7_readHeed_35 ic_0 (pc2 := 36) rfl ?_
      refine g_is3 hc dX7_readHeed_36 (by decide) (L2 := [some (q_rf w t), some (q_rf w a0), some (.int r2), some (.int 0), none, none, none]) rfl (pc2 := 37) rfl ?_
      refine g_iconst hc dX7_readHeed_37 ic_1 (pc2 := 38) rfl ?_
      refine g_istore hc dX7_readHeed_38 (by decide) (L2 := [some (q_rf w t), some (q_rf w a0), some (.int r2), some (.int 0), some (.int 1), none, none]) rfl (pc2 := 40) rfl ?_
      refine g_iconst hc dX7_readHeed_40 ic_0 (pc2 := 41) rfl ?_
      refine g_istore hc dX7_readHeed_41 (by decide) (L2 := [some (q_rf w t), some (q_rf w a0), some (.int r2), some (.int 0), some (.int 1), some (.int 0), none]) rfl (pc2 := 43) rfl ?_
      refine t_X7_readHeed_L43 hc ht ha0 (fun y15 s16 => ?_) n _ _ _ _
      refine g_rl0 hc dX7_readHeed_105 rfl (pc2 := 106) rfl ?_
      refine g_getR hc fl_X7_14 rfl ht dX7_readHeed_106 (pc2 := 109) rfl ?_
      refine g_il2 hc dX7_readHeed_109 rfl (pc2 := 110) rfl ?_
      refine g_il3 hc dX7_readHeed_110 rfl (pc2 := 111) rfl ?_
      refine g_iconst hc dX7_readHeed_111 ic_0 (pc2 := 112) rfl ?_
      refine g_iconst hc dX7_readHeed_112 ic_0 (pc2 := 113) rfl ?_
      refine g_callV4v hc (C_X6_add (kf_7_1 ht)) mv_X6_add ln_X7_96 (kf_7_1 ht) ⟨by decide, by decide⟩ (Nat.le_of_ble_eq_true rfl) dX7_readHeed_113 (pc2 := 116) rfl (fun s17 => ?_)
      refine g_iconst hc dX7_readHeed_116 ic_1 (pc2 := 117) rfl ?_
      exact g_zret0 (by decide) hc dX7_readHeed_117
set_option maxRecDepth 100000 in
set_option maxHeartbeats 4000000 in
def f_X7_readPlan (n : Nat) (t : Nat) (a0 : Nat) (s0 : q_Sto) : Option (Int32 × q_Sto) :=
  q_call (f_X8_expectNumber n (q_RF t 0) 0 999 (-1) s0) fun r2 s1 =>
  if r2 = (-1) then (
  some (0, s1))
  else (
  q_call (f_X8_takeWord n (q_RF t 0) 23 s1) fun r5 s4 =>
  if r5 = 0 then (
  q_call (f_X8_isWord n (q_RF t 0) 24 s4) fun r8 s7 =>
  q_jn (fun (y9 : Int32) (s10 : q_Sto) =>
    if y9 = (-1) then (
    q_call (f_X8_fail n (q_RF t 0) 1 s10) fun r13 s12 =>
    q_rz r13 s12)
    else (
    q_callv (f_X8_next n (q_RF t 0) s10) fun s14 =>
    q_jn (fun (y16 : Int32) (s17 : q_Sto) =>
      q_call (f_X8_expectNumber n (q_RF t 0) 0 y16 (-1) s17) fun r19 s18 =>
      if r19 = (-1) then (
      some (0, s18))
      else (
      q_jn (fun  (s21 : q_Sto) =>
        q_call (f_X8_expectNumber n (q_RF t 0) 0 ((s21 a0 8) - 1) (-1) s21) fun r23 s22 =>
        q_callv (f_X6_add n (q_RF t 1) r2 y9 r19 r23 s22) fun s24 =>
        if r23 = (-1) then (
        some (0, s24))
        else (
        some (1, s24))) fun j180 =>
      q_jn (fun (y27 : Int32) (s28 : q_Sto) =>
        q_callv (f_X6_add n (q_RF t 1) r2 y9 r19 y27 s28) fun s29 =>
        if y27 = (-1) then (
        some (0, s29))
        else (
        some (1, s29))) fun j197 =>
      if y9 = 1 then (
      j180 s18)
      else (
      if y9 = 3 then (
      j180 s18)
      else (
      j197 0 s18)))) fun j153 =>
    if y9 = 4 then (
    j153 9 s14)
    else (
    j153 ((s14 a0 9) - 1) s14))) fun j110 =>
  if r8 = 0 then (
  q_call (f_X8_isWord n (q_RF t 0) 25 s7) fun r37 s36 =>
  if r37 = 0 then (
  q_call (f_X8_isWord n (q_RF t 0) 26 s36) fun r40 s39 =>
  if r40 = 0 then (
  q_call (f_X8_isWord n (q_RF t 0) 27 s39) fun r43 s42 =>
  if r43 = 0 then (
  j110 (-1) s42)
  else (
  j110 4 s42))
  else (
  j110 3 s39))
  else (
  j110 2 s36))
  else (
  j110 1 s7))
  else (
  q_callv (f_X6_add n (q_RF t 1) r2 0 0 0 s4) fun s45 =>
  some (1, s45)))
set_option maxRecDepth 100000 in
set_option maxHeartbeats 4000000 in
theorem C_X7_readPlan {l : Launch} {w : q_Wd} {n : Nat} {t : Nat} {a0 : Nat} (ht : q_KD t = .inl 7) (ha0 : q_KD a0 = .inl 9) {s0 : q_Sto} : q_C l w yX7_readPlan cX7_readPlan 6 (some .boolean) (q_rm 8 183) [q_rf w t, q_rf w a0] s0 (f_X7_readPlan n t a0 s0) := q_CofG [some (q_rf w t), some (q_rf w a0), none, none, none, none] (by decide +kernel) rfl rfl (Nat.le_of_ble_eq_true rfl) fun cx hl hc => by
  have hc : q_ok w cx RX7 cX7_readPlan 6 (some .boolean) (q_rm 8 183) := hc
  rw [f_X7_readPlan]
  refine g_rl0 hc dX7_readPlan_0 rfl (pc2 := 1) rfl ?_
  refine g_getR hc fl_X7_20 rfl ht dX7_readPlan_1 (pc2 := 4) rfl ?_
  refine g_iconst hc dX7_readPlan_4 ic_0 (pc2 := 5) rfl ?_
  refine g_sipush hc dX7_readPlan_5 sp_999 (pc2 := 8) rfl ?_
  refine g_iconst hc dX7_readPlan_8 ic_m1 (pc2 := 9) rfl ?_
  refine g_callV3 hc (C_X8_expectNumber (kf_7_0 ht)) mv_X8_expectNumber ln_X7_82 (kf_7_0 ht) ⟨by decide, by decide⟩ (Nat.le_of_ble_eq_true rfl) dX7_readPlan_9 (pc2 := 12) rfl (fun r2 s1 => ?_)
  refine g_is2 hc dX7_readPlan_12 (by decide) (L2 := [some (q_rf w t), some (q_rf w a0), some (.int r2), none, none, none]) rfl (pc2 := 13) rfl ?_
  refine g_il2 hc dX7_readPlan_13 rfl (pc2 := 14) rfl ?_
  refine g_iconst hc dX7_readPlan_14 ic_m1 (pc2 := 15) rfl ?_
  refine g_icmp_ne hc dX7_readPlan_15 (pc1 := 18) (pc2 := 20) rfl rfl (fun _ => ?_) (fun _ => ?_)
  · refine g_iconst hc dX7_readPlan_18 ic_0 (pc2 := 19) rfl ?_
    exact g_zret0 (by decide) hc dX7_readPlan_19
  · refine g_rl0 hc dX7_readPlan_20 rfl (pc2 := 21) rfl ?_
    refine g_getR hc fl_X7_20 rfl ht dX7_readPlan_21 (pc2 := 24) rfl ?_
    refine g_ldcS (i := 23) (tx := "vote") hc (by decide +kernel) dX7_readPlan_24 (pc2 := 26) rfl ?_
    refine g_callV1 hc (C_X8_takeWord (kf_7_0 ht) (by decide)) mv_X8_takeWord ln_X7_93 (kf_7_0 ht) ⟨by decide, by decide⟩ (Nat.le_of_ble_eq_true rfl) dX7_readPlan_26 (pc2 := 29) rfl (fun r5 s4 => ?_)
    refine g_if_eq hc dX7_readPlan_29 (pc1 := 45) (pc2 := 32) rfl rfl (fun _ => ?_) (fun _ => ?_)
    · refine g_rl0 hc dX7_readPlan_45 rfl (pc2 := 46) rfl ?_
      refine g_getR hc fl_X7_20 rfl ht dX7_readPlan_46 (pc2 := 49) rfl ?_
      refine g_ldcS (i := 24) (tx := "salt") hc (by decide +kernel) dX7_readPlan_49 (pc2 := 51) rfl ?_
      refine g_callV1 hc (C_X8_isWord (kf_7_0 ht) (by decide)) mv_X8_isWord ln_X7_49 (kf_7_0 ht) ⟨by decide, by decide⟩ (Nat.le_of_ble_eq_true rfl) dX7_readPlan_51 (pc2 := 54) rfl (fun r8 s7 => ?_)
      refine g_jn (P := fun j110 => ∀ (y9 : Int32) (s10 : q_Sto), q_G w cx 6 (some .boolean) 110 [some (q_rf w t), some (q_rf w a0), some (.int r2), none, none, none] [.int y9] s10 (j110 y9 s10)) (fun y9 s10 => ?_) (fun j110 hj110 => ?_)
      · refine g_is3 hc dX7_readPlan_110 (by decide) (L2 := [some (q_rf w t), some (q_rf w a0), some (.int r2), some (.int y9), none, none]) rfl (pc2 := 111) rfl ?_
        refine g_il3 hc dX7_readPlan_111 rfl (pc2 := 112) rfl ?_
        refine g_iconst hc dX7_readPlan_112 ic_m1 (pc2 := 113) rfl ?_
        refine g_icmp_ne hc dX7_readPlan_113 (pc1 := 116) (pc2 := 125) rfl rfl (fun _ => ?_) (fun _ => ?_)
        · refine g_rl0 hc dX7_readPlan_116 rfl (pc2 := 117) rfl ?_
          refine g_getR hc fl_X7_20 rfl ht dX7_readPlan_117 (pc2 := 120) rfl ?_
          refine g_iconst hc dX7_readPlan_120 ic_1 (pc2 := 121) rfl ?_
          refine g_callV1 hc (C_X8_fail (kf_7_0 ht)) mv_X8_fail ln_X7_53 (kf_7_0 ht) ⟨by decide, by decide⟩ (Nat.le_of_ble_eq_true rfl) dX7_readPlan_121 (pc2 := 124) rfl (fun r13 s12 => ?_)
          exact g_zret hc dX7_readPlan_124
        · refine g_rl0 hc dX7_readPlan_125 rfl (pc2 := 126) rfl ?_
          refine g_getR hc fl_X7_20 rfl ht dX7_readPlan_126 (pc2 := 129) rfl ?_
          refine g_callV0v hc (C_X8_next (kf_7_0 ht)) mv_X8_next ln_X7_61 (kf_7_0 ht) ⟨by decide, by decide⟩ (Nat.le_of_ble_eq_true rfl) dX7_readPlan_129 (pc2 := 132) rfl (fun s14 => ?_)
          refine g_rl0 hc dX7_readPlan_132 rfl (pc2 := 133) rfl ?_
          refine g_getR hc fl_X7_20 rfl ht dX7_readPlan_133 (pc2 := 136) rfl ?_
          refine g_iconst hc dX7_readPlan_136 ic_0 (pc2 := 137) rfl ?_
          refine g_il3 hc dX7_readPlan_137 rfl (pc2 := 138) rfl ?_
          refine g_iconst hc dX7_readPlan_138 ic_4 (pc2 := 139) rfl ?_
          refine g_jn (P := fun j153 => ∀ (y16 : Int32) (s17 : q_Sto), q_G w cx 6 (some .boolean) 153 [some (q_rf w t), some (q_rf w a0), some (.int r2), some (.int y9), none, none] [.int y16, .int 0, q_rf w (q_RF t 0)] s17 (j153 y16 s17)) (fun y16 s17 => ?_) (fun j153 hj153 => ?_)
          · refine g_iconst hc dX7_readPlan_153 ic_m1 (pc2 := 154) rfl ?_
            refine g_callV3 hc (C_X8_expectNumber (kf_7_0 ht)) mv_X8_expectNumber ln_X7_82 (kf_7_0 ht) ⟨by decide, by decide⟩ (Nat.le_of_ble_eq_true rfl) dX7_readPlan_154 (pc2 := 157) rfl (fun r19 s18 => ?_)
            refine g_istore hc dX7_readPlan_157 (by decide) (L2 := [some (q_rf w t), some (q_rf w a0), some (.int r2), some (.int y9), some (.int r19), none]) rfl (pc2 := 159) rfl ?_
            refine g_iload hc dX7_readPlan_159 rfl (pc2 := 161) rfl ?_
            refine g_iconst hc dX7_readPlan_161 ic_m1 (pc2 := 162) rfl ?_
            refine g_icmp_ne hc dX7_readPlan_162 (pc1 := 165) (pc2 := 167) rfl rfl (fun _ => ?_) (fun _ => ?_)
            · refine g_iconst hc dX7_readPlan_165 ic_0 (pc2 := 166) rfl ?_
              exact g_zret0 (by decide) hc dX7_readPlan_166
            · refine g_iconst hc dX7_readPlan_167 ic_0 (pc2 := 168) rfl ?_
              refine g_istore hc dX7_readPlan_168 (by decide) (L2 := [some (q_rf w t), some (q_rf w a0), some (.int r2), some (.int y9), some (.int r19), some (.int 0)]) rfl (pc2 := 170) rfl ?_
              refine g_il3 hc dX7_readPlan_170 rfl (pc2 := 171) rfl ?_
              refine g_iconst hc dX7_readPlan_171 ic_1 (pc2 := 172) rfl ?_
              refine g_jn (P := fun j180 => ∀  (s21 : q_Sto), q_G w cx 6 (some .boolean) 180 [some (q_rf w t), some (q_rf w a0), some (.int r2), some (.int y9), some (.int r19), none] [] s21 (j180 s21)) (fun s21 => ?_) (fun j180 hj180 => ?_)
              · refine g_rl0 hc dX7_readPlan_180 rfl (pc2 := 181) rfl ?_
                refine g_getR hc fl_X7_20 rfl ht dX7_readPlan_181 (pc2 := 184) rfl ?_
                refine g_iconst hc dX7_readPlan_184 ic_0 (pc2 := 185) rfl ?_
                refine g_rl1 hc dX7_readPlan_185 rfl (pc2 := 186) rfl ?_
                refine g_getI hc fl_X7_77 rfl ha0 dX7_readPlan_186 (pc2 := 189) rfl ?_
                refine g_iconst hc dX7_readPlan_189 ic_1 (pc2 := 190) rfl ?_
                refine g_isub hc dX7_readPlan_190 (pc2 := 191) rfl ?_
                refine g_iconst hc dX7_readPlan_191 ic_m1 (pc2 := 192) rfl ?_
                refine g_callV3 hc (C_X8_expectNumber (kf_7_0 ht)) mv_X8_expectNumber ln_X7_82 (kf_7_0 ht) ⟨by decide, by decide⟩ (Nat.le_of_ble_eq_true rfl) dX7_readPlan_192 (pc2 := 195) rfl (fun r23 s22 => ?_)
                refine g_istore hc dX7_readPlan_195 (by decide) (L2 := [some (q_rf w t), some (q_rf w a0), some (.int r2), some (.int y9), some (.int r19), some (.int r23)]) rfl (pc2 := 197) rfl ?_
                refine g_rl0 hc dX7_readPlan_197 rfl (pc2 := 198) rfl ?_
                refine g_getR hc fl_X7_14 rfl ht dX7_readPlan_198 (pc2 := 201) rfl ?_
                refine g_il2 hc dX7_readPlan_201 rfl (pc2 := 202) rfl ?_
                refine g_il3 hc dX7_readPlan_202 rfl (pc2 := 203) rfl ?_
                refine g_iload hc dX7_readPlan_203 rfl (pc2 := 205) rfl ?_
                refine g_iload hc dX7_readPlan_205 rfl (pc2 := 207) rfl ?_
                refine g_callV4v hc (C_X6_add (kf_7_1 ht)) mv_X6_add ln_X7_96 (kf_7_1 ht) ⟨by decide, by decide⟩ (Nat.le_of_ble_eq_true rfl) dX7_readPlan_207 (pc2 := 210) rfl (fun s24 => ?_)
                refine g_iload hc dX7_readPlan_210 rfl (pc2 := 212) rfl ?_
                refine g_iconst hc dX7_readPlan_212 ic_m1 (pc2 := 213) rfl ?_
                refine g_icmp_eq hc dX7_readPlan_213 (pc1 := 220) (pc2 := 216) rfl rfl (fun _ => ?_) (fun _ => ?_)
                · refine g_iconst hc dX7_readPlan_220 ic_0 (pc2 := 221) rfl ?_
                  exact g_zret0 (by decide) hc dX7_readPlan_221
                · refine g_iconst hc dX7_readPlan_216 ic_1 (pc2 := 217) rfl ?_
                  refine g_goto hc dX7_readPlan_217 (pc2 := 221) rfl ?_
                  exact g_zret0 (by decide) hc dX7_readPlan_221
              · refine g_jn (P := fun j197 => ∀ (y27 : Int32) (s28 : q_Sto), q_G w cx 6 (some .boolean) 197 [some (q_rf w t), none, some (.int r2), some (.int y9), some (.int r19), some (.int y27)] [] s28 (j197 y27 s28)) (fun y27 s28 => ?_) (fun j197 hj197 => ?_)
                · refine g_rl0 hc dX7_readPlan_197 rfl (pc2 := 198) rfl ?_
                  refine g_getR hc fl_X7_14 rfl ht dX7_readPlan_198 (pc2 := 201) rfl ?_
                  refine g_il2 hc dX7_readPlan_201 rfl (pc2 := 202) rfl ?_
                  refine g_il3 hc dX7_readPlan_202 rfl (pc2 := 203) rfl ?_
                  refine g_iload hc dX7_readPlan_203 rfl (pc2 := 205) rfl ?_
                  refine g_iload hc dX7_readPlan_205 rfl (pc2 := 207) rfl ?_
                  refine g_callV4v hc (C_X6_add (kf_7_1 ht)) mv_X6_add ln_X7_96 (kf_7_1 ht) ⟨by decide, by decide⟩ (Nat.le_of_ble_eq_true rfl) dX7_readPlan_207 (pc2 := 210) rfl (fun s29 => ?_)
                  refine g_iload hc dX7_readPlan_210 rfl (pc2 := 212) rfl ?_
                  refine g_iconst hc dX7_readPlan_212 ic_m1 (pc2 := 213) rfl ?_
                  refine g_icmp_eq hc dX7_readPlan_213 (pc1 := 220) (pc2 := 216) rfl rfl (fun _ => ?_) (fun _ => ?_)
                  · refine g_iconst hc dX7_readPlan_220 ic_0 (pc2 := 221) rfl ?_
                    exact g_zret0 (by decide) hc dX7_readPlan_221
                  · refine g_iconst hc dX7_readPlan_216 ic_1 (pc2 := 217) rfl ?_
                    refine g_goto hc dX7_readPlan_217 (pc2 := 221) rfl ?_
                    exact g_zret0 (by decide) hc dX7_readPlan_221
                · refine g_icmp_eq hc dX7_readPlan_172 (pc1 := 180) (pc2 := 175) rfl rfl (fun _ => ?_) (fun _ => ?_)
                  · refine q_Gmask [true, true, true, true, true, false] (L2 := [some (q_rf w t), some (q_rf w a0), some (.int r2), some (.int y9), some (.int r19), none]) rfl ?_
                    exact hj180 _
                  · refine g_il3 hc dX7_readPlan_175 rfl (pc2 := 176) rfl ?_
                    refine g_iconst hc dX7_readPlan_176 ic_3 (pc2 := 177) rfl ?_
                    refine g_icmp_ne hc dX7_readPlan_177 (pc1 := 180) (pc2 := 197) rfl rfl (fun _ => ?_) (fun _ => ?_)
                    · refine q_Gmask [true, true, true, true, true, false] (L2 := [some (q_rf w t), some (q_rf w a0), some (.int r2), some (.int y9), some (.int r19), none]) rfl ?_
                      exact hj180 _
                    · refine q_Gmask [true, false, true, true, true, true] (L2 := [some (q_rf w t), none, some (.int r2), some (.int y9), some (.int r19), some (.int 0)]) rfl ?_
                      exact hj197 _ _
          · refine g_icmp_ne hc dX7_readPlan_139 (pc1 := 142) (pc2 := 147) rfl rfl (fun _ => ?_) (fun _ => ?_)
            · refine g_bipush hc dX7_readPlan_142 bp_9 (pc2 := 144) rfl ?_
              refine g_goto hc dX7_readPlan_144 (pc2 := 153) rfl ?_
              exact hj153 _ _
            · refine g_rl1 hc dX7_readPlan_147 rfl (pc2 := 148) rfl ?_
              refine g_getI hc fl_X7_110 rfl ha0 dX7_readPlan_148 (pc2 := 151) rfl ?_
              refine g_iconst hc dX7_readPlan_151 ic_1 (pc2 := 152) rfl ?_
              refine g_isub hc dX7_readPlan_152 (pc2 := 153) rfl ?_
              exact hj153 _ _
      · refine g_if_eq hc dX7_readPlan_54 (pc1 := 61) (pc2 := 57) rfl rfl (fun _ => ?_) (fun _ => ?_)
        · refine g_rl0 hc dX7_readPlan_61 rfl (pc2 := 62) rfl ?_
          refine g_getR hc fl_X7_20 rfl ht dX7_readPlan_62 (pc2 := 65) rfl ?_
          refine g_ldcS (i := 25) (tx := "sing") hc (by decide +kernel) dX7_readPlan_65 (pc2 := 67) rfl ?_
          refine g_callV1 hc (C_X8_isWord (kf_7_0 ht) (by decide)) mv_X8_isWord ln_X7_49 (kf_7_0 ht) ⟨by decide, by decide⟩ (Nat.le_of_ble_eq_true rfl) dX7_readPlan_67 (pc2 := 70) rfl (fun r37 s36 => ?_)
          refine g_if_eq hc dX7_readPlan_70 (pc1 := 77) (pc2 := 73) rfl rfl (fun _ => ?_) (fun _ => ?_)
          · refine g_rl0 hc dX7_readPlan_77 rfl (pc2 := 78) rfl ?_
            refine g_getR hc fl_X7_20 rfl ht dX7_readPlan_78 (pc2 := 81) rfl ?_
            refine g_ldcS (i := 26) (tx := "whip") hc (by decide +kernel) dX7_readPlan_81 (pc2 := 83) rfl ?_
            refine g_callV1 hc (C_X8_isWord (kf_7_0 ht) (by decide)) mv_X8_isWord ln_X7_49 (kf_7_0 ht) ⟨by decide, by decide⟩ (Nat.le_of_ble_eq_true rfl) dX7_readPlan_83 (pc2 := 86) rfl (fun r40 s39 => ?_)
            refine g_if_eq hc dX7_readPlan_86 (pc1 := 93) (pc2 := 89) rfl rfl (fun _ => ?_) (fun _ => ?_)
            · refine g_rl0 hc dX7_readPlan_93 rfl (pc2 := 94) rfl ?_
              refine g_getR hc fl_X7_20 rfl ht dX7_readPlan_94 (pc2 := 97) rfl ?_
              refine g_ldcS (i := 27) (tx := "go") hc (by decide +kernel) dX7_readPlan_97 (pc2 := 99) rfl ?_
              refine g_callV1 hc (C_X8_isWord (kf_7_0 ht) (by decide)) mv_X8_isWord ln_X7_49 (kf_7_0 ht) ⟨by decide, by decide⟩ (Nat.le_of_ble_eq_true rfl) dX7_readPlan_99 (pc2 := 102) rfl (fun r43 s42 => ?_)
              refine g_if_eq hc dX7_readPlan_102 (pc1 := 109) (pc2 := 105) rfl rfl (fun _ => ?_) (fun _ => ?_)
              · refine g_iconst hc dX7_readPlan_109 ic_m1 (pc2 := 110) rfl ?_
                exact hj110 _ _
              · refine g_iconst hc dX7_readPlan_105 ic_4 (pc2 := 106) rfl ?_
                refine g_goto hc dX7_readPlan_106 (pc2 := 110) rfl ?_
                exact hj110 _ _
            · refine g_iconst hc dX7_readPlan_89 ic_3 (pc2 := 90) rfl ?_
              refine g_goto hc dX7_readPlan_90 (pc2 := 110) rfl ?_
              exact hj110 _ _
          · refine g_iconst hc dX7_readPlan_73 ic_2 (pc2 := 74) rfl ?_
            refine g_goto hc dX7_readPlan_74 (pc2 := 110) rfl ?_
            exact hj110 _ _
        · refine g_iconst hc dX7_readPlan_57 ic_1 (pc2 := 58) rfl ?_
          refine g_goto hc dX7_readPlan_58 (pc2 := 110) rfl ?_
          exact hj110 _ _
    · refine g_rl0 hc dX7_readPlan_32 rfl (pc2 := 33) rfl ?_
      refine g_getR hc fl_X7_14 rfl ht dX7_readPlan_33 (pc2 := 36) rfl ?_
      refine g_il2 hc dX7_readPlan_36 rfl (pc2 := 37) rfl ?_
      refine g_iconst hc dX7_readPlan_37 ic_0 (pc2 := 38) rfl ?_
      refine g_iconst hc dX7_readPlan_38 ic_0 (pc2 := 39) rfl ?_
      refine g_iconst hc dX7_readPlan_39 ic_0 (pc2 := 40) rfl ?_
      refine g_callV4v hc (C_X6_add (kf_7_1 ht)) mv_X6_add ln_X7_96 (kf_7_1 ht) ⟨by decide, by decide⟩ (Nat.le_of_ble_eq_true rfl) dX7_readPlan_40 (pc2 := 43) rfl (fun s45 => ?_)
      refine g_iconst hc dX7_readPlan_43 ic_1 (pc2 := 44) rfl ?_
      exact g_zret0 (by decide) hc dX7_readPlan_44
set_option maxRecDepth 100000 in
set_option maxHeartbeats 4000000 in
def f_X7_readPath (n : Nat) (t : Nat) (s0 : q_Sto) : Option (Int32 × q_Sto) :=
  q_call (f_X8_expectNumber n (q_RF t 0) 0 9 (-1) s0) fun r2 s1 =>
  if r2 = (-1) then (
  some (0, s1))
  else (
  q_call (f_X8_expectNumber n (q_RF t 0) 0 9 r2 s1) fun r5 s4 =>
  if r5 = (-1) then (
  some (0, s4))
  else (
  q_call (f_X8_expectWord n (q_RF t 0) 28 s4) fun r8 s7 =>
  if r8 = 0 then (
  some (0, s7))
  else (
  q_call (f_X8_expectNumber n (q_RF t 0) 1 24 (-1) s7) fun r11 s10 =>
  q_callv (f_X6_add n (q_RF t 1) r2 r5 r11 0 s10) fun s12 =>
  if r11 = (-1) then (
  some (0, s12))
  else (
  some (1, s12)))))
set_option maxRecDepth 100000 in
set_option maxHeartbeats 4000000 in
theorem C_X7_readPath {l : Launch} {w : q_Wd} {n : Nat} {t : Nat} (ht : q_KD t = .inl 7) {s0 : q_Sto} : q_C l w yX7_readPath cX7_readPath 4 (some .boolean) (q_rm 9 204) [q_rf w t] s0 (f_X7_readPath n t s0) := q_CofG [some (q_rf w t), none, none, none] (by decide +kernel) rfl rfl (Nat.le_of_ble_eq_true rfl) fun cx hl hc => by
  have hc : q_ok w cx RX7 cX7_readPath 4 (some .boolean) (q_rm 9 204) := hc
  rw [f_X7_readPath]
  refine g_rl0 hc dX7_readPath_0 rfl (pc2 := 1) rfl ?_
  refine g_getR hc fl_X7_20 rfl ht dX7_readPath_1 (pc2 := 4) rfl ?_
  refine g_iconst hc dX7_readPath_4 ic_0 (pc2 := 5) rfl ?_
  refine g_bipush hc dX7_readPath_5 bp_9 (pc2 := 7) rfl ?_
  refine g_iconst hc dX7_readPath_7 ic_m1 (pc2 := 8) rfl ?_
  refine g_callV3 hc (C_X8_expectNumber (kf_7_0 ht)) mv_X8_expectNumber ln_X7_82 (kf_7_0 ht) ⟨by decide, by decide⟩ (Nat.le_of_ble_eq_true rfl) dX7_readPath_8 (pc2 := 11) rfl (fun r2 s1 => ?_)
  refine g_is1 hc dX7_readPath_11 (by decide) (L2 := [some (q_rf w t), some (.int r2), none, none]) rfl (pc2 := 12) rfl ?_
  refine g_il1 hc dX7_readPath_12 rfl (pc2 := 13) rfl ?_
  refine g_iconst hc dX7_readPath_13 ic_m1 (pc2 := 14) rfl ?_
  refine g_icmp_ne hc dX7_readPath_14 (pc1 := 17) (pc2 := 19) rfl rfl (fun _ => ?_) (fun _ => ?_)
  · refine g_iconst hc dX7_readPath_17 ic_0 (pc2 := 18) rfl ?_
    exact g_zret0 (by decide) hc dX7_readPath_18
  · refine g_rl0 hc dX7_readPath_19 rfl (pc2 := 20) rfl ?_
    refine g_getR hc fl_X7_20 rfl ht dX7_readPath_20 (pc2 := 23) rfl ?_
    refine g_iconst hc dX7_readPath_23 ic_0 (pc2 := 24) rfl ?_
    refine g_bipush hc dX7_readPath_24 bp_9 (pc2 := 26) rfl ?_
    refine g_il1 hc dX7_readPath_26 rfl (pc2 := 27) rfl ?_
    refine g_callV3 hc (C_X8_expectNumber (kf_7_0 ht)) mv_X8_expectNumber ln_X7_82 (kf_7_0 ht) ⟨by decide, by decide⟩ (Nat.le_of_ble_eq_true rfl) dX7_readPath_27 (pc2 := 30) rfl (fun r5 s4 => ?_)
    refine g_is2 hc dX7_readPath_30 (by decide) (L2 := [some (q_rf w t), some (.int r2), some (.int r5), none]) rfl (pc2 := 31) rfl ?_
    refine g_il2 hc dX7_readPath_31 rfl (pc2 := 32) rfl ?_
    refine g_iconst hc dX7_readPath_32 ic_m1 (pc2 := 33) rfl ?_
    refine g_icmp_eq hc dX7_readPath_33 (pc1 := 48) (pc2 := 36) rfl rfl (fun _ => ?_) (fun _ => ?_)
    · refine g_iconst hc dX7_readPath_48 ic_0 (pc2 := 49) rfl ?_
      exact g_zret0 (by decide) hc dX7_readPath_49
    · refine g_rl0 hc dX7_readPath_36 rfl (pc2 := 37) rfl ?_
      refine g_getR hc fl_X7_20 rfl ht dX7_readPath_37 (pc2 := 40) rfl ?_
      refine g_ldcS (i := 28) (tx := "hours") hc (by decide +kernel) dX7_readPath_40 (pc2 := 42) rfl ?_
      refine g_callV1 hc (C_X8_expectWord (kf_7_0 ht) (by decide)) mv_X8_expectWord ln_X7_88 (kf_7_0 ht) ⟨by decide, by decide⟩ (Nat.le_of_ble_eq_true rfl) dX7_readPath_42 (pc2 := 45) rfl (fun r8 s7 => ?_)
      refine g_if_ne hc dX7_readPath_45 (pc1 := 48) (pc2 := 50) rfl rfl (fun _ => ?_) (fun _ => ?_)
      · refine g_iconst hc dX7_readPath_48 ic_0 (pc2 := 49) rfl ?_
        exact g_zret0 (by decide) hc dX7_readPath_49
      · refine g_rl0 hc dX7_readPath_50 rfl (pc2 := 51) rfl ?_
        refine g_getR hc fl_X7_20 rfl ht dX7_readPath_51 (pc2 := 54) rfl ?_
        refine g_iconst hc dX7_readPath_54 ic_1 (pc2 := 55) rfl ?_
        refine g_bipush hc dX7_readPath_55 bp_24 (pc2 := 57) rfl ?_
        refine g_iconst hc dX7_readPath_57 ic_m1 (pc2 := 58) rfl ?_
        refine g_callV3 hc (C_X8_expectNumber (kf_7_0 ht)) mv_X8_expectNumber ln_X7_82 (kf_7_0 ht) ⟨by decide, by decide⟩ (Nat.le_of_ble_eq_true rfl) dX7_readPath_58 (pc2 := 61) rfl (fun r11 s10 => ?_)
        refine g_is3 hc dX7_readPath_61 (by decide) (L2 := [some (q_rf w t), some (.int r2), some (.int r5), some (.int r11)]) rfl (pc2 := 62) rfl ?_
        refine g_rl0 hc dX7_readPath_62 rfl (pc2 := 63) rfl ?_
        refine g_getR hc fl_X7_14 rfl ht dX7_readPath_63 (pc2 := 66) rfl ?_
        refine g_il1 hc dX7_readPath_66 rfl (pc2 := 67) rfl ?_
        refine g_il2 hc dX7_readPath_67 rfl (pc2 := 68) rfl ?_
        refine g_il3 hc dX7_readPath_68 rfl (pc2 := 69) rfl ?_
        refine g_iconst hc dX7_readPath_69 ic_0 (pc2 := 70) rfl ?_
        refine g_callV4v hc (C_X6_add (kf_7_1 ht)) mv_X6_add ln_X7_96 (kf_7_1 ht) ⟨by decide, by decide⟩ (Nat.le_of_ble_eq_true rfl) dX7_readPath_70 (pc2 := 73) rfl (fun s12 => ?_)
        refine g_il3 hc dX7_readPath_73 rfl (pc2 := 74) rfl ?_
        refine g_iconst hc dX7_readPath_74 ic_m1 (pc2 := 75) rfl ?_
        refine g_icmp_eq hc dX7_readPath_75 (pc1 := 82) (pc2 := 78) rfl rfl (fun _ => ?_) (fun _ => ?_)
        · refine g_iconst hc dX7_readPath_82 ic_0 (pc2 := 83) rfl ?_
          exact g_zret0 (by decide) hc dX7_readPath_83
        · refine g_iconst hc dX7_readPath_78 ic_1 (pc2 := 79) rfl ?_
          refine g_goto hc dX7_readPath_79 (pc2 := 83) rfl ?_
          exact g_zret0 (by decide) hc dX7_readPath_83
set_option maxRecDepth 100000 in
set_option maxHeartbeats 4000000 in
def f_X7_readLoad (n : Nat) (t : Nat) (s0 : q_Sto) : Option (Int32 × q_Sto) :=
  q_call (f_X8_expectNumber n (q_RF t 0) 1 40 (-1) s0) fun r2 s1 =>
  if r2 = (-1) then (
  some (0, s1))
  else (
  q_call (f_X8_expectWord n (q_RF t 0) 29 s1) fun r5 s4 =>
  if r5 = 0 then (
  some (0, s4))
  else (
  q_call (f_X8_expectNumber n (q_RF t 0) 1 99 (-1) s4) fun r8 s7 =>
  q_callv (f_X6_add n (q_RF t 1) r2 r8 0 0 s7) fun s9 =>
  if r8 = (-1) then (
  some (0, s9))
  else (
  some (1, s9))))
set_option maxRecDepth 100000 in
set_option maxHeartbeats 4000000 in
theorem C_X7_readLoad {l : Launch} {w : q_Wd} {n : Nat} {t : Nat} (ht : q_KD t = .inl 7) {s0 : q_Sto} : q_C l w yX7_readLoad cX7_readLoad 3 (some .boolean) (q_rm 9 204) [q_rf w t] s0 (f_X7_readLoad n t s0) := q_CofG [some (q_rf w t), none, none] (by decide +kernel) rfl rfl (Nat.le_of_ble_eq_true rfl) fun cx hl hc => by
  have hc : q_ok w cx RX7 cX7_readLoad 3 (some .boolean) (q_rm 9 204) := hc
  rw [f_X7_readLoad]
  refine g_rl0 hc dX7_readLoad_0 rfl (pc2 := 1) rfl ?_
  refine g_getR hc fl_X7_20 rfl ht dX7_readLoad_1 (pc2 := 4) rfl ?_
  refine g_iconst hc dX7_readLoad_4 ic_1 (pc2 := 5) rfl ?_
  refine g_bipush hc dX7_readLoad_5 bp_40 (pc2 := 7) rfl ?_
  refine g_iconst hc dX7_readLoad_7 ic_m1 (pc2 := 8) rfl ?_
  refine g_callV3 hc (C_X8_expectNumber (kf_7_0 ht)) mv_X8_expectNumber ln_X7_82 (kf_7_0 ht) ⟨by decide, by decide⟩ (Nat.le_of_ble_eq_true rfl) dX7_readLoad_8 (pc2 := 11) rfl (fun r2 s1 => ?_)
  refine g_is1 hc dX7_readLoad_11 (by decide) (L2 := [some (q_rf w t), some (.int r2), none]) rfl (pc2 := 12) rfl ?_
  refine g_il1 hc dX7_readLoad_12 rfl (pc2 := 13) rfl ?_
  refine g_iconst hc dX7_readLoad_13 ic_m1 (pc2 := 14) rfl ?_
  refine g_icmp_eq hc dX7_readLoad_14 (pc1 := 29) (pc2 := 17) rfl rfl (fun _ => ?_) (fun _ => ?_)
  · refine g_iconst hc dX7_readLoad_29 ic_0 (pc2 := 30) rfl ?_
    exact g_zret0 (by decide) hc dX7_readLoad_30
  · refine g_rl0 hc dX7_readLoad_17 rfl (pc2 := 18) rfl ?_
    refine g_getR hc fl_X7_20 rfl ht dX7_readLoad_18 (pc2 := 21) rfl ?_
    refine g_ldcS (i := 29) (tx := "worth") hc (by decide +kernel) dX7_readLoad_21 (pc2 := 23) rfl ?_
    refine g_callV1 hc (C_X8_expectWord (kf_7_0 ht) (by decide)) mv_X8_expectWord ln_X7_88 (kf_7_0 ht) ⟨by decide, by decide⟩ (Nat.le_of_ble_eq_true rfl) dX7_readLoad_23 (pc2 := 26) rfl (fun r5 s4 => ?_)
    refine g_if_ne hc dX7_readLoad_26 (pc1 := 29) (pc2 := 31) rfl rfl (fun _ => ?_) (fun _ => ?_)
    · refine g_iconst hc dX7_readLoad_29 ic_0 (pc2 := 30) rfl ?_
      exact g_zret0 (by decide) hc dX7_readLoad_30
    · refine g_rl0 hc dX7_readLoad_31 rfl (pc2 := 32) rfl ?_
      refine g_getR hc fl_X7_20 rfl ht dX7_readLoad_32 (pc2 := 35) rfl ?_
      refine g_iconst hc dX7_readLoad_35 ic_1 (pc2 := 36) rfl ?_
      refine g_bipush hc dX7_readLoad_36 bp_99 (pc2 := 38) rfl ?_
      refine g_iconst hc dX7_readLoad_38 ic_m1 (pc2 := 39) rfl ?_
      refine g_callV3 hc (C_X8_expectNumber (kf_7_0 ht)) mv_X8_expectNumber ln_X7_82 (kf_7_0 ht) ⟨by decide, by decide⟩ (Nat.le_of_ble_eq_true rfl) dX7_readLoad_39 (pc2 := 42) rfl (fun r8 s7 => ?_)
      refine g_is2 hc dX7_readLoad_42 (by decide) (L2 := [some (q_rf w t), some (.int r2), some (.int r8)]) rfl (pc2 := 43) rfl ?_
      refine g_rl0 hc dX7_readLoad_43 rfl (pc2 := 44) rfl ?_
      refine g_getR hc fl_X7_14 rfl ht dX7_readLoad_44 (pc2 := 47) rfl ?_
      refine g_il1 hc dX7_readLoad_47 rfl (pc2 := 48) rfl ?_
      refine g_il2 hc dX7_readLoad_48 rfl (pc2 := 49) rfl ?_
      refine g_iconst hc dX7_readLoad_49 ic_0 (pc2 := 50) rfl ?_
      refine g_iconst hc dX7_readLoad_50 ic_0 (pc2 := 51) rfl ?_
      refine g_callV4v hc (C_X6_add (kf_7_1 ht)) mv_X6_add ln_X7_96 (kf_7_1 ht) ⟨by decide, by decide⟩ (Nat.le_of_ble_eq_true rfl) dX7_readLoad_51 (pc2 := 54) rfl (fun s9 => ?_)
      refine g_il2 hc dX7_readLoad_54 rfl (pc2 := 55) rfl ?_
      refine g_iconst hc dX7_readLoad_55 ic_m1 (pc2 := 56) rfl ?_
      refine g_icmp_eq hc dX7_readLoad_56 (pc1 := 63) (pc2 := 59) rfl rfl (fun _ => ?_) (fun _ => ?_)
      · refine g_iconst hc dX7_readLoad_63 ic_0 (pc2 := 64) rfl ?_
        exact g_zret0 (by decide) hc dX7_readLoad_64
      · refine g_iconst hc dX7_readLoad_59 ic_1 (pc2 := 60) rfl ?_
        refine g_goto hc dX7_readLoad_60 (pc2 := 64) rfl ?_
        exact g_zret0 (by decide) hc dX7_readLoad_64
