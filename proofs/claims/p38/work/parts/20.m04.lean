set_option maxRecDepth 100000 in
set_option maxHeartbeats 4000000 in
def f_X10_riskOf (n : Nat) (t : Nat) (a0 : Int32) (a1 : Int32) (a2 : Int32) (s0 : q_Sto) : Option (Int32 × q_Sto) :=
  q_callv (f_X10_factsOf n t a0 a2 s0) fun s1 =>
  q_st s1 (q_RF t 8) 8 10 a1 fun s3 =>
  q_call (f_X2_tells n (q_RF t 1) 2 (q_RF t 8) (20 * (s3 (q_RF t 0) 11)) s3) fun r5 s4 =>
  some (q_mx 0 (q_mn 1000 r5), s4)
set_option maxRecDepth 100000 in
set_option maxHeartbeats 4000000 in
theorem C_X10_riskOf {l : Launch} {w : q_Wd} {n : Nat} {t : Nat} {a0 : Int32} {a1 : Int32} {a2 : Int32} (ht : q_KD t = .inl 10) {s0 : q_Sto} : q_C l w yX10_riskOf cX10_riskOf 4 (some .int) (q_rm 2 53) [q_rf w t, .int a0, .int a1, .int a2] s0 (f_X10_riskOf n t a0 a1 a2 s0) := q_CofG [some (q_rf w t), some (.int a0), some (.int a1), some (.int a2)] (by decide +kernel) rfl rfl (Nat.le_of_ble_eq_true rfl) fun cx hl hc => by
  have hc : q_ok w cx RX10 cX10_riskOf 4 (some .int) (q_rm 2 53) := hc
  rw [f_X10_riskOf]
  refine g_rl0 hc dX10_riskOf_0 rfl (pc2 := 1) rfl ?_
  refine g_il1 hc dX10_riskOf_1 rfl (pc2 := 2) rfl ?_
  refine g_il3 hc dX10_riskOf_2 rfl (pc2 := 3) rfl ?_
  refine g_callV2v hc (C_X10_factsOf ht) mv_X10_factsOf ln_X10_93 ht ⟨by decide, by decide⟩ (Nat.le_of_ble_eq_true rfl) dX10_riskOf_3 (pc2 := 6) rfl (fun s1 => ?_)
  refine g_rl0 hc dX10_riskOf_6 rfl (pc2 := 7) rfl ?_
  refine g_getR hc fl_X10_50 rfl ht dX10_riskOf_7 (pc2 := 10) rfl ?_
  refine g_bipush hc dX10_riskOf_10 bp_8 (pc2 := 12) rfl ?_
  refine g_il2 hc dX10_riskOf_12 rfl (pc2 := 13) rfl ?_
  refine g_iast hc (kf_10_8 ht) (kl_10_8 ht) dX10_riskOf_13 (pc2 := 14) rfl (fun s3 => ?_)
  refine g_iconst hc dX10_riskOf_14 ic_0 (pc2 := 15) rfl ?_
  refine g_sipush hc dX10_riskOf_15 sp_1000 (pc2 := 18) rfl ?_
  refine g_rl0 hc dX10_riskOf_18 rfl (pc2 := 19) rfl ?_
  refine g_getR hc fl_X10_21 rfl ht dX10_riskOf_19 (pc2 := 22) rfl ?_
  refine g_iconst hc dX10_riskOf_22 ic_2 (pc2 := 23) rfl ?_
  refine g_rl0 hc dX10_riskOf_23 rfl (pc2 := 24) rfl ?_
  refine g_getR hc fl_X10_50 rfl ht dX10_riskOf_24 (pc2 := 27) rfl ?_
  refine g_bipush hc dX10_riskOf_27 bp_20 (pc2 := 29) rfl ?_
  refine g_rl0 hc dX10_riskOf_29 rfl (pc2 := 30) rfl ?_
  refine g_getR hc fl_X10_12 rfl ht dX10_riskOf_30 (pc2 := 33) rfl ?_
  refine g_getI hc fl_X10_86 rfl (kf_10_0 ht) dX10_riskOf_33 (pc2 := 36) rfl ?_
  refine g_imul hc dX10_riskOf_36 (pc2 := 37) rfl ?_
  refine g_callV3 hc (C_X2_tells (kf_10_1 ht) (kf_10_8 ht) (kl_10_8 ht)) mv_X2_tells ln_X10_97 (kf_10_1 ht) ⟨by decide, by decide⟩ (Nat.le_of_ble_eq_true rfl) dX10_riskOf_37 (pc2 := 40) rfl (fun r5 s4 => ?_)
  refine g_min hc ln_X10_101 ⟨by decide, by decide⟩ (Nat.le_of_ble_eq_true rfl) dX10_riskOf_40 (pc2 := 43) rfl ?_
  refine g_max hc ln_X10_107 ⟨by decide, by decide⟩ (Nat.le_of_ble_eq_true rfl) dX10_riskOf_43 (pc2 := 46) rfl ?_
  exact g_iret hc dX10_riskOf_46
set_option maxRecDepth 100000 in
set_option maxHeartbeats 4000000 in
def f_X10_hoursBetween_L2 (n : Nat) (x0 : Nat) (x1 : Int32) (x2 : Int32) (k39 : Int32 → q_Sto → Option (Int32 × q_Sto)) : Nat → Int32 → q_Sto → Option (Int32 × q_Sto)
  | 0, _, _ => none
  | j + 1, x3, s0 =>
    if x3 < (s0 (q_RF x0 4) 2) then (
    q_call (f_X6_cell n (q_RF x0 4) x3 0 s0) fun r3 s2 =>
    if r3 = x1 then (
    q_call (f_X6_cell n (q_RF x0 4) x3 1 s2) fun r6 s5 =>
    if r6 = x2 then (
    k39 x3 s5)
    else (
    f_X10_hoursBetween_L2 n x0 x1 x2 k39 j (x3 + 1) s5))
    else (
    f_X10_hoursBetween_L2 n x0 x1 x2 k39 j (x3 + 1) s2))
    else (
    some ((-1), s0))
set_option maxRecDepth 100000 in
set_option maxHeartbeats 4000000 in
def f_X10_hoursBetween (n : Nat) (t : Nat) (a0 : Int32) (a1 : Int32) (s0 : q_Sto) : Option (Int32 × q_Sto) :=
  f_X10_hoursBetween_L2 n t a0 a1 (fun (y8 : Int32) (s9 : q_Sto) =>
  q_call (f_X6_cell n (q_RF t 4) y8 2 s9) fun r11 s10 =>
  some (r11, s10)) n 0 s0
set_option maxRecDepth 100000 in
set_option maxHeartbeats 4000000 in
theorem t_X10_hoursBetween_L2 {w : q_Wd} {cx : q_Cx} (hc : q_ok w cx RX10 cX10_hoursBetween 4 (some .int) (q_rm 1 22)) {n : Nat} {x0 : Nat} {x1 : Int32} {x2 : Int32} (hx0 : q_KD x0 = .inl 10) {k39 : Int32 → q_Sto → Option (Int32 × q_Sto)} (hk39 : ∀ (y3 : Int32) (s1 : q_Sto), q_G w cx 4 (some .int) 39 [some (q_rf w x0), none, none, some (.int y3)] [] s1 (k39 y3 s1)) :
    ∀ (j : Nat) (x3 : Int32) (s0 : q_Sto), q_G w cx 4 (some .int) 2 [some (q_rf w x0), some (.int x1), some (.int x2), some (.int x3)] [] s0 (f_X10_hoursBetween_L2 n x0 x1 x2 k39 j x3 s0) := by
  intro j
  induction j with
  | zero =>
    intro _ _
    rw [f_X10_hoursBetween_L2]
    exact q_none
  | succ j ih =>
    intro x3 s0
    rw [f_X10_hoursBetween_L2]
    refine g_il3 hc dX10_hoursBetween_2 rfl (pc2 := 3) rfl ?_
    refine g_rl0 hc dX10_hoursBetween_3 rfl (pc2 := 4) rfl ?_
    refine g_getR hc fl_X10_37 rfl hx0 dX10_hoursBetween_4 (pc2 := 7) rfl ?_
    refine g_getI hc fl_X10_148 rfl (kf_10_4 hx0) dX10_hoursBetween_7 (pc2 := 10) rfl ?_
    refine g_icmp_ge hc dX10_hoursBetween_10 (pc1 := 13) (pc2 := 55) rfl rfl (fun _ => ?_) (fun _ => ?_)
    · refine g_rl0 hc dX10_hoursBetween_13 rfl (pc2 := 14) rfl ?_
      refine g_getR hc fl_X10_37 rfl hx0 dX10_hoursBetween_14 (pc2 := 17) rfl ?_
      refine g_il3 hc dX10_hoursBetween_17 rfl (pc2 := 18) rfl ?_
      refine g_iconst hc dX10_hoursBetween_18 ic_0 (pc2 := 19) rfl ?_
      refine g_callV2 hc (C_X6_cell (kf_10_4 hx0)) mv_X6_cell ln_X10_151 (kf_10_4 hx0) ⟨by decide, by decide⟩ (Nat.le_of_ble_eq_true rfl) dX10_hoursBetween_19 (pc2 := 22) rfl (fun r3 s2 => ?_)
      refine g_il1 hc dX10_hoursBetween_22 rfl (pc2 := 23) rfl ?_
      refine g_icmp_ne hc dX10_hoursBetween_23 (pc1 := 26) (pc2 := 49) rfl rfl (fun _ => ?_) (fun _ => ?_)
      · refine g_rl0 hc dX10_hoursBetween_26 rfl (pc2 := 27) rfl ?_
        refine g_getR hc fl_X10_37 rfl hx0 dX10_hoursBetween_27 (pc2 := 30) rfl ?_
        refine g_il3 hc dX10_hoursBetween_30 rfl (pc2 := 31) rfl ?_
        refine g_iconst hc dX10_hoursBetween_31 ic_1 (pc2 := 32) rfl ?_
        refine g_callV2 hc (C_X6_cell (kf_10_4 hx0)) mv_X6_cell ln_X10_151 (kf_10_4 hx0) ⟨by decide, by decide⟩ (Nat.le_of_ble_eq_true rfl) dX10_hoursBetween_32 (pc2 := 35) rfl (fun r6 s5 => ?_)
        refine g_il2 hc dX10_hoursBetween_35 rfl (pc2 := 36) rfl ?_
        refine g_icmp_ne hc dX10_hoursBetween_36 (pc1 := 39) (pc2 := 49) rfl rfl (fun _ => ?_) (fun _ => ?_)
        · refine q_Gmask [true, false, false, true] (L2 := [some (q_rf w x0), none, none, some (.int x3)]) rfl ?_
          exact hk39 _ _
        · refine g_iinc hc dX10_hoursBetween_49 rfl (q_ii ic_1) (by decide) (L2 := [some (q_rf w x0), some (.int x1), some (.int x2), some (.int (x3 + 1))]) rfl (pc2 := 52) rfl ?_
          refine g_goto hc dX10_hoursBetween_52 (pc2 := 2) rfl ?_
          exact ih _ _
      · refine g_iinc hc dX10_hoursBetween_49 rfl (q_ii ic_1) (by decide) (L2 := [some (q_rf w x0), some (.int x1), some (.int x2), some (.int (x3 + 1))]) rfl (pc2 := 52) rfl ?_
        refine g_goto hc dX10_hoursBetween_52 (pc2 := 2) rfl ?_
        exact ih _ _
    · refine g_iconst hc dX10_hoursBetween_55 ic_m1 (pc2 := 56) rfl ?_
      exact g_iret hc dX10_hoursBetween_56
set_option maxRecDepth 100000 in
set_option maxHeartbeats 4000000 in
theorem C_X10_hoursBetween {l : Launch} {w : q_Wd} {n : Nat} {t : Nat} {a0 : Int32} {a1 : Int32} (ht : q_KD t = .inl 10) {s0 : q_Sto} : q_C l w yX10_hoursBetween cX10_hoursBetween 4 (some .int) (q_rm 1 22) [q_rf w t, .int a0, .int a1] s0 (f_X10_hoursBetween n t a0 a1 s0) := q_CofG [some (q_rf w t), some (.int a0), some (.int a1), none] (by decide +kernel) rfl rfl (Nat.le_of_ble_eq_true rfl) fun cx hl hc => by
  have hc : q_ok w cx RX10 cX10_hoursBetween 4 (some .int) (q_rm 1 22) := hc
  rw [f_X10_hoursBetween]
  refine g_iconst hc dX10_hoursBetween_0 ic_0 (pc2 := 1) rfl ?_
  refine g_is3 hc dX10_hoursBetween_1 (by decide) (L2 := [some (q_rf w t), some (.int a0), some (.int a1), some (.int 0)]) rfl (pc2 := 2) rfl ?_
  refine t_X10_hoursBetween_L2 hc ht (fun y8 s9 => ?_) n _ _
  refine g_rl0 hc dX10_hoursBetween_39 rfl (pc2 := 40) rfl ?_
  refine g_getR hc fl_X10_37 rfl ht dX10_hoursBetween_40 (pc2 := 43) rfl ?_
  refine g_il3 hc dX10_hoursBetween_43 rfl (pc2 := 44) rfl ?_
  refine g_iconst hc dX10_hoursBetween_44 ic_2 (pc2 := 45) rfl ?_
  refine g_callV2 hc (C_X6_cell (kf_10_4 ht)) mv_X6_cell ln_X10_151 (kf_10_4 ht) ⟨by decide, by decide⟩ (Nat.le_of_ble_eq_true rfl) dX10_hoursBetween_45 (pc2 := 48) rfl (fun r11 s10 => ?_)
  exact g_iret hc dX10_hoursBetween_48
set_option maxRecDepth 100000 in
set_option maxHeartbeats 4000000 in
def f_X10_write (n : Nat) (t : Nat) (a0 : Int32) (a1 : Int32) (a2 : Int32) (s0 : q_Sto) : Option (Int32 × q_Sto) :=
  if (s0 (q_RF t 0) 17) < 0 then (
  some (0, s0))
  else (
  if (s0 (q_RF t 0) 17) < 150 then (
  q_nm ((s0 (q_RF t 0) 17) * 4) fun v3 =>
  q_st s0 (q_RF t 7) v3 600 (s0 (q_RF t 0) 16) fun s4 =>
  q_st s4 (q_RF t 7) (v3 + 1) 600 a0 fun s5 =>
  q_st s5 (q_RF t 7) (v3 + 2) 600 a1 fun s6 =>
  q_st s6 (q_RF t 7) (v3 + 3) 600 a2 fun s7 =>
  q_nS1 (q_up s7 (q_RF t 0) 17 ((s7 (q_RF t 0) 17) + 1)) fun s8 =>
  some (0, s8))
  else (
  some (0, s0)))
set_option maxRecDepth 100000 in
set_option maxHeartbeats 4000000 in
theorem C_X10_write {l : Launch} {w : q_Wd} {n : Nat} {t : Nat} {a0 : Int32} {a1 : Int32} {a2 : Int32} (ht : q_KD t = .inl 10) {s0 : q_Sto} : q_C l w yX10_write cX10_write 5 (none) (q_rm 0 0) [q_rf w t, .int a0, .int a1, .int a2] s0 (f_X10_write n t a0 a1 a2 s0) := q_CofG [some (q_rf w t), some (.int a0), some (.int a1), some (.int a2), none] (by decide +kernel) rfl rfl (Nat.le_of_ble_eq_true rfl) fun cx hl hc => by
  have hc : q_ok w cx RX10 cX10_write 5 (none) (q_rm 0 0) := hc
  rw [f_X10_write]
  refine g_rl0 hc dX10_write_0 rfl (pc2 := 1) rfl ?_
  refine g_getR hc fl_X10_12 rfl ht dX10_write_1 (pc2 := 4) rfl ?_
  refine g_getI hc fl_X10_154 rfl (kf_10_0 ht) dX10_write_4 (pc2 := 7) rfl ?_
  refine g_if_lt hc dX10_write_7 (pc1 := 91) (pc2 := 10) rfl rfl (fun _ => ?_) (fun _ => ?_)
  · exact g_vret hc dX10_write_91
  · refine g_rl0 hc dX10_write_10 rfl (pc2 := 11) rfl ?_
    refine g_getR hc fl_X10_12 rfl ht dX10_write_11 (pc2 := 14) rfl ?_
    refine g_getI hc fl_X10_154 rfl (kf_10_0 ht) dX10_write_14 (pc2 := 17) rfl ?_
    refine g_sipush hc dX10_write_17 sp_150 (pc2 := 20) rfl ?_
    refine g_icmp_ge hc dX10_write_20 (pc1 := 23) (pc2 := 91) rfl rfl (fun _ => ?_) (fun _ => ?_)
    · refine g_rl0 hc dX10_write_23 rfl (pc2 := 24) rfl ?_
      refine g_getR hc fl_X10_12 rfl ht dX10_write_24 (pc2 := 27) rfl ?_
      refine g_getI hc fl_X10_154 rfl (kf_10_0 ht) dX10_write_27 (pc2 := 30) rfl ?_
      refine g_iconst hc dX10_write_30 ic_4 (pc2 := 31) rfl ?_
      refine g_imul hc dX10_write_31 (pc2 := 32) rfl ?_
      refine g_nm (fun v3 => ?_)
      refine g_istore hc dX10_write_32 (by decide) (L2 := [some (q_rf w t), some (.int a0), some (.int a1), some (.int a2), some (.int v3)]) rfl (pc2 := 34) rfl ?_
      refine g_rl0 hc dX10_write_34 rfl (pc2 := 35) rfl ?_
      refine g_getR hc fl_X10_46 rfl ht dX10_write_35 (pc2 := 38) rfl ?_
      refine g_iload hc dX10_write_38 rfl (pc2 := 40) rfl ?_
      refine g_rl0 hc dX10_write_40 rfl (pc2 := 41) rfl ?_
      refine g_getR hc fl_X10_12 rfl ht dX10_write_41 (pc2 := 44) rfl ?_
      refine g_getI hc fl_X10_90 rfl (kf_10_0 ht) dX10_write_44 (pc2 := 47) rfl ?_
      refine g_iast hc (kf_10_7 ht) (kl_10_7 ht) dX10_write_47 (pc2 := 48) rfl (fun s4 => ?_)
      refine g_rl0 hc dX10_write_48 rfl (pc2 := 49) rfl ?_
      refine g_getR hc fl_X10_46 rfl ht dX10_write_49 (pc2 := 52) rfl ?_
      refine g_iload hc dX10_write_52 rfl (pc2 := 54) rfl ?_
      refine g_iconst hc dX10_write_54 ic_1 (pc2 := 55) rfl ?_
      refine g_iadd hc dX10_write_55 (pc2 := 56) rfl ?_
      refine g_il1 hc dX10_write_56 rfl (pc2 := 57) rfl ?_
      refine g_iast hc (kf_10_7 ht) (kl_10_7 ht) dX10_write_57 (pc2 := 58) rfl (fun s5 => ?_)
      refine g_rl0 hc dX10_write_58 rfl (pc2 := 59) rfl ?_
      refine g_getR hc fl_X10_46 rfl ht dX10_write_59 (pc2 := 62) rfl ?_
      refine g_iload hc dX10_write_62 rfl (pc2 := 64) rfl ?_
      refine g_iconst hc dX10_write_64 ic_2 (pc2 := 65) rfl ?_
      refine g_iadd hc dX10_write_65 (pc2 := 66) rfl ?_
      refine g_il2 hc dX10_write_66 rfl (pc2 := 67) rfl ?_
      refine g_iast hc (kf_10_7 ht) (kl_10_7 ht) dX10_write_67 (pc2 := 68) rfl (fun s6 => ?_)
      refine g_rl0 hc dX10_write_68 rfl (pc2 := 69) rfl ?_
      refine g_getR hc fl_X10_46 rfl ht dX10_write_69 (pc2 := 72) rfl ?_
      refine g_iload hc dX10_write_72 rfl (pc2 := 74) rfl ?_
      refine g_iconst hc dX10_write_74 ic_3 (pc2 := 75) rfl ?_
      refine g_iadd hc dX10_write_75 (pc2 := 76) rfl ?_
      refine g_il3 hc dX10_write_76 rfl (pc2 := 77) rfl ?_
      refine g_iast hc (kf_10_7 ht) (kl_10_7 ht) dX10_write_77 (pc2 := 78) rfl (fun s7 => ?_)
      refine g_rl0 hc dX10_write_78 rfl (pc2 := 79) rfl ?_
      refine g_getR hc fl_X10_12 rfl ht dX10_write_79 (pc2 := 82) rfl ?_
      refine g_dup hc dX10_write_82 rfl (pc2 := 83) rfl ?_
      refine g_getI hc fl_X10_154 rfl (kf_10_0 ht) dX10_write_83 (pc2 := 86) rfl ?_
      refine g_iconst hc dX10_write_86 ic_1 (pc2 := 87) rfl ?_
      refine g_iadd hc dX10_write_87 (pc2 := 88) rfl ?_
      refine g_putI hc fl_X10_154 rfl (kf_10_0 ht) dX10_write_88 (pc2 := 91) rfl (fun s8 => ?_)
      exact g_vret hc dX10_write_91
    · exact g_vret hc dX10_write_91
set_option maxRecDepth 100000 in
set_option maxHeartbeats 4000000 in
def f_X10_read (n : Nat) (t : Nat) (a0 : Int32) (a1 : Int32) (s0 : q_Sto) : Option (Int32 × q_Sto) :=
  if a0 < 0 then (
  some ((-2), s0))
  else (
  if a0 < 150 then (
  if a1 < 0 then (
  some ((-2), s0))
  else (
  if a1 < 4 then (
  q_ld s0 (q_RF t 7) ((a0 * 4) + a1) 600 fun v5 =>
  some (v5, s0))
  else (
  some ((-2), s0))))
  else (
  some ((-2), s0)))
set_option maxRecDepth 100000 in
set_option maxHeartbeats 4000000 in
theorem C_X10_read {l : Launch} {w : q_Wd} {n : Nat} {t : Nat} {a0 : Int32} {a1 : Int32} (ht : q_KD t = .inl 10) {s0 : q_Sto} : q_C l w yX10_read cX10_read 3 (some .int) (q_rm 0 0) [q_rf w t, .int a0, .int a1] s0 (f_X10_read n t a0 a1 s0) := q_CofG [some (q_rf w t), some (.int a0), some (.int a1)] (by decide +kernel) rfl rfl (Nat.le_of_ble_eq_true rfl) fun cx hl hc => by
  have hc : q_ok w cx RX10 cX10_read 3 (some .int) (q_rm 0 0) := hc
  rw [f_X10_read]
  refine g_il1 hc dX10_read_0 rfl (pc2 := 1) rfl ?_
  refine g_if_lt hc dX10_read_1 (pc1 := 20) (pc2 := 4) rfl rfl (fun _ => ?_) (fun _ => ?_)
  · refine g_bipush hc dX10_read_20 bp_m2 (pc2 := 22) rfl ?_
    exact g_iret hc dX10_read_22
  · refine g_il1 hc dX10_read_4 rfl (pc2 := 5) rfl ?_
    refine g_sipush hc dX10_read_5 sp_150 (pc2 := 8) rfl ?_
    refine g_icmp_ge hc dX10_read_8 (pc1 := 11) (pc2 := 20) rfl rfl (fun _ => ?_) (fun _ => ?_)
    · refine g_il2 hc dX10_read_11 rfl (pc2 := 12) rfl ?_
      refine g_if_lt hc dX10_read_12 (pc1 := 20) (pc2 := 15) rfl rfl (fun _ => ?_) (fun _ => ?_)
      · refine g_bipush hc dX10_read_20 bp_m2 (pc2 := 22) rfl ?_
        exact g_iret hc dX10_read_22
      · refine g_il2 hc dX10_read_15 rfl (pc2 := 16) rfl ?_
        refine g_iconst hc dX10_read_16 ic_4 (pc2 := 17) rfl ?_
        refine g_icmp_lt hc dX10_read_17 (pc1 := 23) (pc2 := 20) rfl rfl (fun _ => ?_) (fun _ => ?_)
        · refine g_rl0 hc dX10_read_23 rfl (pc2 := 24) rfl ?_
          refine g_getR hc fl_X10_46 rfl ht dX10_read_24 (pc2 := 27) rfl ?_
          refine g_il1 hc dX10_read_27 rfl (pc2 := 28) rfl ?_
          refine g_iconst hc dX10_read_28 ic_4 (pc2 := 29) rfl ?_
          refine g_imul hc dX10_read_29 (pc2 := 30) rfl ?_
          refine g_il2 hc dX10_read_30 rfl (pc2 := 31) rfl ?_
          refine g_iadd hc dX10_read_31 (pc2 := 32) rfl ?_
          refine g_iald hc (kf_10_7 ht) (kl_10_7 ht) dX10_read_32 (pc2 := 33) rfl (fun v5 => ?_)
          exact g_iret hc dX10_read_33
        · refine g_bipush hc dX10_read_20 bp_m2 (pc2 := 22) rfl ?_
          exact g_iret hc dX10_read_22
    · refine g_bipush hc dX10_read_20 bp_m2 (pc2 := 22) rfl ?_
      exact g_iret hc dX10_read_22
set_option maxRecDepth 100000 in
set_option maxHeartbeats 4000000 in
def f_X10_castVote_L7 (n : Nat) (x0 : Nat) (x1 : Nat) (k44 : q_Sto → Option (Int32 × q_Sto)) : Nat → Int32 → q_Sto → Option (Int32 × q_Sto)
  | 0, _, _ => none
  | j + 1, x2, s0 =>
    if x2 < (s0 (q_RF x0 0) 8) then (
    if x2 < 12 then (
    q_call (f_X0_choiceOf n x1 x2 s0) fun r6 s5 =>
    q_st s5 (q_RF (q_RF x0 0) 3) x2 12 r6 fun s7 =>
    f_X10_castVote_L7 n x0 x1 k44 j (x2 + 1) s7)
    else (
    k44 s0))
    else (
    k44 s0)
set_option maxRecDepth 100000 in
set_option maxHeartbeats 4000000 in
def f_X10_castVote (n : Nat) (t : Nat) (a0 : Nat) (s0 : q_Sto) : Option (Int32 × q_Sto) :=
  q_callv (f_X0_standNow n a0 t s0) fun s1 =>
  f_X10_castVote_L7 n t a0 (fun  (s8 : q_Sto) =>
  q_nS1 (q_up s8 (q_RF t 0) 13 (s8 a0 8)) fun s9 =>
  q_jn (fun  (s10 : q_Sto) =>
    if (s10 (q_RF t 0) 13) = (-1) then (
    q_callv (f_X10_write n t 0 (s10 (q_RF t 0) 13) 0 s10) fun s12 =>
    some (0, s12))
    else (
    q_call (f_X9_behindOf n (q_RF t 0) (s10 (q_RF t 0) 13) s10) fun r15 s14 =>
    q_call (f_J6_bitCount_0f7a4 n r15 s14) fun r17 s16 =>
    q_callv (f_X10_write n t 0 (s10 (q_RF t 0) 13) r17 s16) fun s18 =>
    some (0, s18))) fun j79 =>
  if (s9 (q_RF t 0) 13) = (-1) then (
  q_nS1 (q_up s9 (q_RF t 0) 14 ((s9 (q_RF t 0) 14) + 1)) fun s21 =>
  j79 s21)
  else (
  j79 s9)) n 0 s1
set_option maxRecDepth 100000 in
set_option maxHeartbeats 4000000 in
theorem t_X10_castVote_L7 {w : q_Wd} {cx : q_Cx} (hc : q_ok w cx RX10 cX10_castVote 3 (none) (q_rm 4 105)) {n : Nat} {x0 : Nat} {x1 : Nat} (hx0 : q_KD x0 = .inl 10) (hx1 : q_KD x1 = .inl 0) {k44 : q_Sto → Option (Int32 × q_Sto)} (hk44 : ∀  (s1 : q_Sto), q_G w cx 3 (none) 44 [some (q_rf w x0), some (q_rf w x1), none] [] s1 (k44 s1)) :
    ∀ (j : Nat) (x2 : Int32) (s0 : q_Sto), q_G w cx 3 (none) 7 [some (q_rf w x0), some (q_rf w x1), some (.int x2)] [] s0 (f_X10_castVote_L7 n x0 x1 k44 j x2 s0) := by
  intro j
  induction j with
  | zero =>
    intro _ _
    rw [f_X10_castVote_L7]
    exact q_none
  | succ j ih =>
    intro x2 s0
    rw [f_X10_castVote_L7]
    refine g_il2 hc dX10_castVote_7 rfl (pc2 := 8) rfl ?_
    refine g_rl0 hc dX10_castVote_8 rfl (pc2 := 9) rfl ?_
    refine g_getR hc fl_X10_12 rfl hx0 dX10_castVote_9 (pc2 := 12) rfl ?_
    refine g_getI hc fl_X10_133 rfl (kf_10_0 hx0) dX10_castVote_12 (pc2 := 15) rfl ?_
    refine g_icmp_ge hc dX10_castVote_15 (pc1 := 18) (pc2 := 44) rfl rfl (fun _ => ?_) (fun _ => ?_)
    · refine g_il2 hc dX10_castVote_18 rfl (pc2 := 19) rfl ?_
      refine g_bipush hc dX10_castVote_19 bp_12 (pc2 := 21) rfl ?_
      refine g_icmp_ge hc dX10_castVote_21 (pc1 := 24) (pc2 := 44) rfl rfl (fun _ => ?_) (fun _ => ?_)
      · refine g_rl0 hc dX10_castVote_24 rfl (pc2 := 25) rfl ?_
        refine g_getR hc fl_X10_12 rfl hx0 dX10_castVote_25 (pc2 := 28) rfl ?_
        refine g_getR hc fl_X10_163 rfl (kf_10_0 hx0) dX10_castVote_28 (pc2 := 31) rfl ?_
        refine g_il2 hc dX10_castVote_31 rfl (pc2 := 32) rfl ?_
        refine g_rl1 hc dX10_castVote_32 rfl (pc2 := 33) rfl ?_
        refine g_il2 hc dX10_castVote_33 rfl (pc2 := 34) rfl ?_
        refine g_callV1 hc (C_X0_choiceOf hx1) mv_X0_choiceOf ln_X10_166 hx1 ⟨by decide, by decide⟩ (Nat.le_of_ble_eq_true rfl) dX10_castVote_34 (pc2 := 37) rfl (fun r6 s5 => ?_)
        refine g_iast hc (kf_9_3 (kf_10_0 hx0)) (kl_9_3 (kf_10_0 hx0)) dX10_castVote_37 (pc2 := 38) rfl (fun s7 => ?_)
        refine g_iinc hc dX10_castVote_38 rfl (q_ii ic_1) (by decide) (L2 := [some (q_rf w x0), some (q_rf w x1), some (.int (x2 + 1))]) rfl (pc2 := 41) rfl ?_
        refine g_goto hc dX10_castVote_41 (pc2 := 7) rfl ?_
        exact ih _ _
      · refine q_Gmask [true, true, false] (L2 := [some (q_rf w x0), some (q_rf w x1), none]) rfl ?_
        exact hk44 _
    · refine q_Gmask [true, true, false] (L2 := [some (q_rf w x0), some (q_rf w x1), none]) rfl ?_
      exact hk44 _
set_option maxRecDepth 100000 in
set_option maxHeartbeats 4000000 in
theorem C_X10_castVote {l : Launch} {w : q_Wd} {n : Nat} {t : Nat} {a0 : Nat} (ht : q_KD t = .inl 10) (ha0 : q_KD a0 = .inl 0) {s0 : q_Sto} : q_C l w yX10_castVote cX10_castVote 3 (none) (q_rm 4 105) [q_rf w t, q_rf w a0] s0 (f_X10_castVote n t a0 s0) := q_CofG [some (q_rf w t), some (q_rf w a0), none] (by decide +kernel) rfl rfl (Nat.le_of_ble_eq_true rfl) fun cx hl hc => by
  have hc : q_ok w cx RX10 cX10_castVote 3 (none) (q_rm 4 105) := hc
  rw [f_X10_castVote]
  refine g_rl1 hc dX10_castVote_0 rfl (pc2 := 1) rfl ?_
  refine g_rl0 hc dX10_castVote_1 rfl (pc2 := 2) rfl ?_
  refine g_callV1v hc (C_X0_standNow ha0 ht) mv_X0_standNow ln_X10_157 ha0 ⟨by decide, by decide⟩ (Nat.le_of_ble_eq_true rfl) dX10_castVote_2 (pc2 := 5) rfl (fun s1 => ?_)
  refine g_iconst hc dX10_castVote_5 ic_0 (pc2 := 6) rfl ?_
  refine g_is2 hc dX10_castVote_6 (by decide) (L2 := [some (q_rf w t), some (q_rf w a0), some (.int 0)]) rfl (pc2 := 7) rfl ?_
  refine t_X10_castVote_L7 hc ht ha0 (fun s8 => ?_) n _ _
  refine g_rl0 hc dX10_castVote_44 rfl (pc2 := 45) rfl ?_
  refine g_getR hc fl_X10_12 rfl ht dX10_castVote_45 (pc2 := 48) rfl ?_
  refine g_rl1 hc dX10_castVote_48 rfl (pc2 := 49) rfl ?_
  refine g_getI hc fl_X10_169 rfl ha0 dX10_castVote_49 (pc2 := 52) rfl ?_
  refine g_putI hc fl_X10_140 rfl (kf_10_0 ht) dX10_castVote_52 (pc2 := 55) rfl (fun s9 => ?_)
  refine g_rl0 hc dX10_castVote_55 rfl (pc2 := 56) rfl ?_
  refine g_getR hc fl_X10_12 rfl ht dX10_castVote_56 (pc2 := 59) rfl ?_
  refine g_getI hc fl_X10_140 rfl (kf_10_0 ht) dX10_castVote_59 (pc2 := 62) rfl ?_
  refine g_iconst hc dX10_castVote_62 ic_m1 (pc2 := 63) rfl ?_
  refine g_jn (P := fun j79 => ∀  (s10 : q_Sto), q_G w cx 3 (none) 79 [some (q_rf w t), none, none] [] s10 (j79 s10)) (fun s10 => ?_) (fun j79 hj79 => ?_)
  · refine g_rl0 hc dX10_castVote_79 rfl (pc2 := 80) rfl ?_
    refine g_iconst hc dX10_castVote_80 ic_0 (pc2 := 81) rfl ?_
    refine g_rl0 hc dX10_castVote_81 rfl (pc2 := 82) rfl ?_
    refine g_getR hc fl_X10_12 rfl ht dX10_castVote_82 (pc2 := 85) rfl ?_
    refine g_getI hc fl_X10_140 rfl (kf_10_0 ht) dX10_castVote_85 (pc2 := 88) rfl ?_
    refine g_rl0 hc dX10_castVote_88 rfl (pc2 := 89) rfl ?_
    refine g_getR hc fl_X10_12 rfl ht dX10_castVote_89 (pc2 := 92) rfl ?_
    refine g_getI hc fl_X10_140 rfl (kf_10_0 ht) dX10_castVote_92 (pc2 := 95) rfl ?_
    refine g_iconst hc dX10_castVote_95 ic_m1 (pc2 := 96) rfl ?_
    refine g_icmp_ne hc dX10_castVote_96 (pc1 := 99) (pc2 := 103) rfl rfl (fun _ => ?_) (fun _ => ?_)
    · refine g_iconst hc dX10_castVote_99 ic_0 (pc2 := 100) rfl ?_
      refine g_goto hc dX10_castVote_100 (pc2 := 120) rfl ?_
      refine g_callV3v hc (C_X10_write ht) mv_X10_write ln_X10_173 ht ⟨by decide, by decide⟩ (Nat.le_of_ble_eq_true rfl) dX10_castVote_120 (pc2 := 123) rfl (fun s12 => ?_)
      exact g_vret hc dX10_castVote_123
    · refine g_rl0 hc dX10_castVote_103 rfl (pc2 := 104) rfl ?_
      refine g_getR hc fl_X10_12 rfl ht dX10_castVote_104 (pc2 := 107) rfl ?_
      refine g_rl0 hc dX10_castVote_107 rfl (pc2 := 108) rfl ?_
      refine g_getR hc fl_X10_12 rfl ht dX10_castVote_108 (pc2 := 111) rfl ?_
      refine g_getI hc fl_X10_140 rfl (kf_10_0 ht) dX10_castVote_111 (pc2 := 114) rfl ?_
      refine g_callV1 hc (C_X9_behindOf (kf_10_0 ht)) mv_X9_behindOf ln_X10_114 (kf_10_0 ht) ⟨by decide, by decide⟩ (Nat.le_of_ble_eq_true rfl) dX10_castVote_114 (pc2 := 117) rfl (fun r15 s14 => ?_)
      refine g_callS1 hc C_J6_bitCount_0f7a4 mv_J6_bitCount_0f7a4 ln_X10_117 ⟨by decide, by decide⟩ (Nat.le_of_ble_eq_true rfl) dX10_castVote_117 (pc2 := 120) rfl (fun r17 s16 => ?_)
      refine g_callV3v hc (C_X10_write ht) mv_X10_write ln_X10_173 ht ⟨by decide, by decide⟩ (Nat.le_of_ble_eq_true rfl) dX10_castVote_120 (pc2 := 123) rfl (fun s18 => ?_)
      exact g_vret hc dX10_castVote_123
  · refine g_icmp_ne hc dX10_castVote_63 (pc1 := 66) (pc2 := 79) rfl rfl (fun _ => ?_) (fun _ => ?_)
    · refine g_rl0 hc dX10_castVote_66 rfl (pc2 := 67) rfl ?_
      refine g_getR hc fl_X10_12 rfl ht dX10_castVote_67 (pc2 := 70) rfl ?_
      refine g_dup hc dX10_castVote_70 rfl (pc2 := 71) rfl ?_
      refine g_getI hc fl_X10_170 rfl (kf_10_0 ht) dX10_castVote_71 (pc2 := 74) rfl ?_
      refine g_iconst hc dX10_castVote_74 ic_1 (pc2 := 75) rfl ?_
      refine g_iadd hc dX10_castVote_75 (pc2 := 76) rfl ?_
      refine g_putI hc fl_X10_170 rfl (kf_10_0 ht) dX10_castVote_76 (pc2 := 79) rfl (fun s21 => ?_)
      refine q_Gmask [true, false, true] (L2 := [some (q_rf w t), none, none]) rfl ?_
      exact hj79 _
    · refine q_Gmask [true, false, true] (L2 := [some (q_rf w t), none, none]) rfl ?_
      exact hj79 _
set_option maxRecDepth 100000 in
set_option maxHeartbeats 4000000 in
def f_X10_canTreat (n : Nat) (t : Nat) (a0 : Int32) (a1 : Int32) (a2 : Int32) (s0 : q_Sto) : Option (Int32 × q_Sto) :=
  q_call (f_X9_hasMan n (q_RF t 0) a1 s0) fun r2 s1 =>
  if r2 = 0 then (
  some (0, s1))
  else (
  if a0 = 2 then (
  some (1, s1))
  else (
  q_call (f_X9_hasMule n (q_RF t 0) a2 s1) fun r6 s5 =>
  if r6 = 0 then (
  some (0, s5))
  else (
  if a0 = 3 then (
  some (1, s5))
  else (
  q_ld s5 (q_RF (q_RF t 0) 4) a1 5 fun v9 =>
  if v9 ≤ 0 then (
  some (0, s5))
  else (
  some (1, s5))))))
set_option maxRecDepth 100000 in
set_option maxHeartbeats 4000000 in
theorem C_X10_canTreat {l : Launch} {w : q_Wd} {n : Nat} {t : Nat} {a0 : Int32} {a1 : Int32} {a2 : Int32} (ht : q_KD t = .inl 10) {s0 : q_Sto} : q_C l w yX10_canTreat cX10_canTreat 4 (some .boolean) (q_rm 1 21) [q_rf w t, .int a0, .int a1, .int a2] s0 (f_X10_canTreat n t a0 a1 a2 s0) := q_CofG [some (q_rf w t), some (.int a0), some (.int a1), some (.int a2)] (by decide +kernel) rfl rfl (Nat.le_of_ble_eq_true rfl) fun cx hl hc => by
  have hc : q_ok w cx RX10 cX10_canTreat 4 (some .boolean) (q_rm 1 21) := hc
  rw [f_X10_canTreat]
  refine g_rl0 hc dX10_canTreat_0 rfl (pc2 := 1) rfl ?_
  refine g_getR hc fl_X10_12 rfl ht dX10_canTreat_1 (pc2 := 4) rfl ?_
  refine g_il2 hc dX10_canTreat_4 rfl (pc2 := 5) rfl ?_
  refine g_callV1 hc (C_X9_hasMan (kf_10_0 ht)) mv_X9_hasMan ln_X10_77 (kf_10_0 ht) ⟨by decide, by decide⟩ (Nat.le_of_ble_eq_true rfl) dX10_canTreat_5 (pc2 := 8) rfl (fun r2 s1 => ?_)
  refine g_if_ne hc dX10_canTreat_8 (pc1 := 11) (pc2 := 13) rfl rfl (fun _ => ?_) (fun _ => ?_)
  · refine g_iconst hc dX10_canTreat_11 ic_0 (pc2 := 12) rfl ?_
    exact g_zret0 (by decide) hc dX10_canTreat_12
  · refine g_il1 hc dX10_canTreat_13 rfl (pc2 := 14) rfl ?_
    refine g_iconst hc dX10_canTreat_14 ic_2 (pc2 := 15) rfl ?_
    refine g_icmp_ne hc dX10_canTreat_15 (pc1 := 18) (pc2 := 20) rfl rfl (fun _ => ?_) (fun _ => ?_)
    · refine g_iconst hc dX10_canTreat_18 ic_1 (pc2 := 19) rfl ?_
      exact g_zret0 (by decide) hc dX10_canTreat_19
    · refine g_rl0 hc dX10_canTreat_20 rfl (pc2 := 21) rfl ?_
      refine g_getR hc fl_X10_12 rfl ht dX10_canTreat_21 (pc2 := 24) rfl ?_
      refine g_il3 hc dX10_canTreat_24 rfl (pc2 := 25) rfl ?_
      refine g_callV1 hc (C_X9_hasMule (kf_10_0 ht)) mv_X9_hasMule ln_X10_67 (kf_10_0 ht) ⟨by decide, by decide⟩ (Nat.le_of_ble_eq_true rfl) dX10_canTreat_25 (pc2 := 28) rfl (fun r6 s5 => ?_)
      refine g_if_eq hc dX10_canTreat_28 (pc1 := 52) (pc2 := 31) rfl rfl (fun _ => ?_) (fun _ => ?_)
      · refine g_iconst hc dX10_canTreat_52 ic_0 (pc2 := 53) rfl ?_
        exact g_zret0 (by decide) hc dX10_canTreat_53
      · refine g_il1 hc dX10_canTreat_31 rfl (pc2 := 32) rfl ?_
        refine g_iconst hc dX10_canTreat_32 ic_3 (pc2 := 33) rfl ?_
        refine g_icmp_eq hc dX10_canTreat_33 (pc1 := 48) (pc2 := 36) rfl rfl (fun _ => ?_) (fun _ => ?_)
        · refine g_iconst hc dX10_canTreat_48 ic_1 (pc2 := 49) rfl ?_
          refine g_goto hc dX10_canTreat_49 (pc2 := 53) rfl ?_
          exact g_zret0 (by decide) hc dX10_canTreat_53
        · refine g_rl0 hc dX10_canTreat_36 rfl (pc2 := 37) rfl ?_
          refine g_getR hc fl_X10_12 rfl ht dX10_canTreat_37 (pc2 := 40) rfl ?_
          refine g_getR hc fl_X10_177 rfl (kf_10_0 ht) dX10_canTreat_40 (pc2 := 43) rfl ?_
          refine g_il2 hc dX10_canTreat_43 rfl (pc2 := 44) rfl ?_
          refine g_iald hc (kf_9_4 (kf_10_0 ht)) (kl_9_4 (kf_10_0 ht)) dX10_canTreat_44 (pc2 := 45) rfl (fun v9 => ?_)
          refine g_if_le hc dX10_canTreat_45 (pc1 := 52) (pc2 := 48) rfl rfl (fun _ => ?_) (fun _ => ?_)
          · refine g_iconst hc dX10_canTreat_52 ic_0 (pc2 := 53) rfl ?_
            exact g_zret0 (by decide) hc dX10_canTreat_53
          · refine g_iconst hc dX10_canTreat_48 ic_1 (pc2 := 49) rfl ?_
            refine g_goto hc dX10_canTreat_49 (pc2 := 53) rfl ?_
            exact g_zret0 (by decide) hc dX10_canTreat_53
set_option maxRecDepth 100000 in
set_option maxHeartbeats 4000000 in
def f_X10_giveSalt (n : Nat) (t : Nat) (a0 : Int32) (a1 : Int32) (s0 : q_Sto) : Option (Int32 × q_Sto) :=
  q_call (f_X9_hasMan n (q_RF t 0) a0 s0) fun r2 s1 =>
  if r2 = 0 then (
  some (0, s1))
  else (
  q_ld s1 (q_RF (q_RF t 0) 4) a0 5 fun v4 =>
  q_st s1 (q_RF (q_RF t 0) 4) a0 5 (v4 - 1) fun s5 =>
  q_callv (f_X9_moveLiking n (q_RF t 0) a1 a0 15 s5) fun s6 =>
  q_callv (f_X10_write n t 1 a0 a1 s6) fun s8 =>
  some (0, s8))
set_option maxRecDepth 100000 in
set_option maxHeartbeats 4000000 in
theorem C_X10_giveSalt {l : Launch} {w : q_Wd} {n : Nat} {t : Nat} {a0 : Int32} {a1 : Int32} (ht : q_KD t = .inl 10) {s0 : q_Sto} : q_C l w yX10_giveSalt cX10_giveSalt 3 (none) (q_rm 3 67) [q_rf w t, .int a0, .int a1] s0 (f_X10_giveSalt n t a0 a1 s0) := q_CofG [some (q_rf w t), some (.int a0), some (.int a1)] (by decide +kernel) rfl rfl (Nat.le_of_ble_eq_true rfl) fun cx hl hc => by
  have hc : q_ok w cx RX10 cX10_giveSalt 3 (none) (q_rm 3 67) := hc
  rw [f_X10_giveSalt]
  refine g_rl0 hc dX10_giveSalt_0 rfl (pc2 := 1) rfl ?_
  refine g_getR hc fl_X10_12 rfl ht dX10_giveSalt_1 (pc2 := 4) rfl ?_
  refine g_il1 hc dX10_giveSalt_4 rfl (pc2 := 5) rfl ?_
  refine g_callV1 hc (C_X9_hasMan (kf_10_0 ht)) mv_X9_hasMan ln_X10_77 (kf_10_0 ht) ⟨by decide, by decide⟩ (Nat.le_of_ble_eq_true rfl) dX10_giveSalt_5 (pc2 := 8) rfl (fun r2 s1 => ?_)
  refine g_if_eq hc dX10_giveSalt_8 (pc1 := 42) (pc2 := 11) rfl rfl (fun _ => ?_) (fun _ => ?_)
  · exact g_vret hc dX10_giveSalt_42
  · refine g_rl0 hc dX10_giveSalt_11 rfl (pc2 := 12) rfl ?_
    refine g_getR hc fl_X10_12 rfl ht dX10_giveSalt_12 (pc2 := 15) rfl ?_
    refine g_getR hc fl_X10_177 rfl (kf_10_0 ht) dX10_giveSalt_15 (pc2 := 18) rfl ?_
    refine g_il1 hc dX10_giveSalt_18 rfl (pc2 := 19) rfl ?_
    refine g_dup2 hc dX10_giveSalt_19 rfl rfl (pc2 := 20) rfl ?_
    refine g_iald hc (kf_9_4 (kf_10_0 ht)) (kl_9_4 (kf_10_0 ht)) dX10_giveSalt_20 (pc2 := 21) rfl (fun v4 => ?_)
    refine g_iconst hc dX10_giveSalt_21 ic_1 (pc2 := 22) rfl ?_
    refine g_isub hc dX10_giveSalt_22 (pc2 := 23) rfl ?_
    refine g_iast hc (kf_9_4 (kf_10_0 ht)) (kl_9_4 (kf_10_0 ht)) dX10_giveSalt_23 (pc2 := 24) rfl (fun s5 => ?_)
    refine g_rl0 hc dX10_giveSalt_24 rfl (pc2 := 25) rfl ?_
    refine g_getR hc fl_X10_12 rfl ht dX10_giveSalt_25 (pc2 := 28) rfl ?_
    refine g_il2 hc dX10_giveSalt_28 rfl (pc2 := 29) rfl ?_
    refine g_il1 hc dX10_giveSalt_29 rfl (pc2 := 30) rfl ?_
    refine g_bipush hc dX10_giveSalt_30 bp_15 (pc2 := 32) rfl ?_
    refine g_callV3v hc (C_X9_moveLiking (kf_10_0 ht)) mv_X9_moveLiking ln_X10_189 (kf_10_0 ht) ⟨by decide, by decide⟩ (Nat.le_of_ble_eq_true rfl) dX10_giveSalt_32 (pc2 := 35) rfl (fun s6 => ?_)
    refine g_rl0 hc dX10_giveSalt_35 rfl (pc2 := 36) rfl ?_
    refine g_iconst hc dX10_giveSalt_36 ic_1 (pc2 := 37) rfl ?_
    refine g_il1 hc dX10_giveSalt_37 rfl (pc2 := 38) rfl ?_
    refine g_il2 hc dX10_giveSalt_38 rfl (pc2 := 39) rfl ?_
    refine g_callV3v hc (C_X10_write ht) mv_X10_write ln_X10_173 ht ⟨by decide, by decide⟩ (Nat.le_of_ble_eq_true rfl) dX10_giveSalt_39 (pc2 := 42) rfl (fun s8 => ?_)
    exact g_vret hc dX10_giveSalt_42
set_option maxRecDepth 100000 in
set_option maxHeartbeats 4000000 in
def f_X10_sing_L27 (n : Nat) (x0 : Nat) (x1 : Int32) (x2 : Int32) (k54 : q_Sto → Option (Int32 × q_Sto)) : Nat → Int32 → q_Sto → Option (Int32 × q_Sto)
  | 0, _, _ => none
  | j + 1, x3, s0 =>
    if x3 < (s0 (q_RF x0 0) 8) then (
    q_callv (f_X9_moveLiking n (q_RF x0 0) x3 x1 x2 s0) fun s5 =>
    f_X10_sing_L27 n x0 x1 x2 k54 j (x3 + 1) s5)
    else (
    k54 s0)
set_option maxRecDepth 100000 in
set_option maxHeartbeats 4000000 in
def f_X10_sing (n : Nat) (t : Nat) (a0 : Int32) (s0 : q_Sto) : Option (Int32 × q_Sto) :=
  q_call (f_X9_hasMan n (q_RF t 0) a0 s0) fun r2 s1 =>
  if r2 = 0 then (
  f_X10_sing_L27 n t a0 0 (fun  (s7 : q_Sto) =>
  q_callv (f_X10_write n t 2 a0 0 s7) fun s8 =>
  some (0, s8)) n 0 s1)
  else (
  q_ld s1 (q_RF (q_RF t 0) 6) a0 5 fun v10 =>
  f_X10_sing_L27 n t a0 v10 (fun  (s14 : q_Sto) =>
  q_callv (f_X10_write n t 2 a0 0 s14) fun s15 =>
  some (0, s15)) n 0 s1)
set_option maxRecDepth 100000 in
set_option maxHeartbeats 4000000 in
theorem t_X10_sing_L27 {w : q_Wd} {cx : q_Cx} (hc : q_ok w cx RX10 cX10_sing 4 (none) (q_rm 3 67)) {n : Nat} {x0 : Nat} {x1 : Int32} {x2 : Int32} (hx0 : q_KD x0 = .inl 10) {k54 : q_Sto → Option (Int32 × q_Sto)} (hk54 : ∀  (s1 : q_Sto), q_G w cx 4 (none) 54 [some (q_rf w x0), some (.int x1), none, none] [] s1 (k54 s1)) :
    ∀ (j : Nat) (x3 : Int32) (s0 : q_Sto), q_G w cx 4 (none) 27 [some (q_rf w x0), some (.int x1), some (.int x2), some (.int x3)] [] s0 (f_X10_sing_L27 n x0 x1 x2 k54 j x3 s0) := by
  intro j
  induction j with
  | zero =>
    intro _ _
    rw [f_X10_sing_L27]
    exact q_none
  | succ j ih =>
    intro x3 s0
    rw [f_X10_sing_L27]
    refine g_il3 hc dX10_sing_27 rfl (pc2 := 28) rfl ?_
    refine g_rl0 hc dX10_sing_28 rfl (pc2 := 29) rfl ?_
    refine g_getR hc fl_X10_12 rfl hx0 dX10_sing_29 (pc2 := 32) rfl ?_
    refine g_getI hc fl_X10_133 rfl (kf_10_0 hx0) dX10_sing_32 (pc2 := 35) rfl ?_
    refine g_icmp_ge hc dX10_sing_35 (pc1 := 38) (pc2 := 54) rfl rfl (fun _ => ?_) (fun _ => ?_)
    · refine g_rl0 hc dX10_sing_38 rfl (pc2 := 39) rfl ?_
      refine g_getR hc fl_X10_12 rfl hx0 dX10_sing_39 (pc2 := 42) rfl ?_
      refine g_il3 hc dX10_sing_42 rfl (pc2 := 43) rfl ?_
      refine g_il1 hc dX10_sing_43 rfl (pc2 := 44) rfl ?_
      refine g_il2 hc dX10_sing_44 rfl (pc2 := 45) rfl ?_
      refine g_callV3v hc (C_X9_moveLiking (kf_10_0 hx0)) mv_X9_moveLiking ln_X10_189 (kf_10_0 hx0) ⟨by decide, by decide⟩ (Nat.le_of_ble_eq_true rfl) dX10_sing_45 (pc2 := 48) rfl (fun s5 => ?_)
      refine g_iinc hc dX10_sing_48 rfl (q_ii ic_1) (by decide) (L2 := [some (q_rf w x0), some (.int x1), some (.int x2), some (.int (x3 + 1))]) rfl (pc2 := 51) rfl ?_
      refine g_goto hc dX10_sing_51 (pc2 := 27) rfl ?_
      exact ih _ _
    · refine q_Gmask [true, true, false, false] (L2 := [some (q_rf w x0), some (.int x1), none, none]) rfl ?_
      exact hk54 _
set_option maxRecDepth 100000 in
set_option maxHeartbeats 4000000 in
theorem C_X10_sing {l : Launch} {w : q_Wd} {n : Nat} {t : Nat} {a0 : Int32} (ht : q_KD t = .inl 10) {s0 : q_Sto} : q_C l w yX10_sing cX10_sing 4 (none) (q_rm 3 67) [q_rf w t, .int a0] s0 (f_X10_sing n t a0 s0) := q_CofG [some (q_rf w t), some (.int a0), none, none] (by decide +kernel) rfl rfl (Nat.le_of_ble_eq_true rfl) fun cx hl hc => by
  have hc : q_ok w cx RX10 cX10_sing 4 (none) (q_rm 3 67) := hc
  rw [f_X10_sing]
  refine g_rl0 hc dX10_sing_0 rfl (pc2 := 1) rfl ?_
  refine g_getR hc fl_X10_12 rfl ht dX10_sing_1 (pc2 := 4) rfl ?_
  refine g_il1 hc dX10_sing_4 rfl (pc2 := 5) rfl ?_
  refine g_callV1 hc (C_X9_hasMan (kf_10_0 ht)) mv_X9_hasMan ln_X10_77 (kf_10_0 ht) ⟨by decide, by decide⟩ (Nat.le_of_ble_eq_true rfl) dX10_sing_5 (pc2 := 8) rfl (fun r2 s1 => ?_)
  refine g_if_eq hc dX10_sing_8 (pc1 := 23) (pc2 := 11) rfl rfl (fun _ => ?_) (fun _ => ?_)
  · refine g_iconst hc dX10_sing_23 ic_0 (pc2 := 24) rfl ?_
    refine g_is2 hc dX10_sing_24 (by decide) (L2 := [some (q_rf w t), some (.int a0), some (.int 0), none]) rfl (pc2 := 25) rfl ?_
    refine g_iconst hc dX10_sing_25 ic_0 (pc2 := 26) rfl ?_
    refine g_is3 hc dX10_sing_26 (by decide) (L2 := [some (q_rf w t), some (.int a0), some (.int 0), some (.int 0)]) rfl (pc2 := 27) rfl ?_
    refine t_X10_sing_L27 hc ht (fun s7 => ?_) n _ _
    refine g_rl0 hc dX10_sing_54 rfl (pc2 := 55) rfl ?_
    refine g_iconst hc dX10_sing_55 ic_2 (pc2 := 56) rfl ?_
    refine g_il1 hc dX10_sing_56 rfl (pc2 := 57) rfl ?_
    refine g_iconst hc dX10_sing_57 ic_0 (pc2 := 58) rfl ?_
    refine g_callV3v hc (C_X10_write ht) mv_X10_write ln_X10_173 ht ⟨by decide, by decide⟩ (Nat.le_of_ble_eq_true rfl) dX10_sing_58 (pc2 := 61) rfl (fun s8 => ?_)
    exact g_vret hc dX10_sing_61
  · refine g_rl0 hc dX10_sing_11 rfl (pc2 := 12) rfl ?_
    refine g_getR hc fl_X10_12 rfl ht dX10_sing_12 (pc2 := 15) rfl ?_
    refine g_getR hc fl_X10_83 rfl (kf_10_0 ht) dX10_sing_15 (pc2 := 18) rfl ?_
    refine g_il1 hc dX10_sing_18 rfl (pc2 := 19) rfl ?_
    refine g_iald hc (kf_9_6 (kf_10_0 ht)) (kl_9_6 (kf_10_0 ht)) dX10_sing_19 (pc2 := 20) rfl (fun v10 => ?_)
    refine g_goto hc dX10_sing_20 (pc2 := 24) rfl ?_
    refine g_is2 hc dX10_sing_24 (by decide) (L2 := [some (q_rf w t), some (.int a0), some (.int v10), none]) rfl (pc2 := 25) rfl ?_
    refine g_iconst hc dX10_sing_25 ic_0 (pc2 := 26) rfl ?_
    refine g_is3 hc dX10_sing_26 (by decide) (L2 := [some (q_rf w t), some (.int a0), some (.int v10), some (.int 0)]) rfl (pc2 := 27) rfl ?_
    refine t_X10_sing_L27 hc ht (fun s14 => ?_) n _ _
    refine g_rl0 hc dX10_sing_54 rfl (pc2 := 55) rfl ?_
    refine g_iconst hc dX10_sing_55 ic_2 (pc2 := 56) rfl ?_
    refine g_il1 hc dX10_sing_56 rfl (pc2 := 57) rfl ?_
    refine g_iconst hc dX10_sing_57 ic_0 (pc2 := 58) rfl ?_
    refine g_callV3v hc (C_X10_write ht) mv_X10_write ln_X10_173 ht ⟨by decide, by decide⟩ (Nat.le_of_ble_eq_true rfl) dX10_sing_58 (pc2 := 61) rfl (fun s15 => ?_)
    exact g_vret hc dX10_sing_61
set_option maxRecDepth 100000 in
set_option maxHeartbeats 4000000 in
def f_X10_whip_L2 (n : Nat) (x0 : Nat) (x1 : Int32) (x2 : Int32) (k39 : q_Sto → Option (Int32 × q_Sto)) : Nat → Int32 → q_Sto → Option (Int32 × q_Sto)
  | 0, _, _ => none
  | j + 1, x3, s0 =>
    if x3 < (s0 (q_RF x0 0) 9) then (
    if x3 = x1 then (
    q_callv (f_X9_moveLiking n (q_RF x0 0) x2 x3 (-20) s0) fun s3 =>
    f_X10_whip_L2 n x0 x1 x2 k39 j (x3 + 1) s3)
    else (
    q_callv (f_X9_moveLiking n (q_RF x0 0) x2 x3 5 s0) fun s5 =>
    f_X10_whip_L2 n x0 x1 x2 k39 j (x3 + 1) s5))
    else (
    k39 s0)
set_option maxRecDepth 100000 in
set_option maxHeartbeats 4000000 in
def f_X10_whip (n : Nat) (t : Nat) (a0 : Int32) (a1 : Int32) (s0 : q_Sto) : Option (Int32 × q_Sto) :=
  f_X10_whip_L2 n t a0 a1 (fun  (s7 : q_Sto) =>
  q_callv (f_X10_write n t 3 a0 a1 s7) fun s8 =>
  some (0, s8)) n 0 s0
set_option maxRecDepth 100000 in
set_option maxHeartbeats 4000000 in
theorem t_X10_whip_L2 {w : q_Wd} {cx : q_Cx} (hc : q_ok w cx RX10 cX10_whip 4 (none) (q_rm 3 67)) {n : Nat} {x0 : Nat} {x1 : Int32} {x2 : Int32} (hx0 : q_KD x0 = .inl 10) {k39 : q_Sto → Option (Int32 × q_Sto)} (hk39 : ∀  (s1 : q_Sto), q_G w cx 4 (none) 39 [some (q_rf w x0), some (.int x1), some (.int x2), none] [] s1 (k39 s1)) :
    ∀ (j : Nat) (x3 : Int32) (s0 : q_Sto), q_G w cx 4 (none) 2 [some (q_rf w x0), some (.int x1), some (.int x2), some (.int x3)] [] s0 (f_X10_whip_L2 n x0 x1 x2 k39 j x3 s0) := by
  intro j
  induction j with
  | zero =>
    intro _ _
    rw [f_X10_whip_L2]
    exact q_none
  | succ j ih =>
    intro x3 s0
    rw [f_X10_whip_L2]
    refine g_il3 hc dX10_whip_2 rfl (pc2 := 3) rfl ?_
    refine g_rl0 hc dX10_whip_3 rfl (pc2 := 4) rfl ?_
    refine g_getR hc fl_X10_12 rfl hx0 dX10_whip_4 (pc2 := 7) rfl ?_
    refine g_getI hc fl_X10_192 rfl (kf_10_0 hx0) dX10_whip_7 (pc2 := 10) rfl ?_
    refine g_icmp_ge hc dX10_whip_10 (pc1 := 13) (pc2 := 39) rfl rfl (fun _ => ?_) (fun _ => ?_)
    · refine g_rl0 hc dX10_whip_13 rfl (pc2 := 14) rfl ?_
      refine g_getR hc fl_X10_12 rfl hx0 dX10_whip_14 (pc2 := 17) rfl ?_
      refine g_il2 hc dX10_whip_17 rfl (pc2 := 18) rfl ?_
      refine g_il3 hc dX10_whip_18 rfl (pc2 := 19) rfl ?_
      refine g_il3 hc dX10_whip_19 rfl (pc2 := 20) rfl ?_
      refine g_il1 hc dX10_whip_20 rfl (pc2 := 21) rfl ?_
      refine g_icmp_ne hc dX10_whip_21 (pc1 := 24) (pc2 := 29) rfl rfl (fun _ => ?_) (fun _ => ?_)
      · refine g_bipush hc dX10_whip_24 bp_m20 (pc2 := 26) rfl ?_
        refine g_goto hc dX10_whip_26 (pc2 := 30) rfl ?_
        refine g_callV3v hc (C_X9_moveLiking (kf_10_0 hx0)) mv_X9_moveLiking ln_X10_189 (kf_10_0 hx0) ⟨by decide, by decide⟩ (Nat.le_of_ble_eq_true rfl) dX10_whip_30 (pc2 := 33) rfl (fun s3 => ?_)
        refine g_iinc hc dX10_whip_33 rfl (q_ii ic_1) (by decide) (L2 := [some (q_rf w x0), some (.int x1), some (.int x2), some (.int (x3 + 1))]) rfl (pc2 := 36) rfl ?_
        refine g_goto hc dX10_whip_36 (pc2 := 2) rfl ?_
        exact ih _ _
      · refine g_iconst hc dX10_whip_29 ic_5 (pc2 := 30) rfl ?_
        refine g_callV3v hc (C_X9_moveLiking (kf_10_0 hx0)) mv_X9_moveLiking ln_X10_189 (kf_10_0 hx0) ⟨by decide, by decide⟩ (Nat.le_of_ble_eq_true rfl) dX10_whip_30 (pc2 := 33) rfl (fun s5 => ?_)
        refine g_iinc hc dX10_whip_33 rfl (q_ii ic_1) (by decide) (L2 := [some (q_rf w x0), some (.int x1), some (.int x2), some (.int (x3 + 1))]) rfl (pc2 := 36) rfl ?_
        refine g_goto hc dX10_whip_36 (pc2 := 2) rfl ?_
        exact ih _ _
    · refine q_Gmask [true, true, true, false] (L2 := [some (q_rf w x0), some (.int x1), some (.int x2), none]) rfl ?_
      exact hk39 _
set_option maxRecDepth 100000 in
set_option maxHeartbeats 4000000 in
theorem C_X10_whip {l : Launch} {w : q_Wd} {n : Nat} {t : Nat} {a0 : Int32} {a1 : Int32} (ht : q_KD t = .inl 10) {s0 : q_Sto} : q_C l w yX10_whip cX10_whip 4 (none) (q_rm 3 67) [q_rf w t, .int a0, .int a1] s0 (f_X10_whip n t a0 a1 s0) := q_CofG [some (q_rf w t), some (.int a0), some (.int a1), none] (by decide +kernel) rfl rfl (Nat.le_of_ble_eq_true rfl) fun cx hl hc => by
  have hc : q_ok w cx RX10 cX10_whip 4 (none) (q_rm 3 67) := hc
  rw [f_X10_whip]
  refine g_iconst hc dX10_whip_0 ic_0 (pc2 := 1) rfl ?_
  refine g_is3 hc dX10_whip_1 (by decide) (L2 := [some (q_rf w t), some (.int a0), some (.int a1), some (.int 0)]) rfl (pc2 := 2) rfl ?_
  refine t_X10_whip_L2 hc ht (fun s7 => ?_) n _ _
  refine g_rl0 hc dX10_whip_39 rfl (pc2 := 40) rfl ?_
  refine g_iconst hc dX10_whip_40 ic_3 (pc2 := 41) rfl ?_
  refine g_il1 hc dX10_whip_41 rfl (pc2 := 42) rfl ?_
  refine g_il2 hc dX10_whip_42 rfl (pc2 := 43) rfl ?_
  refine g_callV3v hc (C_X10_write ht) mv_X10_write ln_X10_173 ht ⟨by decide, by decide⟩ (Nat.le_of_ble_eq_true rfl) dX10_whip_43 (pc2 := 46) rfl (fun s8 => ?_)
  exact g_vret hc dX10_whip_46
set_option maxRecDepth 100000 in
set_option maxHeartbeats 4000000 in
def f_X10_treat (n : Nat) (t : Nat) (a0 : Int32) (a1 : Int32) (a2 : Int32) (s0 : q_Sto) : Option (Int32 × q_Sto) :=
  if a0 = 1 then (
  q_callv (f_X10_giveSalt n t a1 a2 s0) fun s2 =>
  some (0, s2))
  else (
  if a0 = 2 then (
  q_callv (f_X10_sing n t a1 s0) fun s5 =>
  some (0, s5))
  else (
  q_callv (f_X10_whip n t a1 a2 s0) fun s7 =>
  some (0, s7)))
set_option maxRecDepth 100000 in
set_option maxHeartbeats 4000000 in
theorem C_X10_treat {l : Launch} {w : q_Wd} {n : Nat} {t : Nat} {a0 : Int32} {a1 : Int32} {a2 : Int32} (ht : q_KD t = .inl 10) {s0 : q_Sto} : q_C l w yX10_treat cX10_treat 4 (none) (q_rm 4 90) [q_rf w t, .int a0, .int a1, .int a2] s0 (f_X10_treat n t a0 a1 a2 s0) := q_CofG [some (q_rf w t), some (.int a0), some (.int a1), some (.int a2)] (by decide +kernel) rfl rfl (Nat.le_of_ble_eq_true rfl) fun cx hl hc => by
  have hc : q_ok w cx RX10 cX10_treat 4 (none) (q_rm 4 90) := hc
  rw [f_X10_treat]
  refine g_il1 hc dX10_treat_0 rfl (pc2 := 1) rfl ?_
  refine g_iconst hc dX10_treat_1 ic_1 (pc2 := 2) rfl ?_
  refine g_icmp_ne hc dX10_treat_2 (pc1 := 5) (pc2 := 14) rfl rfl (fun _ => ?_) (fun _ => ?_)
  · refine g_rl0 hc dX10_treat_5 rfl (pc2 := 6) rfl ?_
    refine g_il2 hc dX10_treat_6 rfl (pc2 := 7) rfl ?_
    refine g_il3 hc dX10_treat_7 rfl (pc2 := 8) rfl ?_
    refine g_callV2v hc (C_X10_giveSalt ht) mv_X10_giveSalt ln_X10_180 ht ⟨by decide, by decide⟩ (Nat.le_of_ble_eq_true rfl) dX10_treat_8 (pc2 := 11) rfl (fun s2 => ?_)
    refine g_goto hc dX10_treat_11 (pc2 := 33) rfl ?_
    exact g_vret hc dX10_treat_33
  · refine g_il1 hc dX10_treat_14 rfl (pc2 := 15) rfl ?_
    refine g_iconst hc dX10_treat_15 ic_2 (pc2 := 16) rfl ?_
    refine g_icmp_ne hc dX10_treat_16 (pc1 := 19) (pc2 := 27) rfl rfl (fun _ => ?_) (fun _ => ?_)
    · refine g_rl0 hc dX10_treat_19 rfl (pc2 := 20) rfl ?_
      refine g_il2 hc dX10_treat_20 rfl (pc2 := 21) rfl ?_
      refine g_callV1v hc (C_X10_sing ht) mv_X10_sing ln_X10_183 ht ⟨by decide, by decide⟩ (Nat.le_of_ble_eq_true rfl) dX10_treat_21 (pc2 := 24) rfl (fun s5 => ?_)
      refine g_goto hc dX10_treat_24 (pc2 := 33) rfl ?_
      exact g_vret hc dX10_treat_33
    · refine g_rl0 hc dX10_treat_27 rfl (pc2 := 28) rfl ?_
      refine g_il2 hc dX10_treat_28 rfl (pc2 := 29) rfl ?_
      refine g_il3 hc dX10_treat_29 rfl (pc2 := 30) rfl ?_
      refine g_callV2v hc (C_X10_whip ht) mv_X10_whip ln_X10_186 ht ⟨by decide, by decide⟩ (Nat.le_of_ble_eq_true rfl) dX10_treat_30 (pc2 := 33) rfl (fun s7 => ?_)
      exact g_vret hc dX10_treat_33
set_option maxRecDepth 100000 in
set_option maxHeartbeats 4000000 in
def f_X10_hoursOfGoing (n : Nat) (t : Nat) (a0 : Int32) (s0 : q_Sto) : Option (Int32 × q_Sto) :=
  if (s0 (q_RF t 0) 13) = (-1) then (
  some ((-1), s0))
  else (
  q_call (f_X10_hoursBetween n t (s0 (q_RF t 0) 12) a0 s0) fun r3 s2 =>
  some (r3, s2))
set_option maxRecDepth 100000 in
set_option maxHeartbeats 4000000 in
theorem C_X10_hoursOfGoing {l : Launch} {w : q_Wd} {n : Nat} {t : Nat} {a0 : Int32} (ht : q_KD t = .inl 10) {s0 : q_Sto} : q_C l w yX10_hoursOfGoing cX10_hoursOfGoing 2 (some .int) (q_rm 2 45) [q_rf w t, .int a0] s0 (f_X10_hoursOfGoing n t a0 s0) := q_CofG [some (q_rf w t), some (.int a0)] (by decide +kernel) rfl rfl (Nat.le_of_ble_eq_true rfl) fun cx hl hc => by
  have hc : q_ok w cx RX10 cX10_hoursOfGoing 2 (some .int) (q_rm 2 45) := hc
  rw [f_X10_hoursOfGoing]
  refine g_rl0 hc dX10_hoursOfGoing_0 rfl (pc2 := 1) rfl ?_
  refine g_getR hc fl_X10_12 rfl ht dX10_hoursOfGoing_1 (pc2 := 4) rfl ?_
  refine g_getI hc fl_X10_140 rfl (kf_10_0 ht) dX10_hoursOfGoing_4 (pc2 := 7) rfl ?_
  refine g_iconst hc dX10_hoursOfGoing_7 ic_m1 (pc2 := 8) rfl ?_
  refine g_icmp_ne hc dX10_hoursOfGoing_8 (pc1 := 11) (pc2 := 15) rfl rfl (fun _ => ?_) (fun _ => ?_)
  · refine g_iconst hc dX10_hoursOfGoing_11 ic_m1 (pc2 := 12) rfl ?_
    refine g_goto hc dX10_hoursOfGoing_12 (pc2 := 27) rfl ?_
    exact g_iret hc dX10_hoursOfGoing_27
  · refine g_rl0 hc dX10_hoursOfGoing_15 rfl (pc2 := 16) rfl ?_
    refine g_rl0 hc dX10_hoursOfGoing_16 rfl (pc2 := 17) rfl ?_
    refine g_getR hc fl_X10_12 rfl ht dX10_hoursOfGoing_17 (pc2 := 20) rfl ?_
    refine g_getI hc fl_X10_195 rfl (kf_10_0 ht) dX10_hoursOfGoing_20 (pc2 := 23) rfl ?_
    refine g_il1 hc dX10_hoursOfGoing_23 rfl (pc2 := 24) rfl ?_
    refine g_callV2 hc (C_X10_hoursBetween ht) mv_X10_hoursBetween ln_X10_198 ht ⟨by decide, by decide⟩ (Nat.le_of_ble_eq_true rfl) dX10_hoursOfGoing_24 (pc2 := 27) rfl (fun r3 s2 => ?_)
    exact g_iret hc dX10_hoursOfGoing_27
set_option maxRecDepth 100000 in
set_option maxHeartbeats 4000000 in
def f_X10_travel_L26 (n : Nat) (x0 : Nat) (x1 : Int32) (x2 : Int32) (x3 : Int32) (k130 : Int32 → q_Sto → Option (Int32 × q_Sto)) : Nat → Int32 → Int32 → q_Sto → Option (Int32 × q_Sto)
  | 0, _, _, _ => none
  | j + 1, x4, x5, s0 =>
    if x5 < (s0 (q_RF x0 0) 8) then (
    if x5 < 12 then (
    if x3 = 0 then (
    k130 x4 s0)
    else (
    q_ld s0 (q_RF (q_RF x0 0) 2) x5 12 fun v7 =>
    q_jn (fun (y8 : Int32) (s9 : q_Sto) =>
      if y8 ≤ 0 then (
      f_X10_travel_L26 n x0 x1 x2 x3 k130 j x4 (x5 + 1) s9)
      else (
      q_call (f_X9_draw n (q_RF x0 0) 1000 s9) fun r12 s11 =>
      if r12 < y8 then (
      q_st s11 (q_RF (q_RF x0 0) 2) x5 12 1 fun s14 =>
      q_callv (f_X10_write n x0 5 x5 0 s14) fun s15 =>
      f_X10_travel_L26 n x0 x1 x2 x3 k130 j (x4 + 1) (x5 + 1) s15)
      else (
      f_X10_travel_L26 n x0 x1 x2 x3 k130 j x4 (x5 + 1) s11))) fun j80 =>
    if v7 = 0 then (
    q_call (f_X10_riskOf n x0 x5 x2 (s0 (q_RF x0 0) 13) s0) fun r19 s18 =>
    j80 r19 s18)
    else (
    j80 0 s0)))
    else (
    k130 x4 s0))
    else (
    k130 x4 s0)
set_option maxRecDepth 100000 in
set_option maxHeartbeats 4000000 in
def f_X10_travel (n : Nat) (t : Nat) (a0 : Int32) (a1 : Int32) (a2 : Int32) (s0 : q_Sto) : Option (Int32 × q_Sto) :=
  q_nS1 (q_up s0 (q_RF t 0) 15 ((s0 (q_RF t 0) 15) + a1)) fun s1 =>
  q_callv (f_X10_write n t 4 a0 a1 s1) fun s2 =>
  f_X10_travel_L26 n t a0 a1 a2 (fun (y20 : Int32) (s21 : q_Sto) =>
  q_nS1 (q_up s21 (q_RF t 0) 12 a0) fun s22 =>
  some (y20, s22)) n 0 0 s2
set_option maxRecDepth 100000 in
set_option maxHeartbeats 4000000 in
theorem t_X10_travel_L26 {w : q_Wd} {cx : q_Cx} (hc : q_ok w cx RX10 cX10_travel 7 (some .int) (q_rm 3 76)) {n : Nat} {x0 : Nat} {x1 : Int32} {x2 : Int32} {x3 : Int32} (hx0 : q_KD x0 = .inl 10) {k130 : Int32 → q_Sto → Option (Int32 × q_Sto)} (hk130 : ∀ (y4 : Int32) (s1 : q_Sto), q_G w cx 7 (some .int) 130 [some (q_rf w x0), some (.int x1), none, none, some (.int y4), none, none] [] s1 (k130 y4 s1)) :
    ∀ (j : Nat) (x4 : Int32) (x5 : Int32) (s0 : q_Sto), q_G w cx 7 (some .int) 26 [some (q_rf w x0), some (.int x1), some (.int x2), some (.int x3), some (.int x4), some (.int x5), none] [] s0 (f_X10_travel_L26 n x0 x1 x2 x3 k130 j x4 x5 s0) := by
  intro j
  induction j with
  | zero =>
    intro _ _ _
    rw [f_X10_travel_L26]
    exact q_none
  | succ j ih =>
    intro x4 x5 s0
    rw [f_X10_travel_L26]
    refine g_iload hc dX10_travel_26 rfl (pc2 := 28) rfl ?_
    refine g_rl0 hc dX10_travel_28 rfl (pc2 := 29) rfl ?_
    refine g_getR hc fl_X10_12 rfl hx0 dX10_travel_29 (pc2 := 32) rfl ?_
    refine g_getI hc fl_X10_133 rfl (kf_10_0 hx0) dX10_travel_32 (pc2 := 35) rfl ?_
    refine g_icmp_ge hc dX10_travel_35 (pc1 := 38) (pc2 := 130) rfl rfl (fun _ => ?_) (fun _ => ?_)
    · refine g_iload hc dX10_travel_38 rfl (pc2 := 40) rfl ?_
      refine g_bipush hc dX10_travel_40 bp_12 (pc2 := 42) rfl ?_
      refine g_icmp_ge hc dX10_travel_42 (pc1 := 45) (pc2 := 130) rfl rfl (fun _ => ?_) (fun _ => ?_)
      · refine g_il3 hc dX10_travel_45 rfl (pc2 := 46) rfl ?_
        refine g_if_eq hc dX10_travel_46 (pc1 := 130) (pc2 := 49) rfl rfl (fun _ => ?_) (fun _ => ?_)
        · refine q_Gmask [true, true, false, false, true, false, true] (L2 := [some (q_rf w x0), some (.int x1), none, none, some (.int x4), none, none]) rfl ?_
          exact hk130 _ _
        · refine g_rl0 hc dX10_travel_49 rfl (pc2 := 50) rfl ?_
          refine g_getR hc fl_X10_12 rfl hx0 dX10_travel_50 (pc2 := 53) rfl ?_
          refine g_getR hc fl_X10_204 rfl (kf_10_0 hx0) dX10_travel_53 (pc2 := 56) rfl ?_
          refine g_iload hc dX10_travel_56 rfl (pc2 := 58) rfl ?_
          refine g_iald hc (kf_9_2 (kf_10_0 hx0)) (kl_9_2 (kf_10_0 hx0)) dX10_travel_58 (pc2 := 59) rfl (fun v7 => ?_)
          refine g_jn (P := fun j80 => ∀ (y8 : Int32) (s9 : q_Sto), q_G w cx 7 (some .int) 80 [some (q_rf w x0), some (.int x1), some (.int x2), some (.int x3), some (.int x4), some (.int x5), none] [.int y8] s9 (j80 y8 s9)) (fun y8 s9 => ?_) (fun j80 hj80 => ?_)
          · refine g_istore hc dX10_travel_80 (by decide) (L2 := [some (q_rf w x0), some (.int x1), some (.int x2), some (.int x3), some (.int x4), some (.int x5), some (.int y8)]) rfl (pc2 := 82) rfl ?_
            refine g_iload hc dX10_travel_82 rfl (pc2 := 84) rfl ?_
            refine g_if_le hc dX10_travel_84 (pc1 := 124) (pc2 := 87) rfl rfl (fun _ => ?_) (fun _ => ?_)
            · refine g_iinc hc dX10_travel_124 rfl (q_ii ic_1) (by decide) (L2 := [some (q_rf w x0), some (.int x1), some (.int x2), some (.int x3), some (.int x4), some (.int (x5 + 1)), some (.int y8)]) rfl (pc2 := 127) rfl ?_
              refine g_goto hc dX10_travel_127 (pc2 := 26) rfl ?_
              refine q_Gmask [true, true, true, true, true, true, false] (L2 := [some (q_rf w x0), some (.int x1), some (.int x2), some (.int x3), some (.int x4), some (.int (x5 + 1)), none]) rfl ?_
              exact ih _ _ _
            · refine g_rl0 hc dX10_travel_87 rfl (pc2 := 88) rfl ?_
              refine g_getR hc fl_X10_12 rfl hx0 dX10_travel_88 (pc2 := 91) rfl ?_
              refine g_sipush hc dX10_travel_91 sp_1000 (pc2 := 94) rfl ?_
              refine g_callV1 hc (C_X9_draw (kf_10_0 hx0)) mv_X9_draw ln_X10_207 (kf_10_0 hx0) ⟨by decide, by decide⟩ (Nat.le_of_ble_eq_true rfl) dX10_travel_94 (pc2 := 97) rfl (fun r12 s11 => ?_)
              refine g_iload hc dX10_travel_97 rfl (pc2 := 99) rfl ?_
              refine g_icmp_ge hc dX10_travel_99 (pc1 := 102) (pc2 := 124) rfl rfl (fun _ => ?_) (fun _ => ?_)
              · refine g_rl0 hc dX10_travel_102 rfl (pc2 := 103) rfl ?_
                refine g_getR hc fl_X10_12 rfl hx0 dX10_travel_103 (pc2 := 106) rfl ?_
                refine g_getR hc fl_X10_204 rfl (kf_10_0 hx0) dX10_travel_106 (pc2 := 109) rfl ?_
                refine g_iload hc dX10_travel_109 rfl (pc2 := 111) rfl ?_
                refine g_iconst hc dX10_travel_111 ic_1 (pc2 := 112) rfl ?_
                refine g_iast hc (kf_9_2 (kf_10_0 hx0)) (kl_9_2 (kf_10_0 hx0)) dX10_travel_112 (pc2 := 113) rfl (fun s14 => ?_)
                refine g_iinc hc dX10_travel_113 rfl (q_ii ic_1) (by decide) (L2 := [some (q_rf w x0), some (.int x1), some (.int x2), some (.int x3), some (.int (x4 + 1)), some (.int x5), some (.int y8)]) rfl (pc2 := 116) rfl ?_
                refine g_rl0 hc dX10_travel_116 rfl (pc2 := 117) rfl ?_
                refine g_iconst hc dX10_travel_117 ic_5 (pc2 := 118) rfl ?_
                refine g_iload hc dX10_travel_118 rfl (pc2 := 120) rfl ?_
                refine g_iconst hc dX10_travel_120 ic_0 (pc2 := 121) rfl ?_
                refine g_callV3v hc (C_X10_write hx0) mv_X10_write ln_X10_173 hx0 ⟨by decide, by decide⟩ (Nat.le_of_ble_eq_true rfl) dX10_travel_121 (pc2 := 124) rfl (fun s15 => ?_)
                refine g_iinc hc dX10_travel_124 rfl (q_ii ic_1) (by decide) (L2 := [some (q_rf w x0), some (.int x1), some (.int x2), some (.int x3), some (.int (x4 + 1)), some (.int (x5 + 1)), some (.int y8)]) rfl (pc2 := 127) rfl ?_
                refine g_goto hc dX10_travel_127 (pc2 := 26) rfl ?_
                refine q_Gmask [true, true, true, true, true, true, false] (L2 := [some (q_rf w x0), some (.int x1), some (.int x2), some (.int x3), some (.int (x4 + 1)), some (.int (x5 + 1)), none]) rfl ?_
                exact ih _ _ _
              · refine g_iinc hc dX10_travel_124 rfl (q_ii ic_1) (by decide) (L2 := [some (q_rf w x0), some (.int x1), some (.int x2), some (.int x3), some (.int x4), some (.int (x5 + 1)), some (.int y8)]) rfl (pc2 := 127) rfl ?_
                refine g_goto hc dX10_travel_127 (pc2 := 26) rfl ?_
                refine q_Gmask [true, true, true, true, true, true, false] (L2 := [some (q_rf w x0), some (.int x1), some (.int x2), some (.int x3), some (.int x4), some (.int (x5 + 1)), none]) rfl ?_
                exact ih _ _ _
          · refine g_if_ne hc dX10_travel_59 (pc1 := 62) (pc2 := 79) rfl rfl (fun _ => ?_) (fun _ => ?_)
            · refine g_rl0 hc dX10_travel_62 rfl (pc2 := 63) rfl ?_
              refine g_iload hc dX10_travel_63 rfl (pc2 := 65) rfl ?_
              refine g_il2 hc dX10_travel_65 rfl (pc2 := 66) rfl ?_
              refine g_rl0 hc dX10_travel_66 rfl (pc2 := 67) rfl ?_
              refine g_getR hc fl_X10_12 rfl hx0 dX10_travel_67 (pc2 := 70) rfl ?_
              refine g_getI hc fl_X10_140 rfl (kf_10_0 hx0) dX10_travel_70 (pc2 := 73) rfl ?_
              refine g_callV3 hc (C_X10_riskOf hx0) mv_X10_riskOf ln_X10_143 hx0 ⟨by decide, by decide⟩ (Nat.le_of_ble_eq_true rfl) dX10_travel_73 (pc2 := 76) rfl (fun r19 s18 => ?_)
              refine g_goto hc dX10_travel_76 (pc2 := 80) rfl ?_
              exact hj80 _ _
            · refine g_iconst hc dX10_travel_79 ic_0 (pc2 := 80) rfl ?_
              exact hj80 _ _
      · refine q_Gmask [true, true, false, false, true, false, true] (L2 := [some (q_rf w x0), some (.int x1), none, none, some (.int x4), none, none]) rfl ?_
        exact hk130 _ _
    · refine q_Gmask [true, true, false, false, true, false, true] (L2 := [some (q_rf w x0), some (.int x1), none, none, some (.int x4), none, none]) rfl ?_
      exact hk130 _ _
set_option maxRecDepth 100000 in
set_option maxHeartbeats 4000000 in
theorem C_X10_travel {l : Launch} {w : q_Wd} {n : Nat} {t : Nat} {a0 : Int32} {a1 : Int32} {a2 : Int32} (ht : q_KD t = .inl 10) {s0 : q_Sto} : q_C l w yX10_travel cX10_travel 7 (some .int) (q_rm 3 76) [q_rf w t, .int a0, .int a1, .int a2] s0 (f_X10_travel n t a0 a1 a2 s0) := q_CofG [some (q_rf w t), some (.int a0), some (.int a1), some (.int a2), none, none, none] (by decide +kernel) rfl rfl (Nat.le_of_ble_eq_true rfl) fun cx hl hc => by
  have hc : q_ok w cx RX10 cX10_travel 7 (some .int) (q_rm 3 76) := hc
  rw [f_X10_travel]
  refine g_iconst hc dX10_travel_0 ic_0 (pc2 := 1) rfl ?_
  refine g_istore hc dX10_travel_1 (by decide) (L2 := [some (q_rf w t), some (.int a0), some (.int a1), some (.int a2), some (.int 0), none, none]) rfl (pc2 := 3) rfl ?_
  refine g_rl0 hc dX10_travel_3 rfl (pc2 := 4) rfl ?_
  refine g_getR hc fl_X10_12 rfl ht dX10_travel_4 (pc2 := 7) rfl ?_
  refine g_dup hc dX10_travel_7 rfl (pc2 := 8) rfl ?_
  refine g_getI hc fl_X10_201 rfl (kf_10_0 ht) dX10_travel_8 (pc2 := 11) rfl ?_
  refine g_il2 hc dX10_travel_11 rfl (pc2 := 12) rfl ?_
  refine g_iadd hc dX10_travel_12 (pc2 := 13) rfl ?_
  refine g_putI hc fl_X10_201 rfl (kf_10_0 ht) dX10_travel_13 (pc2 := 16) rfl (fun s1 => ?_)
  refine g_rl0 hc dX10_travel_16 rfl (pc2 := 17) rfl ?_
  refine g_iconst hc dX10_travel_17 ic_4 (pc2 := 18) rfl ?_
  refine g_il1 hc dX10_travel_18 rfl (pc2 := 19) rfl ?_
  refine g_il2 hc dX10_travel_19 rfl (pc2 := 20) rfl ?_
  refine g_callV3v hc (C_X10_write ht) mv_X10_write ln_X10_173 ht ⟨by decide, by decide⟩ (Nat.le_of_ble_eq_true rfl) dX10_travel_20 (pc2 := 23) rfl (fun s2 => ?_)
  refine g_iconst hc dX10_travel_23 ic_0 (pc2 := 24) rfl ?_
  refine g_istore hc dX10_travel_24 (by decide) (L2 := [some (q_rf w t), some (.int a0), some (.int a1), some (.int a2), some (.int 0), some (.int 0), none]) rfl (pc2 := 26) rfl ?_
  refine t_X10_travel_L26 hc ht (fun y20 s21 => ?_) n _ _ _
  refine g_rl0 hc dX10_travel_130 rfl (pc2 := 131) rfl ?_
  refine g_getR hc fl_X10_12 rfl ht dX10_travel_131 (pc2 := 134) rfl ?_
  refine g_il1 hc dX10_travel_134 rfl (pc2 := 135) rfl ?_
  refine g_putI hc fl_X10_195 rfl (kf_10_0 ht) dX10_travel_135 (pc2 := 138) rfl (fun s22 => ?_)
  refine g_iload hc dX10_travel_138 rfl (pc2 := 140) rfl ?_
  exact g_iret hc dX10_travel_140
set_option maxRecDepth 100000 in
set_option maxHeartbeats 4000000 in
def f_X10_restAll (n : Nat) (t : Nat) (s0 : q_Sto) : Option (Int32 × q_Sto) :=
  q_call (f_X9_lameOnes n (q_RF t 0) s0) fun r2 s1 =>
  q_call (f_J6_bitCount_0f7a4 n r2 s1) fun r4 s3 =>
  q_callv (f_J7_fill_53178 n (q_RF (q_RF t 0) 2) 12 0 s3) fun s5 =>
  q_callv (f_X10_write n t 6 (-1) 0 s5) fun s7 =>
  some (r4, s7)
set_option maxRecDepth 100000 in
set_option maxHeartbeats 4000000 in
theorem C_X10_restAll {l : Launch} {w : q_Wd} {n : Nat} {t : Nat} (ht : q_KD t = .inl 10) {s0 : q_Sto} : q_C l w yX10_restAll cX10_restAll 2 (some .int) (q_rm 1 24) [q_rf w t] s0 (f_X10_restAll n t s0) := q_CofG [some (q_rf w t), none] (by decide +kernel) rfl rfl (Nat.le_of_ble_eq_true rfl) fun cx hl hc => by
  have hc : q_ok w cx RX10 cX10_restAll 2 (some .int) (q_rm 1 24) := hc
  rw [f_X10_restAll]
  refine g_rl0 hc dX10_restAll_0 rfl (pc2 := 1) rfl ?_
  refine g_getR hc fl_X10_12 rfl ht dX10_restAll_1 (pc2 := 4) rfl ?_
  refine g_callV0 hc (C_X9_lameOnes (kf_10_0 ht)) mv_X9_lameOnes ln_X10_129 (kf_10_0 ht) ⟨by decide, by decide⟩ (Nat.le_of_ble_eq_true rfl) dX10_restAll_4 (pc2 := 7) rfl (fun r2 s1 => ?_)
  refine g_callS1 hc C_J6_bitCount_0f7a4 mv_J6_bitCount_0f7a4 ln_X10_117 ⟨by decide, by decide⟩ (Nat.le_of_ble_eq_true rfl) dX10_restAll_7 (pc2 := 10) rfl (fun r4 s3 => ?_)
  refine g_is1 hc dX10_restAll_10 (by decide) (L2 := [some (q_rf w t), some (.int r4)]) rfl (pc2 := 11) rfl ?_
  refine g_rl0 hc dX10_restAll_11 rfl (pc2 := 12) rfl ?_
  refine g_getR hc fl_X10_12 rfl ht dX10_restAll_12 (pc2 := 15) rfl ?_
  refine g_getR hc fl_X10_204 rfl (kf_10_0 ht) dX10_restAll_15 (pc2 := 18) rfl ?_
  refine g_iconst hc dX10_restAll_18 ic_0 (pc2 := 19) rfl ?_
  refine g_callS2v hc (C_J7_fill_53178 (kf_9_2 (kf_10_0 ht)) (kl_9_2 (kf_10_0 ht))) mv_J7_fill_53178 ln_X10_210 ⟨by decide, by decide⟩ (Nat.le_of_ble_eq_true rfl) dX10_restAll_19 (pc2 := 22) rfl (fun s5 => ?_)
  refine g_rl0 hc dX10_restAll_22 rfl (pc2 := 23) rfl ?_
  refine g_bipush hc dX10_restAll_23 bp_6 (pc2 := 25) rfl ?_
  refine g_iconst hc dX10_restAll_25 ic_m1 (pc2 := 26) rfl ?_
  refine g_iconst hc dX10_restAll_26 ic_0 (pc2 := 27) rfl ?_
  refine g_callV3v hc (C_X10_write ht) mv_X10_write ln_X10_173 ht ⟨by decide, by decide⟩ (Nat.le_of_ble_eq_true rfl) dX10_restAll_27 (pc2 := 30) rfl (fun s7 => ?_)
  refine g_il1 hc dX10_restAll_30 rfl (pc2 := 31) rfl ?_
  exact g_iret hc dX10_restAll_31
set_option maxRecDepth 100000 in
set_option maxHeartbeats 4000000 in
def f_X10_doPlan (n : Nat) (t : Nat) (a0 : Int32) (a1 : Nat) (a2 : Int32) (s0 : q_Sto) : Option (Int32 × q_Sto) :=
  q_call (f_X6_cell n (q_RF t 3) a0 1 s0) fun r2 s1 =>
  q_call (f_X6_cell n (q_RF t 3) a0 2 s1) fun r4 s3 =>
  if r2 = 0 then (
  q_callv (f_X10_castVote n t a1 s3) fun s6 =>
  some (1, s6))
  else (
  if r2 = 4 then (
  q_call (f_X10_hoursOfGoing n t r4 s3) fun r10 s9 =>
  if r10 = (-1) then (
  if r10 = (-1) then (
  some (0, s9))
  else (
  some (1, s9)))
  else (
  q_call (f_X10_travel n t r4 r10 a2 s9) fun r14 s13 =>
  if r10 = (-1) then (
  some (0, s13))
  else (
  some (1, s13))))
  else (
  q_call (f_X6_cell n (q_RF t 3) a0 3 s3) fun r17 s16 =>
  q_call (f_X10_canTreat n t r2 r4 r17 s16) fun r19 s18 =>
  if r19 = 0 then (
  q_rz r19 s18)
  else (
  q_callv (f_X10_treat n t r2 r4 r17 s18) fun s21 =>
  q_rz r19 s21)))
set_option maxRecDepth 100000 in
set_option maxHeartbeats 4000000 in
theorem C_X10_doPlan {l : Launch} {w : q_Wd} {n : Nat} {t : Nat} {a0 : Int32} {a1 : Nat} {a2 : Int32} (ht : q_KD t = .inl 10) (ha1 : q_KD a1 = .inl 0) {s0 : q_Sto} : q_C l w yX10_doPlan cX10_doPlan 8 (some .boolean) (q_rm 5 127) [q_rf w t, .int a0, q_rf w a1, .int a2] s0 (f_X10_doPlan n t a0 a1 a2 s0) := q_CofG [some (q_rf w t), some (.int a0), some (q_rf w a1), some (.int a2), none, none, none, none] (by decide +kernel) rfl rfl (Nat.le_of_ble_eq_true rfl) fun cx hl hc => by
  have hc : q_ok w cx RX10 cX10_doPlan 8 (some .boolean) (q_rm 5 127) := hc
  rw [f_X10_doPlan]
  refine g_rl0 hc dX10_doPlan_0 rfl (pc2 := 1) rfl ?_
  refine g_getR hc fl_X10_34 rfl ht dX10_doPlan_1 (pc2 := 4) rfl ?_
  refine g_il1 hc dX10_doPlan_4 rfl (pc2 := 5) rfl ?_
  refine g_iconst hc dX10_doPlan_5 ic_1 (pc2 := 6) rfl ?_
  refine g_callV2 hc (C_X6_cell (kf_10_3 ht)) mv_X6_cell ln_X10_151 (kf_10_3 ht) ⟨by decide, by decide⟩ (Nat.le_of_ble_eq_true rfl) dX10_doPlan_6 (pc2 := 9) rfl (fun r2 s1 => ?_)
  refine g_istore hc dX10_doPlan_9 (by decide) (L2 := [some (q_rf w t), some (.int a0), some (q_rf w a1), some (.int a2), some (.int r2), none, none, none]) rfl (pc2 := 11) rfl ?_
  refine g_rl0 hc dX10_doPlan_11 rfl (pc2 := 12) rfl ?_
  refine g_getR hc fl_X10_34 rfl ht dX10_doPlan_12 (pc2 := 15) rfl ?_
  refine g_il1 hc dX10_doPlan_15 rfl (pc2 := 16) rfl ?_
  refine g_iconst hc dX10_doPlan_16 ic_2 (pc2 := 17) rfl ?_
  refine g_callV2 hc (C_X6_cell (kf_10_3 ht)) mv_X6_cell ln_X10_151 (kf_10_3 ht) ⟨by decide, by decide⟩ (Nat.le_of_ble_eq_true rfl) dX10_doPlan_17 (pc2 := 20) rfl (fun r4 s3 => ?_)
  refine g_istore hc dX10_doPlan_20 (by decide) (L2 := [some (q_rf w t), some (.int a0), some (q_rf w a1), some (.int a2), some (.int r2), some (.int r4), none, none]) rfl (pc2 := 22) rfl ?_
  refine g_iload hc dX10_doPlan_22 rfl (pc2 := 24) rfl ?_
  refine g_if_ne hc dX10_doPlan_24 (pc1 := 27) (pc2 := 34) rfl rfl (fun _ => ?_) (fun _ => ?_)
  · refine g_rl0 hc dX10_doPlan_27 rfl (pc2 := 28) rfl ?_
    refine g_rl2 hc dX10_doPlan_28 rfl (pc2 := 29) rfl ?_
    refine g_callV1v hc (C_X10_castVote ht ha1) mv_X10_castVote ln_X10_220 ht ⟨by decide, by decide⟩ (Nat.le_of_ble_eq_true rfl) dX10_doPlan_29 (pc2 := 32) rfl (fun s6 => ?_)
    refine g_iconst hc dX10_doPlan_32 ic_1 (pc2 := 33) rfl ?_
    exact g_zret0 (by decide) hc dX10_doPlan_33
  · refine g_iload hc dX10_doPlan_34 rfl (pc2 := 36) rfl ?_
    refine g_iconst hc dX10_doPlan_36 ic_4 (pc2 := 37) rfl ?_
    refine g_icmp_ne hc dX10_doPlan_37 (pc1 := 40) (pc2 := 76) rfl rfl (fun _ => ?_) (fun _ => ?_)
    · refine g_rl0 hc dX10_doPlan_40 rfl (pc2 := 41) rfl ?_
      refine g_iload hc dX10_doPlan_41 rfl (pc2 := 43) rfl ?_
      refine g_callV1 hc (C_X10_hoursOfGoing ht) mv_X10_hoursOfGoing ln_X10_224 ht ⟨by decide, by decide⟩ (Nat.le_of_ble_eq_true rfl) dX10_doPlan_43 (pc2 := 46) rfl (fun r10 s9 => ?_)
      refine g_istore hc dX10_doPlan_46 (by decide) (L2 := [some (q_rf w t), some (.int a0), some (q_rf w a1), some (.int a2), some (.int r2), some (.int r4), some (.int r10), none]) rfl (pc2 := 48) rfl ?_
      refine g_iload hc dX10_doPlan_48 rfl (pc2 := 50) rfl ?_
      refine g_iconst hc dX10_doPlan_50 ic_m1 (pc2 := 51) rfl ?_
      refine g_icmp_eq hc dX10_doPlan_51 (pc1 := 64) (pc2 := 54) rfl rfl (fun _ => ?_) (fun _ => ?_)
      · refine g_iload hc dX10_doPlan_64 rfl (pc2 := 66) rfl ?_
        refine g_iconst hc dX10_doPlan_66 ic_m1 (pc2 := 67) rfl ?_
        refine g_icmp_eq hc dX10_doPlan_67 (pc1 := 74) (pc2 := 70) rfl rfl (fun _ => ?_) (fun _ => ?_)
        · refine g_iconst hc dX10_doPlan_74 ic_0 (pc2 := 75) rfl ?_
          exact g_zret0 (by decide) hc dX10_doPlan_75
        · refine g_iconst hc dX10_doPlan_70 ic_1 (pc2 := 71) rfl ?_
          refine g_goto hc dX10_doPlan_71 (pc2 := 75) rfl ?_
          exact g_zret0 (by decide) hc dX10_doPlan_75
      · refine g_rl0 hc dX10_doPlan_54 rfl (pc2 := 55) rfl ?_
        refine g_iload hc dX10_doPlan_55 rfl (pc2 := 57) rfl ?_
        refine g_iload hc dX10_doPlan_57 rfl (pc2 := 59) rfl ?_
        refine g_il3 hc dX10_doPlan_59 rfl (pc2 := 60) rfl ?_
        refine g_callV3 hc (C_X10_travel ht) mv_X10_travel ln_X10_227 ht ⟨by decide, by decide⟩ (Nat.le_of_ble_eq_true rfl) dX10_doPlan_60 (pc2 := 63) rfl (fun r14 s13 => ?_)
        refine g_pop hc dX10_doPlan_63 (pc2 := 64) rfl ?_
        refine g_iload hc dX10_doPlan_64 rfl (pc2 := 66) rfl ?_
        refine g_iconst hc dX10_doPlan_66 ic_m1 (pc2 := 67) rfl ?_
        refine g_icmp_eq hc dX10_doPlan_67 (pc1 := 74) (pc2 := 70) rfl rfl (fun _ => ?_) (fun _ => ?_)
        · refine g_iconst hc dX10_doPlan_74 ic_0 (pc2 := 75) rfl ?_
          exact g_zret0 (by decide) hc dX10_doPlan_75
        · refine g_iconst hc dX10_doPlan_70 ic_1 (pc2 := 71) rfl ?_
          refine g_goto hc dX10_doPlan_71 (pc2 := 75) rfl ?_
          exact g_zret0 (by decide) hc dX10_doPlan_75
    · refine g_rl0 hc dX10_doPlan_76 rfl (pc2 := 77) rfl ?_
      refine g_getR hc fl_X10_34 rfl ht dX10_doPlan_77 (pc2 := 80) rfl ?_
      refine g_il1 hc dX10_doPlan_80 rfl (pc2 := 81) rfl ?_
      refine g_iconst hc dX10_doPlan_81 ic_3 (pc2 := 82) rfl ?_
      refine g_callV2 hc (C_X6_cell (kf_10_3 ht)) mv_X6_cell ln_X10_151 (kf_10_3 ht) ⟨by decide, by decide⟩ (Nat.le_of_ble_eq_true rfl) dX10_doPlan_82 (pc2 := 85) rfl (fun r17 s16 => ?_)
      refine g_istore hc dX10_doPlan_85 (by decide) (L2 := [some (q_rf w t), some (.int a0), some (q_rf w a1), some (.int a2), some (.int r2), some (.int r4), some (.int r17), none]) rfl (pc2 := 87) rfl ?_
      refine g_rl0 hc dX10_doPlan_87 rfl (pc2 := 88) rfl ?_
      refine g_iload hc dX10_doPlan_88 rfl (pc2 := 90) rfl ?_
      refine g_iload hc dX10_doPlan_90 rfl (pc2 := 92) rfl ?_
      refine g_iload hc dX10_doPlan_92 rfl (pc2 := 94) rfl ?_
      refine g_callV3 hc (C_X10_canTreat ht) mv_X10_canTreat ln_X10_231 ht ⟨by decide, by decide⟩ (Nat.le_of_ble_eq_true rfl) dX10_doPlan_94 (pc2 := 97) rfl (fun r19 s18 => ?_)
      refine g_istore hc dX10_doPlan_97 (by decide) (L2 := [some (q_rf w t), some (.int a0), some (q_rf w a1), some (.int a2), some (.int r2), some (.int r4), some (.int r17), some (.int r19)]) rfl (pc2 := 99) rfl ?_
      refine g_iload hc dX10_doPlan_99 rfl (pc2 := 101) rfl ?_
      refine g_if_eq hc dX10_doPlan_101 (pc1 := 114) (pc2 := 104) rfl rfl (fun _ => ?_) (fun _ => ?_)
      · refine g_iload hc dX10_doPlan_114 rfl (pc2 := 116) rfl ?_
        exact g_zret hc dX10_doPlan_116
      · refine g_rl0 hc dX10_doPlan_104 rfl (pc2 := 105) rfl ?_
        refine g_iload hc dX10_doPlan_105 rfl (pc2 := 107) rfl ?_
        refine g_iload hc dX10_doPlan_107 rfl (pc2 := 109) rfl ?_
        refine g_iload hc dX10_doPlan_109 rfl (pc2 := 111) rfl ?_
        refine g_callV3v hc (C_X10_treat ht) mv_X10_treat ln_X10_235 ht ⟨by decide, by decide⟩ (Nat.le_of_ble_eq_true rfl) dX10_doPlan_111 (pc2 := 114) rfl (fun s21 => ?_)
        refine g_iload hc dX10_doPlan_114 rfl (pc2 := 116) rfl ?_
        exact g_zret hc dX10_doPlan_116
set_option maxRecDepth 100000 in
set_option maxHeartbeats 4000000 in
def f_X10_passDay_L5 (n : Nat) (x0 : Nat) (x1 : Nat) (x2 : Int32) (k57 : Int32 → q_Sto → Option (Int32 × q_Sto)) : Nat → Int32 → Int32 → q_Sto → Option (Int32 × q_Sto)
  | 0, _, _, _ => none
  | j + 1, x3, x4, s0 =>
    if x4 < (s0 (q_RF x0 3) 2) then (
    q_call (f_X6_cell n (q_RF x0 3) x4 0 s0) fun r3 s2 =>
    if r3 = (s2 (q_RF x0 0) 16) then (
    q_call (f_X10_doPlan n x0 x4 x1 x2 s2) fun r6 s5 =>
    if r6 = 0 then (
    f_X10_passDay_L5 n x0 x1 x2 k57 j x3 (x4 + 1) s5)
    else (
    f_X10_passDay_L5 n x0 x1 x2 k57 j (x3 + 1) (x4 + 1) s5))
    else (
    f_X10_passDay_L5 n x0 x1 x2 k57 j x3 (x4 + 1) s2))
    else (
    k57 x3 s0)
set_option maxRecDepth 100000 in
set_option maxHeartbeats 4000000 in
def f_X10_passDay_L60 (n : Nat) (x0 : Nat) (x3 : Int32) (k105 : q_Sto → Option (Int32 × q_Sto)) : Nat → Int32 → q_Sto → Option (Int32 × q_Sto)
  | 0, _, _ => none
  | j + 1, x4, s0 =>
    if x4 < (s0 (q_RF x0 0) 8) then (
    if x4 < 12 then (
    q_ld s0 (q_RF (q_RF x0 0) 3) x4 12 fun v12 =>
    q_callv (f_X9_moveLiking n (q_RF x0 0) x4 v12 (-1) s0) fun s13 =>
    f_X10_passDay_L60 n x0 x3 k105 j (x4 + 1) s13)
    else (
    k105 s0))
    else (
    k105 s0)
set_option maxRecDepth 100000 in
set_option maxHeartbeats 4000000 in
def f_X10_passDay (n : Nat) (t : Nat) (a0 : Nat) (a1 : Int32) (s0 : q_Sto) : Option (Int32 × q_Sto) :=
  f_X10_passDay_L5 n t a0 a1 (fun (y8 : Int32) (s9 : q_Sto) =>
  f_X10_passDay_L60 n t y8 (fun  (s15 : q_Sto) =>
  q_nS1 (q_up s15 (q_RF t 0) 16 ((s15 (q_RF t 0) 16) + 1)) fun s16 =>
  some (y8, s16)) n 0 s9) n 0 0 s0
set_option maxRecDepth 100000 in
set_option maxHeartbeats 4000000 in
theorem t_X10_passDay_L5 {w : q_Wd} {cx : q_Cx} (hc : q_ok w cx RX10 cX10_passDay 5 (some .int) (q_rm 6 154)) {n : Nat} {x0 : Nat} {x1 : Nat} {x2 : Int32} (hx0 : q_KD x0 = .inl 10) (hx1 : q_KD x1 = .inl 0) {k57 : Int32 → q_Sto → Option (Int32 × q_Sto)} (hk57 : ∀ (y3 : Int32) (s1 : q_Sto), q_G w cx 5 (some .int) 57 [some (q_rf w x0), none, none, some (.int y3), none] [] s1 (k57 y3 s1)) :
    ∀ (j : Nat) (x3 : Int32) (x4 : Int32) (s0 : q_Sto), q_G w cx 5 (some .int) 5 [some (q_rf w x0), some (q_rf w x1), some (.int x2), some (.int x3), some (.int x4)] [] s0 (f_X10_passDay_L5 n x0 x1 x2 k57 j x3 x4 s0) := by
  intro j
  induction j with
  | zero =>
    intro _ _ _
    rw [f_X10_passDay_L5]
    exact q_none
  | succ j ih =>
    intro x3 x4 s0
    rw [f_X10_passDay_L5]
    refine g_iload hc dX10_passDay_5 rfl (pc2 := 7) rfl ?_
    refine g_rl0 hc dX10_passDay_7 rfl (pc2 := 8) rfl ?_
    refine g_getR hc fl_X10_34 rfl hx0 dX10_passDay_8 (pc2 := 11) rfl ?_
    refine g_getI hc fl_X10_148 rfl (kf_10_3 hx0) dX10_passDay_11 (pc2 := 14) rfl ?_
    refine g_icmp_ge hc dX10_passDay_14 (pc1 := 17) (pc2 := 57) rfl rfl (fun _ => ?_) (fun _ => ?_)
    · refine g_rl0 hc dX10_passDay_17 rfl (pc2 := 18) rfl ?_
      refine g_getR hc fl_X10_34 rfl hx0 dX10_passDay_18 (pc2 := 21) rfl ?_
      refine g_iload hc dX10_passDay_21 rfl (pc2 := 23) rfl ?_
      refine g_iconst hc dX10_passDay_23 ic_0 (pc2 := 24) rfl ?_
      refine g_callV2 hc (C_X6_cell (kf_10_3 hx0)) mv_X6_cell ln_X10_151 (kf_10_3 hx0) ⟨by decide, by decide⟩ (Nat.le_of_ble_eq_true rfl) dX10_passDay_24 (pc2 := 27) rfl (fun r3 s2 => ?_)
      refine g_rl0 hc dX10_passDay_27 rfl (pc2 := 28) rfl ?_
      refine g_getR hc fl_X10_12 rfl hx0 dX10_passDay_28 (pc2 := 31) rfl ?_
      refine g_getI hc fl_X10_90 rfl (kf_10_0 hx0) dX10_passDay_31 (pc2 := 34) rfl ?_
      refine g_icmp_ne hc dX10_passDay_34 (pc1 := 37) (pc2 := 51) rfl rfl (fun _ => ?_) (fun _ => ?_)
      · refine g_rl0 hc dX10_passDay_37 rfl (pc2 := 38) rfl ?_
        refine g_iload hc dX10_passDay_38 rfl (pc2 := 40) rfl ?_
        refine g_rl1 hc dX10_passDay_40 rfl (pc2 := 41) rfl ?_
        refine g_il2 hc dX10_passDay_41 rfl (pc2 := 42) rfl ?_
        refine g_callV3 hc (C_X10_doPlan hx0 hx1) mv_X10_doPlan ln_X10_216 hx0 ⟨by decide, by decide⟩ (Nat.le_of_ble_eq_true rfl) dX10_passDay_42 (pc2 := 45) rfl (fun r6 s5 => ?_)
        refine g_if_eq hc dX10_passDay_45 (pc1 := 51) (pc2 := 48) rfl rfl (fun _ => ?_) (fun _ => ?_)
        · refine g_iinc hc dX10_passDay_51 rfl (q_ii ic_1) (by decide) (L2 := [some (q_rf w x0), some (q_rf w x1), some (.int x2), some (.int x3), some (.int (x4 + 1))]) rfl (pc2 := 54) rfl ?_
          refine g_goto hc dX10_passDay_54 (pc2 := 5) rfl ?_
          exact ih _ _ _
        · refine g_iinc hc dX10_passDay_48 rfl (q_ii ic_1) (by decide) (L2 := [some (q_rf w x0), some (q_rf w x1), some (.int x2), some (.int (x3 + 1)), some (.int x4)]) rfl (pc2 := 51) rfl ?_
          refine g_iinc hc dX10_passDay_51 rfl (q_ii ic_1) (by decide) (L2 := [some (q_rf w x0), some (q_rf w x1), some (.int x2), some (.int (x3 + 1)), some (.int (x4 + 1))]) rfl (pc2 := 54) rfl ?_
          refine g_goto hc dX10_passDay_54 (pc2 := 5) rfl ?_
          exact ih _ _ _
      · refine g_iinc hc dX10_passDay_51 rfl (q_ii ic_1) (by decide) (L2 := [some (q_rf w x0), some (q_rf w x1), some (.int x2), some (.int x3), some (.int (x4 + 1))]) rfl (pc2 := 54) rfl ?_
        refine g_goto hc dX10_passDay_54 (pc2 := 5) rfl ?_
        exact ih _ _ _
    · refine q_Gmask [true, false, false, true, false] (L2 := [some (q_rf w x0), none, none, some (.int x3), none]) rfl ?_
      exact hk57 _ _
set_option maxRecDepth 100000 in
set_option maxHeartbeats 4000000 in
theorem t_X10_passDay_L60 {w : q_Wd} {cx : q_Cx} (hc : q_ok w cx RX10 cX10_passDay 5 (some .int) (q_rm 6 154)) {n : Nat} {x0 : Nat} {x3 : Int32} (hx0 : q_KD x0 = .inl 10) {k105 : q_Sto → Option (Int32 × q_Sto)} (hk105 : ∀  (s1 : q_Sto), q_G w cx 5 (some .int) 105 [some (q_rf w x0), none, none, some (.int x3), none] [] s1 (k105 s1)) :
    ∀ (j : Nat) (x4 : Int32) (s0 : q_Sto), q_G w cx 5 (some .int) 60 [some (q_rf w x0), none, none, some (.int x3), some (.int x4)] [] s0 (f_X10_passDay_L60 n x0 x3 k105 j x4 s0) := by
  intro j
  induction j with
  | zero =>
    intro _ _
    rw [f_X10_passDay_L60]
    exact q_none
  | succ j ih =>
    intro x4 s0
    rw [f_X10_passDay_L60]
    refine g_iload hc dX10_passDay_60 rfl (pc2 := 62) rfl ?_
    refine g_rl0 hc dX10_passDay_62 rfl (pc2 := 63) rfl ?_
    refine g_getR hc fl_X10_12 rfl hx0 dX10_passDay_63 (pc2 := 66) rfl ?_
    refine g_getI hc fl_X10_133 rfl (kf_10_0 hx0) dX10_passDay_66 (pc2 := 69) rfl ?_
    refine g_icmp_ge hc dX10_passDay_69 (pc1 := 72) (pc2 := 105) rfl rfl (fun _ => ?_) (fun _ => ?_)
    · refine g_iload hc dX10_passDay_72 rfl (pc2 := 74) rfl ?_
      refine g_bipush hc dX10_passDay_74 bp_12 (pc2 := 76) rfl ?_
      refine g_icmp_ge hc dX10_passDay_76 (pc1 := 79) (pc2 := 105) rfl rfl (fun _ => ?_) (fun _ => ?_)
      · refine g_rl0 hc dX10_passDay_79 rfl (pc2 := 80) rfl ?_
        refine g_getR hc fl_X10_12 rfl hx0 dX10_passDay_80 (pc2 := 83) rfl ?_
        refine g_iload hc dX10_passDay_83 rfl (pc2 := 85) rfl ?_
        refine g_rl0 hc dX10_passDay_85 rfl (pc2 := 86) rfl ?_
        refine g_getR hc fl_X10_12 rfl hx0 dX10_passDay_86 (pc2 := 89) rfl ?_
        refine g_getR hc fl_X10_163 rfl (kf_10_0 hx0) dX10_passDay_89 (pc2 := 92) rfl ?_
        refine g_iload hc dX10_passDay_92 rfl (pc2 := 94) rfl ?_
        refine g_iald hc (kf_9_3 (kf_10_0 hx0)) (kl_9_3 (kf_10_0 hx0)) dX10_passDay_94 (pc2 := 95) rfl (fun v12 => ?_)
        refine g_iconst hc dX10_passDay_95 ic_m1 (pc2 := 96) rfl ?_
        refine g_callV3v hc (C_X9_moveLiking (kf_10_0 hx0)) mv_X9_moveLiking ln_X10_189 (kf_10_0 hx0) ⟨by decide, by decide⟩ (Nat.le_of_ble_eq_true rfl) dX10_passDay_96 (pc2 := 99) rfl (fun s13 => ?_)
        refine g_iinc hc dX10_passDay_99 rfl (q_ii ic_1) (by decide) (L2 := [some (q_rf w x0), none, none, some (.int x3), some (.int (x4 + 1))]) rfl (pc2 := 102) rfl ?_
        refine g_goto hc dX10_passDay_102 (pc2 := 60) rfl ?_
        exact ih _ _
      · refine q_Gmask [true, true, true, true, false] (L2 := [some (q_rf w x0), none, none, some (.int x3), none]) rfl ?_
        exact hk105 _
    · refine q_Gmask [true, true, true, true, false] (L2 := [some (q_rf w x0), none, none, some (.int x3), none]) rfl ?_
      exact hk105 _
set_option maxRecDepth 100000 in
set_option maxHeartbeats 4000000 in
theorem C_X10_passDay {l : Launch} {w : q_Wd} {n : Nat} {t : Nat} {a0 : Nat} {a1 : Int32} (ht : q_KD t = .inl 10) (ha0 : q_KD a0 = .inl 0) {s0 : q_Sto} : q_C l w yX10_passDay cX10_passDay 5 (some .int) (q_rm 6 154) [q_rf w t, q_rf w a0, .int a1] s0 (f_X10_passDay n t a0 a1 s0) := q_CofG [some (q_rf w t), some (q_rf w a0), some (.int a1), none, none] (by decide +kernel) rfl rfl (Nat.le_of_ble_eq_true rfl) fun cx hl hc => by
  have hc : q_ok w cx RX10 cX10_passDay 5 (some .int) (q_rm 6 154) := hc
  rw [f_X10_passDay]
  refine g_iconst hc dX10_passDay_0 ic_0 (pc2 := 1) rfl ?_
  refine g_is3 hc dX10_passDay_1 (by decide) (L2 := [some (q_rf w t), some (q_rf w a0), some (.int a1), some (.int 0), none]) rfl (pc2 := 2) rfl ?_
  refine g_iconst hc dX10_passDay_2 ic_0 (pc2 := 3) rfl ?_
  refine g_istore hc dX10_passDay_3 (by decide) (L2 := [some (q_rf w t), some (q_rf w a0), some (.int a1), some (.int 0), some (.int 0)]) rfl (pc2 := 5) rfl ?_
  refine t_X10_passDay_L5 hc ht ha0 (fun y8 s9 => ?_) n _ _ _
  refine g_iconst hc dX10_passDay_57 ic_0 (pc2 := 58) rfl ?_
  refine g_istore hc dX10_passDay_58 (by decide) (L2 := [some (q_rf w t), none, none, some (.int y8), some (.int 0)]) rfl (pc2 := 60) rfl ?_
  refine t_X10_passDay_L60 hc ht (fun s15 => ?_) n _ _
  refine g_rl0 hc dX10_passDay_105 rfl (pc2 := 106) rfl ?_
  refine g_getR hc fl_X10_12 rfl ht dX10_passDay_106 (pc2 := 109) rfl ?_
  refine g_dup hc dX10_passDay_109 rfl (pc2 := 110) rfl ?_
  refine g_getI hc fl_X10_90 rfl (kf_10_0 ht) dX10_passDay_110 (pc2 := 113) rfl ?_
  refine g_iconst hc dX10_passDay_113 ic_1 (pc2 := 114) rfl ?_
  refine g_iadd hc dX10_passDay_114 (pc2 := 115) rfl ?_
  refine g_putI hc fl_X10_90 rfl (kf_10_0 ht) dX10_passDay_115 (pc2 := 118) rfl (fun s16 => ?_)
  refine g_il3 hc dX10_passDay_118 rfl (pc2 := 119) rfl ?_
  exact g_iret hc dX10_passDay_119
set_option maxRecDepth 100000 in
set_option maxHeartbeats 4000000 in
def f_X11_state (n : Nat) (t : Nat) (a0 : Int32) (s0 : q_Sto) : Option (Int32 × q_Sto) :=
  q_nm (s0 (q_RF (q_RF t 0) 0) 10) fun v1 =>
  q_nS1 (q_up s0 (q_RF (q_RF t 0) 0) 10 a0) fun s2 =>
  q_callv (f_X1_forget n (q_RF t 3) s2) fun s3 =>
  some (v1, s3)
set_option maxRecDepth 100000 in
set_option maxHeartbeats 4000000 in
theorem C_X11_state {l : Launch} {w : q_Wd} {n : Nat} {t : Nat} {a0 : Int32} (ht : q_KD t = .inl 11) {s0 : q_Sto} : q_C l w yX11_state cX11_state 3 (some .int) (q_rm 1 20) [q_rf w t, .int a0] s0 (f_X11_state n t a0 s0) := q_CofG [some (q_rf w t), some (.int a0), none] (by decide +kernel) rfl rfl (Nat.le_of_ble_eq_true rfl) fun cx hl hc => by
  have hc : q_ok w cx RX11 cX11_state 3 (some .int) (q_rm 1 20) := hc
  rw [f_X11_state]
  refine g_rl0 hc dX11_state_0 rfl (pc2 := 1) rfl ?_
  refine g_getR hc fl_X11_12 rfl ht dX11_state_1 (pc2 := 4) rfl ?_
  refine g_getR hc fl_X11_81 rfl (kf_11_0 ht) dX11_state_4 (pc2 := 7) rfl ?_
  refine g_getI hc fl_X11_84 rfl (kf_10_0 (kf_11_0 ht)) dX11_state_7 (pc2 := 10) rfl ?_
  refine g_nm (fun v1 => ?_)
  refine g_is2 hc dX11_state_10 (by decide) (L2 := [some (q_rf w t), some (.int a0), some (.int v1)]) rfl (pc2 := 11) rfl ?_
  refine g_rl0 hc dX11_state_11 rfl (pc2 := 12) rfl ?_
  refine g_getR hc fl_X11_12 rfl ht dX11_state_12 (pc2 := 15) rfl ?_
  refine g_getR hc fl_X11_81 rfl (kf_11_0 ht) dX11_state_15 (pc2 := 18) rfl ?_
  refine g_il1 hc dX11_state_18 rfl (pc2 := 19) rfl ?_
  refine g_putI hc fl_X11_84 rfl (kf_10_0 (kf_11_0 ht)) dX11_state_19 (pc2 := 22) rfl (fun s2 => ?_)
  refine g_rl0 hc dX11_state_22 rfl (pc2 := 23) rfl ?_
  refine g_getR hc fl_X11_26 rfl ht dX11_state_23 (pc2 := 26) rfl ?_
  refine g_callV0v hc (C_X1_forget (kf_11_3 ht)) mv_X1_forget ln_X11_88 (kf_11_3 ht) ⟨by decide, by decide⟩ (Nat.le_of_ble_eq_true rfl) dX11_state_26 (pc2 := 29) rfl (fun s3 => ?_)
  refine g_il2 hc dX11_state_29 rfl (pc2 := 30) rfl ?_
  exact g_iret hc dX11_state_30
set_option maxRecDepth 100000 in
set_option maxHeartbeats 4000000 in
def f_X11_isWithin (n : Nat) (a0 : Int32) (a1 : Int32) (a2 : Int32) (s0 : q_Sto) : Option (Int32 × q_Sto) :=
  if a0 < a1 then (
  some (0, s0))
  else (
  if a0 ≤ a2 then (
  some (1, s0))
  else (
  some (0, s0)))
set_option maxRecDepth 100000 in
set_option maxHeartbeats 4000000 in
theorem C_X11_isWithin {l : Launch} {w : q_Wd} {n : Nat} {a0 : Int32} {a1 : Int32} {a2 : Int32}  {s0 : q_Sto} : q_C l w yX11_isWithin cX11_isWithin 3 (some .boolean) (q_rm 0 0) [.int a0, .int a1, .int a2] s0 (f_X11_isWithin n a0 a1 a2 s0) := q_CofG [some (.int a0), some (.int a1), some (.int a2)] (by decide +kernel) rfl rfl (Nat.le_of_ble_eq_true rfl) fun cx hl hc => by
  have hc : q_ok w cx RX11 cX11_isWithin 3 (some .boolean) (q_rm 0 0) := hc
  rw [f_X11_isWithin]
  refine g_il0 hc dX11_isWithin_0 rfl (pc2 := 1) rfl ?_
  refine g_il1 hc dX11_isWithin_1 rfl (pc2 := 2) rfl ?_
  refine g_icmp_lt hc dX11_isWithin_2 (pc1 := 14) (pc2 := 5) rfl rfl (fun _ => ?_) (fun _ => ?_)
  · refine g_iconst hc dX11_isWithin_14 ic_0 (pc2 := 15) rfl ?_
    exact g_zret0 (by decide) hc dX11_isWithin_15
  · refine g_il0 hc dX11_isWithin_5 rfl (pc2 := 6) rfl ?_
    refine g_il2 hc dX11_isWithin_6 rfl (pc2 := 7) rfl ?_
    refine g_icmp_gt hc dX11_isWithin_7 (pc1 := 10) (pc2 := 14) rfl rfl (fun _ => ?_) (fun _ => ?_)
    · refine g_iconst hc dX11_isWithin_10 ic_1 (pc2 := 11) rfl ?_
      refine g_goto hc dX11_isWithin_11 (pc2 := 15) rfl ?_
      exact g_zret0 (by decide) hc dX11_isWithin_15
    · refine g_iconst hc dX11_isWithin_14 ic_0 (pc2 := 15) rfl ?_
      exact g_zret0 (by decide) hc dX11_isWithin_15
set_option maxRecDepth 100000 in
set_option maxHeartbeats 4000000 in
def f_X11_mule (n : Nat) (t : Nat) (a0 : Int32) (a1 : Int32) (s0 : q_Sto) : Option (Int32 × q_Sto) :=
  q_call (f_X11_isWithin n a0 1 40 s0) fun r2 s1 =>
  if r2 = 0 then (
  some ((-1), s1))
  else (
  q_call (f_X11_isWithin n a1 0 40 s1) fun r5 s4 =>
  if r5 = 0 then (
  some ((-1), s4))
  else (
  q_call (f_X9_addMule n (q_RF (q_RF t 0) 0) a0 a1 s4) fun r8 s7 =>
  if r8 = (-1) then (
  some (r8, s7))
  else (
  q_callv (f_X1_forget n (q_RF t 3) s7) fun s10 =>
  some (r8, s10))))
set_option maxRecDepth 100000 in
set_option maxHeartbeats 4000000 in
theorem C_X11_mule {l : Launch} {w : q_Wd} {n : Nat} {t : Nat} {a0 : Int32} {a1 : Int32} (ht : q_KD t = .inl 11) {s0 : q_Sto} : q_C l w yX11_mule cX11_mule 4 (some .int) (q_rm 1 22) [q_rf w t, .int a0, .int a1] s0 (f_X11_mule n t a0 a1 s0) := q_CofG [some (q_rf w t), some (.int a0), some (.int a1), none] (by decide +kernel) rfl rfl (Nat.le_of_ble_eq_true rfl) fun cx hl hc => by
  have hc : q_ok w cx RX11 cX11_mule 4 (some .int) (q_rm 1 22) := hc
  rw [f_X11_mule]
  refine g_il1 hc dX11_mule_0 rfl (pc2 := 1) rfl ?_
  refine g_iconst hc dX11_mule_1 ic_1 (pc2 := 2) rfl ?_
  refine g_bipush hc dX11_mule_2 bp_40 (pc2 := 4) rfl ?_
  refine g_callS3 hc C_X11_isWithin mv_X11_isWithin ln_X11_91 ⟨by decide, by decide⟩ (Nat.le_of_ble_eq_true rfl) dX11_mule_4 (pc2 := 7) rfl (fun r2 s1 => ?_)
  refine g_if_eq hc dX11_mule_7 (pc1 := 20) (pc2 := 10) rfl rfl (fun _ => ?_) (fun _ => ?_)
  · refine g_iconst hc dX11_mule_20 ic_m1 (pc2 := 21) rfl ?_
    exact g_iret hc dX11_mule_21
  · refine g_il2 hc dX11_mule_10 rfl (pc2 := 11) rfl ?_
    refine g_iconst hc dX11_mule_11 ic_0 (pc2 := 12) rfl ?_
    refine g_bipush hc dX11_mule_12 bp_40 (pc2 := 14) rfl ?_
    refine g_callS3 hc C_X11_isWithin mv_X11_isWithin ln_X11_91 ⟨by decide, by decide⟩ (Nat.le_of_ble_eq_true rfl) dX11_mule_14 (pc2 := 17) rfl (fun r5 s4 => ?_)
    refine g_if_ne hc dX11_mule_17 (pc1 := 20) (pc2 := 22) rfl rfl (fun _ => ?_) (fun _ => ?_)
    · refine g_iconst hc dX11_mule_20 ic_m1 (pc2 := 21) rfl ?_
      exact g_iret hc dX11_mule_21
    · refine g_rl0 hc dX11_mule_22 rfl (pc2 := 23) rfl ?_
      refine g_getR hc fl_X11_12 rfl ht dX11_mule_23 (pc2 := 26) rfl ?_
      refine g_getR hc fl_X11_81 rfl (kf_11_0 ht) dX11_mule_26 (pc2 := 29) rfl ?_
      refine g_il1 hc dX11_mule_29 rfl (pc2 := 30) rfl ?_
      refine g_il2 hc dX11_mule_30 rfl (pc2 := 31) rfl ?_
      refine g_callV2 hc (C_X9_addMule (kf_10_0 (kf_11_0 ht))) mv_X9_addMule ln_X11_95 (kf_10_0 (kf_11_0 ht)) ⟨by decide, by decide⟩ (Nat.le_of_ble_eq_true rfl) dX11_mule_31 (pc2 := 34) rfl (fun r8 s7 => ?_)
      refine g_is3 hc dX11_mule_34 (by decide) (L2 := [some (q_rf w t), some (.int a0), some (.int a1), some (.int r8)]) rfl (pc2 := 35) rfl ?_
      refine g_il3 hc dX11_mule_35 rfl (pc2 := 36) rfl ?_
      refine g_iconst hc dX11_mule_36 ic_m1 (pc2 := 37) rfl ?_
      refine g_icmp_eq hc dX11_mule_37 (pc1 := 47) (pc2 := 40) rfl rfl (fun _ => ?_) (fun _ => ?_)
      · refine g_il3 hc dX11_mule_47 rfl (pc2 := 48) rfl ?_
        exact g_iret hc dX11_mule_48
      · refine g_rl0 hc dX11_mule_40 rfl (pc2 := 41) rfl ?_
        refine g_getR hc fl_X11_26 rfl ht dX11_mule_41 (pc2 := 44) rfl ?_
        refine g_callV0v hc (C_X1_forget (kf_11_3 ht)) mv_X1_forget ln_X11_88 (kf_11_3 ht) ⟨by decide, by decide⟩ (Nat.le_of_ble_eq_true rfl) dX11_mule_44 (pc2 := 47) rfl (fun s10 => ?_)
        refine g_il3 hc dX11_mule_47 rfl (pc2 := 48) rfl ?_
        exact g_iret hc dX11_mule_48
set_option maxRecDepth 100000 in
set_option maxHeartbeats 4000000 in
def f_X11_man (n : Nat) (t : Nat) (a0 : Int32) (a1 : Int32) (a2 : Int32) (s0 : q_Sto) : Option (Int32 × q_Sto) :=
  q_call (f_X11_isWithin n a0 0 99 s0) fun r2 s1 =>
  if r2 = 0 then (
  some ((-1), s1))
  else (
  q_call (f_X11_isWithin n a1 0 9 s1) fun r5 s4 =>
  if r5 = 0 then (
  some ((-1), s4))
  else (
  q_call (f_X11_isWithin n a2 0 9 s4) fun r8 s7 =>
  if r8 = 0 then (
  some ((-1), s7))
  else (
  q_call (f_X9_addMan n (q_RF (q_RF t 0) 0) a0 a1 a2 s7) fun r11 s10 =>
  if r11 = (-1) then (
  some (r11, s10))
  else (
  q_callv (f_X1_forget n (q_RF t 3) s10) fun s13 =>
  some (r11, s13)))))
set_option maxRecDepth 100000 in
set_option maxHeartbeats 4000000 in
theorem C_X11_man {l : Launch} {w : q_Wd} {n : Nat} {t : Nat} {a0 : Int32} {a1 : Int32} {a2 : Int32} (ht : q_KD t = .inl 11) {s0 : q_Sto} : q_C l w yX11_man cX11_man 5 (some .int) (q_rm 1 23) [q_rf w t, .int a0, .int a1, .int a2] s0 (f_X11_man n t a0 a1 a2 s0) := q_CofG [some (q_rf w t), some (.int a0), some (.int a1), some (.int a2), none] (by decide +kernel) rfl rfl (Nat.le_of_ble_eq_true rfl) fun cx hl hc => by
  have hc : q_ok w cx RX11 cX11_man 5 (some .int) (q_rm 1 23) := hc
  rw [f_X11_man]
  refine g_il1 hc dX11_man_0 rfl (pc2 := 1) rfl ?_
  refine g_iconst hc dX11_man_1 ic_0 (pc2 := 2) rfl ?_
  refine g_bipush hc dX11_man_2 bp_99 (pc2 := 4) rfl ?_
  refine g_callS3 hc C_X11_isWithin mv_X11_isWithin ln_X11_91 ⟨by decide, by decide⟩ (Nat.le_of_ble_eq_true rfl) dX11_man_4 (pc2 := 7) rfl (fun r2 s1 => ?_)
  refine g_if_eq hc dX11_man_7 (pc1 := 30) (pc2 := 10) rfl rfl (fun _ => ?_) (fun _ => ?_)
  · refine g_iconst hc dX11_man_30 ic_m1 (pc2 := 31) rfl ?_
    exact g_iret hc dX11_man_31
  · refine g_il2 hc dX11_man_10 rfl (pc2 := 11) rfl ?_
    refine g_iconst hc dX11_man_11 ic_0 (pc2 := 12) rfl ?_
    refine g_bipush hc dX11_man_12 bp_9 (pc2 := 14) rfl ?_
    refine g_callS3 hc C_X11_isWithin mv_X11_isWithin ln_X11_91 ⟨by decide, by decide⟩ (Nat.le_of_ble_eq_true rfl) dX11_man_14 (pc2 := 17) rfl (fun r5 s4 => ?_)
    refine g_if_eq hc dX11_man_17 (pc1 := 30) (pc2 := 20) rfl rfl (fun _ => ?_) (fun _ => ?_)
    · refine g_iconst hc dX11_man_30 ic_m1 (pc2 := 31) rfl ?_
      exact g_iret hc dX11_man_31
    · refine g_il3 hc dX11_man_20 rfl (pc2 := 21) rfl ?_
      refine g_iconst hc dX11_man_21 ic_0 (pc2 := 22) rfl ?_
      refine g_bipush hc dX11_man_22 bp_9 (pc2 := 24) rfl ?_
      refine g_callS3 hc C_X11_isWithin mv_X11_isWithin ln_X11_91 ⟨by decide, by decide⟩ (Nat.le_of_ble_eq_true rfl) dX11_man_24 (pc2 := 27) rfl (fun r8 s7 => ?_)
      refine g_if_ne hc dX11_man_27 (pc1 := 30) (pc2 := 32) rfl rfl (fun _ => ?_) (fun _ => ?_)
      · refine g_iconst hc dX11_man_30 ic_m1 (pc2 := 31) rfl ?_
        exact g_iret hc dX11_man_31
      · refine g_rl0 hc dX11_man_32 rfl (pc2 := 33) rfl ?_
        refine g_getR hc fl_X11_12 rfl ht dX11_man_33 (pc2 := 36) rfl ?_
        refine g_getR hc fl_X11_81 rfl (kf_11_0 ht) dX11_man_36 (pc2 := 39) rfl ?_
        refine g_il1 hc dX11_man_39 rfl (pc2 := 40) rfl ?_
        refine g_il2 hc dX11_man_40 rfl (pc2 := 41) rfl ?_
        refine g_il3 hc dX11_man_41 rfl (pc2 := 42) rfl ?_
        refine g_callV3 hc (C_X9_addMan (kf_10_0 (kf_11_0 ht))) mv_X9_addMan ln_X11_99 (kf_10_0 (kf_11_0 ht)) ⟨by decide, by decide⟩ (Nat.le_of_ble_eq_true rfl) dX11_man_42 (pc2 := 45) rfl (fun r11 s10 => ?_)
        refine g_istore hc dX11_man_45 (by decide) (L2 := [some (q_rf w t), some (.int a0), some (.int a1), some (.int a2), some (.int r11)]) rfl (pc2 := 47) rfl ?_
        refine g_iload hc dX11_man_47 rfl (pc2 := 49) rfl ?_
        refine g_iconst hc dX11_man_49 ic_m1 (pc2 := 50) rfl ?_
        refine g_icmp_eq hc dX11_man_50 (pc1 := 60) (pc2 := 53) rfl rfl (fun _ => ?_) (fun _ => ?_)
        · refine g_iload hc dX11_man_60 rfl (pc2 := 62) rfl ?_
          exact g_iret hc dX11_man_62
        · refine g_rl0 hc dX11_man_53 rfl (pc2 := 54) rfl ?_
          refine g_getR hc fl_X11_26 rfl ht dX11_man_54 (pc2 := 57) rfl ?_
          refine g_callV0v hc (C_X1_forget (kf_11_3 ht)) mv_X1_forget ln_X11_88 (kf_11_3 ht) ⟨by decide, by decide⟩ (Nat.le_of_ble_eq_true rfl) dX11_man_57 (pc2 := 60) rfl (fun s13 => ?_)
          refine g_iload hc dX11_man_60 rfl (pc2 := 62) rfl ?_
          exact g_iret hc dX11_man_62
set_option maxRecDepth 100000 in
set_option maxHeartbeats 4000000 in
def f_X11_tellOfMan (n : Nat) (t : Nat) (a0 : Int32) (a1 : Int32) (a2 : Int32) (s0 : q_Sto) : Option (Int32 × q_Sto) :=
  q_call (f_X9_hasMan n (q_RF (q_RF t 0) 0) a1 s0) fun r2 s1 =>
  if r2 = 0 then (
  some (0, s1))
  else (
  q_jn (fun  (s4 : q_Sto) =>
    q_jn (fun  (s5 : q_Sto) =>
      if a0 = 5 then (
      q_call (f_X11_isWithin n a2 0 9 s5) fun r8 s7 =>
      if r8 = 0 then (
      some (0, s7))
      else (
      q_st s7 (q_RF (q_RF (q_RF t 0) 0) 6) a1 5 a2 fun s10 =>
      some (1, s10)))
      else (
      some (0, s5))) fun j70 =>
    if a0 = 4 then (
    q_call (f_X11_isWithin n a2 0 9 s4) fun r13 s12 =>
    if r13 = 0 then (
    j70 s12)
    else (
    q_st s12 (q_RF (q_RF (q_RF t 0) 0) 5) a1 5 a2 fun s15 =>
    some (1, s15)))
    else (
    j70 s4)) fun j45 =>
  if a0 = 3 then (
  q_call (f_X11_isWithin n a2 0 99 s1) fun r18 s17 =>
  if r18 = 0 then (
  j45 s17)
  else (
  q_st s17 (q_RF (q_RF (q_RF t 0) 0) 4) a1 5 a2 fun s20 =>
  some (1, s20)))
  else (
  j45 s1))
set_option maxRecDepth 100000 in
set_option maxHeartbeats 4000000 in
theorem C_X11_tellOfMan {l : Launch} {w : q_Wd} {n : Nat} {t : Nat} {a0 : Int32} {a1 : Int32} {a2 : Int32} (ht : q_KD t = .inl 11) {s0 : q_Sto} : q_C l w yX11_tellOfMan cX11_tellOfMan 5 (some .boolean) (q_rm 1 22) [q_rf w t, .int a0, .int a1, .int a2] s0 (f_X11_tellOfMan n t a0 a1 a2 s0) := q_CofG [some (q_rf w t), some (.int a0), some (.int a1), some (.int a2), none] (by decide +kernel) rfl rfl (Nat.le_of_ble_eq_true rfl) fun cx hl hc => by
  have hc : q_ok w cx RX11 cX11_tellOfMan 5 (some .boolean) (q_rm 1 22) := hc
  rw [f_X11_tellOfMan]
  refine g_rl0 hc dX11_tellOfMan_0 rfl (pc2 := 1) rfl ?_
  refine g_getR hc fl_X11_12 rfl ht dX11_tellOfMan_1 (pc2 := 4) rfl ?_
  refine g_getR hc fl_X11_81 rfl (kf_11_0 ht) dX11_tellOfMan_4 (pc2 := 7) rfl ?_
  refine g_rs hc dX11_tellOfMan_7 (by decide) (L2 := [some (q_rf w t), some (.int a0), some (.int a1), some (.int a2), some (q_rf w (q_RF (q_RF t 0) 0))]) rfl (pc2 := 9) rfl ?_
  refine g_rl hc dX11_tellOfMan_9 rfl (pc2 := 11) rfl ?_
  refine g_il2 hc dX11_tellOfMan_11 rfl (pc2 := 12) rfl ?_
  refine g_callV1 hc (C_X9_hasMan (kf_10_0 (kf_11_0 ht))) mv_X9_hasMan ln_X11_126 (kf_10_0 (kf_11_0 ht)) ⟨by decide, by decide⟩ (Nat.le_of_ble_eq_true rfl) dX11_tellOfMan_12 (pc2 := 15) rfl (fun r2 s1 => ?_)
  refine g_if_ne hc dX11_tellOfMan_15 (pc1 := 18) (pc2 := 20) rfl rfl (fun _ => ?_) (fun _ => ?_)
  · refine g_iconst hc dX11_tellOfMan_18 ic_0 (pc2 := 19) rfl ?_
    exact g_zret0 (by decide) hc dX11_tellOfMan_19
  · refine g_il1 hc dX11_tellOfMan_20 rfl (pc2 := 21) rfl ?_
    refine g_iconst hc dX11_tellOfMan_21 ic_3 (pc2 := 22) rfl ?_
    refine g_jn (P := fun j45 => ∀  (s4 : q_Sto), q_G w cx 5 (some .boolean) 45 [none, some (.int a0), some (.int a1), some (.int a2), some (q_rf w (q_RF (q_RF t 0) 0))] [] s4 (j45 s4)) (fun s4 => ?_) (fun j45 hj45 => ?_)
    · refine g_il1 hc dX11_tellOfMan_45 rfl (pc2 := 46) rfl ?_
      refine g_iconst hc dX11_tellOfMan_46 ic_4 (pc2 := 47) rfl ?_
      refine g_jn (P := fun j70 => ∀  (s5 : q_Sto), q_G w cx 5 (some .boolean) 70 [none, some (.int a0), some (.int a1), some (.int a2), some (q_rf w (q_RF (q_RF t 0) 0))] [] s5 (j70 s5)) (fun s5 => ?_) (fun j70 hj70 => ?_)
      · refine g_il1 hc dX11_tellOfMan_70 rfl (pc2 := 71) rfl ?_
        refine g_iconst hc dX11_tellOfMan_71 ic_5 (pc2 := 72) rfl ?_
        refine g_icmp_ne hc dX11_tellOfMan_72 (pc1 := 75) (pc2 := 95) rfl rfl (fun _ => ?_) (fun _ => ?_)
        · refine g_il3 hc dX11_tellOfMan_75 rfl (pc2 := 76) rfl ?_
          refine g_iconst hc dX11_tellOfMan_76 ic_0 (pc2 := 77) rfl ?_
          refine g_bipush hc dX11_tellOfMan_77 bp_9 (pc2 := 79) rfl ?_
          refine g_callS3 hc C_X11_isWithin mv_X11_isWithin ln_X11_91 ⟨by decide, by decide⟩ (Nat.le_of_ble_eq_true rfl) dX11_tellOfMan_79 (pc2 := 82) rfl (fun r8 s7 => ?_)
          refine g_if_eq hc dX11_tellOfMan_82 (pc1 := 95) (pc2 := 85) rfl rfl (fun _ => ?_) (fun _ => ?_)
          · refine g_iconst hc dX11_tellOfMan_95 ic_0 (pc2 := 96) rfl ?_
            exact g_zret0 (by decide) hc dX11_tellOfMan_96
          · refine g_rl hc dX11_tellOfMan_85 rfl (pc2 := 87) rfl ?_
            refine g_getR hc fl_X11_135 rfl (kf_10_0 (kf_11_0 ht)) dX11_tellOfMan_87 (pc2 := 90) rfl ?_
            refine g_il2 hc dX11_tellOfMan_90 rfl (pc2 := 91) rfl ?_
            refine g_il3 hc dX11_tellOfMan_91 rfl (pc2 := 92) rfl ?_
            refine g_iast hc (kf_9_6 (kf_10_0 (kf_11_0 ht))) (kl_9_6 (kf_10_0 (kf_11_0 ht))) dX11_tellOfMan_92 (pc2 := 93) rfl (fun s10 => ?_)
            refine g_iconst hc dX11_tellOfMan_93 ic_1 (pc2 := 94) rfl ?_
            exact g_zret0 (by decide) hc dX11_tellOfMan_94
        · refine g_iconst hc dX11_tellOfMan_95 ic_0 (pc2 := 96) rfl ?_
          exact g_zret0 (by decide) hc dX11_tellOfMan_96
      · refine g_icmp_ne hc dX11_tellOfMan_47 (pc1 := 50) (pc2 := 70) rfl rfl (fun _ => ?_) (fun _ => ?_)
        · refine g_il3 hc dX11_tellOfMan_50 rfl (pc2 := 51) rfl ?_
          refine g_iconst hc dX11_tellOfMan_51 ic_0 (pc2 := 52) rfl ?_
          refine g_bipush hc dX11_tellOfMan_52 bp_9 (pc2 := 54) rfl ?_
          refine g_callS3 hc C_X11_isWithin mv_X11_isWithin ln_X11_91 ⟨by decide, by decide⟩ (Nat.le_of_ble_eq_true rfl) dX11_tellOfMan_54 (pc2 := 57) rfl (fun r13 s12 => ?_)
          refine g_if_eq hc dX11_tellOfMan_57 (pc1 := 70) (pc2 := 60) rfl rfl (fun _ => ?_) (fun _ => ?_)
          · exact hj70 _
          · refine g_rl hc dX11_tellOfMan_60 rfl (pc2 := 62) rfl ?_
            refine g_getR hc fl_X11_132 rfl (kf_10_0 (kf_11_0 ht)) dX11_tellOfMan_62 (pc2 := 65) rfl ?_
            refine g_il2 hc dX11_tellOfMan_65 rfl (pc2 := 66) rfl ?_
            refine g_il3 hc dX11_tellOfMan_66 rfl (pc2 := 67) rfl ?_
            refine g_iast hc (kf_9_5 (kf_10_0 (kf_11_0 ht))) (kl_9_5 (kf_10_0 (kf_11_0 ht))) dX11_tellOfMan_67 (pc2 := 68) rfl (fun s15 => ?_)
            refine g_iconst hc dX11_tellOfMan_68 ic_1 (pc2 := 69) rfl ?_
            exact g_zret0 (by decide) hc dX11_tellOfMan_69
        · exact hj70 _
    · refine g_icmp_ne hc dX11_tellOfMan_22 (pc1 := 25) (pc2 := 45) rfl rfl (fun _ => ?_) (fun _ => ?_)
      · refine g_il3 hc dX11_tellOfMan_25 rfl (pc2 := 26) rfl ?_
        refine g_iconst hc dX11_tellOfMan_26 ic_0 (pc2 := 27) rfl ?_
        refine g_bipush hc dX11_tellOfMan_27 bp_99 (pc2 := 29) rfl ?_
        refine g_callS3 hc C_X11_isWithin mv_X11_isWithin ln_X11_91 ⟨by decide, by decide⟩ (Nat.le_of_ble_eq_true rfl) dX11_tellOfMan_29 (pc2 := 32) rfl (fun r18 s17 => ?_)
        refine g_if_eq hc dX11_tellOfMan_32 (pc1 := 45) (pc2 := 35) rfl rfl (fun _ => ?_) (fun _ => ?_)
        · refine q_Gmask [false, true, true, true, true] (L2 := [none, some (.int a0), some (.int a1), some (.int a2), some (q_rf w (q_RF (q_RF t 0) 0))]) rfl ?_
          exact hj45 _
        · refine g_rl hc dX11_tellOfMan_35 rfl (pc2 := 37) rfl ?_
          refine g_getR hc fl_X11_129 rfl (kf_10_0 (kf_11_0 ht)) dX11_tellOfMan_37 (pc2 := 40) rfl ?_
          refine g_il2 hc dX11_tellOfMan_40 rfl (pc2 := 41) rfl ?_
          refine g_il3 hc dX11_tellOfMan_41 rfl (pc2 := 42) rfl ?_
          refine g_iast hc (kf_9_4 (kf_10_0 (kf_11_0 ht))) (kl_9_4 (kf_10_0 (kf_11_0 ht))) dX11_tellOfMan_42 (pc2 := 43) rfl (fun s20 => ?_)
          refine g_iconst hc dX11_tellOfMan_43 ic_1 (pc2 := 44) rfl ?_
          exact g_zret0 (by decide) hc dX11_tellOfMan_44
      · refine q_Gmask [false, true, true, true, true] (L2 := [none, some (.int a0), some (.int a1), some (.int a2), some (q_rf w (q_RF (q_RF t 0) 0))]) rfl ?_
        exact hj45 _
set_option maxRecDepth 100000 in
set_option maxHeartbeats 4000000 in
def f_X11_isCamp (n : Nat) (a0 : Int32) (s0 : q_Sto) : Option (Int32 × q_Sto) :=
  if a0 < 0 then (
  some (0, s0))
  else (
  if a0 < 10 then (
  some (1, s0))
  else (
  some (0, s0)))
set_option maxRecDepth 100000 in
set_option maxHeartbeats 4000000 in
theorem C_X11_isCamp {l : Launch} {w : q_Wd} {n : Nat} {a0 : Int32}  {s0 : q_Sto} : q_C l w yX11_isCamp cX11_isCamp 1 (some .boolean) (q_rm 0 0) [.int a0] s0 (f_X11_isCamp n a0 s0) := q_CofG [some (.int a0)] (by decide +kernel) rfl rfl (Nat.le_of_ble_eq_true rfl) fun cx hl hc => by
  have hc : q_ok w cx RX11 cX11_isCamp 1 (some .boolean) (q_rm 0 0) := hc
  rw [f_X11_isCamp]
  refine g_il0 hc dX11_isCamp_0 rfl (pc2 := 1) rfl ?_
  refine g_if_lt hc dX11_isCamp_1 (pc1 := 14) (pc2 := 4) rfl rfl (fun _ => ?_) (fun _ => ?_)
  · refine g_iconst hc dX11_isCamp_14 ic_0 (pc2 := 15) rfl ?_
    exact g_zret0 (by decide) hc dX11_isCamp_15
  · refine g_il0 hc dX11_isCamp_4 rfl (pc2 := 5) rfl ?_
    refine g_bipush hc dX11_isCamp_5 bp_10 (pc2 := 7) rfl ?_
    refine g_icmp_ge hc dX11_isCamp_7 (pc1 := 10) (pc2 := 14) rfl rfl (fun _ => ?_) (fun _ => ?_)
    · refine g_iconst hc dX11_isCamp_10 ic_1 (pc2 := 11) rfl ?_
      refine g_goto hc dX11_isCamp_11 (pc2 := 15) rfl ?_
      exact g_zret0 (by decide) hc dX11_isCamp_15
    · refine g_iconst hc dX11_isCamp_14 ic_0 (pc2 := 15) rfl ?_
      exact g_zret0 (by decide) hc dX11_isCamp_15
set_option maxRecDepth 100000 in
set_option maxHeartbeats 4000000 in
def f_X11_tellOfTrain (n : Nat) (t : Nat) (a0 : Int32) (a1 : Int32) (a2 : Int32) (s0 : q_Sto) : Option (Int32 × q_Sto) :=
  q_jn (fun  (s1 : q_Sto) =>
    q_jn (fun  (s2 : q_Sto) =>
      if a0 = 2 then (
      q_call (f_X9_hasMule n (q_RF (q_RF t 0) 0) a1 s2) fun r5 s4 =>
      if r5 = 0 then (
      some (0, s4))
      else (
      q_call (f_X11_isWithin n a2 0 1 s4) fun r8 s7 =>
      if r8 = 0 then (
      some (0, s7))
      else (
      q_st s7 (q_RF (q_RF (q_RF t 0) 0) 2) a1 12 a2 fun s10 =>
      some (1, s10))))
      else (
      some (0, s2))) fun j51 =>
    if a0 = 1 then (
    q_call (f_X11_isCamp n a2 s1) fun r13 s12 =>
    if r13 = 0 then (
    j51 s12)
    else (
    q_nS1 (q_up s12 (q_RF (q_RF t 0) 0) 12 a2) fun s15 =>
    some (1, s15)))
    else (
    j51 s1)) fun j31 =>
  if a0 = 0 then (
  q_call (f_X11_isWithin n a2 0 9 s0) fun r18 s17 =>
  if r18 = 0 then (
  j31 s17)
  else (
  q_nS1 (q_up s17 (q_RF (q_RF t 0) 0) 11 a2) fun s20 =>
  some (1, s20)))
  else (
  j31 s0)
set_option maxRecDepth 100000 in
set_option maxHeartbeats 4000000 in
theorem C_X11_tellOfTrain {l : Launch} {w : q_Wd} {n : Nat} {t : Nat} {a0 : Int32} {a1 : Int32} {a2 : Int32} (ht : q_KD t = .inl 11) {s0 : q_Sto} : q_C l w yX11_tellOfTrain cX11_tellOfTrain 5 (some .boolean) (q_rm 1 22) [q_rf w t, .int a0, .int a1, .int a2] s0 (f_X11_tellOfTrain n t a0 a1 a2 s0) := q_CofG [some (q_rf w t), some (.int a0), some (.int a1), some (.int a2), none] (by decide +kernel) rfl rfl (Nat.le_of_ble_eq_true rfl) fun cx hl hc => by
  have hc : q_ok w cx RX11 cX11_tellOfTrain 5 (some .boolean) (q_rm 1 22) := hc
  rw [f_X11_tellOfTrain]
  refine g_rl0 hc dX11_tellOfTrain_0 rfl (pc2 := 1) rfl ?_
  refine g_getR hc fl_X11_12 rfl ht dX11_tellOfTrain_1 (pc2 := 4) rfl ?_
  refine g_getR hc fl_X11_81 rfl (kf_11_0 ht) dX11_tellOfTrain_4 (pc2 := 7) rfl ?_
  refine g_rs hc dX11_tellOfTrain_7 (by decide) (L2 := [some (q_rf w t), some (.int a0), some (.int a1), some (.int a2), some (q_rf w (q_RF (q_RF t 0) 0))]) rfl (pc2 := 9) rfl ?_
  refine g_il1 hc dX11_tellOfTrain_9 rfl (pc2 := 10) rfl ?_
  refine g_jn (P := fun j31 => ∀  (s1 : q_Sto), q_G w cx 5 (some .boolean) 31 [none, some (.int a0), some (.int a1), some (.int a2), some (q_rf w (q_RF (q_RF t 0) 0))] [] s1 (j31 s1)) (fun s1 => ?_) (fun j31 hj31 => ?_)
  · refine g_il1 hc dX11_tellOfTrain_31 rfl (pc2 := 32) rfl ?_
    refine g_iconst hc dX11_tellOfTrain_32 ic_1 (pc2 := 33) rfl ?_
    refine g_jn (P := fun j51 => ∀  (s2 : q_Sto), q_G w cx 5 (some .boolean) 51 [none, some (.int a0), some (.int a1), some (.int a2), some (q_rf w (q_RF (q_RF t 0) 0))] [] s2 (j51 s2)) (fun s2 => ?_) (fun j51 hj51 => ?_)
    · refine g_il1 hc dX11_tellOfTrain_51 rfl (pc2 := 52) rfl ?_
      refine g_iconst hc dX11_tellOfTrain_52 ic_2 (pc2 := 53) rfl ?_
      refine g_icmp_ne hc dX11_tellOfTrain_53 (pc1 := 56) (pc2 := 84) rfl rfl (fun _ => ?_) (fun _ => ?_)
      · refine g_rl hc dX11_tellOfTrain_56 rfl (pc2 := 58) rfl ?_
        refine g_il2 hc dX11_tellOfTrain_58 rfl (pc2 := 59) rfl ?_
        refine g_callV1 hc (C_X9_hasMule (kf_10_0 (kf_11_0 ht))) mv_X9_hasMule ln_X11_119 (kf_10_0 (kf_11_0 ht)) ⟨by decide, by decide⟩ (Nat.le_of_ble_eq_true rfl) dX11_tellOfTrain_59 (pc2 := 62) rfl (fun r5 s4 => ?_)
        refine g_if_eq hc dX11_tellOfTrain_62 (pc1 := 84) (pc2 := 65) rfl rfl (fun _ => ?_) (fun _ => ?_)
        · refine g_iconst hc dX11_tellOfTrain_84 ic_0 (pc2 := 85) rfl ?_
          exact g_zret0 (by decide) hc dX11_tellOfTrain_85
        · refine g_il3 hc dX11_tellOfTrain_65 rfl (pc2 := 66) rfl ?_
          refine g_iconst hc dX11_tellOfTrain_66 ic_0 (pc2 := 67) rfl ?_
          refine g_iconst hc dX11_tellOfTrain_67 ic_1 (pc2 := 68) rfl ?_
          refine g_callS3 hc C_X11_isWithin mv_X11_isWithin ln_X11_91 ⟨by decide, by decide⟩ (Nat.le_of_ble_eq_true rfl) dX11_tellOfTrain_68 (pc2 := 71) rfl (fun r8 s7 => ?_)
          refine g_if_eq hc dX11_tellOfTrain_71 (pc1 := 84) (pc2 := 74) rfl rfl (fun _ => ?_) (fun _ => ?_)
          · refine g_iconst hc dX11_tellOfTrain_84 ic_0 (pc2 := 85) rfl ?_
            exact g_zret0 (by decide) hc dX11_tellOfTrain_85
          · refine g_rl hc dX11_tellOfTrain_74 rfl (pc2 := 76) rfl ?_
            refine g_getR hc fl_X11_122 rfl (kf_10_0 (kf_11_0 ht)) dX11_tellOfTrain_76 (pc2 := 79) rfl ?_
            refine g_il2 hc dX11_tellOfTrain_79 rfl (pc2 := 80) rfl ?_
            refine g_il3 hc dX11_tellOfTrain_80 rfl (pc2 := 81) rfl ?_
            refine g_iast hc (kf_9_2 (kf_10_0 (kf_11_0 ht))) (kl_9_2 (kf_10_0 (kf_11_0 ht))) dX11_tellOfTrain_81 (pc2 := 82) rfl (fun s10 => ?_)
            refine g_iconst hc dX11_tellOfTrain_82 ic_1 (pc2 := 83) rfl ?_
            exact g_zret0 (by decide) hc dX11_tellOfTrain_83
      · refine g_iconst hc dX11_tellOfTrain_84 ic_0 (pc2 := 85) rfl ?_
        exact g_zret0 (by decide) hc dX11_tellOfTrain_85
    · refine g_icmp_ne hc dX11_tellOfTrain_33 (pc1 := 36) (pc2 := 51) rfl rfl (fun _ => ?_) (fun _ => ?_)
      · refine g_il3 hc dX11_tellOfTrain_36 rfl (pc2 := 37) rfl ?_
        refine g_callS1 hc C_X11_isCamp mv_X11_isCamp ln_X11_112 ⟨by decide, by decide⟩ (Nat.le_of_ble_eq_true rfl) dX11_tellOfTrain_37 (pc2 := 40) rfl (fun r13 s12 => ?_)
        refine g_if_eq hc dX11_tellOfTrain_40 (pc1 := 51) (pc2 := 43) rfl rfl (fun _ => ?_) (fun _ => ?_)
        · exact hj51 _
        · refine g_rl hc dX11_tellOfTrain_43 rfl (pc2 := 45) rfl ?_
          refine g_il3 hc dX11_tellOfTrain_45 rfl (pc2 := 46) rfl ?_
          refine g_putI hc fl_X11_116 rfl (kf_10_0 (kf_11_0 ht)) dX11_tellOfTrain_46 (pc2 := 49) rfl (fun s15 => ?_)
          refine g_iconst hc dX11_tellOfTrain_49 ic_1 (pc2 := 50) rfl ?_
          exact g_zret0 (by decide) hc dX11_tellOfTrain_50
      · exact hj51 _
  · refine g_if_ne hc dX11_tellOfTrain_10 (pc1 := 13) (pc2 := 31) rfl rfl (fun _ => ?_) (fun _ => ?_)
    · refine g_il3 hc dX11_tellOfTrain_13 rfl (pc2 := 14) rfl ?_
      refine g_iconst hc dX11_tellOfTrain_14 ic_0 (pc2 := 15) rfl ?_
      refine g_bipush hc dX11_tellOfTrain_15 bp_9 (pc2 := 17) rfl ?_
      refine g_callS3 hc C_X11_isWithin mv_X11_isWithin ln_X11_91 ⟨by decide, by decide⟩ (Nat.le_of_ble_eq_true rfl) dX11_tellOfTrain_17 (pc2 := 20) rfl (fun r18 s17 => ?_)
      refine g_if_eq hc dX11_tellOfTrain_20 (pc1 := 31) (pc2 := 23) rfl rfl (fun _ => ?_) (fun _ => ?_)
      · refine q_Gmask [false, true, true, true, true] (L2 := [none, some (.int a0), some (.int a1), some (.int a2), some (q_rf w (q_RF (q_RF t 0) 0))]) rfl ?_
        exact hj31 _
      · refine g_rl hc dX11_tellOfTrain_23 rfl (pc2 := 25) rfl ?_
        refine g_il3 hc dX11_tellOfTrain_25 rfl (pc2 := 26) rfl ?_
        refine g_putI hc fl_X11_109 rfl (kf_10_0 (kf_11_0 ht)) dX11_tellOfTrain_26 (pc2 := 29) rfl (fun s20 => ?_)
        refine g_iconst hc dX11_tellOfTrain_29 ic_1 (pc2 := 30) rfl ?_
        exact g_zret0 (by decide) hc dX11_tellOfTrain_30
    · refine q_Gmask [false, true, true, true, true] (L2 := [none, some (.int a0), some (.int a1), some (.int a2), some (q_rf w (q_RF (q_RF t 0) 0))]) rfl ?_
      exact hj31 _
set_option maxRecDepth 100000 in
set_option maxHeartbeats 4000000 in
def f_X11_set (n : Nat) (t : Nat) (a0 : Int32) (a1 : Int32) (a2 : Int32) (s0 : q_Sto) : Option (Int32 × q_Sto) :=
  if a0 < 3 then (
  q_call (f_X11_tellOfTrain n t a0 a1 a2 s0) fun r3 s2 =>
  if r3 = 0 then (
  q_rz r3 s2)
  else (
  q_callv (f_X1_forget n (q_RF t 3) s2) fun s5 =>
  q_rz r3 s5))
  else (
  q_call (f_X11_tellOfMan n t a0 a1 a2 s0) fun r8 s7 =>
  if r8 = 0 then (
  q_rz r8 s7)
  else (
  q_callv (f_X1_forget n (q_RF t 3) s7) fun s10 =>
  q_rz r8 s10))
set_option maxRecDepth 100000 in
set_option maxHeartbeats 4000000 in
theorem C_X11_set {l : Launch} {w : q_Wd} {n : Nat} {t : Nat} {a0 : Int32} {a1 : Int32} {a2 : Int32} (ht : q_KD t = .inl 11) {s0 : q_Sto} : q_C l w yX11_set cX11_set 5 (some .boolean) (q_rm 2 46) [q_rf w t, .int a0, .int a1, .int a2] s0 (f_X11_set n t a0 a1 a2 s0) := q_CofG [some (q_rf w t), some (.int a0), some (.int a1), some (.int a2), none] (by decide +kernel) rfl rfl (Nat.le_of_ble_eq_true rfl) fun cx hl hc => by
  have hc : q_ok w cx RX11 cX11_set 5 (some .boolean) (q_rm 2 46) := hc
  rw [f_X11_set]
  refine g_il1 hc dX11_set_0 rfl (pc2 := 1) rfl ?_
  refine g_iconst hc dX11_set_1 ic_3 (pc2 := 2) rfl ?_
  refine g_icmp_lt hc dX11_set_2 (pc1 := 15) (pc2 := 5) rfl rfl (fun _ => ?_) (fun _ => ?_)
  · refine g_rl0 hc dX11_set_15 rfl (pc2 := 16) rfl ?_
    refine g_il1 hc dX11_set_16 rfl (pc2 := 17) rfl ?_
    refine g_il2 hc dX11_set_17 rfl (pc2 := 18) rfl ?_
    refine g_il3 hc dX11_set_18 rfl (pc2 := 19) rfl ?_
    refine g_callV3 hc (C_X11_tellOfTrain ht) mv_X11_tellOfTrain ln_X11_106 ht ⟨by decide, by decide⟩ (Nat.le_of_ble_eq_true rfl) dX11_set_19 (pc2 := 22) rfl (fun r3 s2 => ?_)
    refine g_istore hc dX11_set_22 (by decide) (L2 := [some (q_rf w t), some (.int a0), some (.int a1), some (.int a2), some (.int r3)]) rfl (pc2 := 24) rfl ?_
    refine g_iload hc dX11_set_24 rfl (pc2 := 26) rfl ?_
    refine g_if_eq hc dX11_set_26 (pc1 := 36) (pc2 := 29) rfl rfl (fun _ => ?_) (fun _ => ?_)
    · refine g_iload hc dX11_set_36 rfl (pc2 := 38) rfl ?_
      exact g_zret hc dX11_set_38
    · refine g_rl0 hc dX11_set_29 rfl (pc2 := 30) rfl ?_
      refine g_getR hc fl_X11_26 rfl ht dX11_set_30 (pc2 := 33) rfl ?_
      refine g_callV0v hc (C_X1_forget (kf_11_3 ht)) mv_X1_forget ln_X11_88 (kf_11_3 ht) ⟨by decide, by decide⟩ (Nat.le_of_ble_eq_true rfl) dX11_set_33 (pc2 := 36) rfl (fun s5 => ?_)
      refine g_iload hc dX11_set_36 rfl (pc2 := 38) rfl ?_
      exact g_zret hc dX11_set_38
  · refine g_rl0 hc dX11_set_5 rfl (pc2 := 6) rfl ?_
    refine g_il1 hc dX11_set_6 rfl (pc2 := 7) rfl ?_
    refine g_il2 hc dX11_set_7 rfl (pc2 := 8) rfl ?_
    refine g_il3 hc dX11_set_8 rfl (pc2 := 9) rfl ?_
    refine g_callV3 hc (C_X11_tellOfMan ht) mv_X11_tellOfMan ln_X11_103 ht ⟨by decide, by decide⟩ (Nat.le_of_ble_eq_true rfl) dX11_set_9 (pc2 := 12) rfl (fun r8 s7 => ?_)
    refine g_goto hc dX11_set_12 (pc2 := 22) rfl ?_
    refine g_istore hc dX11_set_22 (by decide) (L2 := [some (q_rf w t), some (.int a0), some (.int a1), some (.int a2), some (.int r8)]) rfl (pc2 := 24) rfl ?_
    refine g_iload hc dX11_set_24 rfl (pc2 := 26) rfl ?_
    refine g_if_eq hc dX11_set_26 (pc1 := 36) (pc2 := 29) rfl rfl (fun _ => ?_) (fun _ => ?_)
    · refine g_iload hc dX11_set_36 rfl (pc2 := 38) rfl ?_
      exact g_zret hc dX11_set_38
    · refine g_rl0 hc dX11_set_29 rfl (pc2 := 30) rfl ?_
      refine g_getR hc fl_X11_26 rfl ht dX11_set_30 (pc2 := 33) rfl ?_
      refine g_callV0v hc (C_X1_forget (kf_11_3 ht)) mv_X1_forget ln_X11_88 (kf_11_3 ht) ⟨by decide, by decide⟩ (Nat.le_of_ble_eq_true rfl) dX11_set_33 (pc2 := 36) rfl (fun s10 => ?_)
      refine g_iload hc dX11_set_36 rfl (pc2 := 38) rfl ?_
      exact g_zret hc dX11_set_38
