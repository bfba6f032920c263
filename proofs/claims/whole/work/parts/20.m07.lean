set_option maxRecDepth 100000 in
set_option maxHeartbeats 4000000 in
def f_X7_readLine (n : Nat) (t : Nat) (a0 : Int32) (a1 : Nat) (s0 : q_Sto) : Option (Int32 × q_Sto) :=
  q_jn (fun (y1 : Nat) (s2 : q_Sto) =>
    q_call (f_X8_isWord n (q_RF t 0) y1 s2) fun r4 s3 =>
    if r4 = 0 then (
    q_call (f_X8_fail n (q_RF t 0) 1 s3) fun r7 s6 =>
    q_rz r7 s6)
    else (
    q_jn (fun (y8 : Int32) (s9 : q_Sto) =>
      if (s3 (q_RF t 1) 2) < y8 then (
      q_callv (f_X8_next n (q_RF t 0) s9) fun s11 =>
      if a0 = 1 then (
      q_call (f_X7_readHeed n t a1 s11) fun r15 s14 =>
      q_rz r15 s14)
      else
      if a0 = 2 then (
      q_call (f_X7_readPlan n t a1 s11) fun r18 s17 =>
      q_rz r18 s17)
      else
      if a0 = 3 then (
      q_call (f_X7_readPath n t s11) fun r21 s20 =>
      q_rz r21 s20)
      else
      (q_call (f_X7_readLoad n t s11) fun r23 s22 =>
      q_rz r23 s22))
      else (
      q_call (f_X8_fail n (q_RF t 0) 3 s9) fun r25 s24 =>
      q_rz r25 s24)) fun j72 =>
    if a0 = 4 then (
    j72 8 s3)
    else (
    j72 16 s3))) fun j32 =>
  if a0 = 1 then (
  j32 17 s0)
  else (
  if a0 = 2 then (
  j32 18 s0)
  else (
  if a0 = 3 then (
  j32 19 s0)
  else (
  j32 20 s0)))
set_option maxRecDepth 100000 in
set_option maxHeartbeats 4000000 in
theorem C_X7_readLine {l : Launch} {w : q_Wd} {n : Nat} {t : Nat} {a0 : Int32} {a1 : Nat} (ht : q_KD t = .inl 7) (ha1 : q_KD a1 = .inl 9) {s0 : q_Sto} : q_C l w yX7_readLine cX7_readLine 4 (some .boolean) (q_rm 10 230) [q_rf w t, .int a0, q_rf w a1] s0 (f_X7_readLine n t a0 a1 s0) := q_CofG [some (q_rf w t), some (.int a0), some (q_rf w a1), none] (by decide +kernel) rfl rfl (Nat.le_of_ble_eq_true rfl) fun cx hl hc => by
  have hc : q_ok w cx RX7 cX7_readLine 4 (some .boolean) (q_rm 10 230) := hc
  rw [f_X7_readLine]
  refine g_il1 hc dX7_readLine_0 rfl (pc2 := 1) rfl ?_
  refine g_iconst hc dX7_readLine_1 ic_1 (pc2 := 2) rfl ?_
  refine g_jn (P := fun j32 => ∀ (y1 : Nat) (hy1 : y1 < q_nS) (s2 : q_Sto), q_G w cx 4 (some .boolean) 32 [some (q_rf w t), some (.int a0), some (q_rf w a1), none] [q_rs w y1] s2 (j32 y1 s2)) (fun y1 hy1 s2 => ?_) (fun j32 hj32 => ?_)
  · refine g_ss3 hc dX7_readLine_32 (by decide) (L2 := [some (q_rf w t), some (.int a0), some (q_rf w a1), some (q_rs w y1)]) rfl (pc2 := 33) rfl ?_
    refine g_rl0 hc dX7_readLine_33 rfl (pc2 := 34) rfl ?_
    refine g_getR hc fl_X7_20 rfl ht dX7_readLine_34 (pc2 := 37) rfl ?_
    refine g_sl3 hc dX7_readLine_37 rfl (pc2 := 38) rfl ?_
    refine g_callV1 hc (C_X8_isWord (kf_7_0 ht) hy1) mv_X8_isWord ln_X7_49 (kf_7_0 ht) ⟨by decide, by decide⟩ (Nat.le_of_ble_eq_true rfl) dX7_readLine_38 (pc2 := 41) rfl (fun r4 s3 => ?_)
    refine g_if_ne hc dX7_readLine_41 (pc1 := 44) (pc2 := 53) rfl rfl (fun _ => ?_) (fun _ => ?_)
    · refine g_rl0 hc dX7_readLine_44 rfl (pc2 := 45) rfl ?_
      refine g_getR hc fl_X7_20 rfl ht dX7_readLine_45 (pc2 := 48) rfl ?_
      refine g_iconst hc dX7_readLine_48 ic_1 (pc2 := 49) rfl ?_
      refine g_callV1 hc (C_X8_fail (kf_7_0 ht)) mv_X8_fail ln_X7_53 (kf_7_0 ht) ⟨by decide, by decide⟩ (Nat.le_of_ble_eq_true rfl) dX7_readLine_49 (pc2 := 52) rfl (fun r7 s6 => ?_)
      exact g_zret hc dX7_readLine_52
    · refine g_rl0 hc dX7_readLine_53 rfl (pc2 := 54) rfl ?_
      refine g_getR hc fl_X7_14 rfl ht dX7_readLine_54 (pc2 := 57) rfl ?_
      refine g_getI hc fl_X7_57 rfl (kf_7_1 ht) dX7_readLine_57 (pc2 := 60) rfl ?_
      refine g_il1 hc dX7_readLine_60 rfl (pc2 := 61) rfl ?_
      refine g_iconst hc dX7_readLine_61 ic_4 (pc2 := 62) rfl ?_
      refine g_jn (P := fun j72 => ∀ (y8 : Int32) (s9 : q_Sto), q_G w cx 4 (some .boolean) 72 [some (q_rf w t), some (.int a0), some (q_rf w a1), none] [.int y8, .int (s3 (q_RF t 1) 2)] s9 (j72 y8 s9)) (fun y8 s9 => ?_) (fun j72 hj72 => ?_)
      · refine g_icmp_lt hc dX7_readLine_72 (pc1 := 84) (pc2 := 75) rfl rfl (fun _ => ?_) (fun _ => ?_)
        · refine g_rl0 hc dX7_readLine_84 rfl (pc2 := 85) rfl ?_
          refine g_getR hc fl_X7_20 rfl ht dX7_readLine_85 (pc2 := 88) rfl ?_
          refine g_callV0v hc (C_X8_next (kf_7_0 ht)) mv_X8_next ln_X7_61 (kf_7_0 ht) ⟨by decide, by decide⟩ (Nat.le_of_ble_eq_true rfl) dX7_readLine_88 (pc2 := 91) rfl (fun s11 => ?_)
          refine g_il1 hc dX7_readLine_91 rfl (pc2 := 92) rfl ?_
          refine g_swc (pc2 := 0) hc dX7_readLine_92 (c := 1) (by decide) (by decide) rfl (pc1 := 120) rfl (fun _ => ?_) (fun c13 => ?_)
          · refine g_rl0 hc dX7_readLine_120 rfl (pc2 := 121) rfl ?_
            refine g_rl2 hc dX7_readLine_121 rfl (pc2 := 122) rfl ?_
            refine g_callV1 hc (C_X7_readHeed ht ha1) mv_X7_readHeed ln_X7_64 ht ⟨by decide, by decide⟩ (Nat.le_of_ble_eq_true rfl) dX7_readLine_122 (pc2 := 125) rfl (fun r15 s14 => ?_)
            exact g_zret hc dX7_readLine_125
          refine g_swc (pc2 := 0) hc dX7_readLine_92 (c := 2) (by decide) (by decide) rfl (pc1 := 126) rfl (fun _ => ?_) (fun c16 => ?_)
          · refine g_rl0 hc dX7_readLine_126 rfl (pc2 := 127) rfl ?_
            refine g_rl2 hc dX7_readLine_127 rfl (pc2 := 128) rfl ?_
            refine g_callV1 hc (C_X7_readPlan ht ha1) mv_X7_readPlan ln_X7_68 ht ⟨by decide, by decide⟩ (Nat.le_of_ble_eq_true rfl) dX7_readLine_128 (pc2 := 131) rfl (fun r18 s17 => ?_)
            exact g_zret hc dX7_readLine_131
          refine g_swc (pc2 := 0) hc dX7_readLine_92 (c := 3) (by decide) (by decide) rfl (pc1 := 132) rfl (fun _ => ?_) (fun c19 => ?_)
          · refine g_rl0 hc dX7_readLine_132 rfl (pc2 := 133) rfl ?_
            refine g_callV0 hc (C_X7_readPath ht) mv_X7_readPath ln_X7_71 ht ⟨by decide, by decide⟩ (Nat.le_of_ble_eq_true rfl) dX7_readLine_133 (pc2 := 136) rfl (fun r21 s20 => ?_)
            exact g_zret hc dX7_readLine_136
          refine g_swd (pc2 := 0) hc dX7_readLine_92 (fun i a b e => ?_) (pc1 := 137) rfl ?_
          · rcases (show i = 1 ∨ i = 2 ∨ i = 3 by omega) with rfl | rfl | rfl
            · exact q_swx (c := 1) (by decide) c13 e
            · exact q_swx (c := 2) (by decide) c16 e
            · exact q_swx (c := 3) (by decide) c19 e
          · refine g_rl0 hc dX7_readLine_137 rfl (pc2 := 138) rfl ?_
            refine g_callV0 hc (C_X7_readLoad ht) mv_X7_readLoad ln_X7_74 ht ⟨by decide, by decide⟩ (Nat.le_of_ble_eq_true rfl) dX7_readLine_138 (pc2 := 141) rfl (fun r23 s22 => ?_)
            exact g_zret hc dX7_readLine_141
        · refine g_rl0 hc dX7_readLine_75 rfl (pc2 := 76) rfl ?_
          refine g_getR hc fl_X7_20 rfl ht dX7_readLine_76 (pc2 := 79) rfl ?_
          refine g_iconst hc dX7_readLine_79 ic_3 (pc2 := 80) rfl ?_
          refine g_callV1 hc (C_X8_fail (kf_7_0 ht)) mv_X8_fail ln_X7_53 (kf_7_0 ht) ⟨by decide, by decide⟩ (Nat.le_of_ble_eq_true rfl) dX7_readLine_80 (pc2 := 83) rfl (fun r25 s24 => ?_)
          exact g_zret hc dX7_readLine_83
      · refine g_icmp_ne hc dX7_readLine_62 (pc1 := 65) (pc2 := 70) rfl rfl (fun _ => ?_) (fun _ => ?_)
        · refine g_bipush hc dX7_readLine_65 bp_8 (pc2 := 67) rfl ?_
          refine g_goto hc dX7_readLine_67 (pc2 := 72) rfl ?_
          refine q_Gmask [true, true, true, false] (L2 := [some (q_rf w t), some (.int a0), some (q_rf w a1), none]) rfl ?_
          exact hj72 _ _
        · refine g_bipush hc dX7_readLine_70 bp_16 (pc2 := 72) rfl ?_
          refine q_Gmask [true, true, true, false] (L2 := [some (q_rf w t), some (.int a0), some (q_rf w a1), none]) rfl ?_
          exact hj72 _ _
  · refine g_icmp_ne hc dX7_readLine_2 (pc1 := 5) (pc2 := 10) rfl rfl (fun _ => ?_) (fun _ => ?_)
    · refine g_ldcS (i := 17) (tx := "mule") hc (by decide +kernel) dX7_readLine_5 (pc2 := 7) rfl ?_
      refine g_goto hc dX7_readLine_7 (pc2 := 32) rfl ?_
      exact hj32 _ (by decide) _
    · refine g_il1 hc dX7_readLine_10 rfl (pc2 := 11) rfl ?_
      refine g_iconst hc dX7_readLine_11 ic_2 (pc2 := 12) rfl ?_
      refine g_icmp_ne hc dX7_readLine_12 (pc1 := 15) (pc2 := 20) rfl rfl (fun _ => ?_) (fun _ => ?_)
      · refine g_ldcS (i := 18) (tx := "on") hc (by decide +kernel) dX7_readLine_15 (pc2 := 17) rfl ?_
        refine g_goto hc dX7_readLine_17 (pc2 := 32) rfl ?_
        exact hj32 _ (by decide) _
      · refine g_il1 hc dX7_readLine_20 rfl (pc2 := 21) rfl ?_
        refine g_iconst hc dX7_readLine_21 ic_3 (pc2 := 22) rfl ?_
        refine g_icmp_ne hc dX7_readLine_22 (pc1 := 25) (pc2 := 30) rfl rfl (fun _ => ?_) (fun _ => ?_)
        · refine g_ldcS (i := 19) (tx := "path") hc (by decide +kernel) dX7_readLine_25 (pc2 := 27) rfl ?_
          refine g_goto hc dX7_readLine_27 (pc2 := 32) rfl ?_
          exact hj32 _ (by decide) _
        · refine g_ldcS (i := 20) (tx := "load") hc (by decide +kernel) dX7_readLine_30 (pc2 := 32) rfl ?_
          exact hj32 _ (by decide) _
set_option maxRecDepth 100000 in
set_option maxHeartbeats 4000000 in
def f_X8_takeSign (n : Nat) (t : Nat) (a0 : Int32) (s0 : q_Sto) : Option (Int32 × q_Sto) :=
  q_call (f_X8_isSign n t a0 s0) fun r2 s1 =>
  if r2 = 0 then (
  some (0, s1))
  else (
  q_callv (f_X8_next n t s1) fun s4 =>
  some (1, s4))
set_option maxRecDepth 100000 in
set_option maxHeartbeats 4000000 in
theorem C_X8_takeSign {l : Launch} {w : q_Wd} {n : Nat} {t : Nat} {a0 : Int32} (ht : q_KD t = .inl 8) {s0 : q_Sto} : q_C l w yX8_takeSign cX8_takeSign 2 (some .boolean) (q_rm 2 41) [q_rf w t, .int a0] s0 (f_X8_takeSign n t a0 s0) := q_CofG [some (q_rf w t), some (.int a0)] (by decide +kernel) rfl rfl (Nat.le_of_ble_eq_true rfl) fun cx hl hc => by
  have hc : q_ok w cx RX8 cX8_takeSign 2 (some .boolean) (q_rm 2 41) := hc
  rw [f_X8_takeSign]
  refine g_rl0 hc dX8_takeSign_0 rfl (pc2 := 1) rfl ?_
  refine g_il1 hc dX8_takeSign_1 rfl (pc2 := 2) rfl ?_
  refine g_callV1 hc (C_X8_isSign ht) mv_X8_isSign ln_X8_60 ht ⟨by decide, by decide⟩ (Nat.le_of_ble_eq_true rfl) dX8_takeSign_2 (pc2 := 5) rfl (fun r2 s1 => ?_)
  refine g_if_ne hc dX8_takeSign_5 (pc1 := 8) (pc2 := 10) rfl rfl (fun _ => ?_) (fun _ => ?_)
  · refine g_iconst hc dX8_takeSign_8 ic_0 (pc2 := 9) rfl ?_
    exact g_zret0 (by decide) hc dX8_takeSign_9
  · refine g_rl0 hc dX8_takeSign_10 rfl (pc2 := 11) rfl ?_
    refine g_callV0v hc (C_X8_next ht) mv_X8_next ln_X8_37 ht ⟨by decide, by decide⟩ (Nat.le_of_ble_eq_true rfl) dX8_takeSign_11 (pc2 := 14) rfl (fun s4 => ?_)
    refine g_iconst hc dX8_takeSign_14 ic_1 (pc2 := 15) rfl ?_
    exact g_zret0 (by decide) hc dX8_takeSign_15
set_option maxRecDepth 100000 in
set_option maxHeartbeats 4000000 in
def f_X8_expectSign (n : Nat) (t : Nat) (a0 : Int32) (s0 : q_Sto) : Option (Int32 × q_Sto) :=
  q_call (f_X8_takeSign n t a0 s0) fun r2 s1 =>
  if r2 = 0 then (
  q_call (f_X8_fail n t 1 s1) fun r5 s4 =>
  if r5 = 0 then (
  some (0, s4))
  else (
  some (1, s4)))
  else (
  some (1, s1))
set_option maxRecDepth 100000 in
set_option maxHeartbeats 4000000 in
theorem C_X8_expectSign {l : Launch} {w : q_Wd} {n : Nat} {t : Nat} {a0 : Int32} (ht : q_KD t = .inl 8) {s0 : q_Sto} : q_C l w yX8_expectSign cX8_expectSign 2 (some .boolean) (q_rm 3 62) [q_rf w t, .int a0] s0 (f_X8_expectSign n t a0 s0) := q_CofG [some (q_rf w t), some (.int a0)] (by decide +kernel) rfl rfl (Nat.le_of_ble_eq_true rfl) fun cx hl hc => by
  have hc : q_ok w cx RX8 cX8_expectSign 2 (some .boolean) (q_rm 3 62) := hc
  rw [f_X8_expectSign]
  refine g_rl0 hc dX8_expectSign_0 rfl (pc2 := 1) rfl ?_
  refine g_il1 hc dX8_expectSign_1 rfl (pc2 := 2) rfl ?_
  refine g_callV1 hc (C_X8_takeSign ht) mv_X8_takeSign ln_X8_74 ht ⟨by decide, by decide⟩ (Nat.le_of_ble_eq_true rfl) dX8_expectSign_2 (pc2 := 5) rfl (fun r2 s1 => ?_)
  refine g_if_ne hc dX8_expectSign_5 (pc1 := 8) (pc2 := 16) rfl rfl (fun _ => ?_) (fun _ => ?_)
  · refine g_rl0 hc dX8_expectSign_8 rfl (pc2 := 9) rfl ?_
    refine g_iconst hc dX8_expectSign_9 ic_1 (pc2 := 10) rfl ?_
    refine g_callV1 hc (C_X8_fail ht) mv_X8_fail ln_X8_71 ht ⟨by decide, by decide⟩ (Nat.le_of_ble_eq_true rfl) dX8_expectSign_10 (pc2 := 13) rfl (fun r5 s4 => ?_)
    refine g_if_eq hc dX8_expectSign_13 (pc1 := 20) (pc2 := 16) rfl rfl (fun _ => ?_) (fun _ => ?_)
    · refine g_iconst hc dX8_expectSign_20 ic_0 (pc2 := 21) rfl ?_
      exact g_zret0 (by decide) hc dX8_expectSign_21
    · refine g_iconst hc dX8_expectSign_16 ic_1 (pc2 := 17) rfl ?_
      refine g_goto hc dX8_expectSign_17 (pc2 := 21) rfl ?_
      exact g_zret0 (by decide) hc dX8_expectSign_21
  · refine g_iconst hc dX8_expectSign_16 ic_1 (pc2 := 17) rfl ?_
    refine g_goto hc dX8_expectSign_17 (pc2 := 21) rfl ?_
    exact g_zret0 (by decide) hc dX8_expectSign_21
set_option maxRecDepth 100000 in
set_option maxHeartbeats 4000000 in
def f_X7_read_L9 (n : Nat) (x0 : Nat) (x1 : Int32) (x2 : Nat) : Nat → Int32 → q_Sto → Option (Int32 × q_Sto)
  | 0, _, _ => none
  | j + 1, x3, s0 =>
    if x3 ≤ 400 then (
    q_call (f_X8_isEnd n (q_RF x0 0) s0) fun r5 s4 =>
    if r5 = 0 then (
    q_call (f_X7_readLine n x0 x1 x2 s4) fun r8 s7 =>
    if r8 = 0 then (
    some (0, s7))
    else (
    q_call (f_X8_expectSign n (q_RF x0 0) 59 s7) fun r11 s10 =>
    if r11 = 0 then (
    some (0, s10))
    else (
    f_X7_read_L9 n x0 x1 x2  j (x3 + 1) s10)))
    else (
    some (1, s4)))
    else (
    some (1, s0))
set_option maxRecDepth 100000 in
set_option maxHeartbeats 4000000 in
def f_X7_read (n : Nat) (t : Nat) (a0 : Int32) (a1 : Nat) (s0 : q_Sto) : Option (Int32 × q_Sto) :=
  q_callv (f_X6_clear n (q_RF t 1) s0) fun s1 =>
  f_X7_read_L9 n t a0 a1  n 0 s1
set_option maxRecDepth 100000 in
set_option maxHeartbeats 4000000 in
theorem t_X7_read_L9 {w : q_Wd} {cx : q_Cx} (hc : q_ok w cx RX7 cX7_read 4 (some .boolean) (q_rm 11 253)) {n : Nat} {x0 : Nat} {x1 : Int32} {x2 : Nat} (hx0 : q_KD x0 = .inl 7) (hx2 : q_KD x2 = .inl 9)   :
    ∀ (j : Nat) (x3 : Int32) (s0 : q_Sto), q_G w cx 4 (some .boolean) 9 [some (q_rf w x0), some (.int x1), some (q_rf w x2), some (.int x3)] [] s0 (f_X7_read_L9 n x0 x1 x2  j x3 s0) := by
  intro j
  induction j with
  | zero =>
    intro _ _
    rw [f_X7_read_L9]
    exact q_none
  | succ j ih =>
    intro x3 s0
    rw [f_X7_read_L9]
    refine g_il3 hc dX7_read_9 rfl (pc2 := 10) rfl ?_
    refine g_sipush hc dX7_read_10 sp_400 (pc2 := 13) rfl ?_
    refine g_icmp_gt hc dX7_read_13 (pc1 := 16) (pc2 := 55) rfl rfl (fun _ => ?_) (fun _ => ?_)
    · refine g_rl0 hc dX7_read_16 rfl (pc2 := 17) rfl ?_
      refine g_getR hc fl_X7_20 rfl hx0 dX7_read_17 (pc2 := 20) rfl ?_
      refine g_callV0 hc (C_X8_isEnd (kf_7_0 hx0)) mv_X8_isEnd ln_X7_27 (kf_7_0 hx0) ⟨by decide, by decide⟩ (Nat.le_of_ble_eq_true rfl) dX7_read_20 (pc2 := 23) rfl (fun r5 s4 => ?_)
      refine g_if_ne hc dX7_read_23 (pc1 := 26) (pc2 := 55) rfl rfl (fun _ => ?_) (fun _ => ?_)
      · refine g_rl0 hc dX7_read_26 rfl (pc2 := 27) rfl ?_
        refine g_il1 hc dX7_read_27 rfl (pc2 := 28) rfl ?_
        refine g_rl2 hc dX7_read_28 rfl (pc2 := 29) rfl ?_
        refine g_callV2 hc (C_X7_readLine hx0 hx2) mv_X7_readLine ln_X7_33 hx0 ⟨by decide, by decide⟩ (Nat.le_of_ble_eq_true rfl) dX7_read_29 (pc2 := 32) rfl (fun r8 s7 => ?_)
        refine g_if_eq hc dX7_read_32 (pc1 := 47) (pc2 := 35) rfl rfl (fun _ => ?_) (fun _ => ?_)
        · refine g_iconst hc dX7_read_47 ic_0 (pc2 := 48) rfl ?_
          exact g_zret0 (by decide) hc dX7_read_48
        · refine g_rl0 hc dX7_read_35 rfl (pc2 := 36) rfl ?_
          refine g_getR hc fl_X7_20 rfl hx0 dX7_read_36 (pc2 := 39) rfl ?_
          refine g_bipush hc dX7_read_39 bp_59 (pc2 := 41) rfl ?_
          refine g_callV1 hc (C_X8_expectSign (kf_7_0 hx0)) mv_X8_expectSign ln_X7_37 (kf_7_0 hx0) ⟨by decide, by decide⟩ (Nat.le_of_ble_eq_true rfl) dX7_read_41 (pc2 := 44) rfl (fun r11 s10 => ?_)
          refine g_if_ne hc dX7_read_44 (pc1 := 47) (pc2 := 49) rfl rfl (fun _ => ?_) (fun _ => ?_)
          · refine g_iconst hc dX7_read_47 ic_0 (pc2 := 48) rfl ?_
            exact g_zret0 (by decide) hc dX7_read_48
          · refine g_iinc hc dX7_read_49 rfl (q_ii ic_1) (by decide) (L2 := [some (q_rf w x0), some (.int x1), some (q_rf w x2), some (.int (x3 + 1))]) rfl (pc2 := 52) rfl ?_
            refine g_goto hc dX7_read_52 (pc2 := 9) rfl ?_
            exact ih _ _
      · refine g_iconst hc dX7_read_55 ic_1 (pc2 := 56) rfl ?_
        exact g_zret0 (by decide) hc dX7_read_56
    · refine g_iconst hc dX7_read_55 ic_1 (pc2 := 56) rfl ?_
      exact g_zret0 (by decide) hc dX7_read_56
set_option maxRecDepth 100000 in
set_option maxHeartbeats 4000000 in
theorem C_X7_read {l : Launch} {w : q_Wd} {n : Nat} {t : Nat} {a0 : Int32} {a1 : Nat} (ht : q_KD t = .inl 7) (ha1 : q_KD a1 = .inl 9) {s0 : q_Sto} : q_C l w yX7_read cX7_read 4 (some .boolean) (q_rm 11 253) [q_rf w t, .int a0, q_rf w a1] s0 (f_X7_read n t a0 a1 s0) := q_CofG [some (q_rf w t), some (.int a0), some (q_rf w a1), none] (by decide +kernel) rfl rfl (Nat.le_of_ble_eq_true rfl) fun cx hl hc => by
  have hc : q_ok w cx RX7 cX7_read 4 (some .boolean) (q_rm 11 253) := hc
  rw [f_X7_read]
  refine g_rl0 hc dX7_read_0 rfl (pc2 := 1) rfl ?_
  refine g_getR hc fl_X7_14 rfl ht dX7_read_1 (pc2 := 4) rfl ?_
  refine g_callV0v hc (C_X6_clear (kf_7_1 ht)) mv_X6_clear ln_X7_24 (kf_7_1 ht) ⟨by decide, by decide⟩ (Nat.le_of_ble_eq_true rfl) dX7_read_4 (pc2 := 7) rfl (fun s1 => ?_)
  refine g_iconst hc dX7_read_7 ic_0 (pc2 := 8) rfl ?_
  refine g_is3 hc dX7_read_8 (by decide) (L2 := [some (q_rf w t), some (.int a0), some (q_rf w a1), some (.int 0)]) rfl (pc2 := 9) rfl ?_
  refine t_X7_read_L9 hc ht ha1  n _ _
set_option maxRecDepth 100000 in
set_option maxHeartbeats 4000000 in
def f_X8_add_L3 (n : Nat) (x0 : Nat) (x1 : Int32) : Nat → Int32 → q_Sto → Option (Int32 × q_Sto)
  | 0, _, _ => none
  | j + 1, x2, s0 =>
    if x2 < 0 then (
    some (0, s0))
    else (
    if (s0 x0 1) < 0 then (
    f_X8_add_L3 n x0 x1  j (x2 + (-8)) s0)
    else (
    if (s0 x0 1) < 400 then (
    q_st s0 (q_RF x0 0) (s0 x0 1) 400 ((q_ushr x1 x2) &&& 255) fun s4 =>
    q_nS1 (q_up s4 x0 1 ((s4 x0 1) + 1)) fun s5 =>
    f_X8_add_L3 n x0 x1  j (x2 + (-8)) s5)
    else (
    f_X8_add_L3 n x0 x1  j (x2 + (-8)) s0)))
set_option maxRecDepth 100000 in
set_option maxHeartbeats 4000000 in
def f_X8_add (n : Nat) (t : Nat) (a0 : Int32) (s0 : q_Sto) : Option (Int32 × q_Sto) :=
  f_X8_add_L3 n t a0  n 24 s0
set_option maxRecDepth 100000 in
set_option maxHeartbeats 4000000 in
theorem t_X8_add_L3 {w : q_Wd} {cx : q_Cx} (hc : q_ok w cx RX8 cX8_add 3 (none) (q_rm 0 0)) {n : Nat} {x0 : Nat} {x1 : Int32} (hx0 : q_KD x0 = .inl 8)   :
    ∀ (j : Nat) (x2 : Int32) (s0 : q_Sto), q_G w cx 3 (none) 3 [some (q_rf w x0), some (.int x1), some (.int x2)] [] s0 (f_X8_add_L3 n x0 x1  j x2 s0) := by
  intro j
  induction j with
  | zero =>
    intro _ _
    rw [f_X8_add_L3]
    exact q_none
  | succ j ih =>
    intro x2 s0
    rw [f_X8_add_L3]
    refine g_il2 hc dX8_add_3 rfl (pc2 := 4) rfl ?_
    refine g_if_lt hc dX8_add_4 (pc1 := 56) (pc2 := 7) rfl rfl (fun _ => ?_) (fun _ => ?_)
    · exact g_vret hc dX8_add_56
    · refine g_rl0 hc dX8_add_7 rfl (pc2 := 8) rfl ?_
      refine g_getI hc fl_X8_15 rfl hx0 dX8_add_8 (pc2 := 11) rfl ?_
      refine g_if_lt hc dX8_add_11 (pc1 := 50) (pc2 := 14) rfl rfl (fun _ => ?_) (fun _ => ?_)
      · refine g_iinc hc dX8_add_50 rfl (q_ii ic_m8) (by decide) (L2 := [some (q_rf w x0), some (.int x1), some (.int (x2 + (-8)))]) rfl (pc2 := 53) rfl ?_
        refine g_goto hc dX8_add_53 (pc2 := 3) rfl ?_
        exact ih _ _
      · refine g_rl0 hc dX8_add_14 rfl (pc2 := 15) rfl ?_
        refine g_getI hc fl_X8_15 rfl hx0 dX8_add_15 (pc2 := 18) rfl ?_
        refine g_sipush hc dX8_add_18 sp_400 (pc2 := 21) rfl ?_
        refine g_icmp_ge hc dX8_add_21 (pc1 := 24) (pc2 := 50) rfl rfl (fun _ => ?_) (fun _ => ?_)
        · refine g_rl0 hc dX8_add_24 rfl (pc2 := 25) rfl ?_
          refine g_getR hc fl_X8_9 rfl hx0 dX8_add_25 (pc2 := 28) rfl ?_
          refine g_rl0 hc dX8_add_28 rfl (pc2 := 29) rfl ?_
          refine g_getI hc fl_X8_15 rfl hx0 dX8_add_29 (pc2 := 32) rfl ?_
          refine g_il1 hc dX8_add_32 rfl (pc2 := 33) rfl ?_
          refine g_il2 hc dX8_add_33 rfl (pc2 := 34) rfl ?_
          refine g_iushr hc dX8_add_34 (pc2 := 35) rfl ?_
          refine g_sipush hc dX8_add_35 sp_255 (pc2 := 38) rfl ?_
          refine g_iand hc dX8_add_38 (pc2 := 39) rfl ?_
          refine g_iast hc (kf_8_0 hx0) (kl_8_0 hx0) dX8_add_39 (pc2 := 40) rfl (fun s4 => ?_)
          refine g_rl0 hc dX8_add_40 rfl (pc2 := 41) rfl ?_
          refine g_dup hc dX8_add_41 rfl (pc2 := 42) rfl ?_
          refine g_getI hc fl_X8_15 rfl hx0 dX8_add_42 (pc2 := 45) rfl ?_
          refine g_iconst hc dX8_add_45 ic_1 (pc2 := 46) rfl ?_
          refine g_iadd hc dX8_add_46 (pc2 := 47) rfl ?_
          refine g_putI hc fl_X8_15 rfl hx0 dX8_add_47 (pc2 := 50) rfl (fun s5 => ?_)
          refine g_iinc hc dX8_add_50 rfl (q_ii ic_m8) (by decide) (L2 := [some (q_rf w x0), some (.int x1), some (.int (x2 + (-8)))]) rfl (pc2 := 53) rfl ?_
          refine g_goto hc dX8_add_53 (pc2 := 3) rfl ?_
          exact ih _ _
        · refine g_iinc hc dX8_add_50 rfl (q_ii ic_m8) (by decide) (L2 := [some (q_rf w x0), some (.int x1), some (.int (x2 + (-8)))]) rfl (pc2 := 53) rfl ?_
          refine g_goto hc dX8_add_53 (pc2 := 3) rfl ?_
          exact ih _ _
set_option maxRecDepth 100000 in
set_option maxHeartbeats 4000000 in
theorem C_X8_add {l : Launch} {w : q_Wd} {n : Nat} {t : Nat} {a0 : Int32} (ht : q_KD t = .inl 8) {s0 : q_Sto} : q_C l w yX8_add cX8_add 3 (none) (q_rm 0 0) [q_rf w t, .int a0] s0 (f_X8_add n t a0 s0) := q_CofG [some (q_rf w t), some (.int a0), none] (by decide +kernel) rfl rfl (Nat.le_of_ble_eq_true rfl) fun cx hl hc => by
  have hc : q_ok w cx RX8 cX8_add 3 (none) (q_rm 0 0) := hc
  rw [f_X8_add]
  refine g_bipush hc dX8_add_0 bp_24 (pc2 := 2) rfl ?_
  refine g_is2 hc dX8_add_2 (by decide) (L2 := [some (q_rf w t), some (.int a0), some (.int 24)]) rfl (pc2 := 3) rfl ?_
  refine t_X8_add_L3 hc ht  n _ _
set_option maxRecDepth 100000 in
set_option maxHeartbeats 4000000 in
def f_X8_begin (n : Nat) (t : Nat) (s0 : q_Sto) : Option (Int32 × q_Sto) :=
  q_nS1 (q_up s0 t 6 0) fun s1 =>
  q_nS1 (q_up s1 t 7 (-1)) fun s2 =>
  q_nS1 (q_up s2 t 2 0) fun s3 =>
  q_callv (f_X8_next n t s3) fun s4 =>
  some (0, s4)
set_option maxRecDepth 100000 in
set_option maxHeartbeats 4000000 in
theorem C_X8_begin {l : Launch} {w : q_Wd} {n : Nat} {t : Nat} (ht : q_KD t = .inl 8) {s0 : q_Sto} : q_C l w yX8_begin cX8_begin 1 (none) (q_rm 2 41) [q_rf w t] s0 (f_X8_begin n t s0) := q_CofG [some (q_rf w t)] (by decide +kernel) rfl rfl (Nat.le_of_ble_eq_true rfl) fun cx hl hc => by
  have hc : q_ok w cx RX8 cX8_begin 1 (none) (q_rm 2 41) := hc
  rw [f_X8_begin]
  refine g_rl0 hc dX8_begin_0 rfl (pc2 := 1) rfl ?_
  refine g_iconst hc dX8_begin_1 ic_0 (pc2 := 2) rfl ?_
  refine g_putI hc fl_X8_31 rfl ht dX8_begin_2 (pc2 := 5) rfl (fun s1 => ?_)
  refine g_rl0 hc dX8_begin_5 rfl (pc2 := 6) rfl ?_
  refine g_iconst hc dX8_begin_6 ic_m1 (pc2 := 7) rfl ?_
  refine g_putI hc fl_X8_34 rfl ht dX8_begin_7 (pc2 := 10) rfl (fun s2 => ?_)
  refine g_rl0 hc dX8_begin_10 rfl (pc2 := 11) rfl ?_
  refine g_iconst hc dX8_begin_11 ic_0 (pc2 := 12) rfl ?_
  refine g_putI hc fl_X8_19 rfl ht dX8_begin_12 (pc2 := 15) rfl (fun s3 => ?_)
  refine g_rl0 hc dX8_begin_15 rfl (pc2 := 16) rfl ?_
  refine g_callV0v hc (C_X8_next ht) mv_X8_next ln_X8_37 ht ⟨by decide, by decide⟩ (Nat.le_of_ble_eq_true rfl) dX8_begin_16 (pc2 := 19) rfl (fun s4 => ?_)
  exact g_vret hc dX8_begin_19
set_option maxRecDepth 100000 in
set_option maxHeartbeats 4000000 in
def f_X9_addMule (n : Nat) (t : Nat) (a0 : Int32) (a1 : Int32) (s0 : q_Sto) : Option (Int32 × q_Sto) :=
  if (s0 t 8) < 0 then (
  some ((-1), s0))
  else (
  if (s0 t 8) < 12 then (
  q_st s0 (q_RF t 0) (s0 t 8) 12 a0 fun s3 =>
  q_st s3 (q_RF t 1) (s3 t 8) 12 a1 fun s4 =>
  q_nS1 (q_up s4 t 8 ((s4 t 8) + 1)) fun s5 =>
  some ((s5 t 8) - 1, s5))
  else (
  some ((-1), s0)))
set_option maxRecDepth 100000 in
set_option maxHeartbeats 4000000 in
theorem C_X9_addMule {l : Launch} {w : q_Wd} {n : Nat} {t : Nat} {a0 : Int32} {a1 : Int32} (ht : q_KD t = .inl 9) {s0 : q_Sto} : q_C l w yX9_addMule cX9_addMule 3 (some .int) (q_rm 0 0) [q_rf w t, .int a0, .int a1] s0 (f_X9_addMule n t a0 a1 s0) := q_CofG [some (q_rf w t), some (.int a0), some (.int a1)] (by decide +kernel) rfl rfl (Nat.le_of_ble_eq_true rfl) fun cx hl hc => by
  have hc : q_ok w cx RX9 cX9_addMule 3 (some .int) (q_rm 0 0) := hc
  rw [f_X9_addMule]
  refine g_rl0 hc dX9_addMule_0 rfl (pc2 := 1) rfl ?_
  refine g_getI hc fl_X9_36 rfl ht dX9_addMule_1 (pc2 := 4) rfl ?_
  refine g_if_lt hc dX9_addMule_4 (pc1 := 16) (pc2 := 7) rfl rfl (fun _ => ?_) (fun _ => ?_)
  · refine g_iconst hc dX9_addMule_16 ic_m1 (pc2 := 17) rfl ?_
    exact g_iret hc dX9_addMule_17
  · refine g_rl0 hc dX9_addMule_7 rfl (pc2 := 8) rfl ?_
    refine g_getI hc fl_X9_36 rfl ht dX9_addMule_8 (pc2 := 11) rfl ?_
    refine g_bipush hc dX9_addMule_11 bp_12 (pc2 := 13) rfl ?_
    refine g_icmp_lt hc dX9_addMule_13 (pc1 := 18) (pc2 := 16) rfl rfl (fun _ => ?_) (fun _ => ?_)
    · refine g_rl0 hc dX9_addMule_18 rfl (pc2 := 19) rfl ?_
      refine g_getR hc fl_X9_9 rfl ht dX9_addMule_19 (pc2 := 22) rfl ?_
      refine g_rl0 hc dX9_addMule_22 rfl (pc2 := 23) rfl ?_
      refine g_getI hc fl_X9_36 rfl ht dX9_addMule_23 (pc2 := 26) rfl ?_
      refine g_il1 hc dX9_addMule_26 rfl (pc2 := 27) rfl ?_
      refine g_iast hc (kf_9_0 ht) (kl_9_0 ht) dX9_addMule_27 (pc2 := 28) rfl (fun s3 => ?_)
      refine g_rl0 hc dX9_addMule_28 rfl (pc2 := 29) rfl ?_
      refine g_getR hc fl_X9_15 rfl ht dX9_addMule_29 (pc2 := 32) rfl ?_
      refine g_rl0 hc dX9_addMule_32 rfl (pc2 := 33) rfl ?_
      refine g_getI hc fl_X9_36 rfl ht dX9_addMule_33 (pc2 := 36) rfl ?_
      refine g_il2 hc dX9_addMule_36 rfl (pc2 := 37) rfl ?_
      refine g_iast hc (kf_9_1 ht) (kl_9_1 ht) dX9_addMule_37 (pc2 := 38) rfl (fun s4 => ?_)
      refine g_rl0 hc dX9_addMule_38 rfl (pc2 := 39) rfl ?_
      refine g_dup hc dX9_addMule_39 rfl (pc2 := 40) rfl ?_
      refine g_getI hc fl_X9_36 rfl ht dX9_addMule_40 (pc2 := 43) rfl ?_
      refine g_iconst hc dX9_addMule_43 ic_1 (pc2 := 44) rfl ?_
      refine g_iadd hc dX9_addMule_44 (pc2 := 45) rfl ?_
      refine g_putI hc fl_X9_36 rfl ht dX9_addMule_45 (pc2 := 48) rfl (fun s5 => ?_)
      refine g_rl0 hc dX9_addMule_48 rfl (pc2 := 49) rfl ?_
      refine g_getI hc fl_X9_36 rfl ht dX9_addMule_49 (pc2 := 52) rfl ?_
      refine g_iconst hc dX9_addMule_52 ic_1 (pc2 := 53) rfl ?_
      refine g_isub hc dX9_addMule_53 (pc2 := 54) rfl ?_
      exact g_iret hc dX9_addMule_54
    · refine g_iconst hc dX9_addMule_16 ic_m1 (pc2 := 17) rfl ?_
      exact g_iret hc dX9_addMule_17
set_option maxRecDepth 100000 in
set_option maxHeartbeats 4000000 in
def f_X9_addMan (n : Nat) (t : Nat) (a0 : Int32) (a1 : Int32) (a2 : Int32) (s0 : q_Sto) : Option (Int32 × q_Sto) :=
  if (s0 t 9) < 0 then (
  some ((-1), s0))
  else (
  if (s0 t 9) < 5 then (
  q_st s0 (q_RF t 4) (s0 t 9) 5 a0 fun s3 =>
  q_st s3 (q_RF t 5) (s3 t 9) 5 a1 fun s4 =>
  q_st s4 (q_RF t 6) (s4 t 9) 5 a2 fun s5 =>
  q_nS1 (q_up s5 t 9 ((s5 t 9) + 1)) fun s6 =>
  some ((s6 t 9) - 1, s6))
  else (
  some ((-1), s0)))
set_option maxRecDepth 100000 in
set_option maxHeartbeats 4000000 in
theorem C_X9_addMan {l : Launch} {w : q_Wd} {n : Nat} {t : Nat} {a0 : Int32} {a1 : Int32} {a2 : Int32} (ht : q_KD t = .inl 9) {s0 : q_Sto} : q_C l w yX9_addMan cX9_addMan 4 (some .int) (q_rm 0 0) [q_rf w t, .int a0, .int a1, .int a2] s0 (f_X9_addMan n t a0 a1 a2 s0) := q_CofG [some (q_rf w t), some (.int a0), some (.int a1), some (.int a2)] (by decide +kernel) rfl rfl (Nat.le_of_ble_eq_true rfl) fun cx hl hc => by
  have hc : q_ok w cx RX9 cX9_addMan 4 (some .int) (q_rm 0 0) := hc
  rw [f_X9_addMan]
  refine g_rl0 hc dX9_addMan_0 rfl (pc2 := 1) rfl ?_
  refine g_getI hc fl_X9_40 rfl ht dX9_addMan_1 (pc2 := 4) rfl ?_
  refine g_if_lt hc dX9_addMan_4 (pc1 := 15) (pc2 := 7) rfl rfl (fun _ => ?_) (fun _ => ?_)
  · refine g_iconst hc dX9_addMan_15 ic_m1 (pc2 := 16) rfl ?_
    exact g_iret hc dX9_addMan_16
  · refine g_rl0 hc dX9_addMan_7 rfl (pc2 := 8) rfl ?_
    refine g_getI hc fl_X9_40 rfl ht dX9_addMan_8 (pc2 := 11) rfl ?_
    refine g_iconst hc dX9_addMan_11 ic_5 (pc2 := 12) rfl ?_
    refine g_icmp_lt hc dX9_addMan_12 (pc1 := 17) (pc2 := 15) rfl rfl (fun _ => ?_) (fun _ => ?_)
    · refine g_rl0 hc dX9_addMan_17 rfl (pc2 := 18) rfl ?_
      refine g_getR hc fl_X9_24 rfl ht dX9_addMan_18 (pc2 := 21) rfl ?_
      refine g_rl0 hc dX9_addMan_21 rfl (pc2 := 22) rfl ?_
      refine g_getI hc fl_X9_40 rfl ht dX9_addMan_22 (pc2 := 25) rfl ?_
      refine g_il1 hc dX9_addMan_25 rfl (pc2 := 26) rfl ?_
      refine g_iast hc (kf_9_4 ht) (kl_9_4 ht) dX9_addMan_26 (pc2 := 27) rfl (fun s3 => ?_)
      refine g_rl0 hc dX9_addMan_27 rfl (pc2 := 28) rfl ?_
      refine g_getR hc fl_X9_27 rfl ht dX9_addMan_28 (pc2 := 31) rfl ?_
      refine g_rl0 hc dX9_addMan_31 rfl (pc2 := 32) rfl ?_
      refine g_getI hc fl_X9_40 rfl ht dX9_addMan_32 (pc2 := 35) rfl ?_
      refine g_il2 hc dX9_addMan_35 rfl (pc2 := 36) rfl ?_
      refine g_iast hc (kf_9_5 ht) (kl_9_5 ht) dX9_addMan_36 (pc2 := 37) rfl (fun s4 => ?_)
      refine g_rl0 hc dX9_addMan_37 rfl (pc2 := 38) rfl ?_
      refine g_getR hc fl_X9_30 rfl ht dX9_addMan_38 (pc2 := 41) rfl ?_
      refine g_rl0 hc dX9_addMan_41 rfl (pc2 := 42) rfl ?_
      refine g_getI hc fl_X9_40 rfl ht dX9_addMan_42 (pc2 := 45) rfl ?_
      refine g_il3 hc dX9_addMan_45 rfl (pc2 := 46) rfl ?_
      refine g_iast hc (kf_9_6 ht) (kl_9_6 ht) dX9_addMan_46 (pc2 := 47) rfl (fun s5 => ?_)
      refine g_rl0 hc dX9_addMan_47 rfl (pc2 := 48) rfl ?_
      refine g_dup hc dX9_addMan_48 rfl (pc2 := 49) rfl ?_
      refine g_getI hc fl_X9_40 rfl ht dX9_addMan_49 (pc2 := 52) rfl ?_
      refine g_iconst hc dX9_addMan_52 ic_1 (pc2 := 53) rfl ?_
      refine g_iadd hc dX9_addMan_53 (pc2 := 54) rfl ?_
      refine g_putI hc fl_X9_40 rfl ht dX9_addMan_54 (pc2 := 57) rfl (fun s6 => ?_)
      refine g_rl0 hc dX9_addMan_57 rfl (pc2 := 58) rfl ?_
      refine g_getI hc fl_X9_40 rfl ht dX9_addMan_58 (pc2 := 61) rfl ?_
      refine g_iconst hc dX9_addMan_61 ic_1 (pc2 := 62) rfl ?_
      refine g_isub hc dX9_addMan_62 (pc2 := 63) rfl ?_
      exact g_iret hc dX9_addMan_63
    · refine g_iconst hc dX9_addMan_15 ic_m1 (pc2 := 16) rfl ?_
      exact g_iret hc dX9_addMan_16
set_option maxRecDepth 100000 in
set_option maxHeartbeats 4000000 in
def f_X9_setLiking (n : Nat) (t : Nat) (a0 : Int32) (a1 : Int32) (a2 : Int32) (s0 : q_Sto) : Option (Int32 × q_Sto) :=
  q_call (f_X9_hasMule n t a0 s0) fun r2 s1 =>
  if r2 = 0 then (
  some (0, s1))
  else (
  q_call (f_X9_hasMan n t a1 s1) fun r5 s4 =>
  if r5 = 0 then (
  some (0, s4))
  else (
  q_st s4 (q_RF t 7) ((a0 * 5) + a1) 60 (q_mx 0 (q_mn 99 a2)) fun s7 =>
  some (0, s7)))
set_option maxRecDepth 100000 in
set_option maxHeartbeats 4000000 in
theorem C_X9_setLiking {l : Launch} {w : q_Wd} {n : Nat} {t : Nat} {a0 : Int32} {a1 : Int32} {a2 : Int32} (ht : q_KD t = .inl 9) {s0 : q_Sto} : q_C l w yX9_setLiking cX9_setLiking 4 (none) (q_rm 1 21) [q_rf w t, .int a0, .int a1, .int a2] s0 (f_X9_setLiking n t a0 a1 a2 s0) := q_CofG [some (q_rf w t), some (.int a0), some (.int a1), some (.int a2)] (by decide +kernel) rfl rfl (Nat.le_of_ble_eq_true rfl) fun cx hl hc => by
  have hc : q_ok w cx RX9 cX9_setLiking 4 (none) (q_rm 1 21) := hc
  rw [f_X9_setLiking]
  refine g_rl0 hc dX9_setLiking_0 rfl (pc2 := 1) rfl ?_
  refine g_il1 hc dX9_setLiking_1 rfl (pc2 := 2) rfl ?_
  refine g_callV1 hc (C_X9_hasMule ht) mv_X9_hasMule ln_X9_77 ht ⟨by decide, by decide⟩ (Nat.le_of_ble_eq_true rfl) dX9_setLiking_2 (pc2 := 5) rfl (fun r2 s1 => ?_)
  refine g_if_eq hc dX9_setLiking_5 (pc1 := 36) (pc2 := 8) rfl rfl (fun _ => ?_) (fun _ => ?_)
  · exact g_vret hc dX9_setLiking_36
  · refine g_rl0 hc dX9_setLiking_8 rfl (pc2 := 9) rfl ?_
    refine g_il2 hc dX9_setLiking_9 rfl (pc2 := 10) rfl ?_
    refine g_callV1 hc (C_X9_hasMan ht) mv_X9_hasMan ln_X9_81 ht ⟨by decide, by decide⟩ (Nat.le_of_ble_eq_true rfl) dX9_setLiking_10 (pc2 := 13) rfl (fun r5 s4 => ?_)
    refine g_if_eq hc dX9_setLiking_13 (pc1 := 36) (pc2 := 16) rfl rfl (fun _ => ?_) (fun _ => ?_)
    · exact g_vret hc dX9_setLiking_36
    · refine g_rl0 hc dX9_setLiking_16 rfl (pc2 := 17) rfl ?_
      refine g_getR hc fl_X9_33 rfl ht dX9_setLiking_17 (pc2 := 20) rfl ?_
      refine g_il1 hc dX9_setLiking_20 rfl (pc2 := 21) rfl ?_
      refine g_iconst hc dX9_setLiking_21 ic_5 (pc2 := 22) rfl ?_
      refine g_imul hc dX9_setLiking_22 (pc2 := 23) rfl ?_
      refine g_il2 hc dX9_setLiking_23 rfl (pc2 := 24) rfl ?_
      refine g_iadd hc dX9_setLiking_24 (pc2 := 25) rfl ?_
      refine g_iconst hc dX9_setLiking_25 ic_0 (pc2 := 26) rfl ?_
      refine g_bipush hc dX9_setLiking_26 bp_99 (pc2 := 28) rfl ?_
      refine g_il3 hc dX9_setLiking_28 rfl (pc2 := 29) rfl ?_
      refine g_min hc ln_X9_84 ⟨by decide, by decide⟩ (Nat.le_of_ble_eq_true rfl) dX9_setLiking_29 (pc2 := 32) rfl ?_
      refine g_max hc ln_X9_90 ⟨by decide, by decide⟩ (Nat.le_of_ble_eq_true rfl) dX9_setLiking_32 (pc2 := 35) rfl ?_
      refine g_iast hc (kf_9_7 ht) (kl_9_7 ht) dX9_setLiking_35 (pc2 := 36) rfl (fun s7 => ?_)
      exact g_vret hc dX9_setLiking_36
set_option maxRecDepth 100000 in
set_option maxHeartbeats 4000000 in
def f_X9_moveLiking (n : Nat) (t : Nat) (a0 : Int32) (a1 : Int32) (a2 : Int32) (s0 : q_Sto) : Option (Int32 × q_Sto) :=
  q_call (f_X9_likingFor n t a0 a1 s0) fun r2 s1 =>
  q_callv (f_X9_setLiking n t a0 a1 (r2 + a2) s1) fun s3 =>
  some (0, s3)
set_option maxRecDepth 100000 in
set_option maxHeartbeats 4000000 in
theorem C_X9_moveLiking {l : Launch} {w : q_Wd} {n : Nat} {t : Nat} {a0 : Int32} {a1 : Int32} {a2 : Int32} (ht : q_KD t = .inl 9) {s0 : q_Sto} : q_C l w yX9_moveLiking cX9_moveLiking 4 (none) (q_rm 2 44) [q_rf w t, .int a0, .int a1, .int a2] s0 (f_X9_moveLiking n t a0 a1 a2 s0) := q_CofG [some (q_rf w t), some (.int a0), some (.int a1), some (.int a2)] (by decide +kernel) rfl rfl (Nat.le_of_ble_eq_true rfl) fun cx hl hc => by
  have hc : q_ok w cx RX9 cX9_moveLiking 4 (none) (q_rm 2 44) := hc
  rw [f_X9_moveLiking]
  refine g_rl0 hc dX9_moveLiking_0 rfl (pc2 := 1) rfl ?_
  refine g_il1 hc dX9_moveLiking_1 rfl (pc2 := 2) rfl ?_
  refine g_il2 hc dX9_moveLiking_2 rfl (pc2 := 3) rfl ?_
  refine g_rl0 hc dX9_moveLiking_3 rfl (pc2 := 4) rfl ?_
  refine g_il1 hc dX9_moveLiking_4 rfl (pc2 := 5) rfl ?_
  refine g_il2 hc dX9_moveLiking_5 rfl (pc2 := 6) rfl ?_
  refine g_callV2 hc (C_X9_likingFor ht) mv_X9_likingFor ln_X9_93 ht ⟨by decide, by decide⟩ (Nat.le_of_ble_eq_true rfl) dX9_moveLiking_6 (pc2 := 9) rfl (fun r2 s1 => ?_)
  refine g_il3 hc dX9_moveLiking_9 rfl (pc2 := 10) rfl ?_
  refine g_iadd hc dX9_moveLiking_10 (pc2 := 11) rfl ?_
  refine g_callV3v hc (C_X9_setLiking ht) mv_X9_setLiking ln_X9_96 ht ⟨by decide, by decide⟩ (Nat.le_of_ble_eq_true rfl) dX9_moveLiking_11 (pc2 := 14) rfl (fun s3 => ?_)
  exact g_vret hc dX9_moveLiking_14
set_option maxRecDepth 100000 in
set_option maxHeartbeats 4000000 in
def f_X9_behindOf_L4 (n : Nat) (x0 : Nat) (x1 : Int32) : Nat → Int32 → Int32 → q_Sto → Option (Int32 × q_Sto)
  | 0, _, _, _ => none
  | j + 1, x2, x3, s0 =>
    if x3 < (s0 x0 8) then (
    if x3 < 12 then (
    q_ld s0 (q_RF x0 3) x3 12 fun v3 =>
    if v3 = x1 then (
    q_nm (x2 ||| (1 <<< (x3 &&& 31))) fun v5 =>
    f_X9_behindOf_L4 n x0 x1  j v5 (x3 + 1) s0)
    else (
    f_X9_behindOf_L4 n x0 x1  j x2 (x3 + 1) s0))
    else (
    some (x2, s0)))
    else (
    some (x2, s0))
set_option maxRecDepth 100000 in
set_option maxHeartbeats 4000000 in
def f_X9_behindOf (n : Nat) (t : Nat) (a0 : Int32) (s0 : q_Sto) : Option (Int32 × q_Sto) :=
  f_X9_behindOf_L4 n t a0  n 0 0 s0
set_option maxRecDepth 100000 in
set_option maxHeartbeats 4000000 in
theorem t_X9_behindOf_L4 {w : q_Wd} {cx : q_Cx} (hc : q_ok w cx RX9 cX9_behindOf 4 (some .int) (q_rm 0 0)) {n : Nat} {x0 : Nat} {x1 : Int32} (hx0 : q_KD x0 = .inl 9)   :
    ∀ (j : Nat) (x2 : Int32) (x3 : Int32) (s0 : q_Sto), q_G w cx 4 (some .int) 4 [some (q_rf w x0), some (.int x1), some (.int x2), some (.int x3)] [] s0 (f_X9_behindOf_L4 n x0 x1  j x2 x3 s0) := by
  intro j
  induction j with
  | zero =>
    intro _ _ _
    rw [f_X9_behindOf_L4]
    exact q_none
  | succ j ih =>
    intro x2 x3 s0
    rw [f_X9_behindOf_L4]
    refine g_il3 hc dX9_behindOf_4 rfl (pc2 := 5) rfl ?_
    refine g_rl0 hc dX9_behindOf_5 rfl (pc2 := 6) rfl ?_
    refine g_getI hc fl_X9_36 rfl hx0 dX9_behindOf_6 (pc2 := 9) rfl ?_
    refine g_icmp_ge hc dX9_behindOf_9 (pc1 := 12) (pc2 := 40) rfl rfl (fun _ => ?_) (fun _ => ?_)
    · refine g_il3 hc dX9_behindOf_12 rfl (pc2 := 13) rfl ?_
      refine g_bipush hc dX9_behindOf_13 bp_12 (pc2 := 15) rfl ?_
      refine g_icmp_ge hc dX9_behindOf_15 (pc1 := 18) (pc2 := 40) rfl rfl (fun _ => ?_) (fun _ => ?_)
      · refine g_rl0 hc dX9_behindOf_18 rfl (pc2 := 19) rfl ?_
        refine g_getR hc fl_X9_21 rfl hx0 dX9_behindOf_19 (pc2 := 22) rfl ?_
        refine g_il3 hc dX9_behindOf_22 rfl (pc2 := 23) rfl ?_
        refine g_iald hc (kf_9_3 hx0) (kl_9_3 hx0) dX9_behindOf_23 (pc2 := 24) rfl (fun v3 => ?_)
        refine g_il1 hc dX9_behindOf_24 rfl (pc2 := 25) rfl ?_
        refine g_icmp_ne hc dX9_behindOf_25 (pc1 := 28) (pc2 := 34) rfl rfl (fun _ => ?_) (fun _ => ?_)
        · refine g_il2 hc dX9_behindOf_28 rfl (pc2 := 29) rfl ?_
          refine g_iconst hc dX9_behindOf_29 ic_1 (pc2 := 30) rfl ?_
          refine g_il3 hc dX9_behindOf_30 rfl (pc2 := 31) rfl ?_
          refine g_ishl hc dX9_behindOf_31 (pc2 := 32) rfl ?_
          refine g_ior hc dX9_behindOf_32 (pc2 := 33) rfl ?_
          refine g_nm (fun v5 => ?_)
          refine g_is2 hc dX9_behindOf_33 (by decide) (L2 := [some (q_rf w x0), some (.int x1), some (.int v5), some (.int x3)]) rfl (pc2 := 34) rfl ?_
          refine g_iinc hc dX9_behindOf_34 rfl (q_ii ic_1) (by decide) (L2 := [some (q_rf w x0), some (.int x1), some (.int v5), some (.int (x3 + 1))]) rfl (pc2 := 37) rfl ?_
          refine g_goto hc dX9_behindOf_37 (pc2 := 4) rfl ?_
          exact ih _ _ _
        · refine g_iinc hc dX9_behindOf_34 rfl (q_ii ic_1) (by decide) (L2 := [some (q_rf w x0), some (.int x1), some (.int x2), some (.int (x3 + 1))]) rfl (pc2 := 37) rfl ?_
          refine g_goto hc dX9_behindOf_37 (pc2 := 4) rfl ?_
          exact ih _ _ _
      · refine g_il2 hc dX9_behindOf_40 rfl (pc2 := 41) rfl ?_
        exact g_iret hc dX9_behindOf_41
    · refine g_il2 hc dX9_behindOf_40 rfl (pc2 := 41) rfl ?_
      exact g_iret hc dX9_behindOf_41
set_option maxRecDepth 100000 in
set_option maxHeartbeats 4000000 in
theorem C_X9_behindOf {l : Launch} {w : q_Wd} {n : Nat} {t : Nat} {a0 : Int32} (ht : q_KD t = .inl 9) {s0 : q_Sto} : q_C l w yX9_behindOf cX9_behindOf 4 (some .int) (q_rm 0 0) [q_rf w t, .int a0] s0 (f_X9_behindOf n t a0 s0) := q_CofG [some (q_rf w t), some (.int a0), none, none] (by decide +kernel) rfl rfl (Nat.le_of_ble_eq_true rfl) fun cx hl hc => by
  have hc : q_ok w cx RX9 cX9_behindOf 4 (some .int) (q_rm 0 0) := hc
  rw [f_X9_behindOf]
  refine g_iconst hc dX9_behindOf_0 ic_0 (pc2 := 1) rfl ?_
  refine g_is2 hc dX9_behindOf_1 (by decide) (L2 := [some (q_rf w t), some (.int a0), some (.int 0), none]) rfl (pc2 := 2) rfl ?_
  refine g_iconst hc dX9_behindOf_2 ic_0 (pc2 := 3) rfl ?_
  refine g_is3 hc dX9_behindOf_3 (by decide) (L2 := [some (q_rf w t), some (.int a0), some (.int 0), some (.int 0)]) rfl (pc2 := 4) rfl ?_
  refine t_X9_behindOf_L4 hc ht  n _ _ _
set_option maxRecDepth 100000 in
set_option maxHeartbeats 4000000 in
def f_X9_draw (n : Nat) (t : Nat) (a0 : Int32) (s0 : q_Sto) : Option (Int32 × q_Sto) :=
  q_nS1 (q_up s0 t 10 ((1664525 * (s0 t 10)) + 1013904223)) fun s1 =>
  if a0 ≤ 0 then (
  some (0, s1))
  else (
  q_rem (q_ushr (s1 t 10) 8) a0 fun v3 =>
  some (v3, s1))
set_option maxRecDepth 100000 in
set_option maxHeartbeats 4000000 in
theorem C_X9_draw {l : Launch} {w : q_Wd} {n : Nat} {t : Nat} {a0 : Int32} (ht : q_KD t = .inl 9) {s0 : q_Sto} : q_C l w yX9_draw cX9_draw 2 (some .int) (q_rm 0 0) [q_rf w t, .int a0] s0 (f_X9_draw n t a0 s0) := q_CofG [some (q_rf w t), some (.int a0)] (by decide +kernel) rfl rfl (Nat.le_of_ble_eq_true rfl) fun cx hl hc => by
  have hc : q_ok w cx RX9 cX9_draw 2 (some .int) (q_rm 0 0) := hc
  rw [f_X9_draw]
  refine g_rl0 hc dX9_draw_0 rfl (pc2 := 1) rfl ?_
  refine g_ldc hc cn_X9_100 dX9_draw_1 (pc2 := 3) rfl ?_
  refine g_rl0 hc dX9_draw_3 rfl (pc2 := 4) rfl ?_
  refine g_getI hc fl_X9_43 rfl ht dX9_draw_4 (pc2 := 7) rfl ?_
  refine g_imul hc dX9_draw_7 (pc2 := 8) rfl ?_
  refine g_ldc hc cn_X9_101 dX9_draw_8 (pc2 := 10) rfl ?_
  refine g_iadd hc dX9_draw_10 (pc2 := 11) rfl ?_
  refine g_putI hc fl_X9_43 rfl ht dX9_draw_11 (pc2 := 14) rfl (fun s1 => ?_)
  refine g_il1 hc dX9_draw_14 rfl (pc2 := 15) rfl ?_
  refine g_if_le hc dX9_draw_15 (pc1 := 30) (pc2 := 18) rfl rfl (fun _ => ?_) (fun _ => ?_)
  · refine g_iconst hc dX9_draw_30 ic_0 (pc2 := 31) rfl ?_
    exact g_iret hc dX9_draw_31
  · refine g_rl0 hc dX9_draw_18 rfl (pc2 := 19) rfl ?_
    refine g_getI hc fl_X9_43 rfl ht dX9_draw_19 (pc2 := 22) rfl ?_
    refine g_bipush hc dX9_draw_22 bp_8 (pc2 := 24) rfl ?_
    refine g_iushr hc dX9_draw_24 (pc2 := 25) rfl ?_
    refine g_il1 hc dX9_draw_25 rfl (pc2 := 26) rfl ?_
    refine g_irem hc dX9_draw_26 (pc2 := 27) rfl (fun v3 => ?_)
    refine g_goto hc dX9_draw_27 (pc2 := 31) rfl ?_
    exact g_iret hc dX9_draw_31
set_option maxRecDepth 100000 in
set_option maxHeartbeats 4000000 in
def f_X10_copyFrom (n : Nat) (t : Nat) (a0 : Nat) (s0 : q_Sto) : Option (Int32 × q_Sto) :=
  q_callv (f_X9_copyFrom n (q_RF t 0) (q_RF a0 0) s0) fun s1 =>
  q_callv (f_X2_copyFrom n (q_RF t 1) (q_RF a0 1) s1) fun s3 =>
  q_callv (f_X6_copyFrom n (q_RF t 2) (q_RF a0 2) s3) fun s5 =>
  q_callv (f_X6_copyFrom n (q_RF t 3) (q_RF a0 3) s5) fun s7 =>
  q_callv (f_X6_copyFrom n (q_RF t 4) (q_RF a0 4) s7) fun s9 =>
  q_callv (f_X6_copyFrom n (q_RF t 5) (q_RF a0 5) s9) fun s11 =>
  q_callv (f_X6_copyFrom n (q_RF t 6) (q_RF a0 6) s11) fun s13 =>
  q_callv (f_X11_copyRow n (q_RF a0 7) 600 (q_RF t 7) 600 s13) fun s15 =>
  some (0, s15)
set_option maxRecDepth 100000 in
set_option maxHeartbeats 4000000 in
theorem C_X10_copyFrom {l : Launch} {w : q_Wd} {n : Nat} {t : Nat} {a0 : Nat} (ht : q_KD t = .inl 10) (ha0 : q_KD a0 = .inl 10) {s0 : q_Sto} : q_C l w yX10_copyFrom cX10_copyFrom 2 (none) (q_rm 3 122) [q_rf w t, q_rf w a0] s0 (f_X10_copyFrom n t a0 s0) := q_CofG [some (q_rf w t), some (q_rf w a0)] (by decide +kernel) rfl rfl (Nat.le_of_ble_eq_true rfl) fun cx hl hc => by
  have hc : q_ok w cx RX10 cX10_copyFrom 2 (none) (q_rm 3 122) := hc
  rw [f_X10_copyFrom]
  refine g_rl0 hc dX10_copyFrom_0 rfl (pc2 := 1) rfl ?_
  refine g_getR hc fl_X10_12 rfl ht dX10_copyFrom_1 (pc2 := 4) rfl ?_
  refine g_rl1 hc dX10_copyFrom_4 rfl (pc2 := 5) rfl ?_
  refine g_getR hc fl_X10_12 rfl ha0 dX10_copyFrom_5 (pc2 := 8) rfl ?_
  refine g_callV1v hc (C_X9_copyFrom (kf_10_0 ht) (kf_10_0 ha0)) mv_X9_copyFrom ln_X10_53 (kf_10_0 ht) ⟨by decide, by decide⟩ (Nat.le_of_ble_eq_true rfl) dX10_copyFrom_8 (pc2 := 11) rfl (fun s1 => ?_)
  refine g_rl0 hc dX10_copyFrom_11 rfl (pc2 := 12) rfl ?_
  refine g_getR hc fl_X10_21 rfl ht dX10_copyFrom_12 (pc2 := 15) rfl ?_
  refine g_rl1 hc dX10_copyFrom_15 rfl (pc2 := 16) rfl ?_
  refine g_getR hc fl_X10_21 rfl ha0 dX10_copyFrom_16 (pc2 := 19) rfl ?_
  refine g_callV1v hc (C_X2_copyFrom (kf_10_1 ht) (kf_10_1 ha0)) mv_X2_copyFrom ln_X10_57 (kf_10_1 ht) ⟨by decide, by decide⟩ (Nat.le_of_ble_eq_true rfl) dX10_copyFrom_19 (pc2 := 22) rfl (fun s3 => ?_)
  refine g_rl0 hc dX10_copyFrom_22 rfl (pc2 := 23) rfl ?_
  refine g_getR hc fl_X10_30 rfl ht dX10_copyFrom_23 (pc2 := 26) rfl ?_
  refine g_rl1 hc dX10_copyFrom_26 rfl (pc2 := 27) rfl ?_
  refine g_getR hc fl_X10_30 rfl ha0 dX10_copyFrom_27 (pc2 := 30) rfl ?_
  refine g_callV1v hc (C_X6_copyFrom (kf_10_2 ht) (kf_10_2 ha0)) mv_X6_copyFrom ln_X10_60 (kf_10_2 ht) ⟨by decide, by decide⟩ (Nat.le_of_ble_eq_true rfl) dX10_copyFrom_30 (pc2 := 33) rfl (fun s5 => ?_)
  refine g_rl0 hc dX10_copyFrom_33 rfl (pc2 := 34) rfl ?_
  refine g_getR hc fl_X10_34 rfl ht dX10_copyFrom_34 (pc2 := 37) rfl ?_
  refine g_rl1 hc dX10_copyFrom_37 rfl (pc2 := 38) rfl ?_
  refine g_getR hc fl_X10_34 rfl ha0 dX10_copyFrom_38 (pc2 := 41) rfl ?_
  refine g_callV1v hc (C_X6_copyFrom (kf_10_3 ht) (kf_10_3 ha0)) mv_X6_copyFrom ln_X10_60 (kf_10_3 ht) ⟨by decide, by decide⟩ (Nat.le_of_ble_eq_true rfl) dX10_copyFrom_41 (pc2 := 44) rfl (fun s7 => ?_)
  refine g_rl0 hc dX10_copyFrom_44 rfl (pc2 := 45) rfl ?_
  refine g_getR hc fl_X10_37 rfl ht dX10_copyFrom_45 (pc2 := 48) rfl ?_
  refine g_rl1 hc dX10_copyFrom_48 rfl (pc2 := 49) rfl ?_
  refine g_getR hc fl_X10_37 rfl ha0 dX10_copyFrom_49 (pc2 := 52) rfl ?_
  refine g_callV1v hc (C_X6_copyFrom (kf_10_4 ht) (kf_10_4 ha0)) mv_X6_copyFrom ln_X10_60 (kf_10_4 ht) ⟨by decide, by decide⟩ (Nat.le_of_ble_eq_true rfl) dX10_copyFrom_52 (pc2 := 55) rfl (fun s9 => ?_)
  refine g_rl0 hc dX10_copyFrom_55 rfl (pc2 := 56) rfl ?_
  refine g_getR hc fl_X10_40 rfl ht dX10_copyFrom_56 (pc2 := 59) rfl ?_
  refine g_rl1 hc dX10_copyFrom_59 rfl (pc2 := 60) rfl ?_
  refine g_getR hc fl_X10_40 rfl ha0 dX10_copyFrom_60 (pc2 := 63) rfl ?_
  refine g_callV1v hc (C_X6_copyFrom (kf_10_5 ht) (kf_10_5 ha0)) mv_X6_copyFrom ln_X10_60 (kf_10_5 ht) ⟨by decide, by decide⟩ (Nat.le_of_ble_eq_true rfl) dX10_copyFrom_63 (pc2 := 66) rfl (fun s11 => ?_)
  refine g_rl0 hc dX10_copyFrom_66 rfl (pc2 := 67) rfl ?_
  refine g_getR hc fl_X10_43 rfl ht dX10_copyFrom_67 (pc2 := 70) rfl ?_
  refine g_rl1 hc dX10_copyFrom_70 rfl (pc2 := 71) rfl ?_
  refine g_getR hc fl_X10_43 rfl ha0 dX10_copyFrom_71 (pc2 := 74) rfl ?_
  refine g_callV1v hc (C_X6_copyFrom (kf_10_6 ht) (kf_10_6 ha0)) mv_X6_copyFrom ln_X10_60 (kf_10_6 ht) ⟨by decide, by decide⟩ (Nat.le_of_ble_eq_true rfl) dX10_copyFrom_74 (pc2 := 77) rfl (fun s13 => ?_)
  refine g_rl1 hc dX10_copyFrom_77 rfl (pc2 := 78) rfl ?_
  refine g_getR hc fl_X10_46 rfl ha0 dX10_copyFrom_78 (pc2 := 81) rfl ?_
  refine g_rl0 hc dX10_copyFrom_81 rfl (pc2 := 82) rfl ?_
  refine g_getR hc fl_X10_46 rfl ht dX10_copyFrom_82 (pc2 := 85) rfl ?_
  refine g_callSN2v (host := "MuleVote") hc (C_X11_copyRow (kf_10_7 ha0) (kl_10_7 ha0) (kf_10_7 ht) (kl_10_7 ht)) mv_X11_copyRow (by decide +kernel) ⟨by decide, by decide⟩ (Nat.le_of_ble_eq_true rfl) dX10_copyFrom_85 (pc2 := 88) rfl (fun s15 => ?_)
  exact g_vret hc dX10_copyFrom_88
set_option maxRecDepth 100000 in
set_option maxHeartbeats 4000000 in
def f_X10_leanNow (n : Nat) (t : Nat) (a0 : Int32) (a1 : Int32) (s0 : q_Sto) : Option (Int32 × q_Sto) :=
  q_call (f_X10_heededBy n t a0 s0) fun r2 s1 =>
  q_call (f_X9_behindOf n (q_RF t 0) a1 s1) fun r4 s3 =>
  q_call (f_J6_bitCount_0f7a4 n (r2 &&& r4) s3) fun r6 s5 =>
  q_call (f_X9_likingFor n (q_RF t 0) a0 a1 s5) fun r8 s7 =>
  q_call (f_X10_leanOf n t a0 a1 r8 r6 s7) fun r10 s9 =>
  some (r10, s9)
set_option maxRecDepth 100000 in
set_option maxHeartbeats 4000000 in
theorem C_X10_leanNow {l : Launch} {w : q_Wd} {n : Nat} {t : Nat} {a0 : Int32} {a1 : Int32} (ht : q_KD t = .inl 10) {s0 : q_Sto} : q_C l w yX10_leanNow cX10_leanNow 4 (some .int) (q_rm 3 78) [q_rf w t, .int a0, .int a1] s0 (f_X10_leanNow n t a0 a1 s0) := q_CofG [some (q_rf w t), some (.int a0), some (.int a1), none] (by decide +kernel) rfl rfl (Nat.le_of_ble_eq_true rfl) fun cx hl hc => by
  have hc : q_ok w cx RX10 cX10_leanNow 4 (some .int) (q_rm 3 78) := hc
  rw [f_X10_leanNow]
  refine g_rl0 hc dX10_leanNow_0 rfl (pc2 := 1) rfl ?_
  refine g_il1 hc dX10_leanNow_1 rfl (pc2 := 2) rfl ?_
  refine g_callV1 hc (C_X10_heededBy ht) mv_X10_heededBy ln_X10_110 ht ⟨by decide, by decide⟩ (Nat.le_of_ble_eq_true rfl) dX10_leanNow_2 (pc2 := 5) rfl (fun r2 s1 => ?_)
  refine g_rl0 hc dX10_leanNow_5 rfl (pc2 := 6) rfl ?_
  refine g_getR hc fl_X10_12 rfl ht dX10_leanNow_6 (pc2 := 9) rfl ?_
  refine g_il2 hc dX10_leanNow_9 rfl (pc2 := 10) rfl ?_
  refine g_callV1 hc (C_X9_behindOf (kf_10_0 ht)) mv_X9_behindOf ln_X10_114 (kf_10_0 ht) ⟨by decide, by decide⟩ (Nat.le_of_ble_eq_true rfl) dX10_leanNow_10 (pc2 := 13) rfl (fun r4 s3 => ?_)
  refine g_iand hc dX10_leanNow_13 (pc2 := 14) rfl ?_
  refine g_callS1 hc C_J6_bitCount_0f7a4 mv_J6_bitCount_0f7a4 ln_X10_117 ⟨by decide, by decide⟩ (Nat.le_of_ble_eq_true rfl) dX10_leanNow_14 (pc2 := 17) rfl (fun r6 s5 => ?_)
  refine g_is3 hc dX10_leanNow_17 (by decide) (L2 := [some (q_rf w t), some (.int a0), some (.int a1), some (.int r6)]) rfl (pc2 := 18) rfl ?_
  refine g_rl0 hc dX10_leanNow_18 rfl (pc2 := 19) rfl ?_
  refine g_il1 hc dX10_leanNow_19 rfl (pc2 := 20) rfl ?_
  refine g_il2 hc dX10_leanNow_20 rfl (pc2 := 21) rfl ?_
  refine g_rl0 hc dX10_leanNow_21 rfl (pc2 := 22) rfl ?_
  refine g_getR hc fl_X10_12 rfl ht dX10_leanNow_22 (pc2 := 25) rfl ?_
  refine g_il1 hc dX10_leanNow_25 rfl (pc2 := 26) rfl ?_
  refine g_il2 hc dX10_leanNow_26 rfl (pc2 := 27) rfl ?_
  refine g_callV2 hc (C_X9_likingFor (kf_10_0 ht)) mv_X9_likingFor ln_X10_122 (kf_10_0 ht) ⟨by decide, by decide⟩ (Nat.le_of_ble_eq_true rfl) dX10_leanNow_27 (pc2 := 30) rfl (fun r8 s7 => ?_)
  refine g_il3 hc dX10_leanNow_30 rfl (pc2 := 31) rfl ?_
  refine g_callV4 hc (C_X10_leanOf ht) mv_X10_leanOf ln_X10_125 ht ⟨by decide, by decide⟩ (Nat.le_of_ble_eq_true rfl) dX10_leanNow_31 (pc2 := 34) rfl (fun r10 s9 => ?_)
  exact g_iret hc dX10_leanNow_34
set_option maxRecDepth 100000 in
set_option maxHeartbeats 4000000 in
def f_X10_likelihood_L7 (n : Nat) (x0 : Nat) (x1 : Int32) (x2 : Int32) (x3 : Int32) : Nat → Int32 → Int32 → q_Sto → Option (Int32 × q_Sto)
  | 0, _, _, _ => none
  | j + 1, x4, x5, s0 =>
    if x5 < (s0 (q_RF x0 0) 8) then (
    q_call (f_X10_riskOf n x0 x5 x2 x3 s0) fun r3 s2 =>
    q_call (f_X11_isIn n x1 x5 s2) fun r5 s4 =>
    if r5 = 0 then (
    q_dv (x4 * (1000 - r3)) 1000 fun v7 =>
    f_X10_likelihood_L7 n x0 x1 x2 x3  j v7 (x5 + 1) s4)
    else (
    q_dv (x4 * r3) 1000 fun v8 =>
    f_X10_likelihood_L7 n x0 x1 x2 x3  j v8 (x5 + 1) s4))
    else (
    some (x4, s0))
set_option maxRecDepth 100000 in
set_option maxHeartbeats 4000000 in
def f_X10_likelihood (n : Nat) (t : Nat) (a0 : Int32) (a1 : Int32) (a2 : Int32) (s0 : q_Sto) : Option (Int32 × q_Sto) :=
  f_X10_likelihood_L7 n t a0 a1 a2  n 1000000 0 s0
set_option maxRecDepth 100000 in
set_option maxHeartbeats 4000000 in
theorem t_X10_likelihood_L7 {w : q_Wd} {cx : q_Cx} (hc : q_ok w cx RX10 cX10_likelihood 7 (some .int) (q_rm 3 76)) {n : Nat} {x0 : Nat} {x1 : Int32} {x2 : Int32} {x3 : Int32} (hx0 : q_KD x0 = .inl 10)   :
    ∀ (j : Nat) (x4 : Int32) (x5 : Int32) (s0 : q_Sto), q_G w cx 7 (some .int) 7 [some (q_rf w x0), some (.int x1), some (.int x2), some (.int x3), some (.int x4), some (.int x5), none] [] s0 (f_X10_likelihood_L7 n x0 x1 x2 x3  j x4 x5 s0) := by
  intro j
  induction j with
  | zero =>
    intro _ _ _
    rw [f_X10_likelihood_L7]
    exact q_none
  | succ j ih =>
    intro x4 x5 s0
    rw [f_X10_likelihood_L7]
    refine g_iload hc dX10_likelihood_7 rfl (pc2 := 9) rfl ?_
    refine g_rl0 hc dX10_likelihood_9 rfl (pc2 := 10) rfl ?_
    refine g_getR hc fl_X10_12 rfl hx0 dX10_likelihood_10 (pc2 := 13) rfl ?_
    refine g_getI hc fl_X10_133 rfl (kf_10_0 hx0) dX10_likelihood_13 (pc2 := 16) rfl ?_
    refine g_icmp_ge hc dX10_likelihood_16 (pc1 := 19) (pc2 := 64) rfl rfl (fun _ => ?_) (fun _ => ?_)
    · refine g_rl0 hc dX10_likelihood_19 rfl (pc2 := 20) rfl ?_
      refine g_iload hc dX10_likelihood_20 rfl (pc2 := 22) rfl ?_
      refine g_il2 hc dX10_likelihood_22 rfl (pc2 := 23) rfl ?_
      refine g_il3 hc dX10_likelihood_23 rfl (pc2 := 24) rfl ?_
      refine g_callV3 hc (C_X10_riskOf hx0) mv_X10_riskOf ln_X10_143 hx0 ⟨by decide, by decide⟩ (Nat.le_of_ble_eq_true rfl) dX10_likelihood_24 (pc2 := 27) rfl (fun r3 s2 => ?_)
      refine g_istore hc dX10_likelihood_27 (by decide) (L2 := [some (q_rf w x0), some (.int x1), some (.int x2), some (.int x3), some (.int x4), some (.int x5), some (.int r3)]) rfl (pc2 := 29) rfl ?_
      refine g_iload hc dX10_likelihood_29 rfl (pc2 := 31) rfl ?_
      refine g_il1 hc dX10_likelihood_31 rfl (pc2 := 32) rfl ?_
      refine g_iload hc dX10_likelihood_32 rfl (pc2 := 34) rfl ?_
      refine g_callSN2 (host := "MuleVote") hc C_X11_isIn mv_X11_isIn (by decide +kernel) ⟨by decide, by decide⟩ (Nat.le_of_ble_eq_true rfl) dX10_likelihood_34 (pc2 := 37) rfl (fun r5 s4 => ?_)
      refine g_if_eq hc dX10_likelihood_37 (pc1 := 45) (pc2 := 40) rfl rfl (fun _ => ?_) (fun _ => ?_)
      · refine g_sipush hc dX10_likelihood_45 sp_1000 (pc2 := 48) rfl ?_
        refine g_iload hc dX10_likelihood_48 rfl (pc2 := 50) rfl ?_
        refine g_isub hc dX10_likelihood_50 (pc2 := 51) rfl ?_
        refine g_imul hc dX10_likelihood_51 (pc2 := 52) rfl ?_
        refine g_sipush hc dX10_likelihood_52 sp_1000 (pc2 := 55) rfl ?_
        refine g_idiv hc dX10_likelihood_55 (pc2 := 56) rfl (fun v7 => ?_)
        refine g_istore hc dX10_likelihood_56 (by decide) (L2 := [some (q_rf w x0), some (.int x1), some (.int x2), some (.int x3), some (.int v7), some (.int x5), some (.int r3)]) rfl (pc2 := 58) rfl ?_
        refine g_iinc hc dX10_likelihood_58 rfl (q_ii ic_1) (by decide) (L2 := [some (q_rf w x0), some (.int x1), some (.int x2), some (.int x3), some (.int v7), some (.int (x5 + 1)), some (.int r3)]) rfl (pc2 := 61) rfl ?_
        refine g_goto hc dX10_likelihood_61 (pc2 := 7) rfl ?_
        refine q_Gmask [true, true, true, true, true, true, false] (L2 := [some (q_rf w x0), some (.int x1), some (.int x2), some (.int x3), some (.int v7), some (.int (x5 + 1)), none]) rfl ?_
        exact ih _ _ _
      · refine g_iload hc dX10_likelihood_40 rfl (pc2 := 42) rfl ?_
        refine g_goto hc dX10_likelihood_42 (pc2 := 51) rfl ?_
        refine g_imul hc dX10_likelihood_51 (pc2 := 52) rfl ?_
        refine g_sipush hc dX10_likelihood_52 sp_1000 (pc2 := 55) rfl ?_
        refine g_idiv hc dX10_likelihood_55 (pc2 := 56) rfl (fun v8 => ?_)
        refine g_istore hc dX10_likelihood_56 (by decide) (L2 := [some (q_rf w x0), some (.int x1), some (.int x2), some (.int x3), some (.int v8), some (.int x5), some (.int r3)]) rfl (pc2 := 58) rfl ?_
        refine g_iinc hc dX10_likelihood_58 rfl (q_ii ic_1) (by decide) (L2 := [some (q_rf w x0), some (.int x1), some (.int x2), some (.int x3), some (.int v8), some (.int (x5 + 1)), some (.int r3)]) rfl (pc2 := 61) rfl ?_
        refine g_goto hc dX10_likelihood_61 (pc2 := 7) rfl ?_
        refine q_Gmask [true, true, true, true, true, true, false] (L2 := [some (q_rf w x0), some (.int x1), some (.int x2), some (.int x3), some (.int v8), some (.int (x5 + 1)), none]) rfl ?_
        exact ih _ _ _
    · refine g_iload hc dX10_likelihood_64 rfl (pc2 := 66) rfl ?_
      exact g_iret hc dX10_likelihood_66
set_option maxRecDepth 100000 in
set_option maxHeartbeats 4000000 in
theorem C_X10_likelihood {l : Launch} {w : q_Wd} {n : Nat} {t : Nat} {a0 : Int32} {a1 : Int32} {a2 : Int32} (ht : q_KD t = .inl 10) {s0 : q_Sto} : q_C l w yX10_likelihood cX10_likelihood 7 (some .int) (q_rm 3 76) [q_rf w t, .int a0, .int a1, .int a2] s0 (f_X10_likelihood n t a0 a1 a2 s0) := q_CofG [some (q_rf w t), some (.int a0), some (.int a1), some (.int a2), none, none, none] (by decide +kernel) rfl rfl (Nat.le_of_ble_eq_true rfl) fun cx hl hc => by
  have hc : q_ok w cx RX10 cX10_likelihood 7 (some .int) (q_rm 3 76) := hc
  rw [f_X10_likelihood]
  refine g_ldc hc cn_X10_147 dX10_likelihood_0 (pc2 := 2) rfl ?_
  refine g_istore hc dX10_likelihood_2 (by decide) (L2 := [some (q_rf w t), some (.int a0), some (.int a1), some (.int a2), some (.int 1000000), none, none]) rfl (pc2 := 4) rfl ?_
  refine g_iconst hc dX10_likelihood_4 ic_0 (pc2 := 5) rfl ?_
  refine g_istore hc dX10_likelihood_5 (by decide) (L2 := [some (q_rf w t), some (.int a0), some (.int a1), some (.int a2), some (.int 1000000), some (.int 0), none]) rfl (pc2 := 7) rfl ?_
  refine t_X10_likelihood_L7 hc ht  n _ _ _
set_option maxRecDepth 100000 in
set_option maxHeartbeats 4000000 in
def f_X10_hoursBetween_L2 (n : Nat) (x0 : Nat) (x1 : Int32) (x2 : Int32) (k39 : Int32 → q_Sto → Option (Int32 × q_Sto)) : Nat → Int32 → q_Sto → Option (Int32 × q_Sto)
  | 0, _, _ => none
  | j + 1, x3, s0 =>
    if x3 < (s0 (q_RF x0 4) 2) then (
    q_call (f_X6_cell n (q_RF x0 4) x3 0 s0) fun r3 s2 =>
    if r3 = x1 then (
    q_call (f_X6_cell n (q_RF x0 4) x3 1 s2) fun r6 s5 =>
    if r6 = x2 then (
    k39 x3 s5)
    else (
    f_X10_hoursBetween_L2 n x0 x1 x2 k39 j (x3 + 1) s5))
    else (
    f_X10_hoursBetween_L2 n x0 x1 x2 k39 j (x3 + 1) s2))
    else (
    some ((-1), s0))
set_option maxRecDepth 100000 in
set_option maxHeartbeats 4000000 in
def f_X10_hoursBetween (n : Nat) (t : Nat) (a0 : Int32) (a1 : Int32) (s0 : q_Sto) : Option (Int32 × q_Sto) :=
  f_X10_hoursBetween_L2 n t a0 a1 (fun (y8 : Int32) (s9 : q_Sto) =>
  q_call (f_X6_cell n (q_RF t 4) y8 2 s9) fun r11 s10 =>
  some (r11, s10)) n 0 s0
set_option maxRecDepth 100000 in
set_option maxHeartbeats 4000000 in
theorem t_X10_hoursBetween_L2 {w : q_Wd} {cx : q_Cx} (hc : q_ok w cx RX10 cX10_hoursBetween 4 (some .int) (q_rm 1 22)) {n : Nat} {x0 : Nat} {x1 : Int32} {x2 : Int32} (hx0 : q_KD x0 = .inl 10) {k39 : Int32 → q_Sto → Option (Int32 × q_Sto)} (hk39 : ∀ (y3 : Int32) (s1 : q_Sto), q_G w cx 4 (some .int) 39 [some (q_rf w x0), none, none, some (.int y3)] [] s1 (k39 y3 s1)) :
    ∀ (j : Nat) (x3 : Int32) (s0 : q_Sto), q_G w cx 4 (some .int) 2 [some (q_rf w x0), some (.int x1), some (.int x2), some (.int x3)] [] s0 (f_X10_hoursBetween_L2 n x0 x1 x2 k39 j x3 s0) := by
  intro j
  induction j with
  | zero =>
    intro _ _
    rw [f_X10_hoursBetween_L2]
    exact q_none
  | succ j ih =>
    intro x3 s0
    rw [f_X10_hoursBetween_L2]
    refine g_il3 hc dX10_hoursBetween_2 rfl (pc2 := 3) rfl ?_
    refine g_rl0 hc dX10_hoursBetween_3 rfl (pc2 := 4) rfl ?_
    refine g_getR hc fl_X10_37 rfl hx0 dX10_hoursBetween_4 (pc2 := 7) rfl ?_
    refine g_getI hc fl_X10_148 rfl (kf_10_4 hx0) dX10_hoursBetween_7 (pc2 := 10) rfl ?_
    refine g_icmp_ge hc dX10_hoursBetween_10 (pc1 := 13) (pc2 := 55) rfl rfl (fun _ => ?_) (fun _ => ?_)
    · refine g_rl0 hc dX10_hoursBetween_13 rfl (pc2 := 14) rfl ?_
      refine g_getR hc fl_X10_37 rfl hx0 dX10_hoursBetween_14 (pc2 := 17) rfl ?_
      refine g_il3 hc dX10_hoursBetween_17 rfl (pc2 := 18) rfl ?_
      refine g_iconst hc dX10_hoursBetween_18 ic_0 (pc2 := 19) rfl ?_
      refine g_callV2 hc (C_X6_cell (kf_10_4 hx0)) mv_X6_cell ln_X10_151 (kf_10_4 hx0) ⟨by decide, by decide⟩ (Nat.le_of_ble_eq_true rfl) dX10_hoursBetween_19 (pc2 := 22) rfl (fun r3 s2 => ?_)
      refine g_il1 hc dX10_hoursBetween_22 rfl (pc2 := 23) rfl ?_
      refine g_icmp_ne hc dX10_hoursBetween_23 (pc1 := 26) (pc2 := 49) rfl rfl (fun _ => ?_) (fun _ => ?_)
      · refine g_rl0 hc dX10_hoursBetween_26 rfl (pc2 := 27) rfl ?_
        refine g_getR hc fl_X10_37 rfl hx0 dX10_hoursBetween_27 (pc2 := 30) rfl ?_
        refine g_il3 hc dX10_hoursBetween_30 rfl (pc2 := 31) rfl ?_
        refine g_iconst hc dX10_hoursBetween_31 ic_1 (pc2 := 32) rfl ?_
        refine g_callV2 hc (C_X6_cell (kf_10_4 hx0)) mv_X6_cell ln_X10_151 (kf_10_4 hx0) ⟨by decide, by decide⟩ (Nat.le_of_ble_eq_true rfl) dX10_hoursBetween_32 (pc2 := 35) rfl (fun r6 s5 => ?_)
        refine g_il2 hc dX10_hoursBetween_35 rfl (pc2 := 36) rfl ?_
        refine g_icmp_ne hc dX10_hoursBetween_36 (pc1 := 39) (pc2 := 49) rfl rfl (fun _ => ?_) (fun _ => ?_)
        · refine q_Gmask [true, false, false, true] (L2 := [some (q_rf w x0), none, none, some (.int x3)]) rfl ?_
          exact hk39 _ _
        · refine g_iinc hc dX10_hoursBetween_49 rfl (q_ii ic_1) (by decide) (L2 := [some (q_rf w x0), some (.int x1), some (.int x2), some (.int (x3 + 1))]) rfl (pc2 := 52) rfl ?_
          refine g_goto hc dX10_hoursBetween_52 (pc2 := 2) rfl ?_
          exact ih _ _
      · refine g_iinc hc dX10_hoursBetween_49 rfl (q_ii ic_1) (by decide) (L2 := [some (q_rf w x0), some (.int x1), some (.int x2), some (.int (x3 + 1))]) rfl (pc2 := 52) rfl ?_
        refine g_goto hc dX10_hoursBetween_52 (pc2 := 2) rfl ?_
        exact ih _ _
    · refine g_iconst hc dX10_hoursBetween_55 ic_m1 (pc2 := 56) rfl ?_
      exact g_iret hc dX10_hoursBetween_56
set_option maxRecDepth 100000 in
set_option maxHeartbeats 4000000 in
theorem C_X10_hoursBetween {l : Launch} {w : q_Wd} {n : Nat} {t : Nat} {a0 : Int32} {a1 : Int32} (ht : q_KD t = .inl 10) {s0 : q_Sto} : q_C l w yX10_hoursBetween cX10_hoursBetween 4 (some .int) (q_rm 1 22) [q_rf w t, .int a0, .int a1] s0 (f_X10_hoursBetween n t a0 a1 s0) := q_CofG [some (q_rf w t), some (.int a0), some (.int a1), none] (by decide +kernel) rfl rfl (Nat.le_of_ble_eq_true rfl) fun cx hl hc => by
  have hc : q_ok w cx RX10 cX10_hoursBetween 4 (some .int) (q_rm 1 22) := hc
  rw [f_X10_hoursBetween]
  refine g_iconst hc dX10_hoursBetween_0 ic_0 (pc2 := 1) rfl ?_
  refine g_is3 hc dX10_hoursBetween_1 (by decide) (L2 := [some (q_rf w t), some (.int a0), some (.int a1), some (.int 0)]) rfl (pc2 := 2) rfl ?_
  refine t_X10_hoursBetween_L2 hc ht (fun y8 s9 => ?_) n _ _
  refine g_rl0 hc dX10_hoursBetween_39 rfl (pc2 := 40) rfl ?_
  refine g_getR hc fl_X10_37 rfl ht dX10_hoursBetween_40 (pc2 := 43) rfl ?_
  refine g_il3 hc dX10_hoursBetween_43 rfl (pc2 := 44) rfl ?_
  refine g_iconst hc dX10_hoursBetween_44 ic_2 (pc2 := 45) rfl ?_
  refine g_callV2 hc (C_X6_cell (kf_10_4 ht)) mv_X6_cell ln_X10_151 (kf_10_4 ht) ⟨by decide, by decide⟩ (Nat.le_of_ble_eq_true rfl) dX10_hoursBetween_45 (pc2 := 48) rfl (fun r11 s10 => ?_)
  exact g_iret hc dX10_hoursBetween_48
set_option maxRecDepth 100000 in
set_option maxHeartbeats 4000000 in
def f_X10_write (n : Nat) (t : Nat) (a0 : Int32) (a1 : Int32) (a2 : Int32) (s0 : q_Sto) : Option (Int32 × q_Sto) :=
  if (s0 (q_RF t 0) 17) < 0 then (
  some (0, s0))
  else (
  if (s0 (q_RF t 0) 17) < 150 then (
  q_nm ((s0 (q_RF t 0) 17) * 4) fun v3 =>
  q_st s0 (q_RF t 7) v3 600 (s0 (q_RF t 0) 16) fun s4 =>
  q_st s4 (q_RF t 7) (v3 + 1) 600 a0 fun s5 =>
  q_st s5 (q_RF t 7) (v3 + 2) 600 a1 fun s6 =>
  q_st s6 (q_RF t 7) (v3 + 3) 600 a2 fun s7 =>
  q_nS1 (q_up s7 (q_RF t 0) 17 ((s7 (q_RF t 0) 17) + 1)) fun s8 =>
  some (0, s8))
  else (
  some (0, s0)))
set_option maxRecDepth 100000 in
set_option maxHeartbeats 4000000 in
theorem C_X10_write {l : Launch} {w : q_Wd} {n : Nat} {t : Nat} {a0 : Int32} {a1 : Int32} {a2 : Int32} (ht : q_KD t = .inl 10) {s0 : q_Sto} : q_C l w yX10_write cX10_write 5 (none) (q_rm 0 0) [q_rf w t, .int a0, .int a1, .int a2] s0 (f_X10_write n t a0 a1 a2 s0) := q_CofG [some (q_rf w t), some (.int a0), some (.int a1), some (.int a2), none] (by decide +kernel) rfl rfl (Nat.le_of_ble_eq_true rfl) fun cx hl hc => by
  have hc : q_ok w cx RX10 cX10_write 5 (none) (q_rm 0 0) := hc
  rw [f_X10_write]
  refine g_rl0 hc dX10_write_0 rfl (pc2 := 1) rfl ?_
  refine g_getR hc fl_X10_12 rfl ht dX10_write_1 (pc2 := 4) rfl ?_
  refine g_getI hc fl_X10_154 rfl (kf_10_0 ht) dX10_write_4 (pc2 := 7) rfl ?_
  refine g_if_lt hc dX10_write_7 (pc1 := 91) (pc2 := 10) rfl rfl (fun _ => ?_) (fun _ => ?_)
  · exact g_vret hc dX10_write_91
  · refine g_rl0 hc dX10_write_10 rfl (pc2 := 11) rfl ?_
    refine g_getR hc fl_X10_12 rfl ht dX10_write_11 (pc2 := 14) rfl ?_
    refine g_getI hc fl_X10_154 rfl (kf_10_0 ht) dX10_write_14 (pc2 := 17) rfl ?_
    refine g_sipush hc dX10_write_17 sp_150 (pc2 := 20) rfl ?_
    refine g_icmp_ge hc dX10_write_20 (pc1 := 23) (pc2 := 91) rfl rfl (fun _ => ?_) (fun _ => ?_)
    · refine g_rl0 hc dX10_write_23 rfl (pc2 := 24) rfl ?_
      refine g_getR hc fl_X10_12 rfl ht dX10_write_24 (pc2 := 27) rfl ?_
      refine g_getI hc fl_X10_154 rfl (kf_10_0 ht) dX10_write_27 (pc2 := 30) rfl ?_
      refine g_iconst hc dX10_write_30 ic_4 (pc2 := 31) rfl ?_
      refine g_imul hc dX10_write_31 (pc2 := 32) rfl ?_
      refine g_nm (fun v3 => ?_)
      refine g_istore hc dX10_write_32 (by decide) (L2 := [some (q_rf w t), some (.int a0), some (.int a1), some (.int a2), some (.int v3)]) rfl (pc2 := 34) rfl ?_
      refine g_rl0 hc dX10_write_34 rfl (pc2 := 35) rfl ?_
      refine g_getR hc fl_X10_46 rfl ht dX10_write_35 (pc2 := 38) rfl ?_
      refine g_iload hc dX10_write_38 rfl (pc2 := 40) rfl ?_
      refine g_rl0 hc dX10_write_40 rfl (pc2 := 41) rfl ?_
      refine g_getR hc fl_X10_12 rfl ht dX10_write_41 (pc2 := 44) rfl ?_
      refine g_getI hc fl_X10_90 rfl (kf_10_0 ht) dX10_write_44 (pc2 := 47) rfl ?_
      refine g_iast hc (kf_10_7 ht) (kl_10_7 ht) dX10_write_47 (pc2 := 48) rfl (fun s4 => ?_)
      refine g_rl0 hc dX10_write_48 rfl (pc2 := 49) rfl ?_
      refine g_getR hc fl_X10_46 rfl ht dX10_write_49 (pc2 := 52) rfl ?_
      refine g_iload hc dX10_write_52 rfl (pc2 := 54) rfl ?_
      refine g_iconst hc dX10_write_54 ic_1 (pc2 := 55) rfl ?_
      refine g_iadd hc dX10_write_55 (pc2 := 56) rfl ?_
      refine g_il1 hc dX10_write_56 rfl (pc2 := 57) rfl ?_
      refine g_iast hc (kf_10_7 ht) (kl_10_7 ht) dX10_write_57 (pc2 := 58) rfl (fun s5 => ?_)
      refine g_rl0 hc dX10_write_58 rfl (pc2 := 59) rfl ?_
      refine g_getR hc fl_X10_46 rfl ht dX10_write_59 (pc2 := 62) rfl ?_
      refine g_iload hc dX10_write_62 rfl (pc2 := 64) rfl ?_
      refine g_iconst hc dX10_write_64 ic_2 (pc2 := 65) rfl ?_
      refine g_iadd hc dX10_write_65 (pc2 := 66) rfl ?_
      refine g_il2 hc dX10_write_66 rfl (pc2 := 67) rfl ?_
      refine g_iast hc (kf_10_7 ht) (kl_10_7 ht) dX10_write_67 (pc2 := 68) rfl (fun s6 => ?_)
      refine g_rl0 hc dX10_write_68 rfl (pc2 := 69) rfl ?_
      refine g_getR hc fl_X10_46 rfl ht dX10_write_69 (pc2 := 72) rfl ?_
      refine g_iload hc dX10_write_72 rfl (pc2 := 74) rfl ?_
      refine g_iconst hc dX10_write_74 ic_3 (pc2 := 75) rfl ?_
      refine g_iadd hc dX10_write_75 (pc2 := 76) rfl ?_
      refine g_il3 hc dX10_write_76 rfl (pc2 := 77) rfl ?_
      refine g_iast hc (kf_10_7 ht) (kl_10_7 ht) dX10_write_77 (pc2 := 78) rfl (fun s7 => ?_)
      refine g_rl0 hc dX10_write_78 rfl (pc2 := 79) rfl ?_
      refine g_getR hc fl_X10_12 rfl ht dX10_write_79 (pc2 := 82) rfl ?_
      refine g_dup hc dX10_write_82 rfl (pc2 := 83) rfl ?_
      refine g_getI hc fl_X10_154 rfl (kf_10_0 ht) dX10_write_83 (pc2 := 86) rfl ?_
      refine g_iconst hc dX10_write_86 ic_1 (pc2 := 87) rfl ?_
      refine g_iadd hc dX10_write_87 (pc2 := 88) rfl ?_
      refine g_putI hc fl_X10_154 rfl (kf_10_0 ht) dX10_write_88 (pc2 := 91) rfl (fun s8 => ?_)
      exact g_vret hc dX10_write_91
    · exact g_vret hc dX10_write_91
set_option maxRecDepth 100000 in
set_option maxHeartbeats 4000000 in
def f_X10_read (n : Nat) (t : Nat) (a0 : Int32) (a1 : Int32) (s0 : q_Sto) : Option (Int32 × q_Sto) :=
  if a0 < 0 then (
  some ((-2), s0))
  else (
  if a0 < 150 then (
  if a1 < 0 then (
  some ((-2), s0))
  else (
  if a1 < 4 then (
  q_ld s0 (q_RF t 7) ((a0 * 4) + a1) 600 fun v5 =>
  some (v5, s0))
  else (
  some ((-2), s0))))
  else (
  some ((-2), s0)))
set_option maxRecDepth 100000 in
set_option maxHeartbeats 4000000 in
theorem C_X10_read {l : Launch} {w : q_Wd} {n : Nat} {t : Nat} {a0 : Int32} {a1 : Int32} (ht : q_KD t = .inl 10) {s0 : q_Sto} : q_C l w yX10_read cX10_read 3 (some .int) (q_rm 0 0) [q_rf w t, .int a0, .int a1] s0 (f_X10_read n t a0 a1 s0) := q_CofG [some (q_rf w t), some (.int a0), some (.int a1)] (by decide +kernel) rfl rfl (Nat.le_of_ble_eq_true rfl) fun cx hl hc => by
  have hc : q_ok w cx RX10 cX10_read 3 (some .int) (q_rm 0 0) := hc
  rw [f_X10_read]
  refine g_il1 hc dX10_read_0 rfl (pc2 := 1) rfl ?_
  refine g_if_lt hc dX10_read_1 (pc1 := 20) (pc2 := 4) rfl rfl (fun _ => ?_) (fun _ => ?_)
  · refine g_bipush hc dX10_read_20 bp_m2 (pc2 := 22) rfl ?_
    exact g_iret hc dX10_read_22
  · refine g_il1 hc dX10_read_4 rfl (pc2 := 5) rfl ?_
    refine g_sipush hc dX10_read_5 sp_150 (pc2 := 8) rfl ?_
    refine g_icmp_ge hc dX10_read_8 (pc1 := 11) (pc2 := 20) rfl rfl (fun _ => ?_) (fun _ => ?_)
    · refine g_il2 hc dX10_read_11 rfl (pc2 := 12) rfl ?_
      refine g_if_lt hc dX10_read_12 (pc1 := 20) (pc2 := 15) rfl rfl (fun _ => ?_) (fun _ => ?_)
      · refine g_bipush hc dX10_read_20 bp_m2 (pc2 := 22) rfl ?_
        exact g_iret hc dX10_read_22
      · refine g_il2 hc dX10_read_15 rfl (pc2 := 16) rfl ?_
        refine g_iconst hc dX10_read_16 ic_4 (pc2 := 17) rfl ?_
        refine g_icmp_lt hc dX10_read_17 (pc1 := 23) (pc2 := 20) rfl rfl (fun _ => ?_) (fun _ => ?_)
        · refine g_rl0 hc dX10_read_23 rfl (pc2 := 24) rfl ?_
          refine g_getR hc fl_X10_46 rfl ht dX10_read_24 (pc2 := 27) rfl ?_
          refine g_il1 hc dX10_read_27 rfl (pc2 := 28) rfl ?_
          refine g_iconst hc dX10_read_28 ic_4 (pc2 := 29) rfl ?_
          refine g_imul hc dX10_read_29 (pc2 := 30) rfl ?_
          refine g_il2 hc dX10_read_30 rfl (pc2 := 31) rfl ?_
          refine g_iadd hc dX10_read_31 (pc2 := 32) rfl ?_
          refine g_iald hc (kf_10_7 ht) (kl_10_7 ht) dX10_read_32 (pc2 := 33) rfl (fun v5 => ?_)
          exact g_iret hc dX10_read_33
        · refine g_bipush hc dX10_read_20 bp_m2 (pc2 := 22) rfl ?_
          exact g_iret hc dX10_read_22
    · refine g_bipush hc dX10_read_20 bp_m2 (pc2 := 22) rfl ?_
      exact g_iret hc dX10_read_22
set_option maxRecDepth 100000 in
set_option maxHeartbeats 4000000 in
def f_X10_castVote_L7 (n : Nat) (x0 : Nat) (x1 : Nat) (k44 : q_Sto → Option (Int32 × q_Sto)) : Nat → Int32 → q_Sto → Option (Int32 × q_Sto)
  | 0, _, _ => none
  | j + 1, x2, s0 =>
    if x2 < (s0 (q_RF x0 0) 8) then (
    if x2 < 12 then (
    q_call (f_X0_choiceOf n x1 x2 s0) fun r6 s5 =>
    q_st s5 (q_RF (q_RF x0 0) 3) x2 12 r6 fun s7 =>
    f_X10_castVote_L7 n x0 x1 k44 j (x2 + 1) s7)
    else (
    k44 s0))
    else (
    k44 s0)
set_option maxRecDepth 100000 in
set_option maxHeartbeats 4000000 in
def f_X10_castVote (n : Nat) (t : Nat) (a0 : Nat) (s0 : q_Sto) : Option (Int32 × q_Sto) :=
  q_callv (f_X0_standNow n a0 t s0) fun s1 =>
  f_X10_castVote_L7 n t a0 (fun  (s8 : q_Sto) =>
  q_nS1 (q_up s8 (q_RF t 0) 13 (s8 a0 8)) fun s9 =>
  q_jn (fun  (s10 : q_Sto) =>
    if (s10 (q_RF t 0) 13) = (-1) then (
    q_callv (f_X10_write n t 0 (s10 (q_RF t 0) 13) 0 s10) fun s12 =>
    some (0, s12))
    else (
    q_call (f_X9_behindOf n (q_RF t 0) (s10 (q_RF t 0) 13) s10) fun r15 s14 =>
    q_call (f_J6_bitCount_0f7a4 n r15 s14) fun r17 s16 =>
    q_callv (f_X10_write n t 0 (s10 (q_RF t 0) 13) r17 s16) fun s18 =>
    some (0, s18))) fun j79 =>
  if (s9 (q_RF t 0) 13) = (-1) then (
  q_nS1 (q_up s9 (q_RF t 0) 14 ((s9 (q_RF t 0) 14) + 1)) fun s21 =>
  j79 s21)
  else (
  j79 s9)) n 0 s1
set_option maxRecDepth 100000 in
set_option maxHeartbeats 4000000 in
theorem t_X10_castVote_L7 {w : q_Wd} {cx : q_Cx} (hc : q_ok w cx RX10 cX10_castVote 3 (none) (q_rm 4 105)) {n : Nat} {x0 : Nat} {x1 : Nat} (hx0 : q_KD x0 = .inl 10) (hx1 : q_KD x1 = .inl 0) {k44 : q_Sto → Option (Int32 × q_Sto)} (hk44 : ∀  (s1 : q_Sto), q_G w cx 3 (none) 44 [some (q_rf w x0), some (q_rf w x1), none] [] s1 (k44 s1)) :
    ∀ (j : Nat) (x2 : Int32) (s0 : q_Sto), q_G w cx 3 (none) 7 [some (q_rf w x0), some (q_rf w x1), some (.int x2)] [] s0 (f_X10_castVote_L7 n x0 x1 k44 j x2 s0) := by
  intro j
  induction j with
  | zero =>
    intro _ _
    rw [f_X10_castVote_L7]
    exact q_none
  | succ j ih =>
    intro x2 s0
    rw [f_X10_castVote_L7]
    refine g_il2 hc dX10_castVote_7 rfl (pc2 := 8) rfl ?_
    refine g_rl0 hc dX10_castVote_8 rfl (pc2 := 9) rfl ?_
    refine g_getR hc fl_X10_12 rfl hx0 dX10_castVote_9 (pc2 := 12) rfl ?_
    refine g_getI hc fl_X10_133 rfl (kf_10_0 hx0) dX10_castVote_12 (pc2 := 15) rfl ?_
    refine g_icmp_ge hc dX10_castVote_15 (pc1 := 18) (pc2 := 44) rfl rfl (fun _ => ?_) (fun _ => ?_)
    · refine g_il2 hc dX10_castVote_18 rfl (pc2 := 19) rfl ?_
      refine g_bipush hc dX10_castVote_19 bp_12 (pc2 := 21) rfl ?_
      refine g_icmp_ge hc dX10_castVote_21 (pc1 := 24) (pc2 := 44) rfl rfl (fun _ => ?_) (fun _ => ?_)
      · refine g_rl0 hc dX10_castVote_24 rfl (pc2 := 25) rfl ?_
        refine g_getR hc fl_X10_12 rfl hx0 dX10_castVote_25 (pc2 := 28) rfl ?_
        refine g_getR hc fl_X10_163 rfl (kf_10_0 hx0) dX10_castVote_28 (pc2 := 31) rfl ?_
        refine g_il2 hc dX10_castVote_31 rfl (pc2 := 32) rfl ?_
        refine g_rl1 hc dX10_castVote_32 rfl (pc2 := 33) rfl ?_
        refine g_il2 hc dX10_castVote_33 rfl (pc2 := 34) rfl ?_
        refine g_callV1 hc (C_X0_choiceOf hx1) mv_X0_choiceOf ln_X10_166 hx1 ⟨by decide, by decide⟩ (Nat.le_of_ble_eq_true rfl) dX10_castVote_34 (pc2 := 37) rfl (fun r6 s5 => ?_)
        refine g_iast hc (kf_9_3 (kf_10_0 hx0)) (kl_9_3 (kf_10_0 hx0)) dX10_castVote_37 (pc2 := 38) rfl (fun s7 => ?_)
        refine g_iinc hc dX10_castVote_38 rfl (q_ii ic_1) (by decide) (L2 := [some (q_rf w x0), some (q_rf w x1), some (.int (x2 + 1))]) rfl (pc2 := 41) rfl ?_
        refine g_goto hc dX10_castVote_41 (pc2 := 7) rfl ?_
        exact ih _ _
      · refine q_Gmask [true, true, false] (L2 := [some (q_rf w x0), some (q_rf w x1), none]) rfl ?_
        exact hk44 _
    · refine q_Gmask [true, true, false] (L2 := [some (q_rf w x0), some (q_rf w x1), none]) rfl ?_
      exact hk44 _
set_option maxRecDepth 100000 in
set_option maxHeartbeats 4000000 in
theorem C_X10_castVote {l : Launch} {w : q_Wd} {n : Nat} {t : Nat} {a0 : Nat} (ht : q_KD t = .inl 10) (ha0 : q_KD a0 = .inl 0) {s0 : q_Sto} : q_C l w yX10_castVote cX10_castVote 3 (none) (q_rm 4 105) [q_rf w t, q_rf w a0] s0 (f_X10_castVote n t a0 s0) := q_CofG [some (q_rf w t), some (q_rf w a0), none] (by decide +kernel) rfl rfl (Nat.le_of_ble_eq_true rfl) fun cx hl hc => by
  have hc : q_ok w cx RX10 cX10_castVote 3 (none) (q_rm 4 105) := hc
  rw [f_X10_castVote]
  refine g_rl1 hc dX10_castVote_0 rfl (pc2 := 1) rfl ?_
  refine g_rl0 hc dX10_castVote_1 rfl (pc2 := 2) rfl ?_
  refine g_callV1v hc (C_X0_standNow ha0 ht) mv_X0_standNow ln_X10_157 ha0 ⟨by decide, by decide⟩ (Nat.le_of_ble_eq_true rfl) dX10_castVote_2 (pc2 := 5) rfl (fun s1 => ?_)
  refine g_iconst hc dX10_castVote_5 ic_0 (pc2 := 6) rfl ?_
  refine g_is2 hc dX10_castVote_6 (by decide) (L2 := [some (q_rf w t), some (q_rf w a0), some (.int 0)]) rfl (pc2 := 7) rfl ?_
  refine t_X10_castVote_L7 hc ht ha0 (fun s8 => ?_) n _ _
  refine g_rl0 hc dX10_castVote_44 rfl (pc2 := 45) rfl ?_
  refine g_getR hc fl_X10_12 rfl ht dX10_castVote_45 (pc2 := 48) rfl ?_
  refine g_rl1 hc dX10_castVote_48 rfl (pc2 := 49) rfl ?_
  refine g_getI hc fl_X10_169 rfl ha0 dX10_castVote_49 (pc2 := 52) rfl ?_
  refine g_putI hc fl_X10_140 rfl (kf_10_0 ht) dX10_castVote_52 (pc2 := 55) rfl (fun s9 => ?_)
  refine g_rl0 hc dX10_castVote_55 rfl (pc2 := 56) rfl ?_
  refine g_getR hc fl_X10_12 rfl ht dX10_castVote_56 (pc2 := 59) rfl ?_
  refine g_getI hc fl_X10_140 rfl (kf_10_0 ht) dX10_castVote_59 (pc2 := 62) rfl ?_
  refine g_iconst hc dX10_castVote_62 ic_m1 (pc2 := 63) rfl ?_
  refine g_jn (P := fun j79 => ∀  (s10 : q_Sto), q_G w cx 3 (none) 79 [some (q_rf w t), none, none] [] s10 (j79 s10)) (fun s10 => ?_) (fun j79 hj79 => ?_)
  · refine g_rl0 hc dX10_castVote_79 rfl (pc2 := 80) rfl ?_
    refine g_iconst hc dX10_castVote_80 ic_0 (pc2 := 81) rfl ?_
    refine g_rl0 hc dX10_castVote_81 rfl (pc2 := 82) rfl ?_
    refine g_getR hc fl_X10_12 rfl ht dX10_castVote_82 (pc2 := 85) rfl ?_
    refine g_getI hc fl_X10_140 rfl (kf_10_0 ht) dX10_castVote_85 (pc2 := 88) rfl ?_
    refine g_rl0 hc dX10_castVote_88 rfl (pc2 := 89) rfl ?_
    refine g_getR hc fl_X10_12 rfl ht dX10_castVote_89 (pc2 := 92) rfl ?_
    refine g_getI hc fl_X10_140 rfl (kf_10_0 ht) dX10_castVote_92 (pc2 := 95) rfl ?_
    refine g_iconst hc dX10_castVote_95 ic_m1 (pc2 := 96) rfl ?_
    refine g_icmp_ne hc dX10_castVote_96 (pc1 := 99) (pc2 := 103) rfl rfl (fun _ => ?_) (fun _ => ?_)
    · refine g_iconst hc dX10_castVote_99 ic_0 (pc2 := 100) rfl ?_
      refine g_goto hc dX10_castVote_100 (pc2 := 120) rfl ?_
      refine g_callV3v hc (C_X10_write ht) mv_X10_write ln_X10_173 ht ⟨by decide, by decide⟩ (Nat.le_of_ble_eq_true rfl) dX10_castVote_120 (pc2 := 123) rfl (fun s12 => ?_)
      exact g_vret hc dX10_castVote_123
    · refine g_rl0 hc dX10_castVote_103 rfl (pc2 := 104) rfl ?_
      refine g_getR hc fl_X10_12 rfl ht dX10_castVote_104 (pc2 := 107) rfl ?_
      refine g_rl0 hc dX10_castVote_107 rfl (pc2 := 108) rfl ?_
      refine g_getR hc fl_X10_12 rfl ht dX10_castVote_108 (pc2 := 111) rfl ?_
      refine g_getI hc fl_X10_140 rfl (kf_10_0 ht) dX10_castVote_111 (pc2 := 114) rfl ?_
      refine g_callV1 hc (C_X9_behindOf (kf_10_0 ht)) mv_X9_behindOf ln_X10_114 (kf_10_0 ht) ⟨by decide, by decide⟩ (Nat.le_of_ble_eq_true rfl) dX10_castVote_114 (pc2 := 117) rfl (fun r15 s14 => ?_)
      refine g_callS1 hc C_J6_bitCount_0f7a4 mv_J6_bitCount_0f7a4 ln_X10_117 ⟨by decide, by decide⟩ (Nat.le_of_ble_eq_true rfl) dX10_castVote_117 (pc2 := 120) rfl (fun r17 s16 => ?_)
      refine g_callV3v hc (C_X10_write ht) mv_X10_write ln_X10_173 ht ⟨by decide, by decide⟩ (Nat.le_of_ble_eq_true rfl) dX10_castVote_120 (pc2 := 123) rfl (fun s18 => ?_)
      exact g_vret hc dX10_castVote_123
  · refine g_icmp_ne hc dX10_castVote_63 (pc1 := 66) (pc2 := 79) rfl rfl (fun _ => ?_) (fun _ => ?_)
    · refine g_rl0 hc dX10_castVote_66 rfl (pc2 := 67) rfl ?_
      refine g_getR hc fl_X10_12 rfl ht dX10_castVote_67 (pc2 := 70) rfl ?_
      refine g_dup hc dX10_castVote_70 rfl (pc2 := 71) rfl ?_
      refine g_getI hc fl_X10_170 rfl (kf_10_0 ht) dX10_castVote_71 (pc2 := 74) rfl ?_
      refine g_iconst hc dX10_castVote_74 ic_1 (pc2 := 75) rfl ?_
      refine g_iadd hc dX10_castVote_75 (pc2 := 76) rfl ?_
      refine g_putI hc fl_X10_170 rfl (kf_10_0 ht) dX10_castVote_76 (pc2 := 79) rfl (fun s21 => ?_)
      refine q_Gmask [true, false, true] (L2 := [some (q_rf w t), none, none]) rfl ?_
      exact hj79 _
    · refine q_Gmask [true, false, true] (L2 := [some (q_rf w t), none, none]) rfl ?_
      exact hj79 _
set_option maxRecDepth 100000 in
set_option maxHeartbeats 4000000 in
def f_X10_canTreat (n : Nat) (t : Nat) (a0 : Int32) (a1 : Int32) (a2 : Int32) (s0 : q_Sto) : Option (Int32 × q_Sto) :=
  q_call (f_X9_hasMan n (q_RF t 0) a1 s0) fun r2 s1 =>
  if r2 = 0 then (
  some (0, s1))
  else (
  if a0 = 2 then (
  some (1, s1))
  else (
  q_call (f_X9_hasMule n (q_RF t 0) a2 s1) fun r6 s5 =>
  if r6 = 0 then (
  some (0, s5))
  else (
  if a0 = 3 then (
  some (1, s5))
  else (
  q_ld s5 (q_RF (q_RF t 0) 4) a1 5 fun v9 =>
  if v9 ≤ 0 then (
  some (0, s5))
  else (
  some (1, s5))))))
set_option maxRecDepth 100000 in
set_option maxHeartbeats 4000000 in
theorem C_X10_canTreat {l : Launch} {w : q_Wd} {n : Nat} {t : Nat} {a0 : Int32} {a1 : Int32} {a2 : Int32} (ht : q_KD t = .inl 10) {s0 : q_Sto} : q_C l w yX10_canTreat cX10_canTreat 4 (some .boolean) (q_rm 1 21) [q_rf w t, .int a0, .int a1, .int a2] s0 (f_X10_canTreat n t a0 a1 a2 s0) := q_CofG [some (q_rf w t), some (.int a0), some (.int a1), some (.int a2)] (by decide +kernel) rfl rfl (Nat.le_of_ble_eq_true rfl) fun cx hl hc => by
  have hc : q_ok w cx RX10 cX10_canTreat 4 (some .boolean) (q_rm 1 21) := hc
  rw [f_X10_canTreat]
  refine g_rl0 hc dX10_canTreat_0 rfl (pc2 := 1) rfl ?_
  refine g_getR hc fl_X10_12 rfl ht dX10_canTreat_1 (pc2 := 4) rfl ?_
  refine g_il2 hc dX10_canTreat_4 rfl (pc2 := 5) rfl ?_
  refine g_callV1 hc (C_X9_hasMan (kf_10_0 ht)) mv_X9_hasMan ln_X10_77 (kf_10_0 ht) ⟨by decide, by decide⟩ (Nat.le_of_ble_eq_true rfl) dX10_canTreat_5 (pc2 := 8) rfl (fun r2 s1 => ?_)
  refine g_if_ne hc dX10_canTreat_8 (pc1 := 11) (pc2 := 13) rfl rfl (fun _ => ?_) (fun _ => ?_)
  · refine g_iconst hc dX10_canTreat_11 ic_0 (pc2 := 12) rfl ?_
    exact g_zret0 (by decide) hc dX10_canTreat_12
  · refine g_il1 hc dX10_canTreat_13 rfl (pc2 := 14) rfl ?_
    refine g_iconst hc dX10_canTreat_14 ic_2 (pc2 := 15) rfl ?_
    refine g_icmp_ne hc dX10_canTreat_15 (pc1 := 18) (pc2 := 20) rfl rfl (fun _ => ?_) (fun _ => ?_)
    · refine g_iconst hc dX10_canTreat_18 ic_1 (pc2 := 19) rfl ?_
      exact g_zret0 (by decide) hc dX10_canTreat_19
    · refine g_rl0 hc dX10_canTreat_20 rfl (pc2 := 21) rfl ?_
      refine g_getR hc fl_X10_12 rfl ht dX10_canTreat_21 (pc2 := 24) rfl ?_
      refine g_il3 hc dX10_canTreat_24 rfl (pc2 := 25) rfl ?_
      refine g_callV1 hc (C_X9_hasMule (kf_10_0 ht)) mv_X9_hasMule ln_X10_67 (kf_10_0 ht) ⟨by decide, by decide⟩ (Nat.le_of_ble_eq_true rfl) dX10_canTreat_25 (pc2 := 28) rfl (fun r6 s5 => ?_)
      refine g_if_eq hc dX10_canTreat_28 (pc1 := 52) (pc2 := 31) rfl rfl (fun _ => ?_) (fun _ => ?_)
      · refine g_iconst hc dX10_canTreat_52 ic_0 (pc2 := 53) rfl ?_
        exact g_zret0 (by decide) hc dX10_canTreat_53
      · refine g_il1 hc dX10_canTreat_31 rfl (pc2 := 32) rfl ?_
        refine g_iconst hc dX10_canTreat_32 ic_3 (pc2 := 33) rfl ?_
        refine g_icmp_eq hc dX10_canTreat_33 (pc1 := 48) (pc2 := 36) rfl rfl (fun _ => ?_) (fun _ => ?_)
        · refine g_iconst hc dX10_canTreat_48 ic_1 (pc2 := 49) rfl ?_
          refine g_goto hc dX10_canTreat_49 (pc2 := 53) rfl ?_
          exact g_zret0 (by decide) hc dX10_canTreat_53
        · refine g_rl0 hc dX10_canTreat_36 rfl (pc2 := 37) rfl ?_
          refine g_getR hc fl_X10_12 rfl ht dX10_canTreat_37 (pc2 := 40) rfl ?_
          refine g_getR hc fl_X10_177 rfl (kf_10_0 ht) dX10_canTreat_40 (pc2 := 43) rfl ?_
          refine g_il2 hc dX10_canTreat_43 rfl (pc2 := 44) rfl ?_
          refine g_iald hc (kf_9_4 (kf_10_0 ht)) (kl_9_4 (kf_10_0 ht)) dX10_canTreat_44 (pc2 := 45) rfl (fun v9 => ?_)
          refine g_if_le hc dX10_canTreat_45 (pc1 := 52) (pc2 := 48) rfl rfl (fun _ => ?_) (fun _ => ?_)
          · refine g_iconst hc dX10_canTreat_52 ic_0 (pc2 := 53) rfl ?_
            exact g_zret0 (by decide) hc dX10_canTreat_53
          · refine g_iconst hc dX10_canTreat_48 ic_1 (pc2 := 49) rfl ?_
            refine g_goto hc dX10_canTreat_49 (pc2 := 53) rfl ?_
            exact g_zret0 (by decide) hc dX10_canTreat_53
set_option maxRecDepth 100000 in
set_option maxHeartbeats 4000000 in
def f_X10_giveSalt (n : Nat) (t : Nat) (a0 : Int32) (a1 : Int32) (s0 : q_Sto) : Option (Int32 × q_Sto) :=
  q_call (f_X9_hasMan n (q_RF t 0) a0 s0) fun r2 s1 =>
  if r2 = 0 then (
  some (0, s1))
  else (
  q_ld s1 (q_RF (q_RF t 0) 4) a0 5 fun v4 =>
  q_st s1 (q_RF (q_RF t 0) 4) a0 5 (v4 - 1) fun s5 =>
  q_callv (f_X9_moveLiking n (q_RF t 0) a1 a0 15 s5) fun s6 =>
  q_callv (f_X10_write n t 1 a0 a1 s6) fun s8 =>
  some (0, s8))
set_option maxRecDepth 100000 in
set_option maxHeartbeats 4000000 in
theorem C_X10_giveSalt {l : Launch} {w : q_Wd} {n : Nat} {t : Nat} {a0 : Int32} {a1 : Int32} (ht : q_KD t = .inl 10) {s0 : q_Sto} : q_C l w yX10_giveSalt cX10_giveSalt 3 (none) (q_rm 3 67) [q_rf w t, .int a0, .int a1] s0 (f_X10_giveSalt n t a0 a1 s0) := q_CofG [some (q_rf w t), some (.int a0), some (.int a1)] (by decide +kernel) rfl rfl (Nat.le_of_ble_eq_true rfl) fun cx hl hc => by
  have hc : q_ok w cx RX10 cX10_giveSalt 3 (none) (q_rm 3 67) := hc
  rw [f_X10_giveSalt]
  refine g_rl0 hc dX10_giveSalt_0 rfl (pc2 := 1) rfl ?_
  refine g_getR hc fl_X10_12 rfl ht dX10_giveSalt_1 (pc2 := 4) rfl ?_
  refine g_il1 hc dX10_giveSalt_4 rfl (pc2 := 5) rfl ?_
  refine g_callV1 hc (C_X9_hasMan (kf_10_0 ht)) mv_X9_hasMan ln_X10_77 (kf_10_0 ht) ⟨by decide, by decide⟩ (Nat.le_of_ble_eq_true rfl) dX10_giveSalt_5 (pc2 := 8) rfl (fun r2 s1 => ?_)
  refine g_if_eq hc dX10_giveSalt_8 (pc1 := 42) (pc2 := 11) rfl rfl (fun _ => ?_) (fun _ => ?_)
  · exact g_vret hc dX10_giveSalt_42
  · refine g_rl0 hc dX10_giveSalt_11 rfl (pc2 := 12) rfl ?_
    refine g_getR hc fl_X10_12 rfl ht dX10_giveSalt_12 (pc2 := 15) rfl ?_
    refine g_getR hc fl_X10_177 rfl (kf_10_0 ht) dX10_giveSalt_15 (pc2 := 18) rfl ?_
    refine g_il1 hc dX10_giveSalt_18 rfl (pc2 := 19) rfl ?_
    refine g_dup2 hc dX10_giveSalt_19 rfl rfl (pc2 := 20) rfl ?_
    refine g_iald hc (kf_9_4 (kf_10_0 ht)) (kl_9_4 (kf_10_0 ht)) dX10_giveSalt_20 (pc2 := 21) rfl (fun v4 => ?_)
    refine g_iconst hc dX10_giveSalt_21 ic_1 (pc2 := 22) rfl ?_
    refine g_isub hc dX10_giveSalt_22 (pc2 := 23) rfl ?_
    refine g_iast hc (kf_9_4 (kf_10_0 ht)) (kl_9_4 (kf_10_0 ht)) dX10_giveSalt_23 (pc2 := 24) rfl (fun s5 => ?_)
    refine g_rl0 hc dX10_giveSalt_24 rfl (pc2 := 25) rfl ?_
    refine g_getR hc fl_X10_12 rfl ht dX10_giveSalt_25 (pc2 := 28) rfl ?_
    refine g_il2 hc dX10_giveSalt_28 rfl (pc2 := 29) rfl ?_
    refine g_il1 hc dX10_giveSalt_29 rfl (pc2 := 30) rfl ?_
    refine g_bipush hc dX10_giveSalt_30 bp_15 (pc2 := 32) rfl ?_
    refine g_callV3v hc (C_X9_moveLiking (kf_10_0 ht)) mv_X9_moveLiking ln_X10_189 (kf_10_0 ht) ⟨by decide, by decide⟩ (Nat.le_of_ble_eq_true rfl) dX10_giveSalt_32 (pc2 := 35) rfl (fun s6 => ?_)
    refine g_rl0 hc dX10_giveSalt_35 rfl (pc2 := 36) rfl ?_
    refine g_iconst hc dX10_giveSalt_36 ic_1 (pc2 := 37) rfl ?_
    refine g_il1 hc dX10_giveSalt_37 rfl (pc2 := 38) rfl ?_
    refine g_il2 hc dX10_giveSalt_38 rfl (pc2 := 39) rfl ?_
    refine g_callV3v hc (C_X10_write ht) mv_X10_write ln_X10_173 ht ⟨by decide, by decide⟩ (Nat.le_of_ble_eq_true rfl) dX10_giveSalt_39 (pc2 := 42) rfl (fun s8 => ?_)
    exact g_vret hc dX10_giveSalt_42
set_option maxRecDepth 100000 in
set_option maxHeartbeats 4000000 in
def f_X10_sing_L27 (n : Nat) (x0 : Nat) (x1 : Int32) (x2 : Int32) (k54 : q_Sto → Option (Int32 × q_Sto)) : Nat → Int32 → q_Sto → Option (Int32 × q_Sto)
  | 0, _, _ => none
  | j + 1, x3, s0 =>
    if x3 < (s0 (q_RF x0 0) 8) then (
    q_callv (f_X9_moveLiking n (q_RF x0 0) x3 x1 x2 s0) fun s5 =>
    f_X10_sing_L27 n x0 x1 x2 k54 j (x3 + 1) s5)
    else (
    k54 s0)
set_option maxRecDepth 100000 in
set_option maxHeartbeats 4000000 in
def f_X10_sing (n : Nat) (t : Nat) (a0 : Int32) (s0 : q_Sto) : Option (Int32 × q_Sto) :=
  q_call (f_X9_hasMan n (q_RF t 0) a0 s0) fun r2 s1 =>
  if r2 = 0 then (
  f_X10_sing_L27 n t a0 0 (fun  (s7 : q_Sto) =>
  q_callv (f_X10_write n t 2 a0 0 s7) fun s8 =>
  some (0, s8)) n 0 s1)
  else (
  q_ld s1 (q_RF (q_RF t 0) 6) a0 5 fun v10 =>
  f_X10_sing_L27 n t a0 v10 (fun  (s14 : q_Sto) =>
  q_callv (f_X10_write n t 2 a0 0 s14) fun s15 =>
  some (0, s15)) n 0 s1)
set_option maxRecDepth 100000 in
set_option maxHeartbeats 4000000 in
theorem t_X10_sing_L27 {w : q_Wd} {cx : q_Cx} (hc : q_ok w cx RX10 cX10_sing 4 (none) (q_rm 3 67)) {n : Nat} {x0 : Nat} {x1 : Int32} {x2 : Int32} (hx0 : q_KD x0 = .inl 10) {k54 : q_Sto → Option (Int32 × q_Sto)} (hk54 : ∀  (s1 : q_Sto), q_G w cx 4 (none) 54 [some (q_rf w x0), some (.int x1), none, none] [] s1 (k54 s1)) :
    ∀ (j : Nat) (x3 : Int32) (s0 : q_Sto), q_G w cx 4 (none) 27 [some (q_rf w x0), some (.int x1), some (.int x2), some (.int x3)] [] s0 (f_X10_sing_L27 n x0 x1 x2 k54 j x3 s0) := by
  intro j
  induction j with
  | zero =>
    intro _ _
    rw [f_X10_sing_L27]
    exact q_none
  | succ j ih =>
    intro x3 s0
    rw [f_X10_sing_L27]
    refine g_il3 hc dX10_sing_27 rfl (pc2 := 28) rfl ?_
    refine g_rl0 hc dX10_sing_28 rfl (pc2 := 29) rfl ?_
    refine g_getR hc fl_X10_12 rfl hx0 dX10_sing_29 (pc2 := 32) rfl ?_
    refine g_getI hc fl_X10_133 rfl (kf_10_0 hx0) dX10_sing_32 (pc2 := 35) rfl ?_
    refine g_icmp_ge hc dX10_sing_35 (pc1 := 38) (pc2 := 54) rfl rfl (fun _ => ?_) (fun _ => ?_)
    · refine g_rl0 hc dX10_sing_38 rfl (pc2 := 39) rfl ?_
      refine g_getR hc fl_X10_12 rfl hx0 dX10_sing_39 (pc2 := 42) rfl ?_
      refine g_il3 hc dX10_sing_42 rfl (pc2 := 43) rfl ?_
      refine g_il1 hc dX10_sing_43 rfl (pc2 := 44) rfl ?_
      refine g_il2 hc dX10_sing_44 rfl (pc2 := 45) rfl ?_
      refine g_callV3v hc (C_X9_moveLiking (kf_10_0 hx0)) mv_X9_moveLiking ln_X10_189 (kf_10_0 hx0) ⟨by decide, by decide⟩ (Nat.le_of_ble_eq_true rfl) dX10_sing_45 (pc2 := 48) rfl (fun s5 => ?_)
      refine g_iinc hc dX10_sing_48 rfl (q_ii ic_1) (by decide) (L2 := [some (q_rf w x0), some (.int x1), some (.int x2), some (.int (x3 + 1))]) rfl (pc2 := 51) rfl ?_
      refine g_goto hc dX10_sing_51 (pc2 := 27) rfl ?_
      exact ih _ _
    · refine q_Gmask [true, true, false, false] (L2 := [some (q_rf w x0), some (.int x1), none, none]) rfl ?_
      exact hk54 _
set_option maxRecDepth 100000 in
set_option maxHeartbeats 4000000 in
theorem C_X10_sing {l : Launch} {w : q_Wd} {n : Nat} {t : Nat} {a0 : Int32} (ht : q_KD t = .inl 10) {s0 : q_Sto} : q_C l w yX10_sing cX10_sing 4 (none) (q_rm 3 67) [q_rf w t, .int a0] s0 (f_X10_sing n t a0 s0) := q_CofG [some (q_rf w t), some (.int a0), none, none] (by decide +kernel) rfl rfl (Nat.le_of_ble_eq_true rfl) fun cx hl hc => by
  have hc : q_ok w cx RX10 cX10_sing 4 (none) (q_rm 3 67) := hc
  rw [f_X10_sing]
  refine g_rl0 hc dX10_sing_0 rfl (pc2 := 1) rfl ?_
  refine g_getR hc fl_X10_12 rfl ht dX10_sing_1 (pc2 := 4) rfl ?_
  refine g_il1 hc dX10_sing_4 rfl (pc2 := 5) rfl ?_
  refine g_callV1 hc (C_X9_hasMan (kf_10_0 ht)) mv_X9_hasMan ln_X10_77 (kf_10_0 ht) ⟨by decide, by decide⟩ (Nat.le_of_ble_eq_true rfl) dX10_sing_5 (pc2 := 8) rfl (fun r2 s1 => ?_)
  refine g_if_eq hc dX10_sing_8 (pc1 := 23) (pc2 := 11) rfl rfl (fun _ => ?_) (fun _ => ?_)
  · refine g_iconst hc dX10_sing_23 ic_0 (pc2 := 24) rfl ?_
    refine g_is2 hc dX10_sing_24 (by decide) (L2 := [some (q_rf w t), some (.int a0), some (.int 0), none]) rfl (pc2 := 25) rfl ?_
    refine g_iconst hc dX10_sing_25 ic_0 (pc2 := 26) rfl ?_
    refine g_is3 hc dX10_sing_26 (by decide) (L2 := [some (q_rf w t), some (.int a0), some (.int 0), some (.int 0)]) rfl (pc2 := 27) rfl ?_
    refine t_X10_sing_L27 hc ht (fun s7 => ?_) n _ _
    refine g_rl0 hc dX10_sing_54 rfl (pc2 := 55) rfl ?_
    refine g_iconst hc dX10_sing_55 ic_2 (pc2 := 56) rfl ?_
    refine g_il1 hc dX10_sing_56 rfl (pc2 := 57) rfl ?_
    refine g_iconst hc dX10_sing_57 ic_0 (pc2 := 58) rfl ?_
    refine g_callV3v hc (C_X10_write ht) mv_X10_write ln_X10_173 ht ⟨by decide, by decide⟩ (Nat.le_of_ble_eq_true rfl) dX10_sing_58 (pc2 := 61) rfl (fun s8 => ?_)
    exact g_vret hc dX10_sing_61
  · refine g_rl0 hc dX10_sing_11 rfl (pc2 := 12) rfl ?_
    refine g_getR hc fl_X10_12 rfl ht dX10_sing_12 (pc2 := 15) rfl ?_
    refine g_getR hc fl_X10_83 rfl (kf_10_0 ht) dX10_sing_15 (pc2 := 18) rfl ?_
    refine g_il1 hc dX10_sing_18 rfl (pc2 := 19) rfl ?_
    refine g_iald hc (kf_9_6 (kf_10_0 ht)) (kl_9_6 (kf_10_0 ht)) dX10_sing_19 (pc2 := 20) rfl (fun v10 => ?_)
    refine g_goto hc dX10_sing_20 (pc2 := 24) rfl ?_
    refine g_is2 hc dX10_sing_24 (by decide) (L2 := [some (q_rf w t), some (.int a0), some (.int v10), none]) rfl (pc2 := 25) rfl ?_
    refine g_iconst hc dX10_sing_25 ic_0 (pc2 := 26) rfl ?_
    refine g_is3 hc dX10_sing_26 (by decide) (L2 := [some (q_rf w t), some (.int a0), some (.int v10), some (.int 0)]) rfl (pc2 := 27) rfl ?_
    refine t_X10_sing_L27 hc ht (fun s14 => ?_) n _ _
    refine g_rl0 hc dX10_sing_54 rfl (pc2 := 55) rfl ?_
    refine g_iconst hc dX10_sing_55 ic_2 (pc2 := 56) rfl ?_
    refine g_il1 hc dX10_sing_56 rfl (pc2 := 57) rfl ?_
    refine g_iconst hc dX10_sing_57 ic_0 (pc2 := 58) rfl ?_
    refine g_callV3v hc (C_X10_write ht) mv_X10_write ln_X10_173 ht ⟨by decide, by decide⟩ (Nat.le_of_ble_eq_true rfl) dX10_sing_58 (pc2 := 61) rfl (fun s15 => ?_)
    exact g_vret hc dX10_sing_61
set_option maxRecDepth 100000 in
set_option maxHeartbeats 4000000 in
def f_X10_whip_L2 (n : Nat) (x0 : Nat) (x1 : Int32) (x2 : Int32) (k39 : q_Sto → Option (Int32 × q_Sto)) : Nat → Int32 → q_Sto → Option (Int32 × q_Sto)
  | 0, _, _ => none
  | j + 1, x3, s0 =>
    if x3 < (s0 (q_RF x0 0) 9) then (
    if x3 = x1 then (
    q_callv (f_X9_moveLiking n (q_RF x0 0) x2 x3 (-20) s0) fun s3 =>
    f_X10_whip_L2 n x0 x1 x2 k39 j (x3 + 1) s3)
    else (
    q_callv (f_X9_moveLiking n (q_RF x0 0) x2 x3 5 s0) fun s5 =>
    f_X10_whip_L2 n x0 x1 x2 k39 j (x3 + 1) s5))
    else (
    k39 s0)
set_option maxRecDepth 100000 in
set_option maxHeartbeats 4000000 in
def f_X10_whip (n : Nat) (t : Nat) (a0 : Int32) (a1 : Int32) (s0 : q_Sto) : Option (Int32 × q_Sto) :=
  f_X10_whip_L2 n t a0 a1 (fun  (s7 : q_Sto) =>
  q_callv (f_X10_write n t 3 a0 a1 s7) fun s8 =>
  some (0, s8)) n 0 s0
set_option maxRecDepth 100000 in
set_option maxHeartbeats 4000000 in
theorem t_X10_whip_L2 {w : q_Wd} {cx : q_Cx} (hc : q_ok w cx RX10 cX10_whip 4 (none) (q_rm 3 67)) {n : Nat} {x0 : Nat} {x1 : Int32} {x2 : Int32} (hx0 : q_KD x0 = .inl 10) {k39 : q_Sto → Option (Int32 × q_Sto)} (hk39 : ∀  (s1 : q_Sto), q_G w cx 4 (none) 39 [some (q_rf w x0), some (.int x1), some (.int x2), none] [] s1 (k39 s1)) :
    ∀ (j : Nat) (x3 : Int32) (s0 : q_Sto), q_G w cx 4 (none) 2 [some (q_rf w x0), some (.int x1), some (.int x2), some (.int x3)] [] s0 (f_X10_whip_L2 n x0 x1 x2 k39 j x3 s0) := by
  intro j
  induction j with
  | zero =>
    intro _ _
    rw [f_X10_whip_L2]
    exact q_none
  | succ j ih =>
    intro x3 s0
    rw [f_X10_whip_L2]
    refine g_il3 hc dX10_whip_2 rfl (pc2 := 3) rfl ?_
    refine g_rl0 hc dX10_whip_3 rfl (pc2 := 4) rfl ?_
    refine g_getR hc fl_X10_12 rfl hx0 dX10_whip_4 (pc2 := 7) rfl ?_
    refine g_getI hc fl_X10_192 rfl (kf_10_0 hx0) dX10_whip_7 (pc2 := 10) rfl ?_
    refine g_icmp_ge hc dX10_whip_10 (pc1 := 13) (pc2 := 39) rfl rfl (fun _ => ?_) (fun _ => ?_)
    · refine g_rl0 hc dX10_whip_13 rfl (pc2 := 14) rfl ?_
      refine g_getR hc fl_X10_12 rfl hx0 dX10_whip_14 (pc2 := 17) rfl ?_
      refine g_il2 hc dX10_whip_17 rfl (pc2 := 18) rfl ?_
      refine g_il3 hc dX10_whip_18 rfl (pc2 := 19) rfl ?_
      refine g_il3 hc dX10_whip_19 rfl (pc2 := 20) rfl ?_
      refine g_il1 hc dX10_whip_20 rfl (pc2 := 21) rfl ?_
      refine g_icmp_ne hc dX10_whip_21 (pc1 := 24) (pc2 := 29) rfl rfl (fun _ => ?_) (fun _ => ?_)
      · refine g_bipush hc dX10_whip_24 bp_m20 (pc2 := 26) rfl ?_
        refine g_goto hc dX10_whip_26 (pc2 := 30) rfl ?_
        refine g_callV3v hc (C_X9_moveLiking (kf_10_0 hx0)) mv_X9_moveLiking ln_X10_189 (kf_10_0 hx0) ⟨by decide, by decide⟩ (Nat.le_of_ble_eq_true rfl) dX10_whip_30 (pc2 := 33) rfl (fun s3 => ?_)
        refine g_iinc hc dX10_whip_33 rfl (q_ii ic_1) (by decide) (L2 := [some (q_rf w x0), some (.int x1), some (.int x2), some (.int (x3 + 1))]) rfl (pc2 := 36) rfl ?_
        refine g_goto hc dX10_whip_36 (pc2 := 2) rfl ?_
        exact ih _ _
      · refine g_iconst hc dX10_whip_29 ic_5 (pc2 := 30) rfl ?_
        refine g_callV3v hc (C_X9_moveLiking (kf_10_0 hx0)) mv_X9_moveLiking ln_X10_189 (kf_10_0 hx0) ⟨by decide, by decide⟩ (Nat.le_of_ble_eq_true rfl) dX10_whip_30 (pc2 := 33) rfl (fun s5 => ?_)
        refine g_iinc hc dX10_whip_33 rfl (q_ii ic_1) (by decide) (L2 := [some (q_rf w x0), some (.int x1), some (.int x2), some (.int (x3 + 1))]) rfl (pc2 := 36) rfl ?_
        refine g_goto hc dX10_whip_36 (pc2 := 2) rfl ?_
        exact ih _ _
    · refine q_Gmask [true, true, true, false] (L2 := [some (q_rf w x0), some (.int x1), some (.int x2), none]) rfl ?_
      exact hk39 _
set_option maxRecDepth 100000 in
set_option maxHeartbeats 4000000 in
theorem C_X10_whip {l : Launch} {w : q_Wd} {n : Nat} {t : Nat} {a0 : Int32} {a1 : Int32} (ht : q_KD t = .inl 10) {s0 : q_Sto} : q_C l w yX10_whip cX10_whip 4 (none) (q_rm 3 67) [q_rf w t, .int a0, .int a1] s0 (f_X10_whip n t a0 a1 s0) := q_CofG [some (q_rf w t), some (.int a0), some (.int a1), none] (by decide +kernel) rfl rfl (Nat.le_of_ble_eq_true rfl) fun cx hl hc => by
  have hc : q_ok w cx RX10 cX10_whip 4 (none) (q_rm 3 67) := hc
  rw [f_X10_whip]
  refine g_iconst hc dX10_whip_0 ic_0 (pc2 := 1) rfl ?_
  refine g_is3 hc dX10_whip_1 (by decide) (L2 := [some (q_rf w t), some (.int a0), some (.int a1), some (.int 0)]) rfl (pc2 := 2) rfl ?_
  refine t_X10_whip_L2 hc ht (fun s7 => ?_) n _ _
  refine g_rl0 hc dX10_whip_39 rfl (pc2 := 40) rfl ?_
  refine g_iconst hc dX10_whip_40 ic_3 (pc2 := 41) rfl ?_
  refine g_il1 hc dX10_whip_41 rfl (pc2 := 42) rfl ?_
  refine g_il2 hc dX10_whip_42 rfl (pc2 := 43) rfl ?_
  refine g_callV3v hc (C_X10_write ht) mv_X10_write ln_X10_173 ht ⟨by decide, by decide⟩ (Nat.le_of_ble_eq_true rfl) dX10_whip_43 (pc2 := 46) rfl (fun s8 => ?_)
  exact g_vret hc dX10_whip_46
set_option maxRecDepth 100000 in
set_option maxHeartbeats 4000000 in
def f_X10_treat (n : Nat) (t : Nat) (a0 : Int32) (a1 : Int32) (a2 : Int32) (s0 : q_Sto) : Option (Int32 × q_Sto) :=
  if a0 = 1 then (
  q_callv (f_X10_giveSalt n t a1 a2 s0) fun s2 =>
  some (0, s2))
  else (
  if a0 = 2 then (
  q_callv (f_X10_sing n t a1 s0) fun s5 =>
  some (0, s5))
  else (
  q_callv (f_X10_whip n t a1 a2 s0) fun s7 =>
  some (0, s7)))
set_option maxRecDepth 100000 in
set_option maxHeartbeats 4000000 in
theorem C_X10_treat {l : Launch} {w : q_Wd} {n : Nat} {t : Nat} {a0 : Int32} {a1 : Int32} {a2 : Int32} (ht : q_KD t = .inl 10) {s0 : q_Sto} : q_C l w yX10_treat cX10_treat 4 (none) (q_rm 4 90) [q_rf w t, .int a0, .int a1, .int a2] s0 (f_X10_treat n t a0 a1 a2 s0) := q_CofG [some (q_rf w t), some (.int a0), some (.int a1), some (.int a2)] (by decide +kernel) rfl rfl (Nat.le_of_ble_eq_true rfl) fun cx hl hc => by
  have hc : q_ok w cx RX10 cX10_treat 4 (none) (q_rm 4 90) := hc
  rw [f_X10_treat]
  refine g_il1 hc dX10_treat_0 rfl (pc2 := 1) rfl ?_
  refine g_iconst hc dX10_treat_1 ic_1 (pc2 := 2) rfl ?_
  refine g_icmp_ne hc dX10_treat_2 (pc1 := 5) (pc2 := 14) rfl rfl (fun _ => ?_) (fun _ => ?_)
  · refine g_rl0 hc dX10_treat_5 rfl (pc2 := 6) rfl ?_
    refine g_il2 hc dX10_treat_6 rfl (pc2 := 7) rfl ?_
    refine g_il3 hc dX10_treat_7 rfl (pc2 := 8) rfl ?_
    refine g_callV2v hc (C_X10_giveSalt ht) mv_X10_giveSalt ln_X10_180 ht ⟨by decide, by decide⟩ (Nat.le_of_ble_eq_true rfl) dX10_treat_8 (pc2 := 11) rfl (fun s2 => ?_)
    refine g_goto hc dX10_treat_11 (pc2 := 33) rfl ?_
    exact g_vret hc dX10_treat_33
  · refine g_il1 hc dX10_treat_14 rfl (pc2 := 15) rfl ?_
    refine g_iconst hc dX10_treat_15 ic_2 (pc2 := 16) rfl ?_
    refine g_icmp_ne hc dX10_treat_16 (pc1 := 19) (pc2 := 27) rfl rfl (fun _ => ?_) (fun _ => ?_)
    · refine g_rl0 hc dX10_treat_19 rfl (pc2 := 20) rfl ?_
      refine g_il2 hc dX10_treat_20 rfl (pc2 := 21) rfl ?_
      refine g_callV1v hc (C_X10_sing ht) mv_X10_sing ln_X10_183 ht ⟨by decide, by decide⟩ (Nat.le_of_ble_eq_true rfl) dX10_treat_21 (pc2 := 24) rfl (fun s5 => ?_)
      refine g_goto hc dX10_treat_24 (pc2 := 33) rfl ?_
      exact g_vret hc dX10_treat_33
    · refine g_rl0 hc dX10_treat_27 rfl (pc2 := 28) rfl ?_
      refine g_il2 hc dX10_treat_28 rfl (pc2 := 29) rfl ?_
      refine g_il3 hc dX10_treat_29 rfl (pc2 := 30) rfl ?_
      refine g_callV2v hc (C_X10_whip ht) mv_X10_whip ln_X10_186 ht ⟨by decide, by decide⟩ (Nat.le_of_ble_eq_true rfl) dX10_treat_30 (pc2 := 33) rfl (fun s7 => ?_)
      exact g_vret hc dX10_treat_33
set_option maxRecDepth 100000 in
set_option maxHeartbeats 4000000 in
def f_X10_hoursOfGoing (n : Nat) (t : Nat) (a0 : Int32) (s0 : q_Sto) : Option (Int32 × q_Sto) :=
  if (s0 (q_RF t 0) 13) = (-1) then (
  some ((-1), s0))
  else (
  q_call (f_X10_hoursBetween n t (s0 (q_RF t 0) 12) a0 s0) fun r3 s2 =>
  some (r3, s2))
set_option maxRecDepth 100000 in
set_option maxHeartbeats 4000000 in
theorem C_X10_hoursOfGoing {l : Launch} {w : q_Wd} {n : Nat} {t : Nat} {a0 : Int32} (ht : q_KD t = .inl 10) {s0 : q_Sto} : q_C l w yX10_hoursOfGoing cX10_hoursOfGoing 2 (some .int) (q_rm 2 45) [q_rf w t, .int a0] s0 (f_X10_hoursOfGoing n t a0 s0) := q_CofG [some (q_rf w t), some (.int a0)] (by decide +kernel) rfl rfl (Nat.le_of_ble_eq_true rfl) fun cx hl hc => by
  have hc : q_ok w cx RX10 cX10_hoursOfGoing 2 (some .int) (q_rm 2 45) := hc
  rw [f_X10_hoursOfGoing]
  refine g_rl0 hc dX10_hoursOfGoing_0 rfl (pc2 := 1) rfl ?_
  refine g_getR hc fl_X10_12 rfl ht dX10_hoursOfGoing_1 (pc2 := 4) rfl ?_
  refine g_getI hc fl_X10_140 rfl (kf_10_0 ht) dX10_hoursOfGoing_4 (pc2 := 7) rfl ?_
  refine g_iconst hc dX10_hoursOfGoing_7 ic_m1 (pc2 := 8) rfl ?_
  refine g_icmp_ne hc dX10_hoursOfGoing_8 (pc1 := 11) (pc2 := 15) rfl rfl (fun _ => ?_) (fun _ => ?_)
  · refine g_iconst hc dX10_hoursOfGoing_11 ic_m1 (pc2 := 12) rfl ?_
    refine g_goto hc dX10_hoursOfGoing_12 (pc2 := 27) rfl ?_
    exact g_iret hc dX10_hoursOfGoing_27
  · refine g_rl0 hc dX10_hoursOfGoing_15 rfl (pc2 := 16) rfl ?_
    refine g_rl0 hc dX10_hoursOfGoing_16 rfl (pc2 := 17) rfl ?_
    refine g_getR hc fl_X10_12 rfl ht dX10_hoursOfGoing_17 (pc2 := 20) rfl ?_
    refine g_getI hc fl_X10_195 rfl (kf_10_0 ht) dX10_hoursOfGoing_20 (pc2 := 23) rfl ?_
    refine g_il1 hc dX10_hoursOfGoing_23 rfl (pc2 := 24) rfl ?_
    refine g_callV2 hc (C_X10_hoursBetween ht) mv_X10_hoursBetween ln_X10_198 ht ⟨by decide, by decide⟩ (Nat.le_of_ble_eq_true rfl) dX10_hoursOfGoing_24 (pc2 := 27) rfl (fun r3 s2 => ?_)
    exact g_iret hc dX10_hoursOfGoing_27
