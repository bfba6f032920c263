set_option maxRecDepth 100000 in
set_option maxHeartbeats 4000000 in
def f_X12_lay (n : Nat) (t : Nat) (a0 : Int32) (a1 : Int32) (s0 : q_Sto) : Option (Int32 × q_Sto) :=
  q_st s0 (q_RF t 7) (2 * (s0 t 14)) 820 a0 fun s1 =>
  q_st s1 (q_RF t 7) ((2 * (s1 t 14)) + 1) 820 a1 fun s2 =>
  q_nS1 (q_up s2 t 14 ((s2 t 14) + 1)) fun s3 =>
  some (0, s3)
set_option maxRecDepth 100000 in
set_option maxHeartbeats 4000000 in
theorem C_X12_lay {l : Launch} {w : q_Wd} {n : Nat} {t : Nat} {a0 : Int32} {a1 : Int32} (ht : q_KD t = .inl 12) {s0 : q_Sto} : q_C l w yX12_lay cX12_lay 3 (none) (q_rm 0 0) [q_rf w t, .int a0, .int a1] s0 (f_X12_lay n t a0 a1 s0) := q_CofG [some (q_rf w t), some (.int a0), some (.int a1)] (by decide +kernel) rfl rfl (Nat.le_of_ble_eq_true rfl) fun cx hl hc => by
  have hc : q_ok w cx RX12 cX12_lay 3 (none) (q_rm 0 0) := hc
  rw [f_X12_lay]
  refine g_rl0 hc dX12_lay_0 rfl (pc2 := 1) rfl ?_
  refine g_getR hc fl_X12_25 rfl ht dX12_lay_1 (pc2 := 4) rfl ?_
  refine g_iconst hc dX12_lay_4 ic_2 (pc2 := 5) rfl ?_
  refine g_rl0 hc dX12_lay_5 rfl (pc2 := 6) rfl ?_
  refine g_getI hc fl_X12_204 rfl ht dX12_lay_6 (pc2 := 9) rfl ?_
  refine g_imul hc dX12_lay_9 (pc2 := 10) rfl ?_
  refine g_il1 hc dX12_lay_10 rfl (pc2 := 11) rfl ?_
  refine g_iast hc (kf_12_7 ht) (kl_12_7 ht) dX12_lay_11 (pc2 := 12) rfl (fun s1 => ?_)
  refine g_rl0 hc dX12_lay_12 rfl (pc2 := 13) rfl ?_
  refine g_getR hc fl_X12_25 rfl ht dX12_lay_13 (pc2 := 16) rfl ?_
  refine g_iconst hc dX12_lay_16 ic_2 (pc2 := 17) rfl ?_
  refine g_rl0 hc dX12_lay_17 rfl (pc2 := 18) rfl ?_
  refine g_getI hc fl_X12_204 rfl ht dX12_lay_18 (pc2 := 21) rfl ?_
  refine g_imul hc dX12_lay_21 (pc2 := 22) rfl ?_
  refine g_iconst hc dX12_lay_22 ic_1 (pc2 := 23) rfl ?_
  refine g_iadd hc dX12_lay_23 (pc2 := 24) rfl ?_
  refine g_il2 hc dX12_lay_24 rfl (pc2 := 25) rfl ?_
  refine g_iast hc (kf_12_7 ht) (kl_12_7 ht) dX12_lay_25 (pc2 := 26) rfl (fun s2 => ?_)
  refine g_rl0 hc dX12_lay_26 rfl (pc2 := 27) rfl ?_
  refine g_dup hc dX12_lay_27 rfl (pc2 := 28) rfl ?_
  refine g_getI hc fl_X12_204 rfl ht dX12_lay_28 (pc2 := 31) rfl ?_
  refine g_iconst hc dX12_lay_31 ic_1 (pc2 := 32) rfl ?_
  refine g_iadd hc dX12_lay_32 (pc2 := 33) rfl ?_
  refine g_putI hc fl_X12_204 rfl ht dX12_lay_33 (pc2 := 36) rfl (fun s3 => ?_)
  exact g_vret hc dX12_lay_36
set_option maxRecDepth 100000 in
set_option maxHeartbeats 4000000 in
def f_X12_bad (n : Nat) (t : Nat) (a0 : Int32) (s0 : q_Sto) : Option (Int32 × q_Sto) :=
  q_nS1 (q_up s0 t 21 a0) fun s1 =>
  q_nS1 (q_up s1 t 22 (s1 t 19)) fun s2 =>
  some (0, s2)
set_option maxRecDepth 100000 in
set_option maxHeartbeats 4000000 in
theorem C_X12_bad {l : Launch} {w : q_Wd} {n : Nat} {t : Nat} {a0 : Int32} (ht : q_KD t = .inl 12) {s0 : q_Sto} : q_C l w yX12_bad cX12_bad 2 (some .boolean) (q_rm 0 0) [q_rf w t, .int a0] s0 (f_X12_bad n t a0 s0) := q_CofG [some (q_rf w t), some (.int a0)] (by decide +kernel) rfl rfl (Nat.le_of_ble_eq_true rfl) fun cx hl hc => by
  have hc : q_ok w cx RX12 cX12_bad 2 (some .boolean) (q_rm 0 0) := hc
  rw [f_X12_bad]
  refine g_rl0 hc dX12_bad_0 rfl (pc2 := 1) rfl ?_
  refine g_il1 hc dX12_bad_1 rfl (pc2 := 2) rfl ?_
  refine g_putI hc fl_X12_192 rfl ht dX12_bad_2 (pc2 := 5) rfl (fun s1 => ?_)
  refine g_rl0 hc dX12_bad_5 rfl (pc2 := 6) rfl ?_
  refine g_rl0 hc dX12_bad_6 rfl (pc2 := 7) rfl ?_
  refine g_getI hc fl_X12_87 rfl ht dX12_bad_7 (pc2 := 10) rfl ?_
  refine g_putI hc fl_X12_195 rfl ht dX12_bad_10 (pc2 := 13) rfl (fun s2 => ?_)
  refine g_iconst hc dX12_bad_13 ic_0 (pc2 := 14) rfl ?_
  exact g_zret0 (by decide) hc dX12_bad_14
set_option maxRecDepth 100000 in
set_option maxHeartbeats 4000000 in
def f_X12_see (n : Nat) (t : Nat) (a0 : Int32) (s0 : q_Sto) : Option (Int32 × q_Sto) :=
  if a0 < (s0 t 16) then (
  q_ld s0 (q_RF t 9) a0 400 fun v2 =>
  some (v2, s0))
  else (
  some ((-1), s0))
set_option maxRecDepth 100000 in
set_option maxHeartbeats 4000000 in
theorem C_X12_see {l : Launch} {w : q_Wd} {n : Nat} {t : Nat} {a0 : Int32} (ht : q_KD t = .inl 12) {s0 : q_Sto} : q_C l w yX12_see cX12_see 2 (some .int) (q_rm 0 0) [q_rf w t, .int a0] s0 (f_X12_see n t a0 s0) := q_CofG [some (q_rf w t), some (.int a0)] (by decide +kernel) rfl rfl (Nat.le_of_ble_eq_true rfl) fun cx hl hc => by
  have hc : q_ok w cx RX12 cX12_see 2 (some .int) (q_rm 0 0) := hc
  rw [f_X12_see]
  refine g_il1 hc dX12_see_0 rfl (pc2 := 1) rfl ?_
  refine g_rl0 hc dX12_see_1 rfl (pc2 := 2) rfl ?_
  refine g_getI hc fl_X12_81 rfl ht dX12_see_2 (pc2 := 5) rfl ?_
  refine g_icmp_ge hc dX12_see_5 (pc1 := 8) (pc2 := 17) rfl rfl (fun _ => ?_) (fun _ => ?_)
  · refine g_rl0 hc dX12_see_8 rfl (pc2 := 9) rfl ?_
    refine g_getR hc fl_X12_31 rfl ht dX12_see_9 (pc2 := 12) rfl ?_
    refine g_il1 hc dX12_see_12 rfl (pc2 := 13) rfl ?_
    refine g_iald hc (kf_12_9 ht) (kl_12_9 ht) dX12_see_13 (pc2 := 14) rfl (fun v2 => ?_)
    refine g_goto hc dX12_see_14 (pc2 := 18) rfl ?_
    exact g_iret hc dX12_see_18
  · refine g_iconst hc dX12_see_17 ic_m1 (pc2 := 18) rfl ?_
    exact g_iret hc dX12_see_18
set_option maxRecDepth 100000 in
set_option maxHeartbeats 4000000 in
def f_X12_isIn (n : Nat) (a0 : Int32) (a1 : Int32) (a2 : Int32) (s0 : q_Sto) : Option (Int32 × q_Sto) :=
  if a0 < a1 then (
  some (0, s0))
  else (
  if a0 ≤ a2 then (
  some (1, s0))
  else (
  some (0, s0)))
set_option maxRecDepth 100000 in
set_option maxHeartbeats 4000000 in
theorem C_X12_isIn {l : Launch} {w : q_Wd} {n : Nat} {a0 : Int32} {a1 : Int32} {a2 : Int32}  {s0 : q_Sto} : q_C l w yX12_isIn cX12_isIn 3 (some .boolean) (q_rm 0 0) [.int a0, .int a1, .int a2] s0 (f_X12_isIn n a0 a1 a2 s0) := q_CofG [some (.int a0), some (.int a1), some (.int a2)] (by decide +kernel) rfl rfl (Nat.le_of_ble_eq_true rfl) fun cx hl hc => by
  have hc : q_ok w cx RX12 cX12_isIn 3 (some .boolean) (q_rm 0 0) := hc
  rw [f_X12_isIn]
  refine g_il0 hc dX12_isIn_0 rfl (pc2 := 1) rfl ?_
  refine g_il1 hc dX12_isIn_1 rfl (pc2 := 2) rfl ?_
  refine g_icmp_lt hc dX12_isIn_2 (pc1 := 14) (pc2 := 5) rfl rfl (fun _ => ?_) (fun _ => ?_)
  · refine g_iconst hc dX12_isIn_14 ic_0 (pc2 := 15) rfl ?_
    exact g_zret0 (by decide) hc dX12_isIn_15
  · refine g_il0 hc dX12_isIn_5 rfl (pc2 := 6) rfl ?_
    refine g_il2 hc dX12_isIn_6 rfl (pc2 := 7) rfl ?_
    refine g_icmp_gt hc dX12_isIn_7 (pc1 := 10) (pc2 := 14) rfl rfl (fun _ => ?_) (fun _ => ?_)
    · refine g_iconst hc dX12_isIn_10 ic_1 (pc2 := 11) rfl ?_
      refine g_goto hc dX12_isIn_11 (pc2 := 15) rfl ?_
      exact g_zret0 (by decide) hc dX12_isIn_15
    · refine g_iconst hc dX12_isIn_14 ic_0 (pc2 := 15) rfl ?_
      exact g_zret0 (by decide) hc dX12_isIn_15
set_option maxRecDepth 100000 in
set_option maxHeartbeats 4000000 in
def f_X12_isLetter (n : Nat) (a0 : Int32) (s0 : q_Sto) : Option (Int32 × q_Sto) :=
  q_call (f_X12_isIn n a0 97 122 s0) fun r2 s1 =>
  if r2 = 0 then (
  q_call (f_X12_isIn n a0 65 90 s1) fun r5 s4 =>
  if r5 = 0 then (
  some (0, s4))
  else (
  some (1, s4)))
  else (
  some (1, s1))
set_option maxRecDepth 100000 in
set_option maxHeartbeats 4000000 in
theorem C_X12_isLetter {l : Launch} {w : q_Wd} {n : Nat} {a0 : Int32}  {s0 : q_Sto} : q_C l w yX12_isLetter cX12_isLetter 1 (some .boolean) (q_rm 1 22) [.int a0] s0 (f_X12_isLetter n a0 s0) := q_CofG [some (.int a0)] (by decide +kernel) rfl rfl (Nat.le_of_ble_eq_true rfl) fun cx hl hc => by
  have hc : q_ok w cx RX12 cX12_isLetter 1 (some .boolean) (q_rm 1 22) := hc
  rw [f_X12_isLetter]
  refine g_il0 hc dX12_isLetter_0 rfl (pc2 := 1) rfl ?_
  refine g_bipush hc dX12_isLetter_1 bp_97 (pc2 := 3) rfl ?_
  refine g_bipush hc dX12_isLetter_3 bp_122 (pc2 := 5) rfl ?_
  refine g_callS3 hc C_X12_isIn mv_X12_isIn ln_X12_56 ⟨by decide, by decide⟩ (Nat.le_of_ble_eq_true rfl) dX12_isLetter_5 (pc2 := 8) rfl (fun r2 s1 => ?_)
  refine g_if_ne hc dX12_isLetter_8 (pc1 := 11) (pc2 := 22) rfl rfl (fun _ => ?_) (fun _ => ?_)
  · refine g_il0 hc dX12_isLetter_11 rfl (pc2 := 12) rfl ?_
    refine g_bipush hc dX12_isLetter_12 bp_65 (pc2 := 14) rfl ?_
    refine g_bipush hc dX12_isLetter_14 bp_90 (pc2 := 16) rfl ?_
    refine g_callS3 hc C_X12_isIn mv_X12_isIn ln_X12_56 ⟨by decide, by decide⟩ (Nat.le_of_ble_eq_true rfl) dX12_isLetter_16 (pc2 := 19) rfl (fun r5 s4 => ?_)
    refine g_if_eq hc dX12_isLetter_19 (pc1 := 26) (pc2 := 22) rfl rfl (fun _ => ?_) (fun _ => ?_)
    · refine g_iconst hc dX12_isLetter_26 ic_0 (pc2 := 27) rfl ?_
      exact g_zret0 (by decide) hc dX12_isLetter_27
    · refine g_iconst hc dX12_isLetter_22 ic_1 (pc2 := 23) rfl ?_
      refine g_goto hc dX12_isLetter_23 (pc2 := 27) rfl ?_
      exact g_zret0 (by decide) hc dX12_isLetter_27
  · refine g_iconst hc dX12_isLetter_22 ic_1 (pc2 := 23) rfl ?_
    refine g_goto hc dX12_isLetter_23 (pc2 := 27) rfl ?_
    exact g_zret0 (by decide) hc dX12_isLetter_27
set_option maxRecDepth 100000 in
set_option maxHeartbeats 4000000 in
def f_X12_is_L24 (n : Nat) (x0 : Nat) (x1 : Nat) : Nat → Int32 → Int32 → q_Sto → Option (Int32 × q_Sto)
  | 0, _, _, _ => none
  | j + 1, x2, x3, s0 =>
    if x3 < (q_slen x1) then (
    if x2 = 0 then (
    q_rz x2 s0)
    else (
    q_ld s0 (q_RF x0 9) ((s0 x0 19) + x3) 400 fun v4 =>
    q_scat x1 x3 fun v5 =>
    if v4 = v5 then (
    f_X12_is_L24 n x0 x1  j 1 (x3 + 1) s0)
    else (
    f_X12_is_L24 n x0 x1  j 0 (x3 + 1) s0)))
    else (
    q_rz x2 s0)
set_option maxRecDepth 100000 in
set_option maxHeartbeats 4000000 in
def f_X12_is (n : Nat) (t : Nat) (a0 : Nat) (s0 : q_Sto) : Option (Int32 × q_Sto) :=
  if ((s0 t 17) - (s0 t 19)) = (q_slen a0) then (
  f_X12_is_L24 n t a0  n 1 0 s0)
  else (
  f_X12_is_L24 n t a0  n 0 0 s0)
set_option maxRecDepth 100000 in
set_option maxHeartbeats 4000000 in
theorem t_X12_is_L24 {w : q_Wd} {cx : q_Cx} (hc : q_ok w cx RX12 cX12_is 4 (some .boolean) (q_rm 6 140)) {n : Nat} {x0 : Nat} {x1 : Nat} (hx0 : q_KD x0 = .inl 12) (hx1 : x1 < q_nS)   :
    ∀ (j : Nat) (x2 : Int32) (x3 : Int32) (s0 : q_Sto), q_G w cx 4 (some .boolean) 24 [some (q_rf w x0), some (q_rs w x1), some (.int x2), some (.int x3)] [] s0 (f_X12_is_L24 n x0 x1  j x2 x3 s0) := by
  intro j
  induction j with
  | zero =>
    intro _ _ _
    rw [f_X12_is_L24]
    exact q_none
  | succ j ih =>
    intro x2 x3 s0
    rw [f_X12_is_L24]
    refine g_il3 hc dX12_is_24 rfl (pc2 := 25) rfl ?_
    refine g_sl1 hc dX12_is_25 rfl (pc2 := 26) rfl ?_
    refine g_slen hc ln_X12_90 hx1 ⟨by decide, by decide⟩ (Nat.le_of_ble_eq_true rfl) dX12_is_26 (pc2 := 29) rfl ?_
    refine g_icmp_ge hc dX12_is_29 (pc1 := 32) (pc2 := 67) rfl rfl (fun _ => ?_) (fun _ => ?_)
    · refine g_il2 hc dX12_is_32 rfl (pc2 := 33) rfl ?_
      refine g_if_eq hc dX12_is_33 (pc1 := 67) (pc2 := 36) rfl rfl (fun _ => ?_) (fun _ => ?_)
      · refine g_il2 hc dX12_is_67 rfl (pc2 := 68) rfl ?_
        exact g_zret hc dX12_is_68
      · refine g_rl0 hc dX12_is_36 rfl (pc2 := 37) rfl ?_
        refine g_getR hc fl_X12_31 rfl hx0 dX12_is_37 (pc2 := 40) rfl ?_
        refine g_rl0 hc dX12_is_40 rfl (pc2 := 41) rfl ?_
        refine g_getI hc fl_X12_87 rfl hx0 dX12_is_41 (pc2 := 44) rfl ?_
        refine g_il3 hc dX12_is_44 rfl (pc2 := 45) rfl ?_
        refine g_iadd hc dX12_is_45 (pc2 := 46) rfl ?_
        refine g_iald hc (kf_12_9 hx0) (kl_12_9 hx0) dX12_is_46 (pc2 := 47) rfl (fun v4 => ?_)
        refine g_sl1 hc dX12_is_47 rfl (pc2 := 48) rfl ?_
        refine g_il3 hc dX12_is_48 rfl (pc2 := 49) rfl ?_
        refine g_scat hc ln_X12_96 hx1 ⟨by decide, by decide⟩ (Nat.le_of_ble_eq_true rfl) dX12_is_49 (pc2 := 52) rfl (fun v5 => ?_)
        refine g_icmp_ne hc dX12_is_52 (pc1 := 55) (pc2 := 59) rfl rfl (fun _ => ?_) (fun _ => ?_)
        · refine g_iconst hc dX12_is_55 ic_1 (pc2 := 56) rfl ?_
          refine g_goto hc dX12_is_56 (pc2 := 60) rfl ?_
          refine g_is2 hc dX12_is_60 (by decide) (L2 := [some (q_rf w x0), some (q_rs w x1), some (.int 1), some (.int x3)]) rfl (pc2 := 61) rfl ?_
          refine g_iinc hc dX12_is_61 rfl (q_ii ic_1) (by decide) (L2 := [some (q_rf w x0), some (q_rs w x1), some (.int 1), some (.int (x3 + 1))]) rfl (pc2 := 64) rfl ?_
          refine g_goto hc dX12_is_64 (pc2 := 24) rfl ?_
          exact ih _ _ _
        · refine g_iconst hc dX12_is_59 ic_0 (pc2 := 60) rfl ?_
          refine g_is2 hc dX12_is_60 (by decide) (L2 := [some (q_rf w x0), some (q_rs w x1), some (.int 0), some (.int x3)]) rfl (pc2 := 61) rfl ?_
          refine g_iinc hc dX12_is_61 rfl (q_ii ic_1) (by decide) (L2 := [some (q_rf w x0), some (q_rs w x1), some (.int 0), some (.int (x3 + 1))]) rfl (pc2 := 64) rfl ?_
          refine g_goto hc dX12_is_64 (pc2 := 24) rfl ?_
          exact ih _ _ _
    · refine g_il2 hc dX12_is_67 rfl (pc2 := 68) rfl ?_
      exact g_zret hc dX12_is_68
set_option maxRecDepth 100000 in
set_option maxHeartbeats 4000000 in
theorem C_X12_is {l : Launch} {w : q_Wd} {n : Nat} {t : Nat} {a0 : Nat} (ht : q_KD t = .inl 12) (ha0 : a0 < q_nS) {s0 : q_Sto} : q_C l w yX12_is cX12_is 4 (some .boolean) (q_rm 6 140) [q_rf w t, q_rs w a0] s0 (f_X12_is n t a0 s0) := q_CofG [some (q_rf w t), some (q_rs w a0), none, none] (by decide +kernel) rfl rfl (Nat.le_of_ble_eq_true rfl) fun cx hl hc => by
  have hc : q_ok w cx RX12 cX12_is 4 (some .boolean) (q_rm 6 140) := hc
  rw [f_X12_is]
  refine g_rl0 hc dX12_is_0 rfl (pc2 := 1) rfl ?_
  refine g_getI hc fl_X12_84 rfl ht dX12_is_1 (pc2 := 4) rfl ?_
  refine g_rl0 hc dX12_is_4 rfl (pc2 := 5) rfl ?_
  refine g_getI hc fl_X12_87 rfl ht dX12_is_5 (pc2 := 8) rfl ?_
  refine g_isub hc dX12_is_8 (pc2 := 9) rfl ?_
  refine g_sl1 hc dX12_is_9 rfl (pc2 := 10) rfl ?_
  refine g_slen hc ln_X12_90 ha0 ⟨by decide, by decide⟩ (Nat.le_of_ble_eq_true rfl) dX12_is_10 (pc2 := 13) rfl ?_
  refine g_icmp_ne hc dX12_is_13 (pc1 := 16) (pc2 := 20) rfl rfl (fun _ => ?_) (fun _ => ?_)
  · refine g_iconst hc dX12_is_16 ic_1 (pc2 := 17) rfl ?_
    refine g_goto hc dX12_is_17 (pc2 := 21) rfl ?_
    refine g_is2 hc dX12_is_21 (by decide) (L2 := [some (q_rf w t), some (q_rs w a0), some (.int 1), none]) rfl (pc2 := 22) rfl ?_
    refine g_iconst hc dX12_is_22 ic_0 (pc2 := 23) rfl ?_
    refine g_is3 hc dX12_is_23 (by decide) (L2 := [some (q_rf w t), some (q_rs w a0), some (.int 1), some (.int 0)]) rfl (pc2 := 24) rfl ?_
    refine t_X12_is_L24 hc ht ha0  n _ _ _
  · refine g_iconst hc dX12_is_20 ic_0 (pc2 := 21) rfl ?_
    refine g_is2 hc dX12_is_21 (by decide) (L2 := [some (q_rf w t), some (q_rs w a0), some (.int 0), none]) rfl (pc2 := 22) rfl ?_
    refine g_iconst hc dX12_is_22 ic_0 (pc2 := 23) rfl ?_
    refine g_is3 hc dX12_is_23 (by decide) (L2 := [some (q_rf w t), some (q_rs w a0), some (.int 0), some (.int 0)]) rfl (pc2 := 24) rfl ?_
    refine t_X12_is_L24 hc ht ha0  n _ _ _
set_option maxRecDepth 100000 in
set_option maxHeartbeats 4000000 in
def f_X12_asked (n : Nat) (t : Nat) (s0 : q_Sto) : Option (Int32 × q_Sto) :=
  q_call (f_X12_is n t 37 s0) fun r2 s1 =>
  if r2 = 0 then (
  q_call (f_X12_is n t 38 s1) fun r5 s4 =>
  if r5 = 0 then (
  q_call (f_X12_is n t 39 s4) fun r8 s7 =>
  if r8 = 0 then (
  q_call (f_X12_is n t 40 s7) fun r11 s10 =>
  if r11 = 0 then (
  q_call (f_X12_is n t 41 s10) fun r14 s13 =>
  if r14 = 0 then (
  q_call (f_X12_is n t 42 s13) fun r17 s16 =>
  if r17 = 0 then (
  q_call (f_X12_is n t 43 s16) fun r20 s19 =>
  if r20 = 0 then (
  q_call (f_X12_is n t 44 s19) fun r23 s22 =>
  if r23 = 0 then (
  q_call (f_X12_is n t 45 s22) fun r26 s25 =>
  if r26 = 0 then (
  q_call (f_X12_is n t 46 s25) fun r29 s28 =>
  if r29 = 0 then (
  some (1, s28))
  else (
  some (50, s28)))
  else (
  some (49, s25)))
  else (
  some (48, s22)))
  else (
  some (47, s19)))
  else (
  some (46, s16)))
  else (
  some (45, s13)))
  else (
  some (44, s10)))
  else (
  some (43, s7)))
  else (
  some (42, s4)))
  else (
  some (41, s1))
set_option maxRecDepth 100000 in
set_option maxHeartbeats 4000000 in
theorem C_X12_asked {l : Launch} {w : q_Wd} {n : Nat} {t : Nat} (ht : q_KD t = .inl 12) {s0 : q_Sto} : q_C l w yX12_asked cX12_asked 1 (some .int) (q_rm 7 163) [q_rf w t] s0 (f_X12_asked n t s0) := q_CofG [some (q_rf w t)] (by decide +kernel) rfl rfl (Nat.le_of_ble_eq_true rfl) fun cx hl hc => by
  have hc : q_ok w cx RX12 cX12_asked 1 (some .int) (q_rm 7 163) := hc
  rw [f_X12_asked]
  refine g_rl0 hc dX12_asked_0 rfl (pc2 := 1) rfl ?_
  refine g_ldcS (i := 37) (tx := "mule") hc (by decide +kernel) dX12_asked_1 (pc2 := 3) rfl ?_
  refine g_callV1 hc (C_X12_is ht (by decide)) mv_X12_is ln_X12_102 ht ⟨by decide, by decide⟩ (Nat.le_of_ble_eq_true rfl) dX12_asked_3 (pc2 := 6) rfl (fun r2 s1 => ?_)
  refine g_if_eq hc dX12_asked_6 (pc1 := 12) (pc2 := 9) rfl rfl (fun _ => ?_) (fun _ => ?_)
  · refine g_rl0 hc dX12_asked_12 rfl (pc2 := 13) rfl ?_
    refine g_ldcS (i := 38) (tx := "age") hc (by decide +kernel) dX12_asked_13 (pc2 := 15) rfl ?_
    refine g_callV1 hc (C_X12_is ht (by decide)) mv_X12_is ln_X12_102 ht ⟨by decide, by decide⟩ (Nat.le_of_ble_eq_true rfl) dX12_asked_15 (pc2 := 18) rfl (fun r5 s4 => ?_)
    refine g_if_eq hc dX12_asked_18 (pc1 := 24) (pc2 := 21) rfl rfl (fun _ => ?_) (fun _ => ?_)
    · refine g_rl0 hc dX12_asked_24 rfl (pc2 := 25) rfl ?_
      refine g_ldcS (i := 39) (tx := "strong") hc (by decide +kernel) dX12_asked_25 (pc2 := 27) rfl ?_
      refine g_callV1 hc (C_X12_is ht (by decide)) mv_X12_is ln_X12_102 ht ⟨by decide, by decide⟩ (Nat.le_of_ble_eq_true rfl) dX12_asked_27 (pc2 := 30) rfl (fun r8 s7 => ?_)
      refine g_if_eq hc dX12_asked_30 (pc1 := 36) (pc2 := 33) rfl rfl (fun _ => ?_) (fun _ => ?_)
      · refine g_rl0 hc dX12_asked_36 rfl (pc2 := 37) rfl ?_
        refine g_ldcS (i := 40) (tx := "liking") hc (by decide +kernel) dX12_asked_37 (pc2 := 39) rfl ?_
        refine g_callV1 hc (C_X12_is ht (by decide)) mv_X12_is ln_X12_102 ht ⟨by decide, by decide⟩ (Nat.le_of_ble_eq_true rfl) dX12_asked_39 (pc2 := 42) rfl (fun r11 s10 => ?_)
        refine g_if_eq hc dX12_asked_42 (pc1 := 48) (pc2 := 45) rfl rfl (fun _ => ?_) (fun _ => ?_)
        · refine g_rl0 hc dX12_asked_48 rfl (pc2 := 49) rfl ?_
          refine g_ldcS (i := 41) (tx := "heeded") hc (by decide +kernel) dX12_asked_49 (pc2 := 51) rfl ?_
          refine g_callV1 hc (C_X12_is ht (by decide)) mv_X12_is ln_X12_102 ht ⟨by decide, by decide⟩ (Nat.le_of_ble_eq_true rfl) dX12_asked_51 (pc2 := 54) rfl (fun r14 s13 => ?_)
          refine g_if_eq hc dX12_asked_54 (pc1 := 60) (pc2 := 57) rfl rfl (fun _ => ?_) (fun _ => ?_)
          · refine g_rl0 hc dX12_asked_60 rfl (pc2 := 61) rfl ?_
            refine g_ldcS (i := 42) (tx := "hand") hc (by decide +kernel) dX12_asked_61 (pc2 := 63) rfl ?_
            refine g_callV1 hc (C_X12_is ht (by decide)) mv_X12_is ln_X12_102 ht ⟨by decide, by decide⟩ (Nat.le_of_ble_eq_true rfl) dX12_asked_63 (pc2 := 66) rfl (fun r17 s16 => ?_)
            refine g_if_eq hc dX12_asked_66 (pc1 := 72) (pc2 := 69) rfl rfl (fun _ => ?_) (fun _ => ?_)
            · refine g_rl0 hc dX12_asked_72 rfl (pc2 := 73) rfl ?_
              refine g_ldcS (i := 43) (tx := "songs") hc (by decide +kernel) dX12_asked_73 (pc2 := 75) rfl ?_
              refine g_callV1 hc (C_X12_is ht (by decide)) mv_X12_is ln_X12_102 ht ⟨by decide, by decide⟩ (Nat.le_of_ble_eq_true rfl) dX12_asked_75 (pc2 := 78) rfl (fun r20 s19 => ?_)
              refine g_if_eq hc dX12_asked_78 (pc1 := 84) (pc2 := 81) rfl rfl (fun _ => ?_) (fun _ => ?_)
              · refine g_rl0 hc dX12_asked_84 rfl (pc2 := 85) rfl ?_
                refine g_ldcS (i := 44) (tx := "snow") hc (by decide +kernel) dX12_asked_85 (pc2 := 87) rfl ?_
                refine g_callV1 hc (C_X12_is ht (by decide)) mv_X12_is ln_X12_102 ht ⟨by decide, by decide⟩ (Nat.le_of_ble_eq_true rfl) dX12_asked_87 (pc2 := 90) rfl (fun r23 s22 => ?_)
                refine g_if_eq hc dX12_asked_90 (pc1 := 96) (pc2 := 93) rfl rfl (fun _ => ?_) (fun _ => ?_)
                · refine g_rl0 hc dX12_asked_96 rfl (pc2 := 97) rfl ?_
                  refine g_ldcS (i := 45) (tx := "hours") hc (by decide +kernel) dX12_asked_97 (pc2 := 99) rfl ?_
                  refine g_callV1 hc (C_X12_is ht (by decide)) mv_X12_is ln_X12_102 ht ⟨by decide, by decide⟩ (Nat.le_of_ble_eq_true rfl) dX12_asked_99 (pc2 := 102) rfl (fun r26 s25 => ?_)
                  refine g_if_eq hc dX12_asked_102 (pc1 := 108) (pc2 := 105) rfl rfl (fun _ => ?_) (fun _ => ?_)
                  · refine g_rl0 hc dX12_asked_108 rfl (pc2 := 109) rfl ?_
                    refine g_ldcS (i := 46) (tx := "day") hc (by decide +kernel) dX12_asked_109 (pc2 := 111) rfl ?_
                    refine g_callV1 hc (C_X12_is ht (by decide)) mv_X12_is ln_X12_102 ht ⟨by decide, by decide⟩ (Nat.le_of_ble_eq_true rfl) dX12_asked_111 (pc2 := 114) rfl (fun r29 s28 => ?_)
                    refine g_if_eq hc dX12_asked_114 (pc1 := 122) (pc2 := 117) rfl rfl (fun _ => ?_) (fun _ => ?_)
                    · refine g_iconst hc dX12_asked_122 ic_1 (pc2 := 123) rfl ?_
                      exact g_iret hc dX12_asked_123
                    · refine g_bipush hc dX12_asked_117 bp_50 (pc2 := 119) rfl ?_
                      refine g_goto hc dX12_asked_119 (pc2 := 123) rfl ?_
                      exact g_iret hc dX12_asked_123
                  · refine g_bipush hc dX12_asked_105 bp_49 (pc2 := 107) rfl ?_
                    exact g_iret hc dX12_asked_107
                · refine g_bipush hc dX12_asked_93 bp_48 (pc2 := 95) rfl ?_
                  exact g_iret hc dX12_asked_95
              · refine g_bipush hc dX12_asked_81 bp_47 (pc2 := 83) rfl ?_
                exact g_iret hc dX12_asked_83
            · refine g_bipush hc dX12_asked_69 bp_46 (pc2 := 71) rfl ?_
              exact g_iret hc dX12_asked_71
          · refine g_bipush hc dX12_asked_57 bp_45 (pc2 := 59) rfl ?_
            exact g_iret hc dX12_asked_59
        · refine g_bipush hc dX12_asked_45 bp_44 (pc2 := 47) rfl ?_
          exact g_iret hc dX12_asked_47
      · refine g_bipush hc dX12_asked_33 bp_43 (pc2 := 35) rfl ?_
        exact g_iret hc dX12_asked_35
    · refine g_bipush hc dX12_asked_21 bp_42 (pc2 := 23) rfl ?_
      exact g_iret hc dX12_asked_23
  · refine g_bipush hc dX12_asked_9 bp_41 (pc2 := 11) rfl ?_
    exact g_iret hc dX12_asked_11
set_option maxRecDepth 100000 in
set_option maxHeartbeats 4000000 in
def f_X12_lawWord (n : Nat) (t : Nat) (s0 : q_Sto) : Option (Int32 × q_Sto) :=
  q_call (f_X12_is n t 30 s0) fun r2 s1 =>
  if r2 = 0 then (
  q_call (f_X12_is n t 31 s1) fun r5 s4 =>
  if r5 = 0 then (
  q_call (f_X12_is n t 32 s4) fun r8 s7 =>
  if r8 = 0 then (
  q_call (f_X12_is n t 33 s7) fun r11 s10 =>
  if r11 = 0 then (
  q_call (f_X12_is n t 34 s10) fun r14 s13 =>
  if r14 = 0 then (
  q_call (f_X12_is n t 35 s13) fun r17 s16 =>
  if r17 = 0 then (
  q_call (f_X12_is n t 36 s16) fun r20 s19 =>
  if r20 = 0 then (
  q_call (f_X12_asked n t s19) fun r23 s22 =>
  some (r23, s22))
  else (
  some (22, s19)))
  else (
  some (21, s16)))
  else (
  some (20, s13)))
  else (
  some (6, s10)))
  else (
  some (5, s7)))
  else (
  some (4, s4)))
  else (
  some (3, s1))
set_option maxRecDepth 100000 in
set_option maxHeartbeats 4000000 in
theorem C_X12_lawWord {l : Launch} {w : q_Wd} {n : Nat} {t : Nat} (ht : q_KD t = .inl 12) {s0 : q_Sto} : q_C l w yX12_lawWord cX12_lawWord 1 (some .int) (q_rm 8 183) [q_rf w t] s0 (f_X12_lawWord n t s0) := q_CofG [some (q_rf w t)] (by decide +kernel) rfl rfl (Nat.le_of_ble_eq_true rfl) fun cx hl hc => by
  have hc : q_ok w cx RX12 cX12_lawWord 1 (some .int) (q_rm 8 183) := hc
  rw [f_X12_lawWord]
  refine g_rl0 hc dX12_lawWord_0 rfl (pc2 := 1) rfl ?_
  refine g_ldcS (i := 30) (tx := "when") hc (by decide +kernel) dX12_lawWord_1 (pc2 := 3) rfl ?_
  refine g_callV1 hc (C_X12_is ht (by decide)) mv_X12_is ln_X12_102 ht ⟨by decide, by decide⟩ (Nat.le_of_ble_eq_true rfl) dX12_lawWord_3 (pc2 := 6) rfl (fun r2 s1 => ?_)
  refine g_if_eq hc dX12_lawWord_6 (pc1 := 11) (pc2 := 9) rfl rfl (fun _ => ?_) (fun _ => ?_)
  · refine g_rl0 hc dX12_lawWord_11 rfl (pc2 := 12) rfl ?_
    refine g_ldcS (i := 31) (tx := "or") hc (by decide +kernel) dX12_lawWord_12 (pc2 := 14) rfl ?_
    refine g_callV1 hc (C_X12_is ht (by decide)) mv_X12_is ln_X12_102 ht ⟨by decide, by decide⟩ (Nat.le_of_ble_eq_true rfl) dX12_lawWord_14 (pc2 := 17) rfl (fun r5 s4 => ?_)
    refine g_if_eq hc dX12_lawWord_17 (pc1 := 22) (pc2 := 20) rfl rfl (fun _ => ?_) (fun _ => ?_)
    · refine g_rl0 hc dX12_lawWord_22 rfl (pc2 := 23) rfl ?_
      refine g_ldcS (i := 32) (tx := "and") hc (by decide +kernel) dX12_lawWord_23 (pc2 := 25) rfl ?_
      refine g_callV1 hc (C_X12_is ht (by decide)) mv_X12_is ln_X12_102 ht ⟨by decide, by decide⟩ (Nat.le_of_ble_eq_true rfl) dX12_lawWord_25 (pc2 := 28) rfl (fun r8 s7 => ?_)
      refine g_if_eq hc dX12_lawWord_28 (pc1 := 33) (pc2 := 31) rfl rfl (fun _ => ?_) (fun _ => ?_)
      · refine g_rl0 hc dX12_lawWord_33 rfl (pc2 := 34) rfl ?_
        refine g_ldcS (i := 33) (tx := "not") hc (by decide +kernel) dX12_lawWord_34 (pc2 := 36) rfl ?_
        refine g_callV1 hc (C_X12_is ht (by decide)) mv_X12_is ln_X12_102 ht ⟨by decide, by decide⟩ (Nat.le_of_ble_eq_true rfl) dX12_lawWord_36 (pc2 := 39) rfl (fun r11 s10 => ?_)
        refine g_if_eq hc dX12_lawWord_39 (pc1 := 45) (pc2 := 42) rfl rfl (fun _ => ?_) (fun _ => ?_)
        · refine g_rl0 hc dX12_lawWord_45 rfl (pc2 := 46) rfl ?_
          refine g_ldcS (i := 34) (tx := "lean") hc (by decide +kernel) dX12_lawWord_46 (pc2 := 48) rfl ?_
          refine g_callV1 hc (C_X12_is ht (by decide)) mv_X12_is ln_X12_102 ht ⟨by decide, by decide⟩ (Nat.le_of_ble_eq_true rfl) dX12_lawWord_48 (pc2 := 51) rfl (fun r14 s13 => ?_)
          refine g_if_eq hc dX12_lawWord_51 (pc1 := 57) (pc2 := 54) rfl rfl (fun _ => ?_) (fun _ => ?_)
          · refine g_rl0 hc dX12_lawWord_57 rfl (pc2 := 58) rfl ?_
            refine g_ldcS (i := 35) (tx := "need") hc (by decide +kernel) dX12_lawWord_58 (pc2 := 60) rfl ?_
            refine g_callV1 hc (C_X12_is ht (by decide)) mv_X12_is ln_X12_102 ht ⟨by decide, by decide⟩ (Nat.le_of_ble_eq_true rfl) dX12_lawWord_60 (pc2 := 63) rfl (fun r17 s16 => ?_)
            refine g_if_eq hc dX12_lawWord_63 (pc1 := 69) (pc2 := 66) rfl rfl (fun _ => ?_) (fun _ => ?_)
            · refine g_rl0 hc dX12_lawWord_69 rfl (pc2 := 70) rfl ?_
              refine g_ldcS (i := 36) (tx := "risk") hc (by decide +kernel) dX12_lawWord_70 (pc2 := 72) rfl ?_
              refine g_callV1 hc (C_X12_is ht (by decide)) mv_X12_is ln_X12_102 ht ⟨by decide, by decide⟩ (Nat.le_of_ble_eq_true rfl) dX12_lawWord_72 (pc2 := 75) rfl (fun r20 s19 => ?_)
              refine g_if_eq hc dX12_lawWord_75 (pc1 := 83) (pc2 := 78) rfl rfl (fun _ => ?_) (fun _ => ?_)
              · refine g_rl0 hc dX12_lawWord_83 rfl (pc2 := 84) rfl ?_
                refine g_callV0 hc (C_X12_asked ht) mv_X12_asked ln_X12_138 ht ⟨by decide, by decide⟩ (Nat.le_of_ble_eq_true rfl) dX12_lawWord_84 (pc2 := 87) rfl (fun r23 s22 => ?_)
                exact g_iret hc dX12_lawWord_87
              · refine g_bipush hc dX12_lawWord_78 bp_22 (pc2 := 80) rfl ?_
                refine g_goto hc dX12_lawWord_80 (pc2 := 87) rfl ?_
                exact g_iret hc dX12_lawWord_87
            · refine g_bipush hc dX12_lawWord_66 bp_21 (pc2 := 68) rfl ?_
              exact g_iret hc dX12_lawWord_68
          · refine g_bipush hc dX12_lawWord_54 bp_20 (pc2 := 56) rfl ?_
            exact g_iret hc dX12_lawWord_56
        · refine g_bipush hc dX12_lawWord_42 bp_6 (pc2 := 44) rfl ?_
          exact g_iret hc dX12_lawWord_44
      · refine g_iconst hc dX12_lawWord_31 ic_5 (pc2 := 32) rfl ?_
        exact g_iret hc dX12_lawWord_32
    · refine g_iconst hc dX12_lawWord_20 ic_4 (pc2 := 21) rfl ?_
      exact g_iret hc dX12_lawWord_21
  · refine g_iconst hc dX12_lawWord_9 ic_3 (pc2 := 10) rfl ?_
    exact g_iret hc dX12_lawWord_10
set_option maxRecDepth 100000 in
set_option maxHeartbeats 4000000 in
def f_X12_heedWord (n : Nat) (t : Nat) (s0 : q_Sto) : Option (Int32 × q_Sto) :=
  q_call (f_X12_is n t 37 s0) fun r2 s1 =>
  if r2 = 0 then (
  q_call (f_X12_is n t 47 s1) fun r5 s4 =>
  if r5 = 0 then (
  q_call (f_X12_is n t 32 s4) fun r8 s7 =>
  if r8 = 0 then (
  some (1, s7))
  else (
  some (5, s7)))
  else (
  some (8, s4)))
  else (
  some (7, s1))
set_option maxRecDepth 100000 in
set_option maxHeartbeats 4000000 in
theorem C_X12_heedWord {l : Launch} {w : q_Wd} {n : Nat} {t : Nat} (ht : q_KD t = .inl 12) {s0 : q_Sto} : q_C l w yX12_heedWord cX12_heedWord 1 (some .int) (q_rm 7 163) [q_rf w t] s0 (f_X12_heedWord n t s0) := q_CofG [some (q_rf w t)] (by decide +kernel) rfl rfl (Nat.le_of_ble_eq_true rfl) fun cx hl hc => by
  have hc : q_ok w cx RX12 cX12_heedWord 1 (some .int) (q_rm 7 163) := hc
  rw [f_X12_heedWord]
  refine g_rl0 hc dX12_heedWord_0 rfl (pc2 := 1) rfl ?_
  refine g_ldcS (i := 37) (tx := "mule") hc (by decide +kernel) dX12_heedWord_1 (pc2 := 3) rfl ?_
  refine g_callV1 hc (C_X12_is ht (by decide)) mv_X12_is ln_X12_102 ht ⟨by decide, by decide⟩ (Nat.le_of_ble_eq_true rfl) dX12_heedWord_3 (pc2 := 6) rfl (fun r2 s1 => ?_)
  refine g_if_eq hc dX12_heedWord_6 (pc1 := 12) (pc2 := 9) rfl rfl (fun _ => ?_) (fun _ => ?_)
  · refine g_rl0 hc dX12_heedWord_12 rfl (pc2 := 13) rfl ?_
    refine g_ldcS (i := 47) (tx := "heeds") hc (by decide +kernel) dX12_heedWord_13 (pc2 := 15) rfl ?_
    refine g_callV1 hc (C_X12_is ht (by decide)) mv_X12_is ln_X12_102 ht ⟨by decide, by decide⟩ (Nat.le_of_ble_eq_true rfl) dX12_heedWord_15 (pc2 := 18) rfl (fun r5 s4 => ?_)
    refine g_if_eq hc dX12_heedWord_18 (pc1 := 24) (pc2 := 21) rfl rfl (fun _ => ?_) (fun _ => ?_)
    · refine g_rl0 hc dX12_heedWord_24 rfl (pc2 := 25) rfl ?_
      refine g_ldcS (i := 32) (tx := "and") hc (by decide +kernel) dX12_heedWord_25 (pc2 := 27) rfl ?_
      refine g_callV1 hc (C_X12_is ht (by decide)) mv_X12_is ln_X12_102 ht ⟨by decide, by decide⟩ (Nat.le_of_ble_eq_true rfl) dX12_heedWord_27 (pc2 := 30) rfl (fun r8 s7 => ?_)
      refine g_if_eq hc dX12_heedWord_30 (pc1 := 37) (pc2 := 33) rfl rfl (fun _ => ?_) (fun _ => ?_)
      · refine g_iconst hc dX12_heedWord_37 ic_1 (pc2 := 38) rfl ?_
        exact g_iret hc dX12_heedWord_38
      · refine g_iconst hc dX12_heedWord_33 ic_5 (pc2 := 34) rfl ?_
        refine g_goto hc dX12_heedWord_34 (pc2 := 38) rfl ?_
        exact g_iret hc dX12_heedWord_38
    · refine g_bipush hc dX12_heedWord_21 bp_8 (pc2 := 23) rfl ?_
      exact g_iret hc dX12_heedWord_23
  · refine g_bipush hc dX12_heedWord_9 bp_7 (pc2 := 11) rfl ?_
    exact g_iret hc dX12_heedWord_11
set_option maxRecDepth 100000 in
set_option maxHeartbeats 4000000 in
def f_X12_planWord (n : Nat) (t : Nat) (s0 : q_Sto) : Option (Int32 × q_Sto) :=
  q_call (f_X12_is n t 48 s0) fun r2 s1 =>
  if r2 = 0 then (
  q_call (f_X12_is n t 49 s1) fun r5 s4 =>
  if r5 = 0 then (
  q_call (f_X12_is n t 50 s4) fun r8 s7 =>
  if r8 = 0 then (
  q_call (f_X12_is n t 51 s7) fun r11 s10 =>
  if r11 = 0 then (
  q_call (f_X12_is n t 52 s10) fun r14 s13 =>
  if r14 = 0 then (
  q_call (f_X12_is n t 53 s13) fun r17 s16 =>
  if r17 = 0 then (
  some (1, s16))
  else (
  some (14, s16)))
  else (
  some (13, s13)))
  else (
  some (12, s10)))
  else (
  some (11, s7)))
  else (
  some (10, s4)))
  else (
  some (9, s1))
set_option maxRecDepth 100000 in
set_option maxHeartbeats 4000000 in
theorem C_X12_planWord {l : Launch} {w : q_Wd} {n : Nat} {t : Nat} (ht : q_KD t = .inl 12) {s0 : q_Sto} : q_C l w yX12_planWord cX12_planWord 1 (some .int) (q_rm 7 163) [q_rf w t] s0 (f_X12_planWord n t s0) := q_CofG [some (q_rf w t)] (by decide +kernel) rfl rfl (Nat.le_of_ble_eq_true rfl) fun cx hl hc => by
  have hc : q_ok w cx RX12 cX12_planWord 1 (some .int) (q_rm 7 163) := hc
  rw [f_X12_planWord]
  refine g_rl0 hc dX12_planWord_0 rfl (pc2 := 1) rfl ?_
  refine g_ldcS (i := 48) (tx := "on") hc (by decide +kernel) dX12_planWord_1 (pc2 := 3) rfl ?_
  refine g_callV1 hc (C_X12_is ht (by decide)) mv_X12_is ln_X12_102 ht ⟨by decide, by decide⟩ (Nat.le_of_ble_eq_true rfl) dX12_planWord_3 (pc2 := 6) rfl (fun r2 s1 => ?_)
  refine g_if_eq hc dX12_planWord_6 (pc1 := 12) (pc2 := 9) rfl rfl (fun _ => ?_) (fun _ => ?_)
  · refine g_rl0 hc dX12_planWord_12 rfl (pc2 := 13) rfl ?_
    refine g_ldcS (i := 49) (tx := "salt") hc (by decide +kernel) dX12_planWord_13 (pc2 := 15) rfl ?_
    refine g_callV1 hc (C_X12_is ht (by decide)) mv_X12_is ln_X12_102 ht ⟨by decide, by decide⟩ (Nat.le_of_ble_eq_true rfl) dX12_planWord_15 (pc2 := 18) rfl (fun r5 s4 => ?_)
    refine g_if_eq hc dX12_planWord_18 (pc1 := 24) (pc2 := 21) rfl rfl (fun _ => ?_) (fun _ => ?_)
    · refine g_rl0 hc dX12_planWord_24 rfl (pc2 := 25) rfl ?_
      refine g_ldcS (i := 50) (tx := "sing") hc (by decide +kernel) dX12_planWord_25 (pc2 := 27) rfl ?_
      refine g_callV1 hc (C_X12_is ht (by decide)) mv_X12_is ln_X12_102 ht ⟨by decide, by decide⟩ (Nat.le_of_ble_eq_true rfl) dX12_planWord_27 (pc2 := 30) rfl (fun r8 s7 => ?_)
      refine g_if_eq hc dX12_planWord_30 (pc1 := 36) (pc2 := 33) rfl rfl (fun _ => ?_) (fun _ => ?_)
      · refine g_rl0 hc dX12_planWord_36 rfl (pc2 := 37) rfl ?_
        refine g_ldcS (i := 51) (tx := "whip") hc (by decide +kernel) dX12_planWord_37 (pc2 := 39) rfl ?_
        refine g_callV1 hc (C_X12_is ht (by decide)) mv_X12_is ln_X12_102 ht ⟨by decide, by decide⟩ (Nat.le_of_ble_eq_true rfl) dX12_planWord_39 (pc2 := 42) rfl (fun r11 s10 => ?_)
        refine g_if_eq hc dX12_planWord_42 (pc1 := 48) (pc2 := 45) rfl rfl (fun _ => ?_) (fun _ => ?_)
        · refine g_rl0 hc dX12_planWord_48 rfl (pc2 := 49) rfl ?_
          refine g_ldcS (i := 52) (tx := "vote") hc (by decide +kernel) dX12_planWord_49 (pc2 := 51) rfl ?_
          refine g_callV1 hc (C_X12_is ht (by decide)) mv_X12_is ln_X12_102 ht ⟨by decide, by decide⟩ (Nat.le_of_ble_eq_true rfl) dX12_planWord_51 (pc2 := 54) rfl (fun r14 s13 => ?_)
          refine g_if_eq hc dX12_planWord_54 (pc1 := 60) (pc2 := 57) rfl rfl (fun _ => ?_) (fun _ => ?_)
          · refine g_rl0 hc dX12_planWord_60 rfl (pc2 := 61) rfl ?_
            refine g_ldcS (i := 53) (tx := "go") hc (by decide +kernel) dX12_planWord_61 (pc2 := 63) rfl ?_
            refine g_callV1 hc (C_X12_is ht (by decide)) mv_X12_is ln_X12_102 ht ⟨by decide, by decide⟩ (Nat.le_of_ble_eq_true rfl) dX12_planWord_63 (pc2 := 66) rfl (fun r17 s16 => ?_)
            refine g_if_eq hc dX12_planWord_66 (pc1 := 74) (pc2 := 69) rfl rfl (fun _ => ?_) (fun _ => ?_)
            · refine g_iconst hc dX12_planWord_74 ic_1 (pc2 := 75) rfl ?_
              exact g_iret hc dX12_planWord_75
            · refine g_bipush hc dX12_planWord_69 bp_14 (pc2 := 71) rfl ?_
              refine g_goto hc dX12_planWord_71 (pc2 := 75) rfl ?_
              exact g_iret hc dX12_planWord_75
          · refine g_bipush hc dX12_planWord_57 bp_13 (pc2 := 59) rfl ?_
            exact g_iret hc dX12_planWord_59
        · refine g_bipush hc dX12_planWord_45 bp_12 (pc2 := 47) rfl ?_
          exact g_iret hc dX12_planWord_47
      · refine g_bipush hc dX12_planWord_33 bp_11 (pc2 := 35) rfl ?_
        exact g_iret hc dX12_planWord_35
    · refine g_bipush hc dX12_planWord_21 bp_10 (pc2 := 23) rfl ?_
      exact g_iret hc dX12_planWord_23
  · refine g_bipush hc dX12_planWord_9 bp_9 (pc2 := 11) rfl ?_
    exact g_iret hc dX12_planWord_11
set_option maxRecDepth 100000 in
set_option maxHeartbeats 4000000 in
def f_X12_word (n : Nat) (t : Nat) (s0 : q_Sto) : Option (Int32 × q_Sto) :=
  if (s0 t 12) = 0 then (
  q_call (f_X12_lawWord n t s0) fun r3 s2 =>
  some (r3, s2))
  else
  if (s0 t 12) = 1 then (
  q_call (f_X12_heedWord n t s0) fun r6 s5 =>
  some (r6, s5))
  else
  if (s0 t 12) = 2 then (
  q_call (f_X12_planWord n t s0) fun r9 s8 =>
  some (r9, s8))
  else
  if (s0 t 12) = 3 then (
  q_call (f_X12_is n t 54 s0) fun r12 s11 =>
  if r12 = 0 then (
  q_call (f_X12_is n t 45 s11) fun r15 s14 =>
  if r15 = 0 then (
  some (1, s14))
  else (
  some (16, s14)))
  else (
  some (15, s11)))
  else
  (q_call (f_X12_is n t 55 s0) fun r18 s17 =>
  if r18 = 0 then (
  q_call (f_X12_is n t 56 s17) fun r21 s20 =>
  if r21 = 0 then (
  some (1, s20))
  else (
  some (18, s20)))
  else (
  some (17, s17)))
set_option maxRecDepth 100000 in
set_option maxHeartbeats 4000000 in
theorem C_X12_word {l : Launch} {w : q_Wd} {n : Nat} {t : Nat} (ht : q_KD t = .inl 12) {s0 : q_Sto} : q_C l w yX12_word cX12_word 1 (some .int) (q_rm 9 203) [q_rf w t] s0 (f_X12_word n t s0) := q_CofG [some (q_rf w t)] (by decide +kernel) rfl rfl (Nat.le_of_ble_eq_true rfl) fun cx hl hc => by
  have hc : q_ok w cx RX12 cX12_word 1 (some .int) (q_rm 9 203) := hc
  rw [f_X12_word]
  refine g_rl0 hc dX12_word_0 rfl (pc2 := 1) rfl ?_
  refine g_getI hc fl_X12_155 rfl ht dX12_word_1 (pc2 := 4) rfl ?_
  refine g_swc (pc2 := 0) hc dX12_word_4 (c := 0) (by decide) (by decide) rfl (pc1 := 36) rfl (fun _ => ?_) (fun c1 => ?_)
  · refine g_rl0 hc dX12_word_36 rfl (pc2 := 37) rfl ?_
    refine g_callV0 hc (C_X12_lawWord ht) mv_X12_lawWord ln_X12_158 ht ⟨by decide, by decide⟩ (Nat.le_of_ble_eq_true rfl) dX12_word_37 (pc2 := 40) rfl (fun r3 s2 => ?_)
    exact g_iret hc dX12_word_40
  refine g_swc (pc2 := 0) hc dX12_word_4 (c := 1) (by decide) (by decide) rfl (pc1 := 41) rfl (fun _ => ?_) (fun c4 => ?_)
  · refine g_rl0 hc dX12_word_41 rfl (pc2 := 42) rfl ?_
    refine g_callV0 hc (C_X12_heedWord ht) mv_X12_heedWord ln_X12_161 ht ⟨by decide, by decide⟩ (Nat.le_of_ble_eq_true rfl) dX12_word_42 (pc2 := 45) rfl (fun r6 s5 => ?_)
    exact g_iret hc dX12_word_45
  refine g_swc (pc2 := 0) hc dX12_word_4 (c := 2) (by decide) (by decide) rfl (pc1 := 46) rfl (fun _ => ?_) (fun c7 => ?_)
  · refine g_rl0 hc dX12_word_46 rfl (pc2 := 47) rfl ?_
    refine g_callV0 hc (C_X12_planWord ht) mv_X12_planWord ln_X12_164 ht ⟨by decide, by decide⟩ (Nat.le_of_ble_eq_true rfl) dX12_word_47 (pc2 := 50) rfl (fun r9 s8 => ?_)
    exact g_iret hc dX12_word_50
  refine g_swc (pc2 := 0) hc dX12_word_4 (c := 3) (by decide) (by decide) rfl (pc1 := 51) rfl (fun _ => ?_) (fun c10 => ?_)
  · refine g_rl0 hc dX12_word_51 rfl (pc2 := 52) rfl ?_
    refine g_ldcS (i := 54) (tx := "path") hc (by decide +kernel) dX12_word_52 (pc2 := 54) rfl ?_
    refine g_callV1 hc (C_X12_is ht (by decide)) mv_X12_is ln_X12_102 ht ⟨by decide, by decide⟩ (Nat.le_of_ble_eq_true rfl) dX12_word_54 (pc2 := 57) rfl (fun r12 s11 => ?_)
    refine g_if_eq hc dX12_word_57 (pc1 := 65) (pc2 := 60) rfl rfl (fun _ => ?_) (fun _ => ?_)
    · refine g_rl0 hc dX12_word_65 rfl (pc2 := 66) rfl ?_
      refine g_ldcS (i := 45) (tx := "hours") hc (by decide +kernel) dX12_word_66 (pc2 := 68) rfl ?_
      refine g_callV1 hc (C_X12_is ht (by decide)) mv_X12_is ln_X12_102 ht ⟨by decide, by decide⟩ (Nat.le_of_ble_eq_true rfl) dX12_word_68 (pc2 := 71) rfl (fun r15 s14 => ?_)
      refine g_if_eq hc dX12_word_71 (pc1 := 79) (pc2 := 74) rfl rfl (fun _ => ?_) (fun _ => ?_)
      · refine g_iconst hc dX12_word_79 ic_1 (pc2 := 80) rfl ?_
        exact g_iret hc dX12_word_80
      · refine g_bipush hc dX12_word_74 bp_16 (pc2 := 76) rfl ?_
        refine g_goto hc dX12_word_76 (pc2 := 80) rfl ?_
        exact g_iret hc dX12_word_80
    · refine g_bipush hc dX12_word_60 bp_15 (pc2 := 62) rfl ?_
      refine g_goto hc dX12_word_62 (pc2 := 80) rfl ?_
      exact g_iret hc dX12_word_80
  refine g_swd (pc2 := 0) hc dX12_word_4 (fun i a b e => ?_) (pc1 := 81) rfl ?_
  · rcases (show i = 0 ∨ i = 1 ∨ i = 2 ∨ i = 3 by omega) with rfl | rfl | rfl | rfl
    · exact q_swx (c := 0) (by decide) c1 e
    · exact q_swx (c := 1) (by decide) c4 e
    · exact q_swx (c := 2) (by decide) c7 e
    · exact q_swx (c := 3) (by decide) c10 e
  · refine g_rl0 hc dX12_word_81 rfl (pc2 := 82) rfl ?_
    refine g_ldcS (i := 55) (tx := "load") hc (by decide +kernel) dX12_word_82 (pc2 := 84) rfl ?_
    refine g_callV1 hc (C_X12_is ht (by decide)) mv_X12_is ln_X12_102 ht ⟨by decide, by decide⟩ (Nat.le_of_ble_eq_true rfl) dX12_word_84 (pc2 := 87) rfl (fun r18 s17 => ?_)
    refine g_if_eq hc dX12_word_87 (pc1 := 95) (pc2 := 90) rfl rfl (fun _ => ?_) (fun _ => ?_)
    · refine g_rl0 hc dX12_word_95 rfl (pc2 := 96) rfl ?_
      refine g_ldcS (i := 56) (tx := "worth") hc (by decide +kernel) dX12_word_96 (pc2 := 98) rfl ?_
      refine g_callV1 hc (C_X12_is ht (by decide)) mv_X12_is ln_X12_102 ht ⟨by decide, by decide⟩ (Nat.le_of_ble_eq_true rfl) dX12_word_98 (pc2 := 101) rfl (fun r21 s20 => ?_)
      refine g_if_eq hc dX12_word_101 (pc1 := 109) (pc2 := 104) rfl rfl (fun _ => ?_) (fun _ => ?_)
      · refine g_iconst hc dX12_word_109 ic_1 (pc2 := 110) rfl ?_
        exact g_iret hc dX12_word_110
      · refine g_bipush hc dX12_word_104 bp_18 (pc2 := 106) rfl ?_
        refine g_goto hc dX12_word_106 (pc2 := 110) rfl ?_
        exact g_iret hc dX12_word_110
    · refine g_bipush hc dX12_word_90 bp_17 (pc2 := 92) rfl ?_
      refine g_goto hc dX12_word_92 (pc2 := 110) rfl ?_
      exact g_iret hc dX12_word_110
set_option maxRecDepth 100000 in
set_option maxHeartbeats 4000000 in
def f_X12_isDigit (n : Nat) (a0 : Int32) (s0 : q_Sto) : Option (Int32 × q_Sto) :=
  q_call (f_X12_isIn n a0 48 57 s0) fun r2 s1 =>
  q_rz r2 s1
set_option maxRecDepth 100000 in
set_option maxHeartbeats 4000000 in
theorem C_X12_isDigit {l : Launch} {w : q_Wd} {n : Nat} {a0 : Int32}  {s0 : q_Sto} : q_C l w yX12_isDigit cX12_isDigit 1 (some .boolean) (q_rm 1 22) [.int a0] s0 (f_X12_isDigit n a0 s0) := q_CofG [some (.int a0)] (by decide +kernel) rfl rfl (Nat.le_of_ble_eq_true rfl) fun cx hl hc => by
  have hc : q_ok w cx RX12 cX12_isDigit 1 (some .boolean) (q_rm 1 22) := hc
  rw [f_X12_isDigit]
  refine g_il0 hc dX12_isDigit_0 rfl (pc2 := 1) rfl ?_
  refine g_bipush hc dX12_isDigit_1 bp_48 (pc2 := 3) rfl ?_
  refine g_bipush hc dX12_isDigit_3 bp_57 (pc2 := 5) rfl ?_
  refine g_callS3 hc C_X12_isIn mv_X12_isIn ln_X12_56 ⟨by decide, by decide⟩ (Nat.le_of_ble_eq_true rfl) dX12_isDigit_5 (pc2 := 8) rfl (fun r2 s1 => ?_)
  exact g_zret hc dX12_isDigit_8
set_option maxRecDepth 100000 in
set_option maxHeartbeats 4000000 in
def f_X12_next0_L0 (n : Nat) (x0 : Nat) (k39 : q_Sto → Option (Int32 × q_Sto)) : Nat → q_Sto → Option (Int32 × q_Sto)
  | 0, _ => none
  | j + 1, s0 =>
    q_call (f_X12_see n x0 (s0 x0 17) s0) fun r2 s1 =>
    if r2 = 32 then (
    q_nS1 (q_up s1 x0 17 ((s1 x0 17) + 1)) fun s4 =>
    f_X12_next0_L0 n x0 k39 j  s4)
    else (
    q_call (f_X12_see n x0 (s1 x0 17) s1) fun r6 s5 =>
    if r6 = 10 then (
    q_nS1 (q_up s5 x0 17 ((s5 x0 17) + 1)) fun s8 =>
    f_X12_next0_L0 n x0 k39 j  s8)
    else (
    k39 s5))
set_option maxRecDepth 100000 in
set_option maxHeartbeats 4000000 in
def f_X12_next0_L126 (n : Nat) (x0 : Nat) (k189 : q_Sto → Option (Int32 × q_Sto)) : Nat → q_Sto → Option (Int32 × q_Sto)
  | 0, _ => none
  | j + 1, s0 =>
    q_call (f_X12_see n x0 (s0 x0 17) s0) fun r43 s42 =>
    q_call (f_X12_isDigit n r43 s42) fun r45 s44 =>
    if r45 = 0 then (
    k189 s44)
    else (
    if (s44 x0 17) < ((s44 x0 19) + 4) then (
    q_call (f_X12_see n x0 (s44 x0 17) s44) fun r49 s48 =>
    q_nS1 (q_up s48 x0 20 (((10 * (s44 x0 20)) + r49) - 48)) fun s50 =>
    q_nS1 (q_up s50 x0 17 ((s50 x0 17) + 1)) fun s51 =>
    f_X12_next0_L126 n x0 k189 j  s51)
    else (
    q_nS1 (q_up s44 x0 17 ((s44 x0 17) + 1)) fun s52 =>
    f_X12_next0_L126 n x0 k189 j  s52))
set_option maxRecDepth 100000 in
set_option maxHeartbeats 4000000 in
def f_X12_next0_L76 (n : Nat) (x0 : Nat) (k103 : q_Sto → Option (Int32 × q_Sto)) : Nat → q_Sto → Option (Int32 × q_Sto)
  | 0, _ => none
  | j + 1, s0 =>
    q_call (f_X12_see n x0 (s0 x0 17) s0) fun r58 s57 =>
    q_call (f_X12_isLetter n r58 s57) fun r60 s59 =>
    if r60 = 0 then (
    k103 s59)
    else (
    q_nS1 (q_up s59 x0 17 ((s59 x0 17) + 1)) fun s62 =>
    f_X12_next0_L76 n x0 k103 j  s62)
set_option maxRecDepth 100000 in
set_option maxHeartbeats 4000000 in
def f_X12_next0 (n : Nat) (t : Nat) (s0 : q_Sto) : Option (Int32 × q_Sto) :=
  f_X12_next0_L0 n t (fun  (s9 : q_Sto) =>
  q_nS1 (q_up s9 t 19 (s9 t 17)) fun s10 =>
  q_call (f_X12_see n t (s10 t 17) s10) fun r12 s11 =>
  if r12 = (-1) then (
  q_nS1 (q_up s11 t 18 0) fun s14 =>
  some (0, s14))
  else (
  q_call (f_X12_isLetter n r12 s11) fun r16 s15 =>
  if r16 = 0 then (
  q_call (f_X12_isDigit n r12 s15) fun r19 s18 =>
  if r19 = 0 then (
  q_nS1 (q_up s18 t 17 ((s18 t 17) + 1)) fun s21 =>
  q_jn (fun  (s22 : q_Sto) =>
    if (1 : Int32) = 0 then (
    q_nS1 (q_up s22 t 18 1) fun s24 =>
    some (0, s24))
    else (
    q_nS1 (q_up s22 t 18 (100 + r12)) fun s25 =>
    some (0, s25))) fun j284 =>
  q_jn (fun (y26 : Int32) (s27 : q_Sto) =>
    if y26 = 0 then (
    q_nS1 (q_up s27 t 18 1) fun s29 =>
    some (0, s29))
    else (
    q_nS1 (q_up s27 t 18 (100 + r12)) fun s30 =>
    some (0, s30))) fun j289 =>
  if r12 = 59 then (
  j284 s21)
  else (
  if r12 = 43 then (
  j284 s21)
  else (
  if r12 = 45 then (
  j284 s21)
  else (
  if r12 = 42 then (
  j284 s21)
  else (
  if r12 = 47 then (
  j284 s21)
  else (
  if r12 = 40 then (
  j284 s21)
  else (
  if r12 = 41 then (
  j284 s21)
  else (
  if r12 = 60 then (
  j284 s21)
  else (
  if r12 = 61 then (
  j284 s21)
  else (
  if r12 = 62 then (
  j284 s21)
  else (
  j289 0 s21)))))))))))
  else (
  q_nS1 (q_up s18 t 20 0) fun s41 =>
  f_X12_next0_L126 n t (fun  (s53 : q_Sto) =>
  if ((s53 t 17) - (s53 t 19)) < 5 then (
  q_nS1 (q_up s53 t 18 2) fun s55 =>
  some (0, s55))
  else (
  q_nS1 (q_up s53 t 18 1) fun s56 =>
  some (0, s56))) n  s41))
  else (
  f_X12_next0_L76 n t (fun  (s63 : q_Sto) =>
  q_call (f_X12_word n t s63) fun r65 s64 =>
  q_nS1 (q_up s64 t 18 r65) fun s66 =>
  some (0, s66)) n  s15))) n  s0
set_option maxRecDepth 100000 in
set_option maxHeartbeats 4000000 in
theorem t_X12_next0_L0 {w : q_Wd} {cx : q_Cx} (hc : q_ok w cx RX12 cX12_next0 3 (none) (q_rm 10 223)) {n : Nat} {x0 : Nat} (hx0 : q_KD x0 = .inl 12) {k39 : q_Sto → Option (Int32 × q_Sto)} (hk39 : ∀  (s1 : q_Sto), q_G w cx 3 (none) 39 [some (q_rf w x0), none, none] [] s1 (k39 s1)) :
    ∀ (j : Nat)  (s0 : q_Sto), q_G w cx 3 (none) 0 [some (q_rf w x0), none, none] [] s0 (f_X12_next0_L0 n x0 k39 j  s0) := by
  intro j
  induction j with
  | zero =>
    intro _
    rw [f_X12_next0_L0]
    exact q_none
  | succ j ih =>
    intro s0
    rw [f_X12_next0_L0]
    refine g_rl0 hc dX12_next0_0 rfl (pc2 := 1) rfl ?_
    refine g_rl0 hc dX12_next0_1 rfl (pc2 := 2) rfl ?_
    refine g_getI hc fl_X12_84 rfl hx0 dX12_next0_2 (pc2 := 5) rfl ?_
    refine g_callV1 hc (C_X12_see hx0) mv_X12_see ln_X12_173 hx0 ⟨by decide, by decide⟩ (Nat.le_of_ble_eq_true rfl) dX12_next0_5 (pc2 := 8) rfl (fun r2 s1 => ?_)
    refine g_bipush hc dX12_next0_8 bp_32 (pc2 := 10) rfl ?_
    refine g_icmp_eq hc dX12_next0_10 (pc1 := 26) (pc2 := 13) rfl rfl (fun _ => ?_) (fun _ => ?_)
    · refine g_rl0 hc dX12_next0_26 rfl (pc2 := 27) rfl ?_
      refine g_dup hc dX12_next0_27 rfl (pc2 := 28) rfl ?_
      refine g_getI hc fl_X12_84 rfl hx0 dX12_next0_28 (pc2 := 31) rfl ?_
      refine g_iconst hc dX12_next0_31 ic_1 (pc2 := 32) rfl ?_
      refine g_iadd hc dX12_next0_32 (pc2 := 33) rfl ?_
      refine g_putI hc fl_X12_84 rfl hx0 dX12_next0_33 (pc2 := 36) rfl (fun s4 => ?_)
      refine g_goto hc dX12_next0_36 (pc2 := 0) rfl ?_
      exact ih _
    · refine g_rl0 hc dX12_next0_13 rfl (pc2 := 14) rfl ?_
      refine g_rl0 hc dX12_next0_14 rfl (pc2 := 15) rfl ?_
      refine g_getI hc fl_X12_84 rfl hx0 dX12_next0_15 (pc2 := 18) rfl ?_
      refine g_callV1 hc (C_X12_see hx0) mv_X12_see ln_X12_173 hx0 ⟨by decide, by decide⟩ (Nat.le_of_ble_eq_true rfl) dX12_next0_18 (pc2 := 21) rfl (fun r6 s5 => ?_)
      refine g_bipush hc dX12_next0_21 bp_10 (pc2 := 23) rfl ?_
      refine g_icmp_ne hc dX12_next0_23 (pc1 := 26) (pc2 := 39) rfl rfl (fun _ => ?_) (fun _ => ?_)
      · refine g_rl0 hc dX12_next0_26 rfl (pc2 := 27) rfl ?_
        refine g_dup hc dX12_next0_27 rfl (pc2 := 28) rfl ?_
        refine g_getI hc fl_X12_84 rfl hx0 dX12_next0_28 (pc2 := 31) rfl ?_
        refine g_iconst hc dX12_next0_31 ic_1 (pc2 := 32) rfl ?_
        refine g_iadd hc dX12_next0_32 (pc2 := 33) rfl ?_
        refine g_putI hc fl_X12_84 rfl hx0 dX12_next0_33 (pc2 := 36) rfl (fun s8 => ?_)
        refine g_goto hc dX12_next0_36 (pc2 := 0) rfl ?_
        exact ih _
      · exact hk39 _
set_option maxRecDepth 100000 in
set_option maxHeartbeats 4000000 in
theorem t_X12_next0_L126 {w : q_Wd} {cx : q_Cx} (hc : q_ok w cx RX12 cX12_next0 3 (none) (q_rm 10 223)) {n : Nat} {x0 : Nat} (hx0 : q_KD x0 = .inl 12) {k189 : q_Sto → Option (Int32 × q_Sto)} (hk189 : ∀  (s1 : q_Sto), q_G w cx 3 (none) 189 [some (q_rf w x0), none, none] [] s1 (k189 s1)) :
    ∀ (j : Nat)  (s0 : q_Sto), q_G w cx 3 (none) 126 [some (q_rf w x0), none, none] [] s0 (f_X12_next0_L126 n x0 k189 j  s0) := by
  intro j
  induction j with
  | zero =>
    intro _
    rw [f_X12_next0_L126]
    exact q_none
  | succ j ih =>
    intro s0
    rw [f_X12_next0_L126]
    refine g_rl0 hc dX12_next0_126 rfl (pc2 := 127) rfl ?_
    refine g_rl0 hc dX12_next0_127 rfl (pc2 := 128) rfl ?_
    refine g_getI hc fl_X12_84 rfl hx0 dX12_next0_128 (pc2 := 131) rfl ?_
    refine g_callV1 hc (C_X12_see hx0) mv_X12_see ln_X12_173 hx0 ⟨by decide, by decide⟩ (Nat.le_of_ble_eq_true rfl) dX12_next0_131 (pc2 := 134) rfl (fun r43 s42 => ?_)
    refine g_callS1 hc C_X12_isDigit mv_X12_isDigit ln_X12_186 ⟨by decide, by decide⟩ (Nat.le_of_ble_eq_true rfl) dX12_next0_134 (pc2 := 137) rfl (fun r45 s44 => ?_)
    refine g_if_eq hc dX12_next0_137 (pc1 := 189) (pc2 := 140) rfl rfl (fun _ => ?_) (fun _ => ?_)
    · exact hk189 _
    · refine g_rl0 hc dX12_next0_140 rfl (pc2 := 141) rfl ?_
      refine g_getI hc fl_X12_84 rfl hx0 dX12_next0_141 (pc2 := 144) rfl ?_
      refine g_rl0 hc dX12_next0_144 rfl (pc2 := 145) rfl ?_
      refine g_getI hc fl_X12_87 rfl hx0 dX12_next0_145 (pc2 := 148) rfl ?_
      refine g_iconst hc dX12_next0_148 ic_4 (pc2 := 149) rfl ?_
      refine g_iadd hc dX12_next0_149 (pc2 := 150) rfl ?_
      refine g_icmp_ge hc dX12_next0_150 (pc1 := 153) (pc2 := 176) rfl rfl (fun _ => ?_) (fun _ => ?_)
      · refine g_rl0 hc dX12_next0_153 rfl (pc2 := 154) rfl ?_
        refine g_bipush hc dX12_next0_154 bp_10 (pc2 := 156) rfl ?_
        refine g_rl0 hc dX12_next0_156 rfl (pc2 := 157) rfl ?_
        refine g_getI hc fl_X12_189 rfl hx0 dX12_next0_157 (pc2 := 160) rfl ?_
        refine g_imul hc dX12_next0_160 (pc2 := 161) rfl ?_
        refine g_rl0 hc dX12_next0_161 rfl (pc2 := 162) rfl ?_
        refine g_rl0 hc dX12_next0_162 rfl (pc2 := 163) rfl ?_
        refine g_getI hc fl_X12_84 rfl hx0 dX12_next0_163 (pc2 := 166) rfl ?_
        refine g_callV1 hc (C_X12_see hx0) mv_X12_see ln_X12_173 hx0 ⟨by decide, by decide⟩ (Nat.le_of_ble_eq_true rfl) dX12_next0_166 (pc2 := 169) rfl (fun r49 s48 => ?_)
        refine g_iadd hc dX12_next0_169 (pc2 := 170) rfl ?_
        refine g_bipush hc dX12_next0_170 bp_48 (pc2 := 172) rfl ?_
        refine g_isub hc dX12_next0_172 (pc2 := 173) rfl ?_
        refine g_putI hc fl_X12_189 rfl hx0 dX12_next0_173 (pc2 := 176) rfl (fun s50 => ?_)
        refine g_rl0 hc dX12_next0_176 rfl (pc2 := 177) rfl ?_
        refine g_dup hc dX12_next0_177 rfl (pc2 := 178) rfl ?_
        refine g_getI hc fl_X12_84 rfl hx0 dX12_next0_178 (pc2 := 181) rfl ?_
        refine g_iconst hc dX12_next0_181 ic_1 (pc2 := 182) rfl ?_
        refine g_iadd hc dX12_next0_182 (pc2 := 183) rfl ?_
        refine g_putI hc fl_X12_84 rfl hx0 dX12_next0_183 (pc2 := 186) rfl (fun s51 => ?_)
        refine g_goto hc dX12_next0_186 (pc2 := 126) rfl ?_
        exact ih _
      · refine g_rl0 hc dX12_next0_176 rfl (pc2 := 177) rfl ?_
        refine g_dup hc dX12_next0_177 rfl (pc2 := 178) rfl ?_
        refine g_getI hc fl_X12_84 rfl hx0 dX12_next0_178 (pc2 := 181) rfl ?_
        refine g_iconst hc dX12_next0_181 ic_1 (pc2 := 182) rfl ?_
        refine g_iadd hc dX12_next0_182 (pc2 := 183) rfl ?_
        refine g_putI hc fl_X12_84 rfl hx0 dX12_next0_183 (pc2 := 186) rfl (fun s52 => ?_)
        refine g_goto hc dX12_next0_186 (pc2 := 126) rfl ?_
        exact ih _
set_option maxRecDepth 100000 in
set_option maxHeartbeats 4000000 in
theorem t_X12_next0_L76 {w : q_Wd} {cx : q_Cx} (hc : q_ok w cx RX12 cX12_next0 3 (none) (q_rm 10 223)) {n : Nat} {x0 : Nat} (hx0 : q_KD x0 = .inl 12) {k103 : q_Sto → Option (Int32 × q_Sto)} (hk103 : ∀  (s1 : q_Sto), q_G w cx 3 (none) 103 [some (q_rf w x0), none, none] [] s1 (k103 s1)) :
    ∀ (j : Nat)  (s0 : q_Sto), q_G w cx 3 (none) 76 [some (q_rf w x0), none, none] [] s0 (f_X12_next0_L76 n x0 k103 j  s0) := by
  intro j
  induction j with
  | zero =>
    intro _
    rw [f_X12_next0_L76]
    exact q_none
  | succ j ih =>
    intro s0
    rw [f_X12_next0_L76]
    refine g_rl0 hc dX12_next0_76 rfl (pc2 := 77) rfl ?_
    refine g_rl0 hc dX12_next0_77 rfl (pc2 := 78) rfl ?_
    refine g_getI hc fl_X12_84 rfl hx0 dX12_next0_78 (pc2 := 81) rfl ?_
    refine g_callV1 hc (C_X12_see hx0) mv_X12_see ln_X12_173 hx0 ⟨by decide, by decide⟩ (Nat.le_of_ble_eq_true rfl) dX12_next0_81 (pc2 := 84) rfl (fun r58 s57 => ?_)
    refine g_callS1 hc C_X12_isLetter mv_X12_isLetter ln_X12_180 ⟨by decide, by decide⟩ (Nat.le_of_ble_eq_true rfl) dX12_next0_84 (pc2 := 87) rfl (fun r60 s59 => ?_)
    refine g_if_eq hc dX12_next0_87 (pc1 := 103) (pc2 := 90) rfl rfl (fun _ => ?_) (fun _ => ?_)
    · exact hk103 _
    · refine g_rl0 hc dX12_next0_90 rfl (pc2 := 91) rfl ?_
      refine g_dup hc dX12_next0_91 rfl (pc2 := 92) rfl ?_
      refine g_getI hc fl_X12_84 rfl hx0 dX12_next0_92 (pc2 := 95) rfl ?_
      refine g_iconst hc dX12_next0_95 ic_1 (pc2 := 96) rfl ?_
      refine g_iadd hc dX12_next0_96 (pc2 := 97) rfl ?_
      refine g_putI hc fl_X12_84 rfl hx0 dX12_next0_97 (pc2 := 100) rfl (fun s62 => ?_)
      refine g_goto hc dX12_next0_100 (pc2 := 76) rfl ?_
      exact ih _
set_option maxRecDepth 100000 in
set_option maxHeartbeats 4000000 in
theorem C_X12_next0 {l : Launch} {w : q_Wd} {n : Nat} {t : Nat} (ht : q_KD t = .inl 12) {s0 : q_Sto} : q_C l w yX12_next0 cX12_next0 3 (none) (q_rm 10 223) [q_rf w t] s0 (f_X12_next0 n t s0) := q_CofG [some (q_rf w t), none, none] (by decide +kernel) rfl rfl (Nat.le_of_ble_eq_true rfl) fun cx hl hc => by
  have hc : q_ok w cx RX12 cX12_next0 3 (none) (q_rm 10 223) := hc
  rw [f_X12_next0]
  refine t_X12_next0_L0 hc ht (fun s9 => ?_) n  _
  refine g_rl0 hc dX12_next0_39 rfl (pc2 := 40) rfl ?_
  refine g_rl0 hc dX12_next0_40 rfl (pc2 := 41) rfl ?_
  refine g_getI hc fl_X12_84 rfl ht dX12_next0_41 (pc2 := 44) rfl ?_
  refine g_putI hc fl_X12_87 rfl ht dX12_next0_44 (pc2 := 47) rfl (fun s10 => ?_)
  refine g_rl0 hc dX12_next0_47 rfl (pc2 := 48) rfl ?_
  refine g_rl0 hc dX12_next0_48 rfl (pc2 := 49) rfl ?_
  refine g_getI hc fl_X12_84 rfl ht dX12_next0_49 (pc2 := 52) rfl ?_
  refine g_callV1 hc (C_X12_see ht) mv_X12_see ln_X12_173 ht ⟨by decide, by decide⟩ (Nat.le_of_ble_eq_true rfl) dX12_next0_52 (pc2 := 55) rfl (fun r12 s11 => ?_)
  refine g_is1 hc dX12_next0_55 (by decide) (L2 := [some (q_rf w t), some (.int r12), none]) rfl (pc2 := 56) rfl ?_
  refine g_il1 hc dX12_next0_56 rfl (pc2 := 57) rfl ?_
  refine g_iconst hc dX12_next0_57 ic_m1 (pc2 := 58) rfl ?_
  refine g_icmp_ne hc dX12_next0_58 (pc1 := 61) (pc2 := 69) rfl rfl (fun _ => ?_) (fun _ => ?_)
  · refine g_rl0 hc dX12_next0_61 rfl (pc2 := 62) rfl ?_
    refine g_iconst hc dX12_next0_62 ic_0 (pc2 := 63) rfl ?_
    refine g_putI hc fl_X12_177 rfl ht dX12_next0_63 (pc2 := 66) rfl (fun s14 => ?_)
    refine g_goto hc dX12_next0_66 (pc2 := 306) rfl ?_
    exact g_vret hc dX12_next0_306
  · refine g_il1 hc dX12_next0_69 rfl (pc2 := 70) rfl ?_
    refine g_callS1 hc C_X12_isLetter mv_X12_isLetter ln_X12_180 ⟨by decide, by decide⟩ (Nat.le_of_ble_eq_true rfl) dX12_next0_70 (pc2 := 73) rfl (fun r16 s15 => ?_)
    refine g_if_eq hc dX12_next0_73 (pc1 := 114) (pc2 := 76) rfl rfl (fun _ => ?_) (fun _ => ?_)
    · refine g_il1 hc dX12_next0_114 rfl (pc2 := 115) rfl ?_
      refine g_callS1 hc C_X12_isDigit mv_X12_isDigit ln_X12_186 ⟨by decide, by decide⟩ (Nat.le_of_ble_eq_true rfl) dX12_next0_115 (pc2 := 118) rfl (fun r19 s18 => ?_)
      refine g_if_eq hc dX12_next0_118 (pc1 := 214) (pc2 := 121) rfl rfl (fun _ => ?_) (fun _ => ?_)
      · refine g_rl0 hc dX12_next0_214 rfl (pc2 := 215) rfl ?_
        refine g_dup hc dX12_next0_215 rfl (pc2 := 216) rfl ?_
        refine g_getI hc fl_X12_84 rfl ht dX12_next0_216 (pc2 := 219) rfl ?_
        refine g_iconst hc dX12_next0_219 ic_1 (pc2 := 220) rfl ?_
        refine g_iadd hc dX12_next0_220 (pc2 := 221) rfl ?_
        refine g_putI hc fl_X12_84 rfl ht dX12_next0_221 (pc2 := 224) rfl (fun s21 => ?_)
        refine g_il1 hc dX12_next0_224 rfl (pc2 := 225) rfl ?_
        refine g_bipush hc dX12_next0_225 bp_59 (pc2 := 227) rfl ?_
        refine g_jn (P := fun j284 => ∀  (s22 : q_Sto), q_G w cx 3 (none) 284 [some (q_rf w t), some (.int r12), none] [] s22 (j284 s22)) (fun s22 => ?_) (fun j284 hj284 => ?_)
        · refine g_iconst hc dX12_next0_284 ic_1 (pc2 := 285) rfl ?_
          refine g_goto hc dX12_next0_285 (pc2 := 289) rfl ?_
          refine g_is2 hc dX12_next0_289 (by decide) (L2 := [some (q_rf w t), some (.int r12), some (.int 1)]) rfl (pc2 := 290) rfl ?_
          refine g_rl0 hc dX12_next0_290 rfl (pc2 := 291) rfl ?_
          refine g_il2 hc dX12_next0_291 rfl (pc2 := 292) rfl ?_
          refine g_if_eq hc dX12_next0_292 (pc1 := 302) (pc2 := 295) rfl rfl (fun _ => ?_) (fun _ => ?_)
          · refine g_iconst hc dX12_next0_302 ic_1 (pc2 := 303) rfl ?_
            refine g_putI hc fl_X12_177 rfl ht dX12_next0_303 (pc2 := 306) rfl (fun s24 => ?_)
            exact g_vret hc dX12_next0_306
          · refine g_bipush hc dX12_next0_295 bp_100 (pc2 := 297) rfl ?_
            refine g_il1 hc dX12_next0_297 rfl (pc2 := 298) rfl ?_
            refine g_iadd hc dX12_next0_298 (pc2 := 299) rfl ?_
            refine g_goto hc dX12_next0_299 (pc2 := 303) rfl ?_
            refine g_putI hc fl_X12_177 rfl ht dX12_next0_303 (pc2 := 306) rfl (fun s25 => ?_)
            exact g_vret hc dX12_next0_306
        · refine g_jn (P := fun j289 => ∀ (y26 : Int32) (s27 : q_Sto), q_G w cx 3 (none) 289 [some (q_rf w t), some (.int r12), none] [.int y26] s27 (j289 y26 s27)) (fun y26 s27 => ?_) (fun j289 hj289 => ?_)
          · refine g_is2 hc dX12_next0_289 (by decide) (L2 := [some (q_rf w t), some (.int r12), some (.int y26)]) rfl (pc2 := 290) rfl ?_
            refine g_rl0 hc dX12_next0_290 rfl (pc2 := 291) rfl ?_
            refine g_il2 hc dX12_next0_291 rfl (pc2 := 292) rfl ?_
            refine g_if_eq hc dX12_next0_292 (pc1 := 302) (pc2 := 295) rfl rfl (fun _ => ?_) (fun _ => ?_)
            · refine g_iconst hc dX12_next0_302 ic_1 (pc2 := 303) rfl ?_
              refine g_putI hc fl_X12_177 rfl ht dX12_next0_303 (pc2 := 306) rfl (fun s29 => ?_)
              exact g_vret hc dX12_next0_306
            · refine g_bipush hc dX12_next0_295 bp_100 (pc2 := 297) rfl ?_
              refine g_il1 hc dX12_next0_297 rfl (pc2 := 298) rfl ?_
              refine g_iadd hc dX12_next0_298 (pc2 := 299) rfl ?_
              refine g_goto hc dX12_next0_299 (pc2 := 303) rfl ?_
              refine g_putI hc fl_X12_177 rfl ht dX12_next0_303 (pc2 := 306) rfl (fun s30 => ?_)
              exact g_vret hc dX12_next0_306
          · refine g_icmp_eq hc dX12_next0_227 (pc1 := 284) (pc2 := 230) rfl rfl (fun _ => ?_) (fun _ => ?_)
            · exact hj284 _
            · refine g_il1 hc dX12_next0_230 rfl (pc2 := 231) rfl ?_
              refine g_bipush hc dX12_next0_231 bp_43 (pc2 := 233) rfl ?_
              refine g_icmp_eq hc dX12_next0_233 (pc1 := 284) (pc2 := 236) rfl rfl (fun _ => ?_) (fun _ => ?_)
              · exact hj284 _
              · refine g_il1 hc dX12_next0_236 rfl (pc2 := 237) rfl ?_
                refine g_bipush hc dX12_next0_237 bp_45 (pc2 := 239) rfl ?_
                refine g_icmp_eq hc dX12_next0_239 (pc1 := 284) (pc2 := 242) rfl rfl (fun _ => ?_) (fun _ => ?_)
                · exact hj284 _
                · refine g_il1 hc dX12_next0_242 rfl (pc2 := 243) rfl ?_
                  refine g_bipush hc dX12_next0_243 bp_42 (pc2 := 245) rfl ?_
                  refine g_icmp_eq hc dX12_next0_245 (pc1 := 284) (pc2 := 248) rfl rfl (fun _ => ?_) (fun _ => ?_)
                  · exact hj284 _
                  · refine g_il1 hc dX12_next0_248 rfl (pc2 := 249) rfl ?_
                    refine g_bipush hc dX12_next0_249 bp_47 (pc2 := 251) rfl ?_
                    refine g_icmp_eq hc dX12_next0_251 (pc1 := 284) (pc2 := 254) rfl rfl (fun _ => ?_) (fun _ => ?_)
                    · exact hj284 _
                    · refine g_il1 hc dX12_next0_254 rfl (pc2 := 255) rfl ?_
                      refine g_bipush hc dX12_next0_255 bp_40 (pc2 := 257) rfl ?_
                      refine g_icmp_eq hc dX12_next0_257 (pc1 := 284) (pc2 := 260) rfl rfl (fun _ => ?_) (fun _ => ?_)
                      · exact hj284 _
                      · refine g_il1 hc dX12_next0_260 rfl (pc2 := 261) rfl ?_
                        refine g_bipush hc dX12_next0_261 bp_41 (pc2 := 263) rfl ?_
                        refine g_icmp_eq hc dX12_next0_263 (pc1 := 284) (pc2 := 266) rfl rfl (fun _ => ?_) (fun _ => ?_)
                        · exact hj284 _
                        · refine g_il1 hc dX12_next0_266 rfl (pc2 := 267) rfl ?_
                          refine g_bipush hc dX12_next0_267 bp_60 (pc2 := 269) rfl ?_
                          refine g_icmp_eq hc dX12_next0_269 (pc1 := 284) (pc2 := 272) rfl rfl (fun _ => ?_) (fun _ => ?_)
                          · exact hj284 _
                          · refine g_il1 hc dX12_next0_272 rfl (pc2 := 273) rfl ?_
                            refine g_bipush hc dX12_next0_273 bp_61 (pc2 := 275) rfl ?_
                            refine g_icmp_eq hc dX12_next0_275 (pc1 := 284) (pc2 := 278) rfl rfl (fun _ => ?_) (fun _ => ?_)
                            · exact hj284 _
                            · refine g_il1 hc dX12_next0_278 rfl (pc2 := 279) rfl ?_
                              refine g_bipush hc dX12_next0_279 bp_62 (pc2 := 281) rfl ?_
                              refine g_icmp_ne hc dX12_next0_281 (pc1 := 284) (pc2 := 288) rfl rfl (fun _ => ?_) (fun _ => ?_)
                              · exact hj284 _
                              · refine g_iconst hc dX12_next0_288 ic_0 (pc2 := 289) rfl ?_
                                exact hj289 _ _
      · refine g_rl0 hc dX12_next0_121 rfl (pc2 := 122) rfl ?_
        refine g_iconst hc dX12_next0_122 ic_0 (pc2 := 123) rfl ?_
        refine g_putI hc fl_X12_189 rfl ht dX12_next0_123 (pc2 := 126) rfl (fun s41 => ?_)
        refine q_Gmask [true, false, true] (L2 := [some (q_rf w t), none, none]) rfl ?_
        refine t_X12_next0_L126 hc ht (fun s53 => ?_) n  _
        refine g_rl0 hc dX12_next0_189 rfl (pc2 := 190) rfl ?_
        refine g_rl0 hc dX12_next0_190 rfl (pc2 := 191) rfl ?_
        refine g_getI hc fl_X12_84 rfl ht dX12_next0_191 (pc2 := 194) rfl ?_
        refine g_rl0 hc dX12_next0_194 rfl (pc2 := 195) rfl ?_
        refine g_getI hc fl_X12_87 rfl ht dX12_next0_195 (pc2 := 198) rfl ?_
        refine g_isub hc dX12_next0_198 (pc2 := 199) rfl ?_
        refine g_iconst hc dX12_next0_199 ic_5 (pc2 := 200) rfl ?_
        refine g_icmp_ge hc dX12_next0_200 (pc1 := 203) (pc2 := 207) rfl rfl (fun _ => ?_) (fun _ => ?_)
        · refine g_iconst hc dX12_next0_203 ic_2 (pc2 := 204) rfl ?_
          refine g_goto hc dX12_next0_204 (pc2 := 208) rfl ?_
          refine g_putI hc fl_X12_177 rfl ht dX12_next0_208 (pc2 := 211) rfl (fun s55 => ?_)
          refine g_goto hc dX12_next0_211 (pc2 := 306) rfl ?_
          exact g_vret hc dX12_next0_306
        · refine g_iconst hc dX12_next0_207 ic_1 (pc2 := 208) rfl ?_
          refine g_putI hc fl_X12_177 rfl ht dX12_next0_208 (pc2 := 211) rfl (fun s56 => ?_)
          refine g_goto hc dX12_next0_211 (pc2 := 306) rfl ?_
          exact g_vret hc dX12_next0_306
    · refine q_Gmask [true, false, true] (L2 := [some (q_rf w t), none, none]) rfl ?_
      refine t_X12_next0_L76 hc ht (fun s63 => ?_) n  _
      refine g_rl0 hc dX12_next0_103 rfl (pc2 := 104) rfl ?_
      refine g_rl0 hc dX12_next0_104 rfl (pc2 := 105) rfl ?_
      refine g_callV0 hc (C_X12_word ht) mv_X12_word ln_X12_183 ht ⟨by decide, by decide⟩ (Nat.le_of_ble_eq_true rfl) dX12_next0_105 (pc2 := 108) rfl (fun r65 s64 => ?_)
      refine g_putI hc fl_X12_177 rfl ht dX12_next0_108 (pc2 := 111) rfl (fun s66 => ?_)
      refine g_goto hc dX12_next0_111 (pc2 := 306) rfl ?_
      exact g_vret hc dX12_next0_306
set_option maxRecDepth 100000 in
set_option maxHeartbeats 4000000 in
def f_X12_opens (n : Nat) (t : Nat) (s0 : q_Sto) : Option (Int32 × q_Sto) :=
  if (s0 t 24) = 8 then (
  q_call (f_X12_bad n t 3 s0) fun r3 s2 =>
  q_rz r3 s2)
  else (
  q_nS1 (q_up s0 t 24 ((s0 t 24) + 1)) fun s4 =>
  q_callv (f_X12_next0 n t s4) fun s5 =>
  some (1, s5))
set_option maxRecDepth 100000 in
set_option maxHeartbeats 4000000 in
theorem C_X12_opens {l : Launch} {w : q_Wd} {n : Nat} {t : Nat} (ht : q_KD t = .inl 12) {s0 : q_Sto} : q_C l w yX12_opens cX12_opens 1 (some .boolean) (q_rm 11 245) [q_rf w t] s0 (f_X12_opens n t s0) := q_CofG [some (q_rf w t)] (by decide +kernel) rfl rfl (Nat.le_of_ble_eq_true rfl) fun cx hl hc => by
  have hc : q_ok w cx RX12 cX12_opens 1 (some .boolean) (q_rm 11 245) := hc
  rw [f_X12_opens]
  refine g_rl0 hc dX12_opens_0 rfl (pc2 := 1) rfl ?_
  refine g_getI hc fl_X12_207 rfl ht dX12_opens_1 (pc2 := 4) rfl ?_
  refine g_bipush hc dX12_opens_4 bp_8 (pc2 := 6) rfl ?_
  refine g_icmp_ne hc dX12_opens_6 (pc1 := 9) (pc2 := 15) rfl rfl (fun _ => ?_) (fun _ => ?_)
  · refine g_rl0 hc dX12_opens_9 rfl (pc2 := 10) rfl ?_
    refine g_iconst hc dX12_opens_10 ic_3 (pc2 := 11) rfl ?_
    refine g_callV1 hc (C_X12_bad ht) mv_X12_bad ln_X12_198 ht ⟨by decide, by decide⟩ (Nat.le_of_ble_eq_true rfl) dX12_opens_11 (pc2 := 14) rfl (fun r3 s2 => ?_)
    exact g_zret hc dX12_opens_14
  · refine g_rl0 hc dX12_opens_15 rfl (pc2 := 16) rfl ?_
    refine g_dup hc dX12_opens_16 rfl (pc2 := 17) rfl ?_
    refine g_getI hc fl_X12_207 rfl ht dX12_opens_17 (pc2 := 20) rfl ?_
    refine g_iconst hc dX12_opens_20 ic_1 (pc2 := 21) rfl ?_
    refine g_iadd hc dX12_opens_21 (pc2 := 22) rfl ?_
    refine g_putI hc fl_X12_207 rfl ht dX12_opens_22 (pc2 := 25) rfl (fun s4 => ?_)
    refine g_rl0 hc dX12_opens_25 rfl (pc2 := 26) rfl ?_
    refine g_callV0v hc (C_X12_next0 ht) mv_X12_next0 ln_X12_201 ht ⟨by decide, by decide⟩ (Nat.le_of_ble_eq_true rfl) dX12_opens_26 (pc2 := 29) rfl (fun s5 => ?_)
    refine g_iconst hc dX12_opens_29 ic_1 (pc2 := 30) rfl ?_
    exact g_zret0 (by decide) hc dX12_opens_30
set_option maxRecDepth 100000 in
set_option maxHeartbeats 4000000 in
def f_X12_unit (n : Nat) (t : Nat) (s0 : q_Sto) : Option (Int32 × q_Sto) :=
  q_call (f_X12_isIn n (s0 t 18) 41 50 s0) fun r2 s1 =>
  q_jn (fun  (s3 : q_Sto) =>
    if r2 = 0 then (
    q_callv (f_X12_lay n t 0 (s3 t 20) s3) fun s5 =>
    q_callv (f_X12_next0 n t s5) fun s7 =>
    some (1, s7))
    else (
    q_callv (f_X12_lay n t ((s3 t 18) - 40) (s3 t 20) s3) fun s9 =>
    q_callv (f_X12_next0 n t s9) fun s11 =>
    some (1, s11))) fun j30 =>
  if (s1 t 18) = 2 then (
  j30 s1)
  else (
  if r2 = 0 then (
  q_call (f_X12_bad n t 1 s1) fun r16 s15 =>
  q_rz r16 s15)
  else (
  j30 s1))
set_option maxRecDepth 100000 in
set_option maxHeartbeats 4000000 in
theorem C_X12_unit {l : Launch} {w : q_Wd} {n : Nat} {t : Nat} (ht : q_KD t = .inl 12) {s0 : q_Sto} : q_C l w yX12_unit cX12_unit 2 (some .boolean) (q_rm 11 245) [q_rf w t] s0 (f_X12_unit n t s0) := q_CofG [some (q_rf w t), none] (by decide +kernel) rfl rfl (Nat.le_of_ble_eq_true rfl) fun cx hl hc => by
  have hc : q_ok w cx RX12 cX12_unit 2 (some .boolean) (q_rm 11 245) := hc
  rw [f_X12_unit]
  refine g_rl0 hc dX12_unit_0 rfl (pc2 := 1) rfl ?_
  refine g_getI hc fl_X12_177 rfl ht dX12_unit_1 (pc2 := 4) rfl ?_
  refine g_bipush hc dX12_unit_4 bp_41 (pc2 := 6) rfl ?_
  refine g_bipush hc dX12_unit_6 bp_50 (pc2 := 8) rfl ?_
  refine g_callS3 hc C_X12_isIn mv_X12_isIn ln_X12_56 ⟨by decide, by decide⟩ (Nat.le_of_ble_eq_true rfl) dX12_unit_8 (pc2 := 11) rfl (fun r2 s1 => ?_)
  refine g_is1 hc dX12_unit_11 (by decide) (L2 := [some (q_rf w t), some (.int r2)]) rfl (pc2 := 12) rfl ?_
  refine g_rl0 hc dX12_unit_12 rfl (pc2 := 13) rfl ?_
  refine g_getI hc fl_X12_177 rfl ht dX12_unit_13 (pc2 := 16) rfl ?_
  refine g_iconst hc dX12_unit_16 ic_2 (pc2 := 17) rfl ?_
  refine g_jn (P := fun j30 => ∀  (s3 : q_Sto), q_G w cx 2 (some .boolean) 30 [some (q_rf w t), some (.int r2)] [] s3 (j30 s3)) (fun s3 => ?_) (fun j30 hj30 => ?_)
  · refine g_rl0 hc dX12_unit_30 rfl (pc2 := 31) rfl ?_
    refine g_il1 hc dX12_unit_31 rfl (pc2 := 32) rfl ?_
    refine g_if_eq hc dX12_unit_32 (pc1 := 45) (pc2 := 35) rfl rfl (fun _ => ?_) (fun _ => ?_)
    · refine g_iconst hc dX12_unit_45 ic_0 (pc2 := 46) rfl ?_
      refine g_rl0 hc dX12_unit_46 rfl (pc2 := 47) rfl ?_
      refine g_getI hc fl_X12_189 rfl ht dX12_unit_47 (pc2 := 50) rfl ?_
      refine g_callV2v hc (C_X12_lay ht) mv_X12_lay ln_X12_214 ht ⟨by decide, by decide⟩ (Nat.le_of_ble_eq_true rfl) dX12_unit_50 (pc2 := 53) rfl (fun s5 => ?_)
      refine g_rl0 hc dX12_unit_53 rfl (pc2 := 54) rfl ?_
      refine g_callV0v hc (C_X12_next0 ht) mv_X12_next0 ln_X12_201 ht ⟨by decide, by decide⟩ (Nat.le_of_ble_eq_true rfl) dX12_unit_54 (pc2 := 57) rfl (fun s7 => ?_)
      refine g_iconst hc dX12_unit_57 ic_1 (pc2 := 58) rfl ?_
      exact g_zret0 (by decide) hc dX12_unit_58
    · refine g_rl0 hc dX12_unit_35 rfl (pc2 := 36) rfl ?_
      refine g_getI hc fl_X12_177 rfl ht dX12_unit_36 (pc2 := 39) rfl ?_
      refine g_bipush hc dX12_unit_39 bp_40 (pc2 := 41) rfl ?_
      refine g_isub hc dX12_unit_41 (pc2 := 42) rfl ?_
      refine g_goto hc dX12_unit_42 (pc2 := 46) rfl ?_
      refine g_rl0 hc dX12_unit_46 rfl (pc2 := 47) rfl ?_
      refine g_getI hc fl_X12_189 rfl ht dX12_unit_47 (pc2 := 50) rfl ?_
      refine g_callV2v hc (C_X12_lay ht) mv_X12_lay ln_X12_214 ht ⟨by decide, by decide⟩ (Nat.le_of_ble_eq_true rfl) dX12_unit_50 (pc2 := 53) rfl (fun s9 => ?_)
      refine g_rl0 hc dX12_unit_53 rfl (pc2 := 54) rfl ?_
      refine g_callV0v hc (C_X12_next0 ht) mv_X12_next0 ln_X12_201 ht ⟨by decide, by decide⟩ (Nat.le_of_ble_eq_true rfl) dX12_unit_54 (pc2 := 57) rfl (fun s11 => ?_)
      refine g_iconst hc dX12_unit_57 ic_1 (pc2 := 58) rfl ?_
      exact g_zret0 (by decide) hc dX12_unit_58
  · refine g_icmp_eq hc dX12_unit_17 (pc1 := 30) (pc2 := 20) rfl rfl (fun _ => ?_) (fun _ => ?_)
    · exact hj30 _
    · refine g_il1 hc dX12_unit_20 rfl (pc2 := 21) rfl ?_
      refine g_if_ne hc dX12_unit_21 (pc1 := 24) (pc2 := 30) rfl rfl (fun _ => ?_) (fun _ => ?_)
      · refine g_rl0 hc dX12_unit_24 rfl (pc2 := 25) rfl ?_
        refine g_iconst hc dX12_unit_25 ic_1 (pc2 := 26) rfl ?_
        refine g_callV1 hc (C_X12_bad ht) mv_X12_bad ln_X12_198 ht ⟨by decide, by decide⟩ (Nat.le_of_ble_eq_true rfl) dX12_unit_26 (pc2 := 29) rfl (fun r16 s15 => ?_)
        exact g_zret hc dX12_unit_29
      · exact hj30 _
set_option maxRecDepth 100000 in
set_option maxHeartbeats 4000000 in
def f_X12_product_L9 (n : Nat) (x0 : Nat) : Nat → q_Sto → Option (Int32 × q_Sto)
  | 0, _ => none
  | j + 1, s0 =>
    q_jn (fun  (s4 : q_Sto) =>
      q_jn (fun (y5 : Int32) (s6 : q_Sto) =>
        q_callv (f_X12_next0 n x0 s6) fun s7 =>
        if y5 = 0 then (
        q_call (f_X12_unit n x0 s7) fun r11 s10 =>
        if r11 = 0 then (
        some (0, s10))
        else (
        q_callv (f_X12_lay n x0 25 0 s10) fun s13 =>
        f_X12_product_L9 n x0  j  s13))
        else (
        q_nm (s7 x0 20) fun v15 =>
        if (s7 x0 18) = 2 then (
        if v15 = 0 then (
        q_call (f_X12_bad n x0 2 s7) fun r19 s18 =>
        q_rz r19 s18)
        else (
        q_callv (f_X12_next0 n x0 s7) fun s20 =>
        q_callv (f_X12_lay n x0 26 v15 s20) fun s22 =>
        f_X12_product_L9 n x0  j  s22))
        else (
        q_call (f_X12_bad n x0 1 s7) fun r25 s24 =>
        q_rz r25 s24))) fun j44 =>
      if (s4 x0 18) = 147 then (
      j44 1 s4)
      else (
      j44 0 s4)) fun j29 =>
    if (s0 x0 18) = 142 then (
    j29 s0)
    else (
    if (s0 x0 18) = 147 then (
    j29 s0)
    else (
    some (1, s0)))
set_option maxRecDepth 100000 in
set_option maxHeartbeats 4000000 in
def f_X12_product (n : Nat) (t : Nat) (s0 : q_Sto) : Option (Int32 × q_Sto) :=
  q_call (f_X12_unit n t s0) fun r2 s1 =>
  if r2 = 0 then (
  some (0, s1))
  else (
  f_X12_product_L9 n t  n  s1)
set_option maxRecDepth 100000 in
set_option maxHeartbeats 4000000 in
theorem t_X12_product_L9 {w : q_Wd} {cx : q_Cx} (hc : q_ok w cx RX12 cX12_product 3 (some .boolean) (q_rm 12 266)) {n : Nat} {x0 : Nat} (hx0 : q_KD x0 = .inl 12)   :
    ∀ (j : Nat)  (s0 : q_Sto), q_G w cx 3 (some .boolean) 9 [some (q_rf w x0), none, none] [] s0 (f_X12_product_L9 n x0  j  s0) := by
  intro j
  induction j with
  | zero =>
    intro _
    rw [f_X12_product_L9]
    exact q_none
  | succ j ih =>
    intro s0
    rw [f_X12_product_L9]
    refine g_rl0 hc dX12_product_9 rfl (pc2 := 10) rfl ?_
    refine g_getI hc fl_X12_177 rfl hx0 dX12_product_10 (pc2 := 13) rfl ?_
    refine g_sipush hc dX12_product_13 sp_142 (pc2 := 16) rfl ?_
    refine g_jn (P := fun j29 => ∀  (s4 : q_Sto), q_G w cx 3 (some .boolean) 29 [some (q_rf w x0), none, none] [] s4 (j29 s4)) (fun s4 => ?_) (fun j29 hj29 => ?_)
    · refine g_rl0 hc dX12_product_29 rfl (pc2 := 30) rfl ?_
      refine g_getI hc fl_X12_177 rfl hx0 dX12_product_30 (pc2 := 33) rfl ?_
      refine g_sipush hc dX12_product_33 sp_147 (pc2 := 36) rfl ?_
      refine g_jn (P := fun j44 => ∀ (y5 : Int32) (s6 : q_Sto), q_G w cx 3 (some .boolean) 44 [some (q_rf w x0), none, none] [.int y5] s6 (j44 y5 s6)) (fun y5 s6 => ?_) (fun j44 hj44 => ?_)
      · refine g_is1 hc dX12_product_44 (by decide) (L2 := [some (q_rf w x0), some (.int y5), none]) rfl (pc2 := 45) rfl ?_
        refine g_rl0 hc dX12_product_45 rfl (pc2 := 46) rfl ?_
        refine g_callV0v hc (C_X12_next0 hx0) mv_X12_next0 ln_X12_201 hx0 ⟨by decide, by decide⟩ (Nat.le_of_ble_eq_true rfl) dX12_product_46 (pc2 := 49) rfl (fun s7 => ?_)
        refine g_il1 hc dX12_product_49 rfl (pc2 := 50) rfl ?_
        refine g_if_eq hc dX12_product_50 (pc1 := 96) (pc2 := 53) rfl rfl (fun _ => ?_) (fun _ => ?_)
        · refine g_rl0 hc dX12_product_96 rfl (pc2 := 97) rfl ?_
          refine g_callV0 hc (C_X12_unit hx0) mv_X12_unit ln_X12_218 hx0 ⟨by decide, by decide⟩ (Nat.le_of_ble_eq_true rfl) dX12_product_97 (pc2 := 100) rfl (fun r11 s10 => ?_)
          refine g_if_ne hc dX12_product_100 (pc1 := 103) (pc2 := 105) rfl rfl (fun _ => ?_) (fun _ => ?_)
          · refine g_iconst hc dX12_product_103 ic_0 (pc2 := 104) rfl ?_
            exact g_zret0 (by decide) hc dX12_product_104
          · refine g_rl0 hc dX12_product_105 rfl (pc2 := 106) rfl ?_
            refine g_bipush hc dX12_product_106 bp_25 (pc2 := 108) rfl ?_
            refine g_iconst hc dX12_product_108 ic_0 (pc2 := 109) rfl ?_
            refine g_callV2v hc (C_X12_lay hx0) mv_X12_lay ln_X12_214 hx0 ⟨by decide, by decide⟩ (Nat.le_of_ble_eq_true rfl) dX12_product_109 (pc2 := 112) rfl (fun s13 => ?_)
            refine g_goto hc dX12_product_112 (pc2 := 9) rfl ?_
            refine q_Gmask [true, false, true] (L2 := [some (q_rf w x0), none, none]) rfl ?_
            exact ih _
        · refine g_rl0 hc dX12_product_53 rfl (pc2 := 54) rfl ?_
          refine g_getI hc fl_X12_189 rfl hx0 dX12_product_54 (pc2 := 57) rfl ?_
          refine g_nm (fun v15 => ?_)
          refine g_is2 hc dX12_product_57 (by decide) (L2 := [some (q_rf w x0), some (.int y5), some (.int v15)]) rfl (pc2 := 58) rfl ?_
          refine g_rl0 hc dX12_product_58 rfl (pc2 := 59) rfl ?_
          refine g_getI hc fl_X12_177 rfl hx0 dX12_product_59 (pc2 := 62) rfl ?_
          refine g_iconst hc dX12_product_62 ic_2 (pc2 := 63) rfl ?_
          refine g_icmp_eq hc dX12_product_63 (pc1 := 72) (pc2 := 66) rfl rfl (fun _ => ?_) (fun _ => ?_)
          · refine g_il2 hc dX12_product_72 rfl (pc2 := 73) rfl ?_
            refine g_if_ne hc dX12_product_73 (pc1 := 76) (pc2 := 82) rfl rfl (fun _ => ?_) (fun _ => ?_)
            · refine g_rl0 hc dX12_product_76 rfl (pc2 := 77) rfl ?_
              refine g_iconst hc dX12_product_77 ic_2 (pc2 := 78) rfl ?_
              refine g_callV1 hc (C_X12_bad hx0) mv_X12_bad ln_X12_198 hx0 ⟨by decide, by decide⟩ (Nat.le_of_ble_eq_true rfl) dX12_product_78 (pc2 := 81) rfl (fun r19 s18 => ?_)
              exact g_zret hc dX12_product_81
            · refine g_rl0 hc dX12_product_82 rfl (pc2 := 83) rfl ?_
              refine g_callV0v hc (C_X12_next0 hx0) mv_X12_next0 ln_X12_201 hx0 ⟨by decide, by decide⟩ (Nat.le_of_ble_eq_true rfl) dX12_product_83 (pc2 := 86) rfl (fun s20 => ?_)
              refine g_rl0 hc dX12_product_86 rfl (pc2 := 87) rfl ?_
              refine g_bipush hc dX12_product_87 bp_26 (pc2 := 89) rfl ?_
              refine g_il2 hc dX12_product_89 rfl (pc2 := 90) rfl ?_
              refine g_callV2v hc (C_X12_lay hx0) mv_X12_lay ln_X12_214 hx0 ⟨by decide, by decide⟩ (Nat.le_of_ble_eq_true rfl) dX12_product_90 (pc2 := 93) rfl (fun s22 => ?_)
              refine g_goto hc dX12_product_93 (pc2 := 112) rfl ?_
              refine g_goto hc dX12_product_112 (pc2 := 9) rfl ?_
              refine q_Gmask [true, false, false] (L2 := [some (q_rf w x0), none, none]) rfl ?_
              exact ih _
          · refine g_rl0 hc dX12_product_66 rfl (pc2 := 67) rfl ?_
            refine g_iconst hc dX12_product_67 ic_1 (pc2 := 68) rfl ?_
            refine g_callV1 hc (C_X12_bad hx0) mv_X12_bad ln_X12_198 hx0 ⟨by decide, by decide⟩ (Nat.le_of_ble_eq_true rfl) dX12_product_68 (pc2 := 71) rfl (fun r25 s24 => ?_)
            exact g_zret hc dX12_product_71
      · refine g_icmp_ne hc dX12_product_36 (pc1 := 39) (pc2 := 43) rfl rfl (fun _ => ?_) (fun _ => ?_)
        · refine g_iconst hc dX12_product_39 ic_1 (pc2 := 40) rfl ?_
          refine g_goto hc dX12_product_40 (pc2 := 44) rfl ?_
          exact hj44 _ _
        · refine g_iconst hc dX12_product_43 ic_0 (pc2 := 44) rfl ?_
          exact hj44 _ _
    · refine g_icmp_eq hc dX12_product_16 (pc1 := 29) (pc2 := 19) rfl rfl (fun _ => ?_) (fun _ => ?_)
      · exact hj29 _
      · refine g_rl0 hc dX12_product_19 rfl (pc2 := 20) rfl ?_
        refine g_getI hc fl_X12_177 rfl hx0 dX12_product_20 (pc2 := 23) rfl ?_
        refine g_sipush hc dX12_product_23 sp_147 (pc2 := 26) rfl ?_
        refine g_icmp_ne hc dX12_product_26 (pc1 := 29) (pc2 := 115) rfl rfl (fun _ => ?_) (fun _ => ?_)
        · exact hj29 _
        · refine g_iconst hc dX12_product_115 ic_1 (pc2 := 116) rfl ?_
          exact g_zret0 (by decide) hc dX12_product_116
set_option maxRecDepth 100000 in
set_option maxHeartbeats 4000000 in
theorem C_X12_product {l : Launch} {w : q_Wd} {n : Nat} {t : Nat} (ht : q_KD t = .inl 12) {s0 : q_Sto} : q_C l w yX12_product cX12_product 3 (some .boolean) (q_rm 12 266) [q_rf w t] s0 (f_X12_product n t s0) := q_CofG [some (q_rf w t), none, none] (by decide +kernel) rfl rfl (Nat.le_of_ble_eq_true rfl) fun cx hl hc => by
  have hc : q_ok w cx RX12 cX12_product 3 (some .boolean) (q_rm 12 266) := hc
  rw [f_X12_product]
  refine g_rl0 hc dX12_product_0 rfl (pc2 := 1) rfl ?_
  refine g_callV0 hc (C_X12_unit ht) mv_X12_unit ln_X12_218 ht ⟨by decide, by decide⟩ (Nat.le_of_ble_eq_true rfl) dX12_product_1 (pc2 := 4) rfl (fun r2 s1 => ?_)
  refine g_if_ne hc dX12_product_4 (pc1 := 7) (pc2 := 9) rfl rfl (fun _ => ?_) (fun _ => ?_)
  · refine g_iconst hc dX12_product_7 ic_0 (pc2 := 8) rfl ?_
    exact g_zret0 (by decide) hc dX12_product_8
  · refine t_X12_product_L9 hc ht  n  _
set_option maxRecDepth 100000 in
set_option maxHeartbeats 4000000 in
def f_X12_sumUp_L9 (n : Nat) (x0 : Nat) : Nat → q_Sto → Option (Int32 × q_Sto)
  | 0, _ => none
  | j + 1, s0 =>
    q_jn (fun  (s4 : q_Sto) =>
      q_jn (fun (y5 : Int32) (s6 : q_Sto) =>
        q_callv (f_X12_next0 n x0 s6) fun s7 =>
        q_call (f_X12_product n x0 s7) fun r10 s9 =>
        if r10 = 0 then (
        some (0, s9))
        else (
        q_callv (f_X12_lay n x0 y5 0 s9) fun s12 =>
        f_X12_sumUp_L9 n x0  j  s12)) fun j46 =>
      if (s4 x0 18) = 143 then (
      j46 23 s4)
      else (
      j46 24 s4)) fun j29 =>
    if (s0 x0 18) = 143 then (
    j29 s0)
    else (
    if (s0 x0 18) = 145 then (
    j29 s0)
    else (
    some (1, s0)))
set_option maxRecDepth 100000 in
set_option maxHeartbeats 4000000 in
def f_X12_sumUp (n : Nat) (t : Nat) (s0 : q_Sto) : Option (Int32 × q_Sto) :=
  q_call (f_X12_product n t s0) fun r2 s1 =>
  if r2 = 0 then (
  some (0, s1))
  else (
  f_X12_sumUp_L9 n t  n  s1)
set_option maxRecDepth 100000 in
set_option maxHeartbeats 4000000 in
theorem t_X12_sumUp_L9 {w : q_Wd} {cx : q_Cx} (hc : q_ok w cx RX12 cX12_sumUp 2 (some .boolean) (q_rm 13 288)) {n : Nat} {x0 : Nat} (hx0 : q_KD x0 = .inl 12)   :
    ∀ (j : Nat)  (s0 : q_Sto), q_G w cx 2 (some .boolean) 9 [some (q_rf w x0), none] [] s0 (f_X12_sumUp_L9 n x0  j  s0) := by
  intro j
  induction j with
  | zero =>
    intro _
    rw [f_X12_sumUp_L9]
    exact q_none
  | succ j ih =>
    intro s0
    rw [f_X12_sumUp_L9]
    refine g_rl0 hc dX12_sumUp_9 rfl (pc2 := 10) rfl ?_
    refine g_getI hc fl_X12_177 rfl hx0 dX12_sumUp_10 (pc2 := 13) rfl ?_
    refine g_sipush hc dX12_sumUp_13 sp_143 (pc2 := 16) rfl ?_
    refine g_jn (P := fun j29 => ∀  (s4 : q_Sto), q_G w cx 2 (some .boolean) 29 [some (q_rf w x0), none] [] s4 (j29 s4)) (fun s4 => ?_) (fun j29 hj29 => ?_)
    · refine g_rl0 hc dX12_sumUp_29 rfl (pc2 := 30) rfl ?_
      refine g_getI hc fl_X12_177 rfl hx0 dX12_sumUp_30 (pc2 := 33) rfl ?_
      refine g_sipush hc dX12_sumUp_33 sp_143 (pc2 := 36) rfl ?_
      refine g_jn (P := fun j46 => ∀ (y5 : Int32) (s6 : q_Sto), q_G w cx 2 (some .boolean) 46 [some (q_rf w x0), none] [.int y5] s6 (j46 y5 s6)) (fun y5 s6 => ?_) (fun j46 hj46 => ?_)
      · refine g_is1 hc dX12_sumUp_46 (by decide) (L2 := [some (q_rf w x0), some (.int y5)]) rfl (pc2 := 47) rfl ?_
        refine g_rl0 hc dX12_sumUp_47 rfl (pc2 := 48) rfl ?_
        refine g_callV0v hc (C_X12_next0 hx0) mv_X12_next0 ln_X12_201 hx0 ⟨by decide, by decide⟩ (Nat.le_of_ble_eq_true rfl) dX12_sumUp_48 (pc2 := 51) rfl (fun s7 => ?_)
        refine g_rl0 hc dX12_sumUp_51 rfl (pc2 := 52) rfl ?_
        refine g_callV0 hc (C_X12_product hx0) mv_X12_product ln_X12_210 hx0 ⟨by decide, by decide⟩ (Nat.le_of_ble_eq_true rfl) dX12_sumUp_52 (pc2 := 55) rfl (fun r10 s9 => ?_)
        refine g_if_ne hc dX12_sumUp_55 (pc1 := 58) (pc2 := 60) rfl rfl (fun _ => ?_) (fun _ => ?_)
        · refine g_iconst hc dX12_sumUp_58 ic_0 (pc2 := 59) rfl ?_
          exact g_zret0 (by decide) hc dX12_sumUp_59
        · refine g_rl0 hc dX12_sumUp_60 rfl (pc2 := 61) rfl ?_
          refine g_il1 hc dX12_sumUp_61 rfl (pc2 := 62) rfl ?_
          refine g_iconst hc dX12_sumUp_62 ic_0 (pc2 := 63) rfl ?_
          refine g_callV2v hc (C_X12_lay hx0) mv_X12_lay ln_X12_214 hx0 ⟨by decide, by decide⟩ (Nat.le_of_ble_eq_true rfl) dX12_sumUp_63 (pc2 := 66) rfl (fun s12 => ?_)
          refine g_goto hc dX12_sumUp_66 (pc2 := 9) rfl ?_
          refine q_Gmask [true, false] (L2 := [some (q_rf w x0), none]) rfl ?_
          exact ih _
      · refine g_icmp_ne hc dX12_sumUp_36 (pc1 := 39) (pc2 := 44) rfl rfl (fun _ => ?_) (fun _ => ?_)
        · refine g_bipush hc dX12_sumUp_39 bp_23 (pc2 := 41) rfl ?_
          refine g_goto hc dX12_sumUp_41 (pc2 := 46) rfl ?_
          exact hj46 _ _
        · refine g_bipush hc dX12_sumUp_44 bp_24 (pc2 := 46) rfl ?_
          exact hj46 _ _
    · refine g_icmp_eq hc dX12_sumUp_16 (pc1 := 29) (pc2 := 19) rfl rfl (fun _ => ?_) (fun _ => ?_)
      · exact hj29 _
      · refine g_rl0 hc dX12_sumUp_19 rfl (pc2 := 20) rfl ?_
        refine g_getI hc fl_X12_177 rfl hx0 dX12_sumUp_20 (pc2 := 23) rfl ?_
        refine g_sipush hc dX12_sumUp_23 sp_145 (pc2 := 26) rfl ?_
        refine g_icmp_ne hc dX12_sumUp_26 (pc1 := 29) (pc2 := 69) rfl rfl (fun _ => ?_) (fun _ => ?_)
        · exact hj29 _
        · refine g_iconst hc dX12_sumUp_69 ic_1 (pc2 := 70) rfl ?_
          exact g_zret0 (by decide) hc dX12_sumUp_70
set_option maxRecDepth 100000 in
set_option maxHeartbeats 4000000 in
theorem C_X12_sumUp {l : Launch} {w : q_Wd} {n : Nat} {t : Nat} (ht : q_KD t = .inl 12) {s0 : q_Sto} : q_C l w yX12_sumUp cX12_sumUp 2 (some .boolean) (q_rm 13 288) [q_rf w t] s0 (f_X12_sumUp n t s0) := q_CofG [some (q_rf w t), none] (by decide +kernel) rfl rfl (Nat.le_of_ble_eq_true rfl) fun cx hl hc => by
  have hc : q_ok w cx RX12 cX12_sumUp 2 (some .boolean) (q_rm 13 288) := hc
  rw [f_X12_sumUp]
  refine g_rl0 hc dX12_sumUp_0 rfl (pc2 := 1) rfl ?_
  refine g_callV0 hc (C_X12_product ht) mv_X12_product ln_X12_210 ht ⟨by decide, by decide⟩ (Nat.le_of_ble_eq_true rfl) dX12_sumUp_1 (pc2 := 4) rfl (fun r2 s1 => ?_)
  refine g_if_ne hc dX12_sumUp_4 (pc1 := 7) (pc2 := 9) rfl rfl (fun _ => ?_) (fun _ => ?_)
  · refine g_iconst hc dX12_sumUp_7 ic_0 (pc2 := 8) rfl ?_
    exact g_zret0 (by decide) hc dX12_sumUp_8
  · refine t_X12_sumUp_L9 hc ht  n  _
set_option maxRecDepth 100000 in
set_option maxHeartbeats 4000000 in
def f_X12_need (n : Nat) (t : Nat) (a0 : Int32) (s0 : q_Sto) : Option (Int32 × q_Sto) :=
  if (s0 t 18) = a0 then (
  q_callv (f_X12_next0 n t s0) fun s2 =>
  some (1, s2))
  else (
  q_call (f_X12_bad n t 1 s0) fun r5 s4 =>
  q_rz r5 s4)
set_option maxRecDepth 100000 in
set_option maxHeartbeats 4000000 in
theorem C_X12_need {l : Launch} {w : q_Wd} {n : Nat} {t : Nat} {a0 : Int32} (ht : q_KD t = .inl 12) {s0 : q_Sto} : q_C l w yX12_need cX12_need 2 (some .boolean) (q_rm 11 245) [q_rf w t, .int a0] s0 (f_X12_need n t a0 s0) := q_CofG [some (q_rf w t), some (.int a0)] (by decide +kernel) rfl rfl (Nat.le_of_ble_eq_true rfl) fun cx hl hc => by
  have hc : q_ok w cx RX12 cX12_need 2 (some .boolean) (q_rm 11 245) := hc
  rw [f_X12_need]
  refine g_rl0 hc dX12_need_0 rfl (pc2 := 1) rfl ?_
  refine g_getI hc fl_X12_177 rfl ht dX12_need_1 (pc2 := 4) rfl ?_
  refine g_il1 hc dX12_need_4 rfl (pc2 := 5) rfl ?_
  refine g_icmp_eq hc dX12_need_5 (pc1 := 14) (pc2 := 8) rfl rfl (fun _ => ?_) (fun _ => ?_)
  · refine g_rl0 hc dX12_need_14 rfl (pc2 := 15) rfl ?_
    refine g_callV0v hc (C_X12_next0 ht) mv_X12_next0 ln_X12_201 ht ⟨by decide, by decide⟩ (Nat.le_of_ble_eq_true rfl) dX12_need_15 (pc2 := 18) rfl (fun s2 => ?_)
    refine g_iconst hc dX12_need_18 ic_1 (pc2 := 19) rfl ?_
    exact g_zret0 (by decide) hc dX12_need_19
  · refine g_rl0 hc dX12_need_8 rfl (pc2 := 9) rfl ?_
    refine g_iconst hc dX12_need_9 ic_1 (pc2 := 10) rfl ?_
    refine g_callV1 hc (C_X12_bad ht) mv_X12_bad ln_X12_198 ht ⟨by decide, by decide⟩ (Nat.le_of_ble_eq_true rfl) dX12_need_10 (pc2 := 13) rfl (fun r5 s4 => ?_)
    exact g_zret hc dX12_need_13
set_option maxRecDepth 100000 in
set_option maxHeartbeats 4000000 in
def f_X12_every_L9 (n : Nat) (ot : q_Sto → Option (Int32 × q_Sto)) (x0 : Nat) : Nat → q_Sto → Option (Int32 × q_Sto)
  | 0, _ => none
  | j + 1, s0 =>
    if (s0 x0 18) = 5 then (
    q_callv (f_X12_next0 n x0 s0) fun s5 =>
    q_call (ot s5) fun r8 s7 =>
    if r8 = 0 then (
    some (0, s7))
    else (
    q_callv (f_X12_lay n x0 31 0 s7) fun s10 =>
    f_X12_every_L9 n ot x0  j  s10))
    else (
    some (1, s0))
set_option maxRecDepth 100000 in
set_option maxHeartbeats 4000000 in
def f_X12_every (n : Nat) (ot : q_Sto → Option (Int32 × q_Sto)) (t : Nat) (s0 : q_Sto) : Option (Int32 × q_Sto) :=
  q_call (ot s0) fun r2 s1 =>
  if r2 = 0 then (
  some (0, s1))
  else (
  f_X12_every_L9 n ot t  n  s1)
set_option maxRecDepth 100000 in
set_option maxHeartbeats 4000000 in
theorem t_X12_every_L9 {w : q_Wd} {cx : q_Cx} {ot : q_Sto → Option (Int32 × q_Sto)} {Fo Lo : Nat} (hc : q_ok w cx RX12 cX12_every 1 (some .boolean) (q_rm (Fo + 1) (Lo + 40))) {n : Nat} {x0 : Nat} (hx0 : q_KD x0 = .inl 12) (hF : 30 ≤ Fo) (hL : 1500 ≤ Lo) (hot : ∀ s, q_C cx.2.1 w yX12_oneTest cX12_oneTest 2 (some .boolean) (q_rm Fo Lo) [q_rf w x0] s (ot s))   :
    ∀ (j : Nat)  (s0 : q_Sto), q_G w cx 1 (some .boolean) 9 [some (q_rf w x0)] [] s0 (f_X12_every_L9 n ot x0  j  s0) := by
  intro j
  induction j with
  | zero =>
    intro _
    rw [f_X12_every_L9]
    exact q_none
  | succ j ih =>
    intro s0
    rw [f_X12_every_L9]
    refine g_rl0 hc dX12_every_9 rfl (pc2 := 10) rfl ?_
    refine g_getI hc fl_X12_177 rfl hx0 dX12_every_10 (pc2 := 13) rfl ?_
    refine g_iconst hc dX12_every_13 ic_5 (pc2 := 14) rfl ?_
    refine g_icmp_ne hc dX12_every_14 (pc1 := 17) (pc2 := 40) rfl rfl (fun _ => ?_) (fun _ => ?_)
    · refine g_rl0 hc dX12_every_17 rfl (pc2 := 18) rfl ?_
      refine g_callV0v hc (C_X12_next0 hx0) mv_X12_next0 ln_X12_201 hx0 ⟨by omega, by omega⟩ (Nat.le_of_ble_eq_true rfl) dX12_every_18 (pc2 := 21) rfl (fun s5 => ?_)
      refine g_rl0 hc dX12_every_21 rfl (pc2 := 22) rfl ?_
      refine g_callV0 hc (hot _) mv_X12_oneTest ln_X12_224 hx0 ⟨by omega, by omega⟩ (Nat.le_of_ble_eq_true rfl) dX12_every_22 (pc2 := 25) rfl (fun r8 s7 => ?_)
      refine g_if_ne hc dX12_every_25 (pc1 := 28) (pc2 := 30) rfl rfl (fun _ => ?_) (fun _ => ?_)
      · refine g_iconst hc dX12_every_28 ic_0 (pc2 := 29) rfl ?_
        exact g_zret0 (by decide) hc dX12_every_29
      · refine g_rl0 hc dX12_every_30 rfl (pc2 := 31) rfl ?_
        refine g_bipush hc dX12_every_31 bp_31 (pc2 := 33) rfl ?_
        refine g_iconst hc dX12_every_33 ic_0 (pc2 := 34) rfl ?_
        refine g_callV2v hc (C_X12_lay hx0) mv_X12_lay ln_X12_214 hx0 ⟨by omega, by omega⟩ (Nat.le_of_ble_eq_true rfl) dX12_every_34 (pc2 := 37) rfl (fun s10 => ?_)
        refine g_goto hc dX12_every_37 (pc2 := 9) rfl ?_
        exact ih _
    · refine g_iconst hc dX12_every_40 ic_1 (pc2 := 41) rfl ?_
      exact g_zret0 (by decide) hc dX12_every_41
set_option maxRecDepth 100000 in
set_option maxHeartbeats 4000000 in
theorem C_X12_every {l : Launch} {w : q_Wd} {n : Nat} {t : Nat} (ht : q_KD t = .inl 12) {ot : q_Sto → Option (Int32 × q_Sto)} {Fo Lo : Nat} (hF : 30 ≤ Fo) (hL : 1500 ≤ Lo) (hot : ∀ s, q_C l w yX12_oneTest cX12_oneTest 2 (some .boolean) (q_rm Fo Lo) [q_rf w t] s (ot s)) {s0 : q_Sto} : q_C l w yX12_every cX12_every 1 (some .boolean) (q_rm (Fo + 1) (Lo + 40)) [q_rf w t] s0 (f_X12_every n ot t s0) := q_CofG [some (q_rf w t)] (by decide +kernel) rfl rfl (Nat.le_of_ble_eq_true rfl) fun cx hl hc => by
  have hc : q_ok w cx RX12 cX12_every 1 (some .boolean) (q_rm (Fo + 1) (Lo + 40)) := hc
  subst hl
  rw [f_X12_every]
  refine g_rl0 hc dX12_every_0 rfl (pc2 := 1) rfl ?_
  refine g_callV0 hc (hot _) mv_X12_oneTest ln_X12_224 ht ⟨by omega, by omega⟩ (Nat.le_of_ble_eq_true rfl) dX12_every_1 (pc2 := 4) rfl (fun r2 s1 => ?_)
  refine g_if_ne hc dX12_every_4 (pc1 := 7) (pc2 := 9) rfl rfl (fun _ => ?_) (fun _ => ?_)
  · refine g_iconst hc dX12_every_7 ic_0 (pc2 := 8) rfl ?_
    exact g_zret0 (by decide) hc dX12_every_8
  · refine t_X12_every_L9 hc ht hF hL hot  n  _
set_option maxRecDepth 100000 in
set_option maxHeartbeats 4000000 in
def f_X12_any_L9 (n : Nat) (ot : q_Sto → Option (Int32 × q_Sto)) (x0 : Nat) : Nat → q_Sto → Option (Int32 × q_Sto)
  | 0, _ => none
  | j + 1, s0 =>
    if (s0 x0 18) = 4 then (
    q_callv (f_X12_next0 n x0 s0) fun s5 =>
    q_call (f_X12_every n ot x0 s5) fun r8 s7 =>
    if r8 = 0 then (
    some (0, s7))
    else (
    q_callv (f_X12_lay n x0 32 0 s7) fun s10 =>
    f_X12_any_L9 n ot x0  j  s10))
    else (
    some (1, s0))
set_option maxRecDepth 100000 in
set_option maxHeartbeats 4000000 in
def f_X12_any (n : Nat) (ot : q_Sto → Option (Int32 × q_Sto)) (t : Nat) (s0 : q_Sto) : Option (Int32 × q_Sto) :=
  q_call (f_X12_every n ot t s0) fun r2 s1 =>
  if r2 = 0 then (
  some (0, s1))
  else (
  f_X12_any_L9 n ot t  n  s1)
set_option maxRecDepth 100000 in
set_option maxHeartbeats 4000000 in
theorem t_X12_any_L9 {w : q_Wd} {cx : q_Cx} {ot : q_Sto → Option (Int32 × q_Sto)} {Fo Lo : Nat} (hc : q_ok w cx RX12 cX12_any 1 (some .boolean) (q_rm (Fo + 2) (Lo + 80))) {n : Nat} {x0 : Nat} (hx0 : q_KD x0 = .inl 12) (hF : 30 ≤ Fo) (hL : 1500 ≤ Lo) (hot : ∀ s, q_C cx.2.1 w yX12_oneTest cX12_oneTest 2 (some .boolean) (q_rm Fo Lo) [q_rf w x0] s (ot s))   :
    ∀ (j : Nat)  (s0 : q_Sto), q_G w cx 1 (some .boolean) 9 [some (q_rf w x0)] [] s0 (f_X12_any_L9 n ot x0  j  s0) := by
  intro j
  induction j with
  | zero =>
    intro _
    rw [f_X12_any_L9]
    exact q_none
  | succ j ih =>
    intro s0
    rw [f_X12_any_L9]
    refine g_rl0 hc dX12_any_9 rfl (pc2 := 10) rfl ?_
    refine g_getI hc fl_X12_177 rfl hx0 dX12_any_10 (pc2 := 13) rfl ?_
    refine g_iconst hc dX12_any_13 ic_4 (pc2 := 14) rfl ?_
    refine g_icmp_ne hc dX12_any_14 (pc1 := 17) (pc2 := 40) rfl rfl (fun _ => ?_) (fun _ => ?_)
    · refine g_rl0 hc dX12_any_17 rfl (pc2 := 18) rfl ?_
      refine g_callV0v hc (C_X12_next0 hx0) mv_X12_next0 ln_X12_201 hx0 ⟨by omega, by omega⟩ (Nat.le_of_ble_eq_true rfl) dX12_any_18 (pc2 := 21) rfl (fun s5 => ?_)
      refine g_rl0 hc dX12_any_21 rfl (pc2 := 22) rfl ?_
      refine g_callV0 hc (C_X12_every hx0 hF hL hot) mv_X12_every ln_X12_221 hx0 ⟨by omega, by omega⟩ (Nat.le_of_ble_eq_true rfl) dX12_any_22 (pc2 := 25) rfl (fun r8 s7 => ?_)
      refine g_if_ne hc dX12_any_25 (pc1 := 28) (pc2 := 30) rfl rfl (fun _ => ?_) (fun _ => ?_)
      · refine g_iconst hc dX12_any_28 ic_0 (pc2 := 29) rfl ?_
        exact g_zret0 (by decide) hc dX12_any_29
      · refine g_rl0 hc dX12_any_30 rfl (pc2 := 31) rfl ?_
        refine g_bipush hc dX12_any_31 bp_32 (pc2 := 33) rfl ?_
        refine g_iconst hc dX12_any_33 ic_0 (pc2 := 34) rfl ?_
        refine g_callV2v hc (C_X12_lay hx0) mv_X12_lay ln_X12_214 hx0 ⟨by omega, by omega⟩ (Nat.le_of_ble_eq_true rfl) dX12_any_34 (pc2 := 37) rfl (fun s10 => ?_)
        refine g_goto hc dX12_any_37 (pc2 := 9) rfl ?_
        exact ih _
    · refine g_iconst hc dX12_any_40 ic_1 (pc2 := 41) rfl ?_
      exact g_zret0 (by decide) hc dX12_any_41
set_option maxRecDepth 100000 in
set_option maxHeartbeats 4000000 in
theorem C_X12_any {l : Launch} {w : q_Wd} {n : Nat} {t : Nat} (ht : q_KD t = .inl 12) {ot : q_Sto → Option (Int32 × q_Sto)} {Fo Lo : Nat} (hF : 30 ≤ Fo) (hL : 1500 ≤ Lo) (hot : ∀ s, q_C l w yX12_oneTest cX12_oneTest 2 (some .boolean) (q_rm Fo Lo) [q_rf w t] s (ot s)) {s0 : q_Sto} : q_C l w yX12_any cX12_any 1 (some .boolean) (q_rm (Fo + 2) (Lo + 80)) [q_rf w t] s0 (f_X12_any n ot t s0) := q_CofG [some (q_rf w t)] (by decide +kernel) rfl rfl (Nat.le_of_ble_eq_true rfl) fun cx hl hc => by
  have hc : q_ok w cx RX12 cX12_any 1 (some .boolean) (q_rm (Fo + 2) (Lo + 80)) := hc
  subst hl
  rw [f_X12_any]
  refine g_rl0 hc dX12_any_0 rfl (pc2 := 1) rfl ?_
  refine g_callV0 hc (C_X12_every ht hF hL hot) mv_X12_every ln_X12_221 ht ⟨by omega, by omega⟩ (Nat.le_of_ble_eq_true rfl) dX12_any_1 (pc2 := 4) rfl (fun r2 s1 => ?_)
  refine g_if_ne hc dX12_any_4 (pc1 := 7) (pc2 := 9) rfl rfl (fun _ => ?_) (fun _ => ?_)
  · refine g_iconst hc dX12_any_7 ic_0 (pc2 := 8) rfl ?_
    exact g_zret0 (by decide) hc dX12_any_8
  · refine t_X12_any_L9 hc ht hF hL hot  n  _
