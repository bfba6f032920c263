set_option maxRecDepth 100000 in
set_option maxHeartbeats 4000000 in
def f_X3_rank (n : Nat) (a0 : Int32) (s0 : q_Sto) : Option (Int32 × q_Sto) :=
  if a0 = 2 then (
  some (6, s0))
  else
  if a0 = 3 then (
  some (6, s0))
  else
  if a0 = 4 then (
  some (5, s0))
  else
  if a0 = 5 then (
  some (5, s0))
  else
  if a0 = 9 then (
  some (3, s0))
  else
  if a0 = 10 then (
  some (2, s0))
  else
  if a0 = 11 then (
  some (1, s0))
  else
  if a0 = 12 then (
  some (0, s0))
  else
  (some (4, s0))
set_option maxRecDepth 100000 in
set_option maxHeartbeats 4000000 in
theorem C_X3_rank {l : Launch} {w : q_Wd} {n : Nat} {a0 : Int32}  {s0 : q_Sto} : q_C l w yX3_rank cX3_rank 1 (some .int) (q_rm 0 0) [.int a0] s0 (f_X3_rank n a0 s0) := q_CofG [some (.int a0)] (by decide +kernel) rfl rfl (Nat.le_of_ble_eq_true rfl) fun cx hl hc => by
  have hc : q_ok w cx RX3 cX3_rank 1 (some .int) (q_rm 0 0) := hc
  rw [f_X3_rank]
  refine g_il0 hc dX3_rank_0 rfl (pc2 := 1) rfl ?_
  refine g_swc (pc2 := 0) hc dX3_rank_1 (c := 2) (by decide) (by decide) rfl (pc1 := 70) rfl (fun _ => ?_) (fun c1 => ?_)
  · refine g_bipush hc dX3_rank_70 bp_6 (pc2 := 72) rfl ?_
    exact g_iret hc dX3_rank_72
  refine g_swc (pc2 := 0) hc dX3_rank_1 (c := 3) (by decide) (by decide) rfl (pc1 := 70) rfl (fun _ => ?_) (fun c2 => ?_)
  · refine g_bipush hc dX3_rank_70 bp_6 (pc2 := 72) rfl ?_
    exact g_iret hc dX3_rank_72
  refine g_swc (pc2 := 0) hc dX3_rank_1 (c := 4) (by decide) (by decide) rfl (pc1 := 68) rfl (fun _ => ?_) (fun c3 => ?_)
  · refine g_iconst hc dX3_rank_68 ic_5 (pc2 := 69) rfl ?_
    exact g_iret hc dX3_rank_69
  refine g_swc (pc2 := 0) hc dX3_rank_1 (c := 5) (by decide) (by decide) rfl (pc1 := 68) rfl (fun _ => ?_) (fun c4 => ?_)
  · refine g_iconst hc dX3_rank_68 ic_5 (pc2 := 69) rfl ?_
    exact g_iret hc dX3_rank_69
  refine g_swc (pc2 := 0) hc dX3_rank_1 (c := 9) (by decide) (by decide) rfl (pc1 := 66) rfl (fun _ => ?_) (fun c5 => ?_)
  · refine g_iconst hc dX3_rank_66 ic_3 (pc2 := 67) rfl ?_
    exact g_iret hc dX3_rank_67
  refine g_swc (pc2 := 0) hc dX3_rank_1 (c := 10) (by decide) (by decide) rfl (pc1 := 64) rfl (fun _ => ?_) (fun c6 => ?_)
  · refine g_iconst hc dX3_rank_64 ic_2 (pc2 := 65) rfl ?_
    exact g_iret hc dX3_rank_65
  refine g_swc (pc2 := 0) hc dX3_rank_1 (c := 11) (by decide) (by decide) rfl (pc1 := 62) rfl (fun _ => ?_) (fun c7 => ?_)
  · refine g_iconst hc dX3_rank_62 ic_1 (pc2 := 63) rfl ?_
    exact g_iret hc dX3_rank_63
  refine g_swc (pc2 := 0) hc dX3_rank_1 (c := 12) (by decide) (by decide) rfl (pc1 := 60) rfl (fun _ => ?_) (fun c8 => ?_)
  · refine g_iconst hc dX3_rank_60 ic_0 (pc2 := 61) rfl ?_
    exact g_iret hc dX3_rank_61
  refine g_swd (pc2 := 0) hc dX3_rank_1 (fun i a b e => ?_) (pc1 := 73) rfl ?_
  · rcases (show i = 2 ∨ i = 3 ∨ i = 4 ∨ i = 5 ∨ i = 6 ∨ i = 7 ∨ i = 8 ∨ i = 9 ∨ i = 10 ∨ i = 11 ∨ i = 12 by omega) with rfl | rfl | rfl | rfl | rfl | rfl | rfl | rfl | rfl | rfl | rfl
    · exact q_swx (c := 2) (by decide) c1 e
    · exact q_swx (c := 3) (by decide) c2 e
    · exact q_swx (c := 4) (by decide) c3 e
    · exact q_swx (c := 5) (by decide) c4 e
    · rfl
    · rfl
    · rfl
    · exact q_swx (c := 9) (by decide) c5 e
    · exact q_swx (c := 10) (by decide) c6 e
    · exact q_swx (c := 11) (by decide) c7 e
    · exact q_swx (c := 12) (by decide) c8 e
  · refine g_iconst hc dX3_rank_73 ic_4 (pc2 := 74) rfl ?_
    exact g_iret hc dX3_rank_74
set_option maxRecDepth 100000 in
set_option maxHeartbeats 4000000 in
def f_X3_release_L0 (n : Nat) (x0 : Nat) (x1 : Int32) : Nat → q_Sto → Option (Int32 × q_Sto)
  | 0, _ => none
  | j + 1, s0 =>
    if (s0 x0 3) ≤ 0 then (
    some (0, s0))
    else (
    if (s0 x0 3) ≤ (Int32.ofNat 400) then (
    q_ld s0 (q_RF x0 2) ((s0 x0 3) - 1) 400 fun v3 =>
    q_call (f_X3_rank n v3 s0) fun r5 s4 =>
    if r5 < x1 then (
    some (0, s4))
    else (
    q_nS1 (q_up s4 x0 3 ((s4 x0 3) - 1)) fun s7 =>
    q_ld s7 (q_RF x0 2) (s7 x0 3) 400 fun v8 =>
    q_callv (f_X2_emit n (q_RF x0 1) v8 0 s7) fun s9 =>
    q_ld s9 (q_RF x0 2) (s9 x0 3) 400 fun v11 =>
    if v11 = 9 then (
    q_nS1 (q_up s9 x0 5 ((s9 x0 5) - 1)) fun s13 =>
    f_X3_release_L0 n x0 x1  j  s13)
    else (
    f_X3_release_L0 n x0 x1  j  s9)))
    else (
    some (0, s0)))
set_option maxRecDepth 100000 in
set_option maxHeartbeats 4000000 in
def f_X3_release (n : Nat) (t : Nat) (a0 : Int32) (s0 : q_Sto) : Option (Int32 × q_Sto) :=
  f_X3_release_L0 n t a0  n  s0
set_option maxRecDepth 100000 in
set_option maxHeartbeats 4000000 in
theorem t_X3_release_L0 {w : q_Wd} {cx : q_Cx} (hc : q_ok w cx RX3 cX3_release 2 (none) (q_rm 1 22)) {n : Nat} {x0 : Nat} {x1 : Int32} (hx0 : q_KD x0 = .inl 3)   :
    ∀ (j : Nat)  (s0 : q_Sto), q_G w cx 2 (none) 0 [some (q_rf w x0), some (.int x1)] [] s0 (f_X3_release_L0 n x0 x1  j  s0) := by
  intro j
  induction j with
  | zero =>
    intro _
    rw [f_X3_release_L0]
    exact q_none
  | succ j ih =>
    intro s0
    rw [f_X3_release_L0]
    refine g_rl0 hc dX3_release_0 rfl (pc2 := 1) rfl ?_
    refine g_getI hc fl_X3_22 rfl hx0 dX3_release_1 (pc2 := 4) rfl ?_
    refine g_if_le hc dX3_release_4 (pc1 := 91) (pc2 := 7) rfl rfl (fun _ => ?_) (fun _ => ?_)
    · exact g_vret hc dX3_release_91
    · refine g_rl0 hc dX3_release_7 rfl (pc2 := 8) rfl ?_
      refine g_getI hc fl_X3_22 rfl hx0 dX3_release_8 (pc2 := 11) rfl ?_
      refine g_rl0 hc dX3_release_11 rfl (pc2 := 12) rfl ?_
      refine g_getR hc fl_X3_18 rfl hx0 dX3_release_12 (pc2 := 15) rfl ?_
      refine g_alen hc (kf_3_2 hx0) (kl_3_2 hx0) dX3_release_15 (pc2 := 16) rfl ?_
      refine g_icmp_gt hc dX3_release_16 (pc1 := 19) (pc2 := 91) rfl rfl (fun _ => ?_) (fun _ => ?_)
      · refine g_rl0 hc dX3_release_19 rfl (pc2 := 20) rfl ?_
        refine g_getR hc fl_X3_18 rfl hx0 dX3_release_20 (pc2 := 23) rfl ?_
        refine g_rl0 hc dX3_release_23 rfl (pc2 := 24) rfl ?_
        refine g_getI hc fl_X3_22 rfl hx0 dX3_release_24 (pc2 := 27) rfl ?_
        refine g_iconst hc dX3_release_27 ic_1 (pc2 := 28) rfl ?_
        refine g_isub hc dX3_release_28 (pc2 := 29) rfl ?_
        refine g_iald hc (kf_3_2 hx0) (kl_3_2 hx0) dX3_release_29 (pc2 := 30) rfl (fun v3 => ?_)
        refine g_callS1 hc C_X3_rank mv_X3_rank ln_X3_140 ⟨by decide, by decide⟩ (Nat.le_of_ble_eq_true rfl) dX3_release_30 (pc2 := 33) rfl (fun r5 s4 => ?_)
        refine g_il1 hc dX3_release_33 rfl (pc2 := 34) rfl ?_
        refine g_icmp_lt hc dX3_release_34 (pc1 := 91) (pc2 := 37) rfl rfl (fun _ => ?_) (fun _ => ?_)
        · exact g_vret hc dX3_release_91
        · refine g_rl0 hc dX3_release_37 rfl (pc2 := 38) rfl ?_
          refine g_dup hc dX3_release_38 rfl (pc2 := 39) rfl ?_
          refine g_getI hc fl_X3_22 rfl hx0 dX3_release_39 (pc2 := 42) rfl ?_
          refine g_iconst hc dX3_release_42 ic_1 (pc2 := 43) rfl ?_
          refine g_isub hc dX3_release_43 (pc2 := 44) rfl ?_
          refine g_putI hc fl_X3_22 rfl hx0 dX3_release_44 (pc2 := 47) rfl (fun s7 => ?_)
          refine g_rl0 hc dX3_release_47 rfl (pc2 := 48) rfl ?_
          refine g_getR hc fl_X3_12 rfl hx0 dX3_release_48 (pc2 := 51) rfl ?_
          refine g_rl0 hc dX3_release_51 rfl (pc2 := 52) rfl ?_
          refine g_getR hc fl_X3_18 rfl hx0 dX3_release_52 (pc2 := 55) rfl ?_
          refine g_rl0 hc dX3_release_55 rfl (pc2 := 56) rfl ?_
          refine g_getI hc fl_X3_22 rfl hx0 dX3_release_56 (pc2 := 59) rfl ?_
          refine g_iald hc (kf_3_2 hx0) (kl_3_2 hx0) dX3_release_59 (pc2 := 60) rfl (fun v8 => ?_)
          refine g_iconst hc dX3_release_60 ic_0 (pc2 := 61) rfl ?_
          refine g_callV2v hc (C_X2_emit (kf_3_1 hx0)) mv_X2_emit ln_X3_107 (kf_3_1 hx0) ⟨by decide, by decide⟩ (Nat.le_of_ble_eq_true rfl) dX3_release_61 (pc2 := 64) rfl (fun s9 => ?_)
          refine g_rl0 hc dX3_release_64 rfl (pc2 := 65) rfl ?_
          refine g_getR hc fl_X3_18 rfl hx0 dX3_release_65 (pc2 := 68) rfl ?_
          refine g_rl0 hc dX3_release_68 rfl (pc2 := 69) rfl ?_
          refine g_getI hc fl_X3_22 rfl hx0 dX3_release_69 (pc2 := 72) rfl ?_
          refine g_iald hc (kf_3_2 hx0) (kl_3_2 hx0) dX3_release_72 (pc2 := 73) rfl (fun v11 => ?_)
          refine g_bipush hc dX3_release_73 bp_9 (pc2 := 75) rfl ?_
          refine g_icmp_ne hc dX3_release_75 (pc1 := 78) (pc2 := 0) rfl rfl (fun _ => ?_) (fun _ => ?_)
          · refine g_rl0 hc dX3_release_78 rfl (pc2 := 79) rfl ?_
            refine g_dup hc dX3_release_79 rfl (pc2 := 80) rfl ?_
            refine g_getI hc fl_X3_29 rfl hx0 dX3_release_80 (pc2 := 83) rfl ?_
            refine g_iconst hc dX3_release_83 ic_1 (pc2 := 84) rfl ?_
            refine g_isub hc dX3_release_84 (pc2 := 85) rfl ?_
            refine g_putI hc fl_X3_29 rfl hx0 dX3_release_85 (pc2 := 88) rfl (fun s13 => ?_)
            refine g_goto hc dX3_release_88 (pc2 := 0) rfl ?_
            exact ih _
          · exact ih _
      · exact g_vret hc dX3_release_91
set_option maxRecDepth 100000 in
set_option maxHeartbeats 4000000 in
theorem C_X3_release {l : Launch} {w : q_Wd} {n : Nat} {t : Nat} {a0 : Int32} (ht : q_KD t = .inl 3) {s0 : q_Sto} : q_C l w yX3_release cX3_release 2 (none) (q_rm 1 22) [q_rf w t, .int a0] s0 (f_X3_release n t a0 s0) := q_CofG [some (q_rf w t), some (.int a0)] (by decide +kernel) rfl rfl (Nat.le_of_ble_eq_true rfl) fun cx hl hc => by
  have hc : q_ok w cx RX3 cX3_release 2 (none) (q_rm 1 22) := hc
  rw [f_X3_release]
  refine t_X3_release_L0 hc ht  n  _
set_option maxRecDepth 100000 in
set_option maxHeartbeats 4000000 in
def f_X8_expectNumber (n : Nat) (t : Nat) (a0 : Int32) (a1 : Int32) (a2 : Int32) (s0 : q_Sto) : Option (Int32 × q_Sto) :=
  q_call (f_X8_isNumber n t s0) fun r2 s1 =>
  if r2 = 0 then (
  q_call (f_X8_fail n t 1 s1) fun r5 s4 =>
  some ((-1), s4))
  else (
  q_nm (s1 t 5) fun v6 =>
  if v6 < a0 then (
  q_call (f_X8_fail n t 2 s1) fun r9 s8 =>
  some ((-1), s8))
  else (
  if v6 ≤ a1 then (
  if v6 = a2 then (
  q_call (f_X8_fail n t 2 s1) fun r13 s12 =>
  some ((-1), s12))
  else (
  q_callv (f_X8_next n t s1) fun s14 =>
  some (v6, s14)))
  else (
  q_call (f_X8_fail n t 2 s1) fun r17 s16 =>
  some ((-1), s16))))
set_option maxRecDepth 100000 in
set_option maxHeartbeats 4000000 in
theorem C_X8_expectNumber {l : Launch} {w : q_Wd} {n : Nat} {t : Nat} {a0 : Int32} {a1 : Int32} {a2 : Int32} (ht : q_KD t = .inl 8) {s0 : q_Sto} : q_C l w yX8_expectNumber cX8_expectNumber 5 (some .int) (q_rm 2 41) [q_rf w t, .int a0, .int a1, .int a2] s0 (f_X8_expectNumber n t a0 a1 a2 s0) := q_CofG [some (q_rf w t), some (.int a0), some (.int a1), some (.int a2), none] (by decide +kernel) rfl rfl (Nat.le_of_ble_eq_true rfl) fun cx hl hc => by
  have hc : q_ok w cx RX8 cX8_expectNumber 5 (some .int) (q_rm 2 41) := hc
  rw [f_X8_expectNumber]
  refine g_rl0 hc dX8_expectNumber_0 rfl (pc2 := 1) rfl ?_
  refine g_callV0 hc (C_X8_isNumber ht) mv_X8_isNumber ln_X8_77 ht ⟨by decide, by decide⟩ (Nat.le_of_ble_eq_true rfl) dX8_expectNumber_1 (pc2 := 4) rfl (fun r2 s1 => ?_)
  refine g_if_ne hc dX8_expectNumber_4 (pc1 := 7) (pc2 := 15) rfl rfl (fun _ => ?_) (fun _ => ?_)
  · refine g_rl0 hc dX8_expectNumber_7 rfl (pc2 := 8) rfl ?_
    refine g_iconst hc dX8_expectNumber_8 ic_1 (pc2 := 9) rfl ?_
    refine g_callV1 hc (C_X8_fail ht) mv_X8_fail ln_X8_71 ht ⟨by decide, by decide⟩ (Nat.le_of_ble_eq_true rfl) dX8_expectNumber_9 (pc2 := 12) rfl (fun r5 s4 => ?_)
    refine g_pop hc dX8_expectNumber_12 (pc2 := 13) rfl ?_
    refine g_iconst hc dX8_expectNumber_13 ic_m1 (pc2 := 14) rfl ?_
    exact g_iret hc dX8_expectNumber_14
  · refine g_rl0 hc dX8_expectNumber_15 rfl (pc2 := 16) rfl ?_
    refine g_getI hc fl_X8_28 rfl ht dX8_expectNumber_16 (pc2 := 19) rfl ?_
    refine g_nm (fun v6 => ?_)
    refine g_istore hc dX8_expectNumber_19 (by decide) (L2 := [some (q_rf w t), some (.int a0), some (.int a1), some (.int a2), some (.int v6)]) rfl (pc2 := 21) rfl ?_
    refine g_iload hc dX8_expectNumber_21 rfl (pc2 := 23) rfl ?_
    refine g_il1 hc dX8_expectNumber_23 rfl (pc2 := 24) rfl ?_
    refine g_icmp_lt hc dX8_expectNumber_24 (pc1 := 39) (pc2 := 27) rfl rfl (fun _ => ?_) (fun _ => ?_)
    · refine g_rl0 hc dX8_expectNumber_39 rfl (pc2 := 40) rfl ?_
      refine g_iconst hc dX8_expectNumber_40 ic_2 (pc2 := 41) rfl ?_
      refine g_callV1 hc (C_X8_fail ht) mv_X8_fail ln_X8_71 ht ⟨by decide, by decide⟩ (Nat.le_of_ble_eq_true rfl) dX8_expectNumber_41 (pc2 := 44) rfl (fun r9 s8 => ?_)
      refine g_pop hc dX8_expectNumber_44 (pc2 := 45) rfl ?_
      refine g_iconst hc dX8_expectNumber_45 ic_m1 (pc2 := 46) rfl ?_
      exact g_iret hc dX8_expectNumber_46
    · refine g_iload hc dX8_expectNumber_27 rfl (pc2 := 29) rfl ?_
      refine g_il2 hc dX8_expectNumber_29 rfl (pc2 := 30) rfl ?_
      refine g_icmp_gt hc dX8_expectNumber_30 (pc1 := 33) (pc2 := 39) rfl rfl (fun _ => ?_) (fun _ => ?_)
      · refine g_iload hc dX8_expectNumber_33 rfl (pc2 := 35) rfl ?_
        refine g_il3 hc dX8_expectNumber_35 rfl (pc2 := 36) rfl ?_
        refine g_icmp_ne hc dX8_expectNumber_36 (pc1 := 39) (pc2 := 47) rfl rfl (fun _ => ?_) (fun _ => ?_)
        · refine g_rl0 hc dX8_expectNumber_39 rfl (pc2 := 40) rfl ?_
          refine g_iconst hc dX8_expectNumber_40 ic_2 (pc2 := 41) rfl ?_
          refine g_callV1 hc (C_X8_fail ht) mv_X8_fail ln_X8_71 ht ⟨by decide, by decide⟩ (Nat.le_of_ble_eq_true rfl) dX8_expectNumber_41 (pc2 := 44) rfl (fun r13 s12 => ?_)
          refine g_pop hc dX8_expectNumber_44 (pc2 := 45) rfl ?_
          refine g_iconst hc dX8_expectNumber_45 ic_m1 (pc2 := 46) rfl ?_
          exact g_iret hc dX8_expectNumber_46
        · refine g_rl0 hc dX8_expectNumber_47 rfl (pc2 := 48) rfl ?_
          refine g_callV0v hc (C_X8_next ht) mv_X8_next ln_X8_37 ht ⟨by decide, by decide⟩ (Nat.le_of_ble_eq_true rfl) dX8_expectNumber_48 (pc2 := 51) rfl (fun s14 => ?_)
          refine g_iload hc dX8_expectNumber_51 rfl (pc2 := 53) rfl ?_
          exact g_iret hc dX8_expectNumber_53
      · refine g_rl0 hc dX8_expectNumber_39 rfl (pc2 := 40) rfl ?_
        refine g_iconst hc dX8_expectNumber_40 ic_2 (pc2 := 41) rfl ?_
        refine g_callV1 hc (C_X8_fail ht) mv_X8_fail ln_X8_71 ht ⟨by decide, by decide⟩ (Nat.le_of_ble_eq_true rfl) dX8_expectNumber_41 (pc2 := 44) rfl (fun r17 s16 => ?_)
        refine g_pop hc dX8_expectNumber_44 (pc2 := 45) rfl ?_
        refine g_iconst hc dX8_expectNumber_45 ic_m1 (pc2 := 46) rfl ?_
        exact g_iret hc dX8_expectNumber_46
set_option maxRecDepth 100000 in
set_option maxHeartbeats 4000000 in
def f_X3_readPart (n : Nat) (t : Nat) (s0 : q_Sto) : Option (Int32 × q_Sto) :=
  q_call (f_X3_rank n 2 s0) fun r2 s1 =>
  q_callv (f_X3_release n t r2 s1) fun s3 =>
  q_callv (f_X8_next n (q_RF t 0) s3) fun s5 =>
  q_call (f_X8_expectNumber n (q_RF t 0) 1 9999 (-1) s5) fun r8 s7 =>
  if r8 = (-1) then (
  some (0, s7))
  else (
  q_callv (f_X2_emit n (q_RF t 1) 2 r8 s7) fun s10 =>
  some (1, s10))
set_option maxRecDepth 100000 in
set_option maxHeartbeats 4000000 in
theorem C_X3_readPart {l : Launch} {w : q_Wd} {n : Nat} {t : Nat} (ht : q_KD t = .inl 3) {s0 : q_Sto} : q_C l w yX3_readPart cX3_readPart 2 (some .boolean) (q_rm 3 65) [q_rf w t] s0 (f_X3_readPart n t s0) := q_CofG [some (q_rf w t), none] (by decide +kernel) rfl rfl (Nat.le_of_ble_eq_true rfl) fun cx hl hc => by
  have hc : q_ok w cx RX3 cX3_readPart 2 (some .boolean) (q_rm 3 65) := hc
  rw [f_X3_readPart]
  refine g_rl0 hc dX3_readPart_0 rfl (pc2 := 1) rfl ?_
  refine g_iconst hc dX3_readPart_1 ic_2 (pc2 := 2) rfl ?_
  refine g_callS1 hc C_X3_rank mv_X3_rank ln_X3_140 ⟨by decide, by decide⟩ (Nat.le_of_ble_eq_true rfl) dX3_readPart_2 (pc2 := 5) rfl (fun r2 s1 => ?_)
  refine g_callV1v hc (C_X3_release ht) mv_X3_release ln_X3_144 ht ⟨by decide, by decide⟩ (Nat.le_of_ble_eq_true rfl) dX3_readPart_5 (pc2 := 8) rfl (fun s3 => ?_)
  refine g_rl0 hc dX3_readPart_8 rfl (pc2 := 9) rfl ?_
  refine g_getR hc fl_X3_42 rfl ht dX3_readPart_9 (pc2 := 12) rfl ?_
  refine g_callV0v hc (C_X8_next (kf_3_0 ht)) mv_X8_next ln_X3_75 (kf_3_0 ht) ⟨by decide, by decide⟩ (Nat.le_of_ble_eq_true rfl) dX3_readPart_12 (pc2 := 15) rfl (fun s5 => ?_)
  refine g_rl0 hc dX3_readPart_15 rfl (pc2 := 16) rfl ?_
  refine g_getR hc fl_X3_42 rfl ht dX3_readPart_16 (pc2 := 19) rfl ?_
  refine g_iconst hc dX3_readPart_19 ic_1 (pc2 := 20) rfl ?_
  refine g_sipush hc dX3_readPart_20 sp_9999 (pc2 := 23) rfl ?_
  refine g_iconst hc dX3_readPart_23 ic_m1 (pc2 := 24) rfl ?_
  refine g_callV3 hc (C_X8_expectNumber (kf_3_0 ht)) mv_X8_expectNumber ln_X3_147 (kf_3_0 ht) ⟨by decide, by decide⟩ (Nat.le_of_ble_eq_true rfl) dX3_readPart_24 (pc2 := 27) rfl (fun r8 s7 => ?_)
  refine g_is1 hc dX3_readPart_27 (by decide) (L2 := [some (q_rf w t), some (.int r8)]) rfl (pc2 := 28) rfl ?_
  refine g_il1 hc dX3_readPart_28 rfl (pc2 := 29) rfl ?_
  refine g_iconst hc dX3_readPart_29 ic_m1 (pc2 := 30) rfl ?_
  refine g_icmp_ne hc dX3_readPart_30 (pc1 := 33) (pc2 := 35) rfl rfl (fun _ => ?_) (fun _ => ?_)
  · refine g_iconst hc dX3_readPart_33 ic_0 (pc2 := 34) rfl ?_
    exact g_zret0 (by decide) hc dX3_readPart_34
  · refine g_rl0 hc dX3_readPart_35 rfl (pc2 := 36) rfl ?_
    refine g_getR hc fl_X3_12 rfl ht dX3_readPart_36 (pc2 := 39) rfl ?_
    refine g_iconst hc dX3_readPart_39 ic_2 (pc2 := 40) rfl ?_
    refine g_il1 hc dX3_readPart_40 rfl (pc2 := 41) rfl ?_
    refine g_callV2v hc (C_X2_emit (kf_3_1 ht)) mv_X2_emit ln_X3_107 (kf_3_1 ht) ⟨by decide, by decide⟩ (Nat.le_of_ble_eq_true rfl) dX3_readPart_41 (pc2 := 44) rfl (fun s10 => ?_)
    refine g_iconst hc dX3_readPart_44 ic_1 (pc2 := 45) rfl ?_
    exact g_zret0 (by decide) hc dX3_readPart_45
set_option maxRecDepth 100000 in
set_option maxHeartbeats 4000000 in
def f_X3_join (n : Nat) (t : Nat) (a0 : Int32) (a1 : Int32) (s0 : q_Sto) : Option (Int32 × q_Sto) :=
  q_call (f_X3_rank n a0 s0) fun r2 s1 =>
  q_callv (f_X3_release n t r2 s1) fun s3 =>
  q_callv (f_X3_push n t a0 s3) fun s5 =>
  q_callv (f_X8_next n (q_RF t 0) s5) fun s7 =>
  q_nS1 (q_up s7 t 6 a1) fun s9 =>
  some (1, s9)
set_option maxRecDepth 100000 in
set_option maxHeartbeats 4000000 in
theorem C_X3_join {l : Launch} {w : q_Wd} {n : Nat} {t : Nat} {a0 : Int32} {a1 : Int32} (ht : q_KD t = .inl 3) {s0 : q_Sto} : q_C l w yX3_join cX3_join 3 (some .boolean) (q_rm 2 43) [q_rf w t, .int a0, .int a1] s0 (f_X3_join n t a0 a1 s0) := q_CofG [some (q_rf w t), some (.int a0), some (.int a1)] (by decide +kernel) rfl rfl (Nat.le_of_ble_eq_true rfl) fun cx hl hc => by
  have hc : q_ok w cx RX3 cX3_join 3 (some .boolean) (q_rm 2 43) := hc
  rw [f_X3_join]
  refine g_rl0 hc dX3_join_0 rfl (pc2 := 1) rfl ?_
  refine g_il1 hc dX3_join_1 rfl (pc2 := 2) rfl ?_
  refine g_callS1 hc C_X3_rank mv_X3_rank ln_X3_140 ⟨by decide, by decide⟩ (Nat.le_of_ble_eq_true rfl) dX3_join_2 (pc2 := 5) rfl (fun r2 s1 => ?_)
  refine g_callV1v hc (C_X3_release ht) mv_X3_release ln_X3_144 ht ⟨by decide, by decide⟩ (Nat.le_of_ble_eq_true rfl) dX3_join_5 (pc2 := 8) rfl (fun s3 => ?_)
  refine g_rl0 hc dX3_join_8 rfl (pc2 := 9) rfl ?_
  refine g_il1 hc dX3_join_9 rfl (pc2 := 10) rfl ?_
  refine g_callV1v hc (C_X3_push ht) mv_X3_push ln_X3_114 ht ⟨by decide, by decide⟩ (Nat.le_of_ble_eq_true rfl) dX3_join_10 (pc2 := 13) rfl (fun s5 => ?_)
  refine g_rl0 hc dX3_join_13 rfl (pc2 := 14) rfl ?_
  refine g_getR hc fl_X3_42 rfl ht dX3_join_14 (pc2 := 17) rfl ?_
  refine g_callV0v hc (C_X8_next (kf_3_0 ht)) mv_X8_next ln_X3_75 (kf_3_0 ht) ⟨by decide, by decide⟩ (Nat.le_of_ble_eq_true rfl) dX3_join_17 (pc2 := 20) rfl (fun s7 => ?_)
  refine g_rl0 hc dX3_join_20 rfl (pc2 := 21) rfl ?_
  refine g_il2 hc dX3_join_21 rfl (pc2 := 22) rfl ?_
  refine g_putI hc fl_X3_32 rfl ht dX3_join_22 (pc2 := 25) rfl (fun s9 => ?_)
  refine g_iconst hc dX3_join_25 ic_1 (pc2 := 26) rfl ?_
  exact g_zret0 (by decide) hc dX3_join_26
set_option maxRecDepth 100000 in
set_option maxHeartbeats 4000000 in
def f_X3_endLine (n : Nat) (t : Nat) (s0 : q_Sto) : Option (Int32 × q_Sto) :=
  q_call (f_X8_isSign n (q_RF t 0) 59 s0) fun r2 s1 =>
  if r2 = 0 then (
  q_call (f_X8_fail n (q_RF t 0) 1 s1) fun r5 s4 =>
  q_rz r5 s4)
  else (
  q_callv (f_X3_release n t 1 s1) fun s6 =>
  q_callv (f_X2_endLine n (q_RF t 1) s6) fun s8 =>
  q_callv (f_X8_next n (q_RF t 0) s8) fun s10 =>
  some (0, s10))
set_option maxRecDepth 100000 in
set_option maxHeartbeats 4000000 in
theorem C_X3_endLine {l : Launch} {w : q_Wd} {n : Nat} {t : Nat} (ht : q_KD t = .inl 3) {s0 : q_Sto} : q_C l w yX3_endLine cX3_endLine 1 (some .boolean) (q_rm 2 43) [q_rf w t] s0 (f_X3_endLine n t s0) := q_CofG [some (q_rf w t)] (by decide +kernel) rfl rfl (Nat.le_of_ble_eq_true rfl) fun cx hl hc => by
  have hc : q_ok w cx RX3 cX3_endLine 1 (some .boolean) (q_rm 2 43) := hc
  rw [f_X3_endLine]
  refine g_rl0 hc dX3_endLine_0 rfl (pc2 := 1) rfl ?_
  refine g_getR hc fl_X3_42 rfl ht dX3_endLine_1 (pc2 := 4) rfl ?_
  refine g_bipush hc dX3_endLine_4 bp_59 (pc2 := 6) rfl ?_
  refine g_callV1 hc (C_X8_isSign (kf_3_0 ht)) mv_X8_isSign ln_X3_96 (kf_3_0 ht) ⟨by decide, by decide⟩ (Nat.le_of_ble_eq_true rfl) dX3_endLine_6 (pc2 := 9) rfl (fun r2 s1 => ?_)
  refine g_if_ne hc dX3_endLine_9 (pc1 := 12) (pc2 := 21) rfl rfl (fun _ => ?_) (fun _ => ?_)
  · refine g_rl0 hc dX3_endLine_12 rfl (pc2 := 13) rfl ?_
    refine g_getR hc fl_X3_42 rfl ht dX3_endLine_13 (pc2 := 16) rfl ?_
    refine g_iconst hc dX3_endLine_16 ic_1 (pc2 := 17) rfl ?_
    refine g_callV1 hc (C_X8_fail (kf_3_0 ht)) mv_X8_fail ln_X3_68 (kf_3_0 ht) ⟨by decide, by decide⟩ (Nat.le_of_ble_eq_true rfl) dX3_endLine_17 (pc2 := 20) rfl (fun r5 s4 => ?_)
    exact g_zret hc dX3_endLine_20
  · refine g_rl0 hc dX3_endLine_21 rfl (pc2 := 22) rfl ?_
    refine g_iconst hc dX3_endLine_22 ic_1 (pc2 := 23) rfl ?_
    refine g_callV1v hc (C_X3_release ht) mv_X3_release ln_X3_144 ht ⟨by decide, by decide⟩ (Nat.le_of_ble_eq_true rfl) dX3_endLine_23 (pc2 := 26) rfl (fun s6 => ?_)
    refine g_rl0 hc dX3_endLine_26 rfl (pc2 := 27) rfl ?_
    refine g_getR hc fl_X3_12 rfl ht dX3_endLine_27 (pc2 := 30) rfl ?_
    refine g_callV0v hc (C_X2_endLine (kf_3_1 ht)) mv_X2_endLine ln_X3_162 (kf_3_1 ht) ⟨by decide, by decide⟩ (Nat.le_of_ble_eq_true rfl) dX3_endLine_30 (pc2 := 33) rfl (fun s8 => ?_)
    refine g_rl0 hc dX3_endLine_33 rfl (pc2 := 34) rfl ?_
    refine g_getR hc fl_X3_42 rfl ht dX3_endLine_34 (pc2 := 37) rfl ?_
    refine g_callV0v hc (C_X8_next (kf_3_0 ht)) mv_X8_next ln_X3_75 (kf_3_0 ht) ⟨by decide, by decide⟩ (Nat.le_of_ble_eq_true rfl) dX3_endLine_37 (pc2 := 40) rfl (fun s10 => ?_)
    refine g_iconst hc dX3_endLine_40 ic_0 (pc2 := 41) rfl ?_
    exact g_zret0 (by decide) hc dX3_endLine_41
set_option maxRecDepth 100000 in
set_option maxHeartbeats 4000000 in
def f_X3_readWhen (n : Nat) (t : Nat) (s0 : q_Sto) : Option (Int32 × q_Sto) :=
  q_call (f_X8_isWord n (q_RF t 0) 14 s0) fun r2 s1 =>
  if r2 = 0 then (
  q_call (f_X3_endLine n t s1) fun r5 s4 =>
  q_rz r5 s4)
  else (
  q_callv (f_X3_release n t 1 s1) fun s6 =>
  q_callv (f_X2_beginWhen n (q_RF t 1) s6) fun s8 =>
  q_callv (f_X8_next n (q_RF t 0) s8) fun s10 =>
  q_nS1 (q_up s10 t 7 1) fun s12 =>
  q_nS1 (q_up s12 t 6 1) fun s13 =>
  some (1, s13))
set_option maxRecDepth 100000 in
set_option maxHeartbeats 4000000 in
theorem C_X3_readWhen {l : Launch} {w : q_Wd} {n : Nat} {t : Nat} (ht : q_KD t = .inl 3) {s0 : q_Sto} : q_C l w yX3_readWhen cX3_readWhen 1 (some .boolean) (q_rm 7 162) [q_rf w t] s0 (f_X3_readWhen n t s0) := q_CofG [some (q_rf w t)] (by decide +kernel) rfl rfl (Nat.le_of_ble_eq_true rfl) fun cx hl hc => by
  have hc : q_ok w cx RX3 cX3_readWhen 1 (some .boolean) (q_rm 7 162) := hc
  rw [f_X3_readWhen]
  refine g_rl0 hc dX3_readWhen_0 rfl (pc2 := 1) rfl ?_
  refine g_getR hc fl_X3_42 rfl ht dX3_readWhen_1 (pc2 := 4) rfl ?_
  refine g_ldcS (i := 14) (tx := "when") hc (by decide +kernel) dX3_readWhen_4 (pc2 := 6) rfl ?_
  refine g_callV1 hc (C_X8_isWord (kf_3_0 ht) (by decide)) mv_X8_isWord ln_X3_60 (kf_3_0 ht) ⟨by decide, by decide⟩ (Nat.le_of_ble_eq_true rfl) dX3_readWhen_6 (pc2 := 9) rfl (fun r2 s1 => ?_)
  refine g_if_ne hc dX3_readWhen_9 (pc1 := 12) (pc2 := 17) rfl rfl (fun _ => ?_) (fun _ => ?_)
  · refine g_rl0 hc dX3_readWhen_12 rfl (pc2 := 13) rfl ?_
    refine g_callV0 hc (C_X3_endLine ht) mv_X3_endLine ln_X3_137 ht ⟨by decide, by decide⟩ (Nat.le_of_ble_eq_true rfl) dX3_readWhen_13 (pc2 := 16) rfl (fun r5 s4 => ?_)
    exact g_zret hc dX3_readWhen_16
  · refine g_rl0 hc dX3_readWhen_17 rfl (pc2 := 18) rfl ?_
    refine g_iconst hc dX3_readWhen_18 ic_1 (pc2 := 19) rfl ?_
    refine g_callV1v hc (C_X3_release ht) mv_X3_release ln_X3_144 ht ⟨by decide, by decide⟩ (Nat.le_of_ble_eq_true rfl) dX3_readWhen_19 (pc2 := 22) rfl (fun s6 => ?_)
    refine g_rl0 hc dX3_readWhen_22 rfl (pc2 := 23) rfl ?_
    refine g_getR hc fl_X3_12 rfl ht dX3_readWhen_23 (pc2 := 26) rfl ?_
    refine g_callV0v hc (C_X2_beginWhen (kf_3_1 ht)) mv_X2_beginWhen ln_X3_153 (kf_3_1 ht) ⟨by decide, by decide⟩ (Nat.le_of_ble_eq_true rfl) dX3_readWhen_26 (pc2 := 29) rfl (fun s8 => ?_)
    refine g_rl0 hc dX3_readWhen_29 rfl (pc2 := 30) rfl ?_
    refine g_getR hc fl_X3_42 rfl ht dX3_readWhen_30 (pc2 := 33) rfl ?_
    refine g_callV0v hc (C_X8_next (kf_3_0 ht)) mv_X8_next ln_X3_75 (kf_3_0 ht) ⟨by decide, by decide⟩ (Nat.le_of_ble_eq_true rfl) dX3_readWhen_33 (pc2 := 36) rfl (fun s10 => ?_)
    refine g_rl0 hc dX3_readWhen_36 rfl (pc2 := 37) rfl ?_
    refine g_iconst hc dX3_readWhen_37 ic_1 (pc2 := 38) rfl ?_
    refine g_putZ (by decide) hc fl_X3_35 rfl ht dX3_readWhen_38 (pc2 := 41) rfl (fun s12 => ?_)
    refine g_rl0 hc dX3_readWhen_41 rfl (pc2 := 42) rfl ?_
    refine g_iconst hc dX3_readWhen_42 ic_1 (pc2 := 43) rfl ?_
    refine g_putI hc fl_X3_32 rfl ht dX3_readWhen_43 (pc2 := 46) rfl (fun s13 => ?_)
    refine g_iconst hc dX3_readWhen_46 ic_1 (pc2 := 47) rfl ?_
    exact g_zret0 (by decide) hc dX3_readWhen_47
set_option maxRecDepth 100000 in
set_option maxHeartbeats 4000000 in
def f_X3_readComparison (n : Nat) (t : Nat) (s0 : q_Sto) : Option (Int32 × q_Sto) :=
  q_call (f_X8_isSign n (q_RF t 0) 60 s0) fun r2 s1 =>
  q_jn (fun (y3 : Int32) (s4 : q_Sto) =>
    if y3 = (-1) then (
    q_call (f_X8_fail n (q_RF t 0) 1 s4) fun r7 s6 =>
    q_rz r7 s6)
    else (
    q_nS1 (q_up s4 t 8 1) fun s8 =>
    q_call (f_X3_join n t y3 0 s8) fun r10 s9 =>
    q_rz r10 s9)) fun j52 =>
  if r2 = 0 then (
  q_call (f_X8_isSign n (q_RF t 0) 61 s1) fun r13 s12 =>
  if r13 = 0 then (
  q_call (f_X8_isSign n (q_RF t 0) 62 s12) fun r16 s15 =>
  if r16 = 0 then (
  j52 (-1) s15)
  else (
  j52 8 s15))
  else (
  j52 7 s12))
  else (
  j52 6 s1)
set_option maxRecDepth 100000 in
set_option maxHeartbeats 4000000 in
theorem C_X3_readComparison {l : Launch} {w : q_Wd} {n : Nat} {t : Nat} (ht : q_KD t = .inl 3) {s0 : q_Sto} : q_C l w yX3_readComparison cX3_readComparison 2 (some .boolean) (q_rm 3 65) [q_rf w t] s0 (f_X3_readComparison n t s0) := q_CofG [some (q_rf w t), none] (by decide +kernel) rfl rfl (Nat.le_of_ble_eq_true rfl) fun cx hl hc => by
  have hc : q_ok w cx RX3 cX3_readComparison 2 (some .boolean) (q_rm 3 65) := hc
  rw [f_X3_readComparison]
  refine g_rl0 hc dX3_readComparison_0 rfl (pc2 := 1) rfl ?_
  refine g_getR hc fl_X3_42 rfl ht dX3_readComparison_1 (pc2 := 4) rfl ?_
  refine g_bipush hc dX3_readComparison_4 bp_60 (pc2 := 6) rfl ?_
  refine g_callV1 hc (C_X8_isSign (kf_3_0 ht)) mv_X8_isSign ln_X3_96 (kf_3_0 ht) ⟨by decide, by decide⟩ (Nat.le_of_ble_eq_true rfl) dX3_readComparison_6 (pc2 := 9) rfl (fun r2 s1 => ?_)
  refine g_jn (P := fun j52 => ∀ (y3 : Int32) (s4 : q_Sto), q_G w cx 2 (some .boolean) 52 [some (q_rf w t), none] [.int y3] s4 (j52 y3 s4)) (fun y3 s4 => ?_) (fun j52 hj52 => ?_)
  · refine g_is1 hc dX3_readComparison_52 (by decide) (L2 := [some (q_rf w t), some (.int y3)]) rfl (pc2 := 53) rfl ?_
    refine g_il1 hc dX3_readComparison_53 rfl (pc2 := 54) rfl ?_
    refine g_iconst hc dX3_readComparison_54 ic_m1 (pc2 := 55) rfl ?_
    refine g_icmp_ne hc dX3_readComparison_55 (pc1 := 58) (pc2 := 67) rfl rfl (fun _ => ?_) (fun _ => ?_)
    · refine g_rl0 hc dX3_readComparison_58 rfl (pc2 := 59) rfl ?_
      refine g_getR hc fl_X3_42 rfl ht dX3_readComparison_59 (pc2 := 62) rfl ?_
      refine g_iconst hc dX3_readComparison_62 ic_1 (pc2 := 63) rfl ?_
      refine g_callV1 hc (C_X8_fail (kf_3_0 ht)) mv_X8_fail ln_X3_68 (kf_3_0 ht) ⟨by decide, by decide⟩ (Nat.le_of_ble_eq_true rfl) dX3_readComparison_63 (pc2 := 66) rfl (fun r7 s6 => ?_)
      exact g_zret hc dX3_readComparison_66
    · refine g_rl0 hc dX3_readComparison_67 rfl (pc2 := 68) rfl ?_
      refine g_iconst hc dX3_readComparison_68 ic_1 (pc2 := 69) rfl ?_
      refine g_putZ (by decide) hc fl_X3_39 rfl ht dX3_readComparison_69 (pc2 := 72) rfl (fun s8 => ?_)
      refine g_rl0 hc dX3_readComparison_72 rfl (pc2 := 73) rfl ?_
      refine g_il1 hc dX3_readComparison_73 rfl (pc2 := 74) rfl ?_
      refine g_iconst hc dX3_readComparison_74 ic_0 (pc2 := 75) rfl ?_
      refine g_callV2 hc (C_X3_join ht) mv_X3_join ln_X3_120 ht ⟨by decide, by decide⟩ (Nat.le_of_ble_eq_true rfl) dX3_readComparison_75 (pc2 := 78) rfl (fun r10 s9 => ?_)
      exact g_zret hc dX3_readComparison_78
  · refine g_if_eq hc dX3_readComparison_9 (pc1 := 17) (pc2 := 12) rfl rfl (fun _ => ?_) (fun _ => ?_)
    · refine g_rl0 hc dX3_readComparison_17 rfl (pc2 := 18) rfl ?_
      refine g_getR hc fl_X3_42 rfl ht dX3_readComparison_18 (pc2 := 21) rfl ?_
      refine g_bipush hc dX3_readComparison_21 bp_61 (pc2 := 23) rfl ?_
      refine g_callV1 hc (C_X8_isSign (kf_3_0 ht)) mv_X8_isSign ln_X3_96 (kf_3_0 ht) ⟨by decide, by decide⟩ (Nat.le_of_ble_eq_true rfl) dX3_readComparison_23 (pc2 := 26) rfl (fun r13 s12 => ?_)
      refine g_if_eq hc dX3_readComparison_26 (pc1 := 34) (pc2 := 29) rfl rfl (fun _ => ?_) (fun _ => ?_)
      · refine g_rl0 hc dX3_readComparison_34 rfl (pc2 := 35) rfl ?_
        refine g_getR hc fl_X3_42 rfl ht dX3_readComparison_35 (pc2 := 38) rfl ?_
        refine g_bipush hc dX3_readComparison_38 bp_62 (pc2 := 40) rfl ?_
        refine g_callV1 hc (C_X8_isSign (kf_3_0 ht)) mv_X8_isSign ln_X3_96 (kf_3_0 ht) ⟨by decide, by decide⟩ (Nat.le_of_ble_eq_true rfl) dX3_readComparison_40 (pc2 := 43) rfl (fun r16 s15 => ?_)
        refine g_if_eq hc dX3_readComparison_43 (pc1 := 51) (pc2 := 46) rfl rfl (fun _ => ?_) (fun _ => ?_)
        · refine g_iconst hc dX3_readComparison_51 ic_m1 (pc2 := 52) rfl ?_
          exact hj52 _ _
        · refine g_bipush hc dX3_readComparison_46 bp_8 (pc2 := 48) rfl ?_
          refine g_goto hc dX3_readComparison_48 (pc2 := 52) rfl ?_
          exact hj52 _ _
      · refine g_bipush hc dX3_readComparison_29 bp_7 (pc2 := 31) rfl ?_
        refine g_goto hc dX3_readComparison_31 (pc2 := 52) rfl ?_
        exact hj52 _ _
    · refine g_bipush hc dX3_readComparison_12 bp_6 (pc2 := 14) rfl ?_
      refine g_goto hc dX3_readComparison_14 (pc2 := 52) rfl ?_
      exact hj52 _ _
set_option maxRecDepth 100000 in
set_option maxHeartbeats 4000000 in
def f_X3_readClosing (n : Nat) (t : Nat) (s0 : q_Sto) : Option (Int32 × q_Sto) :=
  q_call (f_X8_isSign n (q_RF t 0) 41 s0) fun r2 s1 =>
  if r2 = 0 then (
  q_call (f_X8_fail n (q_RF t 0) 1 s1) fun r5 s4 =>
  q_rz r5 s4)
  else (
  q_callv (f_X3_release n t 1 s1) fun s6 =>
  q_nS1 (q_up s6 t 3 (q_mx 0 ((s6 t 3) - 1))) fun s8 =>
  q_nS1 (q_up s8 t 4 ((s8 t 4) - 1)) fun s9 =>
  q_nS1 (q_up s9 t 5 ((s9 t 5) - 1)) fun s10 =>
  q_callv (f_X8_next n (q_RF t 0) s10) fun s11 =>
  q_nS1 (q_up s11 t 6 3) fun s13 =>
  some (1, s13))
set_option maxRecDepth 100000 in
set_option maxHeartbeats 4000000 in
theorem C_X3_readClosing {l : Launch} {w : q_Wd} {n : Nat} {t : Nat} (ht : q_KD t = .inl 3) {s0 : q_Sto} : q_C l w yX3_readClosing cX3_readClosing 1 (some .boolean) (q_rm 2 43) [q_rf w t] s0 (f_X3_readClosing n t s0) := q_CofG [some (q_rf w t)] (by decide +kernel) rfl rfl (Nat.le_of_ble_eq_true rfl) fun cx hl hc => by
  have hc : q_ok w cx RX3 cX3_readClosing 1 (some .boolean) (q_rm 2 43) := hc
  rw [f_X3_readClosing]
  refine g_rl0 hc dX3_readClosing_0 rfl (pc2 := 1) rfl ?_
  refine g_getR hc fl_X3_42 rfl ht dX3_readClosing_1 (pc2 := 4) rfl ?_
  refine g_bipush hc dX3_readClosing_4 bp_41 (pc2 := 6) rfl ?_
  refine g_callV1 hc (C_X8_isSign (kf_3_0 ht)) mv_X8_isSign ln_X3_96 (kf_3_0 ht) ⟨by decide, by decide⟩ (Nat.le_of_ble_eq_true rfl) dX3_readClosing_6 (pc2 := 9) rfl (fun r2 s1 => ?_)
  refine g_if_ne hc dX3_readClosing_9 (pc1 := 12) (pc2 := 21) rfl rfl (fun _ => ?_) (fun _ => ?_)
  · refine g_rl0 hc dX3_readClosing_12 rfl (pc2 := 13) rfl ?_
    refine g_getR hc fl_X3_42 rfl ht dX3_readClosing_13 (pc2 := 16) rfl ?_
    refine g_iconst hc dX3_readClosing_16 ic_1 (pc2 := 17) rfl ?_
    refine g_callV1 hc (C_X8_fail (kf_3_0 ht)) mv_X8_fail ln_X3_68 (kf_3_0 ht) ⟨by decide, by decide⟩ (Nat.le_of_ble_eq_true rfl) dX3_readClosing_17 (pc2 := 20) rfl (fun r5 s4 => ?_)
    exact g_zret hc dX3_readClosing_20
  · refine g_rl0 hc dX3_readClosing_21 rfl (pc2 := 22) rfl ?_
    refine g_iconst hc dX3_readClosing_22 ic_1 (pc2 := 23) rfl ?_
    refine g_callV1v hc (C_X3_release ht) mv_X3_release ln_X3_144 ht ⟨by decide, by decide⟩ (Nat.le_of_ble_eq_true rfl) dX3_readClosing_23 (pc2 := 26) rfl (fun s6 => ?_)
    refine g_rl0 hc dX3_readClosing_26 rfl (pc2 := 27) rfl ?_
    refine g_iconst hc dX3_readClosing_27 ic_0 (pc2 := 28) rfl ?_
    refine g_rl0 hc dX3_readClosing_28 rfl (pc2 := 29) rfl ?_
    refine g_getI hc fl_X3_22 rfl ht dX3_readClosing_29 (pc2 := 32) rfl ?_
    refine g_iconst hc dX3_readClosing_32 ic_1 (pc2 := 33) rfl ?_
    refine g_isub hc dX3_readClosing_33 (pc2 := 34) rfl ?_
    refine g_max hc ln_X3_156 ⟨by decide, by decide⟩ (Nat.le_of_ble_eq_true rfl) dX3_readClosing_34 (pc2 := 37) rfl ?_
    refine g_putI hc fl_X3_22 rfl ht dX3_readClosing_37 (pc2 := 40) rfl (fun s8 => ?_)
    refine g_rl0 hc dX3_readClosing_40 rfl (pc2 := 41) rfl ?_
    refine g_dup hc dX3_readClosing_41 rfl (pc2 := 42) rfl ?_
    refine g_getI hc fl_X3_26 rfl ht dX3_readClosing_42 (pc2 := 45) rfl ?_
    refine g_iconst hc dX3_readClosing_45 ic_1 (pc2 := 46) rfl ?_
    refine g_isub hc dX3_readClosing_46 (pc2 := 47) rfl ?_
    refine g_putI hc fl_X3_26 rfl ht dX3_readClosing_47 (pc2 := 50) rfl (fun s9 => ?_)
    refine g_rl0 hc dX3_readClosing_50 rfl (pc2 := 51) rfl ?_
    refine g_dup hc dX3_readClosing_51 rfl (pc2 := 52) rfl ?_
    refine g_getI hc fl_X3_29 rfl ht dX3_readClosing_52 (pc2 := 55) rfl ?_
    refine g_iconst hc dX3_readClosing_55 ic_1 (pc2 := 56) rfl ?_
    refine g_isub hc dX3_readClosing_56 (pc2 := 57) rfl ?_
    refine g_putI hc fl_X3_29 rfl ht dX3_readClosing_57 (pc2 := 60) rfl (fun s10 => ?_)
    refine g_rl0 hc dX3_readClosing_60 rfl (pc2 := 61) rfl ?_
    refine g_getR hc fl_X3_42 rfl ht dX3_readClosing_61 (pc2 := 64) rfl ?_
    refine g_callV0v hc (C_X8_next (kf_3_0 ht)) mv_X8_next ln_X3_75 (kf_3_0 ht) ⟨by decide, by decide⟩ (Nat.le_of_ble_eq_true rfl) dX3_readClosing_64 (pc2 := 67) rfl (fun s11 => ?_)
    refine g_rl0 hc dX3_readClosing_67 rfl (pc2 := 68) rfl ?_
    refine g_iconst hc dX3_readClosing_68 ic_3 (pc2 := 69) rfl ?_
    refine g_putI hc fl_X3_32 rfl ht dX3_readClosing_69 (pc2 := 72) rfl (fun s13 => ?_)
    refine g_iconst hc dX3_readClosing_72 ic_1 (pc2 := 73) rfl ?_
    exact g_zret0 (by decide) hc dX3_readClosing_73
set_option maxRecDepth 100000 in
set_option maxHeartbeats 4000000 in
def f_X3_readSign (n : Nat) (t : Nat) (s0 : q_Sto) : Option (Int32 × q_Sto) :=
  q_jn (fun  (s1 : q_Sto) =>
    q_call (f_X8_isWord n (q_RF t 0) 15 s1) fun r3 s2 =>
    if r3 = 0 then (
    q_call (f_X8_isWord n (q_RF t 0) 16 s2) fun r6 s5 =>
    if r6 = 0 then (
    if (s5 t 4) ≤ 0 then (
    q_call (f_X3_endLine n t s5) fun r10 s9 =>
    q_rz r10 s9)
    else (
    q_call (f_X3_readClosing n t s5) fun r12 s11 =>
    q_rz r12 s11))
    else (
    q_call (f_X3_join n t 11 1 s5) fun r14 s13 =>
    q_rz r14 s13))
    else (
    q_call (f_X3_join n t 10 1 s2) fun r16 s15 =>
    q_rz r16 s15)) fun j111 =>
  if (s0 t 6) = 2 then (
  q_call (f_X8_isSign n (q_RF t 0) 47 s0) fun r19 s18 =>
  if r19 = 0 then (
  q_call (f_X8_isSign n (q_RF t 0) 42 s18) fun r22 s21 =>
  q_jn (fun (y23 : Int32) (s24 : q_Sto) =>
    if y23 = (-1) then (
    if (s24 t 7) = 0 then (
    q_call (f_X3_readWhen n t s24) fun r28 s27 =>
    q_rz r28 s27)
    else (
    if (s24 t 8) = 0 then (
    q_call (f_X3_readComparison n t s24) fun r31 s30 =>
    q_rz r31 s30)
    else (
    j111 s24)))
    else (
    q_call (f_X3_join n t y23 0 s24) fun r33 s32 =>
    q_rz r33 s32)) fun j74 =>
  if r22 = 0 then (
  q_call (f_X8_isSign n (q_RF t 0) 43 s21) fun r36 s35 =>
  if r36 = 0 then (
  q_call (f_X8_isSign n (q_RF t 0) 45 s35) fun r39 s38 =>
  if r39 = 0 then (
  j74 (-1) s38)
  else (
  j74 5 s38))
  else (
  j74 4 s35))
  else (
  j74 3 s21))
  else (
  q_call (f_X3_readPart n t s18) fun r42 s41 =>
  q_rz r42 s41))
  else (
  j111 s0)
set_option maxRecDepth 100000 in
set_option maxHeartbeats 4000000 in
theorem C_X3_readSign {l : Launch} {w : q_Wd} {n : Nat} {t : Nat} (ht : q_KD t = .inl 3) {s0 : q_Sto} : q_C l w yX3_readSign cX3_readSign 2 (some .boolean) (q_rm 8 182) [q_rf w t] s0 (f_X3_readSign n t s0) := q_CofG [some (q_rf w t), none] (by decide +kernel) rfl rfl (Nat.le_of_ble_eq_true rfl) fun cx hl hc => by
  have hc : q_ok w cx RX3 cX3_readSign 2 (some .boolean) (q_rm 8 182) := hc
  rw [f_X3_readSign]
  refine g_rl0 hc dX3_readSign_0 rfl (pc2 := 1) rfl ?_
  refine g_getI hc fl_X3_32 rfl ht dX3_readSign_1 (pc2 := 4) rfl ?_
  refine g_iconst hc dX3_readSign_4 ic_2 (pc2 := 5) rfl ?_
  refine g_jn (P := fun j111 => ∀  (s1 : q_Sto), q_G w cx 2 (some .boolean) 111 [some (q_rf w t), none] [] s1 (j111 s1)) (fun s1 => ?_) (fun j111 hj111 => ?_)
  · refine g_rl0 hc dX3_readSign_111 rfl (pc2 := 112) rfl ?_
    refine g_getR hc fl_X3_42 rfl ht dX3_readSign_112 (pc2 := 115) rfl ?_
    refine g_ldcS (i := 15) (tx := "and") hc (by decide +kernel) dX3_readSign_115 (pc2 := 117) rfl ?_
    refine g_callV1 hc (C_X8_isWord (kf_3_0 ht) (by decide)) mv_X8_isWord ln_X3_60 (kf_3_0 ht) ⟨by decide, by decide⟩ (Nat.le_of_ble_eq_true rfl) dX3_readSign_117 (pc2 := 120) rfl (fun r3 s2 => ?_)
    refine g_if_eq hc dX3_readSign_120 (pc1 := 131) (pc2 := 123) rfl rfl (fun _ => ?_) (fun _ => ?_)
    · refine g_rl0 hc dX3_readSign_131 rfl (pc2 := 132) rfl ?_
      refine g_getR hc fl_X3_42 rfl ht dX3_readSign_132 (pc2 := 135) rfl ?_
      refine g_ldcS (i := 16) (tx := "or") hc (by decide +kernel) dX3_readSign_135 (pc2 := 137) rfl ?_
      refine g_callV1 hc (C_X8_isWord (kf_3_0 ht) (by decide)) mv_X8_isWord ln_X3_60 (kf_3_0 ht) ⟨by decide, by decide⟩ (Nat.le_of_ble_eq_true rfl) dX3_readSign_137 (pc2 := 140) rfl (fun r6 s5 => ?_)
      refine g_if_eq hc dX3_readSign_140 (pc1 := 151) (pc2 := 143) rfl rfl (fun _ => ?_) (fun _ => ?_)
      · refine g_rl0 hc dX3_readSign_151 rfl (pc2 := 152) rfl ?_
        refine g_getI hc fl_X3_26 rfl ht dX3_readSign_152 (pc2 := 155) rfl ?_
        refine g_if_le hc dX3_readSign_155 (pc1 := 163) (pc2 := 158) rfl rfl (fun _ => ?_) (fun _ => ?_)
        · refine g_rl0 hc dX3_readSign_163 rfl (pc2 := 164) rfl ?_
          refine g_callV0 hc (C_X3_endLine ht) mv_X3_endLine ln_X3_137 ht ⟨by decide, by decide⟩ (Nat.le_of_ble_eq_true rfl) dX3_readSign_164 (pc2 := 167) rfl (fun r10 s9 => ?_)
          exact g_zret hc dX3_readSign_167
        · refine g_rl0 hc dX3_readSign_158 rfl (pc2 := 159) rfl ?_
          refine g_callV0 hc (C_X3_readClosing ht) mv_X3_readClosing ln_X3_134 ht ⟨by decide, by decide⟩ (Nat.le_of_ble_eq_true rfl) dX3_readSign_159 (pc2 := 162) rfl (fun r12 s11 => ?_)
          exact g_zret hc dX3_readSign_162
      · refine g_rl0 hc dX3_readSign_143 rfl (pc2 := 144) rfl ?_
        refine g_bipush hc dX3_readSign_144 bp_11 (pc2 := 146) rfl ?_
        refine g_iconst hc dX3_readSign_146 ic_1 (pc2 := 147) rfl ?_
        refine g_callV2 hc (C_X3_join ht) mv_X3_join ln_X3_120 ht ⟨by decide, by decide⟩ (Nat.le_of_ble_eq_true rfl) dX3_readSign_147 (pc2 := 150) rfl (fun r14 s13 => ?_)
        exact g_zret hc dX3_readSign_150
    · refine g_rl0 hc dX3_readSign_123 rfl (pc2 := 124) rfl ?_
      refine g_bipush hc dX3_readSign_124 bp_10 (pc2 := 126) rfl ?_
      refine g_iconst hc dX3_readSign_126 ic_1 (pc2 := 127) rfl ?_
      refine g_callV2 hc (C_X3_join ht) mv_X3_join ln_X3_120 ht ⟨by decide, by decide⟩ (Nat.le_of_ble_eq_true rfl) dX3_readSign_127 (pc2 := 130) rfl (fun r16 s15 => ?_)
      exact g_zret hc dX3_readSign_130
  · refine g_icmp_ne hc dX3_readSign_5 (pc1 := 8) (pc2 := 111) rfl rfl (fun _ => ?_) (fun _ => ?_)
    · refine g_rl0 hc dX3_readSign_8 rfl (pc2 := 9) rfl ?_
      refine g_getR hc fl_X3_42 rfl ht dX3_readSign_9 (pc2 := 12) rfl ?_
      refine g_bipush hc dX3_readSign_12 bp_47 (pc2 := 14) rfl ?_
      refine g_callV1 hc (C_X8_isSign (kf_3_0 ht)) mv_X8_isSign ln_X3_96 (kf_3_0 ht) ⟨by decide, by decide⟩ (Nat.le_of_ble_eq_true rfl) dX3_readSign_14 (pc2 := 17) rfl (fun r19 s18 => ?_)
      refine g_if_eq hc dX3_readSign_17 (pc1 := 25) (pc2 := 20) rfl rfl (fun _ => ?_) (fun _ => ?_)
      · refine g_rl0 hc dX3_readSign_25 rfl (pc2 := 26) rfl ?_
        refine g_getR hc fl_X3_42 rfl ht dX3_readSign_26 (pc2 := 29) rfl ?_
        refine g_bipush hc dX3_readSign_29 bp_42 (pc2 := 31) rfl ?_
        refine g_callV1 hc (C_X8_isSign (kf_3_0 ht)) mv_X8_isSign ln_X3_96 (kf_3_0 ht) ⟨by decide, by decide⟩ (Nat.le_of_ble_eq_true rfl) dX3_readSign_31 (pc2 := 34) rfl (fun r22 s21 => ?_)
        refine g_jn (P := fun j74 => ∀ (y23 : Int32) (s24 : q_Sto), q_G w cx 2 (some .boolean) 74 [some (q_rf w t), none] [.int y23] s24 (j74 y23 s24)) (fun y23 s24 => ?_) (fun j74 hj74 => ?_)
        · refine g_is1 hc dX3_readSign_74 (by decide) (L2 := [some (q_rf w t), some (.int y23)]) rfl (pc2 := 75) rfl ?_
          refine g_il1 hc dX3_readSign_75 rfl (pc2 := 76) rfl ?_
          refine g_iconst hc dX3_readSign_76 ic_m1 (pc2 := 77) rfl ?_
          refine g_icmp_eq hc dX3_readSign_77 (pc1 := 87) (pc2 := 80) rfl rfl (fun _ => ?_) (fun _ => ?_)
          · refine g_rl0 hc dX3_readSign_87 rfl (pc2 := 88) rfl ?_
            refine g_getI hc fl_X3_35 rfl ht dX3_readSign_88 (pc2 := 91) rfl ?_
            refine g_if_ne hc dX3_readSign_91 (pc1 := 94) (pc2 := 99) rfl rfl (fun _ => ?_) (fun _ => ?_)
            · refine g_rl0 hc dX3_readSign_94 rfl (pc2 := 95) rfl ?_
              refine g_callV0 hc (C_X3_readWhen ht) mv_X3_readWhen ln_X3_124 ht ⟨by decide, by decide⟩ (Nat.le_of_ble_eq_true rfl) dX3_readSign_95 (pc2 := 98) rfl (fun r28 s27 => ?_)
              exact g_zret hc dX3_readSign_98
            · refine g_rl0 hc dX3_readSign_99 rfl (pc2 := 100) rfl ?_
              refine g_getI hc fl_X3_39 rfl ht dX3_readSign_100 (pc2 := 103) rfl ?_
              refine g_if_ne hc dX3_readSign_103 (pc1 := 106) (pc2 := 111) rfl rfl (fun _ => ?_) (fun _ => ?_)
              · refine g_rl0 hc dX3_readSign_106 rfl (pc2 := 107) rfl ?_
                refine g_callV0 hc (C_X3_readComparison ht) mv_X3_readComparison ln_X3_127 ht ⟨by decide, by decide⟩ (Nat.le_of_ble_eq_true rfl) dX3_readSign_107 (pc2 := 110) rfl (fun r31 s30 => ?_)
                exact g_zret hc dX3_readSign_110
              · refine q_Gmask [true, false] (L2 := [some (q_rf w t), none]) rfl ?_
                exact hj111 _
          · refine g_rl0 hc dX3_readSign_80 rfl (pc2 := 81) rfl ?_
            refine g_il1 hc dX3_readSign_81 rfl (pc2 := 82) rfl ?_
            refine g_iconst hc dX3_readSign_82 ic_0 (pc2 := 83) rfl ?_
            refine g_callV2 hc (C_X3_join ht) mv_X3_join ln_X3_120 ht ⟨by decide, by decide⟩ (Nat.le_of_ble_eq_true rfl) dX3_readSign_83 (pc2 := 86) rfl (fun r33 s32 => ?_)
            exact g_zret hc dX3_readSign_86
        · refine g_if_eq hc dX3_readSign_34 (pc1 := 41) (pc2 := 37) rfl rfl (fun _ => ?_) (fun _ => ?_)
          · refine g_rl0 hc dX3_readSign_41 rfl (pc2 := 42) rfl ?_
            refine g_getR hc fl_X3_42 rfl ht dX3_readSign_42 (pc2 := 45) rfl ?_
            refine g_bipush hc dX3_readSign_45 bp_43 (pc2 := 47) rfl ?_
            refine g_callV1 hc (C_X8_isSign (kf_3_0 ht)) mv_X8_isSign ln_X3_96 (kf_3_0 ht) ⟨by decide, by decide⟩ (Nat.le_of_ble_eq_true rfl) dX3_readSign_47 (pc2 := 50) rfl (fun r36 s35 => ?_)
            refine g_if_eq hc dX3_readSign_50 (pc1 := 57) (pc2 := 53) rfl rfl (fun _ => ?_) (fun _ => ?_)
            · refine g_rl0 hc dX3_readSign_57 rfl (pc2 := 58) rfl ?_
              refine g_getR hc fl_X3_42 rfl ht dX3_readSign_58 (pc2 := 61) rfl ?_
              refine g_bipush hc dX3_readSign_61 bp_45 (pc2 := 63) rfl ?_
              refine g_callV1 hc (C_X8_isSign (kf_3_0 ht)) mv_X8_isSign ln_X3_96 (kf_3_0 ht) ⟨by decide, by decide⟩ (Nat.le_of_ble_eq_true rfl) dX3_readSign_63 (pc2 := 66) rfl (fun r39 s38 => ?_)
              refine g_if_eq hc dX3_readSign_66 (pc1 := 73) (pc2 := 69) rfl rfl (fun _ => ?_) (fun _ => ?_)
              · refine g_iconst hc dX3_readSign_73 ic_m1 (pc2 := 74) rfl ?_
                exact hj74 _ _
              · refine g_iconst hc dX3_readSign_69 ic_5 (pc2 := 70) rfl ?_
                refine g_goto hc dX3_readSign_70 (pc2 := 74) rfl ?_
                exact hj74 _ _
            · refine g_iconst hc dX3_readSign_53 ic_4 (pc2 := 54) rfl ?_
              refine g_goto hc dX3_readSign_54 (pc2 := 74) rfl ?_
              exact hj74 _ _
          · refine g_iconst hc dX3_readSign_37 ic_3 (pc2 := 38) rfl ?_
            refine g_goto hc dX3_readSign_38 (pc2 := 74) rfl ?_
            exact hj74 _ _
      · refine g_rl0 hc dX3_readSign_20 rfl (pc2 := 21) rfl ?_
        refine g_callV0 hc (C_X3_readPart ht) mv_X3_readPart ln_X3_117 ht ⟨by decide, by decide⟩ (Nat.le_of_ble_eq_true rfl) dX3_readSign_21 (pc2 := 24) rfl (fun r42 s41 => ?_)
        exact g_zret hc dX3_readSign_24
    · exact hj111 _
set_option maxRecDepth 100000 in
set_option maxHeartbeats 4000000 in
def f_X3_readLine_L127 (n : Nat) (x0 : Nat) (k171 : q_Sto → Option (Int32 × q_Sto)) : Nat → Int32 → Int32 → q_Sto → Option (Int32 × q_Sto)
  | 0, _, _, _ => none
  | j + 1, x2, x3, s0 =>
    if x3 ≤ 400 then (
    if x2 = 0 then (
    k171 s0)
    else (
    if (s0 x0 6) = 0 then (
    q_call (f_X3_readOperand n x0 s0) fun r24 s23 =>
    f_X3_readLine_L127 n x0 k171 j r24 (x3 + 1) s23)
    else (
    if (s0 x0 6) = 1 then (
    q_call (f_X3_readOperand n x0 s0) fun r27 s26 =>
    f_X3_readLine_L127 n x0 k171 j r27 (x3 + 1) s26)
    else (
    q_call (f_X3_readSign n x0 s0) fun r29 s28 =>
    f_X3_readLine_L127 n x0 k171 j r29 (x3 + 1) s28))))
    else (
    k171 s0)
set_option maxRecDepth 100000 in
set_option maxHeartbeats 4000000 in
def f_X3_readLine (n : Nat) (t : Nat) (s0 : q_Sto) : Option (Int32 × q_Sto) :=
  q_call (f_X8_isWord n (q_RF t 0) 0 s0) fun r2 s1 =>
  q_jn (fun (y3 : Int32) (s4 : q_Sto) =>
    if y3 = (-1) then (
    q_call (f_X8_fail n (q_RF t 0) 1 s4) fun r7 s6 =>
    q_rz r7 s6)
    else (
    q_call (f_X2_isFull n (q_RF t 1) s4) fun r9 s8 =>
    if r9 = 0 then (
    q_callv (f_X8_next n (q_RF t 0) s8) fun s11 =>
    q_callv (f_X2_beginLine n (q_RF t 1) y3 s11) fun s13 =>
    q_nS1 (q_up s13 t 3 0) fun s15 =>
    q_nS1 (q_up s15 t 4 0) fun s16 =>
    q_nS1 (q_up s16 t 5 0) fun s17 =>
    q_nS1 (q_up s17 t 7 0) fun s18 =>
    q_nS1 (q_up s18 t 6 0) fun s19 =>
    f_X3_readLine_L127 n t (fun  (s30 : q_Sto) =>
    if (s30 (q_RF t 0) 6) = 0 then (
    some (1, s30))
    else (
    some (0, s30))) n 1 0 s19)
    else (
    q_call (f_X8_fail n (q_RF t 0) 3 s8) fun r33 s32 =>
    q_rz r33 s32))) fun j49 =>
  if r2 = 0 then (
  q_call (f_X8_isWord n (q_RF t 0) 1 s1) fun r36 s35 =>
  if r36 = 0 then (
  q_call (f_X8_isWord n (q_RF t 0) 2 s35) fun r39 s38 =>
  if r39 = 0 then (
  j49 (-1) s38)
  else (
  j49 2 s38))
  else (
  j49 1 s35))
  else (
  j49 0 s1)
set_option maxRecDepth 100000 in
set_option maxHeartbeats 4000000 in
theorem t_X3_readLine_L127 {w : q_Wd} {cx : q_Cx} (hc : q_ok w cx RX3 cX3_readLine 4 (some .boolean) (q_rm 9 203)) {n : Nat} {x0 : Nat} (hx0 : q_KD x0 = .inl 3) {k171 : q_Sto → Option (Int32 × q_Sto)} (hk171 : ∀  (s1 : q_Sto), q_G w cx 4 (some .boolean) 171 [some (q_rf w x0), none, none, none] [] s1 (k171 s1)) :
    ∀ (j : Nat) (x2 : Int32) (x3 : Int32) (s0 : q_Sto), q_G w cx 4 (some .boolean) 127 [some (q_rf w x0), none, some (.int x2), some (.int x3)] [] s0 (f_X3_readLine_L127 n x0 k171 j x2 x3 s0) := by
  intro j
  induction j with
  | zero =>
    intro _ _ _
    rw [f_X3_readLine_L127]
    exact q_none
  | succ j ih =>
    intro x2 x3 s0
    rw [f_X3_readLine_L127]
    refine g_il3 hc dX3_readLine_127 rfl (pc2 := 128) rfl ?_
    refine g_sipush hc dX3_readLine_128 sp_400 (pc2 := 131) rfl ?_
    refine g_icmp_gt hc dX3_readLine_131 (pc1 := 134) (pc2 := 171) rfl rfl (fun _ => ?_) (fun _ => ?_)
    · refine g_il2 hc dX3_readLine_134 rfl (pc2 := 135) rfl ?_
      refine g_if_eq hc dX3_readLine_135 (pc1 := 171) (pc2 := 138) rfl rfl (fun _ => ?_) (fun _ => ?_)
      · refine q_Gmask [true, true, false, false] (L2 := [some (q_rf w x0), none, none, none]) rfl ?_
        exact hk171 _
      · refine g_rl0 hc dX3_readLine_138 rfl (pc2 := 139) rfl ?_
        refine g_getI hc fl_X3_32 rfl hx0 dX3_readLine_139 (pc2 := 142) rfl ?_
        refine g_if_eq hc dX3_readLine_142 (pc1 := 153) (pc2 := 145) rfl rfl (fun _ => ?_) (fun _ => ?_)
        · refine g_rl0 hc dX3_readLine_153 rfl (pc2 := 154) rfl ?_
          refine g_callV0 hc (C_X3_readOperand hx0) mv_X3_readOperand ln_X3_82 hx0 ⟨by decide, by decide⟩ (Nat.le_of_ble_eq_true rfl) dX3_readLine_154 (pc2 := 157) rfl (fun r24 s23 => ?_)
          refine g_goto hc dX3_readLine_157 (pc2 := 164) rfl ?_
          refine g_is2 hc dX3_readLine_164 (by decide) (L2 := [some (q_rf w x0), none, some (.int r24), some (.int x3)]) rfl (pc2 := 165) rfl ?_
          refine g_iinc hc dX3_readLine_165 rfl (q_ii ic_1) (by decide) (L2 := [some (q_rf w x0), none, some (.int r24), some (.int (x3 + 1))]) rfl (pc2 := 168) rfl ?_
          refine g_goto hc dX3_readLine_168 (pc2 := 127) rfl ?_
          exact ih _ _ _
        · refine g_rl0 hc dX3_readLine_145 rfl (pc2 := 146) rfl ?_
          refine g_getI hc fl_X3_32 rfl hx0 dX3_readLine_146 (pc2 := 149) rfl ?_
          refine g_iconst hc dX3_readLine_149 ic_1 (pc2 := 150) rfl ?_
          refine g_icmp_ne hc dX3_readLine_150 (pc1 := 153) (pc2 := 160) rfl rfl (fun _ => ?_) (fun _ => ?_)
          · refine g_rl0 hc dX3_readLine_153 rfl (pc2 := 154) rfl ?_
            refine g_callV0 hc (C_X3_readOperand hx0) mv_X3_readOperand ln_X3_82 hx0 ⟨by decide, by decide⟩ (Nat.le_of_ble_eq_true rfl) dX3_readLine_154 (pc2 := 157) rfl (fun r27 s26 => ?_)
            refine g_goto hc dX3_readLine_157 (pc2 := 164) rfl ?_
            refine g_is2 hc dX3_readLine_164 (by decide) (L2 := [some (q_rf w x0), none, some (.int r27), some (.int x3)]) rfl (pc2 := 165) rfl ?_
            refine g_iinc hc dX3_readLine_165 rfl (q_ii ic_1) (by decide) (L2 := [some (q_rf w x0), none, some (.int r27), some (.int (x3 + 1))]) rfl (pc2 := 168) rfl ?_
            refine g_goto hc dX3_readLine_168 (pc2 := 127) rfl ?_
            exact ih _ _ _
          · refine g_rl0 hc dX3_readLine_160 rfl (pc2 := 161) rfl ?_
            refine g_callV0 hc (C_X3_readSign hx0) mv_X3_readSign ln_X3_85 hx0 ⟨by decide, by decide⟩ (Nat.le_of_ble_eq_true rfl) dX3_readLine_161 (pc2 := 164) rfl (fun r29 s28 => ?_)
            refine g_is2 hc dX3_readLine_164 (by decide) (L2 := [some (q_rf w x0), none, some (.int r29), some (.int x3)]) rfl (pc2 := 165) rfl ?_
            refine g_iinc hc dX3_readLine_165 rfl (q_ii ic_1) (by decide) (L2 := [some (q_rf w x0), none, some (.int r29), some (.int (x3 + 1))]) rfl (pc2 := 168) rfl ?_
            refine g_goto hc dX3_readLine_168 (pc2 := 127) rfl ?_
            exact ih _ _ _
    · refine q_Gmask [true, true, false, false] (L2 := [some (q_rf w x0), none, none, none]) rfl ?_
      exact hk171 _
set_option maxRecDepth 100000 in
set_option maxHeartbeats 4000000 in
theorem C_X3_readLine {l : Launch} {w : q_Wd} {n : Nat} {t : Nat} (ht : q_KD t = .inl 3) {s0 : q_Sto} : q_C l w yX3_readLine cX3_readLine 4 (some .boolean) (q_rm 9 203) [q_rf w t] s0 (f_X3_readLine n t s0) := q_CofG [some (q_rf w t), none, none, none] (by decide +kernel) rfl rfl (Nat.le_of_ble_eq_true rfl) fun cx hl hc => by
  have hc : q_ok w cx RX3 cX3_readLine 4 (some .boolean) (q_rm 9 203) := hc
  rw [f_X3_readLine]
  refine g_rl0 hc dX3_readLine_0 rfl (pc2 := 1) rfl ?_
  refine g_getR hc fl_X3_42 rfl ht dX3_readLine_1 (pc2 := 4) rfl ?_
  refine g_ldcS (i := 0) (tx := "lean") hc (by decide +kernel) dX3_readLine_4 (pc2 := 6) rfl ?_
  refine g_callV1 hc (C_X8_isWord (kf_3_0 ht) (by decide)) mv_X8_isWord ln_X3_60 (kf_3_0 ht) ⟨by decide, by decide⟩ (Nat.le_of_ble_eq_true rfl) dX3_readLine_6 (pc2 := 9) rfl (fun r2 s1 => ?_)
  refine g_jn (P := fun j49 => ∀ (y3 : Int32) (s4 : q_Sto), q_G w cx 4 (some .boolean) 49 [some (q_rf w t), none, none, none] [.int y3] s4 (j49 y3 s4)) (fun y3 s4 => ?_) (fun j49 hj49 => ?_)
  · refine g_is1 hc dX3_readLine_49 (by decide) (L2 := [some (q_rf w t), some (.int y3), none, none]) rfl (pc2 := 50) rfl ?_
    refine g_il1 hc dX3_readLine_50 rfl (pc2 := 51) rfl ?_
    refine g_iconst hc dX3_readLine_51 ic_m1 (pc2 := 52) rfl ?_
    refine g_icmp_ne hc dX3_readLine_52 (pc1 := 55) (pc2 := 64) rfl rfl (fun _ => ?_) (fun _ => ?_)
    · refine g_rl0 hc dX3_readLine_55 rfl (pc2 := 56) rfl ?_
      refine g_getR hc fl_X3_42 rfl ht dX3_readLine_56 (pc2 := 59) rfl ?_
      refine g_iconst hc dX3_readLine_59 ic_1 (pc2 := 60) rfl ?_
      refine g_callV1 hc (C_X8_fail (kf_3_0 ht)) mv_X8_fail ln_X3_68 (kf_3_0 ht) ⟨by decide, by decide⟩ (Nat.le_of_ble_eq_true rfl) dX3_readLine_60 (pc2 := 63) rfl (fun r7 s6 => ?_)
      exact g_zret hc dX3_readLine_63
    · refine g_rl0 hc dX3_readLine_64 rfl (pc2 := 65) rfl ?_
      refine g_getR hc fl_X3_12 rfl ht dX3_readLine_65 (pc2 := 68) rfl ?_
      refine g_callV0 hc (C_X2_isFull (kf_3_1 ht)) mv_X2_isFull ln_X3_72 (kf_3_1 ht) ⟨by decide, by decide⟩ (Nat.le_of_ble_eq_true rfl) dX3_readLine_68 (pc2 := 71) rfl (fun r9 s8 => ?_)
      refine g_if_eq hc dX3_readLine_71 (pc1 := 83) (pc2 := 74) rfl rfl (fun _ => ?_) (fun _ => ?_)
      · refine g_rl0 hc dX3_readLine_83 rfl (pc2 := 84) rfl ?_
        refine g_getR hc fl_X3_42 rfl ht dX3_readLine_84 (pc2 := 87) rfl ?_
        refine g_callV0v hc (C_X8_next (kf_3_0 ht)) mv_X8_next ln_X3_75 (kf_3_0 ht) ⟨by decide, by decide⟩ (Nat.le_of_ble_eq_true rfl) dX3_readLine_87 (pc2 := 90) rfl (fun s11 => ?_)
        refine g_rl0 hc dX3_readLine_90 rfl (pc2 := 91) rfl ?_
        refine g_getR hc fl_X3_12 rfl ht dX3_readLine_91 (pc2 := 94) rfl ?_
        refine g_il1 hc dX3_readLine_94 rfl (pc2 := 95) rfl ?_
        refine g_callV1v hc (C_X2_beginLine (kf_3_1 ht)) mv_X2_beginLine ln_X3_78 (kf_3_1 ht) ⟨by decide, by decide⟩ (Nat.le_of_ble_eq_true rfl) dX3_readLine_95 (pc2 := 98) rfl (fun s13 => ?_)
        refine g_rl0 hc dX3_readLine_98 rfl (pc2 := 99) rfl ?_
        refine g_iconst hc dX3_readLine_99 ic_0 (pc2 := 100) rfl ?_
        refine g_putI hc fl_X3_22 rfl ht dX3_readLine_100 (pc2 := 103) rfl (fun s15 => ?_)
        refine g_rl0 hc dX3_readLine_103 rfl (pc2 := 104) rfl ?_
        refine g_iconst hc dX3_readLine_104 ic_0 (pc2 := 105) rfl ?_
        refine g_putI hc fl_X3_26 rfl ht dX3_readLine_105 (pc2 := 108) rfl (fun s16 => ?_)
        refine g_rl0 hc dX3_readLine_108 rfl (pc2 := 109) rfl ?_
        refine g_iconst hc dX3_readLine_109 ic_0 (pc2 := 110) rfl ?_
        refine g_putI hc fl_X3_29 rfl ht dX3_readLine_110 (pc2 := 113) rfl (fun s17 => ?_)
        refine g_rl0 hc dX3_readLine_113 rfl (pc2 := 114) rfl ?_
        refine g_iconst hc dX3_readLine_114 ic_0 (pc2 := 115) rfl ?_
        refine g_putZ (by decide) hc fl_X3_35 rfl ht dX3_readLine_115 (pc2 := 118) rfl (fun s18 => ?_)
        refine g_rl0 hc dX3_readLine_118 rfl (pc2 := 119) rfl ?_
        refine g_iconst hc dX3_readLine_119 ic_0 (pc2 := 120) rfl ?_
        refine g_putI hc fl_X3_32 rfl ht dX3_readLine_120 (pc2 := 123) rfl (fun s19 => ?_)
        refine g_iconst hc dX3_readLine_123 ic_1 (pc2 := 124) rfl ?_
        refine g_is2 hc dX3_readLine_124 (by decide) (L2 := [some (q_rf w t), some (.int y3), some (.int 1), none]) rfl (pc2 := 125) rfl ?_
        refine g_iconst hc dX3_readLine_125 ic_0 (pc2 := 126) rfl ?_
        refine g_is3 hc dX3_readLine_126 (by decide) (L2 := [some (q_rf w t), some (.int y3), some (.int 1), some (.int 0)]) rfl (pc2 := 127) rfl ?_
        refine q_Gmask [true, false, true, true] (L2 := [some (q_rf w t), none, some (.int 1), some (.int 0)]) rfl ?_
        refine t_X3_readLine_L127 hc ht (fun s30 => ?_) n _ _ _
        refine g_rl0 hc dX3_readLine_171 rfl (pc2 := 172) rfl ?_
        refine g_getR hc fl_X3_42 rfl ht dX3_readLine_172 (pc2 := 175) rfl ?_
        refine g_getI hc fl_X3_88 rfl (kf_3_0 ht) dX3_readLine_175 (pc2 := 178) rfl ?_
        refine g_if_ne hc dX3_readLine_178 (pc1 := 181) (pc2 := 185) rfl rfl (fun _ => ?_) (fun _ => ?_)
        · refine g_iconst hc dX3_readLine_181 ic_1 (pc2 := 182) rfl ?_
          refine g_goto hc dX3_readLine_182 (pc2 := 186) rfl ?_
          exact g_zret0 (by decide) hc dX3_readLine_186
        · refine g_iconst hc dX3_readLine_185 ic_0 (pc2 := 186) rfl ?_
          exact g_zret0 (by decide) hc dX3_readLine_186
      · refine g_rl0 hc dX3_readLine_74 rfl (pc2 := 75) rfl ?_
        refine g_getR hc fl_X3_42 rfl ht dX3_readLine_75 (pc2 := 78) rfl ?_
        refine g_iconst hc dX3_readLine_78 ic_3 (pc2 := 79) rfl ?_
        refine g_callV1 hc (C_X8_fail (kf_3_0 ht)) mv_X8_fail ln_X3_68 (kf_3_0 ht) ⟨by decide, by decide⟩ (Nat.le_of_ble_eq_true rfl) dX3_readLine_79 (pc2 := 82) rfl (fun r33 s32 => ?_)
        exact g_zret hc dX3_readLine_82
  · refine g_if_eq hc dX3_readLine_9 (pc1 := 16) (pc2 := 12) rfl rfl (fun _ => ?_) (fun _ => ?_)
    · refine g_rl0 hc dX3_readLine_16 rfl (pc2 := 17) rfl ?_
      refine g_getR hc fl_X3_42 rfl ht dX3_readLine_17 (pc2 := 20) rfl ?_
      refine g_ldcS (i := 1) (tx := "need") hc (by decide +kernel) dX3_readLine_20 (pc2 := 22) rfl ?_
      refine g_callV1 hc (C_X8_isWord (kf_3_0 ht) (by decide)) mv_X8_isWord ln_X3_60 (kf_3_0 ht) ⟨by decide, by decide⟩ (Nat.le_of_ble_eq_true rfl) dX3_readLine_22 (pc2 := 25) rfl (fun r36 s35 => ?_)
      refine g_if_eq hc dX3_readLine_25 (pc1 := 32) (pc2 := 28) rfl rfl (fun _ => ?_) (fun _ => ?_)
      · refine g_rl0 hc dX3_readLine_32 rfl (pc2 := 33) rfl ?_
        refine g_getR hc fl_X3_42 rfl ht dX3_readLine_33 (pc2 := 36) rfl ?_
        refine g_ldcS (i := 2) (tx := "risk") hc (by decide +kernel) dX3_readLine_36 (pc2 := 38) rfl ?_
        refine g_callV1 hc (C_X8_isWord (kf_3_0 ht) (by decide)) mv_X8_isWord ln_X3_60 (kf_3_0 ht) ⟨by decide, by decide⟩ (Nat.le_of_ble_eq_true rfl) dX3_readLine_38 (pc2 := 41) rfl (fun r39 s38 => ?_)
        refine g_if_eq hc dX3_readLine_41 (pc1 := 48) (pc2 := 44) rfl rfl (fun _ => ?_) (fun _ => ?_)
        · refine g_iconst hc dX3_readLine_48 ic_m1 (pc2 := 49) rfl ?_
          exact hj49 _ _
        · refine g_iconst hc dX3_readLine_44 ic_2 (pc2 := 45) rfl ?_
          refine g_goto hc dX3_readLine_45 (pc2 := 49) rfl ?_
          exact hj49 _ _
      · refine g_iconst hc dX3_readLine_28 ic_1 (pc2 := 29) rfl ?_
        refine g_goto hc dX3_readLine_29 (pc2 := 49) rfl ?_
        exact hj49 _ _
    · refine g_iconst hc dX3_readLine_12 ic_0 (pc2 := 13) rfl ?_
      refine g_goto hc dX3_readLine_13 (pc2 := 49) rfl ?_
      exact hj49 _ _
set_option maxRecDepth 100000 in
set_option maxHeartbeats 4000000 in
def f_X3_read_L9 (n : Nat) (x0 : Nat) : Nat → Int32 → q_Sto → Option (Int32 × q_Sto)
  | 0, _, _ => none
  | j + 1, x1, s0 =>
    if x1 ≤ 400 then (
    q_call (f_X8_isEnd n (q_RF x0 0) s0) fun r5 s4 =>
    if r5 = 0 then (
    q_call (f_X3_readLine n x0 s4) fun r8 s7 =>
    if r8 = 0 then (
    some (0, s7))
    else (
    f_X3_read_L9 n x0  j (x1 + 1) s7))
    else (
    some (1, s4)))
    else (
    some (1, s0))
set_option maxRecDepth 100000 in
set_option maxHeartbeats 4000000 in
def f_X3_read (n : Nat) (t : Nat) (s0 : q_Sto) : Option (Int32 × q_Sto) :=
  q_callv (f_X2_clear n (q_RF t 1) s0) fun s1 =>
  f_X3_read_L9 n t  n 0 s1
set_option maxRecDepth 100000 in
set_option maxHeartbeats 4000000 in
theorem t_X3_read_L9 {w : q_Wd} {cx : q_Cx} (hc : q_ok w cx RX3 cX3_read 2 (some .boolean) (q_rm 10 226)) {n : Nat} {x0 : Nat} (hx0 : q_KD x0 = .inl 3)   :
    ∀ (j : Nat) (x1 : Int32) (s0 : q_Sto), q_G w cx 2 (some .boolean) 9 [some (q_rf w x0), some (.int x1)] [] s0 (f_X3_read_L9 n x0  j x1 s0) := by
  intro j
  induction j with
  | zero =>
    intro _ _
    rw [f_X3_read_L9]
    exact q_none
  | succ j ih =>
    intro x1 s0
    rw [f_X3_read_L9]
    refine g_il1 hc dX3_read_9 rfl (pc2 := 10) rfl ?_
    refine g_sipush hc dX3_read_10 sp_400 (pc2 := 13) rfl ?_
    refine g_icmp_gt hc dX3_read_13 (pc1 := 16) (pc2 := 41) rfl rfl (fun _ => ?_) (fun _ => ?_)
    · refine g_rl0 hc dX3_read_16 rfl (pc2 := 17) rfl ?_
      refine g_getR hc fl_X3_42 rfl hx0 dX3_read_17 (pc2 := 20) rfl ?_
      refine g_callV0 hc (C_X8_isEnd (kf_3_0 hx0)) mv_X8_isEnd ln_X3_49 (kf_3_0 hx0) ⟨by decide, by decide⟩ (Nat.le_of_ble_eq_true rfl) dX3_read_20 (pc2 := 23) rfl (fun r5 s4 => ?_)
      refine g_if_ne hc dX3_read_23 (pc1 := 26) (pc2 := 41) rfl rfl (fun _ => ?_) (fun _ => ?_)
      · refine g_rl0 hc dX3_read_26 rfl (pc2 := 27) rfl ?_
        refine g_callV0 hc (C_X3_readLine hx0) mv_X3_readLine ln_X3_55 hx0 ⟨by decide, by decide⟩ (Nat.le_of_ble_eq_true rfl) dX3_read_27 (pc2 := 30) rfl (fun r8 s7 => ?_)
        refine g_if_ne hc dX3_read_30 (pc1 := 33) (pc2 := 35) rfl rfl (fun _ => ?_) (fun _ => ?_)
        · refine g_iconst hc dX3_read_33 ic_0 (pc2 := 34) rfl ?_
          exact g_zret0 (by decide) hc dX3_read_34
        · refine g_iinc hc dX3_read_35 rfl (q_ii ic_1) (by decide) (L2 := [some (q_rf w x0), some (.int (x1 + 1))]) rfl (pc2 := 38) rfl ?_
          refine g_goto hc dX3_read_38 (pc2 := 9) rfl ?_
          exact ih _ _
      · refine g_iconst hc dX3_read_41 ic_1 (pc2 := 42) rfl ?_
        exact g_zret0 (by decide) hc dX3_read_42
    · refine g_iconst hc dX3_read_41 ic_1 (pc2 := 42) rfl ?_
      exact g_zret0 (by decide) hc dX3_read_42
set_option maxRecDepth 100000 in
set_option maxHeartbeats 4000000 in
theorem C_X3_read {l : Launch} {w : q_Wd} {n : Nat} {t : Nat} (ht : q_KD t = .inl 3) {s0 : q_Sto} : q_C l w yX3_read cX3_read 2 (some .boolean) (q_rm 10 226) [q_rf w t] s0 (f_X3_read n t s0) := q_CofG [some (q_rf w t), none] (by decide +kernel) rfl rfl (Nat.le_of_ble_eq_true rfl) fun cx hl hc => by
  have hc : q_ok w cx RX3 cX3_read 2 (some .boolean) (q_rm 10 226) := hc
  rw [f_X3_read]
  refine g_rl0 hc dX3_read_0 rfl (pc2 := 1) rfl ?_
  refine g_getR hc fl_X3_12 rfl ht dX3_read_1 (pc2 := 4) rfl ?_
  refine g_callV0v hc (C_X2_clear (kf_3_1 ht)) mv_X2_clear ln_X3_46 (kf_3_1 ht) ⟨by decide, by decide⟩ (Nat.le_of_ble_eq_true rfl) dX3_read_4 (pc2 := 7) rfl (fun s1 => ?_)
  refine g_iconst hc dX3_read_7 ic_0 (pc2 := 8) rfl ?_
  refine g_is1 hc dX3_read_8 (by decide) (L2 := [some (q_rf w t), some (.int 0)]) rfl (pc2 := 9) rfl ?_
  refine t_X3_read_L9 hc ht  n _ _
set_option maxRecDepth 100000 in
set_option maxHeartbeats 4000000 in
def f_X4_weigh_L24 (n : Nat) (x0 : Nat) (x1 : Nat) (x2 : Int32) (x3 : Int32) (k68 : q_Sto → Option (Int32 × q_Sto)) : Nat → Int32 → q_Sto → Option (Int32 × q_Sto)
  | 0, _, _ => none
  | j + 1, x4, s0 =>
    if x4 < (s0 x1 2) then (
    q_ld s0 (q_RF x0 0) x3 256 fun v5 =>
    q_call (f_X11_isIn n x3 x4 s0) fun r7 s6 =>
    if r7 = 0 then (
    q_st s6 (q_RF x0 0) x3 256 (v5 + 0) fun s9 =>
    f_X4_weigh_L24 n x0 x1 x2 x3 k68 j (x4 + 1) s9)
    else (
    q_call (f_X6_cell n x1 x4 0 s6) fun r11 s10 =>
    q_st s10 (q_RF x0 0) x3 256 (v5 + r11) fun s12 =>
    f_X4_weigh_L24 n x0 x1 x2 x3 k68 j (x4 + 1) s12))
    else (
    k68 s0)
set_option maxRecDepth 100000 in
set_option maxHeartbeats 4000000 in
def f_X4_weigh_L2 (n : Nat) (x0 : Nat) (x1 : Nat) (x2 : Int32) : Nat → Int32 → q_Sto → Option (Int32 × q_Sto)
  | 0, _, _ => none
  | j + 1, x3, s0 =>
    if x3 < x2 then (
    if x3 < 256 then (
    q_st s0 (q_RF x0 0) x3 256 0 fun s3 =>
    f_X4_weigh_L24 n x0 x1 x2 x3 (fun  (s13 : q_Sto) =>
    if x3 = 0 then (
    q_st s13 (q_RF x0 1) x3 256 1 fun s15 =>
    f_X4_weigh_L2 n x0 x1 x2  j (x3 + 1) s15)
    else (
    q_st s13 (q_RF x0 1) x3 256 0 fun s16 =>
    f_X4_weigh_L2 n x0 x1 x2  j (x3 + 1) s16)) n 0 s3)
    else (
    some (0, s0)))
    else (
    some (0, s0))
set_option maxRecDepth 100000 in
set_option maxHeartbeats 4000000 in
def f_X4_weigh (n : Nat) (t : Nat) (a0 : Nat) (a1 : Int32) (s0 : q_Sto) : Option (Int32 × q_Sto) :=
  f_X4_weigh_L2 n t a0 a1  n 0 s0
set_option maxRecDepth 100000 in
set_option maxHeartbeats 4000000 in
theorem t_X4_weigh_L24 {w : q_Wd} {cx : q_Cx} (hc : q_ok w cx RX4 cX4_weigh 5 (none) (q_rm 1 22)) {n : Nat} {x0 : Nat} {x1 : Nat} {x2 : Int32} {x3 : Int32} (hx0 : q_KD x0 = .inl 4) (hx1 : q_KD x1 = .inl 6) {k68 : q_Sto → Option (Int32 × q_Sto)} (hk68 : ∀  (s1 : q_Sto), q_G w cx 5 (none) 68 [some (q_rf w x0), some (q_rf w x1), some (.int x2), some (.int x3), none] [] s1 (k68 s1)) :
    ∀ (j : Nat) (x4 : Int32) (s0 : q_Sto), q_G w cx 5 (none) 24 [some (q_rf w x0), some (q_rf w x1), some (.int x2), some (.int x3), some (.int x4)] [] s0 (f_X4_weigh_L24 n x0 x1 x2 x3 k68 j x4 s0) := by
  intro j
  induction j with
  | zero =>
    intro _ _
    rw [f_X4_weigh_L24]
    exact q_none
  | succ j ih =>
    intro x4 s0
    rw [f_X4_weigh_L24]
    refine g_iload hc dX4_weigh_24 rfl (pc2 := 26) rfl ?_
    refine g_rl1 hc dX4_weigh_26 rfl (pc2 := 27) rfl ?_
    refine g_getI hc fl_X4_40 rfl hx1 dX4_weigh_27 (pc2 := 30) rfl ?_
    refine g_icmp_ge hc dX4_weigh_30 (pc1 := 33) (pc2 := 68) rfl rfl (fun _ => ?_) (fun _ => ?_)
    · refine g_rl0 hc dX4_weigh_33 rfl (pc2 := 34) rfl ?_
      refine g_getR hc fl_X4_11 rfl hx0 dX4_weigh_34 (pc2 := 37) rfl ?_
      refine g_il3 hc dX4_weigh_37 rfl (pc2 := 38) rfl ?_
      refine g_dup2 hc dX4_weigh_38 rfl rfl (pc2 := 39) rfl ?_
      refine g_iald hc (kf_4_0 hx0) (kl_4_0 hx0) dX4_weigh_39 (pc2 := 40) rfl (fun v5 => ?_)
      refine g_il3 hc dX4_weigh_40 rfl (pc2 := 41) rfl ?_
      refine g_iload hc dX4_weigh_41 rfl (pc2 := 43) rfl ?_
      refine g_callSN2 (host := "MuleVote") hc C_X11_isIn mv_X11_isIn (by decide +kernel) ⟨by decide, by decide⟩ (Nat.le_of_ble_eq_true rfl) dX4_weigh_43 (pc2 := 46) rfl (fun r7 s6 => ?_)
      refine g_if_eq hc dX4_weigh_46 (pc1 := 59) (pc2 := 49) rfl rfl (fun _ => ?_) (fun _ => ?_)
      · refine g_iconst hc dX4_weigh_59 ic_0 (pc2 := 60) rfl ?_
        refine g_iadd hc dX4_weigh_60 (pc2 := 61) rfl ?_
        refine g_iast hc (kf_4_0 hx0) (kl_4_0 hx0) dX4_weigh_61 (pc2 := 62) rfl (fun s9 => ?_)
        refine g_iinc hc dX4_weigh_62 rfl (q_ii ic_1) (by decide) (L2 := [some (q_rf w x0), some (q_rf w x1), some (.int x2), some (.int x3), some (.int (x4 + 1))]) rfl (pc2 := 65) rfl ?_
        refine g_goto hc dX4_weigh_65 (pc2 := 24) rfl ?_
        exact ih _ _
      · refine g_rl1 hc dX4_weigh_49 rfl (pc2 := 50) rfl ?_
        refine g_iload hc dX4_weigh_50 rfl (pc2 := 52) rfl ?_
        refine g_iconst hc dX4_weigh_52 ic_0 (pc2 := 53) rfl ?_
        refine g_callV2 hc (C_X6_cell hx1) mv_X6_cell ln_X4_79 hx1 ⟨by decide, by decide⟩ (Nat.le_of_ble_eq_true rfl) dX4_weigh_53 (pc2 := 56) rfl (fun r11 s10 => ?_)
        refine g_goto hc dX4_weigh_56 (pc2 := 60) rfl ?_
        refine g_iadd hc dX4_weigh_60 (pc2 := 61) rfl ?_
        refine g_iast hc (kf_4_0 hx0) (kl_4_0 hx0) dX4_weigh_61 (pc2 := 62) rfl (fun s12 => ?_)
        refine g_iinc hc dX4_weigh_62 rfl (q_ii ic_1) (by decide) (L2 := [some (q_rf w x0), some (q_rf w x1), some (.int x2), some (.int x3), some (.int (x4 + 1))]) rfl (pc2 := 65) rfl ?_
        refine g_goto hc dX4_weigh_65 (pc2 := 24) rfl ?_
        exact ih _ _
    · refine q_Gmask [true, true, true, true, false] (L2 := [some (q_rf w x0), some (q_rf w x1), some (.int x2), some (.int x3), none]) rfl ?_
      exact hk68 _
set_option maxRecDepth 100000 in
set_option maxHeartbeats 4000000 in
theorem t_X4_weigh_L2 {w : q_Wd} {cx : q_Cx} (hc : q_ok w cx RX4 cX4_weigh 5 (none) (q_rm 1 22)) {n : Nat} {x0 : Nat} {x1 : Nat} {x2 : Int32} (hx0 : q_KD x0 = .inl 4) (hx1 : q_KD x1 = .inl 6)   :
    ∀ (j : Nat) (x3 : Int32) (s0 : q_Sto), q_G w cx 5 (none) 2 [some (q_rf w x0), some (q_rf w x1), some (.int x2), some (.int x3), none] [] s0 (f_X4_weigh_L2 n x0 x1 x2  j x3 s0) := by
  intro j
  induction j with
  | zero =>
    intro _ _
    rw [f_X4_weigh_L2]
    exact q_none
  | succ j ih =>
    intro x3 s0
    rw [f_X4_weigh_L2]
    refine g_il3 hc dX4_weigh_2 rfl (pc2 := 3) rfl ?_
    refine g_il2 hc dX4_weigh_3 rfl (pc2 := 4) rfl ?_
    refine g_icmp_ge hc dX4_weigh_4 (pc1 := 7) (pc2 := 89) rfl rfl (fun _ => ?_) (fun _ => ?_)
    · refine g_il3 hc dX4_weigh_7 rfl (pc2 := 8) rfl ?_
      refine g_sipush hc dX4_weigh_8 sp_256 (pc2 := 11) rfl ?_
      refine g_icmp_ge hc dX4_weigh_11 (pc1 := 14) (pc2 := 89) rfl rfl (fun _ => ?_) (fun _ => ?_)
      · refine g_rl0 hc dX4_weigh_14 rfl (pc2 := 15) rfl ?_
        refine g_getR hc fl_X4_11 rfl hx0 dX4_weigh_15 (pc2 := 18) rfl ?_
        refine g_il3 hc dX4_weigh_18 rfl (pc2 := 19) rfl ?_
        refine g_iconst hc dX4_weigh_19 ic_0 (pc2 := 20) rfl ?_
        refine g_iast hc (kf_4_0 hx0) (kl_4_0 hx0) dX4_weigh_20 (pc2 := 21) rfl (fun s3 => ?_)
        refine g_iconst hc dX4_weigh_21 ic_0 (pc2 := 22) rfl ?_
        refine g_istore hc dX4_weigh_22 (by decide) (L2 := [some (q_rf w x0), some (q_rf w x1), some (.int x2), some (.int x3), some (.int 0)]) rfl (pc2 := 24) rfl ?_
        refine t_X4_weigh_L24 hc hx0 hx1 (fun s13 => ?_) n _ _
        refine g_rl0 hc dX4_weigh_68 rfl (pc2 := 69) rfl ?_
        refine g_getR hc fl_X4_15 rfl hx0 dX4_weigh_69 (pc2 := 72) rfl ?_
        refine g_il3 hc dX4_weigh_72 rfl (pc2 := 73) rfl ?_
        refine g_il3 hc dX4_weigh_73 rfl (pc2 := 74) rfl ?_
        refine g_if_ne hc dX4_weigh_74 (pc1 := 77) (pc2 := 81) rfl rfl (fun _ => ?_) (fun _ => ?_)
        · refine g_iconst hc dX4_weigh_77 ic_1 (pc2 := 78) rfl ?_
          refine g_goto hc dX4_weigh_78 (pc2 := 82) rfl ?_
          refine g_iast hc (kf_4_1 hx0) (kl_4_1 hx0) dX4_weigh_82 (pc2 := 83) rfl (fun s15 => ?_)
          refine g_iinc hc dX4_weigh_83 rfl (q_ii ic_1) (by decide) (L2 := [some (q_rf w x0), some (q_rf w x1), some (.int x2), some (.int (x3 + 1)), none]) rfl (pc2 := 86) rfl ?_
          refine g_goto hc dX4_weigh_86 (pc2 := 2) rfl ?_
          exact ih _ _
        · refine g_iconst hc dX4_weigh_81 ic_0 (pc2 := 82) rfl ?_
          refine g_iast hc (kf_4_1 hx0) (kl_4_1 hx0) dX4_weigh_82 (pc2 := 83) rfl (fun s16 => ?_)
          refine g_iinc hc dX4_weigh_83 rfl (q_ii ic_1) (by decide) (L2 := [some (q_rf w x0), some (q_rf w x1), some (.int x2), some (.int (x3 + 1)), none]) rfl (pc2 := 86) rfl ?_
          refine g_goto hc dX4_weigh_86 (pc2 := 2) rfl ?_
          exact ih _ _
      · exact g_vret hc dX4_weigh_89
    · exact g_vret hc dX4_weigh_89
set_option maxRecDepth 100000 in
set_option maxHeartbeats 4000000 in
theorem C_X4_weigh {l : Launch} {w : q_Wd} {n : Nat} {t : Nat} {a0 : Nat} {a1 : Int32} (ht : q_KD t = .inl 4) (ha0 : q_KD a0 = .inl 6) {s0 : q_Sto} : q_C l w yX4_weigh cX4_weigh 5 (none) (q_rm 1 22) [q_rf w t, q_rf w a0, .int a1] s0 (f_X4_weigh n t a0 a1 s0) := q_CofG [some (q_rf w t), some (q_rf w a0), some (.int a1), none, none] (by decide +kernel) rfl rfl (Nat.le_of_ble_eq_true rfl) fun cx hl hc => by
  have hc : q_ok w cx RX4 cX4_weigh 5 (none) (q_rm 1 22) := hc
  rw [f_X4_weigh]
  refine g_iconst hc dX4_weigh_0 ic_0 (pc2 := 1) rfl ?_
  refine g_is3 hc dX4_weigh_1 (by decide) (L2 := [some (q_rf w t), some (q_rf w a0), some (.int a1), some (.int 0), none]) rfl (pc2 := 2) rfl ?_
  refine t_X4_weigh_L2 hc ht ha0  n _ _
set_option maxRecDepth 100000 in
set_option maxHeartbeats 4000000 in
def f_X4_canAdd_L2 (n : Nat) (x0 : Nat) (x1 : Int32) (x2 : Int32) : Nat → Int32 → q_Sto → Option (Int32 × q_Sto)
  | 0, _, _ => none
  | j + 1, x3, s0 =>
    if x3 ≤ 0 then (
    some (0, s0))
    else (
    if x3 < 256 then (
    q_ld s0 (q_RF x0 0) x3 256 fun v3 =>
    if v3 ≤ x2 then (
    q_ld s0 (q_RF x0 1) (x1 &&& (x3 ^^^ (-1))) 256 fun v5 =>
    if v5 = 0 then (
    q_nm ((x3 - 1) &&& x1) fun v7 =>
    f_X4_canAdd_L2 n x0 x1 x2  j v7 s0)
    else (
    some (1, s0)))
    else (
    q_nm ((x3 - 1) &&& x1) fun v8 =>
    f_X4_canAdd_L2 n x0 x1 x2  j v8 s0))
    else (
    some (0, s0)))
set_option maxRecDepth 100000 in
set_option maxHeartbeats 4000000 in
def f_X4_canAdd (n : Nat) (t : Nat) (a0 : Int32) (a1 : Int32) (s0 : q_Sto) : Option (Int32 × q_Sto) :=
  f_X4_canAdd_L2 n t a0 a1  n a0 s0
set_option maxRecDepth 100000 in
set_option maxHeartbeats 4000000 in
theorem t_X4_canAdd_L2 {w : q_Wd} {cx : q_Cx} (hc : q_ok w cx RX4 cX4_canAdd 4 (some .boolean) (q_rm 0 0)) {n : Nat} {x0 : Nat} {x1 : Int32} {x2 : Int32} (hx0 : q_KD x0 = .inl 4)   :
    ∀ (j : Nat) (x3 : Int32) (s0 : q_Sto), q_G w cx 4 (some .boolean) 2 [some (q_rf w x0), some (.int x1), some (.int x2), some (.int x3)] [] s0 (f_X4_canAdd_L2 n x0 x1 x2  j x3 s0) := by
  intro j
  induction j with
  | zero =>
    intro _ _
    rw [f_X4_canAdd_L2]
    exact q_none
  | succ j ih =>
    intro x3 s0
    rw [f_X4_canAdd_L2]
    refine g_il3 hc dX4_canAdd_2 rfl (pc2 := 3) rfl ?_
    refine g_if_le hc dX4_canAdd_3 (pc1 := 47) (pc2 := 6) rfl rfl (fun _ => ?_) (fun _ => ?_)
    · refine g_iconst hc dX4_canAdd_47 ic_0 (pc2 := 48) rfl ?_
      exact g_zret0 (by decide) hc dX4_canAdd_48
    · refine g_il3 hc dX4_canAdd_6 rfl (pc2 := 7) rfl ?_
      refine g_sipush hc dX4_canAdd_7 sp_256 (pc2 := 10) rfl ?_
      refine g_icmp_ge hc dX4_canAdd_10 (pc1 := 13) (pc2 := 47) rfl rfl (fun _ => ?_) (fun _ => ?_)
      · refine g_rl0 hc dX4_canAdd_13 rfl (pc2 := 14) rfl ?_
        refine g_getR hc fl_X4_11 rfl hx0 dX4_canAdd_14 (pc2 := 17) rfl ?_
        refine g_il3 hc dX4_canAdd_17 rfl (pc2 := 18) rfl ?_
        refine g_iald hc (kf_4_0 hx0) (kl_4_0 hx0) dX4_canAdd_18 (pc2 := 19) rfl (fun v3 => ?_)
        refine g_il2 hc dX4_canAdd_19 rfl (pc2 := 20) rfl ?_
        refine g_icmp_gt hc dX4_canAdd_20 (pc1 := 23) (pc2 := 38) rfl rfl (fun _ => ?_) (fun _ => ?_)
        · refine g_rl0 hc dX4_canAdd_23 rfl (pc2 := 24) rfl ?_
          refine g_getR hc fl_X4_15 rfl hx0 dX4_canAdd_24 (pc2 := 27) rfl ?_
          refine g_il1 hc dX4_canAdd_27 rfl (pc2 := 28) rfl ?_
          refine g_il3 hc dX4_canAdd_28 rfl (pc2 := 29) rfl ?_
          refine g_iconst hc dX4_canAdd_29 ic_m1 (pc2 := 30) rfl ?_
          refine g_ixor hc dX4_canAdd_30 (pc2 := 31) rfl ?_
          refine g_iand hc dX4_canAdd_31 (pc2 := 32) rfl ?_
          refine g_iald hc (kf_4_1 hx0) (kl_4_1 hx0) dX4_canAdd_32 (pc2 := 33) rfl (fun v5 => ?_)
          refine g_if_eq hc dX4_canAdd_33 (pc1 := 38) (pc2 := 36) rfl rfl (fun _ => ?_) (fun _ => ?_)
          · refine g_il3 hc dX4_canAdd_38 rfl (pc2 := 39) rfl ?_
            refine g_iconst hc dX4_canAdd_39 ic_1 (pc2 := 40) rfl ?_
            refine g_isub hc dX4_canAdd_40 (pc2 := 41) rfl ?_
            refine g_il1 hc dX4_canAdd_41 rfl (pc2 := 42) rfl ?_
            refine g_iand hc dX4_canAdd_42 (pc2 := 43) rfl ?_
            refine g_nm (fun v7 => ?_)
            refine g_is3 hc dX4_canAdd_43 (by decide) (L2 := [some (q_rf w x0), some (.int x1), some (.int x2), some (.int v7)]) rfl (pc2 := 44) rfl ?_
            refine g_goto hc dX4_canAdd_44 (pc2 := 2) rfl ?_
            exact ih _ _
          · refine g_iconst hc dX4_canAdd_36 ic_1 (pc2 := 37) rfl ?_
            exact g_zret0 (by decide) hc dX4_canAdd_37
        · refine g_il3 hc dX4_canAdd_38 rfl (pc2 := 39) rfl ?_
          refine g_iconst hc dX4_canAdd_39 ic_1 (pc2 := 40) rfl ?_
          refine g_isub hc dX4_canAdd_40 (pc2 := 41) rfl ?_
          refine g_il1 hc dX4_canAdd_41 rfl (pc2 := 42) rfl ?_
          refine g_iand hc dX4_canAdd_42 (pc2 := 43) rfl ?_
          refine g_nm (fun v8 => ?_)
          refine g_is3 hc dX4_canAdd_43 (by decide) (L2 := [some (q_rf w x0), some (.int x1), some (.int x2), some (.int v8)]) rfl (pc2 := 44) rfl ?_
          refine g_goto hc dX4_canAdd_44 (pc2 := 2) rfl ?_
          exact ih _ _
      · refine g_iconst hc dX4_canAdd_47 ic_0 (pc2 := 48) rfl ?_
        exact g_zret0 (by decide) hc dX4_canAdd_48
set_option maxRecDepth 100000 in
set_option maxHeartbeats 4000000 in
theorem C_X4_canAdd {l : Launch} {w : q_Wd} {n : Nat} {t : Nat} {a0 : Int32} {a1 : Int32} (ht : q_KD t = .inl 4) {s0 : q_Sto} : q_C l w yX4_canAdd cX4_canAdd 4 (some .boolean) (q_rm 0 0) [q_rf w t, .int a0, .int a1] s0 (f_X4_canAdd n t a0 a1 s0) := q_CofG [some (q_rf w t), some (.int a0), some (.int a1), none] (by decide +kernel) rfl rfl (Nat.le_of_ble_eq_true rfl) fun cx hl hc => by
  have hc : q_ok w cx RX4 cX4_canAdd 4 (some .boolean) (q_rm 0 0) := hc
  rw [f_X4_canAdd]
  refine g_il1 hc dX4_canAdd_0 rfl (pc2 := 1) rfl ?_
  refine g_is3 hc dX4_canAdd_1 (by decide) (L2 := [some (q_rf w t), some (.int a0), some (.int a1), some (.int a0)]) rfl (pc2 := 2) rfl ?_
  refine t_X4_canAdd_L2 hc ht  n _ _
set_option maxRecDepth 100000 in
set_option maxHeartbeats 4000000 in
def f_X4_worthOf_L5 (n : Nat) (x1 : Nat) (x2 : Int32) : Nat → Int32 → Int32 → q_Sto → Option (Int32 × q_Sto)
  | 0, _, _, _ => none
  | j + 1, x3, x4, s0 =>
    if x4 < (s0 (q_RF x1 5) 2) then (
    q_call (f_X11_isIn n x2 x4 s0) fun r3 s2 =>
    if r3 = 0 then (
    q_nm (x3 + 0) fun v5 =>
    f_X4_worthOf_L5 n x1 x2  j v5 (x4 + 1) s2)
    else (
    q_call (f_X6_cell n (q_RF x1 5) x4 1 s2) fun r7 s6 =>
    q_nm (x3 + r7) fun v8 =>
    f_X4_worthOf_L5 n x1 x2  j v8 (x4 + 1) s6))
    else (
    some (x3, s0))
set_option maxRecDepth 100000 in
set_option maxHeartbeats 4000000 in
def f_X4_worthOf (n : Nat) (t : Nat) (a0 : Nat) (a1 : Int32) (s0 : q_Sto) : Option (Int32 × q_Sto) :=
  f_X4_worthOf_L5 n a0 a1  n 0 0 s0
set_option maxRecDepth 100000 in
set_option maxHeartbeats 4000000 in
theorem t_X4_worthOf_L5 {w : q_Wd} {cx : q_Cx} (hc : q_ok w cx RX4 cX4_worthOf 5 (some .int) (q_rm 1 22)) {n : Nat} {x1 : Nat} {x2 : Int32} (hx1 : q_KD x1 = .inl 10)   :
    ∀ (j : Nat) (x3 : Int32) (x4 : Int32) (s0 : q_Sto), q_G w cx 5 (some .int) 5 [none, some (q_rf w x1), some (.int x2), some (.int x3), some (.int x4)] [] s0 (f_X4_worthOf_L5 n x1 x2  j x3 x4 s0) := by
  intro j
  induction j with
  | zero =>
    intro _ _ _
    rw [f_X4_worthOf_L5]
    exact q_none
  | succ j ih =>
    intro x3 x4 s0
    rw [f_X4_worthOf_L5]
    refine g_iload hc dX4_worthOf_5 rfl (pc2 := 7) rfl ?_
    refine g_rl1 hc dX4_worthOf_7 rfl (pc2 := 8) rfl ?_
    refine g_getR hc fl_X4_36 rfl hx1 dX4_worthOf_8 (pc2 := 11) rfl ?_
    refine g_getI hc fl_X4_40 rfl (kf_10_5 hx1) dX4_worthOf_11 (pc2 := 14) rfl ?_
    refine g_icmp_ge hc dX4_worthOf_14 (pc1 := 17) (pc2 := 49) rfl rfl (fun _ => ?_) (fun _ => ?_)
    · refine g_il3 hc dX4_worthOf_17 rfl (pc2 := 18) rfl ?_
      refine g_il2 hc dX4_worthOf_18 rfl (pc2 := 19) rfl ?_
      refine g_iload hc dX4_worthOf_19 rfl (pc2 := 21) rfl ?_
      refine g_callSN2 (host := "MuleVote") hc C_X11_isIn mv_X11_isIn (by decide +kernel) ⟨by decide, by decide⟩ (Nat.le_of_ble_eq_true rfl) dX4_worthOf_21 (pc2 := 24) rfl (fun r3 s2 => ?_)
      refine g_if_eq hc dX4_worthOf_24 (pc1 := 40) (pc2 := 27) rfl rfl (fun _ => ?_) (fun _ => ?_)
      · refine g_iconst hc dX4_worthOf_40 ic_0 (pc2 := 41) rfl ?_
        refine g_iadd hc dX4_worthOf_41 (pc2 := 42) rfl ?_
        refine g_nm (fun v5 => ?_)
        refine g_is3 hc dX4_worthOf_42 (by decide) (L2 := [none, some (q_rf w x1), some (.int x2), some (.int v5), some (.int x4)]) rfl (pc2 := 43) rfl ?_
        refine g_iinc hc dX4_worthOf_43 rfl (q_ii ic_1) (by decide) (L2 := [none, some (q_rf w x1), some (.int x2), some (.int v5), some (.int (x4 + 1))]) rfl (pc2 := 46) rfl ?_
        refine g_goto hc dX4_worthOf_46 (pc2 := 5) rfl ?_
        exact ih _ _ _
      · refine g_rl1 hc dX4_worthOf_27 rfl (pc2 := 28) rfl ?_
        refine g_getR hc fl_X4_36 rfl hx1 dX4_worthOf_28 (pc2 := 31) rfl ?_
        refine g_iload hc dX4_worthOf_31 rfl (pc2 := 33) rfl ?_
        refine g_iconst hc dX4_worthOf_33 ic_1 (pc2 := 34) rfl ?_
        refine g_callV2 hc (C_X6_cell (kf_10_5 hx1)) mv_X6_cell ln_X4_79 (kf_10_5 hx1) ⟨by decide, by decide⟩ (Nat.le_of_ble_eq_true rfl) dX4_worthOf_34 (pc2 := 37) rfl (fun r7 s6 => ?_)
        refine g_goto hc dX4_worthOf_37 (pc2 := 41) rfl ?_
        refine g_iadd hc dX4_worthOf_41 (pc2 := 42) rfl ?_
        refine g_nm (fun v8 => ?_)
        refine g_is3 hc dX4_worthOf_42 (by decide) (L2 := [none, some (q_rf w x1), some (.int x2), some (.int v8), some (.int x4)]) rfl (pc2 := 43) rfl ?_
        refine g_iinc hc dX4_worthOf_43 rfl (q_ii ic_1) (by decide) (L2 := [none, some (q_rf w x1), some (.int x2), some (.int v8), some (.int (x4 + 1))]) rfl (pc2 := 46) rfl ?_
        refine g_goto hc dX4_worthOf_46 (pc2 := 5) rfl ?_
        exact ih _ _ _
    · refine g_il3 hc dX4_worthOf_49 rfl (pc2 := 50) rfl ?_
      exact g_iret hc dX4_worthOf_50
set_option maxRecDepth 100000 in
set_option maxHeartbeats 4000000 in
theorem C_X4_worthOf {l : Launch} {w : q_Wd} {n : Nat} {t : Nat} {a0 : Nat} {a1 : Int32} (ht : q_KD t = .inl 4) (ha0 : q_KD a0 = .inl 10) {s0 : q_Sto} : q_C l w yX4_worthOf cX4_worthOf 5 (some .int) (q_rm 1 22) [q_rf w t, q_rf w a0, .int a1] s0 (f_X4_worthOf n t a0 a1 s0) := q_CofG [some (q_rf w t), some (q_rf w a0), some (.int a1), none, none] (by decide +kernel) rfl rfl (Nat.le_of_ble_eq_true rfl) fun cx hl hc => by
  have hc : q_ok w cx RX4 cX4_worthOf 5 (some .int) (q_rm 1 22) := hc
  rw [f_X4_worthOf]
  refine g_iconst hc dX4_worthOf_0 ic_0 (pc2 := 1) rfl ?_
  refine g_is3 hc dX4_worthOf_1 (by decide) (L2 := [some (q_rf w t), some (q_rf w a0), some (.int a1), some (.int 0), none]) rfl (pc2 := 2) rfl ?_
  refine g_iconst hc dX4_worthOf_2 ic_0 (pc2 := 3) rfl ?_
  refine g_istore hc dX4_worthOf_3 (by decide) (L2 := [some (q_rf w t), some (q_rf w a0), some (.int a1), some (.int 0), some (.int 0)]) rfl (pc2 := 5) rfl ?_
  refine q_Gmask [false, true, true, true, true] (L2 := [none, some (q_rf w a0), some (.int a1), some (.int 0), some (.int 0)]) rfl ?_
  refine t_X4_worthOf_L5 hc ha0  n _ _ _
set_option maxRecDepth 100000 in
set_option maxHeartbeats 4000000 in
def f_X4_bestPack_L59 (n : Nat) (x0 : Nat) (x1 : Nat) (x2 : Nat) (x3 : Int32) (x4 : Int32) (x5 : Int32) (k114 : q_Sto → Option (Int32 × q_Sto)) : Nat → Int32 → q_Sto → Option (Int32 × q_Sto)
  | 0, _, _ => none
  | j + 1, x6, s0 =>
    if x6 ≤ 0 then (
    k114 s0)
    else (
    q_call (f_X11_isIn n x4 x5 s0) fun r11 s10 =>
    if r11 = 0 then (
    q_ld s10 (q_RF x0 1) x6 256 fun v13 =>
    if v13 = 0 then (
    q_ld s10 (q_RF x2 0) x5 12 fun v15 =>
    q_call (f_X4_canAdd n x0 x6 v15 s10) fun r17 s16 =>
    if r17 = 0 then (
    f_X4_bestPack_L59 n x0 x1 x2 x3 x4 x5 k114 j (x6 + (-1)) s16)
    else (
    q_st s16 (q_RF x0 1) x6 256 1 fun s19 =>
    f_X4_bestPack_L59 n x0 x1 x2 x3 x4 x5 k114 j (x6 + (-1)) s19))
    else (
    f_X4_bestPack_L59 n x0 x1 x2 x3 x4 x5 k114 j (x6 + (-1)) s10))
    else (
    k114 s10))
set_option maxRecDepth 100000 in
set_option maxHeartbeats 4000000 in
def f_X4_bestPack_L38 (n : Nat) (x0 : Nat) (x1 : Nat) (x2 : Nat) (x3 : Int32) (x4 : Int32) (k120 : q_Sto → Option (Int32 × q_Sto)) : Nat → Int32 → q_Sto → Option (Int32 × q_Sto)
  | 0, _, _ => none
  | j + 1, x5, s0 =>
    if x5 < (s0 x2 8) then (
    if x5 < 12 then (
    q_nm (x3 - 1) fun v8 =>
    f_X4_bestPack_L59 n x0 x1 x2 x3 x4 x5 (fun  (s20 : q_Sto) =>
    f_X4_bestPack_L38 n x0 x1 x2 x3 x4 k120 j (x5 + 1) s20) n v8 s0)
    else (
    k120 s0))
    else (
    k120 s0)
set_option maxRecDepth 100000 in
set_option maxHeartbeats 4000000 in
def f_X4_bestPack_L126 (n : Nat) (x0 : Nat) (x1 : Nat) (x3 : Int32) : Nat → Int32 → Int32 → q_Sto → Option (Int32 × q_Sto)
  | 0, _, _, _ => none
  | j + 1, x5, x6, s0 =>
    if x6 < x3 then (
    if x6 < 256 then (
    q_ld s0 (q_RF x0 1) x6 256 fun v24 =>
    if v24 = 0 then (
    f_X4_bestPack_L126 n x0 x1 x3  j x5 (x6 + 1) s0)
    else (
    q_call (f_X4_worthOf n x0 x1 x6 s0) fun r27 s26 =>
    q_call (f_X4_worthOf n x0 x1 x5 s26) fun r29 s28 =>
    if r27 ≤ r29 then (
    f_X4_bestPack_L126 n x0 x1 x3  j x5 (x6 + 1) s28)
    else (
    f_X4_bestPack_L126 n x0 x1 x3  j x6 (x6 + 1) s28)))
    else (
    some (x5, s0)))
    else (
    some (x5, s0))
set_option maxRecDepth 100000 in
set_option maxHeartbeats 4000000 in
def f_X4_bestPack (n : Nat) (t : Nat) (a0 : Nat) (s0 : q_Sto) : Option (Int32 × q_Sto) :=
  q_nm (1 <<< ((q_mn 8 (s0 (q_RF a0 5) 2)) &&& 31)) fun v1 =>
  q_callv (f_X4_weigh n t (q_RF a0 5) v1 s0) fun s2 =>
  q_call (f_X9_lameOnes n (q_RF a0 0) s2) fun r5 s4 =>
  f_X4_bestPack_L38 n t a0 (q_RF a0 0) v1 r5 (fun  (s21 : q_Sto) =>
  f_X4_bestPack_L126 n t a0 v1  n 0 0 s21) n 0 s4
set_option maxRecDepth 100000 in
set_option maxHeartbeats 4000000 in
theorem t_X4_bestPack_L59 {w : q_Wd} {cx : q_Cx} (hc : q_ok w cx RX4 cX4_bestPack 7 (some .int) (q_rm 2 46)) {n : Nat} {x0 : Nat} {x1 : Nat} {x2 : Nat} {x3 : Int32} {x4 : Int32} {x5 : Int32} (hx0 : q_KD x0 = .inl 4) (hx1 : q_KD x1 = .inl 10) (hx2 : q_KD x2 = .inl 9) {k114 : q_Sto → Option (Int32 × q_Sto)} (hk114 : ∀  (s1 : q_Sto), q_G w cx 7 (some .int) 114 [some (q_rf w x0), some (q_rf w x1), some (q_rf w x2), some (.int x3), some (.int x4), some (.int x5), none] [] s1 (k114 s1)) :
    ∀ (j : Nat) (x6 : Int32) (s0 : q_Sto), q_G w cx 7 (some .int) 59 [some (q_rf w x0), some (q_rf w x1), some (q_rf w x2), some (.int x3), some (.int x4), some (.int x5), some (.int x6)] [] s0 (f_X4_bestPack_L59 n x0 x1 x2 x3 x4 x5 k114 j x6 s0) := by
  intro j
  induction j with
  | zero =>
    intro _ _
    rw [f_X4_bestPack_L59]
    exact q_none
  | succ j ih =>
    intro x6 s0
    rw [f_X4_bestPack_L59]
    refine g_iload hc dX4_bestPack_59 rfl (pc2 := 61) rfl ?_
    refine g_if_le hc dX4_bestPack_61 (pc1 := 114) (pc2 := 64) rfl rfl (fun _ => ?_) (fun _ => ?_)
    · refine q_Gmask [true, true, true, true, true, true, false] (L2 := [some (q_rf w x0), some (q_rf w x1), some (q_rf w x2), some (.int x3), some (.int x4), some (.int x5), none]) rfl ?_
      exact hk114 _
    · refine g_iload hc dX4_bestPack_64 rfl (pc2 := 66) rfl ?_
      refine g_iload hc dX4_bestPack_66 rfl (pc2 := 68) rfl ?_
      refine g_callSN2 (host := "MuleVote") hc C_X11_isIn mv_X11_isIn (by decide +kernel) ⟨by decide, by decide⟩ (Nat.le_of_ble_eq_true rfl) dX4_bestPack_68 (pc2 := 71) rfl (fun r11 s10 => ?_)
      refine g_if_ne hc dX4_bestPack_71 (pc1 := 74) (pc2 := 114) rfl rfl (fun _ => ?_) (fun _ => ?_)
      · refine g_rl0 hc dX4_bestPack_74 rfl (pc2 := 75) rfl ?_
        refine g_getR hc fl_X4_15 rfl hx0 dX4_bestPack_75 (pc2 := 78) rfl ?_
        refine g_iload hc dX4_bestPack_78 rfl (pc2 := 80) rfl ?_
        refine g_iald hc (kf_4_1 hx0) (kl_4_1 hx0) dX4_bestPack_80 (pc2 := 81) rfl (fun v13 => ?_)
        refine g_if_ne hc dX4_bestPack_81 (pc1 := 84) (pc2 := 108) rfl rfl (fun _ => ?_) (fun _ => ?_)
        · refine g_rl0 hc dX4_bestPack_84 rfl (pc2 := 85) rfl ?_
          refine g_iload hc dX4_bestPack_85 rfl (pc2 := 87) rfl ?_
          refine g_rl2 hc dX4_bestPack_87 rfl (pc2 := 88) rfl ?_
          refine g_getR hc fl_X4_69 rfl hx2 dX4_bestPack_88 (pc2 := 91) rfl ?_
          refine g_iload hc dX4_bestPack_91 rfl (pc2 := 93) rfl ?_
          refine g_iald hc (kf_9_0 hx2) (kl_9_0 hx2) dX4_bestPack_93 (pc2 := 94) rfl (fun v15 => ?_)
          refine g_callV2 hc (C_X4_canAdd hx0) mv_X4_canAdd ln_X4_72 hx0 ⟨by decide, by decide⟩ (Nat.le_of_ble_eq_true rfl) dX4_bestPack_94 (pc2 := 97) rfl (fun r17 s16 => ?_)
          refine g_if_eq hc dX4_bestPack_97 (pc1 := 108) (pc2 := 100) rfl rfl (fun _ => ?_) (fun _ => ?_)
          · refine g_iinc hc dX4_bestPack_108 rfl (q_ii ic_m1) (by decide) (L2 := [some (q_rf w x0), some (q_rf w x1), some (q_rf w x2), some (.int x3), some (.int x4), some (.int x5), some (.int (x6 + (-1)))]) rfl (pc2 := 111) rfl ?_
            refine g_goto hc dX4_bestPack_111 (pc2 := 59) rfl ?_
            exact ih _ _
          · refine g_rl0 hc dX4_bestPack_100 rfl (pc2 := 101) rfl ?_
            refine g_getR hc fl_X4_15 rfl hx0 dX4_bestPack_101 (pc2 := 104) rfl ?_
            refine g_iload hc dX4_bestPack_104 rfl (pc2 := 106) rfl ?_
            refine g_iconst hc dX4_bestPack_106 ic_1 (pc2 := 107) rfl ?_
            refine g_iast hc (kf_4_1 hx0) (kl_4_1 hx0) dX4_bestPack_107 (pc2 := 108) rfl (fun s19 => ?_)
            refine g_iinc hc dX4_bestPack_108 rfl (q_ii ic_m1) (by decide) (L2 := [some (q_rf w x0), some (q_rf w x1), some (q_rf w x2), some (.int x3), some (.int x4), some (.int x5), some (.int (x6 + (-1)))]) rfl (pc2 := 111) rfl ?_
            refine g_goto hc dX4_bestPack_111 (pc2 := 59) rfl ?_
            exact ih _ _
        · refine g_iinc hc dX4_bestPack_108 rfl (q_ii ic_m1) (by decide) (L2 := [some (q_rf w x0), some (q_rf w x1), some (q_rf w x2), some (.int x3), some (.int x4), some (.int x5), some (.int (x6 + (-1)))]) rfl (pc2 := 111) rfl ?_
          refine g_goto hc dX4_bestPack_111 (pc2 := 59) rfl ?_
          exact ih _ _
      · refine q_Gmask [true, true, true, true, true, true, false] (L2 := [some (q_rf w x0), some (q_rf w x1), some (q_rf w x2), some (.int x3), some (.int x4), some (.int x5), none]) rfl ?_
        exact hk114 _
set_option maxRecDepth 100000 in
set_option maxHeartbeats 4000000 in
theorem t_X4_bestPack_L38 {w : q_Wd} {cx : q_Cx} (hc : q_ok w cx RX4 cX4_bestPack 7 (some .int) (q_rm 2 46)) {n : Nat} {x0 : Nat} {x1 : Nat} {x2 : Nat} {x3 : Int32} {x4 : Int32} (hx0 : q_KD x0 = .inl 4) (hx1 : q_KD x1 = .inl 10) (hx2 : q_KD x2 = .inl 9) {k120 : q_Sto → Option (Int32 × q_Sto)} (hk120 : ∀  (s1 : q_Sto), q_G w cx 7 (some .int) 120 [some (q_rf w x0), some (q_rf w x1), none, some (.int x3), none, none, none] [] s1 (k120 s1)) :
    ∀ (j : Nat) (x5 : Int32) (s0 : q_Sto), q_G w cx 7 (some .int) 38 [some (q_rf w x0), some (q_rf w x1), some (q_rf w x2), some (.int x3), some (.int x4), some (.int x5), none] [] s0 (f_X4_bestPack_L38 n x0 x1 x2 x3 x4 k120 j x5 s0) := by
  intro j
  induction j with
  | zero =>
    intro _ _
    rw [f_X4_bestPack_L38]
    exact q_none
  | succ j ih =>
    intro x5 s0
    rw [f_X4_bestPack_L38]
    refine g_iload hc dX4_bestPack_38 rfl (pc2 := 40) rfl ?_
    refine g_rl2 hc dX4_bestPack_40 rfl (pc2 := 41) rfl ?_
    refine g_getI hc fl_X4_62 rfl hx2 dX4_bestPack_41 (pc2 := 44) rfl ?_
    refine g_icmp_ge hc dX4_bestPack_44 (pc1 := 47) (pc2 := 120) rfl rfl (fun _ => ?_) (fun _ => ?_)
    · refine g_iload hc dX4_bestPack_47 rfl (pc2 := 49) rfl ?_
      refine g_bipush hc dX4_bestPack_49 bp_12 (pc2 := 51) rfl ?_
      refine g_icmp_ge hc dX4_bestPack_51 (pc1 := 54) (pc2 := 120) rfl rfl (fun _ => ?_) (fun _ => ?_)
      · refine g_il3 hc dX4_bestPack_54 rfl (pc2 := 55) rfl ?_
        refine g_iconst hc dX4_bestPack_55 ic_1 (pc2 := 56) rfl ?_
        refine g_isub hc dX4_bestPack_56 (pc2 := 57) rfl ?_
        refine g_nm (fun v8 => ?_)
        refine g_istore hc dX4_bestPack_57 (by decide) (L2 := [some (q_rf w x0), some (q_rf w x1), some (q_rf w x2), some (.int x3), some (.int x4), some (.int x5), some (.int v8)]) rfl (pc2 := 59) rfl ?_
        refine t_X4_bestPack_L59 hc hx0 hx1 hx2 (fun s20 => ?_) n _ _
        refine g_iinc hc dX4_bestPack_114 rfl (q_ii ic_1) (by decide) (L2 := [some (q_rf w x0), some (q_rf w x1), some (q_rf w x2), some (.int x3), some (.int x4), some (.int (x5 + 1)), none]) rfl (pc2 := 117) rfl ?_
        refine g_goto hc dX4_bestPack_117 (pc2 := 38) rfl ?_
        exact ih _ _
      · refine q_Gmask [true, true, false, true, false, false, true] (L2 := [some (q_rf w x0), some (q_rf w x1), none, some (.int x3), none, none, none]) rfl ?_
        exact hk120 _
    · refine q_Gmask [true, true, false, true, false, false, true] (L2 := [some (q_rf w x0), some (q_rf w x1), none, some (.int x3), none, none, none]) rfl ?_
      exact hk120 _
set_option maxRecDepth 100000 in
set_option maxHeartbeats 4000000 in
theorem t_X4_bestPack_L126 {w : q_Wd} {cx : q_Cx} (hc : q_ok w cx RX4 cX4_bestPack 7 (some .int) (q_rm 2 46)) {n : Nat} {x0 : Nat} {x1 : Nat} {x3 : Int32} (hx0 : q_KD x0 = .inl 4) (hx1 : q_KD x1 = .inl 10)   :
    ∀ (j : Nat) (x5 : Int32) (x6 : Int32) (s0 : q_Sto), q_G w cx 7 (some .int) 126 [some (q_rf w x0), some (q_rf w x1), none, some (.int x3), none, some (.int x5), some (.int x6)] [] s0 (f_X4_bestPack_L126 n x0 x1 x3  j x5 x6 s0) := by
  intro j
  induction j with
  | zero =>
    intro _ _ _
    rw [f_X4_bestPack_L126]
    exact q_none
  | succ j ih =>
    intro x5 x6 s0
    rw [f_X4_bestPack_L126]
    refine g_iload hc dX4_bestPack_126 rfl (pc2 := 128) rfl ?_
    refine g_il3 hc dX4_bestPack_128 rfl (pc2 := 129) rfl ?_
    refine g_icmp_ge hc dX4_bestPack_129 (pc1 := 132) (pc2 := 177) rfl rfl (fun _ => ?_) (fun _ => ?_)
    · refine g_iload hc dX4_bestPack_132 rfl (pc2 := 134) rfl ?_
      refine g_sipush hc dX4_bestPack_134 sp_256 (pc2 := 137) rfl ?_
      refine g_icmp_ge hc dX4_bestPack_137 (pc1 := 140) (pc2 := 177) rfl rfl (fun _ => ?_) (fun _ => ?_)
      · refine g_rl0 hc dX4_bestPack_140 rfl (pc2 := 141) rfl ?_
        refine g_getR hc fl_X4_15 rfl hx0 dX4_bestPack_141 (pc2 := 144) rfl ?_
        refine g_iload hc dX4_bestPack_144 rfl (pc2 := 146) rfl ?_
        refine g_iald hc (kf_4_1 hx0) (kl_4_1 hx0) dX4_bestPack_146 (pc2 := 147) rfl (fun v24 => ?_)
        refine g_if_eq hc dX4_bestPack_147 (pc1 := 171) (pc2 := 150) rfl rfl (fun _ => ?_) (fun _ => ?_)
        · refine g_iinc hc dX4_bestPack_171 rfl (q_ii ic_1) (by decide) (L2 := [some (q_rf w x0), some (q_rf w x1), none, some (.int x3), none, some (.int x5), some (.int (x6 + 1))]) rfl (pc2 := 174) rfl ?_
          refine g_goto hc dX4_bestPack_174 (pc2 := 126) rfl ?_
          exact ih _ _ _
        · refine g_rl0 hc dX4_bestPack_150 rfl (pc2 := 151) rfl ?_
          refine g_rl1 hc dX4_bestPack_151 rfl (pc2 := 152) rfl ?_
          refine g_iload hc dX4_bestPack_152 rfl (pc2 := 154) rfl ?_
          refine g_callV2 hc (C_X4_worthOf hx0 hx1) mv_X4_worthOf ln_X4_75 hx0 ⟨by decide, by decide⟩ (Nat.le_of_ble_eq_true rfl) dX4_bestPack_154 (pc2 := 157) rfl (fun r27 s26 => ?_)
          refine g_rl0 hc dX4_bestPack_157 rfl (pc2 := 158) rfl ?_
          refine g_rl1 hc dX4_bestPack_158 rfl (pc2 := 159) rfl ?_
          refine g_iload hc dX4_bestPack_159 rfl (pc2 := 161) rfl ?_
          refine g_callV2 hc (C_X4_worthOf hx0 hx1) mv_X4_worthOf ln_X4_75 hx0 ⟨by decide, by decide⟩ (Nat.le_of_ble_eq_true rfl) dX4_bestPack_161 (pc2 := 164) rfl (fun r29 s28 => ?_)
          refine g_icmp_le hc dX4_bestPack_164 (pc1 := 171) (pc2 := 167) rfl rfl (fun _ => ?_) (fun _ => ?_)
          · refine g_iinc hc dX4_bestPack_171 rfl (q_ii ic_1) (by decide) (L2 := [some (q_rf w x0), some (q_rf w x1), none, some (.int x3), none, some (.int x5), some (.int (x6 + 1))]) rfl (pc2 := 174) rfl ?_
            refine g_goto hc dX4_bestPack_174 (pc2 := 126) rfl ?_
            exact ih _ _ _
          · refine g_iload hc dX4_bestPack_167 rfl (pc2 := 169) rfl ?_
            refine g_istore hc dX4_bestPack_169 (by decide) (L2 := [some (q_rf w x0), some (q_rf w x1), none, some (.int x3), none, some (.int x6), some (.int x6)]) rfl (pc2 := 171) rfl ?_
            refine g_iinc hc dX4_bestPack_171 rfl (q_ii ic_1) (by decide) (L2 := [some (q_rf w x0), some (q_rf w x1), none, some (.int x3), none, some (.int x6), some (.int (x6 + 1))]) rfl (pc2 := 174) rfl ?_
            refine g_goto hc dX4_bestPack_174 (pc2 := 126) rfl ?_
            exact ih _ _ _
      · refine g_iload hc dX4_bestPack_177 rfl (pc2 := 179) rfl ?_
        exact g_iret hc dX4_bestPack_179
    · refine g_iload hc dX4_bestPack_177 rfl (pc2 := 179) rfl ?_
      exact g_iret hc dX4_bestPack_179
set_option maxRecDepth 100000 in
set_option maxHeartbeats 4000000 in
theorem C_X4_bestPack {l : Launch} {w : q_Wd} {n : Nat} {t : Nat} {a0 : Nat} (ht : q_KD t = .inl 4) (ha0 : q_KD a0 = .inl 10) {s0 : q_Sto} : q_C l w yX4_bestPack cX4_bestPack 7 (some .int) (q_rm 2 46) [q_rf w t, q_rf w a0] s0 (f_X4_bestPack n t a0 s0) := q_CofG [some (q_rf w t), some (q_rf w a0), none, none, none, none, none] (by decide +kernel) rfl rfl (Nat.le_of_ble_eq_true rfl) fun cx hl hc => by
  have hc : q_ok w cx RX4 cX4_bestPack 7 (some .int) (q_rm 2 46) := hc
  rw [f_X4_bestPack]
  refine g_rl1 hc dX4_bestPack_0 rfl (pc2 := 1) rfl ?_
  refine g_getR hc fl_X4_30 rfl ha0 dX4_bestPack_1 (pc2 := 4) rfl ?_
  refine g_rs2 hc dX4_bestPack_4 (by decide) (L2 := [some (q_rf w t), some (q_rf w a0), some (q_rf w (q_RF a0 0)), none, none, none, none]) rfl (pc2 := 5) rfl ?_
  refine g_iconst hc dX4_bestPack_5 ic_1 (pc2 := 6) rfl ?_
  refine g_bipush hc dX4_bestPack_6 bp_8 (pc2 := 8) rfl ?_
  refine g_rl1 hc dX4_bestPack_8 rfl (pc2 := 9) rfl ?_
  refine g_getR hc fl_X4_36 rfl ha0 dX4_bestPack_9 (pc2 := 12) rfl ?_
  refine g_getI hc fl_X4_40 rfl (kf_10_5 ha0) dX4_bestPack_12 (pc2 := 15) rfl ?_
  refine g_min hc ln_X4_46 ⟨by decide, by decide⟩ (Nat.le_of_ble_eq_true rfl) dX4_bestPack_15 (pc2 := 18) rfl ?_
  refine g_ishl hc dX4_bestPack_18 (pc2 := 19) rfl ?_
  refine g_nm (fun v1 => ?_)
  refine g_is3 hc dX4_bestPack_19 (by decide) (L2 := [some (q_rf w t), some (q_rf w a0), some (q_rf w (q_RF a0 0)), some (.int v1), none, none, none]) rfl (pc2 := 20) rfl ?_
  refine g_rl0 hc dX4_bestPack_20 rfl (pc2 := 21) rfl ?_
  refine g_rl1 hc dX4_bestPack_21 rfl (pc2 := 22) rfl ?_
  refine g_getR hc fl_X4_36 rfl ha0 dX4_bestPack_22 (pc2 := 25) rfl ?_
  refine g_il3 hc dX4_bestPack_25 rfl (pc2 := 26) rfl ?_
  refine g_callV2v hc (C_X4_weigh ht (kf_10_5 ha0)) mv_X4_weigh ln_X4_52 ht ⟨by decide, by decide⟩ (Nat.le_of_ble_eq_true rfl) dX4_bestPack_26 (pc2 := 29) rfl (fun s2 => ?_)
  refine g_rl2 hc dX4_bestPack_29 rfl (pc2 := 30) rfl ?_
  refine g_callV0 hc (C_X9_lameOnes (kf_10_0 ha0)) mv_X9_lameOnes ln_X4_56 (kf_10_0 ha0) ⟨by decide, by decide⟩ (Nat.le_of_ble_eq_true rfl) dX4_bestPack_30 (pc2 := 33) rfl (fun r5 s4 => ?_)
  refine g_istore hc dX4_bestPack_33 (by decide) (L2 := [some (q_rf w t), some (q_rf w a0), some (q_rf w (q_RF a0 0)), some (.int v1), some (.int r5), none, none]) rfl (pc2 := 35) rfl ?_
  refine g_iconst hc dX4_bestPack_35 ic_0 (pc2 := 36) rfl ?_
  refine g_istore hc dX4_bestPack_36 (by decide) (L2 := [some (q_rf w t), some (q_rf w a0), some (q_rf w (q_RF a0 0)), some (.int v1), some (.int r5), some (.int 0), none]) rfl (pc2 := 38) rfl ?_
  refine t_X4_bestPack_L38 hc ht ha0 (kf_10_0 ha0) (fun s21 => ?_) n _ _
  refine g_iconst hc dX4_bestPack_120 ic_0 (pc2 := 121) rfl ?_
  refine g_istore hc dX4_bestPack_121 (by decide) (L2 := [some (q_rf w t), some (q_rf w a0), none, some (.int v1), none, some (.int 0), none]) rfl (pc2 := 123) rfl ?_
  refine g_iconst hc dX4_bestPack_123 ic_0 (pc2 := 124) rfl ?_
  refine g_istore hc dX4_bestPack_124 (by decide) (L2 := [some (q_rf w t), some (q_rf w a0), none, some (.int v1), none, some (.int 0), some (.int 0)]) rfl (pc2 := 126) rfl ?_
  refine t_X4_bestPack_L126 hc ht ha0  n _ _ _
