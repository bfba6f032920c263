set_option maxRecDepth 100000 in
set_option maxHeartbeats 4000000 in
def f_X11_like (n : Nat) (t : Nat) (a0 : Int32) (a1 : Int32) (a2 : Int32) (s0 : q_Sto) : Option (Int32 × q_Sto) :=
  q_call (f_X9_hasMule n (q_RF (q_RF t 0) 0) a0 s0) fun r2 s1 =>
  if r2 = 0 then (
  some (0, s1))
  else (
  q_call (f_X9_hasMan n (q_RF (q_RF t 0) 0) a1 s1) fun r5 s4 =>
  if r5 = 0 then (
  some (0, s4))
  else (
  q_call (f_X11_isWithin n a2 0 99 s4) fun r8 s7 =>
  if r8 = 0 then (
  some (0, s7))
  else (
  q_callv (f_X9_setLiking n (q_RF (q_RF t 0) 0) a0 a1 a2 s7) fun s10 =>
  q_callv (f_X1_forget n (q_RF t 3) s10) fun s12 =>
  some (1, s12))))
set_option maxRecDepth 100000 in
set_option maxHeartbeats 4000000 in
theorem C_X11_like {l : Launch} {w : q_Wd} {n : Nat} {t : Nat} {a0 : Int32} {a1 : Int32} {a2 : Int32} (ht : q_KD t = .inl 11) {s0 : q_Sto} : q_C l w yX11_like cX11_like 5 (some .boolean) (q_rm 2 44) [q_rf w t, .int a0, .int a1, .int a2] s0 (f_X11_like n t a0 a1 a2 s0) := q_CofG [some (q_rf w t), some (.int a0), some (.int a1), some (.int a2), none] (by decide +kernel) rfl rfl (Nat.le_of_ble_eq_true rfl) fun cx hl hc => by
  have hc : q_ok w cx RX11 cX11_like 5 (some .boolean) (q_rm 2 44) := hc
  rw [f_X11_like]
  refine g_rl0 hc dX11_like_0 rfl (pc2 := 1) rfl ?_
  refine g_getR hc fl_X11_12 rfl ht dX11_like_1 (pc2 := 4) rfl ?_
  refine g_getR hc fl_X11_81 rfl (kf_11_0 ht) dX11_like_4 (pc2 := 7) rfl ?_
  refine g_rs hc dX11_like_7 (by decide) (L2 := [some (q_rf w t), some (.int a0), some (.int a1), some (.int a2), some (q_rf w (q_RF (q_RF t 0) 0))]) rfl (pc2 := 9) rfl ?_
  refine g_rl hc dX11_like_9 rfl (pc2 := 11) rfl ?_
  refine g_il1 hc dX11_like_11 rfl (pc2 := 12) rfl ?_
  refine g_callV1 hc (C_X9_hasMule (kf_10_0 (kf_11_0 ht))) mv_X9_hasMule ln_X11_119 (kf_10_0 (kf_11_0 ht)) ⟨by decide, by decide⟩ (Nat.le_of_ble_eq_true rfl) dX11_like_12 (pc2 := 15) rfl (fun r2 s1 => ?_)
  refine g_if_eq hc dX11_like_15 (pc1 := 37) (pc2 := 18) rfl rfl (fun _ => ?_) (fun _ => ?_)
  · refine g_iconst hc dX11_like_37 ic_0 (pc2 := 38) rfl ?_
    exact g_zret0 (by decide) hc dX11_like_38
  · refine g_rl hc dX11_like_18 rfl (pc2 := 20) rfl ?_
    refine g_il2 hc dX11_like_20 rfl (pc2 := 21) rfl ?_
    refine g_callV1 hc (C_X9_hasMan (kf_10_0 (kf_11_0 ht))) mv_X9_hasMan ln_X11_126 (kf_10_0 (kf_11_0 ht)) ⟨by decide, by decide⟩ (Nat.le_of_ble_eq_true rfl) dX11_like_21 (pc2 := 24) rfl (fun r5 s4 => ?_)
    refine g_if_eq hc dX11_like_24 (pc1 := 37) (pc2 := 27) rfl rfl (fun _ => ?_) (fun _ => ?_)
    · refine g_iconst hc dX11_like_37 ic_0 (pc2 := 38) rfl ?_
      exact g_zret0 (by decide) hc dX11_like_38
    · refine g_il3 hc dX11_like_27 rfl (pc2 := 28) rfl ?_
      refine g_iconst hc dX11_like_28 ic_0 (pc2 := 29) rfl ?_
      refine g_bipush hc dX11_like_29 bp_99 (pc2 := 31) rfl ?_
      refine g_callS3 hc C_X11_isWithin mv_X11_isWithin ln_X11_91 ⟨by decide, by decide⟩ (Nat.le_of_ble_eq_true rfl) dX11_like_31 (pc2 := 34) rfl (fun r8 s7 => ?_)
      refine g_if_ne hc dX11_like_34 (pc1 := 37) (pc2 := 39) rfl rfl (fun _ => ?_) (fun _ => ?_)
      · refine g_iconst hc dX11_like_37 ic_0 (pc2 := 38) rfl ?_
        exact g_zret0 (by decide) hc dX11_like_38
      · refine g_rl hc dX11_like_39 rfl (pc2 := 41) rfl ?_
        refine g_il1 hc dX11_like_41 rfl (pc2 := 42) rfl ?_
        refine g_il2 hc dX11_like_42 rfl (pc2 := 43) rfl ?_
        refine g_il3 hc dX11_like_43 rfl (pc2 := 44) rfl ?_
        refine g_callV3v hc (C_X9_setLiking (kf_10_0 (kf_11_0 ht))) mv_X9_setLiking ln_X11_138 (kf_10_0 (kf_11_0 ht)) ⟨by decide, by decide⟩ (Nat.le_of_ble_eq_true rfl) dX11_like_44 (pc2 := 47) rfl (fun s10 => ?_)
        refine g_rl0 hc dX11_like_47 rfl (pc2 := 48) rfl ?_
        refine g_getR hc fl_X11_26 rfl ht dX11_like_48 (pc2 := 51) rfl ?_
        refine g_callV0v hc (C_X1_forget (kf_11_3 ht)) mv_X1_forget ln_X11_88 (kf_11_3 ht) ⟨by decide, by decide⟩ (Nat.le_of_ble_eq_true rfl) dX11_like_51 (pc2 := 54) rfl (fun s12 => ?_)
        refine g_iconst hc dX11_like_54 ic_1 (pc2 := 55) rfl ?_
        exact g_zret0 (by decide) hc dX11_like_55
set_option maxRecDepth 100000 in
set_option maxHeartbeats 4000000 in
def f_X11_vote (n : Nat) (t : Nat) (s0 : q_Sto) : Option (Int32 × q_Sto) :=
  q_callv (f_X1_keep n (q_RF t 3) (q_RF (q_RF t 0) 0) s0) fun s1 =>
  q_callv (f_X10_castVote n (q_RF t 0) (q_RF t 5) s1) fun s3 =>
  some ((s3 (q_RF (q_RF t 0) 0) 13), s3)
set_option maxRecDepth 100000 in
set_option maxHeartbeats 4000000 in
theorem C_X11_vote {l : Launch} {w : q_Wd} {n : Nat} {t : Nat} (ht : q_KD t = .inl 11) {s0 : q_Sto} : q_C l w yX11_vote cX11_vote 1 (some .int) (q_rm 5 144) [q_rf w t] s0 (f_X11_vote n t s0) := q_CofG [some (q_rf w t)] (by decide +kernel) rfl rfl (Nat.le_of_ble_eq_true rfl) fun cx hl hc => by
  have hc : q_ok w cx RX11 cX11_vote 1 (some .int) (q_rm 5 144) := hc
  rw [f_X11_vote]
  refine g_rl0 hc dX11_vote_0 rfl (pc2 := 1) rfl ?_
  refine g_getR hc fl_X11_26 rfl ht dX11_vote_1 (pc2 := 4) rfl ?_
  refine g_rl0 hc dX11_vote_4 rfl (pc2 := 5) rfl ?_
  refine g_getR hc fl_X11_12 rfl ht dX11_vote_5 (pc2 := 8) rfl ?_
  refine g_getR hc fl_X11_81 rfl (kf_11_0 ht) dX11_vote_8 (pc2 := 11) rfl ?_
  refine g_callV1v hc (C_X1_keep (kf_11_3 ht) (kf_10_0 (kf_11_0 ht))) mv_X1_keep ln_X11_142 (kf_11_3 ht) ⟨by decide, by decide⟩ (Nat.le_of_ble_eq_true rfl) dX11_vote_11 (pc2 := 14) rfl (fun s1 => ?_)
  refine g_rl0 hc dX11_vote_14 rfl (pc2 := 15) rfl ?_
  refine g_getR hc fl_X11_12 rfl ht dX11_vote_15 (pc2 := 18) rfl ?_
  refine g_rl0 hc dX11_vote_18 rfl (pc2 := 19) rfl ?_
  refine g_getR hc fl_X11_40 rfl ht dX11_vote_19 (pc2 := 22) rfl ?_
  refine g_callV1v hc (C_X10_castVote (kf_11_0 ht) (kf_11_5 ht)) mv_X10_castVote ln_X11_146 (kf_11_0 ht) ⟨by decide, by decide⟩ (Nat.le_of_ble_eq_true rfl) dX11_vote_22 (pc2 := 25) rfl (fun s3 => ?_)
  refine g_rl0 hc dX11_vote_25 rfl (pc2 := 26) rfl ?_
  refine g_getR hc fl_X11_12 rfl ht dX11_vote_26 (pc2 := 29) rfl ?_
  refine g_getR hc fl_X11_81 rfl (kf_11_0 ht) dX11_vote_29 (pc2 := 32) rfl ?_
  refine g_getI hc fl_X11_150 rfl (kf_10_0 (kf_11_0 ht)) dX11_vote_32 (pc2 := 35) rfl ?_
  exact g_iret hc dX11_vote_35
set_option maxRecDepth 100000 in
set_option maxHeartbeats 4000000 in
def f_X11_act (n : Nat) (t : Nat) (a0 : Int32) (a1 : Int32) (a2 : Int32) (s0 : q_Sto) : Option (Int32 × q_Sto) :=
  q_call (f_X11_isWithin n a0 0 2 s0) fun r2 s1 =>
  if r2 = 0 then (
  some (0, s1))
  else (
  q_call (f_X10_canTreat n (q_RF t 0) (a0 + 1) a1 a2 s1) fun r5 s4 =>
  if r5 = 0 then (
  some (0, s4))
  else (
  q_callv (f_X1_keep n (q_RF t 3) (q_RF (q_RF t 0) 0) s4) fun s7 =>
  q_callv (f_X10_treat n (q_RF t 0) (a0 + 1) a1 a2 s7) fun s9 =>
  some (1, s9)))
set_option maxRecDepth 100000 in
set_option maxHeartbeats 4000000 in
theorem C_X11_act {l : Launch} {w : q_Wd} {n : Nat} {t : Nat} {a0 : Int32} {a1 : Int32} {a2 : Int32} (ht : q_KD t = .inl 11) {s0 : q_Sto} : q_C l w yX11_act cX11_act 4 (some .boolean) (q_rm 5 144) [q_rf w t, .int a0, .int a1, .int a2] s0 (f_X11_act n t a0 a1 a2 s0) := q_CofG [some (q_rf w t), some (.int a0), some (.int a1), some (.int a2)] (by decide +kernel) rfl rfl (Nat.le_of_ble_eq_true rfl) fun cx hl hc => by
  have hc : q_ok w cx RX11 cX11_act 4 (some .boolean) (q_rm 5 144) := hc
  rw [f_X11_act]
  refine g_il1 hc dX11_act_0 rfl (pc2 := 1) rfl ?_
  refine g_iconst hc dX11_act_1 ic_0 (pc2 := 2) rfl ?_
  refine g_iconst hc dX11_act_2 ic_2 (pc2 := 3) rfl ?_
  refine g_callS3 hc C_X11_isWithin mv_X11_isWithin ln_X11_91 ⟨by decide, by decide⟩ (Nat.le_of_ble_eq_true rfl) dX11_act_3 (pc2 := 6) rfl (fun r2 s1 => ?_)
  refine g_if_eq hc dX11_act_6 (pc1 := 24) (pc2 := 9) rfl rfl (fun _ => ?_) (fun _ => ?_)
  · refine g_iconst hc dX11_act_24 ic_0 (pc2 := 25) rfl ?_
    exact g_zret0 (by decide) hc dX11_act_25
  · refine g_rl0 hc dX11_act_9 rfl (pc2 := 10) rfl ?_
    refine g_getR hc fl_X11_12 rfl ht dX11_act_10 (pc2 := 13) rfl ?_
    refine g_il1 hc dX11_act_13 rfl (pc2 := 14) rfl ?_
    refine g_iconst hc dX11_act_14 ic_1 (pc2 := 15) rfl ?_
    refine g_iadd hc dX11_act_15 (pc2 := 16) rfl ?_
    refine g_il2 hc dX11_act_16 rfl (pc2 := 17) rfl ?_
    refine g_il3 hc dX11_act_17 rfl (pc2 := 18) rfl ?_
    refine g_callV3 hc (C_X10_canTreat (kf_11_0 ht)) mv_X10_canTreat ln_X11_153 (kf_11_0 ht) ⟨by decide, by decide⟩ (Nat.le_of_ble_eq_true rfl) dX11_act_18 (pc2 := 21) rfl (fun r5 s4 => ?_)
    refine g_if_ne hc dX11_act_21 (pc1 := 24) (pc2 := 26) rfl rfl (fun _ => ?_) (fun _ => ?_)
    · refine g_iconst hc dX11_act_24 ic_0 (pc2 := 25) rfl ?_
      exact g_zret0 (by decide) hc dX11_act_25
    · refine g_rl0 hc dX11_act_26 rfl (pc2 := 27) rfl ?_
      refine g_getR hc fl_X11_26 rfl ht dX11_act_27 (pc2 := 30) rfl ?_
      refine g_rl0 hc dX11_act_30 rfl (pc2 := 31) rfl ?_
      refine g_getR hc fl_X11_12 rfl ht dX11_act_31 (pc2 := 34) rfl ?_
      refine g_getR hc fl_X11_81 rfl (kf_11_0 ht) dX11_act_34 (pc2 := 37) rfl ?_
      refine g_callV1v hc (C_X1_keep (kf_11_3 ht) (kf_10_0 (kf_11_0 ht))) mv_X1_keep ln_X11_142 (kf_11_3 ht) ⟨by decide, by decide⟩ (Nat.le_of_ble_eq_true rfl) dX11_act_37 (pc2 := 40) rfl (fun s7 => ?_)
      refine g_rl0 hc dX11_act_40 rfl (pc2 := 41) rfl ?_
      refine g_getR hc fl_X11_12 rfl ht dX11_act_41 (pc2 := 44) rfl ?_
      refine g_il1 hc dX11_act_44 rfl (pc2 := 45) rfl ?_
      refine g_iconst hc dX11_act_45 ic_1 (pc2 := 46) rfl ?_
      refine g_iadd hc dX11_act_46 (pc2 := 47) rfl ?_
      refine g_il2 hc dX11_act_47 rfl (pc2 := 48) rfl ?_
      refine g_il3 hc dX11_act_48 rfl (pc2 := 49) rfl ?_
      refine g_callV3v hc (C_X10_treat (kf_11_0 ht)) mv_X10_treat ln_X11_156 (kf_11_0 ht) ⟨by decide, by decide⟩ (Nat.le_of_ble_eq_true rfl) dX11_act_49 (pc2 := 52) rfl (fun s9 => ?_)
      refine g_iconst hc dX11_act_52 ic_1 (pc2 := 53) rfl ?_
      exact g_zret0 (by decide) hc dX11_act_53
set_option maxRecDepth 100000 in
set_option maxHeartbeats 4000000 in
def f_X11_go (n : Nat) (t : Nat) (a0 : Int32) (s0 : q_Sto) : Option (Int32 × q_Sto) :=
  q_call (f_X10_hoursOfGoing n (q_RF t 0) a0 s0) fun r2 s1 =>
  if r2 = (-1) then (
  some ((-1), s1))
  else (
  q_callv (f_X1_keep n (q_RF t 3) (q_RF (q_RF t 0) 0) s1) fun s4 =>
  q_call (f_X10_travel n (q_RF t 0) a0 r2 1 s4) fun r7 s6 =>
  some (r7, s6))
set_option maxRecDepth 100000 in
set_option maxHeartbeats 4000000 in
theorem C_X11_go {l : Launch} {w : q_Wd} {n : Nat} {t : Nat} {a0 : Int32} (ht : q_KD t = .inl 11) {s0 : q_Sto} : q_C l w yX11_go cX11_go 3 (some .int) (q_rm 4 144) [q_rf w t, .int a0] s0 (f_X11_go n t a0 s0) := q_CofG [some (q_rf w t), some (.int a0), none] (by decide +kernel) rfl rfl (Nat.le_of_ble_eq_true rfl) fun cx hl hc => by
  have hc : q_ok w cx RX11 cX11_go 3 (some .int) (q_rm 4 144) := hc
  rw [f_X11_go]
  refine g_rl0 hc dX11_go_0 rfl (pc2 := 1) rfl ?_
  refine g_getR hc fl_X11_12 rfl ht dX11_go_1 (pc2 := 4) rfl ?_
  refine g_il1 hc dX11_go_4 rfl (pc2 := 5) rfl ?_
  refine g_callV1 hc (C_X10_hoursOfGoing (kf_11_0 ht)) mv_X10_hoursOfGoing ln_X11_159 (kf_11_0 ht) ⟨by decide, by decide⟩ (Nat.le_of_ble_eq_true rfl) dX11_go_5 (pc2 := 8) rfl (fun r2 s1 => ?_)
  refine g_is2 hc dX11_go_8 (by decide) (L2 := [some (q_rf w t), some (.int a0), some (.int r2)]) rfl (pc2 := 9) rfl ?_
  refine g_il2 hc dX11_go_9 rfl (pc2 := 10) rfl ?_
  refine g_iconst hc dX11_go_10 ic_m1 (pc2 := 11) rfl ?_
  refine g_icmp_ne hc dX11_go_11 (pc1 := 14) (pc2 := 16) rfl rfl (fun _ => ?_) (fun _ => ?_)
  · refine g_iconst hc dX11_go_14 ic_m1 (pc2 := 15) rfl ?_
    exact g_iret hc dX11_go_15
  · refine g_rl0 hc dX11_go_16 rfl (pc2 := 17) rfl ?_
    refine g_getR hc fl_X11_26 rfl ht dX11_go_17 (pc2 := 20) rfl ?_
    refine g_rl0 hc dX11_go_20 rfl (pc2 := 21) rfl ?_
    refine g_getR hc fl_X11_12 rfl ht dX11_go_21 (pc2 := 24) rfl ?_
    refine g_getR hc fl_X11_81 rfl (kf_11_0 ht) dX11_go_24 (pc2 := 27) rfl ?_
    refine g_callV1v hc (C_X1_keep (kf_11_3 ht) (kf_10_0 (kf_11_0 ht))) mv_X1_keep ln_X11_142 (kf_11_3 ht) ⟨by decide, by decide⟩ (Nat.le_of_ble_eq_true rfl) dX11_go_27 (pc2 := 30) rfl (fun s4 => ?_)
    refine g_rl0 hc dX11_go_30 rfl (pc2 := 31) rfl ?_
    refine g_getR hc fl_X11_12 rfl ht dX11_go_31 (pc2 := 34) rfl ?_
    refine g_il1 hc dX11_go_34 rfl (pc2 := 35) rfl ?_
    refine g_il2 hc dX11_go_35 rfl (pc2 := 36) rfl ?_
    refine g_iconst hc dX11_go_36 ic_1 (pc2 := 37) rfl ?_
    refine g_callV3 hc (C_X10_travel (kf_11_0 ht)) mv_X10_travel ln_X11_163 (kf_11_0 ht) ⟨by decide, by decide⟩ (Nat.le_of_ble_eq_true rfl) dX11_go_37 (pc2 := 40) rfl (fun r7 s6 => ?_)
    exact g_iret hc dX11_go_40
set_option maxRecDepth 100000 in
set_option maxHeartbeats 4000000 in
def f_X11_rest (n : Nat) (t : Nat) (s0 : q_Sto) : Option (Int32 × q_Sto) :=
  q_callv (f_X1_keep n (q_RF t 3) (q_RF (q_RF t 0) 0) s0) fun s1 =>
  q_call (f_X10_restAll n (q_RF t 0) s1) fun r4 s3 =>
  some (r4, s3)
set_option maxRecDepth 100000 in
set_option maxHeartbeats 4000000 in
theorem C_X11_rest {l : Launch} {w : q_Wd} {n : Nat} {t : Nat} (ht : q_KD t = .inl 11) {s0 : q_Sto} : q_C l w yX11_rest cX11_rest 1 (some .int) (q_rm 4 144) [q_rf w t] s0 (f_X11_rest n t s0) := q_CofG [some (q_rf w t)] (by decide +kernel) rfl rfl (Nat.le_of_ble_eq_true rfl) fun cx hl hc => by
  have hc : q_ok w cx RX11 cX11_rest 1 (some .int) (q_rm 4 144) := hc
  rw [f_X11_rest]
  refine g_rl0 hc dX11_rest_0 rfl (pc2 := 1) rfl ?_
  refine g_getR hc fl_X11_26 rfl ht dX11_rest_1 (pc2 := 4) rfl ?_
  refine g_rl0 hc dX11_rest_4 rfl (pc2 := 5) rfl ?_
  refine g_getR hc fl_X11_12 rfl ht dX11_rest_5 (pc2 := 8) rfl ?_
  refine g_getR hc fl_X11_81 rfl (kf_11_0 ht) dX11_rest_8 (pc2 := 11) rfl ?_
  refine g_callV1v hc (C_X1_keep (kf_11_3 ht) (kf_10_0 (kf_11_0 ht))) mv_X1_keep ln_X11_142 (kf_11_3 ht) ⟨by decide, by decide⟩ (Nat.le_of_ble_eq_true rfl) dX11_rest_11 (pc2 := 14) rfl (fun s1 => ?_)
  refine g_rl0 hc dX11_rest_14 rfl (pc2 := 15) rfl ?_
  refine g_getR hc fl_X11_12 rfl ht dX11_rest_15 (pc2 := 18) rfl ?_
  refine g_callV0 hc (C_X10_restAll (kf_11_0 ht)) mv_X10_restAll ln_X11_167 (kf_11_0 ht) ⟨by decide, by decide⟩ (Nat.le_of_ble_eq_true rfl) dX11_rest_18 (pc2 := 21) rfl (fun r4 s3 => ?_)
  exact g_iret hc dX11_rest_21
set_option maxRecDepth 100000 in
set_option maxHeartbeats 4000000 in
def f_X11_days_L34 (n : Nat) (x0 : Nat) (x1 : Int32) : Nat → Int32 → Int32 → q_Sto → Option (Int32 × q_Sto)
  | 0, _, _, _ => none
  | j + 1, x2, x3, s0 =>
    if x3 < x1 then (
    q_callv (f_X1_keep n (q_RF x0 3) (q_RF (q_RF x0 0) 0) s0) fun s6 =>
    q_call (f_X10_passDay n (q_RF x0 0) (q_RF x0 5) 1 s6) fun r9 s8 =>
    q_nm (x2 + r9) fun v10 =>
    f_X11_days_L34 n x0 x1  j v10 (x3 + 1) s8)
    else (
    some (x2, s0))
set_option maxRecDepth 100000 in
set_option maxHeartbeats 4000000 in
def f_X11_days (n : Nat) (t : Nat) (a0 : Int32) (s0 : q_Sto) : Option (Int32 × q_Sto) :=
  q_call (f_X11_isWithin n a0 1 60 s0) fun r2 s1 =>
  if r2 = 0 then (
  some ((-1), s1))
  else (
  if (s1 (q_RF (q_RF t 0) 0) 16) ≤ (9999 - a0) then (
  f_X11_days_L34 n t a0  n 0 0 s1)
  else (
  some ((-1), s1)))
set_option maxRecDepth 100000 in
set_option maxHeartbeats 4000000 in
theorem t_X11_days_L34 {w : q_Wd} {cx : q_Cx} (hc : q_ok w cx RX11 cX11_days 4 (some .int) (q_rm 7 178)) {n : Nat} {x0 : Nat} {x1 : Int32} (hx0 : q_KD x0 = .inl 11)   :
    ∀ (j : Nat) (x2 : Int32) (x3 : Int32) (s0 : q_Sto), q_G w cx 4 (some .int) 34 [some (q_rf w x0), some (.int x1), some (.int x2), some (.int x3)] [] s0 (f_X11_days_L34 n x0 x1  j x2 x3 s0) := by
  intro j
  induction j with
  | zero =>
    intro _ _ _
    rw [f_X11_days_L34]
    exact q_none
  | succ j ih =>
    intro x2 x3 s0
    rw [f_X11_days_L34]
    refine g_il3 hc dX11_days_34 rfl (pc2 := 35) rfl ?_
    refine g_il1 hc dX11_days_35 rfl (pc2 := 36) rfl ?_
    refine g_icmp_ge hc dX11_days_36 (pc1 := 39) (pc2 := 74) rfl rfl (fun _ => ?_) (fun _ => ?_)
    · refine g_rl0 hc dX11_days_39 rfl (pc2 := 40) rfl ?_
      refine g_getR hc fl_X11_26 rfl hx0 dX11_days_40 (pc2 := 43) rfl ?_
      refine g_rl0 hc dX11_days_43 rfl (pc2 := 44) rfl ?_
      refine g_getR hc fl_X11_12 rfl hx0 dX11_days_44 (pc2 := 47) rfl ?_
      refine g_getR hc fl_X11_81 rfl (kf_11_0 hx0) dX11_days_47 (pc2 := 50) rfl ?_
      refine g_callV1v hc (C_X1_keep (kf_11_3 hx0) (kf_10_0 (kf_11_0 hx0))) mv_X1_keep ln_X11_142 (kf_11_3 hx0) ⟨by decide, by decide⟩ (Nat.le_of_ble_eq_true rfl) dX11_days_50 (pc2 := 53) rfl (fun s6 => ?_)
      refine g_il2 hc dX11_days_53 rfl (pc2 := 54) rfl ?_
      refine g_rl0 hc dX11_days_54 rfl (pc2 := 55) rfl ?_
      refine g_getR hc fl_X11_12 rfl hx0 dX11_days_55 (pc2 := 58) rfl ?_
      refine g_rl0 hc dX11_days_58 rfl (pc2 := 59) rfl ?_
      refine g_getR hc fl_X11_40 rfl hx0 dX11_days_59 (pc2 := 62) rfl ?_
      refine g_iconst hc dX11_days_62 ic_1 (pc2 := 63) rfl ?_
      refine g_callV2 hc (C_X10_passDay (kf_11_0 hx0) (kf_11_5 hx0)) mv_X10_passDay ln_X11_174 (kf_11_0 hx0) ⟨by decide, by decide⟩ (Nat.le_of_ble_eq_true rfl) dX11_days_63 (pc2 := 66) rfl (fun r9 s8 => ?_)
      refine g_iadd hc dX11_days_66 (pc2 := 67) rfl ?_
      refine g_nm (fun v10 => ?_)
      refine g_is2 hc dX11_days_67 (by decide) (L2 := [some (q_rf w x0), some (.int x1), some (.int v10), some (.int x3)]) rfl (pc2 := 68) rfl ?_
      refine g_iinc hc dX11_days_68 rfl (q_ii ic_1) (by decide) (L2 := [some (q_rf w x0), some (.int x1), some (.int v10), some (.int (x3 + 1))]) rfl (pc2 := 71) rfl ?_
      refine g_goto hc dX11_days_71 (pc2 := 34) rfl ?_
      exact ih _ _ _
    · refine g_il2 hc dX11_days_74 rfl (pc2 := 75) rfl ?_
      exact g_iret hc dX11_days_75
set_option maxRecDepth 100000 in
set_option maxHeartbeats 4000000 in
theorem C_X11_days {l : Launch} {w : q_Wd} {n : Nat} {t : Nat} {a0 : Int32} (ht : q_KD t = .inl 11) {s0 : q_Sto} : q_C l w yX11_days cX11_days 4 (some .int) (q_rm 7 178) [q_rf w t, .int a0] s0 (f_X11_days n t a0 s0) := q_CofG [some (q_rf w t), some (.int a0), none, none] (by decide +kernel) rfl rfl (Nat.le_of_ble_eq_true rfl) fun cx hl hc => by
  have hc : q_ok w cx RX11 cX11_days 4 (some .int) (q_rm 7 178) := hc
  rw [f_X11_days]
  refine g_il1 hc dX11_days_0 rfl (pc2 := 1) rfl ?_
  refine g_iconst hc dX11_days_1 ic_1 (pc2 := 2) rfl ?_
  refine g_bipush hc dX11_days_2 bp_60 (pc2 := 4) rfl ?_
  refine g_callS3 hc C_X11_isWithin mv_X11_isWithin ln_X11_91 ⟨by decide, by decide⟩ (Nat.le_of_ble_eq_true rfl) dX11_days_4 (pc2 := 7) rfl (fun r2 s1 => ?_)
  refine g_if_eq hc dX11_days_7 (pc1 := 28) (pc2 := 10) rfl rfl (fun _ => ?_) (fun _ => ?_)
  · refine g_iconst hc dX11_days_28 ic_m1 (pc2 := 29) rfl ?_
    exact g_iret hc dX11_days_29
  · refine g_rl0 hc dX11_days_10 rfl (pc2 := 11) rfl ?_
    refine g_getR hc fl_X11_12 rfl ht dX11_days_11 (pc2 := 14) rfl ?_
    refine g_getR hc fl_X11_81 rfl (kf_11_0 ht) dX11_days_14 (pc2 := 17) rfl ?_
    refine g_getI hc fl_X11_171 rfl (kf_10_0 (kf_11_0 ht)) dX11_days_17 (pc2 := 20) rfl ?_
    refine g_sipush hc dX11_days_20 sp_9999 (pc2 := 23) rfl ?_
    refine g_il1 hc dX11_days_23 rfl (pc2 := 24) rfl ?_
    refine g_isub hc dX11_days_24 (pc2 := 25) rfl ?_
    refine g_icmp_le hc dX11_days_25 (pc1 := 30) (pc2 := 28) rfl rfl (fun _ => ?_) (fun _ => ?_)
    · refine g_iconst hc dX11_days_30 ic_0 (pc2 := 31) rfl ?_
      refine g_is2 hc dX11_days_31 (by decide) (L2 := [some (q_rf w t), some (.int a0), some (.int 0), none]) rfl (pc2 := 32) rfl ?_
      refine g_iconst hc dX11_days_32 ic_0 (pc2 := 33) rfl ?_
      refine g_is3 hc dX11_days_33 (by decide) (L2 := [some (q_rf w t), some (.int a0), some (.int 0), some (.int 0)]) rfl (pc2 := 34) rfl ?_
      refine t_X11_days_L34 hc ht  n _ _ _
    · refine g_iconst hc dX11_days_28 ic_m1 (pc2 := 29) rfl ?_
      exact g_iret hc dX11_days_29
set_option maxRecDepth 100000 in
set_option maxHeartbeats 4000000 in
def f_X11_feed (n : Nat) (t : Nat) (a0 : Int32) (a1 : Int32) (a2 : Int32) (a3 : Int32) (a4 : Int32) (s0 : q_Sto) : Option (Int32 × q_Sto) :=
  if (s0 (q_RF t 8) 1) ≤ 380 then (
  q_callv (f_X8_add n (q_RF t 8) a0 s0) fun s2 =>
  q_callv (f_X8_add n (q_RF t 8) a1 s2) fun s4 =>
  q_callv (f_X8_add n (q_RF t 8) a2 s4) fun s6 =>
  q_callv (f_X8_add n (q_RF t 8) a3 s6) fun s8 =>
  q_callv (f_X8_add n (q_RF t 8) a4 s8) fun s10 =>
  some ((s10 (q_RF t 8) 1), s10))
  else (
  some ((-1), s0))
set_option maxRecDepth 100000 in
set_option maxHeartbeats 4000000 in
theorem C_X11_feed {l : Launch} {w : q_Wd} {n : Nat} {t : Nat} {a0 : Int32} {a1 : Int32} {a2 : Int32} {a3 : Int32} {a4 : Int32} (ht : q_KD t = .inl 11) {s0 : q_Sto} : q_C l w yX11_feed cX11_feed 6 (some .int) (q_rm 1 22) [q_rf w t, .int a0, .int a1, .int a2, .int a3, .int a4] s0 (f_X11_feed n t a0 a1 a2 a3 a4 s0) := q_CofG [some (q_rf w t), some (.int a0), some (.int a1), some (.int a2), some (.int a3), some (.int a4)] (by decide +kernel) rfl rfl (Nat.le_of_ble_eq_true rfl) fun cx hl hc => by
  have hc : q_ok w cx RX11 cX11_feed 6 (some .int) (q_rm 1 22) := hc
  rw [f_X11_feed]
  refine g_rl0 hc dX11_feed_0 rfl (pc2 := 1) rfl ?_
  refine g_getR hc fl_X11_61 rfl ht dX11_feed_1 (pc2 := 4) rfl ?_
  refine g_getI hc fl_X11_178 rfl (kf_11_8 ht) dX11_feed_4 (pc2 := 7) rfl ?_
  refine g_sipush hc dX11_feed_7 sp_380 (pc2 := 10) rfl ?_
  refine g_icmp_le hc dX11_feed_10 (pc1 := 15) (pc2 := 13) rfl rfl (fun _ => ?_) (fun _ => ?_)
  · refine g_rl0 hc dX11_feed_15 rfl (pc2 := 16) rfl ?_
    refine g_getR hc fl_X11_61 rfl ht dX11_feed_16 (pc2 := 19) rfl ?_
    refine g_il1 hc dX11_feed_19 rfl (pc2 := 20) rfl ?_
    refine g_callV1v hc (C_X8_add (kf_11_8 ht)) mv_X8_add ln_X11_181 (kf_11_8 ht) ⟨by decide, by decide⟩ (Nat.le_of_ble_eq_true rfl) dX11_feed_20 (pc2 := 23) rfl (fun s2 => ?_)
    refine g_rl0 hc dX11_feed_23 rfl (pc2 := 24) rfl ?_
    refine g_getR hc fl_X11_61 rfl ht dX11_feed_24 (pc2 := 27) rfl ?_
    refine g_il2 hc dX11_feed_27 rfl (pc2 := 28) rfl ?_
    refine g_callV1v hc (C_X8_add (kf_11_8 ht)) mv_X8_add ln_X11_181 (kf_11_8 ht) ⟨by decide, by decide⟩ (Nat.le_of_ble_eq_true rfl) dX11_feed_28 (pc2 := 31) rfl (fun s4 => ?_)
    refine g_rl0 hc dX11_feed_31 rfl (pc2 := 32) rfl ?_
    refine g_getR hc fl_X11_61 rfl ht dX11_feed_32 (pc2 := 35) rfl ?_
    refine g_il3 hc dX11_feed_35 rfl (pc2 := 36) rfl ?_
    refine g_callV1v hc (C_X8_add (kf_11_8 ht)) mv_X8_add ln_X11_181 (kf_11_8 ht) ⟨by decide, by decide⟩ (Nat.le_of_ble_eq_true rfl) dX11_feed_36 (pc2 := 39) rfl (fun s6 => ?_)
    refine g_rl0 hc dX11_feed_39 rfl (pc2 := 40) rfl ?_
    refine g_getR hc fl_X11_61 rfl ht dX11_feed_40 (pc2 := 43) rfl ?_
    refine g_iload hc dX11_feed_43 rfl (pc2 := 45) rfl ?_
    refine g_callV1v hc (C_X8_add (kf_11_8 ht)) mv_X8_add ln_X11_181 (kf_11_8 ht) ⟨by decide, by decide⟩ (Nat.le_of_ble_eq_true rfl) dX11_feed_45 (pc2 := 48) rfl (fun s8 => ?_)
    refine g_rl0 hc dX11_feed_48 rfl (pc2 := 49) rfl ?_
    refine g_getR hc fl_X11_61 rfl ht dX11_feed_49 (pc2 := 52) rfl ?_
    refine g_iload hc dX11_feed_52 rfl (pc2 := 54) rfl ?_
    refine g_callV1v hc (C_X8_add (kf_11_8 ht)) mv_X8_add ln_X11_181 (kf_11_8 ht) ⟨by decide, by decide⟩ (Nat.le_of_ble_eq_true rfl) dX11_feed_54 (pc2 := 57) rfl (fun s10 => ?_)
    refine g_rl0 hc dX11_feed_57 rfl (pc2 := 58) rfl ?_
    refine g_getR hc fl_X11_61 rfl ht dX11_feed_58 (pc2 := 61) rfl ?_
    refine g_getI hc fl_X11_178 rfl (kf_11_8 ht) dX11_feed_61 (pc2 := 64) rfl ?_
    exact g_iret hc dX11_feed_64
  · refine g_iconst hc dX11_feed_13 ic_m1 (pc2 := 14) rfl ?_
    exact g_iret hc dX11_feed_14
set_option maxRecDepth 100000 in
set_option maxHeartbeats 4000000 in
def f_X11_end (n : Nat) (t : Nat) (a0 : Int32) (s0 : q_Sto) : Option (Int32 × q_Sto) :=
  if a0 < 0 then (
  some (0, s0))
  else (
  if a0 ≤ (s0 (q_RF t 8) 1) then (
  q_nS1 (q_up s0 (q_RF t 8) 1 a0) fun s3 =>
  some (1, s3))
  else (
  some (0, s0)))
set_option maxRecDepth 100000 in
set_option maxHeartbeats 4000000 in
theorem C_X11_end {l : Launch} {w : q_Wd} {n : Nat} {t : Nat} {a0 : Int32} (ht : q_KD t = .inl 11) {s0 : q_Sto} : q_C l w yX11_end cX11_end 2 (some .boolean) (q_rm 0 0) [q_rf w t, .int a0] s0 (f_X11_end n t a0 s0) := q_CofG [some (q_rf w t), some (.int a0)] (by decide +kernel) rfl rfl (Nat.le_of_ble_eq_true rfl) fun cx hl hc => by
  have hc : q_ok w cx RX11 cX11_end 2 (some .boolean) (q_rm 0 0) := hc
  rw [f_X11_end]
  refine g_il1 hc dX11_end_0 rfl (pc2 := 1) rfl ?_
  refine g_if_lt hc dX11_end_1 (pc1 := 15) (pc2 := 4) rfl rfl (fun _ => ?_) (fun _ => ?_)
  · refine g_iconst hc dX11_end_15 ic_0 (pc2 := 16) rfl ?_
    exact g_zret0 (by decide) hc dX11_end_16
  · refine g_il1 hc dX11_end_4 rfl (pc2 := 5) rfl ?_
    refine g_rl0 hc dX11_end_5 rfl (pc2 := 6) rfl ?_
    refine g_getR hc fl_X11_61 rfl ht dX11_end_6 (pc2 := 9) rfl ?_
    refine g_getI hc fl_X11_178 rfl (kf_11_8 ht) dX11_end_9 (pc2 := 12) rfl ?_
    refine g_icmp_le hc dX11_end_12 (pc1 := 17) (pc2 := 15) rfl rfl (fun _ => ?_) (fun _ => ?_)
    · refine g_rl0 hc dX11_end_17 rfl (pc2 := 18) rfl ?_
      refine g_getR hc fl_X11_61 rfl ht dX11_end_18 (pc2 := 21) rfl ?_
      refine g_il1 hc dX11_end_21 rfl (pc2 := 22) rfl ?_
      refine g_putI hc fl_X11_178 rfl (kf_11_8 ht) dX11_end_22 (pc2 := 25) rfl (fun s3 => ?_)
      refine g_iconst hc dX11_end_25 ic_1 (pc2 := 26) rfl ?_
      exact g_zret0 (by decide) hc dX11_end_26
    · refine g_iconst hc dX11_end_15 ic_0 (pc2 := 16) rfl ?_
      exact g_zret0 (by decide) hc dX11_end_16
set_option maxRecDepth 100000 in
set_option maxHeartbeats 4000000 in
def f_X11_takeRows (n : Nat) (t : Nat) (a0 : Int32) (s0 : q_Sto) : Option (Int32 × q_Sto) :=
  q_jn (fun (y1 : Nat) (s2 : q_Sto) =>
    q_callv (f_X6_copyFrom n y1 (q_RF (q_RF t 10) 1) s2) fun s3 =>
    if a0 = 4 then (
    some ((s3 y1 2), s3))
    else (
    q_callv (f_X1_forget n (q_RF t 3) s3) fun s6 =>
    some ((s6 y1 2), s6))) fun j52 =>
  if a0 = 1 then (
  j52 (q_RF (q_RF t 0) 2) s0)
  else (
  if a0 = 2 then (
  j52 (q_RF (q_RF t 0) 3) s0)
  else (
  if a0 = 3 then (
  j52 (q_RF (q_RF t 0) 4) s0)
  else (
  j52 (q_RF (q_RF t 0) 5) s0)))
set_option maxRecDepth 100000 in
set_option maxHeartbeats 4000000 in
theorem C_X11_takeRows {l : Launch} {w : q_Wd} {n : Nat} {t : Nat} {a0 : Int32} (ht : q_KD t = .inl 11) {s0 : q_Sto} : q_C l w yX11_takeRows cX11_takeRows 3 (some .int) (q_rm 3 122) [q_rf w t, .int a0] s0 (f_X11_takeRows n t a0 s0) := q_CofG [some (q_rf w t), some (.int a0), none] (by decide +kernel) rfl rfl (Nat.le_of_ble_eq_true rfl) fun cx hl hc => by
  have hc : q_ok w cx RX11 cX11_takeRows 3 (some .int) (q_rm 3 122) := hc
  rw [f_X11_takeRows]
  refine g_il1 hc dX11_takeRows_0 rfl (pc2 := 1) rfl ?_
  refine g_iconst hc dX11_takeRows_1 ic_1 (pc2 := 2) rfl ?_
  refine g_jn (P := fun j52 => ∀ (y1 : Nat) (hy1 : q_KD y1 = .inl 6) (s2 : q_Sto), q_G w cx 3 (some .int) 52 [some (q_rf w t), some (.int a0), none] [q_rf w y1] s2 (j52 y1 s2)) (fun y1 hy1 s2 => ?_) (fun j52 hj52 => ?_)
  · refine g_rs2 hc dX11_takeRows_52 (by decide) (L2 := [some (q_rf w t), some (.int a0), some (q_rf w y1)]) rfl (pc2 := 53) rfl ?_
    refine g_rl2 hc dX11_takeRows_53 rfl (pc2 := 54) rfl ?_
    refine g_rl0 hc dX11_takeRows_54 rfl (pc2 := 55) rfl ?_
    refine g_getR hc fl_X11_77 rfl ht dX11_takeRows_55 (pc2 := 58) rfl ?_
    refine g_getR hc fl_X11_225 rfl (kf_11_10 ht) dX11_takeRows_58 (pc2 := 61) rfl ?_
    refine g_callV1v hc (C_X6_copyFrom hy1 (kf_7_1 (kf_11_10 ht))) mv_X6_copyFrom ln_X11_228 hy1 ⟨by decide, by decide⟩ (Nat.le_of_ble_eq_true rfl) dX11_takeRows_61 (pc2 := 64) rfl (fun s3 => ?_)
    refine g_il1 hc dX11_takeRows_64 rfl (pc2 := 65) rfl ?_
    refine g_iconst hc dX11_takeRows_65 ic_4 (pc2 := 66) rfl ?_
    refine g_icmp_eq hc dX11_takeRows_66 (pc1 := 76) (pc2 := 69) rfl rfl (fun _ => ?_) (fun _ => ?_)
    · refine g_rl2 hc dX11_takeRows_76 rfl (pc2 := 77) rfl ?_
      refine g_getI hc fl_X11_233 rfl hy1 dX11_takeRows_77 (pc2 := 80) rfl ?_
      exact g_iret hc dX11_takeRows_80
    · refine g_rl0 hc dX11_takeRows_69 rfl (pc2 := 70) rfl ?_
      refine g_getR hc fl_X11_26 rfl ht dX11_takeRows_70 (pc2 := 73) rfl ?_
      refine g_callV0v hc (C_X1_forget (kf_11_3 ht)) mv_X1_forget ln_X11_88 (kf_11_3 ht) ⟨by decide, by decide⟩ (Nat.le_of_ble_eq_true rfl) dX11_takeRows_73 (pc2 := 76) rfl (fun s6 => ?_)
      refine g_rl2 hc dX11_takeRows_76 rfl (pc2 := 77) rfl ?_
      refine g_getI hc fl_X11_233 rfl hy1 dX11_takeRows_77 (pc2 := 80) rfl ?_
      exact g_iret hc dX11_takeRows_80
  · refine g_icmp_ne hc dX11_takeRows_2 (pc1 := 5) (pc2 := 15) rfl rfl (fun _ => ?_) (fun _ => ?_)
    · refine g_rl0 hc dX11_takeRows_5 rfl (pc2 := 6) rfl ?_
      refine g_getR hc fl_X11_12 rfl ht dX11_takeRows_6 (pc2 := 9) rfl ?_
      refine g_getR hc fl_X11_212 rfl (kf_11_0 ht) dX11_takeRows_9 (pc2 := 12) rfl ?_
      refine g_goto hc dX11_takeRows_12 (pc2 := 52) rfl ?_
      exact hj52 _ (kf_10_2 (kf_11_0 ht)) _
    · refine g_il1 hc dX11_takeRows_15 rfl (pc2 := 16) rfl ?_
      refine g_iconst hc dX11_takeRows_16 ic_2 (pc2 := 17) rfl ?_
      refine g_icmp_ne hc dX11_takeRows_17 (pc1 := 20) (pc2 := 30) rfl rfl (fun _ => ?_) (fun _ => ?_)
      · refine g_rl0 hc dX11_takeRows_20 rfl (pc2 := 21) rfl ?_
        refine g_getR hc fl_X11_12 rfl ht dX11_takeRows_21 (pc2 := 24) rfl ?_
        refine g_getR hc fl_X11_216 rfl (kf_11_0 ht) dX11_takeRows_24 (pc2 := 27) rfl ?_
        refine g_goto hc dX11_takeRows_27 (pc2 := 52) rfl ?_
        exact hj52 _ (kf_10_3 (kf_11_0 ht)) _
      · refine g_il1 hc dX11_takeRows_30 rfl (pc2 := 31) rfl ?_
        refine g_iconst hc dX11_takeRows_31 ic_3 (pc2 := 32) rfl ?_
        refine g_icmp_ne hc dX11_takeRows_32 (pc1 := 35) (pc2 := 45) rfl rfl (fun _ => ?_) (fun _ => ?_)
        · refine g_rl0 hc dX11_takeRows_35 rfl (pc2 := 36) rfl ?_
          refine g_getR hc fl_X11_12 rfl ht dX11_takeRows_36 (pc2 := 39) rfl ?_
          refine g_getR hc fl_X11_219 rfl (kf_11_0 ht) dX11_takeRows_39 (pc2 := 42) rfl ?_
          refine g_goto hc dX11_takeRows_42 (pc2 := 52) rfl ?_
          exact hj52 _ (kf_10_4 (kf_11_0 ht)) _
        · refine g_rl0 hc dX11_takeRows_45 rfl (pc2 := 46) rfl ?_
          refine g_getR hc fl_X11_12 rfl ht dX11_takeRows_46 (pc2 := 49) rfl ?_
          refine g_getR hc fl_X11_222 rfl (kf_11_0 ht) dX11_takeRows_49 (pc2 := 52) rfl ?_
          exact hj52 _ (kf_10_5 (kf_11_0 ht)) _
set_option maxRecDepth 100000 in
set_option maxHeartbeats 4000000 in
def f_X11_text (n : Nat) (t : Nat) (a0 : Int32) (s0 : q_Sto) : Option (Int32 × q_Sto) :=
  q_callv (f_X8_begin n (q_RF t 8) s0) fun s1 =>
  q_jn (fun  (s3 : q_Sto) =>
    q_call (f_X11_isWithin n a0 1 4 s3) fun r5 s4 =>
    if r5 = 0 then (
    q_nS1 (q_up s4 (q_RF t 8) 1 0) fun s7 =>
    some ((-1), s7))
    else (
    q_call (f_X7_read n (q_RF t 10) a0 (q_RF (q_RF t 0) 0) s4) fun r9 s8 =>
    if r9 = 0 then (
    q_nS1 (q_up s8 (q_RF t 8) 1 0) fun s11 =>
    some ((-1), s11))
    else (
    q_call (f_X11_takeRows n t a0 s8) fun r13 s12 =>
    q_nS1 (q_up s12 (q_RF t 8) 1 0) fun s14 =>
    some (r13, s14)))) fun j54 =>
  if a0 = 0 then (
  q_call (f_X3_read n (q_RF t 9) s1) fun r17 s16 =>
  if r17 = 0 then (
  j54 s16)
  else (
  q_callv (f_X2_copyFrom n (q_RF (q_RF t 0) 1) (q_RF (q_RF t 9) 1) s16) fun s19 =>
  q_nm (s19 (q_RF (q_RF t 0) 1) 8) fun v21 =>
  q_nS1 (q_up s19 (q_RF t 8) 1 0) fun s22 =>
  some (v21, s22)))
  else (
  j54 s1)
set_option maxRecDepth 100000 in
set_option maxHeartbeats 4000000 in
theorem C_X11_text {l : Launch} {w : q_Wd} {n : Nat} {t : Nat} {a0 : Int32} (ht : q_KD t = .inl 11) {s0 : q_Sto} : q_C l w yX11_text cX11_text 3 (some .int) (q_rm 12 276) [q_rf w t, .int a0] s0 (f_X11_text n t a0 s0) := q_CofG [some (q_rf w t), some (.int a0), none] (by decide +kernel) rfl rfl (Nat.le_of_ble_eq_true rfl) fun cx hl hc => by
  have hc : q_ok w cx RX11 cX11_text 3 (some .int) (q_rm 12 276) := hc
  rw [f_X11_text]
  refine g_iconst hc dX11_text_0 ic_m1 (pc2 := 1) rfl ?_
  refine g_is2 hc dX11_text_1 (by decide) (L2 := [some (q_rf w t), some (.int a0), some (.int (-1))]) rfl (pc2 := 2) rfl ?_
  refine g_rl0 hc dX11_text_2 rfl (pc2 := 3) rfl ?_
  refine g_getR hc fl_X11_61 rfl ht dX11_text_3 (pc2 := 6) rfl ?_
  refine g_callV0v hc (C_X8_begin (kf_11_8 ht)) mv_X8_begin ln_X11_185 (kf_11_8 ht) ⟨by decide, by decide⟩ (Nat.le_of_ble_eq_true rfl) dX11_text_6 (pc2 := 9) rfl (fun s1 => ?_)
  refine g_il1 hc dX11_text_9 rfl (pc2 := 10) rfl ?_
  refine g_jn (P := fun j54 => ∀  (s3 : q_Sto), q_G w cx 3 (some .int) 54 [some (q_rf w t), some (.int a0), some (.int (-1))] [] s3 (j54 s3)) (fun s3 => ?_) (fun j54 hj54 => ?_)
  · refine g_il1 hc dX11_text_54 rfl (pc2 := 55) rfl ?_
    refine g_iconst hc dX11_text_55 ic_1 (pc2 := 56) rfl ?_
    refine g_iconst hc dX11_text_56 ic_4 (pc2 := 57) rfl ?_
    refine g_callS3 hc C_X11_isWithin mv_X11_isWithin ln_X11_91 ⟨by decide, by decide⟩ (Nat.le_of_ble_eq_true rfl) dX11_text_57 (pc2 := 60) rfl (fun r5 s4 => ?_)
    refine g_if_eq hc dX11_text_60 (pc1 := 87) (pc2 := 63) rfl rfl (fun _ => ?_) (fun _ => ?_)
    · refine g_rl0 hc dX11_text_87 rfl (pc2 := 88) rfl ?_
      refine g_getR hc fl_X11_61 rfl ht dX11_text_88 (pc2 := 91) rfl ?_
      refine g_iconst hc dX11_text_91 ic_0 (pc2 := 92) rfl ?_
      refine g_putI hc fl_X11_178 rfl (kf_11_8 ht) dX11_text_92 (pc2 := 95) rfl (fun s7 => ?_)
      refine g_il2 hc dX11_text_95 rfl (pc2 := 96) rfl ?_
      exact g_iret hc dX11_text_96
    · refine g_rl0 hc dX11_text_63 rfl (pc2 := 64) rfl ?_
      refine g_getR hc fl_X11_77 rfl ht dX11_text_64 (pc2 := 67) rfl ?_
      refine g_il1 hc dX11_text_67 rfl (pc2 := 68) rfl ?_
      refine g_rl0 hc dX11_text_68 rfl (pc2 := 69) rfl ?_
      refine g_getR hc fl_X11_12 rfl ht dX11_text_69 (pc2 := 72) rfl ?_
      refine g_getR hc fl_X11_81 rfl (kf_11_0 ht) dX11_text_72 (pc2 := 75) rfl ?_
      refine g_callV2 hc (C_X7_read (kf_11_10 ht) (kf_10_0 (kf_11_0 ht))) mv_X7_read ln_X11_206 (kf_11_10 ht) ⟨by decide, by decide⟩ (Nat.le_of_ble_eq_true rfl) dX11_text_75 (pc2 := 78) rfl (fun r9 s8 => ?_)
      refine g_if_eq hc dX11_text_78 (pc1 := 87) (pc2 := 81) rfl rfl (fun _ => ?_) (fun _ => ?_)
      · refine g_rl0 hc dX11_text_87 rfl (pc2 := 88) rfl ?_
        refine g_getR hc fl_X11_61 rfl ht dX11_text_88 (pc2 := 91) rfl ?_
        refine g_iconst hc dX11_text_91 ic_0 (pc2 := 92) rfl ?_
        refine g_putI hc fl_X11_178 rfl (kf_11_8 ht) dX11_text_92 (pc2 := 95) rfl (fun s11 => ?_)
        refine g_il2 hc dX11_text_95 rfl (pc2 := 96) rfl ?_
        exact g_iret hc dX11_text_96
      · refine g_rl0 hc dX11_text_81 rfl (pc2 := 82) rfl ?_
        refine g_il1 hc dX11_text_82 rfl (pc2 := 83) rfl ?_
        refine g_callV1 hc (C_X11_takeRows ht) mv_X11_takeRows ln_X11_209 ht ⟨by decide, by decide⟩ (Nat.le_of_ble_eq_true rfl) dX11_text_83 (pc2 := 86) rfl (fun r13 s12 => ?_)
        refine g_is2 hc dX11_text_86 (by decide) (L2 := [some (q_rf w t), some (.int a0), some (.int r13)]) rfl (pc2 := 87) rfl ?_
        refine g_rl0 hc dX11_text_87 rfl (pc2 := 88) rfl ?_
        refine g_getR hc fl_X11_61 rfl ht dX11_text_88 (pc2 := 91) rfl ?_
        refine g_iconst hc dX11_text_91 ic_0 (pc2 := 92) rfl ?_
        refine g_putI hc fl_X11_178 rfl (kf_11_8 ht) dX11_text_92 (pc2 := 95) rfl (fun s14 => ?_)
        refine g_il2 hc dX11_text_95 rfl (pc2 := 96) rfl ?_
        exact g_iret hc dX11_text_96
  · refine g_if_ne hc dX11_text_10 (pc1 := 13) (pc2 := 54) rfl rfl (fun _ => ?_) (fun _ => ?_)
    · refine g_rl0 hc dX11_text_13 rfl (pc2 := 14) rfl ?_
      refine g_getR hc fl_X11_70 rfl ht dX11_text_14 (pc2 := 17) rfl ?_
      refine g_callV0 hc (C_X3_read (kf_11_9 ht)) mv_X3_read ln_X11_188 (kf_11_9 ht) ⟨by decide, by decide⟩ (Nat.le_of_ble_eq_true rfl) dX11_text_17 (pc2 := 20) rfl (fun r17 s16 => ?_)
      refine g_if_eq hc dX11_text_20 (pc1 := 54) (pc2 := 23) rfl rfl (fun _ => ?_) (fun _ => ?_)
      · exact hj54 _
      · refine g_rl0 hc dX11_text_23 rfl (pc2 := 24) rfl ?_
        refine g_getR hc fl_X11_12 rfl ht dX11_text_24 (pc2 := 27) rfl ?_
        refine g_getR hc fl_X11_192 rfl (kf_11_0 ht) dX11_text_27 (pc2 := 30) rfl ?_
        refine g_rl0 hc dX11_text_30 rfl (pc2 := 31) rfl ?_
        refine g_getR hc fl_X11_70 rfl ht dX11_text_31 (pc2 := 34) rfl ?_
        refine g_getR hc fl_X11_196 rfl (kf_11_9 ht) dX11_text_34 (pc2 := 37) rfl ?_
        refine g_callV1v hc (C_X2_copyFrom (kf_10_1 (kf_11_0 ht)) (kf_3_1 (kf_11_9 ht))) mv_X2_copyFrom ln_X11_197 (kf_10_1 (kf_11_0 ht)) ⟨by decide, by decide⟩ (Nat.le_of_ble_eq_true rfl) dX11_text_37 (pc2 := 40) rfl (fun s19 => ?_)
        refine g_rl0 hc dX11_text_40 rfl (pc2 := 41) rfl ?_
        refine g_getR hc fl_X11_12 rfl ht dX11_text_41 (pc2 := 44) rfl ?_
        refine g_getR hc fl_X11_192 rfl (kf_11_0 ht) dX11_text_44 (pc2 := 47) rfl ?_
        refine g_getI hc fl_X11_203 rfl (kf_10_1 (kf_11_0 ht)) dX11_text_47 (pc2 := 50) rfl ?_
        refine g_nm (fun v21 => ?_)
        refine g_is2 hc dX11_text_50 (by decide) (L2 := [some (q_rf w t), some (.int a0), some (.int v21)]) rfl (pc2 := 51) rfl ?_
        refine g_goto hc dX11_text_51 (pc2 := 87) rfl ?_
        refine g_rl0 hc dX11_text_87 rfl (pc2 := 88) rfl ?_
        refine g_getR hc fl_X11_61 rfl ht dX11_text_88 (pc2 := 91) rfl ?_
        refine g_iconst hc dX11_text_91 ic_0 (pc2 := 92) rfl ?_
        refine g_putI hc fl_X11_178 rfl (kf_11_8 ht) dX11_text_92 (pc2 := 95) rfl (fun s22 => ?_)
        refine g_il2 hc dX11_text_95 rfl (pc2 := 96) rfl ?_
        exact g_iret hc dX11_text_96
    · exact hj54 _
set_option maxRecDepth 100000 in
set_option maxHeartbeats 4000000 in
def f_X11_of (n : Nat) (t : Nat) (a0 : Int32) (a1 : Int32) (s0 : q_Sto) : Option (Int32 × q_Sto) :=
  q_call (f_X9_hasMule n (q_RF (q_RF t 0) 0) a0 s0) fun r2 s1 =>
  if r2 = 0 then (
  some ((-2), s1))
  else (
  if a1 ≤ 30 then (
  if a1 < 20 then (
  if a1 < 10 then (
  if a1 = 0 then (
  q_ld s1 (q_RF (q_RF (q_RF t 0) 0) 0) a0 12 fun v8 =>
  some (v8, s1))
  else
  if a1 = 1 then (
  q_ld s1 (q_RF (q_RF (q_RF t 0) 0) 1) a0 12 fun v10 =>
  some (v10, s1))
  else
  if a1 = 2 then (
  q_ld s1 (q_RF (q_RF (q_RF t 0) 0) 2) a0 12 fun v12 =>
  some (v12, s1))
  else
  if a1 = 3 then (
  q_ld s1 (q_RF (q_RF (q_RF t 0) 0) 3) a0 12 fun v14 =>
  some (v14, s1))
  else
  if a1 = 4 then (
  q_call (f_X10_heededBy n (q_RF t 0) a0 s1) fun r17 s16 =>
  some (r17, s16))
  else
  if a1 = 5 then (
  q_call (f_X10_needOf n (q_RF t 0) a0 s1) fun r20 s19 =>
  some (r20, s19))
  else
  (some ((-2), s1)))
  else (
  q_call (f_X9_hasMan n (q_RF (q_RF t 0) 0) (a1 - 10) s1) fun r22 s21 =>
  if r22 = 0 then (
  some ((-2), s21))
  else (
  q_call (f_X9_likingFor n (q_RF (q_RF t 0) 0) a0 (a1 - 10) s21) fun r25 s24 =>
  some (r25, s24))))
  else (
  q_call (f_X9_hasMan n (q_RF (q_RF t 0) 0) (a1 - 20) s1) fun r27 s26 =>
  if r27 = 0 then (
  some ((-2), s26))
  else (
  q_call (f_X10_leanNow n (q_RF t 0) a0 (a1 - 20) s26) fun r30 s29 =>
  some (r30, s29))))
  else (
  if a1 ≤ 54 then (
  q_call (f_X10_riskOf n (q_RF t 0) a0 (a1 - 30) (s1 (q_RF (q_RF t 0) 0) 13) s1) fun r33 s32 =>
  some (r33, s32))
  else (
  some ((-2), s1))))
set_option maxRecDepth 100000 in
set_option maxHeartbeats 4000000 in
theorem C_X11_of {l : Launch} {w : q_Wd} {n : Nat} {t : Nat} {a0 : Int32} {a1 : Int32} (ht : q_KD t = .inl 11) {s0 : q_Sto} : q_C l w yX11_of cX11_of 4 (some .int) (q_rm 4 101) [q_rf w t, .int a0, .int a1] s0 (f_X11_of n t a0 a1 s0) := q_CofG [some (q_rf w t), some (.int a0), some (.int a1), none] (by decide +kernel) rfl rfl (Nat.le_of_ble_eq_true rfl) fun cx hl hc => by
  have hc : q_ok w cx RX11 cX11_of 4 (some .int) (q_rm 4 101) := hc
  rw [f_X11_of]
  refine g_rl0 hc dX11_of_0 rfl (pc2 := 1) rfl ?_
  refine g_getR hc fl_X11_12 rfl ht dX11_of_1 (pc2 := 4) rfl ?_
  refine g_getR hc fl_X11_81 rfl (kf_11_0 ht) dX11_of_4 (pc2 := 7) rfl ?_
  refine g_rs3 hc dX11_of_7 (by decide) (L2 := [some (q_rf w t), some (.int a0), some (.int a1), some (q_rf w (q_RF (q_RF t 0) 0))]) rfl (pc2 := 8) rfl ?_
  refine g_rl3 hc dX11_of_8 rfl (pc2 := 9) rfl ?_
  refine g_il1 hc dX11_of_9 rfl (pc2 := 10) rfl ?_
  refine g_callV1 hc (C_X9_hasMule (kf_10_0 (kf_11_0 ht))) mv_X9_hasMule ln_X11_119 (kf_10_0 (kf_11_0 ht)) ⟨by decide, by decide⟩ (Nat.le_of_ble_eq_true rfl) dX11_of_10 (pc2 := 13) rfl (fun r2 s1 => ?_)
  refine g_if_ne hc dX11_of_13 (pc1 := 16) (pc2 := 19) rfl rfl (fun _ => ?_) (fun _ => ?_)
  · refine g_bipush hc dX11_of_16 bp_m2 (pc2 := 18) rfl ?_
    exact g_iret hc dX11_of_18
  · refine g_il2 hc dX11_of_19 rfl (pc2 := 20) rfl ?_
    refine g_bipush hc dX11_of_20 bp_30 (pc2 := 22) rfl ?_
    refine g_icmp_le hc dX11_of_22 (pc1 := 53) (pc2 := 25) rfl rfl (fun _ => ?_) (fun _ => ?_)
    · refine g_il2 hc dX11_of_53 rfl (pc2 := 54) rfl ?_
      refine g_bipush hc dX11_of_54 bp_20 (pc2 := 56) rfl ?_
      refine g_icmp_lt hc dX11_of_56 (pc1 := 88) (pc2 := 59) rfl rfl (fun _ => ?_) (fun _ => ?_)
      · refine g_il2 hc dX11_of_88 rfl (pc2 := 89) rfl ?_
        refine g_bipush hc dX11_of_89 bp_10 (pc2 := 91) rfl ?_
        refine g_icmp_lt hc dX11_of_91 (pc1 := 120) (pc2 := 94) rfl rfl (fun _ => ?_) (fun _ => ?_)
        · refine g_il2 hc dX11_of_120 rfl (pc2 := 121) rfl ?_
          refine g_swc (pc2 := 0) hc dX11_of_121 (c := 0) (by decide) (by decide) rfl (pc1 := 160) rfl (fun _ => ?_) (fun c7 => ?_)
          · refine g_rl3 hc dX11_of_160 rfl (pc2 := 161) rfl ?_
            refine g_getR hc fl_X11_251 rfl (kf_10_0 (kf_11_0 ht)) dX11_of_161 (pc2 := 164) rfl ?_
            refine g_il1 hc dX11_of_164 rfl (pc2 := 165) rfl ?_
            refine g_iald hc (kf_9_0 (kf_10_0 (kf_11_0 ht))) (kl_9_0 (kf_10_0 (kf_11_0 ht))) dX11_of_165 (pc2 := 166) rfl (fun v8 => ?_)
            exact g_iret hc dX11_of_166
          refine g_swc (pc2 := 0) hc dX11_of_121 (c := 1) (by decide) (by decide) rfl (pc1 := 167) rfl (fun _ => ?_) (fun c9 => ?_)
          · refine g_rl3 hc dX11_of_167 rfl (pc2 := 168) rfl ?_
            refine g_getR hc fl_X11_254 rfl (kf_10_0 (kf_11_0 ht)) dX11_of_168 (pc2 := 171) rfl ?_
            refine g_il1 hc dX11_of_171 rfl (pc2 := 172) rfl ?_
            refine g_iald hc (kf_9_1 (kf_10_0 (kf_11_0 ht))) (kl_9_1 (kf_10_0 (kf_11_0 ht))) dX11_of_172 (pc2 := 173) rfl (fun v10 => ?_)
            exact g_iret hc dX11_of_173
          refine g_swc (pc2 := 0) hc dX11_of_121 (c := 2) (by decide) (by decide) rfl (pc1 := 174) rfl (fun _ => ?_) (fun c11 => ?_)
          · refine g_rl3 hc dX11_of_174 rfl (pc2 := 175) rfl ?_
            refine g_getR hc fl_X11_122 rfl (kf_10_0 (kf_11_0 ht)) dX11_of_175 (pc2 := 178) rfl ?_
            refine g_il1 hc dX11_of_178 rfl (pc2 := 179) rfl ?_
            refine g_iald hc (kf_9_2 (kf_10_0 (kf_11_0 ht))) (kl_9_2 (kf_10_0 (kf_11_0 ht))) dX11_of_179 (pc2 := 180) rfl (fun v12 => ?_)
            exact g_iret hc dX11_of_180
          refine g_swc (pc2 := 0) hc dX11_of_121 (c := 3) (by decide) (by decide) rfl (pc1 := 181) rfl (fun _ => ?_) (fun c13 => ?_)
          · refine g_rl3 hc dX11_of_181 rfl (pc2 := 182) rfl ?_
            refine g_getR hc fl_X11_257 rfl (kf_10_0 (kf_11_0 ht)) dX11_of_182 (pc2 := 185) rfl ?_
            refine g_il1 hc dX11_of_185 rfl (pc2 := 186) rfl ?_
            refine g_iald hc (kf_9_3 (kf_10_0 (kf_11_0 ht))) (kl_9_3 (kf_10_0 (kf_11_0 ht))) dX11_of_186 (pc2 := 187) rfl (fun v14 => ?_)
            exact g_iret hc dX11_of_187
          refine g_swc (pc2 := 0) hc dX11_of_121 (c := 4) (by decide) (by decide) rfl (pc1 := 188) rfl (fun _ => ?_) (fun c15 => ?_)
          · refine g_rl0 hc dX11_of_188 rfl (pc2 := 189) rfl ?_
            refine g_getR hc fl_X11_12 rfl ht dX11_of_189 (pc2 := 192) rfl ?_
            refine g_il1 hc dX11_of_192 rfl (pc2 := 193) rfl ?_
            refine g_callV1 hc (C_X10_heededBy (kf_11_0 ht)) mv_X10_heededBy ln_X11_260 (kf_11_0 ht) ⟨by decide, by decide⟩ (Nat.le_of_ble_eq_true rfl) dX11_of_193 (pc2 := 196) rfl (fun r17 s16 => ?_)
            exact g_iret hc dX11_of_196
          refine g_swc (pc2 := 0) hc dX11_of_121 (c := 5) (by decide) (by decide) rfl (pc1 := 197) rfl (fun _ => ?_) (fun c18 => ?_)
          · refine g_rl0 hc dX11_of_197 rfl (pc2 := 198) rfl ?_
            refine g_getR hc fl_X11_12 rfl ht dX11_of_198 (pc2 := 201) rfl ?_
            refine g_il1 hc dX11_of_201 rfl (pc2 := 202) rfl ?_
            refine g_callV1 hc (C_X10_needOf (kf_11_0 ht)) mv_X10_needOf ln_X11_263 (kf_11_0 ht) ⟨by decide, by decide⟩ (Nat.le_of_ble_eq_true rfl) dX11_of_202 (pc2 := 205) rfl (fun r20 s19 => ?_)
            exact g_iret hc dX11_of_205
          refine g_swd (pc2 := 0) hc dX11_of_121 (fun i a b e => ?_) (pc1 := 206) rfl ?_
          · rcases (show i = 0 ∨ i = 1 ∨ i = 2 ∨ i = 3 ∨ i = 4 ∨ i = 5 by omega) with rfl | rfl | rfl | rfl | rfl | rfl
            · exact q_swx (c := 0) (by decide) c7 e
            · exact q_swx (c := 1) (by decide) c9 e
            · exact q_swx (c := 2) (by decide) c11 e
            · exact q_swx (c := 3) (by decide) c13 e
            · exact q_swx (c := 4) (by decide) c15 e
            · exact q_swx (c := 5) (by decide) c18 e
          · refine g_bipush hc dX11_of_206 bp_m2 (pc2 := 208) rfl ?_
            exact g_iret hc dX11_of_208
        · refine g_rl3 hc dX11_of_94 rfl (pc2 := 95) rfl ?_
          refine g_il2 hc dX11_of_95 rfl (pc2 := 96) rfl ?_
          refine g_bipush hc dX11_of_96 bp_10 (pc2 := 98) rfl ?_
          refine g_isub hc dX11_of_98 (pc2 := 99) rfl ?_
          refine g_callV1 hc (C_X9_hasMan (kf_10_0 (kf_11_0 ht))) mv_X9_hasMan ln_X11_126 (kf_10_0 (kf_11_0 ht)) ⟨by decide, by decide⟩ (Nat.le_of_ble_eq_true rfl) dX11_of_99 (pc2 := 102) rfl (fun r22 s21 => ?_)
          refine g_if_eq hc dX11_of_102 (pc1 := 117) (pc2 := 105) rfl rfl (fun _ => ?_) (fun _ => ?_)
          · refine g_bipush hc dX11_of_117 bp_m2 (pc2 := 119) rfl ?_
            exact g_iret hc dX11_of_119
          · refine g_rl3 hc dX11_of_105 rfl (pc2 := 106) rfl ?_
            refine g_il1 hc dX11_of_106 rfl (pc2 := 107) rfl ?_
            refine g_il2 hc dX11_of_107 rfl (pc2 := 108) rfl ?_
            refine g_bipush hc dX11_of_108 bp_10 (pc2 := 110) rfl ?_
            refine g_isub hc dX11_of_110 (pc2 := 111) rfl ?_
            refine g_callV2 hc (C_X9_likingFor (kf_10_0 (kf_11_0 ht))) mv_X9_likingFor ln_X11_248 (kf_10_0 (kf_11_0 ht)) ⟨by decide, by decide⟩ (Nat.le_of_ble_eq_true rfl) dX11_of_111 (pc2 := 114) rfl (fun r25 s24 => ?_)
            refine g_goto hc dX11_of_114 (pc2 := 119) rfl ?_
            exact g_iret hc dX11_of_119
      · refine g_rl3 hc dX11_of_59 rfl (pc2 := 60) rfl ?_
        refine g_il2 hc dX11_of_60 rfl (pc2 := 61) rfl ?_
        refine g_bipush hc dX11_of_61 bp_20 (pc2 := 63) rfl ?_
        refine g_isub hc dX11_of_63 (pc2 := 64) rfl ?_
        refine g_callV1 hc (C_X9_hasMan (kf_10_0 (kf_11_0 ht))) mv_X9_hasMan ln_X11_126 (kf_10_0 (kf_11_0 ht)) ⟨by decide, by decide⟩ (Nat.le_of_ble_eq_true rfl) dX11_of_64 (pc2 := 67) rfl (fun r27 s26 => ?_)
        refine g_if_eq hc dX11_of_67 (pc1 := 85) (pc2 := 70) rfl rfl (fun _ => ?_) (fun _ => ?_)
        · refine g_bipush hc dX11_of_85 bp_m2 (pc2 := 87) rfl ?_
          exact g_iret hc dX11_of_87
        · refine g_rl0 hc dX11_of_70 rfl (pc2 := 71) rfl ?_
          refine g_getR hc fl_X11_12 rfl ht dX11_of_71 (pc2 := 74) rfl ?_
          refine g_il1 hc dX11_of_74 rfl (pc2 := 75) rfl ?_
          refine g_il2 hc dX11_of_75 rfl (pc2 := 76) rfl ?_
          refine g_bipush hc dX11_of_76 bp_20 (pc2 := 78) rfl ?_
          refine g_isub hc dX11_of_78 (pc2 := 79) rfl ?_
          refine g_callV2 hc (C_X10_leanNow (kf_11_0 ht)) mv_X10_leanNow ln_X11_245 (kf_11_0 ht) ⟨by decide, by decide⟩ (Nat.le_of_ble_eq_true rfl) dX11_of_79 (pc2 := 82) rfl (fun r30 s29 => ?_)
          refine g_goto hc dX11_of_82 (pc2 := 87) rfl ?_
          exact g_iret hc dX11_of_87
    · refine g_il2 hc dX11_of_25 rfl (pc2 := 26) rfl ?_
      refine g_bipush hc dX11_of_26 bp_54 (pc2 := 28) rfl ?_
      refine g_icmp_gt hc dX11_of_28 (pc1 := 31) (pc2 := 50) rfl rfl (fun _ => ?_) (fun _ => ?_)
      · refine g_rl0 hc dX11_of_31 rfl (pc2 := 32) rfl ?_
        refine g_getR hc fl_X11_12 rfl ht dX11_of_32 (pc2 := 35) rfl ?_
        refine g_il1 hc dX11_of_35 rfl (pc2 := 36) rfl ?_
        refine g_il2 hc dX11_of_36 rfl (pc2 := 37) rfl ?_
        refine g_bipush hc dX11_of_37 bp_30 (pc2 := 39) rfl ?_
        refine g_isub hc dX11_of_39 (pc2 := 40) rfl ?_
        refine g_rl3 hc dX11_of_40 rfl (pc2 := 41) rfl ?_
        refine g_getI hc fl_X11_150 rfl (kf_10_0 (kf_11_0 ht)) dX11_of_41 (pc2 := 44) rfl ?_
        refine g_callV3 hc (C_X10_riskOf (kf_11_0 ht)) mv_X10_riskOf ln_X11_242 (kf_11_0 ht) ⟨by decide, by decide⟩ (Nat.le_of_ble_eq_true rfl) dX11_of_44 (pc2 := 47) rfl (fun r33 s32 => ?_)
        refine g_goto hc dX11_of_47 (pc2 := 52) rfl ?_
        exact g_iret hc dX11_of_52
      · refine g_bipush hc dX11_of_50 bp_m2 (pc2 := 52) rfl ?_
        exact g_iret hc dX11_of_52
set_option maxRecDepth 100000 in
set_option maxHeartbeats 4000000 in
def f_X11_manOf (n : Nat) (t : Nat) (a0 : Int32) (a1 : Int32) (s0 : q_Sto) : Option (Int32 × q_Sto) :=
  q_call (f_X9_hasMan n (q_RF (q_RF t 0) 0) a0 s0) fun r2 s1 =>
  if r2 = 0 then (
  some ((-1), s1))
  else (
  if a1 = 0 then (
  q_ld s1 (q_RF (q_RF (q_RF t 0) 0) 4) a0 5 fun v5 =>
  some (v5, s1))
  else
  if a1 = 1 then (
  q_ld s1 (q_RF (q_RF (q_RF t 0) 0) 5) a0 5 fun v7 =>
  some (v7, s1))
  else
  if a1 = 2 then (
  q_ld s1 (q_RF (q_RF (q_RF t 0) 0) 6) a0 5 fun v9 =>
  some (v9, s1))
  else
  if a1 = 3 then (
  q_call (f_X9_behindOf n (q_RF (q_RF t 0) 0) a0 s1) fun r12 s11 =>
  some (r12, s11))
  else
  (some ((-1), s1)))
set_option maxRecDepth 100000 in
set_option maxHeartbeats 4000000 in
theorem C_X11_manOf {l : Launch} {w : q_Wd} {n : Nat} {t : Nat} {a0 : Int32} {a1 : Int32} (ht : q_KD t = .inl 11) {s0 : q_Sto} : q_C l w yX11_manOf cX11_manOf 4 (some .int) (q_rm 1 23) [q_rf w t, .int a0, .int a1] s0 (f_X11_manOf n t a0 a1 s0) := q_CofG [some (q_rf w t), some (.int a0), some (.int a1), none] (by decide +kernel) rfl rfl (Nat.le_of_ble_eq_true rfl) fun cx hl hc => by
  have hc : q_ok w cx RX11 cX11_manOf 4 (some .int) (q_rm 1 23) := hc
  rw [f_X11_manOf]
  refine g_rl0 hc dX11_manOf_0 rfl (pc2 := 1) rfl ?_
  refine g_getR hc fl_X11_12 rfl ht dX11_manOf_1 (pc2 := 4) rfl ?_
  refine g_getR hc fl_X11_81 rfl (kf_11_0 ht) dX11_manOf_4 (pc2 := 7) rfl ?_
  refine g_rs3 hc dX11_manOf_7 (by decide) (L2 := [some (q_rf w t), some (.int a0), some (.int a1), some (q_rf w (q_RF (q_RF t 0) 0))]) rfl (pc2 := 8) rfl ?_
  refine g_rl3 hc dX11_manOf_8 rfl (pc2 := 9) rfl ?_
  refine g_il1 hc dX11_manOf_9 rfl (pc2 := 10) rfl ?_
  refine g_callV1 hc (C_X9_hasMan (kf_10_0 (kf_11_0 ht))) mv_X9_hasMan ln_X11_126 (kf_10_0 (kf_11_0 ht)) ⟨by decide, by decide⟩ (Nat.le_of_ble_eq_true rfl) dX11_manOf_10 (pc2 := 13) rfl (fun r2 s1 => ?_)
  refine g_if_ne hc dX11_manOf_13 (pc1 := 16) (pc2 := 18) rfl rfl (fun _ => ?_) (fun _ => ?_)
  · refine g_iconst hc dX11_manOf_16 ic_m1 (pc2 := 17) rfl ?_
    exact g_iret hc dX11_manOf_17
  · refine g_il2 hc dX11_manOf_18 rfl (pc2 := 19) rfl ?_
    refine g_swc (pc2 := 0) hc dX11_manOf_19 (c := 0) (by decide) (by decide) rfl (pc1 := 48) rfl (fun _ => ?_) (fun c4 => ?_)
    · refine g_rl3 hc dX11_manOf_48 rfl (pc2 := 49) rfl ?_
      refine g_getR hc fl_X11_129 rfl (kf_10_0 (kf_11_0 ht)) dX11_manOf_49 (pc2 := 52) rfl ?_
      refine g_il1 hc dX11_manOf_52 rfl (pc2 := 53) rfl ?_
      refine g_iald hc (kf_9_4 (kf_10_0 (kf_11_0 ht))) (kl_9_4 (kf_10_0 (kf_11_0 ht))) dX11_manOf_53 (pc2 := 54) rfl (fun v5 => ?_)
      exact g_iret hc dX11_manOf_54
    refine g_swc (pc2 := 0) hc dX11_manOf_19 (c := 1) (by decide) (by decide) rfl (pc1 := 55) rfl (fun _ => ?_) (fun c6 => ?_)
    · refine g_rl3 hc dX11_manOf_55 rfl (pc2 := 56) rfl ?_
      refine g_getR hc fl_X11_132 rfl (kf_10_0 (kf_11_0 ht)) dX11_manOf_56 (pc2 := 59) rfl ?_
      refine g_il1 hc dX11_manOf_59 rfl (pc2 := 60) rfl ?_
      refine g_iald hc (kf_9_5 (kf_10_0 (kf_11_0 ht))) (kl_9_5 (kf_10_0 (kf_11_0 ht))) dX11_manOf_60 (pc2 := 61) rfl (fun v7 => ?_)
      exact g_iret hc dX11_manOf_61
    refine g_swc (pc2 := 0) hc dX11_manOf_19 (c := 2) (by decide) (by decide) rfl (pc1 := 62) rfl (fun _ => ?_) (fun c8 => ?_)
    · refine g_rl3 hc dX11_manOf_62 rfl (pc2 := 63) rfl ?_
      refine g_getR hc fl_X11_135 rfl (kf_10_0 (kf_11_0 ht)) dX11_manOf_63 (pc2 := 66) rfl ?_
      refine g_il1 hc dX11_manOf_66 rfl (pc2 := 67) rfl ?_
      refine g_iald hc (kf_9_6 (kf_10_0 (kf_11_0 ht))) (kl_9_6 (kf_10_0 (kf_11_0 ht))) dX11_manOf_67 (pc2 := 68) rfl (fun v9 => ?_)
      exact g_iret hc dX11_manOf_68
    refine g_swc (pc2 := 0) hc dX11_manOf_19 (c := 3) (by decide) (by decide) rfl (pc1 := 69) rfl (fun _ => ?_) (fun c10 => ?_)
    · refine g_rl3 hc dX11_manOf_69 rfl (pc2 := 70) rfl ?_
      refine g_il1 hc dX11_manOf_70 rfl (pc2 := 71) rfl ?_
      refine g_callV1 hc (C_X9_behindOf (kf_10_0 (kf_11_0 ht))) mv_X9_behindOf ln_X11_266 (kf_10_0 (kf_11_0 ht)) ⟨by decide, by decide⟩ (Nat.le_of_ble_eq_true rfl) dX11_manOf_71 (pc2 := 74) rfl (fun r12 s11 => ?_)
      exact g_iret hc dX11_manOf_74
    refine g_swd (pc2 := 0) hc dX11_manOf_19 (fun i a b e => ?_) (pc1 := 75) rfl ?_
    · rcases (show i = 0 ∨ i = 1 ∨ i = 2 ∨ i = 3 by omega) with rfl | rfl | rfl | rfl
      · exact q_swx (c := 0) (by decide) c4 e
      · exact q_swx (c := 1) (by decide) c6 e
      · exact q_swx (c := 2) (by decide) c8 e
      · exact q_swx (c := 3) (by decide) c10 e
    · refine g_iconst hc dX11_manOf_75 ic_m1 (pc2 := 76) rfl ?_
      exact g_iret hc dX11_manOf_76
set_option maxRecDepth 100000 in
set_option maxHeartbeats 4000000 in
def f_X11_path (n : Nat) (t : Nat) (a0 : Int32) (a1 : Int32) (s0 : q_Sto) : Option (Int32 × q_Sto) :=
  q_call (f_X10_hoursBetween n (q_RF t 0) a0 a1 s0) fun r2 s1 =>
  some (r2, s1)
set_option maxRecDepth 100000 in
set_option maxHeartbeats 4000000 in
theorem C_X11_path {l : Launch} {w : q_Wd} {n : Nat} {t : Nat} {a0 : Int32} {a1 : Int32} (ht : q_KD t = .inl 11) {s0 : q_Sto} : q_C l w yX11_path cX11_path 3 (some .int) (q_rm 2 45) [q_rf w t, .int a0, .int a1] s0 (f_X11_path n t a0 a1 s0) := q_CofG [some (q_rf w t), some (.int a0), some (.int a1)] (by decide +kernel) rfl rfl (Nat.le_of_ble_eq_true rfl) fun cx hl hc => by
  have hc : q_ok w cx RX11 cX11_path 3 (some .int) (q_rm 2 45) := hc
  rw [f_X11_path]
  refine g_rl0 hc dX11_path_0 rfl (pc2 := 1) rfl ?_
  refine g_getR hc fl_X11_12 rfl ht dX11_path_1 (pc2 := 4) rfl ?_
  refine g_il1 hc dX11_path_4 rfl (pc2 := 5) rfl ?_
  refine g_il2 hc dX11_path_5 rfl (pc2 := 6) rfl ?_
  refine g_callV2 hc (C_X10_hoursBetween (kf_11_0 ht)) mv_X10_hoursBetween ln_X11_269 (kf_11_0 ht) ⟨by decide, by decide⟩ (Nat.le_of_ble_eq_true rfl) dX11_path_6 (pc2 := 9) rfl (fun r2 s1 => ?_)
  exact g_iret hc dX11_path_9
set_option maxRecDepth 100000 in
set_option maxHeartbeats 4000000 in
def f_X11_book (n : Nat) (t : Nat) (a0 : Int32) (a1 : Int32) (s0 : q_Sto) : Option (Int32 × q_Sto) :=
  if a0 < 0 then (
  some ((-2), s0))
  else (
  if a0 < (s0 (q_RF (q_RF t 0) 0) 17) then (
  q_call (f_X11_isWithin n a1 0 3 s0) fun r4 s3 =>
  if r4 = 0 then (
  some ((-2), s3))
  else (
  q_call (f_X10_read n (q_RF t 0) a0 a1 s3) fun r7 s6 =>
  some (r7, s6)))
  else (
  some ((-2), s0)))
set_option maxRecDepth 100000 in
set_option maxHeartbeats 4000000 in
theorem C_X11_book {l : Launch} {w : q_Wd} {n : Nat} {t : Nat} {a0 : Int32} {a1 : Int32} (ht : q_KD t = .inl 11) {s0 : q_Sto} : q_C l w yX11_book cX11_book 3 (some .int) (q_rm 1 22) [q_rf w t, .int a0, .int a1] s0 (f_X11_book n t a0 a1 s0) := q_CofG [some (q_rf w t), some (.int a0), some (.int a1)] (by decide +kernel) rfl rfl (Nat.le_of_ble_eq_true rfl) fun cx hl hc => by
  have hc : q_ok w cx RX11 cX11_book 3 (some .int) (q_rm 1 22) := hc
  rw [f_X11_book]
  refine g_il1 hc dX11_book_0 rfl (pc2 := 1) rfl ?_
  refine g_if_lt hc dX11_book_1 (pc1 := 27) (pc2 := 4) rfl rfl (fun _ => ?_) (fun _ => ?_)
  · refine g_bipush hc dX11_book_27 bp_m2 (pc2 := 29) rfl ?_
    exact g_iret hc dX11_book_29
  · refine g_il1 hc dX11_book_4 rfl (pc2 := 5) rfl ?_
    refine g_rl0 hc dX11_book_5 rfl (pc2 := 6) rfl ?_
    refine g_getR hc fl_X11_12 rfl ht dX11_book_6 (pc2 := 9) rfl ?_
    refine g_getR hc fl_X11_81 rfl (kf_11_0 ht) dX11_book_9 (pc2 := 12) rfl ?_
    refine g_getI hc fl_X11_272 rfl (kf_10_0 (kf_11_0 ht)) dX11_book_12 (pc2 := 15) rfl ?_
    refine g_icmp_ge hc dX11_book_15 (pc1 := 18) (pc2 := 27) rfl rfl (fun _ => ?_) (fun _ => ?_)
    · refine g_il2 hc dX11_book_18 rfl (pc2 := 19) rfl ?_
      refine g_iconst hc dX11_book_19 ic_0 (pc2 := 20) rfl ?_
      refine g_iconst hc dX11_book_20 ic_3 (pc2 := 21) rfl ?_
      refine g_callS3 hc C_X11_isWithin mv_X11_isWithin ln_X11_91 ⟨by decide, by decide⟩ (Nat.le_of_ble_eq_true rfl) dX11_book_21 (pc2 := 24) rfl (fun r4 s3 => ?_)
      refine g_if_ne hc dX11_book_24 (pc1 := 27) (pc2 := 30) rfl rfl (fun _ => ?_) (fun _ => ?_)
      · refine g_bipush hc dX11_book_27 bp_m2 (pc2 := 29) rfl ?_
        exact g_iret hc dX11_book_29
      · refine g_rl0 hc dX11_book_30 rfl (pc2 := 31) rfl ?_
        refine g_getR hc fl_X11_12 rfl ht dX11_book_31 (pc2 := 34) rfl ?_
        refine g_il1 hc dX11_book_34 rfl (pc2 := 35) rfl ?_
        refine g_il2 hc dX11_book_35 rfl (pc2 := 36) rfl ?_
        refine g_callV2 hc (C_X10_read (kf_11_0 ht)) mv_X10_read ln_X11_275 (kf_11_0 ht) ⟨by decide, by decide⟩ (Nat.le_of_ble_eq_true rfl) dX11_book_36 (pc2 := 39) rfl (fun r7 s6 => ?_)
        exact g_iret hc dX11_book_39
    · refine g_bipush hc dX11_book_27 bp_m2 (pc2 := 29) rfl ?_
      exact g_iret hc dX11_book_29
set_option maxRecDepth 100000 in
set_option maxHeartbeats 4000000 in
def f_X11_undo (n : Nat) (t : Nat) (s0 : q_Sto) : Option (Int32 × q_Sto) :=
  q_call (f_X1_giveBack n (q_RF t 3) (q_RF (q_RF t 0) 0) s0) fun r2 s1 =>
  q_rz r2 s1
set_option maxRecDepth 100000 in
set_option maxHeartbeats 4000000 in
theorem C_X11_undo {l : Launch} {w : q_Wd} {n : Nat} {t : Nat} (ht : q_KD t = .inl 11) {s0 : q_Sto} : q_C l w yX11_undo cX11_undo 1 (some .boolean) (q_rm 4 144) [q_rf w t] s0 (f_X11_undo n t s0) := q_CofG [some (q_rf w t)] (by decide +kernel) rfl rfl (Nat.le_of_ble_eq_true rfl) fun cx hl hc => by
  have hc : q_ok w cx RX11 cX11_undo 1 (some .boolean) (q_rm 4 144) := hc
  rw [f_X11_undo]
  refine g_rl0 hc dX11_undo_0 rfl (pc2 := 1) rfl ?_
  refine g_getR hc fl_X11_26 rfl ht dX11_undo_1 (pc2 := 4) rfl ?_
  refine g_rl0 hc dX11_undo_4 rfl (pc2 := 5) rfl ?_
  refine g_getR hc fl_X11_12 rfl ht dX11_undo_5 (pc2 := 8) rfl ?_
  refine g_getR hc fl_X11_81 rfl (kf_11_0 ht) dX11_undo_8 (pc2 := 11) rfl ?_
  refine g_callV1 hc (C_X1_giveBack (kf_11_3 ht) (kf_10_0 (kf_11_0 ht))) mv_X1_giveBack ln_X11_376 (kf_11_3 ht) ⟨by decide, by decide⟩ (Nat.le_of_ble_eq_true rfl) dX11_undo_11 (pc2 := 14) rfl (fun r2 s1 => ?_)
  exact g_zret hc dX11_undo_14
set_option maxRecDepth 100000 in
set_option maxHeartbeats 4000000 in
def f_X11_look (n : Nat) (t : Nat) (a0 : Int32) (s0 : q_Sto) : Option (Int32 × q_Sto) :=
  if a0 = 0 then (
  some ((s0 (q_RF (q_RF t 0) 0) 8), s0))
  else
  if a0 = 1 then (
  some ((s0 (q_RF (q_RF t 0) 0) 9), s0))
  else
  if a0 = 2 then (
  some ((s0 (q_RF (q_RF t 0) 0) 16), s0))
  else
  if a0 = 3 then (
  some ((s0 (q_RF (q_RF t 0) 0) 11), s0))
  else
  if a0 = 4 then (
  some ((s0 (q_RF (q_RF t 0) 0) 12), s0))
  else
  if a0 = 5 then (
  some ((s0 (q_RF (q_RF t 0) 0) 13), s0))
  else
  if a0 = 6 then (
  some ((s0 (q_RF (q_RF t 0) 0) 14), s0))
  else
  if a0 = 7 then (
  some ((s0 (q_RF (q_RF t 0) 0) 15), s0))
  else
  if a0 = 8 then (
  q_call (f_X9_lameOnes n (q_RF (q_RF t 0) 0) s0) fun r11 s10 =>
  some (r11, s10))
  else
  if a0 = 9 then (
  some ((s0 (q_RF (q_RF t 0) 0) 17), s0))
  else
  if a0 = 10 then (
  some ((s0 (q_RF (q_RF t 0) 0) 10), s0))
  else
  if a0 = 11 then (
  some ((s0 (q_RF (q_RF t 0) 1) 8), s0))
  else
  if a0 = 12 then (
  some ((s0 (q_RF (q_RF t 0) 2) 2), s0))
  else
  if a0 = 13 then (
  some ((s0 (q_RF (q_RF t 0) 3) 2), s0))
  else
  if a0 = 14 then (
  some ((s0 (q_RF (q_RF t 0) 4) 2), s0))
  else
  if a0 = 15 then (
  some ((s0 (q_RF (q_RF t 0) 5) 2), s0))
  else
  if a0 = 16 then (
  some ((s0 (q_RF (q_RF t 0) 6) 2), s0))
  else
  if a0 = 17 then (
  some ((s0 (q_RF t 3) 1), s0))
  else
  (some ((-1), s0))
set_option maxRecDepth 100000 in
set_option maxHeartbeats 4000000 in
theorem C_X11_look {l : Launch} {w : q_Wd} {n : Nat} {t : Nat} {a0 : Int32} (ht : q_KD t = .inl 11) {s0 : q_Sto} : q_C l w yX11_look cX11_look 3 (some .int) (q_rm 1 22) [q_rf w t, .int a0] s0 (f_X11_look n t a0 s0) := q_CofG [some (q_rf w t), some (.int a0), none] (by decide +kernel) rfl rfl (Nat.le_of_ble_eq_true rfl) fun cx hl hc => by
  have hc : q_ok w cx RX11 cX11_look 3 (some .int) (q_rm 1 22) := hc
  rw [f_X11_look]
  refine g_rl0 hc dX11_look_0 rfl (pc2 := 1) rfl ?_
  refine g_getR hc fl_X11_12 rfl ht dX11_look_1 (pc2 := 4) rfl ?_
  refine g_getR hc fl_X11_81 rfl (kf_11_0 ht) dX11_look_4 (pc2 := 7) rfl ?_
  refine g_rs2 hc dX11_look_7 (by decide) (L2 := [some (q_rf w t), some (.int a0), some (q_rf w (q_RF (q_RF t 0) 0))]) rfl (pc2 := 8) rfl ?_
  refine g_il1 hc dX11_look_8 rfl (pc2 := 9) rfl ?_
  refine g_swc (pc2 := 0) hc dX11_look_9 (c := 0) (by decide) (by decide) rfl (pc1 := 96) rfl (fun _ => ?_) (fun c1 => ?_)
  · refine g_rl2 hc dX11_look_96 rfl (pc2 := 97) rfl ?_
    refine g_getI hc fl_X11_356 rfl (kf_10_0 (kf_11_0 ht)) dX11_look_97 (pc2 := 100) rfl ?_
    exact g_iret hc dX11_look_100
  refine g_swc (pc2 := 0) hc dX11_look_9 (c := 1) (by decide) (by decide) rfl (pc1 := 101) rfl (fun _ => ?_) (fun c2 => ?_)
  · refine g_rl2 hc dX11_look_101 rfl (pc2 := 102) rfl ?_
    refine g_getI hc fl_X11_359 rfl (kf_10_0 (kf_11_0 ht)) dX11_look_102 (pc2 := 105) rfl ?_
    exact g_iret hc dX11_look_105
  refine g_swc (pc2 := 0) hc dX11_look_9 (c := 2) (by decide) (by decide) rfl (pc1 := 106) rfl (fun _ => ?_) (fun c3 => ?_)
  · refine g_rl2 hc dX11_look_106 rfl (pc2 := 107) rfl ?_
    refine g_getI hc fl_X11_171 rfl (kf_10_0 (kf_11_0 ht)) dX11_look_107 (pc2 := 110) rfl ?_
    exact g_iret hc dX11_look_110
  refine g_swc (pc2 := 0) hc dX11_look_9 (c := 3) (by decide) (by decide) rfl (pc1 := 111) rfl (fun _ => ?_) (fun c4 => ?_)
  · refine g_rl2 hc dX11_look_111 rfl (pc2 := 112) rfl ?_
    refine g_getI hc fl_X11_109 rfl (kf_10_0 (kf_11_0 ht)) dX11_look_112 (pc2 := 115) rfl ?_
    exact g_iret hc dX11_look_115
  refine g_swc (pc2 := 0) hc dX11_look_9 (c := 4) (by decide) (by decide) rfl (pc1 := 116) rfl (fun _ => ?_) (fun c5 => ?_)
  · refine g_rl2 hc dX11_look_116 rfl (pc2 := 117) rfl ?_
    refine g_getI hc fl_X11_116 rfl (kf_10_0 (kf_11_0 ht)) dX11_look_117 (pc2 := 120) rfl ?_
    exact g_iret hc dX11_look_120
  refine g_swc (pc2 := 0) hc dX11_look_9 (c := 5) (by decide) (by decide) rfl (pc1 := 121) rfl (fun _ => ?_) (fun c6 => ?_)
  · refine g_rl2 hc dX11_look_121 rfl (pc2 := 122) rfl ?_
    refine g_getI hc fl_X11_150 rfl (kf_10_0 (kf_11_0 ht)) dX11_look_122 (pc2 := 125) rfl ?_
    exact g_iret hc dX11_look_125
  refine g_swc (pc2 := 0) hc dX11_look_9 (c := 6) (by decide) (by decide) rfl (pc1 := 126) rfl (fun _ => ?_) (fun c7 => ?_)
  · refine g_rl2 hc dX11_look_126 rfl (pc2 := 127) rfl ?_
    refine g_getI hc fl_X11_293 rfl (kf_10_0 (kf_11_0 ht)) dX11_look_127 (pc2 := 130) rfl ?_
    exact g_iret hc dX11_look_130
  refine g_swc (pc2 := 0) hc dX11_look_9 (c := 7) (by decide) (by decide) rfl (pc1 := 131) rfl (fun _ => ?_) (fun c8 => ?_)
  · refine g_rl2 hc dX11_look_131 rfl (pc2 := 132) rfl ?_
    refine g_getI hc fl_X11_290 rfl (kf_10_0 (kf_11_0 ht)) dX11_look_132 (pc2 := 135) rfl ?_
    exact g_iret hc dX11_look_135
  refine g_swc (pc2 := 0) hc dX11_look_9 (c := 8) (by decide) (by decide) rfl (pc1 := 136) rfl (fun _ => ?_) (fun c9 => ?_)
  · refine g_rl2 hc dX11_look_136 rfl (pc2 := 137) rfl ?_
    refine g_callV0 hc (C_X9_lameOnes (kf_10_0 (kf_11_0 ht))) mv_X9_lameOnes ln_X11_305 (kf_10_0 (kf_11_0 ht)) ⟨by decide, by decide⟩ (Nat.le_of_ble_eq_true rfl) dX11_look_137 (pc2 := 140) rfl (fun r11 s10 => ?_)
    exact g_iret hc dX11_look_140
  refine g_swc (pc2 := 0) hc dX11_look_9 (c := 9) (by decide) (by decide) rfl (pc1 := 141) rfl (fun _ => ?_) (fun c12 => ?_)
  · refine g_rl2 hc dX11_look_141 rfl (pc2 := 142) rfl ?_
    refine g_getI hc fl_X11_272 rfl (kf_10_0 (kf_11_0 ht)) dX11_look_142 (pc2 := 145) rfl ?_
    exact g_iret hc dX11_look_145
  refine g_swc (pc2 := 0) hc dX11_look_9 (c := 10) (by decide) (by decide) rfl (pc1 := 146) rfl (fun _ => ?_) (fun c13 => ?_)
  · refine g_rl2 hc dX11_look_146 rfl (pc2 := 147) rfl ?_
    refine g_getI hc fl_X11_84 rfl (kf_10_0 (kf_11_0 ht)) dX11_look_147 (pc2 := 150) rfl ?_
    exact g_iret hc dX11_look_150
  refine g_swc (pc2 := 0) hc dX11_look_9 (c := 11) (by decide) (by decide) rfl (pc1 := 151) rfl (fun _ => ?_) (fun c14 => ?_)
  · refine g_rl0 hc dX11_look_151 rfl (pc2 := 152) rfl ?_
    refine g_getR hc fl_X11_12 rfl ht dX11_look_152 (pc2 := 155) rfl ?_
    refine g_getR hc fl_X11_192 rfl (kf_11_0 ht) dX11_look_155 (pc2 := 158) rfl ?_
    refine g_getI hc fl_X11_203 rfl (kf_10_1 (kf_11_0 ht)) dX11_look_158 (pc2 := 161) rfl ?_
    exact g_iret hc dX11_look_161
  refine g_swc (pc2 := 0) hc dX11_look_9 (c := 12) (by decide) (by decide) rfl (pc1 := 162) rfl (fun _ => ?_) (fun c15 => ?_)
  · refine g_rl0 hc dX11_look_162 rfl (pc2 := 163) rfl ?_
    refine g_getR hc fl_X11_12 rfl ht dX11_look_163 (pc2 := 166) rfl ?_
    refine g_getR hc fl_X11_212 rfl (kf_11_0 ht) dX11_look_166 (pc2 := 169) rfl ?_
    refine g_getI hc fl_X11_233 rfl (kf_10_2 (kf_11_0 ht)) dX11_look_169 (pc2 := 172) rfl ?_
    exact g_iret hc dX11_look_172
  refine g_swc (pc2 := 0) hc dX11_look_9 (c := 13) (by decide) (by decide) rfl (pc1 := 173) rfl (fun _ => ?_) (fun c16 => ?_)
  · refine g_rl0 hc dX11_look_173 rfl (pc2 := 174) rfl ?_
    refine g_getR hc fl_X11_12 rfl ht dX11_look_174 (pc2 := 177) rfl ?_
    refine g_getR hc fl_X11_216 rfl (kf_11_0 ht) dX11_look_177 (pc2 := 180) rfl ?_
    refine g_getI hc fl_X11_233 rfl (kf_10_3 (kf_11_0 ht)) dX11_look_180 (pc2 := 183) rfl ?_
    exact g_iret hc dX11_look_183
  refine g_swc (pc2 := 0) hc dX11_look_9 (c := 14) (by decide) (by decide) rfl (pc1 := 184) rfl (fun _ => ?_) (fun c17 => ?_)
  · refine g_rl0 hc dX11_look_184 rfl (pc2 := 185) rfl ?_
    refine g_getR hc fl_X11_12 rfl ht dX11_look_185 (pc2 := 188) rfl ?_
    refine g_getR hc fl_X11_219 rfl (kf_11_0 ht) dX11_look_188 (pc2 := 191) rfl ?_
    refine g_getI hc fl_X11_233 rfl (kf_10_4 (kf_11_0 ht)) dX11_look_191 (pc2 := 194) rfl ?_
    exact g_iret hc dX11_look_194
  refine g_swc (pc2 := 0) hc dX11_look_9 (c := 15) (by decide) (by decide) rfl (pc1 := 195) rfl (fun _ => ?_) (fun c18 => ?_)
  · refine g_rl0 hc dX11_look_195 rfl (pc2 := 196) rfl ?_
    refine g_getR hc fl_X11_12 rfl ht dX11_look_196 (pc2 := 199) rfl ?_
    refine g_getR hc fl_X11_222 rfl (kf_11_0 ht) dX11_look_199 (pc2 := 202) rfl ?_
    refine g_getI hc fl_X11_233 rfl (kf_10_5 (kf_11_0 ht)) dX11_look_202 (pc2 := 205) rfl ?_
    exact g_iret hc dX11_look_205
  refine g_swc (pc2 := 0) hc dX11_look_9 (c := 16) (by decide) (by decide) rfl (pc1 := 206) rfl (fun _ => ?_) (fun c19 => ?_)
  · refine g_rl0 hc dX11_look_206 rfl (pc2 := 207) rfl ?_
    refine g_getR hc fl_X11_12 rfl ht dX11_look_207 (pc2 := 210) rfl ?_
    refine g_getR hc fl_X11_334 rfl (kf_11_0 ht) dX11_look_210 (pc2 := 213) rfl ?_
    refine g_getI hc fl_X11_233 rfl (kf_10_6 (kf_11_0 ht)) dX11_look_213 (pc2 := 216) rfl ?_
    exact g_iret hc dX11_look_216
  refine g_swc (pc2 := 0) hc dX11_look_9 (c := 17) (by decide) (by decide) rfl (pc1 := 217) rfl (fun _ => ?_) (fun c20 => ?_)
  · refine g_rl0 hc dX11_look_217 rfl (pc2 := 218) rfl ?_
    refine g_getR hc fl_X11_26 rfl ht dX11_look_218 (pc2 := 221) rfl ?_
    refine g_getI hc fl_X11_382 rfl (kf_11_3 ht) dX11_look_221 (pc2 := 224) rfl ?_
    exact g_iret hc dX11_look_224
  refine g_swd (pc2 := 0) hc dX11_look_9 (fun i a b e => ?_) (pc1 := 225) rfl ?_
  · rcases (show i = 0 ∨ i = 1 ∨ i = 2 ∨ i = 3 ∨ i = 4 ∨ i = 5 ∨ i = 6 ∨ i = 7 ∨ i = 8 ∨ i = 9 ∨ i = 10 ∨ i = 11 ∨ i = 12 ∨ i = 13 ∨ i = 14 ∨ i = 15 ∨ i = 16 ∨ i = 17 by omega) with rfl | rfl | rfl | rfl | rfl | rfl | rfl | rfl | rfl | rfl | rfl | rfl | rfl | rfl | rfl | rfl | rfl | rfl
    · exact q_swx (c := 0) (by decide) c1 e
    · exact q_swx (c := 1) (by decide) c2 e
    · exact q_swx (c := 2) (by decide) c3 e
    · exact q_swx (c := 3) (by decide) c4 e
    · exact q_swx (c := 4) (by decide) c5 e
    · exact q_swx (c := 5) (by decide) c6 e
    · exact q_swx (c := 6) (by decide) c7 e
    · exact q_swx (c := 7) (by decide) c8 e
    · exact q_swx (c := 8) (by decide) c9 e
    · exact q_swx (c := 9) (by decide) c12 e
    · exact q_swx (c := 10) (by decide) c13 e
    · exact q_swx (c := 11) (by decide) c14 e
    · exact q_swx (c := 12) (by decide) c15 e
    · exact q_swx (c := 13) (by decide) c16 e
    · exact q_swx (c := 14) (by decide) c17 e
    · exact q_swx (c := 15) (by decide) c18 e
    · exact q_swx (c := 16) (by decide) c19 e
    · exact q_swx (c := 17) (by decide) c20 e
  · refine g_iconst hc dX11_look_225 ic_m1 (pc2 := 226) rfl ?_
    exact g_iret hc dX11_look_226
