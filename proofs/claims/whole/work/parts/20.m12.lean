set_option maxRecDepth 100000 in
set_option maxHeartbeats 4000000 in
def f_X12_laysMule_L2 (n : Nat) (x0 : Nat) (x1 : Int32) (k24 : q_Sto → Option (Int32 × q_Sto)) : Nat → Int32 → q_Sto → Option (Int32 × q_Sto)
  | 0, _, _ => none
  | j + 1, x2, s0 =>
    if x2 < (Int32.ofNat 11) then (
    q_st s0 (q_RF x0 11) x2 11 0 fun s2 =>
    f_X12_laysMule_L2 n x0 x1 k24 j (x2 + 1) s2)
    else (
    k24 s0)
set_option maxRecDepth 100000 in
set_option maxHeartbeats 4000000 in
def f_X12_laysMule (n : Nat) (t : Nat) (a0 : Int32) (s0 : q_Sto) : Option (Int32 × q_Sto) :=
  f_X12_laysMule_L2 n t a0 (fun  (s3 : q_Sto) =>
  q_st s3 (q_RF t 11) 1 11 a0 fun s4 =>
  q_ld s4 (q_RF t 0) (107 + a0) 1790 fun v5 =>
  q_st s4 (q_RF t 11) 2 11 v5 fun s6 =>
  q_ld s6 (q_RF t 0) (95 + a0) 1790 fun v7 =>
  q_st s6 (q_RF t 11) 3 11 v7 fun s8 =>
  q_ld s8 (q_RF t 0) 88 1790 fun v9 =>
  q_st s8 (q_RF t 11) 8 11 v9 fun s10 =>
  q_ld s10 (q_RF t 0) 0 1790 fun v11 =>
  q_st s10 (q_RF t 11) 10 11 v11 fun s12 =>
  some (0, s12)) n 0 s0
set_option maxRecDepth 100000 in
set_option maxHeartbeats 4000000 in
theorem t_X12_laysMule_L2 {w : q_Wd} {cx : q_Cx} (hc : q_ok w cx RX12 cX12_laysMule 3 (none) (q_rm 0 0)) {n : Nat} {x0 : Nat} {x1 : Int32} (hx0 : q_KD x0 = .inl 12) {k24 : q_Sto → Option (Int32 × q_Sto)} (hk24 : ∀  (s1 : q_Sto), q_G w cx 3 (none) 24 [some (q_rf w x0), some (.int x1), none] [] s1 (k24 s1)) :
    ∀ (j : Nat) (x2 : Int32) (s0 : q_Sto), q_G w cx 3 (none) 2 [some (q_rf w x0), some (.int x1), some (.int x2)] [] s0 (f_X12_laysMule_L2 n x0 x1 k24 j x2 s0) := by
  intro j
  induction j with
  | zero =>
    intro _ _
    rw [f_X12_laysMule_L2]
    exact q_none
  | succ j ih =>
    intro x2 s0
    rw [f_X12_laysMule_L2]
    refine g_il2 hc dX12_laysMule_2 rfl (pc2 := 3) rfl ?_
    refine g_rl0 hc dX12_laysMule_3 rfl (pc2 := 4) rfl ?_
    refine g_getR hc fl_X12_37 rfl hx0 dX12_laysMule_4 (pc2 := 7) rfl ?_
    refine g_alen hc (kf_12_11 hx0) (kl_12_11 hx0) dX12_laysMule_7 (pc2 := 8) rfl ?_
    refine g_icmp_ge hc dX12_laysMule_8 (pc1 := 11) (pc2 := 24) rfl rfl (fun _ => ?_) (fun _ => ?_)
    · refine g_rl0 hc dX12_laysMule_11 rfl (pc2 := 12) rfl ?_
      refine g_getR hc fl_X12_37 rfl hx0 dX12_laysMule_12 (pc2 := 15) rfl ?_
      refine g_il2 hc dX12_laysMule_15 rfl (pc2 := 16) rfl ?_
      refine g_iconst hc dX12_laysMule_16 ic_0 (pc2 := 17) rfl ?_
      refine g_iast hc (kf_12_11 hx0) (kl_12_11 hx0) dX12_laysMule_17 (pc2 := 18) rfl (fun s2 => ?_)
      refine g_iinc hc dX12_laysMule_18 rfl (q_ii ic_1) (by decide) (L2 := [some (q_rf w x0), some (.int x1), some (.int (x2 + 1))]) rfl (pc2 := 21) rfl ?_
      refine g_goto hc dX12_laysMule_21 (pc2 := 2) rfl ?_
      exact ih _ _
    · refine q_Gmask [true, true, false] (L2 := [some (q_rf w x0), some (.int x1), none]) rfl ?_
      exact hk24 _
set_option maxRecDepth 100000 in
set_option maxHeartbeats 4000000 in
theorem C_X12_laysMule {l : Launch} {w : q_Wd} {n : Nat} {t : Nat} {a0 : Int32} (ht : q_KD t = .inl 12) {s0 : q_Sto} : q_C l w yX12_laysMule cX12_laysMule 3 (none) (q_rm 0 0) [q_rf w t, .int a0] s0 (f_X12_laysMule n t a0 s0) := q_CofG [some (q_rf w t), some (.int a0), none] (by decide +kernel) rfl rfl (Nat.le_of_ble_eq_true rfl) fun cx hl hc => by
  have hc : q_ok w cx RX12 cX12_laysMule 3 (none) (q_rm 0 0) := hc
  rw [f_X12_laysMule]
  refine g_iconst hc dX12_laysMule_0 ic_0 (pc2 := 1) rfl ?_
  refine g_is2 hc dX12_laysMule_1 (by decide) (L2 := [some (q_rf w t), some (.int a0), some (.int 0)]) rfl (pc2 := 2) rfl ?_
  refine t_X12_laysMule_L2 hc ht (fun s3 => ?_) n _ _
  refine g_rl0 hc dX12_laysMule_24 rfl (pc2 := 25) rfl ?_
  refine g_getR hc fl_X12_37 rfl ht dX12_laysMule_25 (pc2 := 28) rfl ?_
  refine g_iconst hc dX12_laysMule_28 ic_1 (pc2 := 29) rfl ?_
  refine g_il1 hc dX12_laysMule_29 rfl (pc2 := 30) rfl ?_
  refine g_iast hc (kf_12_11 ht) (kl_12_11 ht) dX12_laysMule_30 (pc2 := 31) rfl (fun s4 => ?_)
  refine g_rl0 hc dX12_laysMule_31 rfl (pc2 := 32) rfl ?_
  refine g_getR hc fl_X12_37 rfl ht dX12_laysMule_32 (pc2 := 35) rfl ?_
  refine g_iconst hc dX12_laysMule_35 ic_2 (pc2 := 36) rfl ?_
  refine g_rl0 hc dX12_laysMule_36 rfl (pc2 := 37) rfl ?_
  refine g_getR hc fl_X12_7 rfl ht dX12_laysMule_37 (pc2 := 40) rfl ?_
  refine g_bipush hc dX12_laysMule_40 bp_107 (pc2 := 42) rfl ?_
  refine g_il1 hc dX12_laysMule_42 rfl (pc2 := 43) rfl ?_
  refine g_iadd hc dX12_laysMule_43 (pc2 := 44) rfl ?_
  refine g_iald hc (kf_12_0 ht) (kl_12_0 ht) dX12_laysMule_44 (pc2 := 45) rfl (fun v5 => ?_)
  refine g_iast hc (kf_12_11 ht) (kl_12_11 ht) dX12_laysMule_45 (pc2 := 46) rfl (fun s6 => ?_)
  refine g_rl0 hc dX12_laysMule_46 rfl (pc2 := 47) rfl ?_
  refine g_getR hc fl_X12_37 rfl ht dX12_laysMule_47 (pc2 := 50) rfl ?_
  refine g_iconst hc dX12_laysMule_50 ic_3 (pc2 := 51) rfl ?_
  refine g_rl0 hc dX12_laysMule_51 rfl (pc2 := 52) rfl ?_
  refine g_getR hc fl_X12_7 rfl ht dX12_laysMule_52 (pc2 := 55) rfl ?_
  refine g_bipush hc dX12_laysMule_55 bp_95 (pc2 := 57) rfl ?_
  refine g_il1 hc dX12_laysMule_57 rfl (pc2 := 58) rfl ?_
  refine g_iadd hc dX12_laysMule_58 (pc2 := 59) rfl ?_
  refine g_iald hc (kf_12_0 ht) (kl_12_0 ht) dX12_laysMule_59 (pc2 := 60) rfl (fun v7 => ?_)
  refine g_iast hc (kf_12_11 ht) (kl_12_11 ht) dX12_laysMule_60 (pc2 := 61) rfl (fun s8 => ?_)
  refine g_rl0 hc dX12_laysMule_61 rfl (pc2 := 62) rfl ?_
  refine g_getR hc fl_X12_37 rfl ht dX12_laysMule_62 (pc2 := 65) rfl ?_
  refine g_bipush hc dX12_laysMule_65 bp_8 (pc2 := 67) rfl ?_
  refine g_rl0 hc dX12_laysMule_67 rfl (pc2 := 68) rfl ?_
  refine g_getR hc fl_X12_7 rfl ht dX12_laysMule_68 (pc2 := 71) rfl ?_
  refine g_bipush hc dX12_laysMule_71 bp_88 (pc2 := 73) rfl ?_
  refine g_iald hc (kf_12_0 ht) (kl_12_0 ht) dX12_laysMule_73 (pc2 := 74) rfl (fun v9 => ?_)
  refine g_iast hc (kf_12_11 ht) (kl_12_11 ht) dX12_laysMule_74 (pc2 := 75) rfl (fun s10 => ?_)
  refine g_rl0 hc dX12_laysMule_75 rfl (pc2 := 76) rfl ?_
  refine g_getR hc fl_X12_37 rfl ht dX12_laysMule_76 (pc2 := 79) rfl ?_
  refine g_bipush hc dX12_laysMule_79 bp_10 (pc2 := 81) rfl ?_
  refine g_rl0 hc dX12_laysMule_81 rfl (pc2 := 82) rfl ?_
  refine g_getR hc fl_X12_7 rfl ht dX12_laysMule_82 (pc2 := 85) rfl ?_
  refine g_iconst hc dX12_laysMule_85 ic_0 (pc2 := 86) rfl ?_
  refine g_iald hc (kf_12_0 ht) (kl_12_0 ht) dX12_laysMule_86 (pc2 := 87) rfl (fun v11 => ?_)
  refine g_iast hc (kf_12_11 ht) (kl_12_11 ht) dX12_laysMule_87 (pc2 := 88) rfl (fun s12 => ?_)
  exact g_vret hc dX12_laysMule_88
set_option maxRecDepth 100000 in
set_option maxHeartbeats 4000000 in
def f_X12_leanOf (n : Nat) (t : Nat) (a0 : Int32) (a1 : Int32) (s0 : q_Sto) : Option (Int32 × q_Sto) :=
  q_callv (f_X12_laysMule n t a0 s0) fun s1 =>
  q_call (f_X12_likingOf n t a0 a1 s1) fun r4 s3 =>
  q_st s3 (q_RF t 11) 4 11 r4 fun s5 =>
  q_ld s5 (q_RF t 0) (129 + a0) 1790 fun v6 =>
  q_call (f_X12_behind n t a1 s5) fun r8 s7 =>
  q_call (f_X12_count n (v6 &&& r8) s7) fun r10 s9 =>
  q_st s9 (q_RF t 11) 5 11 r10 fun s11 =>
  q_ld s11 (q_RF t 0) (119 + a1) 1790 fun v12 =>
  q_st s11 (q_RF t 11) 6 11 v12 fun s13 =>
  q_ld s13 (q_RF t 0) (124 + a1) 1790 fun v14 =>
  q_st s13 (q_RF t 11) 7 11 v14 fun s15 =>
  q_ld s15 (q_RF t 11) 4 11 fun v16 =>
  q_ld s15 (q_RF t 11) 5 11 fun v17 =>
  q_call (f_X12_says n t 20 (v16 + (10 * v17)) 999 s15) fun r19 s18 =>
  some (r19, s18)
set_option maxRecDepth 100000 in
set_option maxHeartbeats 4000000 in
theorem C_X12_leanOf {l : Launch} {w : q_Wd} {n : Nat} {t : Nat} {a0 : Int32} {a1 : Int32} (ht : q_KD t = .inl 12) {s0 : q_Sto} : q_C l w yX12_leanOf cX12_leanOf 3 (some .int) (q_rm 4 94) [q_rf w t, .int a0, .int a1] s0 (f_X12_leanOf n t a0 a1 s0) := q_CofG [some (q_rf w t), some (.int a0), some (.int a1)] (by decide +kernel) rfl rfl (Nat.le_of_ble_eq_true rfl) fun cx hl hc => by
  have hc : q_ok w cx RX12 cX12_leanOf 3 (some .int) (q_rm 4 94) := hc
  rw [f_X12_leanOf]
  refine g_rl0 hc dX12_leanOf_0 rfl (pc2 := 1) rfl ?_
  refine g_il1 hc dX12_leanOf_1 rfl (pc2 := 2) rfl ?_
  refine g_callV1v hc (C_X12_laysMule ht) mv_X12_laysMule ln_X12_310 ht ⟨by decide, by decide⟩ (Nat.le_of_ble_eq_true rfl) dX12_leanOf_2 (pc2 := 5) rfl (fun s1 => ?_)
  refine g_rl0 hc dX12_leanOf_5 rfl (pc2 := 6) rfl ?_
  refine g_getR hc fl_X12_37 rfl ht dX12_leanOf_6 (pc2 := 9) rfl ?_
  refine g_iconst hc dX12_leanOf_9 ic_4 (pc2 := 10) rfl ?_
  refine g_rl0 hc dX12_leanOf_10 rfl (pc2 := 11) rfl ?_
  refine g_il1 hc dX12_leanOf_11 rfl (pc2 := 12) rfl ?_
  refine g_il2 hc dX12_leanOf_12 rfl (pc2 := 13) rfl ?_
  refine g_callV2 hc (C_X12_likingOf ht) mv_X12_likingOf ln_X12_314 ht ⟨by decide, by decide⟩ (Nat.le_of_ble_eq_true rfl) dX12_leanOf_13 (pc2 := 16) rfl (fun r4 s3 => ?_)
  refine g_iast hc (kf_12_11 ht) (kl_12_11 ht) dX12_leanOf_16 (pc2 := 17) rfl (fun s5 => ?_)
  refine g_rl0 hc dX12_leanOf_17 rfl (pc2 := 18) rfl ?_
  refine g_getR hc fl_X12_37 rfl ht dX12_leanOf_18 (pc2 := 21) rfl ?_
  refine g_iconst hc dX12_leanOf_21 ic_5 (pc2 := 22) rfl ?_
  refine g_rl0 hc dX12_leanOf_22 rfl (pc2 := 23) rfl ?_
  refine g_getR hc fl_X12_7 rfl ht dX12_leanOf_23 (pc2 := 26) rfl ?_
  refine g_sipush hc dX12_leanOf_26 sp_129 (pc2 := 29) rfl ?_
  refine g_il1 hc dX12_leanOf_29 rfl (pc2 := 30) rfl ?_
  refine g_iadd hc dX12_leanOf_30 (pc2 := 31) rfl ?_
  refine g_iald hc (kf_12_0 ht) (kl_12_0 ht) dX12_leanOf_31 (pc2 := 32) rfl (fun v6 => ?_)
  refine g_rl0 hc dX12_leanOf_32 rfl (pc2 := 33) rfl ?_
  refine g_il2 hc dX12_leanOf_33 rfl (pc2 := 34) rfl ?_
  refine g_callV1 hc (C_X12_behind ht) mv_X12_behind ln_X12_317 ht ⟨by decide, by decide⟩ (Nat.le_of_ble_eq_true rfl) dX12_leanOf_34 (pc2 := 37) rfl (fun r8 s7 => ?_)
  refine g_iand hc dX12_leanOf_37 (pc2 := 38) rfl ?_
  refine g_callS1 hc C_X12_count mv_X12_count ln_X12_320 ⟨by decide, by decide⟩ (Nat.le_of_ble_eq_true rfl) dX12_leanOf_38 (pc2 := 41) rfl (fun r10 s9 => ?_)
  refine g_iast hc (kf_12_11 ht) (kl_12_11 ht) dX12_leanOf_41 (pc2 := 42) rfl (fun s11 => ?_)
  refine g_rl0 hc dX12_leanOf_42 rfl (pc2 := 43) rfl ?_
  refine g_getR hc fl_X12_37 rfl ht dX12_leanOf_43 (pc2 := 46) rfl ?_
  refine g_bipush hc dX12_leanOf_46 bp_6 (pc2 := 48) rfl ?_
  refine g_rl0 hc dX12_leanOf_48 rfl (pc2 := 49) rfl ?_
  refine g_getR hc fl_X12_7 rfl ht dX12_leanOf_49 (pc2 := 52) rfl ?_
  refine g_bipush hc dX12_leanOf_52 bp_119 (pc2 := 54) rfl ?_
  refine g_il2 hc dX12_leanOf_54 rfl (pc2 := 55) rfl ?_
  refine g_iadd hc dX12_leanOf_55 (pc2 := 56) rfl ?_
  refine g_iald hc (kf_12_0 ht) (kl_12_0 ht) dX12_leanOf_56 (pc2 := 57) rfl (fun v12 => ?_)
  refine g_iast hc (kf_12_11 ht) (kl_12_11 ht) dX12_leanOf_57 (pc2 := 58) rfl (fun s13 => ?_)
  refine g_rl0 hc dX12_leanOf_58 rfl (pc2 := 59) rfl ?_
  refine g_getR hc fl_X12_37 rfl ht dX12_leanOf_59 (pc2 := 62) rfl ?_
  refine g_bipush hc dX12_leanOf_62 bp_7 (pc2 := 64) rfl ?_
  refine g_rl0 hc dX12_leanOf_64 rfl (pc2 := 65) rfl ?_
  refine g_getR hc fl_X12_7 rfl ht dX12_leanOf_65 (pc2 := 68) rfl ?_
  refine g_bipush hc dX12_leanOf_68 bp_124 (pc2 := 70) rfl ?_
  refine g_il2 hc dX12_leanOf_70 rfl (pc2 := 71) rfl ?_
  refine g_iadd hc dX12_leanOf_71 (pc2 := 72) rfl ?_
  refine g_iald hc (kf_12_0 ht) (kl_12_0 ht) dX12_leanOf_72 (pc2 := 73) rfl (fun v14 => ?_)
  refine g_iast hc (kf_12_11 ht) (kl_12_11 ht) dX12_leanOf_73 (pc2 := 74) rfl (fun s15 => ?_)
  refine g_rl0 hc dX12_leanOf_74 rfl (pc2 := 75) rfl ?_
  refine g_bipush hc dX12_leanOf_75 bp_20 (pc2 := 77) rfl ?_
  refine g_rl0 hc dX12_leanOf_77 rfl (pc2 := 78) rfl ?_
  refine g_getR hc fl_X12_37 rfl ht dX12_leanOf_78 (pc2 := 81) rfl ?_
  refine g_iconst hc dX12_leanOf_81 ic_4 (pc2 := 82) rfl ?_
  refine g_iald hc (kf_12_11 ht) (kl_12_11 ht) dX12_leanOf_82 (pc2 := 83) rfl (fun v16 => ?_)
  refine g_bipush hc dX12_leanOf_83 bp_10 (pc2 := 85) rfl ?_
  refine g_rl0 hc dX12_leanOf_85 rfl (pc2 := 86) rfl ?_
  refine g_getR hc fl_X12_37 rfl ht dX12_leanOf_86 (pc2 := 89) rfl ?_
  refine g_iconst hc dX12_leanOf_89 ic_5 (pc2 := 90) rfl ?_
  refine g_iald hc (kf_12_11 ht) (kl_12_11 ht) dX12_leanOf_90 (pc2 := 91) rfl (fun v17 => ?_)
  refine g_imul hc dX12_leanOf_91 (pc2 := 92) rfl ?_
  refine g_iadd hc dX12_leanOf_92 (pc2 := 93) rfl ?_
  refine g_sipush hc dX12_leanOf_93 sp_999 (pc2 := 96) rfl ?_
  refine g_callV3 hc (C_X12_says ht) mv_X12_says ln_X12_323 ht ⟨by decide, by decide⟩ (Nat.le_of_ble_eq_true rfl) dX12_leanOf_96 (pc2 := 99) rfl (fun r19 s18 => ?_)
  exact g_iret hc dX12_leanOf_99
set_option maxRecDepth 100000 in
set_option maxHeartbeats 4000000 in
def f_X12_needOf (n : Nat) (t : Nat) (a0 : Int32) (s0 : q_Sto) : Option (Int32 × q_Sto) :=
  q_callv (f_X12_laysMule n t a0 s0) fun s1 =>
  q_call (f_X12_says n t 21 40 999 s1) fun r4 s3 =>
  some (r4, s3)
set_option maxRecDepth 100000 in
set_option maxHeartbeats 4000000 in
theorem C_X12_needOf {l : Launch} {w : q_Wd} {n : Nat} {t : Nat} {a0 : Int32} (ht : q_KD t = .inl 12) {s0 : q_Sto} : q_C l w yX12_needOf cX12_needOf 2 (some .int) (q_rm 4 94) [q_rf w t, .int a0] s0 (f_X12_needOf n t a0 s0) := q_CofG [some (q_rf w t), some (.int a0)] (by decide +kernel) rfl rfl (Nat.le_of_ble_eq_true rfl) fun cx hl hc => by
  have hc : q_ok w cx RX12 cX12_needOf 2 (some .int) (q_rm 4 94) := hc
  rw [f_X12_needOf]
  refine g_rl0 hc dX12_needOf_0 rfl (pc2 := 1) rfl ?_
  refine g_il1 hc dX12_needOf_1 rfl (pc2 := 2) rfl ?_
  refine g_callV1v hc (C_X12_laysMule ht) mv_X12_laysMule ln_X12_310 ht ⟨by decide, by decide⟩ (Nat.le_of_ble_eq_true rfl) dX12_needOf_2 (pc2 := 5) rfl (fun s1 => ?_)
  refine g_rl0 hc dX12_needOf_5 rfl (pc2 := 6) rfl ?_
  refine g_bipush hc dX12_needOf_6 bp_21 (pc2 := 8) rfl ?_
  refine g_bipush hc dX12_needOf_8 bp_40 (pc2 := 10) rfl ?_
  refine g_sipush hc dX12_needOf_10 sp_999 (pc2 := 13) rfl ?_
  refine g_callV3 hc (C_X12_says ht) mv_X12_says ln_X12_323 ht ⟨by decide, by decide⟩ (Nat.le_of_ble_eq_true rfl) dX12_needOf_13 (pc2 := 16) rfl (fun r4 s3 => ?_)
  exact g_iret hc dX12_needOf_16
set_option maxRecDepth 100000 in
set_option maxHeartbeats 4000000 in
def f_X12_riskOf (n : Nat) (t : Nat) (a0 : Int32) (a1 : Int32) (a2 : Int32) (s0 : q_Sto) : Option (Int32 × q_Sto) :=
  q_callv (f_X12_laysMule n t a0 s0) fun s1 =>
  q_st s1 (q_RF t 11) 9 11 a1 fun s3 =>
  q_jn (fun (y4 : Int32) (s5 : q_Sto) =>
    q_st s5 (q_RF t 11) 6 11 y4 fun s6 =>
    q_jn (fun (y7 : Int32) (s8 : q_Sto) =>
      q_st s8 (q_RF t 11) 7 11 y7 fun s9 =>
      q_ld s9 (q_RF t 0) 88 1790 fun v10 =>
      q_call (f_X12_says n t 22 (20 * v10) 1000 s9) fun r12 s11 =>
      some (r12, s11)) fun j62 =>
    if a2 = (-1) then (
    j62 0 s6)
    else (
    q_ld s6 (q_RF t 0) (124 + a2) 1790 fun v14 =>
    j62 v14 s6)) fun j37 =>
  if a2 = (-1) then (
  j37 0 s3)
  else (
  q_ld s3 (q_RF t 0) (119 + a2) 1790 fun v16 =>
  j37 v16 s3)
set_option maxRecDepth 100000 in
set_option maxHeartbeats 4000000 in
theorem C_X12_riskOf {l : Launch} {w : q_Wd} {n : Nat} {t : Nat} {a0 : Int32} {a1 : Int32} {a2 : Int32} (ht : q_KD t = .inl 12) {s0 : q_Sto} : q_C l w yX12_riskOf cX12_riskOf 4 (some .int) (q_rm 4 94) [q_rf w t, .int a0, .int a1, .int a2] s0 (f_X12_riskOf n t a0 a1 a2 s0) := q_CofG [some (q_rf w t), some (.int a0), some (.int a1), some (.int a2)] (by decide +kernel) rfl rfl (Nat.le_of_ble_eq_true rfl) fun cx hl hc => by
  have hc : q_ok w cx RX12 cX12_riskOf 4 (some .int) (q_rm 4 94) := hc
  rw [f_X12_riskOf]
  refine g_rl0 hc dX12_riskOf_0 rfl (pc2 := 1) rfl ?_
  refine g_il1 hc dX12_riskOf_1 rfl (pc2 := 2) rfl ?_
  refine g_callV1v hc (C_X12_laysMule ht) mv_X12_laysMule ln_X12_310 ht ⟨by decide, by decide⟩ (Nat.le_of_ble_eq_true rfl) dX12_riskOf_2 (pc2 := 5) rfl (fun s1 => ?_)
  refine g_rl0 hc dX12_riskOf_5 rfl (pc2 := 6) rfl ?_
  refine g_getR hc fl_X12_37 rfl ht dX12_riskOf_6 (pc2 := 9) rfl ?_
  refine g_bipush hc dX12_riskOf_9 bp_9 (pc2 := 11) rfl ?_
  refine g_il2 hc dX12_riskOf_11 rfl (pc2 := 12) rfl ?_
  refine g_iast hc (kf_12_11 ht) (kl_12_11 ht) dX12_riskOf_12 (pc2 := 13) rfl (fun s3 => ?_)
  refine g_rl0 hc dX12_riskOf_13 rfl (pc2 := 14) rfl ?_
  refine g_getR hc fl_X12_37 rfl ht dX12_riskOf_14 (pc2 := 17) rfl ?_
  refine g_bipush hc dX12_riskOf_17 bp_6 (pc2 := 19) rfl ?_
  refine g_il3 hc dX12_riskOf_19 rfl (pc2 := 20) rfl ?_
  refine g_iconst hc dX12_riskOf_20 ic_m1 (pc2 := 21) rfl ?_
  refine g_jn (P := fun j37 => ∀ (y4 : Int32) (s5 : q_Sto), q_G w cx 4 (some .int) 37 [some (q_rf w t), none, none, some (.int a2)] [.int y4, .int 6, q_rf w (q_RF t 11)] s5 (j37 y4 s5)) (fun y4 s5 => ?_) (fun j37 hj37 => ?_)
  · refine g_iast hc (kf_12_11 ht) (kl_12_11 ht) dX12_riskOf_37 (pc2 := 38) rfl (fun s6 => ?_)
    refine g_rl0 hc dX12_riskOf_38 rfl (pc2 := 39) rfl ?_
    refine g_getR hc fl_X12_37 rfl ht dX12_riskOf_39 (pc2 := 42) rfl ?_
    refine g_bipush hc dX12_riskOf_42 bp_7 (pc2 := 44) rfl ?_
    refine g_il3 hc dX12_riskOf_44 rfl (pc2 := 45) rfl ?_
    refine g_iconst hc dX12_riskOf_45 ic_m1 (pc2 := 46) rfl ?_
    refine g_jn (P := fun j62 => ∀ (y7 : Int32) (s8 : q_Sto), q_G w cx 4 (some .int) 62 [some (q_rf w t), none, none, none] [.int y7, .int 7, q_rf w (q_RF t 11)] s8 (j62 y7 s8)) (fun y7 s8 => ?_) (fun j62 hj62 => ?_)
    · refine g_iast hc (kf_12_11 ht) (kl_12_11 ht) dX12_riskOf_62 (pc2 := 63) rfl (fun s9 => ?_)
      refine g_rl0 hc dX12_riskOf_63 rfl (pc2 := 64) rfl ?_
      refine g_bipush hc dX12_riskOf_64 bp_22 (pc2 := 66) rfl ?_
      refine g_bipush hc dX12_riskOf_66 bp_20 (pc2 := 68) rfl ?_
      refine g_rl0 hc dX12_riskOf_68 rfl (pc2 := 69) rfl ?_
      refine g_getR hc fl_X12_7 rfl ht dX12_riskOf_69 (pc2 := 72) rfl ?_
      refine g_bipush hc dX12_riskOf_72 bp_88 (pc2 := 74) rfl ?_
      refine g_iald hc (kf_12_0 ht) (kl_12_0 ht) dX12_riskOf_74 (pc2 := 75) rfl (fun v10 => ?_)
      refine g_imul hc dX12_riskOf_75 (pc2 := 76) rfl ?_
      refine g_sipush hc dX12_riskOf_76 sp_1000 (pc2 := 79) rfl ?_
      refine g_callV3 hc (C_X12_says ht) mv_X12_says ln_X12_323 ht ⟨by decide, by decide⟩ (Nat.le_of_ble_eq_true rfl) dX12_riskOf_79 (pc2 := 82) rfl (fun r12 s11 => ?_)
      exact g_iret hc dX12_riskOf_82
    · refine g_icmp_ne hc dX12_riskOf_46 (pc1 := 49) (pc2 := 53) rfl rfl (fun _ => ?_) (fun _ => ?_)
      · refine g_iconst hc dX12_riskOf_49 ic_0 (pc2 := 50) rfl ?_
        refine g_goto hc dX12_riskOf_50 (pc2 := 62) rfl ?_
        refine q_Gmask [true, true, true, false] (L2 := [some (q_rf w t), none, none, none]) rfl ?_
        exact hj62 _ _
      · refine g_rl0 hc dX12_riskOf_53 rfl (pc2 := 54) rfl ?_
        refine g_getR hc fl_X12_7 rfl ht dX12_riskOf_54 (pc2 := 57) rfl ?_
        refine g_bipush hc dX12_riskOf_57 bp_124 (pc2 := 59) rfl ?_
        refine g_il3 hc dX12_riskOf_59 rfl (pc2 := 60) rfl ?_
        refine g_iadd hc dX12_riskOf_60 (pc2 := 61) rfl ?_
        refine g_iald hc (kf_12_0 ht) (kl_12_0 ht) dX12_riskOf_61 (pc2 := 62) rfl (fun v14 => ?_)
        refine q_Gmask [true, true, true, false] (L2 := [some (q_rf w t), none, none, none]) rfl ?_
        exact hj62 _ _
  · refine g_icmp_ne hc dX12_riskOf_21 (pc1 := 24) (pc2 := 28) rfl rfl (fun _ => ?_) (fun _ => ?_)
    · refine g_iconst hc dX12_riskOf_24 ic_0 (pc2 := 25) rfl ?_
      refine g_goto hc dX12_riskOf_25 (pc2 := 37) rfl ?_
      refine q_Gmask [true, false, false, true] (L2 := [some (q_rf w t), none, none, some (.int a2)]) rfl ?_
      exact hj37 _ _
    · refine g_rl0 hc dX12_riskOf_28 rfl (pc2 := 29) rfl ?_
      refine g_getR hc fl_X12_7 rfl ht dX12_riskOf_29 (pc2 := 32) rfl ?_
      refine g_bipush hc dX12_riskOf_32 bp_119 (pc2 := 34) rfl ?_
      refine g_il3 hc dX12_riskOf_34 rfl (pc2 := 35) rfl ?_
      refine g_iadd hc dX12_riskOf_35 (pc2 := 36) rfl ?_
      refine g_iald hc (kf_12_0 ht) (kl_12_0 ht) dX12_riskOf_36 (pc2 := 37) rfl (fun v16 => ?_)
      refine q_Gmask [true, false, false, true] (L2 := [some (q_rf w t), none, none, some (.int a2)]) rfl ?_
      exact hj37 _ _
set_option maxRecDepth 100000 in
set_option maxHeartbeats 4000000 in
def f_X12_keeps_L11 (n : Nat) (x0 : Nat) (k39 : q_Sto → Option (Int32 × q_Sto)) : Nat → Int32 → q_Sto → Option (Int32 × q_Sto)
  | 0, _, _ => none
  | j + 1, x1, s0 =>
    if x1 < 430 then (
    q_ld s0 (q_RF x0 2) (x1 + 86) 516 fun v3 =>
    q_st s0 (q_RF x0 2) x1 516 v3 fun s4 =>
    f_X12_keeps_L11 n x0 k39 j (x1 + 1) s4)
    else (
    k39 s0)
set_option maxRecDepth 100000 in
set_option maxHeartbeats 4000000 in
def f_X12_keeps_L51 (n : Nat) (x0 : Nat) (k83 : q_Sto → Option (Int32 × q_Sto)) : Nat → Int32 → q_Sto → Option (Int32 × q_Sto)
  | 0, _, _ => none
  | j + 1, x1, s0 =>
    if x1 < 86 then (
    q_ld s0 (q_RF x0 0) x1 1790 fun v8 =>
    q_st s0 (q_RF x0 2) ((86 * (s0 x0 4)) + x1) 516 v8 fun s9 =>
    f_X12_keeps_L51 n x0 k83 j (x1 + 1) s9)
    else (
    k83 s0)
set_option maxRecDepth 100000 in
set_option maxHeartbeats 4000000 in
def f_X12_keeps (n : Nat) (t : Nat) (s0 : q_Sto) : Option (Int32 × q_Sto) :=
  if (s0 t 4) = 6 then (
  f_X12_keeps_L11 n t (fun  (s5 : q_Sto) =>
  q_nS1 (q_up s5 t 4 ((s5 t 4) - 1)) fun s6 =>
  f_X12_keeps_L51 n t (fun  (s10 : q_Sto) =>
  q_nS1 (q_up s10 t 4 ((s10 t 4) + 1)) fun s11 =>
  q_nS1 (q_up s11 t 26 1) fun s12 =>
  some (0, s12)) n 0 s6) n 0 s0)
  else (
  f_X12_keeps_L51 n t (fun  (s16 : q_Sto) =>
  q_nS1 (q_up s16 t 4 ((s16 t 4) + 1)) fun s17 =>
  q_nS1 (q_up s17 t 26 1) fun s18 =>
  some (0, s18)) n 0 s0)
set_option maxRecDepth 100000 in
set_option maxHeartbeats 4000000 in
theorem t_X12_keeps_L11 {w : q_Wd} {cx : q_Cx} (hc : q_ok w cx RX12 cX12_keeps 2 (none) (q_rm 0 0)) {n : Nat} {x0 : Nat} (hx0 : q_KD x0 = .inl 12) {k39 : q_Sto → Option (Int32 × q_Sto)} (hk39 : ∀  (s1 : q_Sto), q_G w cx 2 (none) 39 [some (q_rf w x0), none] [] s1 (k39 s1)) :
    ∀ (j : Nat) (x1 : Int32) (s0 : q_Sto), q_G w cx 2 (none) 11 [some (q_rf w x0), some (.int x1)] [] s0 (f_X12_keeps_L11 n x0 k39 j x1 s0) := by
  intro j
  induction j with
  | zero =>
    intro _ _
    rw [f_X12_keeps_L11]
    exact q_none
  | succ j ih =>
    intro x1 s0
    rw [f_X12_keeps_L11]
    refine g_il1 hc dX12_keeps_11 rfl (pc2 := 12) rfl ?_
    refine g_sipush hc dX12_keeps_12 sp_430 (pc2 := 15) rfl ?_
    refine g_icmp_ge hc dX12_keeps_15 (pc1 := 18) (pc2 := 39) rfl rfl (fun _ => ?_) (fun _ => ?_)
    · refine g_rl0 hc dX12_keeps_18 rfl (pc2 := 19) rfl ?_
      refine g_getR hc fl_X12_16 rfl hx0 dX12_keeps_19 (pc2 := 22) rfl ?_
      refine g_il1 hc dX12_keeps_22 rfl (pc2 := 23) rfl ?_
      refine g_rl0 hc dX12_keeps_23 rfl (pc2 := 24) rfl ?_
      refine g_getR hc fl_X12_16 rfl hx0 dX12_keeps_24 (pc2 := 27) rfl ?_
      refine g_il1 hc dX12_keeps_27 rfl (pc2 := 28) rfl ?_
      refine g_bipush hc dX12_keeps_28 bp_86 (pc2 := 30) rfl ?_
      refine g_iadd hc dX12_keeps_30 (pc2 := 31) rfl ?_
      refine g_iald hc (kf_12_2 hx0) (kl_12_2 hx0) dX12_keeps_31 (pc2 := 32) rfl (fun v3 => ?_)
      refine g_iast hc (kf_12_2 hx0) (kl_12_2 hx0) dX12_keeps_32 (pc2 := 33) rfl (fun s4 => ?_)
      refine g_iinc hc dX12_keeps_33 rfl (q_ii ic_1) (by decide) (L2 := [some (q_rf w x0), some (.int (x1 + 1))]) rfl (pc2 := 36) rfl ?_
      refine g_goto hc dX12_keeps_36 (pc2 := 11) rfl ?_
      exact ih _ _
    · refine q_Gmask [true, false] (L2 := [some (q_rf w x0), none]) rfl ?_
      exact hk39 _
set_option maxRecDepth 100000 in
set_option maxHeartbeats 4000000 in
theorem t_X12_keeps_L51 {w : q_Wd} {cx : q_Cx} (hc : q_ok w cx RX12 cX12_keeps 2 (none) (q_rm 0 0)) {n : Nat} {x0 : Nat} (hx0 : q_KD x0 = .inl 12) {k83 : q_Sto → Option (Int32 × q_Sto)} (hk83 : ∀  (s1 : q_Sto), q_G w cx 2 (none) 83 [some (q_rf w x0), none] [] s1 (k83 s1)) :
    ∀ (j : Nat) (x1 : Int32) (s0 : q_Sto), q_G w cx 2 (none) 51 [some (q_rf w x0), some (.int x1)] [] s0 (f_X12_keeps_L51 n x0 k83 j x1 s0) := by
  intro j
  induction j with
  | zero =>
    intro _ _
    rw [f_X12_keeps_L51]
    exact q_none
  | succ j ih =>
    intro x1 s0
    rw [f_X12_keeps_L51]
    refine g_il1 hc dX12_keeps_51 rfl (pc2 := 52) rfl ?_
    refine g_bipush hc dX12_keeps_52 bp_86 (pc2 := 54) rfl ?_
    refine g_icmp_ge hc dX12_keeps_54 (pc1 := 57) (pc2 := 83) rfl rfl (fun _ => ?_) (fun _ => ?_)
    · refine g_rl0 hc dX12_keeps_57 rfl (pc2 := 58) rfl ?_
      refine g_getR hc fl_X12_16 rfl hx0 dX12_keeps_58 (pc2 := 61) rfl ?_
      refine g_bipush hc dX12_keeps_61 bp_86 (pc2 := 63) rfl ?_
      refine g_rl0 hc dX12_keeps_63 rfl (pc2 := 64) rfl ?_
      refine g_getI hc fl_X12_60 rfl hx0 dX12_keeps_64 (pc2 := 67) rfl ?_
      refine g_imul hc dX12_keeps_67 (pc2 := 68) rfl ?_
      refine g_il1 hc dX12_keeps_68 rfl (pc2 := 69) rfl ?_
      refine g_iadd hc dX12_keeps_69 (pc2 := 70) rfl ?_
      refine g_rl0 hc dX12_keeps_70 rfl (pc2 := 71) rfl ?_
      refine g_getR hc fl_X12_7 rfl hx0 dX12_keeps_71 (pc2 := 74) rfl ?_
      refine g_il1 hc dX12_keeps_74 rfl (pc2 := 75) rfl ?_
      refine g_iald hc (kf_12_0 hx0) (kl_12_0 hx0) dX12_keeps_75 (pc2 := 76) rfl (fun v8 => ?_)
      refine g_iast hc (kf_12_2 hx0) (kl_12_2 hx0) dX12_keeps_76 (pc2 := 77) rfl (fun s9 => ?_)
      refine g_iinc hc dX12_keeps_77 rfl (q_ii ic_1) (by decide) (L2 := [some (q_rf w x0), some (.int (x1 + 1))]) rfl (pc2 := 80) rfl ?_
      refine g_goto hc dX12_keeps_80 (pc2 := 51) rfl ?_
      exact ih _ _
    · refine q_Gmask [true, false] (L2 := [some (q_rf w x0), none]) rfl ?_
      exact hk83 _
set_option maxRecDepth 100000 in
set_option maxHeartbeats 4000000 in
theorem C_X12_keeps {l : Launch} {w : q_Wd} {n : Nat} {t : Nat} (ht : q_KD t = .inl 12) {s0 : q_Sto} : q_C l w yX12_keeps cX12_keeps 2 (none) (q_rm 0 0) [q_rf w t] s0 (f_X12_keeps n t s0) := q_CofG [some (q_rf w t), none] (by decide +kernel) rfl rfl (Nat.le_of_ble_eq_true rfl) fun cx hl hc => by
  have hc : q_ok w cx RX12 cX12_keeps 2 (none) (q_rm 0 0) := hc
  rw [f_X12_keeps]
  refine g_rl0 hc dX12_keeps_0 rfl (pc2 := 1) rfl ?_
  refine g_getI hc fl_X12_60 rfl ht dX12_keeps_1 (pc2 := 4) rfl ?_
  refine g_bipush hc dX12_keeps_4 bp_6 (pc2 := 6) rfl ?_
  refine g_icmp_ne hc dX12_keeps_6 (pc1 := 9) (pc2 := 49) rfl rfl (fun _ => ?_) (fun _ => ?_)
  · refine g_iconst hc dX12_keeps_9 ic_0 (pc2 := 10) rfl ?_
    refine g_is1 hc dX12_keeps_10 (by decide) (L2 := [some (q_rf w t), some (.int 0)]) rfl (pc2 := 11) rfl ?_
    refine t_X12_keeps_L11 hc ht (fun s5 => ?_) n _ _
    refine g_rl0 hc dX12_keeps_39 rfl (pc2 := 40) rfl ?_
    refine g_dup hc dX12_keeps_40 rfl (pc2 := 41) rfl ?_
    refine g_getI hc fl_X12_60 rfl ht dX12_keeps_41 (pc2 := 44) rfl ?_
    refine g_iconst hc dX12_keeps_44 ic_1 (pc2 := 45) rfl ?_
    refine g_isub hc dX12_keeps_45 (pc2 := 46) rfl ?_
    refine g_putI hc fl_X12_60 rfl ht dX12_keeps_46 (pc2 := 49) rfl (fun s6 => ?_)
    refine g_iconst hc dX12_keeps_49 ic_0 (pc2 := 50) rfl ?_
    refine g_is1 hc dX12_keeps_50 (by decide) (L2 := [some (q_rf w t), some (.int 0)]) rfl (pc2 := 51) rfl ?_
    refine t_X12_keeps_L51 hc ht (fun s10 => ?_) n _ _
    refine g_rl0 hc dX12_keeps_83 rfl (pc2 := 84) rfl ?_
    refine g_dup hc dX12_keeps_84 rfl (pc2 := 85) rfl ?_
    refine g_getI hc fl_X12_60 rfl ht dX12_keeps_85 (pc2 := 88) rfl ?_
    refine g_iconst hc dX12_keeps_88 ic_1 (pc2 := 89) rfl ?_
    refine g_iadd hc dX12_keeps_89 (pc2 := 90) rfl ?_
    refine g_putI hc fl_X12_60 rfl ht dX12_keeps_90 (pc2 := 93) rfl (fun s11 => ?_)
    refine g_rl0 hc dX12_keeps_93 rfl (pc2 := 94) rfl ?_
    refine g_iconst hc dX12_keeps_94 ic_1 (pc2 := 95) rfl ?_
    refine g_putZ (by decide) hc fl_X12_326 rfl ht dX12_keeps_95 (pc2 := 98) rfl (fun s12 => ?_)
    exact g_vret hc dX12_keeps_98
  · refine g_iconst hc dX12_keeps_49 ic_0 (pc2 := 50) rfl ?_
    refine g_is1 hc dX12_keeps_50 (by decide) (L2 := [some (q_rf w t), some (.int 0)]) rfl (pc2 := 51) rfl ?_
    refine t_X12_keeps_L51 hc ht (fun s16 => ?_) n _ _
    refine g_rl0 hc dX12_keeps_83 rfl (pc2 := 84) rfl ?_
    refine g_dup hc dX12_keeps_84 rfl (pc2 := 85) rfl ?_
    refine g_getI hc fl_X12_60 rfl ht dX12_keeps_85 (pc2 := 88) rfl ?_
    refine g_iconst hc dX12_keeps_88 ic_1 (pc2 := 89) rfl ?_
    refine g_iadd hc dX12_keeps_89 (pc2 := 90) rfl ?_
    refine g_putI hc fl_X12_60 rfl ht dX12_keeps_90 (pc2 := 93) rfl (fun s17 => ?_)
    refine g_rl0 hc dX12_keeps_93 rfl (pc2 := 94) rfl ?_
    refine g_iconst hc dX12_keeps_94 ic_1 (pc2 := 95) rfl ?_
    refine g_putZ (by decide) hc fl_X12_326 rfl ht dX12_keeps_95 (pc2 := 98) rfl (fun s18 => ?_)
    exact g_vret hc dX12_keeps_98
set_option maxRecDepth 100000 in
set_option maxHeartbeats 4000000 in
def f_X12_undo_L21 (n : Nat) (x0 : Nat) : Nat → Int32 → q_Sto → Option (Int32 × q_Sto)
  | 0, _, _ => none
  | j + 1, x1, s0 =>
    if x1 < 86 then (
    q_ld s0 (q_RF x0 2) ((86 * (s0 x0 4)) + x1) 516 fun v4 =>
    q_st s0 (q_RF x0 0) x1 1790 v4 fun s5 =>
    f_X12_undo_L21 n x0  j (x1 + 1) s5)
    else (
    some (1, s0))
set_option maxRecDepth 100000 in
set_option maxHeartbeats 4000000 in
def f_X12_undo (n : Nat) (t : Nat) (s0 : q_Sto) : Option (Int32 × q_Sto) :=
  if (s0 t 4) = 0 then (
  some (0, s0))
  else (
  q_nS1 (q_up s0 t 4 ((s0 t 4) - 1)) fun s2 =>
  f_X12_undo_L21 n t  n 0 s2)
set_option maxRecDepth 100000 in
set_option maxHeartbeats 4000000 in
theorem t_X12_undo_L21 {w : q_Wd} {cx : q_Cx} (hc : q_ok w cx RX12 cX12_undo 2 (some .boolean) (q_rm 0 0)) {n : Nat} {x0 : Nat} (hx0 : q_KD x0 = .inl 12)   :
    ∀ (j : Nat) (x1 : Int32) (s0 : q_Sto), q_G w cx 2 (some .boolean) 21 [some (q_rf w x0), some (.int x1)] [] s0 (f_X12_undo_L21 n x0  j x1 s0) := by
  intro j
  induction j with
  | zero =>
    intro _ _
    rw [f_X12_undo_L21]
    exact q_none
  | succ j ih =>
    intro x1 s0
    rw [f_X12_undo_L21]
    refine g_il1 hc dX12_undo_21 rfl (pc2 := 22) rfl ?_
    refine g_bipush hc dX12_undo_22 bp_86 (pc2 := 24) rfl ?_
    refine g_icmp_ge hc dX12_undo_24 (pc1 := 27) (pc2 := 53) rfl rfl (fun _ => ?_) (fun _ => ?_)
    · refine g_rl0 hc dX12_undo_27 rfl (pc2 := 28) rfl ?_
      refine g_getR hc fl_X12_7 rfl hx0 dX12_undo_28 (pc2 := 31) rfl ?_
      refine g_il1 hc dX12_undo_31 rfl (pc2 := 32) rfl ?_
      refine g_rl0 hc dX12_undo_32 rfl (pc2 := 33) rfl ?_
      refine g_getR hc fl_X12_16 rfl hx0 dX12_undo_33 (pc2 := 36) rfl ?_
      refine g_bipush hc dX12_undo_36 bp_86 (pc2 := 38) rfl ?_
      refine g_rl0 hc dX12_undo_38 rfl (pc2 := 39) rfl ?_
      refine g_getI hc fl_X12_60 rfl hx0 dX12_undo_39 (pc2 := 42) rfl ?_
      refine g_imul hc dX12_undo_42 (pc2 := 43) rfl ?_
      refine g_il1 hc dX12_undo_43 rfl (pc2 := 44) rfl ?_
      refine g_iadd hc dX12_undo_44 (pc2 := 45) rfl ?_
      refine g_iald hc (kf_12_2 hx0) (kl_12_2 hx0) dX12_undo_45 (pc2 := 46) rfl (fun v4 => ?_)
      refine g_iast hc (kf_12_0 hx0) (kl_12_0 hx0) dX12_undo_46 (pc2 := 47) rfl (fun s5 => ?_)
      refine g_iinc hc dX12_undo_47 rfl (q_ii ic_1) (by decide) (L2 := [some (q_rf w x0), some (.int (x1 + 1))]) rfl (pc2 := 50) rfl ?_
      refine g_goto hc dX12_undo_50 (pc2 := 21) rfl ?_
      exact ih _ _
    · refine g_iconst hc dX12_undo_53 ic_1 (pc2 := 54) rfl ?_
      exact g_zret0 (by decide) hc dX12_undo_54
set_option maxRecDepth 100000 in
set_option maxHeartbeats 4000000 in
theorem C_X12_undo {l : Launch} {w : q_Wd} {n : Nat} {t : Nat} (ht : q_KD t = .inl 12) {s0 : q_Sto} : q_C l w yX12_undo cX12_undo 2 (some .boolean) (q_rm 0 0) [q_rf w t] s0 (f_X12_undo n t s0) := q_CofG [some (q_rf w t), none] (by decide +kernel) rfl rfl (Nat.le_of_ble_eq_true rfl) fun cx hl hc => by
  have hc : q_ok w cx RX12 cX12_undo 2 (some .boolean) (q_rm 0 0) := hc
  rw [f_X12_undo]
  refine g_rl0 hc dX12_undo_0 rfl (pc2 := 1) rfl ?_
  refine g_getI hc fl_X12_60 rfl ht dX12_undo_1 (pc2 := 4) rfl ?_
  refine g_if_ne hc dX12_undo_4 (pc1 := 7) (pc2 := 9) rfl rfl (fun _ => ?_) (fun _ => ?_)
  · refine g_iconst hc dX12_undo_7 ic_0 (pc2 := 8) rfl ?_
    exact g_zret0 (by decide) hc dX12_undo_8
  · refine g_rl0 hc dX12_undo_9 rfl (pc2 := 10) rfl ?_
    refine g_dup hc dX12_undo_10 rfl (pc2 := 11) rfl ?_
    refine g_getI hc fl_X12_60 rfl ht dX12_undo_11 (pc2 := 14) rfl ?_
    refine g_iconst hc dX12_undo_14 ic_1 (pc2 := 15) rfl ?_
    refine g_isub hc dX12_undo_15 (pc2 := 16) rfl ?_
    refine g_putI hc fl_X12_60 rfl ht dX12_undo_16 (pc2 := 19) rfl (fun s2 => ?_)
    refine g_iconst hc dX12_undo_19 ic_0 (pc2 := 20) rfl ?_
    refine g_is1 hc dX12_undo_20 (by decide) (L2 := [some (q_rf w t), some (.int 0)]) rfl (pc2 := 21) rfl ?_
    refine t_X12_undo_L21 hc ht  n _ _
set_option maxRecDepth 100000 in
set_option maxHeartbeats 4000000 in
def f_X12_notes (n : Nat) (t : Nat) (a0 : Int32) (a1 : Int32) (a2 : Int32) (s0 : q_Sto) : Option (Int32 × q_Sto) :=
  if (s0 t 26) = 0 then (
  some (0, s0))
  else (
  q_ld s0 (q_RF t 0) 6 1790 fun v2 =>
  if v2 = 150 then (
  some (0, s0))
  else (
  q_ld s0 (q_RF t 0) 6 1790 fun v4 =>
  q_nm (305 + (4 * v4)) fun v5 =>
  q_ld s0 (q_RF t 0) 0 1790 fun v6 =>
  q_st s0 (q_RF t 0) v5 1790 v6 fun s7 =>
  q_st s7 (q_RF t 0) (v5 + 1) 1790 a0 fun s8 =>
  q_st s8 (q_RF t 0) (v5 + 2) 1790 a1 fun s9 =>
  q_st s9 (q_RF t 0) (v5 + 3) 1790 a2 fun s10 =>
  q_ld s10 (q_RF t 0) 6 1790 fun v11 =>
  q_st s10 (q_RF t 0) 6 1790 (v11 + 1) fun s12 =>
  some (0, s12)))
set_option maxRecDepth 100000 in
set_option maxHeartbeats 4000000 in
theorem C_X12_notes {l : Launch} {w : q_Wd} {n : Nat} {t : Nat} {a0 : Int32} {a1 : Int32} {a2 : Int32} (ht : q_KD t = .inl 12) {s0 : q_Sto} : q_C l w yX12_notes cX12_notes 5 (none) (q_rm 0 0) [q_rf w t, .int a0, .int a1, .int a2] s0 (f_X12_notes n t a0 a1 a2 s0) := q_CofG [some (q_rf w t), some (.int a0), some (.int a1), some (.int a2), none] (by decide +kernel) rfl rfl (Nat.le_of_ble_eq_true rfl) fun cx hl hc => by
  have hc : q_ok w cx RX12 cX12_notes 5 (none) (q_rm 0 0) := hc
  rw [f_X12_notes]
  refine g_rl0 hc dX12_notes_0 rfl (pc2 := 1) rfl ?_
  refine g_getI hc fl_X12_326 rfl ht dX12_notes_1 (pc2 := 4) rfl ?_
  refine g_if_eq hc dX12_notes_4 (pc1 := 20) (pc2 := 7) rfl rfl (fun _ => ?_) (fun _ => ?_)
  · exact g_vret hc dX12_notes_20
  · refine g_rl0 hc dX12_notes_7 rfl (pc2 := 8) rfl ?_
    refine g_getR hc fl_X12_7 rfl ht dX12_notes_8 (pc2 := 11) rfl ?_
    refine g_bipush hc dX12_notes_11 bp_6 (pc2 := 13) rfl ?_
    refine g_iald hc (kf_12_0 ht) (kl_12_0 ht) dX12_notes_13 (pc2 := 14) rfl (fun v2 => ?_)
    refine g_sipush hc dX12_notes_14 sp_150 (pc2 := 17) rfl ?_
    refine g_icmp_ne hc dX12_notes_17 (pc1 := 20) (pc2 := 21) rfl rfl (fun _ => ?_) (fun _ => ?_)
    · exact g_vret hc dX12_notes_20
    · refine g_sipush hc dX12_notes_21 sp_305 (pc2 := 24) rfl ?_
      refine g_iconst hc dX12_notes_24 ic_4 (pc2 := 25) rfl ?_
      refine g_rl0 hc dX12_notes_25 rfl (pc2 := 26) rfl ?_
      refine g_getR hc fl_X12_7 rfl ht dX12_notes_26 (pc2 := 29) rfl ?_
      refine g_bipush hc dX12_notes_29 bp_6 (pc2 := 31) rfl ?_
      refine g_iald hc (kf_12_0 ht) (kl_12_0 ht) dX12_notes_31 (pc2 := 32) rfl (fun v4 => ?_)
      refine g_imul hc dX12_notes_32 (pc2 := 33) rfl ?_
      refine g_iadd hc dX12_notes_33 (pc2 := 34) rfl ?_
      refine g_nm (fun v5 => ?_)
      refine g_istore hc dX12_notes_34 (by decide) (L2 := [some (q_rf w t), some (.int a0), some (.int a1), some (.int a2), some (.int v5)]) rfl (pc2 := 36) rfl ?_
      refine g_rl0 hc dX12_notes_36 rfl (pc2 := 37) rfl ?_
      refine g_getR hc fl_X12_7 rfl ht dX12_notes_37 (pc2 := 40) rfl ?_
      refine g_iload hc dX12_notes_40 rfl (pc2 := 42) rfl ?_
      refine g_rl0 hc dX12_notes_42 rfl (pc2 := 43) rfl ?_
      refine g_getR hc fl_X12_7 rfl ht dX12_notes_43 (pc2 := 46) rfl ?_
      refine g_iconst hc dX12_notes_46 ic_0 (pc2 := 47) rfl ?_
      refine g_iald hc (kf_12_0 ht) (kl_12_0 ht) dX12_notes_47 (pc2 := 48) rfl (fun v6 => ?_)
      refine g_iast hc (kf_12_0 ht) (kl_12_0 ht) dX12_notes_48 (pc2 := 49) rfl (fun s7 => ?_)
      refine g_rl0 hc dX12_notes_49 rfl (pc2 := 50) rfl ?_
      refine g_getR hc fl_X12_7 rfl ht dX12_notes_50 (pc2 := 53) rfl ?_
      refine g_iload hc dX12_notes_53 rfl (pc2 := 55) rfl ?_
      refine g_iconst hc dX12_notes_55 ic_1 (pc2 := 56) rfl ?_
      refine g_iadd hc dX12_notes_56 (pc2 := 57) rfl ?_
      refine g_il1 hc dX12_notes_57 rfl (pc2 := 58) rfl ?_
      refine g_iast hc (kf_12_0 ht) (kl_12_0 ht) dX12_notes_58 (pc2 := 59) rfl (fun s8 => ?_)
      refine g_rl0 hc dX12_notes_59 rfl (pc2 := 60) rfl ?_
      refine g_getR hc fl_X12_7 rfl ht dX12_notes_60 (pc2 := 63) rfl ?_
      refine g_iload hc dX12_notes_63 rfl (pc2 := 65) rfl ?_
      refine g_iconst hc dX12_notes_65 ic_2 (pc2 := 66) rfl ?_
      refine g_iadd hc dX12_notes_66 (pc2 := 67) rfl ?_
      refine g_il2 hc dX12_notes_67 rfl (pc2 := 68) rfl ?_
      refine g_iast hc (kf_12_0 ht) (kl_12_0 ht) dX12_notes_68 (pc2 := 69) rfl (fun s9 => ?_)
      refine g_rl0 hc dX12_notes_69 rfl (pc2 := 70) rfl ?_
      refine g_getR hc fl_X12_7 rfl ht dX12_notes_70 (pc2 := 73) rfl ?_
      refine g_iload hc dX12_notes_73 rfl (pc2 := 75) rfl ?_
      refine g_iconst hc dX12_notes_75 ic_3 (pc2 := 76) rfl ?_
      refine g_iadd hc dX12_notes_76 (pc2 := 77) rfl ?_
      refine g_il3 hc dX12_notes_77 rfl (pc2 := 78) rfl ?_
      refine g_iast hc (kf_12_0 ht) (kl_12_0 ht) dX12_notes_78 (pc2 := 79) rfl (fun s10 => ?_)
      refine g_rl0 hc dX12_notes_79 rfl (pc2 := 80) rfl ?_
      refine g_getR hc fl_X12_7 rfl ht dX12_notes_80 (pc2 := 83) rfl ?_
      refine g_bipush hc dX12_notes_83 bp_6 (pc2 := 85) rfl ?_
      refine g_dup2 hc dX12_notes_85 rfl rfl (pc2 := 86) rfl ?_
      refine g_iald hc (kf_12_0 ht) (kl_12_0 ht) dX12_notes_86 (pc2 := 87) rfl (fun v11 => ?_)
      refine g_iconst hc dX12_notes_87 ic_1 (pc2 := 88) rfl ?_
      refine g_iadd hc dX12_notes_88 (pc2 := 89) rfl ?_
      refine g_iast hc (kf_12_0 ht) (kl_12_0 ht) dX12_notes_89 (pc2 := 90) rfl (fun s12 => ?_)
      exact g_vret hc dX12_notes_90
set_option maxRecDepth 100000 in
set_option maxHeartbeats 4000000 in
def f_X12_leansTo_L7 (n : Nat) (x0 : Nat) (x1 : Int32) (k54 : Int32 → Int32 → q_Sto → Option (Int32 × q_Sto)) : Nat → Int32 → Int32 → Int32 → q_Sto → Option (Int32 × q_Sto)
  | 0, _, _, _, _ => none
  | j + 1, x2, x3, x4, s0 =>
    q_ld s0 (q_RF x0 0) 87 1790 fun v1 =>
    if x4 < v1 then (
    q_call (f_X12_leanOf n x0 x1 x4 s0) fun r4 s3 =>
    if x2 = (-1) then (
    f_X12_leansTo_L7 n x0 x1 k54 j x4 r4 (x4 + 1) s3)
    else (
    if r4 ≤ x3 then (
    f_X12_leansTo_L7 n x0 x1 k54 j x2 x3 (x4 + 1) s3)
    else (
    f_X12_leansTo_L7 n x0 x1 k54 j x4 r4 (x4 + 1) s3)))
    else (
    k54 x2 x3 s0)
set_option maxRecDepth 100000 in
set_option maxHeartbeats 4000000 in
def f_X12_leansTo (n : Nat) (t : Nat) (a0 : Int32) (s0 : q_Sto) : Option (Int32 × q_Sto) :=
  f_X12_leansTo_L7 n t a0 (fun (y7 : Int32) (y8 : Int32) (s9 : q_Sto) =>
  if y7 = (-1) then (
  some ((-1), s9))
  else (
  q_call (f_X12_needOf n t a0 s9) fun r12 s11 =>
  if y8 < r12 then (
  some ((-1), s11))
  else (
  some (y7, s11)))) n (-1) 0 0 s0
set_option maxRecDepth 100000 in
set_option maxHeartbeats 4000000 in
theorem t_X12_leansTo_L7 {w : q_Wd} {cx : q_Cx} (hc : q_ok w cx RX12 cX12_leansTo 6 (some .int) (q_rm 5 116)) {n : Nat} {x0 : Nat} {x1 : Int32} (hx0 : q_KD x0 = .inl 12) {k54 : Int32 → Int32 → q_Sto → Option (Int32 × q_Sto)} (hk54 : ∀ (y2 : Int32) (y3 : Int32) (s1 : q_Sto), q_G w cx 6 (some .int) 54 [some (q_rf w x0), some (.int x1), some (.int y2), some (.int y3), none, none] [] s1 (k54 y2 y3 s1)) :
    ∀ (j : Nat) (x2 : Int32) (x3 : Int32) (x4 : Int32) (s0 : q_Sto), q_G w cx 6 (some .int) 7 [some (q_rf w x0), some (.int x1), some (.int x2), some (.int x3), some (.int x4), none] [] s0 (f_X12_leansTo_L7 n x0 x1 k54 j x2 x3 x4 s0) := by
  intro j
  induction j with
  | zero =>
    intro _ _ _ _
    rw [f_X12_leansTo_L7]
    exact q_none
  | succ j ih =>
    intro x2 x3 x4 s0
    rw [f_X12_leansTo_L7]
    refine g_iload hc dX12_leansTo_7 rfl (pc2 := 9) rfl ?_
    refine g_rl0 hc dX12_leansTo_9 rfl (pc2 := 10) rfl ?_
    refine g_getR hc fl_X12_7 rfl hx0 dX12_leansTo_10 (pc2 := 13) rfl ?_
    refine g_bipush hc dX12_leansTo_13 bp_87 (pc2 := 15) rfl ?_
    refine g_iald hc (kf_12_0 hx0) (kl_12_0 hx0) dX12_leansTo_15 (pc2 := 16) rfl (fun v1 => ?_)
    refine g_icmp_ge hc dX12_leansTo_16 (pc1 := 19) (pc2 := 54) rfl rfl (fun _ => ?_) (fun _ => ?_)
    · refine g_rl0 hc dX12_leansTo_19 rfl (pc2 := 20) rfl ?_
      refine g_il1 hc dX12_leansTo_20 rfl (pc2 := 21) rfl ?_
      refine g_iload hc dX12_leansTo_21 rfl (pc2 := 23) rfl ?_
      refine g_callV2 hc (C_X12_leanOf hx0) mv_X12_leanOf ln_X12_330 hx0 ⟨by decide, by decide⟩ (Nat.le_of_ble_eq_true rfl) dX12_leansTo_23 (pc2 := 26) rfl (fun r4 s3 => ?_)
      refine g_istore hc dX12_leansTo_26 (by decide) (L2 := [some (q_rf w x0), some (.int x1), some (.int x2), some (.int x3), some (.int x4), some (.int r4)]) rfl (pc2 := 28) rfl ?_
      refine g_il2 hc dX12_leansTo_28 rfl (pc2 := 29) rfl ?_
      refine g_iconst hc dX12_leansTo_29 ic_m1 (pc2 := 30) rfl ?_
      refine g_icmp_eq hc dX12_leansTo_30 (pc1 := 42) (pc2 := 33) rfl rfl (fun _ => ?_) (fun _ => ?_)
      · refine g_iload hc dX12_leansTo_42 rfl (pc2 := 44) rfl ?_
        refine g_is2 hc dX12_leansTo_44 (by decide) (L2 := [some (q_rf w x0), some (.int x1), some (.int x4), some (.int x3), some (.int x4), some (.int r4)]) rfl (pc2 := 45) rfl ?_
        refine g_iload hc dX12_leansTo_45 rfl (pc2 := 47) rfl ?_
        refine g_is3 hc dX12_leansTo_47 (by decide) (L2 := [some (q_rf w x0), some (.int x1), some (.int x4), some (.int r4), some (.int x4), some (.int r4)]) rfl (pc2 := 48) rfl ?_
        refine g_iinc hc dX12_leansTo_48 rfl (q_ii ic_1) (by decide) (L2 := [some (q_rf w x0), some (.int x1), some (.int x4), some (.int r4), some (.int (x4 + 1)), some (.int r4)]) rfl (pc2 := 51) rfl ?_
        refine g_goto hc dX12_leansTo_51 (pc2 := 7) rfl ?_
        refine q_Gmask [true, true, true, true, true, false] (L2 := [some (q_rf w x0), some (.int x1), some (.int x4), some (.int r4), some (.int (x4 + 1)), none]) rfl ?_
        exact ih _ _ _ _
      · refine g_iload hc dX12_leansTo_33 rfl (pc2 := 35) rfl ?_
        refine g_il3 hc dX12_leansTo_35 rfl (pc2 := 36) rfl ?_
        refine g_icmp_gt hc dX12_leansTo_36 (pc1 := 39) (pc2 := 42) rfl rfl (fun _ => ?_) (fun _ => ?_)
        · refine g_goto hc dX12_leansTo_39 (pc2 := 48) rfl ?_
          refine g_iinc hc dX12_leansTo_48 rfl (q_ii ic_1) (by decide) (L2 := [some (q_rf w x0), some (.int x1), some (.int x2), some (.int x3), some (.int (x4 + 1)), some (.int r4)]) rfl (pc2 := 51) rfl ?_
          refine g_goto hc dX12_leansTo_51 (pc2 := 7) rfl ?_
          refine q_Gmask [true, true, true, true, true, false] (L2 := [some (q_rf w x0), some (.int x1), some (.int x2), some (.int x3), some (.int (x4 + 1)), none]) rfl ?_
          exact ih _ _ _ _
        · refine g_iload hc dX12_leansTo_42 rfl (pc2 := 44) rfl ?_
          refine g_is2 hc dX12_leansTo_44 (by decide) (L2 := [some (q_rf w x0), some (.int x1), some (.int x4), some (.int x3), some (.int x4), some (.int r4)]) rfl (pc2 := 45) rfl ?_
          refine g_iload hc dX12_leansTo_45 rfl (pc2 := 47) rfl ?_
          refine g_is3 hc dX12_leansTo_47 (by decide) (L2 := [some (q_rf w x0), some (.int x1), some (.int x4), some (.int r4), some (.int x4), some (.int r4)]) rfl (pc2 := 48) rfl ?_
          refine g_iinc hc dX12_leansTo_48 rfl (q_ii ic_1) (by decide) (L2 := [some (q_rf w x0), some (.int x1), some (.int x4), some (.int r4), some (.int (x4 + 1)), some (.int r4)]) rfl (pc2 := 51) rfl ?_
          refine g_goto hc dX12_leansTo_51 (pc2 := 7) rfl ?_
          refine q_Gmask [true, true, true, true, true, false] (L2 := [some (q_rf w x0), some (.int x1), some (.int x4), some (.int r4), some (.int (x4 + 1)), none]) rfl ?_
          exact ih _ _ _ _
    · refine q_Gmask [true, true, true, true, false, true] (L2 := [some (q_rf w x0), some (.int x1), some (.int x2), some (.int x3), none, none]) rfl ?_
      exact hk54 _ _ _
set_option maxRecDepth 100000 in
set_option maxHeartbeats 4000000 in
theorem C_X12_leansTo {l : Launch} {w : q_Wd} {n : Nat} {t : Nat} {a0 : Int32} (ht : q_KD t = .inl 12) {s0 : q_Sto} : q_C l w yX12_leansTo cX12_leansTo 6 (some .int) (q_rm 5 116) [q_rf w t, .int a0] s0 (f_X12_leansTo n t a0 s0) := q_CofG [some (q_rf w t), some (.int a0), none, none, none, none] (by decide +kernel) rfl rfl (Nat.le_of_ble_eq_true rfl) fun cx hl hc => by
  have hc : q_ok w cx RX12 cX12_leansTo 6 (some .int) (q_rm 5 116) := hc
  rw [f_X12_leansTo]
  refine g_iconst hc dX12_leansTo_0 ic_m1 (pc2 := 1) rfl ?_
  refine g_is2 hc dX12_leansTo_1 (by decide) (L2 := [some (q_rf w t), some (.int a0), some (.int (-1)), none, none, none]) rfl (pc2 := 2) rfl ?_
  refine g_iconst hc dX12_leansTo_2 ic_0 (pc2 := 3) rfl ?_
  refine g_is3 hc dX12_leansTo_3 (by decide) (L2 := [some (q_rf w t), some (.int a0), some (.int (-1)), some (.int 0), none, none]) rfl (pc2 := 4) rfl ?_
  refine g_iconst hc dX12_leansTo_4 ic_0 (pc2 := 5) rfl ?_
  refine g_istore hc dX12_leansTo_5 (by decide) (L2 := [some (q_rf w t), some (.int a0), some (.int (-1)), some (.int 0), some (.int 0), none]) rfl (pc2 := 7) rfl ?_
  refine t_X12_leansTo_L7 hc ht (fun y7 y8 s9 => ?_) n _ _ _ _
  refine g_il2 hc dX12_leansTo_54 rfl (pc2 := 55) rfl ?_
  refine g_iconst hc dX12_leansTo_55 ic_m1 (pc2 := 56) rfl ?_
  refine g_icmp_eq hc dX12_leansTo_56 (pc1 := 72) (pc2 := 59) rfl rfl (fun _ => ?_) (fun _ => ?_)
  · refine g_iconst hc dX12_leansTo_72 ic_m1 (pc2 := 73) rfl ?_
    exact g_iret hc dX12_leansTo_73
  · refine g_il3 hc dX12_leansTo_59 rfl (pc2 := 60) rfl ?_
    refine g_rl0 hc dX12_leansTo_60 rfl (pc2 := 61) rfl ?_
    refine g_il1 hc dX12_leansTo_61 rfl (pc2 := 62) rfl ?_
    refine g_callV1 hc (C_X12_needOf ht) mv_X12_needOf ln_X12_333 ht ⟨by decide, by decide⟩ (Nat.le_of_ble_eq_true rfl) dX12_leansTo_62 (pc2 := 65) rfl (fun r12 s11 => ?_)
    refine g_icmp_lt hc dX12_leansTo_65 (pc1 := 72) (pc2 := 68) rfl rfl (fun _ => ?_) (fun _ => ?_)
    · refine g_iconst hc dX12_leansTo_72 ic_m1 (pc2 := 73) rfl ?_
      exact g_iret hc dX12_leansTo_73
    · refine g_il2 hc dX12_leansTo_68 rfl (pc2 := 69) rfl ?_
      refine g_goto hc dX12_leansTo_69 (pc2 := 73) rfl ?_
      exact g_iret hc dX12_leansTo_73
set_option maxRecDepth 100000 in
set_option maxHeartbeats 4000000 in
def f_X12_aRound_L4 (n : Nat) (x0 : Nat) : Nat → Int32 → Int32 → q_Sto → Option (Int32 × q_Sto)
  | 0, _, _, _ => none
  | j + 1, x1, x2, s0 =>
    q_ld s0 (q_RF x0 0) 86 1790 fun v1 =>
    if x2 < v1 then (
    q_call (f_X12_isLame n x0 x2 s0) fun r4 s3 =>
    if r4 = 0 then (
    q_ld s3 (q_RF x0 0) (8 + x2) 1790 fun v6 =>
    if v6 = (-1) then (
    q_call (f_X12_leansTo n x0 x2 s3) fun r9 s8 =>
    q_st s8 (q_RF x0 0) (8 + x2) 1790 r9 fun s10 =>
    if x1 = 0 then (
    q_ld s10 (q_RF x0 0) (8 + x2) 1790 fun v12 =>
    if v12 = (-1) then (
    f_X12_aRound_L4 n x0  j 0 (x2 + 1) s10)
    else (
    f_X12_aRound_L4 n x0  j 1 (x2 + 1) s10))
    else (
    f_X12_aRound_L4 n x0  j 1 (x2 + 1) s10))
    else (
    f_X12_aRound_L4 n x0  j x1 (x2 + 1) s3))
    else (
    f_X12_aRound_L4 n x0  j x1 (x2 + 1) s3))
    else (
    q_rz x1 s0)
set_option maxRecDepth 100000 in
set_option maxHeartbeats 4000000 in
def f_X12_aRound (n : Nat) (t : Nat) (s0 : q_Sto) : Option (Int32 × q_Sto) :=
  f_X12_aRound_L4 n t  n 0 0 s0
set_option maxRecDepth 100000 in
set_option maxHeartbeats 4000000 in
theorem t_X12_aRound_L4 {w : q_Wd} {cx : q_Cx} (hc : q_ok w cx RX12 cX12_aRound 3 (some .boolean) (q_rm 6 141)) {n : Nat} {x0 : Nat} (hx0 : q_KD x0 = .inl 12)   :
    ∀ (j : Nat) (x1 : Int32) (x2 : Int32) (s0 : q_Sto), q_G w cx 3 (some .boolean) 4 [some (q_rf w x0), some (.int x1), some (.int x2)] [] s0 (f_X12_aRound_L4 n x0  j x1 x2 s0) := by
  intro j
  induction j with
  | zero =>
    intro _ _ _
    rw [f_X12_aRound_L4]
    exact q_none
  | succ j ih =>
    intro x1 x2 s0
    rw [f_X12_aRound_L4]
    refine g_il2 hc dX12_aRound_4 rfl (pc2 := 5) rfl ?_
    refine g_rl0 hc dX12_aRound_5 rfl (pc2 := 6) rfl ?_
    refine g_getR hc fl_X12_7 rfl hx0 dX12_aRound_6 (pc2 := 9) rfl ?_
    refine g_bipush hc dX12_aRound_9 bp_86 (pc2 := 11) rfl ?_
    refine g_iald hc (kf_12_0 hx0) (kl_12_0 hx0) dX12_aRound_11 (pc2 := 12) rfl (fun v1 => ?_)
    refine g_icmp_ge hc dX12_aRound_12 (pc1 := 15) (pc2 := 82) rfl rfl (fun _ => ?_) (fun _ => ?_)
    · refine g_rl0 hc dX12_aRound_15 rfl (pc2 := 16) rfl ?_
      refine g_il2 hc dX12_aRound_16 rfl (pc2 := 17) rfl ?_
      refine g_callV1 hc (C_X12_isLame hx0) mv_X12_isLame ln_X12_336 hx0 ⟨by decide, by decide⟩ (Nat.le_of_ble_eq_true rfl) dX12_aRound_17 (pc2 := 20) rfl (fun r4 s3 => ?_)
      refine g_if_ne hc dX12_aRound_20 (pc1 := 23) (pc2 := 76) rfl rfl (fun _ => ?_) (fun _ => ?_)
      · refine g_rl0 hc dX12_aRound_23 rfl (pc2 := 24) rfl ?_
        refine g_getR hc fl_X12_7 rfl hx0 dX12_aRound_24 (pc2 := 27) rfl ?_
        refine g_bipush hc dX12_aRound_27 bp_8 (pc2 := 29) rfl ?_
        refine g_il2 hc dX12_aRound_29 rfl (pc2 := 30) rfl ?_
        refine g_iadd hc dX12_aRound_30 (pc2 := 31) rfl ?_
        refine g_iald hc (kf_12_0 hx0) (kl_12_0 hx0) dX12_aRound_31 (pc2 := 32) rfl (fun v6 => ?_)
        refine g_iconst hc dX12_aRound_32 ic_m1 (pc2 := 33) rfl ?_
        refine g_icmp_eq hc dX12_aRound_33 (pc1 := 39) (pc2 := 36) rfl rfl (fun _ => ?_) (fun _ => ?_)
        · refine g_rl0 hc dX12_aRound_39 rfl (pc2 := 40) rfl ?_
          refine g_getR hc fl_X12_7 rfl hx0 dX12_aRound_40 (pc2 := 43) rfl ?_
          refine g_bipush hc dX12_aRound_43 bp_8 (pc2 := 45) rfl ?_
          refine g_il2 hc dX12_aRound_45 rfl (pc2 := 46) rfl ?_
          refine g_iadd hc dX12_aRound_46 (pc2 := 47) rfl ?_
          refine g_rl0 hc dX12_aRound_47 rfl (pc2 := 48) rfl ?_
          refine g_il2 hc dX12_aRound_48 rfl (pc2 := 49) rfl ?_
          refine g_callV1 hc (C_X12_leansTo hx0) mv_X12_leansTo ln_X12_339 hx0 ⟨by decide, by decide⟩ (Nat.le_of_ble_eq_true rfl) dX12_aRound_49 (pc2 := 52) rfl (fun r9 s8 => ?_)
          refine g_iast hc (kf_12_0 hx0) (kl_12_0 hx0) dX12_aRound_52 (pc2 := 53) rfl (fun s10 => ?_)
          refine g_il1 hc dX12_aRound_53 rfl (pc2 := 54) rfl ?_
          refine g_if_ne hc dX12_aRound_54 (pc1 := 57) (pc2 := 70) rfl rfl (fun _ => ?_) (fun _ => ?_)
          · refine g_rl0 hc dX12_aRound_57 rfl (pc2 := 58) rfl ?_
            refine g_getR hc fl_X12_7 rfl hx0 dX12_aRound_58 (pc2 := 61) rfl ?_
            refine g_bipush hc dX12_aRound_61 bp_8 (pc2 := 63) rfl ?_
            refine g_il2 hc dX12_aRound_63 rfl (pc2 := 64) rfl ?_
            refine g_iadd hc dX12_aRound_64 (pc2 := 65) rfl ?_
            refine g_iald hc (kf_12_0 hx0) (kl_12_0 hx0) dX12_aRound_65 (pc2 := 66) rfl (fun v12 => ?_)
            refine g_iconst hc dX12_aRound_66 ic_m1 (pc2 := 67) rfl ?_
            refine g_icmp_eq hc dX12_aRound_67 (pc1 := 74) (pc2 := 70) rfl rfl (fun _ => ?_) (fun _ => ?_)
            · refine g_iconst hc dX12_aRound_74 ic_0 (pc2 := 75) rfl ?_
              refine g_is1 hc dX12_aRound_75 (by decide) (L2 := [some (q_rf w x0), some (.int 0), some (.int x2)]) rfl (pc2 := 76) rfl ?_
              refine g_iinc hc dX12_aRound_76 rfl (q_ii ic_1) (by decide) (L2 := [some (q_rf w x0), some (.int 0), some (.int (x2 + 1))]) rfl (pc2 := 79) rfl ?_
              refine g_goto hc dX12_aRound_79 (pc2 := 4) rfl ?_
              exact ih _ _ _
            · refine g_iconst hc dX12_aRound_70 ic_1 (pc2 := 71) rfl ?_
              refine g_goto hc dX12_aRound_71 (pc2 := 75) rfl ?_
              refine g_is1 hc dX12_aRound_75 (by decide) (L2 := [some (q_rf w x0), some (.int 1), some (.int x2)]) rfl (pc2 := 76) rfl ?_
              refine g_iinc hc dX12_aRound_76 rfl (q_ii ic_1) (by decide) (L2 := [some (q_rf w x0), some (.int 1), some (.int (x2 + 1))]) rfl (pc2 := 79) rfl ?_
              refine g_goto hc dX12_aRound_79 (pc2 := 4) rfl ?_
              exact ih _ _ _
          · refine g_iconst hc dX12_aRound_70 ic_1 (pc2 := 71) rfl ?_
            refine g_goto hc dX12_aRound_71 (pc2 := 75) rfl ?_
            refine g_is1 hc dX12_aRound_75 (by decide) (L2 := [some (q_rf w x0), some (.int 1), some (.int x2)]) rfl (pc2 := 76) rfl ?_
            refine g_iinc hc dX12_aRound_76 rfl (q_ii ic_1) (by decide) (L2 := [some (q_rf w x0), some (.int 1), some (.int (x2 + 1))]) rfl (pc2 := 79) rfl ?_
            refine g_goto hc dX12_aRound_79 (pc2 := 4) rfl ?_
            exact ih _ _ _
        · refine g_goto hc dX12_aRound_36 (pc2 := 76) rfl ?_
          refine g_iinc hc dX12_aRound_76 rfl (q_ii ic_1) (by decide) (L2 := [some (q_rf w x0), some (.int x1), some (.int (x2 + 1))]) rfl (pc2 := 79) rfl ?_
          refine g_goto hc dX12_aRound_79 (pc2 := 4) rfl ?_
          exact ih _ _ _
      · refine g_iinc hc dX12_aRound_76 rfl (q_ii ic_1) (by decide) (L2 := [some (q_rf w x0), some (.int x1), some (.int (x2 + 1))]) rfl (pc2 := 79) rfl ?_
        refine g_goto hc dX12_aRound_79 (pc2 := 4) rfl ?_
        exact ih _ _ _
    · refine g_il1 hc dX12_aRound_82 rfl (pc2 := 83) rfl ?_
      exact g_zret hc dX12_aRound_83
set_option maxRecDepth 100000 in
set_option maxHeartbeats 4000000 in
theorem C_X12_aRound {l : Launch} {w : q_Wd} {n : Nat} {t : Nat} (ht : q_KD t = .inl 12) {s0 : q_Sto} : q_C l w yX12_aRound cX12_aRound 3 (some .boolean) (q_rm 6 141) [q_rf w t] s0 (f_X12_aRound n t s0) := q_CofG [some (q_rf w t), none, none] (by decide +kernel) rfl rfl (Nat.le_of_ble_eq_true rfl) fun cx hl hc => by
  have hc : q_ok w cx RX12 cX12_aRound 3 (some .boolean) (q_rm 6 141) := hc
  rw [f_X12_aRound]
  refine g_iconst hc dX12_aRound_0 ic_0 (pc2 := 1) rfl ?_
  refine g_is1 hc dX12_aRound_1 (by decide) (L2 := [some (q_rf w t), some (.int 0), none]) rfl (pc2 := 2) rfl ?_
  refine g_iconst hc dX12_aRound_2 ic_0 (pc2 := 3) rfl ?_
  refine g_is2 hc dX12_aRound_3 (by decide) (L2 := [some (q_rf w t), some (.int 0), some (.int 0)]) rfl (pc2 := 4) rfl ?_
  refine t_X12_aRound_L4 hc ht  n _ _ _
set_option maxRecDepth 100000 in
set_option maxHeartbeats 4000000 in
def f_X12_mostFollowed_L6 (n : Nat) (x0 : Nat) : Nat → Int32 → Int32 → Int32 → q_Sto → Option (Int32 × q_Sto)
  | 0, _, _, _, _ => none
  | j + 1, x1, x2, x3, s0 =>
    q_ld s0 (q_RF x0 0) 87 1790 fun v1 =>
    if x3 < v1 then (
    q_call (f_X12_behind n x0 x3 s0) fun r4 s3 =>
    q_call (f_X12_count n r4 s3) fun r6 s5 =>
    if r6 < x2 then (
    f_X12_mostFollowed_L6 n x0  j x1 x2 (x3 + 1) s5)
    else (
    if r6 = 0 then (
    f_X12_mostFollowed_L6 n x0  j x1 x2 (x3 + 1) s5)
    else (
    if r6 = x2 then (
    f_X12_mostFollowed_L6 n x0  j (-1) r6 (x3 + 1) s5)
    else (
    f_X12_mostFollowed_L6 n x0  j x3 r6 (x3 + 1) s5))))
    else (
    some (x1, s0))
set_option maxRecDepth 100000 in
set_option maxHeartbeats 4000000 in
def f_X12_mostFollowed (n : Nat) (t : Nat) (s0 : q_Sto) : Option (Int32 × q_Sto) :=
  f_X12_mostFollowed_L6 n t  n (-1) 0 0 s0
set_option maxRecDepth 100000 in
set_option maxHeartbeats 4000000 in
theorem t_X12_mostFollowed_L6 {w : q_Wd} {cx : q_Cx} (hc : q_ok w cx RX12 cX12_mostFollowed 5 (some .int) (q_rm 1 23)) {n : Nat} {x0 : Nat} (hx0 : q_KD x0 = .inl 12)   :
    ∀ (j : Nat) (x1 : Int32) (x2 : Int32) (x3 : Int32) (s0 : q_Sto), q_G w cx 5 (some .int) 6 [some (q_rf w x0), some (.int x1), some (.int x2), some (.int x3), none] [] s0 (f_X12_mostFollowed_L6 n x0  j x1 x2 x3 s0) := by
  intro j
  induction j with
  | zero =>
    intro _ _ _ _
    rw [f_X12_mostFollowed_L6]
    exact q_none
  | succ j ih =>
    intro x1 x2 x3 s0
    rw [f_X12_mostFollowed_L6]
    refine g_il3 hc dX12_mostFollowed_6 rfl (pc2 := 7) rfl ?_
    refine g_rl0 hc dX12_mostFollowed_7 rfl (pc2 := 8) rfl ?_
    refine g_getR hc fl_X12_7 rfl hx0 dX12_mostFollowed_8 (pc2 := 11) rfl ?_
    refine g_bipush hc dX12_mostFollowed_11 bp_87 (pc2 := 13) rfl ?_
    refine g_iald hc (kf_12_0 hx0) (kl_12_0 hx0) dX12_mostFollowed_13 (pc2 := 14) rfl (fun v1 => ?_)
    refine g_icmp_ge hc dX12_mostFollowed_14 (pc1 := 17) (pc2 := 62) rfl rfl (fun _ => ?_) (fun _ => ?_)
    · refine g_rl0 hc dX12_mostFollowed_17 rfl (pc2 := 18) rfl ?_
      refine g_il3 hc dX12_mostFollowed_18 rfl (pc2 := 19) rfl ?_
      refine g_callV1 hc (C_X12_behind hx0) mv_X12_behind ln_X12_317 hx0 ⟨by decide, by decide⟩ (Nat.le_of_ble_eq_true rfl) dX12_mostFollowed_19 (pc2 := 22) rfl (fun r4 s3 => ?_)
      refine g_callS1 hc C_X12_count mv_X12_count ln_X12_320 ⟨by decide, by decide⟩ (Nat.le_of_ble_eq_true rfl) dX12_mostFollowed_22 (pc2 := 25) rfl (fun r6 s5 => ?_)
      refine g_istore hc dX12_mostFollowed_25 (by decide) (L2 := [some (q_rf w x0), some (.int x1), some (.int x2), some (.int x3), some (.int r6)]) rfl (pc2 := 27) rfl ?_
      refine g_iload hc dX12_mostFollowed_27 rfl (pc2 := 29) rfl ?_
      refine g_il2 hc dX12_mostFollowed_29 rfl (pc2 := 30) rfl ?_
      refine g_icmp_lt hc dX12_mostFollowed_30 (pc1 := 56) (pc2 := 33) rfl rfl (fun _ => ?_) (fun _ => ?_)
      · refine g_iinc hc dX12_mostFollowed_56 rfl (q_ii ic_1) (by decide) (L2 := [some (q_rf w x0), some (.int x1), some (.int x2), some (.int (x3 + 1)), some (.int r6)]) rfl (pc2 := 59) rfl ?_
        refine g_goto hc dX12_mostFollowed_59 (pc2 := 6) rfl ?_
        refine q_Gmask [true, true, true, true, false] (L2 := [some (q_rf w x0), some (.int x1), some (.int x2), some (.int (x3 + 1)), none]) rfl ?_
        exact ih _ _ _ _
      · refine g_iload hc dX12_mostFollowed_33 rfl (pc2 := 35) rfl ?_
        refine g_if_ne hc dX12_mostFollowed_35 (pc1 := 38) (pc2 := 41) rfl rfl (fun _ => ?_) (fun _ => ?_)
        · refine g_goto hc dX12_mostFollowed_38 (pc2 := 56) rfl ?_
          refine g_iinc hc dX12_mostFollowed_56 rfl (q_ii ic_1) (by decide) (L2 := [some (q_rf w x0), some (.int x1), some (.int x2), some (.int (x3 + 1)), some (.int r6)]) rfl (pc2 := 59) rfl ?_
          refine g_goto hc dX12_mostFollowed_59 (pc2 := 6) rfl ?_
          refine q_Gmask [true, true, true, true, false] (L2 := [some (q_rf w x0), some (.int x1), some (.int x2), some (.int (x3 + 1)), none]) rfl ?_
          exact ih _ _ _ _
        · refine g_iload hc dX12_mostFollowed_41 rfl (pc2 := 43) rfl ?_
          refine g_il2 hc dX12_mostFollowed_43 rfl (pc2 := 44) rfl ?_
          refine g_icmp_ne hc dX12_mostFollowed_44 (pc1 := 47) (pc2 := 51) rfl rfl (fun _ => ?_) (fun _ => ?_)
          · refine g_iconst hc dX12_mostFollowed_47 ic_m1 (pc2 := 48) rfl ?_
            refine g_goto hc dX12_mostFollowed_48 (pc2 := 52) rfl ?_
            refine g_is1 hc dX12_mostFollowed_52 (by decide) (L2 := [some (q_rf w x0), some (.int (-1)), some (.int x2), some (.int x3), some (.int r6)]) rfl (pc2 := 53) rfl ?_
            refine g_iload hc dX12_mostFollowed_53 rfl (pc2 := 55) rfl ?_
            refine g_is2 hc dX12_mostFollowed_55 (by decide) (L2 := [some (q_rf w x0), some (.int (-1)), some (.int r6), some (.int x3), some (.int r6)]) rfl (pc2 := 56) rfl ?_
            refine g_iinc hc dX12_mostFollowed_56 rfl (q_ii ic_1) (by decide) (L2 := [some (q_rf w x0), some (.int (-1)), some (.int r6), some (.int (x3 + 1)), some (.int r6)]) rfl (pc2 := 59) rfl ?_
            refine g_goto hc dX12_mostFollowed_59 (pc2 := 6) rfl ?_
            refine q_Gmask [true, true, true, true, false] (L2 := [some (q_rf w x0), some (.int (-1)), some (.int r6), some (.int (x3 + 1)), none]) rfl ?_
            exact ih _ _ _ _
          · refine g_il3 hc dX12_mostFollowed_51 rfl (pc2 := 52) rfl ?_
            refine g_is1 hc dX12_mostFollowed_52 (by decide) (L2 := [some (q_rf w x0), some (.int x3), some (.int x2), some (.int x3), some (.int r6)]) rfl (pc2 := 53) rfl ?_
            refine g_iload hc dX12_mostFollowed_53 rfl (pc2 := 55) rfl ?_
            refine g_is2 hc dX12_mostFollowed_55 (by decide) (L2 := [some (q_rf w x0), some (.int x3), some (.int r6), some (.int x3), some (.int r6)]) rfl (pc2 := 56) rfl ?_
            refine g_iinc hc dX12_mostFollowed_56 rfl (q_ii ic_1) (by decide) (L2 := [some (q_rf w x0), some (.int x3), some (.int r6), some (.int (x3 + 1)), some (.int r6)]) rfl (pc2 := 59) rfl ?_
            refine g_goto hc dX12_mostFollowed_59 (pc2 := 6) rfl ?_
            refine q_Gmask [true, true, true, true, false] (L2 := [some (q_rf w x0), some (.int x3), some (.int r6), some (.int (x3 + 1)), none]) rfl ?_
            exact ih _ _ _ _
    · refine g_il1 hc dX12_mostFollowed_62 rfl (pc2 := 63) rfl ?_
      exact g_iret hc dX12_mostFollowed_63
set_option maxRecDepth 100000 in
set_option maxHeartbeats 4000000 in
theorem C_X12_mostFollowed {l : Launch} {w : q_Wd} {n : Nat} {t : Nat} (ht : q_KD t = .inl 12) {s0 : q_Sto} : q_C l w yX12_mostFollowed cX12_mostFollowed 5 (some .int) (q_rm 1 23) [q_rf w t] s0 (f_X12_mostFollowed n t s0) := q_CofG [some (q_rf w t), none, none, none, none] (by decide +kernel) rfl rfl (Nat.le_of_ble_eq_true rfl) fun cx hl hc => by
  have hc : q_ok w cx RX12 cX12_mostFollowed 5 (some .int) (q_rm 1 23) := hc
  rw [f_X12_mostFollowed]
  refine g_iconst hc dX12_mostFollowed_0 ic_m1 (pc2 := 1) rfl ?_
  refine g_is1 hc dX12_mostFollowed_1 (by decide) (L2 := [some (q_rf w t), some (.int (-1)), none, none, none]) rfl (pc2 := 2) rfl ?_
  refine g_iconst hc dX12_mostFollowed_2 ic_0 (pc2 := 3) rfl ?_
  refine g_is2 hc dX12_mostFollowed_3 (by decide) (L2 := [some (q_rf w t), some (.int (-1)), some (.int 0), none, none]) rfl (pc2 := 4) rfl ?_
  refine g_iconst hc dX12_mostFollowed_4 ic_0 (pc2 := 5) rfl ?_
  refine g_is3 hc dX12_mostFollowed_5 (by decide) (L2 := [some (q_rf w t), some (.int (-1)), some (.int 0), some (.int 0), none]) rfl (pc2 := 6) rfl ?_
  refine t_X12_mostFollowed_L6 hc ht  n _ _ _ _
set_option maxRecDepth 100000 in
set_option maxHeartbeats 4000000 in
def f_X12_stand_L2 (n : Nat) (x0 : Nat) (k24 : q_Sto → Option (Int32 × q_Sto)) : Nat → Int32 → q_Sto → Option (Int32 × q_Sto)
  | 0, _, _ => none
  | j + 1, x1, s0 =>
    if x1 < 12 then (
    q_st s0 (q_RF x0 0) (8 + x1) 1790 (-1) fun s2 =>
    f_X12_stand_L2 n x0 k24 j (x1 + 1) s2)
    else (
    k24 s0)
set_option maxRecDepth 100000 in
set_option maxHeartbeats 4000000 in
def f_X12_stand_L26 (n : Nat) (x0 : Nat) (k39 : Int32 → q_Sto → Option (Int32 × q_Sto)) : Nat → Int32 → q_Sto → Option (Int32 × q_Sto)
  | 0, _, _ => none
  | j + 1, x1, s0 =>
    q_call (f_X12_aRound n x0 s0) fun r5 s4 =>
    if r5 = 0 then (
    k39 x1 s4)
    else (
    f_X12_stand_L26 n x0 k39 j (x1 + 1) s4)
set_option maxRecDepth 100000 in
set_option maxHeartbeats 4000000 in
def f_X12_stand (n : Nat) (t : Nat) (s0 : q_Sto) : Option (Int32 × q_Sto) :=
  f_X12_stand_L2 n t (fun  (s3 : q_Sto) =>
  f_X12_stand_L26 n t (fun (y7 : Int32) (s8 : q_Sto) =>
  q_call (f_X12_mostFollowed n t s8) fun r10 s9 =>
  q_st s9 (q_RF t 0) 2 1790 r10 fun s11 =>
  some (y7, s11)) n 0 s3) n 0 s0
set_option maxRecDepth 100000 in
set_option maxHeartbeats 4000000 in
theorem t_X12_stand_L2 {w : q_Wd} {cx : q_Cx} (hc : q_ok w cx RX12 cX12_stand 2 (some .int) (q_rm 7 163)) {n : Nat} {x0 : Nat} (hx0 : q_KD x0 = .inl 12) {k24 : q_Sto → Option (Int32 × q_Sto)} (hk24 : ∀  (s1 : q_Sto), q_G w cx 2 (some .int) 24 [some (q_rf w x0), none] [] s1 (k24 s1)) :
    ∀ (j : Nat) (x1 : Int32) (s0 : q_Sto), q_G w cx 2 (some .int) 2 [some (q_rf w x0), some (.int x1)] [] s0 (f_X12_stand_L2 n x0 k24 j x1 s0) := by
  intro j
  induction j with
  | zero =>
    intro _ _
    rw [f_X12_stand_L2]
    exact q_none
  | succ j ih =>
    intro x1 s0
    rw [f_X12_stand_L2]
    refine g_il1 hc dX12_stand_2 rfl (pc2 := 3) rfl ?_
    refine g_bipush hc dX12_stand_3 bp_12 (pc2 := 5) rfl ?_
    refine g_icmp_ge hc dX12_stand_5 (pc1 := 8) (pc2 := 24) rfl rfl (fun _ => ?_) (fun _ => ?_)
    · refine g_rl0 hc dX12_stand_8 rfl (pc2 := 9) rfl ?_
      refine g_getR hc fl_X12_7 rfl hx0 dX12_stand_9 (pc2 := 12) rfl ?_
      refine g_bipush hc dX12_stand_12 bp_8 (pc2 := 14) rfl ?_
      refine g_il1 hc dX12_stand_14 rfl (pc2 := 15) rfl ?_
      refine g_iadd hc dX12_stand_15 (pc2 := 16) rfl ?_
      refine g_iconst hc dX12_stand_16 ic_m1 (pc2 := 17) rfl ?_
      refine g_iast hc (kf_12_0 hx0) (kl_12_0 hx0) dX12_stand_17 (pc2 := 18) rfl (fun s2 => ?_)
      refine g_iinc hc dX12_stand_18 rfl (q_ii ic_1) (by decide) (L2 := [some (q_rf w x0), some (.int (x1 + 1))]) rfl (pc2 := 21) rfl ?_
      refine g_goto hc dX12_stand_21 (pc2 := 2) rfl ?_
      exact ih _ _
    · refine q_Gmask [true, false] (L2 := [some (q_rf w x0), none]) rfl ?_
      exact hk24 _
set_option maxRecDepth 100000 in
set_option maxHeartbeats 4000000 in
theorem t_X12_stand_L26 {w : q_Wd} {cx : q_Cx} (hc : q_ok w cx RX12 cX12_stand 2 (some .int) (q_rm 7 163)) {n : Nat} {x0 : Nat} (hx0 : q_KD x0 = .inl 12) {k39 : Int32 → q_Sto → Option (Int32 × q_Sto)} (hk39 : ∀ (y1 : Int32) (s1 : q_Sto), q_G w cx 2 (some .int) 39 [some (q_rf w x0), some (.int y1)] [] s1 (k39 y1 s1)) :
    ∀ (j : Nat) (x1 : Int32) (s0 : q_Sto), q_G w cx 2 (some .int) 26 [some (q_rf w x0), some (.int x1)] [] s0 (f_X12_stand_L26 n x0 k39 j x1 s0) := by
  intro j
  induction j with
  | zero =>
    intro _ _
    rw [f_X12_stand_L26]
    exact q_none
  | succ j ih =>
    intro x1 s0
    rw [f_X12_stand_L26]
    refine g_rl0 hc dX12_stand_26 rfl (pc2 := 27) rfl ?_
    refine g_callV0 hc (C_X12_aRound hx0) mv_X12_aRound ln_X12_342 hx0 ⟨by decide, by decide⟩ (Nat.le_of_ble_eq_true rfl) dX12_stand_27 (pc2 := 30) rfl (fun r5 s4 => ?_)
    refine g_if_eq hc dX12_stand_30 (pc1 := 39) (pc2 := 33) rfl rfl (fun _ => ?_) (fun _ => ?_)
    · exact hk39 _ _
    · refine g_iinc hc dX12_stand_33 rfl (q_ii ic_1) (by decide) (L2 := [some (q_rf w x0), some (.int (x1 + 1))]) rfl (pc2 := 36) rfl ?_
      refine g_goto hc dX12_stand_36 (pc2 := 26) rfl ?_
      exact ih _ _
set_option maxRecDepth 100000 in
set_option maxHeartbeats 4000000 in
theorem C_X12_stand {l : Launch} {w : q_Wd} {n : Nat} {t : Nat} (ht : q_KD t = .inl 12) {s0 : q_Sto} : q_C l w yX12_stand cX12_stand 2 (some .int) (q_rm 7 163) [q_rf w t] s0 (f_X12_stand n t s0) := q_CofG [some (q_rf w t), none] (by decide +kernel) rfl rfl (Nat.le_of_ble_eq_true rfl) fun cx hl hc => by
  have hc : q_ok w cx RX12 cX12_stand 2 (some .int) (q_rm 7 163) := hc
  rw [f_X12_stand]
  refine g_iconst hc dX12_stand_0 ic_0 (pc2 := 1) rfl ?_
  refine g_is1 hc dX12_stand_1 (by decide) (L2 := [some (q_rf w t), some (.int 0)]) rfl (pc2 := 2) rfl ?_
  refine t_X12_stand_L2 hc ht (fun s3 => ?_) n _ _
  refine g_iconst hc dX12_stand_24 ic_0 (pc2 := 25) rfl ?_
  refine g_is1 hc dX12_stand_25 (by decide) (L2 := [some (q_rf w t), some (.int 0)]) rfl (pc2 := 26) rfl ?_
  refine t_X12_stand_L26 hc ht (fun y7 s8 => ?_) n _ _
  refine g_rl0 hc dX12_stand_39 rfl (pc2 := 40) rfl ?_
  refine g_getR hc fl_X12_7 rfl ht dX12_stand_40 (pc2 := 43) rfl ?_
  refine g_iconst hc dX12_stand_43 ic_2 (pc2 := 44) rfl ?_
  refine g_rl0 hc dX12_stand_44 rfl (pc2 := 45) rfl ?_
  refine g_callV0 hc (C_X12_mostFollowed ht) mv_X12_mostFollowed ln_X12_345 ht ⟨by decide, by decide⟩ (Nat.le_of_ble_eq_true rfl) dX12_stand_45 (pc2 := 48) rfl (fun r10 s9 => ?_)
  refine g_iast hc (kf_12_0 ht) (kl_12_0 ht) dX12_stand_48 (pc2 := 49) rfl (fun s11 => ?_)
  refine g_il1 hc dX12_stand_49 rfl (pc2 := 50) rfl ?_
  exact g_iret hc dX12_stand_50
set_option maxRecDepth 100000 in
set_option maxHeartbeats 4000000 in
def f_X12_votes (n : Nat) (t : Nat) (s0 : q_Sto) : Option (Int32 × q_Sto) :=
  q_call (f_X12_stand n t s0) fun r2 s1 =>
  q_ld s1 (q_RF t 0) 3 1790 fun v3 =>
  q_ld s1 (q_RF t 0) 2 1790 fun v4 =>
  q_jn (fun (y5 : Int32) (s6 : q_Sto) =>
    q_st s6 (q_RF t 0) 3 1790 (v3 + y5) fun s7 =>
    q_ld s7 (q_RF t 0) 2 1790 fun v8 =>
    q_ld s7 (q_RF t 0) 2 1790 fun v9 =>
    if v9 = (-1) then (
    q_callv (f_X12_notes n t 0 v8 0 s7) fun s11 =>
    some (0, s11))
    else (
    q_ld s7 (q_RF t 0) 2 1790 fun v13 =>
    q_call (f_X12_behind n t v13 s7) fun r15 s14 =>
    q_call (f_X12_count n r15 s14) fun r17 s16 =>
    q_callv (f_X12_notes n t 0 v8 r17 s16) fun s18 =>
    some (0, s18))) fun j27 =>
  if v4 = (-1) then (
  j27 1 s1)
  else (
  j27 0 s1)
set_option maxRecDepth 100000 in
set_option maxHeartbeats 4000000 in
theorem C_X12_votes {l : Launch} {w : q_Wd} {n : Nat} {t : Nat} (ht : q_KD t = .inl 12) {s0 : q_Sto} : q_C l w yX12_votes cX12_votes 1 (none) (q_rm 8 184) [q_rf w t] s0 (f_X12_votes n t s0) := q_CofG [some (q_rf w t)] (by decide +kernel) rfl rfl (Nat.le_of_ble_eq_true rfl) fun cx hl hc => by
  have hc : q_ok w cx RX12 cX12_votes 1 (none) (q_rm 8 184) := hc
  rw [f_X12_votes]
  refine g_rl0 hc dX12_votes_0 rfl (pc2 := 1) rfl ?_
  refine g_callV0 hc (C_X12_stand ht) mv_X12_stand ln_X12_348 ht ⟨by decide, by decide⟩ (Nat.le_of_ble_eq_true rfl) dX12_votes_1 (pc2 := 4) rfl (fun r2 s1 => ?_)
  refine g_pop hc dX12_votes_4 (pc2 := 5) rfl ?_
  refine g_rl0 hc dX12_votes_5 rfl (pc2 := 6) rfl ?_
  refine g_getR hc fl_X12_7 rfl ht dX12_votes_6 (pc2 := 9) rfl ?_
  refine g_iconst hc dX12_votes_9 ic_3 (pc2 := 10) rfl ?_
  refine g_dup2 hc dX12_votes_10 rfl rfl (pc2 := 11) rfl ?_
  refine g_iald hc (kf_12_0 ht) (kl_12_0 ht) dX12_votes_11 (pc2 := 12) rfl (fun v3 => ?_)
  refine g_rl0 hc dX12_votes_12 rfl (pc2 := 13) rfl ?_
  refine g_getR hc fl_X12_7 rfl ht dX12_votes_13 (pc2 := 16) rfl ?_
  refine g_iconst hc dX12_votes_16 ic_2 (pc2 := 17) rfl ?_
  refine g_iald hc (kf_12_0 ht) (kl_12_0 ht) dX12_votes_17 (pc2 := 18) rfl (fun v4 => ?_)
  refine g_iconst hc dX12_votes_18 ic_m1 (pc2 := 19) rfl ?_
  refine g_jn (P := fun j27 => ∀ (y5 : Int32) (s6 : q_Sto), q_G w cx 1 (none) 27 [some (q_rf w t)] [.int y5, .int v3, .int 3, q_rf w (q_RF t 0)] s6 (j27 y5 s6)) (fun y5 s6 => ?_) (fun j27 hj27 => ?_)
  · refine g_iadd hc dX12_votes_27 (pc2 := 28) rfl ?_
    refine g_iast hc (kf_12_0 ht) (kl_12_0 ht) dX12_votes_28 (pc2 := 29) rfl (fun s7 => ?_)
    refine g_rl0 hc dX12_votes_29 rfl (pc2 := 30) rfl ?_
    refine g_iconst hc dX12_votes_30 ic_0 (pc2 := 31) rfl ?_
    refine g_rl0 hc dX12_votes_31 rfl (pc2 := 32) rfl ?_
    refine g_getR hc fl_X12_7 rfl ht dX12_votes_32 (pc2 := 35) rfl ?_
    refine g_iconst hc dX12_votes_35 ic_2 (pc2 := 36) rfl ?_
    refine g_iald hc (kf_12_0 ht) (kl_12_0 ht) dX12_votes_36 (pc2 := 37) rfl (fun v8 => ?_)
    refine g_rl0 hc dX12_votes_37 rfl (pc2 := 38) rfl ?_
    refine g_getR hc fl_X12_7 rfl ht dX12_votes_38 (pc2 := 41) rfl ?_
    refine g_iconst hc dX12_votes_41 ic_2 (pc2 := 42) rfl ?_
    refine g_iald hc (kf_12_0 ht) (kl_12_0 ht) dX12_votes_42 (pc2 := 43) rfl (fun v9 => ?_)
    refine g_iconst hc dX12_votes_43 ic_m1 (pc2 := 44) rfl ?_
    refine g_icmp_ne hc dX12_votes_44 (pc1 := 47) (pc2 := 51) rfl rfl (fun _ => ?_) (fun _ => ?_)
    · refine g_iconst hc dX12_votes_47 ic_0 (pc2 := 48) rfl ?_
      refine g_goto hc dX12_votes_48 (pc2 := 64) rfl ?_
      refine g_callV3v hc (C_X12_notes ht) mv_X12_notes ln_X12_351 ht ⟨by decide, by decide⟩ (Nat.le_of_ble_eq_true rfl) dX12_votes_64 (pc2 := 67) rfl (fun s11 => ?_)
      exact g_vret hc dX12_votes_67
    · refine g_rl0 hc dX12_votes_51 rfl (pc2 := 52) rfl ?_
      refine g_rl0 hc dX12_votes_52 rfl (pc2 := 53) rfl ?_
      refine g_getR hc fl_X12_7 rfl ht dX12_votes_53 (pc2 := 56) rfl ?_
      refine g_iconst hc dX12_votes_56 ic_2 (pc2 := 57) rfl ?_
      refine g_iald hc (kf_12_0 ht) (kl_12_0 ht) dX12_votes_57 (pc2 := 58) rfl (fun v13 => ?_)
      refine g_callV1 hc (C_X12_behind ht) mv_X12_behind ln_X12_317 ht ⟨by decide, by decide⟩ (Nat.le_of_ble_eq_true rfl) dX12_votes_58 (pc2 := 61) rfl (fun r15 s14 => ?_)
      refine g_callS1 hc C_X12_count mv_X12_count ln_X12_320 ⟨by decide, by decide⟩ (Nat.le_of_ble_eq_true rfl) dX12_votes_61 (pc2 := 64) rfl (fun r17 s16 => ?_)
      refine g_callV3v hc (C_X12_notes ht) mv_X12_notes ln_X12_351 ht ⟨by decide, by decide⟩ (Nat.le_of_ble_eq_true rfl) dX12_votes_64 (pc2 := 67) rfl (fun s18 => ?_)
      exact g_vret hc dX12_votes_67
  · refine g_icmp_ne hc dX12_votes_19 (pc1 := 22) (pc2 := 26) rfl rfl (fun _ => ?_) (fun _ => ?_)
    · refine g_iconst hc dX12_votes_22 ic_1 (pc2 := 23) rfl ?_
      refine g_goto hc dX12_votes_23 (pc2 := 27) rfl ?_
      exact hj27 _ _
    · refine g_iconst hc dX12_votes_26 ic_0 (pc2 := 27) rfl ?_
      exact hj27 _ _
set_option maxRecDepth 100000 in
set_option maxHeartbeats 4000000 in
def f_X12_vote (n : Nat) (t : Nat) (s0 : q_Sto) : Option (Int32 × q_Sto) :=
  q_callv (f_X12_keeps n t s0) fun s1 =>
  q_callv (f_X12_votes n t s1) fun s3 =>
  q_ld s3 (q_RF t 0) 2 1790 fun v5 =>
  some (v5, s3)
set_option maxRecDepth 100000 in
set_option maxHeartbeats 4000000 in
theorem C_X12_vote {l : Launch} {w : q_Wd} {n : Nat} {t : Nat} (ht : q_KD t = .inl 12) {s0 : q_Sto} : q_C l w yX12_vote cX12_vote 1 (some .int) (q_rm 9 204) [q_rf w t] s0 (f_X12_vote n t s0) := q_CofG [some (q_rf w t)] (by decide +kernel) rfl rfl (Nat.le_of_ble_eq_true rfl) fun cx hl hc => by
  have hc : q_ok w cx RX12 cX12_vote 1 (some .int) (q_rm 9 204) := hc
  rw [f_X12_vote]
  refine g_rl0 hc dX12_vote_0 rfl (pc2 := 1) rfl ?_
  refine g_callV0v hc (C_X12_keeps ht) mv_X12_keeps ln_X12_355 ht ⟨by decide, by decide⟩ (Nat.le_of_ble_eq_true rfl) dX12_vote_1 (pc2 := 4) rfl (fun s1 => ?_)
  refine g_rl0 hc dX12_vote_4 rfl (pc2 := 5) rfl ?_
  refine g_callV0v hc (C_X12_votes ht) mv_X12_votes ln_X12_358 ht ⟨by decide, by decide⟩ (Nat.le_of_ble_eq_true rfl) dX12_vote_5 (pc2 := 8) rfl (fun s3 => ?_)
  refine g_rl0 hc dX12_vote_8 rfl (pc2 := 9) rfl ?_
  refine g_getR hc fl_X12_7 rfl ht dX12_vote_9 (pc2 := 12) rfl ?_
  refine g_iconst hc dX12_vote_12 ic_2 (pc2 := 13) rfl ?_
  refine g_iald hc (kf_12_0 ht) (kl_12_0 ht) dX12_vote_13 (pc2 := 14) rfl (fun v5 => ?_)
  exact g_iret hc dX12_vote_14
set_option maxRecDepth 100000 in
set_option maxHeartbeats 4000000 in
def f_X12_likes (n : Nat) (t : Nat) (a0 : Int32) (a1 : Int32) (a2 : Int32) (s0 : q_Sto) : Option (Int32 × q_Sto) :=
  q_call (f_X12_likingOf n t a0 a1 s0) fun r2 s1 =>
  q_call (f_X12_lesser n 99 (r2 + a2) s1) fun r4 s3 =>
  q_call (f_X12_greater n 0 r4 s3) fun r6 s5 =>
  q_st s5 (q_RF t 0) ((20 + (5 * a0)) + a1) 1790 r6 fun s7 =>
  some (0, s7)
set_option maxRecDepth 100000 in
set_option maxHeartbeats 4000000 in
theorem C_X12_likes {l : Launch} {w : q_Wd} {n : Nat} {t : Nat} {a0 : Int32} {a1 : Int32} {a2 : Int32} (ht : q_KD t = .inl 12) {s0 : q_Sto} : q_C l w yX12_likes cX12_likes 4 (none) (q_rm 1 22) [q_rf w t, .int a0, .int a1, .int a2] s0 (f_X12_likes n t a0 a1 a2 s0) := q_CofG [some (q_rf w t), some (.int a0), some (.int a1), some (.int a2)] (by decide +kernel) rfl rfl (Nat.le_of_ble_eq_true rfl) fun cx hl hc => by
  have hc : q_ok w cx RX12 cX12_likes 4 (none) (q_rm 1 22) := hc
  rw [f_X12_likes]
  refine g_rl0 hc dX12_likes_0 rfl (pc2 := 1) rfl ?_
  refine g_getR hc fl_X12_7 rfl ht dX12_likes_1 (pc2 := 4) rfl ?_
  refine g_bipush hc dX12_likes_4 bp_20 (pc2 := 6) rfl ?_
  refine g_iconst hc dX12_likes_6 ic_5 (pc2 := 7) rfl ?_
  refine g_il1 hc dX12_likes_7 rfl (pc2 := 8) rfl ?_
  refine g_imul hc dX12_likes_8 (pc2 := 9) rfl ?_
  refine g_iadd hc dX12_likes_9 (pc2 := 10) rfl ?_
  refine g_il2 hc dX12_likes_10 rfl (pc2 := 11) rfl ?_
  refine g_iadd hc dX12_likes_11 (pc2 := 12) rfl ?_
  refine g_iconst hc dX12_likes_12 ic_0 (pc2 := 13) rfl ?_
  refine g_bipush hc dX12_likes_13 bp_99 (pc2 := 15) rfl ?_
  refine g_rl0 hc dX12_likes_15 rfl (pc2 := 16) rfl ?_
  refine g_il1 hc dX12_likes_16 rfl (pc2 := 17) rfl ?_
  refine g_il2 hc dX12_likes_17 rfl (pc2 := 18) rfl ?_
  refine g_callV2 hc (C_X12_likingOf ht) mv_X12_likingOf ln_X12_314 ht ⟨by decide, by decide⟩ (Nat.le_of_ble_eq_true rfl) dX12_likes_18 (pc2 := 21) rfl (fun r2 s1 => ?_)
  refine g_il3 hc dX12_likes_21 rfl (pc2 := 22) rfl ?_
  refine g_iadd hc dX12_likes_22 (pc2 := 23) rfl ?_
  refine g_callS2 hc C_X12_lesser mv_X12_lesser ln_X12_303 ⟨by decide, by decide⟩ (Nat.le_of_ble_eq_true rfl) dX12_likes_23 (pc2 := 26) rfl (fun r4 s3 => ?_)
  refine g_callS2 hc C_X12_greater mv_X12_greater ln_X12_307 ⟨by decide, by decide⟩ (Nat.le_of_ble_eq_true rfl) dX12_likes_26 (pc2 := 29) rfl (fun r6 s5 => ?_)
  refine g_iast hc (kf_12_0 ht) (kl_12_0 ht) dX12_likes_29 (pc2 := 30) rfl (fun s7 => ?_)
  exact g_vret hc dX12_likes_30
set_option maxRecDepth 100000 in
set_option maxHeartbeats 4000000 in
def f_X12_gives (n : Nat) (t : Nat) (a0 : Int32) (a1 : Int32) (s0 : q_Sto) : Option (Int32 × q_Sto) :=
  q_ld s0 (q_RF t 0) (80 + a0) 1790 fun v1 =>
  if v1 = 0 then (
  some (0, s0))
  else (
  q_ld s0 (q_RF t 0) (80 + a0) 1790 fun v3 =>
  q_st s0 (q_RF t 0) (80 + a0) 1790 (v3 - 1) fun s4 =>
  q_callv (f_X12_likes n t a1 a0 15 s4) fun s5 =>
  q_callv (f_X12_notes n t 1 a0 a1 s5) fun s7 =>
  some (1, s7))
set_option maxRecDepth 100000 in
set_option maxHeartbeats 4000000 in
theorem C_X12_gives {l : Launch} {w : q_Wd} {n : Nat} {t : Nat} {a0 : Int32} {a1 : Int32} (ht : q_KD t = .inl 12) {s0 : q_Sto} : q_C l w yX12_gives cX12_gives 3 (some .boolean) (q_rm 2 45) [q_rf w t, .int a0, .int a1] s0 (f_X12_gives n t a0 a1 s0) := q_CofG [some (q_rf w t), some (.int a0), some (.int a1)] (by decide +kernel) rfl rfl (Nat.le_of_ble_eq_true rfl) fun cx hl hc => by
  have hc : q_ok w cx RX12 cX12_gives 3 (some .boolean) (q_rm 2 45) := hc
  rw [f_X12_gives]
  refine g_rl0 hc dX12_gives_0 rfl (pc2 := 1) rfl ?_
  refine g_getR hc fl_X12_7 rfl ht dX12_gives_1 (pc2 := 4) rfl ?_
  refine g_bipush hc dX12_gives_4 bp_80 (pc2 := 6) rfl ?_
  refine g_il1 hc dX12_gives_6 rfl (pc2 := 7) rfl ?_
  refine g_iadd hc dX12_gives_7 (pc2 := 8) rfl ?_
  refine g_iald hc (kf_12_0 ht) (kl_12_0 ht) dX12_gives_8 (pc2 := 9) rfl (fun v1 => ?_)
  refine g_if_ne hc dX12_gives_9 (pc1 := 12) (pc2 := 14) rfl rfl (fun _ => ?_) (fun _ => ?_)
  · refine g_iconst hc dX12_gives_12 ic_0 (pc2 := 13) rfl ?_
    exact g_zret0 (by decide) hc dX12_gives_13
  · refine g_rl0 hc dX12_gives_14 rfl (pc2 := 15) rfl ?_
    refine g_getR hc fl_X12_7 rfl ht dX12_gives_15 (pc2 := 18) rfl ?_
    refine g_bipush hc dX12_gives_18 bp_80 (pc2 := 20) rfl ?_
    refine g_il1 hc dX12_gives_20 rfl (pc2 := 21) rfl ?_
    refine g_iadd hc dX12_gives_21 (pc2 := 22) rfl ?_
    refine g_dup2 hc dX12_gives_22 rfl rfl (pc2 := 23) rfl ?_
    refine g_iald hc (kf_12_0 ht) (kl_12_0 ht) dX12_gives_23 (pc2 := 24) rfl (fun v3 => ?_)
    refine g_iconst hc dX12_gives_24 ic_1 (pc2 := 25) rfl ?_
    refine g_isub hc dX12_gives_25 (pc2 := 26) rfl ?_
    refine g_iast hc (kf_12_0 ht) (kl_12_0 ht) dX12_gives_26 (pc2 := 27) rfl (fun s4 => ?_)
    refine g_rl0 hc dX12_gives_27 rfl (pc2 := 28) rfl ?_
    refine g_il2 hc dX12_gives_28 rfl (pc2 := 29) rfl ?_
    refine g_il1 hc dX12_gives_29 rfl (pc2 := 30) rfl ?_
    refine g_bipush hc dX12_gives_30 bp_15 (pc2 := 32) rfl ?_
    refine g_callV3v hc (C_X12_likes ht) mv_X12_likes ln_X12_361 ht ⟨by decide, by decide⟩ (Nat.le_of_ble_eq_true rfl) dX12_gives_32 (pc2 := 35) rfl (fun s5 => ?_)
    refine g_rl0 hc dX12_gives_35 rfl (pc2 := 36) rfl ?_
    refine g_iconst hc dX12_gives_36 ic_1 (pc2 := 37) rfl ?_
    refine g_il1 hc dX12_gives_37 rfl (pc2 := 38) rfl ?_
    refine g_il2 hc dX12_gives_38 rfl (pc2 := 39) rfl ?_
    refine g_callV3v hc (C_X12_notes ht) mv_X12_notes ln_X12_351 ht ⟨by decide, by decide⟩ (Nat.le_of_ble_eq_true rfl) dX12_gives_39 (pc2 := 42) rfl (fun s7 => ?_)
    refine g_iconst hc dX12_gives_42 ic_1 (pc2 := 43) rfl ?_
    exact g_zret0 (by decide) hc dX12_gives_43
set_option maxRecDepth 100000 in
set_option maxHeartbeats 4000000 in
def f_X12_sings_L2 (n : Nat) (x0 : Nat) (x1 : Int32) (k34 : q_Sto → Option (Int32 × q_Sto)) : Nat → Int32 → q_Sto → Option (Int32 × q_Sto)
  | 0, _, _ => none
  | j + 1, x2, s0 =>
    q_ld s0 (q_RF x0 0) 86 1790 fun v1 =>
    if x2 < v1 then (
    q_ld s0 (q_RF x0 0) (124 + x1) 1790 fun v3 =>
    q_callv (f_X12_likes n x0 x2 x1 v3 s0) fun s4 =>
    f_X12_sings_L2 n x0 x1 k34 j (x2 + 1) s4)
    else (
    k34 s0)
set_option maxRecDepth 100000 in
set_option maxHeartbeats 4000000 in
def f_X12_sings (n : Nat) (t : Nat) (a0 : Int32) (s0 : q_Sto) : Option (Int32 × q_Sto) :=
  f_X12_sings_L2 n t a0 (fun  (s6 : q_Sto) =>
  q_callv (f_X12_notes n t 2 a0 0 s6) fun s7 =>
  some (0, s7)) n 0 s0
set_option maxRecDepth 100000 in
set_option maxHeartbeats 4000000 in
theorem t_X12_sings_L2 {w : q_Wd} {cx : q_Cx} (hc : q_ok w cx RX12 cX12_sings 3 (none) (q_rm 2 45)) {n : Nat} {x0 : Nat} {x1 : Int32} (hx0 : q_KD x0 = .inl 12) {k34 : q_Sto → Option (Int32 × q_Sto)} (hk34 : ∀  (s1 : q_Sto), q_G w cx 3 (none) 34 [some (q_rf w x0), some (.int x1), none] [] s1 (k34 s1)) :
    ∀ (j : Nat) (x2 : Int32) (s0 : q_Sto), q_G w cx 3 (none) 2 [some (q_rf w x0), some (.int x1), some (.int x2)] [] s0 (f_X12_sings_L2 n x0 x1 k34 j x2 s0) := by
  intro j
  induction j with
  | zero =>
    intro _ _
    rw [f_X12_sings_L2]
    exact q_none
  | succ j ih =>
    intro x2 s0
    rw [f_X12_sings_L2]
    refine g_il2 hc dX12_sings_2 rfl (pc2 := 3) rfl ?_
    refine g_rl0 hc dX12_sings_3 rfl (pc2 := 4) rfl ?_
    refine g_getR hc fl_X12_7 rfl hx0 dX12_sings_4 (pc2 := 7) rfl ?_
    refine g_bipush hc dX12_sings_7 bp_86 (pc2 := 9) rfl ?_
    refine g_iald hc (kf_12_0 hx0) (kl_12_0 hx0) dX12_sings_9 (pc2 := 10) rfl (fun v1 => ?_)
    refine g_icmp_ge hc dX12_sings_10 (pc1 := 13) (pc2 := 34) rfl rfl (fun _ => ?_) (fun _ => ?_)
    · refine g_rl0 hc dX12_sings_13 rfl (pc2 := 14) rfl ?_
      refine g_il2 hc dX12_sings_14 rfl (pc2 := 15) rfl ?_
      refine g_il1 hc dX12_sings_15 rfl (pc2 := 16) rfl ?_
      refine g_rl0 hc dX12_sings_16 rfl (pc2 := 17) rfl ?_
      refine g_getR hc fl_X12_7 rfl hx0 dX12_sings_17 (pc2 := 20) rfl ?_
      refine g_bipush hc dX12_sings_20 bp_124 (pc2 := 22) rfl ?_
      refine g_il1 hc dX12_sings_22 rfl (pc2 := 23) rfl ?_
      refine g_iadd hc dX12_sings_23 (pc2 := 24) rfl ?_
      refine g_iald hc (kf_12_0 hx0) (kl_12_0 hx0) dX12_sings_24 (pc2 := 25) rfl (fun v3 => ?_)
      refine g_callV3v hc (C_X12_likes hx0) mv_X12_likes ln_X12_361 hx0 ⟨by decide, by decide⟩ (Nat.le_of_ble_eq_true rfl) dX12_sings_25 (pc2 := 28) rfl (fun s4 => ?_)
      refine g_iinc hc dX12_sings_28 rfl (q_ii ic_1) (by decide) (L2 := [some (q_rf w x0), some (.int x1), some (.int (x2 + 1))]) rfl (pc2 := 31) rfl ?_
      refine g_goto hc dX12_sings_31 (pc2 := 2) rfl ?_
      exact ih _ _
    · refine q_Gmask [true, true, false] (L2 := [some (q_rf w x0), some (.int x1), none]) rfl ?_
      exact hk34 _
set_option maxRecDepth 100000 in
set_option maxHeartbeats 4000000 in
theorem C_X12_sings {l : Launch} {w : q_Wd} {n : Nat} {t : Nat} {a0 : Int32} (ht : q_KD t = .inl 12) {s0 : q_Sto} : q_C l w yX12_sings cX12_sings 3 (none) (q_rm 2 45) [q_rf w t, .int a0] s0 (f_X12_sings n t a0 s0) := q_CofG [some (q_rf w t), some (.int a0), none] (by decide +kernel) rfl rfl (Nat.le_of_ble_eq_true rfl) fun cx hl hc => by
  have hc : q_ok w cx RX12 cX12_sings 3 (none) (q_rm 2 45) := hc
  rw [f_X12_sings]
  refine g_iconst hc dX12_sings_0 ic_0 (pc2 := 1) rfl ?_
  refine g_is2 hc dX12_sings_1 (by decide) (L2 := [some (q_rf w t), some (.int a0), some (.int 0)]) rfl (pc2 := 2) rfl ?_
  refine t_X12_sings_L2 hc ht (fun s6 => ?_) n _ _
  refine g_rl0 hc dX12_sings_34 rfl (pc2 := 35) rfl ?_
  refine g_iconst hc dX12_sings_35 ic_2 (pc2 := 36) rfl ?_
  refine g_il1 hc dX12_sings_36 rfl (pc2 := 37) rfl ?_
  refine g_iconst hc dX12_sings_37 ic_0 (pc2 := 38) rfl ?_
  refine g_callV3v hc (C_X12_notes ht) mv_X12_notes ln_X12_351 ht ⟨by decide, by decide⟩ (Nat.le_of_ble_eq_true rfl) dX12_sings_38 (pc2 := 41) rfl (fun s7 => ?_)
  exact g_vret hc dX12_sings_41
set_option maxRecDepth 100000 in
set_option maxHeartbeats 4000000 in
def f_X12_whips_L2 (n : Nat) (x0 : Nat) (x1 : Int32) (x2 : Int32) (k36 : q_Sto → Option (Int32 × q_Sto)) : Nat → Int32 → q_Sto → Option (Int32 × q_Sto)
  | 0, _, _ => none
  | j + 1, x3, s0 =>
    q_ld s0 (q_RF x0 0) 87 1790 fun v1 =>
    if x3 < v1 then (
    if x3 = x1 then (
    q_callv (f_X12_likes n x0 x2 x3 (-20) s0) fun s4 =>
    f_X12_whips_L2 n x0 x1 x2 k36 j (x3 + 1) s4)
    else (
    q_callv (f_X12_likes n x0 x2 x3 5 s0) fun s6 =>
    f_X12_whips_L2 n x0 x1 x2 k36 j (x3 + 1) s6))
    else (
    k36 s0)
set_option maxRecDepth 100000 in
set_option maxHeartbeats 4000000 in
def f_X12_whips (n : Nat) (t : Nat) (a0 : Int32) (a1 : Int32) (s0 : q_Sto) : Option (Int32 × q_Sto) :=
  f_X12_whips_L2 n t a0 a1 (fun  (s8 : q_Sto) =>
  q_callv (f_X12_notes n t 3 a0 a1 s8) fun s9 =>
  some (0, s9)) n 0 s0
set_option maxRecDepth 100000 in
set_option maxHeartbeats 4000000 in
theorem t_X12_whips_L2 {w : q_Wd} {cx : q_Cx} (hc : q_ok w cx RX12 cX12_whips 4 (none) (q_rm 2 45)) {n : Nat} {x0 : Nat} {x1 : Int32} {x2 : Int32} (hx0 : q_KD x0 = .inl 12) {k36 : q_Sto → Option (Int32 × q_Sto)} (hk36 : ∀  (s1 : q_Sto), q_G w cx 4 (none) 36 [some (q_rf w x0), some (.int x1), some (.int x2), none] [] s1 (k36 s1)) :
    ∀ (j : Nat) (x3 : Int32) (s0 : q_Sto), q_G w cx 4 (none) 2 [some (q_rf w x0), some (.int x1), some (.int x2), some (.int x3)] [] s0 (f_X12_whips_L2 n x0 x1 x2 k36 j x3 s0) := by
  intro j
  induction j with
  | zero =>
    intro _ _
    rw [f_X12_whips_L2]
    exact q_none
  | succ j ih =>
    intro x3 s0
    rw [f_X12_whips_L2]
    refine g_il3 hc dX12_whips_2 rfl (pc2 := 3) rfl ?_
    refine g_rl0 hc dX12_whips_3 rfl (pc2 := 4) rfl ?_
    refine g_getR hc fl_X12_7 rfl hx0 dX12_whips_4 (pc2 := 7) rfl ?_
    refine g_bipush hc dX12_whips_7 bp_87 (pc2 := 9) rfl ?_
    refine g_iald hc (kf_12_0 hx0) (kl_12_0 hx0) dX12_whips_9 (pc2 := 10) rfl (fun v1 => ?_)
    refine g_icmp_ge hc dX12_whips_10 (pc1 := 13) (pc2 := 36) rfl rfl (fun _ => ?_) (fun _ => ?_)
    · refine g_rl0 hc dX12_whips_13 rfl (pc2 := 14) rfl ?_
      refine g_il2 hc dX12_whips_14 rfl (pc2 := 15) rfl ?_
      refine g_il3 hc dX12_whips_15 rfl (pc2 := 16) rfl ?_
      refine g_il3 hc dX12_whips_16 rfl (pc2 := 17) rfl ?_
      refine g_il1 hc dX12_whips_17 rfl (pc2 := 18) rfl ?_
      refine g_icmp_ne hc dX12_whips_18 (pc1 := 21) (pc2 := 26) rfl rfl (fun _ => ?_) (fun _ => ?_)
      · refine g_bipush hc dX12_whips_21 bp_m20 (pc2 := 23) rfl ?_
        refine g_goto hc dX12_whips_23 (pc2 := 27) rfl ?_
        refine g_callV3v hc (C_X12_likes hx0) mv_X12_likes ln_X12_361 hx0 ⟨by decide, by decide⟩ (Nat.le_of_ble_eq_true rfl) dX12_whips_27 (pc2 := 30) rfl (fun s4 => ?_)
        refine g_iinc hc dX12_whips_30 rfl (q_ii ic_1) (by decide) (L2 := [some (q_rf w x0), some (.int x1), some (.int x2), some (.int (x3 + 1))]) rfl (pc2 := 33) rfl ?_
        refine g_goto hc dX12_whips_33 (pc2 := 2) rfl ?_
        exact ih _ _
      · refine g_iconst hc dX12_whips_26 ic_5 (pc2 := 27) rfl ?_
        refine g_callV3v hc (C_X12_likes hx0) mv_X12_likes ln_X12_361 hx0 ⟨by decide, by decide⟩ (Nat.le_of_ble_eq_true rfl) dX12_whips_27 (pc2 := 30) rfl (fun s6 => ?_)
        refine g_iinc hc dX12_whips_30 rfl (q_ii ic_1) (by decide) (L2 := [some (q_rf w x0), some (.int x1), some (.int x2), some (.int (x3 + 1))]) rfl (pc2 := 33) rfl ?_
        refine g_goto hc dX12_whips_33 (pc2 := 2) rfl ?_
        exact ih _ _
    · refine q_Gmask [true, true, true, false] (L2 := [some (q_rf w x0), some (.int x1), some (.int x2), none]) rfl ?_
      exact hk36 _
set_option maxRecDepth 100000 in
set_option maxHeartbeats 4000000 in
theorem C_X12_whips {l : Launch} {w : q_Wd} {n : Nat} {t : Nat} {a0 : Int32} {a1 : Int32} (ht : q_KD t = .inl 12) {s0 : q_Sto} : q_C l w yX12_whips cX12_whips 4 (none) (q_rm 2 45) [q_rf w t, .int a0, .int a1] s0 (f_X12_whips n t a0 a1 s0) := q_CofG [some (q_rf w t), some (.int a0), some (.int a1), none] (by decide +kernel) rfl rfl (Nat.le_of_ble_eq_true rfl) fun cx hl hc => by
  have hc : q_ok w cx RX12 cX12_whips 4 (none) (q_rm 2 45) := hc
  rw [f_X12_whips]
  refine g_iconst hc dX12_whips_0 ic_0 (pc2 := 1) rfl ?_
  refine g_is3 hc dX12_whips_1 (by decide) (L2 := [some (q_rf w t), some (.int a0), some (.int a1), some (.int 0)]) rfl (pc2 := 2) rfl ?_
  refine t_X12_whips_L2 hc ht (fun s8 => ?_) n _ _
  refine g_rl0 hc dX12_whips_36 rfl (pc2 := 37) rfl ?_
  refine g_iconst hc dX12_whips_37 ic_3 (pc2 := 38) rfl ?_
  refine g_il1 hc dX12_whips_38 rfl (pc2 := 39) rfl ?_
  refine g_il2 hc dX12_whips_39 rfl (pc2 := 40) rfl ?_
  refine g_callV3v hc (C_X12_notes ht) mv_X12_notes ln_X12_351 ht ⟨by decide, by decide⟩ (Nat.le_of_ble_eq_true rfl) dX12_whips_40 (pc2 := 43) rfl (fun s9 => ?_)
  exact g_vret hc dX12_whips_43
set_option maxRecDepth 100000 in
set_option maxHeartbeats 4000000 in
def f_X12_act (n : Nat) (t : Nat) (a0 : Int32) (a1 : Int32) (a2 : Int32) (s0 : q_Sto) : Option (Int32 × q_Sto) :=
  q_call (f_X12_isIn n a0 0 2 s0) fun r2 s1 =>
  if r2 = 0 then (
  some (0, s1))
  else (
  q_call (f_X12_isMan n t a1 s1) fun r5 s4 =>
  if r5 = 0 then (
  some (0, s4))
  else (
  q_jn (fun  (s7 : q_Sto) =>
    q_jn (fun  (s8 : q_Sto) =>
      q_callv (f_X12_keeps n t s8) fun s9 =>
      if a0 = 1 then (
      q_callv (f_X12_sings n t a1 s9) fun s12 =>
      some (1, s12))
      else (
      if a0 = 2 then (
      q_callv (f_X12_whips n t a1 a2 s9) fun s15 =>
      some (1, s15))
      else (
      q_call (f_X12_gives n t a1 a2 s9) fun r18 s17 =>
      q_rz r18 s17))) fun j48 =>
    if a0 = 0 then (
    q_ld s7 (q_RF t 0) (80 + a1) 1790 fun v20 =>
    if v20 = 0 then (
    some (0, s7))
    else (
    j48 s7))
    else (
    j48 s7)) fun j30 =>
  if a0 = 1 then (
  j30 s4)
  else (
  q_call (f_X12_isMule n t a2 s4) fun r24 s23 =>
  if r24 = 0 then (
  some (0, s23))
  else (
  j30 s23))))
set_option maxRecDepth 100000 in
set_option maxHeartbeats 4000000 in
theorem C_X12_act {l : Launch} {w : q_Wd} {n : Nat} {t : Nat} {a0 : Int32} {a1 : Int32} {a2 : Int32} (ht : q_KD t = .inl 12) {s0 : q_Sto} : q_C l w yX12_act cX12_act 4 (some .boolean) (q_rm 3 68) [q_rf w t, .int a0, .int a1, .int a2] s0 (f_X12_act n t a0 a1 a2 s0) := q_CofG [some (q_rf w t), some (.int a0), some (.int a1), some (.int a2)] (by decide +kernel) rfl rfl (Nat.le_of_ble_eq_true rfl) fun cx hl hc => by
  have hc : q_ok w cx RX12 cX12_act 4 (some .boolean) (q_rm 3 68) := hc
  rw [f_X12_act]
  refine g_il1 hc dX12_act_0 rfl (pc2 := 1) rfl ?_
  refine g_iconst hc dX12_act_1 ic_0 (pc2 := 2) rfl ?_
  refine g_iconst hc dX12_act_2 ic_2 (pc2 := 3) rfl ?_
  refine g_callS3 hc C_X12_isIn mv_X12_isIn ln_X12_56 ⟨by decide, by decide⟩ (Nat.le_of_ble_eq_true rfl) dX12_act_3 (pc2 := 6) rfl (fun r2 s1 => ?_)
  refine g_if_eq hc dX12_act_6 (pc1 := 46) (pc2 := 9) rfl rfl (fun _ => ?_) (fun _ => ?_)
  · refine g_iconst hc dX12_act_46 ic_0 (pc2 := 47) rfl ?_
    exact g_zret0 (by decide) hc dX12_act_47
  · refine g_rl0 hc dX12_act_9 rfl (pc2 := 10) rfl ?_
    refine g_il2 hc dX12_act_10 rfl (pc2 := 11) rfl ?_
    refine g_callV1 hc (C_X12_isMan ht) mv_X12_isMan ln_X12_75 ht ⟨by decide, by decide⟩ (Nat.le_of_ble_eq_true rfl) dX12_act_11 (pc2 := 14) rfl (fun r5 s4 => ?_)
    refine g_if_eq hc dX12_act_14 (pc1 := 46) (pc2 := 17) rfl rfl (fun _ => ?_) (fun _ => ?_)
    · refine g_iconst hc dX12_act_46 ic_0 (pc2 := 47) rfl ?_
      exact g_zret0 (by decide) hc dX12_act_47
    · refine g_il1 hc dX12_act_17 rfl (pc2 := 18) rfl ?_
      refine g_iconst hc dX12_act_18 ic_1 (pc2 := 19) rfl ?_
      refine g_jn (P := fun j30 => ∀  (s7 : q_Sto), q_G w cx 4 (some .boolean) 30 [some (q_rf w t), some (.int a0), some (.int a1), some (.int a2)] [] s7 (j30 s7)) (fun s7 => ?_) (fun j30 hj30 => ?_)
      · refine g_il1 hc dX12_act_30 rfl (pc2 := 31) rfl ?_
        refine g_jn (P := fun j48 => ∀  (s8 : q_Sto), q_G w cx 4 (some .boolean) 48 [some (q_rf w t), some (.int a0), some (.int a1), some (.int a2)] [] s8 (j48 s8)) (fun s8 => ?_) (fun j48 hj48 => ?_)
        · refine g_rl0 hc dX12_act_48 rfl (pc2 := 49) rfl ?_
          refine g_callV0v hc (C_X12_keeps ht) mv_X12_keeps ln_X12_355 ht ⟨by decide, by decide⟩ (Nat.le_of_ble_eq_true rfl) dX12_act_49 (pc2 := 52) rfl (fun s9 => ?_)
          refine g_il1 hc dX12_act_52 rfl (pc2 := 53) rfl ?_
          refine g_iconst hc dX12_act_53 ic_1 (pc2 := 54) rfl ?_
          refine g_icmp_ne hc dX12_act_54 (pc1 := 57) (pc2 := 65) rfl rfl (fun _ => ?_) (fun _ => ?_)
          · refine g_rl0 hc dX12_act_57 rfl (pc2 := 58) rfl ?_
            refine g_il2 hc dX12_act_58 rfl (pc2 := 59) rfl ?_
            refine g_callV1v hc (C_X12_sings ht) mv_X12_sings ln_X12_364 ht ⟨by decide, by decide⟩ (Nat.le_of_ble_eq_true rfl) dX12_act_59 (pc2 := 62) rfl (fun s12 => ?_)
            refine g_goto hc dX12_act_62 (pc2 := 86) rfl ?_
            refine g_iconst hc dX12_act_86 ic_1 (pc2 := 87) rfl ?_
            exact g_zret0 (by decide) hc dX12_act_87
          · refine g_il1 hc dX12_act_65 rfl (pc2 := 66) rfl ?_
            refine g_iconst hc dX12_act_66 ic_2 (pc2 := 67) rfl ?_
            refine g_icmp_ne hc dX12_act_67 (pc1 := 70) (pc2 := 79) rfl rfl (fun _ => ?_) (fun _ => ?_)
            · refine g_rl0 hc dX12_act_70 rfl (pc2 := 71) rfl ?_
              refine g_il2 hc dX12_act_71 rfl (pc2 := 72) rfl ?_
              refine g_il3 hc dX12_act_72 rfl (pc2 := 73) rfl ?_
              refine g_callV2v hc (C_X12_whips ht) mv_X12_whips ln_X12_367 ht ⟨by decide, by decide⟩ (Nat.le_of_ble_eq_true rfl) dX12_act_73 (pc2 := 76) rfl (fun s15 => ?_)
              refine g_goto hc dX12_act_76 (pc2 := 86) rfl ?_
              refine g_iconst hc dX12_act_86 ic_1 (pc2 := 87) rfl ?_
              exact g_zret0 (by decide) hc dX12_act_87
            · refine g_rl0 hc dX12_act_79 rfl (pc2 := 80) rfl ?_
              refine g_il2 hc dX12_act_80 rfl (pc2 := 81) rfl ?_
              refine g_il3 hc dX12_act_81 rfl (pc2 := 82) rfl ?_
              refine g_callV2 hc (C_X12_gives ht) mv_X12_gives ln_X12_370 ht ⟨by decide, by decide⟩ (Nat.le_of_ble_eq_true rfl) dX12_act_82 (pc2 := 85) rfl (fun r18 s17 => ?_)
              exact g_zret hc dX12_act_85
        · refine g_if_ne hc dX12_act_31 (pc1 := 34) (pc2 := 48) rfl rfl (fun _ => ?_) (fun _ => ?_)
          · refine g_rl0 hc dX12_act_34 rfl (pc2 := 35) rfl ?_
            refine g_getR hc fl_X12_7 rfl ht dX12_act_35 (pc2 := 38) rfl ?_
            refine g_bipush hc dX12_act_38 bp_80 (pc2 := 40) rfl ?_
            refine g_il2 hc dX12_act_40 rfl (pc2 := 41) rfl ?_
            refine g_iadd hc dX12_act_41 (pc2 := 42) rfl ?_
            refine g_iald hc (kf_12_0 ht) (kl_12_0 ht) dX12_act_42 (pc2 := 43) rfl (fun v20 => ?_)
            refine g_if_ne hc dX12_act_43 (pc1 := 46) (pc2 := 48) rfl rfl (fun _ => ?_) (fun _ => ?_)
            · refine g_iconst hc dX12_act_46 ic_0 (pc2 := 47) rfl ?_
              exact g_zret0 (by decide) hc dX12_act_47
            · exact hj48 _
          · exact hj48 _
      · refine g_icmp_eq hc dX12_act_19 (pc1 := 30) (pc2 := 22) rfl rfl (fun _ => ?_) (fun _ => ?_)
        · exact hj30 _
        · refine g_rl0 hc dX12_act_22 rfl (pc2 := 23) rfl ?_
          refine g_il3 hc dX12_act_23 rfl (pc2 := 24) rfl ?_
          refine g_callV1 hc (C_X12_isMule ht) mv_X12_isMule ln_X12_72 ht ⟨by decide, by decide⟩ (Nat.le_of_ble_eq_true rfl) dX12_act_24 (pc2 := 27) rfl (fun r24 s23 => ?_)
          refine g_if_eq hc dX12_act_27 (pc1 := 46) (pc2 := 30) rfl rfl (fun _ => ?_) (fun _ => ?_)
          · refine g_iconst hc dX12_act_46 ic_0 (pc2 := 47) rfl ?_
            exact g_zret0 (by decide) hc dX12_act_47
          · exact hj30 _
set_option maxRecDepth 100000 in
set_option maxHeartbeats 4000000 in
def f_X12_pathOf_L2 (n : Nat) (x0 : Nat) (x1 : Int32) (x2 : Int32) (k47 : Int32 → q_Sto → Option (Int32 × q_Sto)) : Nat → Int32 → q_Sto → Option (Int32 × q_Sto)
  | 0, _, _ => none
  | j + 1, x3, s0 =>
    q_ld s0 (q_RF x0 0) 92 1790 fun v1 =>
    if x3 < v1 then (
    q_ld s0 (q_RF x0 0) (205 + (3 * x3)) 1790 fun v3 =>
    if v3 = x1 then (
    q_ld s0 (q_RF x0 0) ((205 + (3 * x3)) + 1) 1790 fun v5 =>
    if v5 = x2 then (
    k47 x3 s0)
    else (
    f_X12_pathOf_L2 n x0 x1 x2 k47 j (x3 + 1) s0))
    else (
    f_X12_pathOf_L2 n x0 x1 x2 k47 j (x3 + 1) s0))
    else (
    some ((-1), s0))
set_option maxRecDepth 100000 in
set_option maxHeartbeats 4000000 in
def f_X12_pathOf (n : Nat) (t : Nat) (a0 : Int32) (a1 : Int32) (s0 : q_Sto) : Option (Int32 × q_Sto) :=
  f_X12_pathOf_L2 n t a0 a1 (fun (y7 : Int32) (s8 : q_Sto) =>
  q_ld s8 (q_RF t 0) ((205 + (3 * y7)) + 2) 1790 fun v9 =>
  some (v9, s8)) n 0 s0
set_option maxRecDepth 100000 in
set_option maxHeartbeats 4000000 in
theorem t_X12_pathOf_L2 {w : q_Wd} {cx : q_Cx} (hc : q_ok w cx RX12 cX12_pathOf 4 (some .int) (q_rm 0 0)) {n : Nat} {x0 : Nat} {x1 : Int32} {x2 : Int32} (hx0 : q_KD x0 = .inl 12) {k47 : Int32 → q_Sto → Option (Int32 × q_Sto)} (hk47 : ∀ (y3 : Int32) (s1 : q_Sto), q_G w cx 4 (some .int) 47 [some (q_rf w x0), none, none, some (.int y3)] [] s1 (k47 y3 s1)) :
    ∀ (j : Nat) (x3 : Int32) (s0 : q_Sto), q_G w cx 4 (some .int) 2 [some (q_rf w x0), some (.int x1), some (.int x2), some (.int x3)] [] s0 (f_X12_pathOf_L2 n x0 x1 x2 k47 j x3 s0) := by
  intro j
  induction j with
  | zero =>
    intro _ _
    rw [f_X12_pathOf_L2]
    exact q_none
  | succ j ih =>
    intro x3 s0
    rw [f_X12_pathOf_L2]
    refine g_il3 hc dX12_pathOf_2 rfl (pc2 := 3) rfl ?_
    refine g_rl0 hc dX12_pathOf_3 rfl (pc2 := 4) rfl ?_
    refine g_getR hc fl_X12_7 rfl hx0 dX12_pathOf_4 (pc2 := 7) rfl ?_
    refine g_bipush hc dX12_pathOf_7 bp_92 (pc2 := 9) rfl ?_
    refine g_iald hc (kf_12_0 hx0) (kl_12_0 hx0) dX12_pathOf_9 (pc2 := 10) rfl (fun v1 => ?_)
    refine g_icmp_ge hc dX12_pathOf_10 (pc1 := 13) (pc2 := 68) rfl rfl (fun _ => ?_) (fun _ => ?_)
    · refine g_rl0 hc dX12_pathOf_13 rfl (pc2 := 14) rfl ?_
      refine g_getR hc fl_X12_7 rfl hx0 dX12_pathOf_14 (pc2 := 17) rfl ?_
      refine g_sipush hc dX12_pathOf_17 sp_205 (pc2 := 20) rfl ?_
      refine g_iconst hc dX12_pathOf_20 ic_3 (pc2 := 21) rfl ?_
      refine g_il3 hc dX12_pathOf_21 rfl (pc2 := 22) rfl ?_
      refine g_imul hc dX12_pathOf_22 (pc2 := 23) rfl ?_
      refine g_iadd hc dX12_pathOf_23 (pc2 := 24) rfl ?_
      refine g_iald hc (kf_12_0 hx0) (kl_12_0 hx0) dX12_pathOf_24 (pc2 := 25) rfl (fun v3 => ?_)
      refine g_il1 hc dX12_pathOf_25 rfl (pc2 := 26) rfl ?_
      refine g_icmp_ne hc dX12_pathOf_26 (pc1 := 29) (pc2 := 62) rfl rfl (fun _ => ?_) (fun _ => ?_)
      · refine g_rl0 hc dX12_pathOf_29 rfl (pc2 := 30) rfl ?_
        refine g_getR hc fl_X12_7 rfl hx0 dX12_pathOf_30 (pc2 := 33) rfl ?_
        refine g_sipush hc dX12_pathOf_33 sp_205 (pc2 := 36) rfl ?_
        refine g_iconst hc dX12_pathOf_36 ic_3 (pc2 := 37) rfl ?_
        refine g_il3 hc dX12_pathOf_37 rfl (pc2 := 38) rfl ?_
        refine g_imul hc dX12_pathOf_38 (pc2 := 39) rfl ?_
        refine g_iadd hc dX12_pathOf_39 (pc2 := 40) rfl ?_
        refine g_iconst hc dX12_pathOf_40 ic_1 (pc2 := 41) rfl ?_
        refine g_iadd hc dX12_pathOf_41 (pc2 := 42) rfl ?_
        refine g_iald hc (kf_12_0 hx0) (kl_12_0 hx0) dX12_pathOf_42 (pc2 := 43) rfl (fun v5 => ?_)
        refine g_il2 hc dX12_pathOf_43 rfl (pc2 := 44) rfl ?_
        refine g_icmp_ne hc dX12_pathOf_44 (pc1 := 47) (pc2 := 62) rfl rfl (fun _ => ?_) (fun _ => ?_)
        · refine q_Gmask [true, false, false, true] (L2 := [some (q_rf w x0), none, none, some (.int x3)]) rfl ?_
          exact hk47 _ _
        · refine g_iinc hc dX12_pathOf_62 rfl (q_ii ic_1) (by decide) (L2 := [some (q_rf w x0), some (.int x1), some (.int x2), some (.int (x3 + 1))]) rfl (pc2 := 65) rfl ?_
          refine g_goto hc dX12_pathOf_65 (pc2 := 2) rfl ?_
          exact ih _ _
      · refine g_iinc hc dX12_pathOf_62 rfl (q_ii ic_1) (by decide) (L2 := [some (q_rf w x0), some (.int x1), some (.int x2), some (.int (x3 + 1))]) rfl (pc2 := 65) rfl ?_
        refine g_goto hc dX12_pathOf_65 (pc2 := 2) rfl ?_
        exact ih _ _
    · refine g_iconst hc dX12_pathOf_68 ic_m1 (pc2 := 69) rfl ?_
      exact g_iret hc dX12_pathOf_69
set_option maxRecDepth 100000 in
set_option maxHeartbeats 4000000 in
theorem C_X12_pathOf {l : Launch} {w : q_Wd} {n : Nat} {t : Nat} {a0 : Int32} {a1 : Int32} (ht : q_KD t = .inl 12) {s0 : q_Sto} : q_C l w yX12_pathOf cX12_pathOf 4 (some .int) (q_rm 0 0) [q_rf w t, .int a0, .int a1] s0 (f_X12_pathOf n t a0 a1 s0) := q_CofG [some (q_rf w t), some (.int a0), some (.int a1), none] (by decide +kernel) rfl rfl (Nat.le_of_ble_eq_true rfl) fun cx hl hc => by
  have hc : q_ok w cx RX12 cX12_pathOf 4 (some .int) (q_rm 0 0) := hc
  rw [f_X12_pathOf]
  refine g_iconst hc dX12_pathOf_0 ic_0 (pc2 := 1) rfl ?_
  refine g_is3 hc dX12_pathOf_1 (by decide) (L2 := [some (q_rf w t), some (.int a0), some (.int a1), some (.int 0)]) rfl (pc2 := 2) rfl ?_
  refine t_X12_pathOf_L2 hc ht (fun y7 s8 => ?_) n _ _
  refine g_rl0 hc dX12_pathOf_47 rfl (pc2 := 48) rfl ?_
  refine g_getR hc fl_X12_7 rfl ht dX12_pathOf_48 (pc2 := 51) rfl ?_
  refine g_sipush hc dX12_pathOf_51 sp_205 (pc2 := 54) rfl ?_
  refine g_iconst hc dX12_pathOf_54 ic_3 (pc2 := 55) rfl ?_
  refine g_il3 hc dX12_pathOf_55 rfl (pc2 := 56) rfl ?_
  refine g_imul hc dX12_pathOf_56 (pc2 := 57) rfl ?_
  refine g_iadd hc dX12_pathOf_57 (pc2 := 58) rfl ?_
  refine g_iconst hc dX12_pathOf_58 ic_2 (pc2 := 59) rfl ?_
  refine g_iadd hc dX12_pathOf_59 (pc2 := 60) rfl ?_
  refine g_iald hc (kf_12_0 ht) (kl_12_0 ht) dX12_pathOf_60 (pc2 := 61) rfl (fun v9 => ?_)
  exact g_iret hc dX12_pathOf_61
set_option maxRecDepth 100000 in
set_option maxHeartbeats 4000000 in
def f_X12_canGo (n : Nat) (t : Nat) (a0 : Int32) (s0 : q_Sto) : Option (Int32 × q_Sto) :=
  q_ld s0 (q_RF t 0) 2 1790 fun v1 =>
  if v1 = (-1) then (
  some (0, s0))
  else (
  q_ld s0 (q_RF t 0) 1 1790 fun v3 =>
  q_call (f_X12_pathOf n t v3 a0 s0) fun r5 s4 =>
  if r5 = (-1) then (
  some (0, s4))
  else (
  some (1, s4)))
set_option maxRecDepth 100000 in
set_option maxHeartbeats 4000000 in
theorem C_X12_canGo {l : Launch} {w : q_Wd} {n : Nat} {t : Nat} {a0 : Int32} (ht : q_KD t = .inl 12) {s0 : q_Sto} : q_C l w yX12_canGo cX12_canGo 2 (some .boolean) (q_rm 1 23) [q_rf w t, .int a0] s0 (f_X12_canGo n t a0 s0) := q_CofG [some (q_rf w t), some (.int a0)] (by decide +kernel) rfl rfl (Nat.le_of_ble_eq_true rfl) fun cx hl hc => by
  have hc : q_ok w cx RX12 cX12_canGo 2 (some .boolean) (q_rm 1 23) := hc
  rw [f_X12_canGo]
  refine g_rl0 hc dX12_canGo_0 rfl (pc2 := 1) rfl ?_
  refine g_getR hc fl_X12_7 rfl ht dX12_canGo_1 (pc2 := 4) rfl ?_
  refine g_iconst hc dX12_canGo_4 ic_2 (pc2 := 5) rfl ?_
  refine g_iald hc (kf_12_0 ht) (kl_12_0 ht) dX12_canGo_5 (pc2 := 6) rfl (fun v1 => ?_)
  refine g_iconst hc dX12_canGo_6 ic_m1 (pc2 := 7) rfl ?_
  refine g_icmp_eq hc dX12_canGo_7 (pc1 := 29) (pc2 := 10) rfl rfl (fun _ => ?_) (fun _ => ?_)
  · refine g_iconst hc dX12_canGo_29 ic_0 (pc2 := 30) rfl ?_
    exact g_zret0 (by decide) hc dX12_canGo_30
  · refine g_rl0 hc dX12_canGo_10 rfl (pc2 := 11) rfl ?_
    refine g_rl0 hc dX12_canGo_11 rfl (pc2 := 12) rfl ?_
    refine g_getR hc fl_X12_7 rfl ht dX12_canGo_12 (pc2 := 15) rfl ?_
    refine g_iconst hc dX12_canGo_15 ic_1 (pc2 := 16) rfl ?_
    refine g_iald hc (kf_12_0 ht) (kl_12_0 ht) dX12_canGo_16 (pc2 := 17) rfl (fun v3 => ?_)
    refine g_il1 hc dX12_canGo_17 rfl (pc2 := 18) rfl ?_
    refine g_callV2 hc (C_X12_pathOf ht) mv_X12_pathOf ln_X12_374 ht ⟨by decide, by decide⟩ (Nat.le_of_ble_eq_true rfl) dX12_canGo_18 (pc2 := 21) rfl (fun r5 s4 => ?_)
    refine g_iconst hc dX12_canGo_21 ic_m1 (pc2 := 22) rfl ?_
    refine g_icmp_eq hc dX12_canGo_22 (pc1 := 29) (pc2 := 25) rfl rfl (fun _ => ?_) (fun _ => ?_)
    · refine g_iconst hc dX12_canGo_29 ic_0 (pc2 := 30) rfl ?_
      exact g_zret0 (by decide) hc dX12_canGo_30
    · refine g_iconst hc dX12_canGo_25 ic_1 (pc2 := 26) rfl ?_
      refine g_goto hc dX12_canGo_26 (pc2 := 30) rfl ?_
      exact g_zret0 (by decide) hc dX12_canGo_30
