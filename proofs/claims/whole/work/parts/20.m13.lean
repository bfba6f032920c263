set_option maxRecDepth 100000 in
set_option maxHeartbeats 4000000 in
def f_X12_goesTo_L34 (n : Nat) (x0 : Nat) (x1 : Int32) (x2 : Int32) (k132 : Int32 → q_Sto → Option (Int32 × q_Sto)) : Nat → Int32 → Int32 → q_Sto → Option (Int32 × q_Sto)
  | 0, _, _, _ => none
  | j + 1, x3, x4, s0 =>
    q_ld s0 (q_RF x0 0) 86 1790 fun v8 =>
    if x4 < v8 then (
    if (s0 x0 26) = 0 then (
    k132 x3 s0)
    else (
    q_call (f_X12_isLame n x0 x4 s0) fun r12 s11 =>
    q_jn (fun (y13 : Int32) (s14 : q_Sto) =>
      if y13 = 0 then (
      f_X12_goesTo_L34 n x0 x1 x2 k132 j x3 (x4 + 1) s14)
      else (
      q_call (f_X12_draw n x0 1000 s14) fun r17 s16 =>
      if r17 < y13 then (
      q_ld s16 (q_RF x0 0) 7 1790 fun v19 =>
      q_st s16 (q_RF x0 0) 7 1790 (v19 ||| (1 <<< (x4 &&& 31))) fun s20 =>
      q_callv (f_X12_notes n x0 5 x4 0 s20) fun s21 =>
      f_X12_goesTo_L34 n x0 x1 x2 k132 j (x3 + 1) (x4 + 1) s21)
      else (
      f_X12_goesTo_L34 n x0 x1 x2 k132 j x3 (x4 + 1) s16))) fun j79 =>
    if r12 = 0 then (
    q_ld s11 (q_RF x0 0) 2 1790 fun v24 =>
    q_call (f_X12_riskOf n x0 x4 x2 v24 s11) fun r26 s25 =>
    j79 r26 s25)
    else (
    j79 0 s11)))
    else (
    k132 x3 s0)
set_option maxRecDepth 100000 in
set_option maxHeartbeats 4000000 in
def f_X12_goesTo (n : Nat) (t : Nat) (a0 : Int32) (s0 : q_Sto) : Option (Int32 × q_Sto) :=
  q_ld s0 (q_RF t 0) 1 1790 fun v1 =>
  q_call (f_X12_pathOf n t v1 a0 s0) fun r3 s2 =>
  q_ld s2 (q_RF t 0) 4 1790 fun v4 =>
  q_st s2 (q_RF t 0) 4 1790 (v4 + r3) fun s5 =>
  q_callv (f_X12_notes n t 4 a0 r3 s5) fun s6 =>
  f_X12_goesTo_L34 n t a0 r3 (fun (y27 : Int32) (s28 : q_Sto) =>
  q_st s28 (q_RF t 0) 1 1790 a0 fun s29 =>
  some (y27, s29)) n 0 0 s6
set_option maxRecDepth 100000 in
set_option maxHeartbeats 4000000 in
theorem t_X12_goesTo_L34 {w : q_Wd} {cx : q_Cx} (hc : q_ok w cx RX12 cX12_goesTo 6 (some .int) (q_rm 5 117)) {n : Nat} {x0 : Nat} {x1 : Int32} {x2 : Int32} (hx0 : q_KD x0 = .inl 12) {k132 : Int32 → q_Sto → Option (Int32 × q_Sto)} (hk132 : ∀ (y3 : Int32) (s1 : q_Sto), q_G w cx 6 (some .int) 132 [some (q_rf w x0), some (.int x1), none, some (.int y3), none, none] [] s1 (k132 y3 s1)) :
    ∀ (j : Nat) (x3 : Int32) (x4 : Int32) (s0 : q_Sto), q_G w cx 6 (some .int) 34 [some (q_rf w x0), some (.int x1), some (.int x2), some (.int x3), some (.int x4), none] [] s0 (f_X12_goesTo_L34 n x0 x1 x2 k132 j x3 x4 s0) := by
  intro j
  induction j with
  | zero =>
    intro _ _ _
    rw [f_X12_goesTo_L34]
    exact q_none
  | succ j ih =>
    intro x3 x4 s0
    rw [f_X12_goesTo_L34]
    refine g_iload hc dX12_goesTo_34 rfl (pc2 := 36) rfl ?_
    refine g_rl0 hc dX12_goesTo_36 rfl (pc2 := 37) rfl ?_
    refine g_getR hc fl_X12_7 rfl hx0 dX12_goesTo_37 (pc2 := 40) rfl ?_
    refine g_bipush hc dX12_goesTo_40 bp_86 (pc2 := 42) rfl ?_
    refine g_iald hc (kf_12_0 hx0) (kl_12_0 hx0) dX12_goesTo_42 (pc2 := 43) rfl (fun v8 => ?_)
    refine g_icmp_ge hc dX12_goesTo_43 (pc1 := 46) (pc2 := 132) rfl rfl (fun _ => ?_) (fun _ => ?_)
    · refine g_rl0 hc dX12_goesTo_46 rfl (pc2 := 47) rfl ?_
      refine g_getI hc fl_X12_326 rfl hx0 dX12_goesTo_47 (pc2 := 50) rfl ?_
      refine g_if_eq hc dX12_goesTo_50 (pc1 := 132) (pc2 := 53) rfl rfl (fun _ => ?_) (fun _ => ?_)
      · refine q_Gmask [true, true, false, true, false, true] (L2 := [some (q_rf w x0), some (.int x1), none, some (.int x3), none, none]) rfl ?_
        exact hk132 _ _
      · refine g_rl0 hc dX12_goesTo_53 rfl (pc2 := 54) rfl ?_
        refine g_iload hc dX12_goesTo_54 rfl (pc2 := 56) rfl ?_
        refine g_callV1 hc (C_X12_isLame hx0) mv_X12_isLame ln_X12_336 hx0 ⟨by decide, by decide⟩ (Nat.le_of_ble_eq_true rfl) dX12_goesTo_56 (pc2 := 59) rfl (fun r12 s11 => ?_)
        refine g_jn (P := fun j79 => ∀ (y13 : Int32) (s14 : q_Sto), q_G w cx 6 (some .int) 79 [some (q_rf w x0), some (.int x1), some (.int x2), some (.int x3), some (.int x4), none] [.int y13] s14 (j79 y13 s14)) (fun y13 s14 => ?_) (fun j79 hj79 => ?_)
        · refine g_istore hc dX12_goesTo_79 (by decide) (L2 := [some (q_rf w x0), some (.int x1), some (.int x2), some (.int x3), some (.int x4), some (.int y13)]) rfl (pc2 := 81) rfl ?_
          refine g_iload hc dX12_goesTo_81 rfl (pc2 := 83) rfl ?_
          refine g_if_eq hc dX12_goesTo_83 (pc1 := 126) (pc2 := 86) rfl rfl (fun _ => ?_) (fun _ => ?_)
          · refine g_iinc hc dX12_goesTo_126 rfl (q_ii ic_1) (by decide) (L2 := [some (q_rf w x0), some (.int x1), some (.int x2), some (.int x3), some (.int (x4 + 1)), some (.int y13)]) rfl (pc2 := 129) rfl ?_
            refine g_goto hc dX12_goesTo_129 (pc2 := 34) rfl ?_
            refine q_Gmask [true, true, true, true, true, false] (L2 := [some (q_rf w x0), some (.int x1), some (.int x2), some (.int x3), some (.int (x4 + 1)), none]) rfl ?_
            exact ih _ _ _
          · refine g_rl0 hc dX12_goesTo_86 rfl (pc2 := 87) rfl ?_
            refine g_sipush hc dX12_goesTo_87 sp_1000 (pc2 := 90) rfl ?_
            refine g_callV1 hc (C_X12_draw hx0) mv_X12_draw ln_X12_380 hx0 ⟨by decide, by decide⟩ (Nat.le_of_ble_eq_true rfl) dX12_goesTo_90 (pc2 := 93) rfl (fun r17 s16 => ?_)
            refine g_iload hc dX12_goesTo_93 rfl (pc2 := 95) rfl ?_
            refine g_icmp_lt hc dX12_goesTo_95 (pc1 := 101) (pc2 := 98) rfl rfl (fun _ => ?_) (fun _ => ?_)
            · refine g_rl0 hc dX12_goesTo_101 rfl (pc2 := 102) rfl ?_
              refine g_getR hc fl_X12_7 rfl hx0 dX12_goesTo_102 (pc2 := 105) rfl ?_
              refine g_bipush hc dX12_goesTo_105 bp_7 (pc2 := 107) rfl ?_
              refine g_dup2 hc dX12_goesTo_107 rfl rfl (pc2 := 108) rfl ?_
              refine g_iald hc (kf_12_0 hx0) (kl_12_0 hx0) dX12_goesTo_108 (pc2 := 109) rfl (fun v19 => ?_)
              refine g_iconst hc dX12_goesTo_109 ic_1 (pc2 := 110) rfl ?_
              refine g_iload hc dX12_goesTo_110 rfl (pc2 := 112) rfl ?_
              refine g_ishl hc dX12_goesTo_112 (pc2 := 113) rfl ?_
              refine g_ior hc dX12_goesTo_113 (pc2 := 114) rfl ?_
              refine g_iast hc (kf_12_0 hx0) (kl_12_0 hx0) dX12_goesTo_114 (pc2 := 115) rfl (fun s20 => ?_)
              refine g_rl0 hc dX12_goesTo_115 rfl (pc2 := 116) rfl ?_
              refine g_iconst hc dX12_goesTo_116 ic_5 (pc2 := 117) rfl ?_
              refine g_iload hc dX12_goesTo_117 rfl (pc2 := 119) rfl ?_
              refine g_iconst hc dX12_goesTo_119 ic_0 (pc2 := 120) rfl ?_
              refine g_callV3v hc (C_X12_notes hx0) mv_X12_notes ln_X12_351 hx0 ⟨by decide, by decide⟩ (Nat.le_of_ble_eq_true rfl) dX12_goesTo_120 (pc2 := 123) rfl (fun s21 => ?_)
              refine g_iinc hc dX12_goesTo_123 rfl (q_ii ic_1) (by decide) (L2 := [some (q_rf w x0), some (.int x1), some (.int x2), some (.int (x3 + 1)), some (.int x4), some (.int y13)]) rfl (pc2 := 126) rfl ?_
              refine g_iinc hc dX12_goesTo_126 rfl (q_ii ic_1) (by decide) (L2 := [some (q_rf w x0), some (.int x1), some (.int x2), some (.int (x3 + 1)), some (.int (x4 + 1)), some (.int y13)]) rfl (pc2 := 129) rfl ?_
              refine g_goto hc dX12_goesTo_129 (pc2 := 34) rfl ?_
              refine q_Gmask [true, true, true, true, true, false] (L2 := [some (q_rf w x0), some (.int x1), some (.int x2), some (.int (x3 + 1)), some (.int (x4 + 1)), none]) rfl ?_
              exact ih _ _ _
            · refine g_goto hc dX12_goesTo_98 (pc2 := 126) rfl ?_
              refine g_iinc hc dX12_goesTo_126 rfl (q_ii ic_1) (by decide) (L2 := [some (q_rf w x0), some (.int x1), some (.int x2), some (.int x3), some (.int (x4 + 1)), some (.int y13)]) rfl (pc2 := 129) rfl ?_
              refine g_goto hc dX12_goesTo_129 (pc2 := 34) rfl ?_
              refine q_Gmask [true, true, true, true, true, false] (L2 := [some (q_rf w x0), some (.int x1), some (.int x2), some (.int x3), some (.int (x4 + 1)), none]) rfl ?_
              exact ih _ _ _
        · refine g_if_eq hc dX12_goesTo_59 (pc1 := 66) (pc2 := 62) rfl rfl (fun _ => ?_) (fun _ => ?_)
          · refine g_rl0 hc dX12_goesTo_66 rfl (pc2 := 67) rfl ?_
            refine g_iload hc dX12_goesTo_67 rfl (pc2 := 69) rfl ?_
            refine g_il2 hc dX12_goesTo_69 rfl (pc2 := 70) rfl ?_
            refine g_rl0 hc dX12_goesTo_70 rfl (pc2 := 71) rfl ?_
            refine g_getR hc fl_X12_7 rfl hx0 dX12_goesTo_71 (pc2 := 74) rfl ?_
            refine g_iconst hc dX12_goesTo_74 ic_2 (pc2 := 75) rfl ?_
            refine g_iald hc (kf_12_0 hx0) (kl_12_0 hx0) dX12_goesTo_75 (pc2 := 76) rfl (fun v24 => ?_)
            refine g_callV3 hc (C_X12_riskOf hx0) mv_X12_riskOf ln_X12_377 hx0 ⟨by decide, by decide⟩ (Nat.le_of_ble_eq_true rfl) dX12_goesTo_76 (pc2 := 79) rfl (fun r26 s25 => ?_)
            exact hj79 _ _
          · refine g_iconst hc dX12_goesTo_62 ic_0 (pc2 := 63) rfl ?_
            refine g_goto hc dX12_goesTo_63 (pc2 := 79) rfl ?_
            exact hj79 _ _
    · refine q_Gmask [true, true, false, true, false, true] (L2 := [some (q_rf w x0), some (.int x1), none, some (.int x3), none, none]) rfl ?_
      exact hk132 _ _
set_option maxRecDepth 100000 in
set_option maxHeartbeats 4000000 in
theorem C_X12_goesTo {l : Launch} {w : q_Wd} {n : Nat} {t : Nat} {a0 : Int32} (ht : q_KD t = .inl 12) {s0 : q_Sto} : q_C l w yX12_goesTo cX12_goesTo 6 (some .int) (q_rm 5 117) [q_rf w t, .int a0] s0 (f_X12_goesTo n t a0 s0) := q_CofG [some (q_rf w t), some (.int a0), none, none, none, none] (by decide +kernel) rfl rfl (Nat.le_of_ble_eq_true rfl) fun cx hl hc => by
  have hc : q_ok w cx RX12 cX12_goesTo 6 (some .int) (q_rm 5 117) := hc
  rw [f_X12_goesTo]
  refine g_rl0 hc dX12_goesTo_0 rfl (pc2 := 1) rfl ?_
  refine g_rl0 hc dX12_goesTo_1 rfl (pc2 := 2) rfl ?_
  refine g_getR hc fl_X12_7 rfl ht dX12_goesTo_2 (pc2 := 5) rfl ?_
  refine g_iconst hc dX12_goesTo_5 ic_1 (pc2 := 6) rfl ?_
  refine g_iald hc (kf_12_0 ht) (kl_12_0 ht) dX12_goesTo_6 (pc2 := 7) rfl (fun v1 => ?_)
  refine g_il1 hc dX12_goesTo_7 rfl (pc2 := 8) rfl ?_
  refine g_callV2 hc (C_X12_pathOf ht) mv_X12_pathOf ln_X12_374 ht ⟨by decide, by decide⟩ (Nat.le_of_ble_eq_true rfl) dX12_goesTo_8 (pc2 := 11) rfl (fun r3 s2 => ?_)
  refine g_is2 hc dX12_goesTo_11 (by decide) (L2 := [some (q_rf w t), some (.int a0), some (.int r3), none, none, none]) rfl (pc2 := 12) rfl ?_
  refine g_rl0 hc dX12_goesTo_12 rfl (pc2 := 13) rfl ?_
  refine g_getR hc fl_X12_7 rfl ht dX12_goesTo_13 (pc2 := 16) rfl ?_
  refine g_iconst hc dX12_goesTo_16 ic_4 (pc2 := 17) rfl ?_
  refine g_dup2 hc dX12_goesTo_17 rfl rfl (pc2 := 18) rfl ?_
  refine g_iald hc (kf_12_0 ht) (kl_12_0 ht) dX12_goesTo_18 (pc2 := 19) rfl (fun v4 => ?_)
  refine g_il2 hc dX12_goesTo_19 rfl (pc2 := 20) rfl ?_
  refine g_iadd hc dX12_goesTo_20 (pc2 := 21) rfl ?_
  refine g_iast hc (kf_12_0 ht) (kl_12_0 ht) dX12_goesTo_21 (pc2 := 22) rfl (fun s5 => ?_)
  refine g_rl0 hc dX12_goesTo_22 rfl (pc2 := 23) rfl ?_
  refine g_iconst hc dX12_goesTo_23 ic_4 (pc2 := 24) rfl ?_
  refine g_il1 hc dX12_goesTo_24 rfl (pc2 := 25) rfl ?_
  refine g_il2 hc dX12_goesTo_25 rfl (pc2 := 26) rfl ?_
  refine g_callV3v hc (C_X12_notes ht) mv_X12_notes ln_X12_351 ht ⟨by decide, by decide⟩ (Nat.le_of_ble_eq_true rfl) dX12_goesTo_26 (pc2 := 29) rfl (fun s6 => ?_)
  refine g_iconst hc dX12_goesTo_29 ic_0 (pc2 := 30) rfl ?_
  refine g_is3 hc dX12_goesTo_30 (by decide) (L2 := [some (q_rf w t), some (.int a0), some (.int r3), some (.int 0), none, none]) rfl (pc2 := 31) rfl ?_
  refine g_iconst hc dX12_goesTo_31 ic_0 (pc2 := 32) rfl ?_
  refine g_istore hc dX12_goesTo_32 (by decide) (L2 := [some (q_rf w t), some (.int a0), some (.int r3), some (.int 0), some (.int 0), none]) rfl (pc2 := 34) rfl ?_
  refine t_X12_goesTo_L34 hc ht (fun y27 s28 => ?_) n _ _ _
  refine g_rl0 hc dX12_goesTo_132 rfl (pc2 := 133) rfl ?_
  refine g_getR hc fl_X12_7 rfl ht dX12_goesTo_133 (pc2 := 136) rfl ?_
  refine g_iconst hc dX12_goesTo_136 ic_1 (pc2 := 137) rfl ?_
  refine g_il1 hc dX12_goesTo_137 rfl (pc2 := 138) rfl ?_
  refine g_iast hc (kf_12_0 ht) (kl_12_0 ht) dX12_goesTo_138 (pc2 := 139) rfl (fun s29 => ?_)
  refine g_il3 hc dX12_goesTo_139 rfl (pc2 := 140) rfl ?_
  exact g_iret hc dX12_goesTo_140
set_option maxRecDepth 100000 in
set_option maxHeartbeats 4000000 in
def f_X12_go (n : Nat) (t : Nat) (a0 : Int32) (s0 : q_Sto) : Option (Int32 × q_Sto) :=
  q_call (f_X12_isCamp n a0 s0) fun r2 s1 =>
  if r2 = 0 then (
  some ((-1), s1))
  else (
  q_call (f_X12_canGo n t a0 s1) fun r5 s4 =>
  if r5 = 0 then (
  some ((-1), s4))
  else (
  q_callv (f_X12_keeps n t s4) fun s7 =>
  q_call (f_X12_goesTo n t a0 s7) fun r10 s9 =>
  some (r10, s9)))
set_option maxRecDepth 100000 in
set_option maxHeartbeats 4000000 in
theorem C_X12_go {l : Launch} {w : q_Wd} {n : Nat} {t : Nat} {a0 : Int32} (ht : q_KD t = .inl 12) {s0 : q_Sto} : q_C l w yX12_go cX12_go 2 (some .int) (q_rm 6 142) [q_rf w t, .int a0] s0 (f_X12_go n t a0 s0) := q_CofG [some (q_rf w t), some (.int a0)] (by decide +kernel) rfl rfl (Nat.le_of_ble_eq_true rfl) fun cx hl hc => by
  have hc : q_ok w cx RX12 cX12_go 2 (some .int) (q_rm 6 142) := hc
  rw [f_X12_go]
  refine g_il1 hc dX12_go_0 rfl (pc2 := 1) rfl ?_
  refine g_callS1 hc C_X12_isCamp mv_X12_isCamp ln_X12_68 ⟨by decide, by decide⟩ (Nat.le_of_ble_eq_true rfl) dX12_go_1 (pc2 := 4) rfl (fun r2 s1 => ?_)
  refine g_if_eq hc dX12_go_4 (pc1 := 15) (pc2 := 7) rfl rfl (fun _ => ?_) (fun _ => ?_)
  · refine g_iconst hc dX12_go_15 ic_m1 (pc2 := 16) rfl ?_
    exact g_iret hc dX12_go_16
  · refine g_rl0 hc dX12_go_7 rfl (pc2 := 8) rfl ?_
    refine g_il1 hc dX12_go_8 rfl (pc2 := 9) rfl ?_
    refine g_callV1 hc (C_X12_canGo ht) mv_X12_canGo ln_X12_383 ht ⟨by decide, by decide⟩ (Nat.le_of_ble_eq_true rfl) dX12_go_9 (pc2 := 12) rfl (fun r5 s4 => ?_)
    refine g_if_ne hc dX12_go_12 (pc1 := 15) (pc2 := 17) rfl rfl (fun _ => ?_) (fun _ => ?_)
    · refine g_iconst hc dX12_go_15 ic_m1 (pc2 := 16) rfl ?_
      exact g_iret hc dX12_go_16
    · refine g_rl0 hc dX12_go_17 rfl (pc2 := 18) rfl ?_
      refine g_callV0v hc (C_X12_keeps ht) mv_X12_keeps ln_X12_355 ht ⟨by decide, by decide⟩ (Nat.le_of_ble_eq_true rfl) dX12_go_18 (pc2 := 21) rfl (fun s7 => ?_)
      refine g_rl0 hc dX12_go_21 rfl (pc2 := 22) rfl ?_
      refine g_il1 hc dX12_go_22 rfl (pc2 := 23) rfl ?_
      refine g_callV1 hc (C_X12_goesTo ht) mv_X12_goesTo ln_X12_386 ht ⟨by decide, by decide⟩ (Nat.le_of_ble_eq_true rfl) dX12_go_23 (pc2 := 26) rfl (fun r10 s9 => ?_)
      exact g_iret hc dX12_go_26
set_option maxRecDepth 100000 in
set_option maxHeartbeats 4000000 in
def f_X12_rest (n : Nat) (t : Nat) (s0 : q_Sto) : Option (Int32 × q_Sto) :=
  q_callv (f_X12_keeps n t s0) fun s1 =>
  q_ld s1 (q_RF t 0) 7 1790 fun v3 =>
  q_call (f_X12_count n v3 s1) fun r5 s4 =>
  q_st s4 (q_RF t 0) 7 1790 0 fun s6 =>
  q_callv (f_X12_notes n t 6 (-1) 0 s6) fun s7 =>
  some (r5, s7)
set_option maxRecDepth 100000 in
set_option maxHeartbeats 4000000 in
theorem C_X12_rest {l : Launch} {w : q_Wd} {n : Nat} {t : Nat} (ht : q_KD t = .inl 12) {s0 : q_Sto} : q_C l w yX12_rest cX12_rest 2 (some .int) (q_rm 1 24) [q_rf w t] s0 (f_X12_rest n t s0) := q_CofG [some (q_rf w t), none] (by decide +kernel) rfl rfl (Nat.le_of_ble_eq_true rfl) fun cx hl hc => by
  have hc : q_ok w cx RX12 cX12_rest 2 (some .int) (q_rm 1 24) := hc
  rw [f_X12_rest]
  refine g_rl0 hc dX12_rest_0 rfl (pc2 := 1) rfl ?_
  refine g_callV0v hc (C_X12_keeps ht) mv_X12_keeps ln_X12_355 ht ⟨by decide, by decide⟩ (Nat.le_of_ble_eq_true rfl) dX12_rest_1 (pc2 := 4) rfl (fun s1 => ?_)
  refine g_rl0 hc dX12_rest_4 rfl (pc2 := 5) rfl ?_
  refine g_getR hc fl_X12_7 rfl ht dX12_rest_5 (pc2 := 8) rfl ?_
  refine g_bipush hc dX12_rest_8 bp_7 (pc2 := 10) rfl ?_
  refine g_iald hc (kf_12_0 ht) (kl_12_0 ht) dX12_rest_10 (pc2 := 11) rfl (fun v3 => ?_)
  refine g_callS1 hc C_X12_count mv_X12_count ln_X12_320 ⟨by decide, by decide⟩ (Nat.le_of_ble_eq_true rfl) dX12_rest_11 (pc2 := 14) rfl (fun r5 s4 => ?_)
  refine g_is1 hc dX12_rest_14 (by decide) (L2 := [some (q_rf w t), some (.int r5)]) rfl (pc2 := 15) rfl ?_
  refine g_rl0 hc dX12_rest_15 rfl (pc2 := 16) rfl ?_
  refine g_getR hc fl_X12_7 rfl ht dX12_rest_16 (pc2 := 19) rfl ?_
  refine g_bipush hc dX12_rest_19 bp_7 (pc2 := 21) rfl ?_
  refine g_iconst hc dX12_rest_21 ic_0 (pc2 := 22) rfl ?_
  refine g_iast hc (kf_12_0 ht) (kl_12_0 ht) dX12_rest_22 (pc2 := 23) rfl (fun s6 => ?_)
  refine g_rl0 hc dX12_rest_23 rfl (pc2 := 24) rfl ?_
  refine g_bipush hc dX12_rest_24 bp_6 (pc2 := 26) rfl ?_
  refine g_iconst hc dX12_rest_26 ic_m1 (pc2 := 27) rfl ?_
  refine g_iconst hc dX12_rest_27 ic_0 (pc2 := 28) rfl ?_
  refine g_callV3v hc (C_X12_notes ht) mv_X12_notes ln_X12_351 ht ⟨by decide, by decide⟩ (Nat.le_of_ble_eq_true rfl) dX12_rest_28 (pc2 := 31) rfl (fun s7 => ?_)
  refine g_il1 hc dX12_rest_31 rfl (pc2 := 32) rfl ?_
  exact g_iret hc dX12_rest_32
set_option maxRecDepth 100000 in
set_option maxHeartbeats 4000000 in
def f_X12_does (n : Nat) (t : Nat) (a0 : Int32) (s0 : q_Sto) : Option (Int32 × q_Sto) :=
  q_ld s0 (q_RF t 0) (a0 + 2) 1790 fun v1 =>
  q_ld s0 (q_RF t 0) (a0 + 1) 1790 fun v2 =>
  if v2 = 10 then (
  q_ld s0 (q_RF t 0) (a0 + 3) 1790 fun v4 =>
  q_call (f_X12_gives n t v1 v4 s0) fun r6 s5 =>
  q_rz r6 s5)
  else
  if v2 = 11 then (
  q_callv (f_X12_sings n t v1 s0) fun s8 =>
  some (1, s8))
  else
  if v2 = 12 then (
  q_ld s0 (q_RF t 0) (a0 + 3) 1790 fun v11 =>
  q_callv (f_X12_whips n t v1 v11 s0) fun s12 =>
  some (1, s12))
  else
  if v2 = 13 then (
  q_callv (f_X12_votes n t s0) fun s15 =>
  some (1, s15))
  else
  (q_call (f_X12_canGo n t v1 s0) fun r18 s17 =>
  if r18 = 0 then (
  some (0, s17))
  else (
  q_call (f_X12_goesTo n t v1 s17) fun r21 s20 =>
  some (1, s20)))
set_option maxRecDepth 100000 in
set_option maxHeartbeats 4000000 in
theorem C_X12_does {l : Launch} {w : q_Wd} {n : Nat} {t : Nat} {a0 : Int32} (ht : q_KD t = .inl 12) {s0 : q_Sto} : q_C l w yX12_does cX12_does 3 (some .boolean) (q_rm 9 204) [q_rf w t, .int a0] s0 (f_X12_does n t a0 s0) := q_CofG [some (q_rf w t), some (.int a0), none] (by decide +kernel) rfl rfl (Nat.le_of_ble_eq_true rfl) fun cx hl hc => by
  have hc : q_ok w cx RX12 cX12_does 3 (some .boolean) (q_rm 9 204) := hc
  rw [f_X12_does]
  refine g_rl0 hc dX12_does_0 rfl (pc2 := 1) rfl ?_
  refine g_getR hc fl_X12_7 rfl ht dX12_does_1 (pc2 := 4) rfl ?_
  refine g_il1 hc dX12_does_4 rfl (pc2 := 5) rfl ?_
  refine g_iconst hc dX12_does_5 ic_2 (pc2 := 6) rfl ?_
  refine g_iadd hc dX12_does_6 (pc2 := 7) rfl ?_
  refine g_iald hc (kf_12_0 ht) (kl_12_0 ht) dX12_does_7 (pc2 := 8) rfl (fun v1 => ?_)
  refine g_is2 hc dX12_does_8 (by decide) (L2 := [some (q_rf w t), some (.int a0), some (.int v1)]) rfl (pc2 := 9) rfl ?_
  refine g_rl0 hc dX12_does_9 rfl (pc2 := 10) rfl ?_
  refine g_getR hc fl_X12_7 rfl ht dX12_does_10 (pc2 := 13) rfl ?_
  refine g_il1 hc dX12_does_13 rfl (pc2 := 14) rfl ?_
  refine g_iconst hc dX12_does_14 ic_1 (pc2 := 15) rfl ?_
  refine g_iadd hc dX12_does_15 (pc2 := 16) rfl ?_
  refine g_iald hc (kf_12_0 ht) (kl_12_0 ht) dX12_does_16 (pc2 := 17) rfl (fun v2 => ?_)
  refine g_swc (pc2 := 0) hc dX12_does_17 (c := 10) (by decide) (by decide) rfl (pc1 := 48) rfl (fun _ => ?_) (fun c3 => ?_)
  · refine g_rl0 hc dX12_does_48 rfl (pc2 := 49) rfl ?_
    refine g_il2 hc dX12_does_49 rfl (pc2 := 50) rfl ?_
    refine g_rl0 hc dX12_does_50 rfl (pc2 := 51) rfl ?_
    refine g_getR hc fl_X12_7 rfl ht dX12_does_51 (pc2 := 54) rfl ?_
    refine g_il1 hc dX12_does_54 rfl (pc2 := 55) rfl ?_
    refine g_iconst hc dX12_does_55 ic_3 (pc2 := 56) rfl ?_
    refine g_iadd hc dX12_does_56 (pc2 := 57) rfl ?_
    refine g_iald hc (kf_12_0 ht) (kl_12_0 ht) dX12_does_57 (pc2 := 58) rfl (fun v4 => ?_)
    refine g_callV2 hc (C_X12_gives ht) mv_X12_gives ln_X12_370 ht ⟨by decide, by decide⟩ (Nat.le_of_ble_eq_true rfl) dX12_does_58 (pc2 := 61) rfl (fun r6 s5 => ?_)
    exact g_zret hc dX12_does_61
  refine g_swc (pc2 := 0) hc dX12_does_17 (c := 11) (by decide) (by decide) rfl (pc1 := 62) rfl (fun _ => ?_) (fun c7 => ?_)
  · refine g_rl0 hc dX12_does_62 rfl (pc2 := 63) rfl ?_
    refine g_il2 hc dX12_does_63 rfl (pc2 := 64) rfl ?_
    refine g_callV1v hc (C_X12_sings ht) mv_X12_sings ln_X12_364 ht ⟨by decide, by decide⟩ (Nat.le_of_ble_eq_true rfl) dX12_does_64 (pc2 := 67) rfl (fun s8 => ?_)
    refine g_iconst hc dX12_does_67 ic_1 (pc2 := 68) rfl ?_
    exact g_zret0 (by decide) hc dX12_does_68
  refine g_swc (pc2 := 0) hc dX12_does_17 (c := 12) (by decide) (by decide) rfl (pc1 := 69) rfl (fun _ => ?_) (fun c10 => ?_)
  · refine g_rl0 hc dX12_does_69 rfl (pc2 := 70) rfl ?_
    refine g_il2 hc dX12_does_70 rfl (pc2 := 71) rfl ?_
    refine g_rl0 hc dX12_does_71 rfl (pc2 := 72) rfl ?_
    refine g_getR hc fl_X12_7 rfl ht dX12_does_72 (pc2 := 75) rfl ?_
    refine g_il1 hc dX12_does_75 rfl (pc2 := 76) rfl ?_
    refine g_iconst hc dX12_does_76 ic_3 (pc2 := 77) rfl ?_
    refine g_iadd hc dX12_does_77 (pc2 := 78) rfl ?_
    refine g_iald hc (kf_12_0 ht) (kl_12_0 ht) dX12_does_78 (pc2 := 79) rfl (fun v11 => ?_)
    refine g_callV2v hc (C_X12_whips ht) mv_X12_whips ln_X12_367 ht ⟨by decide, by decide⟩ (Nat.le_of_ble_eq_true rfl) dX12_does_79 (pc2 := 82) rfl (fun s12 => ?_)
    refine g_iconst hc dX12_does_82 ic_1 (pc2 := 83) rfl ?_
    exact g_zret0 (by decide) hc dX12_does_83
  refine g_swc (pc2 := 0) hc dX12_does_17 (c := 13) (by decide) (by decide) rfl (pc1 := 84) rfl (fun _ => ?_) (fun c14 => ?_)
  · refine g_rl0 hc dX12_does_84 rfl (pc2 := 85) rfl ?_
    refine g_callV0v hc (C_X12_votes ht) mv_X12_votes ln_X12_358 ht ⟨by decide, by decide⟩ (Nat.le_of_ble_eq_true rfl) dX12_does_85 (pc2 := 88) rfl (fun s15 => ?_)
    refine g_iconst hc dX12_does_88 ic_1 (pc2 := 89) rfl ?_
    exact g_zret0 (by decide) hc dX12_does_89
  refine g_swd (pc2 := 0) hc dX12_does_17 (fun i a b e => ?_) (pc1 := 90) rfl ?_
  · rcases (show i = 10 ∨ i = 11 ∨ i = 12 ∨ i = 13 by omega) with rfl | rfl | rfl | rfl
    · exact q_swx (c := 10) (by decide) c3 e
    · exact q_swx (c := 11) (by decide) c7 e
    · exact q_swx (c := 12) (by decide) c10 e
    · exact q_swx (c := 13) (by decide) c14 e
  · refine g_rl0 hc dX12_does_90 rfl (pc2 := 91) rfl ?_
    refine g_il2 hc dX12_does_91 rfl (pc2 := 92) rfl ?_
    refine g_callV1 hc (C_X12_canGo ht) mv_X12_canGo ln_X12_383 ht ⟨by decide, by decide⟩ (Nat.le_of_ble_eq_true rfl) dX12_does_92 (pc2 := 95) rfl (fun r18 s17 => ?_)
    refine g_if_ne hc dX12_does_95 (pc1 := 98) (pc2 := 100) rfl rfl (fun _ => ?_) (fun _ => ?_)
    · refine g_iconst hc dX12_does_98 ic_0 (pc2 := 99) rfl ?_
      exact g_zret0 (by decide) hc dX12_does_99
    · refine g_rl0 hc dX12_does_100 rfl (pc2 := 101) rfl ?_
      refine g_il2 hc dX12_does_101 rfl (pc2 := 102) rfl ?_
      refine g_callV1 hc (C_X12_goesTo ht) mv_X12_goesTo ln_X12_386 ht ⟨by decide, by decide⟩ (Nat.le_of_ble_eq_true rfl) dX12_does_102 (pc2 := 105) rfl (fun r21 s20 => ?_)
      refine g_pop hc dX12_does_105 (pc2 := 106) rfl ?_
      refine g_iconst hc dX12_does_106 ic_1 (pc2 := 107) rfl ?_
      exact g_zret0 (by decide) hc dX12_does_107
set_option maxRecDepth 100000 in
set_option maxHeartbeats 4000000 in
def f_X12_aDay_L4 (n : Nat) (x0 : Nat) (k64 : Int32 → q_Sto → Option (Int32 × q_Sto)) : Nat → Int32 → Int32 → q_Sto → Option (Int32 × q_Sto)
  | 0, _, _, _ => none
  | j + 1, x1, x2, s0 =>
    q_ld s0 (q_RF x0 0) 91 1790 fun v1 =>
    if x2 < v1 then (
    q_ld s0 (q_RF x0 0) (141 + (4 * x2)) 1790 fun v3 =>
    q_ld s0 (q_RF x0 0) 0 1790 fun v4 =>
    if v3 = v4 then (
    q_call (f_X12_does n x0 (141 + (4 * x2)) s0) fun r7 s6 =>
    if r7 = 0 then (
    q_nm (x1 + 0) fun v9 =>
    f_X12_aDay_L4 n x0 k64 j v9 (x2 + 1) s6)
    else (
    q_nm (x1 + 1) fun v10 =>
    f_X12_aDay_L4 n x0 k64 j v10 (x2 + 1) s6))
    else (
    q_nm (x1 + 0) fun v11 =>
    f_X12_aDay_L4 n x0 k64 j v11 (x2 + 1) s0))
    else (
    k64 x1 s0)
set_option maxRecDepth 100000 in
set_option maxHeartbeats 4000000 in
def f_X12_aDay_L66 (n : Nat) (x0 : Nat) (x1 : Int32) (k111 : q_Sto → Option (Int32 × q_Sto)) : Nat → Int32 → q_Sto → Option (Int32 × q_Sto)
  | 0, _, _ => none
  | j + 1, x2, s0 =>
    q_ld s0 (q_RF x0 0) 86 1790 fun v14 =>
    if x2 < v14 then (
    q_ld s0 (q_RF x0 0) (8 + x2) 1790 fun v16 =>
    if v16 = (-1) then (
    f_X12_aDay_L66 n x0 x1 k111 j (x2 + 1) s0)
    else (
    q_ld s0 (q_RF x0 0) (8 + x2) 1790 fun v18 =>
    q_callv (f_X12_likes n x0 x2 v18 (-1) s0) fun s19 =>
    f_X12_aDay_L66 n x0 x1 k111 j (x2 + 1) s19))
    else (
    k111 s0)
set_option maxRecDepth 100000 in
set_option maxHeartbeats 4000000 in
def f_X12_aDay (n : Nat) (t : Nat) (s0 : q_Sto) : Option (Int32 × q_Sto) :=
  f_X12_aDay_L4 n t (fun (y12 : Int32) (s13 : q_Sto) =>
  f_X12_aDay_L66 n t y12 (fun  (s21 : q_Sto) =>
  q_ld s21 (q_RF t 0) 0 1790 fun v22 =>
  q_st s21 (q_RF t 0) 0 1790 (v22 + 1) fun s23 =>
  some (y12, s23)) n 0 s13) n 0 0 s0
set_option maxRecDepth 100000 in
set_option maxHeartbeats 4000000 in
theorem t_X12_aDay_L4 {w : q_Wd} {cx : q_Cx} (hc : q_ok w cx RX12 cX12_aDay 3 (some .int) (q_rm 10 226)) {n : Nat} {x0 : Nat} (hx0 : q_KD x0 = .inl 12) {k64 : Int32 → q_Sto → Option (Int32 × q_Sto)} (hk64 : ∀ (y1 : Int32) (s1 : q_Sto), q_G w cx 3 (some .int) 64 [some (q_rf w x0), some (.int y1), none] [] s1 (k64 y1 s1)) :
    ∀ (j : Nat) (x1 : Int32) (x2 : Int32) (s0 : q_Sto), q_G w cx 3 (some .int) 4 [some (q_rf w x0), some (.int x1), some (.int x2)] [] s0 (f_X12_aDay_L4 n x0 k64 j x1 x2 s0) := by
  intro j
  induction j with
  | zero =>
    intro _ _ _
    rw [f_X12_aDay_L4]
    exact q_none
  | succ j ih =>
    intro x1 x2 s0
    rw [f_X12_aDay_L4]
    refine g_il2 hc dX12_aDay_4 rfl (pc2 := 5) rfl ?_
    refine g_rl0 hc dX12_aDay_5 rfl (pc2 := 6) rfl ?_
    refine g_getR hc fl_X12_7 rfl hx0 dX12_aDay_6 (pc2 := 9) rfl ?_
    refine g_bipush hc dX12_aDay_9 bp_91 (pc2 := 11) rfl ?_
    refine g_iald hc (kf_12_0 hx0) (kl_12_0 hx0) dX12_aDay_11 (pc2 := 12) rfl (fun v1 => ?_)
    refine g_icmp_ge hc dX12_aDay_12 (pc1 := 15) (pc2 := 64) rfl rfl (fun _ => ?_) (fun _ => ?_)
    · refine g_il1 hc dX12_aDay_15 rfl (pc2 := 16) rfl ?_
      refine g_rl0 hc dX12_aDay_16 rfl (pc2 := 17) rfl ?_
      refine g_getR hc fl_X12_7 rfl hx0 dX12_aDay_17 (pc2 := 20) rfl ?_
      refine g_sipush hc dX12_aDay_20 sp_141 (pc2 := 23) rfl ?_
      refine g_iconst hc dX12_aDay_23 ic_4 (pc2 := 24) rfl ?_
      refine g_il2 hc dX12_aDay_24 rfl (pc2 := 25) rfl ?_
      refine g_imul hc dX12_aDay_25 (pc2 := 26) rfl ?_
      refine g_iadd hc dX12_aDay_26 (pc2 := 27) rfl ?_
      refine g_iald hc (kf_12_0 hx0) (kl_12_0 hx0) dX12_aDay_27 (pc2 := 28) rfl (fun v3 => ?_)
      refine g_rl0 hc dX12_aDay_28 rfl (pc2 := 29) rfl ?_
      refine g_getR hc fl_X12_7 rfl hx0 dX12_aDay_29 (pc2 := 32) rfl ?_
      refine g_iconst hc dX12_aDay_32 ic_0 (pc2 := 33) rfl ?_
      refine g_iald hc (kf_12_0 hx0) (kl_12_0 hx0) dX12_aDay_33 (pc2 := 34) rfl (fun v4 => ?_)
      refine g_icmp_ne hc dX12_aDay_34 (pc1 := 37) (pc2 := 55) rfl rfl (fun _ => ?_) (fun _ => ?_)
      · refine g_rl0 hc dX12_aDay_37 rfl (pc2 := 38) rfl ?_
        refine g_sipush hc dX12_aDay_38 sp_141 (pc2 := 41) rfl ?_
        refine g_iconst hc dX12_aDay_41 ic_4 (pc2 := 42) rfl ?_
        refine g_il2 hc dX12_aDay_42 rfl (pc2 := 43) rfl ?_
        refine g_imul hc dX12_aDay_43 (pc2 := 44) rfl ?_
        refine g_iadd hc dX12_aDay_44 (pc2 := 45) rfl ?_
        refine g_callV1 hc (C_X12_does hx0) mv_X12_does ln_X12_389 hx0 ⟨by decide, by decide⟩ (Nat.le_of_ble_eq_true rfl) dX12_aDay_45 (pc2 := 48) rfl (fun r7 s6 => ?_)
        refine g_if_eq hc dX12_aDay_48 (pc1 := 55) (pc2 := 51) rfl rfl (fun _ => ?_) (fun _ => ?_)
        · refine g_iconst hc dX12_aDay_55 ic_0 (pc2 := 56) rfl ?_
          refine g_iadd hc dX12_aDay_56 (pc2 := 57) rfl ?_
          refine g_nm (fun v9 => ?_)
          refine g_is1 hc dX12_aDay_57 (by decide) (L2 := [some (q_rf w x0), some (.int v9), some (.int x2)]) rfl (pc2 := 58) rfl ?_
          refine g_iinc hc dX12_aDay_58 rfl (q_ii ic_1) (by decide) (L2 := [some (q_rf w x0), some (.int v9), some (.int (x2 + 1))]) rfl (pc2 := 61) rfl ?_
          refine g_goto hc dX12_aDay_61 (pc2 := 4) rfl ?_
          exact ih _ _ _
        · refine g_iconst hc dX12_aDay_51 ic_1 (pc2 := 52) rfl ?_
          refine g_goto hc dX12_aDay_52 (pc2 := 56) rfl ?_
          refine g_iadd hc dX12_aDay_56 (pc2 := 57) rfl ?_
          refine g_nm (fun v10 => ?_)
          refine g_is1 hc dX12_aDay_57 (by decide) (L2 := [some (q_rf w x0), some (.int v10), some (.int x2)]) rfl (pc2 := 58) rfl ?_
          refine g_iinc hc dX12_aDay_58 rfl (q_ii ic_1) (by decide) (L2 := [some (q_rf w x0), some (.int v10), some (.int (x2 + 1))]) rfl (pc2 := 61) rfl ?_
          refine g_goto hc dX12_aDay_61 (pc2 := 4) rfl ?_
          exact ih _ _ _
      · refine g_iconst hc dX12_aDay_55 ic_0 (pc2 := 56) rfl ?_
        refine g_iadd hc dX12_aDay_56 (pc2 := 57) rfl ?_
        refine g_nm (fun v11 => ?_)
        refine g_is1 hc dX12_aDay_57 (by decide) (L2 := [some (q_rf w x0), some (.int v11), some (.int x2)]) rfl (pc2 := 58) rfl ?_
        refine g_iinc hc dX12_aDay_58 rfl (q_ii ic_1) (by decide) (L2 := [some (q_rf w x0), some (.int v11), some (.int (x2 + 1))]) rfl (pc2 := 61) rfl ?_
        refine g_goto hc dX12_aDay_61 (pc2 := 4) rfl ?_
        exact ih _ _ _
    · refine q_Gmask [true, true, false] (L2 := [some (q_rf w x0), some (.int x1), none]) rfl ?_
      exact hk64 _ _
set_option maxRecDepth 100000 in
set_option maxHeartbeats 4000000 in
theorem t_X12_aDay_L66 {w : q_Wd} {cx : q_Cx} (hc : q_ok w cx RX12 cX12_aDay 3 (some .int) (q_rm 10 226)) {n : Nat} {x0 : Nat} {x1 : Int32} (hx0 : q_KD x0 = .inl 12) {k111 : q_Sto → Option (Int32 × q_Sto)} (hk111 : ∀  (s1 : q_Sto), q_G w cx 3 (some .int) 111 [some (q_rf w x0), some (.int x1), none] [] s1 (k111 s1)) :
    ∀ (j : Nat) (x2 : Int32) (s0 : q_Sto), q_G w cx 3 (some .int) 66 [some (q_rf w x0), some (.int x1), some (.int x2)] [] s0 (f_X12_aDay_L66 n x0 x1 k111 j x2 s0) := by
  intro j
  induction j with
  | zero =>
    intro _ _
    rw [f_X12_aDay_L66]
    exact q_none
  | succ j ih =>
    intro x2 s0
    rw [f_X12_aDay_L66]
    refine g_il2 hc dX12_aDay_66 rfl (pc2 := 67) rfl ?_
    refine g_rl0 hc dX12_aDay_67 rfl (pc2 := 68) rfl ?_
    refine g_getR hc fl_X12_7 rfl hx0 dX12_aDay_68 (pc2 := 71) rfl ?_
    refine g_bipush hc dX12_aDay_71 bp_86 (pc2 := 73) rfl ?_
    refine g_iald hc (kf_12_0 hx0) (kl_12_0 hx0) dX12_aDay_73 (pc2 := 74) rfl (fun v14 => ?_)
    refine g_icmp_ge hc dX12_aDay_74 (pc1 := 77) (pc2 := 111) rfl rfl (fun _ => ?_) (fun _ => ?_)
    · refine g_rl0 hc dX12_aDay_77 rfl (pc2 := 78) rfl ?_
      refine g_getR hc fl_X12_7 rfl hx0 dX12_aDay_78 (pc2 := 81) rfl ?_
      refine g_bipush hc dX12_aDay_81 bp_8 (pc2 := 83) rfl ?_
      refine g_il2 hc dX12_aDay_83 rfl (pc2 := 84) rfl ?_
      refine g_iadd hc dX12_aDay_84 (pc2 := 85) rfl ?_
      refine g_iald hc (kf_12_0 hx0) (kl_12_0 hx0) dX12_aDay_85 (pc2 := 86) rfl (fun v16 => ?_)
      refine g_iconst hc dX12_aDay_86 ic_m1 (pc2 := 87) rfl ?_
      refine g_icmp_eq hc dX12_aDay_87 (pc1 := 105) (pc2 := 90) rfl rfl (fun _ => ?_) (fun _ => ?_)
      · refine g_iinc hc dX12_aDay_105 rfl (q_ii ic_1) (by decide) (L2 := [some (q_rf w x0), some (.int x1), some (.int (x2 + 1))]) rfl (pc2 := 108) rfl ?_
        refine g_goto hc dX12_aDay_108 (pc2 := 66) rfl ?_
        exact ih _ _
      · refine g_rl0 hc dX12_aDay_90 rfl (pc2 := 91) rfl ?_
        refine g_il2 hc dX12_aDay_91 rfl (pc2 := 92) rfl ?_
        refine g_rl0 hc dX12_aDay_92 rfl (pc2 := 93) rfl ?_
        refine g_getR hc fl_X12_7 rfl hx0 dX12_aDay_93 (pc2 := 96) rfl ?_
        refine g_bipush hc dX12_aDay_96 bp_8 (pc2 := 98) rfl ?_
        refine g_il2 hc dX12_aDay_98 rfl (pc2 := 99) rfl ?_
        refine g_iadd hc dX12_aDay_99 (pc2 := 100) rfl ?_
        refine g_iald hc (kf_12_0 hx0) (kl_12_0 hx0) dX12_aDay_100 (pc2 := 101) rfl (fun v18 => ?_)
        refine g_iconst hc dX12_aDay_101 ic_m1 (pc2 := 102) rfl ?_
        refine g_callV3v hc (C_X12_likes hx0) mv_X12_likes ln_X12_361 hx0 ⟨by decide, by decide⟩ (Nat.le_of_ble_eq_true rfl) dX12_aDay_102 (pc2 := 105) rfl (fun s19 => ?_)
        refine g_iinc hc dX12_aDay_105 rfl (q_ii ic_1) (by decide) (L2 := [some (q_rf w x0), some (.int x1), some (.int (x2 + 1))]) rfl (pc2 := 108) rfl ?_
        refine g_goto hc dX12_aDay_108 (pc2 := 66) rfl ?_
        exact ih _ _
    · refine q_Gmask [true, true, false] (L2 := [some (q_rf w x0), some (.int x1), none]) rfl ?_
      exact hk111 _
set_option maxRecDepth 100000 in
set_option maxHeartbeats 4000000 in
theorem C_X12_aDay {l : Launch} {w : q_Wd} {n : Nat} {t : Nat} (ht : q_KD t = .inl 12) {s0 : q_Sto} : q_C l w yX12_aDay cX12_aDay 3 (some .int) (q_rm 10 226) [q_rf w t] s0 (f_X12_aDay n t s0) := q_CofG [some (q_rf w t), none, none] (by decide +kernel) rfl rfl (Nat.le_of_ble_eq_true rfl) fun cx hl hc => by
  have hc : q_ok w cx RX12 cX12_aDay 3 (some .int) (q_rm 10 226) := hc
  rw [f_X12_aDay]
  refine g_iconst hc dX12_aDay_0 ic_0 (pc2 := 1) rfl ?_
  refine g_is1 hc dX12_aDay_1 (by decide) (L2 := [some (q_rf w t), some (.int 0), none]) rfl (pc2 := 2) rfl ?_
  refine g_iconst hc dX12_aDay_2 ic_0 (pc2 := 3) rfl ?_
  refine g_is2 hc dX12_aDay_3 (by decide) (L2 := [some (q_rf w t), some (.int 0), some (.int 0)]) rfl (pc2 := 4) rfl ?_
  refine t_X12_aDay_L4 hc ht (fun y12 s13 => ?_) n _ _ _
  refine g_iconst hc dX12_aDay_64 ic_0 (pc2 := 65) rfl ?_
  refine g_is2 hc dX12_aDay_65 (by decide) (L2 := [some (q_rf w t), some (.int y12), some (.int 0)]) rfl (pc2 := 66) rfl ?_
  refine t_X12_aDay_L66 hc ht (fun s21 => ?_) n _ _
  refine g_rl0 hc dX12_aDay_111 rfl (pc2 := 112) rfl ?_
  refine g_getR hc fl_X12_7 rfl ht dX12_aDay_112 (pc2 := 115) rfl ?_
  refine g_iconst hc dX12_aDay_115 ic_0 (pc2 := 116) rfl ?_
  refine g_dup2 hc dX12_aDay_116 rfl rfl (pc2 := 117) rfl ?_
  refine g_iald hc (kf_12_0 ht) (kl_12_0 ht) dX12_aDay_117 (pc2 := 118) rfl (fun v22 => ?_)
  refine g_iconst hc dX12_aDay_118 ic_1 (pc2 := 119) rfl ?_
  refine g_iadd hc dX12_aDay_119 (pc2 := 120) rfl ?_
  refine g_iast hc (kf_12_0 ht) (kl_12_0 ht) dX12_aDay_120 (pc2 := 121) rfl (fun s23 => ?_)
  refine g_il1 hc dX12_aDay_121 rfl (pc2 := 122) rfl ?_
  exact g_iret hc dX12_aDay_122
set_option maxRecDepth 100000 in
set_option maxHeartbeats 4000000 in
def f_X12_days_L30 (n : Nat) (x0 : Nat) (x1 : Int32) : Nat → Int32 → Int32 → q_Sto → Option (Int32 × q_Sto)
  | 0, _, _, _ => none
  | j + 1, x2, x3, s0 =>
    if x3 < x1 then (
    q_callv (f_X12_keeps n x0 s0) fun s7 =>
    q_call (f_X12_aDay n x0 s7) fun r10 s9 =>
    q_nm (x2 + r10) fun v11 =>
    f_X12_days_L30 n x0 x1  j v11 (x3 + 1) s9)
    else (
    some (x2, s0))
set_option maxRecDepth 100000 in
set_option maxHeartbeats 4000000 in
def f_X12_days (n : Nat) (t : Nat) (a0 : Int32) (s0 : q_Sto) : Option (Int32 × q_Sto) :=
  q_call (f_X12_isIn n a0 1 60 s0) fun r2 s1 =>
  if r2 = 0 then (
  some ((-1), s1))
  else (
  q_ld s1 (q_RF t 0) 0 1790 fun v4 =>
  if (v4 + a0) ≤ 9999 then (
  f_X12_days_L30 n t a0  n 0 0 s1)
  else (
  some ((-1), s1)))
set_option maxRecDepth 100000 in
set_option maxHeartbeats 4000000 in
theorem t_X12_days_L30 {w : q_Wd} {cx : q_Cx} (hc : q_ok w cx RX12 cX12_days 4 (some .int) (q_rm 11 248)) {n : Nat} {x0 : Nat} {x1 : Int32} (hx0 : q_KD x0 = .inl 12)   :
    ∀ (j : Nat) (x2 : Int32) (x3 : Int32) (s0 : q_Sto), q_G w cx 4 (some .int) 30 [some (q_rf w x0), some (.int x1), some (.int x2), some (.int x3)] [] s0 (f_X12_days_L30 n x0 x1  j x2 x3 s0) := by
  intro j
  induction j with
  | zero =>
    intro _ _ _
    rw [f_X12_days_L30]
    exact q_none
  | succ j ih =>
    intro x2 x3 s0
    rw [f_X12_days_L30]
    refine g_il3 hc dX12_days_30 rfl (pc2 := 31) rfl ?_
    refine g_il1 hc dX12_days_31 rfl (pc2 := 32) rfl ?_
    refine g_icmp_ge hc dX12_days_32 (pc1 := 35) (pc2 := 52) rfl rfl (fun _ => ?_) (fun _ => ?_)
    · refine g_rl0 hc dX12_days_35 rfl (pc2 := 36) rfl ?_
      refine g_callV0v hc (C_X12_keeps hx0) mv_X12_keeps ln_X12_355 hx0 ⟨by decide, by decide⟩ (Nat.le_of_ble_eq_true rfl) dX12_days_36 (pc2 := 39) rfl (fun s7 => ?_)
      refine g_il2 hc dX12_days_39 rfl (pc2 := 40) rfl ?_
      refine g_rl0 hc dX12_days_40 rfl (pc2 := 41) rfl ?_
      refine g_callV0 hc (C_X12_aDay hx0) mv_X12_aDay ln_X12_392 hx0 ⟨by decide, by decide⟩ (Nat.le_of_ble_eq_true rfl) dX12_days_41 (pc2 := 44) rfl (fun r10 s9 => ?_)
      refine g_iadd hc dX12_days_44 (pc2 := 45) rfl ?_
      refine g_nm (fun v11 => ?_)
      refine g_is2 hc dX12_days_45 (by decide) (L2 := [some (q_rf w x0), some (.int x1), some (.int v11), some (.int x3)]) rfl (pc2 := 46) rfl ?_
      refine g_iinc hc dX12_days_46 rfl (q_ii ic_1) (by decide) (L2 := [some (q_rf w x0), some (.int x1), some (.int v11), some (.int (x3 + 1))]) rfl (pc2 := 49) rfl ?_
      refine g_goto hc dX12_days_49 (pc2 := 30) rfl ?_
      exact ih _ _ _
    · refine g_il2 hc dX12_days_52 rfl (pc2 := 53) rfl ?_
      exact g_iret hc dX12_days_53
set_option maxRecDepth 100000 in
set_option maxHeartbeats 4000000 in
theorem C_X12_days {l : Launch} {w : q_Wd} {n : Nat} {t : Nat} {a0 : Int32} (ht : q_KD t = .inl 12) {s0 : q_Sto} : q_C l w yX12_days cX12_days 4 (some .int) (q_rm 11 248) [q_rf w t, .int a0] s0 (f_X12_days n t a0 s0) := q_CofG [some (q_rf w t), some (.int a0), none, none] (by decide +kernel) rfl rfl (Nat.le_of_ble_eq_true rfl) fun cx hl hc => by
  have hc : q_ok w cx RX12 cX12_days 4 (some .int) (q_rm 11 248) := hc
  rw [f_X12_days]
  refine g_il1 hc dX12_days_0 rfl (pc2 := 1) rfl ?_
  refine g_iconst hc dX12_days_1 ic_1 (pc2 := 2) rfl ?_
  refine g_bipush hc dX12_days_2 bp_60 (pc2 := 4) rfl ?_
  refine g_callS3 hc C_X12_isIn mv_X12_isIn ln_X12_56 ⟨by decide, by decide⟩ (Nat.le_of_ble_eq_true rfl) dX12_days_4 (pc2 := 7) rfl (fun r2 s1 => ?_)
  refine g_if_eq hc dX12_days_7 (pc1 := 24) (pc2 := 10) rfl rfl (fun _ => ?_) (fun _ => ?_)
  · refine g_iconst hc dX12_days_24 ic_m1 (pc2 := 25) rfl ?_
    exact g_iret hc dX12_days_25
  · refine g_rl0 hc dX12_days_10 rfl (pc2 := 11) rfl ?_
    refine g_getR hc fl_X12_7 rfl ht dX12_days_11 (pc2 := 14) rfl ?_
    refine g_iconst hc dX12_days_14 ic_0 (pc2 := 15) rfl ?_
    refine g_iald hc (kf_12_0 ht) (kl_12_0 ht) dX12_days_15 (pc2 := 16) rfl (fun v4 => ?_)
    refine g_il1 hc dX12_days_16 rfl (pc2 := 17) rfl ?_
    refine g_iadd hc dX12_days_17 (pc2 := 18) rfl ?_
    refine g_sipush hc dX12_days_18 sp_9999 (pc2 := 21) rfl ?_
    refine g_icmp_le hc dX12_days_21 (pc1 := 26) (pc2 := 24) rfl rfl (fun _ => ?_) (fun _ => ?_)
    · refine g_iconst hc dX12_days_26 ic_0 (pc2 := 27) rfl ?_
      refine g_is2 hc dX12_days_27 (by decide) (L2 := [some (q_rf w t), some (.int a0), some (.int 0), none]) rfl (pc2 := 28) rfl ?_
      refine g_iconst hc dX12_days_28 ic_0 (pc2 := 29) rfl ?_
      refine g_is3 hc dX12_days_29 (by decide) (L2 := [some (q_rf w t), some (.int a0), some (.int 0), some (.int 0)]) rfl (pc2 := 30) rfl ?_
      refine t_X12_days_L30 hc ht  n _ _ _
    · refine g_iconst hc dX12_days_24 ic_m1 (pc2 := 25) rfl ?_
      exact g_iret hc dX12_days_25
set_option maxRecDepth 100000 in
set_option maxHeartbeats 4000000 in
def f_X12_of (n : Nat) (t : Nat) (a0 : Int32) (a1 : Int32) (s0 : q_Sto) : Option (Int32 × q_Sto) :=
  q_call (f_X12_isMule n t a0 s0) fun r2 s1 =>
  if r2 = 0 then (
  some ((-2), s1))
  else (
  if a1 = 0 then (
  q_ld s1 (q_RF t 0) (95 + a0) 1790 fun v5 =>
  some (v5, s1))
  else
  if a1 = 1 then (
  q_ld s1 (q_RF t 0) (107 + a0) 1790 fun v7 =>
  some (v7, s1))
  else
  if a1 = 2 then (
  q_call (f_X12_isLame n t a0 s1) fun r10 s9 =>
  if r10 = 0 then (
  some (0, s9))
  else (
  some (1, s9)))
  else
  if a1 = 3 then (
  q_ld s1 (q_RF t 0) (8 + a0) 1790 fun v13 =>
  some (v13, s1))
  else
  if a1 = 4 then (
  q_ld s1 (q_RF t 0) (129 + a0) 1790 fun v15 =>
  some (v15, s1))
  else
  if a1 = 5 then (
  q_call (f_X12_needOf n t a0 s1) fun r18 s17 =>
  some (r18, s17))
  else
  (q_ld s1 (q_RF t 0) 87 1790 fun v19 =>
  q_call (f_X12_isIn n a1 10 (9 + v19) s1) fun r21 s20 =>
  if r21 = 0 then (
  q_ld s20 (q_RF t 0) 87 1790 fun v23 =>
  q_call (f_X12_isIn n a1 20 (19 + v23) s20) fun r25 s24 =>
  if r25 = 0 then (
  q_call (f_X12_isIn n a1 31 54 s24) fun r28 s27 =>
  if r28 = 0 then (
  some ((-2), s27))
  else (
  q_ld s27 (q_RF t 0) 2 1790 fun v30 =>
  q_call (f_X12_riskOf n t a0 (a1 - 30) v30 s27) fun r32 s31 =>
  some (r32, s31)))
  else (
  q_call (f_X12_leanOf n t a0 (a1 - 20) s24) fun r34 s33 =>
  some (r34, s33)))
  else (
  q_call (f_X12_likingOf n t a0 (a1 - 10) s20) fun r36 s35 =>
  some (r36, s35))))
set_option maxRecDepth 100000 in
set_option maxHeartbeats 4000000 in
theorem C_X12_of {l : Launch} {w : q_Wd} {n : Nat} {t : Nat} {a0 : Int32} {a1 : Int32} (ht : q_KD t = .inl 12) {s0 : q_Sto} : q_C l w yX12_of cX12_of 3 (some .int) (q_rm 5 117) [q_rf w t, .int a0, .int a1] s0 (f_X12_of n t a0 a1 s0) := q_CofG [some (q_rf w t), some (.int a0), some (.int a1)] (by decide +kernel) rfl rfl (Nat.le_of_ble_eq_true rfl) fun cx hl hc => by
  have hc : q_ok w cx RX12 cX12_of 3 (some .int) (q_rm 5 117) := hc
  rw [f_X12_of]
  refine g_rl0 hc dX12_of_0 rfl (pc2 := 1) rfl ?_
  refine g_il1 hc dX12_of_1 rfl (pc2 := 2) rfl ?_
  refine g_callV1 hc (C_X12_isMule ht) mv_X12_isMule ln_X12_72 ht ⟨by decide, by decide⟩ (Nat.le_of_ble_eq_true rfl) dX12_of_2 (pc2 := 5) rfl (fun r2 s1 => ?_)
  refine g_if_ne hc dX12_of_5 (pc1 := 8) (pc2 := 11) rfl rfl (fun _ => ?_) (fun _ => ?_)
  · refine g_bipush hc dX12_of_8 bp_m2 (pc2 := 10) rfl ?_
    exact g_iret hc dX12_of_10
  · refine g_il2 hc dX12_of_11 rfl (pc2 := 12) rfl ?_
    refine g_swc (pc2 := 0) hc dX12_of_12 (c := 0) (by decide) (by decide) rfl (pc1 := 52) rfl (fun _ => ?_) (fun c4 => ?_)
    · refine g_rl0 hc dX12_of_52 rfl (pc2 := 53) rfl ?_
      refine g_getR hc fl_X12_7 rfl ht dX12_of_53 (pc2 := 56) rfl ?_
      refine g_bipush hc dX12_of_56 bp_95 (pc2 := 58) rfl ?_
      refine g_il1 hc dX12_of_58 rfl (pc2 := 59) rfl ?_
      refine g_iadd hc dX12_of_59 (pc2 := 60) rfl ?_
      refine g_iald hc (kf_12_0 ht) (kl_12_0 ht) dX12_of_60 (pc2 := 61) rfl (fun v5 => ?_)
      exact g_iret hc dX12_of_61
    refine g_swc (pc2 := 0) hc dX12_of_12 (c := 1) (by decide) (by decide) rfl (pc1 := 62) rfl (fun _ => ?_) (fun c6 => ?_)
    · refine g_rl0 hc dX12_of_62 rfl (pc2 := 63) rfl ?_
      refine g_getR hc fl_X12_7 rfl ht dX12_of_63 (pc2 := 66) rfl ?_
      refine g_bipush hc dX12_of_66 bp_107 (pc2 := 68) rfl ?_
      refine g_il1 hc dX12_of_68 rfl (pc2 := 69) rfl ?_
      refine g_iadd hc dX12_of_69 (pc2 := 70) rfl ?_
      refine g_iald hc (kf_12_0 ht) (kl_12_0 ht) dX12_of_70 (pc2 := 71) rfl (fun v7 => ?_)
      exact g_iret hc dX12_of_71
    refine g_swc (pc2 := 0) hc dX12_of_12 (c := 2) (by decide) (by decide) rfl (pc1 := 72) rfl (fun _ => ?_) (fun c8 => ?_)
    · refine g_rl0 hc dX12_of_72 rfl (pc2 := 73) rfl ?_
      refine g_il1 hc dX12_of_73 rfl (pc2 := 74) rfl ?_
      refine g_callV1 hc (C_X12_isLame ht) mv_X12_isLame ln_X12_336 ht ⟨by decide, by decide⟩ (Nat.le_of_ble_eq_true rfl) dX12_of_74 (pc2 := 77) rfl (fun r10 s9 => ?_)
      refine g_if_eq hc dX12_of_77 (pc1 := 84) (pc2 := 80) rfl rfl (fun _ => ?_) (fun _ => ?_)
      · refine g_iconst hc dX12_of_84 ic_0 (pc2 := 85) rfl ?_
        exact g_iret hc dX12_of_85
      · refine g_iconst hc dX12_of_80 ic_1 (pc2 := 81) rfl ?_
        refine g_goto hc dX12_of_81 (pc2 := 85) rfl ?_
        exact g_iret hc dX12_of_85
    refine g_swc (pc2 := 0) hc dX12_of_12 (c := 3) (by decide) (by decide) rfl (pc1 := 86) rfl (fun _ => ?_) (fun c12 => ?_)
    · refine g_rl0 hc dX12_of_86 rfl (pc2 := 87) rfl ?_
      refine g_getR hc fl_X12_7 rfl ht dX12_of_87 (pc2 := 90) rfl ?_
      refine g_bipush hc dX12_of_90 bp_8 (pc2 := 92) rfl ?_
      refine g_il1 hc dX12_of_92 rfl (pc2 := 93) rfl ?_
      refine g_iadd hc dX12_of_93 (pc2 := 94) rfl ?_
      refine g_iald hc (kf_12_0 ht) (kl_12_0 ht) dX12_of_94 (pc2 := 95) rfl (fun v13 => ?_)
      exact g_iret hc dX12_of_95
    refine g_swc (pc2 := 0) hc dX12_of_12 (c := 4) (by decide) (by decide) rfl (pc1 := 96) rfl (fun _ => ?_) (fun c14 => ?_)
    · refine g_rl0 hc dX12_of_96 rfl (pc2 := 97) rfl ?_
      refine g_getR hc fl_X12_7 rfl ht dX12_of_97 (pc2 := 100) rfl ?_
      refine g_sipush hc dX12_of_100 sp_129 (pc2 := 103) rfl ?_
      refine g_il1 hc dX12_of_103 rfl (pc2 := 104) rfl ?_
      refine g_iadd hc dX12_of_104 (pc2 := 105) rfl ?_
      refine g_iald hc (kf_12_0 ht) (kl_12_0 ht) dX12_of_105 (pc2 := 106) rfl (fun v15 => ?_)
      exact g_iret hc dX12_of_106
    refine g_swc (pc2 := 0) hc dX12_of_12 (c := 5) (by decide) (by decide) rfl (pc1 := 107) rfl (fun _ => ?_) (fun c16 => ?_)
    · refine g_rl0 hc dX12_of_107 rfl (pc2 := 108) rfl ?_
      refine g_il1 hc dX12_of_108 rfl (pc2 := 109) rfl ?_
      refine g_callV1 hc (C_X12_needOf ht) mv_X12_needOf ln_X12_333 ht ⟨by decide, by decide⟩ (Nat.le_of_ble_eq_true rfl) dX12_of_109 (pc2 := 112) rfl (fun r18 s17 => ?_)
      exact g_iret hc dX12_of_112
    refine g_swd (pc2 := 0) hc dX12_of_12 (fun i a b e => ?_) (pc1 := 113) rfl ?_
    · rcases (show i = 0 ∨ i = 1 ∨ i = 2 ∨ i = 3 ∨ i = 4 ∨ i = 5 by omega) with rfl | rfl | rfl | rfl | rfl | rfl
      · exact q_swx (c := 0) (by decide) c4 e
      · exact q_swx (c := 1) (by decide) c6 e
      · exact q_swx (c := 2) (by decide) c8 e
      · exact q_swx (c := 3) (by decide) c12 e
      · exact q_swx (c := 4) (by decide) c14 e
      · exact q_swx (c := 5) (by decide) c16 e
    · refine g_il2 hc dX12_of_113 rfl (pc2 := 114) rfl ?_
      refine g_bipush hc dX12_of_114 bp_10 (pc2 := 116) rfl ?_
      refine g_bipush hc dX12_of_116 bp_9 (pc2 := 118) rfl ?_
      refine g_rl0 hc dX12_of_118 rfl (pc2 := 119) rfl ?_
      refine g_getR hc fl_X12_7 rfl ht dX12_of_119 (pc2 := 122) rfl ?_
      refine g_bipush hc dX12_of_122 bp_87 (pc2 := 124) rfl ?_
      refine g_iald hc (kf_12_0 ht) (kl_12_0 ht) dX12_of_124 (pc2 := 125) rfl (fun v19 => ?_)
      refine g_iadd hc dX12_of_125 (pc2 := 126) rfl ?_
      refine g_callS3 hc C_X12_isIn mv_X12_isIn ln_X12_56 ⟨by decide, by decide⟩ (Nat.le_of_ble_eq_true rfl) dX12_of_126 (pc2 := 129) rfl (fun r21 s20 => ?_)
      refine g_if_eq hc dX12_of_129 (pc1 := 142) (pc2 := 132) rfl rfl (fun _ => ?_) (fun _ => ?_)
      · refine g_il2 hc dX12_of_142 rfl (pc2 := 143) rfl ?_
        refine g_bipush hc dX12_of_143 bp_20 (pc2 := 145) rfl ?_
        refine g_bipush hc dX12_of_145 bp_19 (pc2 := 147) rfl ?_
        refine g_rl0 hc dX12_of_147 rfl (pc2 := 148) rfl ?_
        refine g_getR hc fl_X12_7 rfl ht dX12_of_148 (pc2 := 151) rfl ?_
        refine g_bipush hc dX12_of_151 bp_87 (pc2 := 153) rfl ?_
        refine g_iald hc (kf_12_0 ht) (kl_12_0 ht) dX12_of_153 (pc2 := 154) rfl (fun v23 => ?_)
        refine g_iadd hc dX12_of_154 (pc2 := 155) rfl ?_
        refine g_callS3 hc C_X12_isIn mv_X12_isIn ln_X12_56 ⟨by decide, by decide⟩ (Nat.le_of_ble_eq_true rfl) dX12_of_155 (pc2 := 158) rfl (fun r25 s24 => ?_)
        refine g_if_eq hc dX12_of_158 (pc1 := 171) (pc2 := 161) rfl rfl (fun _ => ?_) (fun _ => ?_)
        · refine g_il2 hc dX12_of_171 rfl (pc2 := 172) rfl ?_
          refine g_bipush hc dX12_of_172 bp_31 (pc2 := 174) rfl ?_
          refine g_bipush hc dX12_of_174 bp_54 (pc2 := 176) rfl ?_
          refine g_callS3 hc C_X12_isIn mv_X12_isIn ln_X12_56 ⟨by decide, by decide⟩ (Nat.le_of_ble_eq_true rfl) dX12_of_176 (pc2 := 179) rfl (fun r28 s27 => ?_)
          refine g_if_eq hc dX12_of_179 (pc1 := 200) (pc2 := 182) rfl rfl (fun _ => ?_) (fun _ => ?_)
          · refine g_bipush hc dX12_of_200 bp_m2 (pc2 := 202) rfl ?_
            exact g_iret hc dX12_of_202
          · refine g_rl0 hc dX12_of_182 rfl (pc2 := 183) rfl ?_
            refine g_il1 hc dX12_of_183 rfl (pc2 := 184) rfl ?_
            refine g_il2 hc dX12_of_184 rfl (pc2 := 185) rfl ?_
            refine g_bipush hc dX12_of_185 bp_30 (pc2 := 187) rfl ?_
            refine g_isub hc dX12_of_187 (pc2 := 188) rfl ?_
            refine g_rl0 hc dX12_of_188 rfl (pc2 := 189) rfl ?_
            refine g_getR hc fl_X12_7 rfl ht dX12_of_189 (pc2 := 192) rfl ?_
            refine g_iconst hc dX12_of_192 ic_2 (pc2 := 193) rfl ?_
            refine g_iald hc (kf_12_0 ht) (kl_12_0 ht) dX12_of_193 (pc2 := 194) rfl (fun v30 => ?_)
            refine g_callV3 hc (C_X12_riskOf ht) mv_X12_riskOf ln_X12_377 ht ⟨by decide, by decide⟩ (Nat.le_of_ble_eq_true rfl) dX12_of_194 (pc2 := 197) rfl (fun r32 s31 => ?_)
            refine g_goto hc dX12_of_197 (pc2 := 202) rfl ?_
            exact g_iret hc dX12_of_202
        · refine g_rl0 hc dX12_of_161 rfl (pc2 := 162) rfl ?_
          refine g_il1 hc dX12_of_162 rfl (pc2 := 163) rfl ?_
          refine g_il2 hc dX12_of_163 rfl (pc2 := 164) rfl ?_
          refine g_bipush hc dX12_of_164 bp_20 (pc2 := 166) rfl ?_
          refine g_isub hc dX12_of_166 (pc2 := 167) rfl ?_
          refine g_callV2 hc (C_X12_leanOf ht) mv_X12_leanOf ln_X12_330 ht ⟨by decide, by decide⟩ (Nat.le_of_ble_eq_true rfl) dX12_of_167 (pc2 := 170) rfl (fun r34 s33 => ?_)
          exact g_iret hc dX12_of_170
      · refine g_rl0 hc dX12_of_132 rfl (pc2 := 133) rfl ?_
        refine g_il1 hc dX12_of_133 rfl (pc2 := 134) rfl ?_
        refine g_il2 hc dX12_of_134 rfl (pc2 := 135) rfl ?_
        refine g_bipush hc dX12_of_135 bp_10 (pc2 := 137) rfl ?_
        refine g_isub hc dX12_of_137 (pc2 := 138) rfl ?_
        refine g_callV2 hc (C_X12_likingOf ht) mv_X12_likingOf ln_X12_314 ht ⟨by decide, by decide⟩ (Nat.le_of_ble_eq_true rfl) dX12_of_138 (pc2 := 141) rfl (fun r36 s35 => ?_)
        exact g_iret hc dX12_of_141
set_option maxRecDepth 100000 in
set_option maxHeartbeats 4000000 in
def f_X12_manOf (n : Nat) (t : Nat) (a0 : Int32) (a1 : Int32) (s0 : q_Sto) : Option (Int32 × q_Sto) :=
  q_call (f_X12_isMan n t a0 s0) fun r2 s1 =>
  if r2 = 0 then (
  some ((-1), s1))
  else (
  if a1 = 0 then (
  q_ld s1 (q_RF t 0) (80 + a0) 1790 fun v5 =>
  some (v5, s1))
  else (
  if a1 = 1 then (
  q_ld s1 (q_RF t 0) (119 + a0) 1790 fun v7 =>
  some (v7, s1))
  else (
  if a1 = 2 then (
  q_ld s1 (q_RF t 0) (124 + a0) 1790 fun v9 =>
  some (v9, s1))
  else (
  if a1 = 3 then (
  q_call (f_X12_behind n t a0 s1) fun r12 s11 =>
  some (r12, s11))
  else (
  some ((-1), s1))))))
set_option maxRecDepth 100000 in
set_option maxHeartbeats 4000000 in
theorem C_X12_manOf {l : Launch} {w : q_Wd} {n : Nat} {t : Nat} {a0 : Int32} {a1 : Int32} (ht : q_KD t = .inl 12) {s0 : q_Sto} : q_C l w yX12_manOf cX12_manOf 3 (some .int) (q_rm 2 43) [q_rf w t, .int a0, .int a1] s0 (f_X12_manOf n t a0 a1 s0) := q_CofG [some (q_rf w t), some (.int a0), some (.int a1)] (by decide +kernel) rfl rfl (Nat.le_of_ble_eq_true rfl) fun cx hl hc => by
  have hc : q_ok w cx RX12 cX12_manOf 3 (some .int) (q_rm 2 43) := hc
  rw [f_X12_manOf]
  refine g_rl0 hc dX12_manOf_0 rfl (pc2 := 1) rfl ?_
  refine g_il1 hc dX12_manOf_1 rfl (pc2 := 2) rfl ?_
  refine g_callV1 hc (C_X12_isMan ht) mv_X12_isMan ln_X12_75 ht ⟨by decide, by decide⟩ (Nat.le_of_ble_eq_true rfl) dX12_manOf_2 (pc2 := 5) rfl (fun r2 s1 => ?_)
  refine g_if_ne hc dX12_manOf_5 (pc1 := 8) (pc2 := 10) rfl rfl (fun _ => ?_) (fun _ => ?_)
  · refine g_iconst hc dX12_manOf_8 ic_m1 (pc2 := 9) rfl ?_
    exact g_iret hc dX12_manOf_9
  · refine g_il2 hc dX12_manOf_10 rfl (pc2 := 11) rfl ?_
    refine g_if_ne hc dX12_manOf_11 (pc1 := 14) (pc2 := 26) rfl rfl (fun _ => ?_) (fun _ => ?_)
    · refine g_rl0 hc dX12_manOf_14 rfl (pc2 := 15) rfl ?_
      refine g_getR hc fl_X12_7 rfl ht dX12_manOf_15 (pc2 := 18) rfl ?_
      refine g_bipush hc dX12_manOf_18 bp_80 (pc2 := 20) rfl ?_
      refine g_il1 hc dX12_manOf_20 rfl (pc2 := 21) rfl ?_
      refine g_iadd hc dX12_manOf_21 (pc2 := 22) rfl ?_
      refine g_iald hc (kf_12_0 ht) (kl_12_0 ht) dX12_manOf_22 (pc2 := 23) rfl (fun v5 => ?_)
      refine g_goto hc dX12_manOf_23 (pc2 := 74) rfl ?_
      exact g_iret hc dX12_manOf_74
    · refine g_il2 hc dX12_manOf_26 rfl (pc2 := 27) rfl ?_
      refine g_iconst hc dX12_manOf_27 ic_1 (pc2 := 28) rfl ?_
      refine g_icmp_ne hc dX12_manOf_28 (pc1 := 31) (pc2 := 43) rfl rfl (fun _ => ?_) (fun _ => ?_)
      · refine g_rl0 hc dX12_manOf_31 rfl (pc2 := 32) rfl ?_
        refine g_getR hc fl_X12_7 rfl ht dX12_manOf_32 (pc2 := 35) rfl ?_
        refine g_bipush hc dX12_manOf_35 bp_119 (pc2 := 37) rfl ?_
        refine g_il1 hc dX12_manOf_37 rfl (pc2 := 38) rfl ?_
        refine g_iadd hc dX12_manOf_38 (pc2 := 39) rfl ?_
        refine g_iald hc (kf_12_0 ht) (kl_12_0 ht) dX12_manOf_39 (pc2 := 40) rfl (fun v7 => ?_)
        refine g_goto hc dX12_manOf_40 (pc2 := 74) rfl ?_
        exact g_iret hc dX12_manOf_74
      · refine g_il2 hc dX12_manOf_43 rfl (pc2 := 44) rfl ?_
        refine g_iconst hc dX12_manOf_44 ic_2 (pc2 := 45) rfl ?_
        refine g_icmp_ne hc dX12_manOf_45 (pc1 := 48) (pc2 := 60) rfl rfl (fun _ => ?_) (fun _ => ?_)
        · refine g_rl0 hc dX12_manOf_48 rfl (pc2 := 49) rfl ?_
          refine g_getR hc fl_X12_7 rfl ht dX12_manOf_49 (pc2 := 52) rfl ?_
          refine g_bipush hc dX12_manOf_52 bp_124 (pc2 := 54) rfl ?_
          refine g_il1 hc dX12_manOf_54 rfl (pc2 := 55) rfl ?_
          refine g_iadd hc dX12_manOf_55 (pc2 := 56) rfl ?_
          refine g_iald hc (kf_12_0 ht) (kl_12_0 ht) dX12_manOf_56 (pc2 := 57) rfl (fun v9 => ?_)
          refine g_goto hc dX12_manOf_57 (pc2 := 74) rfl ?_
          exact g_iret hc dX12_manOf_74
        · refine g_il2 hc dX12_manOf_60 rfl (pc2 := 61) rfl ?_
          refine g_iconst hc dX12_manOf_61 ic_3 (pc2 := 62) rfl ?_
          refine g_icmp_ne hc dX12_manOf_62 (pc1 := 65) (pc2 := 73) rfl rfl (fun _ => ?_) (fun _ => ?_)
          · refine g_rl0 hc dX12_manOf_65 rfl (pc2 := 66) rfl ?_
            refine g_il1 hc dX12_manOf_66 rfl (pc2 := 67) rfl ?_
            refine g_callV1 hc (C_X12_behind ht) mv_X12_behind ln_X12_317 ht ⟨by decide, by decide⟩ (Nat.le_of_ble_eq_true rfl) dX12_manOf_67 (pc2 := 70) rfl (fun r12 s11 => ?_)
            refine g_goto hc dX12_manOf_70 (pc2 := 74) rfl ?_
            exact g_iret hc dX12_manOf_74
          · refine g_iconst hc dX12_manOf_73 ic_m1 (pc2 := 74) rfl ?_
            exact g_iret hc dX12_manOf_74
set_option maxRecDepth 100000 in
set_option maxHeartbeats 4000000 in
def f_X12_path (n : Nat) (t : Nat) (a0 : Int32) (a1 : Int32) (s0 : q_Sto) : Option (Int32 × q_Sto) :=
  q_call (f_X12_isCamp n a0 s0) fun r2 s1 =>
  if r2 = 0 then (
  some ((-1), s1))
  else (
  q_call (f_X12_isCamp n a1 s1) fun r5 s4 =>
  if r5 = 0 then (
  some ((-1), s4))
  else (
  q_call (f_X12_pathOf n t a0 a1 s4) fun r8 s7 =>
  some (r8, s7)))
set_option maxRecDepth 100000 in
set_option maxHeartbeats 4000000 in
theorem C_X12_path {l : Launch} {w : q_Wd} {n : Nat} {t : Nat} {a0 : Int32} {a1 : Int32} (ht : q_KD t = .inl 12) {s0 : q_Sto} : q_C l w yX12_path cX12_path 3 (some .int) (q_rm 2 42) [q_rf w t, .int a0, .int a1] s0 (f_X12_path n t a0 a1 s0) := q_CofG [some (q_rf w t), some (.int a0), some (.int a1)] (by decide +kernel) rfl rfl (Nat.le_of_ble_eq_true rfl) fun cx hl hc => by
  have hc : q_ok w cx RX12 cX12_path 3 (some .int) (q_rm 2 42) := hc
  rw [f_X12_path]
  refine g_il1 hc dX12_path_0 rfl (pc2 := 1) rfl ?_
  refine g_callS1 hc C_X12_isCamp mv_X12_isCamp ln_X12_68 ⟨by decide, by decide⟩ (Nat.le_of_ble_eq_true rfl) dX12_path_1 (pc2 := 4) rfl (fun r2 s1 => ?_)
  refine g_if_eq hc dX12_path_4 (pc1 := 23) (pc2 := 7) rfl rfl (fun _ => ?_) (fun _ => ?_)
  · refine g_iconst hc dX12_path_23 ic_m1 (pc2 := 24) rfl ?_
    exact g_iret hc dX12_path_24
  · refine g_il2 hc dX12_path_7 rfl (pc2 := 8) rfl ?_
    refine g_callS1 hc C_X12_isCamp mv_X12_isCamp ln_X12_68 ⟨by decide, by decide⟩ (Nat.le_of_ble_eq_true rfl) dX12_path_8 (pc2 := 11) rfl (fun r5 s4 => ?_)
    refine g_if_eq hc dX12_path_11 (pc1 := 23) (pc2 := 14) rfl rfl (fun _ => ?_) (fun _ => ?_)
    · refine g_iconst hc dX12_path_23 ic_m1 (pc2 := 24) rfl ?_
      exact g_iret hc dX12_path_24
    · refine g_rl0 hc dX12_path_14 rfl (pc2 := 15) rfl ?_
      refine g_il1 hc dX12_path_15 rfl (pc2 := 16) rfl ?_
      refine g_il2 hc dX12_path_16 rfl (pc2 := 17) rfl ?_
      refine g_callV2 hc (C_X12_pathOf ht) mv_X12_pathOf ln_X12_374 ht ⟨by decide, by decide⟩ (Nat.le_of_ble_eq_true rfl) dX12_path_17 (pc2 := 20) rfl (fun r8 s7 => ?_)
      refine g_goto hc dX12_path_20 (pc2 := 24) rfl ?_
      exact g_iret hc dX12_path_24
set_option maxRecDepth 100000 in
set_option maxHeartbeats 4000000 in
def f_X12_book (n : Nat) (t : Nat) (a0 : Int32) (a1 : Int32) (s0 : q_Sto) : Option (Int32 × q_Sto) :=
  q_ld s0 (q_RF t 0) 6 1790 fun v1 =>
  q_call (f_X12_isIn n a0 0 (v1 - 1) s0) fun r3 s2 =>
  if r3 = 0 then (
  some ((-2), s2))
  else (
  q_call (f_X12_isIn n a1 0 3 s2) fun r6 s5 =>
  if r6 = 0 then (
  some ((-2), s5))
  else (
  q_ld s5 (q_RF t 0) ((305 + (4 * a0)) + a1) 1790 fun v8 =>
  some (v8, s5)))
set_option maxRecDepth 100000 in
set_option maxHeartbeats 4000000 in
theorem C_X12_book {l : Launch} {w : q_Wd} {n : Nat} {t : Nat} {a0 : Int32} {a1 : Int32} (ht : q_KD t = .inl 12) {s0 : q_Sto} : q_C l w yX12_book cX12_book 3 (some .int) (q_rm 1 22) [q_rf w t, .int a0, .int a1] s0 (f_X12_book n t a0 a1 s0) := q_CofG [some (q_rf w t), some (.int a0), some (.int a1)] (by decide +kernel) rfl rfl (Nat.le_of_ble_eq_true rfl) fun cx hl hc => by
  have hc : q_ok w cx RX12 cX12_book 3 (some .int) (q_rm 1 22) := hc
  rw [f_X12_book]
  refine g_il1 hc dX12_book_0 rfl (pc2 := 1) rfl ?_
  refine g_iconst hc dX12_book_1 ic_0 (pc2 := 2) rfl ?_
  refine g_rl0 hc dX12_book_2 rfl (pc2 := 3) rfl ?_
  refine g_getR hc fl_X12_7 rfl ht dX12_book_3 (pc2 := 6) rfl ?_
  refine g_bipush hc dX12_book_6 bp_6 (pc2 := 8) rfl ?_
  refine g_iald hc (kf_12_0 ht) (kl_12_0 ht) dX12_book_8 (pc2 := 9) rfl (fun v1 => ?_)
  refine g_iconst hc dX12_book_9 ic_1 (pc2 := 10) rfl ?_
  refine g_isub hc dX12_book_10 (pc2 := 11) rfl ?_
  refine g_callS3 hc C_X12_isIn mv_X12_isIn ln_X12_56 ⟨by decide, by decide⟩ (Nat.le_of_ble_eq_true rfl) dX12_book_11 (pc2 := 14) rfl (fun r3 s2 => ?_)
  refine g_if_eq hc dX12_book_14 (pc1 := 43) (pc2 := 17) rfl rfl (fun _ => ?_) (fun _ => ?_)
  · refine g_bipush hc dX12_book_43 bp_m2 (pc2 := 45) rfl ?_
    exact g_iret hc dX12_book_45
  · refine g_il2 hc dX12_book_17 rfl (pc2 := 18) rfl ?_
    refine g_iconst hc dX12_book_18 ic_0 (pc2 := 19) rfl ?_
    refine g_iconst hc dX12_book_19 ic_3 (pc2 := 20) rfl ?_
    refine g_callS3 hc C_X12_isIn mv_X12_isIn ln_X12_56 ⟨by decide, by decide⟩ (Nat.le_of_ble_eq_true rfl) dX12_book_20 (pc2 := 23) rfl (fun r6 s5 => ?_)
    refine g_if_eq hc dX12_book_23 (pc1 := 43) (pc2 := 26) rfl rfl (fun _ => ?_) (fun _ => ?_)
    · refine g_bipush hc dX12_book_43 bp_m2 (pc2 := 45) rfl ?_
      exact g_iret hc dX12_book_45
    · refine g_rl0 hc dX12_book_26 rfl (pc2 := 27) rfl ?_
      refine g_getR hc fl_X12_7 rfl ht dX12_book_27 (pc2 := 30) rfl ?_
      refine g_sipush hc dX12_book_30 sp_305 (pc2 := 33) rfl ?_
      refine g_iconst hc dX12_book_33 ic_4 (pc2 := 34) rfl ?_
      refine g_il1 hc dX12_book_34 rfl (pc2 := 35) rfl ?_
      refine g_imul hc dX12_book_35 (pc2 := 36) rfl ?_
      refine g_iadd hc dX12_book_36 (pc2 := 37) rfl ?_
      refine g_il2 hc dX12_book_37 rfl (pc2 := 38) rfl ?_
      refine g_iadd hc dX12_book_38 (pc2 := 39) rfl ?_
      refine g_iald hc (kf_12_0 ht) (kl_12_0 ht) dX12_book_39 (pc2 := 40) rfl (fun v8 => ?_)
      refine g_goto hc dX12_book_40 (pc2 := 45) rfl ?_
      exact g_iret hc dX12_book_45
set_option maxRecDepth 100000 in
set_option maxHeartbeats 4000000 in
def f_X12_lays_L2 (n : Nat) (x0 : Nat) : Nat → Int32 → q_Sto → Option (Int32 × q_Sto)
  | 0, _, _ => none
  | j + 1, x1, s0 =>
    if x1 < 86 then (
    q_ld s0 (q_RF x0 0) x1 1790 fun v2 =>
    q_st s0 (q_RF x0 3) x1 86 v2 fun s3 =>
    f_X12_lays_L2 n x0  j (x1 + 1) s3)
    else (
    q_nS1 (q_up s0 x0 26 0) fun s4 =>
    some (0, s4))
set_option maxRecDepth 100000 in
set_option maxHeartbeats 4000000 in
def f_X12_lays (n : Nat) (t : Nat) (s0 : q_Sto) : Option (Int32 × q_Sto) :=
  f_X12_lays_L2 n t  n 0 s0
set_option maxRecDepth 100000 in
set_option maxHeartbeats 4000000 in
theorem t_X12_lays_L2 {w : q_Wd} {cx : q_Cx} (hc : q_ok w cx RX12 cX12_lays 2 (none) (q_rm 0 0)) {n : Nat} {x0 : Nat} (hx0 : q_KD x0 = .inl 12)   :
    ∀ (j : Nat) (x1 : Int32) (s0 : q_Sto), q_G w cx 2 (none) 2 [some (q_rf w x0), some (.int x1)] [] s0 (f_X12_lays_L2 n x0  j x1 s0) := by
  intro j
  induction j with
  | zero =>
    intro _ _
    rw [f_X12_lays_L2]
    exact q_none
  | succ j ih =>
    intro x1 s0
    rw [f_X12_lays_L2]
    refine g_il1 hc dX12_lays_2 rfl (pc2 := 3) rfl ?_
    refine g_bipush hc dX12_lays_3 bp_86 (pc2 := 5) rfl ?_
    refine g_icmp_ge hc dX12_lays_5 (pc1 := 8) (pc2 := 26) rfl rfl (fun _ => ?_) (fun _ => ?_)
    · refine g_rl0 hc dX12_lays_8 rfl (pc2 := 9) rfl ?_
      refine g_getR hc fl_X12_19 rfl hx0 dX12_lays_9 (pc2 := 12) rfl ?_
      refine g_il1 hc dX12_lays_12 rfl (pc2 := 13) rfl ?_
      refine g_rl0 hc dX12_lays_13 rfl (pc2 := 14) rfl ?_
      refine g_getR hc fl_X12_7 rfl hx0 dX12_lays_14 (pc2 := 17) rfl ?_
      refine g_il1 hc dX12_lays_17 rfl (pc2 := 18) rfl ?_
      refine g_iald hc (kf_12_0 hx0) (kl_12_0 hx0) dX12_lays_18 (pc2 := 19) rfl (fun v2 => ?_)
      refine g_iast hc (kf_12_3 hx0) (kl_12_3 hx0) dX12_lays_19 (pc2 := 20) rfl (fun s3 => ?_)
      refine g_iinc hc dX12_lays_20 rfl (q_ii ic_1) (by decide) (L2 := [some (q_rf w x0), some (.int (x1 + 1))]) rfl (pc2 := 23) rfl ?_
      refine g_goto hc dX12_lays_23 (pc2 := 2) rfl ?_
      exact ih _ _
    · refine g_rl0 hc dX12_lays_26 rfl (pc2 := 27) rfl ?_
      refine g_iconst hc dX12_lays_27 ic_0 (pc2 := 28) rfl ?_
      refine g_putZ (by decide) hc fl_X12_326 rfl hx0 dX12_lays_28 (pc2 := 31) rfl (fun s4 => ?_)
      exact g_vret hc dX12_lays_31
set_option maxRecDepth 100000 in
set_option maxHeartbeats 4000000 in
theorem C_X12_lays {l : Launch} {w : q_Wd} {n : Nat} {t : Nat} (ht : q_KD t = .inl 12) {s0 : q_Sto} : q_C l w yX12_lays cX12_lays 2 (none) (q_rm 0 0) [q_rf w t] s0 (f_X12_lays n t s0) := q_CofG [some (q_rf w t), none] (by decide +kernel) rfl rfl (Nat.le_of_ble_eq_true rfl) fun cx hl hc => by
  have hc : q_ok w cx RX12 cX12_lays 2 (none) (q_rm 0 0) := hc
  rw [f_X12_lays]
  refine g_iconst hc dX12_lays_0 ic_0 (pc2 := 1) rfl ?_
  refine g_is1 hc dX12_lays_1 (by decide) (L2 := [some (q_rf w t), some (.int 0)]) rfl (pc2 := 2) rfl ?_
  refine t_X12_lays_L2 hc ht  n _ _
set_option maxRecDepth 100000 in
set_option maxHeartbeats 4000000 in
def f_X12_putsBack_L2 (n : Nat) (x0 : Nat) : Nat → Int32 → q_Sto → Option (Int32 × q_Sto)
  | 0, _, _ => none
  | j + 1, x1, s0 =>
    if x1 < 86 then (
    q_ld s0 (q_RF x0 3) x1 86 fun v2 =>
    q_st s0 (q_RF x0 0) x1 1790 v2 fun s3 =>
    f_X12_putsBack_L2 n x0  j (x1 + 1) s3)
    else (
    some (0, s0))
set_option maxRecDepth 100000 in
set_option maxHeartbeats 4000000 in
def f_X12_putsBack (n : Nat) (t : Nat) (s0 : q_Sto) : Option (Int32 × q_Sto) :=
  f_X12_putsBack_L2 n t  n 0 s0
set_option maxRecDepth 100000 in
set_option maxHeartbeats 4000000 in
theorem t_X12_putsBack_L2 {w : q_Wd} {cx : q_Cx} (hc : q_ok w cx RX12 cX12_putsBack 2 (none) (q_rm 0 0)) {n : Nat} {x0 : Nat} (hx0 : q_KD x0 = .inl 12)   :
    ∀ (j : Nat) (x1 : Int32) (s0 : q_Sto), q_G w cx 2 (none) 2 [some (q_rf w x0), some (.int x1)] [] s0 (f_X12_putsBack_L2 n x0  j x1 s0) := by
  intro j
  induction j with
  | zero =>
    intro _ _
    rw [f_X12_putsBack_L2]
    exact q_none
  | succ j ih =>
    intro x1 s0
    rw [f_X12_putsBack_L2]
    refine g_il1 hc dX12_putsBack_2 rfl (pc2 := 3) rfl ?_
    refine g_bipush hc dX12_putsBack_3 bp_86 (pc2 := 5) rfl ?_
    refine g_icmp_ge hc dX12_putsBack_5 (pc1 := 8) (pc2 := 26) rfl rfl (fun _ => ?_) (fun _ => ?_)
    · refine g_rl0 hc dX12_putsBack_8 rfl (pc2 := 9) rfl ?_
      refine g_getR hc fl_X12_7 rfl hx0 dX12_putsBack_9 (pc2 := 12) rfl ?_
      refine g_il1 hc dX12_putsBack_12 rfl (pc2 := 13) rfl ?_
      refine g_rl0 hc dX12_putsBack_13 rfl (pc2 := 14) rfl ?_
      refine g_getR hc fl_X12_19 rfl hx0 dX12_putsBack_14 (pc2 := 17) rfl ?_
      refine g_il1 hc dX12_putsBack_17 rfl (pc2 := 18) rfl ?_
      refine g_iald hc (kf_12_3 hx0) (kl_12_3 hx0) dX12_putsBack_18 (pc2 := 19) rfl (fun v2 => ?_)
      refine g_iast hc (kf_12_0 hx0) (kl_12_0 hx0) dX12_putsBack_19 (pc2 := 20) rfl (fun s3 => ?_)
      refine g_iinc hc dX12_putsBack_20 rfl (q_ii ic_1) (by decide) (L2 := [some (q_rf w x0), some (.int (x1 + 1))]) rfl (pc2 := 23) rfl ?_
      refine g_goto hc dX12_putsBack_23 (pc2 := 2) rfl ?_
      exact ih _ _
    · exact g_vret hc dX12_putsBack_26
set_option maxRecDepth 100000 in
set_option maxHeartbeats 4000000 in
theorem C_X12_putsBack {l : Launch} {w : q_Wd} {n : Nat} {t : Nat} (ht : q_KD t = .inl 12) {s0 : q_Sto} : q_C l w yX12_putsBack cX12_putsBack 2 (none) (q_rm 0 0) [q_rf w t] s0 (f_X12_putsBack n t s0) := q_CofG [some (q_rf w t), none] (by decide +kernel) rfl rfl (Nat.le_of_ble_eq_true rfl) fun cx hl hc => by
  have hc : q_ok w cx RX12 cX12_putsBack 2 (none) (q_rm 0 0) := hc
  rw [f_X12_putsBack]
  refine g_iconst hc dX12_putsBack_0 ic_0 (pc2 := 1) rfl ?_
  refine g_is1 hc dX12_putsBack_1 (by decide) (L2 := [some (q_rf w t), some (.int 0)]) rfl (pc2 := 2) rfl ?_
  refine t_X12_putsBack_L2 hc ht  n _ _
set_option maxRecDepth 100000 in
set_option maxHeartbeats 4000000 in
def f_X12_stands (n : Nat) (t : Nat) (a0 : Int32) (s0 : q_Sto) : Option (Int32 × q_Sto) :=
  q_call (f_X12_isMule n t a0 s0) fun r2 s1 =>
  if r2 = 0 then (
  some ((-2), s1))
  else (
  q_callv (f_X12_lays n t s1) fun s4 =>
  q_call (f_X12_stand n t s4) fun r7 s6 =>
  q_ld s6 (q_RF t 0) (8 + a0) 1790 fun v8 =>
  q_callv (f_X12_putsBack n t s6) fun s9 =>
  some (v8, s9))
set_option maxRecDepth 100000 in
set_option maxHeartbeats 4000000 in
theorem C_X12_stands {l : Launch} {w : q_Wd} {n : Nat} {t : Nat} {a0 : Int32} (ht : q_KD t = .inl 12) {s0 : q_Sto} : q_C l w yX12_stands cX12_stands 3 (some .int) (q_rm 8 184) [q_rf w t, .int a0] s0 (f_X12_stands n t a0 s0) := q_CofG [some (q_rf w t), some (.int a0), none] (by decide +kernel) rfl rfl (Nat.le_of_ble_eq_true rfl) fun cx hl hc => by
  have hc : q_ok w cx RX12 cX12_stands 3 (some .int) (q_rm 8 184) := hc
  rw [f_X12_stands]
  refine g_rl0 hc dX12_stands_0 rfl (pc2 := 1) rfl ?_
  refine g_il1 hc dX12_stands_1 rfl (pc2 := 2) rfl ?_
  refine g_callV1 hc (C_X12_isMule ht) mv_X12_isMule ln_X12_72 ht ⟨by decide, by decide⟩ (Nat.le_of_ble_eq_true rfl) dX12_stands_2 (pc2 := 5) rfl (fun r2 s1 => ?_)
  refine g_if_ne hc dX12_stands_5 (pc1 := 8) (pc2 := 11) rfl rfl (fun _ => ?_) (fun _ => ?_)
  · refine g_bipush hc dX12_stands_8 bp_m2 (pc2 := 10) rfl ?_
    exact g_iret hc dX12_stands_10
  · refine g_rl0 hc dX12_stands_11 rfl (pc2 := 12) rfl ?_
    refine g_callV0v hc (C_X12_lays ht) mv_X12_lays ln_X12_395 ht ⟨by decide, by decide⟩ (Nat.le_of_ble_eq_true rfl) dX12_stands_12 (pc2 := 15) rfl (fun s4 => ?_)
    refine g_rl0 hc dX12_stands_15 rfl (pc2 := 16) rfl ?_
    refine g_callV0 hc (C_X12_stand ht) mv_X12_stand ln_X12_348 ht ⟨by decide, by decide⟩ (Nat.le_of_ble_eq_true rfl) dX12_stands_16 (pc2 := 19) rfl (fun r7 s6 => ?_)
    refine g_pop hc dX12_stands_19 (pc2 := 20) rfl ?_
    refine g_rl0 hc dX12_stands_20 rfl (pc2 := 21) rfl ?_
    refine g_getR hc fl_X12_7 rfl ht dX12_stands_21 (pc2 := 24) rfl ?_
    refine g_bipush hc dX12_stands_24 bp_8 (pc2 := 26) rfl ?_
    refine g_il1 hc dX12_stands_26 rfl (pc2 := 27) rfl ?_
    refine g_iadd hc dX12_stands_27 (pc2 := 28) rfl ?_
    refine g_iald hc (kf_12_0 ht) (kl_12_0 ht) dX12_stands_28 (pc2 := 29) rfl (fun v8 => ?_)
    refine g_is2 hc dX12_stands_29 (by decide) (L2 := [some (q_rf w t), some (.int a0), some (.int v8)]) rfl (pc2 := 30) rfl ?_
    refine g_rl0 hc dX12_stands_30 rfl (pc2 := 31) rfl ?_
    refine g_callV0v hc (C_X12_putsBack ht) mv_X12_putsBack ln_X12_398 ht ⟨by decide, by decide⟩ (Nat.le_of_ble_eq_true rfl) dX12_stands_31 (pc2 := 34) rfl (fun s9 => ?_)
    refine g_il2 hc dX12_stands_34 rfl (pc2 := 35) rfl ?_
    exact g_iret hc dX12_stands_35
set_option maxRecDepth 100000 in
set_option maxHeartbeats 4000000 in
def f_X12_settles (n : Nat) (t : Nat) (a0 : Int32) (s0 : q_Sto) : Option (Int32 × q_Sto) :=
  q_call (f_X12_isIn n a0 0 1 s0) fun r2 s1 =>
  if r2 = 0 then (
  some ((-2), s1))
  else (
  q_callv (f_X12_lays n t s1) fun s4 =>
  q_call (f_X12_stand n t s4) fun r7 s6 =>
  q_ld s6 (q_RF t 0) 2 1790 fun v8 =>
  q_callv (f_X12_putsBack n t s6) fun s9 =>
  if a0 = 0 then (
  some (r7, s9))
  else (
  some (v8, s9)))
set_option maxRecDepth 100000 in
set_option maxHeartbeats 4000000 in
theorem C_X12_settles {l : Launch} {w : q_Wd} {n : Nat} {t : Nat} {a0 : Int32} (ht : q_KD t = .inl 12) {s0 : q_Sto} : q_C l w yX12_settles cX12_settles 4 (some .int) (q_rm 8 184) [q_rf w t, .int a0] s0 (f_X12_settles n t a0 s0) := q_CofG [some (q_rf w t), some (.int a0), none, none] (by decide +kernel) rfl rfl (Nat.le_of_ble_eq_true rfl) fun cx hl hc => by
  have hc : q_ok w cx RX12 cX12_settles 4 (some .int) (q_rm 8 184) := hc
  rw [f_X12_settles]
  refine g_il1 hc dX12_settles_0 rfl (pc2 := 1) rfl ?_
  refine g_iconst hc dX12_settles_1 ic_0 (pc2 := 2) rfl ?_
  refine g_iconst hc dX12_settles_2 ic_1 (pc2 := 3) rfl ?_
  refine g_callS3 hc C_X12_isIn mv_X12_isIn ln_X12_56 ⟨by decide, by decide⟩ (Nat.le_of_ble_eq_true rfl) dX12_settles_3 (pc2 := 6) rfl (fun r2 s1 => ?_)
  refine g_if_ne hc dX12_settles_6 (pc1 := 9) (pc2 := 12) rfl rfl (fun _ => ?_) (fun _ => ?_)
  · refine g_bipush hc dX12_settles_9 bp_m2 (pc2 := 11) rfl ?_
    exact g_iret hc dX12_settles_11
  · refine g_rl0 hc dX12_settles_12 rfl (pc2 := 13) rfl ?_
    refine g_callV0v hc (C_X12_lays ht) mv_X12_lays ln_X12_395 ht ⟨by decide, by decide⟩ (Nat.le_of_ble_eq_true rfl) dX12_settles_13 (pc2 := 16) rfl (fun s4 => ?_)
    refine g_rl0 hc dX12_settles_16 rfl (pc2 := 17) rfl ?_
    refine g_callV0 hc (C_X12_stand ht) mv_X12_stand ln_X12_348 ht ⟨by decide, by decide⟩ (Nat.le_of_ble_eq_true rfl) dX12_settles_17 (pc2 := 20) rfl (fun r7 s6 => ?_)
    refine g_is2 hc dX12_settles_20 (by decide) (L2 := [some (q_rf w t), some (.int a0), some (.int r7), none]) rfl (pc2 := 21) rfl ?_
    refine g_rl0 hc dX12_settles_21 rfl (pc2 := 22) rfl ?_
    refine g_getR hc fl_X12_7 rfl ht dX12_settles_22 (pc2 := 25) rfl ?_
    refine g_iconst hc dX12_settles_25 ic_2 (pc2 := 26) rfl ?_
    refine g_iald hc (kf_12_0 ht) (kl_12_0 ht) dX12_settles_26 (pc2 := 27) rfl (fun v8 => ?_)
    refine g_is3 hc dX12_settles_27 (by decide) (L2 := [some (q_rf w t), some (.int a0), some (.int r7), some (.int v8)]) rfl (pc2 := 28) rfl ?_
    refine g_rl0 hc dX12_settles_28 rfl (pc2 := 29) rfl ?_
    refine g_callV0v hc (C_X12_putsBack ht) mv_X12_putsBack ln_X12_398 ht ⟨by decide, by decide⟩ (Nat.le_of_ble_eq_true rfl) dX12_settles_29 (pc2 := 32) rfl (fun s9 => ?_)
    refine g_il1 hc dX12_settles_32 rfl (pc2 := 33) rfl ?_
    refine g_if_ne hc dX12_settles_33 (pc1 := 36) (pc2 := 40) rfl rfl (fun _ => ?_) (fun _ => ?_)
    · refine g_il2 hc dX12_settles_36 rfl (pc2 := 37) rfl ?_
      refine g_goto hc dX12_settles_37 (pc2 := 41) rfl ?_
      exact g_iret hc dX12_settles_41
    · refine g_il3 hc dX12_settles_40 rfl (pc2 := 41) rfl ?_
      exact g_iret hc dX12_settles_41
set_option maxRecDepth 100000 in
set_option maxHeartbeats 4000000 in
def f_X12_goes_L28 (n : Nat) (x0 : Nat) (x1 : Int32) (x2 : Int32) (k44 : q_Sto → Option (Int32 × q_Sto)) : Nat → Int32 → q_Sto → Option (Int32 × q_Sto)
  | 0, _, _ => none
  | j + 1, x3, s0 =>
    if x3 < x1 then (
    q_call (f_X12_aDay n x0 s0) fun r11 s10 =>
    f_X12_goes_L28 n x0 x1 x2 k44 j (x3 + 1) s10)
    else (
    k44 s0)
set_option maxRecDepth 100000 in
set_option maxHeartbeats 4000000 in
def f_X12_goes (n : Nat) (t : Nat) (a0 : Int32) (a1 : Int32) (s0 : q_Sto) : Option (Int32 × q_Sto) :=
  q_call (f_X12_isIn n a0 1 60 s0) fun r2 s1 =>
  if r2 = 0 then (
  some ((-2), s1))
  else (
  q_call (f_X12_isIn n a1 0 3 s1) fun r5 s4 =>
  if r5 = 0 then (
  some ((-2), s4))
  else (
  q_callv (f_X12_lays n t s4) fun s7 =>
  f_X12_goes_L28 n t a0 a1 (fun  (s12 : q_Sto) =>
  if a1 = 0 then (
  q_ld s12 (q_RF t 0) 2 1790 fun v14 =>
  q_callv (f_X12_putsBack n t s12) fun s15 =>
  some (v14, s15))
  else (
  if a1 = 1 then (
  q_ld s12 (q_RF t 0) 1 1790 fun v18 =>
  q_callv (f_X12_putsBack n t s12) fun s19 =>
  some (v18, s19))
  else (
  if a1 = 2 then (
  q_ld s12 (q_RF t 0) 4 1790 fun v22 =>
  q_callv (f_X12_putsBack n t s12) fun s23 =>
  some (v22, s23))
  else (
  q_ld s12 (q_RF t 0) 3 1790 fun v25 =>
  q_callv (f_X12_putsBack n t s12) fun s26 =>
  some (v25, s26))))) n 0 s7))
set_option maxRecDepth 100000 in
set_option maxHeartbeats 4000000 in
theorem t_X12_goes_L28 {w : q_Wd} {cx : q_Cx} (hc : q_ok w cx RX12 cX12_goes 4 (some .int) (q_rm 11 248)) {n : Nat} {x0 : Nat} {x1 : Int32} {x2 : Int32} (hx0 : q_KD x0 = .inl 12) {k44 : q_Sto → Option (Int32 × q_Sto)} (hk44 : ∀  (s1 : q_Sto), q_G w cx 4 (some .int) 44 [some (q_rf w x0), none, some (.int x2), none] [] s1 (k44 s1)) :
    ∀ (j : Nat) (x3 : Int32) (s0 : q_Sto), q_G w cx 4 (some .int) 28 [some (q_rf w x0), some (.int x1), some (.int x2), some (.int x3)] [] s0 (f_X12_goes_L28 n x0 x1 x2 k44 j x3 s0) := by
  intro j
  induction j with
  | zero =>
    intro _ _
    rw [f_X12_goes_L28]
    exact q_none
  | succ j ih =>
    intro x3 s0
    rw [f_X12_goes_L28]
    refine g_il3 hc dX12_goes_28 rfl (pc2 := 29) rfl ?_
    refine g_il1 hc dX12_goes_29 rfl (pc2 := 30) rfl ?_
    refine g_icmp_ge hc dX12_goes_30 (pc1 := 33) (pc2 := 44) rfl rfl (fun _ => ?_) (fun _ => ?_)
    · refine g_rl0 hc dX12_goes_33 rfl (pc2 := 34) rfl ?_
      refine g_callV0 hc (C_X12_aDay hx0) mv_X12_aDay ln_X12_392 hx0 ⟨by decide, by decide⟩ (Nat.le_of_ble_eq_true rfl) dX12_goes_34 (pc2 := 37) rfl (fun r11 s10 => ?_)
      refine g_pop hc dX12_goes_37 (pc2 := 38) rfl ?_
      refine g_iinc hc dX12_goes_38 rfl (q_ii ic_1) (by decide) (L2 := [some (q_rf w x0), some (.int x1), some (.int x2), some (.int (x3 + 1))]) rfl (pc2 := 41) rfl ?_
      refine g_goto hc dX12_goes_41 (pc2 := 28) rfl ?_
      exact ih _ _
    · refine q_Gmask [true, false, true, false] (L2 := [some (q_rf w x0), none, some (.int x2), none]) rfl ?_
      exact hk44 _
set_option maxRecDepth 100000 in
set_option maxHeartbeats 4000000 in
theorem C_X12_goes {l : Launch} {w : q_Wd} {n : Nat} {t : Nat} {a0 : Int32} {a1 : Int32} (ht : q_KD t = .inl 12) {s0 : q_Sto} : q_C l w yX12_goes cX12_goes 4 (some .int) (q_rm 11 248) [q_rf w t, .int a0, .int a1] s0 (f_X12_goes n t a0 a1 s0) := q_CofG [some (q_rf w t), some (.int a0), some (.int a1), none] (by decide +kernel) rfl rfl (Nat.le_of_ble_eq_true rfl) fun cx hl hc => by
  have hc : q_ok w cx RX12 cX12_goes 4 (some .int) (q_rm 11 248) := hc
  rw [f_X12_goes]
  refine g_il1 hc dX12_goes_0 rfl (pc2 := 1) rfl ?_
  refine g_iconst hc dX12_goes_1 ic_1 (pc2 := 2) rfl ?_
  refine g_bipush hc dX12_goes_2 bp_60 (pc2 := 4) rfl ?_
  refine g_callS3 hc C_X12_isIn mv_X12_isIn ln_X12_56 ⟨by decide, by decide⟩ (Nat.le_of_ble_eq_true rfl) dX12_goes_4 (pc2 := 7) rfl (fun r2 s1 => ?_)
  refine g_if_eq hc dX12_goes_7 (pc1 := 19) (pc2 := 10) rfl rfl (fun _ => ?_) (fun _ => ?_)
  · refine g_bipush hc dX12_goes_19 bp_m2 (pc2 := 21) rfl ?_
    exact g_iret hc dX12_goes_21
  · refine g_il2 hc dX12_goes_10 rfl (pc2 := 11) rfl ?_
    refine g_iconst hc dX12_goes_11 ic_0 (pc2 := 12) rfl ?_
    refine g_iconst hc dX12_goes_12 ic_3 (pc2 := 13) rfl ?_
    refine g_callS3 hc C_X12_isIn mv_X12_isIn ln_X12_56 ⟨by decide, by decide⟩ (Nat.le_of_ble_eq_true rfl) dX12_goes_13 (pc2 := 16) rfl (fun r5 s4 => ?_)
    refine g_if_ne hc dX12_goes_16 (pc1 := 19) (pc2 := 22) rfl rfl (fun _ => ?_) (fun _ => ?_)
    · refine g_bipush hc dX12_goes_19 bp_m2 (pc2 := 21) rfl ?_
      exact g_iret hc dX12_goes_21
    · refine g_rl0 hc dX12_goes_22 rfl (pc2 := 23) rfl ?_
      refine g_callV0v hc (C_X12_lays ht) mv_X12_lays ln_X12_395 ht ⟨by decide, by decide⟩ (Nat.le_of_ble_eq_true rfl) dX12_goes_23 (pc2 := 26) rfl (fun s7 => ?_)
      refine g_iconst hc dX12_goes_26 ic_0 (pc2 := 27) rfl ?_
      refine g_is3 hc dX12_goes_27 (by decide) (L2 := [some (q_rf w t), some (.int a0), some (.int a1), some (.int 0)]) rfl (pc2 := 28) rfl ?_
      refine t_X12_goes_L28 hc ht (fun s12 => ?_) n _ _
      refine g_il2 hc dX12_goes_44 rfl (pc2 := 45) rfl ?_
      refine g_if_ne hc dX12_goes_45 (pc1 := 48) (pc2 := 57) rfl rfl (fun _ => ?_) (fun _ => ?_)
      · refine g_rl0 hc dX12_goes_48 rfl (pc2 := 49) rfl ?_
        refine g_getR hc fl_X12_7 rfl ht dX12_goes_49 (pc2 := 52) rfl ?_
        refine g_iconst hc dX12_goes_52 ic_2 (pc2 := 53) rfl ?_
        refine g_iald hc (kf_12_0 ht) (kl_12_0 ht) dX12_goes_53 (pc2 := 54) rfl (fun v14 => ?_)
        refine g_goto hc dX12_goes_54 (pc2 := 91) rfl ?_
        refine g_is3 hc dX12_goes_91 (by decide) (L2 := [some (q_rf w t), none, some (.int a1), some (.int v14)]) rfl (pc2 := 92) rfl ?_
        refine g_rl0 hc dX12_goes_92 rfl (pc2 := 93) rfl ?_
        refine g_callV0v hc (C_X12_putsBack ht) mv_X12_putsBack ln_X12_398 ht ⟨by decide, by decide⟩ (Nat.le_of_ble_eq_true rfl) dX12_goes_93 (pc2 := 96) rfl (fun s15 => ?_)
        refine g_il3 hc dX12_goes_96 rfl (pc2 := 97) rfl ?_
        exact g_iret hc dX12_goes_97
      · refine g_il2 hc dX12_goes_57 rfl (pc2 := 58) rfl ?_
        refine g_iconst hc dX12_goes_58 ic_1 (pc2 := 59) rfl ?_
        refine g_icmp_ne hc dX12_goes_59 (pc1 := 62) (pc2 := 71) rfl rfl (fun _ => ?_) (fun _ => ?_)
        · refine g_rl0 hc dX12_goes_62 rfl (pc2 := 63) rfl ?_
          refine g_getR hc fl_X12_7 rfl ht dX12_goes_63 (pc2 := 66) rfl ?_
          refine g_iconst hc dX12_goes_66 ic_1 (pc2 := 67) rfl ?_
          refine g_iald hc (kf_12_0 ht) (kl_12_0 ht) dX12_goes_67 (pc2 := 68) rfl (fun v18 => ?_)
          refine g_goto hc dX12_goes_68 (pc2 := 91) rfl ?_
          refine g_is3 hc dX12_goes_91 (by decide) (L2 := [some (q_rf w t), none, some (.int a1), some (.int v18)]) rfl (pc2 := 92) rfl ?_
          refine g_rl0 hc dX12_goes_92 rfl (pc2 := 93) rfl ?_
          refine g_callV0v hc (C_X12_putsBack ht) mv_X12_putsBack ln_X12_398 ht ⟨by decide, by decide⟩ (Nat.le_of_ble_eq_true rfl) dX12_goes_93 (pc2 := 96) rfl (fun s19 => ?_)
          refine g_il3 hc dX12_goes_96 rfl (pc2 := 97) rfl ?_
          exact g_iret hc dX12_goes_97
        · refine g_il2 hc dX12_goes_71 rfl (pc2 := 72) rfl ?_
          refine g_iconst hc dX12_goes_72 ic_2 (pc2 := 73) rfl ?_
          refine g_icmp_ne hc dX12_goes_73 (pc1 := 76) (pc2 := 85) rfl rfl (fun _ => ?_) (fun _ => ?_)
          · refine g_rl0 hc dX12_goes_76 rfl (pc2 := 77) rfl ?_
            refine g_getR hc fl_X12_7 rfl ht dX12_goes_77 (pc2 := 80) rfl ?_
            refine g_iconst hc dX12_goes_80 ic_4 (pc2 := 81) rfl ?_
            refine g_iald hc (kf_12_0 ht) (kl_12_0 ht) dX12_goes_81 (pc2 := 82) rfl (fun v22 => ?_)
            refine g_goto hc dX12_goes_82 (pc2 := 91) rfl ?_
            refine g_is3 hc dX12_goes_91 (by decide) (L2 := [some (q_rf w t), none, some (.int a1), some (.int v22)]) rfl (pc2 := 92) rfl ?_
            refine g_rl0 hc dX12_goes_92 rfl (pc2 := 93) rfl ?_
            refine g_callV0v hc (C_X12_putsBack ht) mv_X12_putsBack ln_X12_398 ht ⟨by decide, by decide⟩ (Nat.le_of_ble_eq_true rfl) dX12_goes_93 (pc2 := 96) rfl (fun s23 => ?_)
            refine g_il3 hc dX12_goes_96 rfl (pc2 := 97) rfl ?_
            exact g_iret hc dX12_goes_97
          · refine g_rl0 hc dX12_goes_85 rfl (pc2 := 86) rfl ?_
            refine g_getR hc fl_X12_7 rfl ht dX12_goes_86 (pc2 := 89) rfl ?_
            refine g_iconst hc dX12_goes_89 ic_3 (pc2 := 90) rfl ?_
            refine g_iald hc (kf_12_0 ht) (kl_12_0 ht) dX12_goes_90 (pc2 := 91) rfl (fun v25 => ?_)
            refine g_is3 hc dX12_goes_91 (by decide) (L2 := [some (q_rf w t), none, some (.int a1), some (.int v25)]) rfl (pc2 := 92) rfl ?_
            refine g_rl0 hc dX12_goes_92 rfl (pc2 := 93) rfl ?_
            refine g_callV0v hc (C_X12_putsBack ht) mv_X12_putsBack ln_X12_398 ht ⟨by decide, by decide⟩ (Nat.le_of_ble_eq_true rfl) dX12_goes_93 (pc2 := 96) rfl (fun s26 => ?_)
            refine g_il3 hc dX12_goes_96 rfl (pc2 := 97) rfl ?_
            exact g_iret hc dX12_goes_97
set_option maxRecDepth 100000 in
set_option maxHeartbeats 4000000 in
def f_X12_winsBy_L6 (n : Nat) (x0 : Nat) (x1 : Int32) (x2 : Int32) (k40 : q_Sto → Option (Int32 × q_Sto)) : Nat → Int32 → q_Sto → Option (Int32 × q_Sto)
  | 0, _, _ => none
  | j + 1, x3, s0 =>
    q_ld s0 (q_RF x0 0) 86 1790 fun v3 =>
    if x3 < v3 then (
    if ((x2 >>> (x3 &&& 31)) &&& 1) = 1 then (
    q_callv (f_X12_likes n x0 x3 x1 15 s0) fun s6 =>
    f_X12_winsBy_L6 n x0 x1 x2 k40 j (x3 + 1) s6)
    else (
    f_X12_winsBy_L6 n x0 x1 x2 k40 j (x3 + 1) s0))
    else (
    k40 s0)
set_option maxRecDepth 100000 in
set_option maxHeartbeats 4000000 in
def f_X12_winsBy (n : Nat) (t : Nat) (a0 : Int32) (a1 : Int32) (s0 : q_Sto) : Option (Int32 × q_Sto) :=
  q_callv (f_X12_lays n t s0) fun s1 =>
  f_X12_winsBy_L6 n t a0 a1 (fun  (s8 : q_Sto) =>
  q_call (f_X12_stand n t s8) fun r10 s9 =>
  q_ld s9 (q_RF t 0) 2 1790 fun v11 =>
  if v11 = a0 then (
  q_callv (f_X12_putsBack n t s9) fun s13 =>
  some (1, s13))
  else (
  q_callv (f_X12_putsBack n t s9) fun s15 =>
  some (0, s15))) n 0 s1
set_option maxRecDepth 100000 in
set_option maxHeartbeats 4000000 in
theorem t_X12_winsBy_L6 {w : q_Wd} {cx : q_Cx} (hc : q_ok w cx RX12 cX12_winsBy 4 (some .boolean) (q_rm 8 184)) {n : Nat} {x0 : Nat} {x1 : Int32} {x2 : Int32} (hx0 : q_KD x0 = .inl 12) {k40 : q_Sto → Option (Int32 × q_Sto)} (hk40 : ∀  (s1 : q_Sto), q_G w cx 4 (some .boolean) 40 [some (q_rf w x0), some (.int x1), none, none] [] s1 (k40 s1)) :
    ∀ (j : Nat) (x3 : Int32) (s0 : q_Sto), q_G w cx 4 (some .boolean) 6 [some (q_rf w x0), some (.int x1), some (.int x2), some (.int x3)] [] s0 (f_X12_winsBy_L6 n x0 x1 x2 k40 j x3 s0) := by
  intro j
  induction j with
  | zero =>
    intro _ _
    rw [f_X12_winsBy_L6]
    exact q_none
  | succ j ih =>
    intro x3 s0
    rw [f_X12_winsBy_L6]
    refine g_il3 hc dX12_winsBy_6 rfl (pc2 := 7) rfl ?_
    refine g_rl0 hc dX12_winsBy_7 rfl (pc2 := 8) rfl ?_
    refine g_getR hc fl_X12_7 rfl hx0 dX12_winsBy_8 (pc2 := 11) rfl ?_
    refine g_bipush hc dX12_winsBy_11 bp_86 (pc2 := 13) rfl ?_
    refine g_iald hc (kf_12_0 hx0) (kl_12_0 hx0) dX12_winsBy_13 (pc2 := 14) rfl (fun v3 => ?_)
    refine g_icmp_ge hc dX12_winsBy_14 (pc1 := 17) (pc2 := 40) rfl rfl (fun _ => ?_) (fun _ => ?_)
    · refine g_il2 hc dX12_winsBy_17 rfl (pc2 := 18) rfl ?_
      refine g_il3 hc dX12_winsBy_18 rfl (pc2 := 19) rfl ?_
      refine g_ishr hc dX12_winsBy_19 (pc2 := 20) rfl ?_
      refine g_iconst hc dX12_winsBy_20 ic_1 (pc2 := 21) rfl ?_
      refine g_iand hc dX12_winsBy_21 (pc2 := 22) rfl ?_
      refine g_iconst hc dX12_winsBy_22 ic_1 (pc2 := 23) rfl ?_
      refine g_icmp_ne hc dX12_winsBy_23 (pc1 := 26) (pc2 := 34) rfl rfl (fun _ => ?_) (fun _ => ?_)
      · refine g_rl0 hc dX12_winsBy_26 rfl (pc2 := 27) rfl ?_
        refine g_il3 hc dX12_winsBy_27 rfl (pc2 := 28) rfl ?_
        refine g_il1 hc dX12_winsBy_28 rfl (pc2 := 29) rfl ?_
        refine g_bipush hc dX12_winsBy_29 bp_15 (pc2 := 31) rfl ?_
        refine g_callV3v hc (C_X12_likes hx0) mv_X12_likes ln_X12_361 hx0 ⟨by decide, by decide⟩ (Nat.le_of_ble_eq_true rfl) dX12_winsBy_31 (pc2 := 34) rfl (fun s6 => ?_)
        refine g_iinc hc dX12_winsBy_34 rfl (q_ii ic_1) (by decide) (L2 := [some (q_rf w x0), some (.int x1), some (.int x2), some (.int (x3 + 1))]) rfl (pc2 := 37) rfl ?_
        refine g_goto hc dX12_winsBy_37 (pc2 := 6) rfl ?_
        exact ih _ _
      · refine g_iinc hc dX12_winsBy_34 rfl (q_ii ic_1) (by decide) (L2 := [some (q_rf w x0), some (.int x1), some (.int x2), some (.int (x3 + 1))]) rfl (pc2 := 37) rfl ?_
        refine g_goto hc dX12_winsBy_37 (pc2 := 6) rfl ?_
        exact ih _ _
    · refine q_Gmask [true, true, false, false] (L2 := [some (q_rf w x0), some (.int x1), none, none]) rfl ?_
      exact hk40 _
set_option maxRecDepth 100000 in
set_option maxHeartbeats 4000000 in
theorem C_X12_winsBy {l : Launch} {w : q_Wd} {n : Nat} {t : Nat} {a0 : Int32} {a1 : Int32} (ht : q_KD t = .inl 12) {s0 : q_Sto} : q_C l w yX12_winsBy cX12_winsBy 4 (some .boolean) (q_rm 8 184) [q_rf w t, .int a0, .int a1] s0 (f_X12_winsBy n t a0 a1 s0) := q_CofG [some (q_rf w t), some (.int a0), some (.int a1), none] (by decide +kernel) rfl rfl (Nat.le_of_ble_eq_true rfl) fun cx hl hc => by
  have hc : q_ok w cx RX12 cX12_winsBy 4 (some .boolean) (q_rm 8 184) := hc
  rw [f_X12_winsBy]
  refine g_rl0 hc dX12_winsBy_0 rfl (pc2 := 1) rfl ?_
  refine g_callV0v hc (C_X12_lays ht) mv_X12_lays ln_X12_395 ht ⟨by decide, by decide⟩ (Nat.le_of_ble_eq_true rfl) dX12_winsBy_1 (pc2 := 4) rfl (fun s1 => ?_)
  refine g_iconst hc dX12_winsBy_4 ic_0 (pc2 := 5) rfl ?_
  refine g_is3 hc dX12_winsBy_5 (by decide) (L2 := [some (q_rf w t), some (.int a0), some (.int a1), some (.int 0)]) rfl (pc2 := 6) rfl ?_
  refine t_X12_winsBy_L6 hc ht (fun s8 => ?_) n _ _
  refine g_rl0 hc dX12_winsBy_40 rfl (pc2 := 41) rfl ?_
  refine g_callV0 hc (C_X12_stand ht) mv_X12_stand ln_X12_348 ht ⟨by decide, by decide⟩ (Nat.le_of_ble_eq_true rfl) dX12_winsBy_41 (pc2 := 44) rfl (fun r10 s9 => ?_)
  refine g_pop hc dX12_winsBy_44 (pc2 := 45) rfl ?_
  refine g_rl0 hc dX12_winsBy_45 rfl (pc2 := 46) rfl ?_
  refine g_getR hc fl_X12_7 rfl ht dX12_winsBy_46 (pc2 := 49) rfl ?_
  refine g_iconst hc dX12_winsBy_49 ic_2 (pc2 := 50) rfl ?_
  refine g_iald hc (kf_12_0 ht) (kl_12_0 ht) dX12_winsBy_50 (pc2 := 51) rfl (fun v11 => ?_)
  refine g_il1 hc dX12_winsBy_51 rfl (pc2 := 52) rfl ?_
  refine g_icmp_ne hc dX12_winsBy_52 (pc1 := 55) (pc2 := 59) rfl rfl (fun _ => ?_) (fun _ => ?_)
  · refine g_iconst hc dX12_winsBy_55 ic_1 (pc2 := 56) rfl ?_
    refine g_goto hc dX12_winsBy_56 (pc2 := 60) rfl ?_
    refine g_is3 hc dX12_winsBy_60 (by decide) (L2 := [some (q_rf w t), some (.int a0), none, some (.int 1)]) rfl (pc2 := 61) rfl ?_
    refine g_rl0 hc dX12_winsBy_61 rfl (pc2 := 62) rfl ?_
    refine g_callV0v hc (C_X12_putsBack ht) mv_X12_putsBack ln_X12_398 ht ⟨by decide, by decide⟩ (Nat.le_of_ble_eq_true rfl) dX12_winsBy_62 (pc2 := 65) rfl (fun s13 => ?_)
    refine g_il3 hc dX12_winsBy_65 rfl (pc2 := 66) rfl ?_
    exact g_zret0 (by decide) hc dX12_winsBy_66
  · refine g_iconst hc dX12_winsBy_59 ic_0 (pc2 := 60) rfl ?_
    refine g_is3 hc dX12_winsBy_60 (by decide) (L2 := [some (q_rf w t), some (.int a0), none, some (.int 0)]) rfl (pc2 := 61) rfl ?_
    refine g_rl0 hc dX12_winsBy_61 rfl (pc2 := 62) rfl ?_
    refine g_callV0v hc (C_X12_putsBack ht) mv_X12_putsBack ln_X12_398 ht ⟨by decide, by decide⟩ (Nat.le_of_ble_eq_true rfl) dX12_winsBy_62 (pc2 := 65) rfl (fun s15 => ?_)
    refine g_il3 hc dX12_winsBy_65 rfl (pc2 := 66) rfl ?_
    exact g_zret0 (by decide) hc dX12_winsBy_66
set_option maxRecDepth 100000 in
set_option maxHeartbeats 4000000 in
def f_X12_wins_L24 (n : Nat) (x0 : Nat) (x1 : Int32) (x2 : Int32) (k74 : Int32 → q_Sto → Option (Int32 × q_Sto)) : Nat → Int32 → Int32 → q_Sto → Option (Int32 × q_Sto)
  | 0, _, _, _ => none
  | j + 1, x3, x4, s0 =>
    q_ld s0 (q_RF x0 0) 86 1790 fun v7 =>
    if x4 < (1 <<< (v7 &&& 31)) then (
    q_jn (fun  (s9 : q_Sto) =>
      q_call (f_X12_winsBy n x0 x1 x4 s9) fun r11 s10 =>
      if r11 = 0 then (
      f_X12_wins_L24 n x0 x1 x2 k74 j x3 (x4 + 1) s10)
      else (
      f_X12_wins_L24 n x0 x1 x2 k74 j x4 (x4 + 1) s10)) fun j55 =>
    if x3 = (-1) then (
    j55 s0)
    else (
    q_call (f_X12_count n x4 s0) fun r15 s14 =>
    q_call (f_X12_count n x3 s14) fun r17 s16 =>
    if r15 < r17 then (
    j55 s16)
    else (
    f_X12_wins_L24 n x0 x1 x2 k74 j x3 (x4 + 1) s16)))
    else (
    k74 x3 s0)
set_option maxRecDepth 100000 in
set_option maxHeartbeats 4000000 in
def f_X12_wins (n : Nat) (t : Nat) (a0 : Int32) (a1 : Int32) (s0 : q_Sto) : Option (Int32 × q_Sto) :=
  q_call (f_X12_isMan n t a0 s0) fun r2 s1 =>
  if r2 = 0 then (
  some ((-1), s1))
  else (
  q_call (f_X12_isIn n a1 0 1 s1) fun r5 s4 =>
  if r5 = 0 then (
  some ((-1), s4))
  else (
  f_X12_wins_L24 n t a0 a1 (fun (y19 : Int32) (s20 : q_Sto) =>
  if y19 = (-1) then (
  some (y19, s20))
  else (
  if a1 = 1 then (
  some (y19, s20))
  else (
  q_call (f_X12_count n y19 s20) fun r24 s23 =>
  some (r24, s23)))) n (-1) 0 s4))
set_option maxRecDepth 100000 in
set_option maxHeartbeats 4000000 in
theorem t_X12_wins_L24 {w : q_Wd} {cx : q_Cx} (hc : q_ok w cx RX12 cX12_wins 5 (some .int) (q_rm 9 207)) {n : Nat} {x0 : Nat} {x1 : Int32} {x2 : Int32} (hx0 : q_KD x0 = .inl 12) {k74 : Int32 → q_Sto → Option (Int32 × q_Sto)} (hk74 : ∀ (y3 : Int32) (s1 : q_Sto), q_G w cx 5 (some .int) 74 [none, none, some (.int x2), some (.int y3), none] [] s1 (k74 y3 s1)) :
    ∀ (j : Nat) (x3 : Int32) (x4 : Int32) (s0 : q_Sto), q_G w cx 5 (some .int) 24 [some (q_rf w x0), some (.int x1), some (.int x2), some (.int x3), some (.int x4)] [] s0 (f_X12_wins_L24 n x0 x1 x2 k74 j x3 x4 s0) := by
  intro j
  induction j with
  | zero =>
    intro _ _ _
    rw [f_X12_wins_L24]
    exact q_none
  | succ j ih =>
    intro x3 x4 s0
    rw [f_X12_wins_L24]
    refine g_iload hc dX12_wins_24 rfl (pc2 := 26) rfl ?_
    refine g_iconst hc dX12_wins_26 ic_1 (pc2 := 27) rfl ?_
    refine g_rl0 hc dX12_wins_27 rfl (pc2 := 28) rfl ?_
    refine g_getR hc fl_X12_7 rfl hx0 dX12_wins_28 (pc2 := 31) rfl ?_
    refine g_bipush hc dX12_wins_31 bp_86 (pc2 := 33) rfl ?_
    refine g_iald hc (kf_12_0 hx0) (kl_12_0 hx0) dX12_wins_33 (pc2 := 34) rfl (fun v7 => ?_)
    refine g_ishl hc dX12_wins_34 (pc2 := 35) rfl ?_
    refine g_icmp_ge hc dX12_wins_35 (pc1 := 38) (pc2 := 74) rfl rfl (fun _ => ?_) (fun _ => ?_)
    · refine g_il3 hc dX12_wins_38 rfl (pc2 := 39) rfl ?_
      refine g_iconst hc dX12_wins_39 ic_m1 (pc2 := 40) rfl ?_
      refine g_jn (P := fun j55 => ∀  (s9 : q_Sto), q_G w cx 5 (some .int) 55 [some (q_rf w x0), some (.int x1), some (.int x2), some (.int x3), some (.int x4)] [] s9 (j55 s9)) (fun s9 => ?_) (fun j55 hj55 => ?_)
      · refine g_rl0 hc dX12_wins_55 rfl (pc2 := 56) rfl ?_
        refine g_il1 hc dX12_wins_56 rfl (pc2 := 57) rfl ?_
        refine g_iload hc dX12_wins_57 rfl (pc2 := 59) rfl ?_
        refine g_callV2 hc (C_X12_winsBy hx0) mv_X12_winsBy ln_X12_401 hx0 ⟨by decide, by decide⟩ (Nat.le_of_ble_eq_true rfl) dX12_wins_59 (pc2 := 62) rfl (fun r11 s10 => ?_)
        refine g_if_eq hc dX12_wins_62 (pc1 := 68) (pc2 := 65) rfl rfl (fun _ => ?_) (fun _ => ?_)
        · refine g_iinc hc dX12_wins_68 rfl (q_ii ic_1) (by decide) (L2 := [some (q_rf w x0), some (.int x1), some (.int x2), some (.int x3), some (.int (x4 + 1))]) rfl (pc2 := 71) rfl ?_
          refine g_goto hc dX12_wins_71 (pc2 := 24) rfl ?_
          exact ih _ _ _
        · refine g_iload hc dX12_wins_65 rfl (pc2 := 67) rfl ?_
          refine g_is3 hc dX12_wins_67 (by decide) (L2 := [some (q_rf w x0), some (.int x1), some (.int x2), some (.int x4), some (.int x4)]) rfl (pc2 := 68) rfl ?_
          refine g_iinc hc dX12_wins_68 rfl (q_ii ic_1) (by decide) (L2 := [some (q_rf w x0), some (.int x1), some (.int x2), some (.int x4), some (.int (x4 + 1))]) rfl (pc2 := 71) rfl ?_
          refine g_goto hc dX12_wins_71 (pc2 := 24) rfl ?_
          exact ih _ _ _
      · refine g_icmp_eq hc dX12_wins_40 (pc1 := 55) (pc2 := 43) rfl rfl (fun _ => ?_) (fun _ => ?_)
        · exact hj55 _
        · refine g_iload hc dX12_wins_43 rfl (pc2 := 45) rfl ?_
          refine g_callS1 hc C_X12_count mv_X12_count ln_X12_320 ⟨by decide, by decide⟩ (Nat.le_of_ble_eq_true rfl) dX12_wins_45 (pc2 := 48) rfl (fun r15 s14 => ?_)
          refine g_il3 hc dX12_wins_48 rfl (pc2 := 49) rfl ?_
          refine g_callS1 hc C_X12_count mv_X12_count ln_X12_320 ⟨by decide, by decide⟩ (Nat.le_of_ble_eq_true rfl) dX12_wins_49 (pc2 := 52) rfl (fun r17 s16 => ?_)
          refine g_icmp_ge hc dX12_wins_52 (pc1 := 55) (pc2 := 68) rfl rfl (fun _ => ?_) (fun _ => ?_)
          · exact hj55 _
          · refine g_iinc hc dX12_wins_68 rfl (q_ii ic_1) (by decide) (L2 := [some (q_rf w x0), some (.int x1), some (.int x2), some (.int x3), some (.int (x4 + 1))]) rfl (pc2 := 71) rfl ?_
            refine g_goto hc dX12_wins_71 (pc2 := 24) rfl ?_
            exact ih _ _ _
    · refine q_Gmask [false, false, true, true, false] (L2 := [none, none, some (.int x2), some (.int x3), none]) rfl ?_
      exact hk74 _ _
set_option maxRecDepth 100000 in
set_option maxHeartbeats 4000000 in
theorem C_X12_wins {l : Launch} {w : q_Wd} {n : Nat} {t : Nat} {a0 : Int32} {a1 : Int32} (ht : q_KD t = .inl 12) {s0 : q_Sto} : q_C l w yX12_wins cX12_wins 5 (some .int) (q_rm 9 207) [q_rf w t, .int a0, .int a1] s0 (f_X12_wins n t a0 a1 s0) := q_CofG [some (q_rf w t), some (.int a0), some (.int a1), none, none] (by decide +kernel) rfl rfl (Nat.le_of_ble_eq_true rfl) fun cx hl hc => by
  have hc : q_ok w cx RX12 cX12_wins 5 (some .int) (q_rm 9 207) := hc
  rw [f_X12_wins]
  refine g_rl0 hc dX12_wins_0 rfl (pc2 := 1) rfl ?_
  refine g_il1 hc dX12_wins_1 rfl (pc2 := 2) rfl ?_
  refine g_callV1 hc (C_X12_isMan ht) mv_X12_isMan ln_X12_75 ht ⟨by decide, by decide⟩ (Nat.le_of_ble_eq_true rfl) dX12_wins_2 (pc2 := 5) rfl (fun r2 s1 => ?_)
  refine g_if_eq hc dX12_wins_5 (pc1 := 17) (pc2 := 8) rfl rfl (fun _ => ?_) (fun _ => ?_)
  · refine g_iconst hc dX12_wins_17 ic_m1 (pc2 := 18) rfl ?_
    exact g_iret hc dX12_wins_18
  · refine g_il2 hc dX12_wins_8 rfl (pc2 := 9) rfl ?_
    refine g_iconst hc dX12_wins_9 ic_0 (pc2 := 10) rfl ?_
    refine g_iconst hc dX12_wins_10 ic_1 (pc2 := 11) rfl ?_
    refine g_callS3 hc C_X12_isIn mv_X12_isIn ln_X12_56 ⟨by decide, by decide⟩ (Nat.le_of_ble_eq_true rfl) dX12_wins_11 (pc2 := 14) rfl (fun r5 s4 => ?_)
    refine g_if_ne hc dX12_wins_14 (pc1 := 17) (pc2 := 19) rfl rfl (fun _ => ?_) (fun _ => ?_)
    · refine g_iconst hc dX12_wins_17 ic_m1 (pc2 := 18) rfl ?_
      exact g_iret hc dX12_wins_18
    · refine g_iconst hc dX12_wins_19 ic_m1 (pc2 := 20) rfl ?_
      refine g_is3 hc dX12_wins_20 (by decide) (L2 := [some (q_rf w t), some (.int a0), some (.int a1), some (.int (-1)), none]) rfl (pc2 := 21) rfl ?_
      refine g_iconst hc dX12_wins_21 ic_0 (pc2 := 22) rfl ?_
      refine g_istore hc dX12_wins_22 (by decide) (L2 := [some (q_rf w t), some (.int a0), some (.int a1), some (.int (-1)), some (.int 0)]) rfl (pc2 := 24) rfl ?_
      refine t_X12_wins_L24 hc ht (fun y19 s20 => ?_) n _ _ _
      refine g_il3 hc dX12_wins_74 rfl (pc2 := 75) rfl ?_
      refine g_iconst hc dX12_wins_75 ic_m1 (pc2 := 76) rfl ?_
      refine g_icmp_eq hc dX12_wins_76 (pc1 := 84) (pc2 := 79) rfl rfl (fun _ => ?_) (fun _ => ?_)
      · refine g_il3 hc dX12_wins_84 rfl (pc2 := 85) rfl ?_
        refine g_goto hc dX12_wins_85 (pc2 := 92) rfl ?_
        exact g_iret hc dX12_wins_92
      · refine g_il2 hc dX12_wins_79 rfl (pc2 := 80) rfl ?_
        refine g_iconst hc dX12_wins_80 ic_1 (pc2 := 81) rfl ?_
        refine g_icmp_ne hc dX12_wins_81 (pc1 := 84) (pc2 := 88) rfl rfl (fun _ => ?_) (fun _ => ?_)
        · refine g_il3 hc dX12_wins_84 rfl (pc2 := 85) rfl ?_
          refine g_goto hc dX12_wins_85 (pc2 := 92) rfl ?_
          exact g_iret hc dX12_wins_92
        · refine g_il3 hc dX12_wins_88 rfl (pc2 := 89) rfl ?_
          refine g_callS1 hc C_X12_count mv_X12_count ln_X12_320 ⟨by decide, by decide⟩ (Nat.le_of_ble_eq_true rfl) dX12_wins_89 (pc2 := 92) rfl (fun r24 s23 => ?_)
          exact g_iret hc dX12_wins_92
set_option maxRecDepth 100000 in
set_option maxHeartbeats 4000000 in
def f_X12_turnsBy (n : Nat) (t : Nat) (a0 : Int32) (s0 : q_Sto) : Option (Int32 × q_Sto) :=
  q_call (f_X12_isMule n t a0 s0) fun r2 s1 =>
  if r2 = 0 then (
  some ((-1), s1))
  else (
  q_callv (f_X12_lays n t s1) fun s4 =>
  q_call (f_X12_stand n t s4) fun r7 s6 =>
  q_ld s6 (q_RF t 0) 2 1790 fun v8 =>
  q_ld s6 (q_RF t 0) 7 1790 fun v9 =>
  q_st s6 (q_RF t 0) 7 1790 (v9 ||| (1 <<< (a0 &&& 31))) fun s10 =>
  q_call (f_X12_stand n t s10) fun r12 s11 =>
  q_ld s11 (q_RF t 0) 2 1790 fun v13 =>
  q_callv (f_X12_putsBack n t s11) fun s14 =>
  if v8 = v13 then (
  some (0, s14))
  else (
  some (1, s14)))
set_option maxRecDepth 100000 in
set_option maxHeartbeats 4000000 in
theorem C_X12_turnsBy {l : Launch} {w : q_Wd} {n : Nat} {t : Nat} {a0 : Int32} (ht : q_KD t = .inl 12) {s0 : q_Sto} : q_C l w yX12_turnsBy cX12_turnsBy 4 (some .int) (q_rm 8 184) [q_rf w t, .int a0] s0 (f_X12_turnsBy n t a0 s0) := q_CofG [some (q_rf w t), some (.int a0), none, none] (by decide +kernel) rfl rfl (Nat.le_of_ble_eq_true rfl) fun cx hl hc => by
  have hc : q_ok w cx RX12 cX12_turnsBy 4 (some .int) (q_rm 8 184) := hc
  rw [f_X12_turnsBy]
  refine g_rl0 hc dX12_turnsBy_0 rfl (pc2 := 1) rfl ?_
  refine g_il1 hc dX12_turnsBy_1 rfl (pc2 := 2) rfl ?_
  refine g_callV1 hc (C_X12_isMule ht) mv_X12_isMule ln_X12_72 ht ⟨by decide, by decide⟩ (Nat.le_of_ble_eq_true rfl) dX12_turnsBy_2 (pc2 := 5) rfl (fun r2 s1 => ?_)
  refine g_if_ne hc dX12_turnsBy_5 (pc1 := 8) (pc2 := 10) rfl rfl (fun _ => ?_) (fun _ => ?_)
  · refine g_iconst hc dX12_turnsBy_8 ic_m1 (pc2 := 9) rfl ?_
    exact g_iret hc dX12_turnsBy_9
  · refine g_rl0 hc dX12_turnsBy_10 rfl (pc2 := 11) rfl ?_
    refine g_callV0v hc (C_X12_lays ht) mv_X12_lays ln_X12_395 ht ⟨by decide, by decide⟩ (Nat.le_of_ble_eq_true rfl) dX12_turnsBy_11 (pc2 := 14) rfl (fun s4 => ?_)
    refine g_rl0 hc dX12_turnsBy_14 rfl (pc2 := 15) rfl ?_
    refine g_callV0 hc (C_X12_stand ht) mv_X12_stand ln_X12_348 ht ⟨by decide, by decide⟩ (Nat.le_of_ble_eq_true rfl) dX12_turnsBy_15 (pc2 := 18) rfl (fun r7 s6 => ?_)
    refine g_pop hc dX12_turnsBy_18 (pc2 := 19) rfl ?_
    refine g_rl0 hc dX12_turnsBy_19 rfl (pc2 := 20) rfl ?_
    refine g_getR hc fl_X12_7 rfl ht dX12_turnsBy_20 (pc2 := 23) rfl ?_
    refine g_iconst hc dX12_turnsBy_23 ic_2 (pc2 := 24) rfl ?_
    refine g_iald hc (kf_12_0 ht) (kl_12_0 ht) dX12_turnsBy_24 (pc2 := 25) rfl (fun v8 => ?_)
    refine g_is2 hc dX12_turnsBy_25 (by decide) (L2 := [some (q_rf w t), some (.int a0), some (.int v8), none]) rfl (pc2 := 26) rfl ?_
    refine g_rl0 hc dX12_turnsBy_26 rfl (pc2 := 27) rfl ?_
    refine g_getR hc fl_X12_7 rfl ht dX12_turnsBy_27 (pc2 := 30) rfl ?_
    refine g_bipush hc dX12_turnsBy_30 bp_7 (pc2 := 32) rfl ?_
    refine g_dup2 hc dX12_turnsBy_32 rfl rfl (pc2 := 33) rfl ?_
    refine g_iald hc (kf_12_0 ht) (kl_12_0 ht) dX12_turnsBy_33 (pc2 := 34) rfl (fun v9 => ?_)
    refine g_iconst hc dX12_turnsBy_34 ic_1 (pc2 := 35) rfl ?_
    refine g_il1 hc dX12_turnsBy_35 rfl (pc2 := 36) rfl ?_
    refine g_ishl hc dX12_turnsBy_36 (pc2 := 37) rfl ?_
    refine g_ior hc dX12_turnsBy_37 (pc2 := 38) rfl ?_
    refine g_iast hc (kf_12_0 ht) (kl_12_0 ht) dX12_turnsBy_38 (pc2 := 39) rfl (fun s10 => ?_)
    refine g_rl0 hc dX12_turnsBy_39 rfl (pc2 := 40) rfl ?_
    refine g_callV0 hc (C_X12_stand ht) mv_X12_stand ln_X12_348 ht ⟨by decide, by decide⟩ (Nat.le_of_ble_eq_true rfl) dX12_turnsBy_40 (pc2 := 43) rfl (fun r12 s11 => ?_)
    refine g_pop hc dX12_turnsBy_43 (pc2 := 44) rfl ?_
    refine g_rl0 hc dX12_turnsBy_44 rfl (pc2 := 45) rfl ?_
    refine g_getR hc fl_X12_7 rfl ht dX12_turnsBy_45 (pc2 := 48) rfl ?_
    refine g_iconst hc dX12_turnsBy_48 ic_2 (pc2 := 49) rfl ?_
    refine g_iald hc (kf_12_0 ht) (kl_12_0 ht) dX12_turnsBy_49 (pc2 := 50) rfl (fun v13 => ?_)
    refine g_is3 hc dX12_turnsBy_50 (by decide) (L2 := [some (q_rf w t), some (.int a0), some (.int v8), some (.int v13)]) rfl (pc2 := 51) rfl ?_
    refine g_rl0 hc dX12_turnsBy_51 rfl (pc2 := 52) rfl ?_
    refine g_callV0v hc (C_X12_putsBack ht) mv_X12_putsBack ln_X12_398 ht ⟨by decide, by decide⟩ (Nat.le_of_ble_eq_true rfl) dX12_turnsBy_52 (pc2 := 55) rfl (fun s14 => ?_)
    refine g_il2 hc dX12_turnsBy_55 rfl (pc2 := 56) rfl ?_
    refine g_il3 hc dX12_turnsBy_56 rfl (pc2 := 57) rfl ?_
    refine g_icmp_eq hc dX12_turnsBy_57 (pc1 := 64) (pc2 := 60) rfl rfl (fun _ => ?_) (fun _ => ?_)
    · refine g_iconst hc dX12_turnsBy_64 ic_0 (pc2 := 65) rfl ?_
      exact g_iret hc dX12_turnsBy_65
    · refine g_iconst hc dX12_turnsBy_60 ic_1 (pc2 := 61) rfl ?_
      refine g_goto hc dX12_turnsBy_61 (pc2 := 65) rfl ?_
      exact g_iret hc dX12_turnsBy_65
