set_option maxRecDepth 100000 in
set_option maxHeartbeats 4000000 in
def f_X4_goOn_L17 (n : Nat) (x0 : Nat) (x1 : Int32) (x2 : Int32) (k64 : Int32 → q_Sto → Option (Int32 × q_Sto)) : Nat → Int32 → Int32 → q_Sto → Option (Int32 × q_Sto)
  | 0, _, _, _ => none
  | j + 1, x3, x4, s0 =>
    if x4 < x2 then (
    if x4 < 12 then (
    q_ld s0 (q_RF x0 2) x1 4096 fun v5 =>
    q_call (f_X11_isIn n v5 x4 s0) fun r7 s6 =>
    if r7 = 0 then (
    q_nm (x3 ||| 0) fun v9 =>
    f_X4_goOn_L17 n x0 x1 x2 k64 j v9 (x4 + 1) s6)
    else (
    q_ld s6 (q_RF x0 5) x4 12 fun v10 =>
    q_nm (x3 ||| v10) fun v11 =>
    f_X4_goOn_L17 n x0 x1 x2 k64 j v11 (x4 + 1) s6))
    else (
    k64 x3 s0))
    else (
    k64 x3 s0)
set_option maxRecDepth 100000 in
set_option maxHeartbeats 4000000 in
def f_X4_goOn_L73 (n : Nat) (x0 : Nat) (x1 : Int32) (x2 : Int32) (x3 : Int32) : Nat → Int32 → q_Sto → Option (Int32 × q_Sto)
  | 0, _, _ => none
  | j + 1, x4, s0 =>
    if x4 < x2 then (
    if x4 < 12 then (
    q_call (f_X11_isIn n x3 x4 s0) fun r18 s17 =>
    if r18 = 0 then (
    f_X4_goOn_L73 n x0 x1 x2 x3  j (x4 + 1) s17)
    else (
    q_ld s17 (q_RF x0 2) (x1 ||| (1 <<< (x4 &&& 31))) 4096 fun v20 =>
    q_st s17 (q_RF x0 2) (x1 ||| (1 <<< (x4 &&& 31))) 4096 (v20 ||| (1 <<< (x4 &&& 31))) fun s21 =>
    f_X4_goOn_L73 n x0 x1 x2 x3  j (x4 + 1) s21))
    else (
    some (0, s0)))
    else (
    some (0, s0))
set_option maxRecDepth 100000 in
set_option maxHeartbeats 4000000 in
def f_X4_goOn (n : Nat) (t : Nat) (a0 : Int32) (a1 : Int32) (s0 : q_Sto) : Option (Int32 × q_Sto) :=
  if a0 < 0 then (
  some (0, s0))
  else (
  if a0 < 4096 then (
  f_X4_goOn_L17 n t a0 a1 (fun (y12 : Int32) (s13 : q_Sto) =>
  q_nm (y12 &&& (a0 ^^^ (-1))) fun v14 =>
  f_X4_goOn_L73 n t a0 a1 v14  n 0 s13) n 0 0 s0)
  else (
  some (0, s0)))
set_option maxRecDepth 100000 in
set_option maxHeartbeats 4000000 in
theorem t_X4_goOn_L17 {w : q_Wd} {cx : q_Cx} (hc : q_ok w cx RX4 cX4_goOn 5 (none) (q_rm 1 21)) {n : Nat} {x0 : Nat} {x1 : Int32} {x2 : Int32} (hx0 : q_KD x0 = .inl 4) {k64 : Int32 → q_Sto → Option (Int32 × q_Sto)} (hk64 : ∀ (y3 : Int32) (s1 : q_Sto), q_G w cx 5 (none) 64 [some (q_rf w x0), some (.int x1), some (.int x2), some (.int y3), none] [] s1 (k64 y3 s1)) :
    ∀ (j : Nat) (x3 : Int32) (x4 : Int32) (s0 : q_Sto), q_G w cx 5 (none) 17 [some (q_rf w x0), some (.int x1), some (.int x2), some (.int x3), some (.int x4)] [] s0 (f_X4_goOn_L17 n x0 x1 x2 k64 j x3 x4 s0) := by
  intro j
  induction j with
  | zero =>
    intro _ _ _
    rw [f_X4_goOn_L17]
    exact q_none
  | succ j ih =>
    intro x3 x4 s0
    rw [f_X4_goOn_L17]
    refine g_iload hc dX4_goOn_17 rfl (pc2 := 19) rfl ?_
    refine g_il2 hc dX4_goOn_19 rfl (pc2 := 20) rfl ?_
    refine g_icmp_ge hc dX4_goOn_20 (pc1 := 23) (pc2 := 64) rfl rfl (fun _ => ?_) (fun _ => ?_)
    · refine g_iload hc dX4_goOn_23 rfl (pc2 := 25) rfl ?_
      refine g_bipush hc dX4_goOn_25 bp_12 (pc2 := 27) rfl ?_
      refine g_icmp_ge hc dX4_goOn_27 (pc1 := 30) (pc2 := 64) rfl rfl (fun _ => ?_) (fun _ => ?_)
      · refine g_il3 hc dX4_goOn_30 rfl (pc2 := 31) rfl ?_
        refine g_rl0 hc dX4_goOn_31 rfl (pc2 := 32) rfl ?_
        refine g_getR hc fl_X4_18 rfl hx0 dX4_goOn_32 (pc2 := 35) rfl ?_
        refine g_il1 hc dX4_goOn_35 rfl (pc2 := 36) rfl ?_
        refine g_iald hc (kf_4_2 hx0) (kl_4_2 hx0) dX4_goOn_36 (pc2 := 37) rfl (fun v5 => ?_)
        refine g_iload hc dX4_goOn_37 rfl (pc2 := 39) rfl ?_
        refine g_callSN2 (host := "MuleVote") hc C_X11_isIn mv_X11_isIn (by decide +kernel) ⟨by decide, by decide⟩ (Nat.le_of_ble_eq_true rfl) dX4_goOn_39 (pc2 := 42) rfl (fun r7 s6 => ?_)
        refine g_if_eq hc dX4_goOn_42 (pc1 := 55) (pc2 := 45) rfl rfl (fun _ => ?_) (fun _ => ?_)
        · refine g_iconst hc dX4_goOn_55 ic_0 (pc2 := 56) rfl ?_
          refine g_ior hc dX4_goOn_56 (pc2 := 57) rfl ?_
          refine g_nm (fun v9 => ?_)
          refine g_is3 hc dX4_goOn_57 (by decide) (L2 := [some (q_rf w x0), some (.int x1), some (.int x2), some (.int v9), some (.int x4)]) rfl (pc2 := 58) rfl ?_
          refine g_iinc hc dX4_goOn_58 rfl (q_ii ic_1) (by decide) (L2 := [some (q_rf w x0), some (.int x1), some (.int x2), some (.int v9), some (.int (x4 + 1))]) rfl (pc2 := 61) rfl ?_
          refine g_goto hc dX4_goOn_61 (pc2 := 17) rfl ?_
          exact ih _ _ _
        · refine g_rl0 hc dX4_goOn_45 rfl (pc2 := 46) rfl ?_
          refine g_getR hc fl_X4_27 rfl hx0 dX4_goOn_46 (pc2 := 49) rfl ?_
          refine g_iload hc dX4_goOn_49 rfl (pc2 := 51) rfl ?_
          refine g_iald hc (kf_4_5 hx0) (kl_4_5 hx0) dX4_goOn_51 (pc2 := 52) rfl (fun v10 => ?_)
          refine g_goto hc dX4_goOn_52 (pc2 := 56) rfl ?_
          refine g_ior hc dX4_goOn_56 (pc2 := 57) rfl ?_
          refine g_nm (fun v11 => ?_)
          refine g_is3 hc dX4_goOn_57 (by decide) (L2 := [some (q_rf w x0), some (.int x1), some (.int x2), some (.int v11), some (.int x4)]) rfl (pc2 := 58) rfl ?_
          refine g_iinc hc dX4_goOn_58 rfl (q_ii ic_1) (by decide) (L2 := [some (q_rf w x0), some (.int x1), some (.int x2), some (.int v11), some (.int (x4 + 1))]) rfl (pc2 := 61) rfl ?_
          refine g_goto hc dX4_goOn_61 (pc2 := 17) rfl ?_
          exact ih _ _ _
      · refine q_Gmask [true, true, true, true, false] (L2 := [some (q_rf w x0), some (.int x1), some (.int x2), some (.int x3), none]) rfl ?_
        exact hk64 _ _
    · refine q_Gmask [true, true, true, true, false] (L2 := [some (q_rf w x0), some (.int x1), some (.int x2), some (.int x3), none]) rfl ?_
      exact hk64 _ _
set_option maxRecDepth 100000 in
set_option maxHeartbeats 4000000 in
theorem t_X4_goOn_L73 {w : q_Wd} {cx : q_Cx} (hc : q_ok w cx RX4 cX4_goOn 5 (none) (q_rm 1 21)) {n : Nat} {x0 : Nat} {x1 : Int32} {x2 : Int32} {x3 : Int32} (hx0 : q_KD x0 = .inl 4)   :
    ∀ (j : Nat) (x4 : Int32) (s0 : q_Sto), q_G w cx 5 (none) 73 [some (q_rf w x0), some (.int x1), some (.int x2), some (.int x3), some (.int x4)] [] s0 (f_X4_goOn_L73 n x0 x1 x2 x3  j x4 s0) := by
  intro j
  induction j with
  | zero =>
    intro _ _
    rw [f_X4_goOn_L73]
    exact q_none
  | succ j ih =>
    intro x4 s0
    rw [f_X4_goOn_L73]
    refine g_iload hc dX4_goOn_73 rfl (pc2 := 75) rfl ?_
    refine g_il2 hc dX4_goOn_75 rfl (pc2 := 76) rfl ?_
    refine g_icmp_ge hc dX4_goOn_76 (pc1 := 79) (pc2 := 119) rfl rfl (fun _ => ?_) (fun _ => ?_)
    · refine g_iload hc dX4_goOn_79 rfl (pc2 := 81) rfl ?_
      refine g_bipush hc dX4_goOn_81 bp_12 (pc2 := 83) rfl ?_
      refine g_icmp_ge hc dX4_goOn_83 (pc1 := 86) (pc2 := 119) rfl rfl (fun _ => ?_) (fun _ => ?_)
      · refine g_il3 hc dX4_goOn_86 rfl (pc2 := 87) rfl ?_
        refine g_iload hc dX4_goOn_87 rfl (pc2 := 89) rfl ?_
        refine g_callSN2 (host := "MuleVote") hc C_X11_isIn mv_X11_isIn (by decide +kernel) ⟨by decide, by decide⟩ (Nat.le_of_ble_eq_true rfl) dX4_goOn_89 (pc2 := 92) rfl (fun r18 s17 => ?_)
        refine g_if_eq hc dX4_goOn_92 (pc1 := 113) (pc2 := 95) rfl rfl (fun _ => ?_) (fun _ => ?_)
        · refine g_iinc hc dX4_goOn_113 rfl (q_ii ic_1) (by decide) (L2 := [some (q_rf w x0), some (.int x1), some (.int x2), some (.int x3), some (.int (x4 + 1))]) rfl (pc2 := 116) rfl ?_
          refine g_goto hc dX4_goOn_116 (pc2 := 73) rfl ?_
          exact ih _ _
        · refine g_rl0 hc dX4_goOn_95 rfl (pc2 := 96) rfl ?_
          refine g_getR hc fl_X4_18 rfl hx0 dX4_goOn_96 (pc2 := 99) rfl ?_
          refine g_il1 hc dX4_goOn_99 rfl (pc2 := 100) rfl ?_
          refine g_iconst hc dX4_goOn_100 ic_1 (pc2 := 101) rfl ?_
          refine g_iload hc dX4_goOn_101 rfl (pc2 := 103) rfl ?_
          refine g_ishl hc dX4_goOn_103 (pc2 := 104) rfl ?_
          refine g_ior hc dX4_goOn_104 (pc2 := 105) rfl ?_
          refine g_dup2 hc dX4_goOn_105 rfl rfl (pc2 := 106) rfl ?_
          refine g_iald hc (kf_4_2 hx0) (kl_4_2 hx0) dX4_goOn_106 (pc2 := 107) rfl (fun v20 => ?_)
          refine g_iconst hc dX4_goOn_107 ic_1 (pc2 := 108) rfl ?_
          refine g_iload hc dX4_goOn_108 rfl (pc2 := 110) rfl ?_
          refine g_ishl hc dX4_goOn_110 (pc2 := 111) rfl ?_
          refine g_ior hc dX4_goOn_111 (pc2 := 112) rfl ?_
          refine g_iast hc (kf_4_2 hx0) (kl_4_2 hx0) dX4_goOn_112 (pc2 := 113) rfl (fun s21 => ?_)
          refine g_iinc hc dX4_goOn_113 rfl (q_ii ic_1) (by decide) (L2 := [some (q_rf w x0), some (.int x1), some (.int x2), some (.int x3), some (.int (x4 + 1))]) rfl (pc2 := 116) rfl ?_
          refine g_goto hc dX4_goOn_116 (pc2 := 73) rfl ?_
          exact ih _ _
      · exact g_vret hc dX4_goOn_119
    · exact g_vret hc dX4_goOn_119
set_option maxRecDepth 100000 in
set_option maxHeartbeats 4000000 in
theorem C_X4_goOn {l : Launch} {w : q_Wd} {n : Nat} {t : Nat} {a0 : Int32} {a1 : Int32} (ht : q_KD t = .inl 4) {s0 : q_Sto} : q_C l w yX4_goOn cX4_goOn 5 (none) (q_rm 1 21) [q_rf w t, .int a0, .int a1] s0 (f_X4_goOn n t a0 a1 s0) := q_CofG [some (q_rf w t), some (.int a0), some (.int a1), none, none] (by decide +kernel) rfl rfl (Nat.le_of_ble_eq_true rfl) fun cx hl hc => by
  have hc : q_ok w cx RX4 cX4_goOn 5 (none) (q_rm 1 21) := hc
  rw [f_X4_goOn]
  refine g_il1 hc dX4_goOn_0 rfl (pc2 := 1) rfl ?_
  refine g_if_lt hc dX4_goOn_1 (pc1 := 11) (pc2 := 4) rfl rfl (fun _ => ?_) (fun _ => ?_)
  · exact g_vret hc dX4_goOn_11
  · refine g_il1 hc dX4_goOn_4 rfl (pc2 := 5) rfl ?_
    refine g_sipush hc dX4_goOn_5 sp_4096 (pc2 := 8) rfl ?_
    refine g_icmp_lt hc dX4_goOn_8 (pc1 := 12) (pc2 := 11) rfl rfl (fun _ => ?_) (fun _ => ?_)
    · refine g_iconst hc dX4_goOn_12 ic_0 (pc2 := 13) rfl ?_
      refine g_is3 hc dX4_goOn_13 (by decide) (L2 := [some (q_rf w t), some (.int a0), some (.int a1), some (.int 0), none]) rfl (pc2 := 14) rfl ?_
      refine g_iconst hc dX4_goOn_14 ic_0 (pc2 := 15) rfl ?_
      refine g_istore hc dX4_goOn_15 (by decide) (L2 := [some (q_rf w t), some (.int a0), some (.int a1), some (.int 0), some (.int 0)]) rfl (pc2 := 17) rfl ?_
      refine t_X4_goOn_L17 hc ht (fun y12 s13 => ?_) n _ _ _
      refine g_il3 hc dX4_goOn_64 rfl (pc2 := 65) rfl ?_
      refine g_il1 hc dX4_goOn_65 rfl (pc2 := 66) rfl ?_
      refine g_iconst hc dX4_goOn_66 ic_m1 (pc2 := 67) rfl ?_
      refine g_ixor hc dX4_goOn_67 (pc2 := 68) rfl ?_
      refine g_iand hc dX4_goOn_68 (pc2 := 69) rfl ?_
      refine g_nm (fun v14 => ?_)
      refine g_is3 hc dX4_goOn_69 (by decide) (L2 := [some (q_rf w t), some (.int a0), some (.int a1), some (.int v14), none]) rfl (pc2 := 70) rfl ?_
      refine g_iconst hc dX4_goOn_70 ic_0 (pc2 := 71) rfl ?_
      refine g_istore hc dX4_goOn_71 (by decide) (L2 := [some (q_rf w t), some (.int a0), some (.int a1), some (.int v14), some (.int 0)]) rfl (pc2 := 73) rfl ?_
      refine t_X4_goOn_L73 hc ht  n _ _
    · exact g_vret hc dX4_goOn_11
set_option maxRecDepth 100000 in
set_option maxHeartbeats 4000000 in
def f_X4_longestRow_L15 (n : Nat) (x0 : Nat) (x1 : Nat) (x2 : Int32) (k37 : q_Sto → Option (Int32 × q_Sto)) : Nat → Int32 → q_Sto → Option (Int32 × q_Sto)
  | 0, _, _ => none
  | j + 1, x3, s0 =>
    if x3 < x2 then (
    q_call (f_X10_heededBy n x1 x3 s0) fun r4 s3 =>
    q_st s3 (q_RF x0 5) x3 12 r4 fun s5 =>
    f_X4_longestRow_L15 n x0 x1 x2 k37 j (x3 + 1) s5)
    else (
    k37 s0)
set_option maxRecDepth 100000 in
set_option maxHeartbeats 4000000 in
def f_X4_longestRow_L52 (n : Nat) (x0 : Nat) (x2 : Int32) (x3 : Int32) (k77 : q_Sto → Option (Int32 × q_Sto)) : Nat → Int32 → q_Sto → Option (Int32 × q_Sto)
  | 0, _, _ => none
  | j + 1, x4, s0 =>
    if x4 < x2 then (
    q_st s0 (q_RF x0 2) (1 <<< (x4 &&& 31)) 4096 (1 <<< (x4 &&& 31)) fun s11 =>
    f_X4_longestRow_L52 n x0 x2 x3 k77 j (x4 + 1) s11)
    else (
    k77 s0)
set_option maxRecDepth 100000 in
set_option maxHeartbeats 4000000 in
def f_X4_longestRow_L83 (n : Nat) (x0 : Nat) (x2 : Int32) (x3 : Int32) : Nat → Int32 → Int32 → q_Sto → Option (Int32 × q_Sto)
  | 0, _, _, _ => none
  | j + 1, x4, x5, s0 =>
    if x5 < x3 then (
    if x5 < 4096 then (
    q_ld s0 (q_RF x0 2) x5 4096 fun v15 =>
    if v15 = 0 then (
    f_X4_longestRow_L83 n x0 x2 x3  j x4 (x5 + 1) s0)
    else (
    q_call (f_J6_bitCount_0f7a4 n x5 s0) fun r18 s17 =>
    q_nm (q_mx x4 r18) fun v19 =>
    q_callv (f_X4_goOn n x0 x5 x2 s17) fun s20 =>
    f_X4_longestRow_L83 n x0 x2 x3  j v19 (x5 + 1) s20))
    else (
    some (x4, s0)))
    else (
    some (x4, s0))
set_option maxRecDepth 100000 in
set_option maxHeartbeats 4000000 in
def f_X4_longestRow (n : Nat) (t : Nat) (a0 : Nat) (s0 : q_Sto) : Option (Int32 × q_Sto) :=
  q_nm (q_mn 12 (s0 (q_RF a0 0) 8)) fun v1 =>
  f_X4_longestRow_L15 n t a0 v1 (fun  (s6 : q_Sto) =>
  q_nm (1 <<< (v1 &&& 31)) fun v7 =>
  q_callv (f_J7_fill_53178 n (q_RF t 2) 4096 0 s6) fun s8 =>
  f_X4_longestRow_L52 n t v1 v7 (fun  (s12 : q_Sto) =>
  f_X4_longestRow_L83 n t v1 v7  n 0 1 s12) n 0 s8) n 0 s0
set_option maxRecDepth 100000 in
set_option maxHeartbeats 4000000 in
theorem t_X4_longestRow_L15 {w : q_Wd} {cx : q_Cx} (hc : q_ok w cx RX4 cX4_longestRow 6 (some .int) (q_rm 2 45)) {n : Nat} {x0 : Nat} {x1 : Nat} {x2 : Int32} (hx0 : q_KD x0 = .inl 4) (hx1 : q_KD x1 = .inl 10) {k37 : q_Sto → Option (Int32 × q_Sto)} (hk37 : ∀  (s1 : q_Sto), q_G w cx 6 (some .int) 37 [some (q_rf w x0), none, some (.int x2), none, none, none] [] s1 (k37 s1)) :
    ∀ (j : Nat) (x3 : Int32) (s0 : q_Sto), q_G w cx 6 (some .int) 15 [some (q_rf w x0), some (q_rf w x1), some (.int x2), some (.int x3), none, none] [] s0 (f_X4_longestRow_L15 n x0 x1 x2 k37 j x3 s0) := by
  intro j
  induction j with
  | zero =>
    intro _ _
    rw [f_X4_longestRow_L15]
    exact q_none
  | succ j ih =>
    intro x3 s0
    rw [f_X4_longestRow_L15]
    refine g_il3 hc dX4_longestRow_15 rfl (pc2 := 16) rfl ?_
    refine g_il2 hc dX4_longestRow_16 rfl (pc2 := 17) rfl ?_
    refine g_icmp_ge hc dX4_longestRow_17 (pc1 := 20) (pc2 := 37) rfl rfl (fun _ => ?_) (fun _ => ?_)
    · refine g_rl0 hc dX4_longestRow_20 rfl (pc2 := 21) rfl ?_
      refine g_getR hc fl_X4_27 rfl hx0 dX4_longestRow_21 (pc2 := 24) rfl ?_
      refine g_il3 hc dX4_longestRow_24 rfl (pc2 := 25) rfl ?_
      refine g_rl1 hc dX4_longestRow_25 rfl (pc2 := 26) rfl ?_
      refine g_il3 hc dX4_longestRow_26 rfl (pc2 := 27) rfl ?_
      refine g_callV1 hc (C_X10_heededBy hx1) mv_X10_heededBy ln_X4_82 hx1 ⟨by decide, by decide⟩ (Nat.le_of_ble_eq_true rfl) dX4_longestRow_27 (pc2 := 30) rfl (fun r4 s3 => ?_)
      refine g_iast hc (kf_4_5 hx0) (kl_4_5 hx0) dX4_longestRow_30 (pc2 := 31) rfl (fun s5 => ?_)
      refine g_iinc hc dX4_longestRow_31 rfl (q_ii ic_1) (by decide) (L2 := [some (q_rf w x0), some (q_rf w x1), some (.int x2), some (.int (x3 + 1)), none, none]) rfl (pc2 := 34) rfl ?_
      refine g_goto hc dX4_longestRow_34 (pc2 := 15) rfl ?_
      exact ih _ _
    · refine q_Gmask [true, false, true, false, true, true] (L2 := [some (q_rf w x0), none, some (.int x2), none, none, none]) rfl ?_
      exact hk37 _
set_option maxRecDepth 100000 in
set_option maxHeartbeats 4000000 in
theorem t_X4_longestRow_L52 {w : q_Wd} {cx : q_Cx} (hc : q_ok w cx RX4 cX4_longestRow 6 (some .int) (q_rm 2 45)) {n : Nat} {x0 : Nat} {x2 : Int32} {x3 : Int32} (hx0 : q_KD x0 = .inl 4) {k77 : q_Sto → Option (Int32 × q_Sto)} (hk77 : ∀  (s1 : q_Sto), q_G w cx 6 (some .int) 77 [some (q_rf w x0), none, some (.int x2), some (.int x3), none, none] [] s1 (k77 s1)) :
    ∀ (j : Nat) (x4 : Int32) (s0 : q_Sto), q_G w cx 6 (some .int) 52 [some (q_rf w x0), none, some (.int x2), some (.int x3), some (.int x4), none] [] s0 (f_X4_longestRow_L52 n x0 x2 x3 k77 j x4 s0) := by
  intro j
  induction j with
  | zero =>
    intro _ _
    rw [f_X4_longestRow_L52]
    exact q_none
  | succ j ih =>
    intro x4 s0
    rw [f_X4_longestRow_L52]
    refine g_iload hc dX4_longestRow_52 rfl (pc2 := 54) rfl ?_
    refine g_il2 hc dX4_longestRow_54 rfl (pc2 := 55) rfl ?_
    refine g_icmp_ge hc dX4_longestRow_55 (pc1 := 58) (pc2 := 77) rfl rfl (fun _ => ?_) (fun _ => ?_)
    · refine g_rl0 hc dX4_longestRow_58 rfl (pc2 := 59) rfl ?_
      refine g_getR hc fl_X4_18 rfl hx0 dX4_longestRow_59 (pc2 := 62) rfl ?_
      refine g_iconst hc dX4_longestRow_62 ic_1 (pc2 := 63) rfl ?_
      refine g_iload hc dX4_longestRow_63 rfl (pc2 := 65) rfl ?_
      refine g_ishl hc dX4_longestRow_65 (pc2 := 66) rfl ?_
      refine g_iconst hc dX4_longestRow_66 ic_1 (pc2 := 67) rfl ?_
      refine g_iload hc dX4_longestRow_67 rfl (pc2 := 69) rfl ?_
      refine g_ishl hc dX4_longestRow_69 (pc2 := 70) rfl ?_
      refine g_iast hc (kf_4_2 hx0) (kl_4_2 hx0) dX4_longestRow_70 (pc2 := 71) rfl (fun s11 => ?_)
      refine g_iinc hc dX4_longestRow_71 rfl (q_ii ic_1) (by decide) (L2 := [some (q_rf w x0), none, some (.int x2), some (.int x3), some (.int (x4 + 1)), none]) rfl (pc2 := 74) rfl ?_
      refine g_goto hc dX4_longestRow_74 (pc2 := 52) rfl ?_
      exact ih _ _
    · refine q_Gmask [true, true, true, true, false, true] (L2 := [some (q_rf w x0), none, some (.int x2), some (.int x3), none, none]) rfl ?_
      exact hk77 _
set_option maxRecDepth 100000 in
set_option maxHeartbeats 4000000 in
theorem t_X4_longestRow_L83 {w : q_Wd} {cx : q_Cx} (hc : q_ok w cx RX4 cX4_longestRow 6 (some .int) (q_rm 2 45)) {n : Nat} {x0 : Nat} {x2 : Int32} {x3 : Int32} (hx0 : q_KD x0 = .inl 4)   :
    ∀ (j : Nat) (x4 : Int32) (x5 : Int32) (s0 : q_Sto), q_G w cx 6 (some .int) 83 [some (q_rf w x0), none, some (.int x2), some (.int x3), some (.int x4), some (.int x5)] [] s0 (f_X4_longestRow_L83 n x0 x2 x3  j x4 x5 s0) := by
  intro j
  induction j with
  | zero =>
    intro _ _ _
    rw [f_X4_longestRow_L83]
    exact q_none
  | succ j ih =>
    intro x4 x5 s0
    rw [f_X4_longestRow_L83]
    refine g_iload hc dX4_longestRow_83 rfl (pc2 := 85) rfl ?_
    refine g_il3 hc dX4_longestRow_85 rfl (pc2 := 86) rfl ?_
    refine g_icmp_ge hc dX4_longestRow_86 (pc1 := 89) (pc2 := 132) rfl rfl (fun _ => ?_) (fun _ => ?_)
    · refine g_iload hc dX4_longestRow_89 rfl (pc2 := 91) rfl ?_
      refine g_sipush hc dX4_longestRow_91 sp_4096 (pc2 := 94) rfl ?_
      refine g_icmp_ge hc dX4_longestRow_94 (pc1 := 97) (pc2 := 132) rfl rfl (fun _ => ?_) (fun _ => ?_)
      · refine g_rl0 hc dX4_longestRow_97 rfl (pc2 := 98) rfl ?_
        refine g_getR hc fl_X4_18 rfl hx0 dX4_longestRow_98 (pc2 := 101) rfl ?_
        refine g_iload hc dX4_longestRow_101 rfl (pc2 := 103) rfl ?_
        refine g_iald hc (kf_4_2 hx0) (kl_4_2 hx0) dX4_longestRow_103 (pc2 := 104) rfl (fun v15 => ?_)
        refine g_if_eq hc dX4_longestRow_104 (pc1 := 126) (pc2 := 107) rfl rfl (fun _ => ?_) (fun _ => ?_)
        · refine g_iinc hc dX4_longestRow_126 rfl (q_ii ic_1) (by decide) (L2 := [some (q_rf w x0), none, some (.int x2), some (.int x3), some (.int x4), some (.int (x5 + 1))]) rfl (pc2 := 129) rfl ?_
          refine g_goto hc dX4_longestRow_129 (pc2 := 83) rfl ?_
          exact ih _ _ _
        · refine g_iload hc dX4_longestRow_107 rfl (pc2 := 109) rfl ?_
          refine g_iload hc dX4_longestRow_109 rfl (pc2 := 111) rfl ?_
          refine g_callS1 hc C_J6_bitCount_0f7a4 mv_J6_bitCount_0f7a4 ln_X4_92 ⟨by decide, by decide⟩ (Nat.le_of_ble_eq_true rfl) dX4_longestRow_111 (pc2 := 114) rfl (fun r18 s17 => ?_)
          refine g_max hc ln_X4_97 ⟨by decide, by decide⟩ (Nat.le_of_ble_eq_true rfl) dX4_longestRow_114 (pc2 := 117) rfl ?_
          refine g_nm (fun v19 => ?_)
          refine g_istore hc dX4_longestRow_117 (by decide) (L2 := [some (q_rf w x0), none, some (.int x2), some (.int x3), some (.int v19), some (.int x5)]) rfl (pc2 := 119) rfl ?_
          refine g_rl0 hc dX4_longestRow_119 rfl (pc2 := 120) rfl ?_
          refine g_iload hc dX4_longestRow_120 rfl (pc2 := 122) rfl ?_
          refine g_il2 hc dX4_longestRow_122 rfl (pc2 := 123) rfl ?_
          refine g_callV2v hc (C_X4_goOn hx0) mv_X4_goOn ln_X4_100 hx0 ⟨by decide, by decide⟩ (Nat.le_of_ble_eq_true rfl) dX4_longestRow_123 (pc2 := 126) rfl (fun s20 => ?_)
          refine g_iinc hc dX4_longestRow_126 rfl (q_ii ic_1) (by decide) (L2 := [some (q_rf w x0), none, some (.int x2), some (.int x3), some (.int v19), some (.int (x5 + 1))]) rfl (pc2 := 129) rfl ?_
          refine g_goto hc dX4_longestRow_129 (pc2 := 83) rfl ?_
          exact ih _ _ _
      · refine g_iload hc dX4_longestRow_132 rfl (pc2 := 134) rfl ?_
        exact g_iret hc dX4_longestRow_134
    · refine g_iload hc dX4_longestRow_132 rfl (pc2 := 134) rfl ?_
      exact g_iret hc dX4_longestRow_134
set_option maxRecDepth 100000 in
set_option maxHeartbeats 4000000 in
theorem C_X4_longestRow {l : Launch} {w : q_Wd} {n : Nat} {t : Nat} {a0 : Nat} (ht : q_KD t = .inl 4) (ha0 : q_KD a0 = .inl 10) {s0 : q_Sto} : q_C l w yX4_longestRow cX4_longestRow 6 (some .int) (q_rm 2 45) [q_rf w t, q_rf w a0] s0 (f_X4_longestRow n t a0 s0) := q_CofG [some (q_rf w t), some (q_rf w a0), none, none, none, none] (by decide +kernel) rfl rfl (Nat.le_of_ble_eq_true rfl) fun cx hl hc => by
  have hc : q_ok w cx RX4 cX4_longestRow 6 (some .int) (q_rm 2 45) := hc
  rw [f_X4_longestRow]
  refine g_bipush hc dX4_longestRow_0 bp_12 (pc2 := 2) rfl ?_
  refine g_rl1 hc dX4_longestRow_2 rfl (pc2 := 3) rfl ?_
  refine g_getR hc fl_X4_30 rfl ha0 dX4_longestRow_3 (pc2 := 6) rfl ?_
  refine g_getI hc fl_X4_62 rfl (kf_10_0 ha0) dX4_longestRow_6 (pc2 := 9) rfl ?_
  refine g_min hc ln_X4_46 ⟨by decide, by decide⟩ (Nat.le_of_ble_eq_true rfl) dX4_longestRow_9 (pc2 := 12) rfl ?_
  refine g_nm (fun v1 => ?_)
  refine g_is2 hc dX4_longestRow_12 (by decide) (L2 := [some (q_rf w t), some (q_rf w a0), some (.int v1), none, none, none]) rfl (pc2 := 13) rfl ?_
  refine g_iconst hc dX4_longestRow_13 ic_0 (pc2 := 14) rfl ?_
  refine g_is3 hc dX4_longestRow_14 (by decide) (L2 := [some (q_rf w t), some (q_rf w a0), some (.int v1), some (.int 0), none, none]) rfl (pc2 := 15) rfl ?_
  refine t_X4_longestRow_L15 hc ht ha0 (fun s6 => ?_) n _ _
  refine g_iconst hc dX4_longestRow_37 ic_1 (pc2 := 38) rfl ?_
  refine g_il2 hc dX4_longestRow_38 rfl (pc2 := 39) rfl ?_
  refine g_ishl hc dX4_longestRow_39 (pc2 := 40) rfl ?_
  refine g_nm (fun v7 => ?_)
  refine g_is3 hc dX4_longestRow_40 (by decide) (L2 := [some (q_rf w t), none, some (.int v1), some (.int v7), none, none]) rfl (pc2 := 41) rfl ?_
  refine g_rl0 hc dX4_longestRow_41 rfl (pc2 := 42) rfl ?_
  refine g_getR hc fl_X4_18 rfl ht dX4_longestRow_42 (pc2 := 45) rfl ?_
  refine g_iconst hc dX4_longestRow_45 ic_0 (pc2 := 46) rfl ?_
  refine g_callS2v hc (C_J7_fill_53178 (kf_4_2 ht) (kl_4_2 ht)) mv_J7_fill_53178 ln_X4_86 ⟨by decide, by decide⟩ (Nat.le_of_ble_eq_true rfl) dX4_longestRow_46 (pc2 := 49) rfl (fun s8 => ?_)
  refine g_iconst hc dX4_longestRow_49 ic_0 (pc2 := 50) rfl ?_
  refine g_istore hc dX4_longestRow_50 (by decide) (L2 := [some (q_rf w t), none, some (.int v1), some (.int v7), some (.int 0), none]) rfl (pc2 := 52) rfl ?_
  refine t_X4_longestRow_L52 hc ht (fun s12 => ?_) n _ _
  refine g_iconst hc dX4_longestRow_77 ic_0 (pc2 := 78) rfl ?_
  refine g_istore hc dX4_longestRow_78 (by decide) (L2 := [some (q_rf w t), none, some (.int v1), some (.int v7), some (.int 0), none]) rfl (pc2 := 80) rfl ?_
  refine g_iconst hc dX4_longestRow_80 ic_1 (pc2 := 81) rfl ?_
  refine g_istore hc dX4_longestRow_81 (by decide) (L2 := [some (q_rf w t), none, some (.int v1), some (.int v7), some (.int 0), some (.int 1)]) rfl (pc2 := 83) rfl ?_
  refine t_X4_longestRow_L83 hc ht  n _ _ _
set_option maxRecDepth 100000 in
set_option maxHeartbeats 4000000 in
def f_X4_isFit_L7 (n : Nat) (x0 : Nat) (x1 : Int32) (x2 : Nat) : Nat → Int32 → q_Sto → Option (Int32 × q_Sto)
  | 0, _, _ => none
  | j + 1, x3, s0 =>
    if x3 < (s0 x2 2) then (
    q_call (f_X6_cell n x2 x3 0 s0) fun r3 s2 =>
    q_call (f_X6_cell n x2 x3 1 s2) fun r5 s4 =>
    q_call (f_X9_likingFor n (q_RF x0 0) r3 r5 s4) fun r7 s6 =>
    q_jn (fun (y8 : Int32) (s9 : q_Sto) =>
      q_call (f_X6_cell n x2 x3 2 s9) fun r11 s10 =>
      if r11 = 0 then (
      if y8 = 0 then (
      f_X4_isFit_L7 n x0 x1 x2  j (x3 + 1) s10)
      else (
      some (0, s10)))
      else (
      if y8 = 1 then (
      f_X4_isFit_L7 n x0 x1 x2  j (x3 + 1) s10)
      else (
      some (0, s10)))) fun j47 =>
    if r7 < x1 then (
    j47 0 s6)
    else (
    j47 1 s6))
    else (
    some (1, s0))
set_option maxRecDepth 100000 in
set_option maxHeartbeats 4000000 in
def f_X4_isFit (n : Nat) (a0 : Nat) (a1 : Int32) (s0 : q_Sto) : Option (Int32 × q_Sto) :=
  f_X4_isFit_L7 n a0 a1 (q_RF a0 6)  n 0 s0
set_option maxRecDepth 100000 in
set_option maxHeartbeats 4000000 in
theorem t_X4_isFit_L7 {w : q_Wd} {cx : q_Cx} (hc : q_ok w cx RX4 cX4_isFit 5 (some .boolean) (q_rm 2 43)) {n : Nat} {x0 : Nat} {x1 : Int32} {x2 : Nat} (hx0 : q_KD x0 = .inl 10) (hx2 : q_KD x2 = .inl 6)   :
    ∀ (j : Nat) (x3 : Int32) (s0 : q_Sto), q_G w cx 5 (some .boolean) 7 [some (q_rf w x0), some (.int x1), some (q_rf w x2), some (.int x3), none] [] s0 (f_X4_isFit_L7 n x0 x1 x2  j x3 s0) := by
  intro j
  induction j with
  | zero =>
    intro _ _
    rw [f_X4_isFit_L7]
    exact q_none
  | succ j ih =>
    intro x3 s0
    rw [f_X4_isFit_L7]
    refine g_il3 hc dX4_isFit_7 rfl (pc2 := 8) rfl ?_
    refine g_rl2 hc dX4_isFit_8 rfl (pc2 := 9) rfl ?_
    refine g_getI hc fl_X4_40 rfl hx2 dX4_isFit_9 (pc2 := 12) rfl ?_
    refine g_icmp_ge hc dX4_isFit_12 (pc1 := 15) (pc2 := 72) rfl rfl (fun _ => ?_) (fun _ => ?_)
    · refine g_rl0 hc dX4_isFit_15 rfl (pc2 := 16) rfl ?_
      refine g_getR hc fl_X4_30 rfl hx0 dX4_isFit_16 (pc2 := 19) rfl ?_
      refine g_rl2 hc dX4_isFit_19 rfl (pc2 := 20) rfl ?_
      refine g_il3 hc dX4_isFit_20 rfl (pc2 := 21) rfl ?_
      refine g_iconst hc dX4_isFit_21 ic_0 (pc2 := 22) rfl ?_
      refine g_callV2 hc (C_X6_cell hx2) mv_X6_cell ln_X4_79 hx2 ⟨by decide, by decide⟩ (Nat.le_of_ble_eq_true rfl) dX4_isFit_22 (pc2 := 25) rfl (fun r3 s2 => ?_)
      refine g_rl2 hc dX4_isFit_25 rfl (pc2 := 26) rfl ?_
      refine g_il3 hc dX4_isFit_26 rfl (pc2 := 27) rfl ?_
      refine g_iconst hc dX4_isFit_27 ic_1 (pc2 := 28) rfl ?_
      refine g_callV2 hc (C_X6_cell hx2) mv_X6_cell ln_X4_79 hx2 ⟨by decide, by decide⟩ (Nat.le_of_ble_eq_true rfl) dX4_isFit_28 (pc2 := 31) rfl (fun r5 s4 => ?_)
      refine g_callV2 hc (C_X9_likingFor (kf_10_0 hx0)) mv_X9_likingFor ln_X4_111 (kf_10_0 hx0) ⟨by decide, by decide⟩ (Nat.le_of_ble_eq_true rfl) dX4_isFit_31 (pc2 := 34) rfl (fun r7 s6 => ?_)
      refine g_istore hc dX4_isFit_34 (by decide) (L2 := [some (q_rf w x0), some (.int x1), some (q_rf w x2), some (.int x3), some (.int r7)]) rfl (pc2 := 36) rfl ?_
      refine g_iload hc dX4_isFit_36 rfl (pc2 := 38) rfl ?_
      refine g_il1 hc dX4_isFit_38 rfl (pc2 := 39) rfl ?_
      refine g_jn (P := fun j47 => ∀ (y8 : Int32) (s9 : q_Sto), q_G w cx 5 (some .boolean) 47 [some (q_rf w x0), some (.int x1), some (q_rf w x2), some (.int x3), none] [.int y8] s9 (j47 y8 s9)) (fun y8 s9 => ?_) (fun j47 hj47 => ?_)
      · refine g_rl2 hc dX4_isFit_47 rfl (pc2 := 48) rfl ?_
        refine g_il3 hc dX4_isFit_48 rfl (pc2 := 49) rfl ?_
        refine g_iconst hc dX4_isFit_49 ic_2 (pc2 := 50) rfl ?_
        refine g_callV2 hc (C_X6_cell hx2) mv_X6_cell ln_X4_79 hx2 ⟨by decide, by decide⟩ (Nat.le_of_ble_eq_true rfl) dX4_isFit_50 (pc2 := 53) rfl (fun r11 s10 => ?_)
        refine g_if_eq hc dX4_isFit_53 (pc1 := 60) (pc2 := 56) rfl rfl (fun _ => ?_) (fun _ => ?_)
        · refine g_iconst hc dX4_isFit_60 ic_0 (pc2 := 61) rfl ?_
          refine g_icmp_eq hc dX4_isFit_61 (pc1 := 66) (pc2 := 64) rfl rfl (fun _ => ?_) (fun _ => ?_)
          · refine g_iinc hc dX4_isFit_66 rfl (q_ii ic_1) (by decide) (L2 := [some (q_rf w x0), some (.int x1), some (q_rf w x2), some (.int (x3 + 1)), none]) rfl (pc2 := 69) rfl ?_
            refine g_goto hc dX4_isFit_69 (pc2 := 7) rfl ?_
            exact ih _ _
          · refine g_iconst hc dX4_isFit_64 ic_0 (pc2 := 65) rfl ?_
            exact g_zret0 (by decide) hc dX4_isFit_65
        · refine g_iconst hc dX4_isFit_56 ic_1 (pc2 := 57) rfl ?_
          refine g_goto hc dX4_isFit_57 (pc2 := 61) rfl ?_
          refine g_icmp_eq hc dX4_isFit_61 (pc1 := 66) (pc2 := 64) rfl rfl (fun _ => ?_) (fun _ => ?_)
          · refine g_iinc hc dX4_isFit_66 rfl (q_ii ic_1) (by decide) (L2 := [some (q_rf w x0), some (.int x1), some (q_rf w x2), some (.int (x3 + 1)), none]) rfl (pc2 := 69) rfl ?_
            refine g_goto hc dX4_isFit_69 (pc2 := 7) rfl ?_
            exact ih _ _
          · refine g_iconst hc dX4_isFit_64 ic_0 (pc2 := 65) rfl ?_
            exact g_zret0 (by decide) hc dX4_isFit_65
      · refine g_icmp_lt hc dX4_isFit_39 (pc1 := 46) (pc2 := 42) rfl rfl (fun _ => ?_) (fun _ => ?_)
        · refine g_iconst hc dX4_isFit_46 ic_0 (pc2 := 47) rfl ?_
          refine q_Gmask [true, true, true, true, false] (L2 := [some (q_rf w x0), some (.int x1), some (q_rf w x2), some (.int x3), none]) rfl ?_
          exact hj47 _ _
        · refine g_iconst hc dX4_isFit_42 ic_1 (pc2 := 43) rfl ?_
          refine g_goto hc dX4_isFit_43 (pc2 := 47) rfl ?_
          refine q_Gmask [true, true, true, true, false] (L2 := [some (q_rf w x0), some (.int x1), some (q_rf w x2), some (.int x3), none]) rfl ?_
          exact hj47 _ _
    · refine g_iconst hc dX4_isFit_72 ic_1 (pc2 := 73) rfl ?_
      exact g_zret0 (by decide) hc dX4_isFit_73
set_option maxRecDepth 100000 in
set_option maxHeartbeats 4000000 in
theorem C_X4_isFit {l : Launch} {w : q_Wd} {n : Nat} {a0 : Nat} {a1 : Int32} (ha0 : q_KD a0 = .inl 10) {s0 : q_Sto} : q_C l w yX4_isFit cX4_isFit 5 (some .boolean) (q_rm 2 43) [q_rf w a0, .int a1] s0 (f_X4_isFit n a0 a1 s0) := q_CofG [some (q_rf w a0), some (.int a1), none, none, none] (by decide +kernel) rfl rfl (Nat.le_of_ble_eq_true rfl) fun cx hl hc => by
  have hc : q_ok w cx RX4 cX4_isFit 5 (some .boolean) (q_rm 2 43) := hc
  rw [f_X4_isFit]
  refine g_rl0 hc dX4_isFit_0 rfl (pc2 := 1) rfl ?_
  refine g_getR hc fl_X4_108 rfl ha0 dX4_isFit_1 (pc2 := 4) rfl ?_
  refine g_rs2 hc dX4_isFit_4 (by decide) (L2 := [some (q_rf w a0), some (.int a1), some (q_rf w (q_RF a0 6)), none, none]) rfl (pc2 := 5) rfl ?_
  refine g_iconst hc dX4_isFit_5 ic_0 (pc2 := 6) rfl ?_
  refine g_is3 hc dX4_isFit_6 (by decide) (L2 := [some (q_rf w a0), some (.int a1), some (q_rf w (q_RF a0 6)), some (.int 0), none]) rfl (pc2 := 7) rfl ?_
  refine t_X4_isFit_L7 hc ha0 (kf_10_6 ha0)  n _ _
set_option maxRecDepth 100000 in
set_option maxHeartbeats 4000000 in
def f_X4_countFits_L4 (n : Nat) (x0 : Nat) (x1 : Nat) : Nat → Int32 → Int32 → q_Sto → Option (Int32 × q_Sto)
  | 0, _, _, _ => none
  | j + 1, x2, x3, s0 =>
    if x3 ≤ 99 then (
    q_call (f_X4_isFit n x1 x3 s0) fun r3 s2 =>
    q_jn (fun (y4 : Int32) (s5 : q_Sto) =>
      q_st s5 (q_RF x0 3) x3 100 y4 fun s6 =>
      q_ld s6 (q_RF x0 3) x3 100 fun v7 =>
      q_nm (x2 + v7) fun v8 =>
      f_X4_countFits_L4 n x0 x1  j v8 (x3 + 1) s6) fun j28 =>
    if r3 = 0 then (
    j28 0 s2)
    else (
    j28 1 s2))
    else (
    some (x2, s0))
set_option maxRecDepth 100000 in
set_option maxHeartbeats 4000000 in
def f_X4_countFits (n : Nat) (t : Nat) (a0 : Nat) (s0 : q_Sto) : Option (Int32 × q_Sto) :=
  f_X4_countFits_L4 n t a0  n 0 0 s0
set_option maxRecDepth 100000 in
set_option maxHeartbeats 4000000 in
theorem t_X4_countFits_L4 {w : q_Wd} {cx : q_Cx} (hc : q_ok w cx RX4 cX4_countFits 4 (some .int) (q_rm 3 67)) {n : Nat} {x0 : Nat} {x1 : Nat} (hx0 : q_KD x0 = .inl 4) (hx1 : q_KD x1 = .inl 10)   :
    ∀ (j : Nat) (x2 : Int32) (x3 : Int32) (s0 : q_Sto), q_G w cx 4 (some .int) 4 [some (q_rf w x0), some (q_rf w x1), some (.int x2), some (.int x3)] [] s0 (f_X4_countFits_L4 n x0 x1  j x2 x3 s0) := by
  intro j
  induction j with
  | zero =>
    intro _ _ _
    rw [f_X4_countFits_L4]
    exact q_none
  | succ j ih =>
    intro x2 x3 s0
    rw [f_X4_countFits_L4]
    refine g_il3 hc dX4_countFits_4 rfl (pc2 := 5) rfl ?_
    refine g_bipush hc dX4_countFits_5 bp_99 (pc2 := 7) rfl ?_
    refine g_icmp_gt hc dX4_countFits_7 (pc1 := 10) (pc2 := 44) rfl rfl (fun _ => ?_) (fun _ => ?_)
    · refine g_rl0 hc dX4_countFits_10 rfl (pc2 := 11) rfl ?_
      refine g_getR hc fl_X4_21 rfl hx0 dX4_countFits_11 (pc2 := 14) rfl ?_
      refine g_il3 hc dX4_countFits_14 rfl (pc2 := 15) rfl ?_
      refine g_rl1 hc dX4_countFits_15 rfl (pc2 := 16) rfl ?_
      refine g_il3 hc dX4_countFits_16 rfl (pc2 := 17) rfl ?_
      refine g_callS2 hc (C_X4_isFit hx1) mv_X4_isFit ln_X4_104 ⟨by decide, by decide⟩ (Nat.le_of_ble_eq_true rfl) dX4_countFits_17 (pc2 := 20) rfl (fun r3 s2 => ?_)
      refine g_jn (P := fun j28 => ∀ (y4 : Int32) (s5 : q_Sto), q_G w cx 4 (some .int) 28 [some (q_rf w x0), some (q_rf w x1), some (.int x2), some (.int x3)] [.int y4, .int x3, q_rf w (q_RF x0 3)] s5 (j28 y4 s5)) (fun y4 s5 => ?_) (fun j28 hj28 => ?_)
      · refine g_iast hc (kf_4_3 hx0) (kl_4_3 hx0) dX4_countFits_28 (pc2 := 29) rfl (fun s6 => ?_)
        refine g_il2 hc dX4_countFits_29 rfl (pc2 := 30) rfl ?_
        refine g_rl0 hc dX4_countFits_30 rfl (pc2 := 31) rfl ?_
        refine g_getR hc fl_X4_21 rfl hx0 dX4_countFits_31 (pc2 := 34) rfl ?_
        refine g_il3 hc dX4_countFits_34 rfl (pc2 := 35) rfl ?_
        refine g_iald hc (kf_4_3 hx0) (kl_4_3 hx0) dX4_countFits_35 (pc2 := 36) rfl (fun v7 => ?_)
        refine g_iadd hc dX4_countFits_36 (pc2 := 37) rfl ?_
        refine g_nm (fun v8 => ?_)
        refine g_is2 hc dX4_countFits_37 (by decide) (L2 := [some (q_rf w x0), some (q_rf w x1), some (.int v8), some (.int x3)]) rfl (pc2 := 38) rfl ?_
        refine g_iinc hc dX4_countFits_38 rfl (q_ii ic_1) (by decide) (L2 := [some (q_rf w x0), some (q_rf w x1), some (.int v8), some (.int (x3 + 1))]) rfl (pc2 := 41) rfl ?_
        refine g_goto hc dX4_countFits_41 (pc2 := 4) rfl ?_
        exact ih _ _ _
      · refine g_if_eq hc dX4_countFits_20 (pc1 := 27) (pc2 := 23) rfl rfl (fun _ => ?_) (fun _ => ?_)
        · refine g_iconst hc dX4_countFits_27 ic_0 (pc2 := 28) rfl ?_
          exact hj28 _ _
        · refine g_iconst hc dX4_countFits_23 ic_1 (pc2 := 24) rfl ?_
          refine g_goto hc dX4_countFits_24 (pc2 := 28) rfl ?_
          exact hj28 _ _
    · refine g_il2 hc dX4_countFits_44 rfl (pc2 := 45) rfl ?_
      exact g_iret hc dX4_countFits_45
set_option maxRecDepth 100000 in
set_option maxHeartbeats 4000000 in
theorem C_X4_countFits {l : Launch} {w : q_Wd} {n : Nat} {t : Nat} {a0 : Nat} (ht : q_KD t = .inl 4) (ha0 : q_KD a0 = .inl 10) {s0 : q_Sto} : q_C l w yX4_countFits cX4_countFits 4 (some .int) (q_rm 3 67) [q_rf w t, q_rf w a0] s0 (f_X4_countFits n t a0 s0) := q_CofG [some (q_rf w t), some (q_rf w a0), none, none] (by decide +kernel) rfl rfl (Nat.le_of_ble_eq_true rfl) fun cx hl hc => by
  have hc : q_ok w cx RX4 cX4_countFits 4 (some .int) (q_rm 3 67) := hc
  rw [f_X4_countFits]
  refine g_iconst hc dX4_countFits_0 ic_0 (pc2 := 1) rfl ?_
  refine g_is2 hc dX4_countFits_1 (by decide) (L2 := [some (q_rf w t), some (q_rf w a0), some (.int 0), none]) rfl (pc2 := 2) rfl ?_
  refine g_iconst hc dX4_countFits_2 ic_0 (pc2 := 3) rfl ?_
  refine g_is3 hc dX4_countFits_3 (by decide) (L2 := [some (q_rf w t), some (q_rf w a0), some (.int 0), some (.int 0)]) rfl (pc2 := 4) rfl ?_
  refine t_X4_countFits_L4 hc ht ha0  n _ _ _
set_option maxRecDepth 100000 in
set_option maxHeartbeats 4000000 in
def f_X4_leastFit_L8 (n : Nat) (x0 : Nat) : Nat → Int32 → q_Sto → Option (Int32 × q_Sto)
  | 0, _, _ => none
  | j + 1, x2, s0 =>
    if x2 ≤ 99 then (
    q_ld s0 (q_RF x0 3) x2 100 fun v4 =>
    if v4 = 0 then (
    f_X4_leastFit_L8 n x0  j (x2 + 1) s0)
    else (
    some (x2, s0)))
    else (
    some ((-1), s0))
set_option maxRecDepth 100000 in
set_option maxHeartbeats 4000000 in
def f_X4_leastFit (n : Nat) (t : Nat) (a0 : Nat) (s0 : q_Sto) : Option (Int32 × q_Sto) :=
  q_call (f_X4_countFits n t a0 s0) fun r2 s1 =>
  f_X4_leastFit_L8 n t  n 0 s1
set_option maxRecDepth 100000 in
set_option maxHeartbeats 4000000 in
theorem t_X4_leastFit_L8 {w : q_Wd} {cx : q_Cx} (hc : q_ok w cx RX4 cX4_leastFit 3 (some .int) (q_rm 4 90)) {n : Nat} {x0 : Nat} (hx0 : q_KD x0 = .inl 4)   :
    ∀ (j : Nat) (x2 : Int32) (s0 : q_Sto), q_G w cx 3 (some .int) 8 [some (q_rf w x0), none, some (.int x2)] [] s0 (f_X4_leastFit_L8 n x0  j x2 s0) := by
  intro j
  induction j with
  | zero =>
    intro _ _
    rw [f_X4_leastFit_L8]
    exact q_none
  | succ j ih =>
    intro x2 s0
    rw [f_X4_leastFit_L8]
    refine g_il2 hc dX4_leastFit_8 rfl (pc2 := 9) rfl ?_
    refine g_bipush hc dX4_leastFit_9 bp_99 (pc2 := 11) rfl ?_
    refine g_icmp_gt hc dX4_leastFit_11 (pc1 := 14) (pc2 := 31) rfl rfl (fun _ => ?_) (fun _ => ?_)
    · refine g_rl0 hc dX4_leastFit_14 rfl (pc2 := 15) rfl ?_
      refine g_getR hc fl_X4_21 rfl hx0 dX4_leastFit_15 (pc2 := 18) rfl ?_
      refine g_il2 hc dX4_leastFit_18 rfl (pc2 := 19) rfl ?_
      refine g_iald hc (kf_4_3 hx0) (kl_4_3 hx0) dX4_leastFit_19 (pc2 := 20) rfl (fun v4 => ?_)
      refine g_if_eq hc dX4_leastFit_20 (pc1 := 25) (pc2 := 23) rfl rfl (fun _ => ?_) (fun _ => ?_)
      · refine g_iinc hc dX4_leastFit_25 rfl (q_ii ic_1) (by decide) (L2 := [some (q_rf w x0), none, some (.int (x2 + 1))]) rfl (pc2 := 28) rfl ?_
        refine g_goto hc dX4_leastFit_28 (pc2 := 8) rfl ?_
        exact ih _ _
      · refine g_il2 hc dX4_leastFit_23 rfl (pc2 := 24) rfl ?_
        exact g_iret hc dX4_leastFit_24
    · refine g_iconst hc dX4_leastFit_31 ic_m1 (pc2 := 32) rfl ?_
      exact g_iret hc dX4_leastFit_32
set_option maxRecDepth 100000 in
set_option maxHeartbeats 4000000 in
theorem C_X4_leastFit {l : Launch} {w : q_Wd} {n : Nat} {t : Nat} {a0 : Nat} (ht : q_KD t = .inl 4) (ha0 : q_KD a0 = .inl 10) {s0 : q_Sto} : q_C l w yX4_leastFit cX4_leastFit 3 (some .int) (q_rm 4 90) [q_rf w t, q_rf w a0] s0 (f_X4_leastFit n t a0 s0) := q_CofG [some (q_rf w t), some (q_rf w a0), none] (by decide +kernel) rfl rfl (Nat.le_of_ble_eq_true rfl) fun cx hl hc => by
  have hc : q_ok w cx RX4 cX4_leastFit 3 (some .int) (q_rm 4 90) := hc
  rw [f_X4_leastFit]
  refine g_rl0 hc dX4_leastFit_0 rfl (pc2 := 1) rfl ?_
  refine g_rl1 hc dX4_leastFit_1 rfl (pc2 := 2) rfl ?_
  refine g_callV1 hc (C_X4_countFits ht ha0) mv_X4_countFits ln_X4_114 ht ⟨by decide, by decide⟩ (Nat.le_of_ble_eq_true rfl) dX4_leastFit_2 (pc2 := 5) rfl (fun r2 s1 => ?_)
  refine g_pop hc dX4_leastFit_5 (pc2 := 6) rfl ?_
  refine g_iconst hc dX4_leastFit_6 ic_0 (pc2 := 7) rfl ?_
  refine g_is2 hc dX4_leastFit_7 (by decide) (L2 := [some (q_rf w t), some (q_rf w a0), some (.int 0)]) rfl (pc2 := 8) rfl ?_
  refine q_Gmask [true, false, true] (L2 := [some (q_rf w t), none, some (.int 0)]) rfl ?_
  refine t_X4_leastFit_L8 hc ht  n _ _
set_option maxRecDepth 100000 in
set_option maxHeartbeats 4000000 in
def f_X4_fitsUpTo_L4 (n : Nat) (x0 : Nat) (x1 : Int32) : Nat → Int32 → Int32 → q_Sto → Option (Int32 × q_Sto)
  | 0, _, _, _ => none
  | j + 1, x2, x3, s0 =>
    if x3 ≤ x1 then (
    if x3 ≤ 99 then (
    q_ld s0 (q_RF x0 3) x3 100 fun v3 =>
    q_nm (x2 + v3) fun v4 =>
    f_X4_fitsUpTo_L4 n x0 x1  j v4 (x3 + 1) s0)
    else (
    some (x2, s0)))
    else (
    some (x2, s0))
set_option maxRecDepth 100000 in
set_option maxHeartbeats 4000000 in
def f_X4_fitsUpTo (n : Nat) (t : Nat) (a0 : Int32) (s0 : q_Sto) : Option (Int32 × q_Sto) :=
  f_X4_fitsUpTo_L4 n t a0  n 0 0 s0
set_option maxRecDepth 100000 in
set_option maxHeartbeats 4000000 in
theorem t_X4_fitsUpTo_L4 {w : q_Wd} {cx : q_Cx} (hc : q_ok w cx RX4 cX4_fitsUpTo 4 (some .int) (q_rm 0 0)) {n : Nat} {x0 : Nat} {x1 : Int32} (hx0 : q_KD x0 = .inl 4)   :
    ∀ (j : Nat) (x2 : Int32) (x3 : Int32) (s0 : q_Sto), q_G w cx 4 (some .int) 4 [some (q_rf w x0), some (.int x1), some (.int x2), some (.int x3)] [] s0 (f_X4_fitsUpTo_L4 n x0 x1  j x2 x3 s0) := by
  intro j
  induction j with
  | zero =>
    intro _ _ _
    rw [f_X4_fitsUpTo_L4]
    exact q_none
  | succ j ih =>
    intro x2 x3 s0
    rw [f_X4_fitsUpTo_L4]
    refine g_il3 hc dX4_fitsUpTo_4 rfl (pc2 := 5) rfl ?_
    refine g_il1 hc dX4_fitsUpTo_5 rfl (pc2 := 6) rfl ?_
    refine g_icmp_gt hc dX4_fitsUpTo_6 (pc1 := 9) (pc2 := 30) rfl rfl (fun _ => ?_) (fun _ => ?_)
    · refine g_il3 hc dX4_fitsUpTo_9 rfl (pc2 := 10) rfl ?_
      refine g_bipush hc dX4_fitsUpTo_10 bp_99 (pc2 := 12) rfl ?_
      refine g_icmp_gt hc dX4_fitsUpTo_12 (pc1 := 15) (pc2 := 30) rfl rfl (fun _ => ?_) (fun _ => ?_)
      · refine g_il2 hc dX4_fitsUpTo_15 rfl (pc2 := 16) rfl ?_
        refine g_rl0 hc dX4_fitsUpTo_16 rfl (pc2 := 17) rfl ?_
        refine g_getR hc fl_X4_21 rfl hx0 dX4_fitsUpTo_17 (pc2 := 20) rfl ?_
        refine g_il3 hc dX4_fitsUpTo_20 rfl (pc2 := 21) rfl ?_
        refine g_iald hc (kf_4_3 hx0) (kl_4_3 hx0) dX4_fitsUpTo_21 (pc2 := 22) rfl (fun v3 => ?_)
        refine g_iadd hc dX4_fitsUpTo_22 (pc2 := 23) rfl ?_
        refine g_nm (fun v4 => ?_)
        refine g_is2 hc dX4_fitsUpTo_23 (by decide) (L2 := [some (q_rf w x0), some (.int x1), some (.int v4), some (.int x3)]) rfl (pc2 := 24) rfl ?_
        refine g_iinc hc dX4_fitsUpTo_24 rfl (q_ii ic_1) (by decide) (L2 := [some (q_rf w x0), some (.int x1), some (.int v4), some (.int (x3 + 1))]) rfl (pc2 := 27) rfl ?_
        refine g_goto hc dX4_fitsUpTo_27 (pc2 := 4) rfl ?_
        exact ih _ _ _
      · refine g_il2 hc dX4_fitsUpTo_30 rfl (pc2 := 31) rfl ?_
        exact g_iret hc dX4_fitsUpTo_31
    · refine g_il2 hc dX4_fitsUpTo_30 rfl (pc2 := 31) rfl ?_
      exact g_iret hc dX4_fitsUpTo_31
set_option maxRecDepth 100000 in
set_option maxHeartbeats 4000000 in
theorem C_X4_fitsUpTo {l : Launch} {w : q_Wd} {n : Nat} {t : Nat} {a0 : Int32} (ht : q_KD t = .inl 4) {s0 : q_Sto} : q_C l w yX4_fitsUpTo cX4_fitsUpTo 4 (some .int) (q_rm 0 0) [q_rf w t, .int a0] s0 (f_X4_fitsUpTo n t a0 s0) := q_CofG [some (q_rf w t), some (.int a0), none, none] (by decide +kernel) rfl rfl (Nat.le_of_ble_eq_true rfl) fun cx hl hc => by
  have hc : q_ok w cx RX4 cX4_fitsUpTo 4 (some .int) (q_rm 0 0) := hc
  rw [f_X4_fitsUpTo]
  refine g_iconst hc dX4_fitsUpTo_0 ic_0 (pc2 := 1) rfl ?_
  refine g_is2 hc dX4_fitsUpTo_1 (by decide) (L2 := [some (q_rf w t), some (.int a0), some (.int 0), none]) rfl (pc2 := 2) rfl ?_
  refine g_iconst hc dX4_fitsUpTo_2 ic_0 (pc2 := 3) rfl ?_
  refine g_is3 hc dX4_fitsUpTo_3 (by decide) (L2 := [some (q_rf w t), some (.int a0), some (.int 0), some (.int 0)]) rfl (pc2 := 4) rfl ?_
  refine t_X4_fitsUpTo_L4 hc ht  n _ _ _
set_option maxRecDepth 100000 in
set_option maxHeartbeats 4000000 in
def f_X4_bestAsk_L42 (n : Nat) (x0 : Nat) (x2 : Int32) (x3 : Nat) (x4 : Int32) (x7 : Int32) (k107 : Int32 → Int32 → q_Sto → Option (Int32 × q_Sto)) : Nat → Int32 → Int32 → Int32 → q_Sto → Option (Int32 × q_Sto)
  | 0, _, _, _, _ => none
  | j + 1, x5, x6, x8, s0 =>
    if x8 < (s0 x3 9) then (
    q_call (f_X9_likingFor n x3 x7 x8 s0) fun r8 s7 =>
    q_call (f_X4_fitsUpTo n x0 r8 s7) fun r10 s9 =>
    q_nm (q_mx r10 (x4 - r10)) fun v11 =>
    if v11 < x6 then (
    if x2 = 0 then (
    f_X4_bestAsk_L42 n x0 x2 x3 x4 x7 k107 j x8 v11 (x8 + 1) s9)
    else (
    f_X4_bestAsk_L42 n x0 x2 x3 x4 x7 k107 j x7 v11 (x8 + 1) s9))
    else (
    f_X4_bestAsk_L42 n x0 x2 x3 x4 x7 k107 j x5 x6 (x8 + 1) s9))
    else (
    k107 x5 x6 s0)
set_option maxRecDepth 100000 in
set_option maxHeartbeats 4000000 in
def f_X4_bestAsk_L24 (n : Nat) (x0 : Nat) (x2 : Int32) (x3 : Nat) (x4 : Int32) : Nat → Int32 → Int32 → Int32 → q_Sto → Option (Int32 × q_Sto)
  | 0, _, _, _, _ => none
  | j + 1, x5, x6, x7, s0 =>
    if x7 < (s0 x3 8) then (
    if x4 < 2 then (
    some (x5, s0))
    else (
    f_X4_bestAsk_L42 n x0 x2 x3 x4 x7 (fun (y14 : Int32) (y15 : Int32) (s16 : q_Sto) =>
    f_X4_bestAsk_L24 n x0 x2 x3 x4  j y14 y15 (x7 + 1) s16) n x5 x6 0 s0))
    else (
    some (x5, s0))
set_option maxRecDepth 100000 in
set_option maxHeartbeats 4000000 in
def f_X4_bestAsk (n : Nat) (t : Nat) (a0 : Nat) (a1 : Int32) (s0 : q_Sto) : Option (Int32 × q_Sto) :=
  q_call (f_X4_countFits n t a0 s0) fun r2 s1 =>
  q_nm (r2 + 1) fun v3 =>
  f_X4_bestAsk_L24 n t a1 (q_RF a0 0) r2  n (-1) v3 0 s1
set_option maxRecDepth 100000 in
set_option maxHeartbeats 4000000 in
theorem t_X4_bestAsk_L42 {w : q_Wd} {cx : q_Cx} (hc : q_ok w cx RX4 cX4_bestAsk 11 (some .int) (q_rm 4 90)) {n : Nat} {x0 : Nat} {x2 : Int32} {x3 : Nat} {x4 : Int32} {x7 : Int32} (hx0 : q_KD x0 = .inl 4) (hx3 : q_KD x3 = .inl 9) {k107 : Int32 → Int32 → q_Sto → Option (Int32 × q_Sto)} (hk107 : ∀ (y5 : Int32) (y6 : Int32) (s1 : q_Sto), q_G w cx 11 (some .int) 107 [some (q_rf w x0), none, some (.int x2), some (q_rf w x3), some (.int x4), some (.int y5), some (.int y6), some (.int x7), none, none, none] [] s1 (k107 y5 y6 s1)) :
    ∀ (j : Nat) (x5 : Int32) (x6 : Int32) (x8 : Int32) (s0 : q_Sto), q_G w cx 11 (some .int) 42 [some (q_rf w x0), none, some (.int x2), some (q_rf w x3), some (.int x4), some (.int x5), some (.int x6), some (.int x7), some (.int x8), none, none] [] s0 (f_X4_bestAsk_L42 n x0 x2 x3 x4 x7 k107 j x5 x6 x8 s0) := by
  intro j
  induction j with
  | zero =>
    intro _ _ _ _
    rw [f_X4_bestAsk_L42]
    exact q_none
  | succ j ih =>
    intro x5 x6 x8 s0
    rw [f_X4_bestAsk_L42]
    refine g_iload hc dX4_bestAsk_42 rfl (pc2 := 44) rfl ?_
    refine g_rl3 hc dX4_bestAsk_44 rfl (pc2 := 45) rfl ?_
    refine g_getI hc fl_X4_118 rfl hx3 dX4_bestAsk_45 (pc2 := 48) rfl ?_
    refine g_icmp_ge hc dX4_bestAsk_48 (pc1 := 51) (pc2 := 107) rfl rfl (fun _ => ?_) (fun _ => ?_)
    · refine g_rl0 hc dX4_bestAsk_51 rfl (pc2 := 52) rfl ?_
      refine g_rl3 hc dX4_bestAsk_52 rfl (pc2 := 53) rfl ?_
      refine g_iload hc dX4_bestAsk_53 rfl (pc2 := 55) rfl ?_
      refine g_iload hc dX4_bestAsk_55 rfl (pc2 := 57) rfl ?_
      refine g_callV2 hc (C_X9_likingFor hx3) mv_X9_likingFor ln_X4_111 hx3 ⟨by decide, by decide⟩ (Nat.le_of_ble_eq_true rfl) dX4_bestAsk_57 (pc2 := 60) rfl (fun r8 s7 => ?_)
      refine g_callV1 hc (C_X4_fitsUpTo hx0) mv_X4_fitsUpTo ln_X4_121 hx0 ⟨by decide, by decide⟩ (Nat.le_of_ble_eq_true rfl) dX4_bestAsk_60 (pc2 := 63) rfl (fun r10 s9 => ?_)
      refine g_istore hc dX4_bestAsk_63 (by decide) (L2 := [some (q_rf w x0), none, some (.int x2), some (q_rf w x3), some (.int x4), some (.int x5), some (.int x6), some (.int x7), some (.int x8), some (.int r10), none]) rfl (pc2 := 65) rfl ?_
      refine g_iload hc dX4_bestAsk_65 rfl (pc2 := 67) rfl ?_
      refine g_iload hc dX4_bestAsk_67 rfl (pc2 := 69) rfl ?_
      refine g_iload hc dX4_bestAsk_69 rfl (pc2 := 71) rfl ?_
      refine g_isub hc dX4_bestAsk_71 (pc2 := 72) rfl ?_
      refine g_max hc ln_X4_97 ⟨by decide, by decide⟩ (Nat.le_of_ble_eq_true rfl) dX4_bestAsk_72 (pc2 := 75) rfl ?_
      refine g_nm (fun v11 => ?_)
      refine g_istore hc dX4_bestAsk_75 (by decide) (L2 := [some (q_rf w x0), none, some (.int x2), some (q_rf w x3), some (.int x4), some (.int x5), some (.int x6), some (.int x7), some (.int x8), some (.int r10), some (.int v11)]) rfl (pc2 := 77) rfl ?_
      refine g_iload hc dX4_bestAsk_77 rfl (pc2 := 79) rfl ?_
      refine g_iload hc dX4_bestAsk_79 rfl (pc2 := 81) rfl ?_
      refine g_icmp_ge hc dX4_bestAsk_81 (pc1 := 84) (pc2 := 101) rfl rfl (fun _ => ?_) (fun _ => ?_)
      · refine g_iload hc dX4_bestAsk_84 rfl (pc2 := 86) rfl ?_
        refine g_istore hc dX4_bestAsk_86 (by decide) (L2 := [some (q_rf w x0), none, some (.int x2), some (q_rf w x3), some (.int x4), some (.int x5), some (.int v11), some (.int x7), some (.int x8), some (.int r10), some (.int v11)]) rfl (pc2 := 88) rfl ?_
        refine g_il2 hc dX4_bestAsk_88 rfl (pc2 := 89) rfl ?_
        refine g_if_eq hc dX4_bestAsk_89 (pc1 := 97) (pc2 := 92) rfl rfl (fun _ => ?_) (fun _ => ?_)
        · refine g_iload hc dX4_bestAsk_97 rfl (pc2 := 99) rfl ?_
          refine g_istore hc dX4_bestAsk_99 (by decide) (L2 := [some (q_rf w x0), none, some (.int x2), some (q_rf w x3), some (.int x4), some (.int x8), some (.int v11), some (.int x7), some (.int x8), some (.int r10), some (.int v11)]) rfl (pc2 := 101) rfl ?_
          refine g_iinc hc dX4_bestAsk_101 rfl (q_ii ic_1) (by decide) (L2 := [some (q_rf w x0), none, some (.int x2), some (q_rf w x3), some (.int x4), some (.int x8), some (.int v11), some (.int x7), some (.int (x8 + 1)), some (.int r10), some (.int v11)]) rfl (pc2 := 104) rfl ?_
          refine g_goto hc dX4_bestAsk_104 (pc2 := 42) rfl ?_
          refine q_Gmask [true, true, true, true, true, true, true, true, true, false, false] (L2 := [some (q_rf w x0), none, some (.int x2), some (q_rf w x3), some (.int x4), some (.int x8), some (.int v11), some (.int x7), some (.int (x8 + 1)), none, none]) rfl ?_
          exact ih _ _ _ _
        · refine g_iload hc dX4_bestAsk_92 rfl (pc2 := 94) rfl ?_
          refine g_goto hc dX4_bestAsk_94 (pc2 := 99) rfl ?_
          refine g_istore hc dX4_bestAsk_99 (by decide) (L2 := [some (q_rf w x0), none, some (.int x2), some (q_rf w x3), some (.int x4), some (.int x7), some (.int v11), some (.int x7), some (.int x8), some (.int r10), some (.int v11)]) rfl (pc2 := 101) rfl ?_
          refine g_iinc hc dX4_bestAsk_101 rfl (q_ii ic_1) (by decide) (L2 := [some (q_rf w x0), none, some (.int x2), some (q_rf w x3), some (.int x4), some (.int x7), some (.int v11), some (.int x7), some (.int (x8 + 1)), some (.int r10), some (.int v11)]) rfl (pc2 := 104) rfl ?_
          refine g_goto hc dX4_bestAsk_104 (pc2 := 42) rfl ?_
          refine q_Gmask [true, true, true, true, true, true, true, true, true, false, false] (L2 := [some (q_rf w x0), none, some (.int x2), some (q_rf w x3), some (.int x4), some (.int x7), some (.int v11), some (.int x7), some (.int (x8 + 1)), none, none]) rfl ?_
          exact ih _ _ _ _
      · refine g_iinc hc dX4_bestAsk_101 rfl (q_ii ic_1) (by decide) (L2 := [some (q_rf w x0), none, some (.int x2), some (q_rf w x3), some (.int x4), some (.int x5), some (.int x6), some (.int x7), some (.int (x8 + 1)), some (.int r10), some (.int v11)]) rfl (pc2 := 104) rfl ?_
        refine g_goto hc dX4_bestAsk_104 (pc2 := 42) rfl ?_
        refine q_Gmask [true, true, true, true, true, true, true, true, true, false, false] (L2 := [some (q_rf w x0), none, some (.int x2), some (q_rf w x3), some (.int x4), some (.int x5), some (.int x6), some (.int x7), some (.int (x8 + 1)), none, none]) rfl ?_
        exact ih _ _ _ _
    · refine q_Gmask [true, true, true, true, true, true, true, true, false, true, true] (L2 := [some (q_rf w x0), none, some (.int x2), some (q_rf w x3), some (.int x4), some (.int x5), some (.int x6), some (.int x7), none, none, none]) rfl ?_
      exact hk107 _ _ _
set_option maxRecDepth 100000 in
set_option maxHeartbeats 4000000 in
theorem t_X4_bestAsk_L24 {w : q_Wd} {cx : q_Cx} (hc : q_ok w cx RX4 cX4_bestAsk 11 (some .int) (q_rm 4 90)) {n : Nat} {x0 : Nat} {x2 : Int32} {x3 : Nat} {x4 : Int32} (hx0 : q_KD x0 = .inl 4) (hx3 : q_KD x3 = .inl 9)   :
    ∀ (j : Nat) (x5 : Int32) (x6 : Int32) (x7 : Int32) (s0 : q_Sto), q_G w cx 11 (some .int) 24 [some (q_rf w x0), none, some (.int x2), some (q_rf w x3), some (.int x4), some (.int x5), some (.int x6), some (.int x7), none, none, none] [] s0 (f_X4_bestAsk_L24 n x0 x2 x3 x4  j x5 x6 x7 s0) := by
  intro j
  induction j with
  | zero =>
    intro _ _ _ _
    rw [f_X4_bestAsk_L24]
    exact q_none
  | succ j ih =>
    intro x5 x6 x7 s0
    rw [f_X4_bestAsk_L24]
    refine g_iload hc dX4_bestAsk_24 rfl (pc2 := 26) rfl ?_
    refine g_rl3 hc dX4_bestAsk_26 rfl (pc2 := 27) rfl ?_
    refine g_getI hc fl_X4_62 rfl hx3 dX4_bestAsk_27 (pc2 := 30) rfl ?_
    refine g_icmp_ge hc dX4_bestAsk_30 (pc1 := 33) (pc2 := 113) rfl rfl (fun _ => ?_) (fun _ => ?_)
    · refine g_iload hc dX4_bestAsk_33 rfl (pc2 := 35) rfl ?_
      refine g_iconst hc dX4_bestAsk_35 ic_2 (pc2 := 36) rfl ?_
      refine g_icmp_lt hc dX4_bestAsk_36 (pc1 := 113) (pc2 := 39) rfl rfl (fun _ => ?_) (fun _ => ?_)
      · refine g_iload hc dX4_bestAsk_113 rfl (pc2 := 115) rfl ?_
        exact g_iret hc dX4_bestAsk_115
      · refine g_iconst hc dX4_bestAsk_39 ic_0 (pc2 := 40) rfl ?_
        refine g_istore hc dX4_bestAsk_40 (by decide) (L2 := [some (q_rf w x0), none, some (.int x2), some (q_rf w x3), some (.int x4), some (.int x5), some (.int x6), some (.int x7), some (.int 0), none, none]) rfl (pc2 := 42) rfl ?_
        refine t_X4_bestAsk_L42 hc hx0 hx3 (fun y14 y15 s16 => ?_) n _ _ _ _
        refine g_iinc hc dX4_bestAsk_107 rfl (q_ii ic_1) (by decide) (L2 := [some (q_rf w x0), none, some (.int x2), some (q_rf w x3), some (.int x4), some (.int y14), some (.int y15), some (.int (x7 + 1)), none, none, none]) rfl (pc2 := 110) rfl ?_
        refine g_goto hc dX4_bestAsk_110 (pc2 := 24) rfl ?_
        exact ih _ _ _ _
    · refine g_iload hc dX4_bestAsk_113 rfl (pc2 := 115) rfl ?_
      exact g_iret hc dX4_bestAsk_115
set_option maxRecDepth 100000 in
set_option maxHeartbeats 4000000 in
theorem C_X4_bestAsk {l : Launch} {w : q_Wd} {n : Nat} {t : Nat} {a0 : Nat} {a1 : Int32} (ht : q_KD t = .inl 4) (ha0 : q_KD a0 = .inl 10) {s0 : q_Sto} : q_C l w yX4_bestAsk cX4_bestAsk 11 (some .int) (q_rm 4 90) [q_rf w t, q_rf w a0, .int a1] s0 (f_X4_bestAsk n t a0 a1 s0) := q_CofG [some (q_rf w t), some (q_rf w a0), some (.int a1), none, none, none, none, none, none, none, none] (by decide +kernel) rfl rfl (Nat.le_of_ble_eq_true rfl) fun cx hl hc => by
  have hc : q_ok w cx RX4 cX4_bestAsk 11 (some .int) (q_rm 4 90) := hc
  rw [f_X4_bestAsk]
  refine g_rl1 hc dX4_bestAsk_0 rfl (pc2 := 1) rfl ?_
  refine g_getR hc fl_X4_30 rfl ha0 dX4_bestAsk_1 (pc2 := 4) rfl ?_
  refine g_rs3 hc dX4_bestAsk_4 (by decide) (L2 := [some (q_rf w t), some (q_rf w a0), some (.int a1), some (q_rf w (q_RF a0 0)), none, none, none, none, none, none, none]) rfl (pc2 := 5) rfl ?_
  refine g_rl0 hc dX4_bestAsk_5 rfl (pc2 := 6) rfl ?_
  refine g_rl1 hc dX4_bestAsk_6 rfl (pc2 := 7) rfl ?_
  refine g_callV1 hc (C_X4_countFits ht ha0) mv_X4_countFits ln_X4_114 ht ⟨by decide, by decide⟩ (Nat.le_of_ble_eq_true rfl) dX4_bestAsk_7 (pc2 := 10) rfl (fun r2 s1 => ?_)
  refine g_istore hc dX4_bestAsk_10 (by decide) (L2 := [some (q_rf w t), some (q_rf w a0), some (.int a1), some (q_rf w (q_RF a0 0)), some (.int r2), none, none, none, none, none, none]) rfl (pc2 := 12) rfl ?_
  refine g_iconst hc dX4_bestAsk_12 ic_m1 (pc2 := 13) rfl ?_
  refine g_istore hc dX4_bestAsk_13 (by decide) (L2 := [some (q_rf w t), some (q_rf w a0), some (.int a1), some (q_rf w (q_RF a0 0)), some (.int r2), some (.int (-1)), none, none, none, none, none]) rfl (pc2 := 15) rfl ?_
  refine g_iload hc dX4_bestAsk_15 rfl (pc2 := 17) rfl ?_
  refine g_iconst hc dX4_bestAsk_17 ic_1 (pc2 := 18) rfl ?_
  refine g_iadd hc dX4_bestAsk_18 (pc2 := 19) rfl ?_
  refine g_nm (fun v3 => ?_)
  refine g_istore hc dX4_bestAsk_19 (by decide) (L2 := [some (q_rf w t), some (q_rf w a0), some (.int a1), some (q_rf w (q_RF a0 0)), some (.int r2), some (.int (-1)), some (.int v3), none, none, none, none]) rfl (pc2 := 21) rfl ?_
  refine g_iconst hc dX4_bestAsk_21 ic_0 (pc2 := 22) rfl ?_
  refine g_istore hc dX4_bestAsk_22 (by decide) (L2 := [some (q_rf w t), some (q_rf w a0), some (.int a1), some (q_rf w (q_RF a0 0)), some (.int r2), some (.int (-1)), some (.int v3), some (.int 0), none, none, none]) rfl (pc2 := 24) rfl ?_
  refine q_Gmask [true, false, true, true, true, true, true, true, true, true, true] (L2 := [some (q_rf w t), none, some (.int a1), some (q_rf w (q_RF a0 0)), some (.int r2), some (.int (-1)), some (.int v3), some (.int 0), none, none, none]) rfl ?_
  refine t_X4_bestAsk_L24 hc ht (kf_10_0 ha0)  n _ _ _ _
set_option maxRecDepth 100000 in
set_option maxHeartbeats 4000000 in
def f_X4_grundyOf (n : Nat) (t : Nat) (a0 : Int32) (s0 : q_Sto) : Option (Int32 × q_Sto) :=
  if a0 < 0 then (
  some (0, s0))
  else (
  if a0 < (Int32.ofNat 100) then (
  q_ld s0 (q_RF t 4) a0 100 fun v3 =>
  some (v3, s0))
  else (
  some (0, s0)))
set_option maxRecDepth 100000 in
set_option maxHeartbeats 4000000 in
theorem C_X4_grundyOf {l : Launch} {w : q_Wd} {n : Nat} {t : Nat} {a0 : Int32} (ht : q_KD t = .inl 4) {s0 : q_Sto} : q_C l w yX4_grundyOf cX4_grundyOf 2 (some .int) (q_rm 0 0) [q_rf w t, .int a0] s0 (f_X4_grundyOf n t a0 s0) := q_CofG [some (q_rf w t), some (.int a0)] (by decide +kernel) rfl rfl (Nat.le_of_ble_eq_true rfl) fun cx hl hc => by
  have hc : q_ok w cx RX4 cX4_grundyOf 2 (some .int) (q_rm 0 0) := hc
  rw [f_X4_grundyOf]
  refine g_il1 hc dX4_grundyOf_0 rfl (pc2 := 1) rfl ?_
  refine g_if_lt hc dX4_grundyOf_1 (pc1 := 22) (pc2 := 4) rfl rfl (fun _ => ?_) (fun _ => ?_)
  · refine g_iconst hc dX4_grundyOf_22 ic_0 (pc2 := 23) rfl ?_
    exact g_iret hc dX4_grundyOf_23
  · refine g_il1 hc dX4_grundyOf_4 rfl (pc2 := 5) rfl ?_
    refine g_rl0 hc dX4_grundyOf_5 rfl (pc2 := 6) rfl ?_
    refine g_getR hc fl_X4_24 rfl ht dX4_grundyOf_6 (pc2 := 9) rfl ?_
    refine g_alen hc (kf_4_4 ht) (kl_4_4 ht) dX4_grundyOf_9 (pc2 := 10) rfl ?_
    refine g_icmp_ge hc dX4_grundyOf_10 (pc1 := 13) (pc2 := 22) rfl rfl (fun _ => ?_) (fun _ => ?_)
    · refine g_rl0 hc dX4_grundyOf_13 rfl (pc2 := 14) rfl ?_
      refine g_getR hc fl_X4_24 rfl ht dX4_grundyOf_14 (pc2 := 17) rfl ?_
      refine g_il1 hc dX4_grundyOf_17 rfl (pc2 := 18) rfl ?_
      refine g_iald hc (kf_4_4 ht) (kl_4_4 ht) dX4_grundyOf_18 (pc2 := 19) rfl (fun v3 => ?_)
      refine g_goto hc dX4_grundyOf_19 (pc2 := 23) rfl ?_
      exact g_iret hc dX4_grundyOf_23
    · refine g_iconst hc dX4_grundyOf_22 ic_0 (pc2 := 23) rfl ?_
      exact g_iret hc dX4_grundyOf_23
set_option maxRecDepth 100000 in
set_option maxHeartbeats 4000000 in
def f_X4_fillGrundy_L37 (n : Nat) (x0 : Nat) (x1 : Int32) (x2 : Int32) (x3 : Int32) (k61 : Int32 → q_Sto → Option (Int32 × q_Sto)) : Nat → Int32 → q_Sto → Option (Int32 × q_Sto)
  | 0, _, _ => none
  | j + 1, x4, s0 =>
    if x4 < 2 then (
    if x4 = x2 then (
    f_X4_fillGrundy_L37 n x0 x1 x2 x3 k61 j (x4 + 1) s0)
    else (
    if x4 = x3 then (
    f_X4_fillGrundy_L37 n x0 x1 x2 x3 k61 j (x4 + 1) s0)
    else (
    k61 x4 s0)))
    else (
    k61 x4 s0)
set_option maxRecDepth 100000 in
set_option maxHeartbeats 4000000 in
def f_X4_fillGrundy_L9 (n : Nat) (x0 : Nat) : Nat → Int32 → q_Sto → Option (Int32 × q_Sto)
  | 0, _, _ => none
  | j + 1, x1, s0 =>
    if x1 < (Int32.ofNat 100) then (
    q_call (f_X4_grundyOf n x0 (x1 - 1) s0) fun r4 s3 =>
    q_dv x1 2 fun v5 =>
    q_call (f_X4_grundyOf n x0 v5 s3) fun r7 s6 =>
    f_X4_fillGrundy_L37 n x0 x1 r4 r7 (fun (y11 : Int32) (s12 : q_Sto) =>
    q_st s12 (q_RF x0 4) x1 100 y11 fun s13 =>
    f_X4_fillGrundy_L9 n x0  j (x1 + 1) s13) n 0 s6)
    else (
    some (0, s0))
set_option maxRecDepth 100000 in
set_option maxHeartbeats 4000000 in
def f_X4_fillGrundy (n : Nat) (t : Nat) (s0 : q_Sto) : Option (Int32 × q_Sto) :=
  q_st s0 (q_RF t 4) 0 100 0 fun s1 =>
  f_X4_fillGrundy_L9 n t  n 1 s1
set_option maxRecDepth 100000 in
set_option maxHeartbeats 4000000 in
theorem t_X4_fillGrundy_L37 {w : q_Wd} {cx : q_Cx} (hc : q_ok w cx RX4 cX4_fillGrundy 5 (none) (q_rm 1 21)) {n : Nat} {x0 : Nat} {x1 : Int32} {x2 : Int32} {x3 : Int32} (hx0 : q_KD x0 = .inl 4) {k61 : Int32 → q_Sto → Option (Int32 × q_Sto)} (hk61 : ∀ (y4 : Int32) (s1 : q_Sto), q_G w cx 5 (none) 61 [some (q_rf w x0), some (.int x1), none, none, some (.int y4)] [] s1 (k61 y4 s1)) :
    ∀ (j : Nat) (x4 : Int32) (s0 : q_Sto), q_G w cx 5 (none) 37 [some (q_rf w x0), some (.int x1), some (.int x2), some (.int x3), some (.int x4)] [] s0 (f_X4_fillGrundy_L37 n x0 x1 x2 x3 k61 j x4 s0) := by
  intro j
  induction j with
  | zero =>
    intro _ _
    rw [f_X4_fillGrundy_L37]
    exact q_none
  | succ j ih =>
    intro x4 s0
    rw [f_X4_fillGrundy_L37]
    refine g_iload hc dX4_fillGrundy_37 rfl (pc2 := 39) rfl ?_
    refine g_iconst hc dX4_fillGrundy_39 ic_2 (pc2 := 40) rfl ?_
    refine g_icmp_ge hc dX4_fillGrundy_40 (pc1 := 43) (pc2 := 61) rfl rfl (fun _ => ?_) (fun _ => ?_)
    · refine g_iload hc dX4_fillGrundy_43 rfl (pc2 := 45) rfl ?_
      refine g_il2 hc dX4_fillGrundy_45 rfl (pc2 := 46) rfl ?_
      refine g_icmp_eq hc dX4_fillGrundy_46 (pc1 := 55) (pc2 := 49) rfl rfl (fun _ => ?_) (fun _ => ?_)
      · refine g_iinc hc dX4_fillGrundy_55 rfl (q_ii ic_1) (by decide) (L2 := [some (q_rf w x0), some (.int x1), some (.int x2), some (.int x3), some (.int (x4 + 1))]) rfl (pc2 := 58) rfl ?_
        refine g_goto hc dX4_fillGrundy_58 (pc2 := 37) rfl ?_
        exact ih _ _
      · refine g_iload hc dX4_fillGrundy_49 rfl (pc2 := 51) rfl ?_
        refine g_il3 hc dX4_fillGrundy_51 rfl (pc2 := 52) rfl ?_
        refine g_icmp_ne hc dX4_fillGrundy_52 (pc1 := 55) (pc2 := 61) rfl rfl (fun _ => ?_) (fun _ => ?_)
        · refine g_iinc hc dX4_fillGrundy_55 rfl (q_ii ic_1) (by decide) (L2 := [some (q_rf w x0), some (.int x1), some (.int x2), some (.int x3), some (.int (x4 + 1))]) rfl (pc2 := 58) rfl ?_
          refine g_goto hc dX4_fillGrundy_58 (pc2 := 37) rfl ?_
          exact ih _ _
        · refine q_Gmask [true, true, false, false, true] (L2 := [some (q_rf w x0), some (.int x1), none, none, some (.int x4)]) rfl ?_
          exact hk61 _ _
    · refine q_Gmask [true, true, false, false, true] (L2 := [some (q_rf w x0), some (.int x1), none, none, some (.int x4)]) rfl ?_
      exact hk61 _ _
set_option maxRecDepth 100000 in
set_option maxHeartbeats 4000000 in
theorem t_X4_fillGrundy_L9 {w : q_Wd} {cx : q_Cx} (hc : q_ok w cx RX4 cX4_fillGrundy 5 (none) (q_rm 1 21)) {n : Nat} {x0 : Nat} (hx0 : q_KD x0 = .inl 4)   :
    ∀ (j : Nat) (x1 : Int32) (s0 : q_Sto), q_G w cx 5 (none) 9 [some (q_rf w x0), some (.int x1), none, none, none] [] s0 (f_X4_fillGrundy_L9 n x0  j x1 s0) := by
  intro j
  induction j with
  | zero =>
    intro _ _
    rw [f_X4_fillGrundy_L9]
    exact q_none
  | succ j ih =>
    intro x1 s0
    rw [f_X4_fillGrundy_L9]
    refine g_il1 hc dX4_fillGrundy_9 rfl (pc2 := 10) rfl ?_
    refine g_rl0 hc dX4_fillGrundy_10 rfl (pc2 := 11) rfl ?_
    refine g_getR hc fl_X4_24 rfl hx0 dX4_fillGrundy_11 (pc2 := 14) rfl ?_
    refine g_alen hc (kf_4_4 hx0) (kl_4_4 hx0) dX4_fillGrundy_14 (pc2 := 15) rfl ?_
    refine g_icmp_ge hc dX4_fillGrundy_15 (pc1 := 18) (pc2 := 75) rfl rfl (fun _ => ?_) (fun _ => ?_)
    · refine g_rl0 hc dX4_fillGrundy_18 rfl (pc2 := 19) rfl ?_
      refine g_il1 hc dX4_fillGrundy_19 rfl (pc2 := 20) rfl ?_
      refine g_iconst hc dX4_fillGrundy_20 ic_1 (pc2 := 21) rfl ?_
      refine g_isub hc dX4_fillGrundy_21 (pc2 := 22) rfl ?_
      refine g_callV1 hc (C_X4_grundyOf hx0) mv_X4_grundyOf ln_X4_131 hx0 ⟨by decide, by decide⟩ (Nat.le_of_ble_eq_true rfl) dX4_fillGrundy_22 (pc2 := 25) rfl (fun r4 s3 => ?_)
      refine g_is2 hc dX4_fillGrundy_25 (by decide) (L2 := [some (q_rf w x0), some (.int x1), some (.int r4), none, none]) rfl (pc2 := 26) rfl ?_
      refine g_rl0 hc dX4_fillGrundy_26 rfl (pc2 := 27) rfl ?_
      refine g_il1 hc dX4_fillGrundy_27 rfl (pc2 := 28) rfl ?_
      refine g_iconst hc dX4_fillGrundy_28 ic_2 (pc2 := 29) rfl ?_
      refine g_idiv hc dX4_fillGrundy_29 (pc2 := 30) rfl (fun v5 => ?_)
      refine g_callV1 hc (C_X4_grundyOf hx0) mv_X4_grundyOf ln_X4_131 hx0 ⟨by decide, by decide⟩ (Nat.le_of_ble_eq_true rfl) dX4_fillGrundy_30 (pc2 := 33) rfl (fun r7 s6 => ?_)
      refine g_is3 hc dX4_fillGrundy_33 (by decide) (L2 := [some (q_rf w x0), some (.int x1), some (.int r4), some (.int r7), none]) rfl (pc2 := 34) rfl ?_
      refine g_iconst hc dX4_fillGrundy_34 ic_0 (pc2 := 35) rfl ?_
      refine g_istore hc dX4_fillGrundy_35 (by decide) (L2 := [some (q_rf w x0), some (.int x1), some (.int r4), some (.int r7), some (.int 0)]) rfl (pc2 := 37) rfl ?_
      refine t_X4_fillGrundy_L37 hc hx0 (fun y11 s12 => ?_) n _ _
      refine g_rl0 hc dX4_fillGrundy_61 rfl (pc2 := 62) rfl ?_
      refine g_getR hc fl_X4_24 rfl hx0 dX4_fillGrundy_62 (pc2 := 65) rfl ?_
      refine g_il1 hc dX4_fillGrundy_65 rfl (pc2 := 66) rfl ?_
      refine g_iload hc dX4_fillGrundy_66 rfl (pc2 := 68) rfl ?_
      refine g_iast hc (kf_4_4 hx0) (kl_4_4 hx0) dX4_fillGrundy_68 (pc2 := 69) rfl (fun s13 => ?_)
      refine g_iinc hc dX4_fillGrundy_69 rfl (q_ii ic_1) (by decide) (L2 := [some (q_rf w x0), some (.int (x1 + 1)), none, none, some (.int y11)]) rfl (pc2 := 72) rfl ?_
      refine g_goto hc dX4_fillGrundy_72 (pc2 := 9) rfl ?_
      refine q_Gmask [true, true, true, true, false] (L2 := [some (q_rf w x0), some (.int (x1 + 1)), none, none, none]) rfl ?_
      exact ih _ _
    · exact g_vret hc dX4_fillGrundy_75
set_option maxRecDepth 100000 in
set_option maxHeartbeats 4000000 in
theorem C_X4_fillGrundy {l : Launch} {w : q_Wd} {n : Nat} {t : Nat} (ht : q_KD t = .inl 4) {s0 : q_Sto} : q_C l w yX4_fillGrundy cX4_fillGrundy 5 (none) (q_rm 1 21) [q_rf w t] s0 (f_X4_fillGrundy n t s0) := q_CofG [some (q_rf w t), none, none, none, none] (by decide +kernel) rfl rfl (Nat.le_of_ble_eq_true rfl) fun cx hl hc => by
  have hc : q_ok w cx RX4 cX4_fillGrundy 5 (none) (q_rm 1 21) := hc
  rw [f_X4_fillGrundy]
  refine g_rl0 hc dX4_fillGrundy_0 rfl (pc2 := 1) rfl ?_
  refine g_getR hc fl_X4_24 rfl ht dX4_fillGrundy_1 (pc2 := 4) rfl ?_
  refine g_iconst hc dX4_fillGrundy_4 ic_0 (pc2 := 5) rfl ?_
  refine g_iconst hc dX4_fillGrundy_5 ic_0 (pc2 := 6) rfl ?_
  refine g_iast hc (kf_4_4 ht) (kl_4_4 ht) dX4_fillGrundy_6 (pc2 := 7) rfl (fun s1 => ?_)
  refine g_iconst hc dX4_fillGrundy_7 ic_1 (pc2 := 8) rfl ?_
  refine g_is1 hc dX4_fillGrundy_8 (by decide) (L2 := [some (q_rf w t), some (.int 1), none, none, none]) rfl (pc2 := 9) rfl ?_
  refine t_X4_fillGrundy_L9 hc ht  n _ _
set_option maxRecDepth 100000 in
set_option maxHeartbeats 4000000 in
def f_X4_saltOf (n : Nat) (a0 : Nat) (a1 : Int32) (s0 : q_Sto) : Option (Int32 × q_Sto) :=
  q_call (f_X9_hasMan n a0 a1 s0) fun r2 s1 =>
  if r2 = 0 then (
  some (0, s1))
  else (
  q_ld s1 (q_RF a0 4) a1 5 fun v4 =>
  some (v4, s1))
set_option maxRecDepth 100000 in
set_option maxHeartbeats 4000000 in
theorem C_X4_saltOf {l : Launch} {w : q_Wd} {n : Nat} {a0 : Nat} {a1 : Int32} (ha0 : q_KD a0 = .inl 9) {s0 : q_Sto} : q_C l w yX4_saltOf cX4_saltOf 2 (some .int) (q_rm 1 21) [q_rf w a0, .int a1] s0 (f_X4_saltOf n a0 a1 s0) := q_CofG [some (q_rf w a0), some (.int a1)] (by decide +kernel) rfl rfl (Nat.le_of_ble_eq_true rfl) fun cx hl hc => by
  have hc : q_ok w cx RX4 cX4_saltOf 2 (some .int) (q_rm 1 21) := hc
  rw [f_X4_saltOf]
  refine g_rl0 hc dX4_saltOf_0 rfl (pc2 := 1) rfl ?_
  refine g_il1 hc dX4_saltOf_1 rfl (pc2 := 2) rfl ?_
  refine g_callV1 hc (C_X9_hasMan ha0) mv_X9_hasMan ln_X4_134 ha0 ⟨by decide, by decide⟩ (Nat.le_of_ble_eq_true rfl) dX4_saltOf_2 (pc2 := 5) rfl (fun r2 s1 => ?_)
  refine g_if_eq hc dX4_saltOf_5 (pc1 := 17) (pc2 := 8) rfl rfl (fun _ => ?_) (fun _ => ?_)
  · refine g_iconst hc dX4_saltOf_17 ic_0 (pc2 := 18) rfl ?_
    exact g_iret hc dX4_saltOf_18
  · refine g_rl0 hc dX4_saltOf_8 rfl (pc2 := 9) rfl ?_
    refine g_getR hc fl_X4_138 rfl ha0 dX4_saltOf_9 (pc2 := 12) rfl ?_
    refine g_il1 hc dX4_saltOf_12 rfl (pc2 := 13) rfl ?_
    refine g_iald hc (kf_9_4 ha0) (kl_9_4 ha0) dX4_saltOf_13 (pc2 := 14) rfl (fun v4 => ?_)
    refine g_goto hc dX4_saltOf_14 (pc2 := 18) rfl ?_
    exact g_iret hc dX4_saltOf_18
set_option maxRecDepth 100000 in
set_option maxHeartbeats 4000000 in
def f_X4_bestTaking_L9 (n : Nat) (x0 : Nat) (x1 : Nat) (x2 : Int32) (k37 : Int32 → q_Sto → Option (Int32 × q_Sto)) : Nat → Int32 → Int32 → q_Sto → Option (Int32 × q_Sto)
  | 0, _, _, _ => none
  | j + 1, x3, x4, s0 =>
    if x4 < (s0 x1 9) then (
    q_call (f_X4_saltOf n x1 x4 s0) fun r5 s4 =>
    q_call (f_X4_grundyOf n x0 r5 s4) fun r7 s6 =>
    q_nm (x3 ^^^ r7) fun v8 =>
    f_X4_bestTaking_L9 n x0 x1 x2 k37 j v8 (x4 + 1) s6)
    else (
    k37 x3 s0)
set_option maxRecDepth 100000 in
set_option maxHeartbeats 4000000 in
def f_X4_bestTaking_L40 (n : Nat) (x0 : Nat) (x1 : Nat) (x2 : Int32) (x3 : Int32) (k85 : Int32 → Int32 → q_Sto → Option (Int32 × q_Sto)) (k117 : Int32 → Int32 → q_Sto → Option (Int32 × q_Sto)) : Nat → Int32 → q_Sto → Option (Int32 × q_Sto)
  | 0, _, _ => none
  | j + 1, x4, s0 =>
    if x4 < (s0 x1 9) then (
    q_call (f_X4_saltOf n x1 x4 s0) fun r13 s12 =>
    q_call (f_X4_grundyOf n x0 r13 s12) fun r15 s14 =>
    q_nm (x3 ^^^ r15) fun v16 =>
    q_jn (fun  (s17 : q_Sto) =>
      if r13 ≤ 0 then (
      f_X4_bestTaking_L40 n x0 x1 x2 x3 k85 k117 j (x4 + 1) s17)
      else (
      q_call (f_X4_grundyOf n x0 (r13 - 1) s17) fun r20 s19 =>
      if r20 = v16 then (
      k117 x4 r13 s19)
      else (
      f_X4_bestTaking_L40 n x0 x1 x2 x3 k85 k117 j (x4 + 1) s19))) fun j99 =>
    if r13 ≤ 0 then (
    j99 s14)
    else (
    q_dv r13 2 fun v23 =>
    q_call (f_X4_grundyOf n x0 v23 s14) fun r25 s24 =>
    if r25 = v16 then (
    k85 x4 r13 s24)
    else (
    j99 s24)))
    else (
    some ((-1), s0))
set_option maxRecDepth 100000 in
set_option maxHeartbeats 4000000 in
def f_X4_bestTaking (n : Nat) (t : Nat) (a0 : Nat) (a1 : Int32) (s0 : q_Sto) : Option (Int32 × q_Sto) :=
  q_callv (f_X4_fillGrundy n t s0) fun s1 =>
  f_X4_bestTaking_L9 n t a0 a1 (fun (y9 : Int32) (s10 : q_Sto) =>
  f_X4_bestTaking_L40 n t a0 a1 y9 (fun (y27 : Int32) (y28 : Int32) (s29 : q_Sto) =>
  if a1 = 0 then (
  q_dv y28 2 fun v31 =>
  some (v31, s29))
  else (
  some (y27, s29))) (fun (y32 : Int32) (y33 : Int32) (s34 : q_Sto) =>
  if a1 = 0 then (
  some (y33 - 1, s34))
  else (
  some (y32, s34))) n 0 s10) n 0 0 s1
set_option maxRecDepth 100000 in
set_option maxHeartbeats 4000000 in
theorem t_X4_bestTaking_L9 {w : q_Wd} {cx : q_Cx} (hc : q_ok w cx RX4 cX4_bestTaking 7 (some .int) (q_rm 2 45)) {n : Nat} {x0 : Nat} {x1 : Nat} {x2 : Int32} (hx0 : q_KD x0 = .inl 4) (hx1 : q_KD x1 = .inl 9) {k37 : Int32 → q_Sto → Option (Int32 × q_Sto)} (hk37 : ∀ (y3 : Int32) (s1 : q_Sto), q_G w cx 7 (some .int) 37 [some (q_rf w x0), some (q_rf w x1), some (.int x2), some (.int y3), none, none, none] [] s1 (k37 y3 s1)) :
    ∀ (j : Nat) (x3 : Int32) (x4 : Int32) (s0 : q_Sto), q_G w cx 7 (some .int) 9 [some (q_rf w x0), some (q_rf w x1), some (.int x2), some (.int x3), some (.int x4), none, none] [] s0 (f_X4_bestTaking_L9 n x0 x1 x2 k37 j x3 x4 s0) := by
  intro j
  induction j with
  | zero =>
    intro _ _ _
    rw [f_X4_bestTaking_L9]
    exact q_none
  | succ j ih =>
    intro x3 x4 s0
    rw [f_X4_bestTaking_L9]
    refine g_iload hc dX4_bestTaking_9 rfl (pc2 := 11) rfl ?_
    refine g_rl1 hc dX4_bestTaking_11 rfl (pc2 := 12) rfl ?_
    refine g_getI hc fl_X4_118 rfl hx1 dX4_bestTaking_12 (pc2 := 15) rfl ?_
    refine g_icmp_ge hc dX4_bestTaking_15 (pc1 := 18) (pc2 := 37) rfl rfl (fun _ => ?_) (fun _ => ?_)
    · refine g_il3 hc dX4_bestTaking_18 rfl (pc2 := 19) rfl ?_
      refine g_rl0 hc dX4_bestTaking_19 rfl (pc2 := 20) rfl ?_
      refine g_rl1 hc dX4_bestTaking_20 rfl (pc2 := 21) rfl ?_
      refine g_iload hc dX4_bestTaking_21 rfl (pc2 := 23) rfl ?_
      refine g_callS2 hc (C_X4_saltOf hx1) mv_X4_saltOf ln_X4_127 ⟨by decide, by decide⟩ (Nat.le_of_ble_eq_true rfl) dX4_bestTaking_23 (pc2 := 26) rfl (fun r5 s4 => ?_)
      refine g_callV1 hc (C_X4_grundyOf hx0) mv_X4_grundyOf ln_X4_131 hx0 ⟨by decide, by decide⟩ (Nat.le_of_ble_eq_true rfl) dX4_bestTaking_26 (pc2 := 29) rfl (fun r7 s6 => ?_)
      refine g_ixor hc dX4_bestTaking_29 (pc2 := 30) rfl ?_
      refine g_nm (fun v8 => ?_)
      refine g_is3 hc dX4_bestTaking_30 (by decide) (L2 := [some (q_rf w x0), some (q_rf w x1), some (.int x2), some (.int v8), some (.int x4), none, none]) rfl (pc2 := 31) rfl ?_
      refine g_iinc hc dX4_bestTaking_31 rfl (q_ii ic_1) (by decide) (L2 := [some (q_rf w x0), some (q_rf w x1), some (.int x2), some (.int v8), some (.int (x4 + 1)), none, none]) rfl (pc2 := 34) rfl ?_
      refine g_goto hc dX4_bestTaking_34 (pc2 := 9) rfl ?_
      exact ih _ _ _
    · refine q_Gmask [true, true, true, true, false, true, true] (L2 := [some (q_rf w x0), some (q_rf w x1), some (.int x2), some (.int x3), none, none, none]) rfl ?_
      exact hk37 _ _
set_option maxRecDepth 100000 in
set_option maxHeartbeats 4000000 in
theorem t_X4_bestTaking_L40 {w : q_Wd} {cx : q_Cx} (hc : q_ok w cx RX4 cX4_bestTaking 7 (some .int) (q_rm 2 45)) {n : Nat} {x0 : Nat} {x1 : Nat} {x2 : Int32} {x3 : Int32} (hx0 : q_KD x0 = .inl 4) (hx1 : q_KD x1 = .inl 9) {k85 : Int32 → Int32 → q_Sto → Option (Int32 × q_Sto)} {k117 : Int32 → Int32 → q_Sto → Option (Int32 × q_Sto)} (hk85 : ∀ (y4 : Int32) (y5 : Int32) (s1 : q_Sto), q_G w cx 7 (some .int) 85 [none, none, some (.int x2), none, some (.int y4), some (.int y5), none] [] s1 (k85 y4 y5 s1)) (hk117 : ∀ (y4 : Int32) (y5 : Int32) (s1 : q_Sto), q_G w cx 7 (some .int) 117 [none, none, some (.int x2), none, some (.int y4), some (.int y5), none] [] s1 (k117 y4 y5 s1)) :
    ∀ (j : Nat) (x4 : Int32) (s0 : q_Sto), q_G w cx 7 (some .int) 40 [some (q_rf w x0), some (q_rf w x1), some (.int x2), some (.int x3), some (.int x4), none, none] [] s0 (f_X4_bestTaking_L40 n x0 x1 x2 x3 k85 k117 j x4 s0) := by
  intro j
  induction j with
  | zero =>
    intro _ _
    rw [f_X4_bestTaking_L40]
    exact q_none
  | succ j ih =>
    intro x4 s0
    rw [f_X4_bestTaking_L40]
    refine g_iload hc dX4_bestTaking_40 rfl (pc2 := 42) rfl ?_
    refine g_rl1 hc dX4_bestTaking_42 rfl (pc2 := 43) rfl ?_
    refine g_getI hc fl_X4_118 rfl hx1 dX4_bestTaking_43 (pc2 := 46) rfl ?_
    refine g_icmp_ge hc dX4_bestTaking_46 (pc1 := 49) (pc2 := 137) rfl rfl (fun _ => ?_) (fun _ => ?_)
    · refine g_rl1 hc dX4_bestTaking_49 rfl (pc2 := 50) rfl ?_
      refine g_iload hc dX4_bestTaking_50 rfl (pc2 := 52) rfl ?_
      refine g_callS2 hc (C_X4_saltOf hx1) mv_X4_saltOf ln_X4_127 ⟨by decide, by decide⟩ (Nat.le_of_ble_eq_true rfl) dX4_bestTaking_52 (pc2 := 55) rfl (fun r13 s12 => ?_)
      refine g_istore hc dX4_bestTaking_55 (by decide) (L2 := [some (q_rf w x0), some (q_rf w x1), some (.int x2), some (.int x3), some (.int x4), some (.int r13), none]) rfl (pc2 := 57) rfl ?_
      refine g_il3 hc dX4_bestTaking_57 rfl (pc2 := 58) rfl ?_
      refine g_rl0 hc dX4_bestTaking_58 rfl (pc2 := 59) rfl ?_
      refine g_iload hc dX4_bestTaking_59 rfl (pc2 := 61) rfl ?_
      refine g_callV1 hc (C_X4_grundyOf hx0) mv_X4_grundyOf ln_X4_131 hx0 ⟨by decide, by decide⟩ (Nat.le_of_ble_eq_true rfl) dX4_bestTaking_61 (pc2 := 64) rfl (fun r15 s14 => ?_)
      refine g_ixor hc dX4_bestTaking_64 (pc2 := 65) rfl ?_
      refine g_nm (fun v16 => ?_)
      refine g_istore hc dX4_bestTaking_65 (by decide) (L2 := [some (q_rf w x0), some (q_rf w x1), some (.int x2), some (.int x3), some (.int x4), some (.int r13), some (.int v16)]) rfl (pc2 := 67) rfl ?_
      refine g_iload hc dX4_bestTaking_67 rfl (pc2 := 69) rfl ?_
      refine g_jn (P := fun j99 => ∀  (s17 : q_Sto), q_G w cx 7 (some .int) 99 [some (q_rf w x0), some (q_rf w x1), some (.int x2), some (.int x3), some (.int x4), some (.int r13), some (.int v16)] [] s17 (j99 s17)) (fun s17 => ?_) (fun j99 hj99 => ?_)
      · refine g_iload hc dX4_bestTaking_99 rfl (pc2 := 101) rfl ?_
        refine g_if_le hc dX4_bestTaking_101 (pc1 := 131) (pc2 := 104) rfl rfl (fun _ => ?_) (fun _ => ?_)
        · refine g_iinc hc dX4_bestTaking_131 rfl (q_ii ic_1) (by decide) (L2 := [some (q_rf w x0), some (q_rf w x1), some (.int x2), some (.int x3), some (.int (x4 + 1)), some (.int r13), some (.int v16)]) rfl (pc2 := 134) rfl ?_
          refine g_goto hc dX4_bestTaking_134 (pc2 := 40) rfl ?_
          refine q_Gmask [true, true, true, true, true, false, false] (L2 := [some (q_rf w x0), some (q_rf w x1), some (.int x2), some (.int x3), some (.int (x4 + 1)), none, none]) rfl ?_
          exact ih _ _
        · refine g_rl0 hc dX4_bestTaking_104 rfl (pc2 := 105) rfl ?_
          refine g_iload hc dX4_bestTaking_105 rfl (pc2 := 107) rfl ?_
          refine g_iconst hc dX4_bestTaking_107 ic_1 (pc2 := 108) rfl ?_
          refine g_isub hc dX4_bestTaking_108 (pc2 := 109) rfl ?_
          refine g_callV1 hc (C_X4_grundyOf hx0) mv_X4_grundyOf ln_X4_131 hx0 ⟨by decide, by decide⟩ (Nat.le_of_ble_eq_true rfl) dX4_bestTaking_109 (pc2 := 112) rfl (fun r20 s19 => ?_)
          refine g_iload hc dX4_bestTaking_112 rfl (pc2 := 114) rfl ?_
          refine g_icmp_ne hc dX4_bestTaking_114 (pc1 := 117) (pc2 := 131) rfl rfl (fun _ => ?_) (fun _ => ?_)
          · refine q_Gmask [false, false, true, false, true, true, false] (L2 := [none, none, some (.int x2), none, some (.int x4), some (.int r13), none]) rfl ?_
            exact hk117 _ _ _
          · refine g_iinc hc dX4_bestTaking_131 rfl (q_ii ic_1) (by decide) (L2 := [some (q_rf w x0), some (q_rf w x1), some (.int x2), some (.int x3), some (.int (x4 + 1)), some (.int r13), some (.int v16)]) rfl (pc2 := 134) rfl ?_
            refine g_goto hc dX4_bestTaking_134 (pc2 := 40) rfl ?_
            refine q_Gmask [true, true, true, true, true, false, false] (L2 := [some (q_rf w x0), some (q_rf w x1), some (.int x2), some (.int x3), some (.int (x4 + 1)), none, none]) rfl ?_
            exact ih _ _
      · refine g_if_le hc dX4_bestTaking_69 (pc1 := 99) (pc2 := 72) rfl rfl (fun _ => ?_) (fun _ => ?_)
        · exact hj99 _
        · refine g_rl0 hc dX4_bestTaking_72 rfl (pc2 := 73) rfl ?_
          refine g_iload hc dX4_bestTaking_73 rfl (pc2 := 75) rfl ?_
          refine g_iconst hc dX4_bestTaking_75 ic_2 (pc2 := 76) rfl ?_
          refine g_idiv hc dX4_bestTaking_76 (pc2 := 77) rfl (fun v23 => ?_)
          refine g_callV1 hc (C_X4_grundyOf hx0) mv_X4_grundyOf ln_X4_131 hx0 ⟨by decide, by decide⟩ (Nat.le_of_ble_eq_true rfl) dX4_bestTaking_77 (pc2 := 80) rfl (fun r25 s24 => ?_)
          refine g_iload hc dX4_bestTaking_80 rfl (pc2 := 82) rfl ?_
          refine g_icmp_ne hc dX4_bestTaking_82 (pc1 := 85) (pc2 := 99) rfl rfl (fun _ => ?_) (fun _ => ?_)
          · refine q_Gmask [false, false, true, false, true, true, false] (L2 := [none, none, some (.int x2), none, some (.int x4), some (.int r13), none]) rfl ?_
            exact hk85 _ _ _
          · exact hj99 _
    · refine g_iconst hc dX4_bestTaking_137 ic_m1 (pc2 := 138) rfl ?_
      exact g_iret hc dX4_bestTaking_138
set_option maxRecDepth 100000 in
set_option maxHeartbeats 4000000 in
theorem C_X4_bestTaking {l : Launch} {w : q_Wd} {n : Nat} {t : Nat} {a0 : Nat} {a1 : Int32} (ht : q_KD t = .inl 4) (ha0 : q_KD a0 = .inl 9) {s0 : q_Sto} : q_C l w yX4_bestTaking cX4_bestTaking 7 (some .int) (q_rm 2 45) [q_rf w t, q_rf w a0, .int a1] s0 (f_X4_bestTaking n t a0 a1 s0) := q_CofG [some (q_rf w t), some (q_rf w a0), some (.int a1), none, none, none, none] (by decide +kernel) rfl rfl (Nat.le_of_ble_eq_true rfl) fun cx hl hc => by
  have hc : q_ok w cx RX4 cX4_bestTaking 7 (some .int) (q_rm 2 45) := hc
  rw [f_X4_bestTaking]
  refine g_rl0 hc dX4_bestTaking_0 rfl (pc2 := 1) rfl ?_
  refine g_callV0v hc (C_X4_fillGrundy ht) mv_X4_fillGrundy ln_X4_124 ht ⟨by decide, by decide⟩ (Nat.le_of_ble_eq_true rfl) dX4_bestTaking_1 (pc2 := 4) rfl (fun s1 => ?_)
  refine g_iconst hc dX4_bestTaking_4 ic_0 (pc2 := 5) rfl ?_
  refine g_is3 hc dX4_bestTaking_5 (by decide) (L2 := [some (q_rf w t), some (q_rf w a0), some (.int a1), some (.int 0), none, none, none]) rfl (pc2 := 6) rfl ?_
  refine g_iconst hc dX4_bestTaking_6 ic_0 (pc2 := 7) rfl ?_
  refine g_istore hc dX4_bestTaking_7 (by decide) (L2 := [some (q_rf w t), some (q_rf w a0), some (.int a1), some (.int 0), some (.int 0), none, none]) rfl (pc2 := 9) rfl ?_
  refine t_X4_bestTaking_L9 hc ht ha0 (fun y9 s10 => ?_) n _ _ _
  refine g_iconst hc dX4_bestTaking_37 ic_0 (pc2 := 38) rfl ?_
  refine g_istore hc dX4_bestTaking_38 (by decide) (L2 := [some (q_rf w t), some (q_rf w a0), some (.int a1), some (.int y9), some (.int 0), none, none]) rfl (pc2 := 40) rfl ?_
  refine t_X4_bestTaking_L40 hc ht ha0 (fun y27 y28 s29 => ?_) (fun y32 y33 s34 => ?_) n _ _
  · refine g_il2 hc dX4_bestTaking_85 rfl (pc2 := 86) rfl ?_
    refine g_if_eq hc dX4_bestTaking_86 (pc1 := 94) (pc2 := 89) rfl rfl (fun _ => ?_) (fun _ => ?_)
    · refine g_iload hc dX4_bestTaking_94 rfl (pc2 := 96) rfl ?_
      refine g_iconst hc dX4_bestTaking_96 ic_2 (pc2 := 97) rfl ?_
      refine g_idiv hc dX4_bestTaking_97 (pc2 := 98) rfl (fun v31 => ?_)
      exact g_iret hc dX4_bestTaking_98
    · refine g_iload hc dX4_bestTaking_89 rfl (pc2 := 91) rfl ?_
      refine g_goto hc dX4_bestTaking_91 (pc2 := 98) rfl ?_
      exact g_iret hc dX4_bestTaking_98
  · refine g_il2 hc dX4_bestTaking_117 rfl (pc2 := 118) rfl ?_
    refine g_if_eq hc dX4_bestTaking_118 (pc1 := 126) (pc2 := 121) rfl rfl (fun _ => ?_) (fun _ => ?_)
    · refine g_iload hc dX4_bestTaking_126 rfl (pc2 := 128) rfl ?_
      refine g_iconst hc dX4_bestTaking_128 ic_1 (pc2 := 129) rfl ?_
      refine g_isub hc dX4_bestTaking_129 (pc2 := 130) rfl ?_
      exact g_iret hc dX4_bestTaking_130
    · refine g_iload hc dX4_bestTaking_121 rfl (pc2 := 123) rfl ?_
      refine g_goto hc dX4_bestTaking_123 (pc2 := 130) rfl ?_
      exact g_iret hc dX4_bestTaking_130
set_option maxRecDepth 100000 in
set_option maxHeartbeats 4000000 in
def f_X4_countHeeders_L4 (n : Nat) (x0 : Nat) (x1 : Int32) : Nat → Int32 → Int32 → q_Sto → Option (Int32 × q_Sto)
  | 0, _, _, _ => none
  | j + 1, x2, x3, s0 =>
    if x3 < (s0 (q_RF x0 0) 8) then (
    q_call (f_X10_heededBy n x0 x3 s0) fun r3 s2 =>
    q_call (f_X11_isIn n r3 x1 s2) fun r5 s4 =>
    if r5 = 0 then (
    q_nm (x2 + 0) fun v7 =>
    f_X4_countHeeders_L4 n x0 x1  j v7 (x3 + 1) s4)
    else (
    q_nm (x2 + 1) fun v8 =>
    f_X4_countHeeders_L4 n x0 x1  j v8 (x3 + 1) s4))
    else (
    some (x2, s0))
set_option maxRecDepth 100000 in
set_option maxHeartbeats 4000000 in
def f_X4_countHeeders (n : Nat) (a0 : Nat) (a1 : Int32) (s0 : q_Sto) : Option (Int32 × q_Sto) :=
  f_X4_countHeeders_L4 n a0 a1  n 0 0 s0
set_option maxRecDepth 100000 in
set_option maxHeartbeats 4000000 in
theorem t_X4_countHeeders_L4 {w : q_Wd} {cx : q_Cx} (hc : q_ok w cx RX4 cX4_countHeeders 4 (some .int) (q_rm 2 45)) {n : Nat} {x0 : Nat} {x1 : Int32} (hx0 : q_KD x0 = .inl 10)   :
    ∀ (j : Nat) (x2 : Int32) (x3 : Int32) (s0 : q_Sto), q_G w cx 4 (some .int) 4 [some (q_rf w x0), some (.int x1), some (.int x2), some (.int x3)] [] s0 (f_X4_countHeeders_L4 n x0 x1  j x2 x3 s0) := by
  intro j
  induction j with
  | zero =>
    intro _ _ _
    rw [f_X4_countHeeders_L4]
    exact q_none
  | succ j ih =>
    intro x2 x3 s0
    rw [f_X4_countHeeders_L4]
    refine g_il3 hc dX4_countHeeders_4 rfl (pc2 := 5) rfl ?_
    refine g_rl0 hc dX4_countHeeders_5 rfl (pc2 := 6) rfl ?_
    refine g_getR hc fl_X4_30 rfl hx0 dX4_countHeeders_6 (pc2 := 9) rfl ?_
    refine g_getI hc fl_X4_62 rfl (kf_10_0 hx0) dX4_countHeeders_9 (pc2 := 12) rfl ?_
    refine g_icmp_ge hc dX4_countHeeders_12 (pc1 := 15) (pc2 := 41) rfl rfl (fun _ => ?_) (fun _ => ?_)
    · refine g_il2 hc dX4_countHeeders_15 rfl (pc2 := 16) rfl ?_
      refine g_rl0 hc dX4_countHeeders_16 rfl (pc2 := 17) rfl ?_
      refine g_il3 hc dX4_countHeeders_17 rfl (pc2 := 18) rfl ?_
      refine g_callV1 hc (C_X10_heededBy hx0) mv_X10_heededBy ln_X4_82 hx0 ⟨by decide, by decide⟩ (Nat.le_of_ble_eq_true rfl) dX4_countHeeders_18 (pc2 := 21) rfl (fun r3 s2 => ?_)
      refine g_il1 hc dX4_countHeeders_21 rfl (pc2 := 22) rfl ?_
      refine g_callSN2 (host := "MuleVote") hc C_X11_isIn mv_X11_isIn (by decide +kernel) ⟨by decide, by decide⟩ (Nat.le_of_ble_eq_true rfl) dX4_countHeeders_22 (pc2 := 25) rfl (fun r5 s4 => ?_)
      refine g_if_eq hc dX4_countHeeders_25 (pc1 := 32) (pc2 := 28) rfl rfl (fun _ => ?_) (fun _ => ?_)
      · refine g_iconst hc dX4_countHeeders_32 ic_0 (pc2 := 33) rfl ?_
        refine g_iadd hc dX4_countHeeders_33 (pc2 := 34) rfl ?_
        refine g_nm (fun v7 => ?_)
        refine g_is2 hc dX4_countHeeders_34 (by decide) (L2 := [some (q_rf w x0), some (.int x1), some (.int v7), some (.int x3)]) rfl (pc2 := 35) rfl ?_
        refine g_iinc hc dX4_countHeeders_35 rfl (q_ii ic_1) (by decide) (L2 := [some (q_rf w x0), some (.int x1), some (.int v7), some (.int (x3 + 1))]) rfl (pc2 := 38) rfl ?_
        refine g_goto hc dX4_countHeeders_38 (pc2 := 4) rfl ?_
        exact ih _ _ _
      · refine g_iconst hc dX4_countHeeders_28 ic_1 (pc2 := 29) rfl ?_
        refine g_goto hc dX4_countHeeders_29 (pc2 := 33) rfl ?_
        refine g_iadd hc dX4_countHeeders_33 (pc2 := 34) rfl ?_
        refine g_nm (fun v8 => ?_)
        refine g_is2 hc dX4_countHeeders_34 (by decide) (L2 := [some (q_rf w x0), some (.int x1), some (.int v8), some (.int x3)]) rfl (pc2 := 35) rfl ?_
        refine g_iinc hc dX4_countHeeders_35 rfl (q_ii ic_1) (by decide) (L2 := [some (q_rf w x0), some (.int x1), some (.int v8), some (.int (x3 + 1))]) rfl (pc2 := 38) rfl ?_
        refine g_goto hc dX4_countHeeders_38 (pc2 := 4) rfl ?_
        exact ih _ _ _
    · refine g_il2 hc dX4_countHeeders_41 rfl (pc2 := 42) rfl ?_
      exact g_iret hc dX4_countHeeders_42
set_option maxRecDepth 100000 in
set_option maxHeartbeats 4000000 in
theorem C_X4_countHeeders {l : Launch} {w : q_Wd} {n : Nat} {a0 : Nat} {a1 : Int32} (ha0 : q_KD a0 = .inl 10) {s0 : q_Sto} : q_C l w yX4_countHeeders cX4_countHeeders 4 (some .int) (q_rm 2 45) [q_rf w a0, .int a1] s0 (f_X4_countHeeders n a0 a1 s0) := q_CofG [some (q_rf w a0), some (.int a1), none, none] (by decide +kernel) rfl rfl (Nat.le_of_ble_eq_true rfl) fun cx hl hc => by
  have hc : q_ok w cx RX4 cX4_countHeeders 4 (some .int) (q_rm 2 45) := hc
  rw [f_X4_countHeeders]
  refine g_iconst hc dX4_countHeeders_0 ic_0 (pc2 := 1) rfl ?_
  refine g_is2 hc dX4_countHeeders_1 (by decide) (L2 := [some (q_rf w a0), some (.int a1), some (.int 0), none]) rfl (pc2 := 2) rfl ?_
  refine g_iconst hc dX4_countHeeders_2 ic_0 (pc2 := 3) rfl ?_
  refine g_is3 hc dX4_countHeeders_3 (by decide) (L2 := [some (q_rf w a0), some (.int a1), some (.int 0), some (.int 0)]) rfl (pc2 := 4) rfl ?_
  refine t_X4_countHeeders_L4 hc ha0  n _ _ _
set_option maxRecDepth 100000 in
set_option maxHeartbeats 4000000 in
def f_X4_shareOf_L12 (n : Nat) (x0 : Nat) (x1 : Nat) (x2 : Int32) (x3 : Int32) (x4 : Nat) (k60 : Int32 → q_Sto → Option (Int32 × q_Sto)) : Nat → Int32 → Int32 → q_Sto → Option (Int32 × q_Sto)
  | 0, _, _, _ => none
  | j + 1, x5, x6, s0 =>
    if x6 < (s0 x4 8) then (
    if x6 < 12 then (
    q_call (f_X4_countHeeders n x1 x6 s0) fun r4 s3 =>
    q_st s3 (q_RF x0 5) x6 12 r4 fun s5 =>
    q_ld s5 (q_RF x0 5) x6 12 fun v6 =>
    q_nm (x5 + v6) fun v7 =>
    f_X4_shareOf_L12 n x0 x1 x2 x3 x4 k60 j v7 (x6 + 1) s5)
    else (
    k60 x5 s0))
    else (
    k60 x5 s0)
set_option maxRecDepth 100000 in
set_option maxHeartbeats 4000000 in
def f_X4_shareOf_L94 (n : Nat) (x0 : Nat) (x2 : Int32) (x3 : Int32) (x4 : Nat) (x5 : Int32) (k160 : Int32 → Int32 → q_Sto → Option (Int32 × q_Sto)) : Nat → Int32 → Int32 → Int32 → q_Sto → Option (Int32 × q_Sto)
  | 0, _, _, _, _ => none
  | j + 1, x6, x7, x8, s0 =>
    if x8 < (s0 x4 8) then (
    if x8 < 12 then (
    q_ld s0 (q_RF x0 5) x8 12 fun v18 =>
    q_dv (x2 * v18) x5 fun v19 =>
    q_nm (x6 - v19) fun v20 =>
    if x8 < x3 then (
    q_ld s0 (q_RF x0 5) x8 12 fun v22 =>
    if v22 ≤ 0 then (
    q_nm (x7 + 0) fun v24 =>
    f_X4_shareOf_L94 n x0 x2 x3 x4 x5 k160 j v20 v24 (x8 + 1) s0)
    else (
    q_nm (x7 + 1) fun v25 =>
    f_X4_shareOf_L94 n x0 x2 x3 x4 x5 k160 j v20 v25 (x8 + 1) s0))
    else (
    q_nm (x7 + 0) fun v26 =>
    f_X4_shareOf_L94 n x0 x2 x3 x4 x5 k160 j v20 v26 (x8 + 1) s0))
    else (
    k160 x6 x7 s0))
    else (
    k160 x6 x7 s0)
set_option maxRecDepth 100000 in
set_option maxHeartbeats 4000000 in
def f_X4_shareOf (n : Nat) (t : Nat) (a0 : Nat) (a1 : Int32) (a2 : Int32) (s0 : q_Sto) : Option (Int32 × q_Sto) :=
  f_X4_shareOf_L12 n t a0 a1 a2 (q_RF a0 0) (fun (y8 : Int32) (s9 : q_Sto) =>
  if y8 ≤ 0 then (
  some (0, s9))
  else (
  q_call (f_X9_hasMule n (q_RF a0 0) a2 s9) fun r12 s11 =>
  if r12 = 0 then (
  some (0, s11))
  else (
  q_ld s11 (q_RF t 5) a2 12 fun v14 =>
  if v14 = 0 then (
  some (0, s11))
  else (
  f_X4_shareOf_L94 n t a1 a2 (q_RF a0 0) y8 (fun (y27 : Int32) (y28 : Int32) (s29 : q_Sto) =>
  q_ld s29 (q_RF t 5) a2 12 fun v30 =>
  q_dv (a1 * v30) y8 fun v31 =>
  if y28 < y27 then (
  some (v31 + 1, s29))
  else (
  some (v31 + 0, s29))) n a1 0 0 s11)))) n 0 0 s0
set_option maxRecDepth 100000 in
set_option maxHeartbeats 4000000 in
theorem t_X4_shareOf_L12 {w : q_Wd} {cx : q_Cx} (hc : q_ok w cx RX4 cX4_shareOf 9 (some .int) (q_rm 3 68)) {n : Nat} {x0 : Nat} {x1 : Nat} {x2 : Int32} {x3 : Int32} {x4 : Nat} (hx0 : q_KD x0 = .inl 4) (hx1 : q_KD x1 = .inl 10) (hx4 : q_KD x4 = .inl 9) {k60 : Int32 → q_Sto → Option (Int32 × q_Sto)} (hk60 : ∀ (y5 : Int32) (s1 : q_Sto), q_G w cx 9 (some .int) 60 [some (q_rf w x0), none, some (.int x2), some (.int x3), some (q_rf w x4), some (.int y5), none, none, none] [] s1 (k60 y5 s1)) :
    ∀ (j : Nat) (x5 : Int32) (x6 : Int32) (s0 : q_Sto), q_G w cx 9 (some .int) 12 [some (q_rf w x0), some (q_rf w x1), some (.int x2), some (.int x3), some (q_rf w x4), some (.int x5), some (.int x6), none, none] [] s0 (f_X4_shareOf_L12 n x0 x1 x2 x3 x4 k60 j x5 x6 s0) := by
  intro j
  induction j with
  | zero =>
    intro _ _ _
    rw [f_X4_shareOf_L12]
    exact q_none
  | succ j ih =>
    intro x5 x6 s0
    rw [f_X4_shareOf_L12]
    refine g_iload hc dX4_shareOf_12 rfl (pc2 := 14) rfl ?_
    refine g_rl hc dX4_shareOf_14 rfl (pc2 := 16) rfl ?_
    refine g_getI hc fl_X4_62 rfl hx4 dX4_shareOf_16 (pc2 := 19) rfl ?_
    refine g_icmp_ge hc dX4_shareOf_19 (pc1 := 22) (pc2 := 60) rfl rfl (fun _ => ?_) (fun _ => ?_)
    · refine g_iload hc dX4_shareOf_22 rfl (pc2 := 24) rfl ?_
      refine g_bipush hc dX4_shareOf_24 bp_12 (pc2 := 26) rfl ?_
      refine g_icmp_ge hc dX4_shareOf_26 (pc1 := 29) (pc2 := 60) rfl rfl (fun _ => ?_) (fun _ => ?_)
      · refine g_rl0 hc dX4_shareOf_29 rfl (pc2 := 30) rfl ?_
        refine g_getR hc fl_X4_27 rfl hx0 dX4_shareOf_30 (pc2 := 33) rfl ?_
        refine g_iload hc dX4_shareOf_33 rfl (pc2 := 35) rfl ?_
        refine g_rl1 hc dX4_shareOf_35 rfl (pc2 := 36) rfl ?_
        refine g_iload hc dX4_shareOf_36 rfl (pc2 := 38) rfl ?_
        refine g_callS2 hc (C_X4_countHeeders hx1) mv_X4_countHeeders ln_X4_141 ⟨by decide, by decide⟩ (Nat.le_of_ble_eq_true rfl) dX4_shareOf_38 (pc2 := 41) rfl (fun r4 s3 => ?_)
        refine g_iast hc (kf_4_5 hx0) (kl_4_5 hx0) dX4_shareOf_41 (pc2 := 42) rfl (fun s5 => ?_)
        refine g_iload hc dX4_shareOf_42 rfl (pc2 := 44) rfl ?_
        refine g_rl0 hc dX4_shareOf_44 rfl (pc2 := 45) rfl ?_
        refine g_getR hc fl_X4_27 rfl hx0 dX4_shareOf_45 (pc2 := 48) rfl ?_
        refine g_iload hc dX4_shareOf_48 rfl (pc2 := 50) rfl ?_
        refine g_iald hc (kf_4_5 hx0) (kl_4_5 hx0) dX4_shareOf_50 (pc2 := 51) rfl (fun v6 => ?_)
        refine g_iadd hc dX4_shareOf_51 (pc2 := 52) rfl ?_
        refine g_nm (fun v7 => ?_)
        refine g_istore hc dX4_shareOf_52 (by decide) (L2 := [some (q_rf w x0), some (q_rf w x1), some (.int x2), some (.int x3), some (q_rf w x4), some (.int v7), some (.int x6), none, none]) rfl (pc2 := 54) rfl ?_
        refine g_iinc hc dX4_shareOf_54 rfl (q_ii ic_1) (by decide) (L2 := [some (q_rf w x0), some (q_rf w x1), some (.int x2), some (.int x3), some (q_rf w x4), some (.int v7), some (.int (x6 + 1)), none, none]) rfl (pc2 := 57) rfl ?_
        refine g_goto hc dX4_shareOf_57 (pc2 := 12) rfl ?_
        exact ih _ _ _
      · refine q_Gmask [true, false, true, true, true, true, false, true, true] (L2 := [some (q_rf w x0), none, some (.int x2), some (.int x3), some (q_rf w x4), some (.int x5), none, none, none]) rfl ?_
        exact hk60 _ _
    · refine q_Gmask [true, false, true, true, true, true, false, true, true] (L2 := [some (q_rf w x0), none, some (.int x2), some (.int x3), some (q_rf w x4), some (.int x5), none, none, none]) rfl ?_
      exact hk60 _ _
set_option maxRecDepth 100000 in
set_option maxHeartbeats 4000000 in
theorem t_X4_shareOf_L94 {w : q_Wd} {cx : q_Cx} (hc : q_ok w cx RX4 cX4_shareOf 9 (some .int) (q_rm 3 68)) {n : Nat} {x0 : Nat} {x2 : Int32} {x3 : Int32} {x4 : Nat} {x5 : Int32} (hx0 : q_KD x0 = .inl 4) (hx4 : q_KD x4 = .inl 9) {k160 : Int32 → Int32 → q_Sto → Option (Int32 × q_Sto)} (hk160 : ∀ (y6 : Int32) (y7 : Int32) (s1 : q_Sto), q_G w cx 9 (some .int) 160 [some (q_rf w x0), none, some (.int x2), some (.int x3), none, some (.int x5), some (.int y6), some (.int y7), none] [] s1 (k160 y6 y7 s1)) :
    ∀ (j : Nat) (x6 : Int32) (x7 : Int32) (x8 : Int32) (s0 : q_Sto), q_G w cx 9 (some .int) 94 [some (q_rf w x0), none, some (.int x2), some (.int x3), some (q_rf w x4), some (.int x5), some (.int x6), some (.int x7), some (.int x8)] [] s0 (f_X4_shareOf_L94 n x0 x2 x3 x4 x5 k160 j x6 x7 x8 s0) := by
  intro j
  induction j with
  | zero =>
    intro _ _ _ _
    rw [f_X4_shareOf_L94]
    exact q_none
  | succ j ih =>
    intro x6 x7 x8 s0
    rw [f_X4_shareOf_L94]
    refine g_iload hc dX4_shareOf_94 rfl (pc2 := 96) rfl ?_
    refine g_rl hc dX4_shareOf_96 rfl (pc2 := 98) rfl ?_
    refine g_getI hc fl_X4_62 rfl hx4 dX4_shareOf_98 (pc2 := 101) rfl ?_
    refine g_icmp_ge hc dX4_shareOf_101 (pc1 := 104) (pc2 := 160) rfl rfl (fun _ => ?_) (fun _ => ?_)
    · refine g_iload hc dX4_shareOf_104 rfl (pc2 := 106) rfl ?_
      refine g_bipush hc dX4_shareOf_106 bp_12 (pc2 := 108) rfl ?_
      refine g_icmp_ge hc dX4_shareOf_108 (pc1 := 111) (pc2 := 160) rfl rfl (fun _ => ?_) (fun _ => ?_)
      · refine g_iload hc dX4_shareOf_111 rfl (pc2 := 113) rfl ?_
        refine g_il2 hc dX4_shareOf_113 rfl (pc2 := 114) rfl ?_
        refine g_rl0 hc dX4_shareOf_114 rfl (pc2 := 115) rfl ?_
        refine g_getR hc fl_X4_27 rfl hx0 dX4_shareOf_115 (pc2 := 118) rfl ?_
        refine g_iload hc dX4_shareOf_118 rfl (pc2 := 120) rfl ?_
        refine g_iald hc (kf_4_5 hx0) (kl_4_5 hx0) dX4_shareOf_120 (pc2 := 121) rfl (fun v18 => ?_)
        refine g_imul hc dX4_shareOf_121 (pc2 := 122) rfl ?_
        refine g_iload hc dX4_shareOf_122 rfl (pc2 := 124) rfl ?_
        refine g_idiv hc dX4_shareOf_124 (pc2 := 125) rfl (fun v19 => ?_)
        refine g_isub hc dX4_shareOf_125 (pc2 := 126) rfl ?_
        refine g_nm (fun v20 => ?_)
        refine g_istore hc dX4_shareOf_126 (by decide) (L2 := [some (q_rf w x0), none, some (.int x2), some (.int x3), some (q_rf w x4), some (.int x5), some (.int v20), some (.int x7), some (.int x8)]) rfl (pc2 := 128) rfl ?_
        refine g_iload hc dX4_shareOf_128 rfl (pc2 := 130) rfl ?_
        refine g_iload hc dX4_shareOf_130 rfl (pc2 := 132) rfl ?_
        refine g_il3 hc dX4_shareOf_132 rfl (pc2 := 133) rfl ?_
        refine g_icmp_ge hc dX4_shareOf_133 (pc1 := 136) (pc2 := 150) rfl rfl (fun _ => ?_) (fun _ => ?_)
        · refine g_rl0 hc dX4_shareOf_136 rfl (pc2 := 137) rfl ?_
          refine g_getR hc fl_X4_27 rfl hx0 dX4_shareOf_137 (pc2 := 140) rfl ?_
          refine g_iload hc dX4_shareOf_140 rfl (pc2 := 142) rfl ?_
          refine g_iald hc (kf_4_5 hx0) (kl_4_5 hx0) dX4_shareOf_142 (pc2 := 143) rfl (fun v22 => ?_)
          refine g_if_le hc dX4_shareOf_143 (pc1 := 150) (pc2 := 146) rfl rfl (fun _ => ?_) (fun _ => ?_)
          · refine g_iconst hc dX4_shareOf_150 ic_0 (pc2 := 151) rfl ?_
            refine g_iadd hc dX4_shareOf_151 (pc2 := 152) rfl ?_
            refine g_nm (fun v24 => ?_)
            refine g_istore hc dX4_shareOf_152 (by decide) (L2 := [some (q_rf w x0), none, some (.int x2), some (.int x3), some (q_rf w x4), some (.int x5), some (.int v20), some (.int v24), some (.int x8)]) rfl (pc2 := 154) rfl ?_
            refine g_iinc hc dX4_shareOf_154 rfl (q_ii ic_1) (by decide) (L2 := [some (q_rf w x0), none, some (.int x2), some (.int x3), some (q_rf w x4), some (.int x5), some (.int v20), some (.int v24), some (.int (x8 + 1))]) rfl (pc2 := 157) rfl ?_
            refine g_goto hc dX4_shareOf_157 (pc2 := 94) rfl ?_
            exact ih _ _ _ _
          · refine g_iconst hc dX4_shareOf_146 ic_1 (pc2 := 147) rfl ?_
            refine g_goto hc dX4_shareOf_147 (pc2 := 151) rfl ?_
            refine g_iadd hc dX4_shareOf_151 (pc2 := 152) rfl ?_
            refine g_nm (fun v25 => ?_)
            refine g_istore hc dX4_shareOf_152 (by decide) (L2 := [some (q_rf w x0), none, some (.int x2), some (.int x3), some (q_rf w x4), some (.int x5), some (.int v20), some (.int v25), some (.int x8)]) rfl (pc2 := 154) rfl ?_
            refine g_iinc hc dX4_shareOf_154 rfl (q_ii ic_1) (by decide) (L2 := [some (q_rf w x0), none, some (.int x2), some (.int x3), some (q_rf w x4), some (.int x5), some (.int v20), some (.int v25), some (.int (x8 + 1))]) rfl (pc2 := 157) rfl ?_
            refine g_goto hc dX4_shareOf_157 (pc2 := 94) rfl ?_
            exact ih _ _ _ _
        · refine g_iconst hc dX4_shareOf_150 ic_0 (pc2 := 151) rfl ?_
          refine g_iadd hc dX4_shareOf_151 (pc2 := 152) rfl ?_
          refine g_nm (fun v26 => ?_)
          refine g_istore hc dX4_shareOf_152 (by decide) (L2 := [some (q_rf w x0), none, some (.int x2), some (.int x3), some (q_rf w x4), some (.int x5), some (.int v20), some (.int v26), some (.int x8)]) rfl (pc2 := 154) rfl ?_
          refine g_iinc hc dX4_shareOf_154 rfl (q_ii ic_1) (by decide) (L2 := [some (q_rf w x0), none, some (.int x2), some (.int x3), some (q_rf w x4), some (.int x5), some (.int v20), some (.int v26), some (.int (x8 + 1))]) rfl (pc2 := 157) rfl ?_
          refine g_goto hc dX4_shareOf_157 (pc2 := 94) rfl ?_
          exact ih _ _ _ _
      · refine q_Gmask [true, true, true, true, false, true, true, true, false] (L2 := [some (q_rf w x0), none, some (.int x2), some (.int x3), none, some (.int x5), some (.int x6), some (.int x7), none]) rfl ?_
        exact hk160 _ _ _
    · refine q_Gmask [true, true, true, true, false, true, true, true, false] (L2 := [some (q_rf w x0), none, some (.int x2), some (.int x3), none, some (.int x5), some (.int x6), some (.int x7), none]) rfl ?_
      exact hk160 _ _ _
set_option maxRecDepth 100000 in
set_option maxHeartbeats 4000000 in
theorem C_X4_shareOf {l : Launch} {w : q_Wd} {n : Nat} {t : Nat} {a0 : Nat} {a1 : Int32} {a2 : Int32} (ht : q_KD t = .inl 4) (ha0 : q_KD a0 = .inl 10) {s0 : q_Sto} : q_C l w yX4_shareOf cX4_shareOf 9 (some .int) (q_rm 3 68) [q_rf w t, q_rf w a0, .int a1, .int a2] s0 (f_X4_shareOf n t a0 a1 a2 s0) := q_CofG [some (q_rf w t), some (q_rf w a0), some (.int a1), some (.int a2), none, none, none, none, none] (by decide +kernel) rfl rfl (Nat.le_of_ble_eq_true rfl) fun cx hl hc => by
  have hc : q_ok w cx RX4 cX4_shareOf 9 (some .int) (q_rm 3 68) := hc
  rw [f_X4_shareOf]
  refine g_rl1 hc dX4_shareOf_0 rfl (pc2 := 1) rfl ?_
  refine g_getR hc fl_X4_30 rfl ha0 dX4_shareOf_1 (pc2 := 4) rfl ?_
  refine g_rs hc dX4_shareOf_4 (by decide) (L2 := [some (q_rf w t), some (q_rf w a0), some (.int a1), some (.int a2), some (q_rf w (q_RF a0 0)), none, none, none, none]) rfl (pc2 := 6) rfl ?_
  refine g_iconst hc dX4_shareOf_6 ic_0 (pc2 := 7) rfl ?_
  refine g_istore hc dX4_shareOf_7 (by decide) (L2 := [some (q_rf w t), some (q_rf w a0), some (.int a1), some (.int a2), some (q_rf w (q_RF a0 0)), some (.int 0), none, none, none]) rfl (pc2 := 9) rfl ?_
  refine g_iconst hc dX4_shareOf_9 ic_0 (pc2 := 10) rfl ?_
  refine g_istore hc dX4_shareOf_10 (by decide) (L2 := [some (q_rf w t), some (q_rf w a0), some (.int a1), some (.int a2), some (q_rf w (q_RF a0 0)), some (.int 0), some (.int 0), none, none]) rfl (pc2 := 12) rfl ?_
  refine t_X4_shareOf_L12 hc ht ha0 (kf_10_0 ha0) (fun y8 s9 => ?_) n _ _ _
  refine g_iload hc dX4_shareOf_60 rfl (pc2 := 62) rfl ?_
  refine g_if_le hc dX4_shareOf_62 (pc1 := 83) (pc2 := 65) rfl rfl (fun _ => ?_) (fun _ => ?_)
  · refine g_iconst hc dX4_shareOf_83 ic_0 (pc2 := 84) rfl ?_
    exact g_iret hc dX4_shareOf_84
  · refine g_rl hc dX4_shareOf_65 rfl (pc2 := 67) rfl ?_
    refine g_il3 hc dX4_shareOf_67 rfl (pc2 := 68) rfl ?_
    refine g_callV1 hc (C_X9_hasMule (kf_10_0 ha0)) mv_X9_hasMule ln_X4_144 (kf_10_0 ha0) ⟨by decide, by decide⟩ (Nat.le_of_ble_eq_true rfl) dX4_shareOf_68 (pc2 := 71) rfl (fun r12 s11 => ?_)
    refine g_if_eq hc dX4_shareOf_71 (pc1 := 83) (pc2 := 74) rfl rfl (fun _ => ?_) (fun _ => ?_)
    · refine g_iconst hc dX4_shareOf_83 ic_0 (pc2 := 84) rfl ?_
      exact g_iret hc dX4_shareOf_84
    · refine g_rl0 hc dX4_shareOf_74 rfl (pc2 := 75) rfl ?_
      refine g_getR hc fl_X4_27 rfl ht dX4_shareOf_75 (pc2 := 78) rfl ?_
      refine g_il3 hc dX4_shareOf_78 rfl (pc2 := 79) rfl ?_
      refine g_iald hc (kf_4_5 ht) (kl_4_5 ht) dX4_shareOf_79 (pc2 := 80) rfl (fun v14 => ?_)
      refine g_if_ne hc dX4_shareOf_80 (pc1 := 83) (pc2 := 85) rfl rfl (fun _ => ?_) (fun _ => ?_)
      · refine g_iconst hc dX4_shareOf_83 ic_0 (pc2 := 84) rfl ?_
        exact g_iret hc dX4_shareOf_84
      · refine g_il2 hc dX4_shareOf_85 rfl (pc2 := 86) rfl ?_
        refine g_istore hc dX4_shareOf_86 (by decide) (L2 := [some (q_rf w t), none, some (.int a1), some (.int a2), some (q_rf w (q_RF a0 0)), some (.int y8), some (.int a1), none, none]) rfl (pc2 := 88) rfl ?_
        refine g_iconst hc dX4_shareOf_88 ic_0 (pc2 := 89) rfl ?_
        refine g_istore hc dX4_shareOf_89 (by decide) (L2 := [some (q_rf w t), none, some (.int a1), some (.int a2), some (q_rf w (q_RF a0 0)), some (.int y8), some (.int a1), some (.int 0), none]) rfl (pc2 := 91) rfl ?_
        refine g_iconst hc dX4_shareOf_91 ic_0 (pc2 := 92) rfl ?_
        refine g_istore hc dX4_shareOf_92 (by decide) (L2 := [some (q_rf w t), none, some (.int a1), some (.int a2), some (q_rf w (q_RF a0 0)), some (.int y8), some (.int a1), some (.int 0), some (.int 0)]) rfl (pc2 := 94) rfl ?_
        refine t_X4_shareOf_L94 hc ht (kf_10_0 ha0) (fun y27 y28 s29 => ?_) n _ _ _ _
        refine g_il2 hc dX4_shareOf_160 rfl (pc2 := 161) rfl ?_
        refine g_rl0 hc dX4_shareOf_161 rfl (pc2 := 162) rfl ?_
        refine g_getR hc fl_X4_27 rfl ht dX4_shareOf_162 (pc2 := 165) rfl ?_
        refine g_il3 hc dX4_shareOf_165 rfl (pc2 := 166) rfl ?_
        refine g_iald hc (kf_4_5 ht) (kl_4_5 ht) dX4_shareOf_166 (pc2 := 167) rfl (fun v30 => ?_)
        refine g_imul hc dX4_shareOf_167 (pc2 := 168) rfl ?_
        refine g_iload hc dX4_shareOf_168 rfl (pc2 := 170) rfl ?_
        refine g_idiv hc dX4_shareOf_170 (pc2 := 171) rfl (fun v31 => ?_)
        refine g_iload hc dX4_shareOf_171 rfl (pc2 := 173) rfl ?_
        refine g_iload hc dX4_shareOf_173 rfl (pc2 := 175) rfl ?_
        refine g_icmp_ge hc dX4_shareOf_175 (pc1 := 178) (pc2 := 182) rfl rfl (fun _ => ?_) (fun _ => ?_)
        · refine g_iconst hc dX4_shareOf_178 ic_1 (pc2 := 179) rfl ?_
          refine g_goto hc dX4_shareOf_179 (pc2 := 183) rfl ?_
          refine g_iadd hc dX4_shareOf_183 (pc2 := 184) rfl ?_
          exact g_iret hc dX4_shareOf_184
        · refine g_iconst hc dX4_shareOf_182 ic_0 (pc2 := 183) rfl ?_
          refine g_iadd hc dX4_shareOf_183 (pc2 := 184) rfl ?_
          exact g_iret hc dX4_shareOf_184
set_option maxRecDepth 100000 in
set_option maxHeartbeats 4000000 in
def f_X11_isCamp (n : Nat) (a0 : Int32) (s0 : q_Sto) : Option (Int32 × q_Sto) :=
  if a0 < 0 then (
  some (0, s0))
  else (
  if a0 < 10 then (
  some (1, s0))
  else (
  some (0, s0)))
set_option maxRecDepth 100000 in
set_option maxHeartbeats 4000000 in
theorem C_X11_isCamp {l : Launch} {w : q_Wd} {n : Nat} {a0 : Int32}  {s0 : q_Sto} : q_C l w yX11_isCamp cX11_isCamp 1 (some .boolean) (q_rm 0 0) [.int a0] s0 (f_X11_isCamp n a0 s0) := q_CofG [some (.int a0)] (by decide +kernel) rfl rfl (Nat.le_of_ble_eq_true rfl) fun cx hl hc => by
  have hc : q_ok w cx RX11 cX11_isCamp 1 (some .boolean) (q_rm 0 0) := hc
  rw [f_X11_isCamp]
  refine g_il0 hc dX11_isCamp_0 rfl (pc2 := 1) rfl ?_
  refine g_if_lt hc dX11_isCamp_1 (pc1 := 14) (pc2 := 4) rfl rfl (fun _ => ?_) (fun _ => ?_)
  · refine g_iconst hc dX11_isCamp_14 ic_0 (pc2 := 15) rfl ?_
    exact g_zret0 (by decide) hc dX11_isCamp_15
  · refine g_il0 hc dX11_isCamp_4 rfl (pc2 := 5) rfl ?_
    refine g_bipush hc dX11_isCamp_5 bp_10 (pc2 := 7) rfl ?_
    refine g_icmp_ge hc dX11_isCamp_7 (pc1 := 10) (pc2 := 14) rfl rfl (fun _ => ?_) (fun _ => ?_)
    · refine g_iconst hc dX11_isCamp_10 ic_1 (pc2 := 11) rfl ?_
      refine g_goto hc dX11_isCamp_11 (pc2 := 15) rfl ?_
      exact g_zret0 (by decide) hc dX11_isCamp_15
    · refine g_iconst hc dX11_isCamp_14 ic_0 (pc2 := 15) rfl ?_
      exact g_zret0 (by decide) hc dX11_isCamp_15
set_option maxRecDepth 100000 in
set_option maxHeartbeats 4000000 in
def f_X10_riskOf (n : Nat) (t : Nat) (a0 : Int32) (a1 : Int32) (a2 : Int32) (s0 : q_Sto) : Option (Int32 × q_Sto) :=
  q_callv (f_X10_factsOf n t a0 a2 s0) fun s1 =>
  q_st s1 (q_RF t 8) 8 10 a1 fun s3 =>
  q_call (f_X2_tells n (q_RF t 1) 2 (q_RF t 8) (20 * (s3 (q_RF t 0) 11)) s3) fun r5 s4 =>
  some (q_mx 0 (q_mn 1000 r5), s4)
set_option maxRecDepth 100000 in
set_option maxHeartbeats 4000000 in
theorem C_X10_riskOf {l : Launch} {w : q_Wd} {n : Nat} {t : Nat} {a0 : Int32} {a1 : Int32} {a2 : Int32} (ht : q_KD t = .inl 10) {s0 : q_Sto} : q_C l w yX10_riskOf cX10_riskOf 4 (some .int) (q_rm 2 53) [q_rf w t, .int a0, .int a1, .int a2] s0 (f_X10_riskOf n t a0 a1 a2 s0) := q_CofG [some (q_rf w t), some (.int a0), some (.int a1), some (.int a2)] (by decide +kernel) rfl rfl (Nat.le_of_ble_eq_true rfl) fun cx hl hc => by
  have hc : q_ok w cx RX10 cX10_riskOf 4 (some .int) (q_rm 2 53) := hc
  rw [f_X10_riskOf]
  refine g_rl0 hc dX10_riskOf_0 rfl (pc2 := 1) rfl ?_
  refine g_il1 hc dX10_riskOf_1 rfl (pc2 := 2) rfl ?_
  refine g_il3 hc dX10_riskOf_2 rfl (pc2 := 3) rfl ?_
  refine g_callV2v hc (C_X10_factsOf ht) mv_X10_factsOf ln_X10_93 ht ⟨by decide, by decide⟩ (Nat.le_of_ble_eq_true rfl) dX10_riskOf_3 (pc2 := 6) rfl (fun s1 => ?_)
  refine g_rl0 hc dX10_riskOf_6 rfl (pc2 := 7) rfl ?_
  refine g_getR hc fl_X10_50 rfl ht dX10_riskOf_7 (pc2 := 10) rfl ?_
  refine g_bipush hc dX10_riskOf_10 bp_8 (pc2 := 12) rfl ?_
  refine g_il2 hc dX10_riskOf_12 rfl (pc2 := 13) rfl ?_
  refine g_iast hc (kf_10_8 ht) (kl_10_8 ht) dX10_riskOf_13 (pc2 := 14) rfl (fun s3 => ?_)
  refine g_iconst hc dX10_riskOf_14 ic_0 (pc2 := 15) rfl ?_
  refine g_sipush hc dX10_riskOf_15 sp_1000 (pc2 := 18) rfl ?_
  refine g_rl0 hc dX10_riskOf_18 rfl (pc2 := 19) rfl ?_
  refine g_getR hc fl_X10_21 rfl ht dX10_riskOf_19 (pc2 := 22) rfl ?_
  refine g_iconst hc dX10_riskOf_22 ic_2 (pc2 := 23) rfl ?_
  refine g_rl0 hc dX10_riskOf_23 rfl (pc2 := 24) rfl ?_
  refine g_getR hc fl_X10_50 rfl ht dX10_riskOf_24 (pc2 := 27) rfl ?_
  refine g_bipush hc dX10_riskOf_27 bp_20 (pc2 := 29) rfl ?_
  refine g_rl0 hc dX10_riskOf_29 rfl (pc2 := 30) rfl ?_
  refine g_getR hc fl_X10_12 rfl ht dX10_riskOf_30 (pc2 := 33) rfl ?_
  refine g_getI hc fl_X10_86 rfl (kf_10_0 ht) dX10_riskOf_33 (pc2 := 36) rfl ?_
  refine g_imul hc dX10_riskOf_36 (pc2 := 37) rfl ?_
  refine g_callV3 hc (C_X2_tells (kf_10_1 ht) (kf_10_8 ht) (kl_10_8 ht)) mv_X2_tells ln_X10_97 (kf_10_1 ht) ⟨by decide, by decide⟩ (Nat.le_of_ble_eq_true rfl) dX10_riskOf_37 (pc2 := 40) rfl (fun r5 s4 => ?_)
  refine g_min hc ln_X10_101 ⟨by decide, by decide⟩ (Nat.le_of_ble_eq_true rfl) dX10_riskOf_40 (pc2 := 43) rfl ?_
  refine g_max hc ln_X10_107 ⟨by decide, by decide⟩ (Nat.le_of_ble_eq_true rfl) dX10_riskOf_43 (pc2 := 46) rfl ?_
  exact g_iret hc dX10_riskOf_46
