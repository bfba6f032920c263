set_option maxRecDepth 100000 in
set_option maxHeartbeats 4000000 in
def f_J7_fill_53178_L5 (n : Nat) (n0 : Nat) (x0 : Nat) (x1 : Int32) (x3 : Int32) : Nat → Int32 → q_Sto → Option (Int32 × q_Sto)
  | 0, _, _ => none
  | j + 1, x2, s0 =>
    if x2 < x3 then (
    q_st s0 x0 x2 n0 x1 fun s3 =>
    f_J7_fill_53178_L5 n n0 x0 x1 x3  j (x2 + 1) s3)
    else (
    some (0, s0))
set_option maxRecDepth 100000 in
set_option maxHeartbeats 4000000 in
def f_J7_fill_53178 (n : Nat) (a0 : Nat) (n0 : Nat) (a1 : Int32) (s0 : q_Sto) : Option (Int32 × q_Sto) :=
  q_nm (Int32.ofNat n0) fun v1 =>
  f_J7_fill_53178_L5 n n0 a0 a1 v1  n 0 s0
set_option maxRecDepth 100000 in
set_option maxHeartbeats 4000000 in
theorem t_J7_fill_53178_L5 {w : q_Wd} {cx : q_Cx} (hc : q_ok w cx RJ7 cJ7_fill_53178 4 (none) (q_rm 0 0)) {n : Nat} {n0 : Nat} {x0 : Nat} {x1 : Int32} {x3 : Int32} (hx0 : q_KD x0 = .inr (n0, false)) (lx0 : x0 < q_N0)   :
    ∀ (j : Nat) (x2 : Int32) (s0 : q_Sto), q_G w cx 4 (none) 5 [some (q_rf w x0), some (.int x1), some (.int x2), some (.int x3)] [] s0 (f_J7_fill_53178_L5 n n0 x0 x1 x3  j x2 s0) := by
  intro j
  induction j with
  | zero =>
    intro _ _
    rw [f_J7_fill_53178_L5]
    exact q_none
  | succ j ih =>
    intro x2 s0
    rw [f_J7_fill_53178_L5]
    refine g_il2 hc dJ7_fill_53178_5 rfl (pc2 := 6) rfl ?_
    refine g_il3 hc dJ7_fill_53178_6 rfl (pc2 := 7) rfl ?_
    refine g_icmp_ge hc dJ7_fill_53178_7 (pc1 := 10) (pc2 := 20) rfl rfl (fun _ => ?_) (fun _ => ?_)
    · refine g_rl0 hc dJ7_fill_53178_10 rfl (pc2 := 11) rfl ?_
      refine g_il2 hc dJ7_fill_53178_11 rfl (pc2 := 12) rfl ?_
      refine g_il1 hc dJ7_fill_53178_12 rfl (pc2 := 13) rfl ?_
      refine g_iast hc hx0 lx0 dJ7_fill_53178_13 (pc2 := 14) rfl (fun s3 => ?_)
      refine g_iinc hc dJ7_fill_53178_14 rfl (q_ii ic_1) (by decide) (L2 := [some (q_rf w x0), some (.int x1), some (.int (x2 + 1)), some (.int x3)]) rfl (pc2 := 17) rfl ?_
      refine g_goto hc dJ7_fill_53178_17 (pc2 := 5) rfl ?_
      exact ih _ _
    · exact g_vret hc dJ7_fill_53178_20
set_option maxRecDepth 100000 in
set_option maxHeartbeats 4000000 in
theorem C_J7_fill_53178 {l : Launch} {w : q_Wd} {n : Nat} {a0 : Nat} {n0 : Nat} {a1 : Int32} (ha0 : q_KD a0 = .inr (n0, false)) (la0 : a0 < q_N0) {s0 : q_Sto} : q_C l w yJ7_fill_53178 cJ7_fill_53178 4 (none) (q_rm 0 0) [q_rf w a0, .int a1] s0 (f_J7_fill_53178 n a0 n0 a1 s0) := q_CofG [some (q_rf w a0), some (.int a1), none, none] (by decide +kernel) rfl rfl (Nat.le_of_ble_eq_true rfl) fun cx hl hc => by
  have hc : q_ok w cx RJ7 cJ7_fill_53178 4 (none) (q_rm 0 0) := hc
  rw [f_J7_fill_53178]
  refine g_iconst hc dJ7_fill_53178_0 ic_0 (pc2 := 1) rfl ?_
  refine g_is2 hc dJ7_fill_53178_1 (by decide) (L2 := [some (q_rf w a0), some (.int a1), some (.int 0), none]) rfl (pc2 := 2) rfl ?_
  refine g_rl0 hc dJ7_fill_53178_2 rfl (pc2 := 3) rfl ?_
  refine g_alen hc ha0 la0 dJ7_fill_53178_3 (pc2 := 4) rfl ?_
  refine g_nm (fun v1 => ?_)
  refine g_is3 hc dJ7_fill_53178_4 (by decide) (L2 := [some (q_rf w a0), some (.int a1), some (.int 0), some (.int v1)]) rfl (pc2 := 5) rfl ?_
  refine t_J7_fill_53178_L5 hc ha0 la0  n _ _
set_option maxRecDepth 100000 in
set_option maxHeartbeats 4000000 in
def f_X11_isIn (n : Nat) (a0 : Int32) (a1 : Int32) (s0 : q_Sto) : Option (Int32 × q_Sto) :=
  if ((a0 >>> (a1 &&& 31)) &&& 1) = 0 then (
  some (0, s0))
  else (
  some (1, s0))
set_option maxRecDepth 100000 in
set_option maxHeartbeats 4000000 in
theorem C_X11_isIn {l : Launch} {w : q_Wd} {n : Nat} {a0 : Int32} {a1 : Int32}  {s0 : q_Sto} : q_C l w yX11_isIn cX11_isIn 2 (some .boolean) (q_rm 0 0) [.int a0, .int a1] s0 (f_X11_isIn n a0 a1 s0) := q_CofG [some (.int a0), some (.int a1)] (by decide +kernel) rfl rfl (Nat.le_of_ble_eq_true rfl) fun cx hl hc => by
  have hc : q_ok w cx RX11 cX11_isIn 2 (some .boolean) (q_rm 0 0) := hc
  rw [f_X11_isIn]
  refine g_il0 hc dX11_isIn_0 rfl (pc2 := 1) rfl ?_
  refine g_il1 hc dX11_isIn_1 rfl (pc2 := 2) rfl ?_
  refine g_ishr hc dX11_isIn_2 (pc2 := 3) rfl ?_
  refine g_iconst hc dX11_isIn_3 ic_1 (pc2 := 4) rfl ?_
  refine g_iand hc dX11_isIn_4 (pc2 := 5) rfl ?_
  refine g_if_eq hc dX11_isIn_5 (pc1 := 12) (pc2 := 8) rfl rfl (fun _ => ?_) (fun _ => ?_)
  · refine g_iconst hc dX11_isIn_12 ic_0 (pc2 := 13) rfl ?_
    exact g_zret0 (by decide) hc dX11_isIn_13
  · refine g_iconst hc dX11_isIn_8 ic_1 (pc2 := 9) rfl ?_
    refine g_goto hc dX11_isIn_9 (pc2 := 13) rfl ?_
    exact g_zret0 (by decide) hc dX11_isIn_13
set_option maxRecDepth 100000 in
set_option maxHeartbeats 4000000 in
def f_X0_choose_L20 (n : Nat) (x0 : Nat) (x1 : Int32) (x2 : Int32) (k124 : Int32 → Int32 → q_Sto → Option (Int32 × q_Sto)) : Nat → Int32 → Int32 → Int32 → q_Sto → Option (Int32 × q_Sto)
  | 0, _, _, _, _ => none
  | j + 1, x3, x4, x5, s0 =>
    if x5 < (s0 x0 6) then (
    if x5 < 5 then (
    q_ld s0 (q_RF x0 1) x1 12 fun v5 =>
    q_ld s0 (q_RF x0 4) x5 5 fun v6 =>
    q_call (f_J6_bitCount_0f7a4 n (v5 &&& v6) s0) fun r8 s7 =>
    q_jn (fun (y9 : Int32) (s10 : q_Sto) =>
      if y9 ≤ x4 then (
      f_X0_choose_L20 n x0 x1 x2 k124 j x3 x4 (x5 + 1) s10)
      else (
      f_X0_choose_L20 n x0 x1 x2 k124 j x5 y9 (x5 + 1) s10)) fun j104 =>
    if r8 < 12 then (
    q_jn (fun (y13 : Int32) (s14 : q_Sto) =>
      j104 y13 s14) fun j102 =>
    if x5 = x2 then (
    q_ld s7 (q_RF x0 3) ((x1 * 12) + r8) 144 fun v16 =>
    j102 v16 s7)
    else (
    q_ld s7 (q_RF x0 2) ((((x1 * 5) + x5) * 12) + r8) 720 fun v17 =>
    j102 v17 s7))
    else (
    j104 0 s7))
    else (
    k124 x3 x4 s0))
    else (
    k124 x3 x4 s0)
set_option maxRecDepth 100000 in
set_option maxHeartbeats 4000000 in
def f_X0_choose (n : Nat) (t : Nat) (a0 : Int32) (a1 : Int32) (s0 : q_Sto) : Option (Int32 × q_Sto) :=
  if a0 < 0 then (
  some ((-1), s0))
  else (
  if a0 < 12 then (
  f_X0_choose_L20 n t a0 a1 (fun (y18 : Int32) (y19 : Int32) (s20 : q_Sto) =>
  q_ld s20 (q_RF t 0) a0 12 fun v21 =>
  if y19 < v21 then (
  some ((-1), s20))
  else (
  some (y18, s20))) n (-1) (-1) 0 s0)
  else (
  some ((-1), s0)))
set_option maxRecDepth 100000 in
set_option maxHeartbeats 4000000 in
theorem t_X0_choose_L20 {w : q_Wd} {cx : q_Cx} (hc : q_ok w cx RX0 cX0_choose 8 (some .int) (q_rm 1 20)) {n : Nat} {x0 : Nat} {x1 : Int32} {x2 : Int32} (hx0 : q_KD x0 = .inl 0) {k124 : Int32 → Int32 → q_Sto → Option (Int32 × q_Sto)} (hk124 : ∀ (y3 : Int32) (y4 : Int32) (s1 : q_Sto), q_G w cx 8 (some .int) 124 [some (q_rf w x0), some (.int x1), none, some (.int y3), some (.int y4), none, none, none] [] s1 (k124 y3 y4 s1)) :
    ∀ (j : Nat) (x3 : Int32) (x4 : Int32) (x5 : Int32) (s0 : q_Sto), q_G w cx 8 (some .int) 20 [some (q_rf w x0), some (.int x1), some (.int x2), some (.int x3), some (.int x4), some (.int x5), none, none] [] s0 (f_X0_choose_L20 n x0 x1 x2 k124 j x3 x4 x5 s0) := by
  intro j
  induction j with
  | zero =>
    intro _ _ _ _
    rw [f_X0_choose_L20]
    exact q_none
  | succ j ih =>
    intro x3 x4 x5 s0
    rw [f_X0_choose_L20]
    refine g_iload hc dX0_choose_20 rfl (pc2 := 22) rfl ?_
    refine g_rl0 hc dX0_choose_22 rfl (pc2 := 23) rfl ?_
    refine g_getI hc fl_X0_31 rfl hx0 dX0_choose_23 (pc2 := 26) rfl ?_
    refine g_icmp_ge hc dX0_choose_26 (pc1 := 29) (pc2 := 124) rfl rfl (fun _ => ?_) (fun _ => ?_)
    · refine g_iload hc dX0_choose_29 rfl (pc2 := 31) rfl ?_
      refine g_iconst hc dX0_choose_31 ic_5 (pc2 := 32) rfl ?_
      refine g_icmp_ge hc dX0_choose_32 (pc1 := 35) (pc2 := 124) rfl rfl (fun _ => ?_) (fun _ => ?_)
      · refine g_rl0 hc dX0_choose_35 rfl (pc2 := 36) rfl ?_
        refine g_getR hc fl_X0_15 rfl hx0 dX0_choose_36 (pc2 := 39) rfl ?_
        refine g_il1 hc dX0_choose_39 rfl (pc2 := 40) rfl ?_
        refine g_iald hc (kf_0_1 hx0) (kl_0_1 hx0) dX0_choose_40 (pc2 := 41) rfl (fun v5 => ?_)
        refine g_rl0 hc dX0_choose_41 rfl (pc2 := 42) rfl ?_
        refine g_getR hc fl_X0_24 rfl hx0 dX0_choose_42 (pc2 := 45) rfl ?_
        refine g_iload hc dX0_choose_45 rfl (pc2 := 47) rfl ?_
        refine g_iald hc (kf_0_4 hx0) (kl_0_4 hx0) dX0_choose_47 (pc2 := 48) rfl (fun v6 => ?_)
        refine g_iand hc dX0_choose_48 (pc2 := 49) rfl ?_
        refine g_callS1 hc C_J6_bitCount_0f7a4 mv_J6_bitCount_0f7a4 ln_X0_63 ⟨by decide, by decide⟩ (Nat.le_of_ble_eq_true rfl) dX0_choose_49 (pc2 := 52) rfl (fun r8 s7 => ?_)
        refine g_istore hc dX0_choose_52 (by decide) (L2 := [some (q_rf w x0), some (.int x1), some (.int x2), some (.int x3), some (.int x4), some (.int x5), some (.int r8), none]) rfl (pc2 := 54) rfl ?_
        refine g_iconst hc dX0_choose_54 ic_0 (pc2 := 55) rfl ?_
        refine g_istore hc dX0_choose_55 (by decide) (L2 := [some (q_rf w x0), some (.int x1), some (.int x2), some (.int x3), some (.int x4), some (.int x5), some (.int r8), some (.int 0)]) rfl (pc2 := 57) rfl ?_
        refine g_iload hc dX0_choose_57 rfl (pc2 := 59) rfl ?_
        refine g_bipush hc dX0_choose_59 bp_12 (pc2 := 61) rfl ?_
        refine g_jn (P := fun j104 => ∀ (y9 : Int32) (s10 : q_Sto), q_G w cx 8 (some .int) 104 [some (q_rf w x0), some (.int x1), some (.int x2), some (.int x3), some (.int x4), some (.int x5), none, some (.int y9)] [] s10 (j104 y9 s10)) (fun y9 s10 => ?_) (fun j104 hj104 => ?_)
        · refine g_iload hc dX0_choose_104 rfl (pc2 := 106) rfl ?_
          refine g_iload hc dX0_choose_106 rfl (pc2 := 108) rfl ?_
          refine g_icmp_le hc dX0_choose_108 (pc1 := 118) (pc2 := 111) rfl rfl (fun _ => ?_) (fun _ => ?_)
          · refine g_iinc hc dX0_choose_118 rfl (q_ii ic_1) (by decide) (L2 := [some (q_rf w x0), some (.int x1), some (.int x2), some (.int x3), some (.int x4), some (.int (x5 + 1)), none, some (.int y9)]) rfl (pc2 := 121) rfl ?_
            refine g_goto hc dX0_choose_121 (pc2 := 20) rfl ?_
            refine q_Gmask [true, true, true, true, true, true, true, false] (L2 := [some (q_rf w x0), some (.int x1), some (.int x2), some (.int x3), some (.int x4), some (.int (x5 + 1)), none, none]) rfl ?_
            exact ih _ _ _ _
          · refine g_iload hc dX0_choose_111 rfl (pc2 := 113) rfl ?_
            refine g_istore hc dX0_choose_113 (by decide) (L2 := [some (q_rf w x0), some (.int x1), some (.int x2), some (.int x3), some (.int y9), some (.int x5), none, some (.int y9)]) rfl (pc2 := 115) rfl ?_
            refine g_iload hc dX0_choose_115 rfl (pc2 := 117) rfl ?_
            refine g_is3 hc dX0_choose_117 (by decide) (L2 := [some (q_rf w x0), some (.int x1), some (.int x2), some (.int x5), some (.int y9), some (.int x5), none, some (.int y9)]) rfl (pc2 := 118) rfl ?_
            refine g_iinc hc dX0_choose_118 rfl (q_ii ic_1) (by decide) (L2 := [some (q_rf w x0), some (.int x1), some (.int x2), some (.int x5), some (.int y9), some (.int (x5 + 1)), none, some (.int y9)]) rfl (pc2 := 121) rfl ?_
            refine g_goto hc dX0_choose_121 (pc2 := 20) rfl ?_
            refine q_Gmask [true, true, true, true, true, true, true, false] (L2 := [some (q_rf w x0), some (.int x1), some (.int x2), some (.int x5), some (.int y9), some (.int (x5 + 1)), none, none]) rfl ?_
            exact ih _ _ _ _
        · refine g_icmp_ge hc dX0_choose_61 (pc1 := 64) (pc2 := 104) rfl rfl (fun _ => ?_) (fun _ => ?_)
          · refine g_iload hc dX0_choose_64 rfl (pc2 := 66) rfl ?_
            refine g_il2 hc dX0_choose_66 rfl (pc2 := 67) rfl ?_
            refine g_jn (P := fun j102 => ∀ (y13 : Int32) (s14 : q_Sto), q_G w cx 8 (some .int) 102 [some (q_rf w x0), some (.int x1), some (.int x2), some (.int x3), some (.int x4), some (.int x5), none, none] [.int y13] s14 (j102 y13 s14)) (fun y13 s14 => ?_) (fun j102 hj102 => ?_)
            · refine g_istore hc dX0_choose_102 (by decide) (L2 := [some (q_rf w x0), some (.int x1), some (.int x2), some (.int x3), some (.int x4), some (.int x5), none, some (.int y13)]) rfl (pc2 := 104) rfl ?_
              exact hj104 _ _
            · refine g_icmp_ne hc dX0_choose_67 (pc1 := 70) (pc2 := 85) rfl rfl (fun _ => ?_) (fun _ => ?_)
              · refine g_rl0 hc dX0_choose_70 rfl (pc2 := 71) rfl ?_
                refine g_getR hc fl_X0_21 rfl hx0 dX0_choose_71 (pc2 := 74) rfl ?_
                refine g_il1 hc dX0_choose_74 rfl (pc2 := 75) rfl ?_
                refine g_bipush hc dX0_choose_75 bp_12 (pc2 := 77) rfl ?_
                refine g_imul hc dX0_choose_77 (pc2 := 78) rfl ?_
                refine g_iload hc dX0_choose_78 rfl (pc2 := 80) rfl ?_
                refine g_iadd hc dX0_choose_80 (pc2 := 81) rfl ?_
                refine g_iald hc (kf_0_3 hx0) (kl_0_3 hx0) dX0_choose_81 (pc2 := 82) rfl (fun v16 => ?_)
                refine g_goto hc dX0_choose_82 (pc2 := 102) rfl ?_
                refine q_Gmask [true, true, true, true, true, true, false, false] (L2 := [some (q_rf w x0), some (.int x1), some (.int x2), some (.int x3), some (.int x4), some (.int x5), none, none]) rfl ?_
                exact hj102 _ _
              · refine g_rl0 hc dX0_choose_85 rfl (pc2 := 86) rfl ?_
                refine g_getR hc fl_X0_18 rfl hx0 dX0_choose_86 (pc2 := 89) rfl ?_
                refine g_il1 hc dX0_choose_89 rfl (pc2 := 90) rfl ?_
                refine g_iconst hc dX0_choose_90 ic_5 (pc2 := 91) rfl ?_
                refine g_imul hc dX0_choose_91 (pc2 := 92) rfl ?_
                refine g_iload hc dX0_choose_92 rfl (pc2 := 94) rfl ?_
                refine g_iadd hc dX0_choose_94 (pc2 := 95) rfl ?_
                refine g_bipush hc dX0_choose_95 bp_12 (pc2 := 97) rfl ?_
                refine g_imul hc dX0_choose_97 (pc2 := 98) rfl ?_
                refine g_iload hc dX0_choose_98 rfl (pc2 := 100) rfl ?_
                refine g_iadd hc dX0_choose_100 (pc2 := 101) rfl ?_
                refine g_iald hc (kf_0_2 hx0) (kl_0_2 hx0) dX0_choose_101 (pc2 := 102) rfl (fun v17 => ?_)
                refine q_Gmask [true, true, true, true, true, true, false, false] (L2 := [some (q_rf w x0), some (.int x1), some (.int x2), some (.int x3), some (.int x4), some (.int x5), none, none]) rfl ?_
                exact hj102 _ _
          · refine q_Gmask [true, true, true, true, true, true, false, true] (L2 := [some (q_rf w x0), some (.int x1), some (.int x2), some (.int x3), some (.int x4), some (.int x5), none, some (.int 0)]) rfl ?_
            exact hj104 _ _
      · refine q_Gmask [true, true, false, true, true, false, true, true] (L2 := [some (q_rf w x0), some (.int x1), none, some (.int x3), some (.int x4), none, none, none]) rfl ?_
        exact hk124 _ _ _
    · refine q_Gmask [true, true, false, true, true, false, true, true] (L2 := [some (q_rf w x0), some (.int x1), none, some (.int x3), some (.int x4), none, none, none]) rfl ?_
      exact hk124 _ _ _
set_option maxRecDepth 100000 in
set_option maxHeartbeats 4000000 in
theorem C_X0_choose {l : Launch} {w : q_Wd} {n : Nat} {t : Nat} {a0 : Int32} {a1 : Int32} (ht : q_KD t = .inl 0) {s0 : q_Sto} : q_C l w yX0_choose cX0_choose 8 (some .int) (q_rm 1 20) [q_rf w t, .int a0, .int a1] s0 (f_X0_choose n t a0 a1 s0) := q_CofG [some (q_rf w t), some (.int a0), some (.int a1), none, none, none, none, none] (by decide +kernel) rfl rfl (Nat.le_of_ble_eq_true rfl) fun cx hl hc => by
  have hc : q_ok w cx RX0 cX0_choose 8 (some .int) (q_rm 1 20) := hc
  rw [f_X0_choose]
  refine g_il1 hc dX0_choose_0 rfl (pc2 := 1) rfl ?_
  refine g_if_lt hc dX0_choose_1 (pc1 := 10) (pc2 := 4) rfl rfl (fun _ => ?_) (fun _ => ?_)
  · refine g_iconst hc dX0_choose_10 ic_m1 (pc2 := 11) rfl ?_
    exact g_iret hc dX0_choose_11
  · refine g_il1 hc dX0_choose_4 rfl (pc2 := 5) rfl ?_
    refine g_bipush hc dX0_choose_5 bp_12 (pc2 := 7) rfl ?_
    refine g_icmp_lt hc dX0_choose_7 (pc1 := 12) (pc2 := 10) rfl rfl (fun _ => ?_) (fun _ => ?_)
    · refine g_iconst hc dX0_choose_12 ic_m1 (pc2 := 13) rfl ?_
      refine g_is3 hc dX0_choose_13 (by decide) (L2 := [some (q_rf w t), some (.int a0), some (.int a1), some (.int (-1)), none, none, none, none]) rfl (pc2 := 14) rfl ?_
      refine g_iconst hc dX0_choose_14 ic_m1 (pc2 := 15) rfl ?_
      refine g_istore hc dX0_choose_15 (by decide) (L2 := [some (q_rf w t), some (.int a0), some (.int a1), some (.int (-1)), some (.int (-1)), none, none, none]) rfl (pc2 := 17) rfl ?_
      refine g_iconst hc dX0_choose_17 ic_0 (pc2 := 18) rfl ?_
      refine g_istore hc dX0_choose_18 (by decide) (L2 := [some (q_rf w t), some (.int a0), some (.int a1), some (.int (-1)), some (.int (-1)), some (.int 0), none, none]) rfl (pc2 := 20) rfl ?_
      refine t_X0_choose_L20 hc ht (fun y18 y19 s20 => ?_) n _ _ _ _
      refine g_iload hc dX0_choose_124 rfl (pc2 := 126) rfl ?_
      refine g_rl0 hc dX0_choose_126 rfl (pc2 := 127) rfl ?_
      refine g_getR hc fl_X0_9 rfl ht dX0_choose_127 (pc2 := 130) rfl ?_
      refine g_il1 hc dX0_choose_130 rfl (pc2 := 131) rfl ?_
      refine g_iald hc (kf_0_0 ht) (kl_0_0 ht) dX0_choose_131 (pc2 := 132) rfl (fun v21 => ?_)
      refine g_icmp_lt hc dX0_choose_132 (pc1 := 139) (pc2 := 135) rfl rfl (fun _ => ?_) (fun _ => ?_)
      · refine g_iconst hc dX0_choose_139 ic_m1 (pc2 := 140) rfl ?_
        exact g_iret hc dX0_choose_140
      · refine g_il3 hc dX0_choose_135 rfl (pc2 := 136) rfl ?_
        refine g_goto hc dX0_choose_136 (pc2 := 140) rfl ?_
        exact g_iret hc dX0_choose_140
    · refine g_iconst hc dX0_choose_10 ic_m1 (pc2 := 11) rfl ?_
      exact g_iret hc dX0_choose_11
set_option maxRecDepth 100000 in
set_option maxHeartbeats 4000000 in
def f_X0_leader_L6 (n : Nat) (x0 : Nat) : Nat → Int32 → Int32 → Int32 → q_Sto → Option (Int32 × q_Sto)
  | 0, _, _, _, _ => none
  | j + 1, x1, x2, x3, s0 =>
    if x3 < (s0 x0 6) then (
    if x3 < 5 then (
    q_ld s0 (q_RF x0 4) x3 5 fun v3 =>
    q_call (f_J6_bitCount_0f7a4 n v3 s0) fun r5 s4 =>
    if r5 ≤ x2 then (
    if r5 = x2 then (
    f_X0_leader_L6 n x0  j (-1) x2 (x3 + 1) s4)
    else (
    f_X0_leader_L6 n x0  j x1 x2 (x3 + 1) s4))
    else (
    f_X0_leader_L6 n x0  j x3 r5 (x3 + 1) s4))
    else (
    some (x1, s0)))
    else (
    some (x1, s0))
set_option maxRecDepth 100000 in
set_option maxHeartbeats 4000000 in
def f_X0_leader (n : Nat) (t : Nat) (s0 : q_Sto) : Option (Int32 × q_Sto) :=
  f_X0_leader_L6 n t  n (-1) 0 0 s0
set_option maxRecDepth 100000 in
set_option maxHeartbeats 4000000 in
theorem t_X0_leader_L6 {w : q_Wd} {cx : q_Cx} (hc : q_ok w cx RX0 cX0_leader 5 (some .int) (q_rm 1 20)) {n : Nat} {x0 : Nat} (hx0 : q_KD x0 = .inl 0)   :
    ∀ (j : Nat) (x1 : Int32) (x2 : Int32) (x3 : Int32) (s0 : q_Sto), q_G w cx 5 (some .int) 6 [some (q_rf w x0), some (.int x1), some (.int x2), some (.int x3), none] [] s0 (f_X0_leader_L6 n x0  j x1 x2 x3 s0) := by
  intro j
  induction j with
  | zero =>
    intro _ _ _ _
    rw [f_X0_leader_L6]
    exact q_none
  | succ j ih =>
    intro x1 x2 x3 s0
    rw [f_X0_leader_L6]
    refine g_il3 hc dX0_leader_6 rfl (pc2 := 7) rfl ?_
    refine g_rl0 hc dX0_leader_7 rfl (pc2 := 8) rfl ?_
    refine g_getI hc fl_X0_31 rfl hx0 dX0_leader_8 (pc2 := 11) rfl ?_
    refine g_icmp_ge hc dX0_leader_11 (pc1 := 14) (pc2 := 58) rfl rfl (fun _ => ?_) (fun _ => ?_)
    · refine g_il3 hc dX0_leader_14 rfl (pc2 := 15) rfl ?_
      refine g_iconst hc dX0_leader_15 ic_5 (pc2 := 16) rfl ?_
      refine g_icmp_ge hc dX0_leader_16 (pc1 := 19) (pc2 := 58) rfl rfl (fun _ => ?_) (fun _ => ?_)
      · refine g_rl0 hc dX0_leader_19 rfl (pc2 := 20) rfl ?_
        refine g_getR hc fl_X0_24 rfl hx0 dX0_leader_20 (pc2 := 23) rfl ?_
        refine g_il3 hc dX0_leader_23 rfl (pc2 := 24) rfl ?_
        refine g_iald hc (kf_0_4 hx0) (kl_0_4 hx0) dX0_leader_24 (pc2 := 25) rfl (fun v3 => ?_)
        refine g_callS1 hc C_J6_bitCount_0f7a4 mv_J6_bitCount_0f7a4 ln_X0_63 ⟨by decide, by decide⟩ (Nat.le_of_ble_eq_true rfl) dX0_leader_25 (pc2 := 28) rfl (fun r5 s4 => ?_)
        refine g_istore hc dX0_leader_28 (by decide) (L2 := [some (q_rf w x0), some (.int x1), some (.int x2), some (.int x3), some (.int r5)]) rfl (pc2 := 30) rfl ?_
        refine g_iload hc dX0_leader_30 rfl (pc2 := 32) rfl ?_
        refine g_il2 hc dX0_leader_32 rfl (pc2 := 33) rfl ?_
        refine g_icmp_le hc dX0_leader_33 (pc1 := 44) (pc2 := 36) rfl rfl (fun _ => ?_) (fun _ => ?_)
        · refine g_iload hc dX0_leader_44 rfl (pc2 := 46) rfl ?_
          refine g_il2 hc dX0_leader_46 rfl (pc2 := 47) rfl ?_
          refine g_icmp_ne hc dX0_leader_47 (pc1 := 50) (pc2 := 52) rfl rfl (fun _ => ?_) (fun _ => ?_)
          · refine g_iconst hc dX0_leader_50 ic_m1 (pc2 := 51) rfl ?_
            refine g_is1 hc dX0_leader_51 (by decide) (L2 := [some (q_rf w x0), some (.int (-1)), some (.int x2), some (.int x3), some (.int r5)]) rfl (pc2 := 52) rfl ?_
            refine g_iinc hc dX0_leader_52 rfl (q_ii ic_1) (by decide) (L2 := [some (q_rf w x0), some (.int (-1)), some (.int x2), some (.int (x3 + 1)), some (.int r5)]) rfl (pc2 := 55) rfl ?_
            refine g_goto hc dX0_leader_55 (pc2 := 6) rfl ?_
            refine q_Gmask [true, true, true, true, false] (L2 := [some (q_rf w x0), some (.int (-1)), some (.int x2), some (.int (x3 + 1)), none]) rfl ?_
            exact ih _ _ _ _
          · refine g_iinc hc dX0_leader_52 rfl (q_ii ic_1) (by decide) (L2 := [some (q_rf w x0), some (.int x1), some (.int x2), some (.int (x3 + 1)), some (.int r5)]) rfl (pc2 := 55) rfl ?_
            refine g_goto hc dX0_leader_55 (pc2 := 6) rfl ?_
            refine q_Gmask [true, true, true, true, false] (L2 := [some (q_rf w x0), some (.int x1), some (.int x2), some (.int (x3 + 1)), none]) rfl ?_
            exact ih _ _ _ _
        · refine g_iload hc dX0_leader_36 rfl (pc2 := 38) rfl ?_
          refine g_is2 hc dX0_leader_38 (by decide) (L2 := [some (q_rf w x0), some (.int x1), some (.int r5), some (.int x3), some (.int r5)]) rfl (pc2 := 39) rfl ?_
          refine g_il3 hc dX0_leader_39 rfl (pc2 := 40) rfl ?_
          refine g_is1 hc dX0_leader_40 (by decide) (L2 := [some (q_rf w x0), some (.int x3), some (.int r5), some (.int x3), some (.int r5)]) rfl (pc2 := 41) rfl ?_
          refine g_goto hc dX0_leader_41 (pc2 := 52) rfl ?_
          refine g_iinc hc dX0_leader_52 rfl (q_ii ic_1) (by decide) (L2 := [some (q_rf w x0), some (.int x3), some (.int r5), some (.int (x3 + 1)), some (.int r5)]) rfl (pc2 := 55) rfl ?_
          refine g_goto hc dX0_leader_55 (pc2 := 6) rfl ?_
          refine q_Gmask [true, true, true, true, false] (L2 := [some (q_rf w x0), some (.int x3), some (.int r5), some (.int (x3 + 1)), none]) rfl ?_
          exact ih _ _ _ _
      · refine g_il1 hc dX0_leader_58 rfl (pc2 := 59) rfl ?_
        exact g_iret hc dX0_leader_59
    · refine g_il1 hc dX0_leader_58 rfl (pc2 := 59) rfl ?_
      exact g_iret hc dX0_leader_59
set_option maxRecDepth 100000 in
set_option maxHeartbeats 4000000 in
theorem C_X0_leader {l : Launch} {w : q_Wd} {n : Nat} {t : Nat} (ht : q_KD t = .inl 0) {s0 : q_Sto} : q_C l w yX0_leader cX0_leader 5 (some .int) (q_rm 1 20) [q_rf w t] s0 (f_X0_leader n t s0) := q_CofG [some (q_rf w t), none, none, none, none] (by decide +kernel) rfl rfl (Nat.le_of_ble_eq_true rfl) fun cx hl hc => by
  have hc : q_ok w cx RX0 cX0_leader 5 (some .int) (q_rm 1 20) := hc
  rw [f_X0_leader]
  refine g_iconst hc dX0_leader_0 ic_m1 (pc2 := 1) rfl ?_
  refine g_is1 hc dX0_leader_1 (by decide) (L2 := [some (q_rf w t), some (.int (-1)), none, none, none]) rfl (pc2 := 2) rfl ?_
  refine g_iconst hc dX0_leader_2 ic_0 (pc2 := 3) rfl ?_
  refine g_is2 hc dX0_leader_3 (by decide) (L2 := [some (q_rf w t), some (.int (-1)), some (.int 0), none, none]) rfl (pc2 := 4) rfl ?_
  refine g_iconst hc dX0_leader_4 ic_0 (pc2 := 5) rfl ?_
  refine g_is3 hc dX0_leader_5 (by decide) (L2 := [some (q_rf w t), some (.int (-1)), some (.int 0), some (.int 0), none]) rfl (pc2 := 6) rfl ?_
  refine t_X0_leader_L6 hc ht  n _ _ _ _
set_option maxRecDepth 100000 in
set_option maxHeartbeats 4000000 in
def f_X0_settle_L54 (n : Nat) (x0 : Nat) (x2 : Int32) (x3 : Int32) (x5 : Int32) (x6 : Int32) (k141 : Int32 → q_Sto → Option (Int32 × q_Sto)) : Nat → Int32 → Int32 → q_Sto → Option (Int32 × q_Sto)
  | 0, _, _, _ => none
  | j + 1, x4, x7, s0 =>
    if x7 < (s0 x0 5) then (
    q_call (f_X11_isIn n x4 x7 s0) fun r9 s8 =>
    q_jn (fun (y10 : Int32) (s11 : q_Sto) =>
      if y10 < 0 then (
      f_X0_settle_L54 n x0 x2 x3 x5 x6 k141 j x4 (x7 + 1) s11)
      else (
      if y10 < 5 then (
      q_ld s11 (q_RF x0 4) y10 5 fun v14 =>
      q_st s11 (q_RF x0 4) y10 5 (v14 ||| (1 <<< (x7 &&& 31))) fun s15 =>
      q_nm (x4 &&& ((1 <<< (x7 &&& 31)) ^^^ (-1))) fun v16 =>
      f_X0_settle_L54 n x0 x2 x3 x5 x6 k141 j v16 (x7 + 1) s15)
      else (
      f_X0_settle_L54 n x0 x2 x3 x5 x6 k141 j x4 (x7 + 1) s11))) fun j97 =>
    if r9 = 0 then (
    j97 (-1) s8)
    else (
    q_call (f_X11_isIn n x2 x7 s8) fun r19 s18 =>
    q_jn (fun (y20 : Int32) (s21 : q_Sto) =>
      q_call (f_X0_choose n x0 x7 y20 s21) fun r23 s22 =>
      j97 r23 s22) fun j90 =>
    if r19 = 0 then (
    j90 (-1) s18)
    else (
    j90 x3 s18)))
    else (
    k141 x4 s0)
set_option maxRecDepth 100000 in
set_option maxHeartbeats 4000000 in
def f_X0_settle_L33 (n : Nat) (x0 : Nat) (x2 : Int32) (x3 : Int32) (k164 : q_Sto → Option (Int32 × q_Sto)) : Nat → Int32 → Int32 → Int32 → q_Sto → Option (Int32 × q_Sto)
  | 0, _, _, _, _ => none
  | j + 1, x4, x5, x6, s0 =>
    if x6 ≤ 12 then (
    if x5 = x4 then (
    k164 s0)
    else (
    f_X0_settle_L54 n x0 x2 x3 x4 x6 (fun (y25 : Int32) (s26 : q_Sto) =>
    if x4 = y25 then (
    f_X0_settle_L33 n x0 x2 x3 k164 j y25 x4 (x6 + 1) s26)
    else (
    q_nS1 (q_up s26 x0 7 ((s26 x0 7) + 1)) fun s28 =>
    f_X0_settle_L33 n x0 x2 x3 k164 j y25 x4 (x6 + 1) s28)) n x4 0 s0))
    else (
    k164 s0)
set_option maxRecDepth 100000 in
set_option maxHeartbeats 4000000 in
def f_X0_settle (n : Nat) (t : Nat) (a0 : Int32) (a1 : Int32) (a2 : Int32) (s0 : q_Sto) : Option (Int32 × q_Sto) :=
  q_callv (f_J7_fill_53178 n (q_RF t 4) 5 0 s0) fun s1 =>
  q_nm (((1 <<< ((s1 t 5) &&& 31)) - 1) &&& (a0 ^^^ (-1))) fun v3 =>
  q_nS1 (q_up s1 t 7 0) fun s4 =>
  f_X0_settle_L33 n t a1 a2 (fun  (s29 : q_Sto) =>
  q_call (f_X0_leader n t s29) fun r31 s30 =>
  q_nS1 (q_up s30 t 8 r31) fun s32 =>
  some (0, s32)) n v3 (-1) 0 s4
set_option maxRecDepth 100000 in
set_option maxHeartbeats 4000000 in
theorem t_X0_settle_L54 {w : q_Wd} {cx : q_Cx} (hc : q_ok w cx RX0 cX0_settle 9 (none) (q_rm 2 47)) {n : Nat} {x0 : Nat} {x2 : Int32} {x3 : Int32} {x5 : Int32} {x6 : Int32} (hx0 : q_KD x0 = .inl 0) {k141 : Int32 → q_Sto → Option (Int32 × q_Sto)} (hk141 : ∀ (y4 : Int32) (s1 : q_Sto), q_G w cx 9 (none) 141 [some (q_rf w x0), none, some (.int x2), some (.int x3), some (.int y4), some (.int x5), some (.int x6), none, none] [] s1 (k141 y4 s1)) :
    ∀ (j : Nat) (x4 : Int32) (x7 : Int32) (s0 : q_Sto), q_G w cx 9 (none) 54 [some (q_rf w x0), none, some (.int x2), some (.int x3), some (.int x4), some (.int x5), some (.int x6), some (.int x7), none] [] s0 (f_X0_settle_L54 n x0 x2 x3 x5 x6 k141 j x4 x7 s0) := by
  intro j
  induction j with
  | zero =>
    intro _ _ _
    rw [f_X0_settle_L54]
    exact q_none
  | succ j ih =>
    intro x4 x7 s0
    rw [f_X0_settle_L54]
    refine g_iload hc dX0_settle_54 rfl (pc2 := 56) rfl ?_
    refine g_rl0 hc dX0_settle_56 rfl (pc2 := 57) rfl ?_
    refine g_getI hc fl_X0_27 rfl hx0 dX0_settle_57 (pc2 := 60) rfl ?_
    refine g_icmp_ge hc dX0_settle_60 (pc1 := 63) (pc2 := 141) rfl rfl (fun _ => ?_) (fun _ => ?_)
    · refine g_iload hc dX0_settle_63 rfl (pc2 := 65) rfl ?_
      refine g_iload hc dX0_settle_65 rfl (pc2 := 67) rfl ?_
      refine g_callSN2 (host := "MuleVote") hc C_X11_isIn mv_X11_isIn (by decide +kernel) ⟨by decide, by decide⟩ (Nat.le_of_ble_eq_true rfl) dX0_settle_67 (pc2 := 70) rfl (fun r9 s8 => ?_)
      refine g_jn (P := fun j97 => ∀ (y10 : Int32) (s11 : q_Sto), q_G w cx 9 (none) 97 [some (q_rf w x0), none, some (.int x2), some (.int x3), some (.int x4), some (.int x5), some (.int x6), some (.int x7), none] [.int y10] s11 (j97 y10 s11)) (fun y10 s11 => ?_) (fun j97 hj97 => ?_)
      · refine g_istore hc dX0_settle_97 (by decide) (L2 := [some (q_rf w x0), none, some (.int x2), some (.int x3), some (.int x4), some (.int x5), some (.int x6), some (.int x7), some (.int y10)]) rfl (pc2 := 99) rfl ?_
        refine g_iload hc dX0_settle_99 rfl (pc2 := 101) rfl ?_
        refine g_if_lt hc dX0_settle_101 (pc1 := 135) (pc2 := 104) rfl rfl (fun _ => ?_) (fun _ => ?_)
        · refine g_iinc hc dX0_settle_135 rfl (q_ii ic_1) (by decide) (L2 := [some (q_rf w x0), none, some (.int x2), some (.int x3), some (.int x4), some (.int x5), some (.int x6), some (.int (x7 + 1)), some (.int y10)]) rfl (pc2 := 138) rfl ?_
          refine g_goto hc dX0_settle_138 (pc2 := 54) rfl ?_
          refine q_Gmask [true, true, true, true, true, true, true, true, false] (L2 := [some (q_rf w x0), none, some (.int x2), some (.int x3), some (.int x4), some (.int x5), some (.int x6), some (.int (x7 + 1)), none]) rfl ?_
          exact ih _ _ _
        · refine g_iload hc dX0_settle_104 rfl (pc2 := 106) rfl ?_
          refine g_iconst hc dX0_settle_106 ic_5 (pc2 := 107) rfl ?_
          refine g_icmp_ge hc dX0_settle_107 (pc1 := 110) (pc2 := 135) rfl rfl (fun _ => ?_) (fun _ => ?_)
          · refine g_rl0 hc dX0_settle_110 rfl (pc2 := 111) rfl ?_
            refine g_getR hc fl_X0_24 rfl hx0 dX0_settle_111 (pc2 := 114) rfl ?_
            refine g_iload hc dX0_settle_114 rfl (pc2 := 116) rfl ?_
            refine g_dup2 hc dX0_settle_116 rfl rfl (pc2 := 117) rfl ?_
            refine g_iald hc (kf_0_4 hx0) (kl_0_4 hx0) dX0_settle_117 (pc2 := 118) rfl (fun v14 => ?_)
            refine g_iconst hc dX0_settle_118 ic_1 (pc2 := 119) rfl ?_
            refine g_iload hc dX0_settle_119 rfl (pc2 := 121) rfl ?_
            refine g_ishl hc dX0_settle_121 (pc2 := 122) rfl ?_
            refine g_ior hc dX0_settle_122 (pc2 := 123) rfl ?_
            refine g_iast hc (kf_0_4 hx0) (kl_0_4 hx0) dX0_settle_123 (pc2 := 124) rfl (fun s15 => ?_)
            refine g_iload hc dX0_settle_124 rfl (pc2 := 126) rfl ?_
            refine g_iconst hc dX0_settle_126 ic_1 (pc2 := 127) rfl ?_
            refine g_iload hc dX0_settle_127 rfl (pc2 := 129) rfl ?_
            refine g_ishl hc dX0_settle_129 (pc2 := 130) rfl ?_
            refine g_iconst hc dX0_settle_130 ic_m1 (pc2 := 131) rfl ?_
            refine g_ixor hc dX0_settle_131 (pc2 := 132) rfl ?_
            refine g_iand hc dX0_settle_132 (pc2 := 133) rfl ?_
            refine g_nm (fun v16 => ?_)
            refine g_istore hc dX0_settle_133 (by decide) (L2 := [some (q_rf w x0), none, some (.int x2), some (.int x3), some (.int v16), some (.int x5), some (.int x6), some (.int x7), some (.int y10)]) rfl (pc2 := 135) rfl ?_
            refine g_iinc hc dX0_settle_135 rfl (q_ii ic_1) (by decide) (L2 := [some (q_rf w x0), none, some (.int x2), some (.int x3), some (.int v16), some (.int x5), some (.int x6), some (.int (x7 + 1)), some (.int y10)]) rfl (pc2 := 138) rfl ?_
            refine g_goto hc dX0_settle_138 (pc2 := 54) rfl ?_
            refine q_Gmask [true, true, true, true, true, true, true, true, false] (L2 := [some (q_rf w x0), none, some (.int x2), some (.int x3), some (.int v16), some (.int x5), some (.int x6), some (.int (x7 + 1)), none]) rfl ?_
            exact ih _ _ _
          · refine g_iinc hc dX0_settle_135 rfl (q_ii ic_1) (by decide) (L2 := [some (q_rf w x0), none, some (.int x2), some (.int x3), some (.int x4), some (.int x5), some (.int x6), some (.int (x7 + 1)), some (.int y10)]) rfl (pc2 := 138) rfl ?_
            refine g_goto hc dX0_settle_138 (pc2 := 54) rfl ?_
            refine q_Gmask [true, true, true, true, true, true, true, true, false] (L2 := [some (q_rf w x0), none, some (.int x2), some (.int x3), some (.int x4), some (.int x5), some (.int x6), some (.int (x7 + 1)), none]) rfl ?_
            exact ih _ _ _
      · refine g_if_eq hc dX0_settle_70 (pc1 := 96) (pc2 := 73) rfl rfl (fun _ => ?_) (fun _ => ?_)
        · refine g_iconst hc dX0_settle_96 ic_m1 (pc2 := 97) rfl ?_
          exact hj97 _ _
        · refine g_rl0 hc dX0_settle_73 rfl (pc2 := 74) rfl ?_
          refine g_iload hc dX0_settle_74 rfl (pc2 := 76) rfl ?_
          refine g_il2 hc dX0_settle_76 rfl (pc2 := 77) rfl ?_
          refine g_iload hc dX0_settle_77 rfl (pc2 := 79) rfl ?_
          refine g_callSN2 (host := "MuleVote") hc C_X11_isIn mv_X11_isIn (by decide +kernel) ⟨by decide, by decide⟩ (Nat.le_of_ble_eq_true rfl) dX0_settle_79 (pc2 := 82) rfl (fun r19 s18 => ?_)
          refine g_jn (P := fun j90 => ∀ (y20 : Int32) (s21 : q_Sto), q_G w cx 9 (none) 90 [some (q_rf w x0), none, some (.int x2), some (.int x3), some (.int x4), some (.int x5), some (.int x6), some (.int x7), none] [.int y20, .int x7, q_rf w x0] s21 (j90 y20 s21)) (fun y20 s21 => ?_) (fun j90 hj90 => ?_)
          · refine g_callV2 hc (C_X0_choose hx0) mv_X0_choose ln_X0_100 hx0 ⟨by decide, by decide⟩ (Nat.le_of_ble_eq_true rfl) dX0_settle_90 (pc2 := 93) rfl (fun r23 s22 => ?_)
            refine g_goto hc dX0_settle_93 (pc2 := 97) rfl ?_
            exact hj97 _ _
          · refine g_if_eq hc dX0_settle_82 (pc1 := 89) (pc2 := 85) rfl rfl (fun _ => ?_) (fun _ => ?_)
            · refine g_iconst hc dX0_settle_89 ic_m1 (pc2 := 90) rfl ?_
              exact hj90 _ _
            · refine g_il3 hc dX0_settle_85 rfl (pc2 := 86) rfl ?_
              refine g_goto hc dX0_settle_86 (pc2 := 90) rfl ?_
              exact hj90 _ _
    · refine q_Gmask [true, true, true, true, true, true, true, false, true] (L2 := [some (q_rf w x0), none, some (.int x2), some (.int x3), some (.int x4), some (.int x5), some (.int x6), none, none]) rfl ?_
      exact hk141 _ _
set_option maxRecDepth 100000 in
set_option maxHeartbeats 4000000 in
theorem t_X0_settle_L33 {w : q_Wd} {cx : q_Cx} (hc : q_ok w cx RX0 cX0_settle 9 (none) (q_rm 2 47)) {n : Nat} {x0 : Nat} {x2 : Int32} {x3 : Int32} (hx0 : q_KD x0 = .inl 0) {k164 : q_Sto → Option (Int32 × q_Sto)} (hk164 : ∀  (s1 : q_Sto), q_G w cx 9 (none) 164 [some (q_rf w x0), none, none, none, none, none, none, none, none] [] s1 (k164 s1)) :
    ∀ (j : Nat) (x4 : Int32) (x5 : Int32) (x6 : Int32) (s0 : q_Sto), q_G w cx 9 (none) 33 [some (q_rf w x0), none, some (.int x2), some (.int x3), some (.int x4), some (.int x5), some (.int x6), none, none] [] s0 (f_X0_settle_L33 n x0 x2 x3 k164 j x4 x5 x6 s0) := by
  intro j
  induction j with
  | zero =>
    intro _ _ _ _
    rw [f_X0_settle_L33]
    exact q_none
  | succ j ih =>
    intro x4 x5 x6 s0
    rw [f_X0_settle_L33]
    refine g_iload hc dX0_settle_33 rfl (pc2 := 35) rfl ?_
    refine g_bipush hc dX0_settle_35 bp_12 (pc2 := 37) rfl ?_
    refine g_icmp_gt hc dX0_settle_37 (pc1 := 40) (pc2 := 164) rfl rfl (fun _ => ?_) (fun _ => ?_)
    · refine g_iload hc dX0_settle_40 rfl (pc2 := 42) rfl ?_
      refine g_iload hc dX0_settle_42 rfl (pc2 := 44) rfl ?_
      refine g_icmp_eq hc dX0_settle_44 (pc1 := 164) (pc2 := 47) rfl rfl (fun _ => ?_) (fun _ => ?_)
      · refine q_Gmask [true, true, false, false, false, false, false, true, true] (L2 := [some (q_rf w x0), none, none, none, none, none, none, none, none]) rfl ?_
        exact hk164 _
      · refine g_iload hc dX0_settle_47 rfl (pc2 := 49) rfl ?_
        refine g_istore hc dX0_settle_49 (by decide) (L2 := [some (q_rf w x0), none, some (.int x2), some (.int x3), some (.int x4), some (.int x4), some (.int x6), none, none]) rfl (pc2 := 51) rfl ?_
        refine g_iconst hc dX0_settle_51 ic_0 (pc2 := 52) rfl ?_
        refine g_istore hc dX0_settle_52 (by decide) (L2 := [some (q_rf w x0), none, some (.int x2), some (.int x3), some (.int x4), some (.int x4), some (.int x6), some (.int 0), none]) rfl (pc2 := 54) rfl ?_
        refine t_X0_settle_L54 hc hx0 (fun y25 s26 => ?_) n _ _ _
        refine g_iload hc dX0_settle_141 rfl (pc2 := 143) rfl ?_
        refine g_iload hc dX0_settle_143 rfl (pc2 := 145) rfl ?_
        refine g_icmp_eq hc dX0_settle_145 (pc1 := 158) (pc2 := 148) rfl rfl (fun _ => ?_) (fun _ => ?_)
        · refine g_iinc hc dX0_settle_158 rfl (q_ii ic_1) (by decide) (L2 := [some (q_rf w x0), none, some (.int x2), some (.int x3), some (.int y25), some (.int x4), some (.int (x6 + 1)), none, none]) rfl (pc2 := 161) rfl ?_
          refine g_goto hc dX0_settle_161 (pc2 := 33) rfl ?_
          exact ih _ _ _ _
        · refine g_rl0 hc dX0_settle_148 rfl (pc2 := 149) rfl ?_
          refine g_dup hc dX0_settle_149 rfl (pc2 := 150) rfl ?_
          refine g_getI hc fl_X0_34 rfl hx0 dX0_settle_150 (pc2 := 153) rfl ?_
          refine g_iconst hc dX0_settle_153 ic_1 (pc2 := 154) rfl ?_
          refine g_iadd hc dX0_settle_154 (pc2 := 155) rfl ?_
          refine g_putI hc fl_X0_34 rfl hx0 dX0_settle_155 (pc2 := 158) rfl (fun s28 => ?_)
          refine g_iinc hc dX0_settle_158 rfl (q_ii ic_1) (by decide) (L2 := [some (q_rf w x0), none, some (.int x2), some (.int x3), some (.int y25), some (.int x4), some (.int (x6 + 1)), none, none]) rfl (pc2 := 161) rfl ?_
          refine g_goto hc dX0_settle_161 (pc2 := 33) rfl ?_
          exact ih _ _ _ _
    · refine q_Gmask [true, true, false, false, false, false, false, true, true] (L2 := [some (q_rf w x0), none, none, none, none, none, none, none, none]) rfl ?_
      exact hk164 _
set_option maxRecDepth 100000 in
set_option maxHeartbeats 4000000 in
theorem C_X0_settle {l : Launch} {w : q_Wd} {n : Nat} {t : Nat} {a0 : Int32} {a1 : Int32} {a2 : Int32} (ht : q_KD t = .inl 0) {s0 : q_Sto} : q_C l w yX0_settle cX0_settle 9 (none) (q_rm 2 47) [q_rf w t, .int a0, .int a1, .int a2] s0 (f_X0_settle n t a0 a1 a2 s0) := q_CofG [some (q_rf w t), some (.int a0), some (.int a1), some (.int a2), none, none, none, none, none] (by decide +kernel) rfl rfl (Nat.le_of_ble_eq_true rfl) fun cx hl hc => by
  have hc : q_ok w cx RX0 cX0_settle 9 (none) (q_rm 2 47) := hc
  rw [f_X0_settle]
  refine g_rl0 hc dX0_settle_0 rfl (pc2 := 1) rfl ?_
  refine g_getR hc fl_X0_24 rfl ht dX0_settle_1 (pc2 := 4) rfl ?_
  refine g_iconst hc dX0_settle_4 ic_0 (pc2 := 5) rfl ?_
  refine g_callS2v hc (C_J7_fill_53178 (kf_0_4 ht) (kl_0_4 ht)) mv_J7_fill_53178 ln_X0_90 ⟨by decide, by decide⟩ (Nat.le_of_ble_eq_true rfl) dX0_settle_5 (pc2 := 8) rfl (fun s1 => ?_)
  refine g_iconst hc dX0_settle_8 ic_1 (pc2 := 9) rfl ?_
  refine g_rl0 hc dX0_settle_9 rfl (pc2 := 10) rfl ?_
  refine g_getI hc fl_X0_27 rfl ht dX0_settle_10 (pc2 := 13) rfl ?_
  refine g_ishl hc dX0_settle_13 (pc2 := 14) rfl ?_
  refine g_iconst hc dX0_settle_14 ic_1 (pc2 := 15) rfl ?_
  refine g_isub hc dX0_settle_15 (pc2 := 16) rfl ?_
  refine g_il1 hc dX0_settle_16 rfl (pc2 := 17) rfl ?_
  refine g_iconst hc dX0_settle_17 ic_m1 (pc2 := 18) rfl ?_
  refine g_ixor hc dX0_settle_18 (pc2 := 19) rfl ?_
  refine g_iand hc dX0_settle_19 (pc2 := 20) rfl ?_
  refine g_nm (fun v3 => ?_)
  refine g_istore hc dX0_settle_20 (by decide) (L2 := [some (q_rf w t), some (.int a0), some (.int a1), some (.int a2), some (.int v3), none, none, none, none]) rfl (pc2 := 22) rfl ?_
  refine g_rl0 hc dX0_settle_22 rfl (pc2 := 23) rfl ?_
  refine g_iconst hc dX0_settle_23 ic_0 (pc2 := 24) rfl ?_
  refine g_putI hc fl_X0_34 rfl ht dX0_settle_24 (pc2 := 27) rfl (fun s4 => ?_)
  refine g_iconst hc dX0_settle_27 ic_m1 (pc2 := 28) rfl ?_
  refine g_istore hc dX0_settle_28 (by decide) (L2 := [some (q_rf w t), some (.int a0), some (.int a1), some (.int a2), some (.int v3), some (.int (-1)), none, none, none]) rfl (pc2 := 30) rfl ?_
  refine g_iconst hc dX0_settle_30 ic_0 (pc2 := 31) rfl ?_
  refine g_istore hc dX0_settle_31 (by decide) (L2 := [some (q_rf w t), some (.int a0), some (.int a1), some (.int a2), some (.int v3), some (.int (-1)), some (.int 0), none, none]) rfl (pc2 := 33) rfl ?_
  refine q_Gmask [true, false, true, true, true, true, true, true, true] (L2 := [some (q_rf w t), none, some (.int a1), some (.int a2), some (.int v3), some (.int (-1)), some (.int 0), none, none]) rfl ?_
  refine t_X0_settle_L33 hc ht (fun s29 => ?_) n _ _ _ _
  refine g_rl0 hc dX0_settle_164 rfl (pc2 := 165) rfl ?_
  refine g_rl0 hc dX0_settle_165 rfl (pc2 := 166) rfl ?_
  refine g_callV0 hc (C_X0_leader ht) mv_X0_leader ln_X0_103 ht ⟨by decide, by decide⟩ (Nat.le_of_ble_eq_true rfl) dX0_settle_166 (pc2 := 169) rfl (fun r31 s30 => ?_)
  refine g_putI hc fl_X0_37 rfl ht dX0_settle_169 (pc2 := 172) rfl (fun s32 => ?_)
  exact g_vret hc dX0_settle_172
set_option maxRecDepth 100000 in
set_option maxHeartbeats 4000000 in
def f_X0_standNow_L97 (n : Nat) (x0 : Nat) (x1 : Nat) (x2 : Nat) (x3 : Int32) (x4 : Int32) (x5 : Int32) (x6 : Int32) (k145 : q_Sto → Option (Int32 × q_Sto)) : Nat → Int32 → q_Sto → Option (Int32 × q_Sto)
  | 0, _, _ => none
  | j + 1, x7, s0 =>
    if x7 ≤ x4 then (
    if x7 < 12 then (
    q_call (f_X10_leanOf n x1 x3 x5 x6 x7 s0) fun r19 s18 =>
    q_st s18 (q_RF x0 2) ((((x3 * 5) + x5) * 12) + x7) 720 r19 fun s20 =>
    f_X0_standNow_L97 n x0 x1 x2 x3 x4 x5 x6 k145 j (x7 + 1) s20)
    else (
    k145 s0))
    else (
    k145 s0)
set_option maxRecDepth 100000 in
set_option maxHeartbeats 4000000 in
def f_X0_standNow_L76 (n : Nat) (x0 : Nat) (x1 : Nat) (x2 : Nat) (x3 : Int32) (x4 : Int32) (k151 : q_Sto → Option (Int32 × q_Sto)) : Nat → Int32 → q_Sto → Option (Int32 × q_Sto)
  | 0, _, _ => none
  | j + 1, x5, s0 =>
    if x5 < (s0 x0 6) then (
    q_call (f_X9_likingFor n x2 x3 x5 s0) fun r15 s14 =>
    f_X0_standNow_L97 n x0 x1 x2 x3 x4 x5 r15 (fun  (s21 : q_Sto) =>
    f_X0_standNow_L76 n x0 x1 x2 x3 x4 k151 j (x5 + 1) s21) n 0 s14)
    else (
    k151 s0)
set_option maxRecDepth 100000 in
set_option maxHeartbeats 4000000 in
def f_X0_standNow_L32 (n : Nat) (x0 : Nat) (x1 : Nat) (x2 : Nat) (k157 : q_Sto → Option (Int32 × q_Sto)) : Nat → Int32 → q_Sto → Option (Int32 × q_Sto)
  | 0, _, _ => none
  | j + 1, x3, s0 =>
    if x3 < (s0 x0 5) then (
    q_call (f_X10_needOf n x1 x3 s0) fun r5 s4 =>
    q_st s4 (q_RF x0 0) x3 12 r5 fun s6 =>
    q_call (f_X10_heededBy n x1 x3 s6) fun r8 s7 =>
    q_st s7 (q_RF x0 1) x3 12 r8 fun s9 =>
    q_ld s9 (q_RF x0 1) x3 12 fun v10 =>
    q_call (f_J6_bitCount_0f7a4 n v10 s9) fun r12 s11 =>
    f_X0_standNow_L76 n x0 x1 x2 x3 r12 (fun  (s22 : q_Sto) =>
    f_X0_standNow_L32 n x0 x1 x2 k157 j (x3 + 1) s22) n 0 s11)
    else (
    k157 s0)
set_option maxRecDepth 100000 in
set_option maxHeartbeats 4000000 in
def f_X0_standNow (n : Nat) (t : Nat) (a0 : Nat) (s0 : q_Sto) : Option (Int32 × q_Sto) :=
  q_nS1 (q_up s0 t 5 (q_mn 12 (s0 (q_RF a0 0) 8))) fun s1 =>
  q_nS1 (q_up s1 t 6 (q_mn 5 (s1 (q_RF a0 0) 9))) fun s2 =>
  f_X0_standNow_L32 n t a0 (q_RF a0 0) (fun  (s23 : q_Sto) =>
  q_call (f_X9_lameOnes n (q_RF a0 0) s23) fun r25 s24 =>
  q_callv (f_X0_settle n t r25 0 (-1) s24) fun s26 =>
  some (0, s26)) n 0 s2
set_option maxRecDepth 100000 in
set_option maxHeartbeats 4000000 in
theorem t_X0_standNow_L97 {w : q_Wd} {cx : q_Cx} (hc : q_ok w cx RX0 cX0_standNow 8 (none) (q_rm 3 78)) {n : Nat} {x0 : Nat} {x1 : Nat} {x2 : Nat} {x3 : Int32} {x4 : Int32} {x5 : Int32} {x6 : Int32} (hx0 : q_KD x0 = .inl 0) (hx1 : q_KD x1 = .inl 10) (hx2 : q_KD x2 = .inl 9) {k145 : q_Sto → Option (Int32 × q_Sto)} (hk145 : ∀  (s1 : q_Sto), q_G w cx 8 (none) 145 [some (q_rf w x0), some (q_rf w x1), some (q_rf w x2), some (.int x3), some (.int x4), some (.int x5), none, none] [] s1 (k145 s1)) :
    ∀ (j : Nat) (x7 : Int32) (s0 : q_Sto), q_G w cx 8 (none) 97 [some (q_rf w x0), some (q_rf w x1), some (q_rf w x2), some (.int x3), some (.int x4), some (.int x5), some (.int x6), some (.int x7)] [] s0 (f_X0_standNow_L97 n x0 x1 x2 x3 x4 x5 x6 k145 j x7 s0) := by
  intro j
  induction j with
  | zero =>
    intro _ _
    rw [f_X0_standNow_L97]
    exact q_none
  | succ j ih =>
    intro x7 s0
    rw [f_X0_standNow_L97]
    refine g_iload hc dX0_standNow_97 rfl (pc2 := 99) rfl ?_
    refine g_iload hc dX0_standNow_99 rfl (pc2 := 101) rfl ?_
    refine g_icmp_gt hc dX0_standNow_101 (pc1 := 104) (pc2 := 145) rfl rfl (fun _ => ?_) (fun _ => ?_)
    · refine g_iload hc dX0_standNow_104 rfl (pc2 := 106) rfl ?_
      refine g_bipush hc dX0_standNow_106 bp_12 (pc2 := 108) rfl ?_
      refine g_icmp_ge hc dX0_standNow_108 (pc1 := 111) (pc2 := 145) rfl rfl (fun _ => ?_) (fun _ => ?_)
      · refine g_rl0 hc dX0_standNow_111 rfl (pc2 := 112) rfl ?_
        refine g_getR hc fl_X0_18 rfl hx0 dX0_standNow_112 (pc2 := 115) rfl ?_
        refine g_il3 hc dX0_standNow_115 rfl (pc2 := 116) rfl ?_
        refine g_iconst hc dX0_standNow_116 ic_5 (pc2 := 117) rfl ?_
        refine g_imul hc dX0_standNow_117 (pc2 := 118) rfl ?_
        refine g_iload hc dX0_standNow_118 rfl (pc2 := 120) rfl ?_
        refine g_iadd hc dX0_standNow_120 (pc2 := 121) rfl ?_
        refine g_bipush hc dX0_standNow_121 bp_12 (pc2 := 123) rfl ?_
        refine g_imul hc dX0_standNow_123 (pc2 := 124) rfl ?_
        refine g_iload hc dX0_standNow_124 rfl (pc2 := 126) rfl ?_
        refine g_iadd hc dX0_standNow_126 (pc2 := 127) rfl ?_
        refine g_rl1 hc dX0_standNow_127 rfl (pc2 := 128) rfl ?_
        refine g_il3 hc dX0_standNow_128 rfl (pc2 := 129) rfl ?_
        refine g_iload hc dX0_standNow_129 rfl (pc2 := 131) rfl ?_
        refine g_iload hc dX0_standNow_131 rfl (pc2 := 133) rfl ?_
        refine g_iload hc dX0_standNow_133 rfl (pc2 := 135) rfl ?_
        refine g_callV4 hc (C_X10_leanOf hx1) mv_X10_leanOf ln_X0_71 hx1 ⟨by decide, by decide⟩ (Nat.le_of_ble_eq_true rfl) dX0_standNow_135 (pc2 := 138) rfl (fun r19 s18 => ?_)
        refine g_iast hc (kf_0_2 hx0) (kl_0_2 hx0) dX0_standNow_138 (pc2 := 139) rfl (fun s20 => ?_)
        refine g_iinc hc dX0_standNow_139 rfl (q_ii ic_1) (by decide) (L2 := [some (q_rf w x0), some (q_rf w x1), some (q_rf w x2), some (.int x3), some (.int x4), some (.int x5), some (.int x6), some (.int (x7 + 1))]) rfl (pc2 := 142) rfl ?_
        refine g_goto hc dX0_standNow_142 (pc2 := 97) rfl ?_
        exact ih _ _
      · refine q_Gmask [true, true, true, true, true, true, false, false] (L2 := [some (q_rf w x0), some (q_rf w x1), some (q_rf w x2), some (.int x3), some (.int x4), some (.int x5), none, none]) rfl ?_
        exact hk145 _
    · refine q_Gmask [true, true, true, true, true, true, false, false] (L2 := [some (q_rf w x0), some (q_rf w x1), some (q_rf w x2), some (.int x3), some (.int x4), some (.int x5), none, none]) rfl ?_
      exact hk145 _
set_option maxRecDepth 100000 in
set_option maxHeartbeats 4000000 in
theorem t_X0_standNow_L76 {w : q_Wd} {cx : q_Cx} (hc : q_ok w cx RX0 cX0_standNow 8 (none) (q_rm 3 78)) {n : Nat} {x0 : Nat} {x1 : Nat} {x2 : Nat} {x3 : Int32} {x4 : Int32} (hx0 : q_KD x0 = .inl 0) (hx1 : q_KD x1 = .inl 10) (hx2 : q_KD x2 = .inl 9) {k151 : q_Sto → Option (Int32 × q_Sto)} (hk151 : ∀  (s1 : q_Sto), q_G w cx 8 (none) 151 [some (q_rf w x0), some (q_rf w x1), some (q_rf w x2), some (.int x3), none, none, none, none] [] s1 (k151 s1)) :
    ∀ (j : Nat) (x5 : Int32) (s0 : q_Sto), q_G w cx 8 (none) 76 [some (q_rf w x0), some (q_rf w x1), some (q_rf w x2), some (.int x3), some (.int x4), some (.int x5), none, none] [] s0 (f_X0_standNow_L76 n x0 x1 x2 x3 x4 k151 j x5 s0) := by
  intro j
  induction j with
  | zero =>
    intro _ _
    rw [f_X0_standNow_L76]
    exact q_none
  | succ j ih =>
    intro x5 s0
    rw [f_X0_standNow_L76]
    refine g_iload hc dX0_standNow_76 rfl (pc2 := 78) rfl ?_
    refine g_rl0 hc dX0_standNow_78 rfl (pc2 := 79) rfl ?_
    refine g_getI hc fl_X0_31 rfl hx0 dX0_standNow_79 (pc2 := 82) rfl ?_
    refine g_icmp_ge hc dX0_standNow_82 (pc1 := 85) (pc2 := 151) rfl rfl (fun _ => ?_) (fun _ => ?_)
    · refine g_rl2 hc dX0_standNow_85 rfl (pc2 := 86) rfl ?_
      refine g_il3 hc dX0_standNow_86 rfl (pc2 := 87) rfl ?_
      refine g_iload hc dX0_standNow_87 rfl (pc2 := 89) rfl ?_
      refine g_callV2 hc (C_X9_likingFor hx2) mv_X9_likingFor ln_X0_68 hx2 ⟨by decide, by decide⟩ (Nat.le_of_ble_eq_true rfl) dX0_standNow_89 (pc2 := 92) rfl (fun r15 s14 => ?_)
      refine g_istore hc dX0_standNow_92 (by decide) (L2 := [some (q_rf w x0), some (q_rf w x1), some (q_rf w x2), some (.int x3), some (.int x4), some (.int x5), some (.int r15), none]) rfl (pc2 := 94) rfl ?_
      refine g_iconst hc dX0_standNow_94 ic_0 (pc2 := 95) rfl ?_
      refine g_istore hc dX0_standNow_95 (by decide) (L2 := [some (q_rf w x0), some (q_rf w x1), some (q_rf w x2), some (.int x3), some (.int x4), some (.int x5), some (.int r15), some (.int 0)]) rfl (pc2 := 97) rfl ?_
      refine t_X0_standNow_L97 hc hx0 hx1 hx2 (fun s21 => ?_) n _ _
      refine g_iinc hc dX0_standNow_145 rfl (q_ii ic_1) (by decide) (L2 := [some (q_rf w x0), some (q_rf w x1), some (q_rf w x2), some (.int x3), some (.int x4), some (.int (x5 + 1)), none, none]) rfl (pc2 := 148) rfl ?_
      refine g_goto hc dX0_standNow_148 (pc2 := 76) rfl ?_
      exact ih _ _
    · refine q_Gmask [true, true, true, true, false, false, true, true] (L2 := [some (q_rf w x0), some (q_rf w x1), some (q_rf w x2), some (.int x3), none, none, none, none]) rfl ?_
      exact hk151 _
set_option maxRecDepth 100000 in
set_option maxHeartbeats 4000000 in
theorem t_X0_standNow_L32 {w : q_Wd} {cx : q_Cx} (hc : q_ok w cx RX0 cX0_standNow 8 (none) (q_rm 3 78)) {n : Nat} {x0 : Nat} {x1 : Nat} {x2 : Nat} (hx0 : q_KD x0 = .inl 0) (hx1 : q_KD x1 = .inl 10) (hx2 : q_KD x2 = .inl 9) {k157 : q_Sto → Option (Int32 × q_Sto)} (hk157 : ∀  (s1 : q_Sto), q_G w cx 8 (none) 157 [some (q_rf w x0), none, some (q_rf w x2), none, none, none, none, none] [] s1 (k157 s1)) :
    ∀ (j : Nat) (x3 : Int32) (s0 : q_Sto), q_G w cx 8 (none) 32 [some (q_rf w x0), some (q_rf w x1), some (q_rf w x2), some (.int x3), none, none, none, none] [] s0 (f_X0_standNow_L32 n x0 x1 x2 k157 j x3 s0) := by
  intro j
  induction j with
  | zero =>
    intro _ _
    rw [f_X0_standNow_L32]
    exact q_none
  | succ j ih =>
    intro x3 s0
    rw [f_X0_standNow_L32]
    refine g_il3 hc dX0_standNow_32 rfl (pc2 := 33) rfl ?_
    refine g_rl0 hc dX0_standNow_33 rfl (pc2 := 34) rfl ?_
    refine g_getI hc fl_X0_27 rfl hx0 dX0_standNow_34 (pc2 := 37) rfl ?_
    refine g_icmp_ge hc dX0_standNow_37 (pc1 := 40) (pc2 := 157) rfl rfl (fun _ => ?_) (fun _ => ?_)
    · refine g_rl0 hc dX0_standNow_40 rfl (pc2 := 41) rfl ?_
      refine g_getR hc fl_X0_9 rfl hx0 dX0_standNow_41 (pc2 := 44) rfl ?_
      refine g_il3 hc dX0_standNow_44 rfl (pc2 := 45) rfl ?_
      refine g_rl1 hc dX0_standNow_45 rfl (pc2 := 46) rfl ?_
      refine g_il3 hc dX0_standNow_46 rfl (pc2 := 47) rfl ?_
      refine g_callV1 hc (C_X10_needOf hx1) mv_X10_needOf ln_X0_56 hx1 ⟨by decide, by decide⟩ (Nat.le_of_ble_eq_true rfl) dX0_standNow_47 (pc2 := 50) rfl (fun r5 s4 => ?_)
      refine g_iast hc (kf_0_0 hx0) (kl_0_0 hx0) dX0_standNow_50 (pc2 := 51) rfl (fun s6 => ?_)
      refine g_rl0 hc dX0_standNow_51 rfl (pc2 := 52) rfl ?_
      refine g_getR hc fl_X0_15 rfl hx0 dX0_standNow_52 (pc2 := 55) rfl ?_
      refine g_il3 hc dX0_standNow_55 rfl (pc2 := 56) rfl ?_
      refine g_rl1 hc dX0_standNow_56 rfl (pc2 := 57) rfl ?_
      refine g_il3 hc dX0_standNow_57 rfl (pc2 := 58) rfl ?_
      refine g_callV1 hc (C_X10_heededBy hx1) mv_X10_heededBy ln_X0_60 hx1 ⟨by decide, by decide⟩ (Nat.le_of_ble_eq_true rfl) dX0_standNow_58 (pc2 := 61) rfl (fun r8 s7 => ?_)
      refine g_iast hc (kf_0_1 hx0) (kl_0_1 hx0) dX0_standNow_61 (pc2 := 62) rfl (fun s9 => ?_)
      refine g_rl0 hc dX0_standNow_62 rfl (pc2 := 63) rfl ?_
      refine g_getR hc fl_X0_15 rfl hx0 dX0_standNow_63 (pc2 := 66) rfl ?_
      refine g_il3 hc dX0_standNow_66 rfl (pc2 := 67) rfl ?_
      refine g_iald hc (kf_0_1 hx0) (kl_0_1 hx0) dX0_standNow_67 (pc2 := 68) rfl (fun v10 => ?_)
      refine g_callS1 hc C_J6_bitCount_0f7a4 mv_J6_bitCount_0f7a4 ln_X0_63 ⟨by decide, by decide⟩ (Nat.le_of_ble_eq_true rfl) dX0_standNow_68 (pc2 := 71) rfl (fun r12 s11 => ?_)
      refine g_istore hc dX0_standNow_71 (by decide) (L2 := [some (q_rf w x0), some (q_rf w x1), some (q_rf w x2), some (.int x3), some (.int r12), none, none, none]) rfl (pc2 := 73) rfl ?_
      refine g_iconst hc dX0_standNow_73 ic_0 (pc2 := 74) rfl ?_
      refine g_istore hc dX0_standNow_74 (by decide) (L2 := [some (q_rf w x0), some (q_rf w x1), some (q_rf w x2), some (.int x3), some (.int r12), some (.int 0), none, none]) rfl (pc2 := 76) rfl ?_
      refine t_X0_standNow_L76 hc hx0 hx1 hx2 (fun s22 => ?_) n _ _
      refine g_iinc hc dX0_standNow_151 rfl (q_ii ic_1) (by decide) (L2 := [some (q_rf w x0), some (q_rf w x1), some (q_rf w x2), some (.int (x3 + 1)), none, none, none, none]) rfl (pc2 := 154) rfl ?_
      refine g_goto hc dX0_standNow_154 (pc2 := 32) rfl ?_
      exact ih _ _
    · refine q_Gmask [true, false, true, false, true, true, true, true] (L2 := [some (q_rf w x0), none, some (q_rf w x2), none, none, none, none, none]) rfl ?_
      exact hk157 _
set_option maxRecDepth 100000 in
set_option maxHeartbeats 4000000 in
theorem C_X0_standNow {l : Launch} {w : q_Wd} {n : Nat} {t : Nat} {a0 : Nat} (ht : q_KD t = .inl 0) (ha0 : q_KD a0 = .inl 10) {s0 : q_Sto} : q_C l w yX0_standNow cX0_standNow 8 (none) (q_rm 3 78) [q_rf w t, q_rf w a0] s0 (f_X0_standNow n t a0 s0) := q_CofG [some (q_rf w t), some (q_rf w a0), none, none, none, none, none, none] (by decide +kernel) rfl rfl (Nat.le_of_ble_eq_true rfl) fun cx hl hc => by
  have hc : q_ok w cx RX0 cX0_standNow 8 (none) (q_rm 3 78) := hc
  rw [f_X0_standNow]
  refine g_rl1 hc dX0_standNow_0 rfl (pc2 := 1) rfl ?_
  refine g_getR hc fl_X0_40 rfl ha0 dX0_standNow_1 (pc2 := 4) rfl ?_
  refine g_rs2 hc dX0_standNow_4 (by decide) (L2 := [some (q_rf w t), some (q_rf w a0), some (q_rf w (q_RF a0 0)), none, none, none, none, none]) rfl (pc2 := 5) rfl ?_
  refine g_rl0 hc dX0_standNow_5 rfl (pc2 := 6) rfl ?_
  refine g_bipush hc dX0_standNow_6 bp_12 (pc2 := 8) rfl ?_
  refine g_rl2 hc dX0_standNow_8 rfl (pc2 := 9) rfl ?_
  refine g_getI hc fl_X0_46 rfl (kf_10_0 ha0) dX0_standNow_9 (pc2 := 12) rfl ?_
  refine g_min hc ln_X0_49 ⟨by decide, by decide⟩ (Nat.le_of_ble_eq_true rfl) dX0_standNow_12 (pc2 := 15) rfl ?_
  refine g_putI hc fl_X0_27 rfl ht dX0_standNow_15 (pc2 := 18) rfl (fun s1 => ?_)
  refine g_rl0 hc dX0_standNow_18 rfl (pc2 := 19) rfl ?_
  refine g_iconst hc dX0_standNow_19 ic_5 (pc2 := 20) rfl ?_
  refine g_rl2 hc dX0_standNow_20 rfl (pc2 := 21) rfl ?_
  refine g_getI hc fl_X0_55 rfl (kf_10_0 ha0) dX0_standNow_21 (pc2 := 24) rfl ?_
  refine g_min hc ln_X0_49 ⟨by decide, by decide⟩ (Nat.le_of_ble_eq_true rfl) dX0_standNow_24 (pc2 := 27) rfl ?_
  refine g_putI hc fl_X0_31 rfl ht dX0_standNow_27 (pc2 := 30) rfl (fun s2 => ?_)
  refine g_iconst hc dX0_standNow_30 ic_0 (pc2 := 31) rfl ?_
  refine g_is3 hc dX0_standNow_31 (by decide) (L2 := [some (q_rf w t), some (q_rf w a0), some (q_rf w (q_RF a0 0)), some (.int 0), none, none, none, none]) rfl (pc2 := 32) rfl ?_
  refine t_X0_standNow_L32 hc ht ha0 (kf_10_0 ha0) (fun s23 => ?_) n _ _
  refine g_rl0 hc dX0_standNow_157 rfl (pc2 := 158) rfl ?_
  refine g_rl2 hc dX0_standNow_158 rfl (pc2 := 159) rfl ?_
  refine g_callV0 hc (C_X9_lameOnes (kf_10_0 ha0)) mv_X9_lameOnes ln_X0_75 (kf_10_0 ha0) ⟨by decide, by decide⟩ (Nat.le_of_ble_eq_true rfl) dX0_standNow_159 (pc2 := 162) rfl (fun r25 s24 => ?_)
  refine g_iconst hc dX0_standNow_162 ic_0 (pc2 := 163) rfl ?_
  refine g_iconst hc dX0_standNow_163 ic_m1 (pc2 := 164) rfl ?_
  refine g_callV3v hc (C_X0_settle ht) mv_X0_settle ln_X0_79 ht ⟨by decide, by decide⟩ (Nat.le_of_ble_eq_true rfl) dX0_standNow_164 (pc2 := 167) rfl (fun s26 => ?_)
  exact g_vret hc dX0_standNow_167
set_option maxRecDepth 100000 in
set_option maxHeartbeats 4000000 in
def f_X0_choiceOf_L2 (n : Nat) (x0 : Nat) (x1 : Int32) : Nat → Int32 → q_Sto → Option (Int32 × q_Sto)
  | 0, _, _ => none
  | j + 1, x2, s0 =>
    if x2 < (s0 x0 6) then (
    if x2 < 5 then (
    q_ld s0 (q_RF x0 4) x2 5 fun v3 =>
    q_call (f_X11_isIn n v3 x1 s0) fun r5 s4 =>
    if r5 = 0 then (
    f_X0_choiceOf_L2 n x0 x1  j (x2 + 1) s4)
    else (
    some (x2, s4)))
    else (
    some ((-1), s0)))
    else (
    some ((-1), s0))
set_option maxRecDepth 100000 in
set_option maxHeartbeats 4000000 in
def f_X0_choiceOf (n : Nat) (t : Nat) (a0 : Int32) (s0 : q_Sto) : Option (Int32 × q_Sto) :=
  f_X0_choiceOf_L2 n t a0  n 0 s0
set_option maxRecDepth 100000 in
set_option maxHeartbeats 4000000 in
theorem t_X0_choiceOf_L2 {w : q_Wd} {cx : q_Cx} (hc : q_ok w cx RX0 cX0_choiceOf 3 (some .int) (q_rm 1 21)) {n : Nat} {x0 : Nat} {x1 : Int32} (hx0 : q_KD x0 = .inl 0)   :
    ∀ (j : Nat) (x2 : Int32) (s0 : q_Sto), q_G w cx 3 (some .int) 2 [some (q_rf w x0), some (.int x1), some (.int x2)] [] s0 (f_X0_choiceOf_L2 n x0 x1  j x2 s0) := by
  intro j
  induction j with
  | zero =>
    intro _ _
    rw [f_X0_choiceOf_L2]
    exact q_none
  | succ j ih =>
    intro x2 s0
    rw [f_X0_choiceOf_L2]
    refine g_il2 hc dX0_choiceOf_2 rfl (pc2 := 3) rfl ?_
    refine g_rl0 hc dX0_choiceOf_3 rfl (pc2 := 4) rfl ?_
    refine g_getI hc fl_X0_31 rfl hx0 dX0_choiceOf_4 (pc2 := 7) rfl ?_
    refine g_icmp_ge hc dX0_choiceOf_7 (pc1 := 10) (pc2 := 36) rfl rfl (fun _ => ?_) (fun _ => ?_)
    · refine g_il2 hc dX0_choiceOf_10 rfl (pc2 := 11) rfl ?_
      refine g_iconst hc dX0_choiceOf_11 ic_5 (pc2 := 12) rfl ?_
      refine g_icmp_ge hc dX0_choiceOf_12 (pc1 := 15) (pc2 := 36) rfl rfl (fun _ => ?_) (fun _ => ?_)
      · refine g_rl0 hc dX0_choiceOf_15 rfl (pc2 := 16) rfl ?_
        refine g_getR hc fl_X0_24 rfl hx0 dX0_choiceOf_16 (pc2 := 19) rfl ?_
        refine g_il2 hc dX0_choiceOf_19 rfl (pc2 := 20) rfl ?_
        refine g_iald hc (kf_0_4 hx0) (kl_0_4 hx0) dX0_choiceOf_20 (pc2 := 21) rfl (fun v3 => ?_)
        refine g_il1 hc dX0_choiceOf_21 rfl (pc2 := 22) rfl ?_
        refine g_callSN2 (host := "MuleVote") hc C_X11_isIn mv_X11_isIn (by decide +kernel) ⟨by decide, by decide⟩ (Nat.le_of_ble_eq_true rfl) dX0_choiceOf_22 (pc2 := 25) rfl (fun r5 s4 => ?_)
        refine g_if_eq hc dX0_choiceOf_25 (pc1 := 30) (pc2 := 28) rfl rfl (fun _ => ?_) (fun _ => ?_)
        · refine g_iinc hc dX0_choiceOf_30 rfl (q_ii ic_1) (by decide) (L2 := [some (q_rf w x0), some (.int x1), some (.int (x2 + 1))]) rfl (pc2 := 33) rfl ?_
          refine g_goto hc dX0_choiceOf_33 (pc2 := 2) rfl ?_
          exact ih _ _
        · refine g_il2 hc dX0_choiceOf_28 rfl (pc2 := 29) rfl ?_
          exact g_iret hc dX0_choiceOf_29
      · refine g_iconst hc dX0_choiceOf_36 ic_m1 (pc2 := 37) rfl ?_
        exact g_iret hc dX0_choiceOf_37
    · refine g_iconst hc dX0_choiceOf_36 ic_m1 (pc2 := 37) rfl ?_
      exact g_iret hc dX0_choiceOf_37
set_option maxRecDepth 100000 in
set_option maxHeartbeats 4000000 in
theorem C_X0_choiceOf {l : Launch} {w : q_Wd} {n : Nat} {t : Nat} {a0 : Int32} (ht : q_KD t = .inl 0) {s0 : q_Sto} : q_C l w yX0_choiceOf cX0_choiceOf 3 (some .int) (q_rm 1 21) [q_rf w t, .int a0] s0 (f_X0_choiceOf n t a0 s0) := q_CofG [some (q_rf w t), some (.int a0), none] (by decide +kernel) rfl rfl (Nat.le_of_ble_eq_true rfl) fun cx hl hc => by
  have hc : q_ok w cx RX0 cX0_choiceOf 3 (some .int) (q_rm 1 21) := hc
  rw [f_X0_choiceOf]
  refine g_iconst hc dX0_choiceOf_0 ic_0 (pc2 := 1) rfl ?_
  refine g_is2 hc dX0_choiceOf_1 (by decide) (L2 := [some (q_rf w t), some (.int a0), some (.int 0)]) rfl (pc2 := 2) rfl ?_
  refine t_X0_choiceOf_L2 hc ht  n _ _
set_option maxRecDepth 100000 in
set_option maxHeartbeats 4000000 in
def f_X1_forget (n : Nat) (t : Nat) (s0 : q_Sto) : Option (Int32 × q_Sto) :=
  q_nS1 (q_up s0 t 1 0) fun s1 =>
  some (0, s1)
set_option maxRecDepth 100000 in
set_option maxHeartbeats 4000000 in
theorem C_X1_forget {l : Launch} {w : q_Wd} {n : Nat} {t : Nat} (ht : q_KD t = .inl 1) {s0 : q_Sto} : q_C l w yX1_forget cX1_forget 1 (none) (q_rm 0 0) [q_rf w t] s0 (f_X1_forget n t s0) := q_CofG [some (q_rf w t)] (by decide +kernel) rfl rfl (Nat.le_of_ble_eq_true rfl) fun cx hl hc => by
  have hc : q_ok w cx RX1 cX1_forget 1 (none) (q_rm 0 0) := hc
  rw [f_X1_forget]
  refine g_rl0 hc dX1_forget_0 rfl (pc2 := 1) rfl ?_
  refine g_iconst hc dX1_forget_1 ic_0 (pc2 := 2) rfl ?_
  refine g_putI hc fl_X1_17 rfl ht dX1_forget_2 (pc2 := 5) rfl (fun s1 => ?_)
  exact g_vret hc dX1_forget_5
set_option maxRecDepth 100000 in
set_option maxHeartbeats 4000000 in
def f_X1_dropOldest_L9 (n : Nat) (x0 : Nat) (x1 : Nat) (k35 : q_Sto → Option (Int32 × q_Sto)) : Nat → Int32 → q_Sto → Option (Int32 × q_Sto)
  | 0, _, _ => none
  | j + 1, x2, s0 =>
    if x2 < 6 then (
    q_ldr s0 (q_RF x0 0) x2 6 fun o3 => q_if o3 9 <|
    q_st s0 (q_RF x0 0) (x2 - 1) 6 (Int32.ofNat o3) fun s4 =>
    f_X1_dropOldest_L9 n x0 x1 k35 j (x2 + 1) s4)
    else (
    k35 s0)
set_option maxRecDepth 100000 in
set_option maxHeartbeats 4000000 in
def f_X1_dropOldest (n : Nat) (t : Nat) (s0 : q_Sto) : Option (Int32 × q_Sto) :=
  q_ldr s0 (q_RF t 0) 0 6 fun o1 => q_if o1 9 <|
  f_X1_dropOldest_L9 n t o1 (fun  (s5 : q_Sto) =>
  q_st s5 (q_RF t 0) 5 6 (Int32.ofNat o1) fun s6 =>
  q_nS1 (q_up s6 t 1 5) fun s7 =>
  some (0, s7)) n 1 s0
set_option maxRecDepth 100000 in
set_option maxHeartbeats 4000000 in
theorem t_X1_dropOldest_L9 {w : q_Wd} {cx : q_Cx} (hc : q_ok w cx RX1 cX1_dropOldest 3 (none) (q_rm 0 0)) {n : Nat} {x0 : Nat} {x1 : Nat} (hx0 : q_KD x0 = .inl 1) (hx1 : q_KD x1 = .inl 9) {k35 : q_Sto → Option (Int32 × q_Sto)} (hk35 : ∀  (s1 : q_Sto), q_G w cx 3 (none) 35 [some (q_rf w x0), some (q_rf w x1), none] [] s1 (k35 s1)) :
    ∀ (j : Nat) (x2 : Int32) (s0 : q_Sto), q_G w cx 3 (none) 9 [some (q_rf w x0), some (q_rf w x1), some (.int x2)] [] s0 (f_X1_dropOldest_L9 n x0 x1 k35 j x2 s0) := by
  intro j
  induction j with
  | zero =>
    intro _ _
    rw [f_X1_dropOldest_L9]
    exact q_none
  | succ j ih =>
    intro x2 s0
    rw [f_X1_dropOldest_L9]
    refine g_il2 hc dX1_dropOldest_9 rfl (pc2 := 10) rfl ?_
    refine g_bipush hc dX1_dropOldest_10 bp_6 (pc2 := 12) rfl ?_
    refine g_icmp_ge hc dX1_dropOldest_12 (pc1 := 15) (pc2 := 35) rfl rfl (fun _ => ?_) (fun _ => ?_)
    · refine g_rl0 hc dX1_dropOldest_15 rfl (pc2 := 16) rfl ?_
      refine g_getR hc fl_X1_11 rfl hx0 dX1_dropOldest_16 (pc2 := 19) rfl ?_
      refine g_il2 hc dX1_dropOldest_19 rfl (pc2 := 20) rfl ?_
      refine g_iconst hc dX1_dropOldest_20 ic_1 (pc2 := 21) rfl ?_
      refine g_isub hc dX1_dropOldest_21 (pc2 := 22) rfl ?_
      refine g_rl0 hc dX1_dropOldest_22 rfl (pc2 := 23) rfl ?_
      refine g_getR hc fl_X1_11 rfl hx0 dX1_dropOldest_23 (pc2 := 26) rfl ?_
      refine g_il2 hc dX1_dropOldest_26 rfl (pc2 := 27) rfl ?_
      refine g_aald hc (kf_1_0 hx0) (kl_1_0 hx0) dX1_dropOldest_27 (pc2 := 28) rfl (fun o3 => ?_)
      refine g_if (fun ho3 => ?_)
      refine g_aast hc (kf_1_0 hx0) (kl_1_0 hx0) ho3 dX1_dropOldest_28 (pc2 := 29) rfl (fun s4 => ?_)
      refine g_iinc hc dX1_dropOldest_29 rfl (q_ii ic_1) (by decide) (L2 := [some (q_rf w x0), some (q_rf w x1), some (.int (x2 + 1))]) rfl (pc2 := 32) rfl ?_
      refine g_goto hc dX1_dropOldest_32 (pc2 := 9) rfl ?_
      exact ih _ _
    · refine q_Gmask [true, true, false] (L2 := [some (q_rf w x0), some (q_rf w x1), none]) rfl ?_
      exact hk35 _
set_option maxRecDepth 100000 in
set_option maxHeartbeats 4000000 in
theorem C_X1_dropOldest {l : Launch} {w : q_Wd} {n : Nat} {t : Nat} (ht : q_KD t = .inl 1) {s0 : q_Sto} : q_C l w yX1_dropOldest cX1_dropOldest 3 (none) (q_rm 0 0) [q_rf w t] s0 (f_X1_dropOldest n t s0) := q_CofG [some (q_rf w t), none, none] (by decide +kernel) rfl rfl (Nat.le_of_ble_eq_true rfl) fun cx hl hc => by
  have hc : q_ok w cx RX1 cX1_dropOldest 3 (none) (q_rm 0 0) := hc
  rw [f_X1_dropOldest]
  refine g_rl0 hc dX1_dropOldest_0 rfl (pc2 := 1) rfl ?_
  refine g_getR hc fl_X1_11 rfl ht dX1_dropOldest_1 (pc2 := 4) rfl ?_
  refine g_iconst hc dX1_dropOldest_4 ic_0 (pc2 := 5) rfl ?_
  refine g_aald hc (kf_1_0 ht) (kl_1_0 ht) dX1_dropOldest_5 (pc2 := 6) rfl (fun o1 => ?_)
  refine g_if (fun ho1 => ?_)
  refine g_rs1 hc dX1_dropOldest_6 (by decide) (L2 := [some (q_rf w t), some (q_rf w o1), none]) rfl (pc2 := 7) rfl ?_
  refine g_iconst hc dX1_dropOldest_7 ic_1 (pc2 := 8) rfl ?_
  refine g_is2 hc dX1_dropOldest_8 (by decide) (L2 := [some (q_rf w t), some (q_rf w o1), some (.int 1)]) rfl (pc2 := 9) rfl ?_
  refine t_X1_dropOldest_L9 hc ht ho1 (fun s5 => ?_) n _ _
  refine g_rl0 hc dX1_dropOldest_35 rfl (pc2 := 36) rfl ?_
  refine g_getR hc fl_X1_11 rfl ht dX1_dropOldest_36 (pc2 := 39) rfl ?_
  refine g_iconst hc dX1_dropOldest_39 ic_5 (pc2 := 40) rfl ?_
  refine g_rl1 hc dX1_dropOldest_40 rfl (pc2 := 41) rfl ?_
  refine g_aast hc (kf_1_0 ht) (kl_1_0 ht) ho1 dX1_dropOldest_41 (pc2 := 42) rfl (fun s6 => ?_)
  refine g_rl0 hc dX1_dropOldest_42 rfl (pc2 := 43) rfl ?_
  refine g_iconst hc dX1_dropOldest_43 ic_5 (pc2 := 44) rfl ?_
  refine g_putI hc fl_X1_17 rfl ht dX1_dropOldest_44 (pc2 := 47) rfl (fun s7 => ?_)
  exact g_vret hc dX1_dropOldest_47
set_option maxRecDepth 100000 in
set_option maxHeartbeats 4000000 in
def f_X11_copyRow (n : Nat) (a0 : Nat) (n0 : Nat) (a1 : Nat) (n1 : Nat) (s0 : q_Sto) : Option (Int32 × q_Sto) :=
  q_cp s0 a0 a1 (q_mn (Int32.ofNat n0) (Int32.ofNat n1)) n0 n1 fun s1 =>
  some (0, s1)
set_option maxRecDepth 100000 in
set_option maxHeartbeats 4000000 in
theorem C_X11_copyRow {l : Launch} {w : q_Wd} {n : Nat} {a0 : Nat} {n0 : Nat} {a1 : Nat} {n1 : Nat} (ha0 : q_KD a0 = .inr (n0, false)) (la0 : a0 < q_N0) (ha1 : q_KD a1 = .inr (n1, false)) (la1 : a1 < q_N0) {s0 : q_Sto} : q_C l w yX11_copyRow cX11_copyRow 2 (none) (q_rm 1 80) [q_rf w a0, q_rf w a1] s0 (f_X11_copyRow n a0 n0 a1 n1 s0) := q_CofG [some (q_rf w a0), some (q_rf w a1)] (by decide +kernel) rfl rfl (Nat.le_of_ble_eq_true rfl) fun cx hl hc => by
  have hc : q_ok w cx RX11 cX11_copyRow 2 (none) (q_rm 1 80) := hc
  rw [f_X11_copyRow]
  refine g_rl0 hc dX11_copyRow_0 rfl (pc2 := 1) rfl ?_
  refine g_iconst hc dX11_copyRow_1 ic_0 (pc2 := 2) rfl ?_
  refine g_rl1 hc dX11_copyRow_2 rfl (pc2 := 3) rfl ?_
  refine g_iconst hc dX11_copyRow_3 ic_0 (pc2 := 4) rfl ?_
  refine g_rl0 hc dX11_copyRow_4 rfl (pc2 := 5) rfl ?_
  refine g_alen hc ha0 la0 dX11_copyRow_5 (pc2 := 6) rfl ?_
  refine g_rl1 hc dX11_copyRow_6 rfl (pc2 := 7) rfl ?_
  refine g_alen hc ha1 la1 dX11_copyRow_7 (pc2 := 8) rfl ?_
  refine g_min hc ln_X11_383 ⟨by decide, by decide⟩ (Nat.le_of_ble_eq_true rfl) dX11_copyRow_8 (pc2 := 11) rfl ?_
  refine g_copy hc (q_w_copy ln_X11_388) ha0 la0 ha1 la1 ⟨by decide, by decide +kernel⟩ (Nat.le_of_ble_eq_true rfl) dX11_copyRow_11 (pc2 := 14) rfl (fun s1 => ?_)
  exact g_vret hc dX11_copyRow_14
set_option maxRecDepth 100000 in
set_option maxHeartbeats 4000000 in
def f_X9_copyFrom (n : Nat) (t : Nat) (a0 : Nat) (s0 : q_Sto) : Option (Int32 × q_Sto) :=
  q_callv (f_X11_copyRow n (q_RF a0 0) 12 (q_RF t 0) 12 s0) fun s1 =>
  q_callv (f_X11_copyRow n (q_RF a0 1) 12 (q_RF t 1) 12 s1) fun s3 =>
  q_callv (f_X11_copyRow n (q_RF a0 2) 12 (q_RF t 2) 12 s3) fun s5 =>
  q_callv (f_X11_copyRow n (q_RF a0 3) 12 (q_RF t 3) 12 s5) fun s7 =>
  q_callv (f_X11_copyRow n (q_RF a0 4) 5 (q_RF t 4) 5 s7) fun s9 =>
  q_callv (f_X11_copyRow n (q_RF a0 5) 5 (q_RF t 5) 5 s9) fun s11 =>
  q_callv (f_X11_copyRow n (q_RF a0 6) 5 (q_RF t 6) 5 s11) fun s13 =>
  q_callv (f_X11_copyRow n (q_RF a0 7) 60 (q_RF t 7) 60 s13) fun s15 =>
  q_nS1 (q_up s15 t 8 (s15 a0 8)) fun s17 =>
  q_nS1 (q_up s17 t 9 (s17 a0 9)) fun s18 =>
  q_nS1 (q_up s18 t 10 (s18 a0 10)) fun s19 =>
  q_nS1 (q_up s19 t 11 (s19 a0 11)) fun s20 =>
  q_nS1 (q_up s20 t 12 (s20 a0 12)) fun s21 =>
  q_nS1 (q_up s21 t 13 (s21 a0 13)) fun s22 =>
  q_nS1 (q_up s22 t 14 (s22 a0 14)) fun s23 =>
  q_nS1 (q_up s23 t 15 (s23 a0 15)) fun s24 =>
  q_nS1 (q_up s24 t 16 (s24 a0 16)) fun s25 =>
  q_nS1 (q_up s25 t 17 (s25 a0 17)) fun s26 =>
  some (0, s26)
set_option maxRecDepth 100000 in
set_option maxHeartbeats 4000000 in
theorem C_X9_copyFrom {l : Launch} {w : q_Wd} {n : Nat} {t : Nat} {a0 : Nat} (ht : q_KD t = .inl 9) (ha0 : q_KD a0 = .inl 9) {s0 : q_Sto} : q_C l w yX9_copyFrom cX9_copyFrom 2 (none) (q_rm 2 101) [q_rf w t, q_rf w a0] s0 (f_X9_copyFrom n t a0 s0) := q_CofG [some (q_rf w t), some (q_rf w a0)] (by decide +kernel) rfl rfl (Nat.le_of_ble_eq_true rfl) fun cx hl hc => by
  have hc : q_ok w cx RX9 cX9_copyFrom 2 (none) (q_rm 2 101) := hc
  rw [f_X9_copyFrom]
  refine g_rl1 hc dX9_copyFrom_0 rfl (pc2 := 1) rfl ?_
  refine g_getR hc fl_X9_9 rfl ha0 dX9_copyFrom_1 (pc2 := 4) rfl ?_
  refine g_rl0 hc dX9_copyFrom_4 rfl (pc2 := 5) rfl ?_
  refine g_getR hc fl_X9_9 rfl ht dX9_copyFrom_5 (pc2 := 8) rfl ?_
  refine g_callSN2v (host := "MuleVote") hc (C_X11_copyRow (kf_9_0 ha0) (kl_9_0 ha0) (kf_9_0 ht) (kl_9_0 ht)) mv_X11_copyRow (by decide +kernel) ⟨by decide, by decide⟩ (Nat.le_of_ble_eq_true rfl) dX9_copyFrom_8 (pc2 := 11) rfl (fun s1 => ?_)
  refine g_rl1 hc dX9_copyFrom_11 rfl (pc2 := 12) rfl ?_
  refine g_getR hc fl_X9_15 rfl ha0 dX9_copyFrom_12 (pc2 := 15) rfl ?_
  refine g_rl0 hc dX9_copyFrom_15 rfl (pc2 := 16) rfl ?_
  refine g_getR hc fl_X9_15 rfl ht dX9_copyFrom_16 (pc2 := 19) rfl ?_
  refine g_callSN2v (host := "MuleVote") hc (C_X11_copyRow (kf_9_1 ha0) (kl_9_1 ha0) (kf_9_1 ht) (kl_9_1 ht)) mv_X11_copyRow (by decide +kernel) ⟨by decide, by decide⟩ (Nat.le_of_ble_eq_true rfl) dX9_copyFrom_19 (pc2 := 22) rfl (fun s3 => ?_)
  refine g_rl1 hc dX9_copyFrom_22 rfl (pc2 := 23) rfl ?_
  refine g_getR hc fl_X9_18 rfl ha0 dX9_copyFrom_23 (pc2 := 26) rfl ?_
  refine g_rl0 hc dX9_copyFrom_26 rfl (pc2 := 27) rfl ?_
  refine g_getR hc fl_X9_18 rfl ht dX9_copyFrom_27 (pc2 := 30) rfl ?_
  refine g_callSN2v (host := "MuleVote") hc (C_X11_copyRow (kf_9_2 ha0) (kl_9_2 ha0) (kf_9_2 ht) (kl_9_2 ht)) mv_X11_copyRow (by decide +kernel) ⟨by decide, by decide⟩ (Nat.le_of_ble_eq_true rfl) dX9_copyFrom_30 (pc2 := 33) rfl (fun s5 => ?_)
  refine g_rl1 hc dX9_copyFrom_33 rfl (pc2 := 34) rfl ?_
  refine g_getR hc fl_X9_21 rfl ha0 dX9_copyFrom_34 (pc2 := 37) rfl ?_
  refine g_rl0 hc dX9_copyFrom_37 rfl (pc2 := 38) rfl ?_
  refine g_getR hc fl_X9_21 rfl ht dX9_copyFrom_38 (pc2 := 41) rfl ?_
  refine g_callSN2v (host := "MuleVote") hc (C_X11_copyRow (kf_9_3 ha0) (kl_9_3 ha0) (kf_9_3 ht) (kl_9_3 ht)) mv_X11_copyRow (by decide +kernel) ⟨by decide, by decide⟩ (Nat.le_of_ble_eq_true rfl) dX9_copyFrom_41 (pc2 := 44) rfl (fun s7 => ?_)
  refine g_rl1 hc dX9_copyFrom_44 rfl (pc2 := 45) rfl ?_
  refine g_getR hc fl_X9_24 rfl ha0 dX9_copyFrom_45 (pc2 := 48) rfl ?_
  refine g_rl0 hc dX9_copyFrom_48 rfl (pc2 := 49) rfl ?_
  refine g_getR hc fl_X9_24 rfl ht dX9_copyFrom_49 (pc2 := 52) rfl ?_
  refine g_callSN2v (host := "MuleVote") hc (C_X11_copyRow (kf_9_4 ha0) (kl_9_4 ha0) (kf_9_4 ht) (kl_9_4 ht)) mv_X11_copyRow (by decide +kernel) ⟨by decide, by decide⟩ (Nat.le_of_ble_eq_true rfl) dX9_copyFrom_52 (pc2 := 55) rfl (fun s9 => ?_)
  refine g_rl1 hc dX9_copyFrom_55 rfl (pc2 := 56) rfl ?_
  refine g_getR hc fl_X9_27 rfl ha0 dX9_copyFrom_56 (pc2 := 59) rfl ?_
  refine g_rl0 hc dX9_copyFrom_59 rfl (pc2 := 60) rfl ?_
  refine g_getR hc fl_X9_27 rfl ht dX9_copyFrom_60 (pc2 := 63) rfl ?_
  refine g_callSN2v (host := "MuleVote") hc (C_X11_copyRow (kf_9_5 ha0) (kl_9_5 ha0) (kf_9_5 ht) (kl_9_5 ht)) mv_X11_copyRow (by decide +kernel) ⟨by decide, by decide⟩ (Nat.le_of_ble_eq_true rfl) dX9_copyFrom_63 (pc2 := 66) rfl (fun s11 => ?_)
  refine g_rl1 hc dX9_copyFrom_66 rfl (pc2 := 67) rfl ?_
  refine g_getR hc fl_X9_30 rfl ha0 dX9_copyFrom_67 (pc2 := 70) rfl ?_
  refine g_rl0 hc dX9_copyFrom_70 rfl (pc2 := 71) rfl ?_
  refine g_getR hc fl_X9_30 rfl ht dX9_copyFrom_71 (pc2 := 74) rfl ?_
  refine g_callSN2v (host := "MuleVote") hc (C_X11_copyRow (kf_9_6 ha0) (kl_9_6 ha0) (kf_9_6 ht) (kl_9_6 ht)) mv_X11_copyRow (by decide +kernel) ⟨by decide, by decide⟩ (Nat.le_of_ble_eq_true rfl) dX9_copyFrom_74 (pc2 := 77) rfl (fun s13 => ?_)
  refine g_rl1 hc dX9_copyFrom_77 rfl (pc2 := 78) rfl ?_
  refine g_getR hc fl_X9_33 rfl ha0 dX9_copyFrom_78 (pc2 := 81) rfl ?_
  refine g_rl0 hc dX9_copyFrom_81 rfl (pc2 := 82) rfl ?_
  refine g_getR hc fl_X9_33 rfl ht dX9_copyFrom_82 (pc2 := 85) rfl ?_
  refine g_callSN2v (host := "MuleVote") hc (C_X11_copyRow (kf_9_7 ha0) (kl_9_7 ha0) (kf_9_7 ht) (kl_9_7 ht)) mv_X11_copyRow (by decide +kernel) ⟨by decide, by decide⟩ (Nat.le_of_ble_eq_true rfl) dX9_copyFrom_85 (pc2 := 88) rfl (fun s15 => ?_)
  refine g_rl0 hc dX9_copyFrom_88 rfl (pc2 := 89) rfl ?_
  refine g_rl1 hc dX9_copyFrom_89 rfl (pc2 := 90) rfl ?_
  refine g_getI hc fl_X9_36 rfl ha0 dX9_copyFrom_90 (pc2 := 93) rfl ?_
  refine g_putI hc fl_X9_36 rfl ht dX9_copyFrom_93 (pc2 := 96) rfl (fun s17 => ?_)
  refine g_rl0 hc dX9_copyFrom_96 rfl (pc2 := 97) rfl ?_
  refine g_rl1 hc dX9_copyFrom_97 rfl (pc2 := 98) rfl ?_
  refine g_getI hc fl_X9_40 rfl ha0 dX9_copyFrom_98 (pc2 := 101) rfl ?_
  refine g_putI hc fl_X9_40 rfl ht dX9_copyFrom_101 (pc2 := 104) rfl (fun s18 => ?_)
  refine g_rl0 hc dX9_copyFrom_104 rfl (pc2 := 105) rfl ?_
  refine g_rl1 hc dX9_copyFrom_105 rfl (pc2 := 106) rfl ?_
  refine g_getI hc fl_X9_43 rfl ha0 dX9_copyFrom_106 (pc2 := 109) rfl ?_
  refine g_putI hc fl_X9_43 rfl ht dX9_copyFrom_109 (pc2 := 112) rfl (fun s19 => ?_)
  refine g_rl0 hc dX9_copyFrom_112 rfl (pc2 := 113) rfl ?_
  refine g_rl1 hc dX9_copyFrom_113 rfl (pc2 := 114) rfl ?_
  refine g_getI hc fl_X9_46 rfl ha0 dX9_copyFrom_114 (pc2 := 117) rfl ?_
  refine g_putI hc fl_X9_46 rfl ht dX9_copyFrom_117 (pc2 := 120) rfl (fun s20 => ?_)
  refine g_rl0 hc dX9_copyFrom_120 rfl (pc2 := 121) rfl ?_
  refine g_rl1 hc dX9_copyFrom_121 rfl (pc2 := 122) rfl ?_
  refine g_getI hc fl_X9_49 rfl ha0 dX9_copyFrom_122 (pc2 := 125) rfl ?_
  refine g_putI hc fl_X9_49 rfl ht dX9_copyFrom_125 (pc2 := 128) rfl (fun s21 => ?_)
  refine g_rl0 hc dX9_copyFrom_128 rfl (pc2 := 129) rfl ?_
  refine g_rl1 hc dX9_copyFrom_129 rfl (pc2 := 130) rfl ?_
  refine g_getI hc fl_X9_52 rfl ha0 dX9_copyFrom_130 (pc2 := 133) rfl ?_
  refine g_putI hc fl_X9_52 rfl ht dX9_copyFrom_133 (pc2 := 136) rfl (fun s22 => ?_)
  refine g_rl0 hc dX9_copyFrom_136 rfl (pc2 := 137) rfl ?_
  refine g_rl1 hc dX9_copyFrom_137 rfl (pc2 := 138) rfl ?_
  refine g_getI hc fl_X9_55 rfl ha0 dX9_copyFrom_138 (pc2 := 141) rfl ?_
  refine g_putI hc fl_X9_55 rfl ht dX9_copyFrom_141 (pc2 := 144) rfl (fun s23 => ?_)
  refine g_rl0 hc dX9_copyFrom_144 rfl (pc2 := 145) rfl ?_
  refine g_rl1 hc dX9_copyFrom_145 rfl (pc2 := 146) rfl ?_
  refine g_getI hc fl_X9_58 rfl ha0 dX9_copyFrom_146 (pc2 := 149) rfl ?_
  refine g_putI hc fl_X9_58 rfl ht dX9_copyFrom_149 (pc2 := 152) rfl (fun s24 => ?_)
  refine g_rl0 hc dX9_copyFrom_152 rfl (pc2 := 153) rfl ?_
  refine g_rl1 hc dX9_copyFrom_153 rfl (pc2 := 154) rfl ?_
  refine g_getI hc fl_X9_61 rfl ha0 dX9_copyFrom_154 (pc2 := 157) rfl ?_
  refine g_putI hc fl_X9_61 rfl ht dX9_copyFrom_157 (pc2 := 160) rfl (fun s25 => ?_)
  refine g_rl0 hc dX9_copyFrom_160 rfl (pc2 := 161) rfl ?_
  refine g_rl1 hc dX9_copyFrom_161 rfl (pc2 := 162) rfl ?_
  refine g_getI hc fl_X9_64 rfl ha0 dX9_copyFrom_162 (pc2 := 165) rfl ?_
  refine g_putI hc fl_X9_64 rfl ht dX9_copyFrom_165 (pc2 := 168) rfl (fun s26 => ?_)
  exact g_vret hc dX9_copyFrom_168
set_option maxRecDepth 100000 in
set_option maxHeartbeats 4000000 in
def f_X1_keep (n : Nat) (t : Nat) (a0 : Nat) (s0 : q_Sto) : Option (Int32 × q_Sto) :=
  if (s0 t 1) < 6 then (
  if (s0 t 1) < 0 then (
  some (0, s0))
  else (
  if (s0 t 1) < 6 then (
  q_ldr s0 (q_RF t 0) (s0 t 1) 6 fun o4 => q_if o4 9 <|
  q_callv (f_X9_copyFrom n o4 a0 s0) fun s5 =>
  q_nS1 (q_up s5 t 1 ((s5 t 1) + 1)) fun s7 =>
  some (0, s7))
  else (
  some (0, s0))))
  else (
  q_callv (f_X1_dropOldest n t s0) fun s8 =>
  if (s8 t 1) < 0 then (
  some (0, s8))
  else (
  if (s8 t 1) < 6 then (
  q_ldr s8 (q_RF t 0) (s8 t 1) 6 fun o12 => q_if o12 9 <|
  q_callv (f_X9_copyFrom n o12 a0 s8) fun s13 =>
  q_nS1 (q_up s13 t 1 ((s13 t 1) + 1)) fun s15 =>
  some (0, s15))
  else (
  some (0, s8))))
set_option maxRecDepth 100000 in
set_option maxHeartbeats 4000000 in
theorem C_X1_keep {l : Launch} {w : q_Wd} {n : Nat} {t : Nat} {a0 : Nat} (ht : q_KD t = .inl 1) (ha0 : q_KD a0 = .inl 9) {s0 : q_Sto} : q_C l w yX1_keep cX1_keep 3 (none) (q_rm 3 122) [q_rf w t, q_rf w a0] s0 (f_X1_keep n t a0 s0) := q_CofG [some (q_rf w t), some (q_rf w a0), none] (by decide +kernel) rfl rfl (Nat.le_of_ble_eq_true rfl) fun cx hl hc => by
  have hc : q_ok w cx RX1 cX1_keep 3 (none) (q_rm 3 122) := hc
  rw [f_X1_keep]
  refine g_rl0 hc dX1_keep_0 rfl (pc2 := 1) rfl ?_
  refine g_getI hc fl_X1_17 rfl ht dX1_keep_1 (pc2 := 4) rfl ?_
  refine g_bipush hc dX1_keep_4 bp_6 (pc2 := 6) rfl ?_
  refine g_icmp_lt hc dX1_keep_6 (pc1 := 13) (pc2 := 9) rfl rfl (fun _ => ?_) (fun _ => ?_)
  · refine g_rl0 hc dX1_keep_13 rfl (pc2 := 14) rfl ?_
    refine g_getI hc fl_X1_17 rfl ht dX1_keep_14 (pc2 := 17) rfl ?_
    refine g_if_lt hc dX1_keep_17 (pc1 := 41) (pc2 := 20) rfl rfl (fun _ => ?_) (fun _ => ?_)
    · refine g_anull hc dX1_keep_41 (pc2 := 42) rfl ?_
      refine g_ns2 hc dX1_keep_42 (by decide) (L2 := [some (q_rf w t), some (q_rf w a0), some (.null)]) rfl (pc2 := 43) rfl ?_
      refine g_nl2 hc dX1_keep_43 rfl (pc2 := 44) rfl ?_
      refine g_ifnullN hc dX1_keep_44 (pc2 := 62) rfl ?_
      exact g_vret hc dX1_keep_62
    · refine g_rl0 hc dX1_keep_20 rfl (pc2 := 21) rfl ?_
      refine g_getI hc fl_X1_17 rfl ht dX1_keep_21 (pc2 := 24) rfl ?_
      refine g_bipush hc dX1_keep_24 bp_6 (pc2 := 26) rfl ?_
      refine g_icmp_ge hc dX1_keep_26 (pc1 := 29) (pc2 := 41) rfl rfl (fun _ => ?_) (fun _ => ?_)
      · refine g_rl0 hc dX1_keep_29 rfl (pc2 := 30) rfl ?_
        refine g_getR hc fl_X1_11 rfl ht dX1_keep_30 (pc2 := 33) rfl ?_
        refine g_rl0 hc dX1_keep_33 rfl (pc2 := 34) rfl ?_
        refine g_getI hc fl_X1_17 rfl ht dX1_keep_34 (pc2 := 37) rfl ?_
        refine g_aald hc (kf_1_0 ht) (kl_1_0 ht) dX1_keep_37 (pc2 := 38) rfl (fun o4 => ?_)
        refine g_if (fun ho4 => ?_)
        refine g_goto hc dX1_keep_38 (pc2 := 42) rfl ?_
        refine g_rs2 hc dX1_keep_42 (by decide) (L2 := [some (q_rf w t), some (q_rf w a0), some (q_rf w o4)]) rfl (pc2 := 43) rfl ?_
        refine g_rl2 hc dX1_keep_43 rfl (pc2 := 44) rfl ?_
        refine g_ifnull hc dX1_keep_44 (pc2 := 47) rfl ?_
        refine g_rl2 hc dX1_keep_47 rfl (pc2 := 48) rfl ?_
        refine g_rl1 hc dX1_keep_48 rfl (pc2 := 49) rfl ?_
        refine g_callV1v hc (C_X9_copyFrom ho4 ha0) mv_X9_copyFrom ln_X1_25 ho4 ⟨by decide, by decide⟩ (Nat.le_of_ble_eq_true rfl) dX1_keep_49 (pc2 := 52) rfl (fun s5 => ?_)
        refine g_rl0 hc dX1_keep_52 rfl (pc2 := 53) rfl ?_
        refine g_dup hc dX1_keep_53 rfl (pc2 := 54) rfl ?_
        refine g_getI hc fl_X1_17 rfl ht dX1_keep_54 (pc2 := 57) rfl ?_
        refine g_iconst hc dX1_keep_57 ic_1 (pc2 := 58) rfl ?_
        refine g_iadd hc dX1_keep_58 (pc2 := 59) rfl ?_
        refine g_putI hc fl_X1_17 rfl ht dX1_keep_59 (pc2 := 62) rfl (fun s7 => ?_)
        exact g_vret hc dX1_keep_62
      · refine g_anull hc dX1_keep_41 (pc2 := 42) rfl ?_
        refine g_ns2 hc dX1_keep_42 (by decide) (L2 := [some (q_rf w t), some (q_rf w a0), some (.null)]) rfl (pc2 := 43) rfl ?_
        refine g_nl2 hc dX1_keep_43 rfl (pc2 := 44) rfl ?_
        refine g_ifnullN hc dX1_keep_44 (pc2 := 62) rfl ?_
        exact g_vret hc dX1_keep_62
  · refine g_rl0 hc dX1_keep_9 rfl (pc2 := 10) rfl ?_
    refine g_callV0v hc (C_X1_dropOldest ht) mv_X1_dropOldest ln_X1_22 ht ⟨by decide, by decide⟩ (Nat.le_of_ble_eq_true rfl) dX1_keep_10 (pc2 := 13) rfl (fun s8 => ?_)
    refine g_rl0 hc dX1_keep_13 rfl (pc2 := 14) rfl ?_
    refine g_getI hc fl_X1_17 rfl ht dX1_keep_14 (pc2 := 17) rfl ?_
    refine g_if_lt hc dX1_keep_17 (pc1 := 41) (pc2 := 20) rfl rfl (fun _ => ?_) (fun _ => ?_)
    · refine g_anull hc dX1_keep_41 (pc2 := 42) rfl ?_
      refine g_ns2 hc dX1_keep_42 (by decide) (L2 := [some (q_rf w t), some (q_rf w a0), some (.null)]) rfl (pc2 := 43) rfl ?_
      refine g_nl2 hc dX1_keep_43 rfl (pc2 := 44) rfl ?_
      refine g_ifnullN hc dX1_keep_44 (pc2 := 62) rfl ?_
      exact g_vret hc dX1_keep_62
    · refine g_rl0 hc dX1_keep_20 rfl (pc2 := 21) rfl ?_
      refine g_getI hc fl_X1_17 rfl ht dX1_keep_21 (pc2 := 24) rfl ?_
      refine g_bipush hc dX1_keep_24 bp_6 (pc2 := 26) rfl ?_
      refine g_icmp_ge hc dX1_keep_26 (pc1 := 29) (pc2 := 41) rfl rfl (fun _ => ?_) (fun _ => ?_)
      · refine g_rl0 hc dX1_keep_29 rfl (pc2 := 30) rfl ?_
        refine g_getR hc fl_X1_11 rfl ht dX1_keep_30 (pc2 := 33) rfl ?_
        refine g_rl0 hc dX1_keep_33 rfl (pc2 := 34) rfl ?_
        refine g_getI hc fl_X1_17 rfl ht dX1_keep_34 (pc2 := 37) rfl ?_
        refine g_aald hc (kf_1_0 ht) (kl_1_0 ht) dX1_keep_37 (pc2 := 38) rfl (fun o12 => ?_)
        refine g_if (fun ho12 => ?_)
        refine g_goto hc dX1_keep_38 (pc2 := 42) rfl ?_
        refine g_rs2 hc dX1_keep_42 (by decide) (L2 := [some (q_rf w t), some (q_rf w a0), some (q_rf w o12)]) rfl (pc2 := 43) rfl ?_
        refine g_rl2 hc dX1_keep_43 rfl (pc2 := 44) rfl ?_
        refine g_ifnull hc dX1_keep_44 (pc2 := 47) rfl ?_
        refine g_rl2 hc dX1_keep_47 rfl (pc2 := 48) rfl ?_
        refine g_rl1 hc dX1_keep_48 rfl (pc2 := 49) rfl ?_
        refine g_callV1v hc (C_X9_copyFrom ho12 ha0) mv_X9_copyFrom ln_X1_25 ho12 ⟨by decide, by decide⟩ (Nat.le_of_ble_eq_true rfl) dX1_keep_49 (pc2 := 52) rfl (fun s13 => ?_)
        refine g_rl0 hc dX1_keep_52 rfl (pc2 := 53) rfl ?_
        refine g_dup hc dX1_keep_53 rfl (pc2 := 54) rfl ?_
        refine g_getI hc fl_X1_17 rfl ht dX1_keep_54 (pc2 := 57) rfl ?_
        refine g_iconst hc dX1_keep_57 ic_1 (pc2 := 58) rfl ?_
        refine g_iadd hc dX1_keep_58 (pc2 := 59) rfl ?_
        refine g_putI hc fl_X1_17 rfl ht dX1_keep_59 (pc2 := 62) rfl (fun s15 => ?_)
        exact g_vret hc dX1_keep_62
      · refine g_anull hc dX1_keep_41 (pc2 := 42) rfl ?_
        refine g_ns2 hc dX1_keep_42 (by decide) (L2 := [some (q_rf w t), some (q_rf w a0), some (.null)]) rfl (pc2 := 43) rfl ?_
        refine g_nl2 hc dX1_keep_43 rfl (pc2 := 44) rfl ?_
        refine g_ifnullN hc dX1_keep_44 (pc2 := 62) rfl ?_
        exact g_vret hc dX1_keep_62
set_option maxRecDepth 100000 in
set_option maxHeartbeats 4000000 in
def f_X1_giveBack (n : Nat) (t : Nat) (a0 : Nat) (s0 : q_Sto) : Option (Int32 × q_Sto) :=
  if (s0 t 1) ≤ 0 then (
  some (0, s0))
  else (
  if (s0 t 1) ≤ 6 then (
  q_ldr s0 (q_RF t 0) ((s0 t 1) - 1) 6 fun o3 => q_if o3 9 <|
  q_callv (f_X9_copyFrom n a0 o3 s0) fun s4 =>
  q_nS1 (q_up s4 t 1 ((s4 t 1) - 1)) fun s6 =>
  some (1, s6))
  else (
  some (0, s0)))
set_option maxRecDepth 100000 in
set_option maxHeartbeats 4000000 in
theorem C_X1_giveBack {l : Launch} {w : q_Wd} {n : Nat} {t : Nat} {a0 : Nat} (ht : q_KD t = .inl 1) (ha0 : q_KD a0 = .inl 9) {s0 : q_Sto} : q_C l w yX1_giveBack cX1_giveBack 3 (some .boolean) (q_rm 3 122) [q_rf w t, q_rf w a0] s0 (f_X1_giveBack n t a0 s0) := q_CofG [some (q_rf w t), some (q_rf w a0), none] (by decide +kernel) rfl rfl (Nat.le_of_ble_eq_true rfl) fun cx hl hc => by
  have hc : q_ok w cx RX1 cX1_giveBack 3 (some .boolean) (q_rm 3 122) := hc
  rw [f_X1_giveBack]
  refine g_rl0 hc dX1_giveBack_0 rfl (pc2 := 1) rfl ?_
  refine g_getI hc fl_X1_17 rfl ht dX1_giveBack_1 (pc2 := 4) rfl ?_
  refine g_if_le hc dX1_giveBack_4 (pc1 := 30) (pc2 := 7) rfl rfl (fun _ => ?_) (fun _ => ?_)
  · refine g_anull hc dX1_giveBack_30 (pc2 := 31) rfl ?_
    refine g_ns2 hc dX1_giveBack_31 (by decide) (L2 := [some (q_rf w t), some (q_rf w a0), some (.null)]) rfl (pc2 := 32) rfl ?_
    refine g_nl2 hc dX1_giveBack_32 rfl (pc2 := 33) rfl ?_
    refine g_ifnonnullN hc dX1_giveBack_33 (pc2 := 36) rfl ?_
    refine g_iconst hc dX1_giveBack_36 ic_0 (pc2 := 37) rfl ?_
    exact g_zret0 (by decide) hc dX1_giveBack_37
  · refine g_rl0 hc dX1_giveBack_7 rfl (pc2 := 8) rfl ?_
    refine g_getI hc fl_X1_17 rfl ht dX1_giveBack_8 (pc2 := 11) rfl ?_
    refine g_bipush hc dX1_giveBack_11 bp_6 (pc2 := 13) rfl ?_
    refine g_icmp_gt hc dX1_giveBack_13 (pc1 := 16) (pc2 := 30) rfl rfl (fun _ => ?_) (fun _ => ?_)
    · refine g_rl0 hc dX1_giveBack_16 rfl (pc2 := 17) rfl ?_
      refine g_getR hc fl_X1_11 rfl ht dX1_giveBack_17 (pc2 := 20) rfl ?_
      refine g_rl0 hc dX1_giveBack_20 rfl (pc2 := 21) rfl ?_
      refine g_getI hc fl_X1_17 rfl ht dX1_giveBack_21 (pc2 := 24) rfl ?_
      refine g_iconst hc dX1_giveBack_24 ic_1 (pc2 := 25) rfl ?_
      refine g_isub hc dX1_giveBack_25 (pc2 := 26) rfl ?_
      refine g_aald hc (kf_1_0 ht) (kl_1_0 ht) dX1_giveBack_26 (pc2 := 27) rfl (fun o3 => ?_)
      refine g_if (fun ho3 => ?_)
      refine g_goto hc dX1_giveBack_27 (pc2 := 31) rfl ?_
      refine g_rs2 hc dX1_giveBack_31 (by decide) (L2 := [some (q_rf w t), some (q_rf w a0), some (q_rf w o3)]) rfl (pc2 := 32) rfl ?_
      refine g_rl2 hc dX1_giveBack_32 rfl (pc2 := 33) rfl ?_
      refine g_ifnonnull hc dX1_giveBack_33 (pc2 := 38) rfl ?_
      refine g_rl1 hc dX1_giveBack_38 rfl (pc2 := 39) rfl ?_
      refine g_rl2 hc dX1_giveBack_39 rfl (pc2 := 40) rfl ?_
      refine g_callV1v hc (C_X9_copyFrom ha0 ho3) mv_X9_copyFrom ln_X1_25 ha0 ⟨by decide, by decide⟩ (Nat.le_of_ble_eq_true rfl) dX1_giveBack_40 (pc2 := 43) rfl (fun s4 => ?_)
      refine g_rl0 hc dX1_giveBack_43 rfl (pc2 := 44) rfl ?_
      refine g_dup hc dX1_giveBack_44 rfl (pc2 := 45) rfl ?_
      refine g_getI hc fl_X1_17 rfl ht dX1_giveBack_45 (pc2 := 48) rfl ?_
      refine g_iconst hc dX1_giveBack_48 ic_1 (pc2 := 49) rfl ?_
      refine g_isub hc dX1_giveBack_49 (pc2 := 50) rfl ?_
      refine g_putI hc fl_X1_17 rfl ht dX1_giveBack_50 (pc2 := 53) rfl (fun s6 => ?_)
      refine g_iconst hc dX1_giveBack_53 ic_1 (pc2 := 54) rfl ?_
      exact g_zret0 (by decide) hc dX1_giveBack_54
    · refine g_anull hc dX1_giveBack_30 (pc2 := 31) rfl ?_
      refine g_ns2 hc dX1_giveBack_31 (by decide) (L2 := [some (q_rf w t), some (q_rf w a0), some (.null)]) rfl (pc2 := 32) rfl ?_
      refine g_nl2 hc dX1_giveBack_32 rfl (pc2 := 33) rfl ?_
      refine g_ifnonnullN hc dX1_giveBack_33 (pc2 := 36) rfl ?_
      refine g_iconst hc dX1_giveBack_36 ic_0 (pc2 := 37) rfl ?_
      exact g_zret0 (by decide) hc dX1_giveBack_37
set_option maxRecDepth 100000 in
set_option maxHeartbeats 4000000 in
def f_X2_clear (n : Nat) (t : Nat) (s0 : q_Sto) : Option (Int32 × q_Sto) :=
  q_nS1 (q_up s0 t 7 0) fun s1 =>
  q_nS1 (q_up s1 t 8 0) fun s2 =>
  some (0, s2)
set_option maxRecDepth 100000 in
set_option maxHeartbeats 4000000 in
theorem C_X2_clear {l : Launch} {w : q_Wd} {n : Nat} {t : Nat} (ht : q_KD t = .inl 2) {s0 : q_Sto} : q_C l w yX2_clear cX2_clear 1 (none) (q_rm 0 0) [q_rf w t] s0 (f_X2_clear n t s0) := q_CofG [some (q_rf w t)] (by decide +kernel) rfl rfl (Nat.le_of_ble_eq_true rfl) fun cx hl hc => by
  have hc : q_ok w cx RX2 cX2_clear 1 (none) (q_rm 0 0) := hc
  rw [f_X2_clear]
  refine g_rl0 hc dX2_clear_0 rfl (pc2 := 1) rfl ?_
  refine g_iconst hc dX2_clear_1 ic_0 (pc2 := 2) rfl ?_
  refine g_putI hc fl_X2_33 rfl ht dX2_clear_2 (pc2 := 5) rfl (fun s1 => ?_)
  refine g_rl0 hc dX2_clear_5 rfl (pc2 := 6) rfl ?_
  refine g_iconst hc dX2_clear_6 ic_0 (pc2 := 7) rfl ?_
  refine g_putI hc fl_X2_37 rfl ht dX2_clear_7 (pc2 := 10) rfl (fun s2 => ?_)
  exact g_vret hc dX2_clear_10
set_option maxRecDepth 100000 in
set_option maxHeartbeats 4000000 in
def f_X2_copyFrom (n : Nat) (t : Nat) (a0 : Nat) (s0 : q_Sto) : Option (Int32 × q_Sto) :=
  q_callv (f_X11_copyRow n (q_RF a0 0) 16 (q_RF t 0) 16 s0) fun s1 =>
  q_callv (f_X11_copyRow n (q_RF a0 1) 16 (q_RF t 1) 16 s1) fun s3 =>
  q_callv (f_X11_copyRow n (q_RF a0 2) 16 (q_RF t 2) 16 s3) fun s5 =>
  q_callv (f_X11_copyRow n (q_RF a0 3) 16 (q_RF t 3) 16 s5) fun s7 =>
  q_callv (f_X11_copyRow n (q_RF a0 4) 400 (q_RF t 4) 400 s7) fun s9 =>
  q_callv (f_X11_copyRow n (q_RF a0 5) 400 (q_RF t 5) 400 s9) fun s11 =>
  q_nS1 (q_up s11 t 7 (s11 a0 7)) fun s13 =>
  q_nS1 (q_up s13 t 8 (s13 a0 8)) fun s14 =>
  some (0, s14)
set_option maxRecDepth 100000 in
set_option maxHeartbeats 4000000 in
theorem C_X2_copyFrom {l : Launch} {w : q_Wd} {n : Nat} {t : Nat} {a0 : Nat} (ht : q_KD t = .inl 2) (ha0 : q_KD a0 = .inl 2) {s0 : q_Sto} : q_C l w yX2_copyFrom cX2_copyFrom 2 (none) (q_rm 2 101) [q_rf w t, q_rf w a0] s0 (f_X2_copyFrom n t a0 s0) := q_CofG [some (q_rf w t), some (q_rf w a0)] (by decide +kernel) rfl rfl (Nat.le_of_ble_eq_true rfl) fun cx hl hc => by
  have hc : q_ok w cx RX2 cX2_copyFrom 2 (none) (q_rm 2 101) := hc
  rw [f_X2_copyFrom]
  refine g_rl1 hc dX2_copyFrom_0 rfl (pc2 := 1) rfl ?_
  refine g_getR hc fl_X2_9 rfl ha0 dX2_copyFrom_1 (pc2 := 4) rfl ?_
  refine g_rl0 hc dX2_copyFrom_4 rfl (pc2 := 5) rfl ?_
  refine g_getR hc fl_X2_9 rfl ht dX2_copyFrom_5 (pc2 := 8) rfl ?_
  refine g_callSN2v (host := "MuleVote") hc (C_X11_copyRow (kf_2_0 ha0) (kl_2_0 ha0) (kf_2_0 ht) (kl_2_0 ht)) mv_X11_copyRow (by decide +kernel) ⟨by decide, by decide⟩ (Nat.le_of_ble_eq_true rfl) dX2_copyFrom_8 (pc2 := 11) rfl (fun s1 => ?_)
  refine g_rl1 hc dX2_copyFrom_11 rfl (pc2 := 12) rfl ?_
  refine g_getR hc fl_X2_15 rfl ha0 dX2_copyFrom_12 (pc2 := 15) rfl ?_
  refine g_rl0 hc dX2_copyFrom_15 rfl (pc2 := 16) rfl ?_
  refine g_getR hc fl_X2_15 rfl ht dX2_copyFrom_16 (pc2 := 19) rfl ?_
  refine g_callSN2v (host := "MuleVote") hc (C_X11_copyRow (kf_2_1 ha0) (kl_2_1 ha0) (kf_2_1 ht) (kl_2_1 ht)) mv_X11_copyRow (by decide +kernel) ⟨by decide, by decide⟩ (Nat.le_of_ble_eq_true rfl) dX2_copyFrom_19 (pc2 := 22) rfl (fun s3 => ?_)
  refine g_rl1 hc dX2_copyFrom_22 rfl (pc2 := 23) rfl ?_
  refine g_getR hc fl_X2_18 rfl ha0 dX2_copyFrom_23 (pc2 := 26) rfl ?_
  refine g_rl0 hc dX2_copyFrom_26 rfl (pc2 := 27) rfl ?_
  refine g_getR hc fl_X2_18 rfl ht dX2_copyFrom_27 (pc2 := 30) rfl ?_
  refine g_callSN2v (host := "MuleVote") hc (C_X11_copyRow (kf_2_2 ha0) (kl_2_2 ha0) (kf_2_2 ht) (kl_2_2 ht)) mv_X11_copyRow (by decide +kernel) ⟨by decide, by decide⟩ (Nat.le_of_ble_eq_true rfl) dX2_copyFrom_30 (pc2 := 33) rfl (fun s5 => ?_)
  refine g_rl1 hc dX2_copyFrom_33 rfl (pc2 := 34) rfl ?_
  refine g_getR hc fl_X2_21 rfl ha0 dX2_copyFrom_34 (pc2 := 37) rfl ?_
  refine g_rl0 hc dX2_copyFrom_37 rfl (pc2 := 38) rfl ?_
  refine g_getR hc fl_X2_21 rfl ht dX2_copyFrom_38 (pc2 := 41) rfl ?_
  refine g_callSN2v (host := "MuleVote") hc (C_X11_copyRow (kf_2_3 ha0) (kl_2_3 ha0) (kf_2_3 ht) (kl_2_3 ht)) mv_X11_copyRow (by decide +kernel) ⟨by decide, by decide⟩ (Nat.le_of_ble_eq_true rfl) dX2_copyFrom_41 (pc2 := 44) rfl (fun s7 => ?_)
  refine g_rl1 hc dX2_copyFrom_44 rfl (pc2 := 45) rfl ?_
  refine g_getR hc fl_X2_24 rfl ha0 dX2_copyFrom_45 (pc2 := 48) rfl ?_
  refine g_rl0 hc dX2_copyFrom_48 rfl (pc2 := 49) rfl ?_
  refine g_getR hc fl_X2_24 rfl ht dX2_copyFrom_49 (pc2 := 52) rfl ?_
  refine g_callSN2v (host := "MuleVote") hc (C_X11_copyRow (kf_2_4 ha0) (kl_2_4 ha0) (kf_2_4 ht) (kl_2_4 ht)) mv_X11_copyRow (by decide +kernel) ⟨by decide, by decide⟩ (Nat.le_of_ble_eq_true rfl) dX2_copyFrom_52 (pc2 := 55) rfl (fun s9 => ?_)
  refine g_rl1 hc dX2_copyFrom_55 rfl (pc2 := 56) rfl ?_
  refine g_getR hc fl_X2_27 rfl ha0 dX2_copyFrom_56 (pc2 := 59) rfl ?_
  refine g_rl0 hc dX2_copyFrom_59 rfl (pc2 := 60) rfl ?_
  refine g_getR hc fl_X2_27 rfl ht dX2_copyFrom_60 (pc2 := 63) rfl ?_
  refine g_callSN2v (host := "MuleVote") hc (C_X11_copyRow (kf_2_5 ha0) (kl_2_5 ha0) (kf_2_5 ht) (kl_2_5 ht)) mv_X11_copyRow (by decide +kernel) ⟨by decide, by decide⟩ (Nat.le_of_ble_eq_true rfl) dX2_copyFrom_63 (pc2 := 66) rfl (fun s11 => ?_)
  refine g_rl0 hc dX2_copyFrom_66 rfl (pc2 := 67) rfl ?_
  refine g_rl1 hc dX2_copyFrom_67 rfl (pc2 := 68) rfl ?_
  refine g_getI hc fl_X2_33 rfl ha0 dX2_copyFrom_68 (pc2 := 71) rfl ?_
  refine g_putI hc fl_X2_33 rfl ht dX2_copyFrom_71 (pc2 := 74) rfl (fun s13 => ?_)
  refine g_rl0 hc dX2_copyFrom_74 rfl (pc2 := 75) rfl ?_
  refine g_rl1 hc dX2_copyFrom_75 rfl (pc2 := 76) rfl ?_
  refine g_getI hc fl_X2_37 rfl ha0 dX2_copyFrom_76 (pc2 := 79) rfl ?_
  refine g_putI hc fl_X2_37 rfl ht dX2_copyFrom_79 (pc2 := 82) rfl (fun s14 => ?_)
  exact g_vret hc dX2_copyFrom_82
set_option maxRecDepth 100000 in
set_option maxHeartbeats 4000000 in
def f_X2_isFull (n : Nat) (t : Nat) (s0 : q_Sto) : Option (Int32 × q_Sto) :=
  if (s0 t 8) < 16 then (
  some (0, s0))
  else (
  some (1, s0))
set_option maxRecDepth 100000 in
set_option maxHeartbeats 4000000 in
theorem C_X2_isFull {l : Launch} {w : q_Wd} {n : Nat} {t : Nat} (ht : q_KD t = .inl 2) {s0 : q_Sto} : q_C l w yX2_isFull cX2_isFull 1 (some .boolean) (q_rm 0 0) [q_rf w t] s0 (f_X2_isFull n t s0) := q_CofG [some (q_rf w t)] (by decide +kernel) rfl rfl (Nat.le_of_ble_eq_true rfl) fun cx hl hc => by
  have hc : q_ok w cx RX2 cX2_isFull 1 (some .boolean) (q_rm 0 0) := hc
  rw [f_X2_isFull]
  refine g_rl0 hc dX2_isFull_0 rfl (pc2 := 1) rfl ?_
  refine g_getI hc fl_X2_37 rfl ht dX2_isFull_1 (pc2 := 4) rfl ?_
  refine g_bipush hc dX2_isFull_4 bp_16 (pc2 := 6) rfl ?_
  refine g_icmp_lt hc dX2_isFull_6 (pc1 := 13) (pc2 := 9) rfl rfl (fun _ => ?_) (fun _ => ?_)
  · refine g_iconst hc dX2_isFull_13 ic_0 (pc2 := 14) rfl ?_
    exact g_zret0 (by decide) hc dX2_isFull_14
  · refine g_iconst hc dX2_isFull_9 ic_1 (pc2 := 10) rfl ?_
    refine g_goto hc dX2_isFull_10 (pc2 := 14) rfl ?_
    exact g_zret0 (by decide) hc dX2_isFull_14
set_option maxRecDepth 100000 in
set_option maxHeartbeats 4000000 in
def f_X2_beginLine (n : Nat) (t : Nat) (a0 : Int32) (s0 : q_Sto) : Option (Int32 × q_Sto) :=
  if (s0 t 8) < 0 then (
  some (0, s0))
  else (
  if (s0 t 8) < 16 then (
  q_st s0 (q_RF t 0) (s0 t 8) 16 a0 fun s3 =>
  q_st s3 (q_RF t 1) (s3 t 8) 16 (s3 t 7) fun s4 =>
  q_st s4 (q_RF t 2) (s4 t 8) 16 (-1) fun s5 =>
  some (0, s5))
  else (
  some (0, s0)))
set_option maxRecDepth 100000 in
set_option maxHeartbeats 4000000 in
theorem C_X2_beginLine {l : Launch} {w : q_Wd} {n : Nat} {t : Nat} {a0 : Int32} (ht : q_KD t = .inl 2) {s0 : q_Sto} : q_C l w yX2_beginLine cX2_beginLine 2 (none) (q_rm 0 0) [q_rf w t, .int a0] s0 (f_X2_beginLine n t a0 s0) := q_CofG [some (q_rf w t), some (.int a0)] (by decide +kernel) rfl rfl (Nat.le_of_ble_eq_true rfl) fun cx hl hc => by
  have hc : q_ok w cx RX2 cX2_beginLine 2 (none) (q_rm 0 0) := hc
  rw [f_X2_beginLine]
  refine g_rl0 hc dX2_beginLine_0 rfl (pc2 := 1) rfl ?_
  refine g_getI hc fl_X2_37 rfl ht dX2_beginLine_1 (pc2 := 4) rfl ?_
  refine g_if_lt hc dX2_beginLine_4 (pc1 := 49) (pc2 := 7) rfl rfl (fun _ => ?_) (fun _ => ?_)
  · exact g_vret hc dX2_beginLine_49
  · refine g_rl0 hc dX2_beginLine_7 rfl (pc2 := 8) rfl ?_
    refine g_getI hc fl_X2_37 rfl ht dX2_beginLine_8 (pc2 := 11) rfl ?_
    refine g_bipush hc dX2_beginLine_11 bp_16 (pc2 := 13) rfl ?_
    refine g_icmp_ge hc dX2_beginLine_13 (pc1 := 16) (pc2 := 49) rfl rfl (fun _ => ?_) (fun _ => ?_)
    · refine g_rl0 hc dX2_beginLine_16 rfl (pc2 := 17) rfl ?_
      refine g_getR hc fl_X2_9 rfl ht dX2_beginLine_17 (pc2 := 20) rfl ?_
      refine g_rl0 hc dX2_beginLine_20 rfl (pc2 := 21) rfl ?_
      refine g_getI hc fl_X2_37 rfl ht dX2_beginLine_21 (pc2 := 24) rfl ?_
      refine g_il1 hc dX2_beginLine_24 rfl (pc2 := 25) rfl ?_
      refine g_iast hc (kf_2_0 ht) (kl_2_0 ht) dX2_beginLine_25 (pc2 := 26) rfl (fun s3 => ?_)
      refine g_rl0 hc dX2_beginLine_26 rfl (pc2 := 27) rfl ?_
      refine g_getR hc fl_X2_15 rfl ht dX2_beginLine_27 (pc2 := 30) rfl ?_
      refine g_rl0 hc dX2_beginLine_30 rfl (pc2 := 31) rfl ?_
      refine g_getI hc fl_X2_37 rfl ht dX2_beginLine_31 (pc2 := 34) rfl ?_
      refine g_rl0 hc dX2_beginLine_34 rfl (pc2 := 35) rfl ?_
      refine g_getI hc fl_X2_33 rfl ht dX2_beginLine_35 (pc2 := 38) rfl ?_
      refine g_iast hc (kf_2_1 ht) (kl_2_1 ht) dX2_beginLine_38 (pc2 := 39) rfl (fun s4 => ?_)
      refine g_rl0 hc dX2_beginLine_39 rfl (pc2 := 40) rfl ?_
      refine g_getR hc fl_X2_18 rfl ht dX2_beginLine_40 (pc2 := 43) rfl ?_
      refine g_rl0 hc dX2_beginLine_43 rfl (pc2 := 44) rfl ?_
      refine g_getI hc fl_X2_37 rfl ht dX2_beginLine_44 (pc2 := 47) rfl ?_
      refine g_iconst hc dX2_beginLine_47 ic_m1 (pc2 := 48) rfl ?_
      refine g_iast hc (kf_2_2 ht) (kl_2_2 ht) dX2_beginLine_48 (pc2 := 49) rfl (fun s5 => ?_)
      exact g_vret hc dX2_beginLine_49
    · exact g_vret hc dX2_beginLine_49
set_option maxRecDepth 100000 in
set_option maxHeartbeats 4000000 in
def f_X2_beginWhen (n : Nat) (t : Nat) (s0 : q_Sto) : Option (Int32 × q_Sto) :=
  if (s0 t 8) < 0 then (
  some (0, s0))
  else (
  if (s0 t 8) < 16 then (
  q_st s0 (q_RF t 2) (s0 t 8) 16 (s0 t 7) fun s3 =>
  some (0, s3))
  else (
  some (0, s0)))
set_option maxRecDepth 100000 in
set_option maxHeartbeats 4000000 in
theorem C_X2_beginWhen {l : Launch} {w : q_Wd} {n : Nat} {t : Nat} (ht : q_KD t = .inl 2) {s0 : q_Sto} : q_C l w yX2_beginWhen cX2_beginWhen 1 (none) (q_rm 0 0) [q_rf w t] s0 (f_X2_beginWhen n t s0) := q_CofG [some (q_rf w t)] (by decide +kernel) rfl rfl (Nat.le_of_ble_eq_true rfl) fun cx hl hc => by
  have hc : q_ok w cx RX2 cX2_beginWhen 1 (none) (q_rm 0 0) := hc
  rw [f_X2_beginWhen]
  refine g_rl0 hc dX2_beginWhen_0 rfl (pc2 := 1) rfl ?_
  refine g_getI hc fl_X2_37 rfl ht dX2_beginWhen_1 (pc2 := 4) rfl ?_
  refine g_if_lt hc dX2_beginWhen_4 (pc1 := 29) (pc2 := 7) rfl rfl (fun _ => ?_) (fun _ => ?_)
  · exact g_vret hc dX2_beginWhen_29
  · refine g_rl0 hc dX2_beginWhen_7 rfl (pc2 := 8) rfl ?_
    refine g_getI hc fl_X2_37 rfl ht dX2_beginWhen_8 (pc2 := 11) rfl ?_
    refine g_bipush hc dX2_beginWhen_11 bp_16 (pc2 := 13) rfl ?_
    refine g_icmp_ge hc dX2_beginWhen_13 (pc1 := 16) (pc2 := 29) rfl rfl (fun _ => ?_) (fun _ => ?_)
    · refine g_rl0 hc dX2_beginWhen_16 rfl (pc2 := 17) rfl ?_
      refine g_getR hc fl_X2_18 rfl ht dX2_beginWhen_17 (pc2 := 20) rfl ?_
      refine g_rl0 hc dX2_beginWhen_20 rfl (pc2 := 21) rfl ?_
      refine g_getI hc fl_X2_37 rfl ht dX2_beginWhen_21 (pc2 := 24) rfl ?_
      refine g_rl0 hc dX2_beginWhen_24 rfl (pc2 := 25) rfl ?_
      refine g_getI hc fl_X2_33 rfl ht dX2_beginWhen_25 (pc2 := 28) rfl ?_
      refine g_iast hc (kf_2_2 ht) (kl_2_2 ht) dX2_beginWhen_28 (pc2 := 29) rfl (fun s3 => ?_)
      exact g_vret hc dX2_beginWhen_29
    · exact g_vret hc dX2_beginWhen_29
set_option maxRecDepth 100000 in
set_option maxHeartbeats 4000000 in
def f_X2_endLine (n : Nat) (t : Nat) (s0 : q_Sto) : Option (Int32 × q_Sto) :=
  if (s0 t 8) < 0 then (
  some (0, s0))
  else (
  if (s0 t 8) < 16 then (
  q_st s0 (q_RF t 3) (s0 t 8) 16 (s0 t 7) fun s3 =>
  q_nS1 (q_up s3 t 8 ((s3 t 8) + 1)) fun s4 =>
  some (0, s4))
  else (
  some (0, s0)))
set_option maxRecDepth 100000 in
set_option maxHeartbeats 4000000 in
theorem C_X2_endLine {l : Launch} {w : q_Wd} {n : Nat} {t : Nat} (ht : q_KD t = .inl 2) {s0 : q_Sto} : q_C l w yX2_endLine cX2_endLine 1 (none) (q_rm 0 0) [q_rf w t] s0 (f_X2_endLine n t s0) := q_CofG [some (q_rf w t)] (by decide +kernel) rfl rfl (Nat.le_of_ble_eq_true rfl) fun cx hl hc => by
  have hc : q_ok w cx RX2 cX2_endLine 1 (none) (q_rm 0 0) := hc
  rw [f_X2_endLine]
  refine g_rl0 hc dX2_endLine_0 rfl (pc2 := 1) rfl ?_
  refine g_getI hc fl_X2_37 rfl ht dX2_endLine_1 (pc2 := 4) rfl ?_
  refine g_if_lt hc dX2_endLine_4 (pc1 := 39) (pc2 := 7) rfl rfl (fun _ => ?_) (fun _ => ?_)
  · exact g_vret hc dX2_endLine_39
  · refine g_rl0 hc dX2_endLine_7 rfl (pc2 := 8) rfl ?_
    refine g_getI hc fl_X2_37 rfl ht dX2_endLine_8 (pc2 := 11) rfl ?_
    refine g_bipush hc dX2_endLine_11 bp_16 (pc2 := 13) rfl ?_
    refine g_icmp_ge hc dX2_endLine_13 (pc1 := 16) (pc2 := 39) rfl rfl (fun _ => ?_) (fun _ => ?_)
    · refine g_rl0 hc dX2_endLine_16 rfl (pc2 := 17) rfl ?_
      refine g_getR hc fl_X2_21 rfl ht dX2_endLine_17 (pc2 := 20) rfl ?_
      refine g_rl0 hc dX2_endLine_20 rfl (pc2 := 21) rfl ?_
      refine g_getI hc fl_X2_37 rfl ht dX2_endLine_21 (pc2 := 24) rfl ?_
      refine g_rl0 hc dX2_endLine_24 rfl (pc2 := 25) rfl ?_
      refine g_getI hc fl_X2_33 rfl ht dX2_endLine_25 (pc2 := 28) rfl ?_
      refine g_iast hc (kf_2_3 ht) (kl_2_3 ht) dX2_endLine_28 (pc2 := 29) rfl (fun s3 => ?_)
      refine g_rl0 hc dX2_endLine_29 rfl (pc2 := 30) rfl ?_
      refine g_dup hc dX2_endLine_30 rfl (pc2 := 31) rfl ?_
      refine g_getI hc fl_X2_37 rfl ht dX2_endLine_31 (pc2 := 34) rfl ?_
      refine g_iconst hc dX2_endLine_34 ic_1 (pc2 := 35) rfl ?_
      refine g_iadd hc dX2_endLine_35 (pc2 := 36) rfl ?_
      refine g_putI hc fl_X2_37 rfl ht dX2_endLine_36 (pc2 := 39) rfl (fun s4 => ?_)
      exact g_vret hc dX2_endLine_39
    · exact g_vret hc dX2_endLine_39
set_option maxRecDepth 100000 in
set_option maxHeartbeats 4000000 in
def f_X2_emit (n : Nat) (t : Nat) (a0 : Int32) (a1 : Int32) (s0 : q_Sto) : Option (Int32 × q_Sto) :=
  if (s0 t 7) < 0 then (
  some (0, s0))
  else (
  if (s0 t 7) < 400 then (
  q_st s0 (q_RF t 4) (s0 t 7) 400 a0 fun s3 =>
  q_st s3 (q_RF t 5) (s3 t 7) 400 a1 fun s4 =>
  q_nS1 (q_up s4 t 7 ((s4 t 7) + 1)) fun s5 =>
  some (0, s5))
  else (
  some (0, s0)))
set_option maxRecDepth 100000 in
set_option maxHeartbeats 4000000 in
theorem C_X2_emit {l : Launch} {w : q_Wd} {n : Nat} {t : Nat} {a0 : Int32} {a1 : Int32} (ht : q_KD t = .inl 2) {s0 : q_Sto} : q_C l w yX2_emit cX2_emit 3 (none) (q_rm 0 0) [q_rf w t, .int a0, .int a1] s0 (f_X2_emit n t a0 a1 s0) := q_CofG [some (q_rf w t), some (.int a0), some (.int a1)] (by decide +kernel) rfl rfl (Nat.le_of_ble_eq_true rfl) fun cx hl hc => by
  have hc : q_ok w cx RX2 cX2_emit 3 (none) (q_rm 0 0) := hc
  rw [f_X2_emit]
  refine g_rl0 hc dX2_emit_0 rfl (pc2 := 1) rfl ?_
  refine g_getI hc fl_X2_33 rfl ht dX2_emit_1 (pc2 := 4) rfl ?_
  refine g_if_lt hc dX2_emit_4 (pc1 := 47) (pc2 := 7) rfl rfl (fun _ => ?_) (fun _ => ?_)
  · exact g_vret hc dX2_emit_47
  · refine g_rl0 hc dX2_emit_7 rfl (pc2 := 8) rfl ?_
    refine g_getI hc fl_X2_33 rfl ht dX2_emit_8 (pc2 := 11) rfl ?_
    refine g_sipush hc dX2_emit_11 sp_400 (pc2 := 14) rfl ?_
    refine g_icmp_ge hc dX2_emit_14 (pc1 := 17) (pc2 := 47) rfl rfl (fun _ => ?_) (fun _ => ?_)
    · refine g_rl0 hc dX2_emit_17 rfl (pc2 := 18) rfl ?_
      refine g_getR hc fl_X2_24 rfl ht dX2_emit_18 (pc2 := 21) rfl ?_
      refine g_rl0 hc dX2_emit_21 rfl (pc2 := 22) rfl ?_
      refine g_getI hc fl_X2_33 rfl ht dX2_emit_22 (pc2 := 25) rfl ?_
      refine g_il1 hc dX2_emit_25 rfl (pc2 := 26) rfl ?_
      refine g_iast hc (kf_2_4 ht) (kl_2_4 ht) dX2_emit_26 (pc2 := 27) rfl (fun s3 => ?_)
      refine g_rl0 hc dX2_emit_27 rfl (pc2 := 28) rfl ?_
      refine g_getR hc fl_X2_27 rfl ht dX2_emit_28 (pc2 := 31) rfl ?_
      refine g_rl0 hc dX2_emit_31 rfl (pc2 := 32) rfl ?_
      refine g_getI hc fl_X2_33 rfl ht dX2_emit_32 (pc2 := 35) rfl ?_
      refine g_il2 hc dX2_emit_35 rfl (pc2 := 36) rfl ?_
      refine g_iast hc (kf_2_5 ht) (kl_2_5 ht) dX2_emit_36 (pc2 := 37) rfl (fun s4 => ?_)
      refine g_rl0 hc dX2_emit_37 rfl (pc2 := 38) rfl ?_
      refine g_dup hc dX2_emit_38 rfl (pc2 := 39) rfl ?_
      refine g_getI hc fl_X2_33 rfl ht dX2_emit_39 (pc2 := 42) rfl ?_
      refine g_iconst hc dX2_emit_42 ic_1 (pc2 := 43) rfl ?_
      refine g_iadd hc dX2_emit_43 (pc2 := 44) rfl ?_
      refine g_putI hc fl_X2_33 rfl ht dX2_emit_44 (pc2 := 47) rfl (fun s5 => ?_)
      exact g_vret hc dX2_emit_47
    · exact g_vret hc dX2_emit_47
set_option maxRecDepth 100000 in
set_option maxHeartbeats 4000000 in
def f_X8_isEnd (n : Nat) (t : Nat) (s0 : q_Sto) : Option (Int32 × q_Sto) :=
  if (s0 t 4) = 0 then (
  some (1, s0))
  else (
  some (0, s0))
set_option maxRecDepth 100000 in
set_option maxHeartbeats 4000000 in
theorem C_X8_isEnd {l : Launch} {w : q_Wd} {n : Nat} {t : Nat} (ht : q_KD t = .inl 8) {s0 : q_Sto} : q_C l w yX8_isEnd cX8_isEnd 1 (some .boolean) (q_rm 0 0) [q_rf w t] s0 (f_X8_isEnd n t s0) := q_CofG [some (q_rf w t)] (by decide +kernel) rfl rfl (Nat.le_of_ble_eq_true rfl) fun cx hl hc => by
  have hc : q_ok w cx RX8 cX8_isEnd 1 (some .boolean) (q_rm 0 0) := hc
  rw [f_X8_isEnd]
  refine g_rl0 hc dX8_isEnd_0 rfl (pc2 := 1) rfl ?_
  refine g_getI hc fl_X8_25 rfl ht dX8_isEnd_1 (pc2 := 4) rfl ?_
  refine g_if_ne hc dX8_isEnd_4 (pc1 := 7) (pc2 := 11) rfl rfl (fun _ => ?_) (fun _ => ?_)
  · refine g_iconst hc dX8_isEnd_7 ic_1 (pc2 := 8) rfl ?_
    refine g_goto hc dX8_isEnd_8 (pc2 := 12) rfl ?_
    exact g_zret0 (by decide) hc dX8_isEnd_12
  · refine g_iconst hc dX8_isEnd_11 ic_0 (pc2 := 12) rfl ?_
    exact g_zret0 (by decide) hc dX8_isEnd_12
set_option maxRecDepth 100000 in
set_option maxHeartbeats 4000000 in
def f_X8_byteAt (n : Nat) (t : Nat) (a0 : Int32) (s0 : q_Sto) : Option (Int32 × q_Sto) :=
  if a0 < 0 then (
  some ((-1), s0))
  else (
  if a0 < (s0 t 1) then (
  if a0 < 400 then (
  q_ld s0 (q_RF t 0) a0 400 fun v4 =>
  some (v4, s0))
  else (
  some ((-1), s0)))
  else (
  some ((-1), s0)))
set_option maxRecDepth 100000 in
set_option maxHeartbeats 4000000 in
theorem C_X8_byteAt {l : Launch} {w : q_Wd} {n : Nat} {t : Nat} {a0 : Int32} (ht : q_KD t = .inl 8) {s0 : q_Sto} : q_C l w yX8_byteAt cX8_byteAt 2 (some .int) (q_rm 0 0) [q_rf w t, .int a0] s0 (f_X8_byteAt n t a0 s0) := q_CofG [some (q_rf w t), some (.int a0)] (by decide +kernel) rfl rfl (Nat.le_of_ble_eq_true rfl) fun cx hl hc => by
  have hc : q_ok w cx RX8 cX8_byteAt 2 (some .int) (q_rm 0 0) := hc
  rw [f_X8_byteAt]
  refine g_il1 hc dX8_byteAt_0 rfl (pc2 := 1) rfl ?_
  refine g_if_lt hc dX8_byteAt_1 (pc1 := 28) (pc2 := 4) rfl rfl (fun _ => ?_) (fun _ => ?_)
  · refine g_iconst hc dX8_byteAt_28 ic_m1 (pc2 := 29) rfl ?_
    exact g_iret hc dX8_byteAt_29
  · refine g_il1 hc dX8_byteAt_4 rfl (pc2 := 5) rfl ?_
    refine g_rl0 hc dX8_byteAt_5 rfl (pc2 := 6) rfl ?_
    refine g_getI hc fl_X8_15 rfl ht dX8_byteAt_6 (pc2 := 9) rfl ?_
    refine g_icmp_ge hc dX8_byteAt_9 (pc1 := 12) (pc2 := 28) rfl rfl (fun _ => ?_) (fun _ => ?_)
    · refine g_il1 hc dX8_byteAt_12 rfl (pc2 := 13) rfl ?_
      refine g_sipush hc dX8_byteAt_13 sp_400 (pc2 := 16) rfl ?_
      refine g_icmp_ge hc dX8_byteAt_16 (pc1 := 19) (pc2 := 28) rfl rfl (fun _ => ?_) (fun _ => ?_)
      · refine g_rl0 hc dX8_byteAt_19 rfl (pc2 := 20) rfl ?_
        refine g_getR hc fl_X8_9 rfl ht dX8_byteAt_20 (pc2 := 23) rfl ?_
        refine g_il1 hc dX8_byteAt_23 rfl (pc2 := 24) rfl ?_
        refine g_iald hc (kf_8_0 ht) (kl_8_0 ht) dX8_byteAt_24 (pc2 := 25) rfl (fun v4 => ?_)
        refine g_goto hc dX8_byteAt_25 (pc2 := 29) rfl ?_
        exact g_iret hc dX8_byteAt_29
      · refine g_iconst hc dX8_byteAt_28 ic_m1 (pc2 := 29) rfl ?_
        exact g_iret hc dX8_byteAt_29
    · refine g_iconst hc dX8_byteAt_28 ic_m1 (pc2 := 29) rfl ?_
      exact g_iret hc dX8_byteAt_29
set_option maxRecDepth 100000 in
set_option maxHeartbeats 4000000 in
def f_X8_isWord_L28 (n : Nat) (x0 : Nat) (x1 : Nat) : Nat → Int32 → q_Sto → Option (Int32 × q_Sto)
  | 0, _, _ => none
  | j + 1, x2, s0 =>
    if x2 < (q_slen x1) then (
    q_call (f_X8_byteAt n x0 ((s0 x0 3) + x2) s0) fun r5 s4 =>
    q_scat x1 x2 fun v6 =>
    if r5 = v6 then (
    f_X8_isWord_L28 n x0 x1  j (x2 + 1) s4)
    else (
    some (0, s4)))
    else (
    some (1, s0))
set_option maxRecDepth 100000 in
set_option maxHeartbeats 4000000 in
def f_X8_isWord (n : Nat) (t : Nat) (a0 : Nat) (s0 : q_Sto) : Option (Int32 × q_Sto) :=
  if (s0 t 4) = 1 then (
  if ((s0 t 2) - (s0 t 3)) = (q_slen a0) then (
  f_X8_isWord_L28 n t a0  n 0 s0)
  else (
  some (0, s0)))
  else (
  some (0, s0))
set_option maxRecDepth 100000 in
set_option maxHeartbeats 4000000 in
theorem t_X8_isWord_L28 {w : q_Wd} {cx : q_Cx} (hc : q_ok w cx RX8 cX8_isWord 3 (some .boolean) (q_rm 6 140)) {n : Nat} {x0 : Nat} {x1 : Nat} (hx0 : q_KD x0 = .inl 8) (hx1 : x1 < q_nS)   :
    ∀ (j : Nat) (x2 : Int32) (s0 : q_Sto), q_G w cx 3 (some .boolean) 28 [some (q_rf w x0), some (q_rs w x1), some (.int x2)] [] s0 (f_X8_isWord_L28 n x0 x1  j x2 s0) := by
  intro j
  induction j with
  | zero =>
    intro _ _
    rw [f_X8_isWord_L28]
    exact q_none
  | succ j ih =>
    intro x2 s0
    rw [f_X8_isWord_L28]
    refine g_il2 hc dX8_isWord_28 rfl (pc2 := 29) rfl ?_
    refine g_sl1 hc dX8_isWord_29 rfl (pc2 := 30) rfl ?_
    refine g_slen hc ln_X8_51 hx1 ⟨by decide, by decide⟩ (Nat.le_of_ble_eq_true rfl) dX8_isWord_30 (pc2 := 33) rfl ?_
    refine g_icmp_ge hc dX8_isWord_33 (pc1 := 36) (pc2 := 62) rfl rfl (fun _ => ?_) (fun _ => ?_)
    · refine g_rl0 hc dX8_isWord_36 rfl (pc2 := 37) rfl ?_
      refine g_rl0 hc dX8_isWord_37 rfl (pc2 := 38) rfl ?_
      refine g_getI hc fl_X8_22 rfl hx0 dX8_isWord_38 (pc2 := 41) rfl ?_
      refine g_il2 hc dX8_isWord_41 rfl (pc2 := 42) rfl ?_
      refine g_iadd hc dX8_isWord_42 (pc2 := 43) rfl ?_
      refine g_callV1 hc (C_X8_byteAt hx0) mv_X8_byteAt ln_X8_40 hx0 ⟨by decide, by decide⟩ (Nat.le_of_ble_eq_true rfl) dX8_isWord_43 (pc2 := 46) rfl (fun r5 s4 => ?_)
      refine g_sl1 hc dX8_isWord_46 rfl (pc2 := 47) rfl ?_
      refine g_il2 hc dX8_isWord_47 rfl (pc2 := 48) rfl ?_
      refine g_scat hc ln_X8_56 hx1 ⟨by decide, by decide⟩ (Nat.le_of_ble_eq_true rfl) dX8_isWord_48 (pc2 := 51) rfl (fun v6 => ?_)
      refine g_icmp_eq hc dX8_isWord_51 (pc1 := 56) (pc2 := 54) rfl rfl (fun _ => ?_) (fun _ => ?_)
      · refine g_iinc hc dX8_isWord_56 rfl (q_ii ic_1) (by decide) (L2 := [some (q_rf w x0), some (q_rs w x1), some (.int (x2 + 1))]) rfl (pc2 := 59) rfl ?_
        refine g_goto hc dX8_isWord_59 (pc2 := 28) rfl ?_
        exact ih _ _
      · refine g_iconst hc dX8_isWord_54 ic_0 (pc2 := 55) rfl ?_
        exact g_zret0 (by decide) hc dX8_isWord_55
    · refine g_iconst hc dX8_isWord_62 ic_1 (pc2 := 63) rfl ?_
      exact g_zret0 (by decide) hc dX8_isWord_63
set_option maxRecDepth 100000 in
set_option maxHeartbeats 4000000 in
theorem C_X8_isWord {l : Launch} {w : q_Wd} {n : Nat} {t : Nat} {a0 : Nat} (ht : q_KD t = .inl 8) (ha0 : a0 < q_nS) {s0 : q_Sto} : q_C l w yX8_isWord cX8_isWord 3 (some .boolean) (q_rm 6 140) [q_rf w t, q_rs w a0] s0 (f_X8_isWord n t a0 s0) := q_CofG [some (q_rf w t), some (q_rs w a0), none] (by decide +kernel) rfl rfl (Nat.le_of_ble_eq_true rfl) fun cx hl hc => by
  have hc : q_ok w cx RX8 cX8_isWord 3 (some .boolean) (q_rm 6 140) := hc
  rw [f_X8_isWord]
  refine g_rl0 hc dX8_isWord_0 rfl (pc2 := 1) rfl ?_
  refine g_getI hc fl_X8_25 rfl ht dX8_isWord_1 (pc2 := 4) rfl ?_
  refine g_iconst hc dX8_isWord_4 ic_1 (pc2 := 5) rfl ?_
  refine g_icmp_ne hc dX8_isWord_5 (pc1 := 8) (pc2 := 24) rfl rfl (fun _ => ?_) (fun _ => ?_)
  · refine g_rl0 hc dX8_isWord_8 rfl (pc2 := 9) rfl ?_
    refine g_getI hc fl_X8_19 rfl ht dX8_isWord_9 (pc2 := 12) rfl ?_
    refine g_rl0 hc dX8_isWord_12 rfl (pc2 := 13) rfl ?_
    refine g_getI hc fl_X8_22 rfl ht dX8_isWord_13 (pc2 := 16) rfl ?_
    refine g_isub hc dX8_isWord_16 (pc2 := 17) rfl ?_
    refine g_sl1 hc dX8_isWord_17 rfl (pc2 := 18) rfl ?_
    refine g_slen hc ln_X8_51 ha0 ⟨by decide, by decide⟩ (Nat.le_of_ble_eq_true rfl) dX8_isWord_18 (pc2 := 21) rfl ?_
    refine g_icmp_eq hc dX8_isWord_21 (pc1 := 26) (pc2 := 24) rfl rfl (fun _ => ?_) (fun _ => ?_)
    · refine g_iconst hc dX8_isWord_26 ic_0 (pc2 := 27) rfl ?_
      refine g_is2 hc dX8_isWord_27 (by decide) (L2 := [some (q_rf w t), some (q_rs w a0), some (.int 0)]) rfl (pc2 := 28) rfl ?_
      refine t_X8_isWord_L28 hc ht ha0  n _ _
    · refine g_iconst hc dX8_isWord_24 ic_0 (pc2 := 25) rfl ?_
      exact g_zret0 (by decide) hc dX8_isWord_25
  · refine g_iconst hc dX8_isWord_24 ic_0 (pc2 := 25) rfl ?_
    exact g_zret0 (by decide) hc dX8_isWord_25
