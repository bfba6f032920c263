set_option maxRecDepth 100000 in
set_option maxHeartbeats 4000000 in
def F_X12_lame_L4 (n : Nat) (x0 : Nat) : Nat → Int32 → Int32 → x_U → Option (Int32 × x_U)
  | 0, _, _, _ => none
  | j + 1, x1, x2, s0 =>
    x_gi s0 x0 12 7 fun v1 =>
    if x2 < v1 then (
    x_gr s0 x0 12 12 fun o2 =>
    x_lr s0 o2 x2 fun o3 =>
    x_ld s0 o3 2 fun v4 =>
    x_nm (x1 ||| (v4 <<< (x2 &&& 31))) fun v5 =>
    F_X12_lame_L4 n x0 j v5 (x2 + 1) s0)
    else (
    some (x1, s0))
set_option maxRecDepth 100000 in
set_option maxHeartbeats 4000000 in
def F_X12_lame (n : Nat) (t : Nat) (s0 : x_U) : Option (Int32 × x_U) :=
  F_X12_lame_L4 n t  n 0 0 s0
set_option maxRecDepth 100000 in
set_option maxHeartbeats 4000000 in
theorem T_X12_lame_L4 {w : q_Wd} {cx : q_Cx} {M0 : Nat} (hop : w.2.2.2.2.2.1 = none) {n : Nat} {x0 : Nat}   :
    ∀ (j : Nat) (x1 : Int32) (x2 : Int32) (s0 : x_U), x_G w cx RX12 "lame" cX12_lame 3 (some .int) 0 0 M0 x_aI 4 [some (x_v w x0), some (.int x1), some (.int x2)] [] s0 (F_X12_lame_L4 n x0 j x1 x2 s0) := by
  intro j
  induction j with
  | zero =>
    intro _ _ _
    rw [F_X12_lame_L4]
    exact x_none
  | succ j ih =>
    intro x1 x2 s0
    rw [F_X12_lame_L4]
    refine x_iload_n dX12_lame_4 rfl (pc2 := 5) rfl ?_
    refine x_aload_n dX12_lame_5 x_vR rfl (pc2 := 6) rfl ?_
    refine x_getI xf_X12_50 (by decide) rfl dX12_lame_6 (pc2 := 9) rfl (fun v1 => ?_)
    refine x_icmp_ge dX12_lame_9 (pc1 := 12) (pc2 := 31) rfl rfl (fun _ => ?_) (fun _ => ?_)
    · refine x_iload_n dX12_lame_12 rfl (pc2 := 13) rfl ?_
      refine x_aload_n dX12_lame_13 x_vR rfl (pc2 := 14) rfl ?_
      refine x_getR xf_X12_15 (by decide) rfl dX12_lame_14 (pc2 := 17) rfl (fun o2 => ?_)
      refine x_iload_n dX12_lame_17 rfl (pc2 := 18) rfl ?_
      refine x_aald dX12_lame_18 (pc2 := 19) rfl (fun o3 => ?_)
      refine x_iconst dX12_lame_19 ic_2 (pc2 := 20) rfl ?_
      refine x_iald dX12_lame_20 (pc2 := 21) rfl (fun v4 => ?_)
      refine x_iload_n dX12_lame_21 rfl (pc2 := 22) rfl ?_
      refine x_ishl dX12_lame_22 (pc2 := 23) rfl ?_
      refine x_ior dX12_lame_23 (pc2 := 24) rfl ?_
      refine x_gnm (fun v5 => ?_)
      refine x_istore_n dX12_lame_24 (by decide) (L2 := [some (x_v w x0), some (.int v5), some (.int x2)]) rfl (pc2 := 25) rfl ?_
      refine x_iinc dX12_lame_25 rfl (q_ii ic_1) (by decide) (L2 := [some (x_v w x0), some (.int v5), some (.int (x2 + 1))]) rfl (pc2 := 28) rfl ?_
      refine x_goto dX12_lame_28 (pc2 := 4) rfl ?_
      exact ih _ _ _
    · refine x_iload_n dX12_lame_31 rfl (pc2 := 32) rfl ?_
      exact x_iret dX12_lame_32
set_option maxRecDepth 100000 in
set_option maxHeartbeats 4000000 in
theorem C2_X12_lame {l : Launch} {w : q_Wd} {n : Nat} {t : Nat} {s0 : x_U} : x_C l w yX12_lame cX12_lame 3 (some .int) 0 0 [x_v w t] x_aI s0 (F_X12_lame n t s0) := x_CofG [some (x_v w t), none, none] (by decide +kernel) rfl (x_ca x_vcat x_c0) (Nat.le_of_ble_eq_true rfl) fun hop cx hl => by
  subst hl
  show x_G w cx RX12 "lame" cX12_lame 3 (some .int) 0 0 (x_m s0) x_aI 0 [some (x_v w t), none, none] [] s0 _
  rw [F_X12_lame]
  refine x_iconst dX12_lame_0 ic_0 (pc2 := 1) rfl ?_
  refine x_istore_n dX12_lame_1 (by decide) (L2 := [some (x_v w t), some (.int 0), none]) rfl (pc2 := 2) rfl ?_
  refine x_iconst dX12_lame_2 ic_0 (pc2 := 3) rfl ?_
  refine x_istore_n dX12_lame_3 (by decide) (L2 := [some (x_v w t), some (.int 0), some (.int 0)]) rfl (pc2 := 4) rfl ?_
  refine T_X12_lame_L4 hop  n _ _ _
set_option maxRecDepth 100000 in
set_option maxHeartbeats 4000000 in
def F_X12_isSame_L12 (n : Nat) (x0 : Nat) (x2 : Int32) (k42 : x_U → Option (Int32 × x_U)) : Nat → Int32 → x_U → Option (Int32 × x_U)
  | 0, _, _ => none
  | j + 1, x3, s0 =>
    if x3 < 5 then (
    x_calc s0 (f_X11_of n 0 x2 x3 (x_c s0)) fun r3 s2 =>
    x_gr s2 x0 12 12 fun o4 =>
    x_lr s2 o4 x2 fun o5 =>
    x_ld s2 o5 x3 fun v6 =>
    if r3 = v6 then (
    F_X12_isSame_L12 n x0 x2 k42 j (x3 + 1) s2)
    else (
    some (0, s2)))
    else (
    k42 s0)
set_option maxRecDepth 100000 in
set_option maxHeartbeats 4000000 in
def F_X12_isSame_L101 (n : Nat) (x0 : Nat) (x2 : Int32) (k157 : x_U → Option (Int32 × x_U)) : Nat → Int32 → x_U → Option (Int32 × x_U)
  | 0, _, _ => none
  | j + 1, x3, s0 =>
    x_gi s0 x0 12 8 fun v20 =>
    if x3 < v20 then (
    x_calc s0 (f_X11_of n 0 x2 (10 + x3) (x_c s0)) fun r22 s21 =>
    x_gr s21 x0 12 12 fun o23 =>
    x_lr s21 o23 x2 fun o24 =>
    x_ld s21 o24 (5 + x3) fun v25 =>
    if r22 = v25 then (
    x_calc s21 (f_X11_of n 0 x2 (20 + x3) (x_c s21)) fun r27 s26 =>
    x_o s26 x0 12 <|
    x_call (F_X12_lean n x0 x2 x3 s26) fun r29 s28 =>
    if r27 = r29 then (
    F_X12_isSame_L101 n x0 x2 k157 j (x3 + 1) s28)
    else (
    some (0, s28)))
    else (
    some (0, s21)))
    else (
    k157 s0)
set_option maxRecDepth 100000 in
set_option maxHeartbeats 4000000 in
def F_X12_isSame_L163 (n : Nat) (x0 : Nat) (x2 : Int32) (k199 : x_U → Option (Int32 × x_U)) : Nat → Int32 → x_U → Option (Int32 × x_U)
  | 0, _, _ => none
  | j + 1, x3, s0 =>
    if x3 < 25 then (
    x_calc s0 (f_X11_of n 0 x2 (30 + x3) (x_c s0)) fun r35 s34 =>
    x_gi s34 x0 12 3 fun v36 =>
    x_o s34 x0 12 <|
    x_call (F_X12_risk n x0 x2 x3 v36 s34) fun r38 s37 =>
    if r35 = r38 then (
    F_X12_isSame_L163 n x0 x2 k199 j (x3 + 4) s37)
    else (
    some (0, s37)))
    else (
    k199 s0)
set_option maxRecDepth 100000 in
set_option maxHeartbeats 4000000 in
def F_X12_isSame_L2 (n : Nat) (x0 : Nat) (k205 : x_U → Option (Int32 × x_U)) : Nat → Int32 → x_U → Option (Int32 × x_U)
  | 0, _, _ => none
  | j + 1, x2, s0 =>
    x_gi s0 x0 12 7 fun v1 =>
    if x2 < v1 then (
    F_X12_isSame_L12 n x0 x2 (fun  (s7 : x_U) =>
    x_calc s7 (f_X11_of n 0 x2 5 (x_c s7)) fun r9 s8 =>
    x_o s8 x0 12 <|
    x_call (F_X12_need n x0 x2 s8) fun r11 s10 =>
    if r9 = r11 then (
    x_calc s10 (f_X11_of n 0 x2 6 (x_c s10)) fun r14 s13 =>
    if r14 = (-2) then (
    x_gi s13 x0 12 8 fun v15 =>
    x_calc s13 (f_X11_of n 0 x2 (10 + v15) (x_c s13)) fun r17 s16 =>
    if r17 = (-2) then (
    x_calc s16 (f_X11_of n 0 x2 30 (x_c s16)) fun r19 s18 =>
    if r19 = (-2) then (
    F_X12_isSame_L101 n x0 x2 (fun  (s31 : x_U) =>
    x_rem x2 3 fun v32 =>
    x_nm (1 + v32) fun v33 =>
    F_X12_isSame_L163 n x0 x2 (fun  (s40 : x_U) =>
    F_X12_isSame_L2 n x0 k205 j (x2 + 1) s40) n v33 s31) n 0 s18)
    else (
    some (0, s18)))
    else (
    some (0, s16)))
    else (
    some (0, s13)))
    else (
    some (0, s10))) n 0 s0)
    else (
    k205 s0)
set_option maxRecDepth 100000 in
set_option maxHeartbeats 4000000 in
def F_X12_isSame_L217 (n : Nat) (x0 : Nat) (x2 : Int32) (k247 : x_U → Option (Int32 × x_U)) : Nat → Int32 → x_U → Option (Int32 × x_U)
  | 0, _, _ => none
  | j + 1, x3, s0 =>
    if x3 < 3 then (
    x_calc s0 (f_X11_manOf n 0 x2 x3 (x_c s0)) fun r44 s43 =>
    x_gr s43 x0 12 13 fun o45 =>
    x_lr s43 o45 x2 fun o46 =>
    x_ld s43 o46 x3 fun v47 =>
    if r44 = v47 then (
    F_X12_isSame_L217 n x0 x2 k247 j (x3 + 1) s43)
    else (
    some (0, s43)))
    else (
    k247 s0)
set_option maxRecDepth 100000 in
set_option maxHeartbeats 4000000 in
def F_X12_isSame_L207 (n : Nat) (x0 : Nat) (k269 : x_U → Option (Int32 × x_U)) : Nat → Int32 → x_U → Option (Int32 × x_U)
  | 0, _, _ => none
  | j + 1, x2, s0 =>
    x_gi s0 x0 12 8 fun v42 =>
    if x2 < v42 then (
    F_X12_isSame_L217 n x0 x2 (fun  (s48 : x_U) =>
    x_calc s48 (f_X11_manOf n 0 x2 3 (x_c s48)) fun r50 s49 =>
    x_o s49 x0 12 <|
    x_call (F_X12_behind n x0 x2 s49) fun r52 s51 =>
    if r50 = r52 then (
    F_X12_isSame_L207 n x0 k269 j (x2 + 1) s51)
    else (
    some (0, s51))) n 0 s0)
    else (
    k269 s0)
set_option maxRecDepth 100000 in
set_option maxHeartbeats 4000000 in
def F_X12_isSame_L281 (n : Nat) (x0 : Nat) (x2 : Int32) (k311 : x_U → Option (Int32 × x_U)) : Nat → Int32 → x_U → Option (Int32 × x_U)
  | 0, _, _ => none
  | j + 1, x3, s0 =>
    if x3 < 4 then (
    x_calc s0 (f_X11_book n 0 x2 x3 (x_c s0)) fun r57 s56 =>
    x_gr s56 x0 12 16 fun o58 =>
    x_lr s56 o58 x2 fun o59 =>
    x_ld s56 o59 x3 fun v60 =>
    if r57 = v60 then (
    F_X12_isSame_L281 n x0 x2 k311 j (x3 + 1) s56)
    else (
    some (0, s56)))
    else (
    k311 s0)
set_option maxRecDepth 100000 in
set_option maxHeartbeats 4000000 in
def F_X12_isSame_L271 (n : Nat) (x0 : Nat) (k317 : x_U → Option (Int32 × x_U)) : Nat → Int32 → x_U → Option (Int32 × x_U)
  | 0, _, _ => none
  | j + 1, x2, s0 =>
    x_gi s0 x0 12 9 fun v55 =>
    if x2 < v55 then (
    F_X12_isSame_L281 n x0 x2 (fun  (s61 : x_U) =>
    F_X12_isSame_L271 n x0 k317 j (x2 + 1) s61) n 0 s0)
    else (
    k317 s0)
set_option maxRecDepth 100000 in
set_option maxHeartbeats 4000000 in
def F_X12_isSame_L406 (n : Nat) (x0 : Nat) (x2 : Nat) (k431 : x_U → Option (Int32 × x_U)) : Nat → Int32 → x_U → Option (Int32 × x_U)
  | 0, _, _ => none
  | j + 1, x3, s0 =>
    if x3 < 11 then (
    x_calc s0 (f_X11_look n 0 x3 (x_c s0)) fun r90 s89 =>
    x_ld s89 x2 x3 fun v91 =>
    if r90 = v91 then (
    F_X12_isSame_L406 n x0 x2 k431 j (x3 + 1) s89)
    else (
    some (0, s89)))
    else (
    k431 s0)
set_option maxRecDepth 100000 in
set_option maxHeartbeats 4000000 in
def F_X12_isSame (n : Nat) (t : Nat) (s0 : x_U) : Option (Int32 × x_U) :=
  F_X12_isSame_L2 n t (fun  (s41 : x_U) =>
  F_X12_isSame_L207 n t (fun  (s54 : x_U) =>
  F_X12_isSame_L271 n t (fun  (s62 : x_U) =>
  x_nwa s62 0 11 fun o63 s64 =>
  x_gi s64 t 12 7 fun v65 =>
  x_st s64 o63 0 v65 fun s66 =>
  x_gi s66 t 12 8 fun v67 =>
  x_st s66 o63 1 v67 fun s68 =>
  x_gi s68 t 12 1 fun v69 =>
  x_st s68 o63 2 v69 fun s70 =>
  x_gi s70 t 12 6 fun v71 =>
  x_st s70 o63 3 v71 fun s72 =>
  x_gi s72 t 12 2 fun v73 =>
  x_st s72 o63 4 v73 fun s74 =>
  x_gi s74 t 12 3 fun v75 =>
  x_st s74 o63 5 v75 fun s76 =>
  x_gi s76 t 12 4 fun v77 =>
  x_st s76 o63 6 v77 fun s78 =>
  x_gi s78 t 12 5 fun v79 =>
  x_st s78 o63 7 v79 fun s80 =>
  x_o s80 t 12 <|
  x_call (F_X12_lame n t s80) fun r82 s81 =>
  x_st s81 o63 8 r82 fun s84 =>
  x_gi s84 t 12 9 fun v85 =>
  x_st s84 o63 9 v85 fun s86 =>
  x_gi s86 t 12 0 fun v87 =>
  x_st s86 o63 10 v87 fun s88 =>
  F_X12_isSame_L406 n t o63 (fun  (s92 : x_U) =>
  x_gi s92 t 12 7 fun v93 =>
  x_calc s92 (f_X11_of n 0 v93 0 (x_c s92)) fun r95 s94 =>
  if r95 = (-2) then (
  x_gi s94 t 12 8 fun v96 =>
  x_calc s94 (f_X11_manOf n 0 v96 0 (x_c s94)) fun r98 s97 =>
  if r98 = (-1) then (
  x_gi s97 t 12 9 fun v99 =>
  x_calc s97 (f_X11_book n 0 v99 0 (x_c s97)) fun r101 s100 =>
  if r101 = (-2) then (
  x_calc s100 (f_X11_look n 0 12 (x_c s100)) fun r103 s102 =>
  x_gi s102 t 12 10 fun v104 =>
  if r103 = v104 then (
  x_calc s102 (f_X11_look n 0 13 (x_c s102)) fun r106 s105 =>
  x_gr s105 t 12 14 fun o107 =>
  x_len s105 o107 fun v108 =>
  if r106 = v108 then (
  x_calc s105 (f_X11_look n 0 14 (x_c s105)) fun r110 s109 =>
  x_gr s109 t 12 15 fun o111 =>
  x_len s109 o111 fun v112 =>
  if r110 = v112 then (
  some (1, s109))
  else (
  some (0, s109)))
  else (
  some (0, s105)))
  else (
  some (0, s102)))
  else (
  some (0, s100)))
  else (
  some (0, s97)))
  else (
  some (0, s94))) n 0 s88) n 0 s54) n 0 s41) n 0 s0
set_option maxRecDepth 100000 in
set_option maxHeartbeats 4000000 in
theorem T_X12_isSame_L12 {w : q_Wd} {cx : q_Cx} {M0 : Nat} (hop : w.2.2.2.2.2.1 = none) {n : Nat} {x0 : Nat} {x2 : Int32} {k42 : x_U → Option (Int32 × x_U)} (hk42 : ∀  (s1 : x_U), x_G w cx RX12 "isSame" cX12_isSame 4 (some .boolean) 5 124 M0 x_aI 42 [some (x_v w x0), some (q_rf w 0), some (.int x2), none] [] s1 (k42 s1)) :
    ∀ (j : Nat) (x3 : Int32) (s0 : x_U), x_G w cx RX12 "isSame" cX12_isSame 4 (some .boolean) 5 124 M0 x_aI 12 [some (x_v w x0), some (q_rf w 0), some (.int x2), some (.int x3)] [] s0 (F_X12_isSame_L12 n x0 x2 k42 j x3 s0) := by
  intro j
  induction j with
  | zero =>
    intro _ _
    rw [F_X12_isSame_L12]
    exact x_none
  | succ j ih =>
    intro x3 s0
    rw [F_X12_isSame_L12]
    refine x_iload_n dX12_isSame_12 rfl (pc2 := 13) rfl ?_
    refine x_iconst dX12_isSame_13 ic_5 (pc2 := 14) rfl ?_
    refine x_icmp_ge dX12_isSame_14 (pc1 := 17) (pc2 := 42) rfl rfl (fun _ => ?_) (fun _ => ?_)
    · refine x_aload_n dX12_isSame_17 x_cR rfl (pc2 := 18) rfl ?_
      refine x_iload_n dX12_isSame_18 rfl (pc2 := 19) rfl ?_
      refine x_iload_n dX12_isSame_19 rfl (pc2 := 20) rfl ?_
      refine x_callcI (As := [.int x2, .int x3]) (fun w' => C_X11_of q_kd0) mv_X11_of xl_X12_128 rfl rfl ⟨by decide, by decide⟩ (Nat.le_trans x_s0 (by decide)) dX12_isSame_20 (pc2 := 23) rfl (fun r3 s2 => ?_)
      refine x_aload_n dX12_isSame_23 x_vR rfl (pc2 := 24) rfl ?_
      refine x_getR xf_X12_15 (by decide) rfl dX12_isSame_24 (pc2 := 27) rfl (fun o4 => ?_)
      refine x_iload_n dX12_isSame_27 rfl (pc2 := 28) rfl ?_
      refine x_aald dX12_isSame_28 (pc2 := 29) rfl (fun o5 => ?_)
      refine x_iload_n dX12_isSame_29 rfl (pc2 := 30) rfl ?_
      refine x_iald dX12_isSame_30 (pc2 := 31) rfl (fun v6 => ?_)
      refine x_icmp_eq dX12_isSame_31 (pc1 := 36) (pc2 := 34) rfl rfl (fun _ => ?_) (fun _ => ?_)
      · refine x_iinc dX12_isSame_36 rfl (q_ii ic_1) (by decide) (L2 := [some (x_v w x0), some (q_rf w 0), some (.int x2), some (.int (x3 + 1))]) rfl (pc2 := 39) rfl ?_
        refine x_goto dX12_isSame_39 (pc2 := 12) rfl ?_
        exact ih _ _
      · refine x_iconst dX12_isSame_34 ic_0 (pc2 := 35) rfl ?_
        exact x_nret rfl dX12_isSame_35
    · refine x_Gmask [true, true, true, false] (L2 := [some (x_v w x0), some (q_rf w 0), some (.int x2), none]) rfl ?_
      exact hk42 _
set_option maxRecDepth 100000 in
set_option maxHeartbeats 4000000 in
theorem T_X12_isSame_L101 {w : q_Wd} {cx : q_Cx} {M0 : Nat} (hop : w.2.2.2.2.2.1 = none) {n : Nat} {x0 : Nat} {x2 : Int32} {k157 : x_U → Option (Int32 × x_U)} (hk157 : ∀  (s1 : x_U), x_G w cx RX12 "isSame" cX12_isSame 4 (some .boolean) 5 124 M0 x_aI 157 [some (x_v w x0), some (q_rf w 0), some (.int x2), none] [] s1 (k157 s1)) :
    ∀ (j : Nat) (x3 : Int32) (s0 : x_U), x_G w cx RX12 "isSame" cX12_isSame 4 (some .boolean) 5 124 M0 x_aI 101 [some (x_v w x0), some (q_rf w 0), some (.int x2), some (.int x3)] [] s0 (F_X12_isSame_L101 n x0 x2 k157 j x3 s0) := by
  intro j
  induction j with
  | zero =>
    intro _ _
    rw [F_X12_isSame_L101]
    exact x_none
  | succ j ih =>
    intro x3 s0
    rw [F_X12_isSame_L101]
    refine x_iload_n dX12_isSame_101 rfl (pc2 := 102) rfl ?_
    refine x_aload_n dX12_isSame_102 x_vR rfl (pc2 := 103) rfl ?_
    refine x_getI xf_X12_53 (by decide) rfl dX12_isSame_103 (pc2 := 106) rfl (fun v20 => ?_)
    refine x_icmp_ge dX12_isSame_106 (pc1 := 109) (pc2 := 157) rfl rfl (fun _ => ?_) (fun _ => ?_)
    · refine x_aload_n dX12_isSame_109 x_cR rfl (pc2 := 110) rfl ?_
      refine x_iload_n dX12_isSame_110 rfl (pc2 := 111) rfl ?_
      refine x_bipush dX12_isSame_111 bp_10 (pc2 := 113) rfl ?_
      refine x_iload_n dX12_isSame_113 rfl (pc2 := 114) rfl ?_
      refine x_iadd dX12_isSame_114 (pc2 := 115) rfl ?_
      refine x_callcI (As := [.int x2, .int (10 + x3)]) (fun w' => C_X11_of q_kd0) mv_X11_of xl_X12_128 rfl rfl ⟨by decide, by decide⟩ (Nat.le_trans x_s0 (by decide)) dX12_isSame_115 (pc2 := 118) rfl (fun r22 s21 => ?_)
      refine x_aload_n dX12_isSame_118 x_vR rfl (pc2 := 119) rfl ?_
      refine x_getR xf_X12_15 (by decide) rfl dX12_isSame_119 (pc2 := 122) rfl (fun o23 => ?_)
      refine x_iload_n dX12_isSame_122 rfl (pc2 := 123) rfl ?_
      refine x_aald dX12_isSame_123 (pc2 := 124) rfl (fun o24 => ?_)
      refine x_iconst dX12_isSame_124 ic_5 (pc2 := 125) rfl ?_
      refine x_iload_n dX12_isSame_125 rfl (pc2 := 126) rfl ?_
      refine x_iadd dX12_isSame_126 (pc2 := 127) rfl ?_
      refine x_iald dX12_isSame_127 (pc2 := 128) rfl (fun v25 => ?_)
      refine x_icmp_ne dX12_isSame_128 (pc1 := 131) (pc2 := 149) rfl rfl (fun _ => ?_) (fun _ => ?_)
      · refine x_aload_n dX12_isSame_131 x_cR rfl (pc2 := 132) rfl ?_
        refine x_iload_n dX12_isSame_132 rfl (pc2 := 133) rfl ?_
        refine x_bipush dX12_isSame_133 bp_20 (pc2 := 135) rfl ?_
        refine x_iload_n dX12_isSame_135 rfl (pc2 := 136) rfl ?_
        refine x_iadd dX12_isSame_136 (pc2 := 137) rfl ?_
        refine x_callcI (As := [.int x2, .int (20 + x3)]) (fun w' => C_X11_of q_kd0) mv_X11_of xl_X12_128 rfl rfl ⟨by decide, by decide⟩ (Nat.le_trans x_s0 (by decide)) dX12_isSame_137 (pc2 := 140) rfl (fun r27 s26 => ?_)
        refine x_aload_n dX12_isSame_140 x_vR rfl (pc2 := 141) rfl ?_
        refine x_iload_n dX12_isSame_141 rfl (pc2 := 142) rfl ?_
        refine x_iload_n dX12_isSame_142 rfl (pc2 := 143) rfl ?_
        refine x_oo (ci := 12) (fun hk30 => ?_)
        refine x_callVI (As := [.int x2, .int x3]) C2_X12_lean xm_X12_lean (fun h => by first | rfl | cases h) xl_X12_89 hk30 rfl rfl ⟨by decide, by decide⟩ (Nat.le_trans (x_sm rfl x_s0) (by decide)) dX12_isSame_143 (pc2 := 146) rfl (fun r29 s28 => ?_) hop
        refine x_icmp_eq dX12_isSame_146 (pc1 := 151) (pc2 := 149) rfl rfl (fun _ => ?_) (fun _ => ?_)
        · refine x_iinc dX12_isSame_151 rfl (q_ii ic_1) (by decide) (L2 := [some (x_v w x0), some (q_rf w 0), some (.int x2), some (.int (x3 + 1))]) rfl (pc2 := 154) rfl ?_
          refine x_goto dX12_isSame_154 (pc2 := 101) rfl ?_
          exact ih _ _
        · refine x_iconst dX12_isSame_149 ic_0 (pc2 := 150) rfl ?_
          exact x_nret rfl dX12_isSame_150
      · refine x_iconst dX12_isSame_149 ic_0 (pc2 := 150) rfl ?_
        exact x_nret rfl dX12_isSame_150
    · refine x_Gmask [true, true, true, false] (L2 := [some (x_v w x0), some (q_rf w 0), some (.int x2), none]) rfl ?_
      exact hk157 _
set_option maxRecDepth 100000 in
set_option maxHeartbeats 4000000 in
theorem T_X12_isSame_L163 {w : q_Wd} {cx : q_Cx} {M0 : Nat} (hop : w.2.2.2.2.2.1 = none) {n : Nat} {x0 : Nat} {x2 : Int32} {k199 : x_U → Option (Int32 × x_U)} (hk199 : ∀  (s1 : x_U), x_G w cx RX12 "isSame" cX12_isSame 4 (some .boolean) 5 124 M0 x_aI 199 [some (x_v w x0), some (q_rf w 0), some (.int x2), none] [] s1 (k199 s1)) :
    ∀ (j : Nat) (x3 : Int32) (s0 : x_U), x_G w cx RX12 "isSame" cX12_isSame 4 (some .boolean) 5 124 M0 x_aI 163 [some (x_v w x0), some (q_rf w 0), some (.int x2), some (.int x3)] [] s0 (F_X12_isSame_L163 n x0 x2 k199 j x3 s0) := by
  intro j
  induction j with
  | zero =>
    intro _ _
    rw [F_X12_isSame_L163]
    exact x_none
  | succ j ih =>
    intro x3 s0
    rw [F_X12_isSame_L163]
    refine x_iload_n dX12_isSame_163 rfl (pc2 := 164) rfl ?_
    refine x_bipush dX12_isSame_164 bp_25 (pc2 := 166) rfl ?_
    refine x_icmp_ge dX12_isSame_166 (pc1 := 169) (pc2 := 199) rfl rfl (fun _ => ?_) (fun _ => ?_)
    · refine x_aload_n dX12_isSame_169 x_cR rfl (pc2 := 170) rfl ?_
      refine x_iload_n dX12_isSame_170 rfl (pc2 := 171) rfl ?_
      refine x_bipush dX12_isSame_171 bp_30 (pc2 := 173) rfl ?_
      refine x_iload_n dX12_isSame_173 rfl (pc2 := 174) rfl ?_
      refine x_iadd dX12_isSame_174 (pc2 := 175) rfl ?_
      refine x_callcI (As := [.int x2, .int (30 + x3)]) (fun w' => C_X11_of q_kd0) mv_X11_of xl_X12_128 rfl rfl ⟨by decide, by decide⟩ (Nat.le_trans x_s0 (by decide)) dX12_isSame_175 (pc2 := 178) rfl (fun r35 s34 => ?_)
      refine x_aload_n dX12_isSame_178 x_vR rfl (pc2 := 179) rfl ?_
      refine x_iload_n dX12_isSame_179 rfl (pc2 := 180) rfl ?_
      refine x_iload_n dX12_isSame_180 rfl (pc2 := 181) rfl ?_
      refine x_aload_n dX12_isSame_181 x_vR rfl (pc2 := 182) rfl ?_
      refine x_getI xf_X12_7 (by decide) rfl dX12_isSame_182 (pc2 := 185) rfl (fun v36 => ?_)
      refine x_oo (ci := 12) (fun hk39 => ?_)
      refine x_callVI (As := [.int x2, .int x3, .int v36]) C2_X12_risk xm_X12_risk (fun h => by first | rfl | cases h) xl_X12_118 hk39 rfl rfl ⟨by decide, by decide⟩ (Nat.le_trans (x_sm rfl x_s0) (by decide)) dX12_isSame_185 (pc2 := 188) rfl (fun r38 s37 => ?_) hop
      refine x_icmp_eq dX12_isSame_188 (pc1 := 193) (pc2 := 191) rfl rfl (fun _ => ?_) (fun _ => ?_)
      · refine x_iinc dX12_isSame_193 rfl (q_ii ic_4) (by decide) (L2 := [some (x_v w x0), some (q_rf w 0), some (.int x2), some (.int (x3 + 4))]) rfl (pc2 := 196) rfl ?_
        refine x_goto dX12_isSame_196 (pc2 := 163) rfl ?_
        exact ih _ _
      · refine x_iconst dX12_isSame_191 ic_0 (pc2 := 192) rfl ?_
        exact x_nret rfl dX12_isSame_192
    · refine x_Gmask [true, true, true, false] (L2 := [some (x_v w x0), some (q_rf w 0), some (.int x2), none]) rfl ?_
      exact hk199 _
set_option maxRecDepth 100000 in
set_option maxHeartbeats 4000000 in
theorem T_X12_isSame_L2 {w : q_Wd} {cx : q_Cx} {M0 : Nat} (hop : w.2.2.2.2.2.1 = none) {n : Nat} {x0 : Nat} {k205 : x_U → Option (Int32 × x_U)} (hk205 : ∀  (s1 : x_U), x_G w cx RX12 "isSame" cX12_isSame 4 (some .boolean) 5 124 M0 x_aI 205 [some (x_v w x0), some (q_rf w 0), none, none] [] s1 (k205 s1)) :
    ∀ (j : Nat) (x2 : Int32) (s0 : x_U), x_G w cx RX12 "isSame" cX12_isSame 4 (some .boolean) 5 124 M0 x_aI 2 [some (x_v w x0), some (q_rf w 0), some (.int x2), none] [] s0 (F_X12_isSame_L2 n x0 k205 j x2 s0) := by
  intro j
  induction j with
  | zero =>
    intro _ _
    rw [F_X12_isSame_L2]
    exact x_none
  | succ j ih =>
    intro x2 s0
    rw [F_X12_isSame_L2]
    refine x_iload_n dX12_isSame_2 rfl (pc2 := 3) rfl ?_
    refine x_aload_n dX12_isSame_3 x_vR rfl (pc2 := 4) rfl ?_
    refine x_getI xf_X12_50 (by decide) rfl dX12_isSame_4 (pc2 := 7) rfl (fun v1 => ?_)
    refine x_icmp_ge dX12_isSame_7 (pc1 := 10) (pc2 := 205) rfl rfl (fun _ => ?_) (fun _ => ?_)
    · refine x_iconst dX12_isSame_10 ic_0 (pc2 := 11) rfl ?_
      refine x_istore_n dX12_isSame_11 (by decide) (L2 := [some (x_v w x0), some (q_rf w 0), some (.int x2), some (.int 0)]) rfl (pc2 := 12) rfl ?_
      refine T_X12_isSame_L12 hop (fun s7 => ?_) n _ _
      refine x_aload_n dX12_isSame_42 x_cR rfl (pc2 := 43) rfl ?_
      refine x_iload_n dX12_isSame_43 rfl (pc2 := 44) rfl ?_
      refine x_iconst dX12_isSame_44 ic_5 (pc2 := 45) rfl ?_
      refine x_callcI (As := [.int x2, .int 5]) (fun w' => C_X11_of q_kd0) mv_X11_of xl_X12_128 rfl rfl ⟨by decide, by decide⟩ (Nat.le_trans x_s0 (by decide)) dX12_isSame_45 (pc2 := 48) rfl (fun r9 s8 => ?_)
      refine x_aload_n dX12_isSame_48 x_vR rfl (pc2 := 49) rfl ?_
      refine x_iload_n dX12_isSame_49 rfl (pc2 := 50) rfl ?_
      refine x_oo (ci := 12) (fun hk12 => ?_)
      refine x_callVI (As := [.int x2]) C2_X12_need xm_X12_need (fun h => by first | rfl | cases h) xl_X12_93 hk12 rfl rfl ⟨by decide, by decide⟩ (Nat.le_trans (x_sm rfl x_s0) (by decide)) dX12_isSame_50 (pc2 := 53) rfl (fun r11 s10 => ?_) hop
      refine x_icmp_ne dX12_isSame_53 (pc1 := 56) (pc2 := 97) rfl rfl (fun _ => ?_) (fun _ => ?_)
      · refine x_aload_n dX12_isSame_56 x_cR rfl (pc2 := 57) rfl ?_
        refine x_iload_n dX12_isSame_57 rfl (pc2 := 58) rfl ?_
        refine x_bipush dX12_isSame_58 bp_6 (pc2 := 60) rfl ?_
        refine x_callcI (As := [.int x2, .int 6]) (fun w' => C_X11_of q_kd0) mv_X11_of xl_X12_128 rfl rfl ⟨by decide, by decide⟩ (Nat.le_trans x_s0 (by decide)) dX12_isSame_60 (pc2 := 63) rfl (fun r14 s13 => ?_)
        refine x_bipush dX12_isSame_63 bp_m2 (pc2 := 65) rfl ?_
        refine x_icmp_ne dX12_isSame_65 (pc1 := 68) (pc2 := 97) rfl rfl (fun _ => ?_) (fun _ => ?_)
        · refine x_aload_n dX12_isSame_68 x_cR rfl (pc2 := 69) rfl ?_
          refine x_iload_n dX12_isSame_69 rfl (pc2 := 70) rfl ?_
          refine x_bipush dX12_isSame_70 bp_10 (pc2 := 72) rfl ?_
          refine x_aload_n dX12_isSame_72 x_vR rfl (pc2 := 73) rfl ?_
          refine x_getI xf_X12_53 (by decide) rfl dX12_isSame_73 (pc2 := 76) rfl (fun v15 => ?_)
          refine x_iadd dX12_isSame_76 (pc2 := 77) rfl ?_
          refine x_callcI (As := [.int x2, .int (10 + v15)]) (fun w' => C_X11_of q_kd0) mv_X11_of xl_X12_128 rfl rfl ⟨by decide, by decide⟩ (Nat.le_trans x_s0 (by decide)) dX12_isSame_77 (pc2 := 80) rfl (fun r17 s16 => ?_)
          refine x_bipush dX12_isSame_80 bp_m2 (pc2 := 82) rfl ?_
          refine x_icmp_ne dX12_isSame_82 (pc1 := 85) (pc2 := 97) rfl rfl (fun _ => ?_) (fun _ => ?_)
          · refine x_aload_n dX12_isSame_85 x_cR rfl (pc2 := 86) rfl ?_
            refine x_iload_n dX12_isSame_86 rfl (pc2 := 87) rfl ?_
            refine x_bipush dX12_isSame_87 bp_30 (pc2 := 89) rfl ?_
            refine x_callcI (As := [.int x2, .int 30]) (fun w' => C_X11_of q_kd0) mv_X11_of xl_X12_128 rfl rfl ⟨by decide, by decide⟩ (Nat.le_trans x_s0 (by decide)) dX12_isSame_89 (pc2 := 92) rfl (fun r19 s18 => ?_)
            refine x_bipush dX12_isSame_92 bp_m2 (pc2 := 94) rfl ?_
            refine x_icmp_eq dX12_isSame_94 (pc1 := 99) (pc2 := 97) rfl rfl (fun _ => ?_) (fun _ => ?_)
            · refine x_iconst dX12_isSame_99 ic_0 (pc2 := 100) rfl ?_
              refine x_istore_n dX12_isSame_100 (by decide) (L2 := [some (x_v w x0), some (q_rf w 0), some (.int x2), some (.int 0)]) rfl (pc2 := 101) rfl ?_
              refine T_X12_isSame_L101 hop (fun s31 => ?_) n _ _
              refine x_iconst dX12_isSame_157 ic_1 (pc2 := 158) rfl ?_
              refine x_iload_n dX12_isSame_158 rfl (pc2 := 159) rfl ?_
              refine x_iconst dX12_isSame_159 ic_3 (pc2 := 160) rfl ?_
              refine x_irem dX12_isSame_160 (pc2 := 161) rfl (fun v32 => ?_)
              refine x_iadd dX12_isSame_161 (pc2 := 162) rfl ?_
              refine x_gnm (fun v33 => ?_)
              refine x_istore_n dX12_isSame_162 (by decide) (L2 := [some (x_v w x0), some (q_rf w 0), some (.int x2), some (.int v33)]) rfl (pc2 := 163) rfl ?_
              refine T_X12_isSame_L163 hop (fun s40 => ?_) n _ _
              refine x_iinc dX12_isSame_199 rfl (q_ii ic_1) (by decide) (L2 := [some (x_v w x0), some (q_rf w 0), some (.int (x2 + 1)), none]) rfl (pc2 := 202) rfl ?_
              refine x_goto dX12_isSame_202 (pc2 := 2) rfl ?_
              exact ih _ _
            · refine x_iconst dX12_isSame_97 ic_0 (pc2 := 98) rfl ?_
              exact x_nret rfl dX12_isSame_98
          · refine x_iconst dX12_isSame_97 ic_0 (pc2 := 98) rfl ?_
            exact x_nret rfl dX12_isSame_98
        · refine x_iconst dX12_isSame_97 ic_0 (pc2 := 98) rfl ?_
          exact x_nret rfl dX12_isSame_98
      · refine x_iconst dX12_isSame_97 ic_0 (pc2 := 98) rfl ?_
        exact x_nret rfl dX12_isSame_98
    · refine x_Gmask [true, true, false, true] (L2 := [some (x_v w x0), some (q_rf w 0), none, none]) rfl ?_
      exact hk205 _
set_option maxRecDepth 100000 in
set_option maxHeartbeats 4000000 in
theorem T_X12_isSame_L217 {w : q_Wd} {cx : q_Cx} {M0 : Nat} (hop : w.2.2.2.2.2.1 = none) {n : Nat} {x0 : Nat} {x2 : Int32} {k247 : x_U → Option (Int32 × x_U)} (hk247 : ∀  (s1 : x_U), x_G w cx RX12 "isSame" cX12_isSame 4 (some .boolean) 5 124 M0 x_aI 247 [some (x_v w x0), some (q_rf w 0), some (.int x2), none] [] s1 (k247 s1)) :
    ∀ (j : Nat) (x3 : Int32) (s0 : x_U), x_G w cx RX12 "isSame" cX12_isSame 4 (some .boolean) 5 124 M0 x_aI 217 [some (x_v w x0), some (q_rf w 0), some (.int x2), some (.int x3)] [] s0 (F_X12_isSame_L217 n x0 x2 k247 j x3 s0) := by
  intro j
  induction j with
  | zero =>
    intro _ _
    rw [F_X12_isSame_L217]
    exact x_none
  | succ j ih =>
    intro x3 s0
    rw [F_X12_isSame_L217]
    refine x_iload_n dX12_isSame_217 rfl (pc2 := 218) rfl ?_
    refine x_iconst dX12_isSame_218 ic_3 (pc2 := 219) rfl ?_
    refine x_icmp_ge dX12_isSame_219 (pc1 := 222) (pc2 := 247) rfl rfl (fun _ => ?_) (fun _ => ?_)
    · refine x_aload_n dX12_isSame_222 x_cR rfl (pc2 := 223) rfl ?_
      refine x_iload_n dX12_isSame_223 rfl (pc2 := 224) rfl ?_
      refine x_iload_n dX12_isSame_224 rfl (pc2 := 225) rfl ?_
      refine x_callcI (As := [.int x2, .int x3]) (fun w' => C_X11_manOf q_kd0) mv_X11_manOf xl_X12_133 rfl rfl ⟨by decide, by decide⟩ (Nat.le_trans x_s0 (by decide)) dX12_isSame_225 (pc2 := 228) rfl (fun r44 s43 => ?_)
      refine x_aload_n dX12_isSame_228 x_vR rfl (pc2 := 229) rfl ?_
      refine x_getR xf_X12_19 (by decide) rfl dX12_isSame_229 (pc2 := 232) rfl (fun o45 => ?_)
      refine x_iload_n dX12_isSame_232 rfl (pc2 := 233) rfl ?_
      refine x_aald dX12_isSame_233 (pc2 := 234) rfl (fun o46 => ?_)
      refine x_iload_n dX12_isSame_234 rfl (pc2 := 235) rfl ?_
      refine x_iald dX12_isSame_235 (pc2 := 236) rfl (fun v47 => ?_)
      refine x_icmp_eq dX12_isSame_236 (pc1 := 241) (pc2 := 239) rfl rfl (fun _ => ?_) (fun _ => ?_)
      · refine x_iinc dX12_isSame_241 rfl (q_ii ic_1) (by decide) (L2 := [some (x_v w x0), some (q_rf w 0), some (.int x2), some (.int (x3 + 1))]) rfl (pc2 := 244) rfl ?_
        refine x_goto dX12_isSame_244 (pc2 := 217) rfl ?_
        exact ih _ _
      · refine x_iconst dX12_isSame_239 ic_0 (pc2 := 240) rfl ?_
        exact x_nret rfl dX12_isSame_240
    · refine x_Gmask [true, true, true, false] (L2 := [some (x_v w x0), some (q_rf w 0), some (.int x2), none]) rfl ?_
      exact hk247 _
set_option maxRecDepth 100000 in
set_option maxHeartbeats 4000000 in
theorem T_X12_isSame_L207 {w : q_Wd} {cx : q_Cx} {M0 : Nat} (hop : w.2.2.2.2.2.1 = none) {n : Nat} {x0 : Nat} {k269 : x_U → Option (Int32 × x_U)} (hk269 : ∀  (s1 : x_U), x_G w cx RX12 "isSame" cX12_isSame 4 (some .boolean) 5 124 M0 x_aI 269 [some (x_v w x0), some (q_rf w 0), none, none] [] s1 (k269 s1)) :
    ∀ (j : Nat) (x2 : Int32) (s0 : x_U), x_G w cx RX12 "isSame" cX12_isSame 4 (some .boolean) 5 124 M0 x_aI 207 [some (x_v w x0), some (q_rf w 0), some (.int x2), none] [] s0 (F_X12_isSame_L207 n x0 k269 j x2 s0) := by
  intro j
  induction j with
  | zero =>
    intro _ _
    rw [F_X12_isSame_L207]
    exact x_none
  | succ j ih =>
    intro x2 s0
    rw [F_X12_isSame_L207]
    refine x_iload_n dX12_isSame_207 rfl (pc2 := 208) rfl ?_
    refine x_aload_n dX12_isSame_208 x_vR rfl (pc2 := 209) rfl ?_
    refine x_getI xf_X12_53 (by decide) rfl dX12_isSame_209 (pc2 := 212) rfl (fun v42 => ?_)
    refine x_icmp_ge dX12_isSame_212 (pc1 := 215) (pc2 := 269) rfl rfl (fun _ => ?_) (fun _ => ?_)
    · refine x_iconst dX12_isSame_215 ic_0 (pc2 := 216) rfl ?_
      refine x_istore_n dX12_isSame_216 (by decide) (L2 := [some (x_v w x0), some (q_rf w 0), some (.int x2), some (.int 0)]) rfl (pc2 := 217) rfl ?_
      refine T_X12_isSame_L217 hop (fun s48 => ?_) n _ _
      refine x_aload_n dX12_isSame_247 x_cR rfl (pc2 := 248) rfl ?_
      refine x_iload_n dX12_isSame_248 rfl (pc2 := 249) rfl ?_
      refine x_iconst dX12_isSame_249 ic_3 (pc2 := 250) rfl ?_
      refine x_callcI (As := [.int x2, .int 3]) (fun w' => C_X11_manOf q_kd0) mv_X11_manOf xl_X12_133 rfl rfl ⟨by decide, by decide⟩ (Nat.le_trans x_s0 (by decide)) dX12_isSame_250 (pc2 := 253) rfl (fun r50 s49 => ?_)
      refine x_aload_n dX12_isSame_253 x_vR rfl (pc2 := 254) rfl ?_
      refine x_iload_n dX12_isSame_254 rfl (pc2 := 255) rfl ?_
      refine x_oo (ci := 12) (fun hk53 => ?_)
      refine x_callVI (As := [.int x2]) C2_X12_behind xm_X12_behind (fun h => by first | rfl | cases h) xl_X12_71 hk53 rfl rfl ⟨by decide, by decide⟩ (Nat.le_trans (x_sm rfl x_s0) (by decide)) dX12_isSame_255 (pc2 := 258) rfl (fun r52 s51 => ?_) hop
      refine x_icmp_eq dX12_isSame_258 (pc1 := 263) (pc2 := 261) rfl rfl (fun _ => ?_) (fun _ => ?_)
      · refine x_iinc dX12_isSame_263 rfl (q_ii ic_1) (by decide) (L2 := [some (x_v w x0), some (q_rf w 0), some (.int (x2 + 1)), none]) rfl (pc2 := 266) rfl ?_
        refine x_goto dX12_isSame_266 (pc2 := 207) rfl ?_
        exact ih _ _
      · refine x_iconst dX12_isSame_261 ic_0 (pc2 := 262) rfl ?_
        exact x_nret rfl dX12_isSame_262
    · refine x_Gmask [true, true, false, true] (L2 := [some (x_v w x0), some (q_rf w 0), none, none]) rfl ?_
      exact hk269 _
set_option maxRecDepth 100000 in
set_option maxHeartbeats 4000000 in
theorem T_X12_isSame_L281 {w : q_Wd} {cx : q_Cx} {M0 : Nat} (hop : w.2.2.2.2.2.1 = none) {n : Nat} {x0 : Nat} {x2 : Int32} {k311 : x_U → Option (Int32 × x_U)} (hk311 : ∀  (s1 : x_U), x_G w cx RX12 "isSame" cX12_isSame 4 (some .boolean) 5 124 M0 x_aI 311 [some (x_v w x0), some (q_rf w 0), some (.int x2), none] [] s1 (k311 s1)) :
    ∀ (j : Nat) (x3 : Int32) (s0 : x_U), x_G w cx RX12 "isSame" cX12_isSame 4 (some .boolean) 5 124 M0 x_aI 281 [some (x_v w x0), some (q_rf w 0), some (.int x2), some (.int x3)] [] s0 (F_X12_isSame_L281 n x0 x2 k311 j x3 s0) := by
  intro j
  induction j with
  | zero =>
    intro _ _
    rw [F_X12_isSame_L281]
    exact x_none
  | succ j ih =>
    intro x3 s0
    rw [F_X12_isSame_L281]
    refine x_iload_n dX12_isSame_281 rfl (pc2 := 282) rfl ?_
    refine x_iconst dX12_isSame_282 ic_4 (pc2 := 283) rfl ?_
    refine x_icmp_ge dX12_isSame_283 (pc1 := 286) (pc2 := 311) rfl rfl (fun _ => ?_) (fun _ => ?_)
    · refine x_aload_n dX12_isSame_286 x_cR rfl (pc2 := 287) rfl ?_
      refine x_iload_n dX12_isSame_287 rfl (pc2 := 288) rfl ?_
      refine x_iload_n dX12_isSame_288 rfl (pc2 := 289) rfl ?_
      refine x_callcI (As := [.int x2, .int x3]) (fun w' => C_X11_book q_kd0) mv_X11_book xl_X12_136 rfl rfl ⟨by decide, by decide⟩ (Nat.le_trans x_s0 (by decide)) dX12_isSame_289 (pc2 := 292) rfl (fun r57 s56 => ?_)
      refine x_aload_n dX12_isSame_292 x_vR rfl (pc2 := 293) rfl ?_
      refine x_getR xf_X12_28 (by decide) rfl dX12_isSame_293 (pc2 := 296) rfl (fun o58 => ?_)
      refine x_iload_n dX12_isSame_296 rfl (pc2 := 297) rfl ?_
      refine x_aald dX12_isSame_297 (pc2 := 298) rfl (fun o59 => ?_)
      refine x_iload_n dX12_isSame_298 rfl (pc2 := 299) rfl ?_
      refine x_iald dX12_isSame_299 (pc2 := 300) rfl (fun v60 => ?_)
      refine x_icmp_eq dX12_isSame_300 (pc1 := 305) (pc2 := 303) rfl rfl (fun _ => ?_) (fun _ => ?_)
      · refine x_iinc dX12_isSame_305 rfl (q_ii ic_1) (by decide) (L2 := [some (x_v w x0), some (q_rf w 0), some (.int x2), some (.int (x3 + 1))]) rfl (pc2 := 308) rfl ?_
        refine x_goto dX12_isSame_308 (pc2 := 281) rfl ?_
        exact ih _ _
      · refine x_iconst dX12_isSame_303 ic_0 (pc2 := 304) rfl ?_
        exact x_nret rfl dX12_isSame_304
    · refine x_Gmask [true, true, true, false] (L2 := [some (x_v w x0), some (q_rf w 0), some (.int x2), none]) rfl ?_
      exact hk311 _
set_option maxRecDepth 100000 in
set_option maxHeartbeats 4000000 in
theorem T_X12_isSame_L271 {w : q_Wd} {cx : q_Cx} {M0 : Nat} (hop : w.2.2.2.2.2.1 = none) {n : Nat} {x0 : Nat} {k317 : x_U → Option (Int32 × x_U)} (hk317 : ∀  (s1 : x_U), x_G w cx RX12 "isSame" cX12_isSame 4 (some .boolean) 5 124 M0 x_aI 317 [some (x_v w x0), some (q_rf w 0), none, none] [] s1 (k317 s1)) :
    ∀ (j : Nat) (x2 : Int32) (s0 : x_U), x_G w cx RX12 "isSame" cX12_isSame 4 (some .boolean) 5 124 M0 x_aI 271 [some (x_v w x0), some (q_rf w 0), some (.int x2), none] [] s0 (F_X12_isSame_L271 n x0 k317 j x2 s0) := by
  intro j
  induction j with
  | zero =>
    intro _ _
    rw [F_X12_isSame_L271]
    exact x_none
  | succ j ih =>
    intro x2 s0
    rw [F_X12_isSame_L271]
    refine x_iload_n dX12_isSame_271 rfl (pc2 := 272) rfl ?_
    refine x_aload_n dX12_isSame_272 x_vR rfl (pc2 := 273) rfl ?_
    refine x_getI xf_X12_56 (by decide) rfl dX12_isSame_273 (pc2 := 276) rfl (fun v55 => ?_)
    refine x_icmp_ge dX12_isSame_276 (pc1 := 279) (pc2 := 317) rfl rfl (fun _ => ?_) (fun _ => ?_)
    · refine x_iconst dX12_isSame_279 ic_0 (pc2 := 280) rfl ?_
      refine x_istore_n dX12_isSame_280 (by decide) (L2 := [some (x_v w x0), some (q_rf w 0), some (.int x2), some (.int 0)]) rfl (pc2 := 281) rfl ?_
      refine T_X12_isSame_L281 hop (fun s61 => ?_) n _ _
      refine x_iinc dX12_isSame_311 rfl (q_ii ic_1) (by decide) (L2 := [some (x_v w x0), some (q_rf w 0), some (.int (x2 + 1)), none]) rfl (pc2 := 314) rfl ?_
      refine x_goto dX12_isSame_314 (pc2 := 271) rfl ?_
      exact ih _ _
    · refine x_Gmask [true, true, false, true] (L2 := [some (x_v w x0), some (q_rf w 0), none, none]) rfl ?_
      exact hk317 _
set_option maxRecDepth 100000 in
set_option maxHeartbeats 4000000 in
theorem T_X12_isSame_L406 {w : q_Wd} {cx : q_Cx} {M0 : Nat} (hop : w.2.2.2.2.2.1 = none) {n : Nat} {x0 : Nat} {x2 : Nat} {k431 : x_U → Option (Int32 × x_U)} (hk431 : ∀  (s1 : x_U), x_G w cx RX12 "isSame" cX12_isSame 4 (some .boolean) 5 124 M0 x_aI 431 [some (x_v w x0), some (q_rf w 0), none, none] [] s1 (k431 s1)) :
    ∀ (j : Nat) (x3 : Int32) (s0 : x_U), x_G w cx RX12 "isSame" cX12_isSame 4 (some .boolean) 5 124 M0 x_aI 406 [some (x_v w x0), some (q_rf w 0), some (x_v w x2), some (.int x3)] [] s0 (F_X12_isSame_L406 n x0 x2 k431 j x3 s0) := by
  intro j
  induction j with
  | zero =>
    intro _ _
    rw [F_X12_isSame_L406]
    exact x_none
  | succ j ih =>
    intro x3 s0
    rw [F_X12_isSame_L406]
    refine x_iload_n dX12_isSame_406 rfl (pc2 := 407) rfl ?_
    refine x_bipush dX12_isSame_407 bp_11 (pc2 := 409) rfl ?_
    refine x_icmp_ge dX12_isSame_409 (pc1 := 412) (pc2 := 431) rfl rfl (fun _ => ?_) (fun _ => ?_)
    · refine x_aload_n dX12_isSame_412 x_cR rfl (pc2 := 413) rfl ?_
      refine x_iload_n dX12_isSame_413 rfl (pc2 := 414) rfl ?_
      refine x_callcI (As := [.int x3]) (fun w' => C_X11_look q_kd0) mv_X11_look xl_X12_143 rfl rfl ⟨by decide, by decide⟩ (Nat.le_trans x_s0 (by decide)) dX12_isSame_414 (pc2 := 417) rfl (fun r90 s89 => ?_)
      refine x_aload_n dX12_isSame_417 x_vR rfl (pc2 := 418) rfl ?_
      refine x_iload_n dX12_isSame_418 rfl (pc2 := 419) rfl ?_
      refine x_iald dX12_isSame_419 (pc2 := 420) rfl (fun v91 => ?_)
      refine x_icmp_eq dX12_isSame_420 (pc1 := 425) (pc2 := 423) rfl rfl (fun _ => ?_) (fun _ => ?_)
      · refine x_iinc dX12_isSame_425 rfl (q_ii ic_1) (by decide) (L2 := [some (x_v w x0), some (q_rf w 0), some (x_v w x2), some (.int (x3 + 1))]) rfl (pc2 := 428) rfl ?_
        refine x_goto dX12_isSame_428 (pc2 := 406) rfl ?_
        exact ih _ _
      · refine x_iconst dX12_isSame_423 ic_0 (pc2 := 424) rfl ?_
        exact x_nret rfl dX12_isSame_424
    · refine x_Gmask [true, true, false, false] (L2 := [some (x_v w x0), some (q_rf w 0), none, none]) rfl ?_
      exact hk431 _
set_option maxRecDepth 100000 in
set_option maxHeartbeats 4000000 in
theorem C2_X12_isSame {l : Launch} {w : q_Wd} {n : Nat} {t : Nat} {s0 : x_U} : x_C l w yX12_isSame cX12_isSame 4 (some .boolean) 5 124 [x_v w t, q_rf w 0] x_aI s0 (F_X12_isSame n t s0) := x_CofG [some (x_v w t), some (q_rf w 0), none, none] (by decide +kernel) rfl (x_ca x_vcat (x_ca rfl x_c0)) (Nat.le_of_ble_eq_true rfl) fun hop cx hl => by
  subst hl
  show x_G w cx RX12 "isSame" cX12_isSame 4 (some .boolean) 5 124 (x_m s0) x_aI 0 [some (x_v w t), some (q_rf w 0), none, none] [] s0 _
  rw [F_X12_isSame]
  refine x_iconst dX12_isSame_0 ic_0 (pc2 := 1) rfl ?_
  refine x_istore_n dX12_isSame_1 (by decide) (L2 := [some (x_v w t), some (q_rf w 0), some (.int 0), none]) rfl (pc2 := 2) rfl ?_
  refine T_X12_isSame_L2 hop (fun s41 => ?_) n _ _
  refine x_iconst dX12_isSame_205 ic_0 (pc2 := 206) rfl ?_
  refine x_istore_n dX12_isSame_206 (by decide) (L2 := [some (x_v w t), some (q_rf w 0), some (.int 0), none]) rfl (pc2 := 207) rfl ?_
  refine T_X12_isSame_L207 hop (fun s54 => ?_) n _ _
  refine x_iconst dX12_isSame_269 ic_0 (pc2 := 270) rfl ?_
  refine x_istore_n dX12_isSame_270 (by decide) (L2 := [some (x_v w t), some (q_rf w 0), some (.int 0), none]) rfl (pc2 := 271) rfl ?_
  refine T_X12_isSame_L271 hop (fun s62 => ?_) n _ _
  refine x_bipush dX12_isSame_317 bp_11 (pc2 := 319) rfl ?_
  refine x_newa (t := 0) (ty := .int) rfl (Or.inl ⟨rfl, rfl⟩) nw_arr dX12_isSame_319 (pc2 := 321) rfl (fun o63 s64 => ?_)
  refine x_dup dX12_isSame_321 x_vcat (pc2 := 322) rfl ?_
  refine x_iconst dX12_isSame_322 ic_0 (pc2 := 323) rfl ?_
  refine x_aload_n dX12_isSame_323 x_vR rfl (pc2 := 324) rfl ?_
  refine x_getI xf_X12_50 (by decide) rfl dX12_isSame_324 (pc2 := 327) rfl (fun v65 => ?_)
  refine x_iast dX12_isSame_327 (pc2 := 328) rfl (fun s66 => ?_)
  refine x_dup dX12_isSame_328 x_vcat (pc2 := 329) rfl ?_
  refine x_iconst dX12_isSame_329 ic_1 (pc2 := 330) rfl ?_
  refine x_aload_n dX12_isSame_330 x_vR rfl (pc2 := 331) rfl ?_
  refine x_getI xf_X12_53 (by decide) rfl dX12_isSame_331 (pc2 := 334) rfl (fun v67 => ?_)
  refine x_iast dX12_isSame_334 (pc2 := 335) rfl (fun s68 => ?_)
  refine x_dup dX12_isSame_335 x_vcat (pc2 := 336) rfl ?_
  refine x_iconst dX12_isSame_336 ic_2 (pc2 := 337) rfl ?_
  refine x_aload_n dX12_isSame_337 x_vR rfl (pc2 := 338) rfl ?_
  refine x_getI xf_X12_35 (by decide) rfl dX12_isSame_338 (pc2 := 341) rfl (fun v69 => ?_)
  refine x_iast dX12_isSame_341 (pc2 := 342) rfl (fun s70 => ?_)
  refine x_dup dX12_isSame_342 x_vcat (pc2 := 343) rfl ?_
  refine x_iconst dX12_isSame_343 ic_3 (pc2 := 344) rfl ?_
  refine x_aload_n dX12_isSame_344 x_vR rfl (pc2 := 345) rfl ?_
  refine x_getI xf_X12_47 (by decide) rfl dX12_isSame_345 (pc2 := 348) rfl (fun v71 => ?_)
  refine x_iast dX12_isSame_348 (pc2 := 349) rfl (fun s72 => ?_)
  refine x_dup dX12_isSame_349 x_vcat (pc2 := 350) rfl ?_
  refine x_iconst dX12_isSame_350 ic_4 (pc2 := 351) rfl ?_
  refine x_aload_n dX12_isSame_351 x_vR rfl (pc2 := 352) rfl ?_
  refine x_getI xf_X12_38 (by decide) rfl dX12_isSame_352 (pc2 := 355) rfl (fun v73 => ?_)
  refine x_iast dX12_isSame_355 (pc2 := 356) rfl (fun s74 => ?_)
  refine x_dup dX12_isSame_356 x_vcat (pc2 := 357) rfl ?_
  refine x_iconst dX12_isSame_357 ic_5 (pc2 := 358) rfl ?_
  refine x_aload_n dX12_isSame_358 x_vR rfl (pc2 := 359) rfl ?_
  refine x_getI xf_X12_7 (by decide) rfl dX12_isSame_359 (pc2 := 362) rfl (fun v75 => ?_)
  refine x_iast dX12_isSame_362 (pc2 := 363) rfl (fun s76 => ?_)
  refine x_dup dX12_isSame_363 x_vcat (pc2 := 364) rfl ?_
  refine x_bipush dX12_isSame_364 bp_6 (pc2 := 366) rfl ?_
  refine x_aload_n dX12_isSame_366 x_vR rfl (pc2 := 367) rfl ?_
  refine x_getI xf_X12_41 (by decide) rfl dX12_isSame_367 (pc2 := 370) rfl (fun v77 => ?_)
  refine x_iast dX12_isSame_370 (pc2 := 371) rfl (fun s78 => ?_)
  refine x_dup dX12_isSame_371 x_vcat (pc2 := 372) rfl ?_
  refine x_bipush dX12_isSame_372 bp_7 (pc2 := 374) rfl ?_
  refine x_aload_n dX12_isSame_374 x_vR rfl (pc2 := 375) rfl ?_
  refine x_getI xf_X12_44 (by decide) rfl dX12_isSame_375 (pc2 := 378) rfl (fun v79 => ?_)
  refine x_iast dX12_isSame_378 (pc2 := 379) rfl (fun s80 => ?_)
  refine x_dup dX12_isSame_379 x_vcat (pc2 := 380) rfl ?_
  refine x_bipush dX12_isSame_380 bp_8 (pc2 := 382) rfl ?_
  refine x_aload_n dX12_isSame_382 x_vR rfl (pc2 := 383) rfl ?_
  refine x_oo (ci := 12) (fun hk83 => ?_)
  refine x_callVI (As := []) C2_X12_lame xm_X12_lame (fun h => by first | rfl | cases h) xl_X12_139 hk83 rfl rfl ⟨by decide, by decide⟩ (Nat.le_trans (x_sm rfl (x_sm x_vcat (x_sm x_vcat x_s0))) (by decide)) dX12_isSame_383 (pc2 := 386) rfl (fun r82 s81 => ?_) hop
  refine x_iast dX12_isSame_386 (pc2 := 387) rfl (fun s84 => ?_)
  refine x_dup dX12_isSame_387 x_vcat (pc2 := 388) rfl ?_
  refine x_bipush dX12_isSame_388 bp_9 (pc2 := 390) rfl ?_
  refine x_aload_n dX12_isSame_390 x_vR rfl (pc2 := 391) rfl ?_
  refine x_getI xf_X12_56 (by decide) rfl dX12_isSame_391 (pc2 := 394) rfl (fun v85 => ?_)
  refine x_iast dX12_isSame_394 (pc2 := 395) rfl (fun s86 => ?_)
  refine x_dup dX12_isSame_395 x_vcat (pc2 := 396) rfl ?_
  refine x_bipush dX12_isSame_396 bp_10 (pc2 := 398) rfl ?_
  refine x_aload_n dX12_isSame_398 x_vR rfl (pc2 := 399) rfl ?_
  refine x_getI xf_X12_32 (by decide) rfl dX12_isSame_399 (pc2 := 402) rfl (fun v87 => ?_)
  refine x_iast dX12_isSame_402 (pc2 := 403) rfl (fun s88 => ?_)
  refine x_astore_n x_vR dX12_isSame_403 (by decide) (L2 := [some (x_v w t), some (q_rf w 0), some (x_v w o63), none]) rfl (pc2 := 404) rfl ?_
  refine x_iconst dX12_isSame_404 ic_0 (pc2 := 405) rfl ?_
  refine x_istore_n dX12_isSame_405 (by decide) (L2 := [some (x_v w t), some (q_rf w 0), some (x_v w o63), some (.int 0)]) rfl (pc2 := 406) rfl ?_
  refine T_X12_isSame_L406 hop (fun s92 => ?_) n _ _
  refine x_aload_n dX12_isSame_431 x_cR rfl (pc2 := 432) rfl ?_
  refine x_aload_n dX12_isSame_432 x_vR rfl (pc2 := 433) rfl ?_
  refine x_getI xf_X12_50 (by decide) rfl dX12_isSame_433 (pc2 := 436) rfl (fun v93 => ?_)
  refine x_iconst dX12_isSame_436 ic_0 (pc2 := 437) rfl ?_
  refine x_callcI (As := [.int v93, .int 0]) (fun w' => C_X11_of q_kd0) mv_X11_of xl_X12_128 rfl rfl ⟨by decide, by decide⟩ (Nat.le_trans x_s0 (by decide)) dX12_isSame_437 (pc2 := 440) rfl (fun r95 s94 => ?_)
  refine x_bipush dX12_isSame_440 bp_m2 (pc2 := 442) rfl ?_
  refine x_icmp_ne dX12_isSame_442 (pc1 := 445) (pc2 := 517) rfl rfl (fun _ => ?_) (fun _ => ?_)
  · refine x_aload_n dX12_isSame_445 x_cR rfl (pc2 := 446) rfl ?_
    refine x_aload_n dX12_isSame_446 x_vR rfl (pc2 := 447) rfl ?_
    refine x_getI xf_X12_53 (by decide) rfl dX12_isSame_447 (pc2 := 450) rfl (fun v96 => ?_)
    refine x_iconst dX12_isSame_450 ic_0 (pc2 := 451) rfl ?_
    refine x_callcI (As := [.int v96, .int 0]) (fun w' => C_X11_manOf q_kd0) mv_X11_manOf xl_X12_133 rfl rfl ⟨by decide, by decide⟩ (Nat.le_trans x_s0 (by decide)) dX12_isSame_451 (pc2 := 454) rfl (fun r98 s97 => ?_)
    refine x_iconst dX12_isSame_454 ic_m1 (pc2 := 455) rfl ?_
    refine x_icmp_ne dX12_isSame_455 (pc1 := 458) (pc2 := 517) rfl rfl (fun _ => ?_) (fun _ => ?_)
    · refine x_aload_n dX12_isSame_458 x_cR rfl (pc2 := 459) rfl ?_
      refine x_aload_n dX12_isSame_459 x_vR rfl (pc2 := 460) rfl ?_
      refine x_getI xf_X12_56 (by decide) rfl dX12_isSame_460 (pc2 := 463) rfl (fun v99 => ?_)
      refine x_iconst dX12_isSame_463 ic_0 (pc2 := 464) rfl ?_
      refine x_callcI (As := [.int v99, .int 0]) (fun w' => C_X11_book q_kd0) mv_X11_book xl_X12_136 rfl rfl ⟨by decide, by decide⟩ (Nat.le_trans x_s0 (by decide)) dX12_isSame_464 (pc2 := 467) rfl (fun r101 s100 => ?_)
      refine x_bipush dX12_isSame_467 bp_m2 (pc2 := 469) rfl ?_
      refine x_icmp_ne dX12_isSame_469 (pc1 := 472) (pc2 := 517) rfl rfl (fun _ => ?_) (fun _ => ?_)
      · refine x_aload_n dX12_isSame_472 x_cR rfl (pc2 := 473) rfl ?_
        refine x_bipush dX12_isSame_473 bp_12 (pc2 := 475) rfl ?_
        refine x_callcI (As := [.int 12]) (fun w' => C_X11_look q_kd0) mv_X11_look xl_X12_143 rfl rfl ⟨by decide, by decide⟩ (Nat.le_trans x_s0 (by decide)) dX12_isSame_475 (pc2 := 478) rfl (fun r103 s102 => ?_)
        refine x_aload_n dX12_isSame_478 x_vR rfl (pc2 := 479) rfl ?_
        refine x_getI xf_X12_59 (by decide) rfl dX12_isSame_479 (pc2 := 482) rfl (fun v104 => ?_)
        refine x_icmp_ne dX12_isSame_482 (pc1 := 485) (pc2 := 517) rfl rfl (fun _ => ?_) (fun _ => ?_)
        · refine x_aload_n dX12_isSame_485 x_cR rfl (pc2 := 486) rfl ?_
          refine x_bipush dX12_isSame_486 bp_13 (pc2 := 488) rfl ?_
          refine x_callcI (As := [.int 13]) (fun w' => C_X11_look q_kd0) mv_X11_look xl_X12_143 rfl rfl ⟨by decide, by decide⟩ (Nat.le_trans x_s0 (by decide)) dX12_isSame_488 (pc2 := 491) rfl (fun r106 s105 => ?_)
          refine x_aload_n dX12_isSame_491 x_vR rfl (pc2 := 492) rfl ?_
          refine x_getR xf_X12_22 (by decide) rfl dX12_isSame_492 (pc2 := 495) rfl (fun o107 => ?_)
          refine x_alen dX12_isSame_495 (pc2 := 496) rfl (fun v108 => ?_)
          refine x_icmp_ne dX12_isSame_496 (pc1 := 499) (pc2 := 517) rfl rfl (fun _ => ?_) (fun _ => ?_)
          · refine x_aload_n dX12_isSame_499 x_cR rfl (pc2 := 500) rfl ?_
            refine x_bipush dX12_isSame_500 bp_14 (pc2 := 502) rfl ?_
            refine x_callcI (As := [.int 14]) (fun w' => C_X11_look q_kd0) mv_X11_look xl_X12_143 rfl rfl ⟨by decide, by decide⟩ (Nat.le_trans x_s0 (by decide)) dX12_isSame_502 (pc2 := 505) rfl (fun r110 s109 => ?_)
            refine x_aload_n dX12_isSame_505 x_vR rfl (pc2 := 506) rfl ?_
            refine x_getR xf_X12_25 (by decide) rfl dX12_isSame_506 (pc2 := 509) rfl (fun o111 => ?_)
            refine x_alen dX12_isSame_509 (pc2 := 510) rfl (fun v112 => ?_)
            refine x_icmp_ne dX12_isSame_510 (pc1 := 513) (pc2 := 517) rfl rfl (fun _ => ?_) (fun _ => ?_)
            · refine x_iconst dX12_isSame_513 ic_1 (pc2 := 514) rfl ?_
              refine x_goto dX12_isSame_514 (pc2 := 518) rfl ?_
              exact x_nret rfl dX12_isSame_518
            · refine x_iconst dX12_isSame_517 ic_0 (pc2 := 518) rfl ?_
              exact x_nret rfl dX12_isSame_518
          · refine x_iconst dX12_isSame_517 ic_0 (pc2 := 518) rfl ?_
            exact x_nret rfl dX12_isSame_518
        · refine x_iconst dX12_isSame_517 ic_0 (pc2 := 518) rfl ?_
          exact x_nret rfl dX12_isSame_518
      · refine x_iconst dX12_isSame_517 ic_0 (pc2 := 518) rfl ?_
        exact x_nret rfl dX12_isSame_518
    · refine x_iconst dX12_isSame_517 ic_0 (pc2 := 518) rfl ?_
      exact x_nret rfl dX12_isSame_518
  · refine x_iconst dX12_isSame_517 ic_0 (pc2 := 518) rfl ?_
    exact x_nret rfl dX12_isSame_518
set_option maxRecDepth 100000 in
set_option maxHeartbeats 4000000 in
def F_X12_copy_L122 (n : Nat) (x0 : Nat) (x1 : Nat) (k154 : x_U → Option (Nat × x_U)) : Nat → Int32 → x_U → Option (Nat × x_U)
  | 0, _, _ => none
  | j + 1, x2, s0 =>
    x_gi s0 x0 12 7 fun v34 =>
    if x2 < v34 then (
    x_gr s0 x1 12 12 fun o35 =>
    x_gr s0 x0 12 12 fun o36 =>
    x_lr s0 o36 x2 fun o37 =>
    x_cln s0 0 o37 fun o38 s39 =>
    x_cst s39 o38 0 <|
    x_sr s39 o35 x2 o38 fun s40 =>
    F_X12_copy_L122 n x0 x1 k154 j (x2 + 1) s40)
    else (
    k154 s0)
set_option maxRecDepth 100000 in
set_option maxHeartbeats 4000000 in
def F_X12_copy_L156 (n : Nat) (x0 : Nat) (x1 : Nat) (k188 : x_U → Option (Nat × x_U)) : Nat → Int32 → x_U → Option (Nat × x_U)
  | 0, _, _ => none
  | j + 1, x2, s0 =>
    x_gi s0 x0 12 8 fun v42 =>
    if x2 < v42 then (
    x_gr s0 x1 12 13 fun o43 =>
    x_gr s0 x0 12 13 fun o44 =>
    x_lr s0 o44 x2 fun o45 =>
    x_cln s0 0 o45 fun o46 s47 =>
    x_cst s47 o46 0 <|
    x_sr s47 o43 x2 o46 fun s48 =>
    F_X12_copy_L156 n x0 x1 k188 j (x2 + 1) s48)
    else (
    k188 s0)
set_option maxRecDepth 100000 in
set_option maxHeartbeats 4000000 in
def F_X12_copy_L190 (n : Nat) (x0 : Nat) (x1 : Nat) : Nat → Int32 → x_U → Option (Nat × x_U)
  | 0, _, _ => none
  | j + 1, x2, s0 =>
    x_gi s0 x0 12 9 fun v50 =>
    if x2 < v50 then (
    x_gr s0 x1 12 16 fun o51 =>
    x_gr s0 x0 12 16 fun o52 =>
    x_lr s0 o52 x2 fun o53 =>
    x_sr s0 o51 x2 o53 fun s54 =>
    F_X12_copy_L190 n x0 x1 j (x2 + 1) s54)
    else (
    some (x1, s0))
set_option maxRecDepth 100000 in
set_option maxHeartbeats 4000000 in
def F_X12_copy (n : Nat) (t : Nat) (s0 : x_U) : Option (Nat × x_U) :=
  x_new s0 12 fun o1 s2 =>
  x_o s2 o1 12 <|
  x_call (F_X12_init n o1 s2) fun r4 s3 =>
  x_gi s3 t 12 0 fun v6 =>
  x_pi s3 o1 12 0 v6 fun s7 =>
  x_gi s7 t 12 1 fun v8 =>
  x_pi s7 o1 12 1 v8 fun s9 =>
  x_gi s9 t 12 2 fun v10 =>
  x_pi s9 o1 12 2 v10 fun s11 =>
  x_gi s11 t 12 3 fun v12 =>
  x_pi s11 o1 12 3 v12 fun s13 =>
  x_gi s13 t 12 4 fun v14 =>
  x_pi s13 o1 12 4 v14 fun s15 =>
  x_gi s15 t 12 5 fun v16 =>
  x_pi s15 o1 12 5 v16 fun s17 =>
  x_gi s17 t 12 6 fun v18 =>
  x_pi s17 o1 12 6 v18 fun s19 =>
  x_gi s19 t 12 7 fun v20 =>
  x_pi s19 o1 12 7 v20 fun s21 =>
  x_gi s21 t 12 8 fun v22 =>
  x_pi s21 o1 12 8 v22 fun s23 =>
  x_gi s23 t 12 9 fun v24 =>
  x_pi s23 o1 12 9 v24 fun s25 =>
  x_gi s25 t 12 10 fun v26 =>
  x_pi s25 o1 12 10 v26 fun s27 =>
  x_gr s27 t 12 14 fun o28 =>
  x_pr s27 o1 12 14 o28 fun s29 =>
  x_gr s29 t 12 15 fun o30 =>
  x_pr s29 o1 12 15 o30 fun s31 =>
  x_gr s31 t 12 17 fun o32 =>
  x_pr s31 o1 12 17 o32 fun s33 =>
  F_X12_copy_L122 n t o1 (fun  (s41 : x_U) =>
  F_X12_copy_L156 n t o1 (fun  (s49 : x_U) =>
  F_X12_copy_L190 n t o1  n 0 s49) n 0 s41) n 0 s33
set_option maxRecDepth 100000 in
set_option maxHeartbeats 4000000 in
theorem T_X12_copy_L122 {w : q_Wd} {cx : q_Cx} {M0 : Nat} (hop : w.2.2.2.2.2.1 = none) {n : Nat} {x0 : Nat} {x1 : Nat} {k154 : x_U → Option (Nat × x_U)} (hk154 : ∀  (s1 : x_U), x_G w cx RX12 "copy" cX12_copy 3 (some (.object "MuleVoteLaw$Train")) 2 40 M0 (x_aR w) 154 [some (x_v w x0), some (x_v w x1), none] [] s1 (k154 s1)) :
    ∀ (j : Nat) (x2 : Int32) (s0 : x_U), x_G w cx RX12 "copy" cX12_copy 3 (some (.object "MuleVoteLaw$Train")) 2 40 M0 (x_aR w) 122 [some (x_v w x0), some (x_v w x1), some (.int x2)] [] s0 (F_X12_copy_L122 n x0 x1 k154 j x2 s0) := by
  intro j
  induction j with
  | zero =>
    intro _ _
    rw [F_X12_copy_L122]
    exact x_none
  | succ j ih =>
    intro x2 s0
    rw [F_X12_copy_L122]
    refine x_iload_n dX12_copy_122 rfl (pc2 := 123) rfl ?_
    refine x_aload_n dX12_copy_123 x_vR rfl (pc2 := 124) rfl ?_
    refine x_getI xf_X12_50 (by decide) rfl dX12_copy_124 (pc2 := 127) rfl (fun v34 => ?_)
    refine x_icmp_ge dX12_copy_127 (pc1 := 130) (pc2 := 154) rfl rfl (fun _ => ?_) (fun _ => ?_)
    · refine x_aload_n dX12_copy_130 x_vR rfl (pc2 := 131) rfl ?_
      refine x_getR xf_X12_15 (by decide) rfl dX12_copy_131 (pc2 := 134) rfl (fun o35 => ?_)
      refine x_iload_n dX12_copy_134 rfl (pc2 := 135) rfl ?_
      refine x_aload_n dX12_copy_135 x_vR rfl (pc2 := 136) rfl ?_
      refine x_getR xf_X12_15 (by decide) rfl dX12_copy_136 (pc2 := 139) rfl (fun o36 => ?_)
      refine x_iload_n dX12_copy_139 rfl (pc2 := 140) rfl ?_
      refine x_aald dX12_copy_140 (pc2 := 141) rfl (fun o37 => ?_)
      refine x_clone (t := 0) (Or.inl ⟨rfl, rfl⟩) xk_X12_65 ⟨by decide, by decide⟩ (Nat.le_trans (x_sm rfl (x_sm x_vcat x_s0)) (by decide)) dX12_copy_141 (pc2 := 144) rfl (fun o38 s39 => ?_)
      refine x_castA (t := 0) (Or.inl ⟨rfl, rfl⟩) xc_X12_13 dX12_copy_144 (pc2 := 147) rfl ?_
      refine x_aast dX12_copy_147 (pc2 := 148) rfl (fun s40 => ?_)
      refine x_iinc dX12_copy_148 rfl (q_ii ic_1) (by decide) (L2 := [some (x_v w x0), some (x_v w x1), some (.int (x2 + 1))]) rfl (pc2 := 151) rfl ?_
      refine x_goto dX12_copy_151 (pc2 := 122) rfl ?_
      exact ih _ _
    · refine x_Gmask [true, true, false] (L2 := [some (x_v w x0), some (x_v w x1), none]) rfl ?_
      exact hk154 _
set_option maxRecDepth 100000 in
set_option maxHeartbeats 4000000 in
theorem T_X12_copy_L156 {w : q_Wd} {cx : q_Cx} {M0 : Nat} (hop : w.2.2.2.2.2.1 = none) {n : Nat} {x0 : Nat} {x1 : Nat} {k188 : x_U → Option (Nat × x_U)} (hk188 : ∀  (s1 : x_U), x_G w cx RX12 "copy" cX12_copy 3 (some (.object "MuleVoteLaw$Train")) 2 40 M0 (x_aR w) 188 [some (x_v w x0), some (x_v w x1), none] [] s1 (k188 s1)) :
    ∀ (j : Nat) (x2 : Int32) (s0 : x_U), x_G w cx RX12 "copy" cX12_copy 3 (some (.object "MuleVoteLaw$Train")) 2 40 M0 (x_aR w) 156 [some (x_v w x0), some (x_v w x1), some (.int x2)] [] s0 (F_X12_copy_L156 n x0 x1 k188 j x2 s0) := by
  intro j
  induction j with
  | zero =>
    intro _ _
    rw [F_X12_copy_L156]
    exact x_none
  | succ j ih =>
    intro x2 s0
    rw [F_X12_copy_L156]
    refine x_iload_n dX12_copy_156 rfl (pc2 := 157) rfl ?_
    refine x_aload_n dX12_copy_157 x_vR rfl (pc2 := 158) rfl ?_
    refine x_getI xf_X12_53 (by decide) rfl dX12_copy_158 (pc2 := 161) rfl (fun v42 => ?_)
    refine x_icmp_ge dX12_copy_161 (pc1 := 164) (pc2 := 188) rfl rfl (fun _ => ?_) (fun _ => ?_)
    · refine x_aload_n dX12_copy_164 x_vR rfl (pc2 := 165) rfl ?_
      refine x_getR xf_X12_19 (by decide) rfl dX12_copy_165 (pc2 := 168) rfl (fun o43 => ?_)
      refine x_iload_n dX12_copy_168 rfl (pc2 := 169) rfl ?_
      refine x_aload_n dX12_copy_169 x_vR rfl (pc2 := 170) rfl ?_
      refine x_getR xf_X12_19 (by decide) rfl dX12_copy_170 (pc2 := 173) rfl (fun o44 => ?_)
      refine x_iload_n dX12_copy_173 rfl (pc2 := 174) rfl ?_
      refine x_aald dX12_copy_174 (pc2 := 175) rfl (fun o45 => ?_)
      refine x_clone (t := 0) (Or.inl ⟨rfl, rfl⟩) xk_X12_65 ⟨by decide, by decide⟩ (Nat.le_trans (x_sm rfl (x_sm x_vcat x_s0)) (by decide)) dX12_copy_175 (pc2 := 178) rfl (fun o46 s47 => ?_)
      refine x_castA (t := 0) (Or.inl ⟨rfl, rfl⟩) xc_X12_13 dX12_copy_178 (pc2 := 181) rfl ?_
      refine x_aast dX12_copy_181 (pc2 := 182) rfl (fun s48 => ?_)
      refine x_iinc dX12_copy_182 rfl (q_ii ic_1) (by decide) (L2 := [some (x_v w x0), some (x_v w x1), some (.int (x2 + 1))]) rfl (pc2 := 185) rfl ?_
      refine x_goto dX12_copy_185 (pc2 := 156) rfl ?_
      exact ih _ _
    · refine x_Gmask [true, true, false] (L2 := [some (x_v w x0), some (x_v w x1), none]) rfl ?_
      exact hk188 _
set_option maxRecDepth 100000 in
set_option maxHeartbeats 4000000 in
theorem T_X12_copy_L190 {w : q_Wd} {cx : q_Cx} {M0 : Nat} (hop : w.2.2.2.2.2.1 = none) {n : Nat} {x0 : Nat} {x1 : Nat}   :
    ∀ (j : Nat) (x2 : Int32) (s0 : x_U), x_G w cx RX12 "copy" cX12_copy 3 (some (.object "MuleVoteLaw$Train")) 2 40 M0 (x_aR w) 190 [some (x_v w x0), some (x_v w x1), some (.int x2)] [] s0 (F_X12_copy_L190 n x0 x1 j x2 s0) := by
  intro j
  induction j with
  | zero =>
    intro _ _
    rw [F_X12_copy_L190]
    exact x_none
  | succ j ih =>
    intro x2 s0
    rw [F_X12_copy_L190]
    refine x_iload_n dX12_copy_190 rfl (pc2 := 191) rfl ?_
    refine x_aload_n dX12_copy_191 x_vR rfl (pc2 := 192) rfl ?_
    refine x_getI xf_X12_56 (by decide) rfl dX12_copy_192 (pc2 := 195) rfl (fun v50 => ?_)
    refine x_icmp_ge dX12_copy_195 (pc1 := 198) (pc2 := 216) rfl rfl (fun _ => ?_) (fun _ => ?_)
    · refine x_aload_n dX12_copy_198 x_vR rfl (pc2 := 199) rfl ?_
      refine x_getR xf_X12_28 (by decide) rfl dX12_copy_199 (pc2 := 202) rfl (fun o51 => ?_)
      refine x_iload_n dX12_copy_202 rfl (pc2 := 203) rfl ?_
      refine x_aload_n dX12_copy_203 x_vR rfl (pc2 := 204) rfl ?_
      refine x_getR xf_X12_28 (by decide) rfl dX12_copy_204 (pc2 := 207) rfl (fun o52 => ?_)
      refine x_iload_n dX12_copy_207 rfl (pc2 := 208) rfl ?_
      refine x_aald dX12_copy_208 (pc2 := 209) rfl (fun o53 => ?_)
      refine x_aast dX12_copy_209 (pc2 := 210) rfl (fun s54 => ?_)
      refine x_iinc dX12_copy_210 rfl (q_ii ic_1) (by decide) (L2 := [some (x_v w x0), some (x_v w x1), some (.int (x2 + 1))]) rfl (pc2 := 213) rfl ?_
      refine x_goto dX12_copy_213 (pc2 := 190) rfl ?_
      exact ih _ _
    · refine x_aload_n dX12_copy_216 x_vR rfl (pc2 := 217) rfl ?_
      exact x_aret (Or.inl ⟨_, rfl⟩) dX12_copy_217
set_option maxRecDepth 100000 in
set_option maxHeartbeats 4000000 in
theorem C2_X12_copy {l : Launch} {w : q_Wd} {n : Nat} {t : Nat} {s0 : x_U} : x_C l w yX12_copy cX12_copy 3 (some (.object "MuleVoteLaw$Train")) 2 40 [x_v w t] (x_aR w) s0 (F_X12_copy n t s0) := x_CofG [some (x_v w t), none, none] (by decide +kernel) rfl (x_ca x_vcat x_c0) (Nat.le_of_ble_eq_true rfl) fun hop cx hl => by
  subst hl
  show x_G w cx RX12 "copy" cX12_copy 3 (some (.object "MuleVoteLaw$Train")) 2 40 (x_m s0) (x_aR w) 0 [some (x_v w t), none, none] [] s0 _
  rw [F_X12_copy]
  refine x_newo cl_12 xn_X12_8 df_12 dX12_copy_0 (pc2 := 3) rfl (fun o1 s2 => ?_)
  refine x_dup dX12_copy_3 x_vcat (pc2 := 4) rfl ?_
  refine x_oo (ci := 12) (fun hk5 => ?_)
  refine x_callIV (As := []) C2_X12_init mi_X12_init rfl rfl xl_X12_31 hk5 xq_12 (fun h => by first | rfl | cases h) rfl rfl ⟨by decide, by decide⟩ (Nat.le_trans (x_sm x_vcat x_s0) (by decide)) dX12_copy_4 (pc2 := 7) rfl (fun r4 s3 => ?_) hop
  refine x_astore_n x_vR dX12_copy_7 (by decide) (L2 := [some (x_v w t), some (x_v w o1), none]) rfl (pc2 := 8) rfl ?_
  refine x_aload_n dX12_copy_8 x_vR rfl (pc2 := 9) rfl ?_
  refine x_aload_n dX12_copy_9 x_vR rfl (pc2 := 10) rfl ?_
  refine x_getI xf_X12_32 (by decide) rfl dX12_copy_10 (pc2 := 13) rfl (fun v6 => ?_)
  refine x_putI (Or.inl xf_X12_32) (Or.inl rfl) rfl rfl rfl dX12_copy_13 (pc2 := 16) rfl (fun s7 => ?_)
  refine x_aload_n dX12_copy_16 x_vR rfl (pc2 := 17) rfl ?_
  refine x_aload_n dX12_copy_17 x_vR rfl (pc2 := 18) rfl ?_
  refine x_getI xf_X12_35 (by decide) rfl dX12_copy_18 (pc2 := 21) rfl (fun v8 => ?_)
  refine x_putI (Or.inl xf_X12_35) (Or.inl rfl) rfl rfl rfl dX12_copy_21 (pc2 := 24) rfl (fun s9 => ?_)
  refine x_aload_n dX12_copy_24 x_vR rfl (pc2 := 25) rfl ?_
  refine x_aload_n dX12_copy_25 x_vR rfl (pc2 := 26) rfl ?_
  refine x_getI xf_X12_38 (by decide) rfl dX12_copy_26 (pc2 := 29) rfl (fun v10 => ?_)
  refine x_putI (Or.inl xf_X12_38) (Or.inl rfl) rfl rfl rfl dX12_copy_29 (pc2 := 32) rfl (fun s11 => ?_)
  refine x_aload_n dX12_copy_32 x_vR rfl (pc2 := 33) rfl ?_
  refine x_aload_n dX12_copy_33 x_vR rfl (pc2 := 34) rfl ?_
  refine x_getI xf_X12_7 (by decide) rfl dX12_copy_34 (pc2 := 37) rfl (fun v12 => ?_)
  refine x_putI (Or.inl xf_X12_7) (Or.inl rfl) rfl rfl rfl dX12_copy_37 (pc2 := 40) rfl (fun s13 => ?_)
  refine x_aload_n dX12_copy_40 x_vR rfl (pc2 := 41) rfl ?_
  refine x_aload_n dX12_copy_41 x_vR rfl (pc2 := 42) rfl ?_
  refine x_getI xf_X12_41 (by decide) rfl dX12_copy_42 (pc2 := 45) rfl (fun v14 => ?_)
  refine x_putI (Or.inl xf_X12_41) (Or.inl rfl) rfl rfl rfl dX12_copy_45 (pc2 := 48) rfl (fun s15 => ?_)
  refine x_aload_n dX12_copy_48 x_vR rfl (pc2 := 49) rfl ?_
  refine x_aload_n dX12_copy_49 x_vR rfl (pc2 := 50) rfl ?_
  refine x_getI xf_X12_44 (by decide) rfl dX12_copy_50 (pc2 := 53) rfl (fun v16 => ?_)
  refine x_putI (Or.inl xf_X12_44) (Or.inl rfl) rfl rfl rfl dX12_copy_53 (pc2 := 56) rfl (fun s17 => ?_)
  refine x_aload_n dX12_copy_56 x_vR rfl (pc2 := 57) rfl ?_
  refine x_aload_n dX12_copy_57 x_vR rfl (pc2 := 58) rfl ?_
  refine x_getI xf_X12_47 (by decide) rfl dX12_copy_58 (pc2 := 61) rfl (fun v18 => ?_)
  refine x_putI (Or.inl xf_X12_47) (Or.inl rfl) rfl rfl rfl dX12_copy_61 (pc2 := 64) rfl (fun s19 => ?_)
  refine x_aload_n dX12_copy_64 x_vR rfl (pc2 := 65) rfl ?_
  refine x_aload_n dX12_copy_65 x_vR rfl (pc2 := 66) rfl ?_
  refine x_getI xf_X12_50 (by decide) rfl dX12_copy_66 (pc2 := 69) rfl (fun v20 => ?_)
  refine x_putI (Or.inl xf_X12_50) (Or.inl rfl) rfl rfl rfl dX12_copy_69 (pc2 := 72) rfl (fun s21 => ?_)
  refine x_aload_n dX12_copy_72 x_vR rfl (pc2 := 73) rfl ?_
  refine x_aload_n dX12_copy_73 x_vR rfl (pc2 := 74) rfl ?_
  refine x_getI xf_X12_53 (by decide) rfl dX12_copy_74 (pc2 := 77) rfl (fun v22 => ?_)
  refine x_putI (Or.inl xf_X12_53) (Or.inl rfl) rfl rfl rfl dX12_copy_77 (pc2 := 80) rfl (fun s23 => ?_)
  refine x_aload_n dX12_copy_80 x_vR rfl (pc2 := 81) rfl ?_
  refine x_aload_n dX12_copy_81 x_vR rfl (pc2 := 82) rfl ?_
  refine x_getI xf_X12_56 (by decide) rfl dX12_copy_82 (pc2 := 85) rfl (fun v24 => ?_)
  refine x_putI (Or.inl xf_X12_56) (Or.inl rfl) rfl rfl rfl dX12_copy_85 (pc2 := 88) rfl (fun s25 => ?_)
  refine x_aload_n dX12_copy_88 x_vR rfl (pc2 := 89) rfl ?_
  refine x_aload_n dX12_copy_89 x_vR rfl (pc2 := 90) rfl ?_
  refine x_getI xf_X12_59 (by decide) rfl dX12_copy_90 (pc2 := 93) rfl (fun v26 => ?_)
  refine x_putI (Or.inl xf_X12_59) (Or.inl rfl) rfl rfl rfl dX12_copy_93 (pc2 := 96) rfl (fun s27 => ?_)
  refine x_aload_n dX12_copy_96 x_vR rfl (pc2 := 97) rfl ?_
  refine x_aload_n dX12_copy_97 x_vR rfl (pc2 := 98) rfl ?_
  refine x_getR xf_X12_22 (by decide) rfl dX12_copy_98 (pc2 := 101) rfl (fun o28 => ?_)
  refine x_putR (Or.inl xf_X12_22) (Or.inl rfl) rfl (x_nR (Or.inr ⟨_, rfl⟩)) dX12_copy_101 (pc2 := 104) rfl (fun s29 => ?_)
  refine x_aload_n dX12_copy_104 x_vR rfl (pc2 := 105) rfl ?_
  refine x_aload_n dX12_copy_105 x_vR rfl (pc2 := 106) rfl ?_
  refine x_getR xf_X12_25 (by decide) rfl dX12_copy_106 (pc2 := 109) rfl (fun o30 => ?_)
  refine x_putR (Or.inl xf_X12_25) (Or.inl rfl) rfl (x_nR (Or.inr ⟨_, rfl⟩)) dX12_copy_109 (pc2 := 112) rfl (fun s31 => ?_)
  refine x_aload_n dX12_copy_112 x_vR rfl (pc2 := 113) rfl ?_
  refine x_aload_n dX12_copy_113 x_vR rfl (pc2 := 114) rfl ?_
  refine x_getR xf_X12_62 (by decide) rfl dX12_copy_114 (pc2 := 117) rfl (fun o32 => ?_)
  refine x_putR (Or.inl xf_X12_62) (Or.inl rfl) rfl (x_nR (Or.inr ⟨_, rfl⟩)) dX12_copy_117 (pc2 := 120) rfl (fun s33 => ?_)
  refine x_iconst dX12_copy_120 ic_0 (pc2 := 121) rfl ?_
  refine x_istore_n dX12_copy_121 (by decide) (L2 := [some (x_v w t), some (x_v w o1), some (.int 0)]) rfl (pc2 := 122) rfl ?_
  refine T_X12_copy_L122 hop (fun s41 => ?_) n _ _
  refine x_iconst dX12_copy_154 ic_0 (pc2 := 155) rfl ?_
  refine x_istore_n dX12_copy_155 (by decide) (L2 := [some (x_v w t), some (x_v w o1), some (.int 0)]) rfl (pc2 := 156) rfl ?_
  refine T_X12_copy_L156 hop (fun s49 => ?_) n _ _
  refine x_iconst dX12_copy_188 ic_0 (pc2 := 189) rfl ?_
  refine x_istore_n dX12_copy_189 (by decide) (L2 := [some (x_v w t), some (x_v w o1), some (.int 0)]) rfl (pc2 := 190) rfl ?_
  refine T_X12_copy_L190 hop  n _ _
set_option maxRecDepth 100000 in
set_option maxHeartbeats 4000000 in
def F_X12_likes (n : Nat) (t : Nat) (a0 : Int32) (a1 : Int32) (a2 : Int32) (s0 : x_U) : Option (Int32 × x_U) :=
  x_gr s0 t 12 12 fun o1 =>
  x_lr s0 o1 a0 fun o2 =>
  x_gr s0 t 12 12 fun o3 =>
  x_lr s0 o3 a0 fun o4 =>
  x_ld s0 o4 (5 + a1) fun v5 =>
  x_call (F_L_held n (v5 + a2) 0 99 s0) fun r7 s6 =>
  x_st s6 o2 (5 + a1) r7 fun s8 =>
  some (0, s8)
set_option maxRecDepth 100000 in
set_option maxHeartbeats 4000000 in
theorem C2_X12_likes {l : Launch} {w : q_Wd} {n : Nat} {t : Nat} {a0 : Int32} {a1 : Int32} {a2 : Int32} {s0 : x_U} : x_C l w yX12_likes cX12_likes 4 (none) 2 43 [x_v w t, .int a0, .int a1, .int a2] x_aV s0 (F_X12_likes n t a0 a1 a2 s0) := x_CofG [some (x_v w t), some (.int a0), some (.int a1), some (.int a2)] (by decide +kernel) rfl (x_ca x_vcat (x_ca rfl (x_ca rfl (x_ca rfl x_c0)))) (Nat.le_of_ble_eq_true rfl) fun hop cx hl => by
  subst hl
  show x_G w cx RX12 "likes" cX12_likes 4 (none) 2 43 (x_m s0) x_aV 0 [some (x_v w t), some (.int a0), some (.int a1), some (.int a2)] [] s0 _
  rw [F_X12_likes]
  refine x_aload_n dX12_likes_0 x_vR rfl (pc2 := 1) rfl ?_
  refine x_getR xf_X12_15 (by decide) rfl dX12_likes_1 (pc2 := 4) rfl (fun o1 => ?_)
  refine x_iload_n dX12_likes_4 rfl (pc2 := 5) rfl ?_
  refine x_aald dX12_likes_5 (pc2 := 6) rfl (fun o2 => ?_)
  refine x_iconst dX12_likes_6 ic_5 (pc2 := 7) rfl ?_
  refine x_iload_n dX12_likes_7 rfl (pc2 := 8) rfl ?_
  refine x_iadd dX12_likes_8 (pc2 := 9) rfl ?_
  refine x_aload_n dX12_likes_9 x_vR rfl (pc2 := 10) rfl ?_
  refine x_getR xf_X12_15 (by decide) rfl dX12_likes_10 (pc2 := 13) rfl (fun o3 => ?_)
  refine x_iload_n dX12_likes_13 rfl (pc2 := 14) rfl ?_
  refine x_aald dX12_likes_14 (pc2 := 15) rfl (fun o4 => ?_)
  refine x_iconst dX12_likes_15 ic_5 (pc2 := 16) rfl ?_
  refine x_iload_n dX12_likes_16 rfl (pc2 := 17) rfl ?_
  refine x_iadd dX12_likes_17 (pc2 := 18) rfl ?_
  refine x_iald dX12_likes_18 (pc2 := 19) rfl (fun v5 => ?_)
  refine x_iload_n dX12_likes_19 rfl (pc2 := 20) rfl ?_
  refine x_iadd dX12_likes_20 (pc2 := 21) rfl ?_
  refine x_iconst dX12_likes_21 ic_0 (pc2 := 22) rfl ?_
  refine x_bipush dX12_likes_22 bp_99 (pc2 := 24) rfl ?_
  refine x_callSNI (As := [.int (v5 + a2), .int 0, .int 99]) (host := "MuleVoteLaw") C2_L_held xm_L_held (by decide +kernel) rfl rfl ⟨by decide, by decide⟩ (Nat.le_trans (x_sm rfl (x_sm x_vcat x_s0)) (by decide)) dX12_likes_24 (pc2 := 27) rfl (fun r7 s6 => ?_) hop
  refine x_iast dX12_likes_27 (pc2 := 28) rfl (fun s8 => ?_)
  exact x_vret dX12_likes_28
set_option maxRecDepth 100000 in
set_option maxHeartbeats 4000000 in
def F_X12_notes (n : Nat) (t : Nat) (a0 : Int32) (a1 : Int32) (a2 : Int32) (a3 : Int32) (s0 : x_U) : Option (Int32 × x_U) :=
  if a3 = 0 then (
  some (0, s0))
  else (
  x_gi s0 t 12 9 fun v1 =>
  if v1 < 150 then (
  x_gr s0 t 12 16 fun o2 =>
  x_gi s0 t 12 9 fun v3 =>
  x_pi s0 t 12 9 (v3 + 1) fun s4 =>
  x_nwa s4 0 4 fun o5 s6 =>
  x_gi s6 t 12 1 fun v7 =>
  x_st s6 o5 0 v7 fun s8 =>
  x_st s8 o5 1 a0 fun s9 =>
  x_st s9 o5 2 a1 fun s10 =>
  x_st s10 o5 3 a2 fun s11 =>
  x_sr s11 o2 v3 o5 fun s12 =>
  some (0, s12))
  else (
  some (0, s0)))
set_option maxRecDepth 100000 in
set_option maxHeartbeats 4000000 in
theorem C2_X12_notes {l : Launch} {w : q_Wd} {n : Nat} {t : Nat} {a0 : Int32} {a1 : Int32} {a2 : Int32} {a3 : Int32} {s0 : x_U} : x_C l w yX12_notes cX12_notes 5 (none) 0 0 [x_v w t, .int a0, .int a1, .int a2, .int a3] x_aV s0 (F_X12_notes n t a0 a1 a2 a3 s0) := x_CofG [some (x_v w t), some (.int a0), some (.int a1), some (.int a2), some (.int a3)] (by decide +kernel) rfl (x_ca x_vcat (x_ca rfl (x_ca rfl (x_ca rfl (x_ca rfl x_c0))))) (Nat.le_of_ble_eq_true rfl) fun hop cx hl => by
  subst hl
  show x_G w cx RX12 "notes" cX12_notes 5 (none) 0 0 (x_m s0) x_aV 0 [some (x_v w t), some (.int a0), some (.int a1), some (.int a2), some (.int a3)] [] s0 _
  rw [F_X12_notes]
  refine x_iload dX12_notes_0 rfl (pc2 := 2) rfl ?_
  refine x_if_eq dX12_notes_2 (pc1 := 53) (pc2 := 5) rfl rfl (fun _ => ?_) (fun _ => ?_)
  · exact x_vret dX12_notes_53
  · refine x_aload_n dX12_notes_5 x_vR rfl (pc2 := 6) rfl ?_
    refine x_getI xf_X12_56 (by decide) rfl dX12_notes_6 (pc2 := 9) rfl (fun v1 => ?_)
    refine x_sipush dX12_notes_9 sp_150 (pc2 := 12) rfl ?_
    refine x_icmp_ge dX12_notes_12 (pc1 := 15) (pc2 := 53) rfl rfl (fun _ => ?_) (fun _ => ?_)
    · refine x_aload_n dX12_notes_15 x_vR rfl (pc2 := 16) rfl ?_
      refine x_getR xf_X12_28 (by decide) rfl dX12_notes_16 (pc2 := 19) rfl (fun o2 => ?_)
      refine x_aload_n dX12_notes_19 x_vR rfl (pc2 := 20) rfl ?_
      refine x_dup dX12_notes_20 x_vcat (pc2 := 21) rfl ?_
      refine x_getI xf_X12_56 (by decide) rfl dX12_notes_21 (pc2 := 24) rfl (fun v3 => ?_)
      refine x_dup_x1 dX12_notes_24 rfl x_vcat (pc2 := 25) rfl ?_
      refine x_iconst dX12_notes_25 ic_1 (pc2 := 26) rfl ?_
      refine x_iadd dX12_notes_26 (pc2 := 27) rfl ?_
      refine x_putI (Or.inl xf_X12_56) (Or.inl rfl) rfl rfl rfl dX12_notes_27 (pc2 := 30) rfl (fun s4 => ?_)
      refine x_iconst dX12_notes_30 ic_4 (pc2 := 31) rfl ?_
      refine x_newa (t := 0) (ty := .int) rfl (Or.inl ⟨rfl, rfl⟩) nw_arr dX12_notes_31 (pc2 := 33) rfl (fun o5 s6 => ?_)
      refine x_dup dX12_notes_33 x_vcat (pc2 := 34) rfl ?_
      refine x_iconst dX12_notes_34 ic_0 (pc2 := 35) rfl ?_
      refine x_aload_n dX12_notes_35 x_vR rfl (pc2 := 36) rfl ?_
      refine x_getI xf_X12_35 (by decide) rfl dX12_notes_36 (pc2 := 39) rfl (fun v7 => ?_)
      refine x_iast dX12_notes_39 (pc2 := 40) rfl (fun s8 => ?_)
      refine x_dup dX12_notes_40 x_vcat (pc2 := 41) rfl ?_
      refine x_iconst dX12_notes_41 ic_1 (pc2 := 42) rfl ?_
      refine x_iload_n dX12_notes_42 rfl (pc2 := 43) rfl ?_
      refine x_iast dX12_notes_43 (pc2 := 44) rfl (fun s9 => ?_)
      refine x_dup dX12_notes_44 x_vcat (pc2 := 45) rfl ?_
      refine x_iconst dX12_notes_45 ic_2 (pc2 := 46) rfl ?_
      refine x_iload_n dX12_notes_46 rfl (pc2 := 47) rfl ?_
      refine x_iast dX12_notes_47 (pc2 := 48) rfl (fun s10 => ?_)
      refine x_dup dX12_notes_48 x_vcat (pc2 := 49) rfl ?_
      refine x_iconst dX12_notes_49 ic_3 (pc2 := 50) rfl ?_
      refine x_iload_n dX12_notes_50 rfl (pc2 := 51) rfl ?_
      refine x_iast dX12_notes_51 (pc2 := 52) rfl (fun s11 => ?_)
      refine x_aast dX12_notes_52 (pc2 := 53) rfl (fun s12 => ?_)
      exact x_vret dX12_notes_53
    · exact x_vret dX12_notes_53
