set_option maxRecDepth 100000 in
set_option maxHeartbeats 4000000 in
def F_J0_isLatin1_aae02 (n : Nat) (t : Nat) (s0 : x_U) : Option (Int32 × x_U) :=
  if (1 : Int32) = 0 then (
  some (0, s0))
  else (
  x_gi s0 t 13 1 fun v1 =>
  if v1 = 0 then (
  some (1, s0))
  else (
  some (0, s0)))
set_option maxRecDepth 100000 in
set_option maxHeartbeats 4000000 in
theorem C2_J0_isLatin1_aae02 {l : Launch} {w : q_Wd} {n : Nat} {t : Nat} {s0 : x_U} : x_C l w yJ0_isLatin1_aae02 cJ0_isLatin1_aae02 1 (some .boolean) 0 0 [x_v w t] x_aI s0 (F_J0_isLatin1_aae02 n t s0) := x_CofG [some (x_v w t)] (by decide +kernel) rfl (x_ca x_vcat x_c0) (Nat.le_of_ble_eq_true rfl) fun hop cx hl => by
  subst hl
  show x_G w cx RJ0 "isLatin1" cJ0_isLatin1_aae02 1 (some .boolean) 0 0 (x_m s0) x_aI 0 [some (x_v w t)] [] s0 _
  rw [F_J0_isLatin1_aae02]
  refine x_gscmp xg_J0_38 dJ0_isLatin1_aae02_0 (pc2 := 3) rfl ?_
  refine x_if_eq dJ0_isLatin1_aae02_3 (pc1 := 17) (pc2 := 6) rfl rfl (fun _ => ?_) (fun _ => ?_)
  · refine x_iconst dJ0_isLatin1_aae02_17 ic_0 (pc2 := 18) rfl ?_
    exact x_nret rfl dJ0_isLatin1_aae02_18
  · refine x_aload_n dJ0_isLatin1_aae02_6 x_vR rfl (pc2 := 7) rfl ?_
    refine x_getSC rfl xf_J0_15 xg_J0_15 dJ0_isLatin1_aae02_7 (pc2 := 10) rfl (fun v1 => ?_)
    refine x_if_ne dJ0_isLatin1_aae02_10 (pc1 := 13) (pc2 := 17) rfl rfl (fun _ => ?_) (fun _ => ?_)
    · refine x_iconst dJ0_isLatin1_aae02_13 ic_1 (pc2 := 14) rfl ?_
      refine x_goto dJ0_isLatin1_aae02_14 (pc2 := 18) rfl ?_
      exact x_nret rfl dJ0_isLatin1_aae02_18
    · refine x_iconst dJ0_isLatin1_aae02_17 ic_0 (pc2 := 18) rfl ?_
      exact x_nret rfl dJ0_isLatin1_aae02_18
set_option maxRecDepth 100000 in
set_option maxHeartbeats 4000000 in
def F_J3_checkIndex_8e157 (n : Nat) (a0 : Int32) (a1 : Int32) (s0 : x_U) : Option (Int32 × x_U) :=
  if a0 < 0 then (
  none)
  else (
  if a0 < a1 then (
  some (a0, s0))
  else (
  none))
set_option maxRecDepth 100000 in
set_option maxHeartbeats 4000000 in
theorem C2_J3_checkIndex_8e157 {l : Launch} {w : q_Wd} {n : Nat} {a0 : Int32} {a1 : Int32} {V0 : Value} (hV0 : x_isR V0) {s0 : x_U} : x_C l w yJ3_checkIndex_8e157 cJ3_checkIndex_8e157 3 (some .int) 0 0 [.int a0, .int a1, V0] x_aI s0 (F_J3_checkIndex_8e157 n a0 a1 s0) := x_CofG [some (.int a0), some (.int a1), some (V0)] (by decide +kernel) rfl (x_ca rfl (x_ca rfl (x_ca (x_Rc hV0) x_c0))) (Nat.le_of_ble_eq_true rfl) fun hop cx hl => by
  subst hl
  show x_G w cx RJ3 "checkIndex" cJ3_checkIndex_8e157 3 (some .int) 0 0 (x_m s0) x_aI 0 [some (.int a0), some (.int a1), some (V0)] [] s0 _
  rw [F_J3_checkIndex_8e157]
  refine x_iload_n dJ3_checkIndex_8e157_0 rfl (pc2 := 1) rfl ?_
  refine x_if_lt dJ3_checkIndex_8e157_1 (pc1 := 9) (pc2 := 4) rfl rfl (fun _ => ?_) (fun _ => ?_)
  · exact x_none
  · refine x_iload_n dJ3_checkIndex_8e157_4 rfl (pc2 := 5) rfl ?_
    refine x_iload_n dJ3_checkIndex_8e157_5 rfl (pc2 := 6) rfl ?_
    refine x_icmp_lt dJ3_checkIndex_8e157_6 (pc1 := 16) (pc2 := 9) rfl rfl (fun _ => ?_) (fun _ => ?_)
    · refine x_iload_n dJ3_checkIndex_8e157_16 rfl (pc2 := 17) rfl ?_
      exact x_iret dJ3_checkIndex_8e157_17
    · exact x_none
set_option maxRecDepth 100000 in
set_option maxHeartbeats 4000000 in
def F_J0_checkIndex_df160 (n : Nat) (a0 : Int32) (a1 : Int32) (s0 : x_U) : Option (Int32 × x_U) :=
  x_call (F_J3_checkIndex_8e157 n a0 a1 s0) fun r3 s2 =>
  some (0, s2)
set_option maxRecDepth 100000 in
set_option maxHeartbeats 4000000 in
theorem C2_J0_checkIndex_df160 {l : Launch} {w : q_Wd} {n : Nat} {a0 : Int32} {a1 : Int32} {s0 : x_U} : x_C l w yJ0_checkIndex_df160 cJ0_checkIndex_df160 2 (none) 1 22 [.int a0, .int a1] x_aV s0 (F_J0_checkIndex_df160 n a0 a1 s0) := x_CofG [some (.int a0), some (.int a1)] (by decide +kernel) rfl (x_ca rfl (x_ca rfl x_c0)) (Nat.le_of_ble_eq_true rfl) fun hop cx hl => by
  subst hl
  show x_G w cx RJ0 "checkIndex" cJ0_checkIndex_df160 2 (none) 1 22 (x_m s0) x_aV 0 [some (.int a0), some (.int a1)] [] s0 _
  rw [F_J0_checkIndex_df160]
  refine x_iload_n dJ0_checkIndex_df160_0 rfl (pc2 := 1) rfl ?_
  refine x_iload_n dJ0_checkIndex_df160_1 rfl (pc2 := 2) rfl ?_
  refine x_gsfmt xg_J0_1053 dJ0_checkIndex_df160_2 (pc2 := 5) rfl (fun V1 hV1 => ?_)
  refine x_callSI (As := [.int a0, .int a1, V1]) (C2_J3_checkIndex_8e157 hV1) xm_J3_checkIndex_8e157 xl_J0_1059 rfl rfl ⟨by decide, by decide⟩ (Nat.le_trans x_s0 (by decide)) dJ0_checkIndex_df160_5 (pc2 := 8) rfl (fun r3 s2 => ?_) hop
  refine x_pop dJ0_checkIndex_df160_8 rfl (pc2 := 9) rfl ?_
  exact x_vret dJ0_checkIndex_df160_9
set_option maxRecDepth 100000 in
set_option maxHeartbeats 4000000 in
def F_J1_charAt_3b067 (n : Nat) (a0 : Nat) (a1 : Int32) (s0 : x_U) : Option (Int32 × x_U) :=
  x_len s0 a0 fun v1 =>
  x_call (F_J0_checkIndex_df160 n a1 v1 s0) fun r3 s2 =>
  x_lb s2 a0 a1 fun v4 =>
  x_rc (((v4 &&& 255).toUInt32 % 65536).toInt32) s2
set_option maxRecDepth 100000 in
set_option maxHeartbeats 4000000 in
theorem C2_J1_charAt_3b067 {l : Launch} {w : q_Wd} {n : Nat} {a0 : Nat} {a1 : Int32} {s0 : x_U} : x_C l w yJ1_charAt_3b067 cJ1_charAt_3b067 2 (some .char) 2 43 [x_v w a0, .int a1] x_aI s0 (F_J1_charAt_3b067 n a0 a1 s0) := x_CofG [some (x_v w a0), some (.int a1)] (by decide +kernel) rfl (x_ca x_vcat (x_ca rfl x_c0)) (Nat.le_of_ble_eq_true rfl) fun hop cx hl => by
  subst hl
  show x_G w cx RJ1 "charAt" cJ1_charAt_3b067 2 (some .char) 2 43 (x_m s0) x_aI 0 [some (x_v w a0), some (.int a1)] [] s0 _
  rw [F_J1_charAt_3b067]
  refine x_iload_n dJ1_charAt_3b067_0 rfl (pc2 := 1) rfl ?_
  refine x_aload_n dJ1_charAt_3b067_1 x_vR rfl (pc2 := 2) rfl ?_
  refine x_alen dJ1_charAt_3b067_2 (pc2 := 3) rfl (fun v1 => ?_)
  refine x_callSV (As := [.int a1, .int v1]) C2_J0_checkIndex_df160 xm_J0_checkIndex_df160 xl_J1_9 rfl rfl ⟨by decide, by decide⟩ (Nat.le_trans x_s0 (by decide)) dJ1_charAt_3b067_3 (pc2 := 6) rfl (fun r3 s2 => ?_) hop
  refine x_aload_n dJ1_charAt_3b067_6 x_vR rfl (pc2 := 7) rfl ?_
  refine x_iload_n dJ1_charAt_3b067_7 rfl (pc2 := 8) rfl ?_
  refine x_bald dJ1_charAt_3b067_8 (pc2 := 9) rfl (fun v4 => ?_)
  refine x_sipush dJ1_charAt_3b067_9 sp_255 (pc2 := 12) rfl ?_
  refine x_iand dJ1_charAt_3b067_12 (pc2 := 13) rfl ?_
  refine x_i2c dJ1_charAt_3b067_13 (pc2 := 14) rfl ?_
  exact x_cret dJ1_charAt_3b067_14
set_option maxRecDepth 100000 in
set_option maxHeartbeats 4000000 in
def F_J0_charAt_5068e (n : Nat) (t : Nat) (a0 : Int32) (s0 : x_U) : Option (Int32 × x_U) :=
  x_o s0 t 13 <|
  x_call (F_J0_isLatin1_aae02 n t s0) fun r2 s1 =>
  if r2 = 0 then (
  none)
  else (
  x_gr s1 t 13 0 fun o5 =>
  x_call (F_J1_charAt_3b067 n o5 a0 s1) fun r7 s6 =>
  x_rc r7 s6)
set_option maxRecDepth 100000 in
set_option maxHeartbeats 4000000 in
theorem C2_J0_charAt_5068e {l : Launch} {w : q_Wd} {n : Nat} {t : Nat} {a0 : Int32} {s0 : x_U} : x_C l w yJ0_charAt_5068e cJ0_charAt_5068e 2 (some .char) 3 64 [x_v w t, .int a0] x_aI s0 (F_J0_charAt_5068e n t a0 s0) := x_CofG [some (x_v w t), some (.int a0)] (by decide +kernel) rfl (x_ca x_vcat (x_ca rfl x_c0)) (Nat.le_of_ble_eq_true rfl) fun hop cx hl => by
  subst hl
  show x_G w cx RJ0 "charAt" cJ0_charAt_5068e 2 (some .char) 3 64 (x_m s0) x_aI 0 [some (x_v w t), some (.int a0)] [] s0 _
  rw [F_J0_charAt_5068e]
  refine x_aload_n dJ0_charAt_5068e_0 x_vR rfl (pc2 := 1) rfl ?_
  refine x_oo (ci := 13) (fun hk3 => ?_)
  refine x_callVI (As := []) C2_J0_isLatin1_aae02 xm_J0_isLatin1_aae02 (fun h => by first | rfl | cases h) xl_J0_492 hk3 rfl rfl ⟨by decide, by decide⟩ (Nat.le_trans x_s0 (by decide)) dJ0_charAt_5068e_1 (pc2 := 4) rfl (fun r2 s1 => ?_) hop
  refine x_if_eq dJ0_charAt_5068e_4 (pc1 := 16) (pc2 := 7) rfl rfl (fun _ => ?_) (fun _ => ?_)
  · exact x_none
  · refine x_aload_n dJ0_charAt_5068e_7 x_vR rfl (pc2 := 8) rfl ?_
    refine x_getSV rfl xf_J0_9 xg_J0_9 dJ0_charAt_5068e_8 (pc2 := 11) rfl (fun o5 => ?_)
    refine x_iload_n dJ0_charAt_5068e_11 rfl (pc2 := 12) rfl ?_
    refine x_callSI (As := [x_v w o5, .int a0]) C2_J1_charAt_3b067 xm_J1_charAt_3b067 xl_J0_495 rfl rfl ⟨by decide, by decide⟩ (Nat.le_trans x_s0 (by decide)) dJ0_charAt_5068e_12 (pc2 := 15) rfl (fun r7 s6 => ?_) hop
    exact x_cret dJ0_charAt_5068e_15
set_option maxRecDepth 100000 in
set_option maxHeartbeats 4000000 in
def F_L_say_L17 (n : Nat) (x1 : Nat) (x2 : Int32) (x3 : Nat) (k70 : x_U → Option (Int32 × x_U)) : Nat → Int32 → x_U → Option (Int32 × x_U)
  | 0, _, _ => none
  | j + 1, x4, s0 =>
    if x4 < 20 then (
    x_dv x4 4 fun v6 =>
    x_dv x4 4 fun v7 =>
    x_ld s0 x3 v7 fun v8 =>
    x_o s0 x1 13 <|
    x_call (F_J0_length_8abf5 n x1 s0) fun r10 s9 =>
    if (x2 + x4) < r10 then (
    x_o s9 x1 13 <|
    x_call (F_J0_charAt_5068e n x1 (x2 + x4) s9) fun r13 s12 =>
    x_st s12 x3 v6 ((v8 <<< (8 &&& 31)) ||| r13) fun s15 =>
    F_L_say_L17 n x1 x2 x3 k70 j (x4 + 1) s15)
    else (
    x_st s9 x3 v6 ((v8 <<< (8 &&& 31)) ||| 32) fun s16 =>
    F_L_say_L17 n x1 x2 x3 k70 j (x4 + 1) s16))
    else (
    k70 s0)
set_option maxRecDepth 100000 in
set_option maxHeartbeats 4000000 in
def F_L_say_L2 (n : Nat) (x1 : Nat) (k96 : x_U → Option (Int32 × x_U)) : Nat → Int32 → x_U → Option (Int32 × x_U)
  | 0, _, _ => none
  | j + 1, x2, s0 =>
    x_o s0 x1 13 <|
    x_call (F_J0_length_8abf5 n x1 s0) fun r2 s1 =>
    if x2 < r2 then (
    x_nwa s1 0 5 fun o4 s5 =>
    F_L_say_L17 n x1 x2 o4 (fun  (s17 : x_U) =>
    x_ld s17 o4 0 fun v18 =>
    x_ld s17 o4 1 fun v19 =>
    x_ld s17 o4 2 fun v20 =>
    x_ld s17 o4 3 fun v21 =>
    x_ld s17 o4 4 fun v22 =>
    x_calc s17 (f_X11_feed n 0 v18 v19 v20 v21 v22 (x_c s17)) fun r24 s23 =>
    F_L_say_L2 n x1 k96 j (x2 + 20) s23) n 0 s5)
    else (
    k96 s1)
set_option maxRecDepth 100000 in
set_option maxHeartbeats 4000000 in
def F_L_say (n : Nat) (a1 : Nat) (s0 : x_U) : Option (Int32 × x_U) :=
  F_L_say_L2 n a1 (fun  (s25 : x_U) =>
  x_o s25 a1 13 <|
  x_call (F_J0_length_8abf5 n a1 s25) fun r27 s26 =>
  if r27 ≤ 0 then (
  some (0, s26))
  else (
  x_o s26 a1 13 <|
  x_call (F_J0_length_8abf5 n a1 s26) fun r30 s29 =>
  x_calc s29 (f_X11_end n 0 r30 (x_c s29)) fun r33 s32 =>
  some (0, s32))) n 0 s0
set_option maxRecDepth 100000 in
set_option maxHeartbeats 4000000 in
theorem T_L_say_L17 {w : q_Wd} {cx : q_Cx} {M0 : Nat} (hop : w.2.2.2.2.2.1 = none) {n : Nat} {x1 : Nat} {x2 : Int32} {x3 : Nat} {k70 : x_U → Option (Int32 × x_U)} (hk70 : ∀  (s1 : x_U), x_G w cx RL "say" cL_say 5 (none) 4 85 M0 x_aV 70 [some (q_rf w 0), some (x_v w x1), some (.int x2), some (x_v w x3), none] [] s1 (k70 s1)) :
    ∀ (j : Nat) (x4 : Int32) (s0 : x_U), x_G w cx RL "say" cL_say 5 (none) 4 85 M0 x_aV 17 [some (q_rf w 0), some (x_v w x1), some (.int x2), some (x_v w x3), some (.int x4)] [] s0 (F_L_say_L17 n x1 x2 x3 k70 j x4 s0) := by
  intro j
  induction j with
  | zero =>
    intro _ _
    rw [F_L_say_L17]
    exact x_none
  | succ j ih =>
    intro x4 s0
    rw [F_L_say_L17]
    refine x_iload dL_say_17 rfl (pc2 := 19) rfl ?_
    refine x_bipush dL_say_19 bp_20 (pc2 := 21) rfl ?_
    refine x_icmp_ge dL_say_21 (pc1 := 24) (pc2 := 70) rfl rfl (fun _ => ?_) (fun _ => ?_)
    · refine x_aload_n dL_say_24 x_vR rfl (pc2 := 25) rfl ?_
      refine x_iload dL_say_25 rfl (pc2 := 27) rfl ?_
      refine x_iconst dL_say_27 ic_4 (pc2 := 28) rfl ?_
      refine x_idiv dL_say_28 (pc2 := 29) rfl (fun v6 => ?_)
      refine x_aload_n dL_say_29 x_vR rfl (pc2 := 30) rfl ?_
      refine x_iload dL_say_30 rfl (pc2 := 32) rfl ?_
      refine x_iconst dL_say_32 ic_4 (pc2 := 33) rfl ?_
      refine x_idiv dL_say_33 (pc2 := 34) rfl (fun v7 => ?_)
      refine x_iald dL_say_34 (pc2 := 35) rfl (fun v8 => ?_)
      refine x_bipush dL_say_35 bp_8 (pc2 := 37) rfl ?_
      refine x_ishl dL_say_37 (pc2 := 38) rfl ?_
      refine x_iload_n dL_say_38 rfl (pc2 := 39) rfl ?_
      refine x_iload dL_say_39 rfl (pc2 := 41) rfl ?_
      refine x_iadd dL_say_41 (pc2 := 42) rfl ?_
      refine x_aload_n dL_say_42 x_vR rfl (pc2 := 43) rfl ?_
      refine x_oo (ci := 13) (fun hk11 => ?_)
      refine x_callVI (As := []) C2_J0_length_8abf5 xm_J0_length_8abf5 (fun h => by first | rfl | cases h) xl_L_17 hk11 rfl rfl ⟨by decide, by decide⟩ (Nat.le_trans (x_sm rfl (x_sm rfl (x_sm rfl (x_sm x_vcat x_s0)))) (by decide)) dL_say_43 (pc2 := 46) rfl (fun r10 s9 => ?_) hop
      refine x_icmp_ge dL_say_46 (pc1 := 49) (pc2 := 60) rfl rfl (fun _ => ?_) (fun _ => ?_)
      · refine x_aload_n dL_say_49 x_vR rfl (pc2 := 50) rfl ?_
        refine x_iload_n dL_say_50 rfl (pc2 := 51) rfl ?_
        refine x_iload dL_say_51 rfl (pc2 := 53) rfl ?_
        refine x_iadd dL_say_53 (pc2 := 54) rfl ?_
        refine x_oo (ci := 13) (fun hk14 => ?_)
        refine x_callVI (As := [.int (x2 + x4)]) C2_J0_charAt_5068e xm_J0_charAt_5068e (fun h => by first | rfl | cases h) xl_L_23 hk14 rfl rfl ⟨by decide, by decide⟩ (Nat.le_trans (x_sm rfl (x_sm rfl (x_sm x_vcat x_s0))) (by decide)) dL_say_54 (pc2 := 57) rfl (fun r13 s12 => ?_) hop
        refine x_goto dL_say_57 (pc2 := 62) rfl ?_
        refine x_ior dL_say_62 (pc2 := 63) rfl ?_
        refine x_iast dL_say_63 (pc2 := 64) rfl (fun s15 => ?_)
        refine x_iinc dL_say_64 rfl (q_ii ic_1) (by decide) (L2 := [some (q_rf w 0), some (x_v w x1), some (.int x2), some (x_v w x3), some (.int (x4 + 1))]) rfl (pc2 := 67) rfl ?_
        refine x_goto dL_say_67 (pc2 := 17) rfl ?_
        exact ih _ _
      · refine x_bipush dL_say_60 bp_32 (pc2 := 62) rfl ?_
        refine x_ior dL_say_62 (pc2 := 63) rfl ?_
        refine x_iast dL_say_63 (pc2 := 64) rfl (fun s16 => ?_)
        refine x_iinc dL_say_64 rfl (q_ii ic_1) (by decide) (L2 := [some (q_rf w 0), some (x_v w x1), some (.int x2), some (x_v w x3), some (.int (x4 + 1))]) rfl (pc2 := 67) rfl ?_
        refine x_goto dL_say_67 (pc2 := 17) rfl ?_
        exact ih _ _
    · refine x_Gmask [true, true, true, true, false] (L2 := [some (q_rf w 0), some (x_v w x1), some (.int x2), some (x_v w x3), none]) rfl ?_
      exact hk70 _
set_option maxRecDepth 100000 in
set_option maxHeartbeats 4000000 in
theorem T_L_say_L2 {w : q_Wd} {cx : q_Cx} {M0 : Nat} (hop : w.2.2.2.2.2.1 = none) {n : Nat} {x1 : Nat} {k96 : x_U → Option (Int32 × x_U)} (hk96 : ∀  (s1 : x_U), x_G w cx RL "say" cL_say 5 (none) 4 85 M0 x_aV 96 [some (q_rf w 0), some (x_v w x1), none, none, none] [] s1 (k96 s1)) :
    ∀ (j : Nat) (x2 : Int32) (s0 : x_U), x_G w cx RL "say" cL_say 5 (none) 4 85 M0 x_aV 2 [some (q_rf w 0), some (x_v w x1), some (.int x2), none, none] [] s0 (F_L_say_L2 n x1 k96 j x2 s0) := by
  intro j
  induction j with
  | zero =>
    intro _ _
    rw [F_L_say_L2]
    exact x_none
  | succ j ih =>
    intro x2 s0
    rw [F_L_say_L2]
    refine x_iload_n dL_say_2 rfl (pc2 := 3) rfl ?_
    refine x_aload_n dL_say_3 x_vR rfl (pc2 := 4) rfl ?_
    refine x_oo (ci := 13) (fun hk3 => ?_)
    refine x_callVI (As := []) C2_J0_length_8abf5 xm_J0_length_8abf5 (fun h => by first | rfl | cases h) xl_L_17 hk3 rfl rfl ⟨by decide, by decide⟩ (Nat.le_trans (x_sm rfl x_s0) (by decide)) dL_say_4 (pc2 := 7) rfl (fun r2 s1 => ?_) hop
    refine x_icmp_ge dL_say_7 (pc1 := 10) (pc2 := 96) rfl rfl (fun _ => ?_) (fun _ => ?_)
    · refine x_iconst dL_say_10 ic_5 (pc2 := 11) rfl ?_
      refine x_newa (t := 0) (ty := .int) rfl (Or.inl ⟨rfl, rfl⟩) nw_arr dL_say_11 (pc2 := 13) rfl (fun o4 s5 => ?_)
      refine x_astore_n x_vR dL_say_13 (by decide) (L2 := [some (q_rf w 0), some (x_v w x1), some (.int x2), some (x_v w o4), none]) rfl (pc2 := 14) rfl ?_
      refine x_iconst dL_say_14 ic_0 (pc2 := 15) rfl ?_
      refine x_istore dL_say_15 (by decide) (L2 := [some (q_rf w 0), some (x_v w x1), some (.int x2), some (x_v w o4), some (.int 0)]) rfl (pc2 := 17) rfl ?_
      refine T_L_say_L17 hop (fun s17 => ?_) n _ _
      refine x_aload_n dL_say_70 x_cR rfl (pc2 := 71) rfl ?_
      refine x_aload_n dL_say_71 x_vR rfl (pc2 := 72) rfl ?_
      refine x_iconst dL_say_72 ic_0 (pc2 := 73) rfl ?_
      refine x_iald dL_say_73 (pc2 := 74) rfl (fun v18 => ?_)
      refine x_aload_n dL_say_74 x_vR rfl (pc2 := 75) rfl ?_
      refine x_iconst dL_say_75 ic_1 (pc2 := 76) rfl ?_
      refine x_iald dL_say_76 (pc2 := 77) rfl (fun v19 => ?_)
      refine x_aload_n dL_say_77 x_vR rfl (pc2 := 78) rfl ?_
      refine x_iconst dL_say_78 ic_2 (pc2 := 79) rfl ?_
      refine x_iald dL_say_79 (pc2 := 80) rfl (fun v20 => ?_)
      refine x_aload_n dL_say_80 x_vR rfl (pc2 := 81) rfl ?_
      refine x_iconst dL_say_81 ic_3 (pc2 := 82) rfl ?_
      refine x_iald dL_say_82 (pc2 := 83) rfl (fun v21 => ?_)
      refine x_aload_n dL_say_83 x_vR rfl (pc2 := 84) rfl ?_
      refine x_iconst dL_say_84 ic_4 (pc2 := 85) rfl ?_
      refine x_iald dL_say_85 (pc2 := 86) rfl (fun v22 => ?_)
      refine x_callcI (As := [.int v18, .int v19, .int v20, .int v21, .int v22]) (fun w' => C_X11_feed q_kd0) mv_X11_feed xl_L_27 rfl rfl ⟨by decide, by decide⟩ (Nat.le_trans x_s0 (by decide)) dL_say_86 (pc2 := 89) rfl (fun r24 s23 => ?_)
      refine x_pop dL_say_89 rfl (pc2 := 90) rfl ?_
      refine x_iinc dL_say_90 rfl (q_ii ic_20) (by decide) (L2 := [some (q_rf w 0), some (x_v w x1), some (.int (x2 + 20)), some (x_v w o4), none]) rfl (pc2 := 93) rfl ?_
      refine x_goto dL_say_93 (pc2 := 2) rfl ?_
      refine x_Gmask [true, true, true, false, true] (L2 := [some (q_rf w 0), some (x_v w x1), some (.int (x2 + 20)), none, none]) rfl ?_
      exact ih _ _
    · refine x_Gmask [true, true, false, true, true] (L2 := [some (q_rf w 0), some (x_v w x1), none, none, none]) rfl ?_
      exact hk96 _
set_option maxRecDepth 100000 in
set_option maxHeartbeats 4000000 in
theorem C2_L_say {l : Launch} {w : q_Wd} {n : Nat} {a1 : Nat} {s0 : x_U} : x_C l w yL_say cL_say 5 (none) 4 85 [q_rf w 0, x_v w a1] x_aV s0 (F_L_say n a1 s0) := x_CofG [some (q_rf w 0), some (x_v w a1), none, none, none] (by decide +kernel) rfl (x_ca rfl (x_ca x_vcat x_c0)) (Nat.le_of_ble_eq_true rfl) fun hop cx hl => by
  subst hl
  show x_G w cx RL "say" cL_say 5 (none) 4 85 (x_m s0) x_aV 0 [some (q_rf w 0), some (x_v w a1), none, none, none] [] s0 _
  rw [F_L_say]
  refine x_iconst dL_say_0 ic_0 (pc2 := 1) rfl ?_
  refine x_istore_n dL_say_1 (by decide) (L2 := [some (q_rf w 0), some (x_v w a1), some (.int 0), none, none]) rfl (pc2 := 2) rfl ?_
  refine T_L_say_L2 hop (fun s25 => ?_) n _ _
  refine x_aload_n dL_say_96 x_vR rfl (pc2 := 97) rfl ?_
  refine x_oo (ci := 13) (fun hk28 => ?_)
  refine x_callVI (As := []) C2_J0_length_8abf5 xm_J0_length_8abf5 (fun h => by first | rfl | cases h) xl_L_17 hk28 rfl rfl ⟨by decide, by decide⟩ (Nat.le_trans x_s0 (by decide)) dL_say_97 (pc2 := 100) rfl (fun r27 s26 => ?_) hop
  refine x_if_le dL_say_100 (pc1 := 112) (pc2 := 103) rfl rfl (fun _ => ?_) (fun _ => ?_)
  · exact x_vret dL_say_112
  · refine x_aload_n dL_say_103 x_cR rfl (pc2 := 104) rfl ?_
    refine x_aload_n dL_say_104 x_vR rfl (pc2 := 105) rfl ?_
    refine x_oo (ci := 13) (fun hk31 => ?_)
    refine x_callVI (As := []) C2_J0_length_8abf5 xm_J0_length_8abf5 (fun h => by first | rfl | cases h) xl_L_17 hk31 rfl rfl ⟨by decide, by decide⟩ (Nat.le_trans (x_sm rfl x_s0) (by decide)) dL_say_105 (pc2 := 108) rfl (fun r30 s29 => ?_) hop
    refine x_callcI (As := [.int r30]) (fun w' => C_X11_end q_kd0) mv_X11_end xl_L_33 rfl rfl ⟨by decide, by decide⟩ (Nat.le_trans x_s0 (by decide)) dL_say_108 (pc2 := 111) rfl (fun r33 s32 => ?_)
    refine x_pop dL_say_111 rfl (pc2 := 112) rfl ?_
    exact x_vret dL_say_112
set_option maxRecDepth 100000 in
set_option maxHeartbeats 4000000 in
def F_L_texts_L34 (n : Nat) (x1 : Nat) (x2 : Int32) (x3 : Int32) (x4 : Nat) (k59 : x_U → Option (Int32 × x_U)) : Nat → Int32 → x_U → Option (Int32 × x_U)
  | 0, _, _ => none
  | j + 1, x5, s0 =>
    x_gi s0 x1 12 7 fun v9 =>
    if x5 < v9 then (
    x_gr s0 x1 12 12 fun o10 =>
    x_lr s0 o10 x5 fun o11 =>
    x_st s0 o11 4 0 fun s12 =>
    F_L_texts_L34 n x1 x2 x3 x4 k59 j (x5 + 1) s12)
    else (
    k59 s0)
set_option maxRecDepth 100000 in
set_option maxHeartbeats 4000000 in
def F_L_texts_L67 (n : Nat) (x1 : Nat) (x2 : Int32) (x3 : Int32) (x4 : Nat) (k279 : x_U → Option (Int32 × x_U)) : Nat → Int32 → x_U → Option (Int32 × x_U)
  | 0, _, _ => none
  | j + 1, x5, s0 =>
    if x5 < x3 then (
    x_nm ((x2 * (x5 + 3)) + (281 * x5)) fun v15 =>
    x_gi s0 x1 12 7 fun v16 =>
    x_call (F_L_between n v15 0 (v16 - 1) s0) fun r18 s17 =>
    x_gi s17 x1 12 7 fun v19 =>
    x_call (F_L_between n (v15 >>> (4 &&& 31)) 1 (v19 - 1) s17) fun r21 s20 =>
    x_gi s20 x1 12 7 fun v22 =>
    x_rem (r18 + r21) v22 fun v23 =>
    x_gi s20 x1 12 7 fun v24 =>
    x_call (F_L_between n (v15 >>> (6 &&& 31)) 1 (v24 - 1) s20) fun r26 s25 =>
    x_gi s25 x1 12 7 fun v27 =>
    x_rem (r18 + r26) v27 fun v28 =>
    x_nm (fun (y29 : Int32) (s30 : x_U) =>
      x_new s30 14 fun o31 s32 =>
      x_o s32 o31 14 <|
      x_call (F_J4_init_da8c8 n o31 s32) fun r34 s33 =>
      x_o s33 o31 14 <|
      x_call (F_J4_append_15ec4 n o31 (x_CB + 30) s33) fun o37 s36 =>
      x_o s36 o37 14 <|
      x_call (F_J4_append_bf812 n o37 r18 s36) fun o40 s39 =>
      x_o s39 o40 14 <|
      x_call (F_J4_append_15ec4 n o40 (x_CB + 31) s39) fun o43 s42 =>
      x_o s42 o43 14 <|
      x_call (F_J4_append_bf812 n o43 v23 s42) fun o46 s45 =>
      x_nm (fun (y48 : Nat) (s49 : x_U) =>
        x_o s49 o46 14 <|
        x_call (F_J4_append_15ec4 n o46 y48 s49) fun o51 s50 =>
        x_o s50 o51 14 <|
        x_call (F_J4_append_15ec4 n o51 (x_CB + 34) s50) fun o54 s53 =>
        x_o s53 o54 14 <|
        x_call (F_J4_toString_0e30d n o54 s53) fun o57 s56 =>
        x_o s56 x4 14 <|
        x_call (F_J4_append_15ec4 n x4 o57 s56) fun o60 s59 =>
        x_gr s59 x1 12 12 fun o62 =>
        x_lr s59 o62 r18 fun o63 =>
        x_ld s59 o63 4 fun v64 =>
        x_nm (fun (y65 : Int32) (s66 : x_U) =>
          x_st s66 o63 4 (v64 ||| ((1 <<< (v23 &&& 31)) ||| y65)) fun s67 =>
          F_L_texts_L67 n x1 x2 x3 x4 k279 j (x5 + 1) s67) fun j270 =>
        if y29 = 0 then (
        j270 0 s59)
        else (
        j270 (1 <<< (v28 &&& 31)) s59)) fun j228 =>
      if y29 = 0 then (
      j228 (x_CB + 33) s45)
      else (
      x_new s45 14 fun o68 s69 =>
      x_o s69 o68 14 <|
      x_call (F_J4_init_da8c8 n o68 s69) fun r71 s70 =>
      x_o s70 o68 14 <|
      x_call (F_J4_append_15ec4 n o68 (x_CB + 32) s70) fun o74 s73 =>
      x_o s73 o74 14 <|
      x_call (F_J4_append_bf812 n o74 v28 s73) fun o77 s76 =>
      x_o s76 o77 14 <|
      x_call (F_J4_toString_0e30d n o77 s76) fun o80 s79 =>
      j228 o80 s79)) fun j167 =>
    if ((v15 >>> (8 &&& 31)) &&& 1) = 1 then (
    j167 1 s25)
    else (
    j167 0 s25))
    else (
    k279 s0)
set_option maxRecDepth 100000 in
set_option maxHeartbeats 4000000 in
def F_L_texts_L360 (n : Nat) (x1 : Nat) (x2 : Int32) (x3 : Int32) (x4 : Nat) (x5 : Nat) (k671 : x_U → Option (Int32 × x_U)) : Nat → Int32 → x_U → Option (Int32 × x_U)
  | 0, _, _ => none
  | j + 1, x6, s0 =>
    if x6 < x3 then (
    x_nm ((x2 * (x6 + 5)) + (283 * x6)) fun v107 =>
    x_call (F_L_between n (v107 >>> (3 &&& 31)) 0 4 s0) fun r109 s108 =>
    x_gi s108 x1 12 8 fun v110 =>
    x_nm (fun (y111 : Int32) (s112 : x_U) =>
      x_nm (fun (y113 : Int32) (s114 : x_U) =>
        x_nm (fun (y115 : Int32) (s116 : x_U) =>
          x_gr s116 x1 12 14 fun o117 =>
          x_nwa s116 0 4 fun o118 s119 =>
          x_gi s119 x1 12 1 fun v120 =>
          x_call (F_L_between n v107 0 6 s119) fun r122 s121 =>
          x_st s121 o118 0 (v120 + r122) fun s123 =>
          x_st s123 o118 1 y111 fun s124 =>
          x_st s124 o118 2 y113 fun s125 =>
          x_st s125 o118 3 y115 fun s126 =>
          x_sr s126 o117 x6 o118 fun s127 =>
          x_new s127 14 fun o128 s129 =>
          x_o s129 o128 14 <|
          x_call (F_J4_init_da8c8 n o128 s129) fun r131 s130 =>
          x_o s130 o128 14 <|
          x_call (F_J4_append_15ec4 n o128 (x_CB + 40) s130) fun o134 s133 =>
          x_gr s133 x1 12 14 fun o136 =>
          x_lr s133 o136 x6 fun o137 =>
          x_ld s133 o137 0 fun v138 =>
          x_o s133 o134 14 <|
          x_call (F_J4_append_bf812 n o134 v138 s133) fun o140 s139 =>
          x_lr s139 x5 y111 fun o142 =>
          x_o s139 o140 14 <|
          x_call (F_J4_append_15ec4 n o140 o142 s139) fun o144 s143 =>
          x_nm (fun (y146 : Nat) (s147 : x_U) =>
            x_o s147 o144 14 <|
            x_call (F_J4_append_15ec4 n o144 y146 s147) fun o149 s148 =>
            x_nm (fun (y151 : Nat) (s152 : x_U) =>
              x_o s152 o149 14 <|
              x_call (F_J4_append_15ec4 n o149 y151 s152) fun o154 s153 =>
              x_o s153 o154 14 <|
              x_call (F_J4_append_15ec4 n o154 (x_CB + 34) s153) fun o157 s156 =>
              x_o s156 o157 14 <|
              x_call (F_J4_toString_0e30d n o157 s156) fun o160 s159 =>
              x_o s159 x4 14 <|
              x_call (F_J4_append_15ec4 n x4 o160 s159) fun o163 s162 =>
              F_L_texts_L360 n x1 x2 x3 x4 x5 k671 j (x6 + 1) s162) fun j650 =>
            x_nm (fun  (s165 : x_U) =>
              x_new s165 14 fun o166 s167 =>
              x_o s167 o166 14 <|
              x_call (F_J4_init_da8c8 n o166 s167) fun r169 s168 =>
              x_o s168 o166 14 <|
              x_call (F_J4_append_15ec4 n o166 (x_CB + 41) s168) fun o172 s171 =>
              x_o s171 o172 14 <|
              x_call (F_J4_append_bf812 n o172 y115 s171) fun o175 s174 =>
              x_o s174 o175 14 <|
              x_call (F_J4_toString_0e30d n o175 s174) fun o178 s177 =>
              j650 o178 s177) fun j625 =>
            if y111 = 0 then (
            j625 s148)
            else (
            if y111 = 2 then (
            j625 s148)
            else (
            j650 (x_CB + 33) s148))) fun j611 =>
          if y111 = 3 then (
          j611 (x_CB + 33) s143)
          else (
          x_new s143 14 fun o180 s181 =>
          x_o s181 o180 14 <|
          x_call (F_J4_init_da8c8 n o180 s181) fun r183 s182 =>
          x_o s182 o180 14 <|
          x_call (F_J4_append_15ec4 n o180 (x_CB + 33) s182) fun o186 s185 =>
          x_o s185 o186 14 <|
          x_call (F_J4_append_bf812 n o186 y113 s185) fun o189 s188 =>
          x_o s188 o189 14 <|
          x_call (F_J4_toString_0e30d n o189 s188) fun o192 s191 =>
          j611 o192 s191)) fun j503 =>
        x_nm (fun  (s194 : x_U) =>
          x_gi s194 x1 12 7 fun v195 =>
          x_call (F_L_between n (v107 >>> (5 &&& 31)) 0 (v195 - 1) s194) fun r197 s196 =>
          j503 r197 s196) fun j485 =>
        if y111 = 0 then (
        j485 s114)
        else (
        if y111 = 2 then (
        j485 s114)
        else (
        j503 0 s114))) fun j472 =>
      if y111 = 3 then (
      j472 0 s112)
      else (
      if y111 = 4 then (
      x_call (F_L_between n (v107 >>> (6 &&& 31)) 0 5 s112) fun r199 s198 =>
      j472 r199 s198)
      else (
      x_gi s112 x1 12 8 fun v200 =>
      x_call (F_L_between n (v107 >>> (6 &&& 31)) 0 (v200 - 1) s112) fun r202 s201 =>
      j472 r202 s201))) fun j428 =>
    x_nm (fun  (s203 : x_U) =>
      j428 3 s203) fun j425 =>
    x_nm (fun  (s204 : x_U) =>
      x_gi s204 x1 12 7 fun v205 =>
      if v205 = 0 then (
      x_rem r109 2 fun v206 =>
      if v206 = 0 then (
      if r109 < 3 then (
      j425 s204)
      else (
      j428 r109 s204))
      else (
      j428 r109 s204))
      else (
      j428 r109 s204)) fun j405 =>
    if v110 = 0 then (
    if r109 < 3 then (
    j425 s108)
    else (
    j405 s108))
    else (
    j405 s108))
    else (
    k671 s0)
set_option maxRecDepth 100000 in
set_option maxHeartbeats 4000000 in
def F_L_texts_L722 (n : Nat) (x1 : Nat) (x2 : Int32) (x3 : Int32) (x4 : Nat) (k870 : x_U → Option (Int32 × x_U)) : Nat → Int32 → x_U → Option (Int32 × x_U)
  | 0, _, _ => none
  | j + 1, x6, s0 =>
    if x6 < x3 then (
    x_nm ((x2 * (x6 + 7)) + (293 * x6)) fun v225 =>
    x_call (F_L_between n v225 0 5 s0) fun r227 s226 =>
    x_gr s226 x1 12 15 fun o228 =>
    x_nwa s226 0 3 fun o229 s230 =>
    x_st s230 o229 0 r227 fun s231 =>
    x_call (F_L_between n (v225 >>> (4 &&& 31)) 1 5 s231) fun r233 s232 =>
    x_rem (r227 + r233) 6 fun v234 =>
    x_st s232 o229 1 v234 fun s235 =>
    x_call (F_L_between n (v225 >>> (5 &&& 31)) 1 24 s235) fun r237 s236 =>
    x_st s236 o229 2 r237 fun s238 =>
    x_sr s238 o228 x6 o229 fun s239 =>
    x_new s239 14 fun o240 s241 =>
    x_o s241 o240 14 <|
    x_call (F_J4_init_da8c8 n o240 s241) fun r243 s242 =>
    x_o s242 o240 14 <|
    x_call (F_J4_append_15ec4 n o240 (x_CB + 42) s242) fun o246 s245 =>
    x_o s245 o246 14 <|
    x_call (F_J4_append_bf812 n o246 r227 s245) fun o249 s248 =>
    x_o s248 o249 14 <|
    x_call (F_J4_append_15ec4 n o249 (x_CB + 41) s248) fun o252 s251 =>
    x_gr s251 x1 12 15 fun o254 =>
    x_lr s251 o254 x6 fun o255 =>
    x_ld s251 o255 1 fun v256 =>
    x_o s251 o252 14 <|
    x_call (F_J4_append_bf812 n o252 v256 s251) fun o258 s257 =>
    x_o s257 o258 14 <|
    x_call (F_J4_append_15ec4 n o258 (x_CB + 43) s257) fun o261 s260 =>
    x_gr s260 x1 12 15 fun o263 =>
    x_lr s260 o263 x6 fun o264 =>
    x_ld s260 o264 2 fun v265 =>
    x_o s260 o261 14 <|
    x_call (F_J4_append_bf812 n o261 v265 s260) fun o267 s266 =>
    x_o s266 o267 14 <|
    x_call (F_J4_append_15ec4 n o267 (x_CB + 34) s266) fun o270 s269 =>
    x_o s269 o270 14 <|
    x_call (F_J4_toString_0e30d n o270 s269) fun o273 s272 =>
    x_o s272 x4 14 <|
    x_call (F_J4_append_15ec4 n x4 o273 s272) fun o276 s275 =>
    F_L_texts_L722 n x1 x2 x3 x4 k870 j (x6 + 1) s275)
    else (
    k870 s0)
set_option maxRecDepth 100000 in
set_option maxHeartbeats 4000000 in
def F_L_texts (n : Nat) (a1 : Nat) (a2 : Int32) (s0 : x_U) : Option (Int32 × x_U) :=
  x_gi s0 a1 12 7 fun v1 =>
  x_nm (fun (y2 : Int32) (s3 : x_U) =>
    x_new s3 14 fun o4 s5 =>
    x_o s5 o4 14 <|
    x_call (F_J4_init_da8c8 n o4 s5) fun r7 s6 =>
    F_L_texts_L34 n a1 a2 y2 o4 (fun  (s13 : x_U) =>
    x_pi s13 a1 12 10 y2 fun s14 =>
    F_L_texts_L67 n a1 a2 y2 o4 (fun  (s82 : x_U) =>
    x_o s82 o4 14 <|
    x_call (F_J4_toString_0e30d n o4 s82) fun o84 s83 =>
    x_call (F_L_say n o84 s83) fun r87 s86 =>
    x_calc s86 (f_X11_text n 0 1 (x_c s86)) fun r89 s88 =>
    if r89 = y2 then (
    x_call (F_L_between n (a2 >>> (5 &&& 31)) 0 10 s88) fun r91 s90 =>
    x_new s90 14 fun o92 s93 =>
    x_o s93 o92 14 <|
    x_call (F_J4_init_da8c8 n o92 s93) fun r95 s94 =>
    x_nwa s94 5 5 fun o97 s98 =>
    x_sr s98 o97 0 (x_CB + 35) fun s99 =>
    x_sr s99 o97 1 (x_CB + 36) fun s100 =>
    x_sr s100 o97 2 (x_CB + 37) fun s101 =>
    x_sr s101 o97 3 (x_CB + 38) fun s102 =>
    x_sr s102 o97 4 (x_CB + 39) fun s103 =>
    x_nwa s103 3 r91 fun o104 s105 =>
    x_pr s105 a1 12 14 o104 fun s106 =>
    F_L_texts_L360 n a1 a2 r91 o92 o97 (fun  (s207 : x_U) =>
    x_o s207 o92 14 <|
    x_call (F_J4_toString_0e30d n o92 s207) fun o209 s208 =>
    x_call (F_L_say n o209 s208) fun r212 s211 =>
    x_calc s211 (f_X11_text n 0 2 (x_c s211)) fun r214 s213 =>
    if r214 = r91 then (
    x_call (F_L_between n (a2 >>> (6 &&& 31)) 0 14 s213) fun r216 s215 =>
    x_new s215 14 fun o217 s218 =>
    x_o s218 o217 14 <|
    x_call (F_J4_init_da8c8 n o217 s218) fun r220 s219 =>
    x_nwa s219 3 r216 fun o222 s223 =>
    x_pr s223 a1 12 15 o222 fun s224 =>
    F_L_texts_L722 n a1 a2 r216 o217 (fun  (s278 : x_U) =>
    x_o s278 o217 14 <|
    x_call (F_J4_toString_0e30d n o217 s278) fun o280 s279 =>
    x_call (F_L_say n o280 s279) fun r283 s282 =>
    x_calc s282 (f_X11_text n 0 3 (x_c s282)) fun r285 s284 =>
    if r285 = r216 then (
    some (1, s284))
    else (
    some (0, s284))) n 0 s224)
    else (
    some (0, s213))) n 0 s106)
    else (
    some (0, s88))) n 0 s14) n 0 s6) fun j21 =>
  if v1 < 2 then (
  j21 0 s0)
  else (
  x_call (F_L_between n (a2 >>> (3 &&& 31)) 0 12 s0) fun r287 s286 =>
  j21 r287 s286)
set_option maxRecDepth 100000 in
set_option maxHeartbeats 4000000 in
theorem T_L_texts_L34 {w : q_Wd} {cx : q_Cx} {M0 : Nat} (hop : w.2.2.2.2.2.1 = none) {n : Nat} {x1 : Nat} {x2 : Int32} {x3 : Int32} {x4 : Nat} {k59 : x_U → Option (Int32 × x_U)} (hk59 : ∀  (s1 : x_U), x_G w cx RL "texts" cL_texts 11 (some .boolean) 13 300 M0 x_aI 59 [some (q_rf w 0), some (x_v w x1), some (.int x2), some (.int x3), some (x_v w x4), none, none, none, none, none, none] [] s1 (k59 s1)) :
    ∀ (j : Nat) (x5 : Int32) (s0 : x_U), x_G w cx RL "texts" cL_texts 11 (some .boolean) 13 300 M0 x_aI 34 [some (q_rf w 0), some (x_v w x1), some (.int x2), some (.int x3), some (x_v w x4), some (.int x5), none, none, none, none, none] [] s0 (F_L_texts_L34 n x1 x2 x3 x4 k59 j x5 s0) := by
  intro j
  induction j with
  | zero =>
    intro _ _
    rw [F_L_texts_L34]
    exact x_none
  | succ j ih =>
    intro x5 s0
    rw [F_L_texts_L34]
    refine x_iload dL_texts_34 rfl (pc2 := 36) rfl ?_
    refine x_aload_n dL_texts_36 x_vR rfl (pc2 := 37) rfl ?_
    refine x_getIN xf_L_37 (by decide) rfl dL_texts_37 (pc2 := 40) rfl (fun v9 => ?_)
    refine x_icmp_ge dL_texts_40 (pc1 := 43) (pc2 := 59) rfl rfl (fun _ => ?_) (fun _ => ?_)
    · refine x_aload_n dL_texts_43 x_vR rfl (pc2 := 44) rfl ?_
      refine x_getRN xf_L_52 (by decide) rfl dL_texts_44 (pc2 := 47) rfl (fun o10 => ?_)
      refine x_iload dL_texts_47 rfl (pc2 := 49) rfl ?_
      refine x_aald dL_texts_49 (pc2 := 50) rfl (fun o11 => ?_)
      refine x_iconst dL_texts_50 ic_4 (pc2 := 51) rfl ?_
      refine x_iconst dL_texts_51 ic_0 (pc2 := 52) rfl ?_
      refine x_iast dL_texts_52 (pc2 := 53) rfl (fun s12 => ?_)
      refine x_iinc dL_texts_53 rfl (q_ii ic_1) (by decide) (L2 := [some (q_rf w 0), some (x_v w x1), some (.int x2), some (.int x3), some (x_v w x4), some (.int (x5 + 1)), none, none, none, none, none]) rfl (pc2 := 56) rfl ?_
      refine x_goto dL_texts_56 (pc2 := 34) rfl ?_
      exact ih _ _
    · refine x_Gmask [true, true, true, true, true, false, true, true, true, true, true] (L2 := [some (q_rf w 0), some (x_v w x1), some (.int x2), some (.int x3), some (x_v w x4), none, none, none, none, none, none]) rfl ?_
      exact hk59 _
set_option maxRecDepth 100000 in
set_option maxHeartbeats 4000000 in
theorem T_L_texts_L67 {w : q_Wd} {cx : q_Cx} {M0 : Nat} (hop : w.2.2.2.2.2.1 = none) {n : Nat} {x1 : Nat} {x2 : Int32} {x3 : Int32} {x4 : Nat} {k279 : x_U → Option (Int32 × x_U)} (hk279 : ∀  (s1 : x_U), x_G w cx RL "texts" cL_texts 11 (some .boolean) 13 300 M0 x_aI 279 [some (q_rf w 0), some (x_v w x1), some (.int x2), some (.int x3), some (x_v w x4), none, none, none, none, none, none] [] s1 (k279 s1)) :
    ∀ (j : Nat) (x5 : Int32) (s0 : x_U), x_G w cx RL "texts" cL_texts 11 (some .boolean) 13 300 M0 x_aI 67 [some (q_rf w 0), some (x_v w x1), some (.int x2), some (.int x3), some (x_v w x4), some (.int x5), none, none, none, none, none] [] s0 (F_L_texts_L67 n x1 x2 x3 x4 k279 j x5 s0) := by
  intro j
  induction j with
  | zero =>
    intro _ _
    rw [F_L_texts_L67]
    exact x_none
  | succ j ih =>
    intro x5 s0
    rw [F_L_texts_L67]
    refine x_iload dL_texts_67 rfl (pc2 := 69) rfl ?_
    refine x_iload_n dL_texts_69 rfl (pc2 := 70) rfl ?_
    refine x_icmp_ge dL_texts_70 (pc1 := 73) (pc2 := 279) rfl rfl (fun _ => ?_) (fun _ => ?_)
    · refine x_iload_n dL_texts_73 rfl (pc2 := 74) rfl ?_
      refine x_iload dL_texts_74 rfl (pc2 := 76) rfl ?_
      refine x_iconst dL_texts_76 ic_3 (pc2 := 77) rfl ?_
      refine x_iadd dL_texts_77 (pc2 := 78) rfl ?_
      refine x_imul dL_texts_78 (pc2 := 79) rfl ?_
      refine x_sipush dL_texts_79 sp_281 (pc2 := 82) rfl ?_
      refine x_iload dL_texts_82 rfl (pc2 := 84) rfl ?_
      refine x_imul dL_texts_84 (pc2 := 85) rfl ?_
      refine x_iadd dL_texts_85 (pc2 := 86) rfl ?_
      refine x_gnm (fun v15 => ?_)
      refine x_istore dL_texts_86 (by decide) (L2 := [some (q_rf w 0), some (x_v w x1), some (.int x2), some (.int x3), some (x_v w x4), some (.int x5), some (.int v15), none, none, none, none]) rfl (pc2 := 88) rfl ?_
      refine x_iload dL_texts_88 rfl (pc2 := 90) rfl ?_
      refine x_iconst dL_texts_90 ic_0 (pc2 := 91) rfl ?_
      refine x_aload_n dL_texts_91 x_vR rfl (pc2 := 92) rfl ?_
      refine x_getIN xf_L_37 (by decide) rfl dL_texts_92 (pc2 := 95) rfl (fun v16 => ?_)
      refine x_iconst dL_texts_95 ic_1 (pc2 := 96) rfl ?_
      refine x_isub dL_texts_96 (pc2 := 97) rfl ?_
      refine x_callSI (As := [.int v15, .int 0, .int (v16 - 1)]) C2_L_between xm_L_between xl_L_43 rfl rfl ⟨by decide, by decide⟩ (Nat.le_trans x_s0 (by decide)) dL_texts_97 (pc2 := 100) rfl (fun r18 s17 => ?_) hop
      refine x_istore dL_texts_100 (by decide) (L2 := [some (q_rf w 0), some (x_v w x1), some (.int x2), some (.int x3), some (x_v w x4), some (.int x5), some (.int v15), some (.int r18), none, none, none]) rfl (pc2 := 102) rfl ?_
      refine x_iload dL_texts_102 rfl (pc2 := 104) rfl ?_
      refine x_iload dL_texts_104 rfl (pc2 := 106) rfl ?_
      refine x_iconst dL_texts_106 ic_4 (pc2 := 107) rfl ?_
      refine x_ishr dL_texts_107 (pc2 := 108) rfl ?_
      refine x_iconst dL_texts_108 ic_1 (pc2 := 109) rfl ?_
      refine x_aload_n dL_texts_109 x_vR rfl (pc2 := 110) rfl ?_
      refine x_getIN xf_L_37 (by decide) rfl dL_texts_110 (pc2 := 113) rfl (fun v19 => ?_)
      refine x_iconst dL_texts_113 ic_1 (pc2 := 114) rfl ?_
      refine x_isub dL_texts_114 (pc2 := 115) rfl ?_
      refine x_callSI (As := [.int (v15 >>> (4 &&& 31)), .int 1, .int (v19 - 1)]) C2_L_between xm_L_between xl_L_43 rfl rfl ⟨by decide, by decide⟩ (Nat.le_trans (x_sm rfl x_s0) (by decide)) dL_texts_115 (pc2 := 118) rfl (fun r21 s20 => ?_) hop
      refine x_iadd dL_texts_118 (pc2 := 119) rfl ?_
      refine x_aload_n dL_texts_119 x_vR rfl (pc2 := 120) rfl ?_
      refine x_getIN xf_L_37 (by decide) rfl dL_texts_120 (pc2 := 123) rfl (fun v22 => ?_)
      refine x_irem dL_texts_123 (pc2 := 124) rfl (fun v23 => ?_)
      refine x_istore dL_texts_124 (by decide) (L2 := [some (q_rf w 0), some (x_v w x1), some (.int x2), some (.int x3), some (x_v w x4), some (.int x5), some (.int v15), some (.int r18), some (.int v23), none, none]) rfl (pc2 := 126) rfl ?_
      refine x_iload dL_texts_126 rfl (pc2 := 128) rfl ?_
      refine x_iload dL_texts_128 rfl (pc2 := 130) rfl ?_
      refine x_bipush dL_texts_130 bp_6 (pc2 := 132) rfl ?_
      refine x_ishr dL_texts_132 (pc2 := 133) rfl ?_
      refine x_iconst dL_texts_133 ic_1 (pc2 := 134) rfl ?_
      refine x_aload_n dL_texts_134 x_vR rfl (pc2 := 135) rfl ?_
      refine x_getIN xf_L_37 (by decide) rfl dL_texts_135 (pc2 := 138) rfl (fun v24 => ?_)
      refine x_iconst dL_texts_138 ic_1 (pc2 := 139) rfl ?_
      refine x_isub dL_texts_139 (pc2 := 140) rfl ?_
      refine x_callSI (As := [.int (v15 >>> (6 &&& 31)), .int 1, .int (v24 - 1)]) C2_L_between xm_L_between xl_L_43 rfl rfl ⟨by decide, by decide⟩ (Nat.le_trans (x_sm rfl x_s0) (by decide)) dL_texts_140 (pc2 := 143) rfl (fun r26 s25 => ?_) hop
      refine x_iadd dL_texts_143 (pc2 := 144) rfl ?_
      refine x_aload_n dL_texts_144 x_vR rfl (pc2 := 145) rfl ?_
      refine x_getIN xf_L_37 (by decide) rfl dL_texts_145 (pc2 := 148) rfl (fun v27 => ?_)
      refine x_irem dL_texts_148 (pc2 := 149) rfl (fun v28 => ?_)
      refine x_istore dL_texts_149 (by decide) (L2 := [some (q_rf w 0), some (x_v w x1), some (.int x2), some (.int x3), some (x_v w x4), some (.int x5), some (.int v15), some (.int r18), some (.int v23), some (.int v28), none]) rfl (pc2 := 151) rfl ?_
      refine x_iload dL_texts_151 rfl (pc2 := 153) rfl ?_
      refine x_bipush dL_texts_153 bp_8 (pc2 := 155) rfl ?_
      refine x_ishr dL_texts_155 (pc2 := 156) rfl ?_
      refine x_iconst dL_texts_156 ic_1 (pc2 := 157) rfl ?_
      refine x_iand dL_texts_157 (pc2 := 158) rfl ?_
      refine x_iconst dL_texts_158 ic_1 (pc2 := 159) rfl ?_
      refine x_jn (P := fun j167 => ∀ (y29 : Int32) (s30 : x_U), x_G w cx RL "texts" cL_texts 11 (some .boolean) 13 300 M0 x_aI 167 [some (q_rf w 0), some (x_v w x1), some (.int x2), some (.int x3), some (x_v w x4), some (.int x5), none, some (.int r18), some (.int v23), some (.int v28), none] [.int y29] s30 (j167 y29 s30)) (fun y29 s30 => ?_) (fun j167 hj167 => ?_)
      · refine x_istore dL_texts_167 (by decide) (L2 := [some (q_rf w 0), some (x_v w x1), some (.int x2), some (.int x3), some (x_v w x4), some (.int x5), none, some (.int r18), some (.int v23), some (.int v28), some (.int y29)]) rfl (pc2 := 169) rfl ?_
        refine x_aload dL_texts_169 x_vR rfl (pc2 := 171) rfl ?_
        refine x_newo cl_14 xn_L_49 df_14 dL_texts_171 (pc2 := 174) rfl (fun o31 s32 => ?_)
        refine x_dup dL_texts_174 x_vcat (pc2 := 175) rfl ?_
        refine x_oo (ci := 14) (fun hk35 => ?_)
        refine x_callIV (As := []) C2_J4_init_da8c8 mi_J4_init_da8c8 rfl rfl xl_L_51 hk35 xq_14 (fun h => by first | rfl | cases h) rfl rfl ⟨by decide, by decide⟩ (Nat.le_trans (x_sm x_vcat (x_sm x_vcat x_s0)) (by decide)) dL_texts_175 (pc2 := 178) rfl (fun r34 s33 => ?_) hop
        refine x_ldcS (i := 30) (tx := "mule ") dL_texts_178 (by decide +kernel) (by decide) (pc2 := 180) rfl ?_
        refine x_oo (ci := 14) (fun hk38 => ?_)
        refine x_callVR (As := [x_v w (x_CB + 30)]) C2_J4_append_15ec4 xm_J4_append_15ec4 (fun h => by first | rfl | cases h) xl_L_61 hk38 rfl rfl ⟨by decide, by decide⟩ (Nat.le_trans (x_sm x_vcat x_s0) (by decide)) dL_texts_180 (pc2 := 183) rfl (fun o37 s36 => ?_) hop
        refine x_iload dL_texts_183 rfl (pc2 := 185) rfl ?_
        refine x_oo (ci := 14) (fun hk41 => ?_)
        refine x_callVR (As := [.int r18]) C2_J4_append_bf812 xm_J4_append_bf812 (fun h => by first | rfl | cases h) xl_L_65 hk41 rfl rfl ⟨by decide, by decide⟩ (Nat.le_trans (x_sm x_vcat x_s0) (by decide)) dL_texts_185 (pc2 := 188) rfl (fun o40 s39 => ?_) hop
        refine x_ldcS (i := 31) (tx := " heeds ") dL_texts_188 (by decide +kernel) (by decide) (pc2 := 190) rfl ?_
        refine x_oo (ci := 14) (fun hk44 => ?_)
        refine x_callVR (As := [x_v w (x_CB + 31)]) C2_J4_append_15ec4 xm_J4_append_15ec4 (fun h => by first | rfl | cases h) xl_L_61 hk44 rfl rfl ⟨by decide, by decide⟩ (Nat.le_trans (x_sm x_vcat x_s0) (by decide)) dL_texts_190 (pc2 := 193) rfl (fun o43 s42 => ?_) hop
        refine x_iload dL_texts_193 rfl (pc2 := 195) rfl ?_
        refine x_oo (ci := 14) (fun hk47 => ?_)
        refine x_callVR (As := [.int v23]) C2_J4_append_bf812 xm_J4_append_bf812 (fun h => by first | rfl | cases h) xl_L_65 hk47 rfl rfl ⟨by decide, by decide⟩ (Nat.le_trans (x_sm x_vcat x_s0) (by decide)) dL_texts_195 (pc2 := 198) rfl (fun o46 s45 => ?_) hop
        refine x_iload dL_texts_198 rfl (pc2 := 200) rfl ?_
        refine x_jn (P := fun j228 => ∀ (y48 : Nat) (s49 : x_U), x_G w cx RL "texts" cL_texts 11 (some .boolean) 13 300 M0 x_aI 228 [some (q_rf w 0), some (x_v w x1), some (.int x2), some (.int x3), some (x_v w x4), some (.int x5), none, some (.int r18), some (.int v23), some (.int v28), some (.int y29)] [x_v w y48, x_v w o46, x_v w x4] s49 (j228 y48 s49)) (fun y48 s49 => ?_) (fun j228 hj228 => ?_)
        · refine x_oo (ci := 14) (fun hk52 => ?_)
          refine x_callVR (As := [x_v w y48]) C2_J4_append_15ec4 xm_J4_append_15ec4 (fun h => by first | rfl | cases h) xl_L_61 hk52 rfl rfl ⟨by decide, by decide⟩ (Nat.le_trans (x_sm x_vcat x_s0) (by decide)) dL_texts_228 (pc2 := 231) rfl (fun o51 s50 => ?_) hop
          refine x_ldcS (i := 34) (tx := ";") dL_texts_231 (by decide +kernel) (by decide) (pc2 := 233) rfl ?_
          refine x_oo (ci := 14) (fun hk55 => ?_)
          refine x_callVR (As := [x_v w (x_CB + 34)]) C2_J4_append_15ec4 xm_J4_append_15ec4 (fun h => by first | rfl | cases h) xl_L_61 hk55 rfl rfl ⟨by decide, by decide⟩ (Nat.le_trans (x_sm x_vcat x_s0) (by decide)) dL_texts_233 (pc2 := 236) rfl (fun o54 s53 => ?_) hop
          refine x_oo (ci := 14) (fun hk58 => ?_)
          refine x_callVR (As := []) C2_J4_toString_0e30d xm_J4_toString_0e30d (fun h => by first | rfl | cases h) xl_L_72 hk58 rfl rfl ⟨by decide, by decide⟩ (Nat.le_trans (x_sm x_vcat x_s0) (by decide)) dL_texts_236 (pc2 := 239) rfl (fun o57 s56 => ?_) hop
          refine x_oo (ci := 14) (fun hk61 => ?_)
          refine x_callVR (As := [x_v w o57]) C2_J4_append_15ec4 xm_J4_append_15ec4 (fun h => by first | rfl | cases h) xl_L_61 hk61 rfl rfl ⟨by decide, by decide⟩ (Nat.le_trans x_s0 (by decide)) dL_texts_239 (pc2 := 242) rfl (fun o60 s59 => ?_) hop
          refine x_pop dL_texts_242 x_vcat (pc2 := 243) rfl ?_
          refine x_aload_n dL_texts_243 x_vR rfl (pc2 := 244) rfl ?_
          refine x_getRN xf_L_52 (by decide) rfl dL_texts_244 (pc2 := 247) rfl (fun o62 => ?_)
          refine x_iload dL_texts_247 rfl (pc2 := 249) rfl ?_
          refine x_aald dL_texts_249 (pc2 := 250) rfl (fun o63 => ?_)
          refine x_iconst dL_texts_250 ic_4 (pc2 := 251) rfl ?_
          refine x_dup2 dL_texts_251 rfl x_vcat (pc2 := 252) rfl ?_
          refine x_iald dL_texts_252 (pc2 := 253) rfl (fun v64 => ?_)
          refine x_iconst dL_texts_253 ic_1 (pc2 := 254) rfl ?_
          refine x_iload dL_texts_254 rfl (pc2 := 256) rfl ?_
          refine x_ishl dL_texts_256 (pc2 := 257) rfl ?_
          refine x_iload dL_texts_257 rfl (pc2 := 259) rfl ?_
          refine x_jn (P := fun j270 => ∀ (y65 : Int32) (s66 : x_U), x_G w cx RL "texts" cL_texts 11 (some .boolean) 13 300 M0 x_aI 270 [some (q_rf w 0), some (x_v w x1), some (.int x2), some (.int x3), some (x_v w x4), some (.int x5), none, none, none, none, none] [.int y65, .int (1 <<< (v23 &&& 31)), .int v64, .int 4, x_v w o63] s66 (j270 y65 s66)) (fun y65 s66 => ?_) (fun j270 hj270 => ?_)
          · refine x_ior dL_texts_270 (pc2 := 271) rfl ?_
            refine x_ior dL_texts_271 (pc2 := 272) rfl ?_
            refine x_iast dL_texts_272 (pc2 := 273) rfl (fun s67 => ?_)
            refine x_iinc dL_texts_273 rfl (q_ii ic_1) (by decide) (L2 := [some (q_rf w 0), some (x_v w x1), some (.int x2), some (.int x3), some (x_v w x4), some (.int (x5 + 1)), none, none, none, none, none]) rfl (pc2 := 276) rfl ?_
            refine x_goto dL_texts_276 (pc2 := 67) rfl ?_
            exact ih _ _
          · refine x_if_eq dL_texts_259 (pc1 := 269) (pc2 := 262) rfl rfl (fun _ => ?_) (fun _ => ?_)
            · refine x_iconst dL_texts_269 ic_0 (pc2 := 270) rfl ?_
              refine x_Gmask [true, true, true, true, true, true, true, false, false, false, false] (L2 := [some (q_rf w 0), some (x_v w x1), some (.int x2), some (.int x3), some (x_v w x4), some (.int x5), none, none, none, none, none]) rfl ?_
              exact hj270 _ _
            · refine x_iconst dL_texts_262 ic_1 (pc2 := 263) rfl ?_
              refine x_iload dL_texts_263 rfl (pc2 := 265) rfl ?_
              refine x_ishl dL_texts_265 (pc2 := 266) rfl ?_
              refine x_goto dL_texts_266 (pc2 := 270) rfl ?_
              refine x_Gmask [true, true, true, true, true, true, true, false, false, false, false] (L2 := [some (q_rf w 0), some (x_v w x1), some (.int x2), some (.int x3), some (x_v w x4), some (.int x5), none, none, none, none, none]) rfl ?_
              exact hj270 _ _
        · refine x_if_eq dL_texts_200 (pc1 := 226) (pc2 := 203) rfl rfl (fun _ => ?_) (fun _ => ?_)
          · refine x_ldcS (i := 33) (tx := "") dL_texts_226 (by decide +kernel) (by decide) (pc2 := 228) rfl ?_
            exact hj228 _ _
          · refine x_newo cl_14 xn_L_49 df_14 dL_texts_203 (pc2 := 206) rfl (fun o68 s69 => ?_)
            refine x_dup dL_texts_206 x_vcat (pc2 := 207) rfl ?_
            refine x_oo (ci := 14) (fun hk72 => ?_)
            refine x_callIV (As := []) C2_J4_init_da8c8 mi_J4_init_da8c8 rfl rfl xl_L_51 hk72 xq_14 (fun h => by first | rfl | cases h) rfl rfl ⟨by decide, by decide⟩ (Nat.le_trans (x_sm x_vcat (x_sm x_vcat (x_sm x_vcat x_s0))) (by decide)) dL_texts_207 (pc2 := 210) rfl (fun r71 s70 => ?_) hop
            refine x_ldcS (i := 32) (tx := " and ") dL_texts_210 (by decide +kernel) (by decide) (pc2 := 212) rfl ?_
            refine x_oo (ci := 14) (fun hk75 => ?_)
            refine x_callVR (As := [x_v w (x_CB + 32)]) C2_J4_append_15ec4 xm_J4_append_15ec4 (fun h => by first | rfl | cases h) xl_L_61 hk75 rfl rfl ⟨by decide, by decide⟩ (Nat.le_trans (x_sm x_vcat (x_sm x_vcat x_s0)) (by decide)) dL_texts_212 (pc2 := 215) rfl (fun o74 s73 => ?_) hop
            refine x_iload dL_texts_215 rfl (pc2 := 217) rfl ?_
            refine x_oo (ci := 14) (fun hk78 => ?_)
            refine x_callVR (As := [.int v28]) C2_J4_append_bf812 xm_J4_append_bf812 (fun h => by first | rfl | cases h) xl_L_65 hk78 rfl rfl ⟨by decide, by decide⟩ (Nat.le_trans (x_sm x_vcat (x_sm x_vcat x_s0)) (by decide)) dL_texts_217 (pc2 := 220) rfl (fun o77 s76 => ?_) hop
            refine x_oo (ci := 14) (fun hk81 => ?_)
            refine x_callVR (As := []) C2_J4_toString_0e30d xm_J4_toString_0e30d (fun h => by first | rfl | cases h) xl_L_72 hk81 rfl rfl ⟨by decide, by decide⟩ (Nat.le_trans (x_sm x_vcat (x_sm x_vcat x_s0)) (by decide)) dL_texts_220 (pc2 := 223) rfl (fun o80 s79 => ?_) hop
            refine x_goto dL_texts_223 (pc2 := 228) rfl ?_
            exact hj228 _ _
      · refine x_icmp_ne dL_texts_159 (pc1 := 162) (pc2 := 166) rfl rfl (fun _ => ?_) (fun _ => ?_)
        · refine x_iconst dL_texts_162 ic_1 (pc2 := 163) rfl ?_
          refine x_goto dL_texts_163 (pc2 := 167) rfl ?_
          refine x_Gmask [true, true, true, true, true, true, false, true, true, true, true] (L2 := [some (q_rf w 0), some (x_v w x1), some (.int x2), some (.int x3), some (x_v w x4), some (.int x5), none, some (.int r18), some (.int v23), some (.int v28), none]) rfl ?_
          exact hj167 _ _
        · refine x_iconst dL_texts_166 ic_0 (pc2 := 167) rfl ?_
          refine x_Gmask [true, true, true, true, true, true, false, true, true, true, true] (L2 := [some (q_rf w 0), some (x_v w x1), some (.int x2), some (.int x3), some (x_v w x4), some (.int x5), none, some (.int r18), some (.int v23), some (.int v28), none]) rfl ?_
          exact hj167 _ _
    · refine x_Gmask [true, true, true, true, true, false, true, true, true, true, true] (L2 := [some (q_rf w 0), some (x_v w x1), some (.int x2), some (.int x3), some (x_v w x4), none, none, none, none, none, none]) rfl ?_
      exact hk279 _
set_option maxRecDepth 100000 in
set_option maxHeartbeats 4000000 in
theorem T_L_texts_L360 {w : q_Wd} {cx : q_Cx} {M0 : Nat} (hop : w.2.2.2.2.2.1 = none) {n : Nat} {x1 : Nat} {x2 : Int32} {x3 : Int32} {x4 : Nat} {x5 : Nat} {k671 : x_U → Option (Int32 × x_U)} (hk671 : ∀  (s1 : x_U), x_G w cx RL "texts" cL_texts 11 (some .boolean) 13 300 M0 x_aI 671 [some (q_rf w 0), some (x_v w x1), some (.int x2), some (.int x3), some (x_v w x4), none, none, none, none, none, none] [] s1 (k671 s1)) :
    ∀ (j : Nat) (x6 : Int32) (s0 : x_U), x_G w cx RL "texts" cL_texts 11 (some .boolean) 13 300 M0 x_aI 360 [some (q_rf w 0), some (x_v w x1), some (.int x2), some (.int x3), some (x_v w x4), some (x_v w x5), some (.int x6), none, none, none, none] [] s0 (F_L_texts_L360 n x1 x2 x3 x4 x5 k671 j x6 s0) := by
  intro j
  induction j with
  | zero =>
    intro _ _
    rw [F_L_texts_L360]
    exact x_none
  | succ j ih =>
    intro x6 s0
    rw [F_L_texts_L360]
    refine x_iload dL_texts_360 rfl (pc2 := 362) rfl ?_
    refine x_iload_n dL_texts_362 rfl (pc2 := 363) rfl ?_
    refine x_icmp_ge dL_texts_363 (pc1 := 366) (pc2 := 671) rfl rfl (fun _ => ?_) (fun _ => ?_)
    · refine x_iload_n dL_texts_366 rfl (pc2 := 367) rfl ?_
      refine x_iload dL_texts_367 rfl (pc2 := 369) rfl ?_
      refine x_iconst dL_texts_369 ic_5 (pc2 := 370) rfl ?_
      refine x_iadd dL_texts_370 (pc2 := 371) rfl ?_
      refine x_imul dL_texts_371 (pc2 := 372) rfl ?_
      refine x_sipush dL_texts_372 sp_283 (pc2 := 375) rfl ?_
      refine x_iload dL_texts_375 rfl (pc2 := 377) rfl ?_
      refine x_imul dL_texts_377 (pc2 := 378) rfl ?_
      refine x_iadd dL_texts_378 (pc2 := 379) rfl ?_
      refine x_gnm (fun v107 => ?_)
      refine x_istore dL_texts_379 (by decide) (L2 := [some (q_rf w 0), some (x_v w x1), some (.int x2), some (.int x3), some (x_v w x4), some (x_v w x5), some (.int x6), some (.int v107), none, none, none]) rfl (pc2 := 381) rfl ?_
      refine x_iload dL_texts_381 rfl (pc2 := 383) rfl ?_
      refine x_iconst dL_texts_383 ic_3 (pc2 := 384) rfl ?_
      refine x_ishr dL_texts_384 (pc2 := 385) rfl ?_
      refine x_iconst dL_texts_385 ic_0 (pc2 := 386) rfl ?_
      refine x_iconst dL_texts_386 ic_4 (pc2 := 387) rfl ?_
      refine x_callSI (As := [.int (v107 >>> (3 &&& 31)), .int 0, .int 4]) C2_L_between xm_L_between xl_L_43 rfl rfl ⟨by decide, by decide⟩ (Nat.le_trans x_s0 (by decide)) dL_texts_387 (pc2 := 390) rfl (fun r109 s108 => ?_) hop
      refine x_istore dL_texts_390 (by decide) (L2 := [some (q_rf w 0), some (x_v w x1), some (.int x2), some (.int x3), some (x_v w x4), some (x_v w x5), some (.int x6), some (.int v107), some (.int r109), none, none]) rfl (pc2 := 392) rfl ?_
      refine x_aload_n dL_texts_392 x_vR rfl (pc2 := 393) rfl ?_
      refine x_getIN xf_L_103 (by decide) rfl dL_texts_393 (pc2 := 396) rfl (fun v110 => ?_)
      refine x_jn (P := fun j428 => ∀ (y111 : Int32) (s112 : x_U), x_G w cx RL "texts" cL_texts 11 (some .boolean) 13 300 M0 x_aI 428 [some (q_rf w 0), some (x_v w x1), some (.int x2), some (.int x3), some (x_v w x4), some (x_v w x5), some (.int x6), some (.int v107), some (.int y111), none, none] [] s112 (j428 y111 s112)) (fun y111 s112 => ?_) (fun j428 hj428 => ?_)
      · refine x_iload dL_texts_428 rfl (pc2 := 430) rfl ?_
        refine x_iconst dL_texts_430 ic_3 (pc2 := 431) rfl ?_
        refine x_jn (P := fun j472 => ∀ (y113 : Int32) (s114 : x_U), x_G w cx RL "texts" cL_texts 11 (some .boolean) 13 300 M0 x_aI 472 [some (q_rf w 0), some (x_v w x1), some (.int x2), some (.int x3), some (x_v w x4), some (x_v w x5), some (.int x6), some (.int v107), some (.int y111), none, none] [.int y113] s114 (j472 y113 s114)) (fun y113 s114 => ?_) (fun j472 hj472 => ?_)
        · refine x_istore dL_texts_472 (by decide) (L2 := [some (q_rf w 0), some (x_v w x1), some (.int x2), some (.int x3), some (x_v w x4), some (x_v w x5), some (.int x6), some (.int v107), some (.int y111), some (.int y113), none]) rfl (pc2 := 474) rfl ?_
          refine x_iload dL_texts_474 rfl (pc2 := 476) rfl ?_
          refine x_jn (P := fun j503 => ∀ (y115 : Int32) (s116 : x_U), x_G w cx RL "texts" cL_texts 11 (some .boolean) 13 300 M0 x_aI 503 [some (q_rf w 0), some (x_v w x1), some (.int x2), some (.int x3), some (x_v w x4), some (x_v w x5), some (.int x6), some (.int v107), some (.int y111), some (.int y113), none] [.int y115] s116 (j503 y115 s116)) (fun y115 s116 => ?_) (fun j503 hj503 => ?_)
          · refine x_istore dL_texts_503 (by decide) (L2 := [some (q_rf w 0), some (x_v w x1), some (.int x2), some (.int x3), some (x_v w x4), some (x_v w x5), some (.int x6), some (.int v107), some (.int y111), some (.int y113), some (.int y115)]) rfl (pc2 := 505) rfl ?_
            refine x_aload_n dL_texts_505 x_vR rfl (pc2 := 506) rfl ?_
            refine x_getRN xf_L_100 (by decide) rfl dL_texts_506 (pc2 := 509) rfl (fun o117 => ?_)
            refine x_iload dL_texts_509 rfl (pc2 := 511) rfl ?_
            refine x_iconst dL_texts_511 ic_4 (pc2 := 512) rfl ?_
            refine x_newa (t := 0) (ty := .int) rfl (Or.inl ⟨rfl, rfl⟩) nw_arr dL_texts_512 (pc2 := 514) rfl (fun o118 s119 => ?_)
            refine x_dup dL_texts_514 x_vcat (pc2 := 515) rfl ?_
            refine x_iconst dL_texts_515 ic_0 (pc2 := 516) rfl ?_
            refine x_aload_n dL_texts_516 x_vR rfl (pc2 := 517) rfl ?_
            refine x_getIN xf_L_106 (by decide) rfl dL_texts_517 (pc2 := 520) rfl (fun v120 => ?_)
            refine x_iload dL_texts_520 rfl (pc2 := 522) rfl ?_
            refine x_iconst dL_texts_522 ic_0 (pc2 := 523) rfl ?_
            refine x_bipush dL_texts_523 bp_6 (pc2 := 525) rfl ?_
            refine x_callSI (As := [.int v107, .int 0, .int 6]) C2_L_between xm_L_between xl_L_43 rfl rfl ⟨by decide, by decide⟩ (Nat.le_trans (x_sm rfl (x_sm rfl (x_sm x_vcat (x_sm x_vcat (x_sm rfl (x_sm x_vcat x_s0)))))) (by decide)) dL_texts_525 (pc2 := 528) rfl (fun r122 s121 => ?_) hop
            refine x_iadd dL_texts_528 (pc2 := 529) rfl ?_
            refine x_iast dL_texts_529 (pc2 := 530) rfl (fun s123 => ?_)
            refine x_dup dL_texts_530 x_vcat (pc2 := 531) rfl ?_
            refine x_iconst dL_texts_531 ic_1 (pc2 := 532) rfl ?_
            refine x_iload dL_texts_532 rfl (pc2 := 534) rfl ?_
            refine x_iast dL_texts_534 (pc2 := 535) rfl (fun s124 => ?_)
            refine x_dup dL_texts_535 x_vcat (pc2 := 536) rfl ?_
            refine x_iconst dL_texts_536 ic_2 (pc2 := 537) rfl ?_
            refine x_iload dL_texts_537 rfl (pc2 := 539) rfl ?_
            refine x_iast dL_texts_539 (pc2 := 540) rfl (fun s125 => ?_)
            refine x_dup dL_texts_540 x_vcat (pc2 := 541) rfl ?_
            refine x_iconst dL_texts_541 ic_3 (pc2 := 542) rfl ?_
            refine x_iload dL_texts_542 rfl (pc2 := 544) rfl ?_
            refine x_iast dL_texts_544 (pc2 := 545) rfl (fun s126 => ?_)
            refine x_aast dL_texts_545 (pc2 := 546) rfl (fun s127 => ?_)
            refine x_aload dL_texts_546 x_vR rfl (pc2 := 548) rfl ?_
            refine x_newo cl_14 xn_L_49 df_14 dL_texts_548 (pc2 := 551) rfl (fun o128 s129 => ?_)
            refine x_dup dL_texts_551 x_vcat (pc2 := 552) rfl ?_
            refine x_oo (ci := 14) (fun hk132 => ?_)
            refine x_callIV (As := []) C2_J4_init_da8c8 mi_J4_init_da8c8 rfl rfl xl_L_51 hk132 xq_14 (fun h => by first | rfl | cases h) rfl rfl ⟨by decide, by decide⟩ (Nat.le_trans (x_sm x_vcat (x_sm x_vcat x_s0)) (by decide)) dL_texts_552 (pc2 := 555) rfl (fun r131 s130 => ?_) hop
            refine x_ldcS (i := 40) (tx := "on ") dL_texts_555 (by decide +kernel) (by decide) (pc2 := 557) rfl ?_
            refine x_oo (ci := 14) (fun hk135 => ?_)
            refine x_callVR (As := [x_v w (x_CB + 40)]) C2_J4_append_15ec4 xm_J4_append_15ec4 (fun h => by first | rfl | cases h) xl_L_61 hk135 rfl rfl ⟨by decide, by decide⟩ (Nat.le_trans (x_sm x_vcat x_s0) (by decide)) dL_texts_557 (pc2 := 560) rfl (fun o134 s133 => ?_) hop
            refine x_aload_n dL_texts_560 x_vR rfl (pc2 := 561) rfl ?_
            refine x_getRN xf_L_100 (by decide) rfl dL_texts_561 (pc2 := 564) rfl (fun o136 => ?_)
            refine x_iload dL_texts_564 rfl (pc2 := 566) rfl ?_
            refine x_aald dL_texts_566 (pc2 := 567) rfl (fun o137 => ?_)
            refine x_iconst dL_texts_567 ic_0 (pc2 := 568) rfl ?_
            refine x_iald dL_texts_568 (pc2 := 569) rfl (fun v138 => ?_)
            refine x_oo (ci := 14) (fun hk141 => ?_)
            refine x_callVR (As := [.int v138]) C2_J4_append_bf812 xm_J4_append_bf812 (fun h => by first | rfl | cases h) xl_L_65 hk141 rfl rfl ⟨by decide, by decide⟩ (Nat.le_trans (x_sm x_vcat x_s0) (by decide)) dL_texts_569 (pc2 := 572) rfl (fun o140 s139 => ?_) hop
            refine x_aload dL_texts_572 x_vR rfl (pc2 := 574) rfl ?_
            refine x_iload dL_texts_574 rfl (pc2 := 576) rfl ?_
            refine x_aald dL_texts_576 (pc2 := 577) rfl (fun o142 => ?_)
            refine x_oo (ci := 14) (fun hk145 => ?_)
            refine x_callVR (As := [x_v w o142]) C2_J4_append_15ec4 xm_J4_append_15ec4 (fun h => by first | rfl | cases h) xl_L_61 hk145 rfl rfl ⟨by decide, by decide⟩ (Nat.le_trans (x_sm x_vcat x_s0) (by decide)) dL_texts_577 (pc2 := 580) rfl (fun o144 s143 => ?_) hop
            refine x_iload dL_texts_580 rfl (pc2 := 582) rfl ?_
            refine x_iconst dL_texts_582 ic_3 (pc2 := 583) rfl ?_
            refine x_jn (P := fun j611 => ∀ (y146 : Nat) (s147 : x_U), x_G w cx RL "texts" cL_texts 11 (some .boolean) 13 300 M0 x_aI 611 [some (q_rf w 0), some (x_v w x1), some (.int x2), some (.int x3), some (x_v w x4), some (x_v w x5), some (.int x6), none, some (.int y111), none, some (.int y115)] [x_v w y146, x_v w o144, x_v w x4] s147 (j611 y146 s147)) (fun y146 s147 => ?_) (fun j611 hj611 => ?_)
            · refine x_oo (ci := 14) (fun hk150 => ?_)
              refine x_callVR (As := [x_v w y146]) C2_J4_append_15ec4 xm_J4_append_15ec4 (fun h => by first | rfl | cases h) xl_L_61 hk150 rfl rfl ⟨by decide, by decide⟩ (Nat.le_trans (x_sm x_vcat x_s0) (by decide)) dL_texts_611 (pc2 := 614) rfl (fun o149 s148 => ?_) hop
              refine x_iload dL_texts_614 rfl (pc2 := 616) rfl ?_
              refine x_jn (P := fun j650 => ∀ (y151 : Nat) (s152 : x_U), x_G w cx RL "texts" cL_texts 11 (some .boolean) 13 300 M0 x_aI 650 [some (q_rf w 0), some (x_v w x1), some (.int x2), some (.int x3), some (x_v w x4), some (x_v w x5), some (.int x6), none, none, none, none] [x_v w y151, x_v w o149, x_v w x4] s152 (j650 y151 s152)) (fun y151 s152 => ?_) (fun j650 hj650 => ?_)
              · refine x_oo (ci := 14) (fun hk155 => ?_)
                refine x_callVR (As := [x_v w y151]) C2_J4_append_15ec4 xm_J4_append_15ec4 (fun h => by first | rfl | cases h) xl_L_61 hk155 rfl rfl ⟨by decide, by decide⟩ (Nat.le_trans (x_sm x_vcat x_s0) (by decide)) dL_texts_650 (pc2 := 653) rfl (fun o154 s153 => ?_) hop
                refine x_ldcS (i := 34) (tx := ";") dL_texts_653 (by decide +kernel) (by decide) (pc2 := 655) rfl ?_
                refine x_oo (ci := 14) (fun hk158 => ?_)
                refine x_callVR (As := [x_v w (x_CB + 34)]) C2_J4_append_15ec4 xm_J4_append_15ec4 (fun h => by first | rfl | cases h) xl_L_61 hk158 rfl rfl ⟨by decide, by decide⟩ (Nat.le_trans (x_sm x_vcat x_s0) (by decide)) dL_texts_655 (pc2 := 658) rfl (fun o157 s156 => ?_) hop
                refine x_oo (ci := 14) (fun hk161 => ?_)
                refine x_callVR (As := []) C2_J4_toString_0e30d xm_J4_toString_0e30d (fun h => by first | rfl | cases h) xl_L_72 hk161 rfl rfl ⟨by decide, by decide⟩ (Nat.le_trans (x_sm x_vcat x_s0) (by decide)) dL_texts_658 (pc2 := 661) rfl (fun o160 s159 => ?_) hop
                refine x_oo (ci := 14) (fun hk164 => ?_)
                refine x_callVR (As := [x_v w o160]) C2_J4_append_15ec4 xm_J4_append_15ec4 (fun h => by first | rfl | cases h) xl_L_61 hk164 rfl rfl ⟨by decide, by decide⟩ (Nat.le_trans x_s0 (by decide)) dL_texts_661 (pc2 := 664) rfl (fun o163 s162 => ?_) hop
                refine x_pop dL_texts_664 x_vcat (pc2 := 665) rfl ?_
                refine x_iinc dL_texts_665 rfl (q_ii ic_1) (by decide) (L2 := [some (q_rf w 0), some (x_v w x1), some (.int x2), some (.int x3), some (x_v w x4), some (x_v w x5), some (.int (x6 + 1)), none, none, none, none]) rfl (pc2 := 668) rfl ?_
                refine x_goto dL_texts_668 (pc2 := 360) rfl ?_
                exact ih _ _
              · refine x_jn (P := fun j625 => ∀  (s165 : x_U), x_G w cx RL "texts" cL_texts 11 (some .boolean) 13 300 M0 x_aI 625 [some (q_rf w 0), some (x_v w x1), some (.int x2), some (.int x3), some (x_v w x4), some (x_v w x5), some (.int x6), none, none, none, some (.int y115)] [x_v w o149, x_v w x4] s165 (j625 s165)) (fun s165 => ?_) (fun j625 hj625 => ?_)
                · refine x_newo cl_14 xn_L_49 df_14 dL_texts_625 (pc2 := 628) rfl (fun o166 s167 => ?_)
                  refine x_dup dL_texts_628 x_vcat (pc2 := 629) rfl ?_
                  refine x_oo (ci := 14) (fun hk170 => ?_)
                  refine x_callIV (As := []) C2_J4_init_da8c8 mi_J4_init_da8c8 rfl rfl xl_L_51 hk170 xq_14 (fun h => by first | rfl | cases h) rfl rfl ⟨by decide, by decide⟩ (Nat.le_trans (x_sm x_vcat (x_sm x_vcat (x_sm x_vcat x_s0))) (by decide)) dL_texts_629 (pc2 := 632) rfl (fun r169 s168 => ?_) hop
                  refine x_ldcS (i := 41) (tx := " ") dL_texts_632 (by decide +kernel) (by decide) (pc2 := 634) rfl ?_
                  refine x_oo (ci := 14) (fun hk173 => ?_)
                  refine x_callVR (As := [x_v w (x_CB + 41)]) C2_J4_append_15ec4 xm_J4_append_15ec4 (fun h => by first | rfl | cases h) xl_L_61 hk173 rfl rfl ⟨by decide, by decide⟩ (Nat.le_trans (x_sm x_vcat (x_sm x_vcat x_s0)) (by decide)) dL_texts_634 (pc2 := 637) rfl (fun o172 s171 => ?_) hop
                  refine x_iload dL_texts_637 rfl (pc2 := 639) rfl ?_
                  refine x_oo (ci := 14) (fun hk176 => ?_)
                  refine x_callVR (As := [.int y115]) C2_J4_append_bf812 xm_J4_append_bf812 (fun h => by first | rfl | cases h) xl_L_65 hk176 rfl rfl ⟨by decide, by decide⟩ (Nat.le_trans (x_sm x_vcat (x_sm x_vcat x_s0)) (by decide)) dL_texts_639 (pc2 := 642) rfl (fun o175 s174 => ?_) hop
                  refine x_oo (ci := 14) (fun hk179 => ?_)
                  refine x_callVR (As := []) C2_J4_toString_0e30d xm_J4_toString_0e30d (fun h => by first | rfl | cases h) xl_L_72 hk179 rfl rfl ⟨by decide, by decide⟩ (Nat.le_trans (x_sm x_vcat (x_sm x_vcat x_s0)) (by decide)) dL_texts_642 (pc2 := 645) rfl (fun o178 s177 => ?_) hop
                  refine x_goto dL_texts_645 (pc2 := 650) rfl ?_
                  refine x_Gmask [true, true, true, true, true, true, true, true, true, true, false] (L2 := [some (q_rf w 0), some (x_v w x1), some (.int x2), some (.int x3), some (x_v w x4), some (x_v w x5), some (.int x6), none, none, none, none]) rfl ?_
                  exact hj650 _ _
                · refine x_if_eq dL_texts_616 (pc1 := 625) (pc2 := 619) rfl rfl (fun _ => ?_) (fun _ => ?_)
                  · refine x_Gmask [true, true, true, true, true, true, true, true, false, true, true] (L2 := [some (q_rf w 0), some (x_v w x1), some (.int x2), some (.int x3), some (x_v w x4), some (x_v w x5), some (.int x6), none, none, none, some (.int y115)]) rfl ?_
                    exact hj625 _
                  · refine x_iload dL_texts_619 rfl (pc2 := 621) rfl ?_
                    refine x_iconst dL_texts_621 ic_2 (pc2 := 622) rfl ?_
                    refine x_icmp_ne dL_texts_622 (pc1 := 625) (pc2 := 648) rfl rfl (fun _ => ?_) (fun _ => ?_)
                    · refine x_Gmask [true, true, true, true, true, true, true, true, false, true, true] (L2 := [some (q_rf w 0), some (x_v w x1), some (.int x2), some (.int x3), some (x_v w x4), some (x_v w x5), some (.int x6), none, none, none, some (.int y115)]) rfl ?_
                      exact hj625 _
                    · refine x_ldcS (i := 33) (tx := "") dL_texts_648 (by decide +kernel) (by decide) (pc2 := 650) rfl ?_
                      refine x_Gmask [true, true, true, true, true, true, true, true, false, true, false] (L2 := [some (q_rf w 0), some (x_v w x1), some (.int x2), some (.int x3), some (x_v w x4), some (x_v w x5), some (.int x6), none, none, none, none]) rfl ?_
                      exact hj650 _ _
            · refine x_icmp_ne dL_texts_583 (pc1 := 586) (pc2 := 591) rfl rfl (fun _ => ?_) (fun _ => ?_)
              · refine x_ldcS (i := 33) (tx := "") dL_texts_586 (by decide +kernel) (by decide) (pc2 := 588) rfl ?_
                refine x_goto dL_texts_588 (pc2 := 611) rfl ?_
                refine x_Gmask [true, true, true, true, true, true, true, false, true, false, true] (L2 := [some (q_rf w 0), some (x_v w x1), some (.int x2), some (.int x3), some (x_v w x4), some (x_v w x5), some (.int x6), none, some (.int y111), none, some (.int y115)]) rfl ?_
                exact hj611 _ _
              · refine x_newo cl_14 xn_L_49 df_14 dL_texts_591 (pc2 := 594) rfl (fun o180 s181 => ?_)
                refine x_dup dL_texts_594 x_vcat (pc2 := 595) rfl ?_
                refine x_oo (ci := 14) (fun hk184 => ?_)
                refine x_callIV (As := []) C2_J4_init_da8c8 mi_J4_init_da8c8 rfl rfl xl_L_51 hk184 xq_14 (fun h => by first | rfl | cases h) rfl rfl ⟨by decide, by decide⟩ (Nat.le_trans (x_sm x_vcat (x_sm x_vcat (x_sm x_vcat x_s0))) (by decide)) dL_texts_595 (pc2 := 598) rfl (fun r183 s182 => ?_) hop
                refine x_ldcS (i := 33) (tx := "") dL_texts_598 (by decide +kernel) (by decide) (pc2 := 600) rfl ?_
                refine x_oo (ci := 14) (fun hk187 => ?_)
                refine x_callVR (As := [x_v w (x_CB + 33)]) C2_J4_append_15ec4 xm_J4_append_15ec4 (fun h => by first | rfl | cases h) xl_L_61 hk187 rfl rfl ⟨by decide, by decide⟩ (Nat.le_trans (x_sm x_vcat (x_sm x_vcat x_s0)) (by decide)) dL_texts_600 (pc2 := 603) rfl (fun o186 s185 => ?_) hop
                refine x_iload dL_texts_603 rfl (pc2 := 605) rfl ?_
                refine x_oo (ci := 14) (fun hk190 => ?_)
                refine x_callVR (As := [.int y113]) C2_J4_append_bf812 xm_J4_append_bf812 (fun h => by first | rfl | cases h) xl_L_65 hk190 rfl rfl ⟨by decide, by decide⟩ (Nat.le_trans (x_sm x_vcat (x_sm x_vcat x_s0)) (by decide)) dL_texts_605 (pc2 := 608) rfl (fun o189 s188 => ?_) hop
                refine x_oo (ci := 14) (fun hk193 => ?_)
                refine x_callVR (As := []) C2_J4_toString_0e30d xm_J4_toString_0e30d (fun h => by first | rfl | cases h) xl_L_72 hk193 rfl rfl ⟨by decide, by decide⟩ (Nat.le_trans (x_sm x_vcat (x_sm x_vcat x_s0)) (by decide)) dL_texts_608 (pc2 := 611) rfl (fun o192 s191 => ?_) hop
                refine x_Gmask [true, true, true, true, true, true, true, false, true, false, true] (L2 := [some (q_rf w 0), some (x_v w x1), some (.int x2), some (.int x3), some (x_v w x4), some (x_v w x5), some (.int x6), none, some (.int y111), none, some (.int y115)]) rfl ?_
                exact hj611 _ _
          · refine x_jn (P := fun j485 => ∀  (s194 : x_U), x_G w cx RL "texts" cL_texts 11 (some .boolean) 13 300 M0 x_aI 485 [some (q_rf w 0), some (x_v w x1), some (.int x2), some (.int x3), some (x_v w x4), some (x_v w x5), some (.int x6), some (.int v107), some (.int y111), some (.int y113), none] [] s194 (j485 s194)) (fun s194 => ?_) (fun j485 hj485 => ?_)
            · refine x_iload dL_texts_485 rfl (pc2 := 487) rfl ?_
              refine x_iconst dL_texts_487 ic_5 (pc2 := 488) rfl ?_
              refine x_ishr dL_texts_488 (pc2 := 489) rfl ?_
              refine x_iconst dL_texts_489 ic_0 (pc2 := 490) rfl ?_
              refine x_aload_n dL_texts_490 x_vR rfl (pc2 := 491) rfl ?_
              refine x_getIN xf_L_37 (by decide) rfl dL_texts_491 (pc2 := 494) rfl (fun v195 => ?_)
              refine x_iconst dL_texts_494 ic_1 (pc2 := 495) rfl ?_
              refine x_isub dL_texts_495 (pc2 := 496) rfl ?_
              refine x_callSI (As := [.int (v107 >>> (5 &&& 31)), .int 0, .int (v195 - 1)]) C2_L_between xm_L_between xl_L_43 rfl rfl ⟨by decide, by decide⟩ (Nat.le_trans x_s0 (by decide)) dL_texts_496 (pc2 := 499) rfl (fun r197 s196 => ?_) hop
              refine x_goto dL_texts_499 (pc2 := 503) rfl ?_
              exact hj503 _ _
            · refine x_if_eq dL_texts_476 (pc1 := 485) (pc2 := 479) rfl rfl (fun _ => ?_) (fun _ => ?_)
              · exact hj485 _
              · refine x_iload dL_texts_479 rfl (pc2 := 481) rfl ?_
                refine x_iconst dL_texts_481 ic_2 (pc2 := 482) rfl ?_
                refine x_icmp_ne dL_texts_482 (pc1 := 485) (pc2 := 502) rfl rfl (fun _ => ?_) (fun _ => ?_)
                · exact hj485 _
                · refine x_iconst dL_texts_502 ic_0 (pc2 := 503) rfl ?_
                  exact hj503 _ _
        · refine x_icmp_ne dL_texts_431 (pc1 := 434) (pc2 := 438) rfl rfl (fun _ => ?_) (fun _ => ?_)
          · refine x_iconst dL_texts_434 ic_0 (pc2 := 435) rfl ?_
            refine x_goto dL_texts_435 (pc2 := 472) rfl ?_
            exact hj472 _ _
          · refine x_iload dL_texts_438 rfl (pc2 := 440) rfl ?_
            refine x_iconst dL_texts_440 ic_4 (pc2 := 441) rfl ?_
            refine x_icmp_ne dL_texts_441 (pc1 := 444) (pc2 := 457) rfl rfl (fun _ => ?_) (fun _ => ?_)
            · refine x_iload dL_texts_444 rfl (pc2 := 446) rfl ?_
              refine x_bipush dL_texts_446 bp_6 (pc2 := 448) rfl ?_
              refine x_ishr dL_texts_448 (pc2 := 449) rfl ?_
              refine x_iconst dL_texts_449 ic_0 (pc2 := 450) rfl ?_
              refine x_iconst dL_texts_450 ic_5 (pc2 := 451) rfl ?_
              refine x_callSI (As := [.int (v107 >>> (6 &&& 31)), .int 0, .int 5]) C2_L_between xm_L_between xl_L_43 rfl rfl ⟨by decide, by decide⟩ (Nat.le_trans x_s0 (by decide)) dL_texts_451 (pc2 := 454) rfl (fun r199 s198 => ?_) hop
              refine x_goto dL_texts_454 (pc2 := 472) rfl ?_
              exact hj472 _ _
            · refine x_iload dL_texts_457 rfl (pc2 := 459) rfl ?_
              refine x_bipush dL_texts_459 bp_6 (pc2 := 461) rfl ?_
              refine x_ishr dL_texts_461 (pc2 := 462) rfl ?_
              refine x_iconst dL_texts_462 ic_0 (pc2 := 463) rfl ?_
              refine x_aload_n dL_texts_463 x_vR rfl (pc2 := 464) rfl ?_
              refine x_getIN xf_L_103 (by decide) rfl dL_texts_464 (pc2 := 467) rfl (fun v200 => ?_)
              refine x_iconst dL_texts_467 ic_1 (pc2 := 468) rfl ?_
              refine x_isub dL_texts_468 (pc2 := 469) rfl ?_
              refine x_callSI (As := [.int (v107 >>> (6 &&& 31)), .int 0, .int (v200 - 1)]) C2_L_between xm_L_between xl_L_43 rfl rfl ⟨by decide, by decide⟩ (Nat.le_trans x_s0 (by decide)) dL_texts_469 (pc2 := 472) rfl (fun r202 s201 => ?_) hop
              exact hj472 _ _
      · refine x_jn (P := fun j425 => ∀  (s203 : x_U), x_G w cx RL "texts" cL_texts 11 (some .boolean) 13 300 M0 x_aI 425 [some (q_rf w 0), some (x_v w x1), some (.int x2), some (.int x3), some (x_v w x4), some (x_v w x5), some (.int x6), some (.int v107), none, none, none] [] s203 (j425 s203)) (fun s203 => ?_) (fun j425 hj425 => ?_)
        · refine x_iconst dL_texts_425 ic_3 (pc2 := 426) rfl ?_
          refine x_istore dL_texts_426 (by decide) (L2 := [some (q_rf w 0), some (x_v w x1), some (.int x2), some (.int x3), some (x_v w x4), some (x_v w x5), some (.int x6), some (.int v107), some (.int 3), none, none]) rfl (pc2 := 428) rfl ?_
          exact hj428 _ _
        · refine x_jn (P := fun j405 => ∀  (s204 : x_U), x_G w cx RL "texts" cL_texts 11 (some .boolean) 13 300 M0 x_aI 405 [some (q_rf w 0), some (x_v w x1), some (.int x2), some (.int x3), some (x_v w x4), some (x_v w x5), some (.int x6), some (.int v107), some (.int r109), none, none] [] s204 (j405 s204)) (fun s204 => ?_) (fun j405 hj405 => ?_)
          · refine x_aload_n dL_texts_405 x_vR rfl (pc2 := 406) rfl ?_
            refine x_getIN xf_L_37 (by decide) rfl dL_texts_406 (pc2 := 409) rfl (fun v205 => ?_)
            refine x_if_ne dL_texts_409 (pc1 := 412) (pc2 := 428) rfl rfl (fun _ => ?_) (fun _ => ?_)
            · refine x_iload dL_texts_412 rfl (pc2 := 414) rfl ?_
              refine x_iconst dL_texts_414 ic_2 (pc2 := 415) rfl ?_
              refine x_irem dL_texts_415 (pc2 := 416) rfl (fun v206 => ?_)
              refine x_if_ne dL_texts_416 (pc1 := 419) (pc2 := 428) rfl rfl (fun _ => ?_) (fun _ => ?_)
              · refine x_iload dL_texts_419 rfl (pc2 := 421) rfl ?_
                refine x_iconst dL_texts_421 ic_3 (pc2 := 422) rfl ?_
                refine x_icmp_ge dL_texts_422 (pc1 := 425) (pc2 := 428) rfl rfl (fun _ => ?_) (fun _ => ?_)
                · refine x_Gmask [true, true, true, true, true, true, true, true, false, true, true] (L2 := [some (q_rf w 0), some (x_v w x1), some (.int x2), some (.int x3), some (x_v w x4), some (x_v w x5), some (.int x6), some (.int v107), none, none, none]) rfl ?_
                  exact hj425 _
                · exact hj428 _ _
              · exact hj428 _ _
            · exact hj428 _ _
          · refine x_if_ne dL_texts_396 (pc1 := 399) (pc2 := 405) rfl rfl (fun _ => ?_) (fun _ => ?_)
            · refine x_iload dL_texts_399 rfl (pc2 := 401) rfl ?_
              refine x_iconst dL_texts_401 ic_3 (pc2 := 402) rfl ?_
              refine x_icmp_lt dL_texts_402 (pc1 := 425) (pc2 := 405) rfl rfl (fun _ => ?_) (fun _ => ?_)
              · refine x_Gmask [true, true, true, true, true, true, true, true, false, true, true] (L2 := [some (q_rf w 0), some (x_v w x1), some (.int x2), some (.int x3), some (x_v w x4), some (x_v w x5), some (.int x6), some (.int v107), none, none, none]) rfl ?_
                exact hj425 _
              · exact hj405 _
            · exact hj405 _
    · refine x_Gmask [true, true, true, true, true, false, false, true, true, true, true] (L2 := [some (q_rf w 0), some (x_v w x1), some (.int x2), some (.int x3), some (x_v w x4), none, none, none, none, none, none]) rfl ?_
      exact hk671 _
set_option maxRecDepth 100000 in
set_option maxHeartbeats 4000000 in
theorem T_L_texts_L722 {w : q_Wd} {cx : q_Cx} {M0 : Nat} (hop : w.2.2.2.2.2.1 = none) {n : Nat} {x1 : Nat} {x2 : Int32} {x3 : Int32} {x4 : Nat} {k870 : x_U → Option (Int32 × x_U)} (hk870 : ∀  (s1 : x_U), x_G w cx RL "texts" cL_texts 11 (some .boolean) 13 300 M0 x_aI 870 [some (q_rf w 0), none, none, some (.int x3), some (x_v w x4), none, none, none, none, none, none] [] s1 (k870 s1)) :
    ∀ (j : Nat) (x6 : Int32) (s0 : x_U), x_G w cx RL "texts" cL_texts 11 (some .boolean) 13 300 M0 x_aI 722 [some (q_rf w 0), some (x_v w x1), some (.int x2), some (.int x3), some (x_v w x4), none, some (.int x6), none, none, none, none] [] s0 (F_L_texts_L722 n x1 x2 x3 x4 k870 j x6 s0) := by
  intro j
  induction j with
  | zero =>
    intro _ _
    rw [F_L_texts_L722]
    exact x_none
  | succ j ih =>
    intro x6 s0
    rw [F_L_texts_L722]
    refine x_iload dL_texts_722 rfl (pc2 := 724) rfl ?_
    refine x_iload_n dL_texts_724 rfl (pc2 := 725) rfl ?_
    refine x_icmp_ge dL_texts_725 (pc1 := 728) (pc2 := 870) rfl rfl (fun _ => ?_) (fun _ => ?_)
    · refine x_iload_n dL_texts_728 rfl (pc2 := 729) rfl ?_
      refine x_iload dL_texts_729 rfl (pc2 := 731) rfl ?_
      refine x_bipush dL_texts_731 bp_7 (pc2 := 733) rfl ?_
      refine x_iadd dL_texts_733 (pc2 := 734) rfl ?_
      refine x_imul dL_texts_734 (pc2 := 735) rfl ?_
      refine x_sipush dL_texts_735 sp_293 (pc2 := 738) rfl ?_
      refine x_iload dL_texts_738 rfl (pc2 := 740) rfl ?_
      refine x_imul dL_texts_740 (pc2 := 741) rfl ?_
      refine x_iadd dL_texts_741 (pc2 := 742) rfl ?_
      refine x_gnm (fun v225 => ?_)
      refine x_istore dL_texts_742 (by decide) (L2 := [some (q_rf w 0), some (x_v w x1), some (.int x2), some (.int x3), some (x_v w x4), none, some (.int x6), some (.int v225), none, none, none]) rfl (pc2 := 744) rfl ?_
      refine x_iload dL_texts_744 rfl (pc2 := 746) rfl ?_
      refine x_iconst dL_texts_746 ic_0 (pc2 := 747) rfl ?_
      refine x_iconst dL_texts_747 ic_5 (pc2 := 748) rfl ?_
      refine x_callSI (As := [.int v225, .int 0, .int 5]) C2_L_between xm_L_between xl_L_43 rfl rfl ⟨by decide, by decide⟩ (Nat.le_trans x_s0 (by decide)) dL_texts_748 (pc2 := 751) rfl (fun r227 s226 => ?_) hop
      refine x_istore dL_texts_751 (by decide) (L2 := [some (q_rf w 0), some (x_v w x1), some (.int x2), some (.int x3), some (x_v w x4), none, some (.int x6), some (.int v225), some (.int r227), none, none]) rfl (pc2 := 753) rfl ?_
      refine x_aload_n dL_texts_753 x_vR rfl (pc2 := 754) rfl ?_
      refine x_getRN xf_L_113 (by decide) rfl dL_texts_754 (pc2 := 757) rfl (fun o228 => ?_)
      refine x_iload dL_texts_757 rfl (pc2 := 759) rfl ?_
      refine x_iconst dL_texts_759 ic_3 (pc2 := 760) rfl ?_
      refine x_newa (t := 0) (ty := .int) rfl (Or.inl ⟨rfl, rfl⟩) nw_arr dL_texts_760 (pc2 := 762) rfl (fun o229 s230 => ?_)
      refine x_dup dL_texts_762 x_vcat (pc2 := 763) rfl ?_
      refine x_iconst dL_texts_763 ic_0 (pc2 := 764) rfl ?_
      refine x_iload dL_texts_764 rfl (pc2 := 766) rfl ?_
      refine x_iast dL_texts_766 (pc2 := 767) rfl (fun s231 => ?_)
      refine x_dup dL_texts_767 x_vcat (pc2 := 768) rfl ?_
      refine x_iconst dL_texts_768 ic_1 (pc2 := 769) rfl ?_
      refine x_iload dL_texts_769 rfl (pc2 := 771) rfl ?_
      refine x_iload dL_texts_771 rfl (pc2 := 773) rfl ?_
      refine x_iconst dL_texts_773 ic_4 (pc2 := 774) rfl ?_
      refine x_ishr dL_texts_774 (pc2 := 775) rfl ?_
      refine x_iconst dL_texts_775 ic_1 (pc2 := 776) rfl ?_
      refine x_iconst dL_texts_776 ic_5 (pc2 := 777) rfl ?_
      refine x_callSI (As := [.int (v225 >>> (4 &&& 31)), .int 1, .int 5]) C2_L_between xm_L_between xl_L_43 rfl rfl ⟨by decide, by decide⟩ (Nat.le_trans (x_sm rfl (x_sm rfl (x_sm x_vcat (x_sm x_vcat (x_sm rfl (x_sm x_vcat x_s0)))))) (by decide)) dL_texts_777 (pc2 := 780) rfl (fun r233 s232 => ?_) hop
      refine x_iadd dL_texts_780 (pc2 := 781) rfl ?_
      refine x_bipush dL_texts_781 bp_6 (pc2 := 783) rfl ?_
      refine x_irem dL_texts_783 (pc2 := 784) rfl (fun v234 => ?_)
      refine x_iast dL_texts_784 (pc2 := 785) rfl (fun s235 => ?_)
      refine x_dup dL_texts_785 x_vcat (pc2 := 786) rfl ?_
      refine x_iconst dL_texts_786 ic_2 (pc2 := 787) rfl ?_
      refine x_iload dL_texts_787 rfl (pc2 := 789) rfl ?_
      refine x_iconst dL_texts_789 ic_5 (pc2 := 790) rfl ?_
      refine x_ishr dL_texts_790 (pc2 := 791) rfl ?_
      refine x_iconst dL_texts_791 ic_1 (pc2 := 792) rfl ?_
      refine x_bipush dL_texts_792 bp_24 (pc2 := 794) rfl ?_
      refine x_callSI (As := [.int (v225 >>> (5 &&& 31)), .int 1, .int 24]) C2_L_between xm_L_between xl_L_43 rfl rfl ⟨by decide, by decide⟩ (Nat.le_trans (x_sm rfl (x_sm x_vcat (x_sm x_vcat (x_sm rfl (x_sm x_vcat x_s0))))) (by decide)) dL_texts_794 (pc2 := 797) rfl (fun r237 s236 => ?_) hop
      refine x_iast dL_texts_797 (pc2 := 798) rfl (fun s238 => ?_)
      refine x_aast dL_texts_798 (pc2 := 799) rfl (fun s239 => ?_)
      refine x_aload dL_texts_799 x_vR rfl (pc2 := 801) rfl ?_
      refine x_newo cl_14 xn_L_49 df_14 dL_texts_801 (pc2 := 804) rfl (fun o240 s241 => ?_)
      refine x_dup dL_texts_804 x_vcat (pc2 := 805) rfl ?_
      refine x_oo (ci := 14) (fun hk244 => ?_)
      refine x_callIV (As := []) C2_J4_init_da8c8 mi_J4_init_da8c8 rfl rfl xl_L_51 hk244 xq_14 (fun h => by first | rfl | cases h) rfl rfl ⟨by decide, by decide⟩ (Nat.le_trans (x_sm x_vcat (x_sm x_vcat x_s0)) (by decide)) dL_texts_805 (pc2 := 808) rfl (fun r243 s242 => ?_) hop
      refine x_ldcS (i := 42) (tx := "path ") dL_texts_808 (by decide +kernel) (by decide) (pc2 := 810) rfl ?_
      refine x_oo (ci := 14) (fun hk247 => ?_)
      refine x_callVR (As := [x_v w (x_CB + 42)]) C2_J4_append_15ec4 xm_J4_append_15ec4 (fun h => by first | rfl | cases h) xl_L_61 hk247 rfl rfl ⟨by decide, by decide⟩ (Nat.le_trans (x_sm x_vcat x_s0) (by decide)) dL_texts_810 (pc2 := 813) rfl (fun o246 s245 => ?_) hop
      refine x_iload dL_texts_813 rfl (pc2 := 815) rfl ?_
      refine x_oo (ci := 14) (fun hk250 => ?_)
      refine x_callVR (As := [.int r227]) C2_J4_append_bf812 xm_J4_append_bf812 (fun h => by first | rfl | cases h) xl_L_65 hk250 rfl rfl ⟨by decide, by decide⟩ (Nat.le_trans (x_sm x_vcat x_s0) (by decide)) dL_texts_815 (pc2 := 818) rfl (fun o249 s248 => ?_) hop
      refine x_ldcS (i := 41) (tx := " ") dL_texts_818 (by decide +kernel) (by decide) (pc2 := 820) rfl ?_
      refine x_oo (ci := 14) (fun hk253 => ?_)
      refine x_callVR (As := [x_v w (x_CB + 41)]) C2_J4_append_15ec4 xm_J4_append_15ec4 (fun h => by first | rfl | cases h) xl_L_61 hk253 rfl rfl ⟨by decide, by decide⟩ (Nat.le_trans (x_sm x_vcat x_s0) (by decide)) dL_texts_820 (pc2 := 823) rfl (fun o252 s251 => ?_) hop
      refine x_aload_n dL_texts_823 x_vR rfl (pc2 := 824) rfl ?_
      refine x_getRN xf_L_113 (by decide) rfl dL_texts_824 (pc2 := 827) rfl (fun o254 => ?_)
      refine x_iload dL_texts_827 rfl (pc2 := 829) rfl ?_
      refine x_aald dL_texts_829 (pc2 := 830) rfl (fun o255 => ?_)
      refine x_iconst dL_texts_830 ic_1 (pc2 := 831) rfl ?_
      refine x_iald dL_texts_831 (pc2 := 832) rfl (fun v256 => ?_)
      refine x_oo (ci := 14) (fun hk259 => ?_)
      refine x_callVR (As := [.int v256]) C2_J4_append_bf812 xm_J4_append_bf812 (fun h => by first | rfl | cases h) xl_L_65 hk259 rfl rfl ⟨by decide, by decide⟩ (Nat.le_trans (x_sm x_vcat x_s0) (by decide)) dL_texts_832 (pc2 := 835) rfl (fun o258 s257 => ?_) hop
      refine x_ldcS (i := 43) (tx := " hours ") dL_texts_835 (by decide +kernel) (by decide) (pc2 := 837) rfl ?_
      refine x_oo (ci := 14) (fun hk262 => ?_)
      refine x_callVR (As := [x_v w (x_CB + 43)]) C2_J4_append_15ec4 xm_J4_append_15ec4 (fun h => by first | rfl | cases h) xl_L_61 hk262 rfl rfl ⟨by decide, by decide⟩ (Nat.le_trans (x_sm x_vcat x_s0) (by decide)) dL_texts_837 (pc2 := 840) rfl (fun o261 s260 => ?_) hop
      refine x_aload_n dL_texts_840 x_vR rfl (pc2 := 841) rfl ?_
      refine x_getRN xf_L_113 (by decide) rfl dL_texts_841 (pc2 := 844) rfl (fun o263 => ?_)
      refine x_iload dL_texts_844 rfl (pc2 := 846) rfl ?_
      refine x_aald dL_texts_846 (pc2 := 847) rfl (fun o264 => ?_)
      refine x_iconst dL_texts_847 ic_2 (pc2 := 848) rfl ?_
      refine x_iald dL_texts_848 (pc2 := 849) rfl (fun v265 => ?_)
      refine x_oo (ci := 14) (fun hk268 => ?_)
      refine x_callVR (As := [.int v265]) C2_J4_append_bf812 xm_J4_append_bf812 (fun h => by first | rfl | cases h) xl_L_65 hk268 rfl rfl ⟨by decide, by decide⟩ (Nat.le_trans (x_sm x_vcat x_s0) (by decide)) dL_texts_849 (pc2 := 852) rfl (fun o267 s266 => ?_) hop
      refine x_ldcS (i := 34) (tx := ";") dL_texts_852 (by decide +kernel) (by decide) (pc2 := 854) rfl ?_
      refine x_oo (ci := 14) (fun hk271 => ?_)
      refine x_callVR (As := [x_v w (x_CB + 34)]) C2_J4_append_15ec4 xm_J4_append_15ec4 (fun h => by first | rfl | cases h) xl_L_61 hk271 rfl rfl ⟨by decide, by decide⟩ (Nat.le_trans (x_sm x_vcat x_s0) (by decide)) dL_texts_854 (pc2 := 857) rfl (fun o270 s269 => ?_) hop
      refine x_oo (ci := 14) (fun hk274 => ?_)
      refine x_callVR (As := []) C2_J4_toString_0e30d xm_J4_toString_0e30d (fun h => by first | rfl | cases h) xl_L_72 hk274 rfl rfl ⟨by decide, by decide⟩ (Nat.le_trans (x_sm x_vcat x_s0) (by decide)) dL_texts_857 (pc2 := 860) rfl (fun o273 s272 => ?_) hop
      refine x_oo (ci := 14) (fun hk277 => ?_)
      refine x_callVR (As := [x_v w o273]) C2_J4_append_15ec4 xm_J4_append_15ec4 (fun h => by first | rfl | cases h) xl_L_61 hk277 rfl rfl ⟨by decide, by decide⟩ (Nat.le_trans x_s0 (by decide)) dL_texts_860 (pc2 := 863) rfl (fun o276 s275 => ?_) hop
      refine x_pop dL_texts_863 x_vcat (pc2 := 864) rfl ?_
      refine x_iinc dL_texts_864 rfl (q_ii ic_1) (by decide) (L2 := [some (q_rf w 0), some (x_v w x1), some (.int x2), some (.int x3), some (x_v w x4), none, some (.int (x6 + 1)), some (.int v225), some (.int r227), none, none]) rfl (pc2 := 867) rfl ?_
      refine x_goto dL_texts_867 (pc2 := 722) rfl ?_
      refine x_Gmask [true, true, true, true, true, true, true, false, false, true, true] (L2 := [some (q_rf w 0), some (x_v w x1), some (.int x2), some (.int x3), some (x_v w x4), none, some (.int (x6 + 1)), none, none, none, none]) rfl ?_
      exact ih _ _
    · refine x_Gmask [true, false, false, true, true, true, false, true, true, true, true] (L2 := [some (q_rf w 0), none, none, some (.int x3), some (x_v w x4), none, none, none, none, none, none]) rfl ?_
      exact hk870 _
set_option maxRecDepth 100000 in
set_option maxHeartbeats 4000000 in
theorem C2_L_texts {l : Launch} {w : q_Wd} {n : Nat} {a1 : Nat} {a2 : Int32} {s0 : x_U} : x_C l w yL_texts cL_texts 11 (some .boolean) 13 300 [q_rf w 0, x_v w a1, .int a2] x_aI s0 (F_L_texts n a1 a2 s0) := x_CofG [some (q_rf w 0), some (x_v w a1), some (.int a2), none, none, none, none, none, none, none, none] (by decide +kernel) rfl (x_ca rfl (x_ca x_vcat (x_ca rfl x_c0))) (Nat.le_of_ble_eq_true rfl) fun hop cx hl => by
  subst hl
  show x_G w cx RL "texts" cL_texts 11 (some .boolean) 13 300 (x_m s0) x_aI 0 [some (q_rf w 0), some (x_v w a1), some (.int a2), none, none, none, none, none, none, none, none] [] s0 _
  rw [F_L_texts]
  refine x_aload_n dL_texts_0 x_vR rfl (pc2 := 1) rfl ?_
  refine x_getIN xf_L_37 (by decide) rfl dL_texts_1 (pc2 := 4) rfl (fun v1 => ?_)
  refine x_iconst dL_texts_4 ic_2 (pc2 := 5) rfl ?_
  refine x_jn (P := fun j21 => ∀ (y2 : Int32) (s3 : x_U), x_G w cx RL "texts" cL_texts 11 (some .boolean) 13 300 (x_m s0) x_aI 21 [some (q_rf w 0), some (x_v w a1), some (.int a2), none, none, none, none, none, none, none, none] [.int y2] s3 (j21 y2 s3)) (fun y2 s3 => ?_) (fun j21 hj21 => ?_)
  · refine x_istore_n dL_texts_21 (by decide) (L2 := [some (q_rf w 0), some (x_v w a1), some (.int a2), some (.int y2), none, none, none, none, none, none, none]) rfl (pc2 := 22) rfl ?_
    refine x_newo cl_14 xn_L_49 df_14 dL_texts_22 (pc2 := 25) rfl (fun o4 s5 => ?_)
    refine x_dup dL_texts_25 x_vcat (pc2 := 26) rfl ?_
    refine x_oo (ci := 14) (fun hk8 => ?_)
    refine x_callIV (As := []) C2_J4_init_da8c8 mi_J4_init_da8c8 rfl rfl xl_L_51 hk8 xq_14 (fun h => by first | rfl | cases h) rfl rfl ⟨by decide, by decide⟩ (Nat.le_trans (x_sm x_vcat x_s0) (by decide)) dL_texts_26 (pc2 := 29) rfl (fun r7 s6 => ?_) hop
    refine x_astore x_vR dL_texts_29 (by decide) (L2 := [some (q_rf w 0), some (x_v w a1), some (.int a2), some (.int y2), some (x_v w o4), none, none, none, none, none, none]) rfl (pc2 := 31) rfl ?_
    refine x_iconst dL_texts_31 ic_0 (pc2 := 32) rfl ?_
    refine x_istore dL_texts_32 (by decide) (L2 := [some (q_rf w 0), some (x_v w a1), some (.int a2), some (.int y2), some (x_v w o4), some (.int 0), none, none, none, none, none]) rfl (pc2 := 34) rfl ?_
    refine T_L_texts_L34 hop (fun s13 => ?_) n _ _
    refine x_aload_n dL_texts_59 x_vR rfl (pc2 := 60) rfl ?_
    refine x_iload_n dL_texts_60 rfl (pc2 := 61) rfl ?_
    refine x_putI (Or.inr ⟨rfl, xf_L_56⟩) (Or.inl rfl) rfl rfl rfl dL_texts_61 (pc2 := 64) rfl (fun s14 => ?_)
    refine x_iconst dL_texts_64 ic_0 (pc2 := 65) rfl ?_
    refine x_istore dL_texts_65 (by decide) (L2 := [some (q_rf w 0), some (x_v w a1), some (.int a2), some (.int y2), some (x_v w o4), some (.int 0), none, none, none, none, none]) rfl (pc2 := 67) rfl ?_
    refine T_L_texts_L67 hop (fun s82 => ?_) n _ _
    refine x_aload_n dL_texts_279 x_cR rfl (pc2 := 280) rfl ?_
    refine x_aload dL_texts_280 x_vR rfl (pc2 := 282) rfl ?_
    refine x_oo (ci := 14) (fun hk85 => ?_)
    refine x_callVR (As := []) C2_J4_toString_0e30d xm_J4_toString_0e30d (fun h => by first | rfl | cases h) xl_L_72 hk85 rfl rfl ⟨by decide, by decide⟩ (Nat.le_trans (x_sm rfl x_s0) (by decide)) dL_texts_282 (pc2 := 285) rfl (fun o84 s83 => ?_) hop
    refine x_callSV (As := [q_rf w 0, x_v w o84]) C2_L_say xm_L_say xl_L_80 rfl rfl ⟨by decide, by decide⟩ (Nat.le_trans x_s0 (by decide)) dL_texts_285 (pc2 := 288) rfl (fun r87 s86 => ?_) hop
    refine x_aload_n dL_texts_288 x_cR rfl (pc2 := 289) rfl ?_
    refine x_iconst dL_texts_289 ic_1 (pc2 := 290) rfl ?_
    refine x_callcI (As := [.int 1]) (fun w' => C_X11_text q_kd0) mv_X11_text xl_L_84 rfl rfl ⟨by decide, by decide⟩ (Nat.le_trans x_s0 (by decide)) dL_texts_290 (pc2 := 293) rfl (fun r89 s88 => ?_)
    refine x_iload_n dL_texts_293 rfl (pc2 := 294) rfl ?_
    refine x_icmp_eq dL_texts_294 (pc1 := 299) (pc2 := 297) rfl rfl (fun _ => ?_) (fun _ => ?_)
    · refine x_iload_n dL_texts_299 rfl (pc2 := 300) rfl ?_
      refine x_iconst dL_texts_300 ic_5 (pc2 := 301) rfl ?_
      refine x_ishr dL_texts_301 (pc2 := 302) rfl ?_
      refine x_iconst dL_texts_302 ic_0 (pc2 := 303) rfl ?_
      refine x_bipush dL_texts_303 bp_10 (pc2 := 305) rfl ?_
      refine x_callSI (As := [.int (a2 >>> (5 &&& 31)), .int 0, .int 10]) C2_L_between xm_L_between xl_L_43 rfl rfl ⟨by decide, by decide⟩ (Nat.le_trans x_s0 (by decide)) dL_texts_305 (pc2 := 308) rfl (fun r91 s90 => ?_) hop
      refine x_istore_n dL_texts_308 (by decide) (L2 := [some (q_rf w 0), some (x_v w a1), some (.int a2), some (.int r91), some (x_v w o4), none, none, none, none, none, none]) rfl (pc2 := 309) rfl ?_
      refine x_newo cl_14 xn_L_49 df_14 dL_texts_309 (pc2 := 312) rfl (fun o92 s93 => ?_)
      refine x_dup dL_texts_312 x_vcat (pc2 := 313) rfl ?_
      refine x_oo (ci := 14) (fun hk96 => ?_)
      refine x_callIV (As := []) C2_J4_init_da8c8 mi_J4_init_da8c8 rfl rfl xl_L_51 hk96 xq_14 (fun h => by first | rfl | cases h) rfl rfl ⟨by decide, by decide⟩ (Nat.le_trans (x_sm x_vcat x_s0) (by decide)) dL_texts_313 (pc2 := 316) rfl (fun r95 s94 => ?_) hop
      refine x_astore x_vR dL_texts_316 (by decide) (L2 := [some (q_rf w 0), some (x_v w a1), some (.int a2), some (.int r91), some (x_v w o92), none, none, none, none, none, none]) rfl (pc2 := 318) rfl ?_
      refine x_iconst dL_texts_318 ic_5 (pc2 := 319) rfl ?_
      refine x_newq (t := 5) (Or.inr (Or.inr ⟨rfl, xc_L_18⟩)) dL_texts_319 (pc2 := 322) rfl (fun o97 s98 => ?_)
      refine x_dup dL_texts_322 x_vcat (pc2 := 323) rfl ?_
      refine x_iconst dL_texts_323 ic_0 (pc2 := 324) rfl ?_
      refine x_ldcS (i := 35) (tx := " salt ") dL_texts_324 (by decide +kernel) (by decide) (pc2 := 326) rfl ?_
      refine x_aast dL_texts_326 (pc2 := 327) rfl (fun s99 => ?_)
      refine x_dup dL_texts_327 x_vcat (pc2 := 328) rfl ?_
      refine x_iconst dL_texts_328 ic_1 (pc2 := 329) rfl ?_
      refine x_ldcS (i := 36) (tx := " sing ") dL_texts_329 (by decide +kernel) (by decide) (pc2 := 331) rfl ?_
      refine x_aast dL_texts_331 (pc2 := 332) rfl (fun s100 => ?_)
      refine x_dup dL_texts_332 x_vcat (pc2 := 333) rfl ?_
      refine x_iconst dL_texts_333 ic_2 (pc2 := 334) rfl ?_
      refine x_ldcS (i := 37) (tx := " whip ") dL_texts_334 (by decide +kernel) (by decide) (pc2 := 336) rfl ?_
      refine x_aast dL_texts_336 (pc2 := 337) rfl (fun s101 => ?_)
      refine x_dup dL_texts_337 x_vcat (pc2 := 338) rfl ?_
      refine x_iconst dL_texts_338 ic_3 (pc2 := 339) rfl ?_
      refine x_ldcS (i := 38) (tx := " vote") dL_texts_339 (by decide +kernel) (by decide) (pc2 := 341) rfl ?_
      refine x_aast dL_texts_341 (pc2 := 342) rfl (fun s102 => ?_)
      refine x_dup dL_texts_342 x_vcat (pc2 := 343) rfl ?_
      refine x_iconst dL_texts_343 ic_4 (pc2 := 344) rfl ?_
      refine x_ldcS (i := 39) (tx := " go ") dL_texts_344 (by decide +kernel) (by decide) (pc2 := 346) rfl ?_
      refine x_aast dL_texts_346 (pc2 := 347) rfl (fun s103 => ?_)
      refine x_astore x_vR dL_texts_347 (by decide) (L2 := [some (q_rf w 0), some (x_v w a1), some (.int a2), some (.int r91), some (x_v w o92), some (x_v w o97), none, none, none, none, none]) rfl (pc2 := 349) rfl ?_
      refine x_aload_n dL_texts_349 x_vR rfl (pc2 := 350) rfl ?_
      refine x_iload_n dL_texts_350 rfl (pc2 := 351) rfl ?_
      refine x_newq (t := 3) (Or.inl ⟨rfl, xc_L_98⟩) dL_texts_351 (pc2 := 354) rfl (fun o104 s105 => ?_)
      refine x_putR (Or.inr ⟨rfl, xf_L_100⟩) (Or.inl rfl) rfl (x_nR (Or.inr ⟨_, rfl⟩)) dL_texts_354 (pc2 := 357) rfl (fun s106 => ?_)
      refine x_iconst dL_texts_357 ic_0 (pc2 := 358) rfl ?_
      refine x_istore dL_texts_358 (by decide) (L2 := [some (q_rf w 0), some (x_v w a1), some (.int a2), some (.int r91), some (x_v w o92), some (x_v w o97), some (.int 0), none, none, none, none]) rfl (pc2 := 360) rfl ?_
      refine T_L_texts_L360 hop (fun s207 => ?_) n _ _
      refine x_aload_n dL_texts_671 x_cR rfl (pc2 := 672) rfl ?_
      refine x_aload dL_texts_672 x_vR rfl (pc2 := 674) rfl ?_
      refine x_oo (ci := 14) (fun hk210 => ?_)
      refine x_callVR (As := []) C2_J4_toString_0e30d xm_J4_toString_0e30d (fun h => by first | rfl | cases h) xl_L_72 hk210 rfl rfl ⟨by decide, by decide⟩ (Nat.le_trans (x_sm rfl x_s0) (by decide)) dL_texts_674 (pc2 := 677) rfl (fun o209 s208 => ?_) hop
      refine x_callSV (As := [q_rf w 0, x_v w o209]) C2_L_say xm_L_say xl_L_80 rfl rfl ⟨by decide, by decide⟩ (Nat.le_trans x_s0 (by decide)) dL_texts_677 (pc2 := 680) rfl (fun r212 s211 => ?_) hop
      refine x_aload_n dL_texts_680 x_cR rfl (pc2 := 681) rfl ?_
      refine x_iconst dL_texts_681 ic_2 (pc2 := 682) rfl ?_
      refine x_callcI (As := [.int 2]) (fun w' => C_X11_text q_kd0) mv_X11_text xl_L_84 rfl rfl ⟨by decide, by decide⟩ (Nat.le_trans x_s0 (by decide)) dL_texts_682 (pc2 := 685) rfl (fun r214 s213 => ?_)
      refine x_iload_n dL_texts_685 rfl (pc2 := 686) rfl ?_
      refine x_icmp_eq dL_texts_686 (pc1 := 691) (pc2 := 689) rfl rfl (fun _ => ?_) (fun _ => ?_)
      · refine x_iload_n dL_texts_691 rfl (pc2 := 692) rfl ?_
        refine x_bipush dL_texts_692 bp_6 (pc2 := 694) rfl ?_
        refine x_ishr dL_texts_694 (pc2 := 695) rfl ?_
        refine x_iconst dL_texts_695 ic_0 (pc2 := 696) rfl ?_
        refine x_bipush dL_texts_696 bp_14 (pc2 := 698) rfl ?_
        refine x_callSI (As := [.int (a2 >>> (6 &&& 31)), .int 0, .int 14]) C2_L_between xm_L_between xl_L_43 rfl rfl ⟨by decide, by decide⟩ (Nat.le_trans x_s0 (by decide)) dL_texts_698 (pc2 := 701) rfl (fun r216 s215 => ?_) hop
        refine x_istore_n dL_texts_701 (by decide) (L2 := [some (q_rf w 0), some (x_v w a1), some (.int a2), some (.int r216), some (x_v w o92), none, none, none, none, none, none]) rfl (pc2 := 702) rfl ?_
        refine x_newo cl_14 xn_L_49 df_14 dL_texts_702 (pc2 := 705) rfl (fun o217 s218 => ?_)
        refine x_dup dL_texts_705 x_vcat (pc2 := 706) rfl ?_
        refine x_oo (ci := 14) (fun hk221 => ?_)
        refine x_callIV (As := []) C2_J4_init_da8c8 mi_J4_init_da8c8 rfl rfl xl_L_51 hk221 xq_14 (fun h => by first | rfl | cases h) rfl rfl ⟨by decide, by decide⟩ (Nat.le_trans (x_sm x_vcat x_s0) (by decide)) dL_texts_706 (pc2 := 709) rfl (fun r220 s219 => ?_) hop
        refine x_astore x_vR dL_texts_709 (by decide) (L2 := [some (q_rf w 0), some (x_v w a1), some (.int a2), some (.int r216), some (x_v w o217), none, none, none, none, none, none]) rfl (pc2 := 711) rfl ?_
        refine x_aload_n dL_texts_711 x_vR rfl (pc2 := 712) rfl ?_
        refine x_iload_n dL_texts_712 rfl (pc2 := 713) rfl ?_
        refine x_newq (t := 3) (Or.inl ⟨rfl, xc_L_98⟩) dL_texts_713 (pc2 := 716) rfl (fun o222 s223 => ?_)
        refine x_putR (Or.inr ⟨rfl, xf_L_113⟩) (Or.inl rfl) rfl (x_nR (Or.inr ⟨_, rfl⟩)) dL_texts_716 (pc2 := 719) rfl (fun s224 => ?_)
        refine x_iconst dL_texts_719 ic_0 (pc2 := 720) rfl ?_
        refine x_istore dL_texts_720 (by decide) (L2 := [some (q_rf w 0), some (x_v w a1), some (.int a2), some (.int r216), some (x_v w o217), none, some (.int 0), none, none, none, none]) rfl (pc2 := 722) rfl ?_
        refine T_L_texts_L722 hop (fun s278 => ?_) n _ _
        refine x_aload_n dL_texts_870 x_cR rfl (pc2 := 871) rfl ?_
        refine x_aload dL_texts_871 x_vR rfl (pc2 := 873) rfl ?_
        refine x_oo (ci := 14) (fun hk281 => ?_)
        refine x_callVR (As := []) C2_J4_toString_0e30d xm_J4_toString_0e30d (fun h => by first | rfl | cases h) xl_L_72 hk281 rfl rfl ⟨by decide, by decide⟩ (Nat.le_trans (x_sm rfl x_s0) (by decide)) dL_texts_873 (pc2 := 876) rfl (fun o280 s279 => ?_) hop
        refine x_callSV (As := [q_rf w 0, x_v w o280]) C2_L_say xm_L_say xl_L_80 rfl rfl ⟨by decide, by decide⟩ (Nat.le_trans x_s0 (by decide)) dL_texts_876 (pc2 := 879) rfl (fun r283 s282 => ?_) hop
        refine x_aload_n dL_texts_879 x_cR rfl (pc2 := 880) rfl ?_
        refine x_iconst dL_texts_880 ic_3 (pc2 := 881) rfl ?_
        refine x_callcI (As := [.int 3]) (fun w' => C_X11_text q_kd0) mv_X11_text xl_L_84 rfl rfl ⟨by decide, by decide⟩ (Nat.le_trans x_s0 (by decide)) dL_texts_881 (pc2 := 884) rfl (fun r285 s284 => ?_)
        refine x_iload_n dL_texts_884 rfl (pc2 := 885) rfl ?_
        refine x_icmp_ne dL_texts_885 (pc1 := 888) (pc2 := 892) rfl rfl (fun _ => ?_) (fun _ => ?_)
        · refine x_iconst dL_texts_888 ic_1 (pc2 := 889) rfl ?_
          refine x_goto dL_texts_889 (pc2 := 893) rfl ?_
          exact x_nret rfl dL_texts_893
        · refine x_iconst dL_texts_892 ic_0 (pc2 := 893) rfl ?_
          exact x_nret rfl dL_texts_893
      · refine x_iconst dL_texts_689 ic_0 (pc2 := 690) rfl ?_
        exact x_nret rfl dL_texts_690
    · refine x_iconst dL_texts_297 ic_0 (pc2 := 298) rfl ?_
      exact x_nret rfl dL_texts_298
  · refine x_icmp_ge dL_texts_5 (pc1 := 8) (pc2 := 12) rfl rfl (fun _ => ?_) (fun _ => ?_)
    · refine x_iconst dL_texts_8 ic_0 (pc2 := 9) rfl ?_
      refine x_goto dL_texts_9 (pc2 := 21) rfl ?_
      exact hj21 _ _
    · refine x_iload_n dL_texts_12 rfl (pc2 := 13) rfl ?_
      refine x_iconst dL_texts_13 ic_3 (pc2 := 14) rfl ?_
      refine x_ishr dL_texts_14 (pc2 := 15) rfl ?_
      refine x_iconst dL_texts_15 ic_0 (pc2 := 16) rfl ?_
      refine x_bipush dL_texts_16 bp_12 (pc2 := 18) rfl ?_
      refine x_callSI (As := [.int (a2 >>> (3 &&& 31)), .int 0, .int 12]) C2_L_between xm_L_between xl_L_43 rfl rfl ⟨by decide, by decide⟩ (Nat.le_trans x_s0 (by decide)) dL_texts_18 (pc2 := 21) rfl (fun r287 s286 => ?_) hop
      exact hj21 _ _
