set_option maxRecDepth 100000 in
set_option maxHeartbeats 4000000 in
def F_X12_stand_L2 (n : Nat) (x0 : Nat) (x1 : Int32) (k25 : x_U → Option (Int32 × x_U)) : Nat → Int32 → x_U → Option (Int32 × x_U)
  | 0, _, _ => none
  | j + 1, x2, s0 =>
    x_gi s0 x0 12 7 fun v1 =>
    if x2 < v1 then (
    x_gr s0 x0 12 12 fun o2 =>
    x_lr s0 o2 x2 fun o3 =>
    x_st s0 o3 3 (-1) fun s4 =>
    F_X12_stand_L2 n x0 x1 k25 j (x2 + 1) s4)
    else (
    k25 s0)
set_option maxRecDepth 100000 in
set_option maxHeartbeats 4000000 in
def F_X12_stand_L90 (n : Nat) (x0 : Nat) (x1 : Int32) (x2 : Int32) (x3 : Int32) (k127 : Int32 → x_U → Option (Int32 × x_U)) : Nat → Int32 → Int32 → x_U → Option (Int32 × x_U)
  | 0, _, _, _ => none
  | j + 1, x4, x5, s0 =>
    if x5 < 0 then (
    k127 x4 s0)
    else (
    if x4 < 0 then (
    F_X12_stand_L90 n x0 x1 x2 x3 k127 j x5 (x5 + (-1)) s0)
    else (
    x_o s0 x0 12 <|
    x_call (F_X12_lean n x0 x3 x5 s0) fun r17 s16 =>
    x_o s16 x0 12 <|
    x_call (F_X12_lean n x0 x3 x4 s16) fun r20 s19 =>
    if r17 < r20 then (
    F_X12_stand_L90 n x0 x1 x2 x3 k127 j x4 (x5 + (-1)) s19)
    else (
    F_X12_stand_L90 n x0 x1 x2 x3 k127 j x5 (x5 + (-1)) s19)))
set_option maxRecDepth 100000 in
set_option maxHeartbeats 4000000 in
def F_X12_stand_L40 (n : Nat) (x0 : Nat) (x1 : Int32) (k168 : Int32 → x_U → Option (Int32 × x_U)) : Nat → Int32 → Int32 → x_U → Option (Int32 × x_U)
  | 0, _, _, _ => none
  | j + 1, x2, x3, s0 =>
    x_gi s0 x0 12 7 fun v7 =>
    if x3 < v7 then (
    x_gr s0 x0 12 12 fun o8 =>
    x_lr s0 o8 x3 fun o9 =>
    x_ld s0 o9 2 fun v10 =>
    if v10 = 1 then (
    F_X12_stand_L40 n x0 x1 k168 j x2 (x3 + 1) s0)
    else (
    if x3 = x1 then (
    F_X12_stand_L40 n x0 x1 k168 j x2 (x3 + 1) s0)
    else (
    x_gr s0 x0 12 12 fun o11 =>
    x_lr s0 o11 x3 fun o12 =>
    x_ld s0 o12 3 fun v13 =>
    if v13 < 0 then (
    x_gi s0 x0 12 8 fun v14 =>
    x_nm (v14 - 1) fun v15 =>
    F_X12_stand_L90 n x0 x1 x2 x3 (fun (y22 : Int32) (s23 : x_U) =>
    if y22 < 0 then (
    F_X12_stand_L40 n x0 x1 k168 j x2 (x3 + 1) s23)
    else (
    x_o s23 x0 12 <|
    x_call (F_X12_lean n x0 x3 y22 s23) fun r25 s24 =>
    x_o s24 x0 12 <|
    x_call (F_X12_need n x0 x3 s24) fun r28 s27 =>
    if r25 < r28 then (
    F_X12_stand_L40 n x0 x1 k168 j x2 (x3 + 1) s27)
    else (
    x_gr s27 x0 12 12 fun o30 =>
    x_lr s27 o30 x3 fun o31 =>
    x_st s27 o31 3 y22 fun s32 =>
    F_X12_stand_L40 n x0 x1 k168 j 1 (x3 + 1) s32))) n (-1) v15 s0)
    else (
    F_X12_stand_L40 n x0 x1 k168 j x2 (x3 + 1) s0))))
    else (
    k168 x2 s0)
set_option maxRecDepth 100000 in
set_option maxHeartbeats 4000000 in
def F_X12_stand_L32 (n : Nat) (x0 : Nat) (x1 : Int32) (k185 : x_U → Option (Int32 × x_U)) : Nat → Int32 → x_U → Option (Int32 × x_U)
  | 0, _, _ => none
  | j + 1, x2, s0 =>
    if x2 = 0 then (
    k185 s0)
    else (
    F_X12_stand_L40 n x0 x1 (fun (y33 : Int32) (s34 : x_U) =>
    if y33 = 0 then (
    F_X12_stand_L32 n x0 x1 k185 j y33 s34)
    else (
    x_gi s34 x0 12 11 fun v35 =>
    x_pi s34 x0 12 11 (v35 + 1) fun s36 =>
    F_X12_stand_L32 n x0 x1 k185 j y33 s36)) n 0 0 s0)
set_option maxRecDepth 100000 in
set_option maxHeartbeats 4000000 in
def F_X12_stand_L218 (n : Nat) (x0 : Nat) (x3 : Int32) (k262 : Int32 → x_U → Option (Int32 × x_U)) : Nat → Int32 → Int32 → x_U → Option (Int32 × x_U)
  | 0, _, _, _ => none
  | j + 1, x4, x5, s0 =>
    x_gi s0 x0 12 8 fun v43 =>
    if x5 < v43 then (
    if x5 = x3 then (
    F_X12_stand_L218 n x0 x3 k262 j x4 (x5 + 1) s0)
    else (
    x_o s0 x0 12 <|
    x_call (F_X12_behind n x0 x5 s0) fun r45 s44 =>
    x_call (F_J6_bitCount_0f7a4 n r45 s44) fun r48 s47 =>
    x_o s47 x0 12 <|
    x_call (F_X12_behind n x0 x3 s47) fun r50 s49 =>
    x_call (F_J6_bitCount_0f7a4 n r50 s49) fun r53 s52 =>
    if r48 < r53 then (
    F_X12_stand_L218 n x0 x3 k262 j x4 (x5 + 1) s52)
    else (
    F_X12_stand_L218 n x0 x3 k262 j 0 (x5 + 1) s52)))
    else (
    k262 x4 s0)
set_option maxRecDepth 100000 in
set_option maxHeartbeats 4000000 in
def F_X12_stand_L192 (n : Nat) (x0 : Nat) : Nat → Int32 → x_U → Option (Int32 × x_U)
  | 0, _, _ => none
  | j + 1, x3, s0 =>
    x_gi s0 x0 12 8 fun v39 =>
    if x3 < v39 then (
    x_o s0 x0 12 <|
    x_call (F_X12_behind n x0 x3 s0) fun r41 s40 =>
    if r41 = 0 then (
    F_X12_stand_L218 n x0 x3 (fun (y54 : Int32) (s55 : x_U) =>
    if y54 = 0 then (
    F_X12_stand_L192 n x0 j (x3 + 1) s55)
    else (
    x_pi s55 x0 12 3 x3 fun s56 =>
    F_X12_stand_L192 n x0 j (x3 + 1) s56)) n 0 0 s40)
    else (
    F_X12_stand_L218 n x0 x3 (fun (y68 : Int32) (s69 : x_U) =>
    if y68 = 0 then (
    F_X12_stand_L192 n x0 j (x3 + 1) s69)
    else (
    x_pi s69 x0 12 3 x3 fun s70 =>
    F_X12_stand_L192 n x0 j (x3 + 1) s70)) n 1 0 s40))
    else (
    some (0, s0))
set_option maxRecDepth 100000 in
set_option maxHeartbeats 4000000 in
def F_X12_stand (n : Nat) (t : Nat) (a0 : Int32) (s0 : x_U) : Option (Int32 × x_U) :=
  F_X12_stand_L2 n t a0 (fun  (s5 : x_U) =>
  x_pi s5 t 12 11 0 fun s6 =>
  F_X12_stand_L32 n t a0 (fun  (s37 : x_U) =>
  x_pi s37 t 12 3 (-1) fun s38 =>
  F_X12_stand_L192 n t  n 0 s38) n 1 s6) n 0 s0
set_option maxRecDepth 100000 in
set_option maxHeartbeats 4000000 in
theorem T_X12_stand_L2 {w : q_Wd} {cx : q_Cx} {M0 : Nat} (hop : w.2.2.2.2.2.1 = none) {n : Nat} {x0 : Nat} {x1 : Int32} {k25 : x_U → Option (Int32 × x_U)} (hk25 : ∀  (s1 : x_U), x_G w cx RX12 "stand" cX12_stand 6 (none) 3 69 M0 x_aV 25 [some (x_v w x0), some (.int x1), none, none, none, none] [] s1 (k25 s1)) :
    ∀ (j : Nat) (x2 : Int32) (s0 : x_U), x_G w cx RX12 "stand" cX12_stand 6 (none) 3 69 M0 x_aV 2 [some (x_v w x0), some (.int x1), some (.int x2), none, none, none] [] s0 (F_X12_stand_L2 n x0 x1 k25 j x2 s0) := by
  intro j
  induction j with
  | zero =>
    intro _ _
    rw [F_X12_stand_L2]
    exact x_none
  | succ j ih =>
    intro x2 s0
    rw [F_X12_stand_L2]
    refine x_iload_n dX12_stand_2 rfl (pc2 := 3) rfl ?_
    refine x_aload_n dX12_stand_3 x_vR rfl (pc2 := 4) rfl ?_
    refine x_getI xf_X12_50 (by decide) rfl dX12_stand_4 (pc2 := 7) rfl (fun v1 => ?_)
    refine x_icmp_ge dX12_stand_7 (pc1 := 10) (pc2 := 25) rfl rfl (fun _ => ?_) (fun _ => ?_)
    · refine x_aload_n dX12_stand_10 x_vR rfl (pc2 := 11) rfl ?_
      refine x_getR xf_X12_15 (by decide) rfl dX12_stand_11 (pc2 := 14) rfl (fun o2 => ?_)
      refine x_iload_n dX12_stand_14 rfl (pc2 := 15) rfl ?_
      refine x_aald dX12_stand_15 (pc2 := 16) rfl (fun o3 => ?_)
      refine x_iconst dX12_stand_16 ic_3 (pc2 := 17) rfl ?_
      refine x_iconst dX12_stand_17 ic_m1 (pc2 := 18) rfl ?_
      refine x_iast dX12_stand_18 (pc2 := 19) rfl (fun s4 => ?_)
      refine x_iinc dX12_stand_19 rfl (q_ii ic_1) (by decide) (L2 := [some (x_v w x0), some (.int x1), some (.int (x2 + 1)), none, none, none]) rfl (pc2 := 22) rfl ?_
      refine x_goto dX12_stand_22 (pc2 := 2) rfl ?_
      exact ih _ _
    · refine x_Gmask [true, true, false, true, true, true] (L2 := [some (x_v w x0), some (.int x1), none, none, none, none]) rfl ?_
      exact hk25 _
set_option maxRecDepth 100000 in
set_option maxHeartbeats 4000000 in
theorem T_X12_stand_L90 {w : q_Wd} {cx : q_Cx} {M0 : Nat} (hop : w.2.2.2.2.2.1 = none) {n : Nat} {x0 : Nat} {x1 : Int32} {x2 : Int32} {x3 : Int32} {k127 : Int32 → x_U → Option (Int32 × x_U)} (hk127 : ∀ (y4 : Int32) (s1 : x_U), x_G w cx RX12 "stand" cX12_stand 6 (none) 3 69 M0 x_aV 127 [some (x_v w x0), some (.int x1), some (.int x2), some (.int x3), some (.int y4), none] [] s1 (k127 y4 s1)) :
    ∀ (j : Nat) (x4 : Int32) (x5 : Int32) (s0 : x_U), x_G w cx RX12 "stand" cX12_stand 6 (none) 3 69 M0 x_aV 90 [some (x_v w x0), some (.int x1), some (.int x2), some (.int x3), some (.int x4), some (.int x5)] [] s0 (F_X12_stand_L90 n x0 x1 x2 x3 k127 j x4 x5 s0) := by
  intro j
  induction j with
  | zero =>
    intro _ _ _
    rw [F_X12_stand_L90]
    exact x_none
  | succ j ih =>
    intro x4 x5 s0
    rw [F_X12_stand_L90]
    refine x_iload dX12_stand_90 rfl (pc2 := 92) rfl ?_
    refine x_if_lt dX12_stand_92 (pc1 := 127) (pc2 := 95) rfl rfl (fun _ => ?_) (fun _ => ?_)
    · refine x_Gmask [true, true, true, true, true, false] (L2 := [some (x_v w x0), some (.int x1), some (.int x2), some (.int x3), some (.int x4), none]) rfl ?_
      exact hk127 _ _
    · refine x_iload dX12_stand_95 rfl (pc2 := 97) rfl ?_
      refine x_if_lt dX12_stand_97 (pc1 := 117) (pc2 := 100) rfl rfl (fun _ => ?_) (fun _ => ?_)
      · refine x_iload dX12_stand_117 rfl (pc2 := 119) rfl ?_
        refine x_istore dX12_stand_119 (by decide) (L2 := [some (x_v w x0), some (.int x1), some (.int x2), some (.int x3), some (.int x5), some (.int x5)]) rfl (pc2 := 121) rfl ?_
        refine x_iinc dX12_stand_121 rfl (q_ii ic_m1) (by decide) (L2 := [some (x_v w x0), some (.int x1), some (.int x2), some (.int x3), some (.int x5), some (.int (x5 + (-1)))]) rfl (pc2 := 124) rfl ?_
        refine x_goto dX12_stand_124 (pc2 := 90) rfl ?_
        exact ih _ _ _
      · refine x_aload_n dX12_stand_100 x_vR rfl (pc2 := 101) rfl ?_
        refine x_iload_n dX12_stand_101 rfl (pc2 := 102) rfl ?_
        refine x_iload dX12_stand_102 rfl (pc2 := 104) rfl ?_
        refine x_oo (ci := 12) (fun hk18 => ?_)
        refine x_callVI (As := [.int x3, .int x5]) C2_X12_lean xm_X12_lean (fun h => by first | rfl | cases h) xl_X12_89 hk18 rfl rfl ⟨by decide, by decide⟩ (Nat.le_trans x_s0 (by decide)) dX12_stand_104 (pc2 := 107) rfl (fun r17 s16 => ?_) hop
        refine x_aload_n dX12_stand_107 x_vR rfl (pc2 := 108) rfl ?_
        refine x_iload_n dX12_stand_108 rfl (pc2 := 109) rfl ?_
        refine x_iload dX12_stand_109 rfl (pc2 := 111) rfl ?_
        refine x_oo (ci := 12) (fun hk21 => ?_)
        refine x_callVI (As := [.int x3, .int x4]) C2_X12_lean xm_X12_lean (fun h => by first | rfl | cases h) xl_X12_89 hk21 rfl rfl ⟨by decide, by decide⟩ (Nat.le_trans (x_sm rfl x_s0) (by decide)) dX12_stand_111 (pc2 := 114) rfl (fun r20 s19 => ?_) hop
        refine x_icmp_lt dX12_stand_114 (pc1 := 121) (pc2 := 117) rfl rfl (fun _ => ?_) (fun _ => ?_)
        · refine x_iinc dX12_stand_121 rfl (q_ii ic_m1) (by decide) (L2 := [some (x_v w x0), some (.int x1), some (.int x2), some (.int x3), some (.int x4), some (.int (x5 + (-1)))]) rfl (pc2 := 124) rfl ?_
          refine x_goto dX12_stand_124 (pc2 := 90) rfl ?_
          exact ih _ _ _
        · refine x_iload dX12_stand_117 rfl (pc2 := 119) rfl ?_
          refine x_istore dX12_stand_119 (by decide) (L2 := [some (x_v w x0), some (.int x1), some (.int x2), some (.int x3), some (.int x5), some (.int x5)]) rfl (pc2 := 121) rfl ?_
          refine x_iinc dX12_stand_121 rfl (q_ii ic_m1) (by decide) (L2 := [some (x_v w x0), some (.int x1), some (.int x2), some (.int x3), some (.int x5), some (.int (x5 + (-1)))]) rfl (pc2 := 124) rfl ?_
          refine x_goto dX12_stand_124 (pc2 := 90) rfl ?_
          exact ih _ _ _
set_option maxRecDepth 100000 in
set_option maxHeartbeats 4000000 in
theorem T_X12_stand_L40 {w : q_Wd} {cx : q_Cx} {M0 : Nat} (hop : w.2.2.2.2.2.1 = none) {n : Nat} {x0 : Nat} {x1 : Int32} {k168 : Int32 → x_U → Option (Int32 × x_U)} (hk168 : ∀ (y2 : Int32) (s1 : x_U), x_G w cx RX12 "stand" cX12_stand 6 (none) 3 69 M0 x_aV 168 [some (x_v w x0), some (.int x1), some (.int y2), none, none, none] [] s1 (k168 y2 s1)) :
    ∀ (j : Nat) (x2 : Int32) (x3 : Int32) (s0 : x_U), x_G w cx RX12 "stand" cX12_stand 6 (none) 3 69 M0 x_aV 40 [some (x_v w x0), some (.int x1), some (.int x2), some (.int x3), none, none] [] s0 (F_X12_stand_L40 n x0 x1 k168 j x2 x3 s0) := by
  intro j
  induction j with
  | zero =>
    intro _ _ _
    rw [F_X12_stand_L40]
    exact x_none
  | succ j ih =>
    intro x2 x3 s0
    rw [F_X12_stand_L40]
    refine x_iload_n dX12_stand_40 rfl (pc2 := 41) rfl ?_
    refine x_aload_n dX12_stand_41 x_vR rfl (pc2 := 42) rfl ?_
    refine x_getI xf_X12_50 (by decide) rfl dX12_stand_42 (pc2 := 45) rfl (fun v7 => ?_)
    refine x_icmp_ge dX12_stand_45 (pc1 := 48) (pc2 := 168) rfl rfl (fun _ => ?_) (fun _ => ?_)
    · refine x_aload_n dX12_stand_48 x_vR rfl (pc2 := 49) rfl ?_
      refine x_getR xf_X12_15 (by decide) rfl dX12_stand_49 (pc2 := 52) rfl (fun o8 => ?_)
      refine x_iload_n dX12_stand_52 rfl (pc2 := 53) rfl ?_
      refine x_aald dX12_stand_53 (pc2 := 54) rfl (fun o9 => ?_)
      refine x_iconst dX12_stand_54 ic_2 (pc2 := 55) rfl ?_
      refine x_iald dX12_stand_55 (pc2 := 56) rfl (fun v10 => ?_)
      refine x_iconst dX12_stand_56 ic_1 (pc2 := 57) rfl ?_
      refine x_icmp_eq dX12_stand_57 (pc1 := 162) (pc2 := 60) rfl rfl (fun _ => ?_) (fun _ => ?_)
      · refine x_iinc dX12_stand_162 rfl (q_ii ic_1) (by decide) (L2 := [some (x_v w x0), some (.int x1), some (.int x2), some (.int (x3 + 1)), none, none]) rfl (pc2 := 165) rfl ?_
        refine x_goto dX12_stand_165 (pc2 := 40) rfl ?_
        exact ih _ _ _
      · refine x_iload_n dX12_stand_60 rfl (pc2 := 61) rfl ?_
        refine x_iload_n dX12_stand_61 rfl (pc2 := 62) rfl ?_
        refine x_icmp_eq dX12_stand_62 (pc1 := 162) (pc2 := 65) rfl rfl (fun _ => ?_) (fun _ => ?_)
        · refine x_iinc dX12_stand_162 rfl (q_ii ic_1) (by decide) (L2 := [some (x_v w x0), some (.int x1), some (.int x2), some (.int (x3 + 1)), none, none]) rfl (pc2 := 165) rfl ?_
          refine x_goto dX12_stand_165 (pc2 := 40) rfl ?_
          exact ih _ _ _
        · refine x_aload_n dX12_stand_65 x_vR rfl (pc2 := 66) rfl ?_
          refine x_getR xf_X12_15 (by decide) rfl dX12_stand_66 (pc2 := 69) rfl (fun o11 => ?_)
          refine x_iload_n dX12_stand_69 rfl (pc2 := 70) rfl ?_
          refine x_aald dX12_stand_70 (pc2 := 71) rfl (fun o12 => ?_)
          refine x_iconst dX12_stand_71 ic_3 (pc2 := 72) rfl ?_
          refine x_iald dX12_stand_72 (pc2 := 73) rfl (fun v13 => ?_)
          refine x_if_lt dX12_stand_73 (pc1 := 79) (pc2 := 76) rfl rfl (fun _ => ?_) (fun _ => ?_)
          · refine x_iconst dX12_stand_79 ic_m1 (pc2 := 80) rfl ?_
            refine x_istore dX12_stand_80 (by decide) (L2 := [some (x_v w x0), some (.int x1), some (.int x2), some (.int x3), some (.int (-1)), none]) rfl (pc2 := 82) rfl ?_
            refine x_aload_n dX12_stand_82 x_vR rfl (pc2 := 83) rfl ?_
            refine x_getI xf_X12_53 (by decide) rfl dX12_stand_83 (pc2 := 86) rfl (fun v14 => ?_)
            refine x_iconst dX12_stand_86 ic_1 (pc2 := 87) rfl ?_
            refine x_isub dX12_stand_87 (pc2 := 88) rfl ?_
            refine x_gnm (fun v15 => ?_)
            refine x_istore dX12_stand_88 (by decide) (L2 := [some (x_v w x0), some (.int x1), some (.int x2), some (.int x3), some (.int (-1)), some (.int v15)]) rfl (pc2 := 90) rfl ?_
            refine T_X12_stand_L90 hop (fun y22 s23 => ?_) n _ _ _
            refine x_iload dX12_stand_127 rfl (pc2 := 129) rfl ?_
            refine x_if_lt dX12_stand_129 (pc1 := 162) (pc2 := 132) rfl rfl (fun _ => ?_) (fun _ => ?_)
            · refine x_iinc dX12_stand_162 rfl (q_ii ic_1) (by decide) (L2 := [some (x_v w x0), some (.int x1), some (.int x2), some (.int (x3 + 1)), some (.int y22), none]) rfl (pc2 := 165) rfl ?_
              refine x_goto dX12_stand_165 (pc2 := 40) rfl ?_
              refine x_Gmask [true, true, true, true, false, true] (L2 := [some (x_v w x0), some (.int x1), some (.int x2), some (.int (x3 + 1)), none, none]) rfl ?_
              exact ih _ _ _
            · refine x_aload_n dX12_stand_132 x_vR rfl (pc2 := 133) rfl ?_
              refine x_iload_n dX12_stand_133 rfl (pc2 := 134) rfl ?_
              refine x_iload dX12_stand_134 rfl (pc2 := 136) rfl ?_
              refine x_oo (ci := 12) (fun hk26 => ?_)
              refine x_callVI (As := [.int x3, .int y22]) C2_X12_lean xm_X12_lean (fun h => by first | rfl | cases h) xl_X12_89 hk26 rfl rfl ⟨by decide, by decide⟩ (Nat.le_trans x_s0 (by decide)) dX12_stand_136 (pc2 := 139) rfl (fun r25 s24 => ?_) hop
              refine x_aload_n dX12_stand_139 x_vR rfl (pc2 := 140) rfl ?_
              refine x_iload_n dX12_stand_140 rfl (pc2 := 141) rfl ?_
              refine x_oo (ci := 12) (fun hk29 => ?_)
              refine x_callVI (As := [.int x3]) C2_X12_need xm_X12_need (fun h => by first | rfl | cases h) xl_X12_93 hk29 rfl rfl ⟨by decide, by decide⟩ (Nat.le_trans (x_sm rfl x_s0) (by decide)) dX12_stand_141 (pc2 := 144) rfl (fun r28 s27 => ?_) hop
              refine x_icmp_ge dX12_stand_144 (pc1 := 147) (pc2 := 150) rfl rfl (fun _ => ?_) (fun _ => ?_)
              · refine x_goto dX12_stand_147 (pc2 := 162) rfl ?_
                refine x_iinc dX12_stand_162 rfl (q_ii ic_1) (by decide) (L2 := [some (x_v w x0), some (.int x1), some (.int x2), some (.int (x3 + 1)), some (.int y22), none]) rfl (pc2 := 165) rfl ?_
                refine x_goto dX12_stand_165 (pc2 := 40) rfl ?_
                refine x_Gmask [true, true, true, true, false, true] (L2 := [some (x_v w x0), some (.int x1), some (.int x2), some (.int (x3 + 1)), none, none]) rfl ?_
                exact ih _ _ _
              · refine x_aload_n dX12_stand_150 x_vR rfl (pc2 := 151) rfl ?_
                refine x_getR xf_X12_15 (by decide) rfl dX12_stand_151 (pc2 := 154) rfl (fun o30 => ?_)
                refine x_iload_n dX12_stand_154 rfl (pc2 := 155) rfl ?_
                refine x_aald dX12_stand_155 (pc2 := 156) rfl (fun o31 => ?_)
                refine x_iconst dX12_stand_156 ic_3 (pc2 := 157) rfl ?_
                refine x_iload dX12_stand_157 rfl (pc2 := 159) rfl ?_
                refine x_iast dX12_stand_159 (pc2 := 160) rfl (fun s32 => ?_)
                refine x_iconst dX12_stand_160 ic_1 (pc2 := 161) rfl ?_
                refine x_istore_n dX12_stand_161 (by decide) (L2 := [some (x_v w x0), some (.int x1), some (.int 1), some (.int x3), some (.int y22), none]) rfl (pc2 := 162) rfl ?_
                refine x_iinc dX12_stand_162 rfl (q_ii ic_1) (by decide) (L2 := [some (x_v w x0), some (.int x1), some (.int 1), some (.int (x3 + 1)), some (.int y22), none]) rfl (pc2 := 165) rfl ?_
                refine x_goto dX12_stand_165 (pc2 := 40) rfl ?_
                refine x_Gmask [true, true, true, true, false, true] (L2 := [some (x_v w x0), some (.int x1), some (.int 1), some (.int (x3 + 1)), none, none]) rfl ?_
                exact ih _ _ _
          · refine x_goto dX12_stand_76 (pc2 := 162) rfl ?_
            refine x_iinc dX12_stand_162 rfl (q_ii ic_1) (by decide) (L2 := [some (x_v w x0), some (.int x1), some (.int x2), some (.int (x3 + 1)), none, none]) rfl (pc2 := 165) rfl ?_
            refine x_goto dX12_stand_165 (pc2 := 40) rfl ?_
            exact ih _ _ _
    · refine x_Gmask [true, true, true, false, true, true] (L2 := [some (x_v w x0), some (.int x1), some (.int x2), none, none, none]) rfl ?_
      exact hk168 _ _
set_option maxRecDepth 100000 in
set_option maxHeartbeats 4000000 in
theorem T_X12_stand_L32 {w : q_Wd} {cx : q_Cx} {M0 : Nat} (hop : w.2.2.2.2.2.1 = none) {n : Nat} {x0 : Nat} {x1 : Int32} {k185 : x_U → Option (Int32 × x_U)} (hk185 : ∀  (s1 : x_U), x_G w cx RX12 "stand" cX12_stand 6 (none) 3 69 M0 x_aV 185 [some (x_v w x0), none, none, none, none, none] [] s1 (k185 s1)) :
    ∀ (j : Nat) (x2 : Int32) (s0 : x_U), x_G w cx RX12 "stand" cX12_stand 6 (none) 3 69 M0 x_aV 32 [some (x_v w x0), some (.int x1), some (.int x2), none, none, none] [] s0 (F_X12_stand_L32 n x0 x1 k185 j x2 s0) := by
  intro j
  induction j with
  | zero =>
    intro _ _
    rw [F_X12_stand_L32]
    exact x_none
  | succ j ih =>
    intro x2 s0
    rw [F_X12_stand_L32]
    refine x_iload_n dX12_stand_32 rfl (pc2 := 33) rfl ?_
    refine x_if_eq dX12_stand_33 (pc1 := 185) (pc2 := 36) rfl rfl (fun _ => ?_) (fun _ => ?_)
    · refine x_Gmask [true, false, false, true, true, true] (L2 := [some (x_v w x0), none, none, none, none, none]) rfl ?_
      exact hk185 _
    · refine x_iconst dX12_stand_36 ic_0 (pc2 := 37) rfl ?_
      refine x_istore_n dX12_stand_37 (by decide) (L2 := [some (x_v w x0), some (.int x1), some (.int 0), none, none, none]) rfl (pc2 := 38) rfl ?_
      refine x_iconst dX12_stand_38 ic_0 (pc2 := 39) rfl ?_
      refine x_istore_n dX12_stand_39 (by decide) (L2 := [some (x_v w x0), some (.int x1), some (.int 0), some (.int 0), none, none]) rfl (pc2 := 40) rfl ?_
      refine T_X12_stand_L40 hop (fun y33 s34 => ?_) n _ _ _
      refine x_iload_n dX12_stand_168 rfl (pc2 := 169) rfl ?_
      refine x_if_eq dX12_stand_169 (pc1 := 32) (pc2 := 172) rfl rfl (fun _ => ?_) (fun _ => ?_)
      · exact ih _ _
      · refine x_aload_n dX12_stand_172 x_vR rfl (pc2 := 173) rfl ?_
        refine x_dup dX12_stand_173 x_vcat (pc2 := 174) rfl ?_
        refine x_getI xf_X12_86 (by decide) rfl dX12_stand_174 (pc2 := 177) rfl (fun v35 => ?_)
        refine x_iconst dX12_stand_177 ic_1 (pc2 := 178) rfl ?_
        refine x_iadd dX12_stand_178 (pc2 := 179) rfl ?_
        refine x_putI (Or.inl xf_X12_86) (Or.inl rfl) rfl rfl rfl dX12_stand_179 (pc2 := 182) rfl (fun s36 => ?_)
        refine x_goto dX12_stand_182 (pc2 := 32) rfl ?_
        exact ih _ _
set_option maxRecDepth 100000 in
set_option maxHeartbeats 4000000 in
theorem T_X12_stand_L218 {w : q_Wd} {cx : q_Cx} {M0 : Nat} (hop : w.2.2.2.2.2.1 = none) {n : Nat} {x0 : Nat} {x3 : Int32} {k262 : Int32 → x_U → Option (Int32 × x_U)} (hk262 : ∀ (y4 : Int32) (s1 : x_U), x_G w cx RX12 "stand" cX12_stand 6 (none) 3 69 M0 x_aV 262 [some (x_v w x0), none, none, some (.int x3), some (.int y4), none] [] s1 (k262 y4 s1)) :
    ∀ (j : Nat) (x4 : Int32) (x5 : Int32) (s0 : x_U), x_G w cx RX12 "stand" cX12_stand 6 (none) 3 69 M0 x_aV 218 [some (x_v w x0), none, none, some (.int x3), some (.int x4), some (.int x5)] [] s0 (F_X12_stand_L218 n x0 x3 k262 j x4 x5 s0) := by
  intro j
  induction j with
  | zero =>
    intro _ _ _
    rw [F_X12_stand_L218]
    exact x_none
  | succ j ih =>
    intro x4 x5 s0
    rw [F_X12_stand_L218]
    refine x_iload dX12_stand_218 rfl (pc2 := 220) rfl ?_
    refine x_aload_n dX12_stand_220 x_vR rfl (pc2 := 221) rfl ?_
    refine x_getI xf_X12_53 (by decide) rfl dX12_stand_221 (pc2 := 224) rfl (fun v43 => ?_)
    refine x_icmp_ge dX12_stand_224 (pc1 := 227) (pc2 := 262) rfl rfl (fun _ => ?_) (fun _ => ?_)
    · refine x_iload dX12_stand_227 rfl (pc2 := 229) rfl ?_
      refine x_iload_n dX12_stand_229 rfl (pc2 := 230) rfl ?_
      refine x_icmp_eq dX12_stand_230 (pc1 := 256) (pc2 := 233) rfl rfl (fun _ => ?_) (fun _ => ?_)
      · refine x_iinc dX12_stand_256 rfl (q_ii ic_1) (by decide) (L2 := [some (x_v w x0), none, none, some (.int x3), some (.int x4), some (.int (x5 + 1))]) rfl (pc2 := 259) rfl ?_
        refine x_goto dX12_stand_259 (pc2 := 218) rfl ?_
        exact ih _ _ _
      · refine x_aload_n dX12_stand_233 x_vR rfl (pc2 := 234) rfl ?_
        refine x_iload dX12_stand_234 rfl (pc2 := 236) rfl ?_
        refine x_oo (ci := 12) (fun hk46 => ?_)
        refine x_callVI (As := [.int x5]) C2_X12_behind xm_X12_behind (fun h => by first | rfl | cases h) xl_X12_71 hk46 rfl rfl ⟨by decide, by decide⟩ (Nat.le_trans x_s0 (by decide)) dX12_stand_236 (pc2 := 239) rfl (fun r45 s44 => ?_) hop
        refine x_callSI (As := [.int r45]) C2_J6_bitCount_0f7a4 xm_J6_bitCount_0f7a4 xl_X12_75 rfl rfl ⟨by decide, by decide⟩ (Nat.le_trans x_s0 (by decide)) dX12_stand_239 (pc2 := 242) rfl (fun r48 s47 => ?_) hop
        refine x_aload_n dX12_stand_242 x_vR rfl (pc2 := 243) rfl ?_
        refine x_iload_n dX12_stand_243 rfl (pc2 := 244) rfl ?_
        refine x_oo (ci := 12) (fun hk51 => ?_)
        refine x_callVI (As := [.int x3]) C2_X12_behind xm_X12_behind (fun h => by first | rfl | cases h) xl_X12_71 hk51 rfl rfl ⟨by decide, by decide⟩ (Nat.le_trans (x_sm rfl x_s0) (by decide)) dX12_stand_244 (pc2 := 247) rfl (fun r50 s49 => ?_) hop
        refine x_callSI (As := [.int r50]) C2_J6_bitCount_0f7a4 xm_J6_bitCount_0f7a4 xl_X12_75 rfl rfl ⟨by decide, by decide⟩ (Nat.le_trans (x_sm rfl x_s0) (by decide)) dX12_stand_247 (pc2 := 250) rfl (fun r53 s52 => ?_) hop
        refine x_icmp_lt dX12_stand_250 (pc1 := 256) (pc2 := 253) rfl rfl (fun _ => ?_) (fun _ => ?_)
        · refine x_iinc dX12_stand_256 rfl (q_ii ic_1) (by decide) (L2 := [some (x_v w x0), none, none, some (.int x3), some (.int x4), some (.int (x5 + 1))]) rfl (pc2 := 259) rfl ?_
          refine x_goto dX12_stand_259 (pc2 := 218) rfl ?_
          exact ih _ _ _
        · refine x_iconst dX12_stand_253 ic_0 (pc2 := 254) rfl ?_
          refine x_istore dX12_stand_254 (by decide) (L2 := [some (x_v w x0), none, none, some (.int x3), some (.int 0), some (.int x5)]) rfl (pc2 := 256) rfl ?_
          refine x_iinc dX12_stand_256 rfl (q_ii ic_1) (by decide) (L2 := [some (x_v w x0), none, none, some (.int x3), some (.int 0), some (.int (x5 + 1))]) rfl (pc2 := 259) rfl ?_
          refine x_goto dX12_stand_259 (pc2 := 218) rfl ?_
          exact ih _ _ _
    · refine x_Gmask [true, true, true, true, true, false] (L2 := [some (x_v w x0), none, none, some (.int x3), some (.int x4), none]) rfl ?_
      exact hk262 _ _
set_option maxRecDepth 100000 in
set_option maxHeartbeats 4000000 in
theorem T_X12_stand_L192 {w : q_Wd} {cx : q_Cx} {M0 : Nat} (hop : w.2.2.2.2.2.1 = none) {n : Nat} {x0 : Nat}   :
    ∀ (j : Nat) (x3 : Int32) (s0 : x_U), x_G w cx RX12 "stand" cX12_stand 6 (none) 3 69 M0 x_aV 192 [some (x_v w x0), none, none, some (.int x3), none, none] [] s0 (F_X12_stand_L192 n x0 j x3 s0) := by
  intro j
  induction j with
  | zero =>
    intro _ _
    rw [F_X12_stand_L192]
    exact x_none
  | succ j ih =>
    intro x3 s0
    rw [F_X12_stand_L192]
    refine x_iload_n dX12_stand_192 rfl (pc2 := 193) rfl ?_
    refine x_aload_n dX12_stand_193 x_vR rfl (pc2 := 194) rfl ?_
    refine x_getI xf_X12_53 (by decide) rfl dX12_stand_194 (pc2 := 197) rfl (fun v39 => ?_)
    refine x_icmp_ge dX12_stand_197 (pc1 := 200) (pc2 := 278) rfl rfl (fun _ => ?_) (fun _ => ?_)
    · refine x_aload_n dX12_stand_200 x_vR rfl (pc2 := 201) rfl ?_
      refine x_iload_n dX12_stand_201 rfl (pc2 := 202) rfl ?_
      refine x_oo (ci := 12) (fun hk42 => ?_)
      refine x_callVI (As := [.int x3]) C2_X12_behind xm_X12_behind (fun h => by first | rfl | cases h) xl_X12_71 hk42 rfl rfl ⟨by decide, by decide⟩ (Nat.le_trans x_s0 (by decide)) dX12_stand_202 (pc2 := 205) rfl (fun r41 s40 => ?_) hop
      refine x_if_eq dX12_stand_205 (pc1 := 212) (pc2 := 208) rfl rfl (fun _ => ?_) (fun _ => ?_)
      · refine x_iconst dX12_stand_212 ic_0 (pc2 := 213) rfl ?_
        refine x_istore dX12_stand_213 (by decide) (L2 := [some (x_v w x0), none, none, some (.int x3), some (.int 0), none]) rfl (pc2 := 215) rfl ?_
        refine x_iconst dX12_stand_215 ic_0 (pc2 := 216) rfl ?_
        refine x_istore dX12_stand_216 (by decide) (L2 := [some (x_v w x0), none, none, some (.int x3), some (.int 0), some (.int 0)]) rfl (pc2 := 218) rfl ?_
        refine T_X12_stand_L218 hop (fun y54 s55 => ?_) n _ _ _
        refine x_iload dX12_stand_262 rfl (pc2 := 264) rfl ?_
        refine x_if_eq dX12_stand_264 (pc1 := 272) (pc2 := 267) rfl rfl (fun _ => ?_) (fun _ => ?_)
        · refine x_iinc dX12_stand_272 rfl (q_ii ic_1) (by decide) (L2 := [some (x_v w x0), none, none, some (.int (x3 + 1)), some (.int y54), none]) rfl (pc2 := 275) rfl ?_
          refine x_goto dX12_stand_275 (pc2 := 192) rfl ?_
          refine x_Gmask [true, true, true, true, false, true] (L2 := [some (x_v w x0), none, none, some (.int (x3 + 1)), none, none]) rfl ?_
          exact ih _ _
        · refine x_aload_n dX12_stand_267 x_vR rfl (pc2 := 268) rfl ?_
          refine x_iload_n dX12_stand_268 rfl (pc2 := 269) rfl ?_
          refine x_putI (Or.inl xf_X12_7) (Or.inl rfl) rfl rfl rfl dX12_stand_269 (pc2 := 272) rfl (fun s56 => ?_)
          refine x_iinc dX12_stand_272 rfl (q_ii ic_1) (by decide) (L2 := [some (x_v w x0), none, none, some (.int (x3 + 1)), some (.int y54), none]) rfl (pc2 := 275) rfl ?_
          refine x_goto dX12_stand_275 (pc2 := 192) rfl ?_
          refine x_Gmask [true, true, true, true, false, true] (L2 := [some (x_v w x0), none, none, some (.int (x3 + 1)), none, none]) rfl ?_
          exact ih _ _
      · refine x_iconst dX12_stand_208 ic_1 (pc2 := 209) rfl ?_
        refine x_goto dX12_stand_209 (pc2 := 213) rfl ?_
        refine x_istore dX12_stand_213 (by decide) (L2 := [some (x_v w x0), none, none, some (.int x3), some (.int 1), none]) rfl (pc2 := 215) rfl ?_
        refine x_iconst dX12_stand_215 ic_0 (pc2 := 216) rfl ?_
        refine x_istore dX12_stand_216 (by decide) (L2 := [some (x_v w x0), none, none, some (.int x3), some (.int 1), some (.int 0)]) rfl (pc2 := 218) rfl ?_
        refine T_X12_stand_L218 hop (fun y68 s69 => ?_) n _ _ _
        refine x_iload dX12_stand_262 rfl (pc2 := 264) rfl ?_
        refine x_if_eq dX12_stand_264 (pc1 := 272) (pc2 := 267) rfl rfl (fun _ => ?_) (fun _ => ?_)
        · refine x_iinc dX12_stand_272 rfl (q_ii ic_1) (by decide) (L2 := [some (x_v w x0), none, none, some (.int (x3 + 1)), some (.int y68), none]) rfl (pc2 := 275) rfl ?_
          refine x_goto dX12_stand_275 (pc2 := 192) rfl ?_
          refine x_Gmask [true, true, true, true, false, true] (L2 := [some (x_v w x0), none, none, some (.int (x3 + 1)), none, none]) rfl ?_
          exact ih _ _
        · refine x_aload_n dX12_stand_267 x_vR rfl (pc2 := 268) rfl ?_
          refine x_iload_n dX12_stand_268 rfl (pc2 := 269) rfl ?_
          refine x_putI (Or.inl xf_X12_7) (Or.inl rfl) rfl rfl rfl dX12_stand_269 (pc2 := 272) rfl (fun s70 => ?_)
          refine x_iinc dX12_stand_272 rfl (q_ii ic_1) (by decide) (L2 := [some (x_v w x0), none, none, some (.int (x3 + 1)), some (.int y68), none]) rfl (pc2 := 275) rfl ?_
          refine x_goto dX12_stand_275 (pc2 := 192) rfl ?_
          refine x_Gmask [true, true, true, true, false, true] (L2 := [some (x_v w x0), none, none, some (.int (x3 + 1)), none, none]) rfl ?_
          exact ih _ _
    · exact x_vret dX12_stand_278
set_option maxRecDepth 100000 in
set_option maxHeartbeats 4000000 in
theorem C2_X12_stand {l : Launch} {w : q_Wd} {n : Nat} {t : Nat} {a0 : Int32} {s0 : x_U} : x_C l w yX12_stand cX12_stand 6 (none) 3 69 [x_v w t, .int a0] x_aV s0 (F_X12_stand n t a0 s0) := x_CofG [some (x_v w t), some (.int a0), none, none, none, none] (by decide +kernel) rfl (x_ca x_vcat (x_ca rfl x_c0)) (Nat.le_of_ble_eq_true rfl) fun hop cx hl => by
  subst hl
  show x_G w cx RX12 "stand" cX12_stand 6 (none) 3 69 (x_m s0) x_aV 0 [some (x_v w t), some (.int a0), none, none, none, none] [] s0 _
  rw [F_X12_stand]
  refine x_iconst dX12_stand_0 ic_0 (pc2 := 1) rfl ?_
  refine x_istore_n dX12_stand_1 (by decide) (L2 := [some (x_v w t), some (.int a0), some (.int 0), none, none, none]) rfl (pc2 := 2) rfl ?_
  refine T_X12_stand_L2 hop (fun s5 => ?_) n _ _
  refine x_aload_n dX12_stand_25 x_vR rfl (pc2 := 26) rfl ?_
  refine x_iconst dX12_stand_26 ic_0 (pc2 := 27) rfl ?_
  refine x_putI (Or.inl xf_X12_86) (Or.inl rfl) rfl rfl rfl dX12_stand_27 (pc2 := 30) rfl (fun s6 => ?_)
  refine x_iconst dX12_stand_30 ic_1 (pc2 := 31) rfl ?_
  refine x_istore_n dX12_stand_31 (by decide) (L2 := [some (x_v w t), some (.int a0), some (.int 1), none, none, none]) rfl (pc2 := 32) rfl ?_
  refine T_X12_stand_L32 hop (fun s37 => ?_) n _ _
  refine x_aload_n dX12_stand_185 x_vR rfl (pc2 := 186) rfl ?_
  refine x_iconst dX12_stand_186 ic_m1 (pc2 := 187) rfl ?_
  refine x_putI (Or.inl xf_X12_7) (Or.inl rfl) rfl rfl rfl dX12_stand_187 (pc2 := 190) rfl (fun s38 => ?_)
  refine x_iconst dX12_stand_190 ic_0 (pc2 := 191) rfl ?_
  refine x_istore_n dX12_stand_191 (by decide) (L2 := [some (x_v w t), none, none, some (.int 0), none, none]) rfl (pc2 := 192) rfl ?_
  refine T_X12_stand_L192 hop  n _ _
set_option maxRecDepth 100000 in
set_option maxHeartbeats 4000000 in
def F_X12_votes (n : Nat) (t : Nat) (a0 : Int32) (s0 : x_U) : Option (Int32 × x_U) :=
  x_o s0 t 12 <|
  x_call (F_X12_stand n t (-1) s0) fun r2 s1 =>
  x_gi s1 t 12 3 fun v4 =>
  x_nm (fun  (s5 : x_U) =>
    x_gi s5 t 12 3 fun v6 =>
    x_gi s5 t 12 3 fun v7 =>
    if v7 < 0 then (
    x_o s5 t 12 <|
    x_call (F_X12_notes n t 0 v6 0 a0 s5) fun r9 s8 =>
    some (0, s8))
    else (
    x_gi s5 t 12 3 fun v11 =>
    x_o s5 t 12 <|
    x_call (F_X12_behind n t v11 s5) fun r13 s12 =>
    x_call (F_J6_bitCount_0f7a4 n r13 s12) fun r16 s15 =>
    x_o s15 t 12 <|
    x_call (F_X12_notes n t 0 v6 r16 a0 s15) fun r18 s17 =>
    some (0, s17))) fun j22 =>
  if v4 < 0 then (
  x_gi s1 t 12 4 fun v20 =>
  x_pi s1 t 12 4 (v20 + 1) fun s21 =>
  j22 s21)
  else (
  j22 s1)
set_option maxRecDepth 100000 in
set_option maxHeartbeats 4000000 in
theorem C2_X12_votes {l : Launch} {w : q_Wd} {n : Nat} {t : Nat} {a0 : Int32} {s0 : x_U} : x_C l w yX12_votes cX12_votes 2 (none) 4 94 [x_v w t, .int a0] x_aV s0 (F_X12_votes n t a0 s0) := x_CofG [some (x_v w t), some (.int a0)] (by decide +kernel) rfl (x_ca x_vcat (x_ca rfl x_c0)) (Nat.le_of_ble_eq_true rfl) fun hop cx hl => by
  subst hl
  show x_G w cx RX12 "votes" cX12_votes 2 (none) 4 94 (x_m s0) x_aV 0 [some (x_v w t), some (.int a0)] [] s0 _
  rw [F_X12_votes]
  refine x_aload_n dX12_votes_0 x_vR rfl (pc2 := 1) rfl ?_
  refine x_iconst dX12_votes_1 ic_m1 (pc2 := 2) rfl ?_
  refine x_oo (ci := 12) (fun hk3 => ?_)
  refine x_callVV (As := [.int (-1)]) C2_X12_stand xm_X12_stand (fun h => by first | rfl | cases h) xl_X12_96 hk3 rfl rfl ⟨by decide, by decide⟩ (Nat.le_trans x_s0 (by decide)) dX12_votes_2 (pc2 := 5) rfl (fun r2 s1 => ?_) hop
  refine x_aload_n dX12_votes_5 x_vR rfl (pc2 := 6) rfl ?_
  refine x_getI xf_X12_7 (by decide) rfl dX12_votes_6 (pc2 := 9) rfl (fun v4 => ?_)
  refine x_jn (P := fun j22 => ∀  (s5 : x_U), x_G w cx RX12 "votes" cX12_votes 2 (none) 4 94 (x_m s0) x_aV 22 [some (x_v w t), some (.int a0)] [] s5 (j22 s5)) (fun s5 => ?_) (fun j22 hj22 => ?_)
  · refine x_aload_n dX12_votes_22 x_vR rfl (pc2 := 23) rfl ?_
    refine x_iconst dX12_votes_23 ic_0 (pc2 := 24) rfl ?_
    refine x_aload_n dX12_votes_24 x_vR rfl (pc2 := 25) rfl ?_
    refine x_getI xf_X12_7 (by decide) rfl dX12_votes_25 (pc2 := 28) rfl (fun v6 => ?_)
    refine x_aload_n dX12_votes_28 x_vR rfl (pc2 := 29) rfl ?_
    refine x_getI xf_X12_7 (by decide) rfl dX12_votes_29 (pc2 := 32) rfl (fun v7 => ?_)
    refine x_if_ge dX12_votes_32 (pc1 := 35) (pc2 := 39) rfl rfl (fun _ => ?_) (fun _ => ?_)
    · refine x_iconst dX12_votes_35 ic_0 (pc2 := 36) rfl ?_
      refine x_goto dX12_votes_36 (pc2 := 50) rfl ?_
      refine x_iload_n dX12_votes_50 rfl (pc2 := 51) rfl ?_
      refine x_oo (ci := 12) (fun hk10 => ?_)
      refine x_callVV (As := [.int 0, .int v6, .int 0, .int a0]) C2_X12_notes xm_X12_notes (fun h => by first | rfl | cases h) xl_X12_100 hk10 rfl rfl ⟨by decide, by decide⟩ (Nat.le_trans x_s0 (by decide)) dX12_votes_51 (pc2 := 54) rfl (fun r9 s8 => ?_) hop
      exact x_vret dX12_votes_54
    · refine x_aload_n dX12_votes_39 x_vR rfl (pc2 := 40) rfl ?_
      refine x_aload_n dX12_votes_40 x_vR rfl (pc2 := 41) rfl ?_
      refine x_getI xf_X12_7 (by decide) rfl dX12_votes_41 (pc2 := 44) rfl (fun v11 => ?_)
      refine x_oo (ci := 12) (fun hk14 => ?_)
      refine x_callVI (As := [.int v11]) C2_X12_behind xm_X12_behind (fun h => by first | rfl | cases h) xl_X12_71 hk14 rfl rfl ⟨by decide, by decide⟩ (Nat.le_trans (x_sm rfl (x_sm rfl (x_sm x_vcat x_s0))) (by decide)) dX12_votes_44 (pc2 := 47) rfl (fun r13 s12 => ?_) hop
      refine x_callSI (As := [.int r13]) C2_J6_bitCount_0f7a4 xm_J6_bitCount_0f7a4 xl_X12_75 rfl rfl ⟨by decide, by decide⟩ (Nat.le_trans (x_sm rfl (x_sm rfl (x_sm x_vcat x_s0))) (by decide)) dX12_votes_47 (pc2 := 50) rfl (fun r16 s15 => ?_) hop
      refine x_iload_n dX12_votes_50 rfl (pc2 := 51) rfl ?_
      refine x_oo (ci := 12) (fun hk19 => ?_)
      refine x_callVV (As := [.int 0, .int v6, .int r16, .int a0]) C2_X12_notes xm_X12_notes (fun h => by first | rfl | cases h) xl_X12_100 hk19 rfl rfl ⟨by decide, by decide⟩ (Nat.le_trans x_s0 (by decide)) dX12_votes_51 (pc2 := 54) rfl (fun r18 s17 => ?_) hop
      exact x_vret dX12_votes_54
  · refine x_if_ge dX12_votes_9 (pc1 := 12) (pc2 := 22) rfl rfl (fun _ => ?_) (fun _ => ?_)
    · refine x_aload_n dX12_votes_12 x_vR rfl (pc2 := 13) rfl ?_
      refine x_dup dX12_votes_13 x_vcat (pc2 := 14) rfl ?_
      refine x_getI xf_X12_41 (by decide) rfl dX12_votes_14 (pc2 := 17) rfl (fun v20 => ?_)
      refine x_iconst dX12_votes_17 ic_1 (pc2 := 18) rfl ?_
      refine x_iadd dX12_votes_18 (pc2 := 19) rfl ?_
      refine x_putI (Or.inl xf_X12_41) (Or.inl rfl) rfl rfl rfl dX12_votes_19 (pc2 := 22) rfl (fun s21 => ?_)
      exact hj22 _
    · exact hj22 _
set_option maxRecDepth 100000 in
set_option maxHeartbeats 4000000 in
def F_X12_path_L12 (n : Nat) (x1 : Int32) (x2 : Int32) (x3 : Nat) (x4 : Int32) : Nat → Int32 → x_U → Option (Int32 × x_U)
  | 0, _, _ => none
  | j + 1, x5, s0 =>
    if x5 < x4 then (
    x_lr s0 x3 x5 fun o3 =>
    x_ld s0 o3 0 fun v4 =>
    if v4 = x1 then (
    x_ld s0 o3 1 fun v5 =>
    if v5 = x2 then (
    x_ld s0 o3 2 fun v6 =>
    some (v6, s0))
    else (
    F_X12_path_L12 n x1 x2 x3 x4 j (x5 + 1) s0))
    else (
    F_X12_path_L12 n x1 x2 x3 x4 j (x5 + 1) s0))
    else (
    some ((-1), s0))
set_option maxRecDepth 100000 in
set_option maxHeartbeats 4000000 in
def F_X12_path (n : Nat) (t : Nat) (a0 : Int32) (a1 : Int32) (s0 : x_U) : Option (Int32 × x_U) :=
  x_gr s0 t 12 15 fun o1 =>
  x_len s0 o1 fun v2 =>
  F_X12_path_L12 n a0 a1 o1 v2  n 0 s0
set_option maxRecDepth 100000 in
set_option maxHeartbeats 4000000 in
theorem T_X12_path_L12 {w : q_Wd} {cx : q_Cx} {M0 : Nat} (hop : w.2.2.2.2.2.1 = none) {n : Nat} {x1 : Int32} {x2 : Int32} {x3 : Nat} {x4 : Int32}   :
    ∀ (j : Nat) (x5 : Int32) (s0 : x_U), x_G w cx RX12 "path" cX12_path 7 (some .int) 0 0 M0 x_aI 12 [none, some (.int x1), some (.int x2), some (x_v w x3), some (.int x4), some (.int x5), none] [] s0 (F_X12_path_L12 n x1 x2 x3 x4 j x5 s0) := by
  intro j
  induction j with
  | zero =>
    intro _ _
    rw [F_X12_path_L12]
    exact x_none
  | succ j ih =>
    intro x5 s0
    rw [F_X12_path_L12]
    refine x_iload dX12_path_12 rfl (pc2 := 14) rfl ?_
    refine x_iload dX12_path_14 rfl (pc2 := 16) rfl ?_
    refine x_icmp_ge dX12_path_16 (pc1 := 19) (pc2 := 52) rfl rfl (fun _ => ?_) (fun _ => ?_)
    · refine x_aload_n dX12_path_19 x_vR rfl (pc2 := 20) rfl ?_
      refine x_iload dX12_path_20 rfl (pc2 := 22) rfl ?_
      refine x_aald dX12_path_22 (pc2 := 23) rfl (fun o3 => ?_)
      refine x_astore x_vR dX12_path_23 (by decide) (L2 := [none, some (.int x1), some (.int x2), some (x_v w x3), some (.int x4), some (.int x5), some (x_v w o3)]) rfl (pc2 := 25) rfl ?_
      refine x_aload dX12_path_25 x_vR rfl (pc2 := 27) rfl ?_
      refine x_iconst dX12_path_27 ic_0 (pc2 := 28) rfl ?_
      refine x_iald dX12_path_28 (pc2 := 29) rfl (fun v4 => ?_)
      refine x_iload_n dX12_path_29 rfl (pc2 := 30) rfl ?_
      refine x_icmp_ne dX12_path_30 (pc1 := 33) (pc2 := 46) rfl rfl (fun _ => ?_) (fun _ => ?_)
      · refine x_aload dX12_path_33 x_vR rfl (pc2 := 35) rfl ?_
        refine x_iconst dX12_path_35 ic_1 (pc2 := 36) rfl ?_
        refine x_iald dX12_path_36 (pc2 := 37) rfl (fun v5 => ?_)
        refine x_iload_n dX12_path_37 rfl (pc2 := 38) rfl ?_
        refine x_icmp_ne dX12_path_38 (pc1 := 41) (pc2 := 46) rfl rfl (fun _ => ?_) (fun _ => ?_)
        · refine x_aload dX12_path_41 x_vR rfl (pc2 := 43) rfl ?_
          refine x_iconst dX12_path_43 ic_2 (pc2 := 44) rfl ?_
          refine x_iald dX12_path_44 (pc2 := 45) rfl (fun v6 => ?_)
          exact x_iret dX12_path_45
        · refine x_iinc dX12_path_46 rfl (q_ii ic_1) (by decide) (L2 := [none, some (.int x1), some (.int x2), some (x_v w x3), some (.int x4), some (.int (x5 + 1)), some (x_v w o3)]) rfl (pc2 := 49) rfl ?_
          refine x_goto dX12_path_49 (pc2 := 12) rfl ?_
          refine x_Gmask [true, true, true, true, true, true, false] (L2 := [none, some (.int x1), some (.int x2), some (x_v w x3), some (.int x4), some (.int (x5 + 1)), none]) rfl ?_
          exact ih _ _
      · refine x_iinc dX12_path_46 rfl (q_ii ic_1) (by decide) (L2 := [none, some (.int x1), some (.int x2), some (x_v w x3), some (.int x4), some (.int (x5 + 1)), some (x_v w o3)]) rfl (pc2 := 49) rfl ?_
        refine x_goto dX12_path_49 (pc2 := 12) rfl ?_
        refine x_Gmask [true, true, true, true, true, true, false] (L2 := [none, some (.int x1), some (.int x2), some (x_v w x3), some (.int x4), some (.int (x5 + 1)), none]) rfl ?_
        exact ih _ _
    · refine x_iconst dX12_path_52 ic_m1 (pc2 := 53) rfl ?_
      exact x_iret dX12_path_53
set_option maxRecDepth 100000 in
set_option maxHeartbeats 4000000 in
theorem C2_X12_path {l : Launch} {w : q_Wd} {n : Nat} {t : Nat} {a0 : Int32} {a1 : Int32} {s0 : x_U} : x_C l w yX12_path cX12_path 7 (some .int) 0 0 [x_v w t, .int a0, .int a1] x_aI s0 (F_X12_path n t a0 a1 s0) := x_CofG [some (x_v w t), some (.int a0), some (.int a1), none, none, none, none] (by decide +kernel) rfl (x_ca x_vcat (x_ca rfl (x_ca rfl x_c0))) (Nat.le_of_ble_eq_true rfl) fun hop cx hl => by
  subst hl
  show x_G w cx RX12 "path" cX12_path 7 (some .int) 0 0 (x_m s0) x_aI 0 [some (x_v w t), some (.int a0), some (.int a1), none, none, none, none] [] s0 _
  rw [F_X12_path]
  refine x_aload_n dX12_path_0 x_vR rfl (pc2 := 1) rfl ?_
  refine x_getR xf_X12_25 (by decide) rfl dX12_path_1 (pc2 := 4) rfl (fun o1 => ?_)
  refine x_astore_n x_vR dX12_path_4 (by decide) (L2 := [some (x_v w t), some (.int a0), some (.int a1), some (x_v w o1), none, none, none]) rfl (pc2 := 5) rfl ?_
  refine x_aload_n dX12_path_5 x_vR rfl (pc2 := 6) rfl ?_
  refine x_alen dX12_path_6 (pc2 := 7) rfl (fun v2 => ?_)
  refine x_istore dX12_path_7 (by decide) (L2 := [some (x_v w t), some (.int a0), some (.int a1), some (x_v w o1), some (.int v2), none, none]) rfl (pc2 := 9) rfl ?_
  refine x_iconst dX12_path_9 ic_0 (pc2 := 10) rfl ?_
  refine x_istore dX12_path_10 (by decide) (L2 := [some (x_v w t), some (.int a0), some (.int a1), some (x_v w o1), some (.int v2), some (.int 0), none]) rfl (pc2 := 12) rfl ?_
  refine x_Gmask [false, true, true, true, true, true, true] (L2 := [none, some (.int a0), some (.int a1), some (x_v w o1), some (.int v2), some (.int 0), none]) rfl ?_
  refine T_X12_path_L12 hop  n _ _
set_option maxRecDepth 100000 in
set_option maxHeartbeats 4000000 in
def F_X12_draw (n : Nat) (t : Nat) (a0 : Int32) (s0 : x_U) : Option (Int32 × x_U) :=
  x_gi s0 t 12 0 fun v1 =>
  x_pi s0 t 12 0 ((1664525 * v1) + 1013904223) fun s2 =>
  x_gi s2 t 12 0 fun v3 =>
  x_rem (q_ushr v3 8) a0 fun v4 =>
  some (v4, s2)
set_option maxRecDepth 100000 in
set_option maxHeartbeats 4000000 in
theorem C2_X12_draw {l : Launch} {w : q_Wd} {n : Nat} {t : Nat} {a0 : Int32} {s0 : x_U} : x_C l w yX12_draw cX12_draw 2 (some .int) 0 0 [x_v w t, .int a0] x_aI s0 (F_X12_draw n t a0 s0) := x_CofG [some (x_v w t), some (.int a0)] (by decide +kernel) rfl (x_ca x_vcat (x_ca rfl x_c0)) (Nat.le_of_ble_eq_true rfl) fun hop cx hl => by
  subst hl
  show x_G w cx RX12 "draw" cX12_draw 2 (some .int) 0 0 (x_m s0) x_aI 0 [some (x_v w t), some (.int a0)] [] s0 _
  rw [F_X12_draw]
  refine x_aload_n dX12_draw_0 x_vR rfl (pc2 := 1) rfl ?_
  refine x_ldc dX12_draw_1 cn_X12_69 (pc2 := 3) rfl ?_
  refine x_aload_n dX12_draw_3 x_vR rfl (pc2 := 4) rfl ?_
  refine x_getI xf_X12_32 (by decide) rfl dX12_draw_4 (pc2 := 7) rfl (fun v1 => ?_)
  refine x_imul dX12_draw_7 (pc2 := 8) rfl ?_
  refine x_ldc dX12_draw_8 cn_X12_70 (pc2 := 10) rfl ?_
  refine x_iadd dX12_draw_10 (pc2 := 11) rfl ?_
  refine x_putI (Or.inl xf_X12_32) (Or.inl rfl) rfl rfl rfl dX12_draw_11 (pc2 := 14) rfl (fun s2 => ?_)
  refine x_aload_n dX12_draw_14 x_vR rfl (pc2 := 15) rfl ?_
  refine x_getI xf_X12_32 (by decide) rfl dX12_draw_15 (pc2 := 18) rfl (fun v3 => ?_)
  refine x_bipush dX12_draw_18 bp_8 (pc2 := 20) rfl ?_
  refine x_iushr dX12_draw_20 (pc2 := 21) rfl ?_
  refine x_iload_n dX12_draw_21 rfl (pc2 := 22) rfl ?_
  refine x_irem dX12_draw_22 (pc2 := 23) rfl (fun v4 => ?_)
  exact x_iret dX12_draw_23
set_option maxRecDepth 100000 in
set_option maxHeartbeats 4000000 in
def F_X12_goes_L47 (n : Nat) (x0 : Nat) (x1 : Int32) (x2 : Int32) (x3 : Int32) (k139 : Int32 → x_U → Option (Int32 × x_U)) : Nat → Int32 → Int32 → x_U → Option (Int32 × x_U)
  | 0, _, _, _ => none
  | j + 1, x4, x5, s0 =>
    x_gi s0 x0 12 7 fun v11 =>
    if x5 < v11 then (
    if x2 = 0 then (
    k139 x4 s0)
    else (
    x_gr s0 x0 12 12 fun o12 =>
    x_lr s0 o12 x5 fun o13 =>
    x_ld s0 o13 2 fun v14 =>
    if v14 = 1 then (
    F_X12_goes_L47 n x0 x1 x2 x3 k139 j x4 (x5 + 1) s0)
    else (
    x_gi s0 x0 12 3 fun v15 =>
    x_o s0 x0 12 <|
    x_call (F_X12_risk n x0 x5 x3 v15 s0) fun r17 s16 =>
    if r17 = 0 then (
    F_X12_goes_L47 n x0 x1 x2 x3 k139 j x4 (x5 + 1) s16)
    else (
    x_o s16 x0 12 <|
    x_call (F_X12_draw n x0 1000 s16) fun r20 s19 =>
    x_gi s19 x0 12 3 fun v22 =>
    x_o s19 x0 12 <|
    x_call (F_X12_risk n x0 x5 x3 v22 s19) fun r24 s23 =>
    if r20 < r24 then (
    x_gr s23 x0 12 12 fun o26 =>
    x_lr s23 o26 x5 fun o27 =>
    x_st s23 o27 2 1 fun s28 =>
    x_o s28 x0 12 <|
    x_call (F_X12_notes n x0 5 x5 0 1 s28) fun r30 s29 =>
    F_X12_goes_L47 n x0 x1 x2 x3 k139 j (x4 + 1) (x5 + 1) s29)
    else (
    F_X12_goes_L47 n x0 x1 x2 x3 k139 j x4 (x5 + 1) s23)))))
    else (
    k139 x4 s0)
set_option maxRecDepth 100000 in
set_option maxHeartbeats 4000000 in
def F_X12_goes (n : Nat) (t : Nat) (a0 : Int32) (a1 : Int32) (s0 : x_U) : Option (Int32 × x_U) :=
  x_gi s0 t 12 2 fun v1 =>
  x_o s0 t 12 <|
  x_call (F_X12_path n t v1 a0 s0) fun r3 s2 =>
  x_gi s2 t 12 3 fun v5 =>
  if v5 < 0 then (
  some ((-1), s2))
  else (
  if r3 < 0 then (
  some ((-1), s2))
  else (
  x_gi s2 t 12 5 fun v6 =>
  x_pi s2 t 12 5 (v6 + r3) fun s7 =>
  x_o s7 t 12 <|
  x_call (F_X12_notes n t 4 a0 r3 a1 s7) fun r9 s8 =>
  F_X12_goes_L47 n t a0 a1 r3 (fun (y32 : Int32) (s33 : x_U) =>
  x_pi s33 t 12 2 a0 fun s34 =>
  some (y32, s34)) n 0 0 s8))
set_option maxRecDepth 100000 in
set_option maxHeartbeats 4000000 in
theorem T_X12_goes_L47 {w : q_Wd} {cx : q_Cx} {M0 : Nat} (hop : w.2.2.2.2.2.1 = none) {n : Nat} {x0 : Nat} {x1 : Int32} {x2 : Int32} {x3 : Int32} {k139 : Int32 → x_U → Option (Int32 × x_U)} (hk139 : ∀ (y4 : Int32) (s1 : x_U), x_G w cx RX12 "goes" cX12_goes 6 (some .int) 3 67 M0 x_aI 139 [some (x_v w x0), some (.int x1), none, none, some (.int y4), none] [] s1 (k139 y4 s1)) :
    ∀ (j : Nat) (x4 : Int32) (x5 : Int32) (s0 : x_U), x_G w cx RX12 "goes" cX12_goes 6 (some .int) 3 67 M0 x_aI 47 [some (x_v w x0), some (.int x1), some (.int x2), some (.int x3), some (.int x4), some (.int x5)] [] s0 (F_X12_goes_L47 n x0 x1 x2 x3 k139 j x4 x5 s0) := by
  intro j
  induction j with
  | zero =>
    intro _ _ _
    rw [F_X12_goes_L47]
    exact x_none
  | succ j ih =>
    intro x4 x5 s0
    rw [F_X12_goes_L47]
    refine x_iload dX12_goes_47 rfl (pc2 := 49) rfl ?_
    refine x_aload_n dX12_goes_49 x_vR rfl (pc2 := 50) rfl ?_
    refine x_getI xf_X12_50 (by decide) rfl dX12_goes_50 (pc2 := 53) rfl (fun v11 => ?_)
    refine x_icmp_ge dX12_goes_53 (pc1 := 56) (pc2 := 139) rfl rfl (fun _ => ?_) (fun _ => ?_)
    · refine x_iload_n dX12_goes_56 rfl (pc2 := 57) rfl ?_
      refine x_if_eq dX12_goes_57 (pc1 := 139) (pc2 := 60) rfl rfl (fun _ => ?_) (fun _ => ?_)
      · refine x_Gmask [true, true, false, false, true, false] (L2 := [some (x_v w x0), some (.int x1), none, none, some (.int x4), none]) rfl ?_
        exact hk139 _ _
      · refine x_aload_n dX12_goes_60 x_vR rfl (pc2 := 61) rfl ?_
        refine x_getR xf_X12_15 (by decide) rfl dX12_goes_61 (pc2 := 64) rfl (fun o12 => ?_)
        refine x_iload dX12_goes_64 rfl (pc2 := 66) rfl ?_
        refine x_aald dX12_goes_66 (pc2 := 67) rfl (fun o13 => ?_)
        refine x_iconst dX12_goes_67 ic_2 (pc2 := 68) rfl ?_
        refine x_iald dX12_goes_68 (pc2 := 69) rfl (fun v14 => ?_)
        refine x_iconst dX12_goes_69 ic_1 (pc2 := 70) rfl ?_
        refine x_icmp_eq dX12_goes_70 (pc1 := 133) (pc2 := 73) rfl rfl (fun _ => ?_) (fun _ => ?_)
        · refine x_iinc dX12_goes_133 rfl (q_ii ic_1) (by decide) (L2 := [some (x_v w x0), some (.int x1), some (.int x2), some (.int x3), some (.int x4), some (.int (x5 + 1))]) rfl (pc2 := 136) rfl ?_
          refine x_goto dX12_goes_136 (pc2 := 47) rfl ?_
          exact ih _ _ _
        · refine x_aload_n dX12_goes_73 x_vR rfl (pc2 := 74) rfl ?_
          refine x_iload dX12_goes_74 rfl (pc2 := 76) rfl ?_
          refine x_iload_n dX12_goes_76 rfl (pc2 := 77) rfl ?_
          refine x_aload_n dX12_goes_77 x_vR rfl (pc2 := 78) rfl ?_
          refine x_getI xf_X12_7 (by decide) rfl dX12_goes_78 (pc2 := 81) rfl (fun v15 => ?_)
          refine x_oo (ci := 12) (fun hk18 => ?_)
          refine x_callVI (As := [.int x5, .int x3, .int v15]) C2_X12_risk xm_X12_risk (fun h => by first | rfl | cases h) xl_X12_118 hk18 rfl rfl ⟨by decide, by decide⟩ (Nat.le_trans x_s0 (by decide)) dX12_goes_81 (pc2 := 84) rfl (fun r17 s16 => ?_) hop
          refine x_if_eq dX12_goes_84 (pc1 := 133) (pc2 := 87) rfl rfl (fun _ => ?_) (fun _ => ?_)
          · refine x_iinc dX12_goes_133 rfl (q_ii ic_1) (by decide) (L2 := [some (x_v w x0), some (.int x1), some (.int x2), some (.int x3), some (.int x4), some (.int (x5 + 1))]) rfl (pc2 := 136) rfl ?_
            refine x_goto dX12_goes_136 (pc2 := 47) rfl ?_
            exact ih _ _ _
          · refine x_aload_n dX12_goes_87 x_vR rfl (pc2 := 88) rfl ?_
            refine x_sipush dX12_goes_88 sp_1000 (pc2 := 91) rfl ?_
            refine x_oo (ci := 12) (fun hk21 => ?_)
            refine x_callVI (As := [.int 1000]) C2_X12_draw xm_X12_draw (fun h => by first | rfl | cases h) xl_X12_121 hk21 rfl rfl ⟨by decide, by decide⟩ (Nat.le_trans x_s0 (by decide)) dX12_goes_91 (pc2 := 94) rfl (fun r20 s19 => ?_) hop
            refine x_aload_n dX12_goes_94 x_vR rfl (pc2 := 95) rfl ?_
            refine x_iload dX12_goes_95 rfl (pc2 := 97) rfl ?_
            refine x_iload_n dX12_goes_97 rfl (pc2 := 98) rfl ?_
            refine x_aload_n dX12_goes_98 x_vR rfl (pc2 := 99) rfl ?_
            refine x_getI xf_X12_7 (by decide) rfl dX12_goes_99 (pc2 := 102) rfl (fun v22 => ?_)
            refine x_oo (ci := 12) (fun hk25 => ?_)
            refine x_callVI (As := [.int x5, .int x3, .int v22]) C2_X12_risk xm_X12_risk (fun h => by first | rfl | cases h) xl_X12_118 hk25 rfl rfl ⟨by decide, by decide⟩ (Nat.le_trans (x_sm rfl x_s0) (by decide)) dX12_goes_102 (pc2 := 105) rfl (fun r24 s23 => ?_) hop
            refine x_icmp_lt dX12_goes_105 (pc1 := 111) (pc2 := 108) rfl rfl (fun _ => ?_) (fun _ => ?_)
            · refine x_aload_n dX12_goes_111 x_vR rfl (pc2 := 112) rfl ?_
              refine x_getR xf_X12_15 (by decide) rfl dX12_goes_112 (pc2 := 115) rfl (fun o26 => ?_)
              refine x_iload dX12_goes_115 rfl (pc2 := 117) rfl ?_
              refine x_aald dX12_goes_117 (pc2 := 118) rfl (fun o27 => ?_)
              refine x_iconst dX12_goes_118 ic_2 (pc2 := 119) rfl ?_
              refine x_iconst dX12_goes_119 ic_1 (pc2 := 120) rfl ?_
              refine x_iast dX12_goes_120 (pc2 := 121) rfl (fun s28 => ?_)
              refine x_aload_n dX12_goes_121 x_vR rfl (pc2 := 122) rfl ?_
              refine x_iconst dX12_goes_122 ic_5 (pc2 := 123) rfl ?_
              refine x_iload dX12_goes_123 rfl (pc2 := 125) rfl ?_
              refine x_iconst dX12_goes_125 ic_0 (pc2 := 126) rfl ?_
              refine x_iconst dX12_goes_126 ic_1 (pc2 := 127) rfl ?_
              refine x_oo (ci := 12) (fun hk31 => ?_)
              refine x_callVV (As := [.int 5, .int x5, .int 0, .int 1]) C2_X12_notes xm_X12_notes (fun h => by first | rfl | cases h) xl_X12_100 hk31 rfl rfl ⟨by decide, by decide⟩ (Nat.le_trans x_s0 (by decide)) dX12_goes_127 (pc2 := 130) rfl (fun r30 s29 => ?_) hop
              refine x_iinc dX12_goes_130 rfl (q_ii ic_1) (by decide) (L2 := [some (x_v w x0), some (.int x1), some (.int x2), some (.int x3), some (.int (x4 + 1)), some (.int x5)]) rfl (pc2 := 133) rfl ?_
              refine x_iinc dX12_goes_133 rfl (q_ii ic_1) (by decide) (L2 := [some (x_v w x0), some (.int x1), some (.int x2), some (.int x3), some (.int (x4 + 1)), some (.int (x5 + 1))]) rfl (pc2 := 136) rfl ?_
              refine x_goto dX12_goes_136 (pc2 := 47) rfl ?_
              exact ih _ _ _
            · refine x_goto dX12_goes_108 (pc2 := 133) rfl ?_
              refine x_iinc dX12_goes_133 rfl (q_ii ic_1) (by decide) (L2 := [some (x_v w x0), some (.int x1), some (.int x2), some (.int x3), some (.int x4), some (.int (x5 + 1))]) rfl (pc2 := 136) rfl ?_
              refine x_goto dX12_goes_136 (pc2 := 47) rfl ?_
              exact ih _ _ _
    · refine x_Gmask [true, true, false, false, true, false] (L2 := [some (x_v w x0), some (.int x1), none, none, some (.int x4), none]) rfl ?_
      exact hk139 _ _
set_option maxRecDepth 100000 in
set_option maxHeartbeats 4000000 in
theorem C2_X12_goes {l : Launch} {w : q_Wd} {n : Nat} {t : Nat} {a0 : Int32} {a1 : Int32} {s0 : x_U} : x_C l w yX12_goes cX12_goes 6 (some .int) 3 67 [x_v w t, .int a0, .int a1] x_aI s0 (F_X12_goes n t a0 a1 s0) := x_CofG [some (x_v w t), some (.int a0), some (.int a1), none, none, none] (by decide +kernel) rfl (x_ca x_vcat (x_ca rfl (x_ca rfl x_c0))) (Nat.le_of_ble_eq_true rfl) fun hop cx hl => by
  subst hl
  show x_G w cx RX12 "goes" cX12_goes 6 (some .int) 3 67 (x_m s0) x_aI 0 [some (x_v w t), some (.int a0), some (.int a1), none, none, none] [] s0 _
  rw [F_X12_goes]
  refine x_aload_n dX12_goes_0 x_vR rfl (pc2 := 1) rfl ?_
  refine x_aload_n dX12_goes_1 x_vR rfl (pc2 := 2) rfl ?_
  refine x_getI xf_X12_38 (by decide) rfl dX12_goes_2 (pc2 := 5) rfl (fun v1 => ?_)
  refine x_iload_n dX12_goes_5 rfl (pc2 := 6) rfl ?_
  refine x_oo (ci := 12) (fun hk4 => ?_)
  refine x_callVI (As := [.int v1, .int a0]) C2_X12_path xm_X12_path (fun h => by first | rfl | cases h) xl_X12_116 hk4 rfl rfl ⟨by decide, by decide⟩ (Nat.le_trans x_s0 (by decide)) dX12_goes_6 (pc2 := 9) rfl (fun r3 s2 => ?_) hop
  refine x_istore_n dX12_goes_9 (by decide) (L2 := [some (x_v w t), some (.int a0), some (.int a1), some (.int r3), none, none]) rfl (pc2 := 10) rfl ?_
  refine x_aload_n dX12_goes_10 x_vR rfl (pc2 := 11) rfl ?_
  refine x_getI xf_X12_7 (by decide) rfl dX12_goes_11 (pc2 := 14) rfl (fun v5 => ?_)
  refine x_if_lt dX12_goes_14 (pc1 := 21) (pc2 := 17) rfl rfl (fun _ => ?_) (fun _ => ?_)
  · refine x_iconst dX12_goes_21 ic_m1 (pc2 := 22) rfl ?_
    exact x_iret dX12_goes_22
  · refine x_iload_n dX12_goes_17 rfl (pc2 := 18) rfl ?_
    refine x_if_ge dX12_goes_18 (pc1 := 21) (pc2 := 23) rfl rfl (fun _ => ?_) (fun _ => ?_)
    · refine x_iconst dX12_goes_21 ic_m1 (pc2 := 22) rfl ?_
      exact x_iret dX12_goes_22
    · refine x_aload_n dX12_goes_23 x_vR rfl (pc2 := 24) rfl ?_
      refine x_dup dX12_goes_24 x_vcat (pc2 := 25) rfl ?_
      refine x_getI xf_X12_44 (by decide) rfl dX12_goes_25 (pc2 := 28) rfl (fun v6 => ?_)
      refine x_iload_n dX12_goes_28 rfl (pc2 := 29) rfl ?_
      refine x_iadd dX12_goes_29 (pc2 := 30) rfl ?_
      refine x_putI (Or.inl xf_X12_44) (Or.inl rfl) rfl rfl rfl dX12_goes_30 (pc2 := 33) rfl (fun s7 => ?_)
      refine x_aload_n dX12_goes_33 x_vR rfl (pc2 := 34) rfl ?_
      refine x_iconst dX12_goes_34 ic_4 (pc2 := 35) rfl ?_
      refine x_iload_n dX12_goes_35 rfl (pc2 := 36) rfl ?_
      refine x_iload_n dX12_goes_36 rfl (pc2 := 37) rfl ?_
      refine x_iload_n dX12_goes_37 rfl (pc2 := 38) rfl ?_
      refine x_oo (ci := 12) (fun hk10 => ?_)
      refine x_callVV (As := [.int 4, .int a0, .int r3, .int a1]) C2_X12_notes xm_X12_notes (fun h => by first | rfl | cases h) xl_X12_100 hk10 rfl rfl ⟨by decide, by decide⟩ (Nat.le_trans x_s0 (by decide)) dX12_goes_38 (pc2 := 41) rfl (fun r9 s8 => ?_) hop
      refine x_iconst dX12_goes_41 ic_0 (pc2 := 42) rfl ?_
      refine x_istore dX12_goes_42 (by decide) (L2 := [some (x_v w t), some (.int a0), some (.int a1), some (.int r3), some (.int 0), none]) rfl (pc2 := 44) rfl ?_
      refine x_iconst dX12_goes_44 ic_0 (pc2 := 45) rfl ?_
      refine x_istore dX12_goes_45 (by decide) (L2 := [some (x_v w t), some (.int a0), some (.int a1), some (.int r3), some (.int 0), some (.int 0)]) rfl (pc2 := 47) rfl ?_
      refine T_X12_goes_L47 hop (fun y32 s33 => ?_) n _ _ _
      refine x_aload_n dX12_goes_139 x_vR rfl (pc2 := 140) rfl ?_
      refine x_iload_n dX12_goes_140 rfl (pc2 := 141) rfl ?_
      refine x_putI (Or.inl xf_X12_38) (Or.inl rfl) rfl rfl rfl dX12_goes_141 (pc2 := 144) rfl (fun s34 => ?_)
      refine x_iload dX12_goes_144 rfl (pc2 := 146) rfl ?_
      exact x_iret dX12_goes_146
set_option maxRecDepth 100000 in
set_option maxHeartbeats 4000000 in
def F_X12_does_L101 (n : Nat) (x0 : Nat) (x1 : Int32) (x2 : Int32) (x3 : Int32) (x4 : Int32) (k135 : x_U → Option (Int32 × x_U)) : Nat → Int32 → x_U → Option (Int32 × x_U)
  | 0, _, _ => none
  | j + 1, x5, s0 =>
    x_gi s0 x0 12 8 fun v11 =>
    if x5 < v11 then (
    if x5 = x2 then (
    x_o s0 x0 12 <|
    x_call (F_X12_likes n x0 x3 x5 (-20) s0) fun r13 s12 =>
    F_X12_does_L101 n x0 x1 x2 x3 x4 k135 j (x5 + 1) s12)
    else (
    x_o s0 x0 12 <|
    x_call (F_X12_likes n x0 x3 x5 5 s0) fun r16 s15 =>
    F_X12_does_L101 n x0 x1 x2 x3 x4 k135 j (x5 + 1) s15))
    else (
    k135 s0)
set_option maxRecDepth 100000 in
set_option maxHeartbeats 4000000 in
def F_X12_does_L54 (n : Nat) (x0 : Nat) (x1 : Int32) (x2 : Int32) (x3 : Int32) (x4 : Int32) (k84 : x_U → Option (Int32 × x_U)) : Nat → Int32 → x_U → Option (Int32 × x_U)
  | 0, _, _ => none
  | j + 1, x5, s0 =>
    x_gi s0 x0 12 7 fun v22 =>
    if x5 < v22 then (
    x_gr s0 x0 12 13 fun o23 =>
    x_lr s0 o23 x2 fun o24 =>
    x_ld s0 o24 2 fun v25 =>
    x_o s0 x0 12 <|
    x_call (F_X12_likes n x0 x5 x2 v25 s0) fun r27 s26 =>
    F_X12_does_L54 n x0 x1 x2 x3 x4 k84 j (x5 + 1) s26)
    else (
    k84 s0)
set_option maxRecDepth 100000 in
set_option maxHeartbeats 4000000 in
def F_X12_does (n : Nat) (t : Nat) (a0 : Int32) (a1 : Int32) (a2 : Int32) (a3 : Int32) (s0 : x_U) : Option (Int32 × x_U) :=
  x_nm (fun  (s1 : x_U) =>
    x_nm (fun  (s2 : x_U) =>
      x_nm (fun  (s3 : x_U) =>
        x_nm (fun  (s4 : x_U) =>
          if a0 < 4 then (
          some (1, s4))
          else (
          x_o s4 t 12 <|
          x_call (F_X12_goes n t a1 a3 s4) fun r6 s5 =>
          if r6 < 0 then (
          some (0, s5))
          else (
          some (1, s5)))) fun j155 =>
        if a0 = 3 then (
        x_o s3 t 12 <|
        x_call (F_X12_votes n t a3 s3) fun r9 s8 =>
        j155 s8)
        else (
        j155 s3)) fun j144 =>
      if a0 = 2 then (
      F_X12_does_L101 n t a0 a1 a2 a3 (fun  (s18 : x_U) =>
      x_o s18 t 12 <|
      x_call (F_X12_notes n t 3 a1 a2 a3 s18) fun r20 s19 =>
      j144 s19) n 0 s2)
      else (
      j144 s2)) fun j93 =>
    if a0 = 1 then (
    F_X12_does_L54 n t a0 a1 a2 a3 (fun  (s29 : x_U) =>
    x_o s29 t 12 <|
    x_call (F_X12_notes n t 2 a1 0 a3 s29) fun r31 s30 =>
    j93 s30) n 0 s1)
    else (
    j93 s1)) fun j46 =>
  if a0 = 0 then (
  x_gr s0 t 12 13 fun o33 =>
  x_lr s0 o33 a1 fun o34 =>
  x_ld s0 o34 0 fun v35 =>
  if v35 = 0 then (
  some (0, s0))
  else (
  x_gr s0 t 12 13 fun o36 =>
  x_lr s0 o36 a1 fun o37 =>
  x_ld s0 o37 0 fun v38 =>
  x_st s0 o37 0 (v38 - 1) fun s39 =>
  x_o s39 t 12 <|
  x_call (F_X12_likes n t a2 a1 15 s39) fun r41 s40 =>
  x_o s40 t 12 <|
  x_call (F_X12_notes n t 1 a1 a2 a3 s40) fun r44 s43 =>
  j46 s43))
  else (
  j46 s0)
set_option maxRecDepth 100000 in
set_option maxHeartbeats 4000000 in
theorem T_X12_does_L101 {w : q_Wd} {cx : q_Cx} {M0 : Nat} (hop : w.2.2.2.2.2.1 = none) {n : Nat} {x0 : Nat} {x1 : Int32} {x2 : Int32} {x3 : Int32} {x4 : Int32} {k135 : x_U → Option (Int32 × x_U)} (hk135 : ∀  (s1 : x_U), x_G w cx RX12 "does" cX12_does 6 (some .boolean) 5 115 M0 x_aI 135 [some (x_v w x0), some (.int x1), some (.int x2), some (.int x3), some (.int x4), none] [] s1 (k135 s1)) :
    ∀ (j : Nat) (x5 : Int32) (s0 : x_U), x_G w cx RX12 "does" cX12_does 6 (some .boolean) 5 115 M0 x_aI 101 [some (x_v w x0), some (.int x1), some (.int x2), some (.int x3), some (.int x4), some (.int x5)] [] s0 (F_X12_does_L101 n x0 x1 x2 x3 x4 k135 j x5 s0) := by
  intro j
  induction j with
  | zero =>
    intro _ _
    rw [F_X12_does_L101]
    exact x_none
  | succ j ih =>
    intro x5 s0
    rw [F_X12_does_L101]
    refine x_iload dX12_does_101 rfl (pc2 := 103) rfl ?_
    refine x_aload_n dX12_does_103 x_vR rfl (pc2 := 104) rfl ?_
    refine x_getI xf_X12_53 (by decide) rfl dX12_does_104 (pc2 := 107) rfl (fun v11 => ?_)
    refine x_icmp_ge dX12_does_107 (pc1 := 110) (pc2 := 135) rfl rfl (fun _ => ?_) (fun _ => ?_)
    · refine x_aload_n dX12_does_110 x_vR rfl (pc2 := 111) rfl ?_
      refine x_iload_n dX12_does_111 rfl (pc2 := 112) rfl ?_
      refine x_iload dX12_does_112 rfl (pc2 := 114) rfl ?_
      refine x_iload dX12_does_114 rfl (pc2 := 116) rfl ?_
      refine x_iload_n dX12_does_116 rfl (pc2 := 117) rfl ?_
      refine x_icmp_ne dX12_does_117 (pc1 := 120) (pc2 := 125) rfl rfl (fun _ => ?_) (fun _ => ?_)
      · refine x_bipush dX12_does_120 bp_m20 (pc2 := 122) rfl ?_
        refine x_goto dX12_does_122 (pc2 := 126) rfl ?_
        refine x_oo (ci := 12) (fun hk14 => ?_)
        refine x_callVV (As := [.int x3, .int x5, .int (-20)]) C2_X12_likes xm_X12_likes (fun h => by first | rfl | cases h) xl_X12_104 hk14 rfl rfl ⟨by decide, by decide⟩ (Nat.le_trans x_s0 (by decide)) dX12_does_126 (pc2 := 129) rfl (fun r13 s12 => ?_) hop
        refine x_iinc dX12_does_129 rfl (q_ii ic_1) (by decide) (L2 := [some (x_v w x0), some (.int x1), some (.int x2), some (.int x3), some (.int x4), some (.int (x5 + 1))]) rfl (pc2 := 132) rfl ?_
        refine x_goto dX12_does_132 (pc2 := 101) rfl ?_
        exact ih _ _
      · refine x_iconst dX12_does_125 ic_5 (pc2 := 126) rfl ?_
        refine x_oo (ci := 12) (fun hk17 => ?_)
        refine x_callVV (As := [.int x3, .int x5, .int 5]) C2_X12_likes xm_X12_likes (fun h => by first | rfl | cases h) xl_X12_104 hk17 rfl rfl ⟨by decide, by decide⟩ (Nat.le_trans x_s0 (by decide)) dX12_does_126 (pc2 := 129) rfl (fun r16 s15 => ?_) hop
        refine x_iinc dX12_does_129 rfl (q_ii ic_1) (by decide) (L2 := [some (x_v w x0), some (.int x1), some (.int x2), some (.int x3), some (.int x4), some (.int (x5 + 1))]) rfl (pc2 := 132) rfl ?_
        refine x_goto dX12_does_132 (pc2 := 101) rfl ?_
        exact ih _ _
    · refine x_Gmask [true, true, true, true, true, false] (L2 := [some (x_v w x0), some (.int x1), some (.int x2), some (.int x3), some (.int x4), none]) rfl ?_
      exact hk135 _
set_option maxRecDepth 100000 in
set_option maxHeartbeats 4000000 in
theorem T_X12_does_L54 {w : q_Wd} {cx : q_Cx} {M0 : Nat} (hop : w.2.2.2.2.2.1 = none) {n : Nat} {x0 : Nat} {x1 : Int32} {x2 : Int32} {x3 : Int32} {x4 : Int32} {k84 : x_U → Option (Int32 × x_U)} (hk84 : ∀  (s1 : x_U), x_G w cx RX12 "does" cX12_does 6 (some .boolean) 5 115 M0 x_aI 84 [some (x_v w x0), some (.int x1), some (.int x2), some (.int x3), some (.int x4), none] [] s1 (k84 s1)) :
    ∀ (j : Nat) (x5 : Int32) (s0 : x_U), x_G w cx RX12 "does" cX12_does 6 (some .boolean) 5 115 M0 x_aI 54 [some (x_v w x0), some (.int x1), some (.int x2), some (.int x3), some (.int x4), some (.int x5)] [] s0 (F_X12_does_L54 n x0 x1 x2 x3 x4 k84 j x5 s0) := by
  intro j
  induction j with
  | zero =>
    intro _ _
    rw [F_X12_does_L54]
    exact x_none
  | succ j ih =>
    intro x5 s0
    rw [F_X12_does_L54]
    refine x_iload dX12_does_54 rfl (pc2 := 56) rfl ?_
    refine x_aload_n dX12_does_56 x_vR rfl (pc2 := 57) rfl ?_
    refine x_getI xf_X12_50 (by decide) rfl dX12_does_57 (pc2 := 60) rfl (fun v22 => ?_)
    refine x_icmp_ge dX12_does_60 (pc1 := 63) (pc2 := 84) rfl rfl (fun _ => ?_) (fun _ => ?_)
    · refine x_aload_n dX12_does_63 x_vR rfl (pc2 := 64) rfl ?_
      refine x_iload dX12_does_64 rfl (pc2 := 66) rfl ?_
      refine x_iload_n dX12_does_66 rfl (pc2 := 67) rfl ?_
      refine x_aload_n dX12_does_67 x_vR rfl (pc2 := 68) rfl ?_
      refine x_getR xf_X12_19 (by decide) rfl dX12_does_68 (pc2 := 71) rfl (fun o23 => ?_)
      refine x_iload_n dX12_does_71 rfl (pc2 := 72) rfl ?_
      refine x_aald dX12_does_72 (pc2 := 73) rfl (fun o24 => ?_)
      refine x_iconst dX12_does_73 ic_2 (pc2 := 74) rfl ?_
      refine x_iald dX12_does_74 (pc2 := 75) rfl (fun v25 => ?_)
      refine x_oo (ci := 12) (fun hk28 => ?_)
      refine x_callVV (As := [.int x5, .int x2, .int v25]) C2_X12_likes xm_X12_likes (fun h => by first | rfl | cases h) xl_X12_104 hk28 rfl rfl ⟨by decide, by decide⟩ (Nat.le_trans x_s0 (by decide)) dX12_does_75 (pc2 := 78) rfl (fun r27 s26 => ?_) hop
      refine x_iinc dX12_does_78 rfl (q_ii ic_1) (by decide) (L2 := [some (x_v w x0), some (.int x1), some (.int x2), some (.int x3), some (.int x4), some (.int (x5 + 1))]) rfl (pc2 := 81) rfl ?_
      refine x_goto dX12_does_81 (pc2 := 54) rfl ?_
      exact ih _ _
    · refine x_Gmask [true, true, true, true, true, false] (L2 := [some (x_v w x0), some (.int x1), some (.int x2), some (.int x3), some (.int x4), none]) rfl ?_
      exact hk84 _
set_option maxRecDepth 100000 in
set_option maxHeartbeats 4000000 in
theorem C2_X12_does {l : Launch} {w : q_Wd} {n : Nat} {t : Nat} {a0 : Int32} {a1 : Int32} {a2 : Int32} {a3 : Int32} {s0 : x_U} : x_C l w yX12_does cX12_does 6 (some .boolean) 5 115 [x_v w t, .int a0, .int a1, .int a2, .int a3] x_aI s0 (F_X12_does n t a0 a1 a2 a3 s0) := x_CofG [some (x_v w t), some (.int a0), some (.int a1), some (.int a2), some (.int a3), none] (by decide +kernel) rfl (x_ca x_vcat (x_ca rfl (x_ca rfl (x_ca rfl (x_ca rfl x_c0))))) (Nat.le_of_ble_eq_true rfl) fun hop cx hl => by
  subst hl
  show x_G w cx RX12 "does" cX12_does 6 (some .boolean) 5 115 (x_m s0) x_aI 0 [some (x_v w t), some (.int a0), some (.int a1), some (.int a2), some (.int a3), none] [] s0 _
  rw [F_X12_does]
  refine x_iload_n dX12_does_0 rfl (pc2 := 1) rfl ?_
  refine x_jn (P := fun j46 => ∀  (s1 : x_U), x_G w cx RX12 "does" cX12_does 6 (some .boolean) 5 115 (x_m s0) x_aI 46 [some (x_v w t), some (.int a0), some (.int a1), some (.int a2), some (.int a3), none] [] s1 (j46 s1)) (fun s1 => ?_) (fun j46 hj46 => ?_)
  · refine x_iload_n dX12_does_46 rfl (pc2 := 47) rfl ?_
    refine x_iconst dX12_does_47 ic_1 (pc2 := 48) rfl ?_
    refine x_jn (P := fun j93 => ∀  (s2 : x_U), x_G w cx RX12 "does" cX12_does 6 (some .boolean) 5 115 (x_m s0) x_aI 93 [some (x_v w t), some (.int a0), some (.int a1), some (.int a2), some (.int a3), none] [] s2 (j93 s2)) (fun s2 => ?_) (fun j93 hj93 => ?_)
    · refine x_iload_n dX12_does_93 rfl (pc2 := 94) rfl ?_
      refine x_iconst dX12_does_94 ic_2 (pc2 := 95) rfl ?_
      refine x_jn (P := fun j144 => ∀  (s3 : x_U), x_G w cx RX12 "does" cX12_does 6 (some .boolean) 5 115 (x_m s0) x_aI 144 [some (x_v w t), some (.int a0), some (.int a1), none, some (.int a3), none] [] s3 (j144 s3)) (fun s3 => ?_) (fun j144 hj144 => ?_)
      · refine x_iload_n dX12_does_144 rfl (pc2 := 145) rfl ?_
        refine x_iconst dX12_does_145 ic_3 (pc2 := 146) rfl ?_
        refine x_jn (P := fun j155 => ∀  (s4 : x_U), x_G w cx RX12 "does" cX12_does 6 (some .boolean) 5 115 (x_m s0) x_aI 155 [some (x_v w t), some (.int a0), some (.int a1), none, some (.int a3), none] [] s4 (j155 s4)) (fun s4 => ?_) (fun j155 hj155 => ?_)
        · refine x_iload_n dX12_does_155 rfl (pc2 := 156) rfl ?_
          refine x_iconst dX12_does_156 ic_4 (pc2 := 157) rfl ?_
          refine x_icmp_lt dX12_does_157 (pc1 := 170) (pc2 := 160) rfl rfl (fun _ => ?_) (fun _ => ?_)
          · refine x_iconst dX12_does_170 ic_1 (pc2 := 171) rfl ?_
            refine x_goto dX12_does_171 (pc2 := 175) rfl ?_
            exact x_nret rfl dX12_does_175
          · refine x_aload_n dX12_does_160 x_vR rfl (pc2 := 161) rfl ?_
            refine x_iload_n dX12_does_161 rfl (pc2 := 162) rfl ?_
            refine x_iload dX12_does_162 rfl (pc2 := 164) rfl ?_
            refine x_oo (ci := 12) (fun hk7 => ?_)
            refine x_callVI (As := [.int a1, .int a3]) C2_X12_goes xm_X12_goes (fun h => by first | rfl | cases h) xl_X12_112 hk7 rfl rfl ⟨by decide, by decide⟩ (Nat.le_trans x_s0 (by decide)) dX12_does_164 (pc2 := 167) rfl (fun r6 s5 => ?_) hop
            refine x_if_lt dX12_does_167 (pc1 := 174) (pc2 := 170) rfl rfl (fun _ => ?_) (fun _ => ?_)
            · refine x_iconst dX12_does_174 ic_0 (pc2 := 175) rfl ?_
              exact x_nret rfl dX12_does_175
            · refine x_iconst dX12_does_170 ic_1 (pc2 := 171) rfl ?_
              refine x_goto dX12_does_171 (pc2 := 175) rfl ?_
              exact x_nret rfl dX12_does_175
        · refine x_icmp_ne dX12_does_146 (pc1 := 149) (pc2 := 155) rfl rfl (fun _ => ?_) (fun _ => ?_)
          · refine x_aload_n dX12_does_149 x_vR rfl (pc2 := 150) rfl ?_
            refine x_iload dX12_does_150 rfl (pc2 := 152) rfl ?_
            refine x_oo (ci := 12) (fun hk10 => ?_)
            refine x_callVV (As := [.int a3]) C2_X12_votes xm_X12_votes (fun h => by first | rfl | cases h) xl_X12_108 hk10 rfl rfl ⟨by decide, by decide⟩ (Nat.le_trans x_s0 (by decide)) dX12_does_152 (pc2 := 155) rfl (fun r9 s8 => ?_) hop
            exact hj155 _
          · exact hj155 _
      · refine x_icmp_ne dX12_does_95 (pc1 := 98) (pc2 := 144) rfl rfl (fun _ => ?_) (fun _ => ?_)
        · refine x_iconst dX12_does_98 ic_0 (pc2 := 99) rfl ?_
          refine x_istore dX12_does_99 (by decide) (L2 := [some (x_v w t), some (.int a0), some (.int a1), some (.int a2), some (.int a3), some (.int 0)]) rfl (pc2 := 101) rfl ?_
          refine T_X12_does_L101 hop (fun s18 => ?_) n _ _
          refine x_aload_n dX12_does_135 x_vR rfl (pc2 := 136) rfl ?_
          refine x_iconst dX12_does_136 ic_3 (pc2 := 137) rfl ?_
          refine x_iload_n dX12_does_137 rfl (pc2 := 138) rfl ?_
          refine x_iload_n dX12_does_138 rfl (pc2 := 139) rfl ?_
          refine x_iload dX12_does_139 rfl (pc2 := 141) rfl ?_
          refine x_oo (ci := 12) (fun hk21 => ?_)
          refine x_callVV (As := [.int 3, .int a1, .int a2, .int a3]) C2_X12_notes xm_X12_notes (fun h => by first | rfl | cases h) xl_X12_100 hk21 rfl rfl ⟨by decide, by decide⟩ (Nat.le_trans x_s0 (by decide)) dX12_does_141 (pc2 := 144) rfl (fun r20 s19 => ?_) hop
          refine x_Gmask [true, true, true, false, true, true] (L2 := [some (x_v w t), some (.int a0), some (.int a1), none, some (.int a3), none]) rfl ?_
          exact hj144 _
        · refine x_Gmask [true, true, true, false, true, true] (L2 := [some (x_v w t), some (.int a0), some (.int a1), none, some (.int a3), none]) rfl ?_
          exact hj144 _
    · refine x_icmp_ne dX12_does_48 (pc1 := 51) (pc2 := 93) rfl rfl (fun _ => ?_) (fun _ => ?_)
      · refine x_iconst dX12_does_51 ic_0 (pc2 := 52) rfl ?_
        refine x_istore dX12_does_52 (by decide) (L2 := [some (x_v w t), some (.int a0), some (.int a1), some (.int a2), some (.int a3), some (.int 0)]) rfl (pc2 := 54) rfl ?_
        refine T_X12_does_L54 hop (fun s29 => ?_) n _ _
        refine x_aload_n dX12_does_84 x_vR rfl (pc2 := 85) rfl ?_
        refine x_iconst dX12_does_85 ic_2 (pc2 := 86) rfl ?_
        refine x_iload_n dX12_does_86 rfl (pc2 := 87) rfl ?_
        refine x_iconst dX12_does_87 ic_0 (pc2 := 88) rfl ?_
        refine x_iload dX12_does_88 rfl (pc2 := 90) rfl ?_
        refine x_oo (ci := 12) (fun hk32 => ?_)
        refine x_callVV (As := [.int 2, .int a1, .int 0, .int a3]) C2_X12_notes xm_X12_notes (fun h => by first | rfl | cases h) xl_X12_100 hk32 rfl rfl ⟨by decide, by decide⟩ (Nat.le_trans x_s0 (by decide)) dX12_does_90 (pc2 := 93) rfl (fun r31 s30 => ?_) hop
        exact hj93 _
      · exact hj93 _
  · refine x_if_ne dX12_does_1 (pc1 := 4) (pc2 := 46) rfl rfl (fun _ => ?_) (fun _ => ?_)
    · refine x_aload_n dX12_does_4 x_vR rfl (pc2 := 5) rfl ?_
      refine x_getR xf_X12_19 (by decide) rfl dX12_does_5 (pc2 := 8) rfl (fun o33 => ?_)
      refine x_iload_n dX12_does_8 rfl (pc2 := 9) rfl ?_
      refine x_aald dX12_does_9 (pc2 := 10) rfl (fun o34 => ?_)
      refine x_iconst dX12_does_10 ic_0 (pc2 := 11) rfl ?_
      refine x_iald dX12_does_11 (pc2 := 12) rfl (fun v35 => ?_)
      refine x_if_ne dX12_does_12 (pc1 := 15) (pc2 := 17) rfl rfl (fun _ => ?_) (fun _ => ?_)
      · refine x_iconst dX12_does_15 ic_0 (pc2 := 16) rfl ?_
        exact x_nret rfl dX12_does_16
      · refine x_aload_n dX12_does_17 x_vR rfl (pc2 := 18) rfl ?_
        refine x_getR xf_X12_19 (by decide) rfl dX12_does_18 (pc2 := 21) rfl (fun o36 => ?_)
        refine x_iload_n dX12_does_21 rfl (pc2 := 22) rfl ?_
        refine x_aald dX12_does_22 (pc2 := 23) rfl (fun o37 => ?_)
        refine x_iconst dX12_does_23 ic_0 (pc2 := 24) rfl ?_
        refine x_dup2 dX12_does_24 rfl x_vcat (pc2 := 25) rfl ?_
        refine x_iald dX12_does_25 (pc2 := 26) rfl (fun v38 => ?_)
        refine x_iconst dX12_does_26 ic_1 (pc2 := 27) rfl ?_
        refine x_isub dX12_does_27 (pc2 := 28) rfl ?_
        refine x_iast dX12_does_28 (pc2 := 29) rfl (fun s39 => ?_)
        refine x_aload_n dX12_does_29 x_vR rfl (pc2 := 30) rfl ?_
        refine x_iload_n dX12_does_30 rfl (pc2 := 31) rfl ?_
        refine x_iload_n dX12_does_31 rfl (pc2 := 32) rfl ?_
        refine x_bipush dX12_does_32 bp_15 (pc2 := 34) rfl ?_
        refine x_oo (ci := 12) (fun hk42 => ?_)
        refine x_callVV (As := [.int a2, .int a1, .int 15]) C2_X12_likes xm_X12_likes (fun h => by first | rfl | cases h) xl_X12_104 hk42 rfl rfl ⟨by decide, by decide⟩ (Nat.le_trans x_s0 (by decide)) dX12_does_34 (pc2 := 37) rfl (fun r41 s40 => ?_) hop
        refine x_aload_n dX12_does_37 x_vR rfl (pc2 := 38) rfl ?_
        refine x_iconst dX12_does_38 ic_1 (pc2 := 39) rfl ?_
        refine x_iload_n dX12_does_39 rfl (pc2 := 40) rfl ?_
        refine x_iload_n dX12_does_40 rfl (pc2 := 41) rfl ?_
        refine x_iload dX12_does_41 rfl (pc2 := 43) rfl ?_
        refine x_oo (ci := 12) (fun hk45 => ?_)
        refine x_callVV (As := [.int 1, .int a1, .int a2, .int a3]) C2_X12_notes xm_X12_notes (fun h => by first | rfl | cases h) xl_X12_100 hk45 rfl rfl ⟨by decide, by decide⟩ (Nat.le_trans x_s0 (by decide)) dX12_does_43 (pc2 := 46) rfl (fun r44 s43 => ?_) hop
        exact hj46 _
    · exact hj46 _
set_option maxRecDepth 100000 in
set_option maxHeartbeats 4000000 in
def F_X12_passes_L14 (n : Nat) (x0 : Nat) (x1 : Int32) (x3 : Nat) (x4 : Int32) (k67 : Int32 → x_U → Option (Int32 × x_U)) : Nat → Int32 → Int32 → x_U → Option (Int32 × x_U)
  | 0, _, _, _ => none
  | j + 1, x2, x5, s0 =>
    if x5 < x4 then (
    x_lr s0 x3 x5 fun o3 =>
    x_ld s0 o3 0 fun v4 =>
    x_gi s0 x0 12 1 fun v5 =>
    if v4 = v5 then (
    x_ld s0 o3 1 fun v6 =>
    x_ld s0 o3 2 fun v7 =>
    x_ld s0 o3 3 fun v8 =>
    x_o s0 x0 12 <|
    x_call (F_X12_does n x0 v6 v7 v8 x1 s0) fun r10 s9 =>
    if r10 = 0 then (
    F_X12_passes_L14 n x0 x1 x3 x4 k67 j x2 (x5 + 1) s9)
    else (
    F_X12_passes_L14 n x0 x1 x3 x4 k67 j (x2 + 1) (x5 + 1) s9))
    else (
    F_X12_passes_L14 n x0 x1 x3 x4 k67 j x2 (x5 + 1) s0))
    else (
    k67 x2 s0)
set_option maxRecDepth 100000 in
set_option maxHeartbeats 4000000 in
def F_X12_passes_L69 (n : Nat) (x0 : Nat) (x2 : Int32) (k108 : x_U → Option (Int32 × x_U)) : Nat → Int32 → x_U → Option (Int32 × x_U)
  | 0, _, _ => none
  | j + 1, x3, s0 =>
    x_gi s0 x0 12 7 fun v14 =>
    if x3 < v14 then (
    x_gr s0 x0 12 12 fun o15 =>
    x_lr s0 o15 x3 fun o16 =>
    x_ld s0 o16 3 fun v17 =>
    if v17 < 0 then (
    F_X12_passes_L69 n x0 x2 k108 j (x3 + 1) s0)
    else (
    x_gr s0 x0 12 12 fun o18 =>
    x_lr s0 o18 x3 fun o19 =>
    x_ld s0 o19 3 fun v20 =>
    x_o s0 x0 12 <|
    x_call (F_X12_likes n x0 x3 v20 (-1) s0) fun r22 s21 =>
    F_X12_passes_L69 n x0 x2 k108 j (x3 + 1) s21))
    else (
    k108 s0)
set_option maxRecDepth 100000 in
set_option maxHeartbeats 4000000 in
def F_X12_passes (n : Nat) (t : Nat) (a0 : Int32) (s0 : x_U) : Option (Int32 × x_U) :=
  x_gr s0 t 12 14 fun o1 =>
  x_len s0 o1 fun v2 =>
  F_X12_passes_L14 n t a0 o1 v2 (fun (y12 : Int32) (s13 : x_U) =>
  F_X12_passes_L69 n t y12 (fun  (s24 : x_U) =>
  x_gi s24 t 12 1 fun v25 =>
  x_pi s24 t 12 1 (v25 + 1) fun s26 =>
  some (y12, s26)) n 0 s13) n 0 0 s0
set_option maxRecDepth 100000 in
set_option maxHeartbeats 4000000 in
theorem T_X12_passes_L14 {w : q_Wd} {cx : q_Cx} {M0 : Nat} (hop : w.2.2.2.2.2.1 = none) {n : Nat} {x0 : Nat} {x1 : Int32} {x3 : Nat} {x4 : Int32} {k67 : Int32 → x_U → Option (Int32 × x_U)} (hk67 : ∀ (y2 : Int32) (s1 : x_U), x_G w cx RX12 "passes" cX12_passes 7 (some .int) 6 140 M0 x_aI 67 [some (x_v w x0), none, some (.int y2), none, none, none, none] [] s1 (k67 y2 s1)) :
    ∀ (j : Nat) (x2 : Int32) (x5 : Int32) (s0 : x_U), x_G w cx RX12 "passes" cX12_passes 7 (some .int) 6 140 M0 x_aI 14 [some (x_v w x0), some (.int x1), some (.int x2), some (x_v w x3), some (.int x4), some (.int x5), none] [] s0 (F_X12_passes_L14 n x0 x1 x3 x4 k67 j x2 x5 s0) := by
  intro j
  induction j with
  | zero =>
    intro _ _ _
    rw [F_X12_passes_L14]
    exact x_none
  | succ j ih =>
    intro x2 x5 s0
    rw [F_X12_passes_L14]
    refine x_iload dX12_passes_14 rfl (pc2 := 16) rfl ?_
    refine x_iload dX12_passes_16 rfl (pc2 := 18) rfl ?_
    refine x_icmp_ge dX12_passes_18 (pc1 := 21) (pc2 := 67) rfl rfl (fun _ => ?_) (fun _ => ?_)
    · refine x_aload_n dX12_passes_21 x_vR rfl (pc2 := 22) rfl ?_
      refine x_iload dX12_passes_22 rfl (pc2 := 24) rfl ?_
      refine x_aald dX12_passes_24 (pc2 := 25) rfl (fun o3 => ?_)
      refine x_astore x_vR dX12_passes_25 (by decide) (L2 := [some (x_v w x0), some (.int x1), some (.int x2), some (x_v w x3), some (.int x4), some (.int x5), some (x_v w o3)]) rfl (pc2 := 27) rfl ?_
      refine x_aload dX12_passes_27 x_vR rfl (pc2 := 29) rfl ?_
      refine x_iconst dX12_passes_29 ic_0 (pc2 := 30) rfl ?_
      refine x_iald dX12_passes_30 (pc2 := 31) rfl (fun v4 => ?_)
      refine x_aload_n dX12_passes_31 x_vR rfl (pc2 := 32) rfl ?_
      refine x_getI xf_X12_35 (by decide) rfl dX12_passes_32 (pc2 := 35) rfl (fun v5 => ?_)
      refine x_icmp_ne dX12_passes_35 (pc1 := 38) (pc2 := 61) rfl rfl (fun _ => ?_) (fun _ => ?_)
      · refine x_aload_n dX12_passes_38 x_vR rfl (pc2 := 39) rfl ?_
        refine x_aload dX12_passes_39 x_vR rfl (pc2 := 41) rfl ?_
        refine x_iconst dX12_passes_41 ic_1 (pc2 := 42) rfl ?_
        refine x_iald dX12_passes_42 (pc2 := 43) rfl (fun v6 => ?_)
        refine x_aload dX12_passes_43 x_vR rfl (pc2 := 45) rfl ?_
        refine x_iconst dX12_passes_45 ic_2 (pc2 := 46) rfl ?_
        refine x_iald dX12_passes_46 (pc2 := 47) rfl (fun v7 => ?_)
        refine x_aload dX12_passes_47 x_vR rfl (pc2 := 49) rfl ?_
        refine x_iconst dX12_passes_49 ic_3 (pc2 := 50) rfl ?_
        refine x_iald dX12_passes_50 (pc2 := 51) rfl (fun v8 => ?_)
        refine x_iload_n dX12_passes_51 rfl (pc2 := 52) rfl ?_
        refine x_oo (ci := 12) (fun hk11 => ?_)
        refine x_callVI (As := [.int v6, .int v7, .int v8, .int x1]) C2_X12_does xm_X12_does (fun h => by first | rfl | cases h) xl_X12_124 hk11 rfl rfl ⟨by decide, by decide⟩ (Nat.le_trans x_s0 (by decide)) dX12_passes_52 (pc2 := 55) rfl (fun r10 s9 => ?_) hop
        refine x_if_eq dX12_passes_55 (pc1 := 61) (pc2 := 58) rfl rfl (fun _ => ?_) (fun _ => ?_)
        · refine x_iinc dX12_passes_61 rfl (q_ii ic_1) (by decide) (L2 := [some (x_v w x0), some (.int x1), some (.int x2), some (x_v w x3), some (.int x4), some (.int (x5 + 1)), some (x_v w o3)]) rfl (pc2 := 64) rfl ?_
          refine x_goto dX12_passes_64 (pc2 := 14) rfl ?_
          refine x_Gmask [true, true, true, true, true, true, false] (L2 := [some (x_v w x0), some (.int x1), some (.int x2), some (x_v w x3), some (.int x4), some (.int (x5 + 1)), none]) rfl ?_
          exact ih _ _ _
        · refine x_iinc dX12_passes_58 rfl (q_ii ic_1) (by decide) (L2 := [some (x_v w x0), some (.int x1), some (.int (x2 + 1)), some (x_v w x3), some (.int x4), some (.int x5), some (x_v w o3)]) rfl (pc2 := 61) rfl ?_
          refine x_iinc dX12_passes_61 rfl (q_ii ic_1) (by decide) (L2 := [some (x_v w x0), some (.int x1), some (.int (x2 + 1)), some (x_v w x3), some (.int x4), some (.int (x5 + 1)), some (x_v w o3)]) rfl (pc2 := 64) rfl ?_
          refine x_goto dX12_passes_64 (pc2 := 14) rfl ?_
          refine x_Gmask [true, true, true, true, true, true, false] (L2 := [some (x_v w x0), some (.int x1), some (.int (x2 + 1)), some (x_v w x3), some (.int x4), some (.int (x5 + 1)), none]) rfl ?_
          exact ih _ _ _
      · refine x_iinc dX12_passes_61 rfl (q_ii ic_1) (by decide) (L2 := [some (x_v w x0), some (.int x1), some (.int x2), some (x_v w x3), some (.int x4), some (.int (x5 + 1)), some (x_v w o3)]) rfl (pc2 := 64) rfl ?_
        refine x_goto dX12_passes_64 (pc2 := 14) rfl ?_
        refine x_Gmask [true, true, true, true, true, true, false] (L2 := [some (x_v w x0), some (.int x1), some (.int x2), some (x_v w x3), some (.int x4), some (.int (x5 + 1)), none]) rfl ?_
        exact ih _ _ _
    · refine x_Gmask [true, false, true, false, false, false, true] (L2 := [some (x_v w x0), none, some (.int x2), none, none, none, none]) rfl ?_
      exact hk67 _ _
set_option maxRecDepth 100000 in
set_option maxHeartbeats 4000000 in
theorem T_X12_passes_L69 {w : q_Wd} {cx : q_Cx} {M0 : Nat} (hop : w.2.2.2.2.2.1 = none) {n : Nat} {x0 : Nat} {x2 : Int32} {k108 : x_U → Option (Int32 × x_U)} (hk108 : ∀  (s1 : x_U), x_G w cx RX12 "passes" cX12_passes 7 (some .int) 6 140 M0 x_aI 108 [some (x_v w x0), none, some (.int x2), none, none, none, none] [] s1 (k108 s1)) :
    ∀ (j : Nat) (x3 : Int32) (s0 : x_U), x_G w cx RX12 "passes" cX12_passes 7 (some .int) 6 140 M0 x_aI 69 [some (x_v w x0), none, some (.int x2), some (.int x3), none, none, none] [] s0 (F_X12_passes_L69 n x0 x2 k108 j x3 s0) := by
  intro j
  induction j with
  | zero =>
    intro _ _
    rw [F_X12_passes_L69]
    exact x_none
  | succ j ih =>
    intro x3 s0
    rw [F_X12_passes_L69]
    refine x_iload_n dX12_passes_69 rfl (pc2 := 70) rfl ?_
    refine x_aload_n dX12_passes_70 x_vR rfl (pc2 := 71) rfl ?_
    refine x_getI xf_X12_50 (by decide) rfl dX12_passes_71 (pc2 := 74) rfl (fun v14 => ?_)
    refine x_icmp_ge dX12_passes_74 (pc1 := 77) (pc2 := 108) rfl rfl (fun _ => ?_) (fun _ => ?_)
    · refine x_aload_n dX12_passes_77 x_vR rfl (pc2 := 78) rfl ?_
      refine x_getR xf_X12_15 (by decide) rfl dX12_passes_78 (pc2 := 81) rfl (fun o15 => ?_)
      refine x_iload_n dX12_passes_81 rfl (pc2 := 82) rfl ?_
      refine x_aald dX12_passes_82 (pc2 := 83) rfl (fun o16 => ?_)
      refine x_iconst dX12_passes_83 ic_3 (pc2 := 84) rfl ?_
      refine x_iald dX12_passes_84 (pc2 := 85) rfl (fun v17 => ?_)
      refine x_if_lt dX12_passes_85 (pc1 := 102) (pc2 := 88) rfl rfl (fun _ => ?_) (fun _ => ?_)
      · refine x_iinc dX12_passes_102 rfl (q_ii ic_1) (by decide) (L2 := [some (x_v w x0), none, some (.int x2), some (.int (x3 + 1)), none, none, none]) rfl (pc2 := 105) rfl ?_
        refine x_goto dX12_passes_105 (pc2 := 69) rfl ?_
        exact ih _ _
      · refine x_aload_n dX12_passes_88 x_vR rfl (pc2 := 89) rfl ?_
        refine x_iload_n dX12_passes_89 rfl (pc2 := 90) rfl ?_
        refine x_aload_n dX12_passes_90 x_vR rfl (pc2 := 91) rfl ?_
        refine x_getR xf_X12_15 (by decide) rfl dX12_passes_91 (pc2 := 94) rfl (fun o18 => ?_)
        refine x_iload_n dX12_passes_94 rfl (pc2 := 95) rfl ?_
        refine x_aald dX12_passes_95 (pc2 := 96) rfl (fun o19 => ?_)
        refine x_iconst dX12_passes_96 ic_3 (pc2 := 97) rfl ?_
        refine x_iald dX12_passes_97 (pc2 := 98) rfl (fun v20 => ?_)
        refine x_iconst dX12_passes_98 ic_m1 (pc2 := 99) rfl ?_
        refine x_oo (ci := 12) (fun hk23 => ?_)
        refine x_callVV (As := [.int x3, .int v20, .int (-1)]) C2_X12_likes xm_X12_likes (fun h => by first | rfl | cases h) xl_X12_104 hk23 rfl rfl ⟨by decide, by decide⟩ (Nat.le_trans x_s0 (by decide)) dX12_passes_99 (pc2 := 102) rfl (fun r22 s21 => ?_) hop
        refine x_iinc dX12_passes_102 rfl (q_ii ic_1) (by decide) (L2 := [some (x_v w x0), none, some (.int x2), some (.int (x3 + 1)), none, none, none]) rfl (pc2 := 105) rfl ?_
        refine x_goto dX12_passes_105 (pc2 := 69) rfl ?_
        exact ih _ _
    · refine x_Gmask [true, true, true, false, true, true, true] (L2 := [some (x_v w x0), none, some (.int x2), none, none, none, none]) rfl ?_
      exact hk108 _
set_option maxRecDepth 100000 in
set_option maxHeartbeats 4000000 in
theorem C2_X12_passes {l : Launch} {w : q_Wd} {n : Nat} {t : Nat} {a0 : Int32} {s0 : x_U} : x_C l w yX12_passes cX12_passes 7 (some .int) 6 140 [x_v w t, .int a0] x_aI s0 (F_X12_passes n t a0 s0) := x_CofG [some (x_v w t), some (.int a0), none, none, none, none, none] (by decide +kernel) rfl (x_ca x_vcat (x_ca rfl x_c0)) (Nat.le_of_ble_eq_true rfl) fun hop cx hl => by
  subst hl
  show x_G w cx RX12 "passes" cX12_passes 7 (some .int) 6 140 (x_m s0) x_aI 0 [some (x_v w t), some (.int a0), none, none, none, none, none] [] s0 _
  rw [F_X12_passes]
  refine x_iconst dX12_passes_0 ic_0 (pc2 := 1) rfl ?_
  refine x_istore_n dX12_passes_1 (by decide) (L2 := [some (x_v w t), some (.int a0), some (.int 0), none, none, none, none]) rfl (pc2 := 2) rfl ?_
  refine x_aload_n dX12_passes_2 x_vR rfl (pc2 := 3) rfl ?_
  refine x_getR xf_X12_22 (by decide) rfl dX12_passes_3 (pc2 := 6) rfl (fun o1 => ?_)
  refine x_astore_n x_vR dX12_passes_6 (by decide) (L2 := [some (x_v w t), some (.int a0), some (.int 0), some (x_v w o1), none, none, none]) rfl (pc2 := 7) rfl ?_
  refine x_aload_n dX12_passes_7 x_vR rfl (pc2 := 8) rfl ?_
  refine x_alen dX12_passes_8 (pc2 := 9) rfl (fun v2 => ?_)
  refine x_istore dX12_passes_9 (by decide) (L2 := [some (x_v w t), some (.int a0), some (.int 0), some (x_v w o1), some (.int v2), none, none]) rfl (pc2 := 11) rfl ?_
  refine x_iconst dX12_passes_11 ic_0 (pc2 := 12) rfl ?_
  refine x_istore dX12_passes_12 (by decide) (L2 := [some (x_v w t), some (.int a0), some (.int 0), some (x_v w o1), some (.int v2), some (.int 0), none]) rfl (pc2 := 14) rfl ?_
  refine T_X12_passes_L14 hop (fun y12 s13 => ?_) n _ _ _
  refine x_iconst dX12_passes_67 ic_0 (pc2 := 68) rfl ?_
  refine x_istore_n dX12_passes_68 (by decide) (L2 := [some (x_v w t), none, some (.int y12), some (.int 0), none, none, none]) rfl (pc2 := 69) rfl ?_
  refine T_X12_passes_L69 hop (fun s24 => ?_) n _ _
  refine x_aload_n dX12_passes_108 x_vR rfl (pc2 := 109) rfl ?_
  refine x_dup dX12_passes_109 x_vcat (pc2 := 110) rfl ?_
  refine x_getI xf_X12_35 (by decide) rfl dX12_passes_110 (pc2 := 113) rfl (fun v25 => ?_)
  refine x_iconst dX12_passes_113 ic_1 (pc2 := 114) rfl ?_
  refine x_iadd dX12_passes_114 (pc2 := 115) rfl ?_
  refine x_putI (Or.inl xf_X12_35) (Or.inl rfl) rfl rfl rfl dX12_passes_115 (pc2 := 118) rfl (fun s26 => ?_)
  refine x_iload_n dX12_passes_118 rfl (pc2 := 119) rfl ?_
  exact x_iret dX12_passes_119
