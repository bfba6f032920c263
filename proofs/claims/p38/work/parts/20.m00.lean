set_option maxRecDepth 100000 in
set_option maxHeartbeats 4000000 in
def f_X9_hasMule (n : Nat) (t : Nat) (a0 : Int32) (s0 : q_Sto) : Option (Int32 × q_Sto) :=
  if a0 < 0 then (
  some (0, s0))
  else (
  if a0 < (s0 t 8) then (
  if a0 < 12 then (
  some (1, s0))
  else (
  some (0, s0)))
  else (
  some (0, s0)))
set_option maxRecDepth 100000 in
set_option maxHeartbeats 4000000 in
theorem C_X9_hasMule {l : Launch} {w : q_Wd} {n : Nat} {t : Nat} {a0 : Int32} (ht : q_KD t = .inl 9) {s0 : q_Sto} : q_C l w yX9_hasMule cX9_hasMule 2 (some .boolean) (q_rm 0 0) [q_rf w t, .int a0] s0 (f_X9_hasMule n t a0 s0) := q_CofG [some (q_rf w t), some (.int a0)] (by decide +kernel) rfl rfl (Nat.le_of_ble_eq_true rfl) fun cx hl hc => by
  have hc : q_ok w cx RX9 cX9_hasMule 2 (some .boolean) (q_rm 0 0) := hc
  rw [f_X9_hasMule]
  refine g_il1 hc dX9_hasMule_0 rfl (pc2 := 1) rfl ?_
  refine g_if_lt hc dX9_hasMule_1 (pc1 := 22) (pc2 := 4) rfl rfl (fun _ => ?_) (fun _ => ?_)
  · refine g_iconst hc dX9_hasMule_22 ic_0 (pc2 := 23) rfl ?_
    exact g_zret0 (by decide) hc dX9_hasMule_23
  · refine g_il1 hc dX9_hasMule_4 rfl (pc2 := 5) rfl ?_
    refine g_rl0 hc dX9_hasMule_5 rfl (pc2 := 6) rfl ?_
    refine g_getI hc fl_X9_36 rfl ht dX9_hasMule_6 (pc2 := 9) rfl ?_
    refine g_icmp_ge hc dX9_hasMule_9 (pc1 := 12) (pc2 := 22) rfl rfl (fun _ => ?_) (fun _ => ?_)
    · refine g_il1 hc dX9_hasMule_12 rfl (pc2 := 13) rfl ?_
      refine g_bipush hc dX9_hasMule_13 bp_12 (pc2 := 15) rfl ?_
      refine g_icmp_ge hc dX9_hasMule_15 (pc1 := 18) (pc2 := 22) rfl rfl (fun _ => ?_) (fun _ => ?_)
      · refine g_iconst hc dX9_hasMule_18 ic_1 (pc2 := 19) rfl ?_
        refine g_goto hc dX9_hasMule_19 (pc2 := 23) rfl ?_
        exact g_zret0 (by decide) hc dX9_hasMule_23
      · refine g_iconst hc dX9_hasMule_22 ic_0 (pc2 := 23) rfl ?_
        exact g_zret0 (by decide) hc dX9_hasMule_23
    · refine g_iconst hc dX9_hasMule_22 ic_0 (pc2 := 23) rfl ?_
      exact g_zret0 (by decide) hc dX9_hasMule_23
set_option maxRecDepth 100000 in
set_option maxHeartbeats 4000000 in
def f_X9_hasMan (n : Nat) (t : Nat) (a0 : Int32) (s0 : q_Sto) : Option (Int32 × q_Sto) :=
  if a0 < 0 then (
  some (0, s0))
  else (
  if a0 < (s0 t 9) then (
  if a0 < 5 then (
  some (1, s0))
  else (
  some (0, s0)))
  else (
  some (0, s0)))
set_option maxRecDepth 100000 in
set_option maxHeartbeats 4000000 in
theorem C_X9_hasMan {l : Launch} {w : q_Wd} {n : Nat} {t : Nat} {a0 : Int32} (ht : q_KD t = .inl 9) {s0 : q_Sto} : q_C l w yX9_hasMan cX9_hasMan 2 (some .boolean) (q_rm 0 0) [q_rf w t, .int a0] s0 (f_X9_hasMan n t a0 s0) := q_CofG [some (q_rf w t), some (.int a0)] (by decide +kernel) rfl rfl (Nat.le_of_ble_eq_true rfl) fun cx hl hc => by
  have hc : q_ok w cx RX9 cX9_hasMan 2 (some .boolean) (q_rm 0 0) := hc
  rw [f_X9_hasMan]
  refine g_il1 hc dX9_hasMan_0 rfl (pc2 := 1) rfl ?_
  refine g_if_lt hc dX9_hasMan_1 (pc1 := 21) (pc2 := 4) rfl rfl (fun _ => ?_) (fun _ => ?_)
  · refine g_iconst hc dX9_hasMan_21 ic_0 (pc2 := 22) rfl ?_
    exact g_zret0 (by decide) hc dX9_hasMan_22
  · refine g_il1 hc dX9_hasMan_4 rfl (pc2 := 5) rfl ?_
    refine g_rl0 hc dX9_hasMan_5 rfl (pc2 := 6) rfl ?_
    refine g_getI hc fl_X9_40 rfl ht dX9_hasMan_6 (pc2 := 9) rfl ?_
    refine g_icmp_ge hc dX9_hasMan_9 (pc1 := 12) (pc2 := 21) rfl rfl (fun _ => ?_) (fun _ => ?_)
    · refine g_il1 hc dX9_hasMan_12 rfl (pc2 := 13) rfl ?_
      refine g_iconst hc dX9_hasMan_13 ic_5 (pc2 := 14) rfl ?_
      refine g_icmp_ge hc dX9_hasMan_14 (pc1 := 17) (pc2 := 21) rfl rfl (fun _ => ?_) (fun _ => ?_)
      · refine g_iconst hc dX9_hasMan_17 ic_1 (pc2 := 18) rfl ?_
        refine g_goto hc dX9_hasMan_18 (pc2 := 22) rfl ?_
        exact g_zret0 (by decide) hc dX9_hasMan_22
      · refine g_iconst hc dX9_hasMan_21 ic_0 (pc2 := 22) rfl ?_
        exact g_zret0 (by decide) hc dX9_hasMan_22
    · refine g_iconst hc dX9_hasMan_21 ic_0 (pc2 := 22) rfl ?_
      exact g_zret0 (by decide) hc dX9_hasMan_22
set_option maxRecDepth 100000 in
set_option maxHeartbeats 4000000 in
def f_X10_factsOf (n : Nat) (t : Nat) (a0 : Int32) (a1 : Int32) (s0 : q_Sto) : Option (Int32 × q_Sto) :=
  q_call (f_X9_hasMule n (q_RF t 0) a0 s0) fun r2 s1 =>
  q_st s1 (q_RF t 8) 0 10 a0 fun s3 =>
  q_jn (fun (y4 : Int32) (s5 : q_Sto) =>
    q_st s5 (q_RF t 8) 1 10 y4 fun s6 =>
    q_jn (fun (y7 : Int32) (s8 : q_Sto) =>
      q_st s8 (q_RF t 8) 2 10 y7 fun s9 =>
      q_st s9 (q_RF t 8) 3 10 0 fun s10 =>
      q_st s10 (q_RF t 8) 4 10 0 fun s11 =>
      q_call (f_X9_hasMan n (q_RF t 0) a1 s11) fun r13 s12 =>
      q_jn (fun (y14 : Int32) (s15 : q_Sto) =>
        q_st s15 (q_RF t 8) 5 10 y14 fun s16 =>
        q_call (f_X9_hasMan n (q_RF t 0) a1 s16) fun r18 s17 =>
        q_jn (fun (y19 : Int32) (s20 : q_Sto) =>
          q_st s20 (q_RF t 8) 6 10 y19 fun s21 =>
          q_st s21 (q_RF t 8) 7 10 (s21 (q_RF t 0) 11) fun s22 =>
          q_st s22 (q_RF t 8) 8 10 0 fun s23 =>
          q_st s23 (q_RF t 8) 9 10 (s23 (q_RF t 0) 16) fun s24 =>
          some (0, s24)) fun j136 =>
        if r18 = 0 then (
        j136 0 s17)
        else (
        q_ld s17 (q_RF (q_RF t 0) 6) a1 5 fun v26 =>
        j136 v26 s17)) fun j105 =>
      if r13 = 0 then (
      j105 0 s12)
      else (
      q_ld s12 (q_RF (q_RF t 0) 5) a1 5 fun v28 =>
      j105 v28 s12)) fun j61 =>
    if r2 = 0 then (
    j61 0 s6)
    else (
    q_ld s6 (q_RF (q_RF t 0) 0) a0 12 fun v30 =>
    j61 v30 s6)) fun j38 =>
  if r2 = 0 then (
  j38 0 s3)
  else (
  q_ld s3 (q_RF (q_RF t 0) 1) a0 12 fun v32 =>
  j38 v32 s3)
set_option maxRecDepth 100000 in
set_option maxHeartbeats 4000000 in
theorem C_X10_factsOf {l : Launch} {w : q_Wd} {n : Nat} {t : Nat} {a0 : Int32} {a1 : Int32} (ht : q_KD t = .inl 10) {s0 : q_Sto} : q_C l w yX10_factsOf cX10_factsOf 4 (none) (q_rm 1 21) [q_rf w t, .int a0, .int a1] s0 (f_X10_factsOf n t a0 a1 s0) := q_CofG [some (q_rf w t), some (.int a0), some (.int a1), none] (by decide +kernel) rfl rfl (Nat.le_of_ble_eq_true rfl) fun cx hl hc => by
  have hc : q_ok w cx RX10 cX10_factsOf 4 (none) (q_rm 1 21) := hc
  rw [f_X10_factsOf]
  refine g_rl0 hc dX10_factsOf_0 rfl (pc2 := 1) rfl ?_
  refine g_getR hc fl_X10_12 rfl ht dX10_factsOf_1 (pc2 := 4) rfl ?_
  refine g_il1 hc dX10_factsOf_4 rfl (pc2 := 5) rfl ?_
  refine g_callV1 hc (C_X9_hasMule (kf_10_0 ht)) mv_X9_hasMule ln_X10_67 (kf_10_0 ht) ⟨by decide, by decide⟩ (Nat.le_of_ble_eq_true rfl) dX10_factsOf_5 (pc2 := 8) rfl (fun r2 s1 => ?_)
  refine g_is3 hc dX10_factsOf_8 (by decide) (L2 := [some (q_rf w t), some (.int a0), some (.int a1), some (.int r2)]) rfl (pc2 := 9) rfl ?_
  refine g_rl0 hc dX10_factsOf_9 rfl (pc2 := 10) rfl ?_
  refine g_getR hc fl_X10_50 rfl ht dX10_factsOf_10 (pc2 := 13) rfl ?_
  refine g_iconst hc dX10_factsOf_13 ic_0 (pc2 := 14) rfl ?_
  refine g_il1 hc dX10_factsOf_14 rfl (pc2 := 15) rfl ?_
  refine g_iast hc (kf_10_8 ht) (kl_10_8 ht) dX10_factsOf_15 (pc2 := 16) rfl (fun s3 => ?_)
  refine g_rl0 hc dX10_factsOf_16 rfl (pc2 := 17) rfl ?_
  refine g_getR hc fl_X10_50 rfl ht dX10_factsOf_17 (pc2 := 20) rfl ?_
  refine g_iconst hc dX10_factsOf_20 ic_1 (pc2 := 21) rfl ?_
  refine g_il3 hc dX10_factsOf_21 rfl (pc2 := 22) rfl ?_
  refine g_jn (P := fun j38 => ∀ (y4 : Int32) (s5 : q_Sto), q_G w cx 4 (none) 38 [some (q_rf w t), some (.int a0), some (.int a1), some (.int r2)] [.int y4, .int 1, q_rf w (q_RF t 8)] s5 (j38 y4 s5)) (fun y4 s5 => ?_) (fun j38 hj38 => ?_)
  · refine g_iast hc (kf_10_8 ht) (kl_10_8 ht) dX10_factsOf_38 (pc2 := 39) rfl (fun s6 => ?_)
    refine g_rl0 hc dX10_factsOf_39 rfl (pc2 := 40) rfl ?_
    refine g_getR hc fl_X10_50 rfl ht dX10_factsOf_40 (pc2 := 43) rfl ?_
    refine g_iconst hc dX10_factsOf_43 ic_2 (pc2 := 44) rfl ?_
    refine g_il3 hc dX10_factsOf_44 rfl (pc2 := 45) rfl ?_
    refine g_jn (P := fun j61 => ∀ (y7 : Int32) (s8 : q_Sto), q_G w cx 4 (none) 61 [some (q_rf w t), none, some (.int a1), none] [.int y7, .int 2, q_rf w (q_RF t 8)] s8 (j61 y7 s8)) (fun y7 s8 => ?_) (fun j61 hj61 => ?_)
    · refine g_iast hc (kf_10_8 ht) (kl_10_8 ht) dX10_factsOf_61 (pc2 := 62) rfl (fun s9 => ?_)
      refine g_rl0 hc dX10_factsOf_62 rfl (pc2 := 63) rfl ?_
      refine g_getR hc fl_X10_50 rfl ht dX10_factsOf_63 (pc2 := 66) rfl ?_
      refine g_iconst hc dX10_factsOf_66 ic_3 (pc2 := 67) rfl ?_
      refine g_iconst hc dX10_factsOf_67 ic_0 (pc2 := 68) rfl ?_
      refine g_iast hc (kf_10_8 ht) (kl_10_8 ht) dX10_factsOf_68 (pc2 := 69) rfl (fun s10 => ?_)
      refine g_rl0 hc dX10_factsOf_69 rfl (pc2 := 70) rfl ?_
      refine g_getR hc fl_X10_50 rfl ht dX10_factsOf_70 (pc2 := 73) rfl ?_
      refine g_iconst hc dX10_factsOf_73 ic_4 (pc2 := 74) rfl ?_
      refine g_iconst hc dX10_factsOf_74 ic_0 (pc2 := 75) rfl ?_
      refine g_iast hc (kf_10_8 ht) (kl_10_8 ht) dX10_factsOf_75 (pc2 := 76) rfl (fun s11 => ?_)
      refine g_rl0 hc dX10_factsOf_76 rfl (pc2 := 77) rfl ?_
      refine g_getR hc fl_X10_50 rfl ht dX10_factsOf_77 (pc2 := 80) rfl ?_
      refine g_iconst hc dX10_factsOf_80 ic_5 (pc2 := 81) rfl ?_
      refine g_rl0 hc dX10_factsOf_81 rfl (pc2 := 82) rfl ?_
      refine g_getR hc fl_X10_12 rfl ht dX10_factsOf_82 (pc2 := 85) rfl ?_
      refine g_il2 hc dX10_factsOf_85 rfl (pc2 := 86) rfl ?_
      refine g_callV1 hc (C_X9_hasMan (kf_10_0 ht)) mv_X9_hasMan ln_X10_77 (kf_10_0 ht) ⟨by decide, by decide⟩ (Nat.le_of_ble_eq_true rfl) dX10_factsOf_86 (pc2 := 89) rfl (fun r13 s12 => ?_)
      refine g_jn (P := fun j105 => ∀ (y14 : Int32) (s15 : q_Sto), q_G w cx 4 (none) 105 [some (q_rf w t), none, some (.int a1), none] [.int y14, .int 5, q_rf w (q_RF t 8)] s15 (j105 y14 s15)) (fun y14 s15 => ?_) (fun j105 hj105 => ?_)
      · refine g_iast hc (kf_10_8 ht) (kl_10_8 ht) dX10_factsOf_105 (pc2 := 106) rfl (fun s16 => ?_)
        refine g_rl0 hc dX10_factsOf_106 rfl (pc2 := 107) rfl ?_
        refine g_getR hc fl_X10_50 rfl ht dX10_factsOf_107 (pc2 := 110) rfl ?_
        refine g_bipush hc dX10_factsOf_110 bp_6 (pc2 := 112) rfl ?_
        refine g_rl0 hc dX10_factsOf_112 rfl (pc2 := 113) rfl ?_
        refine g_getR hc fl_X10_12 rfl ht dX10_factsOf_113 (pc2 := 116) rfl ?_
        refine g_il2 hc dX10_factsOf_116 rfl (pc2 := 117) rfl ?_
        refine g_callV1 hc (C_X9_hasMan (kf_10_0 ht)) mv_X9_hasMan ln_X10_77 (kf_10_0 ht) ⟨by decide, by decide⟩ (Nat.le_of_ble_eq_true rfl) dX10_factsOf_117 (pc2 := 120) rfl (fun r18 s17 => ?_)
        refine g_jn (P := fun j136 => ∀ (y19 : Int32) (s20 : q_Sto), q_G w cx 4 (none) 136 [some (q_rf w t), none, none, none] [.int y19, .int 6, q_rf w (q_RF t 8)] s20 (j136 y19 s20)) (fun y19 s20 => ?_) (fun j136 hj136 => ?_)
        · refine g_iast hc (kf_10_8 ht) (kl_10_8 ht) dX10_factsOf_136 (pc2 := 137) rfl (fun s21 => ?_)
          refine g_rl0 hc dX10_factsOf_137 rfl (pc2 := 138) rfl ?_
          refine g_getR hc fl_X10_50 rfl ht dX10_factsOf_138 (pc2 := 141) rfl ?_
          refine g_bipush hc dX10_factsOf_141 bp_7 (pc2 := 143) rfl ?_
          refine g_rl0 hc dX10_factsOf_143 rfl (pc2 := 144) rfl ?_
          refine g_getR hc fl_X10_12 rfl ht dX10_factsOf_144 (pc2 := 147) rfl ?_
          refine g_getI hc fl_X10_86 rfl (kf_10_0 ht) dX10_factsOf_147 (pc2 := 150) rfl ?_
          refine g_iast hc (kf_10_8 ht) (kl_10_8 ht) dX10_factsOf_150 (pc2 := 151) rfl (fun s22 => ?_)
          refine g_rl0 hc dX10_factsOf_151 rfl (pc2 := 152) rfl ?_
          refine g_getR hc fl_X10_50 rfl ht dX10_factsOf_152 (pc2 := 155) rfl ?_
          refine g_bipush hc dX10_factsOf_155 bp_8 (pc2 := 157) rfl ?_
          refine g_iconst hc dX10_factsOf_157 ic_0 (pc2 := 158) rfl ?_
          refine g_iast hc (kf_10_8 ht) (kl_10_8 ht) dX10_factsOf_158 (pc2 := 159) rfl (fun s23 => ?_)
          refine g_rl0 hc dX10_factsOf_159 rfl (pc2 := 160) rfl ?_
          refine g_getR hc fl_X10_50 rfl ht dX10_factsOf_160 (pc2 := 163) rfl ?_
          refine g_bipush hc dX10_factsOf_163 bp_9 (pc2 := 165) rfl ?_
          refine g_rl0 hc dX10_factsOf_165 rfl (pc2 := 166) rfl ?_
          refine g_getR hc fl_X10_12 rfl ht dX10_factsOf_166 (pc2 := 169) rfl ?_
          refine g_getI hc fl_X10_90 rfl (kf_10_0 ht) dX10_factsOf_169 (pc2 := 172) rfl ?_
          refine g_iast hc (kf_10_8 ht) (kl_10_8 ht) dX10_factsOf_172 (pc2 := 173) rfl (fun s24 => ?_)
          exact g_vret hc dX10_factsOf_173
        · refine g_if_eq hc dX10_factsOf_120 (pc1 := 135) (pc2 := 123) rfl rfl (fun _ => ?_) (fun _ => ?_)
          · refine g_iconst hc dX10_factsOf_135 ic_0 (pc2 := 136) rfl ?_
            refine q_Gmask [true, true, false, true] (L2 := [some (q_rf w t), none, none, none]) rfl ?_
            exact hj136 _ _
          · refine g_rl0 hc dX10_factsOf_123 rfl (pc2 := 124) rfl ?_
            refine g_getR hc fl_X10_12 rfl ht dX10_factsOf_124 (pc2 := 127) rfl ?_
            refine g_getR hc fl_X10_83 rfl (kf_10_0 ht) dX10_factsOf_127 (pc2 := 130) rfl ?_
            refine g_il2 hc dX10_factsOf_130 rfl (pc2 := 131) rfl ?_
            refine g_iald hc (kf_9_6 (kf_10_0 ht)) (kl_9_6 (kf_10_0 ht)) dX10_factsOf_131 (pc2 := 132) rfl (fun v26 => ?_)
            refine g_goto hc dX10_factsOf_132 (pc2 := 136) rfl ?_
            refine q_Gmask [true, true, false, true] (L2 := [some (q_rf w t), none, none, none]) rfl ?_
            exact hj136 _ _
      · refine g_if_eq hc dX10_factsOf_89 (pc1 := 104) (pc2 := 92) rfl rfl (fun _ => ?_) (fun _ => ?_)
        · refine g_iconst hc dX10_factsOf_104 ic_0 (pc2 := 105) rfl ?_
          exact hj105 _ _
        · refine g_rl0 hc dX10_factsOf_92 rfl (pc2 := 93) rfl ?_
          refine g_getR hc fl_X10_12 rfl ht dX10_factsOf_93 (pc2 := 96) rfl ?_
          refine g_getR hc fl_X10_80 rfl (kf_10_0 ht) dX10_factsOf_96 (pc2 := 99) rfl ?_
          refine g_il2 hc dX10_factsOf_99 rfl (pc2 := 100) rfl ?_
          refine g_iald hc (kf_9_5 (kf_10_0 ht)) (kl_9_5 (kf_10_0 ht)) dX10_factsOf_100 (pc2 := 101) rfl (fun v28 => ?_)
          refine g_goto hc dX10_factsOf_101 (pc2 := 105) rfl ?_
          exact hj105 _ _
    · refine g_if_eq hc dX10_factsOf_45 (pc1 := 60) (pc2 := 48) rfl rfl (fun _ => ?_) (fun _ => ?_)
      · refine g_iconst hc dX10_factsOf_60 ic_0 (pc2 := 61) rfl ?_
        refine q_Gmask [true, false, true, false] (L2 := [some (q_rf w t), none, some (.int a1), none]) rfl ?_
        exact hj61 _ _
      · refine g_rl0 hc dX10_factsOf_48 rfl (pc2 := 49) rfl ?_
        refine g_getR hc fl_X10_12 rfl ht dX10_factsOf_49 (pc2 := 52) rfl ?_
        refine g_getR hc fl_X10_74 rfl (kf_10_0 ht) dX10_factsOf_52 (pc2 := 55) rfl ?_
        refine g_il1 hc dX10_factsOf_55 rfl (pc2 := 56) rfl ?_
        refine g_iald hc (kf_9_0 (kf_10_0 ht)) (kl_9_0 (kf_10_0 ht)) dX10_factsOf_56 (pc2 := 57) rfl (fun v30 => ?_)
        refine g_goto hc dX10_factsOf_57 (pc2 := 61) rfl ?_
        refine q_Gmask [true, false, true, false] (L2 := [some (q_rf w t), none, some (.int a1), none]) rfl ?_
        exact hj61 _ _
  · refine g_if_eq hc dX10_factsOf_22 (pc1 := 37) (pc2 := 25) rfl rfl (fun _ => ?_) (fun _ => ?_)
    · refine g_iconst hc dX10_factsOf_37 ic_0 (pc2 := 38) rfl ?_
      exact hj38 _ _
    · refine g_rl0 hc dX10_factsOf_25 rfl (pc2 := 26) rfl ?_
      refine g_getR hc fl_X10_12 rfl ht dX10_factsOf_26 (pc2 := 29) rfl ?_
      refine g_getR hc fl_X10_71 rfl (kf_10_0 ht) dX10_factsOf_29 (pc2 := 32) rfl ?_
      refine g_il1 hc dX10_factsOf_32 rfl (pc2 := 33) rfl ?_
      refine g_iald hc (kf_9_1 (kf_10_0 ht)) (kl_9_1 (kf_10_0 ht)) dX10_factsOf_33 (pc2 := 34) rfl (fun v32 => ?_)
      refine g_goto hc dX10_factsOf_34 (pc2 := 38) rfl ?_
      exact hj38 _ _
set_option maxRecDepth 100000 in
set_option maxHeartbeats 4000000 in
def f_X2_run_L6 (n : Nat) (x0 : Nat) (x2 : Int32) (x3 : Nat) (k442 : Int32 → q_Sto → Option (Int32 × q_Sto)) : Nat → Int32 → Int32 → q_Sto → Option (Int32 × q_Sto)
  | 0, _, _, _ => none
  | j + 1, x4, x5, s0 =>
    if x5 < 0 then (
    k442 x4 s0)
    else (
    if x5 < x2 then (
    if x5 < 400 then (
    q_ld s0 (q_RF x0 5) x5 400 fun v4 =>
    q_ld s0 (q_RF x0 4) x5 400 fun v5 =>
    q_jn (fun  (s6 : q_Sto) =>
      if x4 < 399 then (
      q_jn (fun  (s8 : q_Sto) =>
        q_ld s8 (q_RF x0 4) x5 400 fun v9 =>
        if v9 = 0 then (
        q_st s8 (q_RF x0 6) (x4 + 1) 400 v4 fun s11 =>
        f_X2_run_L6 n x0 x2 x3 k442 j (x4 + 1) (x5 + 1) s11)
        else (
        if (0 : Int32) = 0 then (
        q_st s8 (q_RF x0 6) (x4 + 1) 400 0 fun s13 =>
        f_X2_run_L6 n x0 x2 x3 k442 j (x4 + 1) (x5 + 1) s13)
        else (
        q_ld s8 x3 v4 10 fun v14 =>
        q_st s8 (q_RF x0 6) (x4 + 1) 400 v14 fun s15 =>
        f_X2_run_L6 n x0 x2 x3 k442 j (x4 + 1) (x5 + 1) s15))) fun j82 =>
      q_jn (fun (y16 : Int32) (s17 : q_Sto) =>
        q_ld s17 (q_RF x0 4) x5 400 fun v18 =>
        if v18 = 0 then (
        q_st s17 (q_RF x0 6) (x4 + 1) 400 v4 fun s20 =>
        f_X2_run_L6 n x0 x2 x3 k442 j (x4 + 1) (x5 + 1) s20)
        else (
        if y16 = 0 then (
        q_st s17 (q_RF x0 6) (x4 + 1) 400 0 fun s22 =>
        f_X2_run_L6 n x0 x2 x3 k442 j (x4 + 1) (x5 + 1) s22)
        else (
        q_ld s17 x3 v4 10 fun v23 =>
        q_st s17 (q_RF x0 6) (x4 + 1) 400 v23 fun s24 =>
        f_X2_run_L6 n x0 x2 x3 k442 j (x4 + 1) (x5 + 1) s24))) fun j83 =>
      if v4 < 0 then (
      j82 s6)
      else (
      if v4 < (Int32.ofNat 10) then (
      j83 1 s6)
      else (
      j82 s6)))
      else (
      f_X2_run_L6 n x0 x2 x3 k442 j x4 (x5 + 1) s6)) fun j55 =>
    if v5 = 0 then (
    j55 s0)
    else (
    q_ld s0 (q_RF x0 4) x5 400 fun v28 =>
    if v28 = 1 then (
    j55 s0)
    else (
    q_ld s0 (q_RF x0 4) x5 400 fun v30 =>
    q_jn (fun  (s31 : q_Sto) =>
      q_jn (fun (y32 : Int32) (s33 : q_Sto) =>
        if x4 < y32 then (
        f_X2_run_L6 n x0 x2 x3 k442 j x4 (x5 + 1) s33)
        else (
        q_ld s33 (q_RF x0 6) x4 400 fun v35 =>
        q_jn (fun (y36 : Int32) (s37 : q_Sto) =>
          q_nm (x4 - y36) fun v38 =>
          q_ld s37 (q_RF x0 6) v38 400 fun v39 =>
          q_ld s37 (q_RF x0 4) x5 400 fun v40 =>
          if v40 = 2 then (
          if v4 = 0 then (
          q_st s37 (q_RF x0 6) v38 400 0 fun s43 =>
          f_X2_run_L6 n x0 x2 x3 k442 j v38 (x5 + 1) s43)
          else (
          q_dv v39 v4 fun v44 =>
          q_st s37 (q_RF x0 6) v38 400 v44 fun s45 =>
          f_X2_run_L6 n x0 x2 x3 k442 j v38 (x5 + 1) s45))
          else
          if v40 = 3 then (
          q_st s37 (q_RF x0 6) v38 400 (v39 * v35) fun s47 =>
          f_X2_run_L6 n x0 x2 x3 k442 j v38 (x5 + 1) s47)
          else
          if v40 = 4 then (
          q_st s37 (q_RF x0 6) v38 400 (v39 + v35) fun s49 =>
          f_X2_run_L6 n x0 x2 x3 k442 j v38 (x5 + 1) s49)
          else
          if v40 = 5 then (
          q_st s37 (q_RF x0 6) v38 400 (v39 - v35) fun s51 =>
          f_X2_run_L6 n x0 x2 x3 k442 j v38 (x5 + 1) s51)
          else
          if v40 = 6 then (
          if v39 < v35 then (
          q_st s37 (q_RF x0 6) v38 400 1 fun s54 =>
          f_X2_run_L6 n x0 x2 x3 k442 j v38 (x5 + 1) s54)
          else (
          q_st s37 (q_RF x0 6) v38 400 0 fun s55 =>
          f_X2_run_L6 n x0 x2 x3 k442 j v38 (x5 + 1) s55))
          else
          if v40 = 7 then (
          if v39 = v35 then (
          q_st s37 (q_RF x0 6) v38 400 1 fun s58 =>
          f_X2_run_L6 n x0 x2 x3 k442 j v38 (x5 + 1) s58)
          else (
          q_st s37 (q_RF x0 6) v38 400 0 fun s59 =>
          f_X2_run_L6 n x0 x2 x3 k442 j v38 (x5 + 1) s59))
          else
          if v40 = 8 then (
          if v39 ≤ v35 then (
          q_st s37 (q_RF x0 6) v38 400 0 fun s62 =>
          f_X2_run_L6 n x0 x2 x3 k442 j v38 (x5 + 1) s62)
          else (
          q_st s37 (q_RF x0 6) v38 400 1 fun s63 =>
          f_X2_run_L6 n x0 x2 x3 k442 j v38 (x5 + 1) s63))
          else
          if v40 = 9 then (
          q_st s37 (q_RF x0 6) v38 400 (1 - v39) fun s65 =>
          f_X2_run_L6 n x0 x2 x3 k442 j v38 (x5 + 1) s65)
          else
          if v40 = 10 then (
          q_st s37 (q_RF x0 6) v38 400 (v39 &&& v35) fun s67 =>
          f_X2_run_L6 n x0 x2 x3 k442 j v38 (x5 + 1) s67)
          else
          (q_st s37 (q_RF x0 6) v38 400 (v39 ||| v35) fun s68 =>
          f_X2_run_L6 n x0 x2 x3 k442 j v38 (x5 + 1) s68)) fun j192 =>
        if (1 : Int32) = 0 then (
        j192 1 s33)
        else (
        j192 0 s33))) fun j165 =>
      if (1 : Int32) = 0 then (
      j165 1 s31)
      else (
      j165 0 s31)) fun j146 =>
    q_jn (fun (y71 : Int32) (s72 : q_Sto) =>
      q_jn (fun (y73 : Int32) (s74 : q_Sto) =>
        if x4 < y73 then (
        f_X2_run_L6 n x0 x2 x3 k442 j x4 (x5 + 1) s74)
        else (
        q_ld s74 (q_RF x0 6) x4 400 fun v76 =>
        q_jn (fun (y77 : Int32) (s78 : q_Sto) =>
          q_nm (x4 - y77) fun v79 =>
          q_ld s78 (q_RF x0 6) v79 400 fun v80 =>
          q_ld s78 (q_RF x0 4) x5 400 fun v81 =>
          if v81 = 2 then (
          if v4 = 0 then (
          q_st s78 (q_RF x0 6) v79 400 0 fun s84 =>
          f_X2_run_L6 n x0 x2 x3 k442 j v79 (x5 + 1) s84)
          else (
          q_dv v80 v4 fun v85 =>
          q_st s78 (q_RF x0 6) v79 400 v85 fun s86 =>
          f_X2_run_L6 n x0 x2 x3 k442 j v79 (x5 + 1) s86))
          else
          if v81 = 3 then (
          q_st s78 (q_RF x0 6) v79 400 (v80 * v76) fun s88 =>
          f_X2_run_L6 n x0 x2 x3 k442 j v79 (x5 + 1) s88)
          else
          if v81 = 4 then (
          q_st s78 (q_RF x0 6) v79 400 (v80 + v76) fun s90 =>
          f_X2_run_L6 n x0 x2 x3 k442 j v79 (x5 + 1) s90)
          else
          if v81 = 5 then (
          q_st s78 (q_RF x0 6) v79 400 (v80 - v76) fun s92 =>
          f_X2_run_L6 n x0 x2 x3 k442 j v79 (x5 + 1) s92)
          else
          if v81 = 6 then (
          if v80 < v76 then (
          q_st s78 (q_RF x0 6) v79 400 1 fun s95 =>
          f_X2_run_L6 n x0 x2 x3 k442 j v79 (x5 + 1) s95)
          else (
          q_st s78 (q_RF x0 6) v79 400 0 fun s96 =>
          f_X2_run_L6 n x0 x2 x3 k442 j v79 (x5 + 1) s96))
          else
          if v81 = 7 then (
          if v80 = v76 then (
          q_st s78 (q_RF x0 6) v79 400 1 fun s99 =>
          f_X2_run_L6 n x0 x2 x3 k442 j v79 (x5 + 1) s99)
          else (
          q_st s78 (q_RF x0 6) v79 400 0 fun s100 =>
          f_X2_run_L6 n x0 x2 x3 k442 j v79 (x5 + 1) s100))
          else
          if v81 = 8 then (
          if v80 ≤ v76 then (
          q_st s78 (q_RF x0 6) v79 400 0 fun s103 =>
          f_X2_run_L6 n x0 x2 x3 k442 j v79 (x5 + 1) s103)
          else (
          q_st s78 (q_RF x0 6) v79 400 1 fun s104 =>
          f_X2_run_L6 n x0 x2 x3 k442 j v79 (x5 + 1) s104))
          else
          if v81 = 9 then (
          q_st s78 (q_RF x0 6) v79 400 (1 - v80) fun s106 =>
          f_X2_run_L6 n x0 x2 x3 k442 j v79 (x5 + 1) s106)
          else
          if v81 = 10 then (
          q_st s78 (q_RF x0 6) v79 400 (v80 &&& v76) fun s108 =>
          f_X2_run_L6 n x0 x2 x3 k442 j v79 (x5 + 1) s108)
          else
          (q_st s78 (q_RF x0 6) v79 400 (v80 ||| v76) fun s109 =>
          f_X2_run_L6 n x0 x2 x3 k442 j v79 (x5 + 1) s109)) fun j192 =>
        if y71 = 0 then (
        j192 1 s74)
        else (
        j192 0 s74))) fun j165 =>
      if y71 = 0 then (
      j165 1 s72)
      else (
      j165 0 s72)) fun j151 =>
    if v30 = 2 then (
    j146 s0)
    else (
    q_ld s0 (q_RF x0 4) x5 400 fun v113 =>
    if v113 = 9 then (
    j146 s0)
    else (
    j151 0 s0)))))
    else (
    k442 x4 s0))
    else (
    k442 x4 s0))
set_option maxRecDepth 100000 in
set_option maxHeartbeats 4000000 in
def f_X2_run (n : Nat) (t : Nat) (a0 : Int32) (a1 : Int32) (a2 : Nat) (s0 : q_Sto) : Option (Int32 × q_Sto) :=
  f_X2_run_L6 n t a1 a2 (fun (y115 : Int32) (s116 : q_Sto) =>
  if y115 < 0 then (
  some (0, s116))
  else (
  q_ld s116 (q_RF t 6) y115 400 fun v118 =>
  some (v118, s116))) n (-1) a0 s0
set_option maxRecDepth 100000 in
set_option maxHeartbeats 4000000 in
theorem t_X2_run_L6 {w : q_Wd} {cx : q_Cx} (hc : q_ok w cx RX2 cX2_run 10 (some .int) (q_rm 0 0)) {n : Nat} {x0 : Nat} {x2 : Int32} {x3 : Nat} (hx0 : q_KD x0 = .inl 2) (hx3 : q_KD x3 = .inr (10, false)) (lx3 : x3 < q_N0) {k442 : Int32 → q_Sto → Option (Int32 × q_Sto)} (hk442 : ∀ (y4 : Int32) (s1 : q_Sto), q_G w cx 10 (some .int) 442 [some (q_rf w x0), none, none, none, some (.int y4), none, none, none, none, none] [] s1 (k442 y4 s1)) :
    ∀ (j : Nat) (x4 : Int32) (x5 : Int32) (s0 : q_Sto), q_G w cx 10 (some .int) 6 [some (q_rf w x0), none, some (.int x2), some (q_rf w x3), some (.int x4), some (.int x5), none, none, none, none] [] s0 (f_X2_run_L6 n x0 x2 x3 k442 j x4 x5 s0) := by
  intro j
  induction j with
  | zero =>
    intro _ _ _
    rw [f_X2_run_L6]
    exact q_none
  | succ j ih =>
    intro x4 x5 s0
    rw [f_X2_run_L6]
    refine g_iload hc dX2_run_6 rfl (pc2 := 8) rfl ?_
    refine g_if_lt hc dX2_run_8 (pc1 := 442) (pc2 := 11) rfl rfl (fun _ => ?_) (fun _ => ?_)
    · refine q_Gmask [true, true, false, false, true, false, true, true, true, true] (L2 := [some (q_rf w x0), none, none, none, some (.int x4), none, none, none, none, none]) rfl ?_
      exact hk442 _ _
    · refine g_iload hc dX2_run_11 rfl (pc2 := 13) rfl ?_
      refine g_il2 hc dX2_run_13 rfl (pc2 := 14) rfl ?_
      refine g_icmp_ge hc dX2_run_14 (pc1 := 17) (pc2 := 442) rfl rfl (fun _ => ?_) (fun _ => ?_)
      · refine g_iload hc dX2_run_17 rfl (pc2 := 19) rfl ?_
        refine g_sipush hc dX2_run_19 sp_400 (pc2 := 22) rfl ?_
        refine g_icmp_ge hc dX2_run_22 (pc1 := 25) (pc2 := 442) rfl rfl (fun _ => ?_) (fun _ => ?_)
        · refine g_rl0 hc dX2_run_25 rfl (pc2 := 26) rfl ?_
          refine g_getR hc fl_X2_27 rfl hx0 dX2_run_26 (pc2 := 29) rfl ?_
          refine g_iload hc dX2_run_29 rfl (pc2 := 31) rfl ?_
          refine g_iald hc (kf_2_5 hx0) (kl_2_5 hx0) dX2_run_31 (pc2 := 32) rfl (fun v4 => ?_)
          refine g_istore hc dX2_run_32 (by decide) (L2 := [some (q_rf w x0), none, some (.int x2), some (q_rf w x3), some (.int x4), some (.int x5), some (.int v4), none, none, none]) rfl (pc2 := 34) rfl ?_
          refine g_rl0 hc dX2_run_34 rfl (pc2 := 35) rfl ?_
          refine g_getR hc fl_X2_24 rfl hx0 dX2_run_35 (pc2 := 38) rfl ?_
          refine g_iload hc dX2_run_38 rfl (pc2 := 40) rfl ?_
          refine g_iald hc (kf_2_4 hx0) (kl_2_4 hx0) dX2_run_40 (pc2 := 41) rfl (fun v5 => ?_)
          refine g_jn (P := fun j55 => ∀  (s6 : q_Sto), q_G w cx 10 (some .int) 55 [some (q_rf w x0), none, some (.int x2), some (q_rf w x3), some (.int x4), some (.int x5), some (.int v4), none, none, none] [] s6 (j55 s6)) (fun s6 => ?_) (fun j55 hj55 => ?_)
          · refine g_iload hc dX2_run_55 rfl (pc2 := 57) rfl ?_
            refine g_sipush hc dX2_run_57 sp_399 (pc2 := 60) rfl ?_
            refine g_icmp_ge hc dX2_run_60 (pc1 := 63) (pc2 := 436) rfl rfl (fun _ => ?_) (fun _ => ?_)
            · refine g_iinc hc dX2_run_63 rfl (q_ii ic_1) (by decide) (L2 := [some (q_rf w x0), none, some (.int x2), some (q_rf w x3), some (.int (x4 + 1)), some (.int x5), some (.int v4), none, none, none]) rfl (pc2 := 66) rfl ?_
              refine g_iload hc dX2_run_66 rfl (pc2 := 68) rfl ?_
              refine g_jn (P := fun j82 => ∀  (s8 : q_Sto), q_G w cx 10 (some .int) 82 [some (q_rf w x0), none, some (.int x2), some (q_rf w x3), some (.int (x4 + 1)), some (.int x5), some (.int v4), none, none, none] [] s8 (j82 s8)) (fun s8 => ?_) (fun j82 hj82 => ?_)
              · refine g_iconst hc dX2_run_82 ic_0 (pc2 := 83) rfl ?_
                refine g_istore hc dX2_run_83 (by decide) (L2 := [some (q_rf w x0), none, some (.int x2), some (q_rf w x3), some (.int (x4 + 1)), some (.int x5), some (.int v4), some (.int 0), none, none]) rfl (pc2 := 85) rfl ?_
                refine g_rl0 hc dX2_run_85 rfl (pc2 := 86) rfl ?_
                refine g_getR hc fl_X2_30 rfl hx0 dX2_run_86 (pc2 := 89) rfl ?_
                refine g_iload hc dX2_run_89 rfl (pc2 := 91) rfl ?_
                refine g_rl0 hc dX2_run_91 rfl (pc2 := 92) rfl ?_
                refine g_getR hc fl_X2_24 rfl hx0 dX2_run_92 (pc2 := 95) rfl ?_
                refine g_iload hc dX2_run_95 rfl (pc2 := 97) rfl ?_
                refine g_iald hc (kf_2_4 hx0) (kl_2_4 hx0) dX2_run_97 (pc2 := 98) rfl (fun v9 => ?_)
                refine g_if_ne hc dX2_run_98 (pc1 := 101) (pc2 := 106) rfl rfl (fun _ => ?_) (fun _ => ?_)
                · refine g_iload hc dX2_run_101 rfl (pc2 := 103) rfl ?_
                  refine g_goto hc dX2_run_103 (pc2 := 119) rfl ?_
                  refine g_iast hc (kf_2_6 hx0) (kl_2_6 hx0) dX2_run_119 (pc2 := 120) rfl (fun s11 => ?_)
                  refine g_goto hc dX2_run_120 (pc2 := 436) rfl ?_
                  refine g_iinc hc dX2_run_436 rfl (q_ii ic_1) (by decide) (L2 := [some (q_rf w x0), none, some (.int x2), some (q_rf w x3), some (.int (x4 + 1)), some (.int (x5 + 1)), some (.int v4), some (.int 0), none, none]) rfl (pc2 := 439) rfl ?_
                  refine g_goto hc dX2_run_439 (pc2 := 6) rfl ?_
                  refine q_Gmask [true, true, true, true, true, true, false, false, true, true] (L2 := [some (q_rf w x0), none, some (.int x2), some (q_rf w x3), some (.int (x4 + 1)), some (.int (x5 + 1)), none, none, none, none]) rfl ?_
                  exact ih _ _ _
                · refine g_iload hc dX2_run_106 rfl (pc2 := 108) rfl ?_
                  refine g_if_eq hc dX2_run_108 (pc1 := 118) (pc2 := 111) rfl rfl (fun _ => ?_) (fun _ => ?_)
                  · refine g_iconst hc dX2_run_118 ic_0 (pc2 := 119) rfl ?_
                    refine g_iast hc (kf_2_6 hx0) (kl_2_6 hx0) dX2_run_119 (pc2 := 120) rfl (fun s13 => ?_)
                    refine g_goto hc dX2_run_120 (pc2 := 436) rfl ?_
                    refine g_iinc hc dX2_run_436 rfl (q_ii ic_1) (by decide) (L2 := [some (q_rf w x0), none, some (.int x2), some (q_rf w x3), some (.int (x4 + 1)), some (.int (x5 + 1)), some (.int v4), some (.int 0), none, none]) rfl (pc2 := 439) rfl ?_
                    refine g_goto hc dX2_run_439 (pc2 := 6) rfl ?_
                    refine q_Gmask [true, true, true, true, true, true, false, false, true, true] (L2 := [some (q_rf w x0), none, some (.int x2), some (q_rf w x3), some (.int (x4 + 1)), some (.int (x5 + 1)), none, none, none, none]) rfl ?_
                    exact ih _ _ _
                  · refine g_rl3 hc dX2_run_111 rfl (pc2 := 112) rfl ?_
                    refine g_iload hc dX2_run_112 rfl (pc2 := 114) rfl ?_
                    refine g_iald hc hx3 lx3 dX2_run_114 (pc2 := 115) rfl (fun v14 => ?_)
                    refine g_goto hc dX2_run_115 (pc2 := 119) rfl ?_
                    refine g_iast hc (kf_2_6 hx0) (kl_2_6 hx0) dX2_run_119 (pc2 := 120) rfl (fun s15 => ?_)
                    refine g_goto hc dX2_run_120 (pc2 := 436) rfl ?_
                    refine g_iinc hc dX2_run_436 rfl (q_ii ic_1) (by decide) (L2 := [some (q_rf w x0), none, some (.int x2), some (q_rf w x3), some (.int (x4 + 1)), some (.int (x5 + 1)), some (.int v4), some (.int 0), none, none]) rfl (pc2 := 439) rfl ?_
                    refine g_goto hc dX2_run_439 (pc2 := 6) rfl ?_
                    refine q_Gmask [true, true, true, true, true, true, false, false, true, true] (L2 := [some (q_rf w x0), none, some (.int x2), some (q_rf w x3), some (.int (x4 + 1)), some (.int (x5 + 1)), none, none, none, none]) rfl ?_
                    exact ih _ _ _
              · refine g_jn (P := fun j83 => ∀ (y16 : Int32) (s17 : q_Sto), q_G w cx 10 (some .int) 83 [some (q_rf w x0), none, some (.int x2), some (q_rf w x3), some (.int (x4 + 1)), some (.int x5), some (.int v4), none, none, none] [.int y16] s17 (j83 y16 s17)) (fun y16 s17 => ?_) (fun j83 hj83 => ?_)
                · refine g_istore hc dX2_run_83 (by decide) (L2 := [some (q_rf w x0), none, some (.int x2), some (q_rf w x3), some (.int (x4 + 1)), some (.int x5), some (.int v4), some (.int y16), none, none]) rfl (pc2 := 85) rfl ?_
                  refine g_rl0 hc dX2_run_85 rfl (pc2 := 86) rfl ?_
                  refine g_getR hc fl_X2_30 rfl hx0 dX2_run_86 (pc2 := 89) rfl ?_
                  refine g_iload hc dX2_run_89 rfl (pc2 := 91) rfl ?_
                  refine g_rl0 hc dX2_run_91 rfl (pc2 := 92) rfl ?_
                  refine g_getR hc fl_X2_24 rfl hx0 dX2_run_92 (pc2 := 95) rfl ?_
                  refine g_iload hc dX2_run_95 rfl (pc2 := 97) rfl ?_
                  refine g_iald hc (kf_2_4 hx0) (kl_2_4 hx0) dX2_run_97 (pc2 := 98) rfl (fun v18 => ?_)
                  refine g_if_ne hc dX2_run_98 (pc1 := 101) (pc2 := 106) rfl rfl (fun _ => ?_) (fun _ => ?_)
                  · refine g_iload hc dX2_run_101 rfl (pc2 := 103) rfl ?_
                    refine g_goto hc dX2_run_103 (pc2 := 119) rfl ?_
                    refine g_iast hc (kf_2_6 hx0) (kl_2_6 hx0) dX2_run_119 (pc2 := 120) rfl (fun s20 => ?_)
                    refine g_goto hc dX2_run_120 (pc2 := 436) rfl ?_
                    refine g_iinc hc dX2_run_436 rfl (q_ii ic_1) (by decide) (L2 := [some (q_rf w x0), none, some (.int x2), some (q_rf w x3), some (.int (x4 + 1)), some (.int (x5 + 1)), some (.int v4), some (.int y16), none, none]) rfl (pc2 := 439) rfl ?_
                    refine g_goto hc dX2_run_439 (pc2 := 6) rfl ?_
                    refine q_Gmask [true, true, true, true, true, true, false, false, true, true] (L2 := [some (q_rf w x0), none, some (.int x2), some (q_rf w x3), some (.int (x4 + 1)), some (.int (x5 + 1)), none, none, none, none]) rfl ?_
                    exact ih _ _ _
                  · refine g_iload hc dX2_run_106 rfl (pc2 := 108) rfl ?_
                    refine g_if_eq hc dX2_run_108 (pc1 := 118) (pc2 := 111) rfl rfl (fun _ => ?_) (fun _ => ?_)
                    · refine g_iconst hc dX2_run_118 ic_0 (pc2 := 119) rfl ?_
                      refine g_iast hc (kf_2_6 hx0) (kl_2_6 hx0) dX2_run_119 (pc2 := 120) rfl (fun s22 => ?_)
                      refine g_goto hc dX2_run_120 (pc2 := 436) rfl ?_
                      refine g_iinc hc dX2_run_436 rfl (q_ii ic_1) (by decide) (L2 := [some (q_rf w x0), none, some (.int x2), some (q_rf w x3), some (.int (x4 + 1)), some (.int (x5 + 1)), some (.int v4), some (.int y16), none, none]) rfl (pc2 := 439) rfl ?_
                      refine g_goto hc dX2_run_439 (pc2 := 6) rfl ?_
                      refine q_Gmask [true, true, true, true, true, true, false, false, true, true] (L2 := [some (q_rf w x0), none, some (.int x2), some (q_rf w x3), some (.int (x4 + 1)), some (.int (x5 + 1)), none, none, none, none]) rfl ?_
                      exact ih _ _ _
                    · refine g_rl3 hc dX2_run_111 rfl (pc2 := 112) rfl ?_
                      refine g_iload hc dX2_run_112 rfl (pc2 := 114) rfl ?_
                      refine g_iald hc hx3 lx3 dX2_run_114 (pc2 := 115) rfl (fun v23 => ?_)
                      refine g_goto hc dX2_run_115 (pc2 := 119) rfl ?_
                      refine g_iast hc (kf_2_6 hx0) (kl_2_6 hx0) dX2_run_119 (pc2 := 120) rfl (fun s24 => ?_)
                      refine g_goto hc dX2_run_120 (pc2 := 436) rfl ?_
                      refine g_iinc hc dX2_run_436 rfl (q_ii ic_1) (by decide) (L2 := [some (q_rf w x0), none, some (.int x2), some (q_rf w x3), some (.int (x4 + 1)), some (.int (x5 + 1)), some (.int v4), some (.int y16), none, none]) rfl (pc2 := 439) rfl ?_
                      refine g_goto hc dX2_run_439 (pc2 := 6) rfl ?_
                      refine q_Gmask [true, true, true, true, true, true, false, false, true, true] (L2 := [some (q_rf w x0), none, some (.int x2), some (q_rf w x3), some (.int (x4 + 1)), some (.int (x5 + 1)), none, none, none, none]) rfl ?_
                      exact ih _ _ _
                · refine g_if_lt hc dX2_run_68 (pc1 := 82) (pc2 := 71) rfl rfl (fun _ => ?_) (fun _ => ?_)
                  · exact hj82 _
                  · refine g_iload hc dX2_run_71 rfl (pc2 := 73) rfl ?_
                    refine g_rl3 hc dX2_run_73 rfl (pc2 := 74) rfl ?_
                    refine g_alen hc hx3 lx3 dX2_run_74 (pc2 := 75) rfl ?_
                    refine g_icmp_ge hc dX2_run_75 (pc1 := 78) (pc2 := 82) rfl rfl (fun _ => ?_) (fun _ => ?_)
                    · refine g_iconst hc dX2_run_78 ic_1 (pc2 := 79) rfl ?_
                      refine g_goto hc dX2_run_79 (pc2 := 83) rfl ?_
                      exact hj83 _ _
                    · exact hj82 _
            · refine g_iinc hc dX2_run_436 rfl (q_ii ic_1) (by decide) (L2 := [some (q_rf w x0), none, some (.int x2), some (q_rf w x3), some (.int x4), some (.int (x5 + 1)), some (.int v4), none, none, none]) rfl (pc2 := 439) rfl ?_
              refine g_goto hc dX2_run_439 (pc2 := 6) rfl ?_
              refine q_Gmask [true, true, true, true, true, true, false, true, true, true] (L2 := [some (q_rf w x0), none, some (.int x2), some (q_rf w x3), some (.int x4), some (.int (x5 + 1)), none, none, none, none]) rfl ?_
              exact ih _ _ _
          · refine g_if_eq hc dX2_run_41 (pc1 := 55) (pc2 := 44) rfl rfl (fun _ => ?_) (fun _ => ?_)
            · exact hj55 _
            · refine g_rl0 hc dX2_run_44 rfl (pc2 := 45) rfl ?_
              refine g_getR hc fl_X2_24 rfl hx0 dX2_run_45 (pc2 := 48) rfl ?_
              refine g_iload hc dX2_run_48 rfl (pc2 := 50) rfl ?_
              refine g_iald hc (kf_2_4 hx0) (kl_2_4 hx0) dX2_run_50 (pc2 := 51) rfl (fun v28 => ?_)
              refine g_iconst hc dX2_run_51 ic_1 (pc2 := 52) rfl ?_
              refine g_icmp_ne hc dX2_run_52 (pc1 := 55) (pc2 := 123) rfl rfl (fun _ => ?_) (fun _ => ?_)
              · exact hj55 _
              · refine g_rl0 hc dX2_run_123 rfl (pc2 := 124) rfl ?_
                refine g_getR hc fl_X2_24 rfl hx0 dX2_run_124 (pc2 := 127) rfl ?_
                refine g_iload hc dX2_run_127 rfl (pc2 := 129) rfl ?_
                refine g_iald hc (kf_2_4 hx0) (kl_2_4 hx0) dX2_run_129 (pc2 := 130) rfl (fun v30 => ?_)
                refine g_iconst hc dX2_run_130 ic_2 (pc2 := 131) rfl ?_
                refine g_jn (P := fun j146 => ∀  (s31 : q_Sto), q_G w cx 10 (some .int) 146 [some (q_rf w x0), none, some (.int x2), some (q_rf w x3), some (.int x4), some (.int x5), some (.int v4), none, none, none] [] s31 (j146 s31)) (fun s31 => ?_) (fun j146 hj146 => ?_)
                · refine g_iconst hc dX2_run_146 ic_1 (pc2 := 147) rfl ?_
                  refine g_goto hc dX2_run_147 (pc2 := 151) rfl ?_
                  refine g_istore hc dX2_run_151 (by decide) (L2 := [some (q_rf w x0), none, some (.int x2), some (q_rf w x3), some (.int x4), some (.int x5), some (.int v4), some (.int 1), none, none]) rfl (pc2 := 153) rfl ?_
                  refine g_iload hc dX2_run_153 rfl (pc2 := 155) rfl ?_
                  refine g_iload hc dX2_run_155 rfl (pc2 := 157) rfl ?_
                  refine g_jn (P := fun j165 => ∀ (y32 : Int32) (s33 : q_Sto), q_G w cx 10 (some .int) 165 [some (q_rf w x0), none, some (.int x2), some (q_rf w x3), some (.int x4), some (.int x5), some (.int v4), some (.int 1), none, none] [.int y32, .int x4] s33 (j165 y32 s33)) (fun y32 s33 => ?_) (fun j165 hj165 => ?_)
                  · refine g_icmp_ge hc dX2_run_165 (pc1 := 168) (pc2 := 171) rfl rfl (fun _ => ?_) (fun _ => ?_)
                    · refine g_goto hc dX2_run_168 (pc2 := 436) rfl ?_
                      refine g_iinc hc dX2_run_436 rfl (q_ii ic_1) (by decide) (L2 := [some (q_rf w x0), none, some (.int x2), some (q_rf w x3), some (.int x4), some (.int (x5 + 1)), some (.int v4), some (.int 1), none, none]) rfl (pc2 := 439) rfl ?_
                      refine g_goto hc dX2_run_439 (pc2 := 6) rfl ?_
                      refine q_Gmask [true, true, true, true, true, true, false, false, true, true] (L2 := [some (q_rf w x0), none, some (.int x2), some (q_rf w x3), some (.int x4), some (.int (x5 + 1)), none, none, none, none]) rfl ?_
                      exact ih _ _ _
                    · refine g_rl0 hc dX2_run_171 rfl (pc2 := 172) rfl ?_
                      refine g_getR hc fl_X2_30 rfl hx0 dX2_run_172 (pc2 := 175) rfl ?_
                      refine g_iload hc dX2_run_175 rfl (pc2 := 177) rfl ?_
                      refine g_iald hc (kf_2_6 hx0) (kl_2_6 hx0) dX2_run_177 (pc2 := 178) rfl (fun v35 => ?_)
                      refine g_istore hc dX2_run_178 (by decide) (L2 := [some (q_rf w x0), none, some (.int x2), some (q_rf w x3), some (.int x4), some (.int x5), some (.int v4), some (.int 1), some (.int v35), none]) rfl (pc2 := 180) rfl ?_
                      refine g_iload hc dX2_run_180 rfl (pc2 := 182) rfl ?_
                      refine g_iload hc dX2_run_182 rfl (pc2 := 184) rfl ?_
                      refine g_jn (P := fun j192 => ∀ (y36 : Int32) (s37 : q_Sto), q_G w cx 10 (some .int) 192 [some (q_rf w x0), none, some (.int x2), some (q_rf w x3), none, some (.int x5), some (.int v4), none, some (.int v35), none] [.int y36, .int x4] s37 (j192 y36 s37)) (fun y36 s37 => ?_) (fun j192 hj192 => ?_)
                      · refine g_isub hc dX2_run_192 (pc2 := 193) rfl ?_
                        refine g_nm (fun v38 => ?_)
                        refine g_istore hc dX2_run_193 (by decide) (L2 := [some (q_rf w x0), none, some (.int x2), some (q_rf w x3), some (.int v38), some (.int x5), some (.int v4), none, some (.int v35), none]) rfl (pc2 := 195) rfl ?_
                        refine g_rl0 hc dX2_run_195 rfl (pc2 := 196) rfl ?_
                        refine g_getR hc fl_X2_30 rfl hx0 dX2_run_196 (pc2 := 199) rfl ?_
                        refine g_iload hc dX2_run_199 rfl (pc2 := 201) rfl ?_
                        refine g_iald hc (kf_2_6 hx0) (kl_2_6 hx0) dX2_run_201 (pc2 := 202) rfl (fun v39 => ?_)
                        refine g_istore hc dX2_run_202 (by decide) (L2 := [some (q_rf w x0), none, some (.int x2), some (q_rf w x3), some (.int v38), some (.int x5), some (.int v4), none, some (.int v35), some (.int v39)]) rfl (pc2 := 204) rfl ?_
                        refine g_rl0 hc dX2_run_204 rfl (pc2 := 205) rfl ?_
                        refine g_getR hc fl_X2_24 rfl hx0 dX2_run_205 (pc2 := 208) rfl ?_
                        refine g_iload hc dX2_run_208 rfl (pc2 := 210) rfl ?_
                        refine g_iald hc (kf_2_4 hx0) (kl_2_4 hx0) dX2_run_210 (pc2 := 211) rfl (fun v40 => ?_)
                        refine g_swc (pc2 := 0) hc dX2_run_211 (c := 2) (by decide) (by decide) rfl (pc1 := 260) rfl (fun _ => ?_) (fun c41 => ?_)
                        · refine g_rl0 hc dX2_run_260 rfl (pc2 := 261) rfl ?_
                          refine g_getR hc fl_X2_30 rfl hx0 dX2_run_261 (pc2 := 264) rfl ?_
                          refine g_iload hc dX2_run_264 rfl (pc2 := 266) rfl ?_
                          refine g_iload hc dX2_run_266 rfl (pc2 := 268) rfl ?_
                          refine g_if_ne hc dX2_run_268 (pc1 := 271) (pc2 := 275) rfl rfl (fun _ => ?_) (fun _ => ?_)
                          · refine g_iconst hc dX2_run_271 ic_0 (pc2 := 272) rfl ?_
                            refine g_goto hc dX2_run_272 (pc2 := 280) rfl ?_
                            refine g_iast hc (kf_2_6 hx0) (kl_2_6 hx0) dX2_run_280 (pc2 := 281) rfl (fun s43 => ?_)
                            refine g_goto hc dX2_run_281 (pc2 := 436) rfl ?_
                            refine g_iinc hc dX2_run_436 rfl (q_ii ic_1) (by decide) (L2 := [some (q_rf w x0), none, some (.int x2), some (q_rf w x3), some (.int v38), some (.int (x5 + 1)), some (.int v4), none, some (.int v35), some (.int v39)]) rfl (pc2 := 439) rfl ?_
                            refine g_goto hc dX2_run_439 (pc2 := 6) rfl ?_
                            refine q_Gmask [true, true, true, true, true, true, false, true, false, false] (L2 := [some (q_rf w x0), none, some (.int x2), some (q_rf w x3), some (.int v38), some (.int (x5 + 1)), none, none, none, none]) rfl ?_
                            exact ih _ _ _
                          · refine g_iload hc dX2_run_275 rfl (pc2 := 277) rfl ?_
                            refine g_iload hc dX2_run_277 rfl (pc2 := 279) rfl ?_
                            refine g_idiv hc dX2_run_279 (pc2 := 280) rfl (fun v44 => ?_)
                            refine g_iast hc (kf_2_6 hx0) (kl_2_6 hx0) dX2_run_280 (pc2 := 281) rfl (fun s45 => ?_)
                            refine g_goto hc dX2_run_281 (pc2 := 436) rfl ?_
                            refine g_iinc hc dX2_run_436 rfl (q_ii ic_1) (by decide) (L2 := [some (q_rf w x0), none, some (.int x2), some (q_rf w x3), some (.int v38), some (.int (x5 + 1)), some (.int v4), none, some (.int v35), some (.int v39)]) rfl (pc2 := 439) rfl ?_
                            refine g_goto hc dX2_run_439 (pc2 := 6) rfl ?_
                            refine q_Gmask [true, true, true, true, true, true, false, true, false, false] (L2 := [some (q_rf w x0), none, some (.int x2), some (q_rf w x3), some (.int v38), some (.int (x5 + 1)), none, none, none, none]) rfl ?_
                            exact ih _ _ _
                        refine g_swc (pc2 := 0) hc dX2_run_211 (c := 3) (by decide) (by decide) rfl (pc1 := 284) rfl (fun _ => ?_) (fun c46 => ?_)
                        · refine g_rl0 hc dX2_run_284 rfl (pc2 := 285) rfl ?_
                          refine g_getR hc fl_X2_30 rfl hx0 dX2_run_285 (pc2 := 288) rfl ?_
                          refine g_iload hc dX2_run_288 rfl (pc2 := 290) rfl ?_
                          refine g_iload hc dX2_run_290 rfl (pc2 := 292) rfl ?_
                          refine g_iload hc dX2_run_292 rfl (pc2 := 294) rfl ?_
                          refine g_imul hc dX2_run_294 (pc2 := 295) rfl ?_
                          refine g_iast hc (kf_2_6 hx0) (kl_2_6 hx0) dX2_run_295 (pc2 := 296) rfl (fun s47 => ?_)
                          refine g_goto hc dX2_run_296 (pc2 := 436) rfl ?_
                          refine g_iinc hc dX2_run_436 rfl (q_ii ic_1) (by decide) (L2 := [some (q_rf w x0), none, some (.int x2), some (q_rf w x3), some (.int v38), some (.int (x5 + 1)), some (.int v4), none, some (.int v35), some (.int v39)]) rfl (pc2 := 439) rfl ?_
                          refine g_goto hc dX2_run_439 (pc2 := 6) rfl ?_
                          refine q_Gmask [true, true, true, true, true, true, false, true, false, false] (L2 := [some (q_rf w x0), none, some (.int x2), some (q_rf w x3), some (.int v38), some (.int (x5 + 1)), none, none, none, none]) rfl ?_
                          exact ih _ _ _
                        refine g_swc (pc2 := 0) hc dX2_run_211 (c := 4) (by decide) (by decide) rfl (pc1 := 299) rfl (fun _ => ?_) (fun c48 => ?_)
                        · refine g_rl0 hc dX2_run_299 rfl (pc2 := 300) rfl ?_
                          refine g_getR hc fl_X2_30 rfl hx0 dX2_run_300 (pc2 := 303) rfl ?_
                          refine g_iload hc dX2_run_303 rfl (pc2 := 305) rfl ?_
                          refine g_iload hc dX2_run_305 rfl (pc2 := 307) rfl ?_
                          refine g_iload hc dX2_run_307 rfl (pc2 := 309) rfl ?_
                          refine g_iadd hc dX2_run_309 (pc2 := 310) rfl ?_
                          refine g_iast hc (kf_2_6 hx0) (kl_2_6 hx0) dX2_run_310 (pc2 := 311) rfl (fun s49 => ?_)
                          refine g_goto hc dX2_run_311 (pc2 := 436) rfl ?_
                          refine g_iinc hc dX2_run_436 rfl (q_ii ic_1) (by decide) (L2 := [some (q_rf w x0), none, some (.int x2), some (q_rf w x3), some (.int v38), some (.int (x5 + 1)), some (.int v4), none, some (.int v35), some (.int v39)]) rfl (pc2 := 439) rfl ?_
                          refine g_goto hc dX2_run_439 (pc2 := 6) rfl ?_
                          refine q_Gmask [true, true, true, true, true, true, false, true, false, false] (L2 := [some (q_rf w x0), none, some (.int x2), some (q_rf w x3), some (.int v38), some (.int (x5 + 1)), none, none, none, none]) rfl ?_
                          exact ih _ _ _
                        refine g_swc (pc2 := 0) hc dX2_run_211 (c := 5) (by decide) (by decide) rfl (pc1 := 314) rfl (fun _ => ?_) (fun c50 => ?_)
                        · refine g_rl0 hc dX2_run_314 rfl (pc2 := 315) rfl ?_
                          refine g_getR hc fl_X2_30 rfl hx0 dX2_run_315 (pc2 := 318) rfl ?_
                          refine g_iload hc dX2_run_318 rfl (pc2 := 320) rfl ?_
                          refine g_iload hc dX2_run_320 rfl (pc2 := 322) rfl ?_
                          refine g_iload hc dX2_run_322 rfl (pc2 := 324) rfl ?_
                          refine g_isub hc dX2_run_324 (pc2 := 325) rfl ?_
                          refine g_iast hc (kf_2_6 hx0) (kl_2_6 hx0) dX2_run_325 (pc2 := 326) rfl (fun s51 => ?_)
                          refine g_goto hc dX2_run_326 (pc2 := 436) rfl ?_
                          refine g_iinc hc dX2_run_436 rfl (q_ii ic_1) (by decide) (L2 := [some (q_rf w x0), none, some (.int x2), some (q_rf w x3), some (.int v38), some (.int (x5 + 1)), some (.int v4), none, some (.int v35), some (.int v39)]) rfl (pc2 := 439) rfl ?_
                          refine g_goto hc dX2_run_439 (pc2 := 6) rfl ?_
                          refine q_Gmask [true, true, true, true, true, true, false, true, false, false] (L2 := [some (q_rf w x0), none, some (.int x2), some (q_rf w x3), some (.int v38), some (.int (x5 + 1)), none, none, none, none]) rfl ?_
                          exact ih _ _ _
                        refine g_swc (pc2 := 0) hc dX2_run_211 (c := 6) (by decide) (by decide) rfl (pc1 := 329) rfl (fun _ => ?_) (fun c52 => ?_)
                        · refine g_rl0 hc dX2_run_329 rfl (pc2 := 330) rfl ?_
                          refine g_getR hc fl_X2_30 rfl hx0 dX2_run_330 (pc2 := 333) rfl ?_
                          refine g_iload hc dX2_run_333 rfl (pc2 := 335) rfl ?_
                          refine g_iload hc dX2_run_335 rfl (pc2 := 337) rfl ?_
                          refine g_iload hc dX2_run_337 rfl (pc2 := 339) rfl ?_
                          refine g_icmp_ge hc dX2_run_339 (pc1 := 342) (pc2 := 346) rfl rfl (fun _ => ?_) (fun _ => ?_)
                          · refine g_iconst hc dX2_run_342 ic_1 (pc2 := 343) rfl ?_
                            refine g_goto hc dX2_run_343 (pc2 := 347) rfl ?_
                            refine g_iast hc (kf_2_6 hx0) (kl_2_6 hx0) dX2_run_347 (pc2 := 348) rfl (fun s54 => ?_)
                            refine g_goto hc dX2_run_348 (pc2 := 436) rfl ?_
                            refine g_iinc hc dX2_run_436 rfl (q_ii ic_1) (by decide) (L2 := [some (q_rf w x0), none, some (.int x2), some (q_rf w x3), some (.int v38), some (.int (x5 + 1)), some (.int v4), none, some (.int v35), some (.int v39)]) rfl (pc2 := 439) rfl ?_
                            refine g_goto hc dX2_run_439 (pc2 := 6) rfl ?_
                            refine q_Gmask [true, true, true, true, true, true, false, true, false, false] (L2 := [some (q_rf w x0), none, some (.int x2), some (q_rf w x3), some (.int v38), some (.int (x5 + 1)), none, none, none, none]) rfl ?_
                            exact ih _ _ _
                          · refine g_iconst hc dX2_run_346 ic_0 (pc2 := 347) rfl ?_
                            refine g_iast hc (kf_2_6 hx0) (kl_2_6 hx0) dX2_run_347 (pc2 := 348) rfl (fun s55 => ?_)
                            refine g_goto hc dX2_run_348 (pc2 := 436) rfl ?_
                            refine g_iinc hc dX2_run_436 rfl (q_ii ic_1) (by decide) (L2 := [some (q_rf w x0), none, some (.int x2), some (q_rf w x3), some (.int v38), some (.int (x5 + 1)), some (.int v4), none, some (.int v35), some (.int v39)]) rfl (pc2 := 439) rfl ?_
                            refine g_goto hc dX2_run_439 (pc2 := 6) rfl ?_
                            refine q_Gmask [true, true, true, true, true, true, false, true, false, false] (L2 := [some (q_rf w x0), none, some (.int x2), some (q_rf w x3), some (.int v38), some (.int (x5 + 1)), none, none, none, none]) rfl ?_
                            exact ih _ _ _
                        refine g_swc (pc2 := 0) hc dX2_run_211 (c := 7) (by decide) (by decide) rfl (pc1 := 351) rfl (fun _ => ?_) (fun c56 => ?_)
                        · refine g_rl0 hc dX2_run_351 rfl (pc2 := 352) rfl ?_
                          refine g_getR hc fl_X2_30 rfl hx0 dX2_run_352 (pc2 := 355) rfl ?_
                          refine g_iload hc dX2_run_355 rfl (pc2 := 357) rfl ?_
                          refine g_iload hc dX2_run_357 rfl (pc2 := 359) rfl ?_
                          refine g_iload hc dX2_run_359 rfl (pc2 := 361) rfl ?_
                          refine g_icmp_ne hc dX2_run_361 (pc1 := 364) (pc2 := 368) rfl rfl (fun _ => ?_) (fun _ => ?_)
                          · refine g_iconst hc dX2_run_364 ic_1 (pc2 := 365) rfl ?_
                            refine g_goto hc dX2_run_365 (pc2 := 369) rfl ?_
                            refine g_iast hc (kf_2_6 hx0) (kl_2_6 hx0) dX2_run_369 (pc2 := 370) rfl (fun s58 => ?_)
                            refine g_goto hc dX2_run_370 (pc2 := 436) rfl ?_
                            refine g_iinc hc dX2_run_436 rfl (q_ii ic_1) (by decide) (L2 := [some (q_rf w x0), none, some (.int x2), some (q_rf w x3), some (.int v38), some (.int (x5 + 1)), some (.int v4), none, some (.int v35), some (.int v39)]) rfl (pc2 := 439) rfl ?_
                            refine g_goto hc dX2_run_439 (pc2 := 6) rfl ?_
                            refine q_Gmask [true, true, true, true, true, true, false, true, false, false] (L2 := [some (q_rf w x0), none, some (.int x2), some (q_rf w x3), some (.int v38), some (.int (x5 + 1)), none, none, none, none]) rfl ?_
                            exact ih _ _ _
                          · refine g_iconst hc dX2_run_368 ic_0 (pc2 := 369) rfl ?_
                            refine g_iast hc (kf_2_6 hx0) (kl_2_6 hx0) dX2_run_369 (pc2 := 370) rfl (fun s59 => ?_)
                            refine g_goto hc dX2_run_370 (pc2 := 436) rfl ?_
                            refine g_iinc hc dX2_run_436 rfl (q_ii ic_1) (by decide) (L2 := [some (q_rf w x0), none, some (.int x2), some (q_rf w x3), some (.int v38), some (.int (x5 + 1)), some (.int v4), none, some (.int v35), some (.int v39)]) rfl (pc2 := 439) rfl ?_
                            refine g_goto hc dX2_run_439 (pc2 := 6) rfl ?_
                            refine q_Gmask [true, true, true, true, true, true, false, true, false, false] (L2 := [some (q_rf w x0), none, some (.int x2), some (q_rf w x3), some (.int v38), some (.int (x5 + 1)), none, none, none, none]) rfl ?_
                            exact ih _ _ _
                        refine g_swc (pc2 := 0) hc dX2_run_211 (c := 8) (by decide) (by decide) rfl (pc1 := 373) rfl (fun _ => ?_) (fun c60 => ?_)
                        · refine g_rl0 hc dX2_run_373 rfl (pc2 := 374) rfl ?_
                          refine g_getR hc fl_X2_30 rfl hx0 dX2_run_374 (pc2 := 377) rfl ?_
                          refine g_iload hc dX2_run_377 rfl (pc2 := 379) rfl ?_
                          refine g_iload hc dX2_run_379 rfl (pc2 := 381) rfl ?_
                          refine g_iload hc dX2_run_381 rfl (pc2 := 383) rfl ?_
                          refine g_icmp_le hc dX2_run_383 (pc1 := 390) (pc2 := 386) rfl rfl (fun _ => ?_) (fun _ => ?_)
                          · refine g_iconst hc dX2_run_390 ic_0 (pc2 := 391) rfl ?_
                            refine g_iast hc (kf_2_6 hx0) (kl_2_6 hx0) dX2_run_391 (pc2 := 392) rfl (fun s62 => ?_)
                            refine g_goto hc dX2_run_392 (pc2 := 436) rfl ?_
                            refine g_iinc hc dX2_run_436 rfl (q_ii ic_1) (by decide) (L2 := [some (q_rf w x0), none, some (.int x2), some (q_rf w x3), some (.int v38), some (.int (x5 + 1)), some (.int v4), none, some (.int v35), some (.int v39)]) rfl (pc2 := 439) rfl ?_
                            refine g_goto hc dX2_run_439 (pc2 := 6) rfl ?_
                            refine q_Gmask [true, true, true, true, true, true, false, true, false, false] (L2 := [some (q_rf w x0), none, some (.int x2), some (q_rf w x3), some (.int v38), some (.int (x5 + 1)), none, none, none, none]) rfl ?_
                            exact ih _ _ _
                          · refine g_iconst hc dX2_run_386 ic_1 (pc2 := 387) rfl ?_
                            refine g_goto hc dX2_run_387 (pc2 := 391) rfl ?_
                            refine g_iast hc (kf_2_6 hx0) (kl_2_6 hx0) dX2_run_391 (pc2 := 392) rfl (fun s63 => ?_)
                            refine g_goto hc dX2_run_392 (pc2 := 436) rfl ?_
                            refine g_iinc hc dX2_run_436 rfl (q_ii ic_1) (by decide) (L2 := [some (q_rf w x0), none, some (.int x2), some (q_rf w x3), some (.int v38), some (.int (x5 + 1)), some (.int v4), none, some (.int v35), some (.int v39)]) rfl (pc2 := 439) rfl ?_
                            refine g_goto hc dX2_run_439 (pc2 := 6) rfl ?_
                            refine q_Gmask [true, true, true, true, true, true, false, true, false, false] (L2 := [some (q_rf w x0), none, some (.int x2), some (q_rf w x3), some (.int v38), some (.int (x5 + 1)), none, none, none, none]) rfl ?_
                            exact ih _ _ _
                        refine g_swc (pc2 := 0) hc dX2_run_211 (c := 9) (by decide) (by decide) rfl (pc1 := 395) rfl (fun _ => ?_) (fun c64 => ?_)
                        · refine g_rl0 hc dX2_run_395 rfl (pc2 := 396) rfl ?_
                          refine g_getR hc fl_X2_30 rfl hx0 dX2_run_396 (pc2 := 399) rfl ?_
                          refine g_iload hc dX2_run_399 rfl (pc2 := 401) rfl ?_
                          refine g_iconst hc dX2_run_401 ic_1 (pc2 := 402) rfl ?_
                          refine g_iload hc dX2_run_402 rfl (pc2 := 404) rfl ?_
                          refine g_isub hc dX2_run_404 (pc2 := 405) rfl ?_
                          refine g_iast hc (kf_2_6 hx0) (kl_2_6 hx0) dX2_run_405 (pc2 := 406) rfl (fun s65 => ?_)
                          refine g_goto hc dX2_run_406 (pc2 := 436) rfl ?_
                          refine g_iinc hc dX2_run_436 rfl (q_ii ic_1) (by decide) (L2 := [some (q_rf w x0), none, some (.int x2), some (q_rf w x3), some (.int v38), some (.int (x5 + 1)), some (.int v4), none, some (.int v35), some (.int v39)]) rfl (pc2 := 439) rfl ?_
                          refine g_goto hc dX2_run_439 (pc2 := 6) rfl ?_
                          refine q_Gmask [true, true, true, true, true, true, false, true, false, false] (L2 := [some (q_rf w x0), none, some (.int x2), some (q_rf w x3), some (.int v38), some (.int (x5 + 1)), none, none, none, none]) rfl ?_
                          exact ih _ _ _
                        refine g_swc (pc2 := 0) hc dX2_run_211 (c := 10) (by decide) (by decide) rfl (pc1 := 409) rfl (fun _ => ?_) (fun c66 => ?_)
                        · refine g_rl0 hc dX2_run_409 rfl (pc2 := 410) rfl ?_
                          refine g_getR hc fl_X2_30 rfl hx0 dX2_run_410 (pc2 := 413) rfl ?_
                          refine g_iload hc dX2_run_413 rfl (pc2 := 415) rfl ?_
                          refine g_iload hc dX2_run_415 rfl (pc2 := 417) rfl ?_
                          refine g_iload hc dX2_run_417 rfl (pc2 := 419) rfl ?_
                          refine g_iand hc dX2_run_419 (pc2 := 420) rfl ?_
                          refine g_iast hc (kf_2_6 hx0) (kl_2_6 hx0) dX2_run_420 (pc2 := 421) rfl (fun s67 => ?_)
                          refine g_goto hc dX2_run_421 (pc2 := 436) rfl ?_
                          refine g_iinc hc dX2_run_436 rfl (q_ii ic_1) (by decide) (L2 := [some (q_rf w x0), none, some (.int x2), some (q_rf w x3), some (.int v38), some (.int (x5 + 1)), some (.int v4), none, some (.int v35), some (.int v39)]) rfl (pc2 := 439) rfl ?_
                          refine g_goto hc dX2_run_439 (pc2 := 6) rfl ?_
                          refine q_Gmask [true, true, true, true, true, true, false, true, false, false] (L2 := [some (q_rf w x0), none, some (.int x2), some (q_rf w x3), some (.int v38), some (.int (x5 + 1)), none, none, none, none]) rfl ?_
                          exact ih _ _ _
                        refine g_swd (pc2 := 0) hc dX2_run_211 (fun i a b e => ?_) (pc1 := 424) rfl ?_
                        · rcases (show i = 2 ∨ i = 3 ∨ i = 4 ∨ i = 5 ∨ i = 6 ∨ i = 7 ∨ i = 8 ∨ i = 9 ∨ i = 10 by omega) with rfl | rfl | rfl | rfl | rfl | rfl | rfl | rfl | rfl
                          · exact q_swx (c := 2) (by decide) c41 e
                          · exact q_swx (c := 3) (by decide) c46 e
                          · exact q_swx (c := 4) (by decide) c48 e
                          · exact q_swx (c := 5) (by decide) c50 e
                          · exact q_swx (c := 6) (by decide) c52 e
                          · exact q_swx (c := 7) (by decide) c56 e
                          · exact q_swx (c := 8) (by decide) c60 e
                          · exact q_swx (c := 9) (by decide) c64 e
                          · exact q_swx (c := 10) (by decide) c66 e
                        · refine g_rl0 hc dX2_run_424 rfl (pc2 := 425) rfl ?_
                          refine g_getR hc fl_X2_30 rfl hx0 dX2_run_425 (pc2 := 428) rfl ?_
                          refine g_iload hc dX2_run_428 rfl (pc2 := 430) rfl ?_
                          refine g_iload hc dX2_run_430 rfl (pc2 := 432) rfl ?_
                          refine g_iload hc dX2_run_432 rfl (pc2 := 434) rfl ?_
                          refine g_ior hc dX2_run_434 (pc2 := 435) rfl ?_
                          refine g_iast hc (kf_2_6 hx0) (kl_2_6 hx0) dX2_run_435 (pc2 := 436) rfl (fun s68 => ?_)
                          refine g_iinc hc dX2_run_436 rfl (q_ii ic_1) (by decide) (L2 := [some (q_rf w x0), none, some (.int x2), some (q_rf w x3), some (.int v38), some (.int (x5 + 1)), some (.int v4), none, some (.int v35), some (.int v39)]) rfl (pc2 := 439) rfl ?_
                          refine g_goto hc dX2_run_439 (pc2 := 6) rfl ?_
                          refine q_Gmask [true, true, true, true, true, true, false, true, false, false] (L2 := [some (q_rf w x0), none, some (.int x2), some (q_rf w x3), some (.int v38), some (.int (x5 + 1)), none, none, none, none]) rfl ?_
                          exact ih _ _ _
                      · refine g_if_eq hc dX2_run_184 (pc1 := 191) (pc2 := 187) rfl rfl (fun _ => ?_) (fun _ => ?_)
                        · refine g_iconst hc dX2_run_191 ic_1 (pc2 := 192) rfl ?_
                          refine q_Gmask [true, true, true, true, false, true, true, false, true, true] (L2 := [some (q_rf w x0), none, some (.int x2), some (q_rf w x3), none, some (.int x5), some (.int v4), none, some (.int v35), none]) rfl ?_
                          exact hj192 _ _
                        · refine g_iconst hc dX2_run_187 ic_0 (pc2 := 188) rfl ?_
                          refine g_goto hc dX2_run_188 (pc2 := 192) rfl ?_
                          refine q_Gmask [true, true, true, true, false, true, true, false, true, true] (L2 := [some (q_rf w x0), none, some (.int x2), some (q_rf w x3), none, some (.int x5), some (.int v4), none, some (.int v35), none]) rfl ?_
                          exact hj192 _ _
                  · refine g_if_eq hc dX2_run_157 (pc1 := 164) (pc2 := 160) rfl rfl (fun _ => ?_) (fun _ => ?_)
                    · refine g_iconst hc dX2_run_164 ic_1 (pc2 := 165) rfl ?_
                      exact hj165 _ _
                    · refine g_iconst hc dX2_run_160 ic_0 (pc2 := 161) rfl ?_
                      refine g_goto hc dX2_run_161 (pc2 := 165) rfl ?_
                      exact hj165 _ _
                · refine g_jn (P := fun j151 => ∀ (y71 : Int32) (s72 : q_Sto), q_G w cx 10 (some .int) 151 [some (q_rf w x0), none, some (.int x2), some (q_rf w x3), some (.int x4), some (.int x5), some (.int v4), none, none, none] [.int y71] s72 (j151 y71 s72)) (fun y71 s72 => ?_) (fun j151 hj151 => ?_)
                  · refine g_istore hc dX2_run_151 (by decide) (L2 := [some (q_rf w x0), none, some (.int x2), some (q_rf w x3), some (.int x4), some (.int x5), some (.int v4), some (.int y71), none, none]) rfl (pc2 := 153) rfl ?_
                    refine g_iload hc dX2_run_153 rfl (pc2 := 155) rfl ?_
                    refine g_iload hc dX2_run_155 rfl (pc2 := 157) rfl ?_
                    refine g_jn (P := fun j165 => ∀ (y73 : Int32) (s74 : q_Sto), q_G w cx 10 (some .int) 165 [some (q_rf w x0), none, some (.int x2), some (q_rf w x3), some (.int x4), some (.int x5), some (.int v4), some (.int y71), none, none] [.int y73, .int x4] s74 (j165 y73 s74)) (fun y73 s74 => ?_) (fun j165 hj165 => ?_)
                    · refine g_icmp_ge hc dX2_run_165 (pc1 := 168) (pc2 := 171) rfl rfl (fun _ => ?_) (fun _ => ?_)
                      · refine g_goto hc dX2_run_168 (pc2 := 436) rfl ?_
                        refine g_iinc hc dX2_run_436 rfl (q_ii ic_1) (by decide) (L2 := [some (q_rf w x0), none, some (.int x2), some (q_rf w x3), some (.int x4), some (.int (x5 + 1)), some (.int v4), some (.int y71), none, none]) rfl (pc2 := 439) rfl ?_
                        refine g_goto hc dX2_run_439 (pc2 := 6) rfl ?_
                        refine q_Gmask [true, true, true, true, true, true, false, false, true, true] (L2 := [some (q_rf w x0), none, some (.int x2), some (q_rf w x3), some (.int x4), some (.int (x5 + 1)), none, none, none, none]) rfl ?_
                        exact ih _ _ _
                      · refine g_rl0 hc dX2_run_171 rfl (pc2 := 172) rfl ?_
                        refine g_getR hc fl_X2_30 rfl hx0 dX2_run_172 (pc2 := 175) rfl ?_
                        refine g_iload hc dX2_run_175 rfl (pc2 := 177) rfl ?_
                        refine g_iald hc (kf_2_6 hx0) (kl_2_6 hx0) dX2_run_177 (pc2 := 178) rfl (fun v76 => ?_)
                        refine g_istore hc dX2_run_178 (by decide) (L2 := [some (q_rf w x0), none, some (.int x2), some (q_rf w x3), some (.int x4), some (.int x5), some (.int v4), some (.int y71), some (.int v76), none]) rfl (pc2 := 180) rfl ?_
                        refine g_iload hc dX2_run_180 rfl (pc2 := 182) rfl ?_
                        refine g_iload hc dX2_run_182 rfl (pc2 := 184) rfl ?_
                        refine g_jn (P := fun j192 => ∀ (y77 : Int32) (s78 : q_Sto), q_G w cx 10 (some .int) 192 [some (q_rf w x0), none, some (.int x2), some (q_rf w x3), none, some (.int x5), some (.int v4), none, some (.int v76), none] [.int y77, .int x4] s78 (j192 y77 s78)) (fun y77 s78 => ?_) (fun j192 hj192 => ?_)
                        · refine g_isub hc dX2_run_192 (pc2 := 193) rfl ?_
                          refine g_nm (fun v79 => ?_)
                          refine g_istore hc dX2_run_193 (by decide) (L2 := [some (q_rf w x0), none, some (.int x2), some (q_rf w x3), some (.int v79), some (.int x5), some (.int v4), none, some (.int v76), none]) rfl (pc2 := 195) rfl ?_
                          refine g_rl0 hc dX2_run_195 rfl (pc2 := 196) rfl ?_
                          refine g_getR hc fl_X2_30 rfl hx0 dX2_run_196 (pc2 := 199) rfl ?_
                          refine g_iload hc dX2_run_199 rfl (pc2 := 201) rfl ?_
                          refine g_iald hc (kf_2_6 hx0) (kl_2_6 hx0) dX2_run_201 (pc2 := 202) rfl (fun v80 => ?_)
                          refine g_istore hc dX2_run_202 (by decide) (L2 := [some (q_rf w x0), none, some (.int x2), some (q_rf w x3), some (.int v79), some (.int x5), some (.int v4), none, some (.int v76), some (.int v80)]) rfl (pc2 := 204) rfl ?_
                          refine g_rl0 hc dX2_run_204 rfl (pc2 := 205) rfl ?_
                          refine g_getR hc fl_X2_24 rfl hx0 dX2_run_205 (pc2 := 208) rfl ?_
                          refine g_iload hc dX2_run_208 rfl (pc2 := 210) rfl ?_
                          refine g_iald hc (kf_2_4 hx0) (kl_2_4 hx0) dX2_run_210 (pc2 := 211) rfl (fun v81 => ?_)
                          refine g_swc (pc2 := 0) hc dX2_run_211 (c := 2) (by decide) (by decide) rfl (pc1 := 260) rfl (fun _ => ?_) (fun c82 => ?_)
                          · refine g_rl0 hc dX2_run_260 rfl (pc2 := 261) rfl ?_
                            refine g_getR hc fl_X2_30 rfl hx0 dX2_run_261 (pc2 := 264) rfl ?_
                            refine g_iload hc dX2_run_264 rfl (pc2 := 266) rfl ?_
                            refine g_iload hc dX2_run_266 rfl (pc2 := 268) rfl ?_
                            refine g_if_ne hc dX2_run_268 (pc1 := 271) (pc2 := 275) rfl rfl (fun _ => ?_) (fun _ => ?_)
                            · refine g_iconst hc dX2_run_271 ic_0 (pc2 := 272) rfl ?_
                              refine g_goto hc dX2_run_272 (pc2 := 280) rfl ?_
                              refine g_iast hc (kf_2_6 hx0) (kl_2_6 hx0) dX2_run_280 (pc2 := 281) rfl (fun s84 => ?_)
                              refine g_goto hc dX2_run_281 (pc2 := 436) rfl ?_
                              refine g_iinc hc dX2_run_436 rfl (q_ii ic_1) (by decide) (L2 := [some (q_rf w x0), none, some (.int x2), some (q_rf w x3), some (.int v79), some (.int (x5 + 1)), some (.int v4), none, some (.int v76), some (.int v80)]) rfl (pc2 := 439) rfl ?_
                              refine g_goto hc dX2_run_439 (pc2 := 6) rfl ?_
                              refine q_Gmask [true, true, true, true, true, true, false, true, false, false] (L2 := [some (q_rf w x0), none, some (.int x2), some (q_rf w x3), some (.int v79), some (.int (x5 + 1)), none, none, none, none]) rfl ?_
                              exact ih _ _ _
                            · refine g_iload hc dX2_run_275 rfl (pc2 := 277) rfl ?_
                              refine g_iload hc dX2_run_277 rfl (pc2 := 279) rfl ?_
                              refine g_idiv hc dX2_run_279 (pc2 := 280) rfl (fun v85 => ?_)
                              refine g_iast hc (kf_2_6 hx0) (kl_2_6 hx0) dX2_run_280 (pc2 := 281) rfl (fun s86 => ?_)
                              refine g_goto hc dX2_run_281 (pc2 := 436) rfl ?_
                              refine g_iinc hc dX2_run_436 rfl (q_ii ic_1) (by decide) (L2 := [some (q_rf w x0), none, some (.int x2), some (q_rf w x3), some (.int v79), some (.int (x5 + 1)), some (.int v4), none, some (.int v76), some (.int v80)]) rfl (pc2 := 439) rfl ?_
                              refine g_goto hc dX2_run_439 (pc2 := 6) rfl ?_
                              refine q_Gmask [true, true, true, true, true, true, false, true, false, false] (L2 := [some (q_rf w x0), none, some (.int x2), some (q_rf w x3), some (.int v79), some (.int (x5 + 1)), none, none, none, none]) rfl ?_
                              exact ih _ _ _
                          refine g_swc (pc2 := 0) hc dX2_run_211 (c := 3) (by decide) (by decide) rfl (pc1 := 284) rfl (fun _ => ?_) (fun c87 => ?_)
                          · refine g_rl0 hc dX2_run_284 rfl (pc2 := 285) rfl ?_
                            refine g_getR hc fl_X2_30 rfl hx0 dX2_run_285 (pc2 := 288) rfl ?_
                            refine g_iload hc dX2_run_288 rfl (pc2 := 290) rfl ?_
                            refine g_iload hc dX2_run_290 rfl (pc2 := 292) rfl ?_
                            refine g_iload hc dX2_run_292 rfl (pc2 := 294) rfl ?_
                            refine g_imul hc dX2_run_294 (pc2 := 295) rfl ?_
                            refine g_iast hc (kf_2_6 hx0) (kl_2_6 hx0) dX2_run_295 (pc2 := 296) rfl (fun s88 => ?_)
                            refine g_goto hc dX2_run_296 (pc2 := 436) rfl ?_
                            refine g_iinc hc dX2_run_436 rfl (q_ii ic_1) (by decide) (L2 := [some (q_rf w x0), none, some (.int x2), some (q_rf w x3), some (.int v79), some (.int (x5 + 1)), some (.int v4), none, some (.int v76), some (.int v80)]) rfl (pc2 := 439) rfl ?_
                            refine g_goto hc dX2_run_439 (pc2 := 6) rfl ?_
                            refine q_Gmask [true, true, true, true, true, true, false, true, false, false] (L2 := [some (q_rf w x0), none, some (.int x2), some (q_rf w x3), some (.int v79), some (.int (x5 + 1)), none, none, none, none]) rfl ?_
                            exact ih _ _ _
                          refine g_swc (pc2 := 0) hc dX2_run_211 (c := 4) (by decide) (by decide) rfl (pc1 := 299) rfl (fun _ => ?_) (fun c89 => ?_)
                          · refine g_rl0 hc dX2_run_299 rfl (pc2 := 300) rfl ?_
                            refine g_getR hc fl_X2_30 rfl hx0 dX2_run_300 (pc2 := 303) rfl ?_
                            refine g_iload hc dX2_run_303 rfl (pc2 := 305) rfl ?_
                            refine g_iload hc dX2_run_305 rfl (pc2 := 307) rfl ?_
                            refine g_iload hc dX2_run_307 rfl (pc2 := 309) rfl ?_
                            refine g_iadd hc dX2_run_309 (pc2 := 310) rfl ?_
                            refine g_iast hc (kf_2_6 hx0) (kl_2_6 hx0) dX2_run_310 (pc2 := 311) rfl (fun s90 => ?_)
                            refine g_goto hc dX2_run_311 (pc2 := 436) rfl ?_
                            refine g_iinc hc dX2_run_436 rfl (q_ii ic_1) (by decide) (L2 := [some (q_rf w x0), none, some (.int x2), some (q_rf w x3), some (.int v79), some (.int (x5 + 1)), some (.int v4), none, some (.int v76), some (.int v80)]) rfl (pc2 := 439) rfl ?_
                            refine g_goto hc dX2_run_439 (pc2 := 6) rfl ?_
                            refine q_Gmask [true, true, true, true, true, true, false, true, false, false] (L2 := [some (q_rf w x0), none, some (.int x2), some (q_rf w x3), some (.int v79), some (.int (x5 + 1)), none, none, none, none]) rfl ?_
                            exact ih _ _ _
                          refine g_swc (pc2 := 0) hc dX2_run_211 (c := 5) (by decide) (by decide) rfl (pc1 := 314) rfl (fun _ => ?_) (fun c91 => ?_)
                          · refine g_rl0 hc dX2_run_314 rfl (pc2 := 315) rfl ?_
                            refine g_getR hc fl_X2_30 rfl hx0 dX2_run_315 (pc2 := 318) rfl ?_
                            refine g_iload hc dX2_run_318 rfl (pc2 := 320) rfl ?_
                            refine g_iload hc dX2_run_320 rfl (pc2 := 322) rfl ?_
                            refine g_iload hc dX2_run_322 rfl (pc2 := 324) rfl ?_
                            refine g_isub hc dX2_run_324 (pc2 := 325) rfl ?_
                            refine g_iast hc (kf_2_6 hx0) (kl_2_6 hx0) dX2_run_325 (pc2 := 326) rfl (fun s92 => ?_)
                            refine g_goto hc dX2_run_326 (pc2 := 436) rfl ?_
                            refine g_iinc hc dX2_run_436 rfl (q_ii ic_1) (by decide) (L2 := [some (q_rf w x0), none, some (.int x2), some (q_rf w x3), some (.int v79), some (.int (x5 + 1)), some (.int v4), none, some (.int v76), some (.int v80)]) rfl (pc2 := 439) rfl ?_
                            refine g_goto hc dX2_run_439 (pc2 := 6) rfl ?_
                            refine q_Gmask [true, true, true, true, true, true, false, true, false, false] (L2 := [some (q_rf w x0), none, some (.int x2), some (q_rf w x3), some (.int v79), some (.int (x5 + 1)), none, none, none, none]) rfl ?_
                            exact ih _ _ _
                          refine g_swc (pc2 := 0) hc dX2_run_211 (c := 6) (by decide) (by decide) rfl (pc1 := 329) rfl (fun _ => ?_) (fun c93 => ?_)
                          · refine g_rl0 hc dX2_run_329 rfl (pc2 := 330) rfl ?_
                            refine g_getR hc fl_X2_30 rfl hx0 dX2_run_330 (pc2 := 333) rfl ?_
                            refine g_iload hc dX2_run_333 rfl (pc2 := 335) rfl ?_
                            refine g_iload hc dX2_run_335 rfl (pc2 := 337) rfl ?_
                            refine g_iload hc dX2_run_337 rfl (pc2 := 339) rfl ?_
                            refine g_icmp_ge hc dX2_run_339 (pc1 := 342) (pc2 := 346) rfl rfl (fun _ => ?_) (fun _ => ?_)
                            · refine g_iconst hc dX2_run_342 ic_1 (pc2 := 343) rfl ?_
                              refine g_goto hc dX2_run_343 (pc2 := 347) rfl ?_
                              refine g_iast hc (kf_2_6 hx0) (kl_2_6 hx0) dX2_run_347 (pc2 := 348) rfl (fun s95 => ?_)
                              refine g_goto hc dX2_run_348 (pc2 := 436) rfl ?_
                              refine g_iinc hc dX2_run_436 rfl (q_ii ic_1) (by decide) (L2 := [some (q_rf w x0), none, some (.int x2), some (q_rf w x3), some (.int v79), some (.int (x5 + 1)), some (.int v4), none, some (.int v76), some (.int v80)]) rfl (pc2 := 439) rfl ?_
                              refine g_goto hc dX2_run_439 (pc2 := 6) rfl ?_
                              refine q_Gmask [true, true, true, true, true, true, false, true, false, false] (L2 := [some (q_rf w x0), none, some (.int x2), some (q_rf w x3), some (.int v79), some (.int (x5 + 1)), none, none, none, none]) rfl ?_
                              exact ih _ _ _
                            · refine g_iconst hc dX2_run_346 ic_0 (pc2 := 347) rfl ?_
                              refine g_iast hc (kf_2_6 hx0) (kl_2_6 hx0) dX2_run_347 (pc2 := 348) rfl (fun s96 => ?_)
                              refine g_goto hc dX2_run_348 (pc2 := 436) rfl ?_
                              refine g_iinc hc dX2_run_436 rfl (q_ii ic_1) (by decide) (L2 := [some (q_rf w x0), none, some (.int x2), some (q_rf w x3), some (.int v79), some (.int (x5 + 1)), some (.int v4), none, some (.int v76), some (.int v80)]) rfl (pc2 := 439) rfl ?_
                              refine g_goto hc dX2_run_439 (pc2 := 6) rfl ?_
                              refine q_Gmask [true, true, true, true, true, true, false, true, false, false] (L2 := [some (q_rf w x0), none, some (.int x2), some (q_rf w x3), some (.int v79), some (.int (x5 + 1)), none, none, none, none]) rfl ?_
                              exact ih _ _ _
                          refine g_swc (pc2 := 0) hc dX2_run_211 (c := 7) (by decide) (by decide) rfl (pc1 := 351) rfl (fun _ => ?_) (fun c97 => ?_)
                          · refine g_rl0 hc dX2_run_351 rfl (pc2 := 352) rfl ?_
                            refine g_getR hc fl_X2_30 rfl hx0 dX2_run_352 (pc2 := 355) rfl ?_
                            refine g_iload hc dX2_run_355 rfl (pc2 := 357) rfl ?_
                            refine g_iload hc dX2_run_357 rfl (pc2 := 359) rfl ?_
                            refine g_iload hc dX2_run_359 rfl (pc2 := 361) rfl ?_
                            refine g_icmp_ne hc dX2_run_361 (pc1 := 364) (pc2 := 368) rfl rfl (fun _ => ?_) (fun _ => ?_)
                            · refine g_iconst hc dX2_run_364 ic_1 (pc2 := 365) rfl ?_
                              refine g_goto hc dX2_run_365 (pc2 := 369) rfl ?_
                              refine g_iast hc (kf_2_6 hx0) (kl_2_6 hx0) dX2_run_369 (pc2 := 370) rfl (fun s99 => ?_)
                              refine g_goto hc dX2_run_370 (pc2 := 436) rfl ?_
                              refine g_iinc hc dX2_run_436 rfl (q_ii ic_1) (by decide) (L2 := [some (q_rf w x0), none, some (.int x2), some (q_rf w x3), some (.int v79), some (.int (x5 + 1)), some (.int v4), none, some (.int v76), some (.int v80)]) rfl (pc2 := 439) rfl ?_
                              refine g_goto hc dX2_run_439 (pc2 := 6) rfl ?_
                              refine q_Gmask [true, true, true, true, true, true, false, true, false, false] (L2 := [some (q_rf w x0), none, some (.int x2), some (q_rf w x3), some (.int v79), some (.int (x5 + 1)), none, none, none, none]) rfl ?_
                              exact ih _ _ _
                            · refine g_iconst hc dX2_run_368 ic_0 (pc2 := 369) rfl ?_
                              refine g_iast hc (kf_2_6 hx0) (kl_2_6 hx0) dX2_run_369 (pc2 := 370) rfl (fun s100 => ?_)
                              refine g_goto hc dX2_run_370 (pc2 := 436) rfl ?_
                              refine g_iinc hc dX2_run_436 rfl (q_ii ic_1) (by decide) (L2 := [some (q_rf w x0), none, some (.int x2), some (q_rf w x3), some (.int v79), some (.int (x5 + 1)), some (.int v4), none, some (.int v76), some (.int v80)]) rfl (pc2 := 439) rfl ?_
                              refine g_goto hc dX2_run_439 (pc2 := 6) rfl ?_
                              refine q_Gmask [true, true, true, true, true, true, false, true, false, false] (L2 := [some (q_rf w x0), none, some (.int x2), some (q_rf w x3), some (.int v79), some (.int (x5 + 1)), none, none, none, none]) rfl ?_
                              exact ih _ _ _
                          refine g_swc (pc2 := 0) hc dX2_run_211 (c := 8) (by decide) (by decide) rfl (pc1 := 373) rfl (fun _ => ?_) (fun c101 => ?_)
                          · refine g_rl0 hc dX2_run_373 rfl (pc2 := 374) rfl ?_
                            refine g_getR hc fl_X2_30 rfl hx0 dX2_run_374 (pc2 := 377) rfl ?_
                            refine g_iload hc dX2_run_377 rfl (pc2 := 379) rfl ?_
                            refine g_iload hc dX2_run_379 rfl (pc2 := 381) rfl ?_
                            refine g_iload hc dX2_run_381 rfl (pc2 := 383) rfl ?_
                            refine g_icmp_le hc dX2_run_383 (pc1 := 390) (pc2 := 386) rfl rfl (fun _ => ?_) (fun _ => ?_)
                            · refine g_iconst hc dX2_run_390 ic_0 (pc2 := 391) rfl ?_
                              refine g_iast hc (kf_2_6 hx0) (kl_2_6 hx0) dX2_run_391 (pc2 := 392) rfl (fun s103 => ?_)
                              refine g_goto hc dX2_run_392 (pc2 := 436) rfl ?_
                              refine g_iinc hc dX2_run_436 rfl (q_ii ic_1) (by decide) (L2 := [some (q_rf w x0), none, some (.int x2), some (q_rf w x3), some (.int v79), some (.int (x5 + 1)), some (.int v4), none, some (.int v76), some (.int v80)]) rfl (pc2 := 439) rfl ?_
                              refine g_goto hc dX2_run_439 (pc2 := 6) rfl ?_
                              refine q_Gmask [true, true, true, true, true, true, false, true, false, false] (L2 := [some (q_rf w x0), none, some (.int x2), some (q_rf w x3), some (.int v79), some (.int (x5 + 1)), none, none, none, none]) rfl ?_
                              exact ih _ _ _
                            · refine g_iconst hc dX2_run_386 ic_1 (pc2 := 387) rfl ?_
                              refine g_goto hc dX2_run_387 (pc2 := 391) rfl ?_
                              refine g_iast hc (kf_2_6 hx0) (kl_2_6 hx0) dX2_run_391 (pc2 := 392) rfl (fun s104 => ?_)
                              refine g_goto hc dX2_run_392 (pc2 := 436) rfl ?_
                              refine g_iinc hc dX2_run_436 rfl (q_ii ic_1) (by decide) (L2 := [some (q_rf w x0), none, some (.int x2), some (q_rf w x3), some (.int v79), some (.int (x5 + 1)), some (.int v4), none, some (.int v76), some (.int v80)]) rfl (pc2 := 439) rfl ?_
                              refine g_goto hc dX2_run_439 (pc2 := 6) rfl ?_
                              refine q_Gmask [true, true, true, true, true, true, false, true, false, false] (L2 := [some (q_rf w x0), none, some (.int x2), some (q_rf w x3), some (.int v79), some (.int (x5 + 1)), none, none, none, none]) rfl ?_
                              exact ih _ _ _
                          refine g_swc (pc2 := 0) hc dX2_run_211 (c := 9) (by decide) (by decide) rfl (pc1 := 395) rfl (fun _ => ?_) (fun c105 => ?_)
                          · refine g_rl0 hc dX2_run_395 rfl (pc2 := 396) rfl ?_
                            refine g_getR hc fl_X2_30 rfl hx0 dX2_run_396 (pc2 := 399) rfl ?_
                            refine g_iload hc dX2_run_399 rfl (pc2 := 401) rfl ?_
                            refine g_iconst hc dX2_run_401 ic_1 (pc2 := 402) rfl ?_
                            refine g_iload hc dX2_run_402 rfl (pc2 := 404) rfl ?_
                            refine g_isub hc dX2_run_404 (pc2 := 405) rfl ?_
                            refine g_iast hc (kf_2_6 hx0) (kl_2_6 hx0) dX2_run_405 (pc2 := 406) rfl (fun s106 => ?_)
                            refine g_goto hc dX2_run_406 (pc2 := 436) rfl ?_
                            refine g_iinc hc dX2_run_436 rfl (q_ii ic_1) (by decide) (L2 := [some (q_rf w x0), none, some (.int x2), some (q_rf w x3), some (.int v79), some (.int (x5 + 1)), some (.int v4), none, some (.int v76), some (.int v80)]) rfl (pc2 := 439) rfl ?_
                            refine g_goto hc dX2_run_439 (pc2 := 6) rfl ?_
                            refine q_Gmask [true, true, true, true, true, true, false, true, false, false] (L2 := [some (q_rf w x0), none, some (.int x2), some (q_rf w x3), some (.int v79), some (.int (x5 + 1)), none, none, none, none]) rfl ?_
                            exact ih _ _ _
                          refine g_swc (pc2 := 0) hc dX2_run_211 (c := 10) (by decide) (by decide) rfl (pc1 := 409) rfl (fun _ => ?_) (fun c107 => ?_)
                          · refine g_rl0 hc dX2_run_409 rfl (pc2 := 410) rfl ?_
                            refine g_getR hc fl_X2_30 rfl hx0 dX2_run_410 (pc2 := 413) rfl ?_
                            refine g_iload hc dX2_run_413 rfl (pc2 := 415) rfl ?_
                            refine g_iload hc dX2_run_415 rfl (pc2 := 417) rfl ?_
                            refine g_iload hc dX2_run_417 rfl (pc2 := 419) rfl ?_
                            refine g_iand hc dX2_run_419 (pc2 := 420) rfl ?_
                            refine g_iast hc (kf_2_6 hx0) (kl_2_6 hx0) dX2_run_420 (pc2 := 421) rfl (fun s108 => ?_)
                            refine g_goto hc dX2_run_421 (pc2 := 436) rfl ?_
                            refine g_iinc hc dX2_run_436 rfl (q_ii ic_1) (by decide) (L2 := [some (q_rf w x0), none, some (.int x2), some (q_rf w x3), some (.int v79), some (.int (x5 + 1)), some (.int v4), none, some (.int v76), some (.int v80)]) rfl (pc2 := 439) rfl ?_
                            refine g_goto hc dX2_run_439 (pc2 := 6) rfl ?_
                            refine q_Gmask [true, true, true, true, true, true, false, true, false, false] (L2 := [some (q_rf w x0), none, some (.int x2), some (q_rf w x3), some (.int v79), some (.int (x5 + 1)), none, none, none, none]) rfl ?_
                            exact ih _ _ _
                          refine g_swd (pc2 := 0) hc dX2_run_211 (fun i a b e => ?_) (pc1 := 424) rfl ?_
                          · rcases (show i = 2 ∨ i = 3 ∨ i = 4 ∨ i = 5 ∨ i = 6 ∨ i = 7 ∨ i = 8 ∨ i = 9 ∨ i = 10 by omega) with rfl | rfl | rfl | rfl | rfl | rfl | rfl | rfl | rfl
                            · exact q_swx (c := 2) (by decide) c82 e
                            · exact q_swx (c := 3) (by decide) c87 e
                            · exact q_swx (c := 4) (by decide) c89 e
                            · exact q_swx (c := 5) (by decide) c91 e
                            · exact q_swx (c := 6) (by decide) c93 e
                            · exact q_swx (c := 7) (by decide) c97 e
                            · exact q_swx (c := 8) (by decide) c101 e
                            · exact q_swx (c := 9) (by decide) c105 e
                            · exact q_swx (c := 10) (by decide) c107 e
                          · refine g_rl0 hc dX2_run_424 rfl (pc2 := 425) rfl ?_
                            refine g_getR hc fl_X2_30 rfl hx0 dX2_run_425 (pc2 := 428) rfl ?_
                            refine g_iload hc dX2_run_428 rfl (pc2 := 430) rfl ?_
                            refine g_iload hc dX2_run_430 rfl (pc2 := 432) rfl ?_
                            refine g_iload hc dX2_run_432 rfl (pc2 := 434) rfl ?_
                            refine g_ior hc dX2_run_434 (pc2 := 435) rfl ?_
                            refine g_iast hc (kf_2_6 hx0) (kl_2_6 hx0) dX2_run_435 (pc2 := 436) rfl (fun s109 => ?_)
                            refine g_iinc hc dX2_run_436 rfl (q_ii ic_1) (by decide) (L2 := [some (q_rf w x0), none, some (.int x2), some (q_rf w x3), some (.int v79), some (.int (x5 + 1)), some (.int v4), none, some (.int v76), some (.int v80)]) rfl (pc2 := 439) rfl ?_
                            refine g_goto hc dX2_run_439 (pc2 := 6) rfl ?_
                            refine q_Gmask [true, true, true, true, true, true, false, true, false, false] (L2 := [some (q_rf w x0), none, some (.int x2), some (q_rf w x3), some (.int v79), some (.int (x5 + 1)), none, none, none, none]) rfl ?_
                            exact ih _ _ _
                        · refine g_if_eq hc dX2_run_184 (pc1 := 191) (pc2 := 187) rfl rfl (fun _ => ?_) (fun _ => ?_)
                          · refine g_iconst hc dX2_run_191 ic_1 (pc2 := 192) rfl ?_
                            refine q_Gmask [true, true, true, true, false, true, true, false, true, true] (L2 := [some (q_rf w x0), none, some (.int x2), some (q_rf w x3), none, some (.int x5), some (.int v4), none, some (.int v76), none]) rfl ?_
                            exact hj192 _ _
                          · refine g_iconst hc dX2_run_187 ic_0 (pc2 := 188) rfl ?_
                            refine g_goto hc dX2_run_188 (pc2 := 192) rfl ?_
                            refine q_Gmask [true, true, true, true, false, true, true, false, true, true] (L2 := [some (q_rf w x0), none, some (.int x2), some (q_rf w x3), none, some (.int x5), some (.int v4), none, some (.int v76), none]) rfl ?_
                            exact hj192 _ _
                    · refine g_if_eq hc dX2_run_157 (pc1 := 164) (pc2 := 160) rfl rfl (fun _ => ?_) (fun _ => ?_)
                      · refine g_iconst hc dX2_run_164 ic_1 (pc2 := 165) rfl ?_
                        exact hj165 _ _
                      · refine g_iconst hc dX2_run_160 ic_0 (pc2 := 161) rfl ?_
                        refine g_goto hc dX2_run_161 (pc2 := 165) rfl ?_
                        exact hj165 _ _
                  · refine g_icmp_eq hc dX2_run_131 (pc1 := 146) (pc2 := 134) rfl rfl (fun _ => ?_) (fun _ => ?_)
                    · exact hj146 _
                    · refine g_rl0 hc dX2_run_134 rfl (pc2 := 135) rfl ?_
                      refine g_getR hc fl_X2_24 rfl hx0 dX2_run_135 (pc2 := 138) rfl ?_
                      refine g_iload hc dX2_run_138 rfl (pc2 := 140) rfl ?_
                      refine g_iald hc (kf_2_4 hx0) (kl_2_4 hx0) dX2_run_140 (pc2 := 141) rfl (fun v113 => ?_)
                      refine g_bipush hc dX2_run_141 bp_9 (pc2 := 143) rfl ?_
                      refine g_icmp_ne hc dX2_run_143 (pc1 := 146) (pc2 := 150) rfl rfl (fun _ => ?_) (fun _ => ?_)
                      · exact hj146 _
                      · refine g_iconst hc dX2_run_150 ic_0 (pc2 := 151) rfl ?_
                        exact hj151 _ _
        · refine q_Gmask [true, true, false, false, true, false, true, true, true, true] (L2 := [some (q_rf w x0), none, none, none, some (.int x4), none, none, none, none, none]) rfl ?_
          exact hk442 _ _
      · refine q_Gmask [true, true, false, false, true, false, true, true, true, true] (L2 := [some (q_rf w x0), none, none, none, some (.int x4), none, none, none, none, none]) rfl ?_
        exact hk442 _ _
set_option maxRecDepth 100000 in
set_option maxHeartbeats 4000000 in
theorem C_X2_run {l : Launch} {w : q_Wd} {n : Nat} {t : Nat} {a0 : Int32} {a1 : Int32} {a2 : Nat} (ht : q_KD t = .inl 2) (ha2 : q_KD a2 = .inr (10, false)) (la2 : a2 < q_N0) {s0 : q_Sto} : q_C l w yX2_run cX2_run 10 (some .int) (q_rm 0 0) [q_rf w t, .int a0, .int a1, q_rf w a2] s0 (f_X2_run n t a0 a1 a2 s0) := q_CofG [some (q_rf w t), some (.int a0), some (.int a1), some (q_rf w a2), none, none, none, none, none, none] (by decide +kernel) rfl rfl (Nat.le_of_ble_eq_true rfl) fun cx hl hc => by
  have hc : q_ok w cx RX2 cX2_run 10 (some .int) (q_rm 0 0) := hc
  rw [f_X2_run]
  refine g_iconst hc dX2_run_0 ic_m1 (pc2 := 1) rfl ?_
  refine g_istore hc dX2_run_1 (by decide) (L2 := [some (q_rf w t), some (.int a0), some (.int a1), some (q_rf w a2), some (.int (-1)), none, none, none, none, none]) rfl (pc2 := 3) rfl ?_
  refine g_il1 hc dX2_run_3 rfl (pc2 := 4) rfl ?_
  refine g_istore hc dX2_run_4 (by decide) (L2 := [some (q_rf w t), some (.int a0), some (.int a1), some (q_rf w a2), some (.int (-1)), some (.int a0), none, none, none, none]) rfl (pc2 := 6) rfl ?_
  refine q_Gmask [true, false, true, true, true, true, true, true, true, true] (L2 := [some (q_rf w t), none, some (.int a1), some (q_rf w a2), some (.int (-1)), some (.int a0), none, none, none, none]) rfl ?_
  refine t_X2_run_L6 hc ht ha2 la2 (fun y115 s116 => ?_) n _ _ _
  refine g_iload hc dX2_run_442 rfl (pc2 := 444) rfl ?_
  refine g_if_lt hc dX2_run_444 (pc1 := 457) (pc2 := 447) rfl rfl (fun _ => ?_) (fun _ => ?_)
  · refine g_iconst hc dX2_run_457 ic_0 (pc2 := 458) rfl ?_
    exact g_iret hc dX2_run_458
  · refine g_rl0 hc dX2_run_447 rfl (pc2 := 448) rfl ?_
    refine g_getR hc fl_X2_30 rfl ht dX2_run_448 (pc2 := 451) rfl ?_
    refine g_iload hc dX2_run_451 rfl (pc2 := 453) rfl ?_
    refine g_iald hc (kf_2_6 ht) (kl_2_6 ht) dX2_run_453 (pc2 := 454) rfl (fun v118 => ?_)
    refine g_goto hc dX2_run_454 (pc2 := 458) rfl ?_
    exact g_iret hc dX2_run_458
set_option maxRecDepth 100000 in
set_option maxHeartbeats 4000000 in
def f_X2_tells_L3 (n : Nat) (x0 : Nat) (x1 : Int32) (x2 : Nat) (x3 : Int32) (k41 : Int32 → q_Sto → Option (Int32 × q_Sto)) (k83 : Int32 → q_Sto → Option (Int32 × q_Sto)) : Nat → Int32 → q_Sto → Option (Int32 × q_Sto)
  | 0, _, _ => none
  | j + 1, x4, s0 =>
    if x4 < (s0 x0 8) then (
    if x4 < 16 then (
    q_ld s0 (q_RF x0 0) x4 16 fun v3 =>
    if v3 = x1 then (
    q_ld s0 (q_RF x0 2) x4 16 fun v5 =>
    if v5 = (-1) then (
    k41 x4 s0)
    else (
    q_ld s0 (q_RF x0 2) x4 16 fun v7 =>
    q_ld s0 (q_RF x0 3) x4 16 fun v8 =>
    q_call (f_X2_run n x0 v7 v8 x2 s0) fun r10 s9 =>
    if r10 = 0 then (
    f_X2_tells_L3 n x0 x1 x2 x3 k41 k83 j (x4 + 1) s9)
    else (
    k83 x4 s9)))
    else (
    f_X2_tells_L3 n x0 x1 x2 x3 k41 k83 j (x4 + 1) s0))
    else (
    some (x3, s0)))
    else (
    some (x3, s0))
set_option maxRecDepth 100000 in
set_option maxHeartbeats 4000000 in
def f_X2_tells (n : Nat) (t : Nat) (a0 : Int32) (a1 : Nat) (a2 : Int32) (s0 : q_Sto) : Option (Int32 × q_Sto) :=
  f_X2_tells_L3 n t a0 a1 a2 (fun (y12 : Int32) (s13 : q_Sto) =>
  q_ld s13 (q_RF t 1) y12 16 fun v14 =>
  q_ld s13 (q_RF t 3) y12 16 fun v15 =>
  q_call (f_X2_run n t v14 v15 a1 s13) fun r17 s16 =>
  some (r17, s16)) (fun (y18 : Int32) (s19 : q_Sto) =>
  q_ld s19 (q_RF t 1) y18 16 fun v20 =>
  q_ld s19 (q_RF t 2) y18 16 fun v21 =>
  q_call (f_X2_run n t v20 v21 a1 s19) fun r23 s22 =>
  some (r23, s22)) n 0 s0
set_option maxRecDepth 100000 in
set_option maxHeartbeats 4000000 in
theorem t_X2_tells_L3 {w : q_Wd} {cx : q_Cx} (hc : q_ok w cx RX2 cX2_tells 5 (some .int) (q_rm 1 29)) {n : Nat} {x0 : Nat} {x1 : Int32} {x2 : Nat} {x3 : Int32} (hx0 : q_KD x0 = .inl 2) (hx2 : q_KD x2 = .inr (10, false)) (lx2 : x2 < q_N0) {k41 : Int32 → q_Sto → Option (Int32 × q_Sto)} {k83 : Int32 → q_Sto → Option (Int32 × q_Sto)} (hk41 : ∀ (y4 : Int32) (s1 : q_Sto), q_G w cx 5 (some .int) 41 [some (q_rf w x0), none, some (q_rf w x2), none, some (.int y4)] [] s1 (k41 y4 s1)) (hk83 : ∀ (y4 : Int32) (s1 : q_Sto), q_G w cx 5 (some .int) 83 [some (q_rf w x0), none, some (q_rf w x2), none, some (.int y4)] [] s1 (k83 y4 s1)) :
    ∀ (j : Nat) (x4 : Int32) (s0 : q_Sto), q_G w cx 5 (some .int) 3 [some (q_rf w x0), some (.int x1), some (q_rf w x2), some (.int x3), some (.int x4)] [] s0 (f_X2_tells_L3 n x0 x1 x2 x3 k41 k83 j x4 s0) := by
  intro j
  induction j with
  | zero =>
    intro _ _
    rw [f_X2_tells_L3]
    exact q_none
  | succ j ih =>
    intro x4 s0
    rw [f_X2_tells_L3]
    refine g_iload hc dX2_tells_3 rfl (pc2 := 5) rfl ?_
    refine g_rl0 hc dX2_tells_5 rfl (pc2 := 6) rfl ?_
    refine g_getI hc fl_X2_37 rfl hx0 dX2_tells_6 (pc2 := 9) rfl ?_
    refine g_icmp_ge hc dX2_tells_9 (pc1 := 12) (pc2 := 109) rfl rfl (fun _ => ?_) (fun _ => ?_)
    · refine g_iload hc dX2_tells_12 rfl (pc2 := 14) rfl ?_
      refine g_bipush hc dX2_tells_14 bp_16 (pc2 := 16) rfl ?_
      refine g_icmp_ge hc dX2_tells_16 (pc1 := 19) (pc2 := 109) rfl rfl (fun _ => ?_) (fun _ => ?_)
      · refine g_rl0 hc dX2_tells_19 rfl (pc2 := 20) rfl ?_
        refine g_getR hc fl_X2_9 rfl hx0 dX2_tells_20 (pc2 := 23) rfl ?_
        refine g_iload hc dX2_tells_23 rfl (pc2 := 25) rfl ?_
        refine g_iald hc (kf_2_0 hx0) (kl_2_0 hx0) dX2_tells_25 (pc2 := 26) rfl (fun v3 => ?_)
        refine g_il1 hc dX2_tells_26 rfl (pc2 := 27) rfl ?_
        refine g_icmp_ne hc dX2_tells_27 (pc1 := 30) (pc2 := 103) rfl rfl (fun _ => ?_) (fun _ => ?_)
        · refine g_rl0 hc dX2_tells_30 rfl (pc2 := 31) rfl ?_
          refine g_getR hc fl_X2_18 rfl hx0 dX2_tells_31 (pc2 := 34) rfl ?_
          refine g_iload hc dX2_tells_34 rfl (pc2 := 36) rfl ?_
          refine g_iald hc (kf_2_2 hx0) (kl_2_2 hx0) dX2_tells_36 (pc2 := 37) rfl (fun v5 => ?_)
          refine g_iconst hc dX2_tells_37 ic_m1 (pc2 := 38) rfl ?_
          refine g_icmp_ne hc dX2_tells_38 (pc1 := 41) (pc2 := 61) rfl rfl (fun _ => ?_) (fun _ => ?_)
          · refine q_Gmask [true, false, true, false, true] (L2 := [some (q_rf w x0), none, some (q_rf w x2), none, some (.int x4)]) rfl ?_
            exact hk41 _ _
          · refine g_rl0 hc dX2_tells_61 rfl (pc2 := 62) rfl ?_
            refine g_rl0 hc dX2_tells_62 rfl (pc2 := 63) rfl ?_
            refine g_getR hc fl_X2_18 rfl hx0 dX2_tells_63 (pc2 := 66) rfl ?_
            refine g_iload hc dX2_tells_66 rfl (pc2 := 68) rfl ?_
            refine g_iald hc (kf_2_2 hx0) (kl_2_2 hx0) dX2_tells_68 (pc2 := 69) rfl (fun v7 => ?_)
            refine g_rl0 hc dX2_tells_69 rfl (pc2 := 70) rfl ?_
            refine g_getR hc fl_X2_21 rfl hx0 dX2_tells_70 (pc2 := 73) rfl ?_
            refine g_iload hc dX2_tells_73 rfl (pc2 := 75) rfl ?_
            refine g_iald hc (kf_2_3 hx0) (kl_2_3 hx0) dX2_tells_75 (pc2 := 76) rfl (fun v8 => ?_)
            refine g_rl2 hc dX2_tells_76 rfl (pc2 := 77) rfl ?_
            refine g_callV3 hc (C_X2_run hx0 hx2 lx2) mv_X2_run ln_X2_44 hx0 ⟨by decide, by decide⟩ (Nat.le_of_ble_eq_true rfl) dX2_tells_77 (pc2 := 80) rfl (fun r10 s9 => ?_)
            refine g_if_eq hc dX2_tells_80 (pc1 := 103) (pc2 := 83) rfl rfl (fun _ => ?_) (fun _ => ?_)
            · refine g_iinc hc dX2_tells_103 rfl (q_ii ic_1) (by decide) (L2 := [some (q_rf w x0), some (.int x1), some (q_rf w x2), some (.int x3), some (.int (x4 + 1))]) rfl (pc2 := 106) rfl ?_
              refine g_goto hc dX2_tells_106 (pc2 := 3) rfl ?_
              exact ih _ _
            · refine q_Gmask [true, false, true, false, true] (L2 := [some (q_rf w x0), none, some (q_rf w x2), none, some (.int x4)]) rfl ?_
              exact hk83 _ _
        · refine g_iinc hc dX2_tells_103 rfl (q_ii ic_1) (by decide) (L2 := [some (q_rf w x0), some (.int x1), some (q_rf w x2), some (.int x3), some (.int (x4 + 1))]) rfl (pc2 := 106) rfl ?_
          refine g_goto hc dX2_tells_106 (pc2 := 3) rfl ?_
          exact ih _ _
      · refine g_il3 hc dX2_tells_109 rfl (pc2 := 110) rfl ?_
        exact g_iret hc dX2_tells_110
    · refine g_il3 hc dX2_tells_109 rfl (pc2 := 110) rfl ?_
      exact g_iret hc dX2_tells_110
set_option maxRecDepth 100000 in
set_option maxHeartbeats 4000000 in
theorem C_X2_tells {l : Launch} {w : q_Wd} {n : Nat} {t : Nat} {a0 : Int32} {a1 : Nat} {a2 : Int32} (ht : q_KD t = .inl 2) (ha1 : q_KD a1 = .inr (10, false)) (la1 : a1 < q_N0) {s0 : q_Sto} : q_C l w yX2_tells cX2_tells 5 (some .int) (q_rm 1 29) [q_rf w t, .int a0, q_rf w a1, .int a2] s0 (f_X2_tells n t a0 a1 a2 s0) := q_CofG [some (q_rf w t), some (.int a0), some (q_rf w a1), some (.int a2), none] (by decide +kernel) rfl rfl (Nat.le_of_ble_eq_true rfl) fun cx hl hc => by
  have hc : q_ok w cx RX2 cX2_tells 5 (some .int) (q_rm 1 29) := hc
  rw [f_X2_tells]
  refine g_iconst hc dX2_tells_0 ic_0 (pc2 := 1) rfl ?_
  refine g_istore hc dX2_tells_1 (by decide) (L2 := [some (q_rf w t), some (.int a0), some (q_rf w a1), some (.int a2), some (.int 0)]) rfl (pc2 := 3) rfl ?_
  refine t_X2_tells_L3 hc ht ha1 la1 (fun y12 s13 => ?_) (fun y18 s19 => ?_) n _ _
  · refine g_rl0 hc dX2_tells_41 rfl (pc2 := 42) rfl ?_
    refine g_rl0 hc dX2_tells_42 rfl (pc2 := 43) rfl ?_
    refine g_getR hc fl_X2_15 rfl ht dX2_tells_43 (pc2 := 46) rfl ?_
    refine g_iload hc dX2_tells_46 rfl (pc2 := 48) rfl ?_
    refine g_iald hc (kf_2_1 ht) (kl_2_1 ht) dX2_tells_48 (pc2 := 49) rfl (fun v14 => ?_)
    refine g_rl0 hc dX2_tells_49 rfl (pc2 := 50) rfl ?_
    refine g_getR hc fl_X2_21 rfl ht dX2_tells_50 (pc2 := 53) rfl ?_
    refine g_iload hc dX2_tells_53 rfl (pc2 := 55) rfl ?_
    refine g_iald hc (kf_2_3 ht) (kl_2_3 ht) dX2_tells_55 (pc2 := 56) rfl (fun v15 => ?_)
    refine g_rl2 hc dX2_tells_56 rfl (pc2 := 57) rfl ?_
    refine g_callV3 hc (C_X2_run ht ha1 la1) mv_X2_run ln_X2_44 ht ⟨by decide, by decide⟩ (Nat.le_of_ble_eq_true rfl) dX2_tells_57 (pc2 := 60) rfl (fun r17 s16 => ?_)
    exact g_iret hc dX2_tells_60
  · refine g_rl0 hc dX2_tells_83 rfl (pc2 := 84) rfl ?_
    refine g_rl0 hc dX2_tells_84 rfl (pc2 := 85) rfl ?_
    refine g_getR hc fl_X2_15 rfl ht dX2_tells_85 (pc2 := 88) rfl ?_
    refine g_iload hc dX2_tells_88 rfl (pc2 := 90) rfl ?_
    refine g_iald hc (kf_2_1 ht) (kl_2_1 ht) dX2_tells_90 (pc2 := 91) rfl (fun v20 => ?_)
    refine g_rl0 hc dX2_tells_91 rfl (pc2 := 92) rfl ?_
    refine g_getR hc fl_X2_18 rfl ht dX2_tells_92 (pc2 := 95) rfl ?_
    refine g_iload hc dX2_tells_95 rfl (pc2 := 97) rfl ?_
    refine g_iald hc (kf_2_2 ht) (kl_2_2 ht) dX2_tells_97 (pc2 := 98) rfl (fun v21 => ?_)
    refine g_rl2 hc dX2_tells_98 rfl (pc2 := 99) rfl ?_
    refine g_callV3 hc (C_X2_run ht ha1 la1) mv_X2_run ln_X2_44 ht ⟨by decide, by decide⟩ (Nat.le_of_ble_eq_true rfl) dX2_tells_99 (pc2 := 102) rfl (fun r23 s22 => ?_)
    exact g_iret hc dX2_tells_102
set_option maxRecDepth 100000 in
set_option maxHeartbeats 4000000 in
def f_X10_needOf (n : Nat) (t : Nat) (a0 : Int32) (s0 : q_Sto) : Option (Int32 × q_Sto) :=
  q_callv (f_X10_factsOf n t a0 (-1) s0) fun s1 =>
  q_call (f_X2_tells n (q_RF t 1) 1 (q_RF t 8) 40 s1) fun r4 s3 =>
  some (q_mx 0 (q_mn 999 r4), s3)
set_option maxRecDepth 100000 in
set_option maxHeartbeats 4000000 in
theorem C_X10_needOf {l : Launch} {w : q_Wd} {n : Nat} {t : Nat} {a0 : Int32} (ht : q_KD t = .inl 10) {s0 : q_Sto} : q_C l w yX10_needOf cX10_needOf 2 (some .int) (q_rm 2 53) [q_rf w t, .int a0] s0 (f_X10_needOf n t a0 s0) := q_CofG [some (q_rf w t), some (.int a0)] (by decide +kernel) rfl rfl (Nat.le_of_ble_eq_true rfl) fun cx hl hc => by
  have hc : q_ok w cx RX10 cX10_needOf 2 (some .int) (q_rm 2 53) := hc
  rw [f_X10_needOf]
  refine g_rl0 hc dX10_needOf_0 rfl (pc2 := 1) rfl ?_
  refine g_il1 hc dX10_needOf_1 rfl (pc2 := 2) rfl ?_
  refine g_iconst hc dX10_needOf_2 ic_m1 (pc2 := 3) rfl ?_
  refine g_callV2v hc (C_X10_factsOf ht) mv_X10_factsOf ln_X10_93 ht ⟨by decide, by decide⟩ (Nat.le_of_ble_eq_true rfl) dX10_needOf_3 (pc2 := 6) rfl (fun s1 => ?_)
  refine g_iconst hc dX10_needOf_6 ic_0 (pc2 := 7) rfl ?_
  refine g_sipush hc dX10_needOf_7 sp_999 (pc2 := 10) rfl ?_
  refine g_rl0 hc dX10_needOf_10 rfl (pc2 := 11) rfl ?_
  refine g_getR hc fl_X10_21 rfl ht dX10_needOf_11 (pc2 := 14) rfl ?_
  refine g_iconst hc dX10_needOf_14 ic_1 (pc2 := 15) rfl ?_
  refine g_rl0 hc dX10_needOf_15 rfl (pc2 := 16) rfl ?_
  refine g_getR hc fl_X10_50 rfl ht dX10_needOf_16 (pc2 := 19) rfl ?_
  refine g_bipush hc dX10_needOf_19 bp_40 (pc2 := 21) rfl ?_
  refine g_callV3 hc (C_X2_tells (kf_10_1 ht) (kf_10_8 ht) (kl_10_8 ht)) mv_X2_tells ln_X10_97 (kf_10_1 ht) ⟨by decide, by decide⟩ (Nat.le_of_ble_eq_true rfl) dX10_needOf_21 (pc2 := 24) rfl (fun r4 s3 => ?_)
  refine g_min hc ln_X10_101 ⟨by decide, by decide⟩ (Nat.le_of_ble_eq_true rfl) dX10_needOf_24 (pc2 := 27) rfl ?_
  refine g_max hc ln_X10_107 ⟨by decide, by decide⟩ (Nat.le_of_ble_eq_true rfl) dX10_needOf_27 (pc2 := 30) rfl ?_
  exact g_iret hc dX10_needOf_30
set_option maxRecDepth 100000 in
set_option maxHeartbeats 4000000 in
def f_X6_cell (n : Nat) (t : Nat) (a0 : Int32) (a1 : Int32) (s0 : q_Sto) : Option (Int32 × q_Sto) :=
  if a0 < 0 then (
  some (0, s0))
  else (
  if a0 < (s0 t 2) then (
  if (s0 t 2) ≤ 16 then (
  if a1 < 0 then (
  some (0, s0))
  else (
  if a1 < 4 then (
  q_ld s0 (q_RF t 0) ((a0 * 4) + a1) 64 fun v6 =>
  some (v6, s0))
  else (
  some (0, s0))))
  else (
  some (0, s0)))
  else (
  some (0, s0)))
set_option maxRecDepth 100000 in
set_option maxHeartbeats 4000000 in
theorem C_X6_cell {l : Launch} {w : q_Wd} {n : Nat} {t : Nat} {a0 : Int32} {a1 : Int32} (ht : q_KD t = .inl 6) {s0 : q_Sto} : q_C l w yX6_cell cX6_cell 3 (some .int) (q_rm 0 0) [q_rf w t, .int a0, .int a1] s0 (f_X6_cell n t a0 a1 s0) := q_CofG [some (q_rf w t), some (.int a0), some (.int a1)] (by decide +kernel) rfl rfl (Nat.le_of_ble_eq_true rfl) fun cx hl hc => by
  have hc : q_ok w cx RX6 cX6_cell 3 (some .int) (q_rm 0 0) := hc
  rw [f_X6_cell]
  refine g_il1 hc dX6_cell_0 rfl (pc2 := 1) rfl ?_
  refine g_if_lt hc dX6_cell_1 (pc1 := 30) (pc2 := 4) rfl rfl (fun _ => ?_) (fun _ => ?_)
  · refine g_iconst hc dX6_cell_30 ic_0 (pc2 := 31) rfl ?_
    exact g_iret hc dX6_cell_31
  · refine g_il1 hc dX6_cell_4 rfl (pc2 := 5) rfl ?_
    refine g_rl0 hc dX6_cell_5 rfl (pc2 := 6) rfl ?_
    refine g_getI hc fl_X6_15 rfl ht dX6_cell_6 (pc2 := 9) rfl ?_
    refine g_icmp_ge hc dX6_cell_9 (pc1 := 12) (pc2 := 30) rfl rfl (fun _ => ?_) (fun _ => ?_)
    · refine g_rl0 hc dX6_cell_12 rfl (pc2 := 13) rfl ?_
      refine g_getI hc fl_X6_15 rfl ht dX6_cell_13 (pc2 := 16) rfl ?_
      refine g_bipush hc dX6_cell_16 bp_16 (pc2 := 18) rfl ?_
      refine g_icmp_gt hc dX6_cell_18 (pc1 := 21) (pc2 := 30) rfl rfl (fun _ => ?_) (fun _ => ?_)
      · refine g_il2 hc dX6_cell_21 rfl (pc2 := 22) rfl ?_
        refine g_if_lt hc dX6_cell_22 (pc1 := 30) (pc2 := 25) rfl rfl (fun _ => ?_) (fun _ => ?_)
        · refine g_iconst hc dX6_cell_30 ic_0 (pc2 := 31) rfl ?_
          exact g_iret hc dX6_cell_31
        · refine g_il2 hc dX6_cell_25 rfl (pc2 := 26) rfl ?_
          refine g_iconst hc dX6_cell_26 ic_4 (pc2 := 27) rfl ?_
          refine g_icmp_lt hc dX6_cell_27 (pc1 := 32) (pc2 := 30) rfl rfl (fun _ => ?_) (fun _ => ?_)
          · refine g_rl0 hc dX6_cell_32 rfl (pc2 := 33) rfl ?_
            refine g_getR hc fl_X6_11 rfl ht dX6_cell_33 (pc2 := 36) rfl ?_
            refine g_il1 hc dX6_cell_36 rfl (pc2 := 37) rfl ?_
            refine g_iconst hc dX6_cell_37 ic_4 (pc2 := 38) rfl ?_
            refine g_imul hc dX6_cell_38 (pc2 := 39) rfl ?_
            refine g_il2 hc dX6_cell_39 rfl (pc2 := 40) rfl ?_
            refine g_iadd hc dX6_cell_40 (pc2 := 41) rfl ?_
            refine g_iald hc (kf_6_0 ht) (kl_6_0 ht) dX6_cell_41 (pc2 := 42) rfl (fun v6 => ?_)
            exact g_iret hc dX6_cell_42
          · refine g_iconst hc dX6_cell_30 ic_0 (pc2 := 31) rfl ?_
            exact g_iret hc dX6_cell_31
      · refine g_iconst hc dX6_cell_30 ic_0 (pc2 := 31) rfl ?_
        exact g_iret hc dX6_cell_31
    · refine g_iconst hc dX6_cell_30 ic_0 (pc2 := 31) rfl ?_
      exact g_iret hc dX6_cell_31
set_option maxRecDepth 100000 in
set_option maxHeartbeats 4000000 in
def f_X10_heededBy_L4 (n : Nat) (x0 : Nat) (x1 : Int32) : Nat → Int32 → Int32 → q_Sto → Option (Int32 × q_Sto)
  | 0, _, _, _ => none
  | j + 1, x2, x3, s0 =>
    if x3 < (s0 (q_RF x0 2) 2) then (
    q_call (f_X6_cell n (q_RF x0 2) x3 0 s0) fun r3 s2 =>
    if r3 = x1 then (
    q_call (f_X6_cell n (q_RF x0 2) x3 1 s2) fun r6 s5 =>
    q_nm (x2 ||| r6) fun v7 =>
    f_X10_heededBy_L4 n x0 x1  j v7 (x3 + 1) s5)
    else (
    f_X10_heededBy_L4 n x0 x1  j x2 (x3 + 1) s2))
    else (
    some (x2, s0))
set_option maxRecDepth 100000 in
set_option maxHeartbeats 4000000 in
def f_X10_heededBy (n : Nat) (t : Nat) (a0 : Int32) (s0 : q_Sto) : Option (Int32 × q_Sto) :=
  f_X10_heededBy_L4 n t a0  n 0 0 s0
set_option maxRecDepth 100000 in
set_option maxHeartbeats 4000000 in
theorem t_X10_heededBy_L4 {w : q_Wd} {cx : q_Cx} (hc : q_ok w cx RX10 cX10_heededBy 4 (some .int) (q_rm 1 22)) {n : Nat} {x0 : Nat} {x1 : Int32} (hx0 : q_KD x0 = .inl 10)   :
    ∀ (j : Nat) (x2 : Int32) (x3 : Int32) (s0 : q_Sto), q_G w cx 4 (some .int) 4 [some (q_rf w x0), some (.int x1), some (.int x2), some (.int x3)] [] s0 (f_X10_heededBy_L4 n x0 x1  j x2 x3 s0) := by
  intro j
  induction j with
  | zero =>
    intro _ _ _
    rw [f_X10_heededBy_L4]
    exact q_none
  | succ j ih =>
    intro x2 x3 s0
    rw [f_X10_heededBy_L4]
    refine g_il3 hc dX10_heededBy_4 rfl (pc2 := 5) rfl ?_
    refine g_rl0 hc dX10_heededBy_5 rfl (pc2 := 6) rfl ?_
    refine g_getR hc fl_X10_30 rfl hx0 dX10_heededBy_6 (pc2 := 9) rfl ?_
    refine g_getI hc fl_X10_148 rfl (kf_10_2 hx0) dX10_heededBy_9 (pc2 := 12) rfl ?_
    refine g_icmp_ge hc dX10_heededBy_12 (pc1 := 15) (pc2 := 46) rfl rfl (fun _ => ?_) (fun _ => ?_)
    · refine g_rl0 hc dX10_heededBy_15 rfl (pc2 := 16) rfl ?_
      refine g_getR hc fl_X10_30 rfl hx0 dX10_heededBy_16 (pc2 := 19) rfl ?_
      refine g_il3 hc dX10_heededBy_19 rfl (pc2 := 20) rfl ?_
      refine g_iconst hc dX10_heededBy_20 ic_0 (pc2 := 21) rfl ?_
      refine g_callV2 hc (C_X6_cell (kf_10_2 hx0)) mv_X6_cell ln_X10_151 (kf_10_2 hx0) ⟨by decide, by decide⟩ (Nat.le_of_ble_eq_true rfl) dX10_heededBy_21 (pc2 := 24) rfl (fun r3 s2 => ?_)
      refine g_il1 hc dX10_heededBy_24 rfl (pc2 := 25) rfl ?_
      refine g_icmp_ne hc dX10_heededBy_25 (pc1 := 28) (pc2 := 40) rfl rfl (fun _ => ?_) (fun _ => ?_)
      · refine g_il2 hc dX10_heededBy_28 rfl (pc2 := 29) rfl ?_
        refine g_rl0 hc dX10_heededBy_29 rfl (pc2 := 30) rfl ?_
        refine g_getR hc fl_X10_30 rfl hx0 dX10_heededBy_30 (pc2 := 33) rfl ?_
        refine g_il3 hc dX10_heededBy_33 rfl (pc2 := 34) rfl ?_
        refine g_iconst hc dX10_heededBy_34 ic_1 (pc2 := 35) rfl ?_
        refine g_callV2 hc (C_X6_cell (kf_10_2 hx0)) mv_X6_cell ln_X10_151 (kf_10_2 hx0) ⟨by decide, by decide⟩ (Nat.le_of_ble_eq_true rfl) dX10_heededBy_35 (pc2 := 38) rfl (fun r6 s5 => ?_)
        refine g_ior hc dX10_heededBy_38 (pc2 := 39) rfl ?_
        refine g_nm (fun v7 => ?_)
        refine g_is2 hc dX10_heededBy_39 (by decide) (L2 := [some (q_rf w x0), some (.int x1), some (.int v7), some (.int x3)]) rfl (pc2 := 40) rfl ?_
        refine g_iinc hc dX10_heededBy_40 rfl (q_ii ic_1) (by decide) (L2 := [some (q_rf w x0), some (.int x1), some (.int v7), some (.int (x3 + 1))]) rfl (pc2 := 43) rfl ?_
        refine g_goto hc dX10_heededBy_43 (pc2 := 4) rfl ?_
        exact ih _ _ _
      · refine g_iinc hc dX10_heededBy_40 rfl (q_ii ic_1) (by decide) (L2 := [some (q_rf w x0), some (.int x1), some (.int x2), some (.int (x3 + 1))]) rfl (pc2 := 43) rfl ?_
        refine g_goto hc dX10_heededBy_43 (pc2 := 4) rfl ?_
        exact ih _ _ _
    · refine g_il2 hc dX10_heededBy_46 rfl (pc2 := 47) rfl ?_
      exact g_iret hc dX10_heededBy_47
set_option maxRecDepth 100000 in
set_option maxHeartbeats 4000000 in
theorem C_X10_heededBy {l : Launch} {w : q_Wd} {n : Nat} {t : Nat} {a0 : Int32} (ht : q_KD t = .inl 10) {s0 : q_Sto} : q_C l w yX10_heededBy cX10_heededBy 4 (some .int) (q_rm 1 22) [q_rf w t, .int a0] s0 (f_X10_heededBy n t a0 s0) := q_CofG [some (q_rf w t), some (.int a0), none, none] (by decide +kernel) rfl rfl (Nat.le_of_ble_eq_true rfl) fun cx hl hc => by
  have hc : q_ok w cx RX10 cX10_heededBy 4 (some .int) (q_rm 1 22) := hc
  rw [f_X10_heededBy]
  refine g_iconst hc dX10_heededBy_0 ic_0 (pc2 := 1) rfl ?_
  refine g_is2 hc dX10_heededBy_1 (by decide) (L2 := [some (q_rf w t), some (.int a0), some (.int 0), none]) rfl (pc2 := 2) rfl ?_
  refine g_iconst hc dX10_heededBy_2 ic_0 (pc2 := 3) rfl ?_
  refine g_is3 hc dX10_heededBy_3 (by decide) (L2 := [some (q_rf w t), some (.int a0), some (.int 0), some (.int 0)]) rfl (pc2 := 4) rfl ?_
  refine t_X10_heededBy_L4 hc ht  n _ _ _
set_option maxRecDepth 100000 in
set_option maxHeartbeats 4000000 in
def f_J6_bitCount_0f7a4 (n : Nat) (a0 : Int32) (s0 : q_Sto) : Option (Int32 × q_Sto) :=
  q_nm (a0 - ((q_ushr a0 1) &&& 1431655765)) fun v1 =>
  q_nm ((v1 &&& 858993459) + ((q_ushr v1 2) &&& 858993459)) fun v2 =>
  q_nm ((v2 + (q_ushr v2 4)) &&& 252645135) fun v3 =>
  q_nm (v3 + (q_ushr v3 8)) fun v4 =>
  q_nm (v4 + (q_ushr v4 16)) fun v5 =>
  some (v5 &&& 63, s0)
set_option maxRecDepth 100000 in
set_option maxHeartbeats 4000000 in
theorem C_J6_bitCount_0f7a4 {l : Launch} {w : q_Wd} {n : Nat} {a0 : Int32}  {s0 : q_Sto} : q_C l w yJ6_bitCount_0f7a4 cJ6_bitCount_0f7a4 1 (some .int) (q_rm 0 0) [.int a0] s0 (f_J6_bitCount_0f7a4 n a0 s0) := q_CofG [some (.int a0)] (by decide +kernel) rfl rfl (Nat.le_of_ble_eq_true rfl) fun cx hl hc => by
  have hc : q_ok w cx RJ6 cJ6_bitCount_0f7a4 1 (some .int) (q_rm 0 0) := hc
  rw [f_J6_bitCount_0f7a4]
  refine g_il0 hc dJ6_bitCount_0f7a4_0 rfl (pc2 := 1) rfl ?_
  refine g_il0 hc dJ6_bitCount_0f7a4_1 rfl (pc2 := 2) rfl ?_
  refine g_iconst hc dJ6_bitCount_0f7a4_2 ic_1 (pc2 := 3) rfl ?_
  refine g_iushr hc dJ6_bitCount_0f7a4_3 (pc2 := 4) rfl ?_
  refine g_ldcw hc cn_J6_265 dJ6_bitCount_0f7a4_4 (pc2 := 7) rfl ?_
  refine g_iand hc dJ6_bitCount_0f7a4_7 (pc2 := 8) rfl ?_
  refine g_isub hc dJ6_bitCount_0f7a4_8 (pc2 := 9) rfl ?_
  refine g_nm (fun v1 => ?_)
  refine g_is0 hc dJ6_bitCount_0f7a4_9 (by decide) (L2 := [some (.int v1)]) rfl (pc2 := 10) rfl ?_
  refine g_il0 hc dJ6_bitCount_0f7a4_10 rfl (pc2 := 11) rfl ?_
  refine g_ldcw hc cn_J6_266 dJ6_bitCount_0f7a4_11 (pc2 := 14) rfl ?_
  refine g_iand hc dJ6_bitCount_0f7a4_14 (pc2 := 15) rfl ?_
  refine g_il0 hc dJ6_bitCount_0f7a4_15 rfl (pc2 := 16) rfl ?_
  refine g_iconst hc dJ6_bitCount_0f7a4_16 ic_2 (pc2 := 17) rfl ?_
  refine g_iushr hc dJ6_bitCount_0f7a4_17 (pc2 := 18) rfl ?_
  refine g_ldcw hc cn_J6_266 dJ6_bitCount_0f7a4_18 (pc2 := 21) rfl ?_
  refine g_iand hc dJ6_bitCount_0f7a4_21 (pc2 := 22) rfl ?_
  refine g_iadd hc dJ6_bitCount_0f7a4_22 (pc2 := 23) rfl ?_
  refine g_nm (fun v2 => ?_)
  refine g_is0 hc dJ6_bitCount_0f7a4_23 (by decide) (L2 := [some (.int v2)]) rfl (pc2 := 24) rfl ?_
  refine g_il0 hc dJ6_bitCount_0f7a4_24 rfl (pc2 := 25) rfl ?_
  refine g_il0 hc dJ6_bitCount_0f7a4_25 rfl (pc2 := 26) rfl ?_
  refine g_iconst hc dJ6_bitCount_0f7a4_26 ic_4 (pc2 := 27) rfl ?_
  refine g_iushr hc dJ6_bitCount_0f7a4_27 (pc2 := 28) rfl ?_
  refine g_iadd hc dJ6_bitCount_0f7a4_28 (pc2 := 29) rfl ?_
  refine g_ldcw hc cn_J6_267 dJ6_bitCount_0f7a4_29 (pc2 := 32) rfl ?_
  refine g_iand hc dJ6_bitCount_0f7a4_32 (pc2 := 33) rfl ?_
  refine g_nm (fun v3 => ?_)
  refine g_is0 hc dJ6_bitCount_0f7a4_33 (by decide) (L2 := [some (.int v3)]) rfl (pc2 := 34) rfl ?_
  refine g_il0 hc dJ6_bitCount_0f7a4_34 rfl (pc2 := 35) rfl ?_
  refine g_il0 hc dJ6_bitCount_0f7a4_35 rfl (pc2 := 36) rfl ?_
  refine g_bipush hc dJ6_bitCount_0f7a4_36 bp_8 (pc2 := 38) rfl ?_
  refine g_iushr hc dJ6_bitCount_0f7a4_38 (pc2 := 39) rfl ?_
  refine g_iadd hc dJ6_bitCount_0f7a4_39 (pc2 := 40) rfl ?_
  refine g_nm (fun v4 => ?_)
  refine g_is0 hc dJ6_bitCount_0f7a4_40 (by decide) (L2 := [some (.int v4)]) rfl (pc2 := 41) rfl ?_
  refine g_il0 hc dJ6_bitCount_0f7a4_41 rfl (pc2 := 42) rfl ?_
  refine g_il0 hc dJ6_bitCount_0f7a4_42 rfl (pc2 := 43) rfl ?_
  refine g_bipush hc dJ6_bitCount_0f7a4_43 bp_16 (pc2 := 45) rfl ?_
  refine g_iushr hc dJ6_bitCount_0f7a4_45 (pc2 := 46) rfl ?_
  refine g_iadd hc dJ6_bitCount_0f7a4_46 (pc2 := 47) rfl ?_
  refine g_nm (fun v5 => ?_)
  refine g_is0 hc dJ6_bitCount_0f7a4_47 (by decide) (L2 := [some (.int v5)]) rfl (pc2 := 48) rfl ?_
  refine g_il0 hc dJ6_bitCount_0f7a4_48 rfl (pc2 := 49) rfl ?_
  refine g_bipush hc dJ6_bitCount_0f7a4_49 bp_63 (pc2 := 51) rfl ?_
  refine g_iand hc dJ6_bitCount_0f7a4_51 (pc2 := 52) rfl ?_
  exact g_iret hc dJ6_bitCount_0f7a4_52
set_option maxRecDepth 100000 in
set_option maxHeartbeats 4000000 in
def f_X9_likingFor (n : Nat) (t : Nat) (a0 : Int32) (a1 : Int32) (s0 : q_Sto) : Option (Int32 × q_Sto) :=
  q_call (f_X9_hasMule n t a0 s0) fun r2 s1 =>
  if r2 = 0 then (
  some (0, s1))
  else (
  q_call (f_X9_hasMan n t a1 s1) fun r5 s4 =>
  if r5 = 0 then (
  some (0, s4))
  else (
  q_ld s4 (q_RF t 7) ((a0 * 5) + a1) 60 fun v7 =>
  some (v7, s4)))
set_option maxRecDepth 100000 in
set_option maxHeartbeats 4000000 in
theorem C_X9_likingFor {l : Launch} {w : q_Wd} {n : Nat} {t : Nat} {a0 : Int32} {a1 : Int32} (ht : q_KD t = .inl 9) {s0 : q_Sto} : q_C l w yX9_likingFor cX9_likingFor 3 (some .int) (q_rm 1 21) [q_rf w t, .int a0, .int a1] s0 (f_X9_likingFor n t a0 a1 s0) := q_CofG [some (q_rf w t), some (.int a0), some (.int a1)] (by decide +kernel) rfl rfl (Nat.le_of_ble_eq_true rfl) fun cx hl hc => by
  have hc : q_ok w cx RX9 cX9_likingFor 3 (some .int) (q_rm 1 21) := hc
  rw [f_X9_likingFor]
  refine g_rl0 hc dX9_likingFor_0 rfl (pc2 := 1) rfl ?_
  refine g_il1 hc dX9_likingFor_1 rfl (pc2 := 2) rfl ?_
  refine g_callV1 hc (C_X9_hasMule ht) mv_X9_hasMule ln_X9_77 ht ⟨by decide, by decide⟩ (Nat.le_of_ble_eq_true rfl) dX9_likingFor_2 (pc2 := 5) rfl (fun r2 s1 => ?_)
  refine g_if_eq hc dX9_likingFor_5 (pc1 := 29) (pc2 := 8) rfl rfl (fun _ => ?_) (fun _ => ?_)
  · refine g_iconst hc dX9_likingFor_29 ic_0 (pc2 := 30) rfl ?_
    exact g_iret hc dX9_likingFor_30
  · refine g_rl0 hc dX9_likingFor_8 rfl (pc2 := 9) rfl ?_
    refine g_il2 hc dX9_likingFor_9 rfl (pc2 := 10) rfl ?_
    refine g_callV1 hc (C_X9_hasMan ht) mv_X9_hasMan ln_X9_81 ht ⟨by decide, by decide⟩ (Nat.le_of_ble_eq_true rfl) dX9_likingFor_10 (pc2 := 13) rfl (fun r5 s4 => ?_)
    refine g_if_eq hc dX9_likingFor_13 (pc1 := 29) (pc2 := 16) rfl rfl (fun _ => ?_) (fun _ => ?_)
    · refine g_iconst hc dX9_likingFor_29 ic_0 (pc2 := 30) rfl ?_
      exact g_iret hc dX9_likingFor_30
    · refine g_rl0 hc dX9_likingFor_16 rfl (pc2 := 17) rfl ?_
      refine g_getR hc fl_X9_33 rfl ht dX9_likingFor_17 (pc2 := 20) rfl ?_
      refine g_il1 hc dX9_likingFor_20 rfl (pc2 := 21) rfl ?_
      refine g_iconst hc dX9_likingFor_21 ic_5 (pc2 := 22) rfl ?_
      refine g_imul hc dX9_likingFor_22 (pc2 := 23) rfl ?_
      refine g_il2 hc dX9_likingFor_23 rfl (pc2 := 24) rfl ?_
      refine g_iadd hc dX9_likingFor_24 (pc2 := 25) rfl ?_
      refine g_iald hc (kf_9_7 ht) (kl_9_7 ht) dX9_likingFor_25 (pc2 := 26) rfl (fun v7 => ?_)
      refine g_goto hc dX9_likingFor_26 (pc2 := 30) rfl ?_
      exact g_iret hc dX9_likingFor_30
set_option maxRecDepth 100000 in
set_option maxHeartbeats 4000000 in
def f_X10_leanOf (n : Nat) (t : Nat) (a0 : Int32) (a1 : Int32) (a2 : Int32) (a3 : Int32) (s0 : q_Sto) : Option (Int32 × q_Sto) :=
  q_callv (f_X10_factsOf n t a0 a1 s0) fun s1 =>
  q_st s1 (q_RF t 8) 3 10 a2 fun s3 =>
  q_st s3 (q_RF t 8) 4 10 a3 fun s4 =>
  q_call (f_X2_tells n (q_RF t 1) 0 (q_RF t 8) (a2 + (10 * a3)) s4) fun r6 s5 =>
  some (q_mx 0 (q_mn 999 r6), s5)
set_option maxRecDepth 100000 in
set_option maxHeartbeats 4000000 in
theorem C_X10_leanOf {l : Launch} {w : q_Wd} {n : Nat} {t : Nat} {a0 : Int32} {a1 : Int32} {a2 : Int32} {a3 : Int32} (ht : q_KD t = .inl 10) {s0 : q_Sto} : q_C l w yX10_leanOf cX10_leanOf 6 (some .int) (q_rm 2 53) [q_rf w t, .int a0, .int a1, .int a2, .int a3] s0 (f_X10_leanOf n t a0 a1 a2 a3 s0) := q_CofG [some (q_rf w t), some (.int a0), some (.int a1), some (.int a2), some (.int a3), none] (by decide +kernel) rfl rfl (Nat.le_of_ble_eq_true rfl) fun cx hl hc => by
  have hc : q_ok w cx RX10 cX10_leanOf 6 (some .int) (q_rm 2 53) := hc
  rw [f_X10_leanOf]
  refine g_rl0 hc dX10_leanOf_0 rfl (pc2 := 1) rfl ?_
  refine g_il1 hc dX10_leanOf_1 rfl (pc2 := 2) rfl ?_
  refine g_il2 hc dX10_leanOf_2 rfl (pc2 := 3) rfl ?_
  refine g_callV2v hc (C_X10_factsOf ht) mv_X10_factsOf ln_X10_93 ht ⟨by decide, by decide⟩ (Nat.le_of_ble_eq_true rfl) dX10_leanOf_3 (pc2 := 6) rfl (fun s1 => ?_)
  refine g_rl0 hc dX10_leanOf_6 rfl (pc2 := 7) rfl ?_
  refine g_getR hc fl_X10_50 rfl ht dX10_leanOf_7 (pc2 := 10) rfl ?_
  refine g_iconst hc dX10_leanOf_10 ic_3 (pc2 := 11) rfl ?_
  refine g_il3 hc dX10_leanOf_11 rfl (pc2 := 12) rfl ?_
  refine g_iast hc (kf_10_8 ht) (kl_10_8 ht) dX10_leanOf_12 (pc2 := 13) rfl (fun s3 => ?_)
  refine g_rl0 hc dX10_leanOf_13 rfl (pc2 := 14) rfl ?_
  refine g_getR hc fl_X10_50 rfl ht dX10_leanOf_14 (pc2 := 17) rfl ?_
  refine g_iconst hc dX10_leanOf_17 ic_4 (pc2 := 18) rfl ?_
  refine g_iload hc dX10_leanOf_18 rfl (pc2 := 20) rfl ?_
  refine g_iast hc (kf_10_8 ht) (kl_10_8 ht) dX10_leanOf_20 (pc2 := 21) rfl (fun s4 => ?_)
  refine g_rl0 hc dX10_leanOf_21 rfl (pc2 := 22) rfl ?_
  refine g_getR hc fl_X10_21 rfl ht dX10_leanOf_22 (pc2 := 25) rfl ?_
  refine g_iconst hc dX10_leanOf_25 ic_0 (pc2 := 26) rfl ?_
  refine g_rl0 hc dX10_leanOf_26 rfl (pc2 := 27) rfl ?_
  refine g_getR hc fl_X10_50 rfl ht dX10_leanOf_27 (pc2 := 30) rfl ?_
  refine g_il3 hc dX10_leanOf_30 rfl (pc2 := 31) rfl ?_
  refine g_bipush hc dX10_leanOf_31 bp_10 (pc2 := 33) rfl ?_
  refine g_iload hc dX10_leanOf_33 rfl (pc2 := 35) rfl ?_
  refine g_imul hc dX10_leanOf_35 (pc2 := 36) rfl ?_
  refine g_iadd hc dX10_leanOf_36 (pc2 := 37) rfl ?_
  refine g_callV3 hc (C_X2_tells (kf_10_1 ht) (kf_10_8 ht) (kl_10_8 ht)) mv_X2_tells ln_X10_97 (kf_10_1 ht) ⟨by decide, by decide⟩ (Nat.le_of_ble_eq_true rfl) dX10_leanOf_37 (pc2 := 40) rfl (fun r6 s5 => ?_)
  refine g_istore hc dX10_leanOf_40 (by decide) (L2 := [some (q_rf w t), some (.int a0), some (.int a1), some (.int a2), some (.int a3), some (.int r6)]) rfl (pc2 := 42) rfl ?_
  refine g_iconst hc dX10_leanOf_42 ic_0 (pc2 := 43) rfl ?_
  refine g_sipush hc dX10_leanOf_43 sp_999 (pc2 := 46) rfl ?_
  refine g_iload hc dX10_leanOf_46 rfl (pc2 := 48) rfl ?_
  refine g_min hc ln_X10_101 ⟨by decide, by decide⟩ (Nat.le_of_ble_eq_true rfl) dX10_leanOf_48 (pc2 := 51) rfl ?_
  refine g_max hc ln_X10_107 ⟨by decide, by decide⟩ (Nat.le_of_ble_eq_true rfl) dX10_leanOf_51 (pc2 := 54) rfl ?_
  exact g_iret hc dX10_leanOf_54
set_option maxRecDepth 100000 in
set_option maxHeartbeats 4000000 in
def f_X9_lameOnes_L4 (n : Nat) (x0 : Nat) : Nat → Int32 → Int32 → q_Sto → Option (Int32 × q_Sto)
  | 0, _, _, _ => none
  | j + 1, x1, x2, s0 =>
    if x2 < (s0 x0 8) then (
    if x2 < 12 then (
    q_ld s0 (q_RF x0 2) x2 12 fun v3 =>
    if v3 = 0 then (
    f_X9_lameOnes_L4 n x0  j x1 (x2 + 1) s0)
    else (
    q_nm (x1 ||| (1 <<< (x2 &&& 31))) fun v5 =>
    f_X9_lameOnes_L4 n x0  j v5 (x2 + 1) s0))
    else (
    some (x1, s0)))
    else (
    some (x1, s0))
set_option maxRecDepth 100000 in
set_option maxHeartbeats 4000000 in
def f_X9_lameOnes (n : Nat) (t : Nat) (s0 : q_Sto) : Option (Int32 × q_Sto) :=
  f_X9_lameOnes_L4 n t  n 0 0 s0
set_option maxRecDepth 100000 in
set_option maxHeartbeats 4000000 in
theorem t_X9_lameOnes_L4 {w : q_Wd} {cx : q_Cx} (hc : q_ok w cx RX9 cX9_lameOnes 3 (some .int) (q_rm 0 0)) {n : Nat} {x0 : Nat} (hx0 : q_KD x0 = .inl 9)   :
    ∀ (j : Nat) (x1 : Int32) (x2 : Int32) (s0 : q_Sto), q_G w cx 3 (some .int) 4 [some (q_rf w x0), some (.int x1), some (.int x2)] [] s0 (f_X9_lameOnes_L4 n x0  j x1 x2 s0) := by
  intro j
  induction j with
  | zero =>
    intro _ _ _
    rw [f_X9_lameOnes_L4]
    exact q_none
  | succ j ih =>
    intro x1 x2 s0
    rw [f_X9_lameOnes_L4]
    refine g_il2 hc dX9_lameOnes_4 rfl (pc2 := 5) rfl ?_
    refine g_rl0 hc dX9_lameOnes_5 rfl (pc2 := 6) rfl ?_
    refine g_getI hc fl_X9_36 rfl hx0 dX9_lameOnes_6 (pc2 := 9) rfl ?_
    refine g_icmp_ge hc dX9_lameOnes_9 (pc1 := 12) (pc2 := 39) rfl rfl (fun _ => ?_) (fun _ => ?_)
    · refine g_il2 hc dX9_lameOnes_12 rfl (pc2 := 13) rfl ?_
      refine g_bipush hc dX9_lameOnes_13 bp_12 (pc2 := 15) rfl ?_
      refine g_icmp_ge hc dX9_lameOnes_15 (pc1 := 18) (pc2 := 39) rfl rfl (fun _ => ?_) (fun _ => ?_)
      · refine g_rl0 hc dX9_lameOnes_18 rfl (pc2 := 19) rfl ?_
        refine g_getR hc fl_X9_18 rfl hx0 dX9_lameOnes_19 (pc2 := 22) rfl ?_
        refine g_il2 hc dX9_lameOnes_22 rfl (pc2 := 23) rfl ?_
        refine g_iald hc (kf_9_2 hx0) (kl_9_2 hx0) dX9_lameOnes_23 (pc2 := 24) rfl (fun v3 => ?_)
        refine g_if_eq hc dX9_lameOnes_24 (pc1 := 33) (pc2 := 27) rfl rfl (fun _ => ?_) (fun _ => ?_)
        · refine g_iinc hc dX9_lameOnes_33 rfl (q_ii ic_1) (by decide) (L2 := [some (q_rf w x0), some (.int x1), some (.int (x2 + 1))]) rfl (pc2 := 36) rfl ?_
          refine g_goto hc dX9_lameOnes_36 (pc2 := 4) rfl ?_
          exact ih _ _ _
        · refine g_il1 hc dX9_lameOnes_27 rfl (pc2 := 28) rfl ?_
          refine g_iconst hc dX9_lameOnes_28 ic_1 (pc2 := 29) rfl ?_
          refine g_il2 hc dX9_lameOnes_29 rfl (pc2 := 30) rfl ?_
          refine g_ishl hc dX9_lameOnes_30 (pc2 := 31) rfl ?_
          refine g_ior hc dX9_lameOnes_31 (pc2 := 32) rfl ?_
          refine g_nm (fun v5 => ?_)
          refine g_is1 hc dX9_lameOnes_32 (by decide) (L2 := [some (q_rf w x0), some (.int v5), some (.int x2)]) rfl (pc2 := 33) rfl ?_
          refine g_iinc hc dX9_lameOnes_33 rfl (q_ii ic_1) (by decide) (L2 := [some (q_rf w x0), some (.int v5), some (.int (x2 + 1))]) rfl (pc2 := 36) rfl ?_
          refine g_goto hc dX9_lameOnes_36 (pc2 := 4) rfl ?_
          exact ih _ _ _
      · refine g_il1 hc dX9_lameOnes_39 rfl (pc2 := 40) rfl ?_
        exact g_iret hc dX9_lameOnes_40
    · refine g_il1 hc dX9_lameOnes_39 rfl (pc2 := 40) rfl ?_
      exact g_iret hc dX9_lameOnes_40
set_option maxRecDepth 100000 in
set_option maxHeartbeats 4000000 in
theorem C_X9_lameOnes {l : Launch} {w : q_Wd} {n : Nat} {t : Nat} (ht : q_KD t = .inl 9) {s0 : q_Sto} : q_C l w yX9_lameOnes cX9_lameOnes 3 (some .int) (q_rm 0 0) [q_rf w t] s0 (f_X9_lameOnes n t s0) := q_CofG [some (q_rf w t), none, none] (by decide +kernel) rfl rfl (Nat.le_of_ble_eq_true rfl) fun cx hl hc => by
  have hc : q_ok w cx RX9 cX9_lameOnes 3 (some .int) (q_rm 0 0) := hc
  rw [f_X9_lameOnes]
  refine g_iconst hc dX9_lameOnes_0 ic_0 (pc2 := 1) rfl ?_
  refine g_is1 hc dX9_lameOnes_1 (by decide) (L2 := [some (q_rf w t), some (.int 0), none]) rfl (pc2 := 2) rfl ?_
  refine g_iconst hc dX9_lameOnes_2 ic_0 (pc2 := 3) rfl ?_
  refine g_is2 hc dX9_lameOnes_3 (by decide) (L2 := [some (q_rf w t), some (.int 0), some (.int 0)]) rfl (pc2 := 4) rfl ?_
  refine t_X9_lameOnes_L4 hc ht  n _ _ _
