set_option maxRecDepth 100000 in
set_option maxHeartbeats 4000000 in
def f_X12_opens (n : Nat) (t : Nat) (s0 : q_Sto) : Option (Int32 × q_Sto) :=
  if (s0 t 24) = 8 then (
  q_call (f_X12_bad n t 3 s0) fun r3 s2 =>
  q_rz r3 s2)
  else (
  q_nS1 (q_up s0 t 24 ((s0 t 24) + 1)) fun s4 =>
  q_callv (f_X12_next0 n t s4) fun s5 =>
  some (1, s5))
set_option maxRecDepth 100000 in
set_option maxHeartbeats 4000000 in
theorem C_X12_opens {l : Launch} {w : q_Wd} {n : Nat} {t : Nat} (ht : q_KD t = .inl 12) {s0 : q_Sto} : q_C l w yX12_opens cX12_opens 1 (some .boolean) (q_rm 11 245) [q_rf w t] s0 (f_X12_opens n t s0) := q_CofG [some (q_rf w t)] (by decide +kernel) rfl rfl (Nat.le_of_ble_eq_true rfl) fun cx hl hc => by
  have hc : q_ok w cx RX12 cX12_opens 1 (some .boolean) (q_rm 11 245) := hc
  rw [f_X12_opens]
  refine g_rl0 hc dX12_opens_0 rfl (pc2 := 1) rfl ?_
  refine g_getI hc fl_X12_207 rfl ht dX12_opens_1 (pc2 := 4) rfl ?_
  refine g_bipush hc dX12_opens_4 bp_8 (pc2 := 6) rfl ?_
  refine g_icmp_ne hc dX12_opens_6 (pc1 := 9) (pc2 := 15) rfl rfl (fun _ => ?_) (fun _ => ?_)
  · refine g_rl0 hc dX12_opens_9 rfl (pc2 := 10) rfl ?_
    refine g_iconst hc dX12_opens_10 ic_3 (pc2 := 11) rfl ?_
    refine g_callV1 hc (C_X12_bad ht) mv_X12_bad ln_X12_198 ht ⟨by decide, by decide⟩ (Nat.le_of_ble_eq_true rfl) dX12_opens_11 (pc2 := 14) rfl (fun r3 s2 => ?_)
    exact g_zret hc dX12_opens_14
  · refine g_rl0 hc dX12_opens_15 rfl (pc2 := 16) rfl ?_
    refine g_dup hc dX12_opens_16 rfl (pc2 := 17) rfl ?_
    refine g_getI hc fl_X12_207 rfl ht dX12_opens_17 (pc2 := 20) rfl ?_
    refine g_iconst hc dX12_opens_20 ic_1 (pc2 := 21) rfl ?_
    refine g_iadd hc dX12_opens_21 (pc2 := 22) rfl ?_
    refine g_putI hc fl_X12_207 rfl ht dX12_opens_22 (pc2 := 25) rfl (fun s4 => ?_)
    refine g_rl0 hc dX12_opens_25 rfl (pc2 := 26) rfl ?_
    refine g_callV0v hc (C_X12_next0 ht) mv_X12_next0 ln_X12_201 ht ⟨by decide, by decide⟩ (Nat.le_of_ble_eq_true rfl) dX12_opens_26 (pc2 := 29) rfl (fun s5 => ?_)
    refine g_iconst hc dX12_opens_29 ic_1 (pc2 := 30) rfl ?_
    exact g_zret0 (by decide) hc dX12_opens_30
set_option maxRecDepth 100000 in
set_option maxHeartbeats 4000000 in
def f_X12_unit (n : Nat) (t : Nat) (s0 : q_Sto) : Option (Int32 × q_Sto) :=
  q_call (f_X12_isIn n (s0 t 18) 41 50 s0) fun r2 s1 =>
  q_jn (fun  (s3 : q_Sto) =>
    if r2 = 0 then (
    q_callv (f_X12_lay n t 0 (s3 t 20) s3) fun s5 =>
    q_callv (f_X12_next0 n t s5) fun s7 =>
    some (1, s7))
    else (
    q_callv (f_X12_lay n t ((s3 t 18) - 40) (s3 t 20) s3) fun s9 =>
    q_callv (f_X12_next0 n t s9) fun s11 =>
    some (1, s11))) fun j30 =>
  if (s1 t 18) = 2 then (
  j30 s1)
  else (
  if r2 = 0 then (
  q_call (f_X12_bad n t 1 s1) fun r16 s15 =>
  q_rz r16 s15)
  else (
  j30 s1))
set_option maxRecDepth 100000 in
set_option maxHeartbeats 4000000 in
theorem C_X12_unit {l : Launch} {w : q_Wd} {n : Nat} {t : Nat} (ht : q_KD t = .inl 12) {s0 : q_Sto} : q_C l w yX12_unit cX12_unit 2 (some .boolean) (q_rm 11 245) [q_rf w t] s0 (f_X12_unit n t s0) := q_CofG [some (q_rf w t), none] (by decide +kernel) rfl rfl (Nat.le_of_ble_eq_true rfl) fun cx hl hc => by
  have hc : q_ok w cx RX12 cX12_unit 2 (some .boolean) (q_rm 11 245) := hc
  rw [f_X12_unit]
  refine g_rl0 hc dX12_unit_0 rfl (pc2 := 1) rfl ?_
  refine g_getI hc fl_X12_177 rfl ht dX12_unit_1 (pc2 := 4) rfl ?_
  refine g_bipush hc dX12_unit_4 bp_41 (pc2 := 6) rfl ?_
  refine g_bipush hc dX12_unit_6 bp_50 (pc2 := 8) rfl ?_
  refine g_callS3 hc C_X12_isIn mv_X12_isIn ln_X12_56 ⟨by decide, by decide⟩ (Nat.le_of_ble_eq_true rfl) dX12_unit_8 (pc2 := 11) rfl (fun r2 s1 => ?_)
  refine g_is1 hc dX12_unit_11 (by decide) (L2 := [some (q_rf w t), some (.int r2)]) rfl (pc2 := 12) rfl ?_
  refine g_rl0 hc dX12_unit_12 rfl (pc2 := 13) rfl ?_
  refine g_getI hc fl_X12_177 rfl ht dX12_unit_13 (pc2 := 16) rfl ?_
  refine g_iconst hc dX12_unit_16 ic_2 (pc2 := 17) rfl ?_
  refine g_jn (P := fun j30 => ∀  (s3 : q_Sto), q_G w cx 2 (some .boolean) 30 [some (q_rf w t), some (.int r2)] [] s3 (j30 s3)) (fun s3 => ?_) (fun j30 hj30 => ?_)
  · refine g_rl0 hc dX12_unit_30 rfl (pc2 := 31) rfl ?_
    refine g_il1 hc dX12_unit_31 rfl (pc2 := 32) rfl ?_
    refine g_if_eq hc dX12_unit_32 (pc1 := 45) (pc2 := 35) rfl rfl (fun _ => ?_) (fun _ => ?_)
    · refine g_iconst hc dX12_unit_45 ic_0 (pc2 := 46) rfl ?_
      refine g_rl0 hc dX12_unit_46 rfl (pc2 := 47) rfl ?_
      refine g_getI hc fl_X12_189 rfl ht dX12_unit_47 (pc2 := 50) rfl ?_
      refine g_callV2v hc (C_X12_lay ht) mv_X12_lay ln_X12_214 ht ⟨by decide, by decide⟩ (Nat.le_of_ble_eq_true rfl) dX12_unit_50 (pc2 := 53) rfl (fun s5 => ?_)
      refine g_rl0 hc dX12_unit_53 rfl (pc2 := 54) rfl ?_
      refine g_callV0v hc (C_X12_next0 ht) mv_X12_next0 ln_X12_201 ht ⟨by decide, by decide⟩ (Nat.le_of_ble_eq_true rfl) dX12_unit_54 (pc2 := 57) rfl (fun s7 => ?_)
      refine g_iconst hc dX12_unit_57 ic_1 (pc2 := 58) rfl ?_
      exact g_zret0 (by decide) hc dX12_unit_58
    · refine g_rl0 hc dX12_unit_35 rfl (pc2 := 36) rfl ?_
      refine g_getI hc fl_X12_177 rfl ht dX12_unit_36 (pc2 := 39) rfl ?_
      refine g_bipush hc dX12_unit_39 bp_40 (pc2 := 41) rfl ?_
      refine g_isub hc dX12_unit_41 (pc2 := 42) rfl ?_
      refine g_goto hc dX12_unit_42 (pc2 := 46) rfl ?_
      refine g_rl0 hc dX12_unit_46 rfl (pc2 := 47) rfl ?_
      refine g_getI hc fl_X12_189 rfl ht dX12_unit_47 (pc2 := 50) rfl ?_
      refine g_callV2v hc (C_X12_lay ht) mv_X12_lay ln_X12_214 ht ⟨by decide, by decide⟩ (Nat.le_of_ble_eq_true rfl) dX12_unit_50 (pc2 := 53) rfl (fun s9 => ?_)
      refine g_rl0 hc dX12_unit_53 rfl (pc2 := 54) rfl ?_
      refine g_callV0v hc (C_X12_next0 ht) mv_X12_next0 ln_X12_201 ht ⟨by decide, by decide⟩ (Nat.le_of_ble_eq_true rfl) dX12_unit_54 (pc2 := 57) rfl (fun s11 => ?_)
      refine g_iconst hc dX12_unit_57 ic_1 (pc2 := 58) rfl ?_
      exact g_zret0 (by decide) hc dX12_unit_58
  · refine g_icmp_eq hc dX12_unit_17 (pc1 := 30) (pc2 := 20) rfl rfl (fun _ => ?_) (fun _ => ?_)
    · exact hj30 _
    · refine g_il1 hc dX12_unit_20 rfl (pc2 := 21) rfl ?_
      refine g_if_ne hc dX12_unit_21 (pc1 := 24) (pc2 := 30) rfl rfl (fun _ => ?_) (fun _ => ?_)
      · refine g_rl0 hc dX12_unit_24 rfl (pc2 := 25) rfl ?_
        refine g_iconst hc dX12_unit_25 ic_1 (pc2 := 26) rfl ?_
        refine g_callV1 hc (C_X12_bad ht) mv_X12_bad ln_X12_198 ht ⟨by decide, by decide⟩ (Nat.le_of_ble_eq_true rfl) dX12_unit_26 (pc2 := 29) rfl (fun r16 s15 => ?_)
        exact g_zret hc dX12_unit_29
      · exact hj30 _
set_option maxRecDepth 100000 in
set_option maxHeartbeats 4000000 in
def f_X12_product_L9 (n : Nat) (x0 : Nat) : Nat → q_Sto → Option (Int32 × q_Sto)
  | 0, _ => none
  | j + 1, s0 =>
    q_jn (fun  (s4 : q_Sto) =>
      q_jn (fun (y5 : Int32) (s6 : q_Sto) =>
        q_callv (f_X12_next0 n x0 s6) fun s7 =>
        if y5 = 0 then (
        q_call (f_X12_unit n x0 s7) fun r11 s10 =>
        if r11 = 0 then (
        some (0, s10))
        else (
        q_callv (f_X12_lay n x0 25 0 s10) fun s13 =>
        f_X12_product_L9 n x0  j  s13))
        else (
        q_nm (s7 x0 20) fun v15 =>
        if (s7 x0 18) = 2 then (
        if v15 = 0 then (
        q_call (f_X12_bad n x0 2 s7) fun r19 s18 =>
        q_rz r19 s18)
        else (
        q_callv (f_X12_next0 n x0 s7) fun s20 =>
        q_callv (f_X12_lay n x0 26 v15 s20) fun s22 =>
        f_X12_product_L9 n x0  j  s22))
        else (
        q_call (f_X12_bad n x0 1 s7) fun r25 s24 =>
        q_rz r25 s24))) fun j44 =>
      if (s4 x0 18) = 147 then (
      j44 1 s4)
      else (
      j44 0 s4)) fun j29 =>
    if (s0 x0 18) = 142 then (
    j29 s0)
    else (
    if (s0 x0 18) = 147 then (
    j29 s0)
    else (
    some (1, s0)))
set_option maxRecDepth 100000 in
set_option maxHeartbeats 4000000 in
def f_X12_product (n : Nat) (t : Nat) (s0 : q_Sto) : Option (Int32 × q_Sto) :=
  q_call (f_X12_unit n t s0) fun r2 s1 =>
  if r2 = 0 then (
  some (0, s1))
  else (
  f_X12_product_L9 n t  n  s1)
set_option maxRecDepth 100000 in
set_option maxHeartbeats 4000000 in
theorem t_X12_product_L9 {w : q_Wd} {cx : q_Cx} (hc : q_ok w cx RX12 cX12_product 3 (some .boolean) (q_rm 12 266)) {n : Nat} {x0 : Nat} (hx0 : q_KD x0 = .inl 12)   :
    ∀ (j : Nat)  (s0 : q_Sto), q_G w cx 3 (some .boolean) 9 [some (q_rf w x0), none, none] [] s0 (f_X12_product_L9 n x0  j  s0) := by
  intro j
  induction j with
  | zero =>
    intro _
    rw [f_X12_product_L9]
    exact q_none
  | succ j ih =>
    intro s0
    rw [f_X12_product_L9]
    refine g_rl0 hc dX12_product_9 rfl (pc2 := 10) rfl ?_
    refine g_getI hc fl_X12_177 rfl hx0 dX12_product_10 (pc2 := 13) rfl ?_
    refine g_sipush hc dX12_product_13 sp_142 (pc2 := 16) rfl ?_
    refine g_jn (P := fun j29 => ∀  (s4 : q_Sto), q_G w cx 3 (some .boolean) 29 [some (q_rf w x0), none, none] [] s4 (j29 s4)) (fun s4 => ?_) (fun j29 hj29 => ?_)
    · refine g_rl0 hc dX12_product_29 rfl (pc2 := 30) rfl ?_
      refine g_getI hc fl_X12_177 rfl hx0 dX12_product_30 (pc2 := 33) rfl ?_
      refine g_sipush hc dX12_product_33 sp_147 (pc2 := 36) rfl ?_
      refine g_jn (P := fun j44 => ∀ (y5 : Int32) (s6 : q_Sto), q_G w cx 3 (some .boolean) 44 [some (q_rf w x0), none, none] [.int y5] s6 (j44 y5 s6)) (fun y5 s6 => ?_) (fun j44 hj44 => ?_)
      · refine g_is1 hc dX12_product_44 (by decide) (L2 := [some (q_rf w x0), some (.int y5), none]) rfl (pc2 := 45) rfl ?_
        refine g_rl0 hc dX12_product_45 rfl (pc2 := 46) rfl ?_
        refine g_callV0v hc (C_X12_next0 hx0) mv_X12_next0 ln_X12_201 hx0 ⟨by decide, by decide⟩ (Nat.le_of_ble_eq_true rfl) dX12_product_46 (pc2 := 49) rfl (fun s7 => ?_)
        refine g_il1 hc dX12_product_49 rfl (pc2 := 50) rfl ?_
        refine g_if_eq hc dX12_product_50 (pc1 := 96) (pc2 := 53) rfl rfl (fun _ => ?_) (fun _ => ?_)
        · refine g_rl0 hc dX12_product_96 rfl (pc2 := 97) rfl ?_
          refine g_callV0 hc (C_X12_unit hx0) mv_X12_unit ln_X12_218 hx0 ⟨by decide, by decide⟩ (Nat.le_of_ble_eq_true rfl) dX12_product_97 (pc2 := 100) rfl (fun r11 s10 => ?_)
          refine g_if_ne hc dX12_product_100 (pc1 := 103) (pc2 := 105) rfl rfl (fun _ => ?_) (fun _ => ?_)
          · refine g_iconst hc dX12_product_103 ic_0 (pc2 := 104) rfl ?_
            exact g_zret0 (by decide) hc dX12_product_104
          · refine g_rl0 hc dX12_product_105 rfl (pc2 := 106) rfl ?_
            refine g_bipush hc dX12_product_106 bp_25 (pc2 := 108) rfl ?_
            refine g_iconst hc dX12_product_108 ic_0 (pc2 := 109) rfl ?_
            refine g_callV2v hc (C_X12_lay hx0) mv_X12_lay ln_X12_214 hx0 ⟨by decide, by decide⟩ (Nat.le_of_ble_eq_true rfl) dX12_product_109 (pc2 := 112) rfl (fun s13 => ?_)
            refine g_goto hc dX12_product_112 (pc2 := 9) rfl ?_
            refine q_Gmask [true, false, true] (L2 := [some (q_rf w x0), none, none]) rfl ?_
            exact ih _
        · refine g_rl0 hc dX12_product_53 rfl (pc2 := 54) rfl ?_
          refine g_getI hc fl_X12_189 rfl hx0 dX12_product_54 (pc2 := 57) rfl ?_
          refine g_nm (fun v15 => ?_)
          refine g_is2 hc dX12_product_57 (by decide) (L2 := [some (q_rf w x0), some (.int y5), some (.int v15)]) rfl (pc2 := 58) rfl ?_
          refine g_rl0 hc dX12_product_58 rfl (pc2 := 59) rfl ?_
          refine g_getI hc fl_X12_177 rfl hx0 dX12_product_59 (pc2 := 62) rfl ?_
          refine g_iconst hc dX12_product_62 ic_2 (pc2 := 63) rfl ?_
          refine g_icmp_eq hc dX12_product_63 (pc1 := 72) (pc2 := 66) rfl rfl (fun _ => ?_) (fun _ => ?_)
          · refine g_il2 hc dX12_product_72 rfl (pc2 := 73) rfl ?_
            refine g_if_ne hc dX12_product_73 (pc1 := 76) (pc2 := 82) rfl rfl (fun _ => ?_) (fun _ => ?_)
            · refine g_rl0 hc dX12_product_76 rfl (pc2 := 77) rfl ?_
              refine g_iconst hc dX12_product_77 ic_2 (pc2 := 78) rfl ?_
              refine g_callV1 hc (C_X12_bad hx0) mv_X12_bad ln_X12_198 hx0 ⟨by decide, by decide⟩ (Nat.le_of_ble_eq_true rfl) dX12_product_78 (pc2 := 81) rfl (fun r19 s18 => ?_)
              exact g_zret hc dX12_product_81
            · refine g_rl0 hc dX12_product_82 rfl (pc2 := 83) rfl ?_
              refine g_callV0v hc (C_X12_next0 hx0) mv_X12_next0 ln_X12_201 hx0 ⟨by decide, by decide⟩ (Nat.le_of_ble_eq_true rfl) dX12_product_83 (pc2 := 86) rfl (fun s20 => ?_)
              refine g_rl0 hc dX12_product_86 rfl (pc2 := 87) rfl ?_
              refine g_bipush hc dX12_product_87 bp_26 (pc2 := 89) rfl ?_
              refine g_il2 hc dX12_product_89 rfl (pc2 := 90) rfl ?_
              refine g_callV2v hc (C_X12_lay hx0) mv_X12_lay ln_X12_214 hx0 ⟨by decide, by decide⟩ (Nat.le_of_ble_eq_true rfl) dX12_product_90 (pc2 := 93) rfl (fun s22 => ?_)
              refine g_goto hc dX12_product_93 (pc2 := 112) rfl ?_
              refine g_goto hc dX12_product_112 (pc2 := 9) rfl ?_
              refine q_Gmask [true, false, false] (L2 := [some (q_rf w x0), none, none]) rfl ?_
              exact ih _
          · refine g_rl0 hc dX12_product_66 rfl (pc2 := 67) rfl ?_
            refine g_iconst hc dX12_product_67 ic_1 (pc2 := 68) rfl ?_
            refine g_callV1 hc (C_X12_bad hx0) mv_X12_bad ln_X12_198 hx0 ⟨by decide, by decide⟩ (Nat.le_of_ble_eq_true rfl) dX12_product_68 (pc2 := 71) rfl (fun r25 s24 => ?_)
            exact g_zret hc dX12_product_71
      · refine g_icmp_ne hc dX12_product_36 (pc1 := 39) (pc2 := 43) rfl rfl (fun _ => ?_) (fun _ => ?_)
        · refine g_iconst hc dX12_product_39 ic_1 (pc2 := 40) rfl ?_
          refine g_goto hc dX12_product_40 (pc2 := 44) rfl ?_
          exact hj44 _ _
        · refine g_iconst hc dX12_product_43 ic_0 (pc2 := 44) rfl ?_
          exact hj44 _ _
    · refine g_icmp_eq hc dX12_product_16 (pc1 := 29) (pc2 := 19) rfl rfl (fun _ => ?_) (fun _ => ?_)
      · exact hj29 _
      · refine g_rl0 hc dX12_product_19 rfl (pc2 := 20) rfl ?_
        refine g_getI hc fl_X12_177 rfl hx0 dX12_product_20 (pc2 := 23) rfl ?_
        refine g_sipush hc dX12_product_23 sp_147 (pc2 := 26) rfl ?_
        refine g_icmp_ne hc dX12_product_26 (pc1 := 29) (pc2 := 115) rfl rfl (fun _ => ?_) (fun _ => ?_)
        · exact hj29 _
        · refine g_iconst hc dX12_product_115 ic_1 (pc2 := 116) rfl ?_
          exact g_zret0 (by decide) hc dX12_product_116
set_option maxRecDepth 100000 in
set_option maxHeartbeats 4000000 in
theorem C_X12_product {l : Launch} {w : q_Wd} {n : Nat} {t : Nat} (ht : q_KD t = .inl 12) {s0 : q_Sto} : q_C l w yX12_product cX12_product 3 (some .boolean) (q_rm 12 266) [q_rf w t] s0 (f_X12_product n t s0) := q_CofG [some (q_rf w t), none, none] (by decide +kernel) rfl rfl (Nat.le_of_ble_eq_true rfl) fun cx hl hc => by
  have hc : q_ok w cx RX12 cX12_product 3 (some .boolean) (q_rm 12 266) := hc
  rw [f_X12_product]
  refine g_rl0 hc dX12_product_0 rfl (pc2 := 1) rfl ?_
  refine g_callV0 hc (C_X12_unit ht) mv_X12_unit ln_X12_218 ht ⟨by decide, by decide⟩ (Nat.le_of_ble_eq_true rfl) dX12_product_1 (pc2 := 4) rfl (fun r2 s1 => ?_)
  refine g_if_ne hc dX12_product_4 (pc1 := 7) (pc2 := 9) rfl rfl (fun _ => ?_) (fun _ => ?_)
  · refine g_iconst hc dX12_product_7 ic_0 (pc2 := 8) rfl ?_
    exact g_zret0 (by decide) hc dX12_product_8
  · refine t_X12_product_L9 hc ht  n  _
set_option maxRecDepth 100000 in
set_option maxHeartbeats 4000000 in
def f_X12_sumUp_L9 (n : Nat) (x0 : Nat) : Nat → q_Sto → Option (Int32 × q_Sto)
  | 0, _ => none
  | j + 1, s0 =>
    q_jn (fun  (s4 : q_Sto) =>
      q_jn (fun (y5 : Int32) (s6 : q_Sto) =>
        q_callv (f_X12_next0 n x0 s6) fun s7 =>
        q_call (f_X12_product n x0 s7) fun r10 s9 =>
        if r10 = 0 then (
        some (0, s9))
        else (
        q_callv (f_X12_lay n x0 y5 0 s9) fun s12 =>
        f_X12_sumUp_L9 n x0  j  s12)) fun j46 =>
      if (s4 x0 18) = 143 then (
      j46 23 s4)
      else (
      j46 24 s4)) fun j29 =>
    if (s0 x0 18) = 143 then (
    j29 s0)
    else (
    if (s0 x0 18) = 145 then (
    j29 s0)
    else (
    some (1, s0)))
set_option maxRecDepth 100000 in
set_option maxHeartbeats 4000000 in
def f_X12_sumUp (n : Nat) (t : Nat) (s0 : q_Sto) : Option (Int32 × q_Sto) :=
  q_call (f_X12_product n t s0) fun r2 s1 =>
  if r2 = 0 then (
  some (0, s1))
  else (
  f_X12_sumUp_L9 n t  n  s1)
set_option maxRecDepth 100000 in
set_option maxHeartbeats 4000000 in
theorem t_X12_sumUp_L9 {w : q_Wd} {cx : q_Cx} (hc : q_ok w cx RX12 cX12_sumUp 2 (some .boolean) (q_rm 13 288)) {n : Nat} {x0 : Nat} (hx0 : q_KD x0 = .inl 12)   :
    ∀ (j : Nat)  (s0 : q_Sto), q_G w cx 2 (some .boolean) 9 [some (q_rf w x0), none] [] s0 (f_X12_sumUp_L9 n x0  j  s0) := by
  intro j
  induction j with
  | zero =>
    intro _
    rw [f_X12_sumUp_L9]
    exact q_none
  | succ j ih =>
    intro s0
    rw [f_X12_sumUp_L9]
    refine g_rl0 hc dX12_sumUp_9 rfl (pc2 := 10) rfl ?_
    refine g_getI hc fl_X12_177 rfl hx0 dX12_sumUp_10 (pc2 := 13) rfl ?_
    refine g_sipush hc dX12_sumUp_13 sp_143 (pc2 := 16) rfl ?_
    refine g_jn (P := fun j29 => ∀  (s4 : q_Sto), q_G w cx 2 (some .boolean) 29 [some (q_rf w x0), none] [] s4 (j29 s4)) (fun s4 => ?_) (fun j29 hj29 => ?_)
    · refine g_rl0 hc dX12_sumUp_29 rfl (pc2 := 30) rfl ?_
      refine g_getI hc fl_X12_177 rfl hx0 dX12_sumUp_30 (pc2 := 33) rfl ?_
      refine g_sipush hc dX12_sumUp_33 sp_143 (pc2 := 36) rfl ?_
      refine g_jn (P := fun j46 => ∀ (y5 : Int32) (s6 : q_Sto), q_G w cx 2 (some .boolean) 46 [some (q_rf w x0), none] [.int y5] s6 (j46 y5 s6)) (fun y5 s6 => ?_) (fun j46 hj46 => ?_)
      · refine g_is1 hc dX12_sumUp_46 (by decide) (L2 := [some (q_rf w x0), some (.int y5)]) rfl (pc2 := 47) rfl ?_
        refine g_rl0 hc dX12_sumUp_47 rfl (pc2 := 48) rfl ?_
        refine g_callV0v hc (C_X12_next0 hx0) mv_X12_next0 ln_X12_201 hx0 ⟨by decide, by decide⟩ (Nat.le_of_ble_eq_true rfl) dX12_sumUp_48 (pc2 := 51) rfl (fun s7 => ?_)
        refine g_rl0 hc dX12_sumUp_51 rfl (pc2 := 52) rfl ?_
        refine g_callV0 hc (C_X12_product hx0) mv_X12_product ln_X12_210 hx0 ⟨by decide, by decide⟩ (Nat.le_of_ble_eq_true rfl) dX12_sumUp_52 (pc2 := 55) rfl (fun r10 s9 => ?_)
        refine g_if_ne hc dX12_sumUp_55 (pc1 := 58) (pc2 := 60) rfl rfl (fun _ => ?_) (fun _ => ?_)
        · refine g_iconst hc dX12_sumUp_58 ic_0 (pc2 := 59) rfl ?_
          exact g_zret0 (by decide) hc dX12_sumUp_59
        · refine g_rl0 hc dX12_sumUp_60 rfl (pc2 := 61) rfl ?_
          refine g_il1 hc dX12_sumUp_61 rfl (pc2 := 62) rfl ?_
          refine g_iconst hc dX12_sumUp_62 ic_0 (pc2 := 63) rfl ?_
          refine g_callV2v hc (C_X12_lay hx0) mv_X12_lay ln_X12_214 hx0 ⟨by decide, by decide⟩ (Nat.le_of_ble_eq_true rfl) dX12_sumUp_63 (pc2 := 66) rfl (fun s12 => ?_)
          refine g_goto hc dX12_sumUp_66 (pc2 := 9) rfl ?_
          refine q_Gmask [true, false] (L2 := [some (q_rf w x0), none]) rfl ?_
          exact ih _
      · refine g_icmp_ne hc dX12_sumUp_36 (pc1 := 39) (pc2 := 44) rfl rfl (fun _ => ?_) (fun _ => ?_)
        · refine g_bipush hc dX12_sumUp_39 bp_23 (pc2 := 41) rfl ?_
          refine g_goto hc dX12_sumUp_41 (pc2 := 46) rfl ?_
          exact hj46 _ _
        · refine g_bipush hc dX12_sumUp_44 bp_24 (pc2 := 46) rfl ?_
          exact hj46 _ _
    · refine g_icmp_eq hc dX12_sumUp_16 (pc1 := 29) (pc2 := 19) rfl rfl (fun _ => ?_) (fun _ => ?_)
      · exact hj29 _
      · refine g_rl0 hc dX12_sumUp_19 rfl (pc2 := 20) rfl ?_
        refine g_getI hc fl_X12_177 rfl hx0 dX12_sumUp_20 (pc2 := 23) rfl ?_
        refine g_sipush hc dX12_sumUp_23 sp_145 (pc2 := 26) rfl ?_
        refine g_icmp_ne hc dX12_sumUp_26 (pc1 := 29) (pc2 := 69) rfl rfl (fun _ => ?_) (fun _ => ?_)
        · exact hj29 _
        · refine g_iconst hc dX12_sumUp_69 ic_1 (pc2 := 70) rfl ?_
          exact g_zret0 (by decide) hc dX12_sumUp_70
set_option maxRecDepth 100000 in
set_option maxHeartbeats 4000000 in
theorem C_X12_sumUp {l : Launch} {w : q_Wd} {n : Nat} {t : Nat} (ht : q_KD t = .inl 12) {s0 : q_Sto} : q_C l w yX12_sumUp cX12_sumUp 2 (some .boolean) (q_rm 13 288) [q_rf w t] s0 (f_X12_sumUp n t s0) := q_CofG [some (q_rf w t), none] (by decide +kernel) rfl rfl (Nat.le_of_ble_eq_true rfl) fun cx hl hc => by
  have hc : q_ok w cx RX12 cX12_sumUp 2 (some .boolean) (q_rm 13 288) := hc
  rw [f_X12_sumUp]
  refine g_rl0 hc dX12_sumUp_0 rfl (pc2 := 1) rfl ?_
  refine g_callV0 hc (C_X12_product ht) mv_X12_product ln_X12_210 ht ⟨by decide, by decide⟩ (Nat.le_of_ble_eq_true rfl) dX12_sumUp_1 (pc2 := 4) rfl (fun r2 s1 => ?_)
  refine g_if_ne hc dX12_sumUp_4 (pc1 := 7) (pc2 := 9) rfl rfl (fun _ => ?_) (fun _ => ?_)
  · refine g_iconst hc dX12_sumUp_7 ic_0 (pc2 := 8) rfl ?_
    exact g_zret0 (by decide) hc dX12_sumUp_8
  · refine t_X12_sumUp_L9 hc ht  n  _
set_option maxRecDepth 100000 in
set_option maxHeartbeats 4000000 in
def f_X12_aLine (n : Nat) (t : Nat) (s0 : q_Sto) : Option (Int32 × q_Sto) :=
  q_call (f_X12_isIn n (s0 t 18) 20 22 s0) fun r2 s1 =>
  if r2 = 0 then (
  q_call (f_X12_bad n t 1 s1) fun r5 s4 =>
  q_rz r5 s4)
  else (
  if (s1 t 13) = 16 then (
  q_call (f_X12_bad n t 3 s1) fun r8 s7 =>
  q_rz r8 s7)
  else (
  q_nS1 (q_up s1 t 24 0) fun s9 =>
  q_st s9 (q_RF t 6) ((4 * (s9 t 13)) + 3) 64 (s9 t 18) fun s10 =>
  q_callv (f_X12_next0 n t s10) fun s11 =>
  q_st s11 (q_RF t 6) (4 * (s11 t 13)) 64 (s11 t 14) fun s13 =>
  q_call (f_X12_sumUp n t s13) fun r15 s14 =>
  if r15 = 0 then (
  some (0, s14))
  else (
  q_st s14 (q_RF t 6) ((4 * (s14 t 13)) + 1) 64 (s14 t 14) fun s17 =>
  q_jn (fun  (s18 : q_Sto) =>
    q_st s18 (q_RF t 6) ((4 * (s18 t 13)) + 2) 64 (s18 t 14) fun s19 =>
    q_call (f_X12_need n t 159 s19) fun r21 s20 =>
    q_rz r21 s20) fun j123 =>
  if (s17 t 18) = 3 then (
  q_callv (f_X12_next0 n t s17) fun s23 =>
  q_call (f_X12_any n t s23) fun r26 s25 =>
  if r26 = 0 then (
  some (0, s25))
  else (
  j123 s25))
  else (
  j123 s17))))
set_option maxRecDepth 100000 in
set_option maxHeartbeats 4000000 in
theorem C_X12_aLine {l : Launch} {w : q_Wd} {n : Nat} {t : Nat} (ht : q_KD t = .inl 12) {s0 : q_Sto} : q_C l w yX12_aLine cX12_aLine 1 (some .boolean) (q_rm 41 2020) [q_rf w t] s0 (f_X12_aLine n t s0) := q_CofG [some (q_rf w t)] (by decide +kernel) rfl rfl (Nat.le_of_ble_eq_true rfl) fun cx hl hc => by
  have hc : q_ok w cx RX12 cX12_aLine 1 (some .boolean) (q_rm 41 2020) := hc
  rw [f_X12_aLine]
  refine g_rl0 hc dX12_aLine_0 rfl (pc2 := 1) rfl ?_
  refine g_getI hc fl_X12_177 rfl ht dX12_aLine_1 (pc2 := 4) rfl ?_
  refine g_bipush hc dX12_aLine_4 bp_20 (pc2 := 6) rfl ?_
  refine g_bipush hc dX12_aLine_6 bp_22 (pc2 := 8) rfl ?_
  refine g_callS3 hc C_X12_isIn mv_X12_isIn ln_X12_56 ⟨by decide, by decide⟩ (Nat.le_of_ble_eq_true rfl) dX12_aLine_8 (pc2 := 11) rfl (fun r2 s1 => ?_)
  refine g_if_ne hc dX12_aLine_11 (pc1 := 14) (pc2 := 20) rfl rfl (fun _ => ?_) (fun _ => ?_)
  · refine g_rl0 hc dX12_aLine_14 rfl (pc2 := 15) rfl ?_
    refine g_iconst hc dX12_aLine_15 ic_1 (pc2 := 16) rfl ?_
    refine g_callV1 hc (C_X12_bad ht) mv_X12_bad ln_X12_198 ht ⟨by decide, by decide⟩ (Nat.le_of_ble_eq_true rfl) dX12_aLine_16 (pc2 := 19) rfl (fun r5 s4 => ?_)
    exact g_zret hc dX12_aLine_19
  · refine g_rl0 hc dX12_aLine_20 rfl (pc2 := 21) rfl ?_
    refine g_getI hc fl_X12_238 rfl ht dX12_aLine_21 (pc2 := 24) rfl ?_
    refine g_bipush hc dX12_aLine_24 bp_16 (pc2 := 26) rfl ?_
    refine g_icmp_ne hc dX12_aLine_26 (pc1 := 29) (pc2 := 35) rfl rfl (fun _ => ?_) (fun _ => ?_)
    · refine g_rl0 hc dX12_aLine_29 rfl (pc2 := 30) rfl ?_
      refine g_iconst hc dX12_aLine_30 ic_3 (pc2 := 31) rfl ?_
      refine g_callV1 hc (C_X12_bad ht) mv_X12_bad ln_X12_198 ht ⟨by decide, by decide⟩ (Nat.le_of_ble_eq_true rfl) dX12_aLine_31 (pc2 := 34) rfl (fun r8 s7 => ?_)
      exact g_zret hc dX12_aLine_34
    · refine g_rl0 hc dX12_aLine_35 rfl (pc2 := 36) rfl ?_
      refine g_iconst hc dX12_aLine_36 ic_0 (pc2 := 37) rfl ?_
      refine g_putI hc fl_X12_207 rfl ht dX12_aLine_37 (pc2 := 40) rfl (fun s9 => ?_)
      refine g_rl0 hc dX12_aLine_40 rfl (pc2 := 41) rfl ?_
      refine g_getR hc fl_X12_22 rfl ht dX12_aLine_41 (pc2 := 44) rfl ?_
      refine g_iconst hc dX12_aLine_44 ic_4 (pc2 := 45) rfl ?_
      refine g_rl0 hc dX12_aLine_45 rfl (pc2 := 46) rfl ?_
      refine g_getI hc fl_X12_238 rfl ht dX12_aLine_46 (pc2 := 49) rfl ?_
      refine g_imul hc dX12_aLine_49 (pc2 := 50) rfl ?_
      refine g_iconst hc dX12_aLine_50 ic_3 (pc2 := 51) rfl ?_
      refine g_iadd hc dX12_aLine_51 (pc2 := 52) rfl ?_
      refine g_rl0 hc dX12_aLine_52 rfl (pc2 := 53) rfl ?_
      refine g_getI hc fl_X12_177 rfl ht dX12_aLine_53 (pc2 := 56) rfl ?_
      refine g_iast hc (kf_12_6 ht) (kl_12_6 ht) dX12_aLine_56 (pc2 := 57) rfl (fun s10 => ?_)
      refine g_rl0 hc dX12_aLine_57 rfl (pc2 := 58) rfl ?_
      refine g_callV0v hc (C_X12_next0 ht) mv_X12_next0 ln_X12_201 ht ⟨by decide, by decide⟩ (Nat.le_of_ble_eq_true rfl) dX12_aLine_58 (pc2 := 61) rfl (fun s11 => ?_)
      refine g_rl0 hc dX12_aLine_61 rfl (pc2 := 62) rfl ?_
      refine g_getR hc fl_X12_22 rfl ht dX12_aLine_62 (pc2 := 65) rfl ?_
      refine g_iconst hc dX12_aLine_65 ic_4 (pc2 := 66) rfl ?_
      refine g_rl0 hc dX12_aLine_66 rfl (pc2 := 67) rfl ?_
      refine g_getI hc fl_X12_238 rfl ht dX12_aLine_67 (pc2 := 70) rfl ?_
      refine g_imul hc dX12_aLine_70 (pc2 := 71) rfl ?_
      refine g_rl0 hc dX12_aLine_71 rfl (pc2 := 72) rfl ?_
      refine g_getI hc fl_X12_204 rfl ht dX12_aLine_72 (pc2 := 75) rfl ?_
      refine g_iast hc (kf_12_6 ht) (kl_12_6 ht) dX12_aLine_75 (pc2 := 76) rfl (fun s13 => ?_)
      refine g_rl0 hc dX12_aLine_76 rfl (pc2 := 77) rfl ?_
      refine g_callV0 hc (C_X12_sumUp ht) mv_X12_sumUp ln_X12_235 ht ⟨by decide, by decide⟩ (Nat.le_of_ble_eq_true rfl) dX12_aLine_77 (pc2 := 80) rfl (fun r15 s14 => ?_)
      refine g_if_ne hc dX12_aLine_80 (pc1 := 83) (pc2 := 85) rfl rfl (fun _ => ?_) (fun _ => ?_)
      · refine g_iconst hc dX12_aLine_83 ic_0 (pc2 := 84) rfl ?_
        exact g_zret0 (by decide) hc dX12_aLine_84
      · refine g_rl0 hc dX12_aLine_85 rfl (pc2 := 86) rfl ?_
        refine g_getR hc fl_X12_22 rfl ht dX12_aLine_86 (pc2 := 89) rfl ?_
        refine g_iconst hc dX12_aLine_89 ic_4 (pc2 := 90) rfl ?_
        refine g_rl0 hc dX12_aLine_90 rfl (pc2 := 91) rfl ?_
        refine g_getI hc fl_X12_238 rfl ht dX12_aLine_91 (pc2 := 94) rfl ?_
        refine g_imul hc dX12_aLine_94 (pc2 := 95) rfl ?_
        refine g_iconst hc dX12_aLine_95 ic_1 (pc2 := 96) rfl ?_
        refine g_iadd hc dX12_aLine_96 (pc2 := 97) rfl ?_
        refine g_rl0 hc dX12_aLine_97 rfl (pc2 := 98) rfl ?_
        refine g_getI hc fl_X12_204 rfl ht dX12_aLine_98 (pc2 := 101) rfl ?_
        refine g_iast hc (kf_12_6 ht) (kl_12_6 ht) dX12_aLine_101 (pc2 := 102) rfl (fun s17 => ?_)
        refine g_rl0 hc dX12_aLine_102 rfl (pc2 := 103) rfl ?_
        refine g_getI hc fl_X12_177 rfl ht dX12_aLine_103 (pc2 := 106) rfl ?_
        refine g_iconst hc dX12_aLine_106 ic_3 (pc2 := 107) rfl ?_
        refine g_jn (P := fun j123 => ∀  (s18 : q_Sto), q_G w cx 1 (some .boolean) 123 [some (q_rf w t)] [] s18 (j123 s18)) (fun s18 => ?_) (fun j123 hj123 => ?_)
        · refine g_rl0 hc dX12_aLine_123 rfl (pc2 := 124) rfl ?_
          refine g_getR hc fl_X12_22 rfl ht dX12_aLine_124 (pc2 := 127) rfl ?_
          refine g_iconst hc dX12_aLine_127 ic_4 (pc2 := 128) rfl ?_
          refine g_rl0 hc dX12_aLine_128 rfl (pc2 := 129) rfl ?_
          refine g_getI hc fl_X12_238 rfl ht dX12_aLine_129 (pc2 := 132) rfl ?_
          refine g_imul hc dX12_aLine_132 (pc2 := 133) rfl ?_
          refine g_iconst hc dX12_aLine_133 ic_2 (pc2 := 134) rfl ?_
          refine g_iadd hc dX12_aLine_134 (pc2 := 135) rfl ?_
          refine g_rl0 hc dX12_aLine_135 rfl (pc2 := 136) rfl ?_
          refine g_getI hc fl_X12_204 rfl ht dX12_aLine_136 (pc2 := 139) rfl ?_
          refine g_iast hc (kf_12_6 ht) (kl_12_6 ht) dX12_aLine_139 (pc2 := 140) rfl (fun s19 => ?_)
          refine g_rl0 hc dX12_aLine_140 rfl (pc2 := 141) rfl ?_
          refine g_sipush hc dX12_aLine_141 sp_159 (pc2 := 144) rfl ?_
          refine g_callV1 hc (C_X12_need ht) mv_X12_need ln_X12_233 ht ⟨by decide, by decide⟩ (Nat.le_of_ble_eq_true rfl) dX12_aLine_144 (pc2 := 147) rfl (fun r21 s20 => ?_)
          exact g_zret hc dX12_aLine_147
        · refine g_icmp_ne hc dX12_aLine_107 (pc1 := 110) (pc2 := 123) rfl rfl (fun _ => ?_) (fun _ => ?_)
          · refine g_rl0 hc dX12_aLine_110 rfl (pc2 := 111) rfl ?_
            refine g_callV0v hc (C_X12_next0 ht) mv_X12_next0 ln_X12_201 ht ⟨by decide, by decide⟩ (Nat.le_of_ble_eq_true rfl) dX12_aLine_111 (pc2 := 114) rfl (fun s23 => ?_)
            refine g_rl0 hc dX12_aLine_114 rfl (pc2 := 115) rfl ?_
            refine g_callV0 hc (C_X12_any ht) mv_X12_any ln_X12_230 ht ⟨by decide, by decide⟩ (Nat.le_of_ble_eq_true rfl) dX12_aLine_115 (pc2 := 118) rfl (fun r26 s25 => ?_)
            refine g_if_ne hc dX12_aLine_118 (pc1 := 121) (pc2 := 123) rfl rfl (fun _ => ?_) (fun _ => ?_)
            · refine g_iconst hc dX12_aLine_121 ic_0 (pc2 := 122) rfl ?_
              exact g_zret0 (by decide) hc dX12_aLine_122
            · exact hj123 _
          · exact hj123 _
set_option maxRecDepth 100000 in
set_option maxHeartbeats 4000000 in
def f_X12_readsLaw_L12 (n : Nat) (x0 : Nat) : Nat → Int32 → q_Sto → Option (Int32 × q_Sto)
  | 0, _, _ => none
  | j + 1, x1, s0 =>
    if x1 = 0 then (
    q_rz x1 s0)
    else (
    if (s0 x0 18) = 0 then (
    q_rz x1 s0)
    else (
    q_call (f_X12_aLine n x0 s0) fun r6 s5 =>
    if r6 = 0 then (
    q_nS1 (q_up s5 x0 13 ((s5 x0 13) + 0)) fun s8 =>
    f_X12_readsLaw_L12 n x0  j r6 s8)
    else (
    q_nS1 (q_up s5 x0 13 ((s5 x0 13) + 1)) fun s9 =>
    f_X12_readsLaw_L12 n x0  j r6 s9)))
set_option maxRecDepth 100000 in
set_option maxHeartbeats 4000000 in
def f_X12_readsLaw (n : Nat) (t : Nat) (s0 : q_Sto) : Option (Int32 × q_Sto) :=
  q_nS1 (q_up s0 t 13 0) fun s1 =>
  q_nS1 (q_up s1 t 14 0) fun s2 =>
  f_X12_readsLaw_L12 n t  n 1 s2
set_option maxRecDepth 100000 in
set_option maxHeartbeats 4000000 in
theorem t_X12_readsLaw_L12 {w : q_Wd} {cx : q_Cx} (hc : q_ok w cx RX12 cX12_readsLaw 2 (some .boolean) (q_rm 42 2040)) {n : Nat} {x0 : Nat} (hx0 : q_KD x0 = .inl 12)   :
    ∀ (j : Nat) (x1 : Int32) (s0 : q_Sto), q_G w cx 2 (some .boolean) 12 [some (q_rf w x0), some (.int x1)] [] s0 (f_X12_readsLaw_L12 n x0  j x1 s0) := by
  intro j
  induction j with
  | zero =>
    intro _ _
    rw [f_X12_readsLaw_L12]
    exact q_none
  | succ j ih =>
    intro x1 s0
    rw [f_X12_readsLaw_L12]
    refine g_il1 hc dX12_readsLaw_12 rfl (pc2 := 13) rfl ?_
    refine g_if_eq hc dX12_readsLaw_13 (pc1 := 49) (pc2 := 16) rfl rfl (fun _ => ?_) (fun _ => ?_)
    · refine g_il1 hc dX12_readsLaw_49 rfl (pc2 := 50) rfl ?_
      exact g_zret hc dX12_readsLaw_50
    · refine g_rl0 hc dX12_readsLaw_16 rfl (pc2 := 17) rfl ?_
      refine g_getI hc fl_X12_177 rfl hx0 dX12_readsLaw_17 (pc2 := 20) rfl ?_
      refine g_if_eq hc dX12_readsLaw_20 (pc1 := 49) (pc2 := 23) rfl rfl (fun _ => ?_) (fun _ => ?_)
      · refine g_il1 hc dX12_readsLaw_49 rfl (pc2 := 50) rfl ?_
        exact g_zret hc dX12_readsLaw_50
      · refine g_rl0 hc dX12_readsLaw_23 rfl (pc2 := 24) rfl ?_
        refine g_callV0 hc (C_X12_aLine hx0) mv_X12_aLine ln_X12_241 hx0 ⟨by decide, by decide⟩ (Nat.le_of_ble_eq_true rfl) dX12_readsLaw_24 (pc2 := 27) rfl (fun r6 s5 => ?_)
        refine g_is1 hc dX12_readsLaw_27 (by decide) (L2 := [some (q_rf w x0), some (.int r6)]) rfl (pc2 := 28) rfl ?_
        refine g_rl0 hc dX12_readsLaw_28 rfl (pc2 := 29) rfl ?_
        refine g_dup hc dX12_readsLaw_29 rfl (pc2 := 30) rfl ?_
        refine g_getI hc fl_X12_238 rfl hx0 dX12_readsLaw_30 (pc2 := 33) rfl ?_
        refine g_il1 hc dX12_readsLaw_33 rfl (pc2 := 34) rfl ?_
        refine g_if_eq hc dX12_readsLaw_34 (pc1 := 41) (pc2 := 37) rfl rfl (fun _ => ?_) (fun _ => ?_)
        · refine g_iconst hc dX12_readsLaw_41 ic_0 (pc2 := 42) rfl ?_
          refine g_iadd hc dX12_readsLaw_42 (pc2 := 43) rfl ?_
          refine g_putI hc fl_X12_238 rfl hx0 dX12_readsLaw_43 (pc2 := 46) rfl (fun s8 => ?_)
          refine g_goto hc dX12_readsLaw_46 (pc2 := 12) rfl ?_
          exact ih _ _
        · refine g_iconst hc dX12_readsLaw_37 ic_1 (pc2 := 38) rfl ?_
          refine g_goto hc dX12_readsLaw_38 (pc2 := 42) rfl ?_
          refine g_iadd hc dX12_readsLaw_42 (pc2 := 43) rfl ?_
          refine g_putI hc fl_X12_238 rfl hx0 dX12_readsLaw_43 (pc2 := 46) rfl (fun s9 => ?_)
          refine g_goto hc dX12_readsLaw_46 (pc2 := 12) rfl ?_
          exact ih _ _
set_option maxRecDepth 100000 in
set_option maxHeartbeats 4000000 in
theorem C_X12_readsLaw {l : Launch} {w : q_Wd} {n : Nat} {t : Nat} (ht : q_KD t = .inl 12) {s0 : q_Sto} : q_C l w yX12_readsLaw cX12_readsLaw 2 (some .boolean) (q_rm 42 2040) [q_rf w t] s0 (f_X12_readsLaw n t s0) := q_CofG [some (q_rf w t), none] (by decide +kernel) rfl rfl (Nat.le_of_ble_eq_true rfl) fun cx hl hc => by
  have hc : q_ok w cx RX12 cX12_readsLaw 2 (some .boolean) (q_rm 42 2040) := hc
  rw [f_X12_readsLaw]
  refine g_rl0 hc dX12_readsLaw_0 rfl (pc2 := 1) rfl ?_
  refine g_iconst hc dX12_readsLaw_1 ic_0 (pc2 := 2) rfl ?_
  refine g_putI hc fl_X12_238 rfl ht dX12_readsLaw_2 (pc2 := 5) rfl (fun s1 => ?_)
  refine g_rl0 hc dX12_readsLaw_5 rfl (pc2 := 6) rfl ?_
  refine g_iconst hc dX12_readsLaw_6 ic_0 (pc2 := 7) rfl ?_
  refine g_putI hc fl_X12_204 rfl ht dX12_readsLaw_7 (pc2 := 10) rfl (fun s2 => ?_)
  refine g_iconst hc dX12_readsLaw_10 ic_1 (pc2 := 11) rfl ?_
  refine g_is1 hc dX12_readsLaw_11 (by decide) (L2 := [some (q_rf w t), some (.int 1)]) rfl (pc2 := 12) rfl ?_
  refine t_X12_readsLaw_L12 hc ht  n _ _
set_option maxRecDepth 100000 in
set_option maxHeartbeats 4000000 in
def f_X12_number (n : Nat) (t : Nat) (a0 : Int32) (a1 : Int32) (a2 : Int32) (s0 : q_Sto) : Option (Int32 × q_Sto) :=
  if (s0 t 18) = 2 then (
  q_call (f_X12_isIn n (s0 t 20) a1 a2 s0) fun r3 s2 =>
  if r3 = 0 then (
  q_call (f_X12_bad n t 2 s2) fun r6 s5 =>
  q_rz r6 s5)
  else (
  q_st s2 (q_RF t 8) a0 64 (s2 t 20) fun s7 =>
  q_callv (f_X12_next0 n t s7) fun s8 =>
  some (1, s8)))
  else (
  q_call (f_X12_bad n t 1 s0) fun r11 s10 =>
  q_rz r11 s10)
set_option maxRecDepth 100000 in
set_option maxHeartbeats 4000000 in
theorem C_X12_number {l : Launch} {w : q_Wd} {n : Nat} {t : Nat} {a0 : Int32} {a1 : Int32} {a2 : Int32} (ht : q_KD t = .inl 12) {s0 : q_Sto} : q_C l w yX12_number cX12_number 4 (some .boolean) (q_rm 11 245) [q_rf w t, .int a0, .int a1, .int a2] s0 (f_X12_number n t a0 a1 a2 s0) := q_CofG [some (q_rf w t), some (.int a0), some (.int a1), some (.int a2)] (by decide +kernel) rfl rfl (Nat.le_of_ble_eq_true rfl) fun cx hl hc => by
  have hc : q_ok w cx RX12 cX12_number 4 (some .boolean) (q_rm 11 245) := hc
  rw [f_X12_number]
  refine g_rl0 hc dX12_number_0 rfl (pc2 := 1) rfl ?_
  refine g_getI hc fl_X12_177 rfl ht dX12_number_1 (pc2 := 4) rfl ?_
  refine g_iconst hc dX12_number_4 ic_2 (pc2 := 5) rfl ?_
  refine g_icmp_eq hc dX12_number_5 (pc1 := 14) (pc2 := 8) rfl rfl (fun _ => ?_) (fun _ => ?_)
  · refine g_rl0 hc dX12_number_14 rfl (pc2 := 15) rfl ?_
    refine g_getI hc fl_X12_189 rfl ht dX12_number_15 (pc2 := 18) rfl ?_
    refine g_il2 hc dX12_number_18 rfl (pc2 := 19) rfl ?_
    refine g_il3 hc dX12_number_19 rfl (pc2 := 20) rfl ?_
    refine g_callS3 hc C_X12_isIn mv_X12_isIn ln_X12_56 ⟨by decide, by decide⟩ (Nat.le_of_ble_eq_true rfl) dX12_number_20 (pc2 := 23) rfl (fun r3 s2 => ?_)
    refine g_if_ne hc dX12_number_23 (pc1 := 26) (pc2 := 32) rfl rfl (fun _ => ?_) (fun _ => ?_)
    · refine g_rl0 hc dX12_number_26 rfl (pc2 := 27) rfl ?_
      refine g_iconst hc dX12_number_27 ic_2 (pc2 := 28) rfl ?_
      refine g_callV1 hc (C_X12_bad ht) mv_X12_bad ln_X12_198 ht ⟨by decide, by decide⟩ (Nat.le_of_ble_eq_true rfl) dX12_number_28 (pc2 := 31) rfl (fun r6 s5 => ?_)
      exact g_zret hc dX12_number_31
    · refine g_rl0 hc dX12_number_32 rfl (pc2 := 33) rfl ?_
      refine g_getR hc fl_X12_28 rfl ht dX12_number_33 (pc2 := 36) rfl ?_
      refine g_il1 hc dX12_number_36 rfl (pc2 := 37) rfl ?_
      refine g_rl0 hc dX12_number_37 rfl (pc2 := 38) rfl ?_
      refine g_getI hc fl_X12_189 rfl ht dX12_number_38 (pc2 := 41) rfl ?_
      refine g_iast hc (kf_12_8 ht) (kl_12_8 ht) dX12_number_41 (pc2 := 42) rfl (fun s7 => ?_)
      refine g_rl0 hc dX12_number_42 rfl (pc2 := 43) rfl ?_
      refine g_callV0v hc (C_X12_next0 ht) mv_X12_next0 ln_X12_201 ht ⟨by decide, by decide⟩ (Nat.le_of_ble_eq_true rfl) dX12_number_43 (pc2 := 46) rfl (fun s8 => ?_)
      refine g_iconst hc dX12_number_46 ic_1 (pc2 := 47) rfl ?_
      exact g_zret0 (by decide) hc dX12_number_47
  · refine g_rl0 hc dX12_number_8 rfl (pc2 := 9) rfl ?_
    refine g_iconst hc dX12_number_9 ic_1 (pc2 := 10) rfl ?_
    refine g_callV1 hc (C_X12_bad ht) mv_X12_bad ln_X12_198 ht ⟨by decide, by decide⟩ (Nat.le_of_ble_eq_true rfl) dX12_number_10 (pc2 := 13) rfl (fun r11 s10 => ?_)
    exact g_zret hc dX12_number_13
set_option maxRecDepth 100000 in
set_option maxHeartbeats 4000000 in
def f_X12_told (n : Nat) (t : Nat) (a0 : Int32) (a1 : Int32) (a2 : Int32) (a3 : Int32) (s0 : q_Sto) : Option (Int32 × q_Sto) :=
  q_call (f_X12_need n t a1 s0) fun r2 s1 =>
  if r2 = 0 then (
  some (0, s1))
  else (
  q_call (f_X12_number n t a0 a2 a3 s1) fun r5 s4 =>
  if r5 = 0 then (
  some (0, s4))
  else (
  some (1, s4)))
set_option maxRecDepth 100000 in
set_option maxHeartbeats 4000000 in
theorem C_X12_told {l : Launch} {w : q_Wd} {n : Nat} {t : Nat} {a0 : Int32} {a1 : Int32} {a2 : Int32} {a3 : Int32} (ht : q_KD t = .inl 12) {s0 : q_Sto} : q_C l w yX12_told cX12_told 5 (some .boolean) (q_rm 12 268) [q_rf w t, .int a0, .int a1, .int a2, .int a3] s0 (f_X12_told n t a0 a1 a2 a3 s0) := q_CofG [some (q_rf w t), some (.int a0), some (.int a1), some (.int a2), some (.int a3)] (by decide +kernel) rfl rfl (Nat.le_of_ble_eq_true rfl) fun cx hl hc => by
  have hc : q_ok w cx RX12 cX12_told 5 (some .boolean) (q_rm 12 268) := hc
  rw [f_X12_told]
  refine g_rl0 hc dX12_told_0 rfl (pc2 := 1) rfl ?_
  refine g_il2 hc dX12_told_1 rfl (pc2 := 2) rfl ?_
  refine g_callV1 hc (C_X12_need ht) mv_X12_need ln_X12_233 ht ⟨by decide, by decide⟩ (Nat.le_of_ble_eq_true rfl) dX12_told_2 (pc2 := 5) rfl (fun r2 s1 => ?_)
  refine g_if_eq hc dX12_told_5 (pc1 := 23) (pc2 := 8) rfl rfl (fun _ => ?_) (fun _ => ?_)
  · refine g_iconst hc dX12_told_23 ic_0 (pc2 := 24) rfl ?_
    exact g_zret0 (by decide) hc dX12_told_24
  · refine g_rl0 hc dX12_told_8 rfl (pc2 := 9) rfl ?_
    refine g_il1 hc dX12_told_9 rfl (pc2 := 10) rfl ?_
    refine g_il3 hc dX12_told_10 rfl (pc2 := 11) rfl ?_
    refine g_iload hc dX12_told_11 rfl (pc2 := 13) rfl ?_
    refine g_callV3 hc (C_X12_number ht) mv_X12_number ln_X12_244 ht ⟨by decide, by decide⟩ (Nat.le_of_ble_eq_true rfl) dX12_told_13 (pc2 := 16) rfl (fun r5 s4 => ?_)
    refine g_if_eq hc dX12_told_16 (pc1 := 23) (pc2 := 19) rfl rfl (fun _ => ?_) (fun _ => ?_)
    · refine g_iconst hc dX12_told_23 ic_0 (pc2 := 24) rfl ?_
      exact g_zret0 (by decide) hc dX12_told_24
    · refine g_iconst hc dX12_told_19 ic_1 (pc2 := 20) rfl ?_
      refine g_goto hc dX12_told_20 (pc2 := 24) rfl ?_
      exact g_zret0 (by decide) hc dX12_told_24
set_option maxRecDepth 100000 in
set_option maxHeartbeats 4000000 in
def f_X12_another (n : Nat) (t : Nat) (a0 : Int32) (s0 : q_Sto) : Option (Int32 × q_Sto) :=
  q_jn (fun  (s1 : q_Sto) =>
    if (s1 t 18) = 2 then (
    q_call (f_X12_isMule n t (s1 t 20) s1) fun r4 s3 =>
    if r4 = 0 then (
    q_call (f_X12_bad n t 2 s3) fun r7 s6 =>
    q_rz r7 s6)
    else (
    q_ld s3 (q_RF t 8) (a0 + 1) 64 fun v8 =>
    q_st s3 (q_RF t 8) (a0 + 1) 64 (v8 ||| (1 <<< ((s3 t 20) &&& 31))) fun s9 =>
    q_callv (f_X12_next0 n t s9) fun s10 =>
    some (1, s10)))
    else (
    q_call (f_X12_bad n t 1 s1) fun r13 s12 =>
    q_rz r13 s12)) fun j27 =>
  if (s0 t 18) = 2 then (
  q_ld s0 (q_RF t 8) a0 64 fun v15 =>
  if (s0 t 20) = v15 then (
  q_call (f_X12_bad n t 2 s0) fun r18 s17 =>
  q_rz r18 s17)
  else (
  j27 s0))
  else (
  j27 s0)
set_option maxRecDepth 100000 in
set_option maxHeartbeats 4000000 in
theorem C_X12_another {l : Launch} {w : q_Wd} {n : Nat} {t : Nat} {a0 : Int32} (ht : q_KD t = .inl 12) {s0 : q_Sto} : q_C l w yX12_another cX12_another 2 (some .boolean) (q_rm 11 245) [q_rf w t, .int a0] s0 (f_X12_another n t a0 s0) := q_CofG [some (q_rf w t), some (.int a0)] (by decide +kernel) rfl rfl (Nat.le_of_ble_eq_true rfl) fun cx hl hc => by
  have hc : q_ok w cx RX12 cX12_another 2 (some .boolean) (q_rm 11 245) := hc
  rw [f_X12_another]
  refine g_rl0 hc dX12_another_0 rfl (pc2 := 1) rfl ?_
  refine g_getI hc fl_X12_177 rfl ht dX12_another_1 (pc2 := 4) rfl ?_
  refine g_iconst hc dX12_another_4 ic_2 (pc2 := 5) rfl ?_
  refine g_jn (P := fun j27 => ∀  (s1 : q_Sto), q_G w cx 2 (some .boolean) 27 [some (q_rf w t), some (.int a0)] [] s1 (j27 s1)) (fun s1 => ?_) (fun j27 hj27 => ?_)
  · refine g_rl0 hc dX12_another_27 rfl (pc2 := 28) rfl ?_
    refine g_getI hc fl_X12_177 rfl ht dX12_another_28 (pc2 := 31) rfl ?_
    refine g_iconst hc dX12_another_31 ic_2 (pc2 := 32) rfl ?_
    refine g_icmp_eq hc dX12_another_32 (pc1 := 41) (pc2 := 35) rfl rfl (fun _ => ?_) (fun _ => ?_)
    · refine g_rl0 hc dX12_another_41 rfl (pc2 := 42) rfl ?_
      refine g_rl0 hc dX12_another_42 rfl (pc2 := 43) rfl ?_
      refine g_getI hc fl_X12_189 rfl ht dX12_another_43 (pc2 := 46) rfl ?_
      refine g_callV1 hc (C_X12_isMule ht) mv_X12_isMule ln_X12_72 ht ⟨by decide, by decide⟩ (Nat.le_of_ble_eq_true rfl) dX12_another_46 (pc2 := 49) rfl (fun r4 s3 => ?_)
      refine g_if_ne hc dX12_another_49 (pc1 := 52) (pc2 := 58) rfl rfl (fun _ => ?_) (fun _ => ?_)
      · refine g_rl0 hc dX12_another_52 rfl (pc2 := 53) rfl ?_
        refine g_iconst hc dX12_another_53 ic_2 (pc2 := 54) rfl ?_
        refine g_callV1 hc (C_X12_bad ht) mv_X12_bad ln_X12_198 ht ⟨by decide, by decide⟩ (Nat.le_of_ble_eq_true rfl) dX12_another_54 (pc2 := 57) rfl (fun r7 s6 => ?_)
        exact g_zret hc dX12_another_57
      · refine g_rl0 hc dX12_another_58 rfl (pc2 := 59) rfl ?_
        refine g_getR hc fl_X12_28 rfl ht dX12_another_59 (pc2 := 62) rfl ?_
        refine g_il1 hc dX12_another_62 rfl (pc2 := 63) rfl ?_
        refine g_iconst hc dX12_another_63 ic_1 (pc2 := 64) rfl ?_
        refine g_iadd hc dX12_another_64 (pc2 := 65) rfl ?_
        refine g_dup2 hc dX12_another_65 rfl rfl (pc2 := 66) rfl ?_
        refine g_iald hc (kf_12_8 ht) (kl_12_8 ht) dX12_another_66 (pc2 := 67) rfl (fun v8 => ?_)
        refine g_iconst hc dX12_another_67 ic_1 (pc2 := 68) rfl ?_
        refine g_rl0 hc dX12_another_68 rfl (pc2 := 69) rfl ?_
        refine g_getI hc fl_X12_189 rfl ht dX12_another_69 (pc2 := 72) rfl ?_
        refine g_ishl hc dX12_another_72 (pc2 := 73) rfl ?_
        refine g_ior hc dX12_another_73 (pc2 := 74) rfl ?_
        refine g_iast hc (kf_12_8 ht) (kl_12_8 ht) dX12_another_74 (pc2 := 75) rfl (fun s9 => ?_)
        refine g_rl0 hc dX12_another_75 rfl (pc2 := 76) rfl ?_
        refine g_callV0v hc (C_X12_next0 ht) mv_X12_next0 ln_X12_201 ht ⟨by decide, by decide⟩ (Nat.le_of_ble_eq_true rfl) dX12_another_76 (pc2 := 79) rfl (fun s10 => ?_)
        refine g_iconst hc dX12_another_79 ic_1 (pc2 := 80) rfl ?_
        exact g_zret0 (by decide) hc dX12_another_80
    · refine g_rl0 hc dX12_another_35 rfl (pc2 := 36) rfl ?_
      refine g_iconst hc dX12_another_36 ic_1 (pc2 := 37) rfl ?_
      refine g_callV1 hc (C_X12_bad ht) mv_X12_bad ln_X12_198 ht ⟨by decide, by decide⟩ (Nat.le_of_ble_eq_true rfl) dX12_another_37 (pc2 := 40) rfl (fun r13 s12 => ?_)
      exact g_zret hc dX12_another_40
  · refine g_icmp_ne hc dX12_another_5 (pc1 := 8) (pc2 := 27) rfl rfl (fun _ => ?_) (fun _ => ?_)
    · refine g_rl0 hc dX12_another_8 rfl (pc2 := 9) rfl ?_
      refine g_getI hc fl_X12_189 rfl ht dX12_another_9 (pc2 := 12) rfl ?_
      refine g_rl0 hc dX12_another_12 rfl (pc2 := 13) rfl ?_
      refine g_getR hc fl_X12_28 rfl ht dX12_another_13 (pc2 := 16) rfl ?_
      refine g_il1 hc dX12_another_16 rfl (pc2 := 17) rfl ?_
      refine g_iald hc (kf_12_8 ht) (kl_12_8 ht) dX12_another_17 (pc2 := 18) rfl (fun v15 => ?_)
      refine g_icmp_ne hc dX12_another_18 (pc1 := 21) (pc2 := 27) rfl rfl (fun _ => ?_) (fun _ => ?_)
      · refine g_rl0 hc dX12_another_21 rfl (pc2 := 22) rfl ?_
        refine g_iconst hc dX12_another_22 ic_2 (pc2 := 23) rfl ?_
        refine g_callV1 hc (C_X12_bad ht) mv_X12_bad ln_X12_198 ht ⟨by decide, by decide⟩ (Nat.le_of_ble_eq_true rfl) dX12_another_23 (pc2 := 26) rfl (fun r18 s17 => ?_)
        exact g_zret hc dX12_another_26
      · exact hj27 _
    · exact hj27 _
set_option maxRecDepth 100000 in
set_option maxHeartbeats 4000000 in
def f_X12_aHeed_L57 (n : Nat) (x0 : Nat) (x1 : Int32) : Nat → q_Sto → Option (Int32 × q_Sto)
  | 0, _ => none
  | j + 1, s0 =>
    if (s0 x0 18) = 5 then (
    q_callv (f_X12_next0 n x0 s0) fun s14 =>
    q_call (f_X12_another n x0 x1 s14) fun r17 s16 =>
    if r17 = 0 then (
    some (0, s16))
    else (
    f_X12_aHeed_L57 n x0 x1  j  s16))
    else (
    some (1, s0))
set_option maxRecDepth 100000 in
set_option maxHeartbeats 4000000 in
def f_X12_aHeed (n : Nat) (t : Nat) (s0 : q_Sto) : Option (Int32 × q_Sto) :=
  q_nm (2 * (s0 t 15)) fun v1 =>
  q_ld s0 (q_RF t 0) 86 1790 fun v2 =>
  q_call (f_X12_told n t v1 7 0 (v2 - 1) s0) fun r4 s3 =>
  if r4 = 0 then (
  some (0, s3))
  else (
  q_st s3 (q_RF t 8) (v1 + 1) 64 0 fun s6 =>
  q_call (f_X12_need n t 8 s6) fun r8 s7 =>
  if r8 = 0 then (
  some (0, s7))
  else (
  q_call (f_X12_another n t v1 s7) fun r11 s10 =>
  if r11 = 0 then (
  some (0, s10))
  else (
  f_X12_aHeed_L57 n t v1  n  s10)))
set_option maxRecDepth 100000 in
set_option maxHeartbeats 4000000 in
theorem t_X12_aHeed_L57 {w : q_Wd} {cx : q_Cx} (hc : q_ok w cx RX12 cX12_aHeed 2 (some .boolean) (q_rm 13 292)) {n : Nat} {x0 : Nat} {x1 : Int32} (hx0 : q_KD x0 = .inl 12)   :
    ∀ (j : Nat)  (s0 : q_Sto), q_G w cx 2 (some .boolean) 57 [some (q_rf w x0), some (.int x1)] [] s0 (f_X12_aHeed_L57 n x0 x1  j  s0) := by
  intro j
  induction j with
  | zero =>
    intro _
    rw [f_X12_aHeed_L57]
    exact q_none
  | succ j ih =>
    intro s0
    rw [f_X12_aHeed_L57]
    refine g_rl0 hc dX12_aHeed_57 rfl (pc2 := 58) rfl ?_
    refine g_getI hc fl_X12_177 rfl hx0 dX12_aHeed_58 (pc2 := 61) rfl ?_
    refine g_iconst hc dX12_aHeed_61 ic_5 (pc2 := 62) rfl ?_
    refine g_icmp_ne hc dX12_aHeed_62 (pc1 := 65) (pc2 := 79) rfl rfl (fun _ => ?_) (fun _ => ?_)
    · refine g_rl0 hc dX12_aHeed_65 rfl (pc2 := 66) rfl ?_
      refine g_callV0v hc (C_X12_next0 hx0) mv_X12_next0 ln_X12_201 hx0 ⟨by decide, by decide⟩ (Nat.le_of_ble_eq_true rfl) dX12_aHeed_66 (pc2 := 69) rfl (fun s14 => ?_)
      refine g_rl0 hc dX12_aHeed_69 rfl (pc2 := 70) rfl ?_
      refine g_il1 hc dX12_aHeed_70 rfl (pc2 := 71) rfl ?_
      refine g_callV1 hc (C_X12_another hx0) mv_X12_another ln_X12_254 hx0 ⟨by decide, by decide⟩ (Nat.le_of_ble_eq_true rfl) dX12_aHeed_71 (pc2 := 74) rfl (fun r17 s16 => ?_)
      refine g_if_ne hc dX12_aHeed_74 (pc1 := 77) (pc2 := 57) rfl rfl (fun _ => ?_) (fun _ => ?_)
      · refine g_iconst hc dX12_aHeed_77 ic_0 (pc2 := 78) rfl ?_
        exact g_zret0 (by decide) hc dX12_aHeed_78
      · exact ih _
    · refine g_iconst hc dX12_aHeed_79 ic_1 (pc2 := 80) rfl ?_
      exact g_zret0 (by decide) hc dX12_aHeed_80
set_option maxRecDepth 100000 in
set_option maxHeartbeats 4000000 in
theorem C_X12_aHeed {l : Launch} {w : q_Wd} {n : Nat} {t : Nat} (ht : q_KD t = .inl 12) {s0 : q_Sto} : q_C l w yX12_aHeed cX12_aHeed 2 (some .boolean) (q_rm 13 292) [q_rf w t] s0 (f_X12_aHeed n t s0) := q_CofG [some (q_rf w t), none] (by decide +kernel) rfl rfl (Nat.le_of_ble_eq_true rfl) fun cx hl hc => by
  have hc : q_ok w cx RX12 cX12_aHeed 2 (some .boolean) (q_rm 13 292) := hc
  rw [f_X12_aHeed]
  refine g_iconst hc dX12_aHeed_0 ic_2 (pc2 := 1) rfl ?_
  refine g_rl0 hc dX12_aHeed_1 rfl (pc2 := 2) rfl ?_
  refine g_getI hc fl_X12_247 rfl ht dX12_aHeed_2 (pc2 := 5) rfl ?_
  refine g_imul hc dX12_aHeed_5 (pc2 := 6) rfl ?_
  refine g_nm (fun v1 => ?_)
  refine g_is1 hc dX12_aHeed_6 (by decide) (L2 := [some (q_rf w t), some (.int v1)]) rfl (pc2 := 7) rfl ?_
  refine g_rl0 hc dX12_aHeed_7 rfl (pc2 := 8) rfl ?_
  refine g_il1 hc dX12_aHeed_8 rfl (pc2 := 9) rfl ?_
  refine g_bipush hc dX12_aHeed_9 bp_7 (pc2 := 11) rfl ?_
  refine g_iconst hc dX12_aHeed_11 ic_0 (pc2 := 12) rfl ?_
  refine g_rl0 hc dX12_aHeed_12 rfl (pc2 := 13) rfl ?_
  refine g_getR hc fl_X12_7 rfl ht dX12_aHeed_13 (pc2 := 16) rfl ?_
  refine g_bipush hc dX12_aHeed_16 bp_86 (pc2 := 18) rfl ?_
  refine g_iald hc (kf_12_0 ht) (kl_12_0 ht) dX12_aHeed_18 (pc2 := 19) rfl (fun v2 => ?_)
  refine g_iconst hc dX12_aHeed_19 ic_1 (pc2 := 20) rfl ?_
  refine g_isub hc dX12_aHeed_20 (pc2 := 21) rfl ?_
  refine g_callV4 hc (C_X12_told ht) mv_X12_told ln_X12_250 ht ⟨by decide, by decide⟩ (Nat.le_of_ble_eq_true rfl) dX12_aHeed_21 (pc2 := 24) rfl (fun r4 s3 => ?_)
  refine g_if_ne hc dX12_aHeed_24 (pc1 := 27) (pc2 := 29) rfl rfl (fun _ => ?_) (fun _ => ?_)
  · refine g_iconst hc dX12_aHeed_27 ic_0 (pc2 := 28) rfl ?_
    exact g_zret0 (by decide) hc dX12_aHeed_28
  · refine g_rl0 hc dX12_aHeed_29 rfl (pc2 := 30) rfl ?_
    refine g_getR hc fl_X12_28 rfl ht dX12_aHeed_30 (pc2 := 33) rfl ?_
    refine g_il1 hc dX12_aHeed_33 rfl (pc2 := 34) rfl ?_
    refine g_iconst hc dX12_aHeed_34 ic_1 (pc2 := 35) rfl ?_
    refine g_iadd hc dX12_aHeed_35 (pc2 := 36) rfl ?_
    refine g_iconst hc dX12_aHeed_36 ic_0 (pc2 := 37) rfl ?_
    refine g_iast hc (kf_12_8 ht) (kl_12_8 ht) dX12_aHeed_37 (pc2 := 38) rfl (fun s6 => ?_)
    refine g_rl0 hc dX12_aHeed_38 rfl (pc2 := 39) rfl ?_
    refine g_bipush hc dX12_aHeed_39 bp_8 (pc2 := 41) rfl ?_
    refine g_callV1 hc (C_X12_need ht) mv_X12_need ln_X12_233 ht ⟨by decide, by decide⟩ (Nat.le_of_ble_eq_true rfl) dX12_aHeed_41 (pc2 := 44) rfl (fun r8 s7 => ?_)
    refine g_if_eq hc dX12_aHeed_44 (pc1 := 55) (pc2 := 47) rfl rfl (fun _ => ?_) (fun _ => ?_)
    · refine g_iconst hc dX12_aHeed_55 ic_0 (pc2 := 56) rfl ?_
      exact g_zret0 (by decide) hc dX12_aHeed_56
    · refine g_rl0 hc dX12_aHeed_47 rfl (pc2 := 48) rfl ?_
      refine g_il1 hc dX12_aHeed_48 rfl (pc2 := 49) rfl ?_
      refine g_callV1 hc (C_X12_another ht) mv_X12_another ln_X12_254 ht ⟨by decide, by decide⟩ (Nat.le_of_ble_eq_true rfl) dX12_aHeed_49 (pc2 := 52) rfl (fun r11 s10 => ?_)
      refine g_if_ne hc dX12_aHeed_52 (pc1 := 55) (pc2 := 57) rfl rfl (fun _ => ?_) (fun _ => ?_)
      · refine g_iconst hc dX12_aHeed_55 ic_0 (pc2 := 56) rfl ?_
        exact g_zret0 (by decide) hc dX12_aHeed_56
      · refine t_X12_aHeed_L57 hc ht  n  _
set_option maxRecDepth 100000 in
set_option maxHeartbeats 4000000 in
def f_X12_aPlan (n : Nat) (t : Nat) (s0 : q_Sto) : Option (Int32 × q_Sto) :=
  q_nm (4 * (s0 t 15)) fun v1 =>
  q_call (f_X12_told n t v1 9 0 999 s0) fun r3 s2 =>
  if r3 = 0 then (
  some (0, s2))
  else (
  q_call (f_X12_isIn n (s2 t 18) 10 14 s2) fun r6 s5 =>
  if r6 = 0 then (
  q_call (f_X12_bad n t 1 s5) fun r9 s8 =>
  q_rz r9 s8)
  else (
  q_nm (s5 t 18) fun v10 =>
  q_st s5 (q_RF t 8) (v1 + 1) 64 v10 fun s11 =>
  q_st s11 (q_RF t 8) (v1 + 2) 64 0 fun s12 =>
  q_st s12 (q_RF t 8) (v1 + 3) 64 0 fun s13 =>
  q_callv (f_X12_next0 n t s13) fun s14 =>
  if v10 = 13 then (
  some (1, s14))
  else (
  q_jn (fun (y17 : Int32) (s18 : q_Sto) =>
    q_call (f_X12_number n t (v1 + 2) 0 y17 s18) fun r20 s19 =>
    if r20 = 0 then (
    some (0, s19))
    else (
    if v10 = 14 then (
    some (1, s19))
    else (
    if v10 = 11 then (
    some (1, s19))
    else (
    q_ld s19 (q_RF t 0) 86 1790 fun v24 =>
    q_call (f_X12_number n t (v1 + 3) 0 (v24 - 1) s19) fun r26 s25 =>
    if r26 = 0 then (
    some (0, s25))
    else (
    some (1, s25)))))) fun j112 =>
  if v10 = 14 then (
  j112 9 s14)
  else (
  q_ld s14 (q_RF t 0) 87 1790 fun v29 =>
  j112 (v29 - 1) s14))))
set_option maxRecDepth 100000 in
set_option maxHeartbeats 4000000 in
theorem C_X12_aPlan {l : Launch} {w : q_Wd} {n : Nat} {t : Nat} (ht : q_KD t = .inl 12) {s0 : q_Sto} : q_C l w yX12_aPlan cX12_aPlan 3 (some .boolean) (q_rm 13 292) [q_rf w t] s0 (f_X12_aPlan n t s0) := q_CofG [some (q_rf w t), none, none] (by decide +kernel) rfl rfl (Nat.le_of_ble_eq_true rfl) fun cx hl hc => by
  have hc : q_ok w cx RX12 cX12_aPlan 3 (some .boolean) (q_rm 13 292) := hc
  rw [f_X12_aPlan]
  refine g_iconst hc dX12_aPlan_0 ic_4 (pc2 := 1) rfl ?_
  refine g_rl0 hc dX12_aPlan_1 rfl (pc2 := 2) rfl ?_
  refine g_getI hc fl_X12_247 rfl ht dX12_aPlan_2 (pc2 := 5) rfl ?_
  refine g_imul hc dX12_aPlan_5 (pc2 := 6) rfl ?_
  refine g_nm (fun v1 => ?_)
  refine g_is1 hc dX12_aPlan_6 (by decide) (L2 := [some (q_rf w t), some (.int v1), none]) rfl (pc2 := 7) rfl ?_
  refine g_rl0 hc dX12_aPlan_7 rfl (pc2 := 8) rfl ?_
  refine g_il1 hc dX12_aPlan_8 rfl (pc2 := 9) rfl ?_
  refine g_bipush hc dX12_aPlan_9 bp_9 (pc2 := 11) rfl ?_
  refine g_iconst hc dX12_aPlan_11 ic_0 (pc2 := 12) rfl ?_
  refine g_sipush hc dX12_aPlan_12 sp_999 (pc2 := 15) rfl ?_
  refine g_callV4 hc (C_X12_told ht) mv_X12_told ln_X12_250 ht ⟨by decide, by decide⟩ (Nat.le_of_ble_eq_true rfl) dX12_aPlan_15 (pc2 := 18) rfl (fun r3 s2 => ?_)
  refine g_if_ne hc dX12_aPlan_18 (pc1 := 21) (pc2 := 23) rfl rfl (fun _ => ?_) (fun _ => ?_)
  · refine g_iconst hc dX12_aPlan_21 ic_0 (pc2 := 22) rfl ?_
    exact g_zret0 (by decide) hc dX12_aPlan_22
  · refine g_rl0 hc dX12_aPlan_23 rfl (pc2 := 24) rfl ?_
    refine g_getI hc fl_X12_177 rfl ht dX12_aPlan_24 (pc2 := 27) rfl ?_
    refine g_bipush hc dX12_aPlan_27 bp_10 (pc2 := 29) rfl ?_
    refine g_bipush hc dX12_aPlan_29 bp_14 (pc2 := 31) rfl ?_
    refine g_callS3 hc C_X12_isIn mv_X12_isIn ln_X12_56 ⟨by decide, by decide⟩ (Nat.le_of_ble_eq_true rfl) dX12_aPlan_31 (pc2 := 34) rfl (fun r6 s5 => ?_)
    refine g_if_ne hc dX12_aPlan_34 (pc1 := 37) (pc2 := 43) rfl rfl (fun _ => ?_) (fun _ => ?_)
    · refine g_rl0 hc dX12_aPlan_37 rfl (pc2 := 38) rfl ?_
      refine g_iconst hc dX12_aPlan_38 ic_1 (pc2 := 39) rfl ?_
      refine g_callV1 hc (C_X12_bad ht) mv_X12_bad ln_X12_198 ht ⟨by decide, by decide⟩ (Nat.le_of_ble_eq_true rfl) dX12_aPlan_39 (pc2 := 42) rfl (fun r9 s8 => ?_)
      exact g_zret hc dX12_aPlan_42
    · refine g_rl0 hc dX12_aPlan_43 rfl (pc2 := 44) rfl ?_
      refine g_getI hc fl_X12_177 rfl ht dX12_aPlan_44 (pc2 := 47) rfl ?_
      refine g_nm (fun v10 => ?_)
      refine g_is2 hc dX12_aPlan_47 (by decide) (L2 := [some (q_rf w t), some (.int v1), some (.int v10)]) rfl (pc2 := 48) rfl ?_
      refine g_rl0 hc dX12_aPlan_48 rfl (pc2 := 49) rfl ?_
      refine g_getR hc fl_X12_28 rfl ht dX12_aPlan_49 (pc2 := 52) rfl ?_
      refine g_il1 hc dX12_aPlan_52 rfl (pc2 := 53) rfl ?_
      refine g_iconst hc dX12_aPlan_53 ic_1 (pc2 := 54) rfl ?_
      refine g_iadd hc dX12_aPlan_54 (pc2 := 55) rfl ?_
      refine g_il2 hc dX12_aPlan_55 rfl (pc2 := 56) rfl ?_
      refine g_iast hc (kf_12_8 ht) (kl_12_8 ht) dX12_aPlan_56 (pc2 := 57) rfl (fun s11 => ?_)
      refine g_rl0 hc dX12_aPlan_57 rfl (pc2 := 58) rfl ?_
      refine g_getR hc fl_X12_28 rfl ht dX12_aPlan_58 (pc2 := 61) rfl ?_
      refine g_il1 hc dX12_aPlan_61 rfl (pc2 := 62) rfl ?_
      refine g_iconst hc dX12_aPlan_62 ic_2 (pc2 := 63) rfl ?_
      refine g_iadd hc dX12_aPlan_63 (pc2 := 64) rfl ?_
      refine g_iconst hc dX12_aPlan_64 ic_0 (pc2 := 65) rfl ?_
      refine g_iast hc (kf_12_8 ht) (kl_12_8 ht) dX12_aPlan_65 (pc2 := 66) rfl (fun s12 => ?_)
      refine g_rl0 hc dX12_aPlan_66 rfl (pc2 := 67) rfl ?_
      refine g_getR hc fl_X12_28 rfl ht dX12_aPlan_67 (pc2 := 70) rfl ?_
      refine g_il1 hc dX12_aPlan_70 rfl (pc2 := 71) rfl ?_
      refine g_iconst hc dX12_aPlan_71 ic_3 (pc2 := 72) rfl ?_
      refine g_iadd hc dX12_aPlan_72 (pc2 := 73) rfl ?_
      refine g_iconst hc dX12_aPlan_73 ic_0 (pc2 := 74) rfl ?_
      refine g_iast hc (kf_12_8 ht) (kl_12_8 ht) dX12_aPlan_74 (pc2 := 75) rfl (fun s13 => ?_)
      refine g_rl0 hc dX12_aPlan_75 rfl (pc2 := 76) rfl ?_
      refine g_callV0v hc (C_X12_next0 ht) mv_X12_next0 ln_X12_201 ht ⟨by decide, by decide⟩ (Nat.le_of_ble_eq_true rfl) dX12_aPlan_76 (pc2 := 79) rfl (fun s14 => ?_)
      refine g_il2 hc dX12_aPlan_79 rfl (pc2 := 80) rfl ?_
      refine g_bipush hc dX12_aPlan_80 bp_13 (pc2 := 82) rfl ?_
      refine g_icmp_ne hc dX12_aPlan_82 (pc1 := 85) (pc2 := 87) rfl rfl (fun _ => ?_) (fun _ => ?_)
      · refine g_iconst hc dX12_aPlan_85 ic_1 (pc2 := 86) rfl ?_
        exact g_zret0 (by decide) hc dX12_aPlan_86
      · refine g_rl0 hc dX12_aPlan_87 rfl (pc2 := 88) rfl ?_
        refine g_il1 hc dX12_aPlan_88 rfl (pc2 := 89) rfl ?_
        refine g_iconst hc dX12_aPlan_89 ic_2 (pc2 := 90) rfl ?_
        refine g_iadd hc dX12_aPlan_90 (pc2 := 91) rfl ?_
        refine g_iconst hc dX12_aPlan_91 ic_0 (pc2 := 92) rfl ?_
        refine g_il2 hc dX12_aPlan_92 rfl (pc2 := 93) rfl ?_
        refine g_bipush hc dX12_aPlan_93 bp_14 (pc2 := 95) rfl ?_
        refine g_jn (P := fun j112 => ∀ (y17 : Int32) (s18 : q_Sto), q_G w cx 3 (some .boolean) 112 [some (q_rf w t), some (.int v1), some (.int v10)] [.int y17, .int 0, .int (v1 + 2), q_rf w t] s18 (j112 y17 s18)) (fun y17 s18 => ?_) (fun j112 hj112 => ?_)
        · refine g_callV3 hc (C_X12_number ht) mv_X12_number ln_X12_244 ht ⟨by decide, by decide⟩ (Nat.le_of_ble_eq_true rfl) dX12_aPlan_112 (pc2 := 115) rfl (fun r20 s19 => ?_)
          refine g_if_ne hc dX12_aPlan_115 (pc1 := 118) (pc2 := 120) rfl rfl (fun _ => ?_) (fun _ => ?_)
          · refine g_iconst hc dX12_aPlan_118 ic_0 (pc2 := 119) rfl ?_
            exact g_zret0 (by decide) hc dX12_aPlan_119
          · refine g_il2 hc dX12_aPlan_120 rfl (pc2 := 121) rfl ?_
            refine g_bipush hc dX12_aPlan_121 bp_14 (pc2 := 123) rfl ?_
            refine g_icmp_eq hc dX12_aPlan_123 (pc1 := 152) (pc2 := 126) rfl rfl (fun _ => ?_) (fun _ => ?_)
            · refine g_iconst hc dX12_aPlan_152 ic_1 (pc2 := 153) rfl ?_
              refine g_goto hc dX12_aPlan_153 (pc2 := 157) rfl ?_
              exact g_zret0 (by decide) hc dX12_aPlan_157
            · refine g_il2 hc dX12_aPlan_126 rfl (pc2 := 127) rfl ?_
              refine g_bipush hc dX12_aPlan_127 bp_11 (pc2 := 129) rfl ?_
              refine g_icmp_eq hc dX12_aPlan_129 (pc1 := 152) (pc2 := 132) rfl rfl (fun _ => ?_) (fun _ => ?_)
              · refine g_iconst hc dX12_aPlan_152 ic_1 (pc2 := 153) rfl ?_
                refine g_goto hc dX12_aPlan_153 (pc2 := 157) rfl ?_
                exact g_zret0 (by decide) hc dX12_aPlan_157
              · refine g_rl0 hc dX12_aPlan_132 rfl (pc2 := 133) rfl ?_
                refine g_il1 hc dX12_aPlan_133 rfl (pc2 := 134) rfl ?_
                refine g_iconst hc dX12_aPlan_134 ic_3 (pc2 := 135) rfl ?_
                refine g_iadd hc dX12_aPlan_135 (pc2 := 136) rfl ?_
                refine g_iconst hc dX12_aPlan_136 ic_0 (pc2 := 137) rfl ?_
                refine g_rl0 hc dX12_aPlan_137 rfl (pc2 := 138) rfl ?_
                refine g_getR hc fl_X12_7 rfl ht dX12_aPlan_138 (pc2 := 141) rfl ?_
                refine g_bipush hc dX12_aPlan_141 bp_86 (pc2 := 143) rfl ?_
                refine g_iald hc (kf_12_0 ht) (kl_12_0 ht) dX12_aPlan_143 (pc2 := 144) rfl (fun v24 => ?_)
                refine g_iconst hc dX12_aPlan_144 ic_1 (pc2 := 145) rfl ?_
                refine g_isub hc dX12_aPlan_145 (pc2 := 146) rfl ?_
                refine g_callV3 hc (C_X12_number ht) mv_X12_number ln_X12_244 ht ⟨by decide, by decide⟩ (Nat.le_of_ble_eq_true rfl) dX12_aPlan_146 (pc2 := 149) rfl (fun r26 s25 => ?_)
                refine g_if_eq hc dX12_aPlan_149 (pc1 := 156) (pc2 := 152) rfl rfl (fun _ => ?_) (fun _ => ?_)
                · refine g_iconst hc dX12_aPlan_156 ic_0 (pc2 := 157) rfl ?_
                  exact g_zret0 (by decide) hc dX12_aPlan_157
                · refine g_iconst hc dX12_aPlan_152 ic_1 (pc2 := 153) rfl ?_
                  refine g_goto hc dX12_aPlan_153 (pc2 := 157) rfl ?_
                  exact g_zret0 (by decide) hc dX12_aPlan_157
        · refine g_icmp_ne hc dX12_aPlan_95 (pc1 := 98) (pc2 := 103) rfl rfl (fun _ => ?_) (fun _ => ?_)
          · refine g_bipush hc dX12_aPlan_98 bp_9 (pc2 := 100) rfl ?_
            refine g_goto hc dX12_aPlan_100 (pc2 := 112) rfl ?_
            exact hj112 _ _
          · refine g_rl0 hc dX12_aPlan_103 rfl (pc2 := 104) rfl ?_
            refine g_getR hc fl_X12_7 rfl ht dX12_aPlan_104 (pc2 := 107) rfl ?_
            refine g_bipush hc dX12_aPlan_107 bp_87 (pc2 := 109) rfl ?_
            refine g_iald hc (kf_12_0 ht) (kl_12_0 ht) dX12_aPlan_109 (pc2 := 110) rfl (fun v29 => ?_)
            refine g_iconst hc dX12_aPlan_110 ic_1 (pc2 := 111) rfl ?_
            refine g_isub hc dX12_aPlan_111 (pc2 := 112) rfl ?_
            exact hj112 _ _
set_option maxRecDepth 100000 in
set_option maxHeartbeats 4000000 in
def f_X12_aPath (n : Nat) (t : Nat) (s0 : q_Sto) : Option (Int32 × q_Sto) :=
  q_nm (3 * (s0 t 15)) fun v1 =>
  q_call (f_X12_told n t v1 15 0 9 s0) fun r3 s2 =>
  if r3 = 0 then (
  some (0, s2))
  else (
  q_jn (fun  (s5 : q_Sto) =>
    q_call (f_X12_number n t (v1 + 1) 0 9 s5) fun r7 s6 =>
    if r7 = 0 then (
    some (0, s6))
    else (
    q_call (f_X12_told n t (v1 + 2) 16 1 24 s6) fun r10 s9 =>
    if r10 = 0 then (
    some (0, s9))
    else (
    some (1, s9)))) fun j49 =>
  if (s2 t 18) = 2 then (
  q_ld s2 (q_RF t 8) v1 64 fun v13 =>
  if (s2 t 20) = v13 then (
  q_call (f_X12_bad n t 2 s2) fun r16 s15 =>
  q_rz r16 s15)
  else (
  j49 s2))
  else (
  j49 s2))
set_option maxRecDepth 100000 in
set_option maxHeartbeats 4000000 in
theorem C_X12_aPath {l : Launch} {w : q_Wd} {n : Nat} {t : Nat} (ht : q_KD t = .inl 12) {s0 : q_Sto} : q_C l w yX12_aPath cX12_aPath 2 (some .boolean) (q_rm 13 292) [q_rf w t] s0 (f_X12_aPath n t s0) := q_CofG [some (q_rf w t), none] (by decide +kernel) rfl rfl (Nat.le_of_ble_eq_true rfl) fun cx hl hc => by
  have hc : q_ok w cx RX12 cX12_aPath 2 (some .boolean) (q_rm 13 292) := hc
  rw [f_X12_aPath]
  refine g_iconst hc dX12_aPath_0 ic_3 (pc2 := 1) rfl ?_
  refine g_rl0 hc dX12_aPath_1 rfl (pc2 := 2) rfl ?_
  refine g_getI hc fl_X12_247 rfl ht dX12_aPath_2 (pc2 := 5) rfl ?_
  refine g_imul hc dX12_aPath_5 (pc2 := 6) rfl ?_
  refine g_nm (fun v1 => ?_)
  refine g_is1 hc dX12_aPath_6 (by decide) (L2 := [some (q_rf w t), some (.int v1)]) rfl (pc2 := 7) rfl ?_
  refine g_rl0 hc dX12_aPath_7 rfl (pc2 := 8) rfl ?_
  refine g_il1 hc dX12_aPath_8 rfl (pc2 := 9) rfl ?_
  refine g_bipush hc dX12_aPath_9 bp_15 (pc2 := 11) rfl ?_
  refine g_iconst hc dX12_aPath_11 ic_0 (pc2 := 12) rfl ?_
  refine g_bipush hc dX12_aPath_12 bp_9 (pc2 := 14) rfl ?_
  refine g_callV4 hc (C_X12_told ht) mv_X12_told ln_X12_250 ht ⟨by decide, by decide⟩ (Nat.le_of_ble_eq_true rfl) dX12_aPath_14 (pc2 := 17) rfl (fun r3 s2 => ?_)
  refine g_if_ne hc dX12_aPath_17 (pc1 := 20) (pc2 := 22) rfl rfl (fun _ => ?_) (fun _ => ?_)
  · refine g_iconst hc dX12_aPath_20 ic_0 (pc2 := 21) rfl ?_
    exact g_zret0 (by decide) hc dX12_aPath_21
  · refine g_rl0 hc dX12_aPath_22 rfl (pc2 := 23) rfl ?_
    refine g_getI hc fl_X12_177 rfl ht dX12_aPath_23 (pc2 := 26) rfl ?_
    refine g_iconst hc dX12_aPath_26 ic_2 (pc2 := 27) rfl ?_
    refine g_jn (P := fun j49 => ∀  (s5 : q_Sto), q_G w cx 2 (some .boolean) 49 [some (q_rf w t), some (.int v1)] [] s5 (j49 s5)) (fun s5 => ?_) (fun j49 hj49 => ?_)
    · refine g_rl0 hc dX12_aPath_49 rfl (pc2 := 50) rfl ?_
      refine g_il1 hc dX12_aPath_50 rfl (pc2 := 51) rfl ?_
      refine g_iconst hc dX12_aPath_51 ic_1 (pc2 := 52) rfl ?_
      refine g_iadd hc dX12_aPath_52 (pc2 := 53) rfl ?_
      refine g_iconst hc dX12_aPath_53 ic_0 (pc2 := 54) rfl ?_
      refine g_bipush hc dX12_aPath_54 bp_9 (pc2 := 56) rfl ?_
      refine g_callV3 hc (C_X12_number ht) mv_X12_number ln_X12_244 ht ⟨by decide, by decide⟩ (Nat.le_of_ble_eq_true rfl) dX12_aPath_56 (pc2 := 59) rfl (fun r7 s6 => ?_)
      refine g_if_eq hc dX12_aPath_59 (pc1 := 81) (pc2 := 62) rfl rfl (fun _ => ?_) (fun _ => ?_)
      · refine g_iconst hc dX12_aPath_81 ic_0 (pc2 := 82) rfl ?_
        exact g_zret0 (by decide) hc dX12_aPath_82
      · refine g_rl0 hc dX12_aPath_62 rfl (pc2 := 63) rfl ?_
        refine g_il1 hc dX12_aPath_63 rfl (pc2 := 64) rfl ?_
        refine g_iconst hc dX12_aPath_64 ic_2 (pc2 := 65) rfl ?_
        refine g_iadd hc dX12_aPath_65 (pc2 := 66) rfl ?_
        refine g_bipush hc dX12_aPath_66 bp_16 (pc2 := 68) rfl ?_
        refine g_iconst hc dX12_aPath_68 ic_1 (pc2 := 69) rfl ?_
        refine g_bipush hc dX12_aPath_69 bp_24 (pc2 := 71) rfl ?_
        refine g_callV4 hc (C_X12_told ht) mv_X12_told ln_X12_250 ht ⟨by decide, by decide⟩ (Nat.le_of_ble_eq_true rfl) dX12_aPath_71 (pc2 := 74) rfl (fun r10 s9 => ?_)
        refine g_if_eq hc dX12_aPath_74 (pc1 := 81) (pc2 := 77) rfl rfl (fun _ => ?_) (fun _ => ?_)
        · refine g_iconst hc dX12_aPath_81 ic_0 (pc2 := 82) rfl ?_
          exact g_zret0 (by decide) hc dX12_aPath_82
        · refine g_iconst hc dX12_aPath_77 ic_1 (pc2 := 78) rfl ?_
          refine g_goto hc dX12_aPath_78 (pc2 := 82) rfl ?_
          exact g_zret0 (by decide) hc dX12_aPath_82
    · refine g_icmp_ne hc dX12_aPath_27 (pc1 := 30) (pc2 := 49) rfl rfl (fun _ => ?_) (fun _ => ?_)
      · refine g_rl0 hc dX12_aPath_30 rfl (pc2 := 31) rfl ?_
        refine g_getI hc fl_X12_189 rfl ht dX12_aPath_31 (pc2 := 34) rfl ?_
        refine g_rl0 hc dX12_aPath_34 rfl (pc2 := 35) rfl ?_
        refine g_getR hc fl_X12_28 rfl ht dX12_aPath_35 (pc2 := 38) rfl ?_
        refine g_il1 hc dX12_aPath_38 rfl (pc2 := 39) rfl ?_
        refine g_iald hc (kf_12_8 ht) (kl_12_8 ht) dX12_aPath_39 (pc2 := 40) rfl (fun v13 => ?_)
        refine g_icmp_ne hc dX12_aPath_40 (pc1 := 43) (pc2 := 49) rfl rfl (fun _ => ?_) (fun _ => ?_)
        · refine g_rl0 hc dX12_aPath_43 rfl (pc2 := 44) rfl ?_
          refine g_iconst hc dX12_aPath_44 ic_2 (pc2 := 45) rfl ?_
          refine g_callV1 hc (C_X12_bad ht) mv_X12_bad ln_X12_198 ht ⟨by decide, by decide⟩ (Nat.le_of_ble_eq_true rfl) dX12_aPath_45 (pc2 := 48) rfl (fun r16 s15 => ?_)
          exact g_zret hc dX12_aPath_48
        · exact hj49 _
      · exact hj49 _
set_option maxRecDepth 100000 in
set_option maxHeartbeats 4000000 in
def f_X12_aLoad (n : Nat) (t : Nat) (s0 : q_Sto) : Option (Int32 × q_Sto) :=
  q_call (f_X12_told n t (2 * (s0 t 15)) 17 1 40 s0) fun r2 s1 =>
  if r2 = 0 then (
  some (0, s1))
  else (
  q_call (f_X12_told n t ((2 * (s1 t 15)) + 1) 18 1 99 s1) fun r5 s4 =>
  if r5 = 0 then (
  some (0, s4))
  else (
  some (1, s4)))
set_option maxRecDepth 100000 in
set_option maxHeartbeats 4000000 in
theorem C_X12_aLoad {l : Launch} {w : q_Wd} {n : Nat} {t : Nat} (ht : q_KD t = .inl 12) {s0 : q_Sto} : q_C l w yX12_aLoad cX12_aLoad 1 (some .boolean) (q_rm 13 292) [q_rf w t] s0 (f_X12_aLoad n t s0) := q_CofG [some (q_rf w t)] (by decide +kernel) rfl rfl (Nat.le_of_ble_eq_true rfl) fun cx hl hc => by
  have hc : q_ok w cx RX12 cX12_aLoad 1 (some .boolean) (q_rm 13 292) := hc
  rw [f_X12_aLoad]
  refine g_rl0 hc dX12_aLoad_0 rfl (pc2 := 1) rfl ?_
  refine g_iconst hc dX12_aLoad_1 ic_2 (pc2 := 2) rfl ?_
  refine g_rl0 hc dX12_aLoad_2 rfl (pc2 := 3) rfl ?_
  refine g_getI hc fl_X12_247 rfl ht dX12_aLoad_3 (pc2 := 6) rfl ?_
  refine g_imul hc dX12_aLoad_6 (pc2 := 7) rfl ?_
  refine g_bipush hc dX12_aLoad_7 bp_17 (pc2 := 9) rfl ?_
  refine g_iconst hc dX12_aLoad_9 ic_1 (pc2 := 10) rfl ?_
  refine g_bipush hc dX12_aLoad_10 bp_40 (pc2 := 12) rfl ?_
  refine g_callV4 hc (C_X12_told ht) mv_X12_told ln_X12_250 ht ⟨by decide, by decide⟩ (Nat.le_of_ble_eq_true rfl) dX12_aLoad_12 (pc2 := 15) rfl (fun r2 s1 => ?_)
  refine g_if_eq hc dX12_aLoad_15 (pc1 := 42) (pc2 := 18) rfl rfl (fun _ => ?_) (fun _ => ?_)
  · refine g_iconst hc dX12_aLoad_42 ic_0 (pc2 := 43) rfl ?_
    exact g_zret0 (by decide) hc dX12_aLoad_43
  · refine g_rl0 hc dX12_aLoad_18 rfl (pc2 := 19) rfl ?_
    refine g_iconst hc dX12_aLoad_19 ic_2 (pc2 := 20) rfl ?_
    refine g_rl0 hc dX12_aLoad_20 rfl (pc2 := 21) rfl ?_
    refine g_getI hc fl_X12_247 rfl ht dX12_aLoad_21 (pc2 := 24) rfl ?_
    refine g_imul hc dX12_aLoad_24 (pc2 := 25) rfl ?_
    refine g_iconst hc dX12_aLoad_25 ic_1 (pc2 := 26) rfl ?_
    refine g_iadd hc dX12_aLoad_26 (pc2 := 27) rfl ?_
    refine g_bipush hc dX12_aLoad_27 bp_18 (pc2 := 29) rfl ?_
    refine g_iconst hc dX12_aLoad_29 ic_1 (pc2 := 30) rfl ?_
    refine g_bipush hc dX12_aLoad_30 bp_99 (pc2 := 32) rfl ?_
    refine g_callV4 hc (C_X12_told ht) mv_X12_told ln_X12_250 ht ⟨by decide, by decide⟩ (Nat.le_of_ble_eq_true rfl) dX12_aLoad_32 (pc2 := 35) rfl (fun r5 s4 => ?_)
    refine g_if_eq hc dX12_aLoad_35 (pc1 := 42) (pc2 := 38) rfl rfl (fun _ => ?_) (fun _ => ?_)
    · refine g_iconst hc dX12_aLoad_42 ic_0 (pc2 := 43) rfl ?_
      exact g_zret0 (by decide) hc dX12_aLoad_43
    · refine g_iconst hc dX12_aLoad_38 ic_1 (pc2 := 39) rfl ?_
      refine g_goto hc dX12_aLoad_39 (pc2 := 43) rfl ?_
      exact g_zret0 (by decide) hc dX12_aLoad_43
set_option maxRecDepth 100000 in
set_option maxHeartbeats 4000000 in
def f_X12_aRow (n : Nat) (t : Nat) (s0 : q_Sto) : Option (Int32 × q_Sto) :=
  if (s0 t 12) = 1 then (
  q_call (f_X12_aHeed n t s0) fun r3 s2 =>
  q_rz r3 s2)
  else
  if (s0 t 12) = 2 then (
  q_call (f_X12_aPlan n t s0) fun r6 s5 =>
  q_rz r6 s5)
  else
  if (s0 t 12) = 3 then (
  q_call (f_X12_aPath n t s0) fun r9 s8 =>
  q_rz r9 s8)
  else
  (q_call (f_X12_aLoad n t s0) fun r11 s10 =>
  q_rz r11 s10)
set_option maxRecDepth 100000 in
set_option maxHeartbeats 4000000 in
theorem C_X12_aRow {l : Launch} {w : q_Wd} {n : Nat} {t : Nat} (ht : q_KD t = .inl 12) {s0 : q_Sto} : q_C l w yX12_aRow cX12_aRow 1 (some .boolean) (q_rm 14 314) [q_rf w t] s0 (f_X12_aRow n t s0) := q_CofG [some (q_rf w t)] (by decide +kernel) rfl rfl (Nat.le_of_ble_eq_true rfl) fun cx hl hc => by
  have hc : q_ok w cx RX12 cX12_aRow 1 (some .boolean) (q_rm 14 314) := hc
  rw [f_X12_aRow]
  refine g_rl0 hc dX12_aRow_0 rfl (pc2 := 1) rfl ?_
  refine g_getI hc fl_X12_155 rfl ht dX12_aRow_1 (pc2 := 4) rfl ?_
  refine g_swc hc dX12_aRow_4 (c := 1) (by decide) (by decide) rfl (pc1 := 32) rfl (fun _ => ?_) (fun c1 => ?_)
  · refine g_rl0 hc dX12_aRow_32 rfl (pc2 := 33) rfl ?_
    refine g_callV0 hc (C_X12_aHeed ht) mv_X12_aHeed ln_X12_257 ht ⟨by decide, by decide⟩ (Nat.le_of_ble_eq_true rfl) dX12_aRow_33 (pc2 := 36) rfl (fun r3 s2 => ?_)
    exact g_zret hc dX12_aRow_36
  refine g_swc hc dX12_aRow_4 (c := 2) (by decide) (by decide) rfl (pc1 := 37) rfl (fun _ => ?_) (fun c4 => ?_)
  · refine g_rl0 hc dX12_aRow_37 rfl (pc2 := 38) rfl ?_
    refine g_callV0 hc (C_X12_aPlan ht) mv_X12_aPlan ln_X12_260 ht ⟨by decide, by decide⟩ (Nat.le_of_ble_eq_true rfl) dX12_aRow_38 (pc2 := 41) rfl (fun r6 s5 => ?_)
    exact g_zret hc dX12_aRow_41
  refine g_swc hc dX12_aRow_4 (c := 3) (by decide) (by decide) rfl (pc1 := 42) rfl (fun _ => ?_) (fun c7 => ?_)
  · refine g_rl0 hc dX12_aRow_42 rfl (pc2 := 43) rfl ?_
    refine g_callV0 hc (C_X12_aPath ht) mv_X12_aPath ln_X12_263 ht ⟨by decide, by decide⟩ (Nat.le_of_ble_eq_true rfl) dX12_aRow_43 (pc2 := 46) rfl (fun r9 s8 => ?_)
    exact g_zret hc dX12_aRow_46
  refine g_swd hc dX12_aRow_4 (fun i a b e => ?_) (pc1 := 47) rfl ?_
  · rcases (show i = 1 ∨ i = 2 ∨ i = 3 by omega) with rfl | rfl | rfl
    · exact q_swx (c := 1) (by decide) c1 e
    · exact q_swx (c := 2) (by decide) c4 e
    · exact q_swx (c := 3) (by decide) c7 e
  · refine g_rl0 hc dX12_aRow_47 rfl (pc2 := 48) rfl ?_
    refine g_callV0 hc (C_X12_aLoad ht) mv_X12_aLoad ln_X12_266 ht ⟨by decide, by decide⟩ (Nat.le_of_ble_eq_true rfl) dX12_aRow_48 (pc2 := 51) rfl (fun r11 s10 => ?_)
    exact g_zret hc dX12_aRow_51
