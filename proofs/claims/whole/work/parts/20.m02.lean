set_option maxRecDepth 100000 in
set_option maxHeartbeats 4000000 in
def f_J6_bitCount_0f7a4 (n : Nat) (a0 : Int32) (s0 : q_Sto) : Option (Int32 × q_Sto) :=
  q_nm (a0 - ((q_ushr a0 1) &&& 1431655765)) fun v1 =>
  q_nm ((v1 &&& 858993459) + ((q_ushr v1 2) &&& 858993459)) fun v2 =>
  q_nm ((v2 + (q_ushr v2 4)) &&& 252645135) fun v3 =>
  q_nm (v3 + (q_ushr v3 8)) fun v4 =>
  q_nm (v4 + (q_ushr v4 16)) fun v5 =>
  some (v5 &&& 63, s0)
set_option maxRecDepth 100000 in
set_option maxHeartbeats 4000000 in
theorem C_J6_bitCount_0f7a4 {l : Launch} {w : q_Wd} {n : Nat} {a0 : Int32}  {s0 : q_Sto} : q_C l w yJ6_bitCount_0f7a4 cJ6_bitCount_0f7a4 1 (some .int) (q_rm 0 0) [.int a0] s0 (f_J6_bitCount_0f7a4 n a0 s0) := q_CofG [some (.int a0)] (by decide +kernel) rfl rfl (Nat.le_of_ble_eq_true rfl) fun cx hl hc => by
  have hc : q_ok w cx RJ6 cJ6_bitCount_0f7a4 1 (some .int) (q_rm 0 0) := hc
  rw [f_J6_bitCount_0f7a4]
  refine g_il0 hc dJ6_bitCount_0f7a4_0 rfl (pc2 := 1) rfl ?_
  refine g_il0 hc dJ6_bitCount_0f7a4_1 rfl (pc2 := 2) rfl ?_
  refine g_iconst hc dJ6_bitCount_0f7a4_2 ic_1 (pc2 := 3) rfl ?_
  refine g_iushr hc dJ6_bitCount_0f7a4_3 (pc2 := 4) rfl ?_
  refine g_ldcw hc cn_J6_265 dJ6_bitCount_0f7a4_4 (pc2 := 7) rfl ?_
  refine g_iand hc dJ6_bitCount_0f7a4_7 (pc2 := 8) rfl ?_
  refine g_isub hc dJ6_bitCount_0f7a4_8 (pc2 := 9) rfl ?_
  refine g_nm (fun v1 => ?_)
  refine g_is0 hc dJ6_bitCount_0f7a4_9 (by decide) (L2 := [some (.int v1)]) rfl (pc2 := 10) rfl ?_
  refine g_il0 hc dJ6_bitCount_0f7a4_10 rfl (pc2 := 11) rfl ?_
  refine g_ldcw hc cn_J6_266 dJ6_bitCount_0f7a4_11 (pc2 := 14) rfl ?_
  refine g_iand hc dJ6_bitCount_0f7a4_14 (pc2 := 15) rfl ?_
  refine g_il0 hc dJ6_bitCount_0f7a4_15 rfl (pc2 := 16) rfl ?_
  refine g_iconst hc dJ6_bitCount_0f7a4_16 ic_2 (pc2 := 17) rfl ?_
  refine g_iushr hc dJ6_bitCount_0f7a4_17 (pc2 := 18) rfl ?_
  refine g_ldcw hc cn_J6_266 dJ6_bitCount_0f7a4_18 (pc2 := 21) rfl ?_
  refine g_iand hc dJ6_bitCount_0f7a4_21 (pc2 := 22) rfl ?_
  refine g_iadd hc dJ6_bitCount_0f7a4_22 (pc2 := 23) rfl ?_
  refine g_nm (fun v2 => ?_)
  refine g_is0 hc dJ6_bitCount_0f7a4_23 (by decide) (L2 := [some (.int v2)]) rfl (pc2 := 24) rfl ?_
  refine g_il0 hc dJ6_bitCount_0f7a4_24 rfl (pc2 := 25) rfl ?_
  refine g_il0 hc dJ6_bitCount_0f7a4_25 rfl (pc2 := 26) rfl ?_
  refine g_iconst hc dJ6_bitCount_0f7a4_26 ic_4 (pc2 := 27) rfl ?_
  refine g_iushr hc dJ6_bitCount_0f7a4_27 (pc2 := 28) rfl ?_
  refine g_iadd hc dJ6_bitCount_0f7a4_28 (pc2 := 29) rfl ?_
  refine g_ldcw hc cn_J6_267 dJ6_bitCount_0f7a4_29 (pc2 := 32) rfl ?_
  refine g_iand hc dJ6_bitCount_0f7a4_32 (pc2 := 33) rfl ?_
  refine g_nm (fun v3 => ?_)
  refine g_is0 hc dJ6_bitCount_0f7a4_33 (by decide) (L2 := [some (.int v3)]) rfl (pc2 := 34) rfl ?_
  refine g_il0 hc dJ6_bitCount_0f7a4_34 rfl (pc2 := 35) rfl ?_
  refine g_il0 hc dJ6_bitCount_0f7a4_35 rfl (pc2 := 36) rfl ?_
  refine g_bipush hc dJ6_bitCount_0f7a4_36 bp_8 (pc2 := 38) rfl ?_
  refine g_iushr hc dJ6_bitCount_0f7a4_38 (pc2 := 39) rfl ?_
  refine g_iadd hc dJ6_bitCount_0f7a4_39 (pc2 := 40) rfl ?_
  refine g_nm (fun v4 => ?_)
  refine g_is0 hc dJ6_bitCount_0f7a4_40 (by decide) (L2 := [some (.int v4)]) rfl (pc2 := 41) rfl ?_
  refine g_il0 hc dJ6_bitCount_0f7a4_41 rfl (pc2 := 42) rfl ?_
  refine g_il0 hc dJ6_bitCount_0f7a4_42 rfl (pc2 := 43) rfl ?_
  refine g_bipush hc dJ6_bitCount_0f7a4_43 bp_16 (pc2 := 45) rfl ?_
  refine g_iushr hc dJ6_bitCount_0f7a4_45 (pc2 := 46) rfl ?_
  refine g_iadd hc dJ6_bitCount_0f7a4_46 (pc2 := 47) rfl ?_
  refine g_nm (fun v5 => ?_)
  refine g_is0 hc dJ6_bitCount_0f7a4_47 (by decide) (L2 := [some (.int v5)]) rfl (pc2 := 48) rfl ?_
  refine g_il0 hc dJ6_bitCount_0f7a4_48 rfl (pc2 := 49) rfl ?_
  refine g_bipush hc dJ6_bitCount_0f7a4_49 bp_63 (pc2 := 51) rfl ?_
  refine g_iand hc dJ6_bitCount_0f7a4_51 (pc2 := 52) rfl ?_
  exact g_iret hc dJ6_bitCount_0f7a4_52
set_option maxRecDepth 100000 in
set_option maxHeartbeats 4000000 in
def f_X9_likingFor (n : Nat) (t : Nat) (a0 : Int32) (a1 : Int32) (s0 : q_Sto) : Option (Int32 × q_Sto) :=
  q_call (f_X9_hasMule n t a0 s0) fun r2 s1 =>
  if r2 = 0 then (
  some (0, s1))
  else (
  q_call (f_X9_hasMan n t a1 s1) fun r5 s4 =>
  if r5 = 0 then (
  some (0, s4))
  else (
  q_ld s4 (q_RF t 7) ((a0 * 5) + a1) 60 fun v7 =>
  some (v7, s4)))
set_option maxRecDepth 100000 in
set_option maxHeartbeats 4000000 in
theorem C_X9_likingFor {l : Launch} {w : q_Wd} {n : Nat} {t : Nat} {a0 : Int32} {a1 : Int32} (ht : q_KD t = .inl 9) {s0 : q_Sto} : q_C l w yX9_likingFor cX9_likingFor 3 (some .int) (q_rm 1 21) [q_rf w t, .int a0, .int a1] s0 (f_X9_likingFor n t a0 a1 s0) := q_CofG [some (q_rf w t), some (.int a0), some (.int a1)] (by decide +kernel) rfl rfl (Nat.le_of_ble_eq_true rfl) fun cx hl hc => by
  have hc : q_ok w cx RX9 cX9_likingFor 3 (some .int) (q_rm 1 21) := hc
  rw [f_X9_likingFor]
  refine g_rl0 hc dX9_likingFor_0 rfl (pc2 := 1) rfl ?_
  refine g_il1 hc dX9_likingFor_1 rfl (pc2 := 2) rfl ?_
  refine g_callV1 hc (C_X9_hasMule ht) mv_X9_hasMule ln_X9_77 ht ⟨by decide, by decide⟩ (Nat.le_of_ble_eq_true rfl) dX9_likingFor_2 (pc2 := 5) rfl (fun r2 s1 => ?_)
  refine g_if_eq hc dX9_likingFor_5 (pc1 := 29) (pc2 := 8) rfl rfl (fun _ => ?_) (fun _ => ?_)
  · refine g_iconst hc dX9_likingFor_29 ic_0 (pc2 := 30) rfl ?_
    exact g_iret hc dX9_likingFor_30
  · refine g_rl0 hc dX9_likingFor_8 rfl (pc2 := 9) rfl ?_
    refine g_il2 hc dX9_likingFor_9 rfl (pc2 := 10) rfl ?_
    refine g_callV1 hc (C_X9_hasMan ht) mv_X9_hasMan ln_X9_81 ht ⟨by decide, by decide⟩ (Nat.le_of_ble_eq_true rfl) dX9_likingFor_10 (pc2 := 13) rfl (fun r5 s4 => ?_)
    refine g_if_eq hc dX9_likingFor_13 (pc1 := 29) (pc2 := 16) rfl rfl (fun _ => ?_) (fun _ => ?_)
    · refine g_iconst hc dX9_likingFor_29 ic_0 (pc2 := 30) rfl ?_
      exact g_iret hc dX9_likingFor_30
    · refine g_rl0 hc dX9_likingFor_16 rfl (pc2 := 17) rfl ?_
      refine g_getR hc fl_X9_33 rfl ht dX9_likingFor_17 (pc2 := 20) rfl ?_
      refine g_il1 hc dX9_likingFor_20 rfl (pc2 := 21) rfl ?_
      refine g_iconst hc dX9_likingFor_21 ic_5 (pc2 := 22) rfl ?_
      refine g_imul hc dX9_likingFor_22 (pc2 := 23) rfl ?_
      refine g_il2 hc dX9_likingFor_23 rfl (pc2 := 24) rfl ?_
      refine g_iadd hc dX9_likingFor_24 (pc2 := 25) rfl ?_
      refine g_iald hc (kf_9_7 ht) (kl_9_7 ht) dX9_likingFor_25 (pc2 := 26) rfl (fun v7 => ?_)
      refine g_goto hc dX9_likingFor_26 (pc2 := 30) rfl ?_
      exact g_iret hc dX9_likingFor_30
set_option maxRecDepth 100000 in
set_option maxHeartbeats 4000000 in
def f_X10_leanOf (n : Nat) (t : Nat) (a0 : Int32) (a1 : Int32) (a2 : Int32) (a3 : Int32) (s0 : q_Sto) : Option (Int32 × q_Sto) :=
  q_callv (f_X10_factsOf n t a0 a1 s0) fun s1 =>
  q_st s1 (q_RF t 8) 3 10 a2 fun s3 =>
  q_st s3 (q_RF t 8) 4 10 a3 fun s4 =>
  q_call (f_X2_tells n (q_RF t 1) 0 (q_RF t 8) (a2 + (10 * a3)) s4) fun r6 s5 =>
  some (q_mx 0 (q_mn 999 r6), s5)
set_option maxRecDepth 100000 in
set_option maxHeartbeats 4000000 in
theorem C_X10_leanOf {l : Launch} {w : q_Wd} {n : Nat} {t : Nat} {a0 : Int32} {a1 : Int32} {a2 : Int32} {a3 : Int32} (ht : q_KD t = .inl 10) {s0 : q_Sto} : q_C l w yX10_leanOf cX10_leanOf 6 (some .int) (q_rm 2 53) [q_rf w t, .int a0, .int a1, .int a2, .int a3] s0 (f_X10_leanOf n t a0 a1 a2 a3 s0) := q_CofG [some (q_rf w t), some (.int a0), some (.int a1), some (.int a2), some (.int a3), none] (by decide +kernel) rfl rfl (Nat.le_of_ble_eq_true rfl) fun cx hl hc => by
  have hc : q_ok w cx RX10 cX10_leanOf 6 (some .int) (q_rm 2 53) := hc
  rw [f_X10_leanOf]
  refine g_rl0 hc dX10_leanOf_0 rfl (pc2 := 1) rfl ?_
  refine g_il1 hc dX10_leanOf_1 rfl (pc2 := 2) rfl ?_
  refine g_il2 hc dX10_leanOf_2 rfl (pc2 := 3) rfl ?_
  refine g_callV2v hc (C_X10_factsOf ht) mv_X10_factsOf ln_X10_93 ht ⟨by decide, by decide⟩ (Nat.le_of_ble_eq_true rfl) dX10_leanOf_3 (pc2 := 6) rfl (fun s1 => ?_)
  refine g_rl0 hc dX10_leanOf_6 rfl (pc2 := 7) rfl ?_
  refine g_getR hc fl_X10_50 rfl ht dX10_leanOf_7 (pc2 := 10) rfl ?_
  refine g_iconst hc dX10_leanOf_10 ic_3 (pc2 := 11) rfl ?_
  refine g_il3 hc dX10_leanOf_11 rfl (pc2 := 12) rfl ?_
  refine g_iast hc (kf_10_8 ht) (kl_10_8 ht) dX10_leanOf_12 (pc2 := 13) rfl (fun s3 => ?_)
  refine g_rl0 hc dX10_leanOf_13 rfl (pc2 := 14) rfl ?_
  refine g_getR hc fl_X10_50 rfl ht dX10_leanOf_14 (pc2 := 17) rfl ?_
  refine g_iconst hc dX10_leanOf_17 ic_4 (pc2 := 18) rfl ?_
  refine g_iload hc dX10_leanOf_18 rfl (pc2 := 20) rfl ?_
  refine g_iast hc (kf_10_8 ht) (kl_10_8 ht) dX10_leanOf_20 (pc2 := 21) rfl (fun s4 => ?_)
  refine g_rl0 hc dX10_leanOf_21 rfl (pc2 := 22) rfl ?_
  refine g_getR hc fl_X10_21 rfl ht dX10_leanOf_22 (pc2 := 25) rfl ?_
  refine g_iconst hc dX10_leanOf_25 ic_0 (pc2 := 26) rfl ?_
  refine g_rl0 hc dX10_leanOf_26 rfl (pc2 := 27) rfl ?_
  refine g_getR hc fl_X10_50 rfl ht dX10_leanOf_27 (pc2 := 30) rfl ?_
  refine g_il3 hc dX10_leanOf_30 rfl (pc2 := 31) rfl ?_
  refine g_bipush hc dX10_leanOf_31 bp_10 (pc2 := 33) rfl ?_
  refine g_iload hc dX10_leanOf_33 rfl (pc2 := 35) rfl ?_
  refine g_imul hc dX10_leanOf_35 (pc2 := 36) rfl ?_
  refine g_iadd hc dX10_leanOf_36 (pc2 := 37) rfl ?_
  refine g_callV3 hc (C_X2_tells (kf_10_1 ht) (kf_10_8 ht) (kl_10_8 ht)) mv_X2_tells ln_X10_97 (kf_10_1 ht) ⟨by decide, by decide⟩ (Nat.le_of_ble_eq_true rfl) dX10_leanOf_37 (pc2 := 40) rfl (fun r6 s5 => ?_)
  refine g_istore hc dX10_leanOf_40 (by decide) (L2 := [some (q_rf w t), some (.int a0), some (.int a1), some (.int a2), some (.int a3), some (.int r6)]) rfl (pc2 := 42) rfl ?_
  refine g_iconst hc dX10_leanOf_42 ic_0 (pc2 := 43) rfl ?_
  refine g_sipush hc dX10_leanOf_43 sp_999 (pc2 := 46) rfl ?_
  refine g_iload hc dX10_leanOf_46 rfl (pc2 := 48) rfl ?_
  refine g_min hc ln_X10_101 ⟨by decide, by decide⟩ (Nat.le_of_ble_eq_true rfl) dX10_leanOf_48 (pc2 := 51) rfl ?_
  refine g_max hc ln_X10_107 ⟨by decide, by decide⟩ (Nat.le_of_ble_eq_true rfl) dX10_leanOf_51 (pc2 := 54) rfl ?_
  exact g_iret hc dX10_leanOf_54
set_option maxRecDepth 100000 in
set_option maxHeartbeats 4000000 in
def f_X9_lameOnes_L4 (n : Nat) (x0 : Nat) : Nat → Int32 → Int32 → q_Sto → Option (Int32 × q_Sto)
  | 0, _, _, _ => none
  | j + 1, x1, x2, s0 =>
    if x2 < (s0 x0 8) then (
    if x2 < 12 then (
    q_ld s0 (q_RF x0 2) x2 12 fun v3 =>
    if v3 = 0 then (
    f_X9_lameOnes_L4 n x0  j x1 (x2 + 1) s0)
    else (
    q_nm (x1 ||| (1 <<< (x2 &&& 31))) fun v5 =>
    f_X9_lameOnes_L4 n x0  j v5 (x2 + 1) s0))
    else (
    some (x1, s0)))
    else (
    some (x1, s0))
set_option maxRecDepth 100000 in
set_option maxHeartbeats 4000000 in
def f_X9_lameOnes (n : Nat) (t : Nat) (s0 : q_Sto) : Option (Int32 × q_Sto) :=
  f_X9_lameOnes_L4 n t  n 0 0 s0
set_option maxRecDepth 100000 in
set_option maxHeartbeats 4000000 in
theorem t_X9_lameOnes_L4 {w : q_Wd} {cx : q_Cx} (hc : q_ok w cx RX9 cX9_lameOnes 3 (some .int) (q_rm 0 0)) {n : Nat} {x0 : Nat} (hx0 : q_KD x0 = .inl 9)   :
    ∀ (j : Nat) (x1 : Int32) (x2 : Int32) (s0 : q_Sto), q_G w cx 3 (some .int) 4 [some (q_rf w x0), some (.int x1), some (.int x2)] [] s0 (f_X9_lameOnes_L4 n x0  j x1 x2 s0) := by
  intro j
  induction j with
  | zero =>
    intro _ _ _
    rw [f_X9_lameOnes_L4]
    exact q_none
  | succ j ih =>
    intro x1 x2 s0
    rw [f_X9_lameOnes_L4]
    refine g_il2 hc dX9_lameOnes_4 rfl (pc2 := 5) rfl ?_
    refine g_rl0 hc dX9_lameOnes_5 rfl (pc2 := 6) rfl ?_
    refine g_getI hc fl_X9_36 rfl hx0 dX9_lameOnes_6 (pc2 := 9) rfl ?_
    refine g_icmp_ge hc dX9_lameOnes_9 (pc1 := 12) (pc2 := 39) rfl rfl (fun _ => ?_) (fun _ => ?_)
    · refine g_il2 hc dX9_lameOnes_12 rfl (pc2 := 13) rfl ?_
      refine g_bipush hc dX9_lameOnes_13 bp_12 (pc2 := 15) rfl ?_
      refine g_icmp_ge hc dX9_lameOnes_15 (pc1 := 18) (pc2 := 39) rfl rfl (fun _ => ?_) (fun _ => ?_)
      · refine g_rl0 hc dX9_lameOnes_18 rfl (pc2 := 19) rfl ?_
        refine g_getR hc fl_X9_18 rfl hx0 dX9_lameOnes_19 (pc2 := 22) rfl ?_
        refine g_il2 hc dX9_lameOnes_22 rfl (pc2 := 23) rfl ?_
        refine g_iald hc (kf_9_2 hx0) (kl_9_2 hx0) dX9_lameOnes_23 (pc2 := 24) rfl (fun v3 => ?_)
        refine g_if_eq hc dX9_lameOnes_24 (pc1 := 33) (pc2 := 27) rfl rfl (fun _ => ?_) (fun _ => ?_)
        · refine g_iinc hc dX9_lameOnes_33 rfl (q_ii ic_1) (by decide) (L2 := [some (q_rf w x0), some (.int x1), some (.int (x2 + 1))]) rfl (pc2 := 36) rfl ?_
          refine g_goto hc dX9_lameOnes_36 (pc2 := 4) rfl ?_
          exact ih _ _ _
        · refine g_il1 hc dX9_lameOnes_27 rfl (pc2 := 28) rfl ?_
          refine g_iconst hc dX9_lameOnes_28 ic_1 (pc2 := 29) rfl ?_
          refine g_il2 hc dX9_lameOnes_29 rfl (pc2 := 30) rfl ?_
          refine g_ishl hc dX9_lameOnes_30 (pc2 := 31) rfl ?_
          refine g_ior hc dX9_lameOnes_31 (pc2 := 32) rfl ?_
          refine g_nm (fun v5 => ?_)
          refine g_is1 hc dX9_lameOnes_32 (by decide) (L2 := [some (q_rf w x0), some (.int v5), some (.int x2)]) rfl (pc2 := 33) rfl ?_
          refine g_iinc hc dX9_lameOnes_33 rfl (q_ii ic_1) (by decide) (L2 := [some (q_rf w x0), some (.int v5), some (.int (x2 + 1))]) rfl (pc2 := 36) rfl ?_
          refine g_goto hc dX9_lameOnes_36 (pc2 := 4) rfl ?_
          exact ih _ _ _
      · refine g_il1 hc dX9_lameOnes_39 rfl (pc2 := 40) rfl ?_
        exact g_iret hc dX9_lameOnes_40
    · refine g_il1 hc dX9_lameOnes_39 rfl (pc2 := 40) rfl ?_
      exact g_iret hc dX9_lameOnes_40
set_option maxRecDepth 100000 in
set_option maxHeartbeats 4000000 in
theorem C_X9_lameOnes {l : Launch} {w : q_Wd} {n : Nat} {t : Nat} (ht : q_KD t = .inl 9) {s0 : q_Sto} : q_C l w yX9_lameOnes cX9_lameOnes 3 (some .int) (q_rm 0 0) [q_rf w t] s0 (f_X9_lameOnes n t s0) := q_CofG [some (q_rf w t), none, none] (by decide +kernel) rfl rfl (Nat.le_of_ble_eq_true rfl) fun cx hl hc => by
  have hc : q_ok w cx RX9 cX9_lameOnes 3 (some .int) (q_rm 0 0) := hc
  rw [f_X9_lameOnes]
  refine g_iconst hc dX9_lameOnes_0 ic_0 (pc2 := 1) rfl ?_
  refine g_is1 hc dX9_lameOnes_1 (by decide) (L2 := [some (q_rf w t), some (.int 0), none]) rfl (pc2 := 2) rfl ?_
  refine g_iconst hc dX9_lameOnes_2 ic_0 (pc2 := 3) rfl ?_
  refine g_is2 hc dX9_lameOnes_3 (by decide) (L2 := [some (q_rf w t), some (.int 0), some (.int 0)]) rfl (pc2 := 4) rfl ?_
  refine t_X9_lameOnes_L4 hc ht  n _ _ _
set_option maxRecDepth 100000 in
set_option maxHeartbeats 4000000 in
def f_J7_fill_53178_L5 (n : Nat) (n0 : Nat) (x0 : Nat) (x1 : Int32) (x3 : Int32) : Nat → Int32 → q_Sto → Option (Int32 × q_Sto)
  | 0, _, _ => none
  | j + 1, x2, s0 =>
    if x2 < x3 then (
    q_st s0 x0 x2 n0 x1 fun s3 =>
    f_J7_fill_53178_L5 n n0 x0 x1 x3  j (x2 + 1) s3)
    else (
    some (0, s0))
set_option maxRecDepth 100000 in
set_option maxHeartbeats 4000000 in
def f_J7_fill_53178 (n : Nat) (a0 : Nat) (n0 : Nat) (a1 : Int32) (s0 : q_Sto) : Option (Int32 × q_Sto) :=
  q_nm (Int32.ofNat n0) fun v1 =>
  f_J7_fill_53178_L5 n n0 a0 a1 v1  n 0 s0
set_option maxRecDepth 100000 in
set_option maxHeartbeats 4000000 in
theorem t_J7_fill_53178_L5 {w : q_Wd} {cx : q_Cx} (hc : q_ok w cx RJ7 cJ7_fill_53178 4 (none) (q_rm 0 0)) {n : Nat} {n0 : Nat} {x0 : Nat} {x1 : Int32} {x3 : Int32} (hx0 : q_KD x0 = .inr (n0, false)) (lx0 : x0 < q_N0)   :
    ∀ (j : Nat) (x2 : Int32) (s0 : q_Sto), q_G w cx 4 (none) 5 [some (q_rf w x0), some (.int x1), some (.int x2), some (.int x3)] [] s0 (f_J7_fill_53178_L5 n n0 x0 x1 x3  j x2 s0) := by
  intro j
  induction j with
  | zero =>
    intro _ _
    rw [f_J7_fill_53178_L5]
    exact q_none
  | succ j ih =>
    intro x2 s0
    rw [f_J7_fill_53178_L5]
    refine g_il2 hc dJ7_fill_53178_5 rfl (pc2 := 6) rfl ?_
    refine g_il3 hc dJ7_fill_53178_6 rfl (pc2 := 7) rfl ?_
    refine g_icmp_ge hc dJ7_fill_53178_7 (pc1 := 10) (pc2 := 20) rfl rfl (fun _ => ?_) (fun _ => ?_)
    · refine g_rl0 hc dJ7_fill_53178_10 rfl (pc2 := 11) rfl ?_
      refine g_il2 hc dJ7_fill_53178_11 rfl (pc2 := 12) rfl ?_
      refine g_il1 hc dJ7_fill_53178_12 rfl (pc2 := 13) rfl ?_
      refine g_iast hc hx0 lx0 dJ7_fill_53178_13 (pc2 := 14) rfl (fun s3 => ?_)
      refine g_iinc hc dJ7_fill_53178_14 rfl (q_ii ic_1) (by decide) (L2 := [some (q_rf w x0), some (.int x1), some (.int (x2 + 1)), some (.int x3)]) rfl (pc2 := 17) rfl ?_
      refine g_goto hc dJ7_fill_53178_17 (pc2 := 5) rfl ?_
      exact ih _ _
    · exact g_vret hc dJ7_fill_53178_20
set_option maxRecDepth 100000 in
set_option maxHeartbeats 4000000 in
theorem C_J7_fill_53178 {l : Launch} {w : q_Wd} {n : Nat} {a0 : Nat} {n0 : Nat} {a1 : Int32} (ha0 : q_KD a0 = .inr (n0, false)) (la0 : a0 < q_N0) {s0 : q_Sto} : q_C l w yJ7_fill_53178 cJ7_fill_53178 4 (none) (q_rm 0 0) [q_rf w a0, .int a1] s0 (f_J7_fill_53178 n a0 n0 a1 s0) := q_CofG [some (q_rf w a0), some (.int a1), none, none] (by decide +kernel) rfl rfl (Nat.le_of_ble_eq_true rfl) fun cx hl hc => by
  have hc : q_ok w cx RJ7 cJ7_fill_53178 4 (none) (q_rm 0 0) := hc
  rw [f_J7_fill_53178]
  refine g_iconst hc dJ7_fill_53178_0 ic_0 (pc2 := 1) rfl ?_
  refine g_is2 hc dJ7_fill_53178_1 (by decide) (L2 := [some (q_rf w a0), some (.int a1), some (.int 0), none]) rfl (pc2 := 2) rfl ?_
  refine g_rl0 hc dJ7_fill_53178_2 rfl (pc2 := 3) rfl ?_
  refine g_alen hc ha0 la0 dJ7_fill_53178_3 (pc2 := 4) rfl ?_
  refine g_nm (fun v1 => ?_)
  refine g_is3 hc dJ7_fill_53178_4 (by decide) (L2 := [some (q_rf w a0), some (.int a1), some (.int 0), some (.int v1)]) rfl (pc2 := 5) rfl ?_
  refine t_J7_fill_53178_L5 hc ha0 la0  n _ _
set_option maxRecDepth 100000 in
set_option maxHeartbeats 4000000 in
def f_X11_isIn (n : Nat) (a0 : Int32) (a1 : Int32) (s0 : q_Sto) : Option (Int32 × q_Sto) :=
  if ((a0 >>> (a1 &&& 31)) &&& 1) = 0 then (
  some (0, s0))
  else (
  some (1, s0))
set_option maxRecDepth 100000 in
set_option maxHeartbeats 4000000 in
theorem C_X11_isIn {l : Launch} {w : q_Wd} {n : Nat} {a0 : Int32} {a1 : Int32}  {s0 : q_Sto} : q_C l w yX11_isIn cX11_isIn 2 (some .boolean) (q_rm 0 0) [.int a0, .int a1] s0 (f_X11_isIn n a0 a1 s0) := q_CofG [some (.int a0), some (.int a1)] (by decide +kernel) rfl rfl (Nat.le_of_ble_eq_true rfl) fun cx hl hc => by
  have hc : q_ok w cx RX11 cX11_isIn 2 (some .boolean) (q_rm 0 0) := hc
  rw [f_X11_isIn]
  refine g_il0 hc dX11_isIn_0 rfl (pc2 := 1) rfl ?_
  refine g_il1 hc dX11_isIn_1 rfl (pc2 := 2) rfl ?_
  refine g_ishr hc dX11_isIn_2 (pc2 := 3) rfl ?_
  refine g_iconst hc dX11_isIn_3 ic_1 (pc2 := 4) rfl ?_
  refine g_iand hc dX11_isIn_4 (pc2 := 5) rfl ?_
  refine g_if_eq hc dX11_isIn_5 (pc1 := 12) (pc2 := 8) rfl rfl (fun _ => ?_) (fun _ => ?_)
  · refine g_iconst hc dX11_isIn_12 ic_0 (pc2 := 13) rfl ?_
    exact g_zret0 (by decide) hc dX11_isIn_13
  · refine g_iconst hc dX11_isIn_8 ic_1 (pc2 := 9) rfl ?_
    refine g_goto hc dX11_isIn_9 (pc2 := 13) rfl ?_
    exact g_zret0 (by decide) hc dX11_isIn_13
set_option maxRecDepth 100000 in
set_option maxHeartbeats 4000000 in
def f_X0_choose_L20 (n : Nat) (x0 : Nat) (x1 : Int32) (x2 : Int32) (k124 : Int32 → Int32 → q_Sto → Option (Int32 × q_Sto)) : Nat → Int32 → Int32 → Int32 → q_Sto → Option (Int32 × q_Sto)
  | 0, _, _, _, _ => none
  | j + 1, x3, x4, x5, s0 =>
    if x5 < (s0 x0 6) then (
    if x5 < 5 then (
    q_ld s0 (q_RF x0 1) x1 12 fun v5 =>
    q_ld s0 (q_RF x0 4) x5 5 fun v6 =>
    q_call (f_J6_bitCount_0f7a4 n (v5 &&& v6) s0) fun r8 s7 =>
    q_jn (fun (y9 : Int32) (s10 : q_Sto) =>
      if y9 ≤ x4 then (
      f_X0_choose_L20 n x0 x1 x2 k124 j x3 x4 (x5 + 1) s10)
      else (
      f_X0_choose_L20 n x0 x1 x2 k124 j x5 y9 (x5 + 1) s10)) fun j104 =>
    if r8 < 12 then (
    q_jn (fun (y13 : Int32) (s14 : q_Sto) =>
      j104 y13 s14) fun j102 =>
    if x5 = x2 then (
    q_ld s7 (q_RF x0 3) ((x1 * 12) + r8) 144 fun v16 =>
    j102 v16 s7)
    else (
    q_ld s7 (q_RF x0 2) ((((x1 * 5) + x5) * 12) + r8) 720 fun v17 =>
    j102 v17 s7))
    else (
    j104 0 s7))
    else (
    k124 x3 x4 s0))
    else (
    k124 x3 x4 s0)
set_option maxRecDepth 100000 in
set_option maxHeartbeats 4000000 in
def f_X0_choose (n : Nat) (t : Nat) (a0 : Int32) (a1 : Int32) (s0 : q_Sto) : Option (Int32 × q_Sto) :=
  if a0 < 0 then (
  some ((-1), s0))
  else (
  if a0 < 12 then (
  f_X0_choose_L20 n t a0 a1 (fun (y18 : Int32) (y19 : Int32) (s20 : q_Sto) =>
  q_ld s20 (q_RF t 0) a0 12 fun v21 =>
  if y19 < v21 then (
  some ((-1), s20))
  else (
  some (y18, s20))) n (-1) (-1) 0 s0)
  else (
  some ((-1), s0)))
set_option maxRecDepth 100000 in
set_option maxHeartbeats 4000000 in
theorem t_X0_choose_L20 {w : q_Wd} {cx : q_Cx} (hc : q_ok w cx RX0 cX0_choose 8 (some .int) (q_rm 1 20)) {n : Nat} {x0 : Nat} {x1 : Int32} {x2 : Int32} (hx0 : q_KD x0 = .inl 0) {k124 : Int32 → Int32 → q_Sto → Option (Int32 × q_Sto)} (hk124 : ∀ (y3 : Int32) (y4 : Int32) (s1 : q_Sto), q_G w cx 8 (some .int) 124 [some (q_rf w x0), some (.int x1), none, some (.int y3), some (.int y4), none, none, none] [] s1 (k124 y3 y4 s1)) :
    ∀ (j : Nat) (x3 : Int32) (x4 : Int32) (x5 : Int32) (s0 : q_Sto), q_G w cx 8 (some .int) 20 [some (q_rf w x0), some (.int x1), some (.int x2), some (.int x3), some (.int x4), some (.int x5), none, none] [] s0 (f_X0_choose_L20 n x0 x1 x2 k124 j x3 x4 x5 s0) := by
  intro j
  induction j with
  | zero =>
    intro _ _ _ _
    rw [f_X0_choose_L20]
    exact q_none
  | succ j ih =>
    intro x3 x4 x5 s0
    rw [f_X0_choose_L20]
    refine g_iload hc dX0_choose_20 rfl (pc2 := 22) rfl ?_
    refine g_rl0 hc dX0_choose_22 rfl (pc2 := 23) rfl ?_
    refine g_getI hc fl_X0_31 rfl hx0 dX0_choose_23 (pc2 := 26) rfl ?_
    refine g_icmp_ge hc dX0_choose_26 (pc1 := 29) (pc2 := 124) rfl rfl (fun _ => ?_) (fun _ => ?_)
    · refine g_iload hc dX0_choose_29 rfl (pc2 := 31) rfl ?_
      refine g_iconst hc dX0_choose_31 ic_5 (pc2 := 32) rfl ?_
      refine g_icmp_ge hc dX0_choose_32 (pc1 := 35) (pc2 := 124) rfl rfl (fun _ => ?_) (fun _ => ?_)
      · refine g_rl0 hc dX0_choose_35 rfl (pc2 := 36) rfl ?_
        refine g_getR hc fl_X0_15 rfl hx0 dX0_choose_36 (pc2 := 39) rfl ?_
        refine g_il1 hc dX0_choose_39 rfl (pc2 := 40) rfl ?_
        refine g_iald hc (kf_0_1 hx0) (kl_0_1 hx0) dX0_choose_40 (pc2 := 41) rfl (fun v5 => ?_)
        refine g_rl0 hc dX0_choose_41 rfl (pc2 := 42) rfl ?_
        refine g_getR hc fl_X0_24 rfl hx0 dX0_choose_42 (pc2 := 45) rfl ?_
        refine g_iload hc dX0_choose_45 rfl (pc2 := 47) rfl ?_
        refine g_iald hc (kf_0_4 hx0) (kl_0_4 hx0) dX0_choose_47 (pc2 := 48) rfl (fun v6 => ?_)
        refine g_iand hc dX0_choose_48 (pc2 := 49) rfl ?_
        refine g_callS1 hc C_J6_bitCount_0f7a4 mv_J6_bitCount_0f7a4 ln_X0_63 ⟨by decide, by decide⟩ (Nat.le_of_ble_eq_true rfl) dX0_choose_49 (pc2 := 52) rfl (fun r8 s7 => ?_)
        refine g_istore hc dX0_choose_52 (by decide) (L2 := [some (q_rf w x0), some (.int x1), some (.int x2), some (.int x3), some (.int x4), some (.int x5), some (.int r8), none]) rfl (pc2 := 54) rfl ?_
        refine g_iconst hc dX0_choose_54 ic_0 (pc2 := 55) rfl ?_
        refine g_istore hc dX0_choose_55 (by decide) (L2 := [some (q_rf w x0), some (.int x1), some (.int x2), some (.int x3), some (.int x4), some (.int x5), some (.int r8), some (.int 0)]) rfl (pc2 := 57) rfl ?_
        refine g_iload hc dX0_choose_57 rfl (pc2 := 59) rfl ?_
        refine g_bipush hc dX0_choose_59 bp_12 (pc2 := 61) rfl ?_
        refine g_jn (P := fun j104 => ∀ (y9 : Int32) (s10 : q_Sto), q_G w cx 8 (some .int) 104 [some (q_rf w x0), some (.int x1), some (.int x2), some (.int x3), some (.int x4), some (.int x5), none, some (.int y9)] [] s10 (j104 y9 s10)) (fun y9 s10 => ?_) (fun j104 hj104 => ?_)
        · refine g_iload hc dX0_choose_104 rfl (pc2 := 106) rfl ?_
          refine g_iload hc dX0_choose_106 rfl (pc2 := 108) rfl ?_
          refine g_icmp_le hc dX0_choose_108 (pc1 := 118) (pc2 := 111) rfl rfl (fun _ => ?_) (fun _ => ?_)
          · refine g_iinc hc dX0_choose_118 rfl (q_ii ic_1) (by decide) (L2 := [some (q_rf w x0), some (.int x1), some (.int x2), some (.int x3), some (.int x4), some (.int (x5 + 1)), none, some (.int y9)]) rfl (pc2 := 121) rfl ?_
            refine g_goto hc dX0_choose_121 (pc2 := 20) rfl ?_
            refine q_Gmask [true, true, true, true, true, true, true, false] (L2 := [some (q_rf w x0), some (.int x1), some (.int x2), some (.int x3), some (.int x4), some (.int (x5 + 1)), none, none]) rfl ?_
            exact ih _ _ _ _
          · refine g_iload hc dX0_choose_111 rfl (pc2 := 113) rfl ?_
            refine g_istore hc dX0_choose_113 (by decide) (L2 := [some (q_rf w x0), some (.int x1), some (.int x2), some (.int x3), some (.int y9), some (.int x5), none, some (.int y9)]) rfl (pc2 := 115) rfl ?_
            refine g_iload hc dX0_choose_115 rfl (pc2 := 117) rfl ?_
            refine g_is3 hc dX0_choose_117 (by decide) (L2 := [some (q_rf w x0), some (.int x1), some (.int x2), some (.int x5), some (.int y9), some (.int x5), none, some (.int y9)]) rfl (pc2 := 118) rfl ?_
            refine g_iinc hc dX0_choose_118 rfl (q_ii ic_1) (by decide) (L2 := [some (q_rf w x0), some (.int x1), some (.int x2), some (.int x5), some (.int y9), some (.int (x5 + 1)), none, some (.int y9)]) rfl (pc2 := 121) rfl ?_
            refine g_goto hc dX0_choose_121 (pc2 := 20) rfl ?_
            refine q_Gmask [true, true, true, true, true, true, true, false] (L2 := [some (q_rf w x0), some (.int x1), some (.int x2), some (.int x5), some (.int y9), some (.int (x5 + 1)), none, none]) rfl ?_
            exact ih _ _ _ _
        · refine g_icmp_ge hc dX0_choose_61 (pc1 := 64) (pc2 := 104) rfl rfl (fun _ => ?_) (fun _ => ?_)
          · refine g_iload hc dX0_choose_64 rfl (pc2 := 66) rfl ?_
            refine g_il2 hc dX0_choose_66 rfl (pc2 := 67) rfl ?_
            refine g_jn (P := fun j102 => ∀ (y13 : Int32) (s14 : q_Sto), q_G w cx 8 (some .int) 102 [some (q_rf w x0), some (.int x1), some (.int x2), some (.int x3), some (.int x4), some (.int x5), none, none] [.int y13] s14 (j102 y13 s14)) (fun y13 s14 => ?_) (fun j102 hj102 => ?_)
            · refine g_istore hc dX0_choose_102 (by decide) (L2 := [some (q_rf w x0), some (.int x1), some (.int x2), some (.int x3), some (.int x4), some (.int x5), none, some (.int y13)]) rfl (pc2 := 104) rfl ?_
              exact hj104 _ _
            · refine g_icmp_ne hc dX0_choose_67 (pc1 := 70) (pc2 := 85) rfl rfl (fun _ => ?_) (fun _ => ?_)
              · refine g_rl0 hc dX0_choose_70 rfl (pc2 := 71) rfl ?_
                refine g_getR hc fl_X0_21 rfl hx0 dX0_choose_71 (pc2 := 74) rfl ?_
                refine g_il1 hc dX0_choose_74 rfl (pc2 := 75) rfl ?_
                refine g_bipush hc dX0_choose_75 bp_12 (pc2 := 77) rfl ?_
                refine g_imul hc dX0_choose_77 (pc2 := 78) rfl ?_
                refine g_iload hc dX0_choose_78 rfl (pc2 := 80) rfl ?_
                refine g_iadd hc dX0_choose_80 (pc2 := 81) rfl ?_
                refine g_iald hc (kf_0_3 hx0) (kl_0_3 hx0) dX0_choose_81 (pc2 := 82) rfl (fun v16 => ?_)
                refine g_goto hc dX0_choose_82 (pc2 := 102) rfl ?_
                refine q_Gmask [true, true, true, true, true, true, false, false] (L2 := [some (q_rf w x0), some (.int x1), some (.int x2), some (.int x3), some (.int x4), some (.int x5), none, none]) rfl ?_
                exact hj102 _ _
              · refine g_rl0 hc dX0_choose_85 rfl (pc2 := 86) rfl ?_
                refine g_getR hc fl_X0_18 rfl hx0 dX0_choose_86 (pc2 := 89) rfl ?_
                refine g_il1 hc dX0_choose_89 rfl (pc2 := 90) rfl ?_
                refine g_iconst hc dX0_choose_90 ic_5 (pc2 := 91) rfl ?_
                refine g_imul hc dX0_choose_91 (pc2 := 92) rfl ?_
                refine g_iload hc dX0_choose_92 rfl (pc2 := 94) rfl ?_
                refine g_iadd hc dX0_choose_94 (pc2 := 95) rfl ?_
                refine g_bipush hc dX0_choose_95 bp_12 (pc2 := 97) rfl ?_
                refine g_imul hc dX0_choose_97 (pc2 := 98) rfl ?_
                refine g_iload hc dX0_choose_98 rfl (pc2 := 100) rfl ?_
                refine g_iadd hc dX0_choose_100 (pc2 := 101) rfl ?_
                refine g_iald hc (kf_0_2 hx0) (kl_0_2 hx0) dX0_choose_101 (pc2 := 102) rfl (fun v17 => ?_)
                refine q_Gmask [true, true, true, true, true, true, false, false] (L2 := [some (q_rf w x0), some (.int x1), some (.int x2), some (.int x3), some (.int x4), some (.int x5), none, none]) rfl ?_
                exact hj102 _ _
          · refine q_Gmask [true, true, true, true, true, true, false, true] (L2 := [some (q_rf w x0), some (.int x1), some (.int x2), some (.int x3), some (.int x4), some (.int x5), none, some (.int 0)]) rfl ?_
            exact hj104 _ _
      · refine q_Gmask [true, true, false, true, true, false, true, true] (L2 := [some (q_rf w x0), some (.int x1), none, some (.int x3), some (.int x4), none, none, none]) rfl ?_
        exact hk124 _ _ _
    · refine q_Gmask [true, true, false, true, true, false, true, true] (L2 := [some (q_rf w x0), some (.int x1), none, some (.int x3), some (.int x4), none, none, none]) rfl ?_
      exact hk124 _ _ _
set_option maxRecDepth 100000 in
set_option maxHeartbeats 4000000 in
theorem C_X0_choose {l : Launch} {w : q_Wd} {n : Nat} {t : Nat} {a0 : Int32} {a1 : Int32} (ht : q_KD t = .inl 0) {s0 : q_Sto} : q_C l w yX0_choose cX0_choose 8 (some .int) (q_rm 1 20) [q_rf w t, .int a0, .int a1] s0 (f_X0_choose n t a0 a1 s0) := q_CofG [some (q_rf w t), some (.int a0), some (.int a1), none, none, none, none, none] (by decide +kernel) rfl rfl (Nat.le_of_ble_eq_true rfl) fun cx hl hc => by
  have hc : q_ok w cx RX0 cX0_choose 8 (some .int) (q_rm 1 20) := hc
  rw [f_X0_choose]
  refine g_il1 hc dX0_choose_0 rfl (pc2 := 1) rfl ?_
  refine g_if_lt hc dX0_choose_1 (pc1 := 10) (pc2 := 4) rfl rfl (fun _ => ?_) (fun _ => ?_)
  · refine g_iconst hc dX0_choose_10 ic_m1 (pc2 := 11) rfl ?_
    exact g_iret hc dX0_choose_11
  · refine g_il1 hc dX0_choose_4 rfl (pc2 := 5) rfl ?_
    refine g_bipush hc dX0_choose_5 bp_12 (pc2 := 7) rfl ?_
    refine g_icmp_lt hc dX0_choose_7 (pc1 := 12) (pc2 := 10) rfl rfl (fun _ => ?_) (fun _ => ?_)
    · refine g_iconst hc dX0_choose_12 ic_m1 (pc2 := 13) rfl ?_
      refine g_is3 hc dX0_choose_13 (by decide) (L2 := [some (q_rf w t), some (.int a0), some (.int a1), some (.int (-1)), none, none, none, none]) rfl (pc2 := 14) rfl ?_
      refine g_iconst hc dX0_choose_14 ic_m1 (pc2 := 15) rfl ?_
      refine g_istore hc dX0_choose_15 (by decide) (L2 := [some (q_rf w t), some (.int a0), some (.int a1), some (.int (-1)), some (.int (-1)), none, none, none]) rfl (pc2 := 17) rfl ?_
      refine g_iconst hc dX0_choose_17 ic_0 (pc2 := 18) rfl ?_
      refine g_istore hc dX0_choose_18 (by decide) (L2 := [some (q_rf w t), some (.int a0), some (.int a1), some (.int (-1)), some (.int (-1)), some (.int 0), none, none]) rfl (pc2 := 20) rfl ?_
      refine t_X0_choose_L20 hc ht (fun y18 y19 s20 => ?_) n _ _ _ _
      refine g_iload hc dX0_choose_124 rfl (pc2 := 126) rfl ?_
      refine g_rl0 hc dX0_choose_126 rfl (pc2 := 127) rfl ?_
      refine g_getR hc fl_X0_9 rfl ht dX0_choose_127 (pc2 := 130) rfl ?_
      refine g_il1 hc dX0_choose_130 rfl (pc2 := 131) rfl ?_
      refine g_iald hc (kf_0_0 ht) (kl_0_0 ht) dX0_choose_131 (pc2 := 132) rfl (fun v21 => ?_)
      refine g_icmp_lt hc dX0_choose_132 (pc1 := 139) (pc2 := 135) rfl rfl (fun _ => ?_) (fun _ => ?_)
      · refine g_iconst hc dX0_choose_139 ic_m1 (pc2 := 140) rfl ?_
        exact g_iret hc dX0_choose_140
      · refine g_il3 hc dX0_choose_135 rfl (pc2 := 136) rfl ?_
        refine g_goto hc dX0_choose_136 (pc2 := 140) rfl ?_
        exact g_iret hc dX0_choose_140
    · refine g_iconst hc dX0_choose_10 ic_m1 (pc2 := 11) rfl ?_
      exact g_iret hc dX0_choose_11
set_option maxRecDepth 100000 in
set_option maxHeartbeats 4000000 in
def f_X0_leader_L6 (n : Nat) (x0 : Nat) : Nat → Int32 → Int32 → Int32 → q_Sto → Option (Int32 × q_Sto)
  | 0, _, _, _, _ => none
  | j + 1, x1, x2, x3, s0 =>
    if x3 < (s0 x0 6) then (
    if x3 < 5 then (
    q_ld s0 (q_RF x0 4) x3 5 fun v3 =>
    q_call (f_J6_bitCount_0f7a4 n v3 s0) fun r5 s4 =>
    if r5 ≤ x2 then (
    if r5 = x2 then (
    f_X0_leader_L6 n x0  j (-1) x2 (x3 + 1) s4)
    else (
    f_X0_leader_L6 n x0  j x1 x2 (x3 + 1) s4))
    else (
    f_X0_leader_L6 n x0  j x3 r5 (x3 + 1) s4))
    else (
    some (x1, s0)))
    else (
    some (x1, s0))
set_option maxRecDepth 100000 in
set_option maxHeartbeats 4000000 in
def f_X0_leader (n : Nat) (t : Nat) (s0 : q_Sto) : Option (Int32 × q_Sto) :=
  f_X0_leader_L6 n t  n (-1) 0 0 s0
set_option maxRecDepth 100000 in
set_option maxHeartbeats 4000000 in
theorem t_X0_leader_L6 {w : q_Wd} {cx : q_Cx} (hc : q_ok w cx RX0 cX0_leader 5 (some .int) (q_rm 1 20)) {n : Nat} {x0 : Nat} (hx0 : q_KD x0 = .inl 0)   :
    ∀ (j : Nat) (x1 : Int32) (x2 : Int32) (x3 : Int32) (s0 : q_Sto), q_G w cx 5 (some .int) 6 [some (q_rf w x0), some (.int x1), some (.int x2), some (.int x3), none] [] s0 (f_X0_leader_L6 n x0  j x1 x2 x3 s0) := by
  intro j
  induction j with
  | zero =>
    intro _ _ _ _
    rw [f_X0_leader_L6]
    exact q_none
  | succ j ih =>
    intro x1 x2 x3 s0
    rw [f_X0_leader_L6]
    refine g_il3 hc dX0_leader_6 rfl (pc2 := 7) rfl ?_
    refine g_rl0 hc dX0_leader_7 rfl (pc2 := 8) rfl ?_
    refine g_getI hc fl_X0_31 rfl hx0 dX0_leader_8 (pc2 := 11) rfl ?_
    refine g_icmp_ge hc dX0_leader_11 (pc1 := 14) (pc2 := 58) rfl rfl (fun _ => ?_) (fun _ => ?_)
    · refine g_il3 hc dX0_leader_14 rfl (pc2 := 15) rfl ?_
      refine g_iconst hc dX0_leader_15 ic_5 (pc2 := 16) rfl ?_
      refine g_icmp_ge hc dX0_leader_16 (pc1 := 19) (pc2 := 58) rfl rfl (fun _ => ?_) (fun _ => ?_)
      · refine g_rl0 hc dX0_leader_19 rfl (pc2 := 20) rfl ?_
        refine g_getR hc fl_X0_24 rfl hx0 dX0_leader_20 (pc2 := 23) rfl ?_
        refine g_il3 hc dX0_leader_23 rfl (pc2 := 24) rfl ?_
        refine g_iald hc (kf_0_4 hx0) (kl_0_4 hx0) dX0_leader_24 (pc2 := 25) rfl (fun v3 => ?_)
        refine g_callS1 hc C_J6_bitCount_0f7a4 mv_J6_bitCount_0f7a4 ln_X0_63 ⟨by decide, by decide⟩ (Nat.le_of_ble_eq_true rfl) dX0_leader_25 (pc2 := 28) rfl (fun r5 s4 => ?_)
        refine g_istore hc dX0_leader_28 (by decide) (L2 := [some (q_rf w x0), some (.int x1), some (.int x2), some (.int x3), some (.int r5)]) rfl (pc2 := 30) rfl ?_
        refine g_iload hc dX0_leader_30 rfl (pc2 := 32) rfl ?_
        refine g_il2 hc dX0_leader_32 rfl (pc2 := 33) rfl ?_
        refine g_icmp_le hc dX0_leader_33 (pc1 := 44) (pc2 := 36) rfl rfl (fun _ => ?_) (fun _ => ?_)
        · refine g_iload hc dX0_leader_44 rfl (pc2 := 46) rfl ?_
          refine g_il2 hc dX0_leader_46 rfl (pc2 := 47) rfl ?_
          refine g_icmp_ne hc dX0_leader_47 (pc1 := 50) (pc2 := 52) rfl rfl (fun _ => ?_) (fun _ => ?_)
          · refine g_iconst hc dX0_leader_50 ic_m1 (pc2 := 51) rfl ?_
            refine g_is1 hc dX0_leader_51 (by decide) (L2 := [some (q_rf w x0), some (.int (-1)), some (.int x2), some (.int x3), some (.int r5)]) rfl (pc2 := 52) rfl ?_
            refine g_iinc hc dX0_leader_52 rfl (q_ii ic_1) (by decide) (L2 := [some (q_rf w x0), some (.int (-1)), some (.int x2), some (.int (x3 + 1)), some (.int r5)]) rfl (pc2 := 55) rfl ?_
            refine g_goto hc dX0_leader_55 (pc2 := 6) rfl ?_
            refine q_Gmask [true, true, true, true, false] (L2 := [some (q_rf w x0), some (.int (-1)), some (.int x2), some (.int (x3 + 1)), none]) rfl ?_
            exact ih _ _ _ _
          · refine g_iinc hc dX0_leader_52 rfl (q_ii ic_1) (by decide) (L2 := [some (q_rf w x0), some (.int x1), some (.int x2), some (.int (x3 + 1)), some (.int r5)]) rfl (pc2 := 55) rfl ?_
            refine g_goto hc dX0_leader_55 (pc2 := 6) rfl ?_
            refine q_Gmask [true, true, true, true, false] (L2 := [some (q_rf w x0), some (.int x1), some (.int x2), some (.int (x3 + 1)), none]) rfl ?_
            exact ih _ _ _ _
        · refine g_iload hc dX0_leader_36 rfl (pc2 := 38) rfl ?_
          refine g_is2 hc dX0_leader_38 (by decide) (L2 := [some (q_rf w x0), some (.int x1), some (.int r5), some (.int x3), some (.int r5)]) rfl (pc2 := 39) rfl ?_
          refine g_il3 hc dX0_leader_39 rfl (pc2 := 40) rfl ?_
          refine g_is1 hc dX0_leader_40 (by decide) (L2 := [some (q_rf w x0), some (.int x3), some (.int r5), some (.int x3), some (.int r5)]) rfl (pc2 := 41) rfl ?_
          refine g_goto hc dX0_leader_41 (pc2 := 52) rfl ?_
          refine g_iinc hc dX0_leader_52 rfl (q_ii ic_1) (by decide) (L2 := [some (q_rf w x0), some (.int x3), some (.int r5), some (.int (x3 + 1)), some (.int r5)]) rfl (pc2 := 55) rfl ?_
          refine g_goto hc dX0_leader_55 (pc2 := 6) rfl ?_
          refine q_Gmask [true, true, true, true, false] (L2 := [some (q_rf w x0), some (.int x3), some (.int r5), some (.int (x3 + 1)), none]) rfl ?_
          exact ih _ _ _ _
      · refine g_il1 hc dX0_leader_58 rfl (pc2 := 59) rfl ?_
        exact g_iret hc dX0_leader_59
    · refine g_il1 hc dX0_leader_58 rfl (pc2 := 59) rfl ?_
      exact g_iret hc dX0_leader_59
set_option maxRecDepth 100000 in
set_option maxHeartbeats 4000000 in
theorem C_X0_leader {l : Launch} {w : q_Wd} {n : Nat} {t : Nat} (ht : q_KD t = .inl 0) {s0 : q_Sto} : q_C l w yX0_leader cX0_leader 5 (some .int) (q_rm 1 20) [q_rf w t] s0 (f_X0_leader n t s0) := q_CofG [some (q_rf w t), none, none, none, none] (by decide +kernel) rfl rfl (Nat.le_of_ble_eq_true rfl) fun cx hl hc => by
  have hc : q_ok w cx RX0 cX0_leader 5 (some .int) (q_rm 1 20) := hc
  rw [f_X0_leader]
  refine g_iconst hc dX0_leader_0 ic_m1 (pc2 := 1) rfl ?_
  refine g_is1 hc dX0_leader_1 (by decide) (L2 := [some (q_rf w t), some (.int (-1)), none, none, none]) rfl (pc2 := 2) rfl ?_
  refine g_iconst hc dX0_leader_2 ic_0 (pc2 := 3) rfl ?_
  refine g_is2 hc dX0_leader_3 (by decide) (L2 := [some (q_rf w t), some (.int (-1)), some (.int 0), none, none]) rfl (pc2 := 4) rfl ?_
  refine g_iconst hc dX0_leader_4 ic_0 (pc2 := 5) rfl ?_
  refine g_is3 hc dX0_leader_5 (by decide) (L2 := [some (q_rf w t), some (.int (-1)), some (.int 0), some (.int 0), none]) rfl (pc2 := 6) rfl ?_
  refine t_X0_leader_L6 hc ht  n _ _ _ _
set_option maxRecDepth 100000 in
set_option maxHeartbeats 4000000 in
def f_X0_settle_L54 (n : Nat) (x0 : Nat) (x2 : Int32) (x3 : Int32) (x5 : Int32) (x6 : Int32) (k141 : Int32 → q_Sto → Option (Int32 × q_Sto)) : Nat → Int32 → Int32 → q_Sto → Option (Int32 × q_Sto)
  | 0, _, _, _ => none
  | j + 1, x4, x7, s0 =>
    if x7 < (s0 x0 5) then (
    q_call (f_X11_isIn n x4 x7 s0) fun r9 s8 =>
    q_jn (fun (y10 : Int32) (s11 : q_Sto) =>
      if y10 < 0 then (
      f_X0_settle_L54 n x0 x2 x3 x5 x6 k141 j x4 (x7 + 1) s11)
      else (
      if y10 < 5 then (
      q_ld s11 (q_RF x0 4) y10 5 fun v14 =>
      q_st s11 (q_RF x0 4) y10 5 (v14 ||| (1 <<< (x7 &&& 31))) fun s15 =>
      q_nm (x4 &&& ((1 <<< (x7 &&& 31)) ^^^ (-1))) fun v16 =>
      f_X0_settle_L54 n x0 x2 x3 x5 x6 k141 j v16 (x7 + 1) s15)
      else (
      f_X0_settle_L54 n x0 x2 x3 x5 x6 k141 j x4 (x7 + 1) s11))) fun j97 =>
    if r9 = 0 then (
    j97 (-1) s8)
    else (
    q_call (f_X11_isIn n x2 x7 s8) fun r19 s18 =>
    q_jn (fun (y20 : Int32) (s21 : q_Sto) =>
      q_call (f_X0_choose n x0 x7 y20 s21) fun r23 s22 =>
      j97 r23 s22) fun j90 =>
    if r19 = 0 then (
    j90 (-1) s18)
    else (
    j90 x3 s18)))
    else (
    k141 x4 s0)
set_option maxRecDepth 100000 in
set_option maxHeartbeats 4000000 in
def f_X0_settle_L33 (n : Nat) (x0 : Nat) (x2 : Int32) (x3 : Int32) (k164 : q_Sto → Option (Int32 × q_Sto)) : Nat → Int32 → Int32 → Int32 → q_Sto → Option (Int32 × q_Sto)
  | 0, _, _, _, _ => none
  | j + 1, x4, x5, x6, s0 =>
    if x6 ≤ 12 then (
    if x5 = x4 then (
    k164 s0)
    else (
    f_X0_settle_L54 n x0 x2 x3 x4 x6 (fun (y25 : Int32) (s26 : q_Sto) =>
    if x4 = y25 then (
    f_X0_settle_L33 n x0 x2 x3 k164 j y25 x4 (x6 + 1) s26)
    else (
    q_nS1 (q_up s26 x0 7 ((s26 x0 7) + 1)) fun s28 =>
    f_X0_settle_L33 n x0 x2 x3 k164 j y25 x4 (x6 + 1) s28)) n x4 0 s0))
    else (
    k164 s0)
set_option maxRecDepth 100000 in
set_option maxHeartbeats 4000000 in
def f_X0_settle (n : Nat) (t : Nat) (a0 : Int32) (a1 : Int32) (a2 : Int32) (s0 : q_Sto) : Option (Int32 × q_Sto) :=
  q_callv (f_J7_fill_53178 n (q_RF t 4) 5 0 s0) fun s1 =>
  q_nm (((1 <<< ((s1 t 5) &&& 31)) - 1) &&& (a0 ^^^ (-1))) fun v3 =>
  q_nS1 (q_up s1 t 7 0) fun s4 =>
  f_X0_settle_L33 n t a1 a2 (fun  (s29 : q_Sto) =>
  q_call (f_X0_leader n t s29) fun r31 s30 =>
  q_nS1 (q_up s30 t 8 r31) fun s32 =>
  some (0, s32)) n v3 (-1) 0 s4
set_option maxRecDepth 100000 in
set_option maxHeartbeats 4000000 in
theorem t_X0_settle_L54 {w : q_Wd} {cx : q_Cx} (hc : q_ok w cx RX0 cX0_settle 9 (none) (q_rm 2 47)) {n : Nat} {x0 : Nat} {x2 : Int32} {x3 : Int32} {x5 : Int32} {x6 : Int32} (hx0 : q_KD x0 = .inl 0) {k141 : Int32 → q_Sto → Option (Int32 × q_Sto)} (hk141 : ∀ (y4 : Int32) (s1 : q_Sto), q_G w cx 9 (none) 141 [some (q_rf w x0), none, some (.int x2), some (.int x3), some (.int y4), some (.int x5), some (.int x6), none, none] [] s1 (k141 y4 s1)) :
    ∀ (j : Nat) (x4 : Int32) (x7 : Int32) (s0 : q_Sto), q_G w cx 9 (none) 54 [some (q_rf w x0), none, some (.int x2), some (.int x3), some (.int x4), some (.int x5), some (.int x6), some (.int x7), none] [] s0 (f_X0_settle_L54 n x0 x2 x3 x5 x6 k141 j x4 x7 s0) := by
  intro j
  induction j with
  | zero =>
    intro _ _ _
    rw [f_X0_settle_L54]
    exact q_none
  | succ j ih =>
    intro x4 x7 s0
    rw [f_X0_settle_L54]
    refine g_iload hc dX0_settle_54 rfl (pc2 := 56) rfl ?_
    refine g_rl0 hc dX0_settle_56 rfl (pc2 := 57) rfl ?_
    refine g_getI hc fl_X0_27 rfl hx0 dX0_settle_57 (pc2 := 60) rfl ?_
    refine g_icmp_ge hc dX0_settle_60 (pc1 := 63) (pc2 := 141) rfl rfl (fun _ => ?_) (fun _ => ?_)
    · refine g_iload hc dX0_settle_63 rfl (pc2 := 65) rfl ?_
      refine g_iload hc dX0_settle_65 rfl (pc2 := 67) rfl ?_
      refine g_callSN2 (host := "MuleVote") hc C_X11_isIn mv_X11_isIn (by decide +kernel) ⟨by decide, by decide⟩ (Nat.le_of_ble_eq_true rfl) dX0_settle_67 (pc2 := 70) rfl (fun r9 s8 => ?_)
      refine g_jn (P := fun j97 => ∀ (y10 : Int32) (s11 : q_Sto), q_G w cx 9 (none) 97 [some (q_rf w x0), none, some (.int x2), some (.int x3), some (.int x4), some (.int x5), some (.int x6), some (.int x7), none] [.int y10] s11 (j97 y10 s11)) (fun y10 s11 => ?_) (fun j97 hj97 => ?_)
      · refine g_istore hc dX0_settle_97 (by decide) (L2 := [some (q_rf w x0), none, some (.int x2), some (.int x3), some (.int x4), some (.int x5), some (.int x6), some (.int x7), some (.int y10)]) rfl (pc2 := 99) rfl ?_
        refine g_iload hc dX0_settle_99 rfl (pc2 := 101) rfl ?_
        refine g_if_lt hc dX0_settle_101 (pc1 := 135) (pc2 := 104) rfl rfl (fun _ => ?_) (fun _ => ?_)
        · refine g_iinc hc dX0_settle_135 rfl (q_ii ic_1) (by decide) (L2 := [some (q_rf w x0), none, some (.int x2), some (.int x3), some (.int x4), some (.int x5), some (.int x6), some (.int (x7 + 1)), some (.int y10)]) rfl (pc2 := 138) rfl ?_
          refine g_goto hc dX0_settle_138 (pc2 := 54) rfl ?_
          refine q_Gmask [true, true, true, true, true, true, true, true, false] (L2 := [some (q_rf w x0), none, some (.int x2), some (.int x3), some (.int x4), some (.int x5), some (.int x6), some (.int (x7 + 1)), none]) rfl ?_
          exact ih _ _ _
        · refine g_iload hc dX0_settle_104 rfl (pc2 := 106) rfl ?_
          refine g_iconst hc dX0_settle_106 ic_5 (pc2 := 107) rfl ?_
          refine g_icmp_ge hc dX0_settle_107 (pc1 := 110) (pc2 := 135) rfl rfl (fun _ => ?_) (fun _ => ?_)
          · refine g_rl0 hc dX0_settle_110 rfl (pc2 := 111) rfl ?_
            refine g_getR hc fl_X0_24 rfl hx0 dX0_settle_111 (pc2 := 114) rfl ?_
            refine g_iload hc dX0_settle_114 rfl (pc2 := 116) rfl ?_
            refine g_dup2 hc dX0_settle_116 rfl rfl (pc2 := 117) rfl ?_
            refine g_iald hc (kf_0_4 hx0) (kl_0_4 hx0) dX0_settle_117 (pc2 := 118) rfl (fun v14 => ?_)
            refine g_iconst hc dX0_settle_118 ic_1 (pc2 := 119) rfl ?_
            refine g_iload hc dX0_settle_119 rfl (pc2 := 121) rfl ?_
            refine g_ishl hc dX0_settle_121 (pc2 := 122) rfl ?_
            refine g_ior hc dX0_settle_122 (pc2 := 123) rfl ?_
            refine g_iast hc (kf_0_4 hx0) (kl_0_4 hx0) dX0_settle_123 (pc2 := 124) rfl (fun s15 => ?_)
            refine g_iload hc dX0_settle_124 rfl (pc2 := 126) rfl ?_
            refine g_iconst hc dX0_settle_126 ic_1 (pc2 := 127) rfl ?_
            refine g_iload hc dX0_settle_127 rfl (pc2 := 129) rfl ?_
            refine g_ishl hc dX0_settle_129 (pc2 := 130) rfl ?_
            refine g_iconst hc dX0_settle_130 ic_m1 (pc2 := 131) rfl ?_
            refine g_ixor hc dX0_settle_131 (pc2 := 132) rfl ?_
            refine g_iand hc dX0_settle_132 (pc2 := 133) rfl ?_
            refine g_nm (fun v16 => ?_)
            refine g_istore hc dX0_settle_133 (by decide) (L2 := [some (q_rf w x0), none, some (.int x2), some (.int x3), some (.int v16), some (.int x5), some (.int x6), some (.int x7), some (.int y10)]) rfl (pc2 := 135) rfl ?_
            refine g_iinc hc dX0_settle_135 rfl (q_ii ic_1) (by decide) (L2 := [some (q_rf w x0), none, some (.int x2), some (.int x3), some (.int v16), some (.int x5), some (.int x6), some (.int (x7 + 1)), some (.int y10)]) rfl (pc2 := 138) rfl ?_
            refine g_goto hc dX0_settle_138 (pc2 := 54) rfl ?_
            refine q_Gmask [true, true, true, true, true, true, true, true, false] (L2 := [some (q_rf w x0), none, some (.int x2), some (.int x3), some (.int v16), some (.int x5), some (.int x6), some (.int (x7 + 1)), none]) rfl ?_
            exact ih _ _ _
          · refine g_iinc hc dX0_settle_135 rfl (q_ii ic_1) (by decide) (L2 := [some (q_rf w x0), none, some (.int x2), some (.int x3), some (.int x4), some (.int x5), some (.int x6), some (.int (x7 + 1)), some (.int y10)]) rfl (pc2 := 138) rfl ?_
            refine g_goto hc dX0_settle_138 (pc2 := 54) rfl ?_
            refine q_Gmask [true, true, true, true, true, true, true, true, false] (L2 := [some (q_rf w x0), none, some (.int x2), some (.int x3), some (.int x4), some (.int x5), some (.int x6), some (.int (x7 + 1)), none]) rfl ?_
            exact ih _ _ _
      · refine g_if_eq hc dX0_settle_70 (pc1 := 96) (pc2 := 73) rfl rfl (fun _ => ?_) (fun _ => ?_)
        · refine g_iconst hc dX0_settle_96 ic_m1 (pc2 := 97) rfl ?_
          exact hj97 _ _
        · refine g_rl0 hc dX0_settle_73 rfl (pc2 := 74) rfl ?_
          refine g_iload hc dX0_settle_74 rfl (pc2 := 76) rfl ?_
          refine g_il2 hc dX0_settle_76 rfl (pc2 := 77) rfl ?_
          refine g_iload hc dX0_settle_77 rfl (pc2 := 79) rfl ?_
          refine g_callSN2 (host := "MuleVote") hc C_X11_isIn mv_X11_isIn (by decide +kernel) ⟨by decide, by decide⟩ (Nat.le_of_ble_eq_true rfl) dX0_settle_79 (pc2 := 82) rfl (fun r19 s18 => ?_)
          refine g_jn (P := fun j90 => ∀ (y20 : Int32) (s21 : q_Sto), q_G w cx 9 (none) 90 [some (q_rf w x0), none, some (.int x2), some (.int x3), some (.int x4), some (.int x5), some (.int x6), some (.int x7), none] [.int y20, .int x7, q_rf w x0] s21 (j90 y20 s21)) (fun y20 s21 => ?_) (fun j90 hj90 => ?_)
          · refine g_callV2 hc (C_X0_choose hx0) mv_X0_choose ln_X0_100 hx0 ⟨by decide, by decide⟩ (Nat.le_of_ble_eq_true rfl) dX0_settle_90 (pc2 := 93) rfl (fun r23 s22 => ?_)
            refine g_goto hc dX0_settle_93 (pc2 := 97) rfl ?_
            exact hj97 _ _
          · refine g_if_eq hc dX0_settle_82 (pc1 := 89) (pc2 := 85) rfl rfl (fun _ => ?_) (fun _ => ?_)
            · refine g_iconst hc dX0_settle_89 ic_m1 (pc2 := 90) rfl ?_
              exact hj90 _ _
            · refine g_il3 hc dX0_settle_85 rfl (pc2 := 86) rfl ?_
              refine g_goto hc dX0_settle_86 (pc2 := 90) rfl ?_
              exact hj90 _ _
    · refine q_Gmask [true, true, true, true, true, true, true, false, true] (L2 := [some (q_rf w x0), none, some (.int x2), some (.int x3), some (.int x4), some (.int x5), some (.int x6), none, none]) rfl ?_
      exact hk141 _ _
set_option maxRecDepth 100000 in
set_option maxHeartbeats 4000000 in
theorem t_X0_settle_L33 {w : q_Wd} {cx : q_Cx} (hc : q_ok w cx RX0 cX0_settle 9 (none) (q_rm 2 47)) {n : Nat} {x0 : Nat} {x2 : Int32} {x3 : Int32} (hx0 : q_KD x0 = .inl 0) {k164 : q_Sto → Option (Int32 × q_Sto)} (hk164 : ∀  (s1 : q_Sto), q_G w cx 9 (none) 164 [some (q_rf w x0), none, none, none, none, none, none, none, none] [] s1 (k164 s1)) :
    ∀ (j : Nat) (x4 : Int32) (x5 : Int32) (x6 : Int32) (s0 : q_Sto), q_G w cx 9 (none) 33 [some (q_rf w x0), none, some (.int x2), some (.int x3), some (.int x4), some (.int x5), some (.int x6), none, none] [] s0 (f_X0_settle_L33 n x0 x2 x3 k164 j x4 x5 x6 s0) := by
  intro j
  induction j with
  | zero =>
    intro _ _ _ _
    rw [f_X0_settle_L33]
    exact q_none
  | succ j ih =>
    intro x4 x5 x6 s0
    rw [f_X0_settle_L33]
    refine g_iload hc dX0_settle_33 rfl (pc2 := 35) rfl ?_
    refine g_bipush hc dX0_settle_35 bp_12 (pc2 := 37) rfl ?_
    refine g_icmp_gt hc dX0_settle_37 (pc1 := 40) (pc2 := 164) rfl rfl (fun _ => ?_) (fun _ => ?_)
    · refine g_iload hc dX0_settle_40 rfl (pc2 := 42) rfl ?_
      refine g_iload hc dX0_settle_42 rfl (pc2 := 44) rfl ?_
      refine g_icmp_eq hc dX0_settle_44 (pc1 := 164) (pc2 := 47) rfl rfl (fun _ => ?_) (fun _ => ?_)
      · refine q_Gmask [true, true, false, false, false, false, false, true, true] (L2 := [some (q_rf w x0), none, none, none, none, none, none, none, none]) rfl ?_
        exact hk164 _
      · refine g_iload hc dX0_settle_47 rfl (pc2 := 49) rfl ?_
        refine g_istore hc dX0_settle_49 (by decide) (L2 := [some (q_rf w x0), none, some (.int x2), some (.int x3), some (.int x4), some (.int x4), some (.int x6), none, none]) rfl (pc2 := 51) rfl ?_
        refine g_iconst hc dX0_settle_51 ic_0 (pc2 := 52) rfl ?_
        refine g_istore hc dX0_settle_52 (by decide) (L2 := [some (q_rf w x0), none, some (.int x2), some (.int x3), some (.int x4), some (.int x4), some (.int x6), some (.int 0), none]) rfl (pc2 := 54) rfl ?_
        refine t_X0_settle_L54 hc hx0 (fun y25 s26 => ?_) n _ _ _
        refine g_iload hc dX0_settle_141 rfl (pc2 := 143) rfl ?_
        refine g_iload hc dX0_settle_143 rfl (pc2 := 145) rfl ?_
        refine g_icmp_eq hc dX0_settle_145 (pc1 := 158) (pc2 := 148) rfl rfl (fun _ => ?_) (fun _ => ?_)
        · refine g_iinc hc dX0_settle_158 rfl (q_ii ic_1) (by decide) (L2 := [some (q_rf w x0), none, some (.int x2), some (.int x3), some (.int y25), some (.int x4), some (.int (x6 + 1)), none, none]) rfl (pc2 := 161) rfl ?_
          refine g_goto hc dX0_settle_161 (pc2 := 33) rfl ?_
          exact ih _ _ _ _
        · refine g_rl0 hc dX0_settle_148 rfl (pc2 := 149) rfl ?_
          refine g_dup hc dX0_settle_149 rfl (pc2 := 150) rfl ?_
          refine g_getI hc fl_X0_34 rfl hx0 dX0_settle_150 (pc2 := 153) rfl ?_
          refine g_iconst hc dX0_settle_153 ic_1 (pc2 := 154) rfl ?_
          refine g_iadd hc dX0_settle_154 (pc2 := 155) rfl ?_
          refine g_putI hc fl_X0_34 rfl hx0 dX0_settle_155 (pc2 := 158) rfl (fun s28 => ?_)
          refine g_iinc hc dX0_settle_158 rfl (q_ii ic_1) (by decide) (L2 := [some (q_rf w x0), none, some (.int x2), some (.int x3), some (.int y25), some (.int x4), some (.int (x6 + 1)), none, none]) rfl (pc2 := 161) rfl ?_
          refine g_goto hc dX0_settle_161 (pc2 := 33) rfl ?_
          exact ih _ _ _ _
    · refine q_Gmask [true, true, false, false, false, false, false, true, true] (L2 := [some (q_rf w x0), none, none, none, none, none, none, none, none]) rfl ?_
      exact hk164 _
set_option maxRecDepth 100000 in
set_option maxHeartbeats 4000000 in
theorem C_X0_settle {l : Launch} {w : q_Wd} {n : Nat} {t : Nat} {a0 : Int32} {a1 : Int32} {a2 : Int32} (ht : q_KD t = .inl 0) {s0 : q_Sto} : q_C l w yX0_settle cX0_settle 9 (none) (q_rm 2 47) [q_rf w t, .int a0, .int a1, .int a2] s0 (f_X0_settle n t a0 a1 a2 s0) := q_CofG [some (q_rf w t), some (.int a0), some (.int a1), some (.int a2), none, none, none, none, none] (by decide +kernel) rfl rfl (Nat.le_of_ble_eq_true rfl) fun cx hl hc => by
  have hc : q_ok w cx RX0 cX0_settle 9 (none) (q_rm 2 47) := hc
  rw [f_X0_settle]
  refine g_rl0 hc dX0_settle_0 rfl (pc2 := 1) rfl ?_
  refine g_getR hc fl_X0_24 rfl ht dX0_settle_1 (pc2 := 4) rfl ?_
  refine g_iconst hc dX0_settle_4 ic_0 (pc2 := 5) rfl ?_
  refine g_callS2v hc (C_J7_fill_53178 (kf_0_4 ht) (kl_0_4 ht)) mv_J7_fill_53178 ln_X0_90 ⟨by decide, by decide⟩ (Nat.le_of_ble_eq_true rfl) dX0_settle_5 (pc2 := 8) rfl (fun s1 => ?_)
  refine g_iconst hc dX0_settle_8 ic_1 (pc2 := 9) rfl ?_
  refine g_rl0 hc dX0_settle_9 rfl (pc2 := 10) rfl ?_
  refine g_getI hc fl_X0_27 rfl ht dX0_settle_10 (pc2 := 13) rfl ?_
  refine g_ishl hc dX0_settle_13 (pc2 := 14) rfl ?_
  refine g_iconst hc dX0_settle_14 ic_1 (pc2 := 15) rfl ?_
  refine g_isub hc dX0_settle_15 (pc2 := 16) rfl ?_
  refine g_il1 hc dX0_settle_16 rfl (pc2 := 17) rfl ?_
  refine g_iconst hc dX0_settle_17 ic_m1 (pc2 := 18) rfl ?_
  refine g_ixor hc dX0_settle_18 (pc2 := 19) rfl ?_
  refine g_iand hc dX0_settle_19 (pc2 := 20) rfl ?_
  refine g_nm (fun v3 => ?_)
  refine g_istore hc dX0_settle_20 (by decide) (L2 := [some (q_rf w t), some (.int a0), some (.int a1), some (.int a2), some (.int v3), none, none, none, none]) rfl (pc2 := 22) rfl ?_
  refine g_rl0 hc dX0_settle_22 rfl (pc2 := 23) rfl ?_
  refine g_iconst hc dX0_settle_23 ic_0 (pc2 := 24) rfl ?_
  refine g_putI hc fl_X0_34 rfl ht dX0_settle_24 (pc2 := 27) rfl (fun s4 => ?_)
  refine g_iconst hc dX0_settle_27 ic_m1 (pc2 := 28) rfl ?_
  refine g_istore hc dX0_settle_28 (by decide) (L2 := [some (q_rf w t), some (.int a0), some (.int a1), some (.int a2), some (.int v3), some (.int (-1)), none, none, none]) rfl (pc2 := 30) rfl ?_
  refine g_iconst hc dX0_settle_30 ic_0 (pc2 := 31) rfl ?_
  refine g_istore hc dX0_settle_31 (by decide) (L2 := [some (q_rf w t), some (.int a0), some (.int a1), some (.int a2), some (.int v3), some (.int (-1)), some (.int 0), none, none]) rfl (pc2 := 33) rfl ?_
  refine q_Gmask [true, false, true, true, true, true, true, true, true] (L2 := [some (q_rf w t), none, some (.int a1), some (.int a2), some (.int v3), some (.int (-1)), some (.int 0), none, none]) rfl ?_
  refine t_X0_settle_L33 hc ht (fun s29 => ?_) n _ _ _ _
  refine g_rl0 hc dX0_settle_164 rfl (pc2 := 165) rfl ?_
  refine g_rl0 hc dX0_settle_165 rfl (pc2 := 166) rfl ?_
  refine g_callV0 hc (C_X0_leader ht) mv_X0_leader ln_X0_103 ht ⟨by decide, by decide⟩ (Nat.le_of_ble_eq_true rfl) dX0_settle_166 (pc2 := 169) rfl (fun r31 s30 => ?_)
  refine g_putI hc fl_X0_37 rfl ht dX0_settle_169 (pc2 := 172) rfl (fun s32 => ?_)
  exact g_vret hc dX0_settle_172
set_option maxRecDepth 100000 in
set_option maxHeartbeats 4000000 in
def f_X0_standNow_L97 (n : Nat) (x0 : Nat) (x1 : Nat) (x2 : Nat) (x3 : Int32) (x4 : Int32) (x5 : Int32) (x6 : Int32) (k145 : q_Sto → Option (Int32 × q_Sto)) : Nat → Int32 → q_Sto → Option (Int32 × q_Sto)
  | 0, _, _ => none
  | j + 1, x7, s0 =>
    if x7 ≤ x4 then (
    if x7 < 12 then (
    q_call (f_X10_leanOf n x1 x3 x5 x6 x7 s0) fun r19 s18 =>
    q_st s18 (q_RF x0 2) ((((x3 * 5) + x5) * 12) + x7) 720 r19 fun s20 =>
    f_X0_standNow_L97 n x0 x1 x2 x3 x4 x5 x6 k145 j (x7 + 1) s20)
    else (
    k145 s0))
    else (
    k145 s0)
set_option maxRecDepth 100000 in
set_option maxHeartbeats 4000000 in
def f_X0_standNow_L76 (n : Nat) (x0 : Nat) (x1 : Nat) (x2 : Nat) (x3 : Int32) (x4 : Int32) (k151 : q_Sto → Option (Int32 × q_Sto)) : Nat → Int32 → q_Sto → Option (Int32 × q_Sto)
  | 0, _, _ => none
  | j + 1, x5, s0 =>
    if x5 < (s0 x0 6) then (
    q_call (f_X9_likingFor n x2 x3 x5 s0) fun r15 s14 =>
    f_X0_standNow_L97 n x0 x1 x2 x3 x4 x5 r15 (fun  (s21 : q_Sto) =>
    f_X0_standNow_L76 n x0 x1 x2 x3 x4 k151 j (x5 + 1) s21) n 0 s14)
    else (
    k151 s0)
set_option maxRecDepth 100000 in
set_option maxHeartbeats 4000000 in
def f_X0_standNow_L32 (n : Nat) (x0 : Nat) (x1 : Nat) (x2 : Nat) (k157 : q_Sto → Option (Int32 × q_Sto)) : Nat → Int32 → q_Sto → Option (Int32 × q_Sto)
  | 0, _, _ => none
  | j + 1, x3, s0 =>
    if x3 < (s0 x0 5) then (
    q_call (f_X10_needOf n x1 x3 s0) fun r5 s4 =>
    q_st s4 (q_RF x0 0) x3 12 r5 fun s6 =>
    q_call (f_X10_heededBy n x1 x3 s6) fun r8 s7 =>
    q_st s7 (q_RF x0 1) x3 12 r8 fun s9 =>
    q_ld s9 (q_RF x0 1) x3 12 fun v10 =>
    q_call (f_J6_bitCount_0f7a4 n v10 s9) fun r12 s11 =>
    f_X0_standNow_L76 n x0 x1 x2 x3 r12 (fun  (s22 : q_Sto) =>
    f_X0_standNow_L32 n x0 x1 x2 k157 j (x3 + 1) s22) n 0 s11)
    else (
    k157 s0)
set_option maxRecDepth 100000 in
set_option maxHeartbeats 4000000 in
def f_X0_standNow (n : Nat) (t : Nat) (a0 : Nat) (s0 : q_Sto) : Option (Int32 × q_Sto) :=
  q_nS1 (q_up s0 t 5 (q_mn 12 (s0 (q_RF a0 0) 8))) fun s1 =>
  q_nS1 (q_up s1 t 6 (q_mn 5 (s1 (q_RF a0 0) 9))) fun s2 =>
  f_X0_standNow_L32 n t a0 (q_RF a0 0) (fun  (s23 : q_Sto) =>
  q_call (f_X9_lameOnes n (q_RF a0 0) s23) fun r25 s24 =>
  q_callv (f_X0_settle n t r25 0 (-1) s24) fun s26 =>
  some (0, s26)) n 0 s2
set_option maxRecDepth 100000 in
set_option maxHeartbeats 4000000 in
theorem t_X0_standNow_L97 {w : q_Wd} {cx : q_Cx} (hc : q_ok w cx RX0 cX0_standNow 8 (none) (q_rm 3 78)) {n : Nat} {x0 : Nat} {x1 : Nat} {x2 : Nat} {x3 : Int32} {x4 : Int32} {x5 : Int32} {x6 : Int32} (hx0 : q_KD x0 = .inl 0) (hx1 : q_KD x1 = .inl 10) (hx2 : q_KD x2 = .inl 9) {k145 : q_Sto → Option (Int32 × q_Sto)} (hk145 : ∀  (s1 : q_Sto), q_G w cx 8 (none) 145 [some (q_rf w x0), some (q_rf w x1), some (q_rf w x2), some (.int x3), some (.int x4), some (.int x5), none, none] [] s1 (k145 s1)) :
    ∀ (j : Nat) (x7 : Int32) (s0 : q_Sto), q_G w cx 8 (none) 97 [some (q_rf w x0), some (q_rf w x1), some (q_rf w x2), some (.int x3), some (.int x4), some (.int x5), some (.int x6), some (.int x7)] [] s0 (f_X0_standNow_L97 n x0 x1 x2 x3 x4 x5 x6 k145 j x7 s0) := by
  intro j
  induction j with
  | zero =>
    intro _ _
    rw [f_X0_standNow_L97]
    exact q_none
  | succ j ih =>
    intro x7 s0
    rw [f_X0_standNow_L97]
    refine g_iload hc dX0_standNow_97 rfl (pc2 := 99) rfl ?_
    refine g_iload hc dX0_standNow_99 rfl (pc2 := 101) rfl ?_
    refine g_icmp_gt hc dX0_standNow_101 (pc1 := 104) (pc2 := 145) rfl rfl (fun _ => ?_) (fun _ => ?_)
    · refine g_iload hc dX0_standNow_104 rfl (pc2 := 106) rfl ?_
      refine g_bipush hc dX0_standNow_106 bp_12 (pc2 := 108) rfl ?_
      refine g_icmp_ge hc dX0_standNow_108 (pc1 := 111) (pc2 := 145) rfl rfl (fun _ => ?_) (fun _ => ?_)
      · refine g_rl0 hc dX0_standNow_111 rfl (pc2 := 112) rfl ?_
        refine g_getR hc fl_X0_18 rfl hx0 dX0_standNow_112 (pc2 := 115) rfl ?_
        refine g_il3 hc dX0_standNow_115 rfl (pc2 := 116) rfl ?_
        refine g_iconst hc dX0_standNow_116 ic_5 (pc2 := 117) rfl ?_
        refine g_imul hc dX0_standNow_117 (pc2 := 118) rfl ?_
        refine g_iload hc dX0_standNow_118 rfl (pc2 := 120) rfl ?_
        refine g_iadd hc dX0_standNow_120 (pc2 := 121) rfl ?_
        refine g_bipush hc dX0_standNow_121 bp_12 (pc2 := 123) rfl ?_
        refine g_imul hc dX0_standNow_123 (pc2 := 124) rfl ?_
        refine g_iload hc dX0_standNow_124 rfl (pc2 := 126) rfl ?_
        refine g_iadd hc dX0_standNow_126 (pc2 := 127) rfl ?_
        refine g_rl1 hc dX0_standNow_127 rfl (pc2 := 128) rfl ?_
        refine g_il3 hc dX0_standNow_128 rfl (pc2 := 129) rfl ?_
        refine g_iload hc dX0_standNow_129 rfl (pc2 := 131) rfl ?_
        refine g_iload hc dX0_standNow_131 rfl (pc2 := 133) rfl ?_
        refine g_iload hc dX0_standNow_133 rfl (pc2 := 135) rfl ?_
        refine g_callV4 hc (C_X10_leanOf hx1) mv_X10_leanOf ln_X0_71 hx1 ⟨by decide, by decide⟩ (Nat.le_of_ble_eq_true rfl) dX0_standNow_135 (pc2 := 138) rfl (fun r19 s18 => ?_)
        refine g_iast hc (kf_0_2 hx0) (kl_0_2 hx0) dX0_standNow_138 (pc2 := 139) rfl (fun s20 => ?_)
        refine g_iinc hc dX0_standNow_139 rfl (q_ii ic_1) (by decide) (L2 := [some (q_rf w x0), some (q_rf w x1), some (q_rf w x2), some (.int x3), some (.int x4), some (.int x5), some (.int x6), some (.int (x7 + 1))]) rfl (pc2 := 142) rfl ?_
        refine g_goto hc dX0_standNow_142 (pc2 := 97) rfl ?_
        exact ih _ _
      · refine q_Gmask [true, true, true, true, true, true, false, false] (L2 := [some (q_rf w x0), some (q_rf w x1), some (q_rf w x2), some (.int x3), some (.int x4), some (.int x5), none, none]) rfl ?_
        exact hk145 _
    · refine q_Gmask [true, true, true, true, true, true, false, false] (L2 := [some (q_rf w x0), some (q_rf w x1), some (q_rf w x2), some (.int x3), some (.int x4), some (.int x5), none, none]) rfl ?_
      exact hk145 _
set_option maxRecDepth 100000 in
set_option maxHeartbeats 4000000 in
theorem t_X0_standNow_L76 {w : q_Wd} {cx : q_Cx} (hc : q_ok w cx RX0 cX0_standNow 8 (none) (q_rm 3 78)) {n : Nat} {x0 : Nat} {x1 : Nat} {x2 : Nat} {x3 : Int32} {x4 : Int32} (hx0 : q_KD x0 = .inl 0) (hx1 : q_KD x1 = .inl 10) (hx2 : q_KD x2 = .inl 9) {k151 : q_Sto → Option (Int32 × q_Sto)} (hk151 : ∀  (s1 : q_Sto), q_G w cx 8 (none) 151 [some (q_rf w x0), some (q_rf w x1), some (q_rf w x2), some (.int x3), none, none, none, none] [] s1 (k151 s1)) :
    ∀ (j : Nat) (x5 : Int32) (s0 : q_Sto), q_G w cx 8 (none) 76 [some (q_rf w x0), some (q_rf w x1), some (q_rf w x2), some (.int x3), some (.int x4), some (.int x5), none, none] [] s0 (f_X0_standNow_L76 n x0 x1 x2 x3 x4 k151 j x5 s0) := by
  intro j
  induction j with
  | zero =>
    intro _ _
    rw [f_X0_standNow_L76]
    exact q_none
  | succ j ih =>
    intro x5 s0
    rw [f_X0_standNow_L76]
    refine g_iload hc dX0_standNow_76 rfl (pc2 := 78) rfl ?_
    refine g_rl0 hc dX0_standNow_78 rfl (pc2 := 79) rfl ?_
    refine g_getI hc fl_X0_31 rfl hx0 dX0_standNow_79 (pc2 := 82) rfl ?_
    refine g_icmp_ge hc dX0_standNow_82 (pc1 := 85) (pc2 := 151) rfl rfl (fun _ => ?_) (fun _ => ?_)
    · refine g_rl2 hc dX0_standNow_85 rfl (pc2 := 86) rfl ?_
      refine g_il3 hc dX0_standNow_86 rfl (pc2 := 87) rfl ?_
      refine g_iload hc dX0_standNow_87 rfl (pc2 := 89) rfl ?_
      refine g_callV2 hc (C_X9_likingFor hx2) mv_X9_likingFor ln_X0_68 hx2 ⟨by decide, by decide⟩ (Nat.le_of_ble_eq_true rfl) dX0_standNow_89 (pc2 := 92) rfl (fun r15 s14 => ?_)
      refine g_istore hc dX0_standNow_92 (by decide) (L2 := [some (q_rf w x0), some (q_rf w x1), some (q_rf w x2), some (.int x3), some (.int x4), some (.int x5), some (.int r15), none]) rfl (pc2 := 94) rfl ?_
      refine g_iconst hc dX0_standNow_94 ic_0 (pc2 := 95) rfl ?_
      refine g_istore hc dX0_standNow_95 (by decide) (L2 := [some (q_rf w x0), some (q_rf w x1), some (q_rf w x2), some (.int x3), some (.int x4), some (.int x5), some (.int r15), some (.int 0)]) rfl (pc2 := 97) rfl ?_
      refine t_X0_standNow_L97 hc hx0 hx1 hx2 (fun s21 => ?_) n _ _
      refine g_iinc hc dX0_standNow_145 rfl (q_ii ic_1) (by decide) (L2 := [some (q_rf w x0), some (q_rf w x1), some (q_rf w x2), some (.int x3), some (.int x4), some (.int (x5 + 1)), none, none]) rfl (pc2 := 148) rfl ?_
      refine g_goto hc dX0_standNow_148 (pc2 := 76) rfl ?_
      exact ih _ _
    · refine q_Gmask [true, true, true, true, false, false, true, true] (L2 := [some (q_rf w x0), some (q_rf w x1), some (q_rf w x2), some (.int x3), none, none, none, none]) rfl ?_
      exact hk151 _
set_option maxRecDepth 100000 in
set_option maxHeartbeats 4000000 in
theorem t_X0_standNow_L32 {w : q_Wd} {cx : q_Cx} (hc : q_ok w cx RX0 cX0_standNow 8 (none) (q_rm 3 78)) {n : Nat} {x0 : Nat} {x1 : Nat} {x2 : Nat} (hx0 : q_KD x0 = .inl 0) (hx1 : q_KD x1 = .inl 10) (hx2 : q_KD x2 = .inl 9) {k157 : q_Sto → Option (Int32 × q_Sto)} (hk157 : ∀  (s1 : q_Sto), q_G w cx 8 (none) 157 [some (q_rf w x0), none, some (q_rf w x2), none, none, none, none, none] [] s1 (k157 s1)) :
    ∀ (j : Nat) (x3 : Int32) (s0 : q_Sto), q_G w cx 8 (none) 32 [some (q_rf w x0), some (q_rf w x1), some (q_rf w x2), some (.int x3), none, none, none, none] [] s0 (f_X0_standNow_L32 n x0 x1 x2 k157 j x3 s0) := by
  intro j
  induction j with
  | zero =>
    intro _ _
    rw [f_X0_standNow_L32]
    exact q_none
  | succ j ih =>
    intro x3 s0
    rw [f_X0_standNow_L32]
    refine g_il3 hc dX0_standNow_32 rfl (pc2 := 33) rfl ?_
    refine g_rl0 hc dX0_standNow_33 rfl (pc2 := 34) rfl ?_
    refine g_getI hc fl_X0_27 rfl hx0 dX0_standNow_34 (pc2 := 37) rfl ?_
    refine g_icmp_ge hc dX0_standNow_37 (pc1 := 40) (pc2 := 157) rfl rfl (fun _ => ?_) (fun _ => ?_)
    · refine g_rl0 hc dX0_standNow_40 rfl (pc2 := 41) rfl ?_
      refine g_getR hc fl_X0_9 rfl hx0 dX0_standNow_41 (pc2 := 44) rfl ?_
      refine g_il3 hc dX0_standNow_44 rfl (pc2 := 45) rfl ?_
      refine g_rl1 hc dX0_standNow_45 rfl (pc2 := 46) rfl ?_
      refine g_il3 hc dX0_standNow_46 rfl (pc2 := 47) rfl ?_
      refine g_callV1 hc (C_X10_needOf hx1) mv_X10_needOf ln_X0_56 hx1 ⟨by decide, by decide⟩ (Nat.le_of_ble_eq_true rfl) dX0_standNow_47 (pc2 := 50) rfl (fun r5 s4 => ?_)
      refine g_iast hc (kf_0_0 hx0) (kl_0_0 hx0) dX0_standNow_50 (pc2 := 51) rfl (fun s6 => ?_)
      refine g_rl0 hc dX0_standNow_51 rfl (pc2 := 52) rfl ?_
      refine g_getR hc fl_X0_15 rfl hx0 dX0_standNow_52 (pc2 := 55) rfl ?_
      refine g_il3 hc dX0_standNow_55 rfl (pc2 := 56) rfl ?_
      refine g_rl1 hc dX0_standNow_56 rfl (pc2 := 57) rfl ?_
      refine g_il3 hc dX0_standNow_57 rfl (pc2 := 58) rfl ?_
      refine g_callV1 hc (C_X10_heededBy hx1) mv_X10_heededBy ln_X0_60 hx1 ⟨by decide, by decide⟩ (Nat.le_of_ble_eq_true rfl) dX0_standNow_58 (pc2 := 61) rfl (fun r8 s7 => ?_)
      refine g_iast hc (kf_0_1 hx0) (kl_0_1 hx0) dX0_standNow_61 (pc2 := 62) rfl (fun s9 => ?_)
      refine g_rl0 hc dX0_standNow_62 rfl (pc2 := 63) rfl ?_
      refine g_getR hc fl_X0_15 rfl hx0 dX0_standNow_63 (pc2 := 66) rfl ?_
      refine g_il3 hc dX0_standNow_66 rfl (pc2 := 67) rfl ?_
      refine g_iald hc (kf_0_1 hx0) (kl_0_1 hx0) dX0_standNow_67 (pc2 := 68) rfl (fun v10 => ?_)
      refine g_callS1 hc C_J6_bitCount_0f7a4 mv_J6_bitCount_0f7a4 ln_X0_63 ⟨by decide, by decide⟩ (Nat.le_of_ble_eq_true rfl) dX0_standNow_68 (pc2 := 71) rfl (fun r12 s11 => ?_)
      refine g_istore hc dX0_standNow_71 (by decide) (L2 := [some (q_rf w x0), some (q_rf w x1), some (q_rf w x2), some (.int x3), some (.int r12), none, none, none]) rfl (pc2 := 73) rfl ?_
      refine g_iconst hc dX0_standNow_73 ic_0 (pc2 := 74) rfl ?_
      refine g_istore hc dX0_standNow_74 (by decide) (L2 := [some (q_rf w x0), some (q_rf w x1), some (q_rf w x2), some (.int x3), some (.int r12), some (.int 0), none, none]) rfl (pc2 := 76) rfl ?_
      refine t_X0_standNow_L76 hc hx0 hx1 hx2 (fun s22 => ?_) n _ _
      refine g_iinc hc dX0_standNow_151 rfl (q_ii ic_1) (by decide) (L2 := [some (q_rf w x0), some (q_rf w x1), some (q_rf w x2), some (.int (x3 + 1)), none, none, none, none]) rfl (pc2 := 154) rfl ?_
      refine g_goto hc dX0_standNow_154 (pc2 := 32) rfl ?_
      exact ih _ _
    · refine q_Gmask [true, false, true, false, true, true, true, true] (L2 := [some (q_rf w x0), none, some (q_rf w x2), none, none, none, none, none]) rfl ?_
      exact hk157 _
set_option maxRecDepth 100000 in
set_option maxHeartbeats 4000000 in
theorem C_X0_standNow {l : Launch} {w : q_Wd} {n : Nat} {t : Nat} {a0 : Nat} (ht : q_KD t = .inl 0) (ha0 : q_KD a0 = .inl 10) {s0 : q_Sto} : q_C l w yX0_standNow cX0_standNow 8 (none) (q_rm 3 78) [q_rf w t, q_rf w a0] s0 (f_X0_standNow n t a0 s0) := q_CofG [some (q_rf w t), some (q_rf w a0), none, none, none, none, none, none] (by decide +kernel) rfl rfl (Nat.le_of_ble_eq_true rfl) fun cx hl hc => by
  have hc : q_ok w cx RX0 cX0_standNow 8 (none) (q_rm 3 78) := hc
  rw [f_X0_standNow]
  refine g_rl1 hc dX0_standNow_0 rfl (pc2 := 1) rfl ?_
  refine g_getR hc fl_X0_40 rfl ha0 dX0_standNow_1 (pc2 := 4) rfl ?_
  refine g_rs2 hc dX0_standNow_4 (by decide) (L2 := [some (q_rf w t), some (q_rf w a0), some (q_rf w (q_RF a0 0)), none, none, none, none, none]) rfl (pc2 := 5) rfl ?_
  refine g_rl0 hc dX0_standNow_5 rfl (pc2 := 6) rfl ?_
  refine g_bipush hc dX0_standNow_6 bp_12 (pc2 := 8) rfl ?_
  refine g_rl2 hc dX0_standNow_8 rfl (pc2 := 9) rfl ?_
  refine g_getI hc fl_X0_46 rfl (kf_10_0 ha0) dX0_standNow_9 (pc2 := 12) rfl ?_
  refine g_min hc ln_X0_49 ⟨by decide, by decide⟩ (Nat.le_of_ble_eq_true rfl) dX0_standNow_12 (pc2 := 15) rfl ?_
  refine g_putI hc fl_X0_27 rfl ht dX0_standNow_15 (pc2 := 18) rfl (fun s1 => ?_)
  refine g_rl0 hc dX0_standNow_18 rfl (pc2 := 19) rfl ?_
  refine g_iconst hc dX0_standNow_19 ic_5 (pc2 := 20) rfl ?_
  refine g_rl2 hc dX0_standNow_20 rfl (pc2 := 21) rfl ?_
  refine g_getI hc fl_X0_55 rfl (kf_10_0 ha0) dX0_standNow_21 (pc2 := 24) rfl ?_
  refine g_min hc ln_X0_49 ⟨by decide, by decide⟩ (Nat.le_of_ble_eq_true rfl) dX0_standNow_24 (pc2 := 27) rfl ?_
  refine g_putI hc fl_X0_31 rfl ht dX0_standNow_27 (pc2 := 30) rfl (fun s2 => ?_)
  refine g_iconst hc dX0_standNow_30 ic_0 (pc2 := 31) rfl ?_
  refine g_is3 hc dX0_standNow_31 (by decide) (L2 := [some (q_rf w t), some (q_rf w a0), some (q_rf w (q_RF a0 0)), some (.int 0), none, none, none, none]) rfl (pc2 := 32) rfl ?_
  refine t_X0_standNow_L32 hc ht ha0 (kf_10_0 ha0) (fun s23 => ?_) n _ _
  refine g_rl0 hc dX0_standNow_157 rfl (pc2 := 158) rfl ?_
  refine g_rl2 hc dX0_standNow_158 rfl (pc2 := 159) rfl ?_
  refine g_callV0 hc (C_X9_lameOnes (kf_10_0 ha0)) mv_X9_lameOnes ln_X0_75 (kf_10_0 ha0) ⟨by decide, by decide⟩ (Nat.le_of_ble_eq_true rfl) dX0_standNow_159 (pc2 := 162) rfl (fun r25 s24 => ?_)
  refine g_iconst hc dX0_standNow_162 ic_0 (pc2 := 163) rfl ?_
  refine g_iconst hc dX0_standNow_163 ic_m1 (pc2 := 164) rfl ?_
  refine g_callV3v hc (C_X0_settle ht) mv_X0_settle ln_X0_79 ht ⟨by decide, by decide⟩ (Nat.le_of_ble_eq_true rfl) dX0_standNow_164 (pc2 := 167) rfl (fun s26 => ?_)
  exact g_vret hc dX0_standNow_167
set_option maxRecDepth 100000 in
set_option maxHeartbeats 4000000 in
def f_X0_prefersAnother_L47 (n : Nat) (x0 : Nat) (x1 : Int32) (x2 : Int32) (x3 : Int32) (x4 : Int32) (x5 : Int32) (k91 : Int32 → q_Sto → Option (Int32 × q_Sto)) : Nat → Int32 → Int32 → q_Sto → Option (Int32 × q_Sto)
  | 0, _, _, _ => none
  | j + 1, x6, x7, s0 =>
    if x7 ≤ x5 then (
    if x7 < 12 then (
    q_ld s0 (q_RF x0 2) ((((x1 * 5) + x4) * 12) + x7) 720 fun v10 =>
    q_nm (q_mn x6 v10) fun v11 =>
    f_X0_prefersAnother_L47 n x0 x1 x2 x3 x4 x5 k91 j v11 (x7 + 1) s0)
    else (
    k91 x6 s0))
    else (
    k91 x6 s0)
set_option maxRecDepth 100000 in
set_option maxHeartbeats 4000000 in
def f_X0_prefersAnother_L3 (n : Nat) (x0 : Nat) (x1 : Int32) (x2 : Int32) (x3 : Int32) : Nat → Int32 → q_Sto → Option (Int32 × q_Sto)
  | 0, _, _ => none
  | j + 1, x4, s0 =>
    if x4 < (s0 x0 6) then (
    if x4 < 5 then (
    if x1 < 0 then (
    some (0, s0))
    else (
    if x1 < 12 then (
    q_ld s0 (q_RF x0 1) x1 12 fun v5 =>
    q_call (f_J6_bitCount_0f7a4 n v5 s0) fun r7 s6 =>
    f_X0_prefersAnother_L47 n x0 x1 x2 x3 x4 r7 (fun (y12 : Int32) (s13 : q_Sto) =>
    if x4 = x2 then (
    f_X0_prefersAnother_L3 n x0 x1 x2 x3  j (x4 + 1) s13)
    else (
    if y12 ≤ x3 then (
    if y12 = x3 then (
    if x4 < x2 then (
    some (1, s13))
    else (
    f_X0_prefersAnother_L3 n x0 x1 x2 x3  j (x4 + 1) s13))
    else (
    f_X0_prefersAnother_L3 n x0 x1 x2 x3  j (x4 + 1) s13))
    else (
    some (1, s13)))) n 999 0 s6)
    else (
    some (0, s0))))
    else (
    some (0, s0)))
    else (
    some (0, s0))
set_option maxRecDepth 100000 in
set_option maxHeartbeats 4000000 in
def f_X0_prefersAnother (n : Nat) (t : Nat) (a0 : Int32) (a1 : Int32) (a2 : Int32) (s0 : q_Sto) : Option (Int32 × q_Sto) :=
  f_X0_prefersAnother_L3 n t a0 a1 a2  n 0 s0
set_option maxRecDepth 100000 in
set_option maxHeartbeats 4000000 in
theorem t_X0_prefersAnother_L47 {w : q_Wd} {cx : q_Cx} (hc : q_ok w cx RX0 cX0_prefersAnother 8 (some .boolean) (q_rm 1 21)) {n : Nat} {x0 : Nat} {x1 : Int32} {x2 : Int32} {x3 : Int32} {x4 : Int32} {x5 : Int32} (hx0 : q_KD x0 = .inl 0) {k91 : Int32 → q_Sto → Option (Int32 × q_Sto)} (hk91 : ∀ (y6 : Int32) (s1 : q_Sto), q_G w cx 8 (some .boolean) 91 [some (q_rf w x0), some (.int x1), some (.int x2), some (.int x3), some (.int x4), none, some (.int y6), none] [] s1 (k91 y6 s1)) :
    ∀ (j : Nat) (x6 : Int32) (x7 : Int32) (s0 : q_Sto), q_G w cx 8 (some .boolean) 47 [some (q_rf w x0), some (.int x1), some (.int x2), some (.int x3), some (.int x4), some (.int x5), some (.int x6), some (.int x7)] [] s0 (f_X0_prefersAnother_L47 n x0 x1 x2 x3 x4 x5 k91 j x6 x7 s0) := by
  intro j
  induction j with
  | zero =>
    intro _ _ _
    rw [f_X0_prefersAnother_L47]
    exact q_none
  | succ j ih =>
    intro x6 x7 s0
    rw [f_X0_prefersAnother_L47]
    refine g_iload hc dX0_prefersAnother_47 rfl (pc2 := 49) rfl ?_
    refine g_iload hc dX0_prefersAnother_49 rfl (pc2 := 51) rfl ?_
    refine g_icmp_gt hc dX0_prefersAnother_51 (pc1 := 54) (pc2 := 91) rfl rfl (fun _ => ?_) (fun _ => ?_)
    · refine g_iload hc dX0_prefersAnother_54 rfl (pc2 := 56) rfl ?_
      refine g_bipush hc dX0_prefersAnother_56 bp_12 (pc2 := 58) rfl ?_
      refine g_icmp_ge hc dX0_prefersAnother_58 (pc1 := 61) (pc2 := 91) rfl rfl (fun _ => ?_) (fun _ => ?_)
      · refine g_iload hc dX0_prefersAnother_61 rfl (pc2 := 63) rfl ?_
        refine g_rl0 hc dX0_prefersAnother_63 rfl (pc2 := 64) rfl ?_
        refine g_getR hc fl_X0_18 rfl hx0 dX0_prefersAnother_64 (pc2 := 67) rfl ?_
        refine g_il1 hc dX0_prefersAnother_67 rfl (pc2 := 68) rfl ?_
        refine g_iconst hc dX0_prefersAnother_68 ic_5 (pc2 := 69) rfl ?_
        refine g_imul hc dX0_prefersAnother_69 (pc2 := 70) rfl ?_
        refine g_iload hc dX0_prefersAnother_70 rfl (pc2 := 72) rfl ?_
        refine g_iadd hc dX0_prefersAnother_72 (pc2 := 73) rfl ?_
        refine g_bipush hc dX0_prefersAnother_73 bp_12 (pc2 := 75) rfl ?_
        refine g_imul hc dX0_prefersAnother_75 (pc2 := 76) rfl ?_
        refine g_iload hc dX0_prefersAnother_76 rfl (pc2 := 78) rfl ?_
        refine g_iadd hc dX0_prefersAnother_78 (pc2 := 79) rfl ?_
        refine g_iald hc (kf_0_2 hx0) (kl_0_2 hx0) dX0_prefersAnother_79 (pc2 := 80) rfl (fun v10 => ?_)
        refine g_min hc ln_X0_49 ⟨by decide, by decide⟩ (Nat.le_of_ble_eq_true rfl) dX0_prefersAnother_80 (pc2 := 83) rfl ?_
        refine g_nm (fun v11 => ?_)
        refine g_istore hc dX0_prefersAnother_83 (by decide) (L2 := [some (q_rf w x0), some (.int x1), some (.int x2), some (.int x3), some (.int x4), some (.int x5), some (.int v11), some (.int x7)]) rfl (pc2 := 85) rfl ?_
        refine g_iinc hc dX0_prefersAnother_85 rfl (q_ii ic_1) (by decide) (L2 := [some (q_rf w x0), some (.int x1), some (.int x2), some (.int x3), some (.int x4), some (.int x5), some (.int v11), some (.int (x7 + 1))]) rfl (pc2 := 88) rfl ?_
        refine g_goto hc dX0_prefersAnother_88 (pc2 := 47) rfl ?_
        exact ih _ _ _
      · refine q_Gmask [true, true, true, true, true, false, true, false] (L2 := [some (q_rf w x0), some (.int x1), some (.int x2), some (.int x3), some (.int x4), none, some (.int x6), none]) rfl ?_
        exact hk91 _ _
    · refine q_Gmask [true, true, true, true, true, false, true, false] (L2 := [some (q_rf w x0), some (.int x1), some (.int x2), some (.int x3), some (.int x4), none, some (.int x6), none]) rfl ?_
      exact hk91 _ _
set_option maxRecDepth 100000 in
set_option maxHeartbeats 4000000 in
theorem t_X0_prefersAnother_L3 {w : q_Wd} {cx : q_Cx} (hc : q_ok w cx RX0 cX0_prefersAnother 8 (some .boolean) (q_rm 1 21)) {n : Nat} {x0 : Nat} {x1 : Int32} {x2 : Int32} {x3 : Int32} (hx0 : q_KD x0 = .inl 0)   :
    ∀ (j : Nat) (x4 : Int32) (s0 : q_Sto), q_G w cx 8 (some .boolean) 3 [some (q_rf w x0), some (.int x1), some (.int x2), some (.int x3), some (.int x4), none, none, none] [] s0 (f_X0_prefersAnother_L3 n x0 x1 x2 x3  j x4 s0) := by
  intro j
  induction j with
  | zero =>
    intro _ _
    rw [f_X0_prefersAnother_L3]
    exact q_none
  | succ j ih =>
    intro x4 s0
    rw [f_X0_prefersAnother_L3]
    refine g_iload hc dX0_prefersAnother_3 rfl (pc2 := 5) rfl ?_
    refine g_rl0 hc dX0_prefersAnother_5 rfl (pc2 := 6) rfl ?_
    refine g_getI hc fl_X0_31 rfl hx0 dX0_prefersAnother_6 (pc2 := 9) rfl ?_
    refine g_icmp_ge hc dX0_prefersAnother_9 (pc1 := 12) (pc2 := 123) rfl rfl (fun _ => ?_) (fun _ => ?_)
    · refine g_iload hc dX0_prefersAnother_12 rfl (pc2 := 14) rfl ?_
      refine g_iconst hc dX0_prefersAnother_14 ic_5 (pc2 := 15) rfl ?_
      refine g_icmp_ge hc dX0_prefersAnother_15 (pc1 := 18) (pc2 := 123) rfl rfl (fun _ => ?_) (fun _ => ?_)
      · refine g_il1 hc dX0_prefersAnother_18 rfl (pc2 := 19) rfl ?_
        refine g_if_lt hc dX0_prefersAnother_19 (pc1 := 123) (pc2 := 22) rfl rfl (fun _ => ?_) (fun _ => ?_)
        · refine g_iconst hc dX0_prefersAnother_123 ic_0 (pc2 := 124) rfl ?_
          exact g_zret0 (by decide) hc dX0_prefersAnother_124
        · refine g_il1 hc dX0_prefersAnother_22 rfl (pc2 := 23) rfl ?_
          refine g_bipush hc dX0_prefersAnother_23 bp_12 (pc2 := 25) rfl ?_
          refine g_icmp_ge hc dX0_prefersAnother_25 (pc1 := 28) (pc2 := 123) rfl rfl (fun _ => ?_) (fun _ => ?_)
          · refine g_rl0 hc dX0_prefersAnother_28 rfl (pc2 := 29) rfl ?_
            refine g_getR hc fl_X0_15 rfl hx0 dX0_prefersAnother_29 (pc2 := 32) rfl ?_
            refine g_il1 hc dX0_prefersAnother_32 rfl (pc2 := 33) rfl ?_
            refine g_iald hc (kf_0_1 hx0) (kl_0_1 hx0) dX0_prefersAnother_33 (pc2 := 34) rfl (fun v5 => ?_)
            refine g_callS1 hc C_J6_bitCount_0f7a4 mv_J6_bitCount_0f7a4 ln_X0_63 ⟨by decide, by decide⟩ (Nat.le_of_ble_eq_true rfl) dX0_prefersAnother_34 (pc2 := 37) rfl (fun r7 s6 => ?_)
            refine g_istore hc dX0_prefersAnother_37 (by decide) (L2 := [some (q_rf w x0), some (.int x1), some (.int x2), some (.int x3), some (.int x4), some (.int r7), none, none]) rfl (pc2 := 39) rfl ?_
            refine g_sipush hc dX0_prefersAnother_39 sp_999 (pc2 := 42) rfl ?_
            refine g_istore hc dX0_prefersAnother_42 (by decide) (L2 := [some (q_rf w x0), some (.int x1), some (.int x2), some (.int x3), some (.int x4), some (.int r7), some (.int 999), none]) rfl (pc2 := 44) rfl ?_
            refine g_iconst hc dX0_prefersAnother_44 ic_0 (pc2 := 45) rfl ?_
            refine g_istore hc dX0_prefersAnother_45 (by decide) (L2 := [some (q_rf w x0), some (.int x1), some (.int x2), some (.int x3), some (.int x4), some (.int r7), some (.int 999), some (.int 0)]) rfl (pc2 := 47) rfl ?_
            refine t_X0_prefersAnother_L47 hc hx0 (fun y12 s13 => ?_) n _ _ _
            refine g_iload hc dX0_prefersAnother_91 rfl (pc2 := 93) rfl ?_
            refine g_il2 hc dX0_prefersAnother_93 rfl (pc2 := 94) rfl ?_
            refine g_icmp_eq hc dX0_prefersAnother_94 (pc1 := 117) (pc2 := 97) rfl rfl (fun _ => ?_) (fun _ => ?_)
            · refine g_iinc hc dX0_prefersAnother_117 rfl (q_ii ic_1) (by decide) (L2 := [some (q_rf w x0), some (.int x1), some (.int x2), some (.int x3), some (.int (x4 + 1)), none, some (.int y12), none]) rfl (pc2 := 120) rfl ?_
              refine g_goto hc dX0_prefersAnother_120 (pc2 := 3) rfl ?_
              refine q_Gmask [true, true, true, true, true, true, false, true] (L2 := [some (q_rf w x0), some (.int x1), some (.int x2), some (.int x3), some (.int (x4 + 1)), none, none, none]) rfl ?_
              exact ih _ _
            · refine g_iload hc dX0_prefersAnother_97 rfl (pc2 := 99) rfl ?_
              refine g_il3 hc dX0_prefersAnother_99 rfl (pc2 := 100) rfl ?_
              refine g_icmp_gt hc dX0_prefersAnother_100 (pc1 := 103) (pc2 := 115) rfl rfl (fun _ => ?_) (fun _ => ?_)
              · refine g_iload hc dX0_prefersAnother_103 rfl (pc2 := 105) rfl ?_
                refine g_il3 hc dX0_prefersAnother_105 rfl (pc2 := 106) rfl ?_
                refine g_icmp_ne hc dX0_prefersAnother_106 (pc1 := 109) (pc2 := 117) rfl rfl (fun _ => ?_) (fun _ => ?_)
                · refine g_iload hc dX0_prefersAnother_109 rfl (pc2 := 111) rfl ?_
                  refine g_il2 hc dX0_prefersAnother_111 rfl (pc2 := 112) rfl ?_
                  refine g_icmp_ge hc dX0_prefersAnother_112 (pc1 := 115) (pc2 := 117) rfl rfl (fun _ => ?_) (fun _ => ?_)
                  · refine g_iconst hc dX0_prefersAnother_115 ic_1 (pc2 := 116) rfl ?_
                    exact g_zret0 (by decide) hc dX0_prefersAnother_116
                  · refine g_iinc hc dX0_prefersAnother_117 rfl (q_ii ic_1) (by decide) (L2 := [some (q_rf w x0), some (.int x1), some (.int x2), some (.int x3), some (.int (x4 + 1)), none, some (.int y12), none]) rfl (pc2 := 120) rfl ?_
                    refine g_goto hc dX0_prefersAnother_120 (pc2 := 3) rfl ?_
                    refine q_Gmask [true, true, true, true, true, true, false, true] (L2 := [some (q_rf w x0), some (.int x1), some (.int x2), some (.int x3), some (.int (x4 + 1)), none, none, none]) rfl ?_
                    exact ih _ _
                · refine g_iinc hc dX0_prefersAnother_117 rfl (q_ii ic_1) (by decide) (L2 := [some (q_rf w x0), some (.int x1), some (.int x2), some (.int x3), some (.int (x4 + 1)), none, some (.int y12), none]) rfl (pc2 := 120) rfl ?_
                  refine g_goto hc dX0_prefersAnother_120 (pc2 := 3) rfl ?_
                  refine q_Gmask [true, true, true, true, true, true, false, true] (L2 := [some (q_rf w x0), some (.int x1), some (.int x2), some (.int x3), some (.int (x4 + 1)), none, none, none]) rfl ?_
                  exact ih _ _
              · refine g_iconst hc dX0_prefersAnother_115 ic_1 (pc2 := 116) rfl ?_
                exact g_zret0 (by decide) hc dX0_prefersAnother_116
          · refine g_iconst hc dX0_prefersAnother_123 ic_0 (pc2 := 124) rfl ?_
            exact g_zret0 (by decide) hc dX0_prefersAnother_124
      · refine g_iconst hc dX0_prefersAnother_123 ic_0 (pc2 := 124) rfl ?_
        exact g_zret0 (by decide) hc dX0_prefersAnother_124
    · refine g_iconst hc dX0_prefersAnother_123 ic_0 (pc2 := 124) rfl ?_
      exact g_zret0 (by decide) hc dX0_prefersAnother_124
set_option maxRecDepth 100000 in
set_option maxHeartbeats 4000000 in
theorem C_X0_prefersAnother {l : Launch} {w : q_Wd} {n : Nat} {t : Nat} {a0 : Int32} {a1 : Int32} {a2 : Int32} (ht : q_KD t = .inl 0) {s0 : q_Sto} : q_C l w yX0_prefersAnother cX0_prefersAnother 8 (some .boolean) (q_rm 1 21) [q_rf w t, .int a0, .int a1, .int a2] s0 (f_X0_prefersAnother n t a0 a1 a2 s0) := q_CofG [some (q_rf w t), some (.int a0), some (.int a1), some (.int a2), none, none, none, none] (by decide +kernel) rfl rfl (Nat.le_of_ble_eq_true rfl) fun cx hl hc => by
  have hc : q_ok w cx RX0 cX0_prefersAnother 8 (some .boolean) (q_rm 1 21) := hc
  rw [f_X0_prefersAnother]
  refine g_iconst hc dX0_prefersAnother_0 ic_0 (pc2 := 1) rfl ?_
  refine g_istore hc dX0_prefersAnother_1 (by decide) (L2 := [some (q_rf w t), some (.int a0), some (.int a1), some (.int a2), some (.int 0), none, none, none]) rfl (pc2 := 3) rfl ?_
  refine t_X0_prefersAnother_L3 hc ht  n _ _
set_option maxRecDepth 100000 in
set_option maxHeartbeats 4000000 in
def f_X0_prepareSalted_L64 (n : Nat) (x0 : Nat) (x1 : Nat) (x2 : Int32) (x3 : Int32) (x4 : Int32) (x5 : Int32) (x6 : Int32) (k164 : Int32 → Int32 → q_Sto → Option (Int32 × q_Sto)) : Nat → Int32 → Int32 → Int32 → q_Sto → Option (Int32 × q_Sto)
  | 0, _, _, _, _ => none
  | j + 1, x7, x8, x9, s0 =>
    if x9 ≤ x6 then (
    if x9 < 12 then (
    q_call (f_X10_leanOf n x1 x4 x2 x5 x9 s0) fun r13 s12 =>
    q_ld s12 (q_RF x0 2) ((((x4 * 5) + x2) * 12) + x9) 720 fun v14 =>
    q_st s12 (q_RF x0 3) ((x4 * 12) + x9) 144 r13 fun s15 =>
    q_jn (fun  (s16 : q_Sto) =>
      q_nm (q_mx x8 (q_mx r13 v14)) fun v17 =>
      f_X0_prepareSalted_L64 n x0 x1 x2 x3 x4 x5 x6 k164 j 1 v17 (x9 + 1) s16) fun j137 =>
    if x7 = 0 then (
    if r13 = v14 then (
    q_nm (q_mx x8 (q_mx r13 v14)) fun v20 =>
    f_X0_prepareSalted_L64 n x0 x1 x2 x3 x4 x5 x6 k164 j 0 v20 (x9 + 1) s15)
    else (
    j137 s15))
    else (
    j137 s15))
    else (
    k164 x7 x8 s0))
    else (
    k164 x7 x8 s0)
set_option maxRecDepth 100000 in
set_option maxHeartbeats 4000000 in
def f_X0_prepareSalted_L5 (n : Nat) (x0 : Nat) (x1 : Nat) (x2 : Int32) (k206 : Int32 → q_Sto → Option (Int32 × q_Sto)) : Nat → Int32 → Int32 → q_Sto → Option (Int32 × q_Sto)
  | 0, _, _, _ => none
  | j + 1, x3, x4, s0 =>
    if x4 < (s0 x0 5) then (
    if x2 < 0 then (
    k206 x3 s0)
    else (
    if x2 < 5 then (
    q_call (f_X9_likingFor n (q_RF x1 0) x4 x2 s0) fun r5 s4 =>
    q_nm (q_mn 99 (r5 + 15)) fun v6 =>
    q_ld s4 (q_RF x0 1) x4 12 fun v7 =>
    q_call (f_J6_bitCount_0f7a4 n v7 s4) fun r9 s8 =>
    f_X0_prepareSalted_L64 n x0 x1 x2 x3 x4 v6 r9 (fun (y21 : Int32) (y22 : Int32) (s23 : q_Sto) =>
    if y21 = 0 then (
    f_X0_prepareSalted_L5 n x0 x1 x2 k206 j x3 (x4 + 1) s23)
    else (
    q_ld s23 (q_RF x0 0) x4 12 fun v25 =>
    if y22 < v25 then (
    f_X0_prepareSalted_L5 n x0 x1 x2 k206 j x3 (x4 + 1) s23)
    else (
    q_call (f_X0_prefersAnother n x0 x4 x2 y22 s23) fun r28 s27 =>
    if r28 = 0 then (
    q_nm (x3 ||| (1 <<< (x4 &&& 31))) fun v30 =>
    f_X0_prepareSalted_L5 n x0 x1 x2 k206 j v30 (x4 + 1) s27)
    else (
    f_X0_prepareSalted_L5 n x0 x1 x2 k206 j x3 (x4 + 1) s27)))) n 0 0 0 s8)
    else (
    k206 x3 s0)))
    else (
    k206 x3 s0)
set_option maxRecDepth 100000 in
set_option maxHeartbeats 4000000 in
def f_X0_prepareSalted (n : Nat) (t : Nat) (a0 : Nat) (a1 : Int32) (s0 : q_Sto) : Option (Int32 × q_Sto) :=
  f_X0_prepareSalted_L5 n t a0 a1 (fun (y31 : Int32) (s32 : q_Sto) =>
  q_call (f_X9_lameOnes n (q_RF a0 0) s32) fun r34 s33 =>
  some (y31 &&& (r34 ^^^ (-1)), s33)) n 0 0 s0
set_option maxRecDepth 100000 in
set_option maxHeartbeats 4000000 in
theorem t_X0_prepareSalted_L64 {w : q_Wd} {cx : q_Cx} (hc : q_ok w cx RX0 cX0_prepareSalted 12 (some .int) (q_rm 3 78)) {n : Nat} {x0 : Nat} {x1 : Nat} {x2 : Int32} {x3 : Int32} {x4 : Int32} {x5 : Int32} {x6 : Int32} (hx0 : q_KD x0 = .inl 0) (hx1 : q_KD x1 = .inl 10) {k164 : Int32 → Int32 → q_Sto → Option (Int32 × q_Sto)} (hk164 : ∀ (y7 : Int32) (y8 : Int32) (s1 : q_Sto), q_G w cx 12 (some .int) 164 [some (q_rf w x0), some (q_rf w x1), some (.int x2), some (.int x3), some (.int x4), none, none, some (.int y7), some (.int y8), none, none, none] [] s1 (k164 y7 y8 s1)) :
    ∀ (j : Nat) (x7 : Int32) (x8 : Int32) (x9 : Int32) (s0 : q_Sto), q_G w cx 12 (some .int) 64 [some (q_rf w x0), some (q_rf w x1), some (.int x2), some (.int x3), some (.int x4), some (.int x5), some (.int x6), some (.int x7), some (.int x8), some (.int x9), none, none] [] s0 (f_X0_prepareSalted_L64 n x0 x1 x2 x3 x4 x5 x6 k164 j x7 x8 x9 s0) := by
  intro j
  induction j with
  | zero =>
    intro _ _ _ _
    rw [f_X0_prepareSalted_L64]
    exact q_none
  | succ j ih =>
    intro x7 x8 x9 s0
    rw [f_X0_prepareSalted_L64]
    refine g_iload hc dX0_prepareSalted_64 rfl (pc2 := 66) rfl ?_
    refine g_iload hc dX0_prepareSalted_66 rfl (pc2 := 68) rfl ?_
    refine g_icmp_gt hc dX0_prepareSalted_68 (pc1 := 71) (pc2 := 164) rfl rfl (fun _ => ?_) (fun _ => ?_)
    · refine g_iload hc dX0_prepareSalted_71 rfl (pc2 := 73) rfl ?_
      refine g_bipush hc dX0_prepareSalted_73 bp_12 (pc2 := 75) rfl ?_
      refine g_icmp_ge hc dX0_prepareSalted_75 (pc1 := 78) (pc2 := 164) rfl rfl (fun _ => ?_) (fun _ => ?_)
      · refine g_rl1 hc dX0_prepareSalted_78 rfl (pc2 := 79) rfl ?_
        refine g_iload hc dX0_prepareSalted_79 rfl (pc2 := 81) rfl ?_
        refine g_il2 hc dX0_prepareSalted_81 rfl (pc2 := 82) rfl ?_
        refine g_iload hc dX0_prepareSalted_82 rfl (pc2 := 84) rfl ?_
        refine g_iload hc dX0_prepareSalted_84 rfl (pc2 := 86) rfl ?_
        refine g_callV4 hc (C_X10_leanOf hx1) mv_X10_leanOf ln_X0_71 hx1 ⟨by decide, by decide⟩ (Nat.le_of_ble_eq_true rfl) dX0_prepareSalted_86 (pc2 := 89) rfl (fun r13 s12 => ?_)
        refine g_istore hc dX0_prepareSalted_89 (by decide) (L2 := [some (q_rf w x0), some (q_rf w x1), some (.int x2), some (.int x3), some (.int x4), some (.int x5), some (.int x6), some (.int x7), some (.int x8), some (.int x9), some (.int r13), none]) rfl (pc2 := 91) rfl ?_
        refine g_rl0 hc dX0_prepareSalted_91 rfl (pc2 := 92) rfl ?_
        refine g_getR hc fl_X0_18 rfl hx0 dX0_prepareSalted_92 (pc2 := 95) rfl ?_
        refine g_iload hc dX0_prepareSalted_95 rfl (pc2 := 97) rfl ?_
        refine g_iconst hc dX0_prepareSalted_97 ic_5 (pc2 := 98) rfl ?_
        refine g_imul hc dX0_prepareSalted_98 (pc2 := 99) rfl ?_
        refine g_il2 hc dX0_prepareSalted_99 rfl (pc2 := 100) rfl ?_
        refine g_iadd hc dX0_prepareSalted_100 (pc2 := 101) rfl ?_
        refine g_bipush hc dX0_prepareSalted_101 bp_12 (pc2 := 103) rfl ?_
        refine g_imul hc dX0_prepareSalted_103 (pc2 := 104) rfl ?_
        refine g_iload hc dX0_prepareSalted_104 rfl (pc2 := 106) rfl ?_
        refine g_iadd hc dX0_prepareSalted_106 (pc2 := 107) rfl ?_
        refine g_iald hc (kf_0_2 hx0) (kl_0_2 hx0) dX0_prepareSalted_107 (pc2 := 108) rfl (fun v14 => ?_)
        refine g_istore hc dX0_prepareSalted_108 (by decide) (L2 := [some (q_rf w x0), some (q_rf w x1), some (.int x2), some (.int x3), some (.int x4), some (.int x5), some (.int x6), some (.int x7), some (.int x8), some (.int x9), some (.int r13), some (.int v14)]) rfl (pc2 := 110) rfl ?_
        refine g_rl0 hc dX0_prepareSalted_110 rfl (pc2 := 111) rfl ?_
        refine g_getR hc fl_X0_21 rfl hx0 dX0_prepareSalted_111 (pc2 := 114) rfl ?_
        refine g_iload hc dX0_prepareSalted_114 rfl (pc2 := 116) rfl ?_
        refine g_bipush hc dX0_prepareSalted_116 bp_12 (pc2 := 118) rfl ?_
        refine g_imul hc dX0_prepareSalted_118 (pc2 := 119) rfl ?_
        refine g_iload hc dX0_prepareSalted_119 rfl (pc2 := 121) rfl ?_
        refine g_iadd hc dX0_prepareSalted_121 (pc2 := 122) rfl ?_
        refine g_iload hc dX0_prepareSalted_122 rfl (pc2 := 124) rfl ?_
        refine g_iast hc (kf_0_3 hx0) (kl_0_3 hx0) dX0_prepareSalted_124 (pc2 := 125) rfl (fun s15 => ?_)
        refine g_iload hc dX0_prepareSalted_125 rfl (pc2 := 127) rfl ?_
        refine g_jn (P := fun j137 => ∀  (s16 : q_Sto), q_G w cx 12 (some .int) 137 [some (q_rf w x0), some (q_rf w x1), some (.int x2), some (.int x3), some (.int x4), some (.int x5), some (.int x6), none, some (.int x8), some (.int x9), some (.int r13), some (.int v14)] [] s16 (j137 s16)) (fun s16 => ?_) (fun j137 hj137 => ?_)
        · refine g_iconst hc dX0_prepareSalted_137 ic_1 (pc2 := 138) rfl ?_
          refine g_goto hc dX0_prepareSalted_138 (pc2 := 142) rfl ?_
          refine g_istore hc dX0_prepareSalted_142 (by decide) (L2 := [some (q_rf w x0), some (q_rf w x1), some (.int x2), some (.int x3), some (.int x4), some (.int x5), some (.int x6), some (.int 1), some (.int x8), some (.int x9), some (.int r13), some (.int v14)]) rfl (pc2 := 144) rfl ?_
          refine g_iload hc dX0_prepareSalted_144 rfl (pc2 := 146) rfl ?_
          refine g_iload hc dX0_prepareSalted_146 rfl (pc2 := 148) rfl ?_
          refine g_iload hc dX0_prepareSalted_148 rfl (pc2 := 150) rfl ?_
          refine g_max hc ln_X0_83 ⟨by decide, by decide⟩ (Nat.le_of_ble_eq_true rfl) dX0_prepareSalted_150 (pc2 := 153) rfl ?_
          refine g_max hc ln_X0_83 ⟨by decide, by decide⟩ (Nat.le_of_ble_eq_true rfl) dX0_prepareSalted_153 (pc2 := 156) rfl ?_
          refine g_nm (fun v17 => ?_)
          refine g_istore hc dX0_prepareSalted_156 (by decide) (L2 := [some (q_rf w x0), some (q_rf w x1), some (.int x2), some (.int x3), some (.int x4), some (.int x5), some (.int x6), some (.int 1), some (.int v17), some (.int x9), some (.int r13), some (.int v14)]) rfl (pc2 := 158) rfl ?_
          refine g_iinc hc dX0_prepareSalted_158 rfl (q_ii ic_1) (by decide) (L2 := [some (q_rf w x0), some (q_rf w x1), some (.int x2), some (.int x3), some (.int x4), some (.int x5), some (.int x6), some (.int 1), some (.int v17), some (.int (x9 + 1)), some (.int r13), some (.int v14)]) rfl (pc2 := 161) rfl ?_
          refine g_goto hc dX0_prepareSalted_161 (pc2 := 64) rfl ?_
          refine q_Gmask [true, true, true, true, true, true, true, true, true, true, false, false] (L2 := [some (q_rf w x0), some (q_rf w x1), some (.int x2), some (.int x3), some (.int x4), some (.int x5), some (.int x6), some (.int 1), some (.int v17), some (.int (x9 + 1)), none, none]) rfl ?_
          exact ih _ _ _ _
        · refine g_if_ne hc dX0_prepareSalted_127 (pc1 := 130) (pc2 := 137) rfl rfl (fun _ => ?_) (fun _ => ?_)
          · refine g_iload hc dX0_prepareSalted_130 rfl (pc2 := 132) rfl ?_
            refine g_iload hc dX0_prepareSalted_132 rfl (pc2 := 134) rfl ?_
            refine g_icmp_eq hc dX0_prepareSalted_134 (pc1 := 141) (pc2 := 137) rfl rfl (fun _ => ?_) (fun _ => ?_)
            · refine g_iconst hc dX0_prepareSalted_141 ic_0 (pc2 := 142) rfl ?_
              refine g_istore hc dX0_prepareSalted_142 (by decide) (L2 := [some (q_rf w x0), some (q_rf w x1), some (.int x2), some (.int x3), some (.int x4), some (.int x5), some (.int x6), some (.int 0), some (.int x8), some (.int x9), some (.int r13), some (.int v14)]) rfl (pc2 := 144) rfl ?_
              refine g_iload hc dX0_prepareSalted_144 rfl (pc2 := 146) rfl ?_
              refine g_iload hc dX0_prepareSalted_146 rfl (pc2 := 148) rfl ?_
              refine g_iload hc dX0_prepareSalted_148 rfl (pc2 := 150) rfl ?_
              refine g_max hc ln_X0_83 ⟨by decide, by decide⟩ (Nat.le_of_ble_eq_true rfl) dX0_prepareSalted_150 (pc2 := 153) rfl ?_
              refine g_max hc ln_X0_83 ⟨by decide, by decide⟩ (Nat.le_of_ble_eq_true rfl) dX0_prepareSalted_153 (pc2 := 156) rfl ?_
              refine g_nm (fun v20 => ?_)
              refine g_istore hc dX0_prepareSalted_156 (by decide) (L2 := [some (q_rf w x0), some (q_rf w x1), some (.int x2), some (.int x3), some (.int x4), some (.int x5), some (.int x6), some (.int 0), some (.int v20), some (.int x9), some (.int r13), some (.int v14)]) rfl (pc2 := 158) rfl ?_
              refine g_iinc hc dX0_prepareSalted_158 rfl (q_ii ic_1) (by decide) (L2 := [some (q_rf w x0), some (q_rf w x1), some (.int x2), some (.int x3), some (.int x4), some (.int x5), some (.int x6), some (.int 0), some (.int v20), some (.int (x9 + 1)), some (.int r13), some (.int v14)]) rfl (pc2 := 161) rfl ?_
              refine g_goto hc dX0_prepareSalted_161 (pc2 := 64) rfl ?_
              refine q_Gmask [true, true, true, true, true, true, true, true, true, true, false, false] (L2 := [some (q_rf w x0), some (q_rf w x1), some (.int x2), some (.int x3), some (.int x4), some (.int x5), some (.int x6), some (.int 0), some (.int v20), some (.int (x9 + 1)), none, none]) rfl ?_
              exact ih _ _ _ _
            · refine q_Gmask [true, true, true, true, true, true, true, false, true, true, true, true] (L2 := [some (q_rf w x0), some (q_rf w x1), some (.int x2), some (.int x3), some (.int x4), some (.int x5), some (.int x6), none, some (.int x8), some (.int x9), some (.int r13), some (.int v14)]) rfl ?_
              exact hj137 _
          · refine q_Gmask [true, true, true, true, true, true, true, false, true, true, true, true] (L2 := [some (q_rf w x0), some (q_rf w x1), some (.int x2), some (.int x3), some (.int x4), some (.int x5), some (.int x6), none, some (.int x8), some (.int x9), some (.int r13), some (.int v14)]) rfl ?_
            exact hj137 _
      · refine q_Gmask [true, true, true, true, true, false, false, true, true, false, true, true] (L2 := [some (q_rf w x0), some (q_rf w x1), some (.int x2), some (.int x3), some (.int x4), none, none, some (.int x7), some (.int x8), none, none, none]) rfl ?_
        exact hk164 _ _ _
    · refine q_Gmask [true, true, true, true, true, false, false, true, true, false, true, true] (L2 := [some (q_rf w x0), some (q_rf w x1), some (.int x2), some (.int x3), some (.int x4), none, none, some (.int x7), some (.int x8), none, none, none]) rfl ?_
      exact hk164 _ _ _
set_option maxRecDepth 100000 in
set_option maxHeartbeats 4000000 in
theorem t_X0_prepareSalted_L5 {w : q_Wd} {cx : q_Cx} (hc : q_ok w cx RX0 cX0_prepareSalted 12 (some .int) (q_rm 3 78)) {n : Nat} {x0 : Nat} {x1 : Nat} {x2 : Int32} (hx0 : q_KD x0 = .inl 0) (hx1 : q_KD x1 = .inl 10) {k206 : Int32 → q_Sto → Option (Int32 × q_Sto)} (hk206 : ∀ (y3 : Int32) (s1 : q_Sto), q_G w cx 12 (some .int) 206 [none, some (q_rf w x1), none, some (.int y3), none, none, none, none, none, none, none, none] [] s1 (k206 y3 s1)) :
    ∀ (j : Nat) (x3 : Int32) (x4 : Int32) (s0 : q_Sto), q_G w cx 12 (some .int) 5 [some (q_rf w x0), some (q_rf w x1), some (.int x2), some (.int x3), some (.int x4), none, none, none, none, none, none, none] [] s0 (f_X0_prepareSalted_L5 n x0 x1 x2 k206 j x3 x4 s0) := by
  intro j
  induction j with
  | zero =>
    intro _ _ _
    rw [f_X0_prepareSalted_L5]
    exact q_none
  | succ j ih =>
    intro x3 x4 s0
    rw [f_X0_prepareSalted_L5]
    refine g_iload hc dX0_prepareSalted_5 rfl (pc2 := 7) rfl ?_
    refine g_rl0 hc dX0_prepareSalted_7 rfl (pc2 := 8) rfl ?_
    refine g_getI hc fl_X0_27 rfl hx0 dX0_prepareSalted_8 (pc2 := 11) rfl ?_
    refine g_icmp_ge hc dX0_prepareSalted_11 (pc1 := 14) (pc2 := 206) rfl rfl (fun _ => ?_) (fun _ => ?_)
    · refine g_il2 hc dX0_prepareSalted_14 rfl (pc2 := 15) rfl ?_
      refine g_if_lt hc dX0_prepareSalted_15 (pc1 := 206) (pc2 := 18) rfl rfl (fun _ => ?_) (fun _ => ?_)
      · refine q_Gmask [false, true, false, true, false, true, true, true, true, true, true, true] (L2 := [none, some (q_rf w x1), none, some (.int x3), none, none, none, none, none, none, none, none]) rfl ?_
        exact hk206 _ _
      · refine g_il2 hc dX0_prepareSalted_18 rfl (pc2 := 19) rfl ?_
        refine g_iconst hc dX0_prepareSalted_19 ic_5 (pc2 := 20) rfl ?_
        refine g_icmp_ge hc dX0_prepareSalted_20 (pc1 := 23) (pc2 := 206) rfl rfl (fun _ => ?_) (fun _ => ?_)
        · refine g_bipush hc dX0_prepareSalted_23 bp_99 (pc2 := 25) rfl ?_
          refine g_rl1 hc dX0_prepareSalted_25 rfl (pc2 := 26) rfl ?_
          refine g_getR hc fl_X0_40 rfl hx1 dX0_prepareSalted_26 (pc2 := 29) rfl ?_
          refine g_iload hc dX0_prepareSalted_29 rfl (pc2 := 31) rfl ?_
          refine g_il2 hc dX0_prepareSalted_31 rfl (pc2 := 32) rfl ?_
          refine g_callV2 hc (C_X9_likingFor (kf_10_0 hx1)) mv_X9_likingFor ln_X0_68 (kf_10_0 hx1) ⟨by decide, by decide⟩ (Nat.le_of_ble_eq_true rfl) dX0_prepareSalted_32 (pc2 := 35) rfl (fun r5 s4 => ?_)
          refine g_bipush hc dX0_prepareSalted_35 bp_15 (pc2 := 37) rfl ?_
          refine g_iadd hc dX0_prepareSalted_37 (pc2 := 38) rfl ?_
          refine g_min hc ln_X0_49 ⟨by decide, by decide⟩ (Nat.le_of_ble_eq_true rfl) dX0_prepareSalted_38 (pc2 := 41) rfl ?_
          refine g_nm (fun v6 => ?_)
          refine g_istore hc dX0_prepareSalted_41 (by decide) (L2 := [some (q_rf w x0), some (q_rf w x1), some (.int x2), some (.int x3), some (.int x4), some (.int v6), none, none, none, none, none, none]) rfl (pc2 := 43) rfl ?_
          refine g_rl0 hc dX0_prepareSalted_43 rfl (pc2 := 44) rfl ?_
          refine g_getR hc fl_X0_15 rfl hx0 dX0_prepareSalted_44 (pc2 := 47) rfl ?_
          refine g_iload hc dX0_prepareSalted_47 rfl (pc2 := 49) rfl ?_
          refine g_iald hc (kf_0_1 hx0) (kl_0_1 hx0) dX0_prepareSalted_49 (pc2 := 50) rfl (fun v7 => ?_)
          refine g_callS1 hc C_J6_bitCount_0f7a4 mv_J6_bitCount_0f7a4 ln_X0_63 ⟨by decide, by decide⟩ (Nat.le_of_ble_eq_true rfl) dX0_prepareSalted_50 (pc2 := 53) rfl (fun r9 s8 => ?_)
          refine g_istore hc dX0_prepareSalted_53 (by decide) (L2 := [some (q_rf w x0), some (q_rf w x1), some (.int x2), some (.int x3), some (.int x4), some (.int v6), some (.int r9), none, none, none, none, none]) rfl (pc2 := 55) rfl ?_
          refine g_iconst hc dX0_prepareSalted_55 ic_0 (pc2 := 56) rfl ?_
          refine g_istore hc dX0_prepareSalted_56 (by decide) (L2 := [some (q_rf w x0), some (q_rf w x1), some (.int x2), some (.int x3), some (.int x4), some (.int v6), some (.int r9), some (.int 0), none, none, none, none]) rfl (pc2 := 58) rfl ?_
          refine g_iconst hc dX0_prepareSalted_58 ic_0 (pc2 := 59) rfl ?_
          refine g_istore hc dX0_prepareSalted_59 (by decide) (L2 := [some (q_rf w x0), some (q_rf w x1), some (.int x2), some (.int x3), some (.int x4), some (.int v6), some (.int r9), some (.int 0), some (.int 0), none, none, none]) rfl (pc2 := 61) rfl ?_
          refine g_iconst hc dX0_prepareSalted_61 ic_0 (pc2 := 62) rfl ?_
          refine g_istore hc dX0_prepareSalted_62 (by decide) (L2 := [some (q_rf w x0), some (q_rf w x1), some (.int x2), some (.int x3), some (.int x4), some (.int v6), some (.int r9), some (.int 0), some (.int 0), some (.int 0), none, none]) rfl (pc2 := 64) rfl ?_
          refine t_X0_prepareSalted_L64 hc hx0 hx1 (fun y21 y22 s23 => ?_) n _ _ _ _
          refine g_iload hc dX0_prepareSalted_164 rfl (pc2 := 166) rfl ?_
          refine g_if_eq hc dX0_prepareSalted_166 (pc1 := 200) (pc2 := 169) rfl rfl (fun _ => ?_) (fun _ => ?_)
          · refine g_iinc hc dX0_prepareSalted_200 rfl (q_ii ic_1) (by decide) (L2 := [some (q_rf w x0), some (q_rf w x1), some (.int x2), some (.int x3), some (.int (x4 + 1)), none, none, some (.int y21), some (.int y22), none, none, none]) rfl (pc2 := 203) rfl ?_
            refine g_goto hc dX0_prepareSalted_203 (pc2 := 5) rfl ?_
            refine q_Gmask [true, true, true, true, true, true, true, false, false, true, true, true] (L2 := [some (q_rf w x0), some (q_rf w x1), some (.int x2), some (.int x3), some (.int (x4 + 1)), none, none, none, none, none, none, none]) rfl ?_
            exact ih _ _ _
          · refine g_iload hc dX0_prepareSalted_169 rfl (pc2 := 171) rfl ?_
            refine g_rl0 hc dX0_prepareSalted_171 rfl (pc2 := 172) rfl ?_
            refine g_getR hc fl_X0_9 rfl hx0 dX0_prepareSalted_172 (pc2 := 175) rfl ?_
            refine g_iload hc dX0_prepareSalted_175 rfl (pc2 := 177) rfl ?_
            refine g_iald hc (kf_0_0 hx0) (kl_0_0 hx0) dX0_prepareSalted_177 (pc2 := 178) rfl (fun v25 => ?_)
            refine g_icmp_lt hc dX0_prepareSalted_178 (pc1 := 200) (pc2 := 181) rfl rfl (fun _ => ?_) (fun _ => ?_)
            · refine g_iinc hc dX0_prepareSalted_200 rfl (q_ii ic_1) (by decide) (L2 := [some (q_rf w x0), some (q_rf w x1), some (.int x2), some (.int x3), some (.int (x4 + 1)), none, none, some (.int y21), some (.int y22), none, none, none]) rfl (pc2 := 203) rfl ?_
              refine g_goto hc dX0_prepareSalted_203 (pc2 := 5) rfl ?_
              refine q_Gmask [true, true, true, true, true, true, true, false, false, true, true, true] (L2 := [some (q_rf w x0), some (q_rf w x1), some (.int x2), some (.int x3), some (.int (x4 + 1)), none, none, none, none, none, none, none]) rfl ?_
              exact ih _ _ _
            · refine g_rl0 hc dX0_prepareSalted_181 rfl (pc2 := 182) rfl ?_
              refine g_iload hc dX0_prepareSalted_182 rfl (pc2 := 184) rfl ?_
              refine g_il2 hc dX0_prepareSalted_184 rfl (pc2 := 185) rfl ?_
              refine g_iload hc dX0_prepareSalted_185 rfl (pc2 := 187) rfl ?_
              refine g_callV3 hc (C_X0_prefersAnother hx0) mv_X0_prefersAnother ln_X0_86 hx0 ⟨by decide, by decide⟩ (Nat.le_of_ble_eq_true rfl) dX0_prepareSalted_187 (pc2 := 190) rfl (fun r28 s27 => ?_)
              refine g_if_ne hc dX0_prepareSalted_190 (pc1 := 193) (pc2 := 200) rfl rfl (fun _ => ?_) (fun _ => ?_)
              · refine g_il3 hc dX0_prepareSalted_193 rfl (pc2 := 194) rfl ?_
                refine g_iconst hc dX0_prepareSalted_194 ic_1 (pc2 := 195) rfl ?_
                refine g_iload hc dX0_prepareSalted_195 rfl (pc2 := 197) rfl ?_
                refine g_ishl hc dX0_prepareSalted_197 (pc2 := 198) rfl ?_
                refine g_ior hc dX0_prepareSalted_198 (pc2 := 199) rfl ?_
                refine g_nm (fun v30 => ?_)
                refine g_is3 hc dX0_prepareSalted_199 (by decide) (L2 := [some (q_rf w x0), some (q_rf w x1), some (.int x2), some (.int v30), some (.int x4), none, none, some (.int y21), some (.int y22), none, none, none]) rfl (pc2 := 200) rfl ?_
                refine g_iinc hc dX0_prepareSalted_200 rfl (q_ii ic_1) (by decide) (L2 := [some (q_rf w x0), some (q_rf w x1), some (.int x2), some (.int v30), some (.int (x4 + 1)), none, none, some (.int y21), some (.int y22), none, none, none]) rfl (pc2 := 203) rfl ?_
                refine g_goto hc dX0_prepareSalted_203 (pc2 := 5) rfl ?_
                refine q_Gmask [true, true, true, true, true, true, true, false, false, true, true, true] (L2 := [some (q_rf w x0), some (q_rf w x1), some (.int x2), some (.int v30), some (.int (x4 + 1)), none, none, none, none, none, none, none]) rfl ?_
                exact ih _ _ _
              · refine g_iinc hc dX0_prepareSalted_200 rfl (q_ii ic_1) (by decide) (L2 := [some (q_rf w x0), some (q_rf w x1), some (.int x2), some (.int x3), some (.int (x4 + 1)), none, none, some (.int y21), some (.int y22), none, none, none]) rfl (pc2 := 203) rfl ?_
                refine g_goto hc dX0_prepareSalted_203 (pc2 := 5) rfl ?_
                refine q_Gmask [true, true, true, true, true, true, true, false, false, true, true, true] (L2 := [some (q_rf w x0), some (q_rf w x1), some (.int x2), some (.int x3), some (.int (x4 + 1)), none, none, none, none, none, none, none]) rfl ?_
                exact ih _ _ _
        · refine q_Gmask [false, true, false, true, false, true, true, true, true, true, true, true] (L2 := [none, some (q_rf w x1), none, some (.int x3), none, none, none, none, none, none, none, none]) rfl ?_
          exact hk206 _ _
    · refine q_Gmask [false, true, false, true, false, true, true, true, true, true, true, true] (L2 := [none, some (q_rf w x1), none, some (.int x3), none, none, none, none, none, none, none, none]) rfl ?_
      exact hk206 _ _
set_option maxRecDepth 100000 in
set_option maxHeartbeats 4000000 in
theorem C_X0_prepareSalted {l : Launch} {w : q_Wd} {n : Nat} {t : Nat} {a0 : Nat} {a1 : Int32} (ht : q_KD t = .inl 0) (ha0 : q_KD a0 = .inl 10) {s0 : q_Sto} : q_C l w yX0_prepareSalted cX0_prepareSalted 12 (some .int) (q_rm 3 78) [q_rf w t, q_rf w a0, .int a1] s0 (f_X0_prepareSalted n t a0 a1 s0) := q_CofG [some (q_rf w t), some (q_rf w a0), some (.int a1), none, none, none, none, none, none, none, none, none] (by decide +kernel) rfl rfl (Nat.le_of_ble_eq_true rfl) fun cx hl hc => by
  have hc : q_ok w cx RX0 cX0_prepareSalted 12 (some .int) (q_rm 3 78) := hc
  rw [f_X0_prepareSalted]
  refine g_iconst hc dX0_prepareSalted_0 ic_0 (pc2 := 1) rfl ?_
  refine g_is3 hc dX0_prepareSalted_1 (by decide) (L2 := [some (q_rf w t), some (q_rf w a0), some (.int a1), some (.int 0), none, none, none, none, none, none, none, none]) rfl (pc2 := 2) rfl ?_
  refine g_iconst hc dX0_prepareSalted_2 ic_0 (pc2 := 3) rfl ?_
  refine g_istore hc dX0_prepareSalted_3 (by decide) (L2 := [some (q_rf w t), some (q_rf w a0), some (.int a1), some (.int 0), some (.int 0), none, none, none, none, none, none, none]) rfl (pc2 := 5) rfl ?_
  refine t_X0_prepareSalted_L5 hc ht ha0 (fun y31 s32 => ?_) n _ _ _
  refine g_il3 hc dX0_prepareSalted_206 rfl (pc2 := 207) rfl ?_
  refine g_rl1 hc dX0_prepareSalted_207 rfl (pc2 := 208) rfl ?_
  refine g_getR hc fl_X0_40 rfl ha0 dX0_prepareSalted_208 (pc2 := 211) rfl ?_
  refine g_callV0 hc (C_X9_lameOnes (kf_10_0 ha0)) mv_X9_lameOnes ln_X0_75 (kf_10_0 ha0) ⟨by decide, by decide⟩ (Nat.le_of_ble_eq_true rfl) dX0_prepareSalted_211 (pc2 := 214) rfl (fun r34 s33 => ?_)
  refine g_iconst hc dX0_prepareSalted_214 ic_m1 (pc2 := 215) rfl ?_
  refine g_ixor hc dX0_prepareSalted_215 (pc2 := 216) rfl ?_
  refine g_iand hc dX0_prepareSalted_216 (pc2 := 217) rfl ?_
  exact g_iret hc dX0_prepareSalted_217
set_option maxRecDepth 100000 in
set_option maxHeartbeats 4000000 in
def f_X0_choiceOf_L2 (n : Nat) (x0 : Nat) (x1 : Int32) : Nat → Int32 → q_Sto → Option (Int32 × q_Sto)
  | 0, _, _ => none
  | j + 1, x2, s0 =>
    if x2 < (s0 x0 6) then (
    if x2 < 5 then (
    q_ld s0 (q_RF x0 4) x2 5 fun v3 =>
    q_call (f_X11_isIn n v3 x1 s0) fun r5 s4 =>
    if r5 = 0 then (
    f_X0_choiceOf_L2 n x0 x1  j (x2 + 1) s4)
    else (
    some (x2, s4)))
    else (
    some ((-1), s0)))
    else (
    some ((-1), s0))
set_option maxRecDepth 100000 in
set_option maxHeartbeats 4000000 in
def f_X0_choiceOf (n : Nat) (t : Nat) (a0 : Int32) (s0 : q_Sto) : Option (Int32 × q_Sto) :=
  f_X0_choiceOf_L2 n t a0  n 0 s0
set_option maxRecDepth 100000 in
set_option maxHeartbeats 4000000 in
theorem t_X0_choiceOf_L2 {w : q_Wd} {cx : q_Cx} (hc : q_ok w cx RX0 cX0_choiceOf 3 (some .int) (q_rm 1 21)) {n : Nat} {x0 : Nat} {x1 : Int32} (hx0 : q_KD x0 = .inl 0)   :
    ∀ (j : Nat) (x2 : Int32) (s0 : q_Sto), q_G w cx 3 (some .int) 2 [some (q_rf w x0), some (.int x1), some (.int x2)] [] s0 (f_X0_choiceOf_L2 n x0 x1  j x2 s0) := by
  intro j
  induction j with
  | zero =>
    intro _ _
    rw [f_X0_choiceOf_L2]
    exact q_none
  | succ j ih =>
    intro x2 s0
    rw [f_X0_choiceOf_L2]
    refine g_il2 hc dX0_choiceOf_2 rfl (pc2 := 3) rfl ?_
    refine g_rl0 hc dX0_choiceOf_3 rfl (pc2 := 4) rfl ?_
    refine g_getI hc fl_X0_31 rfl hx0 dX0_choiceOf_4 (pc2 := 7) rfl ?_
    refine g_icmp_ge hc dX0_choiceOf_7 (pc1 := 10) (pc2 := 36) rfl rfl (fun _ => ?_) (fun _ => ?_)
    · refine g_il2 hc dX0_choiceOf_10 rfl (pc2 := 11) rfl ?_
      refine g_iconst hc dX0_choiceOf_11 ic_5 (pc2 := 12) rfl ?_
      refine g_icmp_ge hc dX0_choiceOf_12 (pc1 := 15) (pc2 := 36) rfl rfl (fun _ => ?_) (fun _ => ?_)
      · refine g_rl0 hc dX0_choiceOf_15 rfl (pc2 := 16) rfl ?_
        refine g_getR hc fl_X0_24 rfl hx0 dX0_choiceOf_16 (pc2 := 19) rfl ?_
        refine g_il2 hc dX0_choiceOf_19 rfl (pc2 := 20) rfl ?_
        refine g_iald hc (kf_0_4 hx0) (kl_0_4 hx0) dX0_choiceOf_20 (pc2 := 21) rfl (fun v3 => ?_)
        refine g_il1 hc dX0_choiceOf_21 rfl (pc2 := 22) rfl ?_
        refine g_callSN2 (host := "MuleVote") hc C_X11_isIn mv_X11_isIn (by decide +kernel) ⟨by decide, by decide⟩ (Nat.le_of_ble_eq_true rfl) dX0_choiceOf_22 (pc2 := 25) rfl (fun r5 s4 => ?_)
        refine g_if_eq hc dX0_choiceOf_25 (pc1 := 30) (pc2 := 28) rfl rfl (fun _ => ?_) (fun _ => ?_)
        · refine g_iinc hc dX0_choiceOf_30 rfl (q_ii ic_1) (by decide) (L2 := [some (q_rf w x0), some (.int x1), some (.int (x2 + 1))]) rfl (pc2 := 33) rfl ?_
          refine g_goto hc dX0_choiceOf_33 (pc2 := 2) rfl ?_
          exact ih _ _
        · refine g_il2 hc dX0_choiceOf_28 rfl (pc2 := 29) rfl ?_
          exact g_iret hc dX0_choiceOf_29
      · refine g_iconst hc dX0_choiceOf_36 ic_m1 (pc2 := 37) rfl ?_
        exact g_iret hc dX0_choiceOf_37
    · refine g_iconst hc dX0_choiceOf_36 ic_m1 (pc2 := 37) rfl ?_
      exact g_iret hc dX0_choiceOf_37
set_option maxRecDepth 100000 in
set_option maxHeartbeats 4000000 in
theorem C_X0_choiceOf {l : Launch} {w : q_Wd} {n : Nat} {t : Nat} {a0 : Int32} (ht : q_KD t = .inl 0) {s0 : q_Sto} : q_C l w yX0_choiceOf cX0_choiceOf 3 (some .int) (q_rm 1 21) [q_rf w t, .int a0] s0 (f_X0_choiceOf n t a0 s0) := q_CofG [some (q_rf w t), some (.int a0), none] (by decide +kernel) rfl rfl (Nat.le_of_ble_eq_true rfl) fun cx hl hc => by
  have hc : q_ok w cx RX0 cX0_choiceOf 3 (some .int) (q_rm 1 21) := hc
  rw [f_X0_choiceOf]
  refine g_iconst hc dX0_choiceOf_0 ic_0 (pc2 := 1) rfl ?_
  refine g_is2 hc dX0_choiceOf_1 (by decide) (L2 := [some (q_rf w t), some (.int a0), some (.int 0)]) rfl (pc2 := 2) rfl ?_
  refine t_X0_choiceOf_L2 hc ht  n _ _
set_option maxRecDepth 100000 in
set_option maxHeartbeats 4000000 in
def f_X0_fewestSalted_L36 (n : Nat) (x0 : Nat) (x2 : Int32) (x3 : Int32) (x4 : Int32) (x5 : Int32) (k87 : q_Sto → Option (Int32 × q_Sto)) : Nat → Int32 → q_Sto → Option (Int32 × q_Sto)
  | 0, _, _ => none
  | j + 1, x6, s0 =>
    if x6 ≤ x3 then (
    if (x6 &&& (x3 ^^^ (-1))) = 0 then (
    q_call (f_J6_bitCount_0f7a4 n x6 s0) fun r13 s12 =>
    if r13 = x5 then (
    q_callv (f_X0_settle n x0 x4 x6 x2 s12) fun s15 =>
    if (s15 x0 8) = x2 then (
    some (x6, s15))
    else (
    f_X0_fewestSalted_L36 n x0 x2 x3 x4 x5 k87 j (x6 + 1) s15))
    else (
    f_X0_fewestSalted_L36 n x0 x2 x3 x4 x5 k87 j (x6 + 1) s12))
    else (
    f_X0_fewestSalted_L36 n x0 x2 x3 x4 x5 k87 j (x6 + 1) s0))
    else (
    k87 s0)
set_option maxRecDepth 100000 in
set_option maxHeartbeats 4000000 in
def f_X0_fewestSalted_L24 (n : Nat) (x0 : Nat) (x2 : Int32) (x3 : Int32) (x4 : Int32) : Nat → Int32 → q_Sto → Option (Int32 × q_Sto)
  | 0, _, _ => none
  | j + 1, x5, s0 =>
    q_call (f_J6_bitCount_0f7a4 n x3 s0) fun r8 s7 =>
    if x5 ≤ r8 then (
    f_X0_fewestSalted_L36 n x0 x2 x3 x4 x5 (fun  (s18 : q_Sto) =>
    f_X0_fewestSalted_L24 n x0 x2 x3 x4  j (x5 + 1) s18) n 0 s7)
    else (
    some ((-1), s7))
set_option maxRecDepth 100000 in
set_option maxHeartbeats 4000000 in
def f_X0_fewestSalted (n : Nat) (t : Nat) (a0 : Nat) (a1 : Int32) (s0 : q_Sto) : Option (Int32 × q_Sto) :=
  q_callv (f_X0_standNow n t a0 s0) fun s1 =>
  q_call (f_X0_prepareSalted n t a0 a1 s1) fun r4 s3 =>
  q_call (f_X9_lameOnes n (q_RF a0 0) s3) fun r6 s5 =>
  f_X0_fewestSalted_L24 n t a1 r4 r6  n 0 s5
set_option maxRecDepth 100000 in
set_option maxHeartbeats 4000000 in
theorem t_X0_fewestSalted_L36 {w : q_Wd} {cx : q_Cx} (hc : q_ok w cx RX0 cX0_fewestSalted 7 (some .int) (q_rm 4 109)) {n : Nat} {x0 : Nat} {x2 : Int32} {x3 : Int32} {x4 : Int32} {x5 : Int32} (hx0 : q_KD x0 = .inl 0) {k87 : q_Sto → Option (Int32 × q_Sto)} (hk87 : ∀  (s1 : q_Sto), q_G w cx 7 (some .int) 87 [some (q_rf w x0), none, some (.int x2), some (.int x3), some (.int x4), some (.int x5), none] [] s1 (k87 s1)) :
    ∀ (j : Nat) (x6 : Int32) (s0 : q_Sto), q_G w cx 7 (some .int) 36 [some (q_rf w x0), none, some (.int x2), some (.int x3), some (.int x4), some (.int x5), some (.int x6)] [] s0 (f_X0_fewestSalted_L36 n x0 x2 x3 x4 x5 k87 j x6 s0) := by
  intro j
  induction j with
  | zero =>
    intro _ _
    rw [f_X0_fewestSalted_L36]
    exact q_none
  | succ j ih =>
    intro x6 s0
    rw [f_X0_fewestSalted_L36]
    refine g_iload hc dX0_fewestSalted_36 rfl (pc2 := 38) rfl ?_
    refine g_il3 hc dX0_fewestSalted_38 rfl (pc2 := 39) rfl ?_
    refine g_icmp_gt hc dX0_fewestSalted_39 (pc1 := 42) (pc2 := 87) rfl rfl (fun _ => ?_) (fun _ => ?_)
    · refine g_iload hc dX0_fewestSalted_42 rfl (pc2 := 44) rfl ?_
      refine g_il3 hc dX0_fewestSalted_44 rfl (pc2 := 45) rfl ?_
      refine g_iconst hc dX0_fewestSalted_45 ic_m1 (pc2 := 46) rfl ?_
      refine g_ixor hc dX0_fewestSalted_46 (pc2 := 47) rfl ?_
      refine g_iand hc dX0_fewestSalted_47 (pc2 := 48) rfl ?_
      refine g_if_ne hc dX0_fewestSalted_48 (pc1 := 51) (pc2 := 81) rfl rfl (fun _ => ?_) (fun _ => ?_)
      · refine g_iload hc dX0_fewestSalted_51 rfl (pc2 := 53) rfl ?_
        refine g_callS1 hc C_J6_bitCount_0f7a4 mv_J6_bitCount_0f7a4 ln_X0_63 ⟨by decide, by decide⟩ (Nat.le_of_ble_eq_true rfl) dX0_fewestSalted_53 (pc2 := 56) rfl (fun r13 s12 => ?_)
        refine g_iload hc dX0_fewestSalted_56 rfl (pc2 := 58) rfl ?_
        refine g_icmp_ne hc dX0_fewestSalted_58 (pc1 := 61) (pc2 := 81) rfl rfl (fun _ => ?_) (fun _ => ?_)
        · refine g_rl0 hc dX0_fewestSalted_61 rfl (pc2 := 62) rfl ?_
          refine g_iload hc dX0_fewestSalted_62 rfl (pc2 := 64) rfl ?_
          refine g_iload hc dX0_fewestSalted_64 rfl (pc2 := 66) rfl ?_
          refine g_il2 hc dX0_fewestSalted_66 rfl (pc2 := 67) rfl ?_
          refine g_callV3v hc (C_X0_settle hx0) mv_X0_settle ln_X0_79 hx0 ⟨by decide, by decide⟩ (Nat.le_of_ble_eq_true rfl) dX0_fewestSalted_67 (pc2 := 70) rfl (fun s15 => ?_)
          refine g_rl0 hc dX0_fewestSalted_70 rfl (pc2 := 71) rfl ?_
          refine g_getI hc fl_X0_37 rfl hx0 dX0_fewestSalted_71 (pc2 := 74) rfl ?_
          refine g_il2 hc dX0_fewestSalted_74 rfl (pc2 := 75) rfl ?_
          refine g_icmp_ne hc dX0_fewestSalted_75 (pc1 := 78) (pc2 := 81) rfl rfl (fun _ => ?_) (fun _ => ?_)
          · refine g_iload hc dX0_fewestSalted_78 rfl (pc2 := 80) rfl ?_
            exact g_iret hc dX0_fewestSalted_80
          · refine g_iinc hc dX0_fewestSalted_81 rfl (q_ii ic_1) (by decide) (L2 := [some (q_rf w x0), none, some (.int x2), some (.int x3), some (.int x4), some (.int x5), some (.int (x6 + 1))]) rfl (pc2 := 84) rfl ?_
            refine g_goto hc dX0_fewestSalted_84 (pc2 := 36) rfl ?_
            exact ih _ _
        · refine g_iinc hc dX0_fewestSalted_81 rfl (q_ii ic_1) (by decide) (L2 := [some (q_rf w x0), none, some (.int x2), some (.int x3), some (.int x4), some (.int x5), some (.int (x6 + 1))]) rfl (pc2 := 84) rfl ?_
          refine g_goto hc dX0_fewestSalted_84 (pc2 := 36) rfl ?_
          exact ih _ _
      · refine g_iinc hc dX0_fewestSalted_81 rfl (q_ii ic_1) (by decide) (L2 := [some (q_rf w x0), none, some (.int x2), some (.int x3), some (.int x4), some (.int x5), some (.int (x6 + 1))]) rfl (pc2 := 84) rfl ?_
        refine g_goto hc dX0_fewestSalted_84 (pc2 := 36) rfl ?_
        exact ih _ _
    · refine q_Gmask [true, true, true, true, true, true, false] (L2 := [some (q_rf w x0), none, some (.int x2), some (.int x3), some (.int x4), some (.int x5), none]) rfl ?_
      exact hk87 _
set_option maxRecDepth 100000 in
set_option maxHeartbeats 4000000 in
theorem t_X0_fewestSalted_L24 {w : q_Wd} {cx : q_Cx} (hc : q_ok w cx RX0 cX0_fewestSalted 7 (some .int) (q_rm 4 109)) {n : Nat} {x0 : Nat} {x2 : Int32} {x3 : Int32} {x4 : Int32} (hx0 : q_KD x0 = .inl 0)   :
    ∀ (j : Nat) (x5 : Int32) (s0 : q_Sto), q_G w cx 7 (some .int) 24 [some (q_rf w x0), none, some (.int x2), some (.int x3), some (.int x4), some (.int x5), none] [] s0 (f_X0_fewestSalted_L24 n x0 x2 x3 x4  j x5 s0) := by
  intro j
  induction j with
  | zero =>
    intro _ _
    rw [f_X0_fewestSalted_L24]
    exact q_none
  | succ j ih =>
    intro x5 s0
    rw [f_X0_fewestSalted_L24]
    refine g_iload hc dX0_fewestSalted_24 rfl (pc2 := 26) rfl ?_
    refine g_il3 hc dX0_fewestSalted_26 rfl (pc2 := 27) rfl ?_
    refine g_callS1 hc C_J6_bitCount_0f7a4 mv_J6_bitCount_0f7a4 ln_X0_63 ⟨by decide, by decide⟩ (Nat.le_of_ble_eq_true rfl) dX0_fewestSalted_27 (pc2 := 30) rfl (fun r8 s7 => ?_)
    refine g_icmp_gt hc dX0_fewestSalted_30 (pc1 := 33) (pc2 := 93) rfl rfl (fun _ => ?_) (fun _ => ?_)
    · refine g_iconst hc dX0_fewestSalted_33 ic_0 (pc2 := 34) rfl ?_
      refine g_istore hc dX0_fewestSalted_34 (by decide) (L2 := [some (q_rf w x0), none, some (.int x2), some (.int x3), some (.int x4), some (.int x5), some (.int 0)]) rfl (pc2 := 36) rfl ?_
      refine t_X0_fewestSalted_L36 hc hx0 (fun s18 => ?_) n _ _
      refine g_iinc hc dX0_fewestSalted_87 rfl (q_ii ic_1) (by decide) (L2 := [some (q_rf w x0), none, some (.int x2), some (.int x3), some (.int x4), some (.int (x5 + 1)), none]) rfl (pc2 := 90) rfl ?_
      refine g_goto hc dX0_fewestSalted_90 (pc2 := 24) rfl ?_
      exact ih _ _
    · refine g_iconst hc dX0_fewestSalted_93 ic_m1 (pc2 := 94) rfl ?_
      exact g_iret hc dX0_fewestSalted_94
set_option maxRecDepth 100000 in
set_option maxHeartbeats 4000000 in
theorem C_X0_fewestSalted {l : Launch} {w : q_Wd} {n : Nat} {t : Nat} {a0 : Nat} {a1 : Int32} (ht : q_KD t = .inl 0) (ha0 : q_KD a0 = .inl 10) {s0 : q_Sto} : q_C l w yX0_fewestSalted cX0_fewestSalted 7 (some .int) (q_rm 4 109) [q_rf w t, q_rf w a0, .int a1] s0 (f_X0_fewestSalted n t a0 a1 s0) := q_CofG [some (q_rf w t), some (q_rf w a0), some (.int a1), none, none, none, none] (by decide +kernel) rfl rfl (Nat.le_of_ble_eq_true rfl) fun cx hl hc => by
  have hc : q_ok w cx RX0 cX0_fewestSalted 7 (some .int) (q_rm 4 109) := hc
  rw [f_X0_fewestSalted]
  refine g_rl0 hc dX0_fewestSalted_0 rfl (pc2 := 1) rfl ?_
  refine g_rl1 hc dX0_fewestSalted_1 rfl (pc2 := 2) rfl ?_
  refine g_callV1v hc (C_X0_standNow ht ha0) mv_X0_standNow ln_X0_106 ht ⟨by decide, by decide⟩ (Nat.le_of_ble_eq_true rfl) dX0_fewestSalted_2 (pc2 := 5) rfl (fun s1 => ?_)
  refine g_rl0 hc dX0_fewestSalted_5 rfl (pc2 := 6) rfl ?_
  refine g_rl1 hc dX0_fewestSalted_6 rfl (pc2 := 7) rfl ?_
  refine g_il2 hc dX0_fewestSalted_7 rfl (pc2 := 8) rfl ?_
  refine g_callV2 hc (C_X0_prepareSalted ht ha0) mv_X0_prepareSalted ln_X0_110 ht ⟨by decide, by decide⟩ (Nat.le_of_ble_eq_true rfl) dX0_fewestSalted_8 (pc2 := 11) rfl (fun r4 s3 => ?_)
  refine g_is3 hc dX0_fewestSalted_11 (by decide) (L2 := [some (q_rf w t), some (q_rf w a0), some (.int a1), some (.int r4), none, none, none]) rfl (pc2 := 12) rfl ?_
  refine g_rl1 hc dX0_fewestSalted_12 rfl (pc2 := 13) rfl ?_
  refine g_getR hc fl_X0_40 rfl ha0 dX0_fewestSalted_13 (pc2 := 16) rfl ?_
  refine g_callV0 hc (C_X9_lameOnes (kf_10_0 ha0)) mv_X9_lameOnes ln_X0_75 (kf_10_0 ha0) ⟨by decide, by decide⟩ (Nat.le_of_ble_eq_true rfl) dX0_fewestSalted_16 (pc2 := 19) rfl (fun r6 s5 => ?_)
  refine g_istore hc dX0_fewestSalted_19 (by decide) (L2 := [some (q_rf w t), some (q_rf w a0), some (.int a1), some (.int r4), some (.int r6), none, none]) rfl (pc2 := 21) rfl ?_
  refine g_iconst hc dX0_fewestSalted_21 ic_0 (pc2 := 22) rfl ?_
  refine g_istore hc dX0_fewestSalted_22 (by decide) (L2 := [some (q_rf w t), some (q_rf w a0), some (.int a1), some (.int r4), some (.int r6), some (.int 0), none]) rfl (pc2 := 24) rfl ?_
  refine q_Gmask [true, false, true, true, true, true, true] (L2 := [some (q_rf w t), none, some (.int a1), some (.int r4), some (.int r6), some (.int 0), none]) rfl ?_
  refine t_X0_fewestSalted_L24 hc ht  n _ _
