set_option maxRecDepth 100000 in
set_option maxHeartbeats 4000000 in
def f_X1_forget (n : Nat) (t : Nat) (s0 : q_Sto) : Option (Int32 × q_Sto) :=
  q_nS1 (q_up s0 t 1 0) fun s1 =>
  some (0, s1)
set_option maxRecDepth 100000 in
set_option maxHeartbeats 4000000 in
theorem C_X1_forget {l : Launch} {w : q_Wd} {n : Nat} {t : Nat} (ht : q_KD t = .inl 1) {s0 : q_Sto} : q_C l w yX1_forget cX1_forget 1 (none) (q_rm 0 0) [q_rf w t] s0 (f_X1_forget n t s0) := q_CofG [some (q_rf w t)] (by decide +kernel) rfl rfl (Nat.le_of_ble_eq_true rfl) fun cx hl hc => by
  have hc : q_ok w cx RX1 cX1_forget 1 (none) (q_rm 0 0) := hc
  rw [f_X1_forget]
  refine g_rl0 hc dX1_forget_0 rfl (pc2 := 1) rfl ?_
  refine g_iconst hc dX1_forget_1 ic_0 (pc2 := 2) rfl ?_
  refine g_putI hc fl_X1_17 rfl ht dX1_forget_2 (pc2 := 5) rfl (fun s1 => ?_)
  exact g_vret hc dX1_forget_5
set_option maxRecDepth 100000 in
set_option maxHeartbeats 4000000 in
def f_X1_dropOldest_L9 (n : Nat) (x0 : Nat) (x1 : Nat) (k35 : q_Sto → Option (Int32 × q_Sto)) : Nat → Int32 → q_Sto → Option (Int32 × q_Sto)
  | 0, _, _ => none
  | j + 1, x2, s0 =>
    if x2 < 6 then (
    q_ldr s0 (q_RF x0 0) x2 6 fun o3 => q_if o3 9 <|
    q_st s0 (q_RF x0 0) (x2 - 1) 6 (Int32.ofNat o3) fun s4 =>
    f_X1_dropOldest_L9 n x0 x1 k35 j (x2 + 1) s4)
    else (
    k35 s0)
set_option maxRecDepth 100000 in
set_option maxHeartbeats 4000000 in
def f_X1_dropOldest (n : Nat) (t : Nat) (s0 : q_Sto) : Option (Int32 × q_Sto) :=
  q_ldr s0 (q_RF t 0) 0 6 fun o1 => q_if o1 9 <|
  f_X1_dropOldest_L9 n t o1 (fun  (s5 : q_Sto) =>
  q_st s5 (q_RF t 0) 5 6 (Int32.ofNat o1) fun s6 =>
  q_nS1 (q_up s6 t 1 5) fun s7 =>
  some (0, s7)) n 1 s0
set_option maxRecDepth 100000 in
set_option maxHeartbeats 4000000 in
theorem t_X1_dropOldest_L9 {w : q_Wd} {cx : q_Cx} (hc : q_ok w cx RX1 cX1_dropOldest 3 (none) (q_rm 0 0)) {n : Nat} {x0 : Nat} {x1 : Nat} (hx0 : q_KD x0 = .inl 1) (hx1 : q_KD x1 = .inl 9) {k35 : q_Sto → Option (Int32 × q_Sto)} (hk35 : ∀  (s1 : q_Sto), q_G w cx 3 (none) 35 [some (q_rf w x0), some (q_rf w x1), none] [] s1 (k35 s1)) :
    ∀ (j : Nat) (x2 : Int32) (s0 : q_Sto), q_G w cx 3 (none) 9 [some (q_rf w x0), some (q_rf w x1), some (.int x2)] [] s0 (f_X1_dropOldest_L9 n x0 x1 k35 j x2 s0) := by
  intro j
  induction j with
  | zero =>
    intro _ _
    rw [f_X1_dropOldest_L9]
    exact q_none
  | succ j ih =>
    intro x2 s0
    rw [f_X1_dropOldest_L9]
    refine g_il2 hc dX1_dropOldest_9 rfl (pc2 := 10) rfl ?_
    refine g_bipush hc dX1_dropOldest_10 bp_6 (pc2 := 12) rfl ?_
    refine g_icmp_ge hc dX1_dropOldest_12 (pc1 := 15) (pc2 := 35) rfl rfl (fun _ => ?_) (fun _ => ?_)
    · refine g_rl0 hc dX1_dropOldest_15 rfl (pc2 := 16) rfl ?_
      refine g_getR hc fl_X1_11 rfl hx0 dX1_dropOldest_16 (pc2 := 19) rfl ?_
      refine g_il2 hc dX1_dropOldest_19 rfl (pc2 := 20) rfl ?_
      refine g_iconst hc dX1_dropOldest_20 ic_1 (pc2 := 21) rfl ?_
      refine g_isub hc dX1_dropOldest_21 (pc2 := 22) rfl ?_
      refine g_rl0 hc dX1_dropOldest_22 rfl (pc2 := 23) rfl ?_
      refine g_getR hc fl_X1_11 rfl hx0 dX1_dropOldest_23 (pc2 := 26) rfl ?_
      refine g_il2 hc dX1_dropOldest_26 rfl (pc2 := 27) rfl ?_
      refine g_aald hc (kf_1_0 hx0) (kl_1_0 hx0) dX1_dropOldest_27 (pc2 := 28) rfl (fun o3 => ?_)
      refine g_if (fun ho3 => ?_)
      refine g_aast hc (kf_1_0 hx0) (kl_1_0 hx0) ho3 dX1_dropOldest_28 (pc2 := 29) rfl (fun s4 => ?_)
      refine g_iinc hc dX1_dropOldest_29 rfl (q_ii ic_1) (by decide) (L2 := [some (q_rf w x0), some (q_rf w x1), some (.int (x2 + 1))]) rfl (pc2 := 32) rfl ?_
      refine g_goto hc dX1_dropOldest_32 (pc2 := 9) rfl ?_
      exact ih _ _
    · refine q_Gmask [true, true, false] (L2 := [some (q_rf w x0), some (q_rf w x1), none]) rfl ?_
      exact hk35 _
set_option maxRecDepth 100000 in
set_option maxHeartbeats 4000000 in
theorem C_X1_dropOldest {l : Launch} {w : q_Wd} {n : Nat} {t : Nat} (ht : q_KD t = .inl 1) {s0 : q_Sto} : q_C l w yX1_dropOldest cX1_dropOldest 3 (none) (q_rm 0 0) [q_rf w t] s0 (f_X1_dropOldest n t s0) := q_CofG [some (q_rf w t), none, none] (by decide +kernel) rfl rfl (Nat.le_of_ble_eq_true rfl) fun cx hl hc => by
  have hc : q_ok w cx RX1 cX1_dropOldest 3 (none) (q_rm 0 0) := hc
  rw [f_X1_dropOldest]
  refine g_rl0 hc dX1_dropOldest_0 rfl (pc2 := 1) rfl ?_
  refine g_getR hc fl_X1_11 rfl ht dX1_dropOldest_1 (pc2 := 4) rfl ?_
  refine g_iconst hc dX1_dropOldest_4 ic_0 (pc2 := 5) rfl ?_
  refine g_aald hc (kf_1_0 ht) (kl_1_0 ht) dX1_dropOldest_5 (pc2 := 6) rfl (fun o1 => ?_)
  refine g_if (fun ho1 => ?_)
  refine g_rs1 hc dX1_dropOldest_6 (by decide) (L2 := [some (q_rf w t), some (q_rf w o1), none]) rfl (pc2 := 7) rfl ?_
  refine g_iconst hc dX1_dropOldest_7 ic_1 (pc2 := 8) rfl ?_
  refine g_is2 hc dX1_dropOldest_8 (by decide) (L2 := [some (q_rf w t), some (q_rf w o1), some (.int 1)]) rfl (pc2 := 9) rfl ?_
  refine t_X1_dropOldest_L9 hc ht ho1 (fun s5 => ?_) n _ _
  refine g_rl0 hc dX1_dropOldest_35 rfl (pc2 := 36) rfl ?_
  refine g_getR hc fl_X1_11 rfl ht dX1_dropOldest_36 (pc2 := 39) rfl ?_
  refine g_iconst hc dX1_dropOldest_39 ic_5 (pc2 := 40) rfl ?_
  refine g_rl1 hc dX1_dropOldest_40 rfl (pc2 := 41) rfl ?_
  refine g_aast hc (kf_1_0 ht) (kl_1_0 ht) ho1 dX1_dropOldest_41 (pc2 := 42) rfl (fun s6 => ?_)
  refine g_rl0 hc dX1_dropOldest_42 rfl (pc2 := 43) rfl ?_
  refine g_iconst hc dX1_dropOldest_43 ic_5 (pc2 := 44) rfl ?_
  refine g_putI hc fl_X1_17 rfl ht dX1_dropOldest_44 (pc2 := 47) rfl (fun s7 => ?_)
  exact g_vret hc dX1_dropOldest_47
set_option maxRecDepth 100000 in
set_option maxHeartbeats 4000000 in
def f_X11_copyRow (n : Nat) (a0 : Nat) (n0 : Nat) (a1 : Nat) (n1 : Nat) (s0 : q_Sto) : Option (Int32 × q_Sto) :=
  q_cp s0 a0 a1 (q_mn (Int32.ofNat n0) (Int32.ofNat n1)) n0 n1 fun s1 =>
  some (0, s1)
set_option maxRecDepth 100000 in
set_option maxHeartbeats 4000000 in
theorem C_X11_copyRow {l : Launch} {w : q_Wd} {n : Nat} {a0 : Nat} {n0 : Nat} {a1 : Nat} {n1 : Nat} (ha0 : q_KD a0 = .inr (n0, false)) (la0 : a0 < q_N0) (ha1 : q_KD a1 = .inr (n1, false)) (la1 : a1 < q_N0) {s0 : q_Sto} : q_C l w yX11_copyRow cX11_copyRow 2 (none) (q_rm 1 80) [q_rf w a0, q_rf w a1] s0 (f_X11_copyRow n a0 n0 a1 n1 s0) := q_CofG [some (q_rf w a0), some (q_rf w a1)] (by decide +kernel) rfl rfl (Nat.le_of_ble_eq_true rfl) fun cx hl hc => by
  have hc : q_ok w cx RX11 cX11_copyRow 2 (none) (q_rm 1 80) := hc
  rw [f_X11_copyRow]
  refine g_rl0 hc dX11_copyRow_0 rfl (pc2 := 1) rfl ?_
  refine g_iconst hc dX11_copyRow_1 ic_0 (pc2 := 2) rfl ?_
  refine g_rl1 hc dX11_copyRow_2 rfl (pc2 := 3) rfl ?_
  refine g_iconst hc dX11_copyRow_3 ic_0 (pc2 := 4) rfl ?_
  refine g_rl0 hc dX11_copyRow_4 rfl (pc2 := 5) rfl ?_
  refine g_alen hc ha0 la0 dX11_copyRow_5 (pc2 := 6) rfl ?_
  refine g_rl1 hc dX11_copyRow_6 rfl (pc2 := 7) rfl ?_
  refine g_alen hc ha1 la1 dX11_copyRow_7 (pc2 := 8) rfl ?_
  refine g_min hc ln_X11_383 ⟨by decide, by decide⟩ (Nat.le_of_ble_eq_true rfl) dX11_copyRow_8 (pc2 := 11) rfl ?_
  refine g_copy hc (q_w_copy ln_X11_388) ha0 la0 ha1 la1 ⟨by decide, by decide +kernel⟩ (Nat.le_of_ble_eq_true rfl) dX11_copyRow_11 (pc2 := 14) rfl (fun s1 => ?_)
  exact g_vret hc dX11_copyRow_14
set_option maxRecDepth 100000 in
set_option maxHeartbeats 4000000 in
def f_X9_copyFrom (n : Nat) (t : Nat) (a0 : Nat) (s0 : q_Sto) : Option (Int32 × q_Sto) :=
  q_callv (f_X11_copyRow n (q_RF a0 0) 12 (q_RF t 0) 12 s0) fun s1 =>
  q_callv (f_X11_copyRow n (q_RF a0 1) 12 (q_RF t 1) 12 s1) fun s3 =>
  q_callv (f_X11_copyRow n (q_RF a0 2) 12 (q_RF t 2) 12 s3) fun s5 =>
  q_callv (f_X11_copyRow n (q_RF a0 3) 12 (q_RF t 3) 12 s5) fun s7 =>
  q_callv (f_X11_copyRow n (q_RF a0 4) 5 (q_RF t 4) 5 s7) fun s9 =>
  q_callv (f_X11_copyRow n (q_RF a0 5) 5 (q_RF t 5) 5 s9) fun s11 =>
  q_callv (f_X11_copyRow n (q_RF a0 6) 5 (q_RF t 6) 5 s11) fun s13 =>
  q_callv (f_X11_copyRow n (q_RF a0 7) 60 (q_RF t 7) 60 s13) fun s15 =>
  q_nS1 (q_up s15 t 8 (s15 a0 8)) fun s17 =>
  q_nS1 (q_up s17 t 9 (s17 a0 9)) fun s18 =>
  q_nS1 (q_up s18 t 10 (s18 a0 10)) fun s19 =>
  q_nS1 (q_up s19 t 11 (s19 a0 11)) fun s20 =>
  q_nS1 (q_up s20 t 12 (s20 a0 12)) fun s21 =>
  q_nS1 (q_up s21 t 13 (s21 a0 13)) fun s22 =>
  q_nS1 (q_up s22 t 14 (s22 a0 14)) fun s23 =>
  q_nS1 (q_up s23 t 15 (s23 a0 15)) fun s24 =>
  q_nS1 (q_up s24 t 16 (s24 a0 16)) fun s25 =>
  q_nS1 (q_up s25 t 17 (s25 a0 17)) fun s26 =>
  some (0, s26)
set_option maxRecDepth 100000 in
set_option maxHeartbeats 4000000 in
theorem C_X9_copyFrom {l : Launch} {w : q_Wd} {n : Nat} {t : Nat} {a0 : Nat} (ht : q_KD t = .inl 9) (ha0 : q_KD a0 = .inl 9) {s0 : q_Sto} : q_C l w yX9_copyFrom cX9_copyFrom 2 (none) (q_rm 2 101) [q_rf w t, q_rf w a0] s0 (f_X9_copyFrom n t a0 s0) := q_CofG [some (q_rf w t), some (q_rf w a0)] (by decide +kernel) rfl rfl (Nat.le_of_ble_eq_true rfl) fun cx hl hc => by
  have hc : q_ok w cx RX9 cX9_copyFrom 2 (none) (q_rm 2 101) := hc
  rw [f_X9_copyFrom]
  refine g_rl1 hc dX9_copyFrom_0 rfl (pc2 := 1) rfl ?_
  refine g_getR hc fl_X9_9 rfl ha0 dX9_copyFrom_1 (pc2 := 4) rfl ?_
  refine g_rl0 hc dX9_copyFrom_4 rfl (pc2 := 5) rfl ?_
  refine g_getR hc fl_X9_9 rfl ht dX9_copyFrom_5 (pc2 := 8) rfl ?_
  refine g_callSN2v (host := "MuleVote") hc (C_X11_copyRow (kf_9_0 ha0) (kl_9_0 ha0) (kf_9_0 ht) (kl_9_0 ht)) mv_X11_copyRow (by decide +kernel) ⟨by decide, by decide⟩ (Nat.le_of_ble_eq_true rfl) dX9_copyFrom_8 (pc2 := 11) rfl (fun s1 => ?_)
  refine g_rl1 hc dX9_copyFrom_11 rfl (pc2 := 12) rfl ?_
  refine g_getR hc fl_X9_15 rfl ha0 dX9_copyFrom_12 (pc2 := 15) rfl ?_
  refine g_rl0 hc dX9_copyFrom_15 rfl (pc2 := 16) rfl ?_
  refine g_getR hc fl_X9_15 rfl ht dX9_copyFrom_16 (pc2 := 19) rfl ?_
  refine g_callSN2v (host := "MuleVote") hc (C_X11_copyRow (kf_9_1 ha0) (kl_9_1 ha0) (kf_9_1 ht) (kl_9_1 ht)) mv_X11_copyRow (by decide +kernel) ⟨by decide, by decide⟩ (Nat.le_of_ble_eq_true rfl) dX9_copyFrom_19 (pc2 := 22) rfl (fun s3 => ?_)
  refine g_rl1 hc dX9_copyFrom_22 rfl (pc2 := 23) rfl ?_
  refine g_getR hc fl_X9_18 rfl ha0 dX9_copyFrom_23 (pc2 := 26) rfl ?_
  refine g_rl0 hc dX9_copyFrom_26 rfl (pc2 := 27) rfl ?_
  refine g_getR hc fl_X9_18 rfl ht dX9_copyFrom_27 (pc2 := 30) rfl ?_
  refine g_callSN2v (host := "MuleVote") hc (C_X11_copyRow (kf_9_2 ha0) (kl_9_2 ha0) (kf_9_2 ht) (kl_9_2 ht)) mv_X11_copyRow (by decide +kernel) ⟨by decide, by decide⟩ (Nat.le_of_ble_eq_true rfl) dX9_copyFrom_30 (pc2 := 33) rfl (fun s5 => ?_)
  refine g_rl1 hc dX9_copyFrom_33 rfl (pc2 := 34) rfl ?_
  refine g_getR hc fl_X9_21 rfl ha0 dX9_copyFrom_34 (pc2 := 37) rfl ?_
  refine g_rl0 hc dX9_copyFrom_37 rfl (pc2 := 38) rfl ?_
  refine g_getR hc fl_X9_21 rfl ht dX9_copyFrom_38 (pc2 := 41) rfl ?_
  refine g_callSN2v (host := "MuleVote") hc (C_X11_copyRow (kf_9_3 ha0) (kl_9_3 ha0) (kf_9_3 ht) (kl_9_3 ht)) mv_X11_copyRow (by decide +kernel) ⟨by decide, by decide⟩ (Nat.le_of_ble_eq_true rfl) dX9_copyFrom_41 (pc2 := 44) rfl (fun s7 => ?_)
  refine g_rl1 hc dX9_copyFrom_44 rfl (pc2 := 45) rfl ?_
  refine g_getR hc fl_X9_24 rfl ha0 dX9_copyFrom_45 (pc2 := 48) rfl ?_
  refine g_rl0 hc dX9_copyFrom_48 rfl (pc2 := 49) rfl ?_
  refine g_getR hc fl_X9_24 rfl ht dX9_copyFrom_49 (pc2 := 52) rfl ?_
  refine g_callSN2v (host := "MuleVote") hc (C_X11_copyRow (kf_9_4 ha0) (kl_9_4 ha0) (kf_9_4 ht) (kl_9_4 ht)) mv_X11_copyRow (by decide +kernel) ⟨by decide, by decide⟩ (Nat.le_of_ble_eq_true rfl) dX9_copyFrom_52 (pc2 := 55) rfl (fun s9 => ?_)
  refine g_rl1 hc dX9_copyFrom_55 rfl (pc2 := 56) rfl ?_
  refine g_getR hc fl_X9_27 rfl ha0 dX9_copyFrom_56 (pc2 := 59) rfl ?_
  refine g_rl0 hc dX9_copyFrom_59 rfl (pc2 := 60) rfl ?_
  refine g_getR hc fl_X9_27 rfl ht dX9_copyFrom_60 (pc2 := 63) rfl ?_
  refine g_callSN2v (host := "MuleVote") hc (C_X11_copyRow (kf_9_5 ha0) (kl_9_5 ha0) (kf_9_5 ht) (kl_9_5 ht)) mv_X11_copyRow (by decide +kernel) ⟨by decide, by decide⟩ (Nat.le_of_ble_eq_true rfl) dX9_copyFrom_63 (pc2 := 66) rfl (fun s11 => ?_)
  refine g_rl1 hc dX9_copyFrom_66 rfl (pc2 := 67) rfl ?_
  refine g_getR hc fl_X9_30 rfl ha0 dX9_copyFrom_67 (pc2 := 70) rfl ?_
  refine g_rl0 hc dX9_copyFrom_70 rfl (pc2 := 71) rfl ?_
  refine g_getR hc fl_X9_30 rfl ht dX9_copyFrom_71 (pc2 := 74) rfl ?_
  refine g_callSN2v (host := "MuleVote") hc (C_X11_copyRow (kf_9_6 ha0) (kl_9_6 ha0) (kf_9_6 ht) (kl_9_6 ht)) mv_X11_copyRow (by decide +kernel) ⟨by decide, by decide⟩ (Nat.le_of_ble_eq_true rfl) dX9_copyFrom_74 (pc2 := 77) rfl (fun s13 => ?_)
  refine g_rl1 hc dX9_copyFrom_77 rfl (pc2 := 78) rfl ?_
  refine g_getR hc fl_X9_33 rfl ha0 dX9_copyFrom_78 (pc2 := 81) rfl ?_
  refine g_rl0 hc dX9_copyFrom_81 rfl (pc2 := 82) rfl ?_
  refine g_getR hc fl_X9_33 rfl ht dX9_copyFrom_82 (pc2 := 85) rfl ?_
  refine g_callSN2v (host := "MuleVote") hc (C_X11_copyRow (kf_9_7 ha0) (kl_9_7 ha0) (kf_9_7 ht) (kl_9_7 ht)) mv_X11_copyRow (by decide +kernel) ⟨by decide, by decide⟩ (Nat.le_of_ble_eq_true rfl) dX9_copyFrom_85 (pc2 := 88) rfl (fun s15 => ?_)
  refine g_rl0 hc dX9_copyFrom_88 rfl (pc2 := 89) rfl ?_
  refine g_rl1 hc dX9_copyFrom_89 rfl (pc2 := 90) rfl ?_
  refine g_getI hc fl_X9_36 rfl ha0 dX9_copyFrom_90 (pc2 := 93) rfl ?_
  refine g_putI hc fl_X9_36 rfl ht dX9_copyFrom_93 (pc2 := 96) rfl (fun s17 => ?_)
  refine g_rl0 hc dX9_copyFrom_96 rfl (pc2 := 97) rfl ?_
  refine g_rl1 hc dX9_copyFrom_97 rfl (pc2 := 98) rfl ?_
  refine g_getI hc fl_X9_40 rfl ha0 dX9_copyFrom_98 (pc2 := 101) rfl ?_
  refine g_putI hc fl_X9_40 rfl ht dX9_copyFrom_101 (pc2 := 104) rfl (fun s18 => ?_)
  refine g_rl0 hc dX9_copyFrom_104 rfl (pc2 := 105) rfl ?_
  refine g_rl1 hc dX9_copyFrom_105 rfl (pc2 := 106) rfl ?_
  refine g_getI hc fl_X9_43 rfl ha0 dX9_copyFrom_106 (pc2 := 109) rfl ?_
  refine g_putI hc fl_X9_43 rfl ht dX9_copyFrom_109 (pc2 := 112) rfl (fun s19 => ?_)
  refine g_rl0 hc dX9_copyFrom_112 rfl (pc2 := 113) rfl ?_
  refine g_rl1 hc dX9_copyFrom_113 rfl (pc2 := 114) rfl ?_
  refine g_getI hc fl_X9_46 rfl ha0 dX9_copyFrom_114 (pc2 := 117) rfl ?_
  refine g_putI hc fl_X9_46 rfl ht dX9_copyFrom_117 (pc2 := 120) rfl (fun s20 => ?_)
  refine g_rl0 hc dX9_copyFrom_120 rfl (pc2 := 121) rfl ?_
  refine g_rl1 hc dX9_copyFrom_121 rfl (pc2 := 122) rfl ?_
  refine g_getI hc fl_X9_49 rfl ha0 dX9_copyFrom_122 (pc2 := 125) rfl ?_
  refine g_putI hc fl_X9_49 rfl ht dX9_copyFrom_125 (pc2 := 128) rfl (fun s21 => ?_)
  refine g_rl0 hc dX9_copyFrom_128 rfl (pc2 := 129) rfl ?_
  refine g_rl1 hc dX9_copyFrom_129 rfl (pc2 := 130) rfl ?_
  refine g_getI hc fl_X9_52 rfl ha0 dX9_copyFrom_130 (pc2 := 133) rfl ?_
  refine g_putI hc fl_X9_52 rfl ht dX9_copyFrom_133 (pc2 := 136) rfl (fun s22 => ?_)
  refine g_rl0 hc dX9_copyFrom_136 rfl (pc2 := 137) rfl ?_
  refine g_rl1 hc dX9_copyFrom_137 rfl (pc2 := 138) rfl ?_
  refine g_getI hc fl_X9_55 rfl ha0 dX9_copyFrom_138 (pc2 := 141) rfl ?_
  refine g_putI hc fl_X9_55 rfl ht dX9_copyFrom_141 (pc2 := 144) rfl (fun s23 => ?_)
  refine g_rl0 hc dX9_copyFrom_144 rfl (pc2 := 145) rfl ?_
  refine g_rl1 hc dX9_copyFrom_145 rfl (pc2 := 146) rfl ?_
  refine g_getI hc fl_X9_58 rfl ha0 dX9_copyFrom_146 (pc2 := 149) rfl ?_
  refine g_putI hc fl_X9_58 rfl ht dX9_copyFrom_149 (pc2 := 152) rfl (fun s24 => ?_)
  refine g_rl0 hc dX9_copyFrom_152 rfl (pc2 := 153) rfl ?_
  refine g_rl1 hc dX9_copyFrom_153 rfl (pc2 := 154) rfl ?_
  refine g_getI hc fl_X9_61 rfl ha0 dX9_copyFrom_154 (pc2 := 157) rfl ?_
  refine g_putI hc fl_X9_61 rfl ht dX9_copyFrom_157 (pc2 := 160) rfl (fun s25 => ?_)
  refine g_rl0 hc dX9_copyFrom_160 rfl (pc2 := 161) rfl ?_
  refine g_rl1 hc dX9_copyFrom_161 rfl (pc2 := 162) rfl ?_
  refine g_getI hc fl_X9_64 rfl ha0 dX9_copyFrom_162 (pc2 := 165) rfl ?_
  refine g_putI hc fl_X9_64 rfl ht dX9_copyFrom_165 (pc2 := 168) rfl (fun s26 => ?_)
  exact g_vret hc dX9_copyFrom_168
set_option maxRecDepth 100000 in
set_option maxHeartbeats 4000000 in
def f_X1_keep (n : Nat) (t : Nat) (a0 : Nat) (s0 : q_Sto) : Option (Int32 × q_Sto) :=
  if (s0 t 1) < 6 then (
  if (s0 t 1) < 0 then (
  some (0, s0))
  else (
  if (s0 t 1) < 6 then (
  q_ldr s0 (q_RF t 0) (s0 t 1) 6 fun o4 => q_if o4 9 <|
  q_callv (f_X9_copyFrom n o4 a0 s0) fun s5 =>
  q_nS1 (q_up s5 t 1 ((s5 t 1) + 1)) fun s7 =>
  some (0, s7))
  else (
  some (0, s0))))
  else (
  q_callv (f_X1_dropOldest n t s0) fun s8 =>
  if (s8 t 1) < 0 then (
  some (0, s8))
  else (
  if (s8 t 1) < 6 then (
  q_ldr s8 (q_RF t 0) (s8 t 1) 6 fun o12 => q_if o12 9 <|
  q_callv (f_X9_copyFrom n o12 a0 s8) fun s13 =>
  q_nS1 (q_up s13 t 1 ((s13 t 1) + 1)) fun s15 =>
  some (0, s15))
  else (
  some (0, s8))))
set_option maxRecDepth 100000 in
set_option maxHeartbeats 4000000 in
theorem C_X1_keep {l : Launch} {w : q_Wd} {n : Nat} {t : Nat} {a0 : Nat} (ht : q_KD t = .inl 1) (ha0 : q_KD a0 = .inl 9) {s0 : q_Sto} : q_C l w yX1_keep cX1_keep 3 (none) (q_rm 3 122) [q_rf w t, q_rf w a0] s0 (f_X1_keep n t a0 s0) := q_CofG [some (q_rf w t), some (q_rf w a0), none] (by decide +kernel) rfl rfl (Nat.le_of_ble_eq_true rfl) fun cx hl hc => by
  have hc : q_ok w cx RX1 cX1_keep 3 (none) (q_rm 3 122) := hc
  rw [f_X1_keep]
  refine g_rl0 hc dX1_keep_0 rfl (pc2 := 1) rfl ?_
  refine g_getI hc fl_X1_17 rfl ht dX1_keep_1 (pc2 := 4) rfl ?_
  refine g_bipush hc dX1_keep_4 bp_6 (pc2 := 6) rfl ?_
  refine g_icmp_lt hc dX1_keep_6 (pc1 := 13) (pc2 := 9) rfl rfl (fun _ => ?_) (fun _ => ?_)
  · refine g_rl0 hc dX1_keep_13 rfl (pc2 := 14) rfl ?_
    refine g_getI hc fl_X1_17 rfl ht dX1_keep_14 (pc2 := 17) rfl ?_
    refine g_if_lt hc dX1_keep_17 (pc1 := 41) (pc2 := 20) rfl rfl (fun _ => ?_) (fun _ => ?_)
    · refine g_anull hc dX1_keep_41 (pc2 := 42) rfl ?_
      refine g_ns2 hc dX1_keep_42 (by decide) (L2 := [some (q_rf w t), some (q_rf w a0), some (.null)]) rfl (pc2 := 43) rfl ?_
      refine g_nl2 hc dX1_keep_43 rfl (pc2 := 44) rfl ?_
      refine g_ifnullN hc dX1_keep_44 (pc2 := 62) rfl ?_
      exact g_vret hc dX1_keep_62
    · refine g_rl0 hc dX1_keep_20 rfl (pc2 := 21) rfl ?_
      refine g_getI hc fl_X1_17 rfl ht dX1_keep_21 (pc2 := 24) rfl ?_
      refine g_bipush hc dX1_keep_24 bp_6 (pc2 := 26) rfl ?_
      refine g_icmp_ge hc dX1_keep_26 (pc1 := 29) (pc2 := 41) rfl rfl (fun _ => ?_) (fun _ => ?_)
      · refine g_rl0 hc dX1_keep_29 rfl (pc2 := 30) rfl ?_
        refine g_getR hc fl_X1_11 rfl ht dX1_keep_30 (pc2 := 33) rfl ?_
        refine g_rl0 hc dX1_keep_33 rfl (pc2 := 34) rfl ?_
        refine g_getI hc fl_X1_17 rfl ht dX1_keep_34 (pc2 := 37) rfl ?_
        refine g_aald hc (kf_1_0 ht) (kl_1_0 ht) dX1_keep_37 (pc2 := 38) rfl (fun o4 => ?_)
        refine g_if (fun ho4 => ?_)
        refine g_goto hc dX1_keep_38 (pc2 := 42) rfl ?_
        refine g_rs2 hc dX1_keep_42 (by decide) (L2 := [some (q_rf w t), some (q_rf w a0), some (q_rf w o4)]) rfl (pc2 := 43) rfl ?_
        refine g_rl2 hc dX1_keep_43 rfl (pc2 := 44) rfl ?_
        refine g_ifnull hc dX1_keep_44 (pc2 := 47) rfl ?_
        refine g_rl2 hc dX1_keep_47 rfl (pc2 := 48) rfl ?_
        refine g_rl1 hc dX1_keep_48 rfl (pc2 := 49) rfl ?_
        refine g_callV1v hc (C_X9_copyFrom ho4 ha0) mv_X9_copyFrom ln_X1_25 ho4 ⟨by decide, by decide⟩ (Nat.le_of_ble_eq_true rfl) dX1_keep_49 (pc2 := 52) rfl (fun s5 => ?_)
        refine g_rl0 hc dX1_keep_52 rfl (pc2 := 53) rfl ?_
        refine g_dup hc dX1_keep_53 rfl (pc2 := 54) rfl ?_
        refine g_getI hc fl_X1_17 rfl ht dX1_keep_54 (pc2 := 57) rfl ?_
        refine g_iconst hc dX1_keep_57 ic_1 (pc2 := 58) rfl ?_
        refine g_iadd hc dX1_keep_58 (pc2 := 59) rfl ?_
        refine g_putI hc fl_X1_17 rfl ht dX1_keep_59 (pc2 := 62) rfl (fun s7 => ?_)
        exact g_vret hc dX1_keep_62
      · refine g_anull hc dX1_keep_41 (pc2 := 42) rfl ?_
        refine g_ns2 hc dX1_keep_42 (by decide) (L2 := [some (q_rf w t), some (q_rf w a0), some (.null)]) rfl (pc2 := 43) rfl ?_
        refine g_nl2 hc dX1_keep_43 rfl (pc2 := 44) rfl ?_
        refine g_ifnullN hc dX1_keep_44 (pc2 := 62) rfl ?_
        exact g_vret hc dX1_keep_62
  · refine g_rl0 hc dX1_keep_9 rfl (pc2 := 10) rfl ?_
    refine g_callV0v hc (C_X1_dropOldest ht) mv_X1_dropOldest ln_X1_22 ht ⟨by decide, by decide⟩ (Nat.le_of_ble_eq_true rfl) dX1_keep_10 (pc2 := 13) rfl (fun s8 => ?_)
    refine g_rl0 hc dX1_keep_13 rfl (pc2 := 14) rfl ?_
    refine g_getI hc fl_X1_17 rfl ht dX1_keep_14 (pc2 := 17) rfl ?_
    refine g_if_lt hc dX1_keep_17 (pc1 := 41) (pc2 := 20) rfl rfl (fun _ => ?_) (fun _ => ?_)
    · refine g_anull hc dX1_keep_41 (pc2 := 42) rfl ?_
      refine g_ns2 hc dX1_keep_42 (by decide) (L2 := [some (q_rf w t), some (q_rf w a0), some (.null)]) rfl (pc2 := 43) rfl ?_
      refine g_nl2 hc dX1_keep_43 rfl (pc2 := 44) rfl ?_
      refine g_ifnullN hc dX1_keep_44 (pc2 := 62) rfl ?_
      exact g_vret hc dX1_keep_62
    · refine g_rl0 hc dX1_keep_20 rfl (pc2 := 21) rfl ?_
      refine g_getI hc fl_X1_17 rfl ht dX1_keep_21 (pc2 := 24) rfl ?_
      refine g_bipush hc dX1_keep_24 bp_6 (pc2 := 26) rfl ?_
      refine g_icmp_ge hc dX1_keep_26 (pc1 := 29) (pc2 := 41) rfl rfl (fun _ => ?_) (fun _ => ?_)
      · refine g_rl0 hc dX1_keep_29 rfl (pc2 := 30) rfl ?_
        refine g_getR hc fl_X1_11 rfl ht dX1_keep_30 (pc2 := 33) rfl ?_
        refine g_rl0 hc dX1_keep_33 rfl (pc2 := 34) rfl ?_
        refine g_getI hc fl_X1_17 rfl ht dX1_keep_34 (pc2 := 37) rfl ?_
        refine g_aald hc (kf_1_0 ht) (kl_1_0 ht) dX1_keep_37 (pc2 := 38) rfl (fun o12 => ?_)
        refine g_if (fun ho12 => ?_)
        refine g_goto hc dX1_keep_38 (pc2 := 42) rfl ?_
        refine g_rs2 hc dX1_keep_42 (by decide) (L2 := [some (q_rf w t), some (q_rf w a0), some (q_rf w o12)]) rfl (pc2 := 43) rfl ?_
        refine g_rl2 hc dX1_keep_43 rfl (pc2 := 44) rfl ?_
        refine g_ifnull hc dX1_keep_44 (pc2 := 47) rfl ?_
        refine g_rl2 hc dX1_keep_47 rfl (pc2 := 48) rfl ?_
        refine g_rl1 hc dX1_keep_48 rfl (pc2 := 49) rfl ?_
        refine g_callV1v hc (C_X9_copyFrom ho12 ha0) mv_X9_copyFrom ln_X1_25 ho12 ⟨by decide, by decide⟩ (Nat.le_of_ble_eq_true rfl) dX1_keep_49 (pc2 := 52) rfl (fun s13 => ?_)
        refine g_rl0 hc dX1_keep_52 rfl (pc2 := 53) rfl ?_
        refine g_dup hc dX1_keep_53 rfl (pc2 := 54) rfl ?_
        refine g_getI hc fl_X1_17 rfl ht dX1_keep_54 (pc2 := 57) rfl ?_
        refine g_iconst hc dX1_keep_57 ic_1 (pc2 := 58) rfl ?_
        refine g_iadd hc dX1_keep_58 (pc2 := 59) rfl ?_
        refine g_putI hc fl_X1_17 rfl ht dX1_keep_59 (pc2 := 62) rfl (fun s15 => ?_)
        exact g_vret hc dX1_keep_62
      · refine g_anull hc dX1_keep_41 (pc2 := 42) rfl ?_
        refine g_ns2 hc dX1_keep_42 (by decide) (L2 := [some (q_rf w t), some (q_rf w a0), some (.null)]) rfl (pc2 := 43) rfl ?_
        refine g_nl2 hc dX1_keep_43 rfl (pc2 := 44) rfl ?_
        refine g_ifnullN hc dX1_keep_44 (pc2 := 62) rfl ?_
        exact g_vret hc dX1_keep_62
set_option maxRecDepth 100000 in
set_option maxHeartbeats 4000000 in
def f_X1_giveBack (n : Nat) (t : Nat) (a0 : Nat) (s0 : q_Sto) : Option (Int32 × q_Sto) :=
  if (s0 t 1) ≤ 0 then (
  some (0, s0))
  else (
  if (s0 t 1) ≤ 6 then (
  q_ldr s0 (q_RF t 0) ((s0 t 1) - 1) 6 fun o3 => q_if o3 9 <|
  q_callv (f_X9_copyFrom n a0 o3 s0) fun s4 =>
  q_nS1 (q_up s4 t 1 ((s4 t 1) - 1)) fun s6 =>
  some (1, s6))
  else (
  some (0, s0)))
set_option maxRecDepth 100000 in
set_option maxHeartbeats 4000000 in
theorem C_X1_giveBack {l : Launch} {w : q_Wd} {n : Nat} {t : Nat} {a0 : Nat} (ht : q_KD t = .inl 1) (ha0 : q_KD a0 = .inl 9) {s0 : q_Sto} : q_C l w yX1_giveBack cX1_giveBack 3 (some .boolean) (q_rm 3 122) [q_rf w t, q_rf w a0] s0 (f_X1_giveBack n t a0 s0) := q_CofG [some (q_rf w t), some (q_rf w a0), none] (by decide +kernel) rfl rfl (Nat.le_of_ble_eq_true rfl) fun cx hl hc => by
  have hc : q_ok w cx RX1 cX1_giveBack 3 (some .boolean) (q_rm 3 122) := hc
  rw [f_X1_giveBack]
  refine g_rl0 hc dX1_giveBack_0 rfl (pc2 := 1) rfl ?_
  refine g_getI hc fl_X1_17 rfl ht dX1_giveBack_1 (pc2 := 4) rfl ?_
  refine g_if_le hc dX1_giveBack_4 (pc1 := 30) (pc2 := 7) rfl rfl (fun _ => ?_) (fun _ => ?_)
  · refine g_anull hc dX1_giveBack_30 (pc2 := 31) rfl ?_
    refine g_ns2 hc dX1_giveBack_31 (by decide) (L2 := [some (q_rf w t), some (q_rf w a0), some (.null)]) rfl (pc2 := 32) rfl ?_
    refine g_nl2 hc dX1_giveBack_32 rfl (pc2 := 33) rfl ?_
    refine g_ifnonnullN hc dX1_giveBack_33 (pc2 := 36) rfl ?_
    refine g_iconst hc dX1_giveBack_36 ic_0 (pc2 := 37) rfl ?_
    exact g_zret0 (by decide) hc dX1_giveBack_37
  · refine g_rl0 hc dX1_giveBack_7 rfl (pc2 := 8) rfl ?_
    refine g_getI hc fl_X1_17 rfl ht dX1_giveBack_8 (pc2 := 11) rfl ?_
    refine g_bipush hc dX1_giveBack_11 bp_6 (pc2 := 13) rfl ?_
    refine g_icmp_gt hc dX1_giveBack_13 (pc1 := 16) (pc2 := 30) rfl rfl (fun _ => ?_) (fun _ => ?_)
    · refine g_rl0 hc dX1_giveBack_16 rfl (pc2 := 17) rfl ?_
      refine g_getR hc fl_X1_11 rfl ht dX1_giveBack_17 (pc2 := 20) rfl ?_
      refine g_rl0 hc dX1_giveBack_20 rfl (pc2 := 21) rfl ?_
      refine g_getI hc fl_X1_17 rfl ht dX1_giveBack_21 (pc2 := 24) rfl ?_
      refine g_iconst hc dX1_giveBack_24 ic_1 (pc2 := 25) rfl ?_
      refine g_isub hc dX1_giveBack_25 (pc2 := 26) rfl ?_
      refine g_aald hc (kf_1_0 ht) (kl_1_0 ht) dX1_giveBack_26 (pc2 := 27) rfl (fun o3 => ?_)
      refine g_if (fun ho3 => ?_)
      refine g_goto hc dX1_giveBack_27 (pc2 := 31) rfl ?_
      refine g_rs2 hc dX1_giveBack_31 (by decide) (L2 := [some (q_rf w t), some (q_rf w a0), some (q_rf w o3)]) rfl (pc2 := 32) rfl ?_
      refine g_rl2 hc dX1_giveBack_32 rfl (pc2 := 33) rfl ?_
      refine g_ifnonnull hc dX1_giveBack_33 (pc2 := 38) rfl ?_
      refine g_rl1 hc dX1_giveBack_38 rfl (pc2 := 39) rfl ?_
      refine g_rl2 hc dX1_giveBack_39 rfl (pc2 := 40) rfl ?_
      refine g_callV1v hc (C_X9_copyFrom ha0 ho3) mv_X9_copyFrom ln_X1_25 ha0 ⟨by decide, by decide⟩ (Nat.le_of_ble_eq_true rfl) dX1_giveBack_40 (pc2 := 43) rfl (fun s4 => ?_)
      refine g_rl0 hc dX1_giveBack_43 rfl (pc2 := 44) rfl ?_
      refine g_dup hc dX1_giveBack_44 rfl (pc2 := 45) rfl ?_
      refine g_getI hc fl_X1_17 rfl ht dX1_giveBack_45 (pc2 := 48) rfl ?_
      refine g_iconst hc dX1_giveBack_48 ic_1 (pc2 := 49) rfl ?_
      refine g_isub hc dX1_giveBack_49 (pc2 := 50) rfl ?_
      refine g_putI hc fl_X1_17 rfl ht dX1_giveBack_50 (pc2 := 53) rfl (fun s6 => ?_)
      refine g_iconst hc dX1_giveBack_53 ic_1 (pc2 := 54) rfl ?_
      exact g_zret0 (by decide) hc dX1_giveBack_54
    · refine g_anull hc dX1_giveBack_30 (pc2 := 31) rfl ?_
      refine g_ns2 hc dX1_giveBack_31 (by decide) (L2 := [some (q_rf w t), some (q_rf w a0), some (.null)]) rfl (pc2 := 32) rfl ?_
      refine g_nl2 hc dX1_giveBack_32 rfl (pc2 := 33) rfl ?_
      refine g_ifnonnullN hc dX1_giveBack_33 (pc2 := 36) rfl ?_
      refine g_iconst hc dX1_giveBack_36 ic_0 (pc2 := 37) rfl ?_
      exact g_zret0 (by decide) hc dX1_giveBack_37
set_option maxRecDepth 100000 in
set_option maxHeartbeats 4000000 in
def f_X2_clear (n : Nat) (t : Nat) (s0 : q_Sto) : Option (Int32 × q_Sto) :=
  q_nS1 (q_up s0 t 7 0) fun s1 =>
  q_nS1 (q_up s1 t 8 0) fun s2 =>
  some (0, s2)
set_option maxRecDepth 100000 in
set_option maxHeartbeats 4000000 in
theorem C_X2_clear {l : Launch} {w : q_Wd} {n : Nat} {t : Nat} (ht : q_KD t = .inl 2) {s0 : q_Sto} : q_C l w yX2_clear cX2_clear 1 (none) (q_rm 0 0) [q_rf w t] s0 (f_X2_clear n t s0) := q_CofG [some (q_rf w t)] (by decide +kernel) rfl rfl (Nat.le_of_ble_eq_true rfl) fun cx hl hc => by
  have hc : q_ok w cx RX2 cX2_clear 1 (none) (q_rm 0 0) := hc
  rw [f_X2_clear]
  refine g_rl0 hc dX2_clear_0 rfl (pc2 := 1) rfl ?_
  refine g_iconst hc dX2_clear_1 ic_0 (pc2 := 2) rfl ?_
  refine g_putI hc fl_X2_33 rfl ht dX2_clear_2 (pc2 := 5) rfl (fun s1 => ?_)
  refine g_rl0 hc dX2_clear_5 rfl (pc2 := 6) rfl ?_
  refine g_iconst hc dX2_clear_6 ic_0 (pc2 := 7) rfl ?_
  refine g_putI hc fl_X2_37 rfl ht dX2_clear_7 (pc2 := 10) rfl (fun s2 => ?_)
  exact g_vret hc dX2_clear_10
set_option maxRecDepth 100000 in
set_option maxHeartbeats 4000000 in
def f_X2_copyFrom (n : Nat) (t : Nat) (a0 : Nat) (s0 : q_Sto) : Option (Int32 × q_Sto) :=
  q_callv (f_X11_copyRow n (q_RF a0 0) 16 (q_RF t 0) 16 s0) fun s1 =>
  q_callv (f_X11_copyRow n (q_RF a0 1) 16 (q_RF t 1) 16 s1) fun s3 =>
  q_callv (f_X11_copyRow n (q_RF a0 2) 16 (q_RF t 2) 16 s3) fun s5 =>
  q_callv (f_X11_copyRow n (q_RF a0 3) 16 (q_RF t 3) 16 s5) fun s7 =>
  q_callv (f_X11_copyRow n (q_RF a0 4) 400 (q_RF t 4) 400 s7) fun s9 =>
  q_callv (f_X11_copyRow n (q_RF a0 5) 400 (q_RF t 5) 400 s9) fun s11 =>
  q_nS1 (q_up s11 t 7 (s11 a0 7)) fun s13 =>
  q_nS1 (q_up s13 t 8 (s13 a0 8)) fun s14 =>
  some (0, s14)
set_option maxRecDepth 100000 in
set_option maxHeartbeats 4000000 in
theorem C_X2_copyFrom {l : Launch} {w : q_Wd} {n : Nat} {t : Nat} {a0 : Nat} (ht : q_KD t = .inl 2) (ha0 : q_KD a0 = .inl 2) {s0 : q_Sto} : q_C l w yX2_copyFrom cX2_copyFrom 2 (none) (q_rm 2 101) [q_rf w t, q_rf w a0] s0 (f_X2_copyFrom n t a0 s0) := q_CofG [some (q_rf w t), some (q_rf w a0)] (by decide +kernel) rfl rfl (Nat.le_of_ble_eq_true rfl) fun cx hl hc => by
  have hc : q_ok w cx RX2 cX2_copyFrom 2 (none) (q_rm 2 101) := hc
  rw [f_X2_copyFrom]
  refine g_rl1 hc dX2_copyFrom_0 rfl (pc2 := 1) rfl ?_
  refine g_getR hc fl_X2_9 rfl ha0 dX2_copyFrom_1 (pc2 := 4) rfl ?_
  refine g_rl0 hc dX2_copyFrom_4 rfl (pc2 := 5) rfl ?_
  refine g_getR hc fl_X2_9 rfl ht dX2_copyFrom_5 (pc2 := 8) rfl ?_
  refine g_callSN2v (host := "MuleVote") hc (C_X11_copyRow (kf_2_0 ha0) (kl_2_0 ha0) (kf_2_0 ht) (kl_2_0 ht)) mv_X11_copyRow (by decide +kernel) ⟨by decide, by decide⟩ (Nat.le_of_ble_eq_true rfl) dX2_copyFrom_8 (pc2 := 11) rfl (fun s1 => ?_)
  refine g_rl1 hc dX2_copyFrom_11 rfl (pc2 := 12) rfl ?_
  refine g_getR hc fl_X2_15 rfl ha0 dX2_copyFrom_12 (pc2 := 15) rfl ?_
  refine g_rl0 hc dX2_copyFrom_15 rfl (pc2 := 16) rfl ?_
  refine g_getR hc fl_X2_15 rfl ht dX2_copyFrom_16 (pc2 := 19) rfl ?_
  refine g_callSN2v (host := "MuleVote") hc (C_X11_copyRow (kf_2_1 ha0) (kl_2_1 ha0) (kf_2_1 ht) (kl_2_1 ht)) mv_X11_copyRow (by decide +kernel) ⟨by decide, by decide⟩ (Nat.le_of_ble_eq_true rfl) dX2_copyFrom_19 (pc2 := 22) rfl (fun s3 => ?_)
  refine g_rl1 hc dX2_copyFrom_22 rfl (pc2 := 23) rfl ?_
  refine g_getR hc fl_X2_18 rfl ha0 dX2_copyFrom_23 (pc2 := 26) rfl ?_
  refine g_rl0 hc dX2_copyFrom_26 rfl (pc2 := 27) rfl ?_
  refine g_getR hc fl_X2_18 rfl ht dX2_copyFrom_27 (pc2 := 30) rfl ?_
  refine g_callSN2v (host := "MuleVote") hc (C_X11_copyRow (kf_2_2 ha0) (kl_2_2 ha0) (kf_2_2 ht) (kl_2_2 ht)) mv_X11_copyRow (by decide +kernel) ⟨by decide, by decide⟩ (Nat.le_of_ble_eq_true rfl) dX2_copyFrom_30 (pc2 := 33) rfl (fun s5 => ?_)
  refine g_rl1 hc dX2_copyFrom_33 rfl (pc2 := 34) rfl ?_
  refine g_getR hc fl_X2_21 rfl ha0 dX2_copyFrom_34 (pc2 := 37) rfl ?_
  refine g_rl0 hc dX2_copyFrom_37 rfl (pc2 := 38) rfl ?_
  refine g_getR hc fl_X2_21 rfl ht dX2_copyFrom_38 (pc2 := 41) rfl ?_
  refine g_callSN2v (host := "MuleVote") hc (C_X11_copyRow (kf_2_3 ha0) (kl_2_3 ha0) (kf_2_3 ht) (kl_2_3 ht)) mv_X11_copyRow (by decide +kernel) ⟨by decide, by decide⟩ (Nat.le_of_ble_eq_true rfl) dX2_copyFrom_41 (pc2 := 44) rfl (fun s7 => ?_)
  refine g_rl1 hc dX2_copyFrom_44 rfl (pc2 := 45) rfl ?_
  refine g_getR hc fl_X2_24 rfl ha0 dX2_copyFrom_45 (pc2 := 48) rfl ?_
  refine g_rl0 hc dX2_copyFrom_48 rfl (pc2 := 49) rfl ?_
  refine g_getR hc fl_X2_24 rfl ht dX2_copyFrom_49 (pc2 := 52) rfl ?_
  refine g_callSN2v (host := "MuleVote") hc (C_X11_copyRow (kf_2_4 ha0) (kl_2_4 ha0) (kf_2_4 ht) (kl_2_4 ht)) mv_X11_copyRow (by decide +kernel) ⟨by decide, by decide⟩ (Nat.le_of_ble_eq_true rfl) dX2_copyFrom_52 (pc2 := 55) rfl (fun s9 => ?_)
  refine g_rl1 hc dX2_copyFrom_55 rfl (pc2 := 56) rfl ?_
  refine g_getR hc fl_X2_27 rfl ha0 dX2_copyFrom_56 (pc2 := 59) rfl ?_
  refine g_rl0 hc dX2_copyFrom_59 rfl (pc2 := 60) rfl ?_
  refine g_getR hc fl_X2_27 rfl ht dX2_copyFrom_60 (pc2 := 63) rfl ?_
  refine g_callSN2v (host := "MuleVote") hc (C_X11_copyRow (kf_2_5 ha0) (kl_2_5 ha0) (kf_2_5 ht) (kl_2_5 ht)) mv_X11_copyRow (by decide +kernel) ⟨by decide, by decide⟩ (Nat.le_of_ble_eq_true rfl) dX2_copyFrom_63 (pc2 := 66) rfl (fun s11 => ?_)
  refine g_rl0 hc dX2_copyFrom_66 rfl (pc2 := 67) rfl ?_
  refine g_rl1 hc dX2_copyFrom_67 rfl (pc2 := 68) rfl ?_
  refine g_getI hc fl_X2_33 rfl ha0 dX2_copyFrom_68 (pc2 := 71) rfl ?_
  refine g_putI hc fl_X2_33 rfl ht dX2_copyFrom_71 (pc2 := 74) rfl (fun s13 => ?_)
  refine g_rl0 hc dX2_copyFrom_74 rfl (pc2 := 75) rfl ?_
  refine g_rl1 hc dX2_copyFrom_75 rfl (pc2 := 76) rfl ?_
  refine g_getI hc fl_X2_37 rfl ha0 dX2_copyFrom_76 (pc2 := 79) rfl ?_
  refine g_putI hc fl_X2_37 rfl ht dX2_copyFrom_79 (pc2 := 82) rfl (fun s14 => ?_)
  exact g_vret hc dX2_copyFrom_82
set_option maxRecDepth 100000 in
set_option maxHeartbeats 4000000 in
def f_X2_isFull (n : Nat) (t : Nat) (s0 : q_Sto) : Option (Int32 × q_Sto) :=
  if (s0 t 8) < 16 then (
  some (0, s0))
  else (
  some (1, s0))
set_option maxRecDepth 100000 in
set_option maxHeartbeats 4000000 in
theorem C_X2_isFull {l : Launch} {w : q_Wd} {n : Nat} {t : Nat} (ht : q_KD t = .inl 2) {s0 : q_Sto} : q_C l w yX2_isFull cX2_isFull 1 (some .boolean) (q_rm 0 0) [q_rf w t] s0 (f_X2_isFull n t s0) := q_CofG [some (q_rf w t)] (by decide +kernel) rfl rfl (Nat.le_of_ble_eq_true rfl) fun cx hl hc => by
  have hc : q_ok w cx RX2 cX2_isFull 1 (some .boolean) (q_rm 0 0) := hc
  rw [f_X2_isFull]
  refine g_rl0 hc dX2_isFull_0 rfl (pc2 := 1) rfl ?_
  refine g_getI hc fl_X2_37 rfl ht dX2_isFull_1 (pc2 := 4) rfl ?_
  refine g_bipush hc dX2_isFull_4 bp_16 (pc2 := 6) rfl ?_
  refine g_icmp_lt hc dX2_isFull_6 (pc1 := 13) (pc2 := 9) rfl rfl (fun _ => ?_) (fun _ => ?_)
  · refine g_iconst hc dX2_isFull_13 ic_0 (pc2 := 14) rfl ?_
    exact g_zret0 (by decide) hc dX2_isFull_14
  · refine g_iconst hc dX2_isFull_9 ic_1 (pc2 := 10) rfl ?_
    refine g_goto hc dX2_isFull_10 (pc2 := 14) rfl ?_
    exact g_zret0 (by decide) hc dX2_isFull_14
set_option maxRecDepth 100000 in
set_option maxHeartbeats 4000000 in
def f_X2_beginLine (n : Nat) (t : Nat) (a0 : Int32) (s0 : q_Sto) : Option (Int32 × q_Sto) :=
  if (s0 t 8) < 0 then (
  some (0, s0))
  else (
  if (s0 t 8) < 16 then (
  q_st s0 (q_RF t 0) (s0 t 8) 16 a0 fun s3 =>
  q_st s3 (q_RF t 1) (s3 t 8) 16 (s3 t 7) fun s4 =>
  q_st s4 (q_RF t 2) (s4 t 8) 16 (-1) fun s5 =>
  some (0, s5))
  else (
  some (0, s0)))
set_option maxRecDepth 100000 in
set_option maxHeartbeats 4000000 in
theorem C_X2_beginLine {l : Launch} {w : q_Wd} {n : Nat} {t : Nat} {a0 : Int32} (ht : q_KD t = .inl 2) {s0 : q_Sto} : q_C l w yX2_beginLine cX2_beginLine 2 (none) (q_rm 0 0) [q_rf w t, .int a0] s0 (f_X2_beginLine n t a0 s0) := q_CofG [some (q_rf w t), some (.int a0)] (by decide +kernel) rfl rfl (Nat.le_of_ble_eq_true rfl) fun cx hl hc => by
  have hc : q_ok w cx RX2 cX2_beginLine 2 (none) (q_rm 0 0) := hc
  rw [f_X2_beginLine]
  refine g_rl0 hc dX2_beginLine_0 rfl (pc2 := 1) rfl ?_
  refine g_getI hc fl_X2_37 rfl ht dX2_beginLine_1 (pc2 := 4) rfl ?_
  refine g_if_lt hc dX2_beginLine_4 (pc1 := 49) (pc2 := 7) rfl rfl (fun _ => ?_) (fun _ => ?_)
  · exact g_vret hc dX2_beginLine_49
  · refine g_rl0 hc dX2_beginLine_7 rfl (pc2 := 8) rfl ?_
    refine g_getI hc fl_X2_37 rfl ht dX2_beginLine_8 (pc2 := 11) rfl ?_
    refine g_bipush hc dX2_beginLine_11 bp_16 (pc2 := 13) rfl ?_
    refine g_icmp_ge hc dX2_beginLine_13 (pc1 := 16) (pc2 := 49) rfl rfl (fun _ => ?_) (fun _ => ?_)
    · refine g_rl0 hc dX2_beginLine_16 rfl (pc2 := 17) rfl ?_
      refine g_getR hc fl_X2_9 rfl ht dX2_beginLine_17 (pc2 := 20) rfl ?_
      refine g_rl0 hc dX2_beginLine_20 rfl (pc2 := 21) rfl ?_
      refine g_getI hc fl_X2_37 rfl ht dX2_beginLine_21 (pc2 := 24) rfl ?_
      refine g_il1 hc dX2_beginLine_24 rfl (pc2 := 25) rfl ?_
      refine g_iast hc (kf_2_0 ht) (kl_2_0 ht) dX2_beginLine_25 (pc2 := 26) rfl (fun s3 => ?_)
      refine g_rl0 hc dX2_beginLine_26 rfl (pc2 := 27) rfl ?_
      refine g_getR hc fl_X2_15 rfl ht dX2_beginLine_27 (pc2 := 30) rfl ?_
      refine g_rl0 hc dX2_beginLine_30 rfl (pc2 := 31) rfl ?_
      refine g_getI hc fl_X2_37 rfl ht dX2_beginLine_31 (pc2 := 34) rfl ?_
      refine g_rl0 hc dX2_beginLine_34 rfl (pc2 := 35) rfl ?_
      refine g_getI hc fl_X2_33 rfl ht dX2_beginLine_35 (pc2 := 38) rfl ?_
      refine g_iast hc (kf_2_1 ht) (kl_2_1 ht) dX2_beginLine_38 (pc2 := 39) rfl (fun s4 => ?_)
      refine g_rl0 hc dX2_beginLine_39 rfl (pc2 := 40) rfl ?_
      refine g_getR hc fl_X2_18 rfl ht dX2_beginLine_40 (pc2 := 43) rfl ?_
      refine g_rl0 hc dX2_beginLine_43 rfl (pc2 := 44) rfl ?_
      refine g_getI hc fl_X2_37 rfl ht dX2_beginLine_44 (pc2 := 47) rfl ?_
      refine g_iconst hc dX2_beginLine_47 ic_m1 (pc2 := 48) rfl ?_
      refine g_iast hc (kf_2_2 ht) (kl_2_2 ht) dX2_beginLine_48 (pc2 := 49) rfl (fun s5 => ?_)
      exact g_vret hc dX2_beginLine_49
    · exact g_vret hc dX2_beginLine_49
set_option maxRecDepth 100000 in
set_option maxHeartbeats 4000000 in
def f_X2_beginWhen (n : Nat) (t : Nat) (s0 : q_Sto) : Option (Int32 × q_Sto) :=
  if (s0 t 8) < 0 then (
  some (0, s0))
  else (
  if (s0 t 8) < 16 then (
  q_st s0 (q_RF t 2) (s0 t 8) 16 (s0 t 7) fun s3 =>
  some (0, s3))
  else (
  some (0, s0)))
set_option maxRecDepth 100000 in
set_option maxHeartbeats 4000000 in
theorem C_X2_beginWhen {l : Launch} {w : q_Wd} {n : Nat} {t : Nat} (ht : q_KD t = .inl 2) {s0 : q_Sto} : q_C l w yX2_beginWhen cX2_beginWhen 1 (none) (q_rm 0 0) [q_rf w t] s0 (f_X2_beginWhen n t s0) := q_CofG [some (q_rf w t)] (by decide +kernel) rfl rfl (Nat.le_of_ble_eq_true rfl) fun cx hl hc => by
  have hc : q_ok w cx RX2 cX2_beginWhen 1 (none) (q_rm 0 0) := hc
  rw [f_X2_beginWhen]
  refine g_rl0 hc dX2_beginWhen_0 rfl (pc2 := 1) rfl ?_
  refine g_getI hc fl_X2_37 rfl ht dX2_beginWhen_1 (pc2 := 4) rfl ?_
  refine g_if_lt hc dX2_beginWhen_4 (pc1 := 29) (pc2 := 7) rfl rfl (fun _ => ?_) (fun _ => ?_)
  · exact g_vret hc dX2_beginWhen_29
  · refine g_rl0 hc dX2_beginWhen_7 rfl (pc2 := 8) rfl ?_
    refine g_getI hc fl_X2_37 rfl ht dX2_beginWhen_8 (pc2 := 11) rfl ?_
    refine g_bipush hc dX2_beginWhen_11 bp_16 (pc2 := 13) rfl ?_
    refine g_icmp_ge hc dX2_beginWhen_13 (pc1 := 16) (pc2 := 29) rfl rfl (fun _ => ?_) (fun _ => ?_)
    · refine g_rl0 hc dX2_beginWhen_16 rfl (pc2 := 17) rfl ?_
      refine g_getR hc fl_X2_18 rfl ht dX2_beginWhen_17 (pc2 := 20) rfl ?_
      refine g_rl0 hc dX2_beginWhen_20 rfl (pc2 := 21) rfl ?_
      refine g_getI hc fl_X2_37 rfl ht dX2_beginWhen_21 (pc2 := 24) rfl ?_
      refine g_rl0 hc dX2_beginWhen_24 rfl (pc2 := 25) rfl ?_
      refine g_getI hc fl_X2_33 rfl ht dX2_beginWhen_25 (pc2 := 28) rfl ?_
      refine g_iast hc (kf_2_2 ht) (kl_2_2 ht) dX2_beginWhen_28 (pc2 := 29) rfl (fun s3 => ?_)
      exact g_vret hc dX2_beginWhen_29
    · exact g_vret hc dX2_beginWhen_29
set_option maxRecDepth 100000 in
set_option maxHeartbeats 4000000 in
def f_X2_endLine (n : Nat) (t : Nat) (s0 : q_Sto) : Option (Int32 × q_Sto) :=
  if (s0 t 8) < 0 then (
  some (0, s0))
  else (
  if (s0 t 8) < 16 then (
  q_st s0 (q_RF t 3) (s0 t 8) 16 (s0 t 7) fun s3 =>
  q_nS1 (q_up s3 t 8 ((s3 t 8) + 1)) fun s4 =>
  some (0, s4))
  else (
  some (0, s0)))
set_option maxRecDepth 100000 in
set_option maxHeartbeats 4000000 in
theorem C_X2_endLine {l : Launch} {w : q_Wd} {n : Nat} {t : Nat} (ht : q_KD t = .inl 2) {s0 : q_Sto} : q_C l w yX2_endLine cX2_endLine 1 (none) (q_rm 0 0) [q_rf w t] s0 (f_X2_endLine n t s0) := q_CofG [some (q_rf w t)] (by decide +kernel) rfl rfl (Nat.le_of_ble_eq_true rfl) fun cx hl hc => by
  have hc : q_ok w cx RX2 cX2_endLine 1 (none) (q_rm 0 0) := hc
  rw [f_X2_endLine]
  refine g_rl0 hc dX2_endLine_0 rfl (pc2 := 1) rfl ?_
  refine g_getI hc fl_X2_37 rfl ht dX2_endLine_1 (pc2 := 4) rfl ?_
  refine g_if_lt hc dX2_endLine_4 (pc1 := 39) (pc2 := 7) rfl rfl (fun _ => ?_) (fun _ => ?_)
  · exact g_vret hc dX2_endLine_39
  · refine g_rl0 hc dX2_endLine_7 rfl (pc2 := 8) rfl ?_
    refine g_getI hc fl_X2_37 rfl ht dX2_endLine_8 (pc2 := 11) rfl ?_
    refine g_bipush hc dX2_endLine_11 bp_16 (pc2 := 13) rfl ?_
    refine g_icmp_ge hc dX2_endLine_13 (pc1 := 16) (pc2 := 39) rfl rfl (fun _ => ?_) (fun _ => ?_)
    · refine g_rl0 hc dX2_endLine_16 rfl (pc2 := 17) rfl ?_
      refine g_getR hc fl_X2_21 rfl ht dX2_endLine_17 (pc2 := 20) rfl ?_
      refine g_rl0 hc dX2_endLine_20 rfl (pc2 := 21) rfl ?_
      refine g_getI hc fl_X2_37 rfl ht dX2_endLine_21 (pc2 := 24) rfl ?_
      refine g_rl0 hc dX2_endLine_24 rfl (pc2 := 25) rfl ?_
      refine g_getI hc fl_X2_33 rfl ht dX2_endLine_25 (pc2 := 28) rfl ?_
      refine g_iast hc (kf_2_3 ht) (kl_2_3 ht) dX2_endLine_28 (pc2 := 29) rfl (fun s3 => ?_)
      refine g_rl0 hc dX2_endLine_29 rfl (pc2 := 30) rfl ?_
      refine g_dup hc dX2_endLine_30 rfl (pc2 := 31) rfl ?_
      refine g_getI hc fl_X2_37 rfl ht dX2_endLine_31 (pc2 := 34) rfl ?_
      refine g_iconst hc dX2_endLine_34 ic_1 (pc2 := 35) rfl ?_
      refine g_iadd hc dX2_endLine_35 (pc2 := 36) rfl ?_
      refine g_putI hc fl_X2_37 rfl ht dX2_endLine_36 (pc2 := 39) rfl (fun s4 => ?_)
      exact g_vret hc dX2_endLine_39
    · exact g_vret hc dX2_endLine_39
set_option maxRecDepth 100000 in
set_option maxHeartbeats 4000000 in
def f_X2_emit (n : Nat) (t : Nat) (a0 : Int32) (a1 : Int32) (s0 : q_Sto) : Option (Int32 × q_Sto) :=
  if (s0 t 7) < 0 then (
  some (0, s0))
  else (
  if (s0 t 7) < 400 then (
  q_st s0 (q_RF t 4) (s0 t 7) 400 a0 fun s3 =>
  q_st s3 (q_RF t 5) (s3 t 7) 400 a1 fun s4 =>
  q_nS1 (q_up s4 t 7 ((s4 t 7) + 1)) fun s5 =>
  some (0, s5))
  else (
  some (0, s0)))
set_option maxRecDepth 100000 in
set_option maxHeartbeats 4000000 in
theorem C_X2_emit {l : Launch} {w : q_Wd} {n : Nat} {t : Nat} {a0 : Int32} {a1 : Int32} (ht : q_KD t = .inl 2) {s0 : q_Sto} : q_C l w yX2_emit cX2_emit 3 (none) (q_rm 0 0) [q_rf w t, .int a0, .int a1] s0 (f_X2_emit n t a0 a1 s0) := q_CofG [some (q_rf w t), some (.int a0), some (.int a1)] (by decide +kernel) rfl rfl (Nat.le_of_ble_eq_true rfl) fun cx hl hc => by
  have hc : q_ok w cx RX2 cX2_emit 3 (none) (q_rm 0 0) := hc
  rw [f_X2_emit]
  refine g_rl0 hc dX2_emit_0 rfl (pc2 := 1) rfl ?_
  refine g_getI hc fl_X2_33 rfl ht dX2_emit_1 (pc2 := 4) rfl ?_
  refine g_if_lt hc dX2_emit_4 (pc1 := 47) (pc2 := 7) rfl rfl (fun _ => ?_) (fun _ => ?_)
  · exact g_vret hc dX2_emit_47
  · refine g_rl0 hc dX2_emit_7 rfl (pc2 := 8) rfl ?_
    refine g_getI hc fl_X2_33 rfl ht dX2_emit_8 (pc2 := 11) rfl ?_
    refine g_sipush hc dX2_emit_11 sp_400 (pc2 := 14) rfl ?_
    refine g_icmp_ge hc dX2_emit_14 (pc1 := 17) (pc2 := 47) rfl rfl (fun _ => ?_) (fun _ => ?_)
    · refine g_rl0 hc dX2_emit_17 rfl (pc2 := 18) rfl ?_
      refine g_getR hc fl_X2_24 rfl ht dX2_emit_18 (pc2 := 21) rfl ?_
      refine g_rl0 hc dX2_emit_21 rfl (pc2 := 22) rfl ?_
      refine g_getI hc fl_X2_33 rfl ht dX2_emit_22 (pc2 := 25) rfl ?_
      refine g_il1 hc dX2_emit_25 rfl (pc2 := 26) rfl ?_
      refine g_iast hc (kf_2_4 ht) (kl_2_4 ht) dX2_emit_26 (pc2 := 27) rfl (fun s3 => ?_)
      refine g_rl0 hc dX2_emit_27 rfl (pc2 := 28) rfl ?_
      refine g_getR hc fl_X2_27 rfl ht dX2_emit_28 (pc2 := 31) rfl ?_
      refine g_rl0 hc dX2_emit_31 rfl (pc2 := 32) rfl ?_
      refine g_getI hc fl_X2_33 rfl ht dX2_emit_32 (pc2 := 35) rfl ?_
      refine g_il2 hc dX2_emit_35 rfl (pc2 := 36) rfl ?_
      refine g_iast hc (kf_2_5 ht) (kl_2_5 ht) dX2_emit_36 (pc2 := 37) rfl (fun s4 => ?_)
      refine g_rl0 hc dX2_emit_37 rfl (pc2 := 38) rfl ?_
      refine g_dup hc dX2_emit_38 rfl (pc2 := 39) rfl ?_
      refine g_getI hc fl_X2_33 rfl ht dX2_emit_39 (pc2 := 42) rfl ?_
      refine g_iconst hc dX2_emit_42 ic_1 (pc2 := 43) rfl ?_
      refine g_iadd hc dX2_emit_43 (pc2 := 44) rfl ?_
      refine g_putI hc fl_X2_33 rfl ht dX2_emit_44 (pc2 := 47) rfl (fun s5 => ?_)
      exact g_vret hc dX2_emit_47
    · exact g_vret hc dX2_emit_47
set_option maxRecDepth 100000 in
set_option maxHeartbeats 4000000 in
def f_X8_isEnd (n : Nat) (t : Nat) (s0 : q_Sto) : Option (Int32 × q_Sto) :=
  if (s0 t 4) = 0 then (
  some (1, s0))
  else (
  some (0, s0))
set_option maxRecDepth 100000 in
set_option maxHeartbeats 4000000 in
theorem C_X8_isEnd {l : Launch} {w : q_Wd} {n : Nat} {t : Nat} (ht : q_KD t = .inl 8) {s0 : q_Sto} : q_C l w yX8_isEnd cX8_isEnd 1 (some .boolean) (q_rm 0 0) [q_rf w t] s0 (f_X8_isEnd n t s0) := q_CofG [some (q_rf w t)] (by decide +kernel) rfl rfl (Nat.le_of_ble_eq_true rfl) fun cx hl hc => by
  have hc : q_ok w cx RX8 cX8_isEnd 1 (some .boolean) (q_rm 0 0) := hc
  rw [f_X8_isEnd]
  refine g_rl0 hc dX8_isEnd_0 rfl (pc2 := 1) rfl ?_
  refine g_getI hc fl_X8_25 rfl ht dX8_isEnd_1 (pc2 := 4) rfl ?_
  refine g_if_ne hc dX8_isEnd_4 (pc1 := 7) (pc2 := 11) rfl rfl (fun _ => ?_) (fun _ => ?_)
  · refine g_iconst hc dX8_isEnd_7 ic_1 (pc2 := 8) rfl ?_
    refine g_goto hc dX8_isEnd_8 (pc2 := 12) rfl ?_
    exact g_zret0 (by decide) hc dX8_isEnd_12
  · refine g_iconst hc dX8_isEnd_11 ic_0 (pc2 := 12) rfl ?_
    exact g_zret0 (by decide) hc dX8_isEnd_12
set_option maxRecDepth 100000 in
set_option maxHeartbeats 4000000 in
def f_X8_byteAt (n : Nat) (t : Nat) (a0 : Int32) (s0 : q_Sto) : Option (Int32 × q_Sto) :=
  if a0 < 0 then (
  some ((-1), s0))
  else (
  if a0 < (s0 t 1) then (
  if a0 < 400 then (
  q_ld s0 (q_RF t 0) a0 400 fun v4 =>
  some (v4, s0))
  else (
  some ((-1), s0)))
  else (
  some ((-1), s0)))
set_option maxRecDepth 100000 in
set_option maxHeartbeats 4000000 in
theorem C_X8_byteAt {l : Launch} {w : q_Wd} {n : Nat} {t : Nat} {a0 : Int32} (ht : q_KD t = .inl 8) {s0 : q_Sto} : q_C l w yX8_byteAt cX8_byteAt 2 (some .int) (q_rm 0 0) [q_rf w t, .int a0] s0 (f_X8_byteAt n t a0 s0) := q_CofG [some (q_rf w t), some (.int a0)] (by decide +kernel) rfl rfl (Nat.le_of_ble_eq_true rfl) fun cx hl hc => by
  have hc : q_ok w cx RX8 cX8_byteAt 2 (some .int) (q_rm 0 0) := hc
  rw [f_X8_byteAt]
  refine g_il1 hc dX8_byteAt_0 rfl (pc2 := 1) rfl ?_
  refine g_if_lt hc dX8_byteAt_1 (pc1 := 28) (pc2 := 4) rfl rfl (fun _ => ?_) (fun _ => ?_)
  · refine g_iconst hc dX8_byteAt_28 ic_m1 (pc2 := 29) rfl ?_
    exact g_iret hc dX8_byteAt_29
  · refine g_il1 hc dX8_byteAt_4 rfl (pc2 := 5) rfl ?_
    refine g_rl0 hc dX8_byteAt_5 rfl (pc2 := 6) rfl ?_
    refine g_getI hc fl_X8_15 rfl ht dX8_byteAt_6 (pc2 := 9) rfl ?_
    refine g_icmp_ge hc dX8_byteAt_9 (pc1 := 12) (pc2 := 28) rfl rfl (fun _ => ?_) (fun _ => ?_)
    · refine g_il1 hc dX8_byteAt_12 rfl (pc2 := 13) rfl ?_
      refine g_sipush hc dX8_byteAt_13 sp_400 (pc2 := 16) rfl ?_
      refine g_icmp_ge hc dX8_byteAt_16 (pc1 := 19) (pc2 := 28) rfl rfl (fun _ => ?_) (fun _ => ?_)
      · refine g_rl0 hc dX8_byteAt_19 rfl (pc2 := 20) rfl ?_
        refine g_getR hc fl_X8_9 rfl ht dX8_byteAt_20 (pc2 := 23) rfl ?_
        refine g_il1 hc dX8_byteAt_23 rfl (pc2 := 24) rfl ?_
        refine g_iald hc (kf_8_0 ht) (kl_8_0 ht) dX8_byteAt_24 (pc2 := 25) rfl (fun v4 => ?_)
        refine g_goto hc dX8_byteAt_25 (pc2 := 29) rfl ?_
        exact g_iret hc dX8_byteAt_29
      · refine g_iconst hc dX8_byteAt_28 ic_m1 (pc2 := 29) rfl ?_
        exact g_iret hc dX8_byteAt_29
    · refine g_iconst hc dX8_byteAt_28 ic_m1 (pc2 := 29) rfl ?_
      exact g_iret hc dX8_byteAt_29
set_option maxRecDepth 100000 in
set_option maxHeartbeats 4000000 in
def f_X8_isWord_L28 (n : Nat) (x0 : Nat) (x1 : Nat) : Nat → Int32 → q_Sto → Option (Int32 × q_Sto)
  | 0, _, _ => none
  | j + 1, x2, s0 =>
    if x2 < (q_slen x1) then (
    q_call (f_X8_byteAt n x0 ((s0 x0 3) + x2) s0) fun r5 s4 =>
    q_scat x1 x2 fun v6 =>
    if r5 = v6 then (
    f_X8_isWord_L28 n x0 x1  j (x2 + 1) s4)
    else (
    some (0, s4)))
    else (
    some (1, s0))
set_option maxRecDepth 100000 in
set_option maxHeartbeats 4000000 in
def f_X8_isWord (n : Nat) (t : Nat) (a0 : Nat) (s0 : q_Sto) : Option (Int32 × q_Sto) :=
  if (s0 t 4) = 1 then (
  if ((s0 t 2) - (s0 t 3)) = (q_slen a0) then (
  f_X8_isWord_L28 n t a0  n 0 s0)
  else (
  some (0, s0)))
  else (
  some (0, s0))
set_option maxRecDepth 100000 in
set_option maxHeartbeats 4000000 in
theorem t_X8_isWord_L28 {w : q_Wd} {cx : q_Cx} (hc : q_ok w cx RX8 cX8_isWord 3 (some .boolean) (q_rm 6 140)) {n : Nat} {x0 : Nat} {x1 : Nat} (hx0 : q_KD x0 = .inl 8) (hx1 : x1 < q_nS)   :
    ∀ (j : Nat) (x2 : Int32) (s0 : q_Sto), q_G w cx 3 (some .boolean) 28 [some (q_rf w x0), some (q_rs w x1), some (.int x2)] [] s0 (f_X8_isWord_L28 n x0 x1  j x2 s0) := by
  intro j
  induction j with
  | zero =>
    intro _ _
    rw [f_X8_isWord_L28]
    exact q_none
  | succ j ih =>
    intro x2 s0
    rw [f_X8_isWord_L28]
    refine g_il2 hc dX8_isWord_28 rfl (pc2 := 29) rfl ?_
    refine g_sl1 hc dX8_isWord_29 rfl (pc2 := 30) rfl ?_
    refine g_slen hc ln_X8_51 hx1 ⟨by decide, by decide⟩ (Nat.le_of_ble_eq_true rfl) dX8_isWord_30 (pc2 := 33) rfl ?_
    refine g_icmp_ge hc dX8_isWord_33 (pc1 := 36) (pc2 := 62) rfl rfl (fun _ => ?_) (fun _ => ?_)
    · refine g_rl0 hc dX8_isWord_36 rfl (pc2 := 37) rfl ?_
      refine g_rl0 hc dX8_isWord_37 rfl (pc2 := 38) rfl ?_
      refine g_getI hc fl_X8_22 rfl hx0 dX8_isWord_38 (pc2 := 41) rfl ?_
      refine g_il2 hc dX8_isWord_41 rfl (pc2 := 42) rfl ?_
      refine g_iadd hc dX8_isWord_42 (pc2 := 43) rfl ?_
      refine g_callV1 hc (C_X8_byteAt hx0) mv_X8_byteAt ln_X8_40 hx0 ⟨by decide, by decide⟩ (Nat.le_of_ble_eq_true rfl) dX8_isWord_43 (pc2 := 46) rfl (fun r5 s4 => ?_)
      refine g_sl1 hc dX8_isWord_46 rfl (pc2 := 47) rfl ?_
      refine g_il2 hc dX8_isWord_47 rfl (pc2 := 48) rfl ?_
      refine g_scat hc ln_X8_56 hx1 ⟨by decide, by decide⟩ (Nat.le_of_ble_eq_true rfl) dX8_isWord_48 (pc2 := 51) rfl (fun v6 => ?_)
      refine g_icmp_eq hc dX8_isWord_51 (pc1 := 56) (pc2 := 54) rfl rfl (fun _ => ?_) (fun _ => ?_)
      · refine g_iinc hc dX8_isWord_56 rfl (q_ii ic_1) (by decide) (L2 := [some (q_rf w x0), some (q_rs w x1), some (.int (x2 + 1))]) rfl (pc2 := 59) rfl ?_
        refine g_goto hc dX8_isWord_59 (pc2 := 28) rfl ?_
        exact ih _ _
      · refine g_iconst hc dX8_isWord_54 ic_0 (pc2 := 55) rfl ?_
        exact g_zret0 (by decide) hc dX8_isWord_55
    · refine g_iconst hc dX8_isWord_62 ic_1 (pc2 := 63) rfl ?_
      exact g_zret0 (by decide) hc dX8_isWord_63
set_option maxRecDepth 100000 in
set_option maxHeartbeats 4000000 in
theorem C_X8_isWord {l : Launch} {w : q_Wd} {n : Nat} {t : Nat} {a0 : Nat} (ht : q_KD t = .inl 8) (ha0 : a0 < q_nS) {s0 : q_Sto} : q_C l w yX8_isWord cX8_isWord 3 (some .boolean) (q_rm 6 140) [q_rf w t, q_rs w a0] s0 (f_X8_isWord n t a0 s0) := q_CofG [some (q_rf w t), some (q_rs w a0), none] (by decide +kernel) rfl rfl (Nat.le_of_ble_eq_true rfl) fun cx hl hc => by
  have hc : q_ok w cx RX8 cX8_isWord 3 (some .boolean) (q_rm 6 140) := hc
  rw [f_X8_isWord]
  refine g_rl0 hc dX8_isWord_0 rfl (pc2 := 1) rfl ?_
  refine g_getI hc fl_X8_25 rfl ht dX8_isWord_1 (pc2 := 4) rfl ?_
  refine g_iconst hc dX8_isWord_4 ic_1 (pc2 := 5) rfl ?_
  refine g_icmp_ne hc dX8_isWord_5 (pc1 := 8) (pc2 := 24) rfl rfl (fun _ => ?_) (fun _ => ?_)
  · refine g_rl0 hc dX8_isWord_8 rfl (pc2 := 9) rfl ?_
    refine g_getI hc fl_X8_19 rfl ht dX8_isWord_9 (pc2 := 12) rfl ?_
    refine g_rl0 hc dX8_isWord_12 rfl (pc2 := 13) rfl ?_
    refine g_getI hc fl_X8_22 rfl ht dX8_isWord_13 (pc2 := 16) rfl ?_
    refine g_isub hc dX8_isWord_16 (pc2 := 17) rfl ?_
    refine g_sl1 hc dX8_isWord_17 rfl (pc2 := 18) rfl ?_
    refine g_slen hc ln_X8_51 ha0 ⟨by decide, by decide⟩ (Nat.le_of_ble_eq_true rfl) dX8_isWord_18 (pc2 := 21) rfl ?_
    refine g_icmp_eq hc dX8_isWord_21 (pc1 := 26) (pc2 := 24) rfl rfl (fun _ => ?_) (fun _ => ?_)
    · refine g_iconst hc dX8_isWord_26 ic_0 (pc2 := 27) rfl ?_
      refine g_is2 hc dX8_isWord_27 (by decide) (L2 := [some (q_rf w t), some (q_rs w a0), some (.int 0)]) rfl (pc2 := 28) rfl ?_
      refine t_X8_isWord_L28 hc ht ha0  n _ _
    · refine g_iconst hc dX8_isWord_24 ic_0 (pc2 := 25) rfl ?_
      exact g_zret0 (by decide) hc dX8_isWord_25
  · refine g_iconst hc dX8_isWord_24 ic_0 (pc2 := 25) rfl ?_
    exact g_zret0 (by decide) hc dX8_isWord_25
set_option maxRecDepth 100000 in
set_option maxHeartbeats 4000000 in
def f_X8_fail (n : Nat) (t : Nat) (a0 : Int32) (s0 : q_Sto) : Option (Int32 × q_Sto) :=
  q_nS1 (q_up s0 t 6 a0) fun s1 =>
  q_nS1 (q_up s1 t 7 (s1 t 3)) fun s2 =>
  some (0, s2)
set_option maxRecDepth 100000 in
set_option maxHeartbeats 4000000 in
theorem C_X8_fail {l : Launch} {w : q_Wd} {n : Nat} {t : Nat} {a0 : Int32} (ht : q_KD t = .inl 8) {s0 : q_Sto} : q_C l w yX8_fail cX8_fail 2 (some .boolean) (q_rm 0 0) [q_rf w t, .int a0] s0 (f_X8_fail n t a0 s0) := q_CofG [some (q_rf w t), some (.int a0)] (by decide +kernel) rfl rfl (Nat.le_of_ble_eq_true rfl) fun cx hl hc => by
  have hc : q_ok w cx RX8 cX8_fail 2 (some .boolean) (q_rm 0 0) := hc
  rw [f_X8_fail]
  refine g_rl0 hc dX8_fail_0 rfl (pc2 := 1) rfl ?_
  refine g_il1 hc dX8_fail_1 rfl (pc2 := 2) rfl ?_
  refine g_putI hc fl_X8_31 rfl ht dX8_fail_2 (pc2 := 5) rfl (fun s1 => ?_)
  refine g_rl0 hc dX8_fail_5 rfl (pc2 := 6) rfl ?_
  refine g_rl0 hc dX8_fail_6 rfl (pc2 := 7) rfl ?_
  refine g_getI hc fl_X8_22 rfl ht dX8_fail_7 (pc2 := 10) rfl ?_
  refine g_putI hc fl_X8_34 rfl ht dX8_fail_10 (pc2 := 13) rfl (fun s2 => ?_)
  refine g_iconst hc dX8_fail_13 ic_0 (pc2 := 14) rfl ?_
  exact g_zret0 (by decide) hc dX8_fail_14
set_option maxRecDepth 100000 in
set_option maxHeartbeats 4000000 in
def f_X8_isLetter (n : Nat) (a0 : Int32) (s0 : q_Sto) : Option (Int32 × q_Sto) :=
  q_jn (fun  (s1 : q_Sto) =>
    if a0 < 65 then (
    some (0, s1))
    else (
    if a0 ≤ 90 then (
    some (1, s1))
    else (
    some (0, s1)))) fun j12 =>
  if a0 < 97 then (
  j12 s0)
  else (
  if a0 ≤ 122 then (
  some (1, s0))
  else (
  j12 s0))
set_option maxRecDepth 100000 in
set_option maxHeartbeats 4000000 in
theorem C_X8_isLetter {l : Launch} {w : q_Wd} {n : Nat} {a0 : Int32}  {s0 : q_Sto} : q_C l w yX8_isLetter cX8_isLetter 1 (some .boolean) (q_rm 0 0) [.int a0] s0 (f_X8_isLetter n a0 s0) := q_CofG [some (.int a0)] (by decide +kernel) rfl rfl (Nat.le_of_ble_eq_true rfl) fun cx hl hc => by
  have hc : q_ok w cx RX8 cX8_isLetter 1 (some .boolean) (q_rm 0 0) := hc
  rw [f_X8_isLetter]
  refine g_il0 hc dX8_isLetter_0 rfl (pc2 := 1) rfl ?_
  refine g_bipush hc dX8_isLetter_1 bp_97 (pc2 := 3) rfl ?_
  refine g_jn (P := fun j12 => ∀  (s1 : q_Sto), q_G w cx 1 (some .boolean) 12 [some (.int a0)] [] s1 (j12 s1)) (fun s1 => ?_) (fun j12 hj12 => ?_)
  · refine g_il0 hc dX8_isLetter_12 rfl (pc2 := 13) rfl ?_
    refine g_bipush hc dX8_isLetter_13 bp_65 (pc2 := 15) rfl ?_
    refine g_icmp_lt hc dX8_isLetter_15 (pc1 := 28) (pc2 := 18) rfl rfl (fun _ => ?_) (fun _ => ?_)
    · refine g_iconst hc dX8_isLetter_28 ic_0 (pc2 := 29) rfl ?_
      exact g_zret0 (by decide) hc dX8_isLetter_29
    · refine g_il0 hc dX8_isLetter_18 rfl (pc2 := 19) rfl ?_
      refine g_bipush hc dX8_isLetter_19 bp_90 (pc2 := 21) rfl ?_
      refine g_icmp_gt hc dX8_isLetter_21 (pc1 := 24) (pc2 := 28) rfl rfl (fun _ => ?_) (fun _ => ?_)
      · refine g_iconst hc dX8_isLetter_24 ic_1 (pc2 := 25) rfl ?_
        refine g_goto hc dX8_isLetter_25 (pc2 := 29) rfl ?_
        exact g_zret0 (by decide) hc dX8_isLetter_29
      · refine g_iconst hc dX8_isLetter_28 ic_0 (pc2 := 29) rfl ?_
        exact g_zret0 (by decide) hc dX8_isLetter_29
  · refine g_icmp_lt hc dX8_isLetter_3 (pc1 := 12) (pc2 := 6) rfl rfl (fun _ => ?_) (fun _ => ?_)
    · exact hj12 _
    · refine g_il0 hc dX8_isLetter_6 rfl (pc2 := 7) rfl ?_
      refine g_bipush hc dX8_isLetter_7 bp_122 (pc2 := 9) rfl ?_
      refine g_icmp_le hc dX8_isLetter_9 (pc1 := 24) (pc2 := 12) rfl rfl (fun _ => ?_) (fun _ => ?_)
      · refine g_iconst hc dX8_isLetter_24 ic_1 (pc2 := 25) rfl ?_
        refine g_goto hc dX8_isLetter_25 (pc2 := 29) rfl ?_
        exact g_zret0 (by decide) hc dX8_isLetter_29
      · exact hj12 _
set_option maxRecDepth 100000 in
set_option maxHeartbeats 4000000 in
def f_X8_isDigit (n : Nat) (a0 : Int32) (s0 : q_Sto) : Option (Int32 × q_Sto) :=
  if a0 < 48 then (
  some (0, s0))
  else (
  if a0 ≤ 57 then (
  some (1, s0))
  else (
  some (0, s0)))
set_option maxRecDepth 100000 in
set_option maxHeartbeats 4000000 in
theorem C_X8_isDigit {l : Launch} {w : q_Wd} {n : Nat} {a0 : Int32}  {s0 : q_Sto} : q_C l w yX8_isDigit cX8_isDigit 1 (some .boolean) (q_rm 0 0) [.int a0] s0 (f_X8_isDigit n a0 s0) := q_CofG [some (.int a0)] (by decide +kernel) rfl rfl (Nat.le_of_ble_eq_true rfl) fun cx hl hc => by
  have hc : q_ok w cx RX8 cX8_isDigit 1 (some .boolean) (q_rm 0 0) := hc
  rw [f_X8_isDigit]
  refine g_il0 hc dX8_isDigit_0 rfl (pc2 := 1) rfl ?_
  refine g_bipush hc dX8_isDigit_1 bp_48 (pc2 := 3) rfl ?_
  refine g_icmp_lt hc dX8_isDigit_3 (pc1 := 16) (pc2 := 6) rfl rfl (fun _ => ?_) (fun _ => ?_)
  · refine g_iconst hc dX8_isDigit_16 ic_0 (pc2 := 17) rfl ?_
    exact g_zret0 (by decide) hc dX8_isDigit_17
  · refine g_il0 hc dX8_isDigit_6 rfl (pc2 := 7) rfl ?_
    refine g_bipush hc dX8_isDigit_7 bp_57 (pc2 := 9) rfl ?_
    refine g_icmp_gt hc dX8_isDigit_9 (pc1 := 12) (pc2 := 16) rfl rfl (fun _ => ?_) (fun _ => ?_)
    · refine g_iconst hc dX8_isDigit_12 ic_1 (pc2 := 13) rfl ?_
      refine g_goto hc dX8_isDigit_13 (pc2 := 17) rfl ?_
      exact g_zret0 (by decide) hc dX8_isDigit_17
    · refine g_iconst hc dX8_isDigit_16 ic_0 (pc2 := 17) rfl ?_
      exact g_zret0 (by decide) hc dX8_isDigit_17
set_option maxRecDepth 100000 in
set_option maxHeartbeats 4000000 in
def f_X8_next_L0 (n : Nat) (x0 : Nat) (k50 : q_Sto → Option (Int32 × q_Sto)) : Nat → q_Sto → Option (Int32 × q_Sto)
  | 0, _ => none
  | j + 1, s0 =>
    if (s0 x0 2) < (s0 x0 1) then (
    q_call (f_X8_byteAt n x0 (s0 x0 2) s0) fun r3 s2 =>
    if r3 = 32 then (
    q_nS1 (q_up s2 x0 2 ((s2 x0 2) + 1)) fun s5 =>
    f_X8_next_L0 n x0 k50 j  s5)
    else (
    q_call (f_X8_byteAt n x0 (s2 x0 2) s2) fun r7 s6 =>
    if r7 = 10 then (
    q_nS1 (q_up s6 x0 2 ((s6 x0 2) + 1)) fun s9 =>
    f_X8_next_L0 n x0 k50 j  s9)
    else (
    k50 s6)))
    else (
    k50 s0)
set_option maxRecDepth 100000 in
set_option maxHeartbeats 4000000 in
def f_X8_next_L162 (n : Nat) (x0 : Nat) : Nat → q_Sto → Option (Int32 × q_Sto)
  | 0, _ => none
  | j + 1, s0 =>
    if (s0 x0 2) < (s0 x0 1) then (
    q_call (f_X8_byteAt n x0 (s0 x0 2) s0) fun r28 s27 =>
    q_call (f_X8_isDigit n r28 s27) fun r30 s29 =>
    if r30 = 0 then (
    some (0, s29))
    else (
    q_call (f_X8_byteAt n x0 (s29 x0 2) s29) fun r33 s32 =>
    q_nS1 (q_up s32 x0 5 ((((s29 x0 5) * 10) + r33) - 48)) fun s34 =>
    q_nS1 (q_up s34 x0 2 ((s34 x0 2) + 1)) fun s35 =>
    f_X8_next_L162 n x0  j  s35))
    else (
    some (0, s0))
set_option maxRecDepth 100000 in
set_option maxHeartbeats 4000000 in
def f_X8_next_L104 (n : Nat) (x0 : Nat) : Nat → q_Sto → Option (Int32 × q_Sto)
  | 0, _ => none
  | j + 1, s0 =>
    if (s0 x0 2) < (s0 x0 1) then (
    q_call (f_X8_byteAt n x0 (s0 x0 2) s0) fun r39 s38 =>
    q_call (f_X8_isLetter n r39 s38) fun r41 s40 =>
    if r41 = 0 then (
    some (0, s40))
    else (
    q_nS1 (q_up s40 x0 2 ((s40 x0 2) + 1)) fun s43 =>
    f_X8_next_L104 n x0  j  s43))
    else (
    some (0, s0))
set_option maxRecDepth 100000 in
set_option maxHeartbeats 4000000 in
def f_X8_next (n : Nat) (t : Nat) (s0 : q_Sto) : Option (Int32 × q_Sto) :=
  f_X8_next_L0 n t (fun  (s10 : q_Sto) =>
  q_nS1 (q_up s10 t 3 (s10 t 2)) fun s11 =>
  q_call (f_X8_byteAt n t (s11 t 2) s11) fun r13 s12 =>
  q_nS1 (q_up s12 t 5 r13) fun s14 =>
  if (s14 t 2) < (s14 t 1) then (
  q_call (f_X8_isLetter n (s14 t 5) s14) fun r17 s16 =>
  if r17 = 0 then (
  q_call (f_X8_isDigit n (s16 t 5) s16) fun r20 s19 =>
  if r20 = 0 then (
  q_nS1 (q_up s19 t 4 3) fun s22 =>
  q_nS1 (q_up s22 t 2 ((s22 t 2) + 1)) fun s23 =>
  some (0, s23))
  else (
  q_nS1 (q_up s19 t 4 2) fun s24 =>
  q_nS1 (q_up s24 t 5 0) fun s25 =>
  f_X8_next_L162 n t  n  s25))
  else (
  q_nS1 (q_up s16 t 4 1) fun s36 =>
  f_X8_next_L104 n t  n  s36))
  else (
  q_nS1 (q_up s14 t 4 0) fun s44 =>
  some (0, s44))) n  s0
set_option maxRecDepth 100000 in
set_option maxHeartbeats 4000000 in
theorem t_X8_next_L0 {w : q_Wd} {cx : q_Cx} (hc : q_ok w cx RX8 cX8_next 1 (none) (q_rm 1 21)) {n : Nat} {x0 : Nat} (hx0 : q_KD x0 = .inl 8) {k50 : q_Sto → Option (Int32 × q_Sto)} (hk50 : ∀  (s1 : q_Sto), q_G w cx 1 (none) 50 [some (q_rf w x0)] [] s1 (k50 s1)) :
    ∀ (j : Nat)  (s0 : q_Sto), q_G w cx 1 (none) 0 [some (q_rf w x0)] [] s0 (f_X8_next_L0 n x0 k50 j  s0) := by
  intro j
  induction j with
  | zero =>
    intro _
    rw [f_X8_next_L0]
    exact q_none
  | succ j ih =>
    intro s0
    rw [f_X8_next_L0]
    refine g_rl0 hc dX8_next_0 rfl (pc2 := 1) rfl ?_
    refine g_getI hc fl_X8_19 rfl hx0 dX8_next_1 (pc2 := 4) rfl ?_
    refine g_rl0 hc dX8_next_4 rfl (pc2 := 5) rfl ?_
    refine g_getI hc fl_X8_15 rfl hx0 dX8_next_5 (pc2 := 8) rfl ?_
    refine g_icmp_ge hc dX8_next_8 (pc1 := 11) (pc2 := 50) rfl rfl (fun _ => ?_) (fun _ => ?_)
    · refine g_rl0 hc dX8_next_11 rfl (pc2 := 12) rfl ?_
      refine g_rl0 hc dX8_next_12 rfl (pc2 := 13) rfl ?_
      refine g_getI hc fl_X8_19 rfl hx0 dX8_next_13 (pc2 := 16) rfl ?_
      refine g_callV1 hc (C_X8_byteAt hx0) mv_X8_byteAt ln_X8_40 hx0 ⟨by decide, by decide⟩ (Nat.le_of_ble_eq_true rfl) dX8_next_16 (pc2 := 19) rfl (fun r3 s2 => ?_)
      refine g_bipush hc dX8_next_19 bp_32 (pc2 := 21) rfl ?_
      refine g_icmp_eq hc dX8_next_21 (pc1 := 37) (pc2 := 24) rfl rfl (fun _ => ?_) (fun _ => ?_)
      · refine g_rl0 hc dX8_next_37 rfl (pc2 := 38) rfl ?_
        refine g_dup hc dX8_next_38 rfl (pc2 := 39) rfl ?_
        refine g_getI hc fl_X8_19 rfl hx0 dX8_next_39 (pc2 := 42) rfl ?_
        refine g_iconst hc dX8_next_42 ic_1 (pc2 := 43) rfl ?_
        refine g_iadd hc dX8_next_43 (pc2 := 44) rfl ?_
        refine g_putI hc fl_X8_19 rfl hx0 dX8_next_44 (pc2 := 47) rfl (fun s5 => ?_)
        refine g_goto hc dX8_next_47 (pc2 := 0) rfl ?_
        exact ih _
      · refine g_rl0 hc dX8_next_24 rfl (pc2 := 25) rfl ?_
        refine g_rl0 hc dX8_next_25 rfl (pc2 := 26) rfl ?_
        refine g_getI hc fl_X8_19 rfl hx0 dX8_next_26 (pc2 := 29) rfl ?_
        refine g_callV1 hc (C_X8_byteAt hx0) mv_X8_byteAt ln_X8_40 hx0 ⟨by decide, by decide⟩ (Nat.le_of_ble_eq_true rfl) dX8_next_29 (pc2 := 32) rfl (fun r7 s6 => ?_)
        refine g_bipush hc dX8_next_32 bp_10 (pc2 := 34) rfl ?_
        refine g_icmp_ne hc dX8_next_34 (pc1 := 37) (pc2 := 50) rfl rfl (fun _ => ?_) (fun _ => ?_)
        · refine g_rl0 hc dX8_next_37 rfl (pc2 := 38) rfl ?_
          refine g_dup hc dX8_next_38 rfl (pc2 := 39) rfl ?_
          refine g_getI hc fl_X8_19 rfl hx0 dX8_next_39 (pc2 := 42) rfl ?_
          refine g_iconst hc dX8_next_42 ic_1 (pc2 := 43) rfl ?_
          refine g_iadd hc dX8_next_43 (pc2 := 44) rfl ?_
          refine g_putI hc fl_X8_19 rfl hx0 dX8_next_44 (pc2 := 47) rfl (fun s9 => ?_)
          refine g_goto hc dX8_next_47 (pc2 := 0) rfl ?_
          exact ih _
        · exact hk50 _
    · exact hk50 _
set_option maxRecDepth 100000 in
set_option maxHeartbeats 4000000 in
theorem t_X8_next_L162 {w : q_Wd} {cx : q_Cx} (hc : q_ok w cx RX8 cX8_next 1 (none) (q_rm 1 21)) {n : Nat} {x0 : Nat} (hx0 : q_KD x0 = .inl 8)   :
    ∀ (j : Nat)  (s0 : q_Sto), q_G w cx 1 (none) 162 [some (q_rf w x0)] [] s0 (f_X8_next_L162 n x0  j  s0) := by
  intro j
  induction j with
  | zero =>
    intro _
    rw [f_X8_next_L162]
    exact q_none
  | succ j ih =>
    intro s0
    rw [f_X8_next_L162]
    refine g_rl0 hc dX8_next_162 rfl (pc2 := 163) rfl ?_
    refine g_getI hc fl_X8_19 rfl hx0 dX8_next_163 (pc2 := 166) rfl ?_
    refine g_rl0 hc dX8_next_166 rfl (pc2 := 167) rfl ?_
    refine g_getI hc fl_X8_15 rfl hx0 dX8_next_167 (pc2 := 170) rfl ?_
    refine g_icmp_ge hc dX8_next_170 (pc1 := 173) (pc2 := 238) rfl rfl (fun _ => ?_) (fun _ => ?_)
    · refine g_rl0 hc dX8_next_173 rfl (pc2 := 174) rfl ?_
      refine g_rl0 hc dX8_next_174 rfl (pc2 := 175) rfl ?_
      refine g_getI hc fl_X8_19 rfl hx0 dX8_next_175 (pc2 := 178) rfl ?_
      refine g_callV1 hc (C_X8_byteAt hx0) mv_X8_byteAt ln_X8_40 hx0 ⟨by decide, by decide⟩ (Nat.le_of_ble_eq_true rfl) dX8_next_178 (pc2 := 181) rfl (fun r28 s27 => ?_)
      refine g_callS1 hc C_X8_isDigit mv_X8_isDigit ln_X8_48 ⟨by decide, by decide⟩ (Nat.le_of_ble_eq_true rfl) dX8_next_181 (pc2 := 184) rfl (fun r30 s29 => ?_)
      refine g_if_eq hc dX8_next_184 (pc1 := 238) (pc2 := 187) rfl rfl (fun _ => ?_) (fun _ => ?_)
      · exact g_vret hc dX8_next_238
      · refine g_rl0 hc dX8_next_187 rfl (pc2 := 188) rfl ?_
        refine g_rl0 hc dX8_next_188 rfl (pc2 := 189) rfl ?_
        refine g_getI hc fl_X8_28 rfl hx0 dX8_next_189 (pc2 := 192) rfl ?_
        refine g_bipush hc dX8_next_192 bp_10 (pc2 := 194) rfl ?_
        refine g_imul hc dX8_next_194 (pc2 := 195) rfl ?_
        refine g_rl0 hc dX8_next_195 rfl (pc2 := 196) rfl ?_
        refine g_rl0 hc dX8_next_196 rfl (pc2 := 197) rfl ?_
        refine g_getI hc fl_X8_19 rfl hx0 dX8_next_197 (pc2 := 200) rfl ?_
        refine g_callV1 hc (C_X8_byteAt hx0) mv_X8_byteAt ln_X8_40 hx0 ⟨by decide, by decide⟩ (Nat.le_of_ble_eq_true rfl) dX8_next_200 (pc2 := 203) rfl (fun r33 s32 => ?_)
        refine g_iadd hc dX8_next_203 (pc2 := 204) rfl ?_
        refine g_bipush hc dX8_next_204 bp_48 (pc2 := 206) rfl ?_
        refine g_isub hc dX8_next_206 (pc2 := 207) rfl ?_
        refine g_putI hc fl_X8_28 rfl hx0 dX8_next_207 (pc2 := 210) rfl (fun s34 => ?_)
        refine g_rl0 hc dX8_next_210 rfl (pc2 := 211) rfl ?_
        refine g_dup hc dX8_next_211 rfl (pc2 := 212) rfl ?_
        refine g_getI hc fl_X8_19 rfl hx0 dX8_next_212 (pc2 := 215) rfl ?_
        refine g_iconst hc dX8_next_215 ic_1 (pc2 := 216) rfl ?_
        refine g_iadd hc dX8_next_216 (pc2 := 217) rfl ?_
        refine g_putI hc fl_X8_19 rfl hx0 dX8_next_217 (pc2 := 220) rfl (fun s35 => ?_)
        refine g_goto hc dX8_next_220 (pc2 := 162) rfl ?_
        exact ih _
    · exact g_vret hc dX8_next_238
set_option maxRecDepth 100000 in
set_option maxHeartbeats 4000000 in
theorem t_X8_next_L104 {w : q_Wd} {cx : q_Cx} (hc : q_ok w cx RX8 cX8_next 1 (none) (q_rm 1 21)) {n : Nat} {x0 : Nat} (hx0 : q_KD x0 = .inl 8)   :
    ∀ (j : Nat)  (s0 : q_Sto), q_G w cx 1 (none) 104 [some (q_rf w x0)] [] s0 (f_X8_next_L104 n x0  j  s0) := by
  intro j
  induction j with
  | zero =>
    intro _
    rw [f_X8_next_L104]
    exact q_none
  | succ j ih =>
    intro s0
    rw [f_X8_next_L104]
    refine g_rl0 hc dX8_next_104 rfl (pc2 := 105) rfl ?_
    refine g_getI hc fl_X8_19 rfl hx0 dX8_next_105 (pc2 := 108) rfl ?_
    refine g_rl0 hc dX8_next_108 rfl (pc2 := 109) rfl ?_
    refine g_getI hc fl_X8_15 rfl hx0 dX8_next_109 (pc2 := 112) rfl ?_
    refine g_icmp_ge hc dX8_next_112 (pc1 := 115) (pc2 := 238) rfl rfl (fun _ => ?_) (fun _ => ?_)
    · refine g_rl0 hc dX8_next_115 rfl (pc2 := 116) rfl ?_
      refine g_rl0 hc dX8_next_116 rfl (pc2 := 117) rfl ?_
      refine g_getI hc fl_X8_19 rfl hx0 dX8_next_117 (pc2 := 120) rfl ?_
      refine g_callV1 hc (C_X8_byteAt hx0) mv_X8_byteAt ln_X8_40 hx0 ⟨by decide, by decide⟩ (Nat.le_of_ble_eq_true rfl) dX8_next_120 (pc2 := 123) rfl (fun r39 s38 => ?_)
      refine g_callS1 hc C_X8_isLetter mv_X8_isLetter ln_X8_44 ⟨by decide, by decide⟩ (Nat.le_of_ble_eq_true rfl) dX8_next_123 (pc2 := 126) rfl (fun r41 s40 => ?_)
      refine g_if_eq hc dX8_next_126 (pc1 := 238) (pc2 := 129) rfl rfl (fun _ => ?_) (fun _ => ?_)
      · exact g_vret hc dX8_next_238
      · refine g_rl0 hc dX8_next_129 rfl (pc2 := 130) rfl ?_
        refine g_dup hc dX8_next_130 rfl (pc2 := 131) rfl ?_
        refine g_getI hc fl_X8_19 rfl hx0 dX8_next_131 (pc2 := 134) rfl ?_
        refine g_iconst hc dX8_next_134 ic_1 (pc2 := 135) rfl ?_
        refine g_iadd hc dX8_next_135 (pc2 := 136) rfl ?_
        refine g_putI hc fl_X8_19 rfl hx0 dX8_next_136 (pc2 := 139) rfl (fun s43 => ?_)
        refine g_goto hc dX8_next_139 (pc2 := 104) rfl ?_
        exact ih _
    · exact g_vret hc dX8_next_238
set_option maxRecDepth 100000 in
set_option maxHeartbeats 4000000 in
theorem C_X8_next {l : Launch} {w : q_Wd} {n : Nat} {t : Nat} (ht : q_KD t = .inl 8) {s0 : q_Sto} : q_C l w yX8_next cX8_next 1 (none) (q_rm 1 21) [q_rf w t] s0 (f_X8_next n t s0) := q_CofG [some (q_rf w t)] (by decide +kernel) rfl rfl (Nat.le_of_ble_eq_true rfl) fun cx hl hc => by
  have hc : q_ok w cx RX8 cX8_next 1 (none) (q_rm 1 21) := hc
  rw [f_X8_next]
  refine t_X8_next_L0 hc ht (fun s10 => ?_) n  _
  refine g_rl0 hc dX8_next_50 rfl (pc2 := 51) rfl ?_
  refine g_rl0 hc dX8_next_51 rfl (pc2 := 52) rfl ?_
  refine g_getI hc fl_X8_19 rfl ht dX8_next_52 (pc2 := 55) rfl ?_
  refine g_putI hc fl_X8_22 rfl ht dX8_next_55 (pc2 := 58) rfl (fun s11 => ?_)
  refine g_rl0 hc dX8_next_58 rfl (pc2 := 59) rfl ?_
  refine g_rl0 hc dX8_next_59 rfl (pc2 := 60) rfl ?_
  refine g_rl0 hc dX8_next_60 rfl (pc2 := 61) rfl ?_
  refine g_getI hc fl_X8_19 rfl ht dX8_next_61 (pc2 := 64) rfl ?_
  refine g_callV1 hc (C_X8_byteAt ht) mv_X8_byteAt ln_X8_40 ht ⟨by decide, by decide⟩ (Nat.le_of_ble_eq_true rfl) dX8_next_64 (pc2 := 67) rfl (fun r13 s12 => ?_)
  refine g_putI hc fl_X8_28 rfl ht dX8_next_67 (pc2 := 70) rfl (fun s14 => ?_)
  refine g_rl0 hc dX8_next_70 rfl (pc2 := 71) rfl ?_
  refine g_getI hc fl_X8_19 rfl ht dX8_next_71 (pc2 := 74) rfl ?_
  refine g_rl0 hc dX8_next_74 rfl (pc2 := 75) rfl ?_
  refine g_getI hc fl_X8_15 rfl ht dX8_next_75 (pc2 := 78) rfl ?_
  refine g_icmp_lt hc dX8_next_78 (pc1 := 89) (pc2 := 81) rfl rfl (fun _ => ?_) (fun _ => ?_)
  · refine g_rl0 hc dX8_next_89 rfl (pc2 := 90) rfl ?_
    refine g_getI hc fl_X8_28 rfl ht dX8_next_90 (pc2 := 93) rfl ?_
    refine g_callS1 hc C_X8_isLetter mv_X8_isLetter ln_X8_44 ⟨by decide, by decide⟩ (Nat.le_of_ble_eq_true rfl) dX8_next_93 (pc2 := 96) rfl (fun r17 s16 => ?_)
    refine g_if_eq hc dX8_next_96 (pc1 := 142) (pc2 := 99) rfl rfl (fun _ => ?_) (fun _ => ?_)
    · refine g_rl0 hc dX8_next_142 rfl (pc2 := 143) rfl ?_
      refine g_getI hc fl_X8_28 rfl ht dX8_next_143 (pc2 := 146) rfl ?_
      refine g_callS1 hc C_X8_isDigit mv_X8_isDigit ln_X8_48 ⟨by decide, by decide⟩ (Nat.le_of_ble_eq_true rfl) dX8_next_146 (pc2 := 149) rfl (fun r20 s19 => ?_)
      refine g_if_eq hc dX8_next_149 (pc1 := 223) (pc2 := 152) rfl rfl (fun _ => ?_) (fun _ => ?_)
      · refine g_rl0 hc dX8_next_223 rfl (pc2 := 224) rfl ?_
        refine g_iconst hc dX8_next_224 ic_3 (pc2 := 225) rfl ?_
        refine g_putI hc fl_X8_25 rfl ht dX8_next_225 (pc2 := 228) rfl (fun s22 => ?_)
        refine g_rl0 hc dX8_next_228 rfl (pc2 := 229) rfl ?_
        refine g_dup hc dX8_next_229 rfl (pc2 := 230) rfl ?_
        refine g_getI hc fl_X8_19 rfl ht dX8_next_230 (pc2 := 233) rfl ?_
        refine g_iconst hc dX8_next_233 ic_1 (pc2 := 234) rfl ?_
        refine g_iadd hc dX8_next_234 (pc2 := 235) rfl ?_
        refine g_putI hc fl_X8_19 rfl ht dX8_next_235 (pc2 := 238) rfl (fun s23 => ?_)
        exact g_vret hc dX8_next_238
      · refine g_rl0 hc dX8_next_152 rfl (pc2 := 153) rfl ?_
        refine g_iconst hc dX8_next_153 ic_2 (pc2 := 154) rfl ?_
        refine g_putI hc fl_X8_25 rfl ht dX8_next_154 (pc2 := 157) rfl (fun s24 => ?_)
        refine g_rl0 hc dX8_next_157 rfl (pc2 := 158) rfl ?_
        refine g_iconst hc dX8_next_158 ic_0 (pc2 := 159) rfl ?_
        refine g_putI hc fl_X8_28 rfl ht dX8_next_159 (pc2 := 162) rfl (fun s25 => ?_)
        refine t_X8_next_L162 hc ht  n  _
    · refine g_rl0 hc dX8_next_99 rfl (pc2 := 100) rfl ?_
      refine g_iconst hc dX8_next_100 ic_1 (pc2 := 101) rfl ?_
      refine g_putI hc fl_X8_25 rfl ht dX8_next_101 (pc2 := 104) rfl (fun s36 => ?_)
      refine t_X8_next_L104 hc ht  n  _
  · refine g_rl0 hc dX8_next_81 rfl (pc2 := 82) rfl ?_
    refine g_iconst hc dX8_next_82 ic_0 (pc2 := 83) rfl ?_
    refine g_putI hc fl_X8_25 rfl ht dX8_next_83 (pc2 := 86) rfl (fun s44 => ?_)
    refine g_goto hc dX8_next_86 (pc2 := 238) rfl ?_
    exact g_vret hc dX8_next_238
set_option maxRecDepth 100000 in
set_option maxHeartbeats 4000000 in
def f_X3_push (n : Nat) (t : Nat) (a0 : Int32) (s0 : q_Sto) : Option (Int32 × q_Sto) :=
  if (s0 t 3) < 0 then (
  some (0, s0))
  else (
  if (s0 t 3) < (Int32.ofNat 400) then (
  q_st s0 (q_RF t 2) (s0 t 3) 400 a0 fun s3 =>
  q_nS1 (q_up s3 t 3 ((s3 t 3) + 1)) fun s4 =>
  some (0, s4))
  else (
  some (0, s0)))
set_option maxRecDepth 100000 in
set_option maxHeartbeats 4000000 in
theorem C_X3_push {l : Launch} {w : q_Wd} {n : Nat} {t : Nat} {a0 : Int32} (ht : q_KD t = .inl 3) {s0 : q_Sto} : q_C l w yX3_push cX3_push 2 (none) (q_rm 0 0) [q_rf w t, .int a0] s0 (f_X3_push n t a0 s0) := q_CofG [some (q_rf w t), some (.int a0)] (by decide +kernel) rfl rfl (Nat.le_of_ble_eq_true rfl) fun cx hl hc => by
  have hc : q_ok w cx RX3 cX3_push 2 (none) (q_rm 0 0) := hc
  rw [f_X3_push]
  refine g_rl0 hc dX3_push_0 rfl (pc2 := 1) rfl ?_
  refine g_getI hc fl_X3_22 rfl ht dX3_push_1 (pc2 := 4) rfl ?_
  refine g_if_lt hc dX3_push_4 (pc1 := 39) (pc2 := 7) rfl rfl (fun _ => ?_) (fun _ => ?_)
  · exact g_vret hc dX3_push_39
  · refine g_rl0 hc dX3_push_7 rfl (pc2 := 8) rfl ?_
    refine g_getI hc fl_X3_22 rfl ht dX3_push_8 (pc2 := 11) rfl ?_
    refine g_rl0 hc dX3_push_11 rfl (pc2 := 12) rfl ?_
    refine g_getR hc fl_X3_18 rfl ht dX3_push_12 (pc2 := 15) rfl ?_
    refine g_alen hc (kf_3_2 ht) (kl_3_2 ht) dX3_push_15 (pc2 := 16) rfl ?_
    refine g_icmp_ge hc dX3_push_16 (pc1 := 19) (pc2 := 39) rfl rfl (fun _ => ?_) (fun _ => ?_)
    · refine g_rl0 hc dX3_push_19 rfl (pc2 := 20) rfl ?_
      refine g_getR hc fl_X3_18 rfl ht dX3_push_20 (pc2 := 23) rfl ?_
      refine g_rl0 hc dX3_push_23 rfl (pc2 := 24) rfl ?_
      refine g_getI hc fl_X3_22 rfl ht dX3_push_24 (pc2 := 27) rfl ?_
      refine g_il1 hc dX3_push_27 rfl (pc2 := 28) rfl ?_
      refine g_iast hc (kf_3_2 ht) (kl_3_2 ht) dX3_push_28 (pc2 := 29) rfl (fun s3 => ?_)
      refine g_rl0 hc dX3_push_29 rfl (pc2 := 30) rfl ?_
      refine g_dup hc dX3_push_30 rfl (pc2 := 31) rfl ?_
      refine g_getI hc fl_X3_22 rfl ht dX3_push_31 (pc2 := 34) rfl ?_
      refine g_iconst hc dX3_push_34 ic_1 (pc2 := 35) rfl ?_
      refine g_iadd hc dX3_push_35 (pc2 := 36) rfl ?_
      refine g_putI hc fl_X3_22 rfl ht dX3_push_36 (pc2 := 39) rfl (fun s4 => ?_)
      exact g_vret hc dX3_push_39
    · exact g_vret hc dX3_push_39
set_option maxRecDepth 100000 in
set_option maxHeartbeats 4000000 in
def f_X3_readOpening (n : Nat) (t : Nat) (a0 : Int32) (s0 : q_Sto) : Option (Int32 × q_Sto) :=
  if (s0 t 5) < 8 then (
  q_nS1 (q_up s0 t 5 ((s0 t 5) + 1)) fun s2 =>
  if a0 = 12 then (
  q_nS1 (q_up s2 t 4 ((s2 t 4) + 1)) fun s4 =>
  q_callv (f_X3_push n t a0 s4) fun s5 =>
  q_callv (f_X8_next n (q_RF t 0) s5) fun s7 =>
  some (1, s7))
  else (
  q_callv (f_X3_push n t a0 s2) fun s9 =>
  q_callv (f_X8_next n (q_RF t 0) s9) fun s11 =>
  some (1, s11)))
  else (
  q_call (f_X8_fail n (q_RF t 0) 3 s0) fun r14 s13 =>
  q_rz r14 s13)
set_option maxRecDepth 100000 in
set_option maxHeartbeats 4000000 in
theorem C_X3_readOpening {l : Launch} {w : q_Wd} {n : Nat} {t : Nat} {a0 : Int32} (ht : q_KD t = .inl 3) {s0 : q_Sto} : q_C l w yX3_readOpening cX3_readOpening 2 (some .boolean) (q_rm 2 41) [q_rf w t, .int a0] s0 (f_X3_readOpening n t a0 s0) := q_CofG [some (q_rf w t), some (.int a0)] (by decide +kernel) rfl rfl (Nat.le_of_ble_eq_true rfl) fun cx hl hc => by
  have hc : q_ok w cx RX3 cX3_readOpening 2 (some .boolean) (q_rm 2 41) := hc
  rw [f_X3_readOpening]
  refine g_rl0 hc dX3_readOpening_0 rfl (pc2 := 1) rfl ?_
  refine g_getI hc fl_X3_29 rfl ht dX3_readOpening_1 (pc2 := 4) rfl ?_
  refine g_bipush hc dX3_readOpening_4 bp_8 (pc2 := 6) rfl ?_
  refine g_icmp_lt hc dX3_readOpening_6 (pc1 := 18) (pc2 := 9) rfl rfl (fun _ => ?_) (fun _ => ?_)
  · refine g_rl0 hc dX3_readOpening_18 rfl (pc2 := 19) rfl ?_
    refine g_dup hc dX3_readOpening_19 rfl (pc2 := 20) rfl ?_
    refine g_getI hc fl_X3_29 rfl ht dX3_readOpening_20 (pc2 := 23) rfl ?_
    refine g_iconst hc dX3_readOpening_23 ic_1 (pc2 := 24) rfl ?_
    refine g_iadd hc dX3_readOpening_24 (pc2 := 25) rfl ?_
    refine g_putI hc fl_X3_29 rfl ht dX3_readOpening_25 (pc2 := 28) rfl (fun s2 => ?_)
    refine g_il1 hc dX3_readOpening_28 rfl (pc2 := 29) rfl ?_
    refine g_bipush hc dX3_readOpening_29 bp_12 (pc2 := 31) rfl ?_
    refine g_icmp_ne hc dX3_readOpening_31 (pc1 := 34) (pc2 := 44) rfl rfl (fun _ => ?_) (fun _ => ?_)
    · refine g_rl0 hc dX3_readOpening_34 rfl (pc2 := 35) rfl ?_
      refine g_dup hc dX3_readOpening_35 rfl (pc2 := 36) rfl ?_
      refine g_getI hc fl_X3_26 rfl ht dX3_readOpening_36 (pc2 := 39) rfl ?_
      refine g_iconst hc dX3_readOpening_39 ic_1 (pc2 := 40) rfl ?_
      refine g_iadd hc dX3_readOpening_40 (pc2 := 41) rfl ?_
      refine g_putI hc fl_X3_26 rfl ht dX3_readOpening_41 (pc2 := 44) rfl (fun s4 => ?_)
      refine g_rl0 hc dX3_readOpening_44 rfl (pc2 := 45) rfl ?_
      refine g_il1 hc dX3_readOpening_45 rfl (pc2 := 46) rfl ?_
      refine g_callV1v hc (C_X3_push ht) mv_X3_push ln_X3_114 ht ⟨by decide, by decide⟩ (Nat.le_of_ble_eq_true rfl) dX3_readOpening_46 (pc2 := 49) rfl (fun s5 => ?_)
      refine g_rl0 hc dX3_readOpening_49 rfl (pc2 := 50) rfl ?_
      refine g_getR hc fl_X3_42 rfl ht dX3_readOpening_50 (pc2 := 53) rfl ?_
      refine g_callV0v hc (C_X8_next (kf_3_0 ht)) mv_X8_next ln_X3_75 (kf_3_0 ht) ⟨by decide, by decide⟩ (Nat.le_of_ble_eq_true rfl) dX3_readOpening_53 (pc2 := 56) rfl (fun s7 => ?_)
      refine g_iconst hc dX3_readOpening_56 ic_1 (pc2 := 57) rfl ?_
      exact g_zret0 (by decide) hc dX3_readOpening_57
    · refine g_rl0 hc dX3_readOpening_44 rfl (pc2 := 45) rfl ?_
      refine g_il1 hc dX3_readOpening_45 rfl (pc2 := 46) rfl ?_
      refine g_callV1v hc (C_X3_push ht) mv_X3_push ln_X3_114 ht ⟨by decide, by decide⟩ (Nat.le_of_ble_eq_true rfl) dX3_readOpening_46 (pc2 := 49) rfl (fun s9 => ?_)
      refine g_rl0 hc dX3_readOpening_49 rfl (pc2 := 50) rfl ?_
      refine g_getR hc fl_X3_42 rfl ht dX3_readOpening_50 (pc2 := 53) rfl ?_
      refine g_callV0v hc (C_X8_next (kf_3_0 ht)) mv_X8_next ln_X3_75 (kf_3_0 ht) ⟨by decide, by decide⟩ (Nat.le_of_ble_eq_true rfl) dX3_readOpening_53 (pc2 := 56) rfl (fun s11 => ?_)
      refine g_iconst hc dX3_readOpening_56 ic_1 (pc2 := 57) rfl ?_
      exact g_zret0 (by decide) hc dX3_readOpening_57
  · refine g_rl0 hc dX3_readOpening_9 rfl (pc2 := 10) rfl ?_
    refine g_getR hc fl_X3_42 rfl ht dX3_readOpening_10 (pc2 := 13) rfl ?_
    refine g_iconst hc dX3_readOpening_13 ic_3 (pc2 := 14) rfl ?_
    refine g_callV1 hc (C_X8_fail (kf_3_0 ht)) mv_X8_fail ln_X3_68 (kf_3_0 ht) ⟨by decide, by decide⟩ (Nat.le_of_ble_eq_true rfl) dX3_readOpening_14 (pc2 := 17) rfl (fun r14 s13 => ?_)
    exact g_zret hc dX3_readOpening_17
set_option maxRecDepth 100000 in
set_option maxHeartbeats 4000000 in
def f_X8_isSign (n : Nat) (t : Nat) (a0 : Int32) (s0 : q_Sto) : Option (Int32 × q_Sto) :=
  if (s0 t 4) = 3 then (
  if (s0 t 5) = a0 then (
  some (1, s0))
  else (
  some (0, s0)))
  else (
  some (0, s0))
set_option maxRecDepth 100000 in
set_option maxHeartbeats 4000000 in
theorem C_X8_isSign {l : Launch} {w : q_Wd} {n : Nat} {t : Nat} {a0 : Int32} (ht : q_KD t = .inl 8) {s0 : q_Sto} : q_C l w yX8_isSign cX8_isSign 2 (some .boolean) (q_rm 0 0) [q_rf w t, .int a0] s0 (f_X8_isSign n t a0 s0) := q_CofG [some (q_rf w t), some (.int a0)] (by decide +kernel) rfl rfl (Nat.le_of_ble_eq_true rfl) fun cx hl hc => by
  have hc : q_ok w cx RX8 cX8_isSign 2 (some .boolean) (q_rm 0 0) := hc
  rw [f_X8_isSign]
  refine g_rl0 hc dX8_isSign_0 rfl (pc2 := 1) rfl ?_
  refine g_getI hc fl_X8_25 rfl ht dX8_isSign_1 (pc2 := 4) rfl ?_
  refine g_iconst hc dX8_isSign_4 ic_3 (pc2 := 5) rfl ?_
  refine g_icmp_ne hc dX8_isSign_5 (pc1 := 8) (pc2 := 20) rfl rfl (fun _ => ?_) (fun _ => ?_)
  · refine g_rl0 hc dX8_isSign_8 rfl (pc2 := 9) rfl ?_
    refine g_getI hc fl_X8_28 rfl ht dX8_isSign_9 (pc2 := 12) rfl ?_
    refine g_il1 hc dX8_isSign_12 rfl (pc2 := 13) rfl ?_
    refine g_icmp_ne hc dX8_isSign_13 (pc1 := 16) (pc2 := 20) rfl rfl (fun _ => ?_) (fun _ => ?_)
    · refine g_iconst hc dX8_isSign_16 ic_1 (pc2 := 17) rfl ?_
      refine g_goto hc dX8_isSign_17 (pc2 := 21) rfl ?_
      exact g_zret0 (by decide) hc dX8_isSign_21
    · refine g_iconst hc dX8_isSign_20 ic_0 (pc2 := 21) rfl ?_
      exact g_zret0 (by decide) hc dX8_isSign_21
  · refine g_iconst hc dX8_isSign_20 ic_0 (pc2 := 21) rfl ?_
    exact g_zret0 (by decide) hc dX8_isSign_21
set_option maxRecDepth 100000 in
set_option maxHeartbeats 4000000 in
def f_X8_isNumber (n : Nat) (t : Nat) (s0 : q_Sto) : Option (Int32 × q_Sto) :=
  if (s0 t 4) = 2 then (
  if ((s0 t 2) - (s0 t 3)) ≤ 4 then (
  some (1, s0))
  else (
  some (0, s0)))
  else (
  some (0, s0))
set_option maxRecDepth 100000 in
set_option maxHeartbeats 4000000 in
theorem C_X8_isNumber {l : Launch} {w : q_Wd} {n : Nat} {t : Nat} (ht : q_KD t = .inl 8) {s0 : q_Sto} : q_C l w yX8_isNumber cX8_isNumber 1 (some .boolean) (q_rm 0 0) [q_rf w t] s0 (f_X8_isNumber n t s0) := q_CofG [some (q_rf w t)] (by decide +kernel) rfl rfl (Nat.le_of_ble_eq_true rfl) fun cx hl hc => by
  have hc : q_ok w cx RX8 cX8_isNumber 1 (some .boolean) (q_rm 0 0) := hc
  rw [f_X8_isNumber]
  refine g_rl0 hc dX8_isNumber_0 rfl (pc2 := 1) rfl ?_
  refine g_getI hc fl_X8_25 rfl ht dX8_isNumber_1 (pc2 := 4) rfl ?_
  refine g_iconst hc dX8_isNumber_4 ic_2 (pc2 := 5) rfl ?_
  refine g_icmp_ne hc dX8_isNumber_5 (pc1 := 8) (pc2 := 25) rfl rfl (fun _ => ?_) (fun _ => ?_)
  · refine g_rl0 hc dX8_isNumber_8 rfl (pc2 := 9) rfl ?_
    refine g_getI hc fl_X8_19 rfl ht dX8_isNumber_9 (pc2 := 12) rfl ?_
    refine g_rl0 hc dX8_isNumber_12 rfl (pc2 := 13) rfl ?_
    refine g_getI hc fl_X8_22 rfl ht dX8_isNumber_13 (pc2 := 16) rfl ?_
    refine g_isub hc dX8_isNumber_16 (pc2 := 17) rfl ?_
    refine g_iconst hc dX8_isNumber_17 ic_4 (pc2 := 18) rfl ?_
    refine g_icmp_gt hc dX8_isNumber_18 (pc1 := 21) (pc2 := 25) rfl rfl (fun _ => ?_) (fun _ => ?_)
    · refine g_iconst hc dX8_isNumber_21 ic_1 (pc2 := 22) rfl ?_
      refine g_goto hc dX8_isNumber_22 (pc2 := 26) rfl ?_
      exact g_zret0 (by decide) hc dX8_isNumber_26
    · refine g_iconst hc dX8_isNumber_25 ic_0 (pc2 := 26) rfl ?_
      exact g_zret0 (by decide) hc dX8_isNumber_26
  · refine g_iconst hc dX8_isNumber_25 ic_0 (pc2 := 26) rfl ?_
    exact g_zret0 (by decide) hc dX8_isNumber_26
set_option maxRecDepth 100000 in
set_option maxHeartbeats 4000000 in
def f_X8_number (n : Nat) (t : Nat) (s0 : q_Sto) : Option (Int32 × q_Sto) :=
  some ((s0 t 5), s0)
set_option maxRecDepth 100000 in
set_option maxHeartbeats 4000000 in
theorem C_X8_number {l : Launch} {w : q_Wd} {n : Nat} {t : Nat} (ht : q_KD t = .inl 8) {s0 : q_Sto} : q_C l w yX8_number cX8_number 1 (some .int) (q_rm 0 0) [q_rf w t] s0 (f_X8_number n t s0) := q_CofG [some (q_rf w t)] (by decide +kernel) rfl rfl (Nat.le_of_ble_eq_true rfl) fun cx hl hc => by
  have hc : q_ok w cx RX8 cX8_number 1 (some .int) (q_rm 0 0) := hc
  rw [f_X8_number]
  refine g_rl0 hc dX8_number_0 rfl (pc2 := 1) rfl ?_
  refine g_getI hc fl_X8_28 rfl ht dX8_number_1 (pc2 := 4) rfl ?_
  exact g_iret hc dX8_number_4
set_option maxRecDepth 100000 in
set_option maxHeartbeats 4000000 in
def f_X3_factAtHand (n : Nat) (t : Nat) (s0 : q_Sto) : Option (Int32 × q_Sto) :=
  q_call (f_X8_isWord n (q_RF t 0) 4 s0) fun r2 s1 =>
  if r2 = 0 then (
  q_call (f_X8_isWord n (q_RF t 0) 5 s1) fun r5 s4 =>
  if r5 = 0 then (
  q_call (f_X8_isWord n (q_RF t 0) 6 s4) fun r8 s7 =>
  if r8 = 0 then (
  q_call (f_X8_isWord n (q_RF t 0) 7 s7) fun r11 s10 =>
  if r11 = 0 then (
  q_call (f_X8_isWord n (q_RF t 0) 8 s10) fun r14 s13 =>
  if r14 = 0 then (
  q_call (f_X8_isWord n (q_RF t 0) 9 s13) fun r17 s16 =>
  if r17 = 0 then (
  q_call (f_X8_isWord n (q_RF t 0) 10 s16) fun r20 s19 =>
  if r20 = 0 then (
  q_call (f_X8_isWord n (q_RF t 0) 11 s19) fun r23 s22 =>
  if r23 = 0 then (
  q_call (f_X8_isWord n (q_RF t 0) 12 s22) fun r26 s25 =>
  if r26 = 0 then (
  q_call (f_X8_isWord n (q_RF t 0) 13 s25) fun r29 s28 =>
  if r29 = 0 then (
  some ((-1), s28))
  else (
  some (9, s28)))
  else (
  some (8, s25)))
  else (
  some (7, s22)))
  else (
  some (6, s19)))
  else (
  some (5, s16)))
  else (
  some (4, s13)))
  else (
  some (3, s10)))
  else (
  some (2, s7)))
  else (
  some (1, s4)))
  else (
  some (0, s1))
set_option maxRecDepth 100000 in
set_option maxHeartbeats 4000000 in
theorem C_X3_factAtHand {l : Launch} {w : q_Wd} {n : Nat} {t : Nat} (ht : q_KD t = .inl 3) {s0 : q_Sto} : q_C l w yX3_factAtHand cX3_factAtHand 1 (some .int) (q_rm 7 162) [q_rf w t] s0 (f_X3_factAtHand n t s0) := q_CofG [some (q_rf w t)] (by decide +kernel) rfl rfl (Nat.le_of_ble_eq_true rfl) fun cx hl hc => by
  have hc : q_ok w cx RX3 cX3_factAtHand 1 (some .int) (q_rm 7 162) := hc
  rw [f_X3_factAtHand]
  refine g_rl0 hc dX3_factAtHand_0 rfl (pc2 := 1) rfl ?_
  refine g_getR hc fl_X3_42 rfl ht dX3_factAtHand_1 (pc2 := 4) rfl ?_
  refine g_ldcS (i := 4) (tx := "mule") hc (by decide +kernel) dX3_factAtHand_4 (pc2 := 6) rfl ?_
  refine g_callV1 hc (C_X8_isWord (kf_3_0 ht) (by decide)) mv_X8_isWord ln_X3_60 (kf_3_0 ht) ⟨by decide, by decide⟩ (Nat.le_of_ble_eq_true rfl) dX3_factAtHand_6 (pc2 := 9) rfl (fun r2 s1 => ?_)
  refine g_if_eq hc dX3_factAtHand_9 (pc1 := 16) (pc2 := 12) rfl rfl (fun _ => ?_) (fun _ => ?_)
  · refine g_rl0 hc dX3_factAtHand_16 rfl (pc2 := 17) rfl ?_
    refine g_getR hc fl_X3_42 rfl ht dX3_factAtHand_17 (pc2 := 20) rfl ?_
    refine g_ldcS (i := 5) (tx := "age") hc (by decide +kernel) dX3_factAtHand_20 (pc2 := 22) rfl ?_
    refine g_callV1 hc (C_X8_isWord (kf_3_0 ht) (by decide)) mv_X8_isWord ln_X3_60 (kf_3_0 ht) ⟨by decide, by decide⟩ (Nat.le_of_ble_eq_true rfl) dX3_factAtHand_22 (pc2 := 25) rfl (fun r5 s4 => ?_)
    refine g_if_eq hc dX3_factAtHand_25 (pc1 := 32) (pc2 := 28) rfl rfl (fun _ => ?_) (fun _ => ?_)
    · refine g_rl0 hc dX3_factAtHand_32 rfl (pc2 := 33) rfl ?_
      refine g_getR hc fl_X3_42 rfl ht dX3_factAtHand_33 (pc2 := 36) rfl ?_
      refine g_ldcS (i := 6) (tx := "strong") hc (by decide +kernel) dX3_factAtHand_36 (pc2 := 38) rfl ?_
      refine g_callV1 hc (C_X8_isWord (kf_3_0 ht) (by decide)) mv_X8_isWord ln_X3_60 (kf_3_0 ht) ⟨by decide, by decide⟩ (Nat.le_of_ble_eq_true rfl) dX3_factAtHand_38 (pc2 := 41) rfl (fun r8 s7 => ?_)
      refine g_if_eq hc dX3_factAtHand_41 (pc1 := 48) (pc2 := 44) rfl rfl (fun _ => ?_) (fun _ => ?_)
      · refine g_rl0 hc dX3_factAtHand_48 rfl (pc2 := 49) rfl ?_
        refine g_getR hc fl_X3_42 rfl ht dX3_factAtHand_49 (pc2 := 52) rfl ?_
        refine g_ldcS (i := 7) (tx := "liking") hc (by decide +kernel) dX3_factAtHand_52 (pc2 := 54) rfl ?_
        refine g_callV1 hc (C_X8_isWord (kf_3_0 ht) (by decide)) mv_X8_isWord ln_X3_60 (kf_3_0 ht) ⟨by decide, by decide⟩ (Nat.le_of_ble_eq_true rfl) dX3_factAtHand_54 (pc2 := 57) rfl (fun r11 s10 => ?_)
        refine g_if_eq hc dX3_factAtHand_57 (pc1 := 64) (pc2 := 60) rfl rfl (fun _ => ?_) (fun _ => ?_)
        · refine g_rl0 hc dX3_factAtHand_64 rfl (pc2 := 65) rfl ?_
          refine g_getR hc fl_X3_42 rfl ht dX3_factAtHand_65 (pc2 := 68) rfl ?_
          refine g_ldcS (i := 8) (tx := "heeded") hc (by decide +kernel) dX3_factAtHand_68 (pc2 := 70) rfl ?_
          refine g_callV1 hc (C_X8_isWord (kf_3_0 ht) (by decide)) mv_X8_isWord ln_X3_60 (kf_3_0 ht) ⟨by decide, by decide⟩ (Nat.le_of_ble_eq_true rfl) dX3_factAtHand_70 (pc2 := 73) rfl (fun r14 s13 => ?_)
          refine g_if_eq hc dX3_factAtHand_73 (pc1 := 80) (pc2 := 76) rfl rfl (fun _ => ?_) (fun _ => ?_)
          · refine g_rl0 hc dX3_factAtHand_80 rfl (pc2 := 81) rfl ?_
            refine g_getR hc fl_X3_42 rfl ht dX3_factAtHand_81 (pc2 := 84) rfl ?_
            refine g_ldcS (i := 9) (tx := "hand") hc (by decide +kernel) dX3_factAtHand_84 (pc2 := 86) rfl ?_
            refine g_callV1 hc (C_X8_isWord (kf_3_0 ht) (by decide)) mv_X8_isWord ln_X3_60 (kf_3_0 ht) ⟨by decide, by decide⟩ (Nat.le_of_ble_eq_true rfl) dX3_factAtHand_86 (pc2 := 89) rfl (fun r17 s16 => ?_)
            refine g_if_eq hc dX3_factAtHand_89 (pc1 := 96) (pc2 := 92) rfl rfl (fun _ => ?_) (fun _ => ?_)
            · refine g_rl0 hc dX3_factAtHand_96 rfl (pc2 := 97) rfl ?_
              refine g_getR hc fl_X3_42 rfl ht dX3_factAtHand_97 (pc2 := 100) rfl ?_
              refine g_ldcS (i := 10) (tx := "songs") hc (by decide +kernel) dX3_factAtHand_100 (pc2 := 102) rfl ?_
              refine g_callV1 hc (C_X8_isWord (kf_3_0 ht) (by decide)) mv_X8_isWord ln_X3_60 (kf_3_0 ht) ⟨by decide, by decide⟩ (Nat.le_of_ble_eq_true rfl) dX3_factAtHand_102 (pc2 := 105) rfl (fun r20 s19 => ?_)
              refine g_if_eq hc dX3_factAtHand_105 (pc1 := 113) (pc2 := 108) rfl rfl (fun _ => ?_) (fun _ => ?_)
              · refine g_rl0 hc dX3_factAtHand_113 rfl (pc2 := 114) rfl ?_
                refine g_getR hc fl_X3_42 rfl ht dX3_factAtHand_114 (pc2 := 117) rfl ?_
                refine g_ldcS (i := 11) (tx := "snow") hc (by decide +kernel) dX3_factAtHand_117 (pc2 := 119) rfl ?_
                refine g_callV1 hc (C_X8_isWord (kf_3_0 ht) (by decide)) mv_X8_isWord ln_X3_60 (kf_3_0 ht) ⟨by decide, by decide⟩ (Nat.le_of_ble_eq_true rfl) dX3_factAtHand_119 (pc2 := 122) rfl (fun r23 s22 => ?_)
                refine g_if_eq hc dX3_factAtHand_122 (pc1 := 130) (pc2 := 125) rfl rfl (fun _ => ?_) (fun _ => ?_)
                · refine g_rl0 hc dX3_factAtHand_130 rfl (pc2 := 131) rfl ?_
                  refine g_getR hc fl_X3_42 rfl ht dX3_factAtHand_131 (pc2 := 134) rfl ?_
                  refine g_ldcS (i := 12) (tx := "hours") hc (by decide +kernel) dX3_factAtHand_134 (pc2 := 136) rfl ?_
                  refine g_callV1 hc (C_X8_isWord (kf_3_0 ht) (by decide)) mv_X8_isWord ln_X3_60 (kf_3_0 ht) ⟨by decide, by decide⟩ (Nat.le_of_ble_eq_true rfl) dX3_factAtHand_136 (pc2 := 139) rfl (fun r26 s25 => ?_)
                  refine g_if_eq hc dX3_factAtHand_139 (pc1 := 147) (pc2 := 142) rfl rfl (fun _ => ?_) (fun _ => ?_)
                  · refine g_rl0 hc dX3_factAtHand_147 rfl (pc2 := 148) rfl ?_
                    refine g_getR hc fl_X3_42 rfl ht dX3_factAtHand_148 (pc2 := 151) rfl ?_
                    refine g_ldcS (i := 13) (tx := "day") hc (by decide +kernel) dX3_factAtHand_151 (pc2 := 153) rfl ?_
                    refine g_callV1 hc (C_X8_isWord (kf_3_0 ht) (by decide)) mv_X8_isWord ln_X3_60 (kf_3_0 ht) ⟨by decide, by decide⟩ (Nat.le_of_ble_eq_true rfl) dX3_factAtHand_153 (pc2 := 156) rfl (fun r29 s28 => ?_)
                    refine g_if_eq hc dX3_factAtHand_156 (pc1 := 164) (pc2 := 159) rfl rfl (fun _ => ?_) (fun _ => ?_)
                    · refine g_iconst hc dX3_factAtHand_164 ic_m1 (pc2 := 165) rfl ?_
                      exact g_iret hc dX3_factAtHand_165
                    · refine g_bipush hc dX3_factAtHand_159 bp_9 (pc2 := 161) rfl ?_
                      refine g_goto hc dX3_factAtHand_161 (pc2 := 165) rfl ?_
                      exact g_iret hc dX3_factAtHand_165
                  · refine g_bipush hc dX3_factAtHand_142 bp_8 (pc2 := 144) rfl ?_
                    refine g_goto hc dX3_factAtHand_144 (pc2 := 165) rfl ?_
                    exact g_iret hc dX3_factAtHand_165
                · refine g_bipush hc dX3_factAtHand_125 bp_7 (pc2 := 127) rfl ?_
                  refine g_goto hc dX3_factAtHand_127 (pc2 := 165) rfl ?_
                  exact g_iret hc dX3_factAtHand_165
              · refine g_bipush hc dX3_factAtHand_108 bp_6 (pc2 := 110) rfl ?_
                refine g_goto hc dX3_factAtHand_110 (pc2 := 165) rfl ?_
                exact g_iret hc dX3_factAtHand_165
            · refine g_iconst hc dX3_factAtHand_92 ic_5 (pc2 := 93) rfl ?_
              refine g_goto hc dX3_factAtHand_93 (pc2 := 165) rfl ?_
              exact g_iret hc dX3_factAtHand_165
          · refine g_iconst hc dX3_factAtHand_76 ic_4 (pc2 := 77) rfl ?_
            refine g_goto hc dX3_factAtHand_77 (pc2 := 165) rfl ?_
            exact g_iret hc dX3_factAtHand_165
        · refine g_iconst hc dX3_factAtHand_60 ic_3 (pc2 := 61) rfl ?_
          refine g_goto hc dX3_factAtHand_61 (pc2 := 165) rfl ?_
          exact g_iret hc dX3_factAtHand_165
      · refine g_iconst hc dX3_factAtHand_44 ic_2 (pc2 := 45) rfl ?_
        refine g_goto hc dX3_factAtHand_45 (pc2 := 165) rfl ?_
        exact g_iret hc dX3_factAtHand_165
    · refine g_iconst hc dX3_factAtHand_28 ic_1 (pc2 := 29) rfl ?_
      refine g_goto hc dX3_factAtHand_29 (pc2 := 165) rfl ?_
      exact g_iret hc dX3_factAtHand_165
  · refine g_iconst hc dX3_factAtHand_12 ic_0 (pc2 := 13) rfl ?_
    refine g_goto hc dX3_factAtHand_13 (pc2 := 165) rfl ?_
    exact g_iret hc dX3_factAtHand_165
set_option maxRecDepth 100000 in
set_option maxHeartbeats 4000000 in
def f_X3_readOperand (n : Nat) (t : Nat) (s0 : q_Sto) : Option (Int32 × q_Sto) :=
  q_jn (fun  (s1 : q_Sto) =>
    q_call (f_X8_isNumber n (q_RF t 0) s1) fun r3 s2 =>
    if r3 = 0 then (
    q_call (f_X3_factAtHand n t s2) fun r6 s5 =>
    if r6 = (-1) then (
    q_call (f_X8_fail n (q_RF t 0) 1 s5) fun r9 s8 =>
    q_rz r9 s8)
    else (
    q_callv (f_X2_emit n (q_RF t 1) 1 r6 s5) fun s10 =>
    q_callv (f_X8_next n (q_RF t 0) s10) fun s12 =>
    q_nS1 (q_up s12 t 6 2) fun s14 =>
    some (1, s14)))
    else (
    q_call (f_X8_number n (q_RF t 0) s2) fun r16 s15 =>
    q_callv (f_X2_emit n (q_RF t 1) 0 r16 s15) fun s17 =>
    q_callv (f_X8_next n (q_RF t 0) s17) fun s19 =>
    q_nS1 (q_up s19 t 6 2) fun s21 =>
    some (1, s21))) fun j51 =>
  if (s0 t 6) = 1 then (
  q_nS1 (q_up s0 t 8 0) fun s23 =>
  q_call (f_X8_isWord n (q_RF t 0) 3 s23) fun r25 s24 =>
  if r25 = 0 then (
  q_call (f_X8_isSign n (q_RF t 0) 40 s24) fun r28 s27 =>
  if r28 = 0 then (
  j51 s27)
  else (
  q_call (f_X3_readOpening n t 12 s27) fun r31 s30 =>
  q_rz r31 s30))
  else (
  q_call (f_X3_readOpening n t 9 s24) fun r33 s32 =>
  q_rz r33 s32))
  else (
  j51 s0)
set_option maxRecDepth 100000 in
set_option maxHeartbeats 4000000 in
theorem C_X3_readOperand {l : Launch} {w : q_Wd} {n : Nat} {t : Nat} (ht : q_KD t = .inl 3) {s0 : q_Sto} : q_C l w yX3_readOperand cX3_readOperand 2 (some .boolean) (q_rm 8 182) [q_rf w t] s0 (f_X3_readOperand n t s0) := q_CofG [some (q_rf w t), none] (by decide +kernel) rfl rfl (Nat.le_of_ble_eq_true rfl) fun cx hl hc => by
  have hc : q_ok w cx RX3 cX3_readOperand 2 (some .boolean) (q_rm 8 182) := hc
  rw [f_X3_readOperand]
  refine g_rl0 hc dX3_readOperand_0 rfl (pc2 := 1) rfl ?_
  refine g_getI hc fl_X3_32 rfl ht dX3_readOperand_1 (pc2 := 4) rfl ?_
  refine g_iconst hc dX3_readOperand_4 ic_1 (pc2 := 5) rfl ?_
  refine g_jn (P := fun j51 => ∀  (s1 : q_Sto), q_G w cx 2 (some .boolean) 51 [some (q_rf w t), none] [] s1 (j51 s1)) (fun s1 => ?_) (fun j51 hj51 => ?_)
  · refine g_rl0 hc dX3_readOperand_51 rfl (pc2 := 52) rfl ?_
    refine g_getR hc fl_X3_42 rfl ht dX3_readOperand_52 (pc2 := 55) rfl ?_
    refine g_callV0 hc (C_X8_isNumber (kf_3_0 ht)) mv_X8_isNumber ln_X3_100 (kf_3_0 ht) ⟨by decide, by decide⟩ (Nat.le_of_ble_eq_true rfl) dX3_readOperand_55 (pc2 := 58) rfl (fun r3 s2 => ?_)
    refine g_if_eq hc dX3_readOperand_58 (pc1 := 79) (pc2 := 61) rfl rfl (fun _ => ?_) (fun _ => ?_)
    · refine g_rl0 hc dX3_readOperand_79 rfl (pc2 := 80) rfl ?_
      refine g_callV0 hc (C_X3_factAtHand ht) mv_X3_factAtHand ln_X3_111 ht ⟨by decide, by decide⟩ (Nat.le_of_ble_eq_true rfl) dX3_readOperand_80 (pc2 := 83) rfl (fun r6 s5 => ?_)
      refine g_is1 hc dX3_readOperand_83 (by decide) (L2 := [some (q_rf w t), some (.int r6)]) rfl (pc2 := 84) rfl ?_
      refine g_il1 hc dX3_readOperand_84 rfl (pc2 := 85) rfl ?_
      refine g_iconst hc dX3_readOperand_85 ic_m1 (pc2 := 86) rfl ?_
      refine g_icmp_ne hc dX3_readOperand_86 (pc1 := 89) (pc2 := 98) rfl rfl (fun _ => ?_) (fun _ => ?_)
      · refine g_rl0 hc dX3_readOperand_89 rfl (pc2 := 90) rfl ?_
        refine g_getR hc fl_X3_42 rfl ht dX3_readOperand_90 (pc2 := 93) rfl ?_
        refine g_iconst hc dX3_readOperand_93 ic_1 (pc2 := 94) rfl ?_
        refine g_callV1 hc (C_X8_fail (kf_3_0 ht)) mv_X8_fail ln_X3_68 (kf_3_0 ht) ⟨by decide, by decide⟩ (Nat.le_of_ble_eq_true rfl) dX3_readOperand_94 (pc2 := 97) rfl (fun r9 s8 => ?_)
        exact g_zret hc dX3_readOperand_97
      · refine g_rl0 hc dX3_readOperand_98 rfl (pc2 := 99) rfl ?_
        refine g_getR hc fl_X3_12 rfl ht dX3_readOperand_99 (pc2 := 102) rfl ?_
        refine g_iconst hc dX3_readOperand_102 ic_1 (pc2 := 103) rfl ?_
        refine g_il1 hc dX3_readOperand_103 rfl (pc2 := 104) rfl ?_
        refine g_callV2v hc (C_X2_emit (kf_3_1 ht)) mv_X2_emit ln_X3_107 (kf_3_1 ht) ⟨by decide, by decide⟩ (Nat.le_of_ble_eq_true rfl) dX3_readOperand_104 (pc2 := 107) rfl (fun s10 => ?_)
        refine g_rl0 hc dX3_readOperand_107 rfl (pc2 := 108) rfl ?_
        refine g_getR hc fl_X3_42 rfl ht dX3_readOperand_108 (pc2 := 111) rfl ?_
        refine g_callV0v hc (C_X8_next (kf_3_0 ht)) mv_X8_next ln_X3_75 (kf_3_0 ht) ⟨by decide, by decide⟩ (Nat.le_of_ble_eq_true rfl) dX3_readOperand_111 (pc2 := 114) rfl (fun s12 => ?_)
        refine g_rl0 hc dX3_readOperand_114 rfl (pc2 := 115) rfl ?_
        refine g_iconst hc dX3_readOperand_115 ic_2 (pc2 := 116) rfl ?_
        refine g_putI hc fl_X3_32 rfl ht dX3_readOperand_116 (pc2 := 119) rfl (fun s14 => ?_)
        refine g_iconst hc dX3_readOperand_119 ic_1 (pc2 := 120) rfl ?_
        exact g_zret0 (by decide) hc dX3_readOperand_120
    · refine g_rl0 hc dX3_readOperand_61 rfl (pc2 := 62) rfl ?_
      refine g_getR hc fl_X3_12 rfl ht dX3_readOperand_62 (pc2 := 65) rfl ?_
      refine g_iconst hc dX3_readOperand_65 ic_0 (pc2 := 66) rfl ?_
      refine g_rl0 hc dX3_readOperand_66 rfl (pc2 := 67) rfl ?_
      refine g_getR hc fl_X3_42 rfl ht dX3_readOperand_67 (pc2 := 70) rfl ?_
      refine g_callV0 hc (C_X8_number (kf_3_0 ht)) mv_X8_number ln_X3_103 (kf_3_0 ht) ⟨by decide, by decide⟩ (Nat.le_of_ble_eq_true rfl) dX3_readOperand_70 (pc2 := 73) rfl (fun r16 s15 => ?_)
      refine g_callV2v hc (C_X2_emit (kf_3_1 ht)) mv_X2_emit ln_X3_107 (kf_3_1 ht) ⟨by decide, by decide⟩ (Nat.le_of_ble_eq_true rfl) dX3_readOperand_73 (pc2 := 76) rfl (fun s17 => ?_)
      refine g_goto hc dX3_readOperand_76 (pc2 := 107) rfl ?_
      refine g_rl0 hc dX3_readOperand_107 rfl (pc2 := 108) rfl ?_
      refine g_getR hc fl_X3_42 rfl ht dX3_readOperand_108 (pc2 := 111) rfl ?_
      refine g_callV0v hc (C_X8_next (kf_3_0 ht)) mv_X8_next ln_X3_75 (kf_3_0 ht) ⟨by decide, by decide⟩ (Nat.le_of_ble_eq_true rfl) dX3_readOperand_111 (pc2 := 114) rfl (fun s19 => ?_)
      refine g_rl0 hc dX3_readOperand_114 rfl (pc2 := 115) rfl ?_
      refine g_iconst hc dX3_readOperand_115 ic_2 (pc2 := 116) rfl ?_
      refine g_putI hc fl_X3_32 rfl ht dX3_readOperand_116 (pc2 := 119) rfl (fun s21 => ?_)
      refine g_iconst hc dX3_readOperand_119 ic_1 (pc2 := 120) rfl ?_
      exact g_zret0 (by decide) hc dX3_readOperand_120
  · refine g_icmp_ne hc dX3_readOperand_5 (pc1 := 8) (pc2 := 51) rfl rfl (fun _ => ?_) (fun _ => ?_)
    · refine g_rl0 hc dX3_readOperand_8 rfl (pc2 := 9) rfl ?_
      refine g_iconst hc dX3_readOperand_9 ic_0 (pc2 := 10) rfl ?_
      refine g_putZ (by decide) hc fl_X3_39 rfl ht dX3_readOperand_10 (pc2 := 13) rfl (fun s23 => ?_)
      refine g_rl0 hc dX3_readOperand_13 rfl (pc2 := 14) rfl ?_
      refine g_getR hc fl_X3_42 rfl ht dX3_readOperand_14 (pc2 := 17) rfl ?_
      refine g_ldcS (i := 3) (tx := "not") hc (by decide +kernel) dX3_readOperand_17 (pc2 := 19) rfl ?_
      refine g_callV1 hc (C_X8_isWord (kf_3_0 ht) (by decide)) mv_X8_isWord ln_X3_60 (kf_3_0 ht) ⟨by decide, by decide⟩ (Nat.le_of_ble_eq_true rfl) dX3_readOperand_19 (pc2 := 22) rfl (fun r25 s24 => ?_)
      refine g_if_eq hc dX3_readOperand_22 (pc1 := 32) (pc2 := 25) rfl rfl (fun _ => ?_) (fun _ => ?_)
      · refine g_rl0 hc dX3_readOperand_32 rfl (pc2 := 33) rfl ?_
        refine g_getR hc fl_X3_42 rfl ht dX3_readOperand_33 (pc2 := 36) rfl ?_
        refine g_bipush hc dX3_readOperand_36 bp_40 (pc2 := 38) rfl ?_
        refine g_callV1 hc (C_X8_isSign (kf_3_0 ht)) mv_X8_isSign ln_X3_96 (kf_3_0 ht) ⟨by decide, by decide⟩ (Nat.le_of_ble_eq_true rfl) dX3_readOperand_38 (pc2 := 41) rfl (fun r28 s27 => ?_)
        refine g_if_eq hc dX3_readOperand_41 (pc1 := 51) (pc2 := 44) rfl rfl (fun _ => ?_) (fun _ => ?_)
        · exact hj51 _
        · refine g_rl0 hc dX3_readOperand_44 rfl (pc2 := 45) rfl ?_
          refine g_bipush hc dX3_readOperand_45 bp_12 (pc2 := 47) rfl ?_
          refine g_callV1 hc (C_X3_readOpening ht) mv_X3_readOpening ln_X3_93 ht ⟨by decide, by decide⟩ (Nat.le_of_ble_eq_true rfl) dX3_readOperand_47 (pc2 := 50) rfl (fun r31 s30 => ?_)
          exact g_zret hc dX3_readOperand_50
      · refine g_rl0 hc dX3_readOperand_25 rfl (pc2 := 26) rfl ?_
        refine g_bipush hc dX3_readOperand_26 bp_9 (pc2 := 28) rfl ?_
        refine g_callV1 hc (C_X3_readOpening ht) mv_X3_readOpening ln_X3_93 ht ⟨by decide, by decide⟩ (Nat.le_of_ble_eq_true rfl) dX3_readOperand_28 (pc2 := 31) rfl (fun r33 s32 => ?_)
        exact g_zret hc dX3_readOperand_31
    · exact hj51 _
