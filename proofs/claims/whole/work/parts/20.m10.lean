set_option maxRecDepth 100000 in
set_option maxHeartbeats 4000000 in
def f_X12_count_L4 (n : Nat) (x0 : Int32) : Nat → Int32 → Int32 → q_Sto → Option (Int32 × q_Sto)
  | 0, _, _, _ => none
  | j + 1, x1, x2, s0 =>
    if x2 < 12 then (
    q_nm (x1 + ((x0 >>> (x2 &&& 31)) &&& 1)) fun v2 =>
    f_X12_count_L4 n x0  j v2 (x2 + 1) s0)
    else (
    some (x1, s0))
set_option maxRecDepth 100000 in
set_option maxHeartbeats 4000000 in
def f_X12_count (n : Nat) (a0 : Int32) (s0 : q_Sto) : Option (Int32 × q_Sto) :=
  f_X12_count_L4 n a0  n 0 0 s0
set_option maxRecDepth 100000 in
set_option maxHeartbeats 4000000 in
theorem t_X12_count_L4 {w : q_Wd} {cx : q_Cx} (hc : q_ok w cx RX12 cX12_count 3 (some .int) (q_rm 0 0)) {n : Nat} {x0 : Int32}    :
    ∀ (j : Nat) (x1 : Int32) (x2 : Int32) (s0 : q_Sto), q_G w cx 3 (some .int) 4 [some (.int x0), some (.int x1), some (.int x2)] [] s0 (f_X12_count_L4 n x0  j x1 x2 s0) := by
  intro j
  induction j with
  | zero =>
    intro _ _ _
    rw [f_X12_count_L4]
    exact q_none
  | succ j ih =>
    intro x1 x2 s0
    rw [f_X12_count_L4]
    refine g_il2 hc dX12_count_4 rfl (pc2 := 5) rfl ?_
    refine g_bipush hc dX12_count_5 bp_12 (pc2 := 7) rfl ?_
    refine g_icmp_ge hc dX12_count_7 (pc1 := 10) (pc2 := 24) rfl rfl (fun _ => ?_) (fun _ => ?_)
    · refine g_il1 hc dX12_count_10 rfl (pc2 := 11) rfl ?_
      refine g_il0 hc dX12_count_11 rfl (pc2 := 12) rfl ?_
      refine g_il2 hc dX12_count_12 rfl (pc2 := 13) rfl ?_
      refine g_ishr hc dX12_count_13 (pc2 := 14) rfl ?_
      refine g_iconst hc dX12_count_14 ic_1 (pc2 := 15) rfl ?_
      refine g_iand hc dX12_count_15 (pc2 := 16) rfl ?_
      refine g_iadd hc dX12_count_16 (pc2 := 17) rfl ?_
      refine g_nm (fun v2 => ?_)
      refine g_is1 hc dX12_count_17 (by decide) (L2 := [some (.int x0), some (.int v2), some (.int x2)]) rfl (pc2 := 18) rfl ?_
      refine g_iinc hc dX12_count_18 rfl (q_ii ic_1) (by decide) (L2 := [some (.int x0), some (.int v2), some (.int (x2 + 1))]) rfl (pc2 := 21) rfl ?_
      refine g_goto hc dX12_count_21 (pc2 := 4) rfl ?_
      exact ih _ _ _
    · refine g_il1 hc dX12_count_24 rfl (pc2 := 25) rfl ?_
      exact g_iret hc dX12_count_25
set_option maxRecDepth 100000 in
set_option maxHeartbeats 4000000 in
theorem C_X12_count {l : Launch} {w : q_Wd} {n : Nat} {a0 : Int32}  {s0 : q_Sto} : q_C l w yX12_count cX12_count 3 (some .int) (q_rm 0 0) [.int a0] s0 (f_X12_count n a0 s0) := q_CofG [some (.int a0), none, none] (by decide +kernel) rfl rfl (Nat.le_of_ble_eq_true rfl) fun cx hl hc => by
  have hc : q_ok w cx RX12 cX12_count 3 (some .int) (q_rm 0 0) := hc
  rw [f_X12_count]
  refine g_iconst hc dX12_count_0 ic_0 (pc2 := 1) rfl ?_
  refine g_is1 hc dX12_count_1 (by decide) (L2 := [some (.int a0), some (.int 0), none]) rfl (pc2 := 2) rfl ?_
  refine g_iconst hc dX12_count_2 ic_0 (pc2 := 3) rfl ?_
  refine g_is2 hc dX12_count_3 (by decide) (L2 := [some (.int a0), some (.int 0), some (.int 0)]) rfl (pc2 := 4) rfl ?_
  refine t_X12_count_L4 hc   n _ _ _
set_option maxRecDepth 100000 in
set_option maxHeartbeats 4000000 in
def f_X12_behind_L4 (n : Nat) (x0 : Nat) (x1 : Int32) : Nat → Int32 → Int32 → q_Sto → Option (Int32 × q_Sto)
  | 0, _, _, _ => none
  | j + 1, x2, x3, s0 =>
    q_ld s0 (q_RF x0 0) 86 1790 fun v1 =>
    if x3 < v1 then (
    q_ld s0 (q_RF x0 0) (8 + x3) 1790 fun v3 =>
    if v3 = x1 then (
    q_nm (x2 ||| (1 <<< (x3 &&& 31))) fun v5 =>
    f_X12_behind_L4 n x0 x1  j v5 (x3 + 1) s0)
    else (
    q_nm (x2 ||| 0) fun v6 =>
    f_X12_behind_L4 n x0 x1  j v6 (x3 + 1) s0))
    else (
    some (x2, s0))
set_option maxRecDepth 100000 in
set_option maxHeartbeats 4000000 in
def f_X12_behind (n : Nat) (t : Nat) (a0 : Int32) (s0 : q_Sto) : Option (Int32 × q_Sto) :=
  f_X12_behind_L4 n t a0  n 0 0 s0
set_option maxRecDepth 100000 in
set_option maxHeartbeats 4000000 in
theorem t_X12_behind_L4 {w : q_Wd} {cx : q_Cx} (hc : q_ok w cx RX12 cX12_behind 4 (some .int) (q_rm 0 0)) {n : Nat} {x0 : Nat} {x1 : Int32} (hx0 : q_KD x0 = .inl 12)   :
    ∀ (j : Nat) (x2 : Int32) (x3 : Int32) (s0 : q_Sto), q_G w cx 4 (some .int) 4 [some (q_rf w x0), some (.int x1), some (.int x2), some (.int x3)] [] s0 (f_X12_behind_L4 n x0 x1  j x2 x3 s0) := by
  intro j
  induction j with
  | zero =>
    intro _ _ _
    rw [f_X12_behind_L4]
    exact q_none
  | succ j ih =>
    intro x2 x3 s0
    rw [f_X12_behind_L4]
    refine g_il3 hc dX12_behind_4 rfl (pc2 := 5) rfl ?_
    refine g_rl0 hc dX12_behind_5 rfl (pc2 := 6) rfl ?_
    refine g_getR hc fl_X12_7 rfl hx0 dX12_behind_6 (pc2 := 9) rfl ?_
    refine g_bipush hc dX12_behind_9 bp_86 (pc2 := 11) rfl ?_
    refine g_iald hc (kf_12_0 hx0) (kl_12_0 hx0) dX12_behind_11 (pc2 := 12) rfl (fun v1 => ?_)
    refine g_icmp_ge hc dX12_behind_12 (pc1 := 15) (pc2 := 44) rfl rfl (fun _ => ?_) (fun _ => ?_)
    · refine g_il2 hc dX12_behind_15 rfl (pc2 := 16) rfl ?_
      refine g_rl0 hc dX12_behind_16 rfl (pc2 := 17) rfl ?_
      refine g_getR hc fl_X12_7 rfl hx0 dX12_behind_17 (pc2 := 20) rfl ?_
      refine g_bipush hc dX12_behind_20 bp_8 (pc2 := 22) rfl ?_
      refine g_il3 hc dX12_behind_22 rfl (pc2 := 23) rfl ?_
      refine g_iadd hc dX12_behind_23 (pc2 := 24) rfl ?_
      refine g_iald hc (kf_12_0 hx0) (kl_12_0 hx0) dX12_behind_24 (pc2 := 25) rfl (fun v3 => ?_)
      refine g_il1 hc dX12_behind_25 rfl (pc2 := 26) rfl ?_
      refine g_icmp_ne hc dX12_behind_26 (pc1 := 29) (pc2 := 35) rfl rfl (fun _ => ?_) (fun _ => ?_)
      · refine g_iconst hc dX12_behind_29 ic_1 (pc2 := 30) rfl ?_
        refine g_il3 hc dX12_behind_30 rfl (pc2 := 31) rfl ?_
        refine g_ishl hc dX12_behind_31 (pc2 := 32) rfl ?_
        refine g_goto hc dX12_behind_32 (pc2 := 36) rfl ?_
        refine g_ior hc dX12_behind_36 (pc2 := 37) rfl ?_
        refine g_nm (fun v5 => ?_)
        refine g_is2 hc dX12_behind_37 (by decide) (L2 := [some (q_rf w x0), some (.int x1), some (.int v5), some (.int x3)]) rfl (pc2 := 38) rfl ?_
        refine g_iinc hc dX12_behind_38 rfl (q_ii ic_1) (by decide) (L2 := [some (q_rf w x0), some (.int x1), some (.int v5), some (.int (x3 + 1))]) rfl (pc2 := 41) rfl ?_
        refine g_goto hc dX12_behind_41 (pc2 := 4) rfl ?_
        exact ih _ _ _
      · refine g_iconst hc dX12_behind_35 ic_0 (pc2 := 36) rfl ?_
        refine g_ior hc dX12_behind_36 (pc2 := 37) rfl ?_
        refine g_nm (fun v6 => ?_)
        refine g_is2 hc dX12_behind_37 (by decide) (L2 := [some (q_rf w x0), some (.int x1), some (.int v6), some (.int x3)]) rfl (pc2 := 38) rfl ?_
        refine g_iinc hc dX12_behind_38 rfl (q_ii ic_1) (by decide) (L2 := [some (q_rf w x0), some (.int x1), some (.int v6), some (.int (x3 + 1))]) rfl (pc2 := 41) rfl ?_
        refine g_goto hc dX12_behind_41 (pc2 := 4) rfl ?_
        exact ih _ _ _
    · refine g_il2 hc dX12_behind_44 rfl (pc2 := 45) rfl ?_
      exact g_iret hc dX12_behind_45
set_option maxRecDepth 100000 in
set_option maxHeartbeats 4000000 in
theorem C_X12_behind {l : Launch} {w : q_Wd} {n : Nat} {t : Nat} {a0 : Int32} (ht : q_KD t = .inl 12) {s0 : q_Sto} : q_C l w yX12_behind cX12_behind 4 (some .int) (q_rm 0 0) [q_rf w t, .int a0] s0 (f_X12_behind n t a0 s0) := q_CofG [some (q_rf w t), some (.int a0), none, none] (by decide +kernel) rfl rfl (Nat.le_of_ble_eq_true rfl) fun cx hl hc => by
  have hc : q_ok w cx RX12 cX12_behind 4 (some .int) (q_rm 0 0) := hc
  rw [f_X12_behind]
  refine g_iconst hc dX12_behind_0 ic_0 (pc2 := 1) rfl ?_
  refine g_is2 hc dX12_behind_1 (by decide) (L2 := [some (q_rf w t), some (.int a0), some (.int 0), none]) rfl (pc2 := 2) rfl ?_
  refine g_iconst hc dX12_behind_2 ic_0 (pc2 := 3) rfl ?_
  refine g_is3 hc dX12_behind_3 (by decide) (L2 := [some (q_rf w t), some (.int a0), some (.int 0), some (.int 0)]) rfl (pc2 := 4) rfl ?_
  refine t_X12_behind_L4 hc ht  n _ _ _
set_option maxRecDepth 100000 in
set_option maxHeartbeats 4000000 in
def f_X12_forgets (n : Nat) (t : Nat) (s0 : q_Sto) : Option (Int32 × q_Sto) :=
  q_nS1 (q_up s0 t 4 0) fun s1 =>
  some (0, s1)
set_option maxRecDepth 100000 in
set_option maxHeartbeats 4000000 in
theorem C_X12_forgets {l : Launch} {w : q_Wd} {n : Nat} {t : Nat} (ht : q_KD t = .inl 12) {s0 : q_Sto} : q_C l w yX12_forgets cX12_forgets 1 (none) (q_rm 0 0) [q_rf w t] s0 (f_X12_forgets n t s0) := q_CofG [some (q_rf w t)] (by decide +kernel) rfl rfl (Nat.le_of_ble_eq_true rfl) fun cx hl hc => by
  have hc : q_ok w cx RX12 cX12_forgets 1 (none) (q_rm 0 0) := hc
  rw [f_X12_forgets]
  refine g_rl0 hc dX12_forgets_0 rfl (pc2 := 1) rfl ?_
  refine g_iconst hc dX12_forgets_1 ic_0 (pc2 := 2) rfl ?_
  refine g_putI hc fl_X12_60 rfl ht dX12_forgets_2 (pc2 := 5) rfl (fun s1 => ?_)
  exact g_vret hc dX12_forgets_5
set_option maxRecDepth 100000 in
set_option maxHeartbeats 4000000 in
def f_X12_state (n : Nat) (t : Nat) (a0 : Int32) (s0 : q_Sto) : Option (Int32 × q_Sto) :=
  q_ld s0 (q_RF t 0) 5 1790 fun v1 =>
  q_st s0 (q_RF t 0) 5 1790 a0 fun s2 =>
  q_callv (f_X12_forgets n t s2) fun s3 =>
  some (v1, s3)
set_option maxRecDepth 100000 in
set_option maxHeartbeats 4000000 in
theorem C_X12_state {l : Launch} {w : q_Wd} {n : Nat} {t : Nat} {a0 : Int32} (ht : q_KD t = .inl 12) {s0 : q_Sto} : q_C l w yX12_state cX12_state 3 (some .int) (q_rm 1 20) [q_rf w t, .int a0] s0 (f_X12_state n t a0 s0) := q_CofG [some (q_rf w t), some (.int a0), none] (by decide +kernel) rfl rfl (Nat.le_of_ble_eq_true rfl) fun cx hl hc => by
  have hc : q_ok w cx RX12 cX12_state 3 (some .int) (q_rm 1 20) := hc
  rw [f_X12_state]
  refine g_rl0 hc dX12_state_0 rfl (pc2 := 1) rfl ?_
  refine g_getR hc fl_X12_7 rfl ht dX12_state_1 (pc2 := 4) rfl ?_
  refine g_iconst hc dX12_state_4 ic_5 (pc2 := 5) rfl ?_
  refine g_iald hc (kf_12_0 ht) (kl_12_0 ht) dX12_state_5 (pc2 := 6) rfl (fun v1 => ?_)
  refine g_is2 hc dX12_state_6 (by decide) (L2 := [some (q_rf w t), some (.int a0), some (.int v1)]) rfl (pc2 := 7) rfl ?_
  refine g_rl0 hc dX12_state_7 rfl (pc2 := 8) rfl ?_
  refine g_getR hc fl_X12_7 rfl ht dX12_state_8 (pc2 := 11) rfl ?_
  refine g_iconst hc dX12_state_11 ic_5 (pc2 := 12) rfl ?_
  refine g_il1 hc dX12_state_12 rfl (pc2 := 13) rfl ?_
  refine g_iast hc (kf_12_0 ht) (kl_12_0 ht) dX12_state_13 (pc2 := 14) rfl (fun s2 => ?_)
  refine g_rl0 hc dX12_state_14 rfl (pc2 := 15) rfl ?_
  refine g_callV0v hc (C_X12_forgets ht) mv_X12_forgets ln_X12_63 ht ⟨by decide, by decide⟩ (Nat.le_of_ble_eq_true rfl) dX12_state_15 (pc2 := 18) rfl (fun s3 => ?_)
  refine g_il2 hc dX12_state_18 rfl (pc2 := 19) rfl ?_
  exact g_iret hc dX12_state_19
set_option maxRecDepth 100000 in
set_option maxHeartbeats 4000000 in
def f_X12_draw (n : Nat) (t : Nat) (a0 : Int32) (s0 : q_Sto) : Option (Int32 × q_Sto) :=
  q_ld s0 (q_RF t 0) 5 1790 fun v1 =>
  q_st s0 (q_RF t 0) 5 1790 ((1664525 * v1) + 1013904223) fun s2 =>
  q_ld s2 (q_RF t 0) 5 1790 fun v3 =>
  q_rem (q_ushr v3 8) a0 fun v4 =>
  some (v4, s2)
set_option maxRecDepth 100000 in
set_option maxHeartbeats 4000000 in
theorem C_X12_draw {l : Launch} {w : q_Wd} {n : Nat} {t : Nat} {a0 : Int32} (ht : q_KD t = .inl 12) {s0 : q_Sto} : q_C l w yX12_draw cX12_draw 2 (some .int) (q_rm 0 0) [q_rf w t, .int a0] s0 (f_X12_draw n t a0 s0) := q_CofG [some (q_rf w t), some (.int a0)] (by decide +kernel) rfl rfl (Nat.le_of_ble_eq_true rfl) fun cx hl hc => by
  have hc : q_ok w cx RX12 cX12_draw 2 (some .int) (q_rm 0 0) := hc
  rw [f_X12_draw]
  refine g_rl0 hc dX12_draw_0 rfl (pc2 := 1) rfl ?_
  refine g_getR hc fl_X12_7 rfl ht dX12_draw_1 (pc2 := 4) rfl ?_
  refine g_iconst hc dX12_draw_4 ic_5 (pc2 := 5) rfl ?_
  refine g_ldc hc cn_X12_66 dX12_draw_5 (pc2 := 7) rfl ?_
  refine g_rl0 hc dX12_draw_7 rfl (pc2 := 8) rfl ?_
  refine g_getR hc fl_X12_7 rfl ht dX12_draw_8 (pc2 := 11) rfl ?_
  refine g_iconst hc dX12_draw_11 ic_5 (pc2 := 12) rfl ?_
  refine g_iald hc (kf_12_0 ht) (kl_12_0 ht) dX12_draw_12 (pc2 := 13) rfl (fun v1 => ?_)
  refine g_imul hc dX12_draw_13 (pc2 := 14) rfl ?_
  refine g_ldc hc cn_X12_67 dX12_draw_14 (pc2 := 16) rfl ?_
  refine g_iadd hc dX12_draw_16 (pc2 := 17) rfl ?_
  refine g_iast hc (kf_12_0 ht) (kl_12_0 ht) dX12_draw_17 (pc2 := 18) rfl (fun s2 => ?_)
  refine g_rl0 hc dX12_draw_18 rfl (pc2 := 19) rfl ?_
  refine g_getR hc fl_X12_7 rfl ht dX12_draw_19 (pc2 := 22) rfl ?_
  refine g_iconst hc dX12_draw_22 ic_5 (pc2 := 23) rfl ?_
  refine g_iald hc (kf_12_0 ht) (kl_12_0 ht) dX12_draw_23 (pc2 := 24) rfl (fun v3 => ?_)
  refine g_bipush hc dX12_draw_24 bp_8 (pc2 := 26) rfl ?_
  refine g_iushr hc dX12_draw_26 (pc2 := 27) rfl ?_
  refine g_il1 hc dX12_draw_27 rfl (pc2 := 28) rfl ?_
  refine g_irem hc dX12_draw_28 (pc2 := 29) rfl (fun v4 => ?_)
  exact g_iret hc dX12_draw_29
set_option maxRecDepth 100000 in
set_option maxHeartbeats 4000000 in
def f_X12_mule_L86 (n : Nat) (x0 : Nat) (x3 : Int32) (k114 : q_Sto → Option (Int32 × q_Sto)) : Nat → Int32 → q_Sto → Option (Int32 × q_Sto)
  | 0, _, _ => none
  | j + 1, x4, s0 =>
    if x4 < 5 then (
    q_st s0 (q_RF x0 0) ((20 + (5 * x3)) + x4) 1790 30 fun s15 =>
    f_X12_mule_L86 n x0 x3 k114 j (x4 + 1) s15)
    else (
    k114 s0)
set_option maxRecDepth 100000 in
set_option maxHeartbeats 4000000 in
def f_X12_mule (n : Nat) (t : Nat) (a0 : Int32) (a1 : Int32) (s0 : q_Sto) : Option (Int32 × q_Sto) :=
  q_call (f_X12_isIn n a0 1 40 s0) fun r2 s1 =>
  if r2 = 0 then (
  some ((-1), s1))
  else (
  q_call (f_X12_isIn n a1 0 40 s1) fun r5 s4 =>
  if r5 = 0 then (
  some ((-1), s4))
  else (
  q_ld s4 (q_RF t 0) 86 1790 fun v7 =>
  if v7 = 12 then (
  some ((-1), s4))
  else (
  q_ld s4 (q_RF t 0) 86 1790 fun v9 =>
  q_st s4 (q_RF t 0) (95 + v9) 1790 a0 fun s10 =>
  q_st s10 (q_RF t 0) (107 + v9) 1790 a1 fun s11 =>
  q_st s11 (q_RF t 0) (8 + v9) 1790 (-1) fun s12 =>
  q_st s12 (q_RF t 0) (129 + v9) 1790 0 fun s13 =>
  f_X12_mule_L86 n t v9 (fun  (s16 : q_Sto) =>
  q_ld s16 (q_RF t 0) 86 1790 fun v17 =>
  q_st s16 (q_RF t 0) 86 1790 (v17 + 1) fun s18 =>
  q_callv (f_X12_forgets n t s18) fun s19 =>
  some (v9, s19)) n 0 s13)))
set_option maxRecDepth 100000 in
set_option maxHeartbeats 4000000 in
theorem t_X12_mule_L86 {w : q_Wd} {cx : q_Cx} (hc : q_ok w cx RX12 cX12_mule 5 (some .int) (q_rm 1 22)) {n : Nat} {x0 : Nat} {x3 : Int32} (hx0 : q_KD x0 = .inl 12) {k114 : q_Sto → Option (Int32 × q_Sto)} (hk114 : ∀  (s1 : q_Sto), q_G w cx 5 (some .int) 114 [some (q_rf w x0), none, none, some (.int x3), none] [] s1 (k114 s1)) :
    ∀ (j : Nat) (x4 : Int32) (s0 : q_Sto), q_G w cx 5 (some .int) 86 [some (q_rf w x0), none, none, some (.int x3), some (.int x4)] [] s0 (f_X12_mule_L86 n x0 x3 k114 j x4 s0) := by
  intro j
  induction j with
  | zero =>
    intro _ _
    rw [f_X12_mule_L86]
    exact q_none
  | succ j ih =>
    intro x4 s0
    rw [f_X12_mule_L86]
    refine g_iload hc dX12_mule_86 rfl (pc2 := 88) rfl ?_
    refine g_iconst hc dX12_mule_88 ic_5 (pc2 := 89) rfl ?_
    refine g_icmp_ge hc dX12_mule_89 (pc1 := 92) (pc2 := 114) rfl rfl (fun _ => ?_) (fun _ => ?_)
    · refine g_rl0 hc dX12_mule_92 rfl (pc2 := 93) rfl ?_
      refine g_getR hc fl_X12_7 rfl hx0 dX12_mule_93 (pc2 := 96) rfl ?_
      refine g_bipush hc dX12_mule_96 bp_20 (pc2 := 98) rfl ?_
      refine g_iconst hc dX12_mule_98 ic_5 (pc2 := 99) rfl ?_
      refine g_il3 hc dX12_mule_99 rfl (pc2 := 100) rfl ?_
      refine g_imul hc dX12_mule_100 (pc2 := 101) rfl ?_
      refine g_iadd hc dX12_mule_101 (pc2 := 102) rfl ?_
      refine g_iload hc dX12_mule_102 rfl (pc2 := 104) rfl ?_
      refine g_iadd hc dX12_mule_104 (pc2 := 105) rfl ?_
      refine g_bipush hc dX12_mule_105 bp_30 (pc2 := 107) rfl ?_
      refine g_iast hc (kf_12_0 hx0) (kl_12_0 hx0) dX12_mule_107 (pc2 := 108) rfl (fun s15 => ?_)
      refine g_iinc hc dX12_mule_108 rfl (q_ii ic_1) (by decide) (L2 := [some (q_rf w x0), none, none, some (.int x3), some (.int (x4 + 1))]) rfl (pc2 := 111) rfl ?_
      refine g_goto hc dX12_mule_111 (pc2 := 86) rfl ?_
      exact ih _ _
    · refine q_Gmask [true, true, true, true, false] (L2 := [some (q_rf w x0), none, none, some (.int x3), none]) rfl ?_
      exact hk114 _
set_option maxRecDepth 100000 in
set_option maxHeartbeats 4000000 in
theorem C_X12_mule {l : Launch} {w : q_Wd} {n : Nat} {t : Nat} {a0 : Int32} {a1 : Int32} (ht : q_KD t = .inl 12) {s0 : q_Sto} : q_C l w yX12_mule cX12_mule 5 (some .int) (q_rm 1 22) [q_rf w t, .int a0, .int a1] s0 (f_X12_mule n t a0 a1 s0) := q_CofG [some (q_rf w t), some (.int a0), some (.int a1), none, none] (by decide +kernel) rfl rfl (Nat.le_of_ble_eq_true rfl) fun cx hl hc => by
  have hc : q_ok w cx RX12 cX12_mule 5 (some .int) (q_rm 1 22) := hc
  rw [f_X12_mule]
  refine g_il1 hc dX12_mule_0 rfl (pc2 := 1) rfl ?_
  refine g_iconst hc dX12_mule_1 ic_1 (pc2 := 2) rfl ?_
  refine g_bipush hc dX12_mule_2 bp_40 (pc2 := 4) rfl ?_
  refine g_callS3 hc C_X12_isIn mv_X12_isIn ln_X12_56 ⟨by decide, by decide⟩ (Nat.le_of_ble_eq_true rfl) dX12_mule_4 (pc2 := 7) rfl (fun r2 s1 => ?_)
  refine g_if_eq hc dX12_mule_7 (pc1 := 32) (pc2 := 10) rfl rfl (fun _ => ?_) (fun _ => ?_)
  · refine g_iconst hc dX12_mule_32 ic_m1 (pc2 := 33) rfl ?_
    exact g_iret hc dX12_mule_33
  · refine g_il2 hc dX12_mule_10 rfl (pc2 := 11) rfl ?_
    refine g_iconst hc dX12_mule_11 ic_0 (pc2 := 12) rfl ?_
    refine g_bipush hc dX12_mule_12 bp_40 (pc2 := 14) rfl ?_
    refine g_callS3 hc C_X12_isIn mv_X12_isIn ln_X12_56 ⟨by decide, by decide⟩ (Nat.le_of_ble_eq_true rfl) dX12_mule_14 (pc2 := 17) rfl (fun r5 s4 => ?_)
    refine g_if_eq hc dX12_mule_17 (pc1 := 32) (pc2 := 20) rfl rfl (fun _ => ?_) (fun _ => ?_)
    · refine g_iconst hc dX12_mule_32 ic_m1 (pc2 := 33) rfl ?_
      exact g_iret hc dX12_mule_33
    · refine g_rl0 hc dX12_mule_20 rfl (pc2 := 21) rfl ?_
      refine g_getR hc fl_X12_7 rfl ht dX12_mule_21 (pc2 := 24) rfl ?_
      refine g_bipush hc dX12_mule_24 bp_86 (pc2 := 26) rfl ?_
      refine g_iald hc (kf_12_0 ht) (kl_12_0 ht) dX12_mule_26 (pc2 := 27) rfl (fun v7 => ?_)
      refine g_bipush hc dX12_mule_27 bp_12 (pc2 := 29) rfl ?_
      refine g_icmp_ne hc dX12_mule_29 (pc1 := 32) (pc2 := 34) rfl rfl (fun _ => ?_) (fun _ => ?_)
      · refine g_iconst hc dX12_mule_32 ic_m1 (pc2 := 33) rfl ?_
        exact g_iret hc dX12_mule_33
      · refine g_rl0 hc dX12_mule_34 rfl (pc2 := 35) rfl ?_
        refine g_getR hc fl_X12_7 rfl ht dX12_mule_35 (pc2 := 38) rfl ?_
        refine g_bipush hc dX12_mule_38 bp_86 (pc2 := 40) rfl ?_
        refine g_iald hc (kf_12_0 ht) (kl_12_0 ht) dX12_mule_40 (pc2 := 41) rfl (fun v9 => ?_)
        refine g_is3 hc dX12_mule_41 (by decide) (L2 := [some (q_rf w t), some (.int a0), some (.int a1), some (.int v9), none]) rfl (pc2 := 42) rfl ?_
        refine g_rl0 hc dX12_mule_42 rfl (pc2 := 43) rfl ?_
        refine g_getR hc fl_X12_7 rfl ht dX12_mule_43 (pc2 := 46) rfl ?_
        refine g_bipush hc dX12_mule_46 bp_95 (pc2 := 48) rfl ?_
        refine g_il3 hc dX12_mule_48 rfl (pc2 := 49) rfl ?_
        refine g_iadd hc dX12_mule_49 (pc2 := 50) rfl ?_
        refine g_il1 hc dX12_mule_50 rfl (pc2 := 51) rfl ?_
        refine g_iast hc (kf_12_0 ht) (kl_12_0 ht) dX12_mule_51 (pc2 := 52) rfl (fun s10 => ?_)
        refine g_rl0 hc dX12_mule_52 rfl (pc2 := 53) rfl ?_
        refine g_getR hc fl_X12_7 rfl ht dX12_mule_53 (pc2 := 56) rfl ?_
        refine g_bipush hc dX12_mule_56 bp_107 (pc2 := 58) rfl ?_
        refine g_il3 hc dX12_mule_58 rfl (pc2 := 59) rfl ?_
        refine g_iadd hc dX12_mule_59 (pc2 := 60) rfl ?_
        refine g_il2 hc dX12_mule_60 rfl (pc2 := 61) rfl ?_
        refine g_iast hc (kf_12_0 ht) (kl_12_0 ht) dX12_mule_61 (pc2 := 62) rfl (fun s11 => ?_)
        refine g_rl0 hc dX12_mule_62 rfl (pc2 := 63) rfl ?_
        refine g_getR hc fl_X12_7 rfl ht dX12_mule_63 (pc2 := 66) rfl ?_
        refine g_bipush hc dX12_mule_66 bp_8 (pc2 := 68) rfl ?_
        refine g_il3 hc dX12_mule_68 rfl (pc2 := 69) rfl ?_
        refine g_iadd hc dX12_mule_69 (pc2 := 70) rfl ?_
        refine g_iconst hc dX12_mule_70 ic_m1 (pc2 := 71) rfl ?_
        refine g_iast hc (kf_12_0 ht) (kl_12_0 ht) dX12_mule_71 (pc2 := 72) rfl (fun s12 => ?_)
        refine g_rl0 hc dX12_mule_72 rfl (pc2 := 73) rfl ?_
        refine g_getR hc fl_X12_7 rfl ht dX12_mule_73 (pc2 := 76) rfl ?_
        refine g_sipush hc dX12_mule_76 sp_129 (pc2 := 79) rfl ?_
        refine g_il3 hc dX12_mule_79 rfl (pc2 := 80) rfl ?_
        refine g_iadd hc dX12_mule_80 (pc2 := 81) rfl ?_
        refine g_iconst hc dX12_mule_81 ic_0 (pc2 := 82) rfl ?_
        refine g_iast hc (kf_12_0 ht) (kl_12_0 ht) dX12_mule_82 (pc2 := 83) rfl (fun s13 => ?_)
        refine g_iconst hc dX12_mule_83 ic_0 (pc2 := 84) rfl ?_
        refine g_istore hc dX12_mule_84 (by decide) (L2 := [some (q_rf w t), some (.int a0), some (.int a1), some (.int v9), some (.int 0)]) rfl (pc2 := 86) rfl ?_
        refine q_Gmask [true, false, false, true, true] (L2 := [some (q_rf w t), none, none, some (.int v9), some (.int 0)]) rfl ?_
        refine t_X12_mule_L86 hc ht (fun s16 => ?_) n _ _
        refine g_rl0 hc dX12_mule_114 rfl (pc2 := 115) rfl ?_
        refine g_getR hc fl_X12_7 rfl ht dX12_mule_115 (pc2 := 118) rfl ?_
        refine g_bipush hc dX12_mule_118 bp_86 (pc2 := 120) rfl ?_
        refine g_dup2 hc dX12_mule_120 rfl rfl (pc2 := 121) rfl ?_
        refine g_iald hc (kf_12_0 ht) (kl_12_0 ht) dX12_mule_121 (pc2 := 122) rfl (fun v17 => ?_)
        refine g_iconst hc dX12_mule_122 ic_1 (pc2 := 123) rfl ?_
        refine g_iadd hc dX12_mule_123 (pc2 := 124) rfl ?_
        refine g_iast hc (kf_12_0 ht) (kl_12_0 ht) dX12_mule_124 (pc2 := 125) rfl (fun s18 => ?_)
        refine g_rl0 hc dX12_mule_125 rfl (pc2 := 126) rfl ?_
        refine g_callV0v hc (C_X12_forgets ht) mv_X12_forgets ln_X12_63 ht ⟨by decide, by decide⟩ (Nat.le_of_ble_eq_true rfl) dX12_mule_126 (pc2 := 129) rfl (fun s19 => ?_)
        refine g_il3 hc dX12_mule_129 rfl (pc2 := 130) rfl ?_
        exact g_iret hc dX12_mule_130
set_option maxRecDepth 100000 in
set_option maxHeartbeats 4000000 in
def f_X12_man_L88 (n : Nat) (x0 : Nat) (x4 : Int32) (k118 : q_Sto → Option (Int32 × q_Sto)) : Nat → Int32 → q_Sto → Option (Int32 × q_Sto)
  | 0, _, _ => none
  | j + 1, x5, s0 =>
    if x5 < 12 then (
    q_st s0 (q_RF x0 0) ((20 + (5 * x5)) + x4) 1790 30 fun s17 =>
    f_X12_man_L88 n x0 x4 k118 j (x5 + 1) s17)
    else (
    k118 s0)
set_option maxRecDepth 100000 in
set_option maxHeartbeats 4000000 in
def f_X12_man (n : Nat) (t : Nat) (a0 : Int32) (a1 : Int32) (a2 : Int32) (s0 : q_Sto) : Option (Int32 × q_Sto) :=
  q_call (f_X12_isIn n a0 0 99 s0) fun r2 s1 =>
  if r2 = 0 then (
  some ((-1), s1))
  else (
  q_call (f_X12_isIn n a1 0 9 s1) fun r5 s4 =>
  if r5 = 0 then (
  some ((-1), s4))
  else (
  q_call (f_X12_isIn n a2 0 9 s4) fun r8 s7 =>
  if r8 = 0 then (
  some ((-1), s7))
  else (
  q_ld s7 (q_RF t 0) 87 1790 fun v10 =>
  if v10 = 5 then (
  some ((-1), s7))
  else (
  q_ld s7 (q_RF t 0) 87 1790 fun v12 =>
  q_st s7 (q_RF t 0) (80 + v12) 1790 a0 fun s13 =>
  q_st s13 (q_RF t 0) (119 + v12) 1790 a1 fun s14 =>
  q_st s14 (q_RF t 0) (124 + v12) 1790 a2 fun s15 =>
  f_X12_man_L88 n t v12 (fun  (s18 : q_Sto) =>
  q_ld s18 (q_RF t 0) 87 1790 fun v19 =>
  q_st s18 (q_RF t 0) 87 1790 (v19 + 1) fun s20 =>
  q_callv (f_X12_forgets n t s20) fun s21 =>
  some (v12, s21)) n 0 s15))))
set_option maxRecDepth 100000 in
set_option maxHeartbeats 4000000 in
theorem t_X12_man_L88 {w : q_Wd} {cx : q_Cx} (hc : q_ok w cx RX12 cX12_man 6 (some .int) (q_rm 1 22)) {n : Nat} {x0 : Nat} {x4 : Int32} (hx0 : q_KD x0 = .inl 12) {k118 : q_Sto → Option (Int32 × q_Sto)} (hk118 : ∀  (s1 : q_Sto), q_G w cx 6 (some .int) 118 [some (q_rf w x0), none, none, none, some (.int x4), none] [] s1 (k118 s1)) :
    ∀ (j : Nat) (x5 : Int32) (s0 : q_Sto), q_G w cx 6 (some .int) 88 [some (q_rf w x0), none, none, none, some (.int x4), some (.int x5)] [] s0 (f_X12_man_L88 n x0 x4 k118 j x5 s0) := by
  intro j
  induction j with
  | zero =>
    intro _ _
    rw [f_X12_man_L88]
    exact q_none
  | succ j ih =>
    intro x5 s0
    rw [f_X12_man_L88]
    refine g_iload hc dX12_man_88 rfl (pc2 := 90) rfl ?_
    refine g_bipush hc dX12_man_90 bp_12 (pc2 := 92) rfl ?_
    refine g_icmp_ge hc dX12_man_92 (pc1 := 95) (pc2 := 118) rfl rfl (fun _ => ?_) (fun _ => ?_)
    · refine g_rl0 hc dX12_man_95 rfl (pc2 := 96) rfl ?_
      refine g_getR hc fl_X12_7 rfl hx0 dX12_man_96 (pc2 := 99) rfl ?_
      refine g_bipush hc dX12_man_99 bp_20 (pc2 := 101) rfl ?_
      refine g_iconst hc dX12_man_101 ic_5 (pc2 := 102) rfl ?_
      refine g_iload hc dX12_man_102 rfl (pc2 := 104) rfl ?_
      refine g_imul hc dX12_man_104 (pc2 := 105) rfl ?_
      refine g_iadd hc dX12_man_105 (pc2 := 106) rfl ?_
      refine g_iload hc dX12_man_106 rfl (pc2 := 108) rfl ?_
      refine g_iadd hc dX12_man_108 (pc2 := 109) rfl ?_
      refine g_bipush hc dX12_man_109 bp_30 (pc2 := 111) rfl ?_
      refine g_iast hc (kf_12_0 hx0) (kl_12_0 hx0) dX12_man_111 (pc2 := 112) rfl (fun s17 => ?_)
      refine g_iinc hc dX12_man_112 rfl (q_ii ic_1) (by decide) (L2 := [some (q_rf w x0), none, none, none, some (.int x4), some (.int (x5 + 1))]) rfl (pc2 := 115) rfl ?_
      refine g_goto hc dX12_man_115 (pc2 := 88) rfl ?_
      exact ih _ _
    · refine q_Gmask [true, true, true, true, true, false] (L2 := [some (q_rf w x0), none, none, none, some (.int x4), none]) rfl ?_
      exact hk118 _
set_option maxRecDepth 100000 in
set_option maxHeartbeats 4000000 in
theorem C_X12_man {l : Launch} {w : q_Wd} {n : Nat} {t : Nat} {a0 : Int32} {a1 : Int32} {a2 : Int32} (ht : q_KD t = .inl 12) {s0 : q_Sto} : q_C l w yX12_man cX12_man 6 (some .int) (q_rm 1 22) [q_rf w t, .int a0, .int a1, .int a2] s0 (f_X12_man n t a0 a1 a2 s0) := q_CofG [some (q_rf w t), some (.int a0), some (.int a1), some (.int a2), none, none] (by decide +kernel) rfl rfl (Nat.le_of_ble_eq_true rfl) fun cx hl hc => by
  have hc : q_ok w cx RX12 cX12_man 6 (some .int) (q_rm 1 22) := hc
  rw [f_X12_man]
  refine g_il1 hc dX12_man_0 rfl (pc2 := 1) rfl ?_
  refine g_iconst hc dX12_man_1 ic_0 (pc2 := 2) rfl ?_
  refine g_bipush hc dX12_man_2 bp_99 (pc2 := 4) rfl ?_
  refine g_callS3 hc C_X12_isIn mv_X12_isIn ln_X12_56 ⟨by decide, by decide⟩ (Nat.le_of_ble_eq_true rfl) dX12_man_4 (pc2 := 7) rfl (fun r2 s1 => ?_)
  refine g_if_eq hc dX12_man_7 (pc1 := 41) (pc2 := 10) rfl rfl (fun _ => ?_) (fun _ => ?_)
  · refine g_iconst hc dX12_man_41 ic_m1 (pc2 := 42) rfl ?_
    exact g_iret hc dX12_man_42
  · refine g_il2 hc dX12_man_10 rfl (pc2 := 11) rfl ?_
    refine g_iconst hc dX12_man_11 ic_0 (pc2 := 12) rfl ?_
    refine g_bipush hc dX12_man_12 bp_9 (pc2 := 14) rfl ?_
    refine g_callS3 hc C_X12_isIn mv_X12_isIn ln_X12_56 ⟨by decide, by decide⟩ (Nat.le_of_ble_eq_true rfl) dX12_man_14 (pc2 := 17) rfl (fun r5 s4 => ?_)
    refine g_if_eq hc dX12_man_17 (pc1 := 41) (pc2 := 20) rfl rfl (fun _ => ?_) (fun _ => ?_)
    · refine g_iconst hc dX12_man_41 ic_m1 (pc2 := 42) rfl ?_
      exact g_iret hc dX12_man_42
    · refine g_il3 hc dX12_man_20 rfl (pc2 := 21) rfl ?_
      refine g_iconst hc dX12_man_21 ic_0 (pc2 := 22) rfl ?_
      refine g_bipush hc dX12_man_22 bp_9 (pc2 := 24) rfl ?_
      refine g_callS3 hc C_X12_isIn mv_X12_isIn ln_X12_56 ⟨by decide, by decide⟩ (Nat.le_of_ble_eq_true rfl) dX12_man_24 (pc2 := 27) rfl (fun r8 s7 => ?_)
      refine g_if_eq hc dX12_man_27 (pc1 := 41) (pc2 := 30) rfl rfl (fun _ => ?_) (fun _ => ?_)
      · refine g_iconst hc dX12_man_41 ic_m1 (pc2 := 42) rfl ?_
        exact g_iret hc dX12_man_42
      · refine g_rl0 hc dX12_man_30 rfl (pc2 := 31) rfl ?_
        refine g_getR hc fl_X12_7 rfl ht dX12_man_31 (pc2 := 34) rfl ?_
        refine g_bipush hc dX12_man_34 bp_87 (pc2 := 36) rfl ?_
        refine g_iald hc (kf_12_0 ht) (kl_12_0 ht) dX12_man_36 (pc2 := 37) rfl (fun v10 => ?_)
        refine g_iconst hc dX12_man_37 ic_5 (pc2 := 38) rfl ?_
        refine g_icmp_ne hc dX12_man_38 (pc1 := 41) (pc2 := 43) rfl rfl (fun _ => ?_) (fun _ => ?_)
        · refine g_iconst hc dX12_man_41 ic_m1 (pc2 := 42) rfl ?_
          exact g_iret hc dX12_man_42
        · refine g_rl0 hc dX12_man_43 rfl (pc2 := 44) rfl ?_
          refine g_getR hc fl_X12_7 rfl ht dX12_man_44 (pc2 := 47) rfl ?_
          refine g_bipush hc dX12_man_47 bp_87 (pc2 := 49) rfl ?_
          refine g_iald hc (kf_12_0 ht) (kl_12_0 ht) dX12_man_49 (pc2 := 50) rfl (fun v12 => ?_)
          refine g_istore hc dX12_man_50 (by decide) (L2 := [some (q_rf w t), some (.int a0), some (.int a1), some (.int a2), some (.int v12), none]) rfl (pc2 := 52) rfl ?_
          refine g_rl0 hc dX12_man_52 rfl (pc2 := 53) rfl ?_
          refine g_getR hc fl_X12_7 rfl ht dX12_man_53 (pc2 := 56) rfl ?_
          refine g_bipush hc dX12_man_56 bp_80 (pc2 := 58) rfl ?_
          refine g_iload hc dX12_man_58 rfl (pc2 := 60) rfl ?_
          refine g_iadd hc dX12_man_60 (pc2 := 61) rfl ?_
          refine g_il1 hc dX12_man_61 rfl (pc2 := 62) rfl ?_
          refine g_iast hc (kf_12_0 ht) (kl_12_0 ht) dX12_man_62 (pc2 := 63) rfl (fun s13 => ?_)
          refine g_rl0 hc dX12_man_63 rfl (pc2 := 64) rfl ?_
          refine g_getR hc fl_X12_7 rfl ht dX12_man_64 (pc2 := 67) rfl ?_
          refine g_bipush hc dX12_man_67 bp_119 (pc2 := 69) rfl ?_
          refine g_iload hc dX12_man_69 rfl (pc2 := 71) rfl ?_
          refine g_iadd hc dX12_man_71 (pc2 := 72) rfl ?_
          refine g_il2 hc dX12_man_72 rfl (pc2 := 73) rfl ?_
          refine g_iast hc (kf_12_0 ht) (kl_12_0 ht) dX12_man_73 (pc2 := 74) rfl (fun s14 => ?_)
          refine g_rl0 hc dX12_man_74 rfl (pc2 := 75) rfl ?_
          refine g_getR hc fl_X12_7 rfl ht dX12_man_75 (pc2 := 78) rfl ?_
          refine g_bipush hc dX12_man_78 bp_124 (pc2 := 80) rfl ?_
          refine g_iload hc dX12_man_80 rfl (pc2 := 82) rfl ?_
          refine g_iadd hc dX12_man_82 (pc2 := 83) rfl ?_
          refine g_il3 hc dX12_man_83 rfl (pc2 := 84) rfl ?_
          refine g_iast hc (kf_12_0 ht) (kl_12_0 ht) dX12_man_84 (pc2 := 85) rfl (fun s15 => ?_)
          refine g_iconst hc dX12_man_85 ic_0 (pc2 := 86) rfl ?_
          refine g_istore hc dX12_man_86 (by decide) (L2 := [some (q_rf w t), some (.int a0), some (.int a1), some (.int a2), some (.int v12), some (.int 0)]) rfl (pc2 := 88) rfl ?_
          refine q_Gmask [true, false, false, false, true, true] (L2 := [some (q_rf w t), none, none, none, some (.int v12), some (.int 0)]) rfl ?_
          refine t_X12_man_L88 hc ht (fun s18 => ?_) n _ _
          refine g_rl0 hc dX12_man_118 rfl (pc2 := 119) rfl ?_
          refine g_getR hc fl_X12_7 rfl ht dX12_man_119 (pc2 := 122) rfl ?_
          refine g_bipush hc dX12_man_122 bp_87 (pc2 := 124) rfl ?_
          refine g_dup2 hc dX12_man_124 rfl rfl (pc2 := 125) rfl ?_
          refine g_iald hc (kf_12_0 ht) (kl_12_0 ht) dX12_man_125 (pc2 := 126) rfl (fun v19 => ?_)
          refine g_iconst hc dX12_man_126 ic_1 (pc2 := 127) rfl ?_
          refine g_iadd hc dX12_man_127 (pc2 := 128) rfl ?_
          refine g_iast hc (kf_12_0 ht) (kl_12_0 ht) dX12_man_128 (pc2 := 129) rfl (fun s20 => ?_)
          refine g_rl0 hc dX12_man_129 rfl (pc2 := 130) rfl ?_
          refine g_callV0v hc (C_X12_forgets ht) mv_X12_forgets ln_X12_63 ht ⟨by decide, by decide⟩ (Nat.le_of_ble_eq_true rfl) dX12_man_130 (pc2 := 133) rfl (fun s21 => ?_)
          refine g_iload hc dX12_man_133 rfl (pc2 := 135) rfl ?_
          exact g_iret hc dX12_man_135
set_option maxRecDepth 100000 in
set_option maxHeartbeats 4000000 in
def f_X12_canSet (n : Nat) (t : Nat) (a0 : Int32) (a1 : Int32) (a2 : Int32) (s0 : q_Sto) : Option (Int32 × q_Sto) :=
  q_jn (fun  (s1 : q_Sto) =>
    q_call (f_X12_isMan n t a1 s1) fun r3 s2 =>
    if r3 = 0 then (
    some (0, s2))
    else (
    q_call (f_X12_isIn n a2 0 9 s2) fun r6 s5 =>
    if r6 = 0 then (
    some (0, s5))
    else (
    some (1, s5)))) fun j100 =>
  if a0 = 0 then (
  q_call (f_X12_isIn n a2 0 9 s0) fun r10 s9 =>
  q_rz r10 s9)
  else
  if a0 = 1 then (
  q_call (f_X12_isCamp n a2 s0) fun r13 s12 =>
  q_rz r13 s12)
  else
  if a0 = 2 then (
  q_call (f_X12_isMule n t a1 s0) fun r16 s15 =>
  if r16 = 0 then (
  some (0, s15))
  else (
  q_call (f_X12_isIn n a2 0 1 s15) fun r19 s18 =>
  if r19 = 0 then (
  some (0, s18))
  else (
  some (1, s18))))
  else
  if a0 = 3 then (
  q_call (f_X12_isMan n t a1 s0) fun r23 s22 =>
  if r23 = 0 then (
  some (0, s22))
  else (
  q_call (f_X12_isIn n a2 0 99 s22) fun r26 s25 =>
  if r26 = 0 then (
  some (0, s25))
  else (
  some (1, s25))))
  else
  if a0 = 4 then (
  j100 s0)
  else
  if a0 = 5 then (
  j100 s0)
  else
  (some (0, s0))
set_option maxRecDepth 100000 in
set_option maxHeartbeats 4000000 in
theorem C_X12_canSet {l : Launch} {w : q_Wd} {n : Nat} {t : Nat} {a0 : Int32} {a1 : Int32} {a2 : Int32} (ht : q_KD t = .inl 12) {s0 : q_Sto} : q_C l w yX12_canSet cX12_canSet 4 (some .boolean) (q_rm 2 43) [q_rf w t, .int a0, .int a1, .int a2] s0 (f_X12_canSet n t a0 a1 a2 s0) := q_CofG [some (q_rf w t), some (.int a0), some (.int a1), some (.int a2)] (by decide +kernel) rfl rfl (Nat.le_of_ble_eq_true rfl) fun cx hl hc => by
  have hc : q_ok w cx RX12 cX12_canSet 4 (some .boolean) (q_rm 2 43) := hc
  rw [f_X12_canSet]
  refine g_il1 hc dX12_canSet_0 rfl (pc2 := 1) rfl ?_
  refine g_jn (P := fun j100 => ∀  (s1 : q_Sto), q_G w cx 4 (some .boolean) 100 [some (q_rf w t), none, some (.int a1), some (.int a2)] [] s1 (j100 s1)) (fun s1 => ?_) (fun j100 hj100 => ?_)
  · refine g_rl0 hc dX12_canSet_100 rfl (pc2 := 101) rfl ?_
    refine g_il2 hc dX12_canSet_101 rfl (pc2 := 102) rfl ?_
    refine g_callV1 hc (C_X12_isMan ht) mv_X12_isMan ln_X12_75 ht ⟨by decide, by decide⟩ (Nat.le_of_ble_eq_true rfl) dX12_canSet_102 (pc2 := 105) rfl (fun r3 s2 => ?_)
    refine g_if_eq hc dX12_canSet_105 (pc1 := 122) (pc2 := 108) rfl rfl (fun _ => ?_) (fun _ => ?_)
    · refine g_iconst hc dX12_canSet_122 ic_0 (pc2 := 123) rfl ?_
      exact g_zret0 (by decide) hc dX12_canSet_123
    · refine g_il3 hc dX12_canSet_108 rfl (pc2 := 109) rfl ?_
      refine g_iconst hc dX12_canSet_109 ic_0 (pc2 := 110) rfl ?_
      refine g_bipush hc dX12_canSet_110 bp_9 (pc2 := 112) rfl ?_
      refine g_callS3 hc C_X12_isIn mv_X12_isIn ln_X12_56 ⟨by decide, by decide⟩ (Nat.le_of_ble_eq_true rfl) dX12_canSet_112 (pc2 := 115) rfl (fun r6 s5 => ?_)
      refine g_if_eq hc dX12_canSet_115 (pc1 := 122) (pc2 := 118) rfl rfl (fun _ => ?_) (fun _ => ?_)
      · refine g_iconst hc dX12_canSet_122 ic_0 (pc2 := 123) rfl ?_
        exact g_zret0 (by decide) hc dX12_canSet_123
      · refine g_iconst hc dX12_canSet_118 ic_1 (pc2 := 119) rfl ?_
        refine g_goto hc dX12_canSet_119 (pc2 := 123) rfl ?_
        exact g_zret0 (by decide) hc dX12_canSet_123
  · refine g_swc (pc2 := 0) hc dX12_canSet_1 (c := 0) (by decide) (by decide) rfl (pc1 := 40) rfl (fun _ => ?_) (fun c8 => ?_)
    · refine g_il3 hc dX12_canSet_40 rfl (pc2 := 41) rfl ?_
      refine g_iconst hc dX12_canSet_41 ic_0 (pc2 := 42) rfl ?_
      refine g_bipush hc dX12_canSet_42 bp_9 (pc2 := 44) rfl ?_
      refine g_callS3 hc C_X12_isIn mv_X12_isIn ln_X12_56 ⟨by decide, by decide⟩ (Nat.le_of_ble_eq_true rfl) dX12_canSet_44 (pc2 := 47) rfl (fun r10 s9 => ?_)
      exact g_zret hc dX12_canSet_47
    refine g_swc (pc2 := 0) hc dX12_canSet_1 (c := 1) (by decide) (by decide) rfl (pc1 := 48) rfl (fun _ => ?_) (fun c11 => ?_)
    · refine g_il3 hc dX12_canSet_48 rfl (pc2 := 49) rfl ?_
      refine g_callS1 hc C_X12_isCamp mv_X12_isCamp ln_X12_68 ⟨by decide, by decide⟩ (Nat.le_of_ble_eq_true rfl) dX12_canSet_49 (pc2 := 52) rfl (fun r13 s12 => ?_)
      exact g_zret hc dX12_canSet_52
    refine g_swc (pc2 := 0) hc dX12_canSet_1 (c := 2) (by decide) (by decide) rfl (pc1 := 53) rfl (fun _ => ?_) (fun c14 => ?_)
    · refine g_rl0 hc dX12_canSet_53 rfl (pc2 := 54) rfl ?_
      refine g_il2 hc dX12_canSet_54 rfl (pc2 := 55) rfl ?_
      refine g_callV1 hc (C_X12_isMule ht) mv_X12_isMule ln_X12_72 ht ⟨by decide, by decide⟩ (Nat.le_of_ble_eq_true rfl) dX12_canSet_55 (pc2 := 58) rfl (fun r16 s15 => ?_)
      refine g_if_eq hc dX12_canSet_58 (pc1 := 74) (pc2 := 61) rfl rfl (fun _ => ?_) (fun _ => ?_)
      · refine g_iconst hc dX12_canSet_74 ic_0 (pc2 := 75) rfl ?_
        exact g_zret0 (by decide) hc dX12_canSet_75
      · refine g_il3 hc dX12_canSet_61 rfl (pc2 := 62) rfl ?_
        refine g_iconst hc dX12_canSet_62 ic_0 (pc2 := 63) rfl ?_
        refine g_iconst hc dX12_canSet_63 ic_1 (pc2 := 64) rfl ?_
        refine g_callS3 hc C_X12_isIn mv_X12_isIn ln_X12_56 ⟨by decide, by decide⟩ (Nat.le_of_ble_eq_true rfl) dX12_canSet_64 (pc2 := 67) rfl (fun r19 s18 => ?_)
        refine g_if_eq hc dX12_canSet_67 (pc1 := 74) (pc2 := 70) rfl rfl (fun _ => ?_) (fun _ => ?_)
        · refine g_iconst hc dX12_canSet_74 ic_0 (pc2 := 75) rfl ?_
          exact g_zret0 (by decide) hc dX12_canSet_75
        · refine g_iconst hc dX12_canSet_70 ic_1 (pc2 := 71) rfl ?_
          refine g_goto hc dX12_canSet_71 (pc2 := 75) rfl ?_
          exact g_zret0 (by decide) hc dX12_canSet_75
    refine g_swc (pc2 := 0) hc dX12_canSet_1 (c := 3) (by decide) (by decide) rfl (pc1 := 76) rfl (fun _ => ?_) (fun c21 => ?_)
    · refine g_rl0 hc dX12_canSet_76 rfl (pc2 := 77) rfl ?_
      refine g_il2 hc dX12_canSet_77 rfl (pc2 := 78) rfl ?_
      refine g_callV1 hc (C_X12_isMan ht) mv_X12_isMan ln_X12_75 ht ⟨by decide, by decide⟩ (Nat.le_of_ble_eq_true rfl) dX12_canSet_78 (pc2 := 81) rfl (fun r23 s22 => ?_)
      refine g_if_eq hc dX12_canSet_81 (pc1 := 98) (pc2 := 84) rfl rfl (fun _ => ?_) (fun _ => ?_)
      · refine g_iconst hc dX12_canSet_98 ic_0 (pc2 := 99) rfl ?_
        exact g_zret0 (by decide) hc dX12_canSet_99
      · refine g_il3 hc dX12_canSet_84 rfl (pc2 := 85) rfl ?_
        refine g_iconst hc dX12_canSet_85 ic_0 (pc2 := 86) rfl ?_
        refine g_bipush hc dX12_canSet_86 bp_99 (pc2 := 88) rfl ?_
        refine g_callS3 hc C_X12_isIn mv_X12_isIn ln_X12_56 ⟨by decide, by decide⟩ (Nat.le_of_ble_eq_true rfl) dX12_canSet_88 (pc2 := 91) rfl (fun r26 s25 => ?_)
        refine g_if_eq hc dX12_canSet_91 (pc1 := 98) (pc2 := 94) rfl rfl (fun _ => ?_) (fun _ => ?_)
        · refine g_iconst hc dX12_canSet_98 ic_0 (pc2 := 99) rfl ?_
          exact g_zret0 (by decide) hc dX12_canSet_99
        · refine g_iconst hc dX12_canSet_94 ic_1 (pc2 := 95) rfl ?_
          refine g_goto hc dX12_canSet_95 (pc2 := 99) rfl ?_
          exact g_zret0 (by decide) hc dX12_canSet_99
    refine g_swc (pc2 := 0) hc dX12_canSet_1 (c := 4) (by decide) (by decide) rfl (pc1 := 100) rfl (fun _ => ?_) (fun c28 => ?_)
    · refine q_Gmask [true, false, true, true] (L2 := [some (q_rf w t), none, some (.int a1), some (.int a2)]) rfl ?_
      exact hj100 _
    refine g_swc (pc2 := 0) hc dX12_canSet_1 (c := 5) (by decide) (by decide) rfl (pc1 := 100) rfl (fun _ => ?_) (fun c29 => ?_)
    · refine q_Gmask [true, false, true, true] (L2 := [some (q_rf w t), none, some (.int a1), some (.int a2)]) rfl ?_
      exact hj100 _
    refine g_swd (pc2 := 0) hc dX12_canSet_1 (fun i a b e => ?_) (pc1 := 124) rfl ?_
    · rcases (show i = 0 ∨ i = 1 ∨ i = 2 ∨ i = 3 ∨ i = 4 ∨ i = 5 by omega) with rfl | rfl | rfl | rfl | rfl | rfl
      · exact q_swx (c := 0) (by decide) c8 e
      · exact q_swx (c := 1) (by decide) c11 e
      · exact q_swx (c := 2) (by decide) c14 e
      · exact q_swx (c := 3) (by decide) c21 e
      · exact q_swx (c := 4) (by decide) c28 e
      · exact q_swx (c := 5) (by decide) c29 e
    · refine g_iconst hc dX12_canSet_124 ic_0 (pc2 := 125) rfl ?_
      exact g_zret0 (by decide) hc dX12_canSet_125
set_option maxRecDepth 100000 in
set_option maxHeartbeats 4000000 in
def f_X12_set (n : Nat) (t : Nat) (a0 : Int32) (a1 : Int32) (a2 : Int32) (s0 : q_Sto) : Option (Int32 × q_Sto) :=
  q_call (f_X12_canSet n t a0 a1 a2 s0) fun r2 s1 =>
  if r2 = 0 then (
  some (0, s1))
  else (
  if a0 = 0 then (
  q_st s1 (q_RF t 0) 88 1790 a2 fun s5 =>
  q_callv (f_X12_forgets n t s5) fun s6 =>
  some (1, s6))
  else
  if a0 = 1 then (
  q_st s1 (q_RF t 0) 1 1790 a2 fun s9 =>
  q_callv (f_X12_forgets n t s9) fun s10 =>
  some (1, s10))
  else
  if a0 = 2 then (
  q_ld s1 (q_RF t 0) 7 1790 fun v13 =>
  q_st s1 (q_RF t 0) 7 1790 ((v13 &&& ((1 <<< (a1 &&& 31)) ^^^ (-1))) ||| (a2 <<< (a1 &&& 31))) fun s14 =>
  q_callv (f_X12_forgets n t s14) fun s15 =>
  some (1, s15))
  else
  (if a0 = 3 then (
  q_st s1 (q_RF t 0) (80 + a1) 1790 a2 fun s18 =>
  q_callv (f_X12_forgets n t s18) fun s19 =>
  some (1, s19))
  else (
  if a0 = 4 then (
  q_st s1 (q_RF t 0) (119 + a1) 1790 a2 fun s22 =>
  q_callv (f_X12_forgets n t s22) fun s23 =>
  some (1, s23))
  else (
  q_st s1 (q_RF t 0) (124 + a1) 1790 a2 fun s25 =>
  q_callv (f_X12_forgets n t s25) fun s26 =>
  some (1, s26)))))
set_option maxRecDepth 100000 in
set_option maxHeartbeats 4000000 in
theorem C_X12_set {l : Launch} {w : q_Wd} {n : Nat} {t : Nat} {a0 : Int32} {a1 : Int32} {a2 : Int32} (ht : q_KD t = .inl 12) {s0 : q_Sto} : q_C l w yX12_set cX12_set 4 (some .boolean) (q_rm 3 66) [q_rf w t, .int a0, .int a1, .int a2] s0 (f_X12_set n t a0 a1 a2 s0) := q_CofG [some (q_rf w t), some (.int a0), some (.int a1), some (.int a2)] (by decide +kernel) rfl rfl (Nat.le_of_ble_eq_true rfl) fun cx hl hc => by
  have hc : q_ok w cx RX12 cX12_set 4 (some .boolean) (q_rm 3 66) := hc
  rw [f_X12_set]
  refine g_rl0 hc dX12_set_0 rfl (pc2 := 1) rfl ?_
  refine g_il1 hc dX12_set_1 rfl (pc2 := 2) rfl ?_
  refine g_il2 hc dX12_set_2 rfl (pc2 := 3) rfl ?_
  refine g_il3 hc dX12_set_3 rfl (pc2 := 4) rfl ?_
  refine g_callV3 hc (C_X12_canSet ht) mv_X12_canSet ln_X12_78 ht ⟨by decide, by decide⟩ (Nat.le_of_ble_eq_true rfl) dX12_set_4 (pc2 := 7) rfl (fun r2 s1 => ?_)
  refine g_if_ne hc dX12_set_7 (pc1 := 10) (pc2 := 12) rfl rfl (fun _ => ?_) (fun _ => ?_)
  · refine g_iconst hc dX12_set_10 ic_0 (pc2 := 11) rfl ?_
    exact g_zret0 (by decide) hc dX12_set_11
  · refine g_il1 hc dX12_set_12 rfl (pc2 := 13) rfl ?_
    refine g_swc (pc2 := 0) hc dX12_set_13 (c := 0) (by decide) (by decide) rfl (pc1 := 40) rfl (fun _ => ?_) (fun c4 => ?_)
    · refine g_rl0 hc dX12_set_40 rfl (pc2 := 41) rfl ?_
      refine g_getR hc fl_X12_7 rfl ht dX12_set_41 (pc2 := 44) rfl ?_
      refine g_bipush hc dX12_set_44 bp_88 (pc2 := 46) rfl ?_
      refine g_il3 hc dX12_set_46 rfl (pc2 := 47) rfl ?_
      refine g_iast hc (kf_12_0 ht) (kl_12_0 ht) dX12_set_47 (pc2 := 48) rfl (fun s5 => ?_)
      refine g_goto hc dX12_set_48 (pc2 := 118) rfl ?_
      refine g_rl0 hc dX12_set_118 rfl (pc2 := 119) rfl ?_
      refine g_callV0v hc (C_X12_forgets ht) mv_X12_forgets ln_X12_63 ht ⟨by decide, by decide⟩ (Nat.le_of_ble_eq_true rfl) dX12_set_119 (pc2 := 122) rfl (fun s6 => ?_)
      refine g_iconst hc dX12_set_122 ic_1 (pc2 := 123) rfl ?_
      exact g_zret0 (by decide) hc dX12_set_123
    refine g_swc (pc2 := 0) hc dX12_set_13 (c := 1) (by decide) (by decide) rfl (pc1 := 51) rfl (fun _ => ?_) (fun c8 => ?_)
    · refine g_rl0 hc dX12_set_51 rfl (pc2 := 52) rfl ?_
      refine g_getR hc fl_X12_7 rfl ht dX12_set_52 (pc2 := 55) rfl ?_
      refine g_iconst hc dX12_set_55 ic_1 (pc2 := 56) rfl ?_
      refine g_il3 hc dX12_set_56 rfl (pc2 := 57) rfl ?_
      refine g_iast hc (kf_12_0 ht) (kl_12_0 ht) dX12_set_57 (pc2 := 58) rfl (fun s9 => ?_)
      refine g_goto hc dX12_set_58 (pc2 := 118) rfl ?_
      refine g_rl0 hc dX12_set_118 rfl (pc2 := 119) rfl ?_
      refine g_callV0v hc (C_X12_forgets ht) mv_X12_forgets ln_X12_63 ht ⟨by decide, by decide⟩ (Nat.le_of_ble_eq_true rfl) dX12_set_119 (pc2 := 122) rfl (fun s10 => ?_)
      refine g_iconst hc dX12_set_122 ic_1 (pc2 := 123) rfl ?_
      exact g_zret0 (by decide) hc dX12_set_123
    refine g_swc (pc2 := 0) hc dX12_set_13 (c := 2) (by decide) (by decide) rfl (pc1 := 61) rfl (fun _ => ?_) (fun c12 => ?_)
    · refine g_rl0 hc dX12_set_61 rfl (pc2 := 62) rfl ?_
      refine g_getR hc fl_X12_7 rfl ht dX12_set_62 (pc2 := 65) rfl ?_
      refine g_bipush hc dX12_set_65 bp_7 (pc2 := 67) rfl ?_
      refine g_rl0 hc dX12_set_67 rfl (pc2 := 68) rfl ?_
      refine g_getR hc fl_X12_7 rfl ht dX12_set_68 (pc2 := 71) rfl ?_
      refine g_bipush hc dX12_set_71 bp_7 (pc2 := 73) rfl ?_
      refine g_iald hc (kf_12_0 ht) (kl_12_0 ht) dX12_set_73 (pc2 := 74) rfl (fun v13 => ?_)
      refine g_iconst hc dX12_set_74 ic_1 (pc2 := 75) rfl ?_
      refine g_il2 hc dX12_set_75 rfl (pc2 := 76) rfl ?_
      refine g_ishl hc dX12_set_76 (pc2 := 77) rfl ?_
      refine g_iconst hc dX12_set_77 ic_m1 (pc2 := 78) rfl ?_
      refine g_ixor hc dX12_set_78 (pc2 := 79) rfl ?_
      refine g_iand hc dX12_set_79 (pc2 := 80) rfl ?_
      refine g_il3 hc dX12_set_80 rfl (pc2 := 81) rfl ?_
      refine g_il2 hc dX12_set_81 rfl (pc2 := 82) rfl ?_
      refine g_ishl hc dX12_set_82 (pc2 := 83) rfl ?_
      refine g_ior hc dX12_set_83 (pc2 := 84) rfl ?_
      refine g_iast hc (kf_12_0 ht) (kl_12_0 ht) dX12_set_84 (pc2 := 85) rfl (fun s14 => ?_)
      refine g_goto hc dX12_set_85 (pc2 := 118) rfl ?_
      refine g_rl0 hc dX12_set_118 rfl (pc2 := 119) rfl ?_
      refine g_callV0v hc (C_X12_forgets ht) mv_X12_forgets ln_X12_63 ht ⟨by decide, by decide⟩ (Nat.le_of_ble_eq_true rfl) dX12_set_119 (pc2 := 122) rfl (fun s15 => ?_)
      refine g_iconst hc dX12_set_122 ic_1 (pc2 := 123) rfl ?_
      exact g_zret0 (by decide) hc dX12_set_123
    refine g_swd (pc2 := 0) hc dX12_set_13 (fun i a b e => ?_) (pc1 := 88) rfl ?_
    · rcases (show i = 0 ∨ i = 1 ∨ i = 2 by omega) with rfl | rfl | rfl
      · exact q_swx (c := 0) (by decide) c4 e
      · exact q_swx (c := 1) (by decide) c8 e
      · exact q_swx (c := 2) (by decide) c12 e
    · refine g_rl0 hc dX12_set_88 rfl (pc2 := 89) rfl ?_
      refine g_getR hc fl_X12_7 rfl ht dX12_set_89 (pc2 := 92) rfl ?_
      refine g_il1 hc dX12_set_92 rfl (pc2 := 93) rfl ?_
      refine g_iconst hc dX12_set_93 ic_3 (pc2 := 94) rfl ?_
      refine g_icmp_ne hc dX12_set_94 (pc1 := 97) (pc2 := 102) rfl rfl (fun _ => ?_) (fun _ => ?_)
      · refine g_bipush hc dX12_set_97 bp_80 (pc2 := 99) rfl ?_
        refine g_goto hc dX12_set_99 (pc2 := 114) rfl ?_
        refine g_il2 hc dX12_set_114 rfl (pc2 := 115) rfl ?_
        refine g_iadd hc dX12_set_115 (pc2 := 116) rfl ?_
        refine g_il3 hc dX12_set_116 rfl (pc2 := 117) rfl ?_
        refine g_iast hc (kf_12_0 ht) (kl_12_0 ht) dX12_set_117 (pc2 := 118) rfl (fun s18 => ?_)
        refine g_rl0 hc dX12_set_118 rfl (pc2 := 119) rfl ?_
        refine g_callV0v hc (C_X12_forgets ht) mv_X12_forgets ln_X12_63 ht ⟨by decide, by decide⟩ (Nat.le_of_ble_eq_true rfl) dX12_set_119 (pc2 := 122) rfl (fun s19 => ?_)
        refine g_iconst hc dX12_set_122 ic_1 (pc2 := 123) rfl ?_
        exact g_zret0 (by decide) hc dX12_set_123
      · refine g_il1 hc dX12_set_102 rfl (pc2 := 103) rfl ?_
        refine g_iconst hc dX12_set_103 ic_4 (pc2 := 104) rfl ?_
        refine g_icmp_ne hc dX12_set_104 (pc1 := 107) (pc2 := 112) rfl rfl (fun _ => ?_) (fun _ => ?_)
        · refine g_bipush hc dX12_set_107 bp_119 (pc2 := 109) rfl ?_
          refine g_goto hc dX12_set_109 (pc2 := 114) rfl ?_
          refine g_il2 hc dX12_set_114 rfl (pc2 := 115) rfl ?_
          refine g_iadd hc dX12_set_115 (pc2 := 116) rfl ?_
          refine g_il3 hc dX12_set_116 rfl (pc2 := 117) rfl ?_
          refine g_iast hc (kf_12_0 ht) (kl_12_0 ht) dX12_set_117 (pc2 := 118) rfl (fun s22 => ?_)
          refine g_rl0 hc dX12_set_118 rfl (pc2 := 119) rfl ?_
          refine g_callV0v hc (C_X12_forgets ht) mv_X12_forgets ln_X12_63 ht ⟨by decide, by decide⟩ (Nat.le_of_ble_eq_true rfl) dX12_set_119 (pc2 := 122) rfl (fun s23 => ?_)
          refine g_iconst hc dX12_set_122 ic_1 (pc2 := 123) rfl ?_
          exact g_zret0 (by decide) hc dX12_set_123
        · refine g_bipush hc dX12_set_112 bp_124 (pc2 := 114) rfl ?_
          refine g_il2 hc dX12_set_114 rfl (pc2 := 115) rfl ?_
          refine g_iadd hc dX12_set_115 (pc2 := 116) rfl ?_
          refine g_il3 hc dX12_set_116 rfl (pc2 := 117) rfl ?_
          refine g_iast hc (kf_12_0 ht) (kl_12_0 ht) dX12_set_117 (pc2 := 118) rfl (fun s25 => ?_)
          refine g_rl0 hc dX12_set_118 rfl (pc2 := 119) rfl ?_
          refine g_callV0v hc (C_X12_forgets ht) mv_X12_forgets ln_X12_63 ht ⟨by decide, by decide⟩ (Nat.le_of_ble_eq_true rfl) dX12_set_119 (pc2 := 122) rfl (fun s26 => ?_)
          refine g_iconst hc dX12_set_122 ic_1 (pc2 := 123) rfl ?_
          exact g_zret0 (by decide) hc dX12_set_123
set_option maxRecDepth 100000 in
set_option maxHeartbeats 4000000 in
def f_X12_like (n : Nat) (t : Nat) (a0 : Int32) (a1 : Int32) (a2 : Int32) (s0 : q_Sto) : Option (Int32 × q_Sto) :=
  q_call (f_X12_isMule n t a0 s0) fun r2 s1 =>
  if r2 = 0 then (
  some (0, s1))
  else (
  q_call (f_X12_isMan n t a1 s1) fun r5 s4 =>
  if r5 = 0 then (
  some (0, s4))
  else (
  q_call (f_X12_isIn n a2 0 99 s4) fun r8 s7 =>
  if r8 = 0 then (
  some (0, s7))
  else (
  q_st s7 (q_RF t 0) ((20 + (5 * a0)) + a1) 1790 a2 fun s10 =>
  q_callv (f_X12_forgets n t s10) fun s11 =>
  some (1, s11))))
set_option maxRecDepth 100000 in
set_option maxHeartbeats 4000000 in
theorem C_X12_like {l : Launch} {w : q_Wd} {n : Nat} {t : Nat} {a0 : Int32} {a1 : Int32} {a2 : Int32} (ht : q_KD t = .inl 12) {s0 : q_Sto} : q_C l w yX12_like cX12_like 4 (some .boolean) (q_rm 2 43) [q_rf w t, .int a0, .int a1, .int a2] s0 (f_X12_like n t a0 a1 a2 s0) := q_CofG [some (q_rf w t), some (.int a0), some (.int a1), some (.int a2)] (by decide +kernel) rfl rfl (Nat.le_of_ble_eq_true rfl) fun cx hl hc => by
  have hc : q_ok w cx RX12 cX12_like 4 (some .boolean) (q_rm 2 43) := hc
  rw [f_X12_like]
  refine g_rl0 hc dX12_like_0 rfl (pc2 := 1) rfl ?_
  refine g_il1 hc dX12_like_1 rfl (pc2 := 2) rfl ?_
  refine g_callV1 hc (C_X12_isMule ht) mv_X12_isMule ln_X12_72 ht ⟨by decide, by decide⟩ (Nat.le_of_ble_eq_true rfl) dX12_like_2 (pc2 := 5) rfl (fun r2 s1 => ?_)
  refine g_if_eq hc dX12_like_5 (pc1 := 26) (pc2 := 8) rfl rfl (fun _ => ?_) (fun _ => ?_)
  · refine g_iconst hc dX12_like_26 ic_0 (pc2 := 27) rfl ?_
    exact g_zret0 (by decide) hc dX12_like_27
  · refine g_rl0 hc dX12_like_8 rfl (pc2 := 9) rfl ?_
    refine g_il2 hc dX12_like_9 rfl (pc2 := 10) rfl ?_
    refine g_callV1 hc (C_X12_isMan ht) mv_X12_isMan ln_X12_75 ht ⟨by decide, by decide⟩ (Nat.le_of_ble_eq_true rfl) dX12_like_10 (pc2 := 13) rfl (fun r5 s4 => ?_)
    refine g_if_eq hc dX12_like_13 (pc1 := 26) (pc2 := 16) rfl rfl (fun _ => ?_) (fun _ => ?_)
    · refine g_iconst hc dX12_like_26 ic_0 (pc2 := 27) rfl ?_
      exact g_zret0 (by decide) hc dX12_like_27
    · refine g_il3 hc dX12_like_16 rfl (pc2 := 17) rfl ?_
      refine g_iconst hc dX12_like_17 ic_0 (pc2 := 18) rfl ?_
      refine g_bipush hc dX12_like_18 bp_99 (pc2 := 20) rfl ?_
      refine g_callS3 hc C_X12_isIn mv_X12_isIn ln_X12_56 ⟨by decide, by decide⟩ (Nat.le_of_ble_eq_true rfl) dX12_like_20 (pc2 := 23) rfl (fun r8 s7 => ?_)
      refine g_if_ne hc dX12_like_23 (pc1 := 26) (pc2 := 28) rfl rfl (fun _ => ?_) (fun _ => ?_)
      · refine g_iconst hc dX12_like_26 ic_0 (pc2 := 27) rfl ?_
        exact g_zret0 (by decide) hc dX12_like_27
      · refine g_rl0 hc dX12_like_28 rfl (pc2 := 29) rfl ?_
        refine g_getR hc fl_X12_7 rfl ht dX12_like_29 (pc2 := 32) rfl ?_
        refine g_bipush hc dX12_like_32 bp_20 (pc2 := 34) rfl ?_
        refine g_iconst hc dX12_like_34 ic_5 (pc2 := 35) rfl ?_
        refine g_il1 hc dX12_like_35 rfl (pc2 := 36) rfl ?_
        refine g_imul hc dX12_like_36 (pc2 := 37) rfl ?_
        refine g_iadd hc dX12_like_37 (pc2 := 38) rfl ?_
        refine g_il2 hc dX12_like_38 rfl (pc2 := 39) rfl ?_
        refine g_iadd hc dX12_like_39 (pc2 := 40) rfl ?_
        refine g_il3 hc dX12_like_40 rfl (pc2 := 41) rfl ?_
        refine g_iast hc (kf_12_0 ht) (kl_12_0 ht) dX12_like_41 (pc2 := 42) rfl (fun s10 => ?_)
        refine g_rl0 hc dX12_like_42 rfl (pc2 := 43) rfl ?_
        refine g_callV0v hc (C_X12_forgets ht) mv_X12_forgets ln_X12_63 ht ⟨by decide, by decide⟩ (Nat.le_of_ble_eq_true rfl) dX12_like_43 (pc2 := 46) rfl (fun s11 => ?_)
        refine g_iconst hc dX12_like_46 ic_1 (pc2 := 47) rfl ?_
        exact g_zret0 (by decide) hc dX12_like_47
set_option maxRecDepth 100000 in
set_option maxHeartbeats 4000000 in
def f_X12_feed_L18 (n : Nat) (x0 : Nat) (x1 : Int32) (x2 : Int32) (x3 : Int32) (x4 : Int32) (x5 : Int32) : Nat → Int32 → q_Sto → Option (Int32 × q_Sto)
  | 0, _, _ => none
  | j + 1, x6, s0 =>
    if x6 < 20 then (
    q_jn (fun (y3 : Int32) (s4 : q_Sto) =>
      q_rem x6 4 fun v5 =>
      q_st s4 (q_RF x0 9) (s4 x0 16) 400 ((y3 >>> ((24 - (8 * v5)) &&& 31)) &&& 255) fun s6 =>
      q_nS1 (q_up s6 x0 16 ((s6 x0 16) + 1)) fun s7 =>
      f_X12_feed_L18 n x0 x1 x2 x3 x4 x5  j (x6 + 1) s7) fun j71 =>
    if x6 < 4 then (
    j71 x1 s0)
    else (
    if x6 < 8 then (
    j71 x2 s0)
    else (
    if x6 < 12 then (
    j71 x3 s0)
    else (
    if x6 < 16 then (
    j71 x4 s0)
    else (
    j71 x5 s0)))))
    else (
    some ((s0 x0 16), s0))
set_option maxRecDepth 100000 in
set_option maxHeartbeats 4000000 in
def f_X12_feed (n : Nat) (t : Nat) (a0 : Int32) (a1 : Int32) (a2 : Int32) (a3 : Int32) (a4 : Int32) (s0 : q_Sto) : Option (Int32 × q_Sto) :=
  if ((s0 t 16) + 20) ≤ 400 then (
  f_X12_feed_L18 n t a0 a1 a2 a3 a4  n 0 s0)
  else (
  some ((-1), s0))
set_option maxRecDepth 100000 in
set_option maxHeartbeats 4000000 in
theorem t_X12_feed_L18 {w : q_Wd} {cx : q_Cx} (hc : q_ok w cx RX12 cX12_feed 8 (some .int) (q_rm 0 0)) {n : Nat} {x0 : Nat} {x1 : Int32} {x2 : Int32} {x3 : Int32} {x4 : Int32} {x5 : Int32} (hx0 : q_KD x0 = .inl 12)   :
    ∀ (j : Nat) (x6 : Int32) (s0 : q_Sto), q_G w cx 8 (some .int) 18 [some (q_rf w x0), some (.int x1), some (.int x2), some (.int x3), some (.int x4), some (.int x5), some (.int x6), none] [] s0 (f_X12_feed_L18 n x0 x1 x2 x3 x4 x5  j x6 s0) := by
  intro j
  induction j with
  | zero =>
    intro _ _
    rw [f_X12_feed_L18]
    exact q_none
  | succ j ih =>
    intro x6 s0
    rw [f_X12_feed_L18]
    refine g_iload hc dX12_feed_18 rfl (pc2 := 20) rfl ?_
    refine g_bipush hc dX12_feed_20 bp_20 (pc2 := 22) rfl ?_
    refine g_icmp_ge hc dX12_feed_22 (pc1 := 25) (pc2 := 115) rfl rfl (fun _ => ?_) (fun _ => ?_)
    · refine g_iload hc dX12_feed_25 rfl (pc2 := 27) rfl ?_
      refine g_iconst hc dX12_feed_27 ic_4 (pc2 := 28) rfl ?_
      refine g_jn (P := fun j71 => ∀ (y3 : Int32) (s4 : q_Sto), q_G w cx 8 (some .int) 71 [some (q_rf w x0), some (.int x1), some (.int x2), some (.int x3), some (.int x4), some (.int x5), some (.int x6), none] [.int y3] s4 (j71 y3 s4)) (fun y3 s4 => ?_) (fun j71 hj71 => ?_)
      · refine g_istore hc dX12_feed_71 (by decide) (L2 := [some (q_rf w x0), some (.int x1), some (.int x2), some (.int x3), some (.int x4), some (.int x5), some (.int x6), some (.int y3)]) rfl (pc2 := 73) rfl ?_
        refine g_rl0 hc dX12_feed_73 rfl (pc2 := 74) rfl ?_
        refine g_getR hc fl_X12_31 rfl hx0 dX12_feed_74 (pc2 := 77) rfl ?_
        refine g_rl0 hc dX12_feed_77 rfl (pc2 := 78) rfl ?_
        refine g_getI hc fl_X12_81 rfl hx0 dX12_feed_78 (pc2 := 81) rfl ?_
        refine g_iload hc dX12_feed_81 rfl (pc2 := 83) rfl ?_
        refine g_bipush hc dX12_feed_83 bp_24 (pc2 := 85) rfl ?_
        refine g_bipush hc dX12_feed_85 bp_8 (pc2 := 87) rfl ?_
        refine g_iload hc dX12_feed_87 rfl (pc2 := 89) rfl ?_
        refine g_iconst hc dX12_feed_89 ic_4 (pc2 := 90) rfl ?_
        refine g_irem hc dX12_feed_90 (pc2 := 91) rfl (fun v5 => ?_)
        refine g_imul hc dX12_feed_91 (pc2 := 92) rfl ?_
        refine g_isub hc dX12_feed_92 (pc2 := 93) rfl ?_
        refine g_ishr hc dX12_feed_93 (pc2 := 94) rfl ?_
        refine g_sipush hc dX12_feed_94 sp_255 (pc2 := 97) rfl ?_
        refine g_iand hc dX12_feed_97 (pc2 := 98) rfl ?_
        refine g_iast hc (kf_12_9 hx0) (kl_12_9 hx0) dX12_feed_98 (pc2 := 99) rfl (fun s6 => ?_)
        refine g_rl0 hc dX12_feed_99 rfl (pc2 := 100) rfl ?_
        refine g_dup hc dX12_feed_100 rfl (pc2 := 101) rfl ?_
        refine g_getI hc fl_X12_81 rfl hx0 dX12_feed_101 (pc2 := 104) rfl ?_
        refine g_iconst hc dX12_feed_104 ic_1 (pc2 := 105) rfl ?_
        refine g_iadd hc dX12_feed_105 (pc2 := 106) rfl ?_
        refine g_putI hc fl_X12_81 rfl hx0 dX12_feed_106 (pc2 := 109) rfl (fun s7 => ?_)
        refine g_iinc hc dX12_feed_109 rfl (q_ii ic_1) (by decide) (L2 := [some (q_rf w x0), some (.int x1), some (.int x2), some (.int x3), some (.int x4), some (.int x5), some (.int (x6 + 1)), some (.int y3)]) rfl (pc2 := 112) rfl ?_
        refine g_goto hc dX12_feed_112 (pc2 := 18) rfl ?_
        refine q_Gmask [true, true, true, true, true, true, true, false] (L2 := [some (q_rf w x0), some (.int x1), some (.int x2), some (.int x3), some (.int x4), some (.int x5), some (.int (x6 + 1)), none]) rfl ?_
        exact ih _ _
      · refine g_icmp_ge hc dX12_feed_28 (pc1 := 31) (pc2 := 35) rfl rfl (fun _ => ?_) (fun _ => ?_)
        · refine g_il1 hc dX12_feed_31 rfl (pc2 := 32) rfl ?_
          refine g_goto hc dX12_feed_32 (pc2 := 71) rfl ?_
          exact hj71 _ _
        · refine g_iload hc dX12_feed_35 rfl (pc2 := 37) rfl ?_
          refine g_bipush hc dX12_feed_37 bp_8 (pc2 := 39) rfl ?_
          refine g_icmp_ge hc dX12_feed_39 (pc1 := 42) (pc2 := 46) rfl rfl (fun _ => ?_) (fun _ => ?_)
          · refine g_il2 hc dX12_feed_42 rfl (pc2 := 43) rfl ?_
            refine g_goto hc dX12_feed_43 (pc2 := 71) rfl ?_
            exact hj71 _ _
          · refine g_iload hc dX12_feed_46 rfl (pc2 := 48) rfl ?_
            refine g_bipush hc dX12_feed_48 bp_12 (pc2 := 50) rfl ?_
            refine g_icmp_ge hc dX12_feed_50 (pc1 := 53) (pc2 := 57) rfl rfl (fun _ => ?_) (fun _ => ?_)
            · refine g_il3 hc dX12_feed_53 rfl (pc2 := 54) rfl ?_
              refine g_goto hc dX12_feed_54 (pc2 := 71) rfl ?_
              exact hj71 _ _
            · refine g_iload hc dX12_feed_57 rfl (pc2 := 59) rfl ?_
              refine g_bipush hc dX12_feed_59 bp_16 (pc2 := 61) rfl ?_
              refine g_icmp_ge hc dX12_feed_61 (pc1 := 64) (pc2 := 69) rfl rfl (fun _ => ?_) (fun _ => ?_)
              · refine g_iload hc dX12_feed_64 rfl (pc2 := 66) rfl ?_
                refine g_goto hc dX12_feed_66 (pc2 := 71) rfl ?_
                exact hj71 _ _
              · refine g_iload hc dX12_feed_69 rfl (pc2 := 71) rfl ?_
                exact hj71 _ _
    · refine g_rl0 hc dX12_feed_115 rfl (pc2 := 116) rfl ?_
      refine g_getI hc fl_X12_81 rfl hx0 dX12_feed_116 (pc2 := 119) rfl ?_
      exact g_iret hc dX12_feed_119
set_option maxRecDepth 100000 in
set_option maxHeartbeats 4000000 in
theorem C_X12_feed {l : Launch} {w : q_Wd} {n : Nat} {t : Nat} {a0 : Int32} {a1 : Int32} {a2 : Int32} {a3 : Int32} {a4 : Int32} (ht : q_KD t = .inl 12) {s0 : q_Sto} : q_C l w yX12_feed cX12_feed 8 (some .int) (q_rm 0 0) [q_rf w t, .int a0, .int a1, .int a2, .int a3, .int a4] s0 (f_X12_feed n t a0 a1 a2 a3 a4 s0) := q_CofG [some (q_rf w t), some (.int a0), some (.int a1), some (.int a2), some (.int a3), some (.int a4), none, none] (by decide +kernel) rfl rfl (Nat.le_of_ble_eq_true rfl) fun cx hl hc => by
  have hc : q_ok w cx RX12 cX12_feed 8 (some .int) (q_rm 0 0) := hc
  rw [f_X12_feed]
  refine g_rl0 hc dX12_feed_0 rfl (pc2 := 1) rfl ?_
  refine g_getI hc fl_X12_81 rfl ht dX12_feed_1 (pc2 := 4) rfl ?_
  refine g_bipush hc dX12_feed_4 bp_20 (pc2 := 6) rfl ?_
  refine g_iadd hc dX12_feed_6 (pc2 := 7) rfl ?_
  refine g_sipush hc dX12_feed_7 sp_400 (pc2 := 10) rfl ?_
  refine g_icmp_le hc dX12_feed_10 (pc1 := 15) (pc2 := 13) rfl rfl (fun _ => ?_) (fun _ => ?_)
  · refine g_iconst hc dX12_feed_15 ic_0 (pc2 := 16) rfl ?_
    refine g_istore hc dX12_feed_16 (by decide) (L2 := [some (q_rf w t), some (.int a0), some (.int a1), some (.int a2), some (.int a3), some (.int a4), some (.int 0), none]) rfl (pc2 := 18) rfl ?_
    refine t_X12_feed_L18 hc ht  n _ _
  · refine g_iconst hc dX12_feed_13 ic_m1 (pc2 := 14) rfl ?_
    exact g_iret hc dX12_feed_14
set_option maxRecDepth 100000 in
set_option maxHeartbeats 4000000 in
def f_X12_end (n : Nat) (t : Nat) (a0 : Int32) (s0 : q_Sto) : Option (Int32 × q_Sto) :=
  q_call (f_X12_isIn n a0 0 (s0 t 16) s0) fun r2 s1 =>
  if r2 = 0 then (
  some (0, s1))
  else (
  q_nS1 (q_up s1 t 16 a0) fun s4 =>
  some (1, s4))
set_option maxRecDepth 100000 in
set_option maxHeartbeats 4000000 in
theorem C_X12_end {l : Launch} {w : q_Wd} {n : Nat} {t : Nat} {a0 : Int32} (ht : q_KD t = .inl 12) {s0 : q_Sto} : q_C l w yX12_end cX12_end 2 (some .boolean) (q_rm 1 22) [q_rf w t, .int a0] s0 (f_X12_end n t a0 s0) := q_CofG [some (q_rf w t), some (.int a0)] (by decide +kernel) rfl rfl (Nat.le_of_ble_eq_true rfl) fun cx hl hc => by
  have hc : q_ok w cx RX12 cX12_end 2 (some .boolean) (q_rm 1 22) := hc
  rw [f_X12_end]
  refine g_il1 hc dX12_end_0 rfl (pc2 := 1) rfl ?_
  refine g_iconst hc dX12_end_1 ic_0 (pc2 := 2) rfl ?_
  refine g_rl0 hc dX12_end_2 rfl (pc2 := 3) rfl ?_
  refine g_getI hc fl_X12_81 rfl ht dX12_end_3 (pc2 := 6) rfl ?_
  refine g_callS3 hc C_X12_isIn mv_X12_isIn ln_X12_56 ⟨by decide, by decide⟩ (Nat.le_of_ble_eq_true rfl) dX12_end_6 (pc2 := 9) rfl (fun r2 s1 => ?_)
  refine g_if_ne hc dX12_end_9 (pc1 := 12) (pc2 := 14) rfl rfl (fun _ => ?_) (fun _ => ?_)
  · refine g_iconst hc dX12_end_12 ic_0 (pc2 := 13) rfl ?_
    exact g_zret0 (by decide) hc dX12_end_13
  · refine g_rl0 hc dX12_end_14 rfl (pc2 := 15) rfl ?_
    refine g_il1 hc dX12_end_15 rfl (pc2 := 16) rfl ?_
    refine g_putI hc fl_X12_81 rfl ht dX12_end_16 (pc2 := 19) rfl (fun s4 => ?_)
    refine g_iconst hc dX12_end_19 ic_1 (pc2 := 20) rfl ?_
    exact g_zret0 (by decide) hc dX12_end_20
set_option maxRecDepth 100000 in
set_option maxHeartbeats 4000000 in
def f_X12_aLine (n : Nat) (t : Nat) (s0 : q_Sto) : Option (Int32 × q_Sto) :=
  q_call (f_X12_isIn n (s0 t 18) 20 22 s0) fun r2 s1 =>
  if r2 = 0 then (
  q_call (f_X12_bad n t 1 s1) fun r5 s4 =>
  q_rz r5 s4)
  else (
  if (s1 t 13) = 16 then (
  q_call (f_X12_bad n t 3 s1) fun r8 s7 =>
  q_rz r8 s7)
  else (
  q_nS1 (q_up s1 t 24 0) fun s9 =>
  q_st s9 (q_RF t 6) ((4 * (s9 t 13)) + 3) 64 (s9 t 18) fun s10 =>
  q_callv (f_X12_next0 n t s10) fun s11 =>
  q_st s11 (q_RF t 6) (4 * (s11 t 13)) 64 (s11 t 14) fun s13 =>
  q_call (f_X12_sumUp n t s13) fun r15 s14 =>
  if r15 = 0 then (
  some (0, s14))
  else (
  q_st s14 (q_RF t 6) ((4 * (s14 t 13)) + 1) 64 (s14 t 14) fun s17 =>
  q_jn (fun  (s18 : q_Sto) =>
    q_st s18 (q_RF t 6) ((4 * (s18 t 13)) + 2) 64 (s18 t 14) fun s19 =>
    q_call (f_X12_need n t 159 s19) fun r21 s20 =>
    q_rz r21 s20) fun j123 =>
  if (s17 t 18) = 3 then (
  q_callv (f_X12_next0 n t s17) fun s23 =>
  q_call (f_X12_any n (f_X12_oneTest n 12 t) t s23) fun r26 s25 =>
  if r26 = 0 then (
  some (0, s25))
  else (
  j123 s25))
  else (
  j123 s17))))
set_option maxRecDepth 100000 in
set_option maxHeartbeats 4000000 in
theorem C_X12_aLine {l : Launch} {w : q_Wd} {n : Nat} {t : Nat} (ht : q_KD t = .inl 12) {s0 : q_Sto} : q_C l w yX12_aLine cX12_aLine 1 (some .boolean) (q_rm 69 2920) [q_rf w t] s0 (f_X12_aLine n t s0) := q_CofG [some (q_rf w t)] (by decide +kernel) rfl rfl (Nat.le_of_ble_eq_true rfl) fun cx hl hc => by
  have hc : q_ok w cx RX12 cX12_aLine 1 (some .boolean) (q_rm 69 2920) := hc
  rw [f_X12_aLine]
  refine g_rl0 hc dX12_aLine_0 rfl (pc2 := 1) rfl ?_
  refine g_getI hc fl_X12_177 rfl ht dX12_aLine_1 (pc2 := 4) rfl ?_
  refine g_bipush hc dX12_aLine_4 bp_20 (pc2 := 6) rfl ?_
  refine g_bipush hc dX12_aLine_6 bp_22 (pc2 := 8) rfl ?_
  refine g_callS3 hc C_X12_isIn mv_X12_isIn ln_X12_56 ⟨by decide, by decide⟩ (Nat.le_of_ble_eq_true rfl) dX12_aLine_8 (pc2 := 11) rfl (fun r2 s1 => ?_)
  refine g_if_ne hc dX12_aLine_11 (pc1 := 14) (pc2 := 20) rfl rfl (fun _ => ?_) (fun _ => ?_)
  · refine g_rl0 hc dX12_aLine_14 rfl (pc2 := 15) rfl ?_
    refine g_iconst hc dX12_aLine_15 ic_1 (pc2 := 16) rfl ?_
    refine g_callV1 hc (C_X12_bad ht) mv_X12_bad ln_X12_198 ht ⟨by decide, by decide⟩ (Nat.le_of_ble_eq_true rfl) dX12_aLine_16 (pc2 := 19) rfl (fun r5 s4 => ?_)
    exact g_zret hc dX12_aLine_19
  · refine g_rl0 hc dX12_aLine_20 rfl (pc2 := 21) rfl ?_
    refine g_getI hc fl_X12_238 rfl ht dX12_aLine_21 (pc2 := 24) rfl ?_
    refine g_bipush hc dX12_aLine_24 bp_16 (pc2 := 26) rfl ?_
    refine g_icmp_ne hc dX12_aLine_26 (pc1 := 29) (pc2 := 35) rfl rfl (fun _ => ?_) (fun _ => ?_)
    · refine g_rl0 hc dX12_aLine_29 rfl (pc2 := 30) rfl ?_
      refine g_iconst hc dX12_aLine_30 ic_3 (pc2 := 31) rfl ?_
      refine g_callV1 hc (C_X12_bad ht) mv_X12_bad ln_X12_198 ht ⟨by decide, by decide⟩ (Nat.le_of_ble_eq_true rfl) dX12_aLine_31 (pc2 := 34) rfl (fun r8 s7 => ?_)
      exact g_zret hc dX12_aLine_34
    · refine g_rl0 hc dX12_aLine_35 rfl (pc2 := 36) rfl ?_
      refine g_iconst hc dX12_aLine_36 ic_0 (pc2 := 37) rfl ?_
      refine g_putI hc fl_X12_207 rfl ht dX12_aLine_37 (pc2 := 40) rfl (fun s9 => ?_)
      refine g_rl0 hc dX12_aLine_40 rfl (pc2 := 41) rfl ?_
      refine g_getR hc fl_X12_22 rfl ht dX12_aLine_41 (pc2 := 44) rfl ?_
      refine g_iconst hc dX12_aLine_44 ic_4 (pc2 := 45) rfl ?_
      refine g_rl0 hc dX12_aLine_45 rfl (pc2 := 46) rfl ?_
      refine g_getI hc fl_X12_238 rfl ht dX12_aLine_46 (pc2 := 49) rfl ?_
      refine g_imul hc dX12_aLine_49 (pc2 := 50) rfl ?_
      refine g_iconst hc dX12_aLine_50 ic_3 (pc2 := 51) rfl ?_
      refine g_iadd hc dX12_aLine_51 (pc2 := 52) rfl ?_
      refine g_rl0 hc dX12_aLine_52 rfl (pc2 := 53) rfl ?_
      refine g_getI hc fl_X12_177 rfl ht dX12_aLine_53 (pc2 := 56) rfl ?_
      refine g_iast hc (kf_12_6 ht) (kl_12_6 ht) dX12_aLine_56 (pc2 := 57) rfl (fun s10 => ?_)
      refine g_rl0 hc dX12_aLine_57 rfl (pc2 := 58) rfl ?_
      refine g_callV0v hc (C_X12_next0 ht) mv_X12_next0 ln_X12_201 ht ⟨by decide, by decide⟩ (Nat.le_of_ble_eq_true rfl) dX12_aLine_58 (pc2 := 61) rfl (fun s11 => ?_)
      refine g_rl0 hc dX12_aLine_61 rfl (pc2 := 62) rfl ?_
      refine g_getR hc fl_X12_22 rfl ht dX12_aLine_62 (pc2 := 65) rfl ?_
      refine g_iconst hc dX12_aLine_65 ic_4 (pc2 := 66) rfl ?_
      refine g_rl0 hc dX12_aLine_66 rfl (pc2 := 67) rfl ?_
      refine g_getI hc fl_X12_238 rfl ht dX12_aLine_67 (pc2 := 70) rfl ?_
      refine g_imul hc dX12_aLine_70 (pc2 := 71) rfl ?_
      refine g_rl0 hc dX12_aLine_71 rfl (pc2 := 72) rfl ?_
      refine g_getI hc fl_X12_204 rfl ht dX12_aLine_72 (pc2 := 75) rfl ?_
      refine g_iast hc (kf_12_6 ht) (kl_12_6 ht) dX12_aLine_75 (pc2 := 76) rfl (fun s13 => ?_)
      refine g_rl0 hc dX12_aLine_76 rfl (pc2 := 77) rfl ?_
      refine g_callV0 hc (C_X12_sumUp ht) mv_X12_sumUp ln_X12_235 ht ⟨by decide, by decide⟩ (Nat.le_of_ble_eq_true rfl) dX12_aLine_77 (pc2 := 80) rfl (fun r15 s14 => ?_)
      refine g_if_ne hc dX12_aLine_80 (pc1 := 83) (pc2 := 85) rfl rfl (fun _ => ?_) (fun _ => ?_)
      · refine g_iconst hc dX12_aLine_83 ic_0 (pc2 := 84) rfl ?_
        exact g_zret0 (by decide) hc dX12_aLine_84
      · refine g_rl0 hc dX12_aLine_85 rfl (pc2 := 86) rfl ?_
        refine g_getR hc fl_X12_22 rfl ht dX12_aLine_86 (pc2 := 89) rfl ?_
        refine g_iconst hc dX12_aLine_89 ic_4 (pc2 := 90) rfl ?_
        refine g_rl0 hc dX12_aLine_90 rfl (pc2 := 91) rfl ?_
        refine g_getI hc fl_X12_238 rfl ht dX12_aLine_91 (pc2 := 94) rfl ?_
        refine g_imul hc dX12_aLine_94 (pc2 := 95) rfl ?_
        refine g_iconst hc dX12_aLine_95 ic_1 (pc2 := 96) rfl ?_
        refine g_iadd hc dX12_aLine_96 (pc2 := 97) rfl ?_
        refine g_rl0 hc dX12_aLine_97 rfl (pc2 := 98) rfl ?_
        refine g_getI hc fl_X12_204 rfl ht dX12_aLine_98 (pc2 := 101) rfl ?_
        refine g_iast hc (kf_12_6 ht) (kl_12_6 ht) dX12_aLine_101 (pc2 := 102) rfl (fun s17 => ?_)
        refine g_rl0 hc dX12_aLine_102 rfl (pc2 := 103) rfl ?_
        refine g_getI hc fl_X12_177 rfl ht dX12_aLine_103 (pc2 := 106) rfl ?_
        refine g_iconst hc dX12_aLine_106 ic_3 (pc2 := 107) rfl ?_
        refine g_jn (P := fun j123 => ∀  (s18 : q_Sto), q_G w cx 1 (some .boolean) 123 [some (q_rf w t)] [] s18 (j123 s18)) (fun s18 => ?_) (fun j123 hj123 => ?_)
        · refine g_rl0 hc dX12_aLine_123 rfl (pc2 := 124) rfl ?_
          refine g_getR hc fl_X12_22 rfl ht dX12_aLine_124 (pc2 := 127) rfl ?_
          refine g_iconst hc dX12_aLine_127 ic_4 (pc2 := 128) rfl ?_
          refine g_rl0 hc dX12_aLine_128 rfl (pc2 := 129) rfl ?_
          refine g_getI hc fl_X12_238 rfl ht dX12_aLine_129 (pc2 := 132) rfl ?_
          refine g_imul hc dX12_aLine_132 (pc2 := 133) rfl ?_
          refine g_iconst hc dX12_aLine_133 ic_2 (pc2 := 134) rfl ?_
          refine g_iadd hc dX12_aLine_134 (pc2 := 135) rfl ?_
          refine g_rl0 hc dX12_aLine_135 rfl (pc2 := 136) rfl ?_
          refine g_getI hc fl_X12_204 rfl ht dX12_aLine_136 (pc2 := 139) rfl ?_
          refine g_iast hc (kf_12_6 ht) (kl_12_6 ht) dX12_aLine_139 (pc2 := 140) rfl (fun s19 => ?_)
          refine g_rl0 hc dX12_aLine_140 rfl (pc2 := 141) rfl ?_
          refine g_sipush hc dX12_aLine_141 sp_159 (pc2 := 144) rfl ?_
          refine g_callV1 hc (C_X12_need ht) mv_X12_need ln_X12_233 ht ⟨by decide, by decide⟩ (Nat.le_of_ble_eq_true rfl) dX12_aLine_144 (pc2 := 147) rfl (fun r21 s20 => ?_)
          exact g_zret hc dX12_aLine_147
        · refine g_icmp_ne hc dX12_aLine_107 (pc1 := 110) (pc2 := 123) rfl rfl (fun _ => ?_) (fun _ => ?_)
          · refine g_rl0 hc dX12_aLine_110 rfl (pc2 := 111) rfl ?_
            refine g_callV0v hc (C_X12_next0 ht) mv_X12_next0 ln_X12_201 ht ⟨by decide, by decide⟩ (Nat.le_of_ble_eq_true rfl) dX12_aLine_111 (pc2 := 114) rfl (fun s23 => ?_)
            refine g_rl0 hc dX12_aLine_114 rfl (pc2 := 115) rfl ?_
            refine g_callV0 hc (C_X12_any ht (Fo := 66) (Lo := 2820) (by decide) (by decide) (fun _ => C_X12_oneTest 12 ht)) mv_X12_any ln_X12_230 ht ⟨by decide, by decide⟩ (Nat.le_of_ble_eq_true rfl) dX12_aLine_115 (pc2 := 118) rfl (fun r26 s25 => ?_)
            refine g_if_ne hc dX12_aLine_118 (pc1 := 121) (pc2 := 123) rfl rfl (fun _ => ?_) (fun _ => ?_)
            · refine g_iconst hc dX12_aLine_121 ic_0 (pc2 := 122) rfl ?_
              exact g_zret0 (by decide) hc dX12_aLine_122
            · exact hj123 _
          · exact hj123 _
set_option maxRecDepth 100000 in
set_option maxHeartbeats 4000000 in
def f_X12_readsLaw_L12 (n : Nat) (x0 : Nat) : Nat → Int32 → q_Sto → Option (Int32 × q_Sto)
  | 0, _, _ => none
  | j + 1, x1, s0 =>
    if x1 = 0 then (
    q_rz x1 s0)
    else (
    if (s0 x0 18) = 0 then (
    q_rz x1 s0)
    else (
    q_call (f_X12_aLine n x0 s0) fun r6 s5 =>
    if r6 = 0 then (
    q_nS1 (q_up s5 x0 13 ((s5 x0 13) + 0)) fun s8 =>
    f_X12_readsLaw_L12 n x0  j r6 s8)
    else (
    q_nS1 (q_up s5 x0 13 ((s5 x0 13) + 1)) fun s9 =>
    f_X12_readsLaw_L12 n x0  j r6 s9)))
set_option maxRecDepth 100000 in
set_option maxHeartbeats 4000000 in
def f_X12_readsLaw (n : Nat) (t : Nat) (s0 : q_Sto) : Option (Int32 × q_Sto) :=
  q_nS1 (q_up s0 t 13 0) fun s1 =>
  q_nS1 (q_up s1 t 14 0) fun s2 =>
  f_X12_readsLaw_L12 n t  n 1 s2
set_option maxRecDepth 100000 in
set_option maxHeartbeats 4000000 in
theorem t_X12_readsLaw_L12 {w : q_Wd} {cx : q_Cx} (hc : q_ok w cx RX12 cX12_readsLaw 2 (some .boolean) (q_rm 70 2940)) {n : Nat} {x0 : Nat} (hx0 : q_KD x0 = .inl 12)   :
    ∀ (j : Nat) (x1 : Int32) (s0 : q_Sto), q_G w cx 2 (some .boolean) 12 [some (q_rf w x0), some (.int x1)] [] s0 (f_X12_readsLaw_L12 n x0  j x1 s0) := by
  intro j
  induction j with
  | zero =>
    intro _ _
    rw [f_X12_readsLaw_L12]
    exact q_none
  | succ j ih =>
    intro x1 s0
    rw [f_X12_readsLaw_L12]
    refine g_il1 hc dX12_readsLaw_12 rfl (pc2 := 13) rfl ?_
    refine g_if_eq hc dX12_readsLaw_13 (pc1 := 49) (pc2 := 16) rfl rfl (fun _ => ?_) (fun _ => ?_)
    · refine g_il1 hc dX12_readsLaw_49 rfl (pc2 := 50) rfl ?_
      exact g_zret hc dX12_readsLaw_50
    · refine g_rl0 hc dX12_readsLaw_16 rfl (pc2 := 17) rfl ?_
      refine g_getI hc fl_X12_177 rfl hx0 dX12_readsLaw_17 (pc2 := 20) rfl ?_
      refine g_if_eq hc dX12_readsLaw_20 (pc1 := 49) (pc2 := 23) rfl rfl (fun _ => ?_) (fun _ => ?_)
      · refine g_il1 hc dX12_readsLaw_49 rfl (pc2 := 50) rfl ?_
        exact g_zret hc dX12_readsLaw_50
      · refine g_rl0 hc dX12_readsLaw_23 rfl (pc2 := 24) rfl ?_
        refine g_callV0 hc (C_X12_aLine hx0) mv_X12_aLine ln_X12_241 hx0 ⟨by decide, by decide⟩ (Nat.le_of_ble_eq_true rfl) dX12_readsLaw_24 (pc2 := 27) rfl (fun r6 s5 => ?_)
        refine g_is1 hc dX12_readsLaw_27 (by decide) (L2 := [some (q_rf w x0), some (.int r6)]) rfl (pc2 := 28) rfl ?_
        refine g_rl0 hc dX12_readsLaw_28 rfl (pc2 := 29) rfl ?_
        refine g_dup hc dX12_readsLaw_29 rfl (pc2 := 30) rfl ?_
        refine g_getI hc fl_X12_238 rfl hx0 dX12_readsLaw_30 (pc2 := 33) rfl ?_
        refine g_il1 hc dX12_readsLaw_33 rfl (pc2 := 34) rfl ?_
        refine g_if_eq hc dX12_readsLaw_34 (pc1 := 41) (pc2 := 37) rfl rfl (fun _ => ?_) (fun _ => ?_)
        · refine g_iconst hc dX12_readsLaw_41 ic_0 (pc2 := 42) rfl ?_
          refine g_iadd hc dX12_readsLaw_42 (pc2 := 43) rfl ?_
          refine g_putI hc fl_X12_238 rfl hx0 dX12_readsLaw_43 (pc2 := 46) rfl (fun s8 => ?_)
          refine g_goto hc dX12_readsLaw_46 (pc2 := 12) rfl ?_
          exact ih _ _
        · refine g_iconst hc dX12_readsLaw_37 ic_1 (pc2 := 38) rfl ?_
          refine g_goto hc dX12_readsLaw_38 (pc2 := 42) rfl ?_
          refine g_iadd hc dX12_readsLaw_42 (pc2 := 43) rfl ?_
          refine g_putI hc fl_X12_238 rfl hx0 dX12_readsLaw_43 (pc2 := 46) rfl (fun s9 => ?_)
          refine g_goto hc dX12_readsLaw_46 (pc2 := 12) rfl ?_
          exact ih _ _
set_option maxRecDepth 100000 in
set_option maxHeartbeats 4000000 in
theorem C_X12_readsLaw {l : Launch} {w : q_Wd} {n : Nat} {t : Nat} (ht : q_KD t = .inl 12) {s0 : q_Sto} : q_C l w yX12_readsLaw cX12_readsLaw 2 (some .boolean) (q_rm 70 2940) [q_rf w t] s0 (f_X12_readsLaw n t s0) := q_CofG [some (q_rf w t), none] (by decide +kernel) rfl rfl (Nat.le_of_ble_eq_true rfl) fun cx hl hc => by
  have hc : q_ok w cx RX12 cX12_readsLaw 2 (some .boolean) (q_rm 70 2940) := hc
  rw [f_X12_readsLaw]
  refine g_rl0 hc dX12_readsLaw_0 rfl (pc2 := 1) rfl ?_
  refine g_iconst hc dX12_readsLaw_1 ic_0 (pc2 := 2) rfl ?_
  refine g_putI hc fl_X12_238 rfl ht dX12_readsLaw_2 (pc2 := 5) rfl (fun s1 => ?_)
  refine g_rl0 hc dX12_readsLaw_5 rfl (pc2 := 6) rfl ?_
  refine g_iconst hc dX12_readsLaw_6 ic_0 (pc2 := 7) rfl ?_
  refine g_putI hc fl_X12_204 rfl ht dX12_readsLaw_7 (pc2 := 10) rfl (fun s2 => ?_)
  refine g_iconst hc dX12_readsLaw_10 ic_1 (pc2 := 11) rfl ?_
  refine g_is1 hc dX12_readsLaw_11 (by decide) (L2 := [some (q_rf w t), some (.int 1)]) rfl (pc2 := 12) rfl ?_
  refine t_X12_readsLaw_L12 hc ht  n _ _
set_option maxRecDepth 100000 in
set_option maxHeartbeats 4000000 in
def f_X12_number (n : Nat) (t : Nat) (a0 : Int32) (a1 : Int32) (a2 : Int32) (s0 : q_Sto) : Option (Int32 × q_Sto) :=
  if (s0 t 18) = 2 then (
  q_call (f_X12_isIn n (s0 t 20) a1 a2 s0) fun r3 s2 =>
  if r3 = 0 then (
  q_call (f_X12_bad n t 2 s2) fun r6 s5 =>
  q_rz r6 s5)
  else (
  q_st s2 (q_RF t 8) a0 64 (s2 t 20) fun s7 =>
  q_callv (f_X12_next0 n t s7) fun s8 =>
  some (1, s8)))
  else (
  q_call (f_X12_bad n t 1 s0) fun r11 s10 =>
  q_rz r11 s10)
set_option maxRecDepth 100000 in
set_option maxHeartbeats 4000000 in
theorem C_X12_number {l : Launch} {w : q_Wd} {n : Nat} {t : Nat} {a0 : Int32} {a1 : Int32} {a2 : Int32} (ht : q_KD t = .inl 12) {s0 : q_Sto} : q_C l w yX12_number cX12_number 4 (some .boolean) (q_rm 11 245) [q_rf w t, .int a0, .int a1, .int a2] s0 (f_X12_number n t a0 a1 a2 s0) := q_CofG [some (q_rf w t), some (.int a0), some (.int a1), some (.int a2)] (by decide +kernel) rfl rfl (Nat.le_of_ble_eq_true rfl) fun cx hl hc => by
  have hc : q_ok w cx RX12 cX12_number 4 (some .boolean) (q_rm 11 245) := hc
  rw [f_X12_number]
  refine g_rl0 hc dX12_number_0 rfl (pc2 := 1) rfl ?_
  refine g_getI hc fl_X12_177 rfl ht dX12_number_1 (pc2 := 4) rfl ?_
  refine g_iconst hc dX12_number_4 ic_2 (pc2 := 5) rfl ?_
  refine g_icmp_eq hc dX12_number_5 (pc1 := 14) (pc2 := 8) rfl rfl (fun _ => ?_) (fun _ => ?_)
  · refine g_rl0 hc dX12_number_14 rfl (pc2 := 15) rfl ?_
    refine g_getI hc fl_X12_189 rfl ht dX12_number_15 (pc2 := 18) rfl ?_
    refine g_il2 hc dX12_number_18 rfl (pc2 := 19) rfl ?_
    refine g_il3 hc dX12_number_19 rfl (pc2 := 20) rfl ?_
    refine g_callS3 hc C_X12_isIn mv_X12_isIn ln_X12_56 ⟨by decide, by decide⟩ (Nat.le_of_ble_eq_true rfl) dX12_number_20 (pc2 := 23) rfl (fun r3 s2 => ?_)
    refine g_if_ne hc dX12_number_23 (pc1 := 26) (pc2 := 32) rfl rfl (fun _ => ?_) (fun _ => ?_)
    · refine g_rl0 hc dX12_number_26 rfl (pc2 := 27) rfl ?_
      refine g_iconst hc dX12_number_27 ic_2 (pc2 := 28) rfl ?_
      refine g_callV1 hc (C_X12_bad ht) mv_X12_bad ln_X12_198 ht ⟨by decide, by decide⟩ (Nat.le_of_ble_eq_true rfl) dX12_number_28 (pc2 := 31) rfl (fun r6 s5 => ?_)
      exact g_zret hc dX12_number_31
    · refine g_rl0 hc dX12_number_32 rfl (pc2 := 33) rfl ?_
      refine g_getR hc fl_X12_28 rfl ht dX12_number_33 (pc2 := 36) rfl ?_
      refine g_il1 hc dX12_number_36 rfl (pc2 := 37) rfl ?_
      refine g_rl0 hc dX12_number_37 rfl (pc2 := 38) rfl ?_
      refine g_getI hc fl_X12_189 rfl ht dX12_number_38 (pc2 := 41) rfl ?_
      refine g_iast hc (kf_12_8 ht) (kl_12_8 ht) dX12_number_41 (pc2 := 42) rfl (fun s7 => ?_)
      refine g_rl0 hc dX12_number_42 rfl (pc2 := 43) rfl ?_
      refine g_callV0v hc (C_X12_next0 ht) mv_X12_next0 ln_X12_201 ht ⟨by decide, by decide⟩ (Nat.le_of_ble_eq_true rfl) dX12_number_43 (pc2 := 46) rfl (fun s8 => ?_)
      refine g_iconst hc dX12_number_46 ic_1 (pc2 := 47) rfl ?_
      exact g_zret0 (by decide) hc dX12_number_47
  · refine g_rl0 hc dX12_number_8 rfl (pc2 := 9) rfl ?_
    refine g_iconst hc dX12_number_9 ic_1 (pc2 := 10) rfl ?_
    refine g_callV1 hc (C_X12_bad ht) mv_X12_bad ln_X12_198 ht ⟨by decide, by decide⟩ (Nat.le_of_ble_eq_true rfl) dX12_number_10 (pc2 := 13) rfl (fun r11 s10 => ?_)
    exact g_zret hc dX12_number_13
set_option maxRecDepth 100000 in
set_option maxHeartbeats 4000000 in
def f_X12_told (n : Nat) (t : Nat) (a0 : Int32) (a1 : Int32) (a2 : Int32) (a3 : Int32) (s0 : q_Sto) : Option (Int32 × q_Sto) :=
  q_call (f_X12_need n t a1 s0) fun r2 s1 =>
  if r2 = 0 then (
  some (0, s1))
  else (
  q_call (f_X12_number n t a0 a2 a3 s1) fun r5 s4 =>
  if r5 = 0 then (
  some (0, s4))
  else (
  some (1, s4)))
set_option maxRecDepth 100000 in
set_option maxHeartbeats 4000000 in
theorem C_X12_told {l : Launch} {w : q_Wd} {n : Nat} {t : Nat} {a0 : Int32} {a1 : Int32} {a2 : Int32} {a3 : Int32} (ht : q_KD t = .inl 12) {s0 : q_Sto} : q_C l w yX12_told cX12_told 5 (some .boolean) (q_rm 12 268) [q_rf w t, .int a0, .int a1, .int a2, .int a3] s0 (f_X12_told n t a0 a1 a2 a3 s0) := q_CofG [some (q_rf w t), some (.int a0), some (.int a1), some (.int a2), some (.int a3)] (by decide +kernel) rfl rfl (Nat.le_of_ble_eq_true rfl) fun cx hl hc => by
  have hc : q_ok w cx RX12 cX12_told 5 (some .boolean) (q_rm 12 268) := hc
  rw [f_X12_told]
  refine g_rl0 hc dX12_told_0 rfl (pc2 := 1) rfl ?_
  refine g_il2 hc dX12_told_1 rfl (pc2 := 2) rfl ?_
  refine g_callV1 hc (C_X12_need ht) mv_X12_need ln_X12_233 ht ⟨by decide, by decide⟩ (Nat.le_of_ble_eq_true rfl) dX12_told_2 (pc2 := 5) rfl (fun r2 s1 => ?_)
  refine g_if_eq hc dX12_told_5 (pc1 := 23) (pc2 := 8) rfl rfl (fun _ => ?_) (fun _ => ?_)
  · refine g_iconst hc dX12_told_23 ic_0 (pc2 := 24) rfl ?_
    exact g_zret0 (by decide) hc dX12_told_24
  · refine g_rl0 hc dX12_told_8 rfl (pc2 := 9) rfl ?_
    refine g_il1 hc dX12_told_9 rfl (pc2 := 10) rfl ?_
    refine g_il3 hc dX12_told_10 rfl (pc2 := 11) rfl ?_
    refine g_iload hc dX12_told_11 rfl (pc2 := 13) rfl ?_
    refine g_callV3 hc (C_X12_number ht) mv_X12_number ln_X12_244 ht ⟨by decide, by decide⟩ (Nat.le_of_ble_eq_true rfl) dX12_told_13 (pc2 := 16) rfl (fun r5 s4 => ?_)
    refine g_if_eq hc dX12_told_16 (pc1 := 23) (pc2 := 19) rfl rfl (fun _ => ?_) (fun _ => ?_)
    · refine g_iconst hc dX12_told_23 ic_0 (pc2 := 24) rfl ?_
      exact g_zret0 (by decide) hc dX12_told_24
    · refine g_iconst hc dX12_told_19 ic_1 (pc2 := 20) rfl ?_
      refine g_goto hc dX12_told_20 (pc2 := 24) rfl ?_
      exact g_zret0 (by decide) hc dX12_told_24
set_option maxRecDepth 100000 in
set_option maxHeartbeats 4000000 in
def f_X12_another (n : Nat) (t : Nat) (a0 : Int32) (s0 : q_Sto) : Option (Int32 × q_Sto) :=
  q_jn (fun  (s1 : q_Sto) =>
    if (s1 t 18) = 2 then (
    q_call (f_X12_isMule n t (s1 t 20) s1) fun r4 s3 =>
    if r4 = 0 then (
    q_call (f_X12_bad n t 2 s3) fun r7 s6 =>
    q_rz r7 s6)
    else (
    q_ld s3 (q_RF t 8) (a0 + 1) 64 fun v8 =>
    q_st s3 (q_RF t 8) (a0 + 1) 64 (v8 ||| (1 <<< ((s3 t 20) &&& 31))) fun s9 =>
    q_callv (f_X12_next0 n t s9) fun s10 =>
    some (1, s10)))
    else (
    q_call (f_X12_bad n t 1 s1) fun r13 s12 =>
    q_rz r13 s12)) fun j27 =>
  if (s0 t 18) = 2 then (
  q_ld s0 (q_RF t 8) a0 64 fun v15 =>
  if (s0 t 20) = v15 then (
  q_call (f_X12_bad n t 2 s0) fun r18 s17 =>
  q_rz r18 s17)
  else (
  j27 s0))
  else (
  j27 s0)
set_option maxRecDepth 100000 in
set_option maxHeartbeats 4000000 in
theorem C_X12_another {l : Launch} {w : q_Wd} {n : Nat} {t : Nat} {a0 : Int32} (ht : q_KD t = .inl 12) {s0 : q_Sto} : q_C l w yX12_another cX12_another 2 (some .boolean) (q_rm 11 245) [q_rf w t, .int a0] s0 (f_X12_another n t a0 s0) := q_CofG [some (q_rf w t), some (.int a0)] (by decide +kernel) rfl rfl (Nat.le_of_ble_eq_true rfl) fun cx hl hc => by
  have hc : q_ok w cx RX12 cX12_another 2 (some .boolean) (q_rm 11 245) := hc
  rw [f_X12_another]
  refine g_rl0 hc dX12_another_0 rfl (pc2 := 1) rfl ?_
  refine g_getI hc fl_X12_177 rfl ht dX12_another_1 (pc2 := 4) rfl ?_
  refine g_iconst hc dX12_another_4 ic_2 (pc2 := 5) rfl ?_
  refine g_jn (P := fun j27 => ∀  (s1 : q_Sto), q_G w cx 2 (some .boolean) 27 [some (q_rf w t), some (.int a0)] [] s1 (j27 s1)) (fun s1 => ?_) (fun j27 hj27 => ?_)
  · refine g_rl0 hc dX12_another_27 rfl (pc2 := 28) rfl ?_
    refine g_getI hc fl_X12_177 rfl ht dX12_another_28 (pc2 := 31) rfl ?_
    refine g_iconst hc dX12_another_31 ic_2 (pc2 := 32) rfl ?_
    refine g_icmp_eq hc dX12_another_32 (pc1 := 41) (pc2 := 35) rfl rfl (fun _ => ?_) (fun _ => ?_)
    · refine g_rl0 hc dX12_another_41 rfl (pc2 := 42) rfl ?_
      refine g_rl0 hc dX12_another_42 rfl (pc2 := 43) rfl ?_
      refine g_getI hc fl_X12_189 rfl ht dX12_another_43 (pc2 := 46) rfl ?_
      refine g_callV1 hc (C_X12_isMule ht) mv_X12_isMule ln_X12_72 ht ⟨by decide, by decide⟩ (Nat.le_of_ble_eq_true rfl) dX12_another_46 (pc2 := 49) rfl (fun r4 s3 => ?_)
      refine g_if_ne hc dX12_another_49 (pc1 := 52) (pc2 := 58) rfl rfl (fun _ => ?_) (fun _ => ?_)
      · refine g_rl0 hc dX12_another_52 rfl (pc2 := 53) rfl ?_
        refine g_iconst hc dX12_another_53 ic_2 (pc2 := 54) rfl ?_
        refine g_callV1 hc (C_X12_bad ht) mv_X12_bad ln_X12_198 ht ⟨by decide, by decide⟩ (Nat.le_of_ble_eq_true rfl) dX12_another_54 (pc2 := 57) rfl (fun r7 s6 => ?_)
        exact g_zret hc dX12_another_57
      · refine g_rl0 hc dX12_another_58 rfl (pc2 := 59) rfl ?_
        refine g_getR hc fl_X12_28 rfl ht dX12_another_59 (pc2 := 62) rfl ?_
        refine g_il1 hc dX12_another_62 rfl (pc2 := 63) rfl ?_
        refine g_iconst hc dX12_another_63 ic_1 (pc2 := 64) rfl ?_
        refine g_iadd hc dX12_another_64 (pc2 := 65) rfl ?_
        refine g_dup2 hc dX12_another_65 rfl rfl (pc2 := 66) rfl ?_
        refine g_iald hc (kf_12_8 ht) (kl_12_8 ht) dX12_another_66 (pc2 := 67) rfl (fun v8 => ?_)
        refine g_iconst hc dX12_another_67 ic_1 (pc2 := 68) rfl ?_
        refine g_rl0 hc dX12_another_68 rfl (pc2 := 69) rfl ?_
        refine g_getI hc fl_X12_189 rfl ht dX12_another_69 (pc2 := 72) rfl ?_
        refine g_ishl hc dX12_another_72 (pc2 := 73) rfl ?_
        refine g_ior hc dX12_another_73 (pc2 := 74) rfl ?_
        refine g_iast hc (kf_12_8 ht) (kl_12_8 ht) dX12_another_74 (pc2 := 75) rfl (fun s9 => ?_)
        refine g_rl0 hc dX12_another_75 rfl (pc2 := 76) rfl ?_
        refine g_callV0v hc (C_X12_next0 ht) mv_X12_next0 ln_X12_201 ht ⟨by decide, by decide⟩ (Nat.le_of_ble_eq_true rfl) dX12_another_76 (pc2 := 79) rfl (fun s10 => ?_)
        refine g_iconst hc dX12_another_79 ic_1 (pc2 := 80) rfl ?_
        exact g_zret0 (by decide) hc dX12_another_80
    · refine g_rl0 hc dX12_another_35 rfl (pc2 := 36) rfl ?_
      refine g_iconst hc dX12_another_36 ic_1 (pc2 := 37) rfl ?_
      refine g_callV1 hc (C_X12_bad ht) mv_X12_bad ln_X12_198 ht ⟨by decide, by decide⟩ (Nat.le_of_ble_eq_true rfl) dX12_another_37 (pc2 := 40) rfl (fun r13 s12 => ?_)
      exact g_zret hc dX12_another_40
  · refine g_icmp_ne hc dX12_another_5 (pc1 := 8) (pc2 := 27) rfl rfl (fun _ => ?_) (fun _ => ?_)
    · refine g_rl0 hc dX12_another_8 rfl (pc2 := 9) rfl ?_
      refine g_getI hc fl_X12_189 rfl ht dX12_another_9 (pc2 := 12) rfl ?_
      refine g_rl0 hc dX12_another_12 rfl (pc2 := 13) rfl ?_
      refine g_getR hc fl_X12_28 rfl ht dX12_another_13 (pc2 := 16) rfl ?_
      refine g_il1 hc dX12_another_16 rfl (pc2 := 17) rfl ?_
      refine g_iald hc (kf_12_8 ht) (kl_12_8 ht) dX12_another_17 (pc2 := 18) rfl (fun v15 => ?_)
      refine g_icmp_ne hc dX12_another_18 (pc1 := 21) (pc2 := 27) rfl rfl (fun _ => ?_) (fun _ => ?_)
      · refine g_rl0 hc dX12_another_21 rfl (pc2 := 22) rfl ?_
        refine g_iconst hc dX12_another_22 ic_2 (pc2 := 23) rfl ?_
        refine g_callV1 hc (C_X12_bad ht) mv_X12_bad ln_X12_198 ht ⟨by decide, by decide⟩ (Nat.le_of_ble_eq_true rfl) dX12_another_23 (pc2 := 26) rfl (fun r18 s17 => ?_)
        exact g_zret hc dX12_another_26
      · exact hj27 _
    · exact hj27 _
set_option maxRecDepth 100000 in
set_option maxHeartbeats 4000000 in
def f_X12_aHeed_L57 (n : Nat) (x0 : Nat) (x1 : Int32) : Nat → q_Sto → Option (Int32 × q_Sto)
  | 0, _ => none
  | j + 1, s0 =>
    if (s0 x0 18) = 5 then (
    q_callv (f_X12_next0 n x0 s0) fun s14 =>
    q_call (f_X12_another n x0 x1 s14) fun r17 s16 =>
    if r17 = 0 then (
    some (0, s16))
    else (
    f_X12_aHeed_L57 n x0 x1  j  s16))
    else (
    some (1, s0))
set_option maxRecDepth 100000 in
set_option maxHeartbeats 4000000 in
def f_X12_aHeed (n : Nat) (t : Nat) (s0 : q_Sto) : Option (Int32 × q_Sto) :=
  q_nm (2 * (s0 t 15)) fun v1 =>
  q_ld s0 (q_RF t 0) 86 1790 fun v2 =>
  q_call (f_X12_told n t v1 7 0 (v2 - 1) s0) fun r4 s3 =>
  if r4 = 0 then (
  some (0, s3))
  else (
  q_st s3 (q_RF t 8) (v1 + 1) 64 0 fun s6 =>
  q_call (f_X12_need n t 8 s6) fun r8 s7 =>
  if r8 = 0 then (
  some (0, s7))
  else (
  q_call (f_X12_another n t v1 s7) fun r11 s10 =>
  if r11 = 0 then (
  some (0, s10))
  else (
  f_X12_aHeed_L57 n t v1  n  s10)))
set_option maxRecDepth 100000 in
set_option maxHeartbeats 4000000 in
theorem t_X12_aHeed_L57 {w : q_Wd} {cx : q_Cx} (hc : q_ok w cx RX12 cX12_aHeed 2 (some .boolean) (q_rm 13 292)) {n : Nat} {x0 : Nat} {x1 : Int32} (hx0 : q_KD x0 = .inl 12)   :
    ∀ (j : Nat)  (s0 : q_Sto), q_G w cx 2 (some .boolean) 57 [some (q_rf w x0), some (.int x1)] [] s0 (f_X12_aHeed_L57 n x0 x1  j  s0) := by
  intro j
  induction j with
  | zero =>
    intro _
    rw [f_X12_aHeed_L57]
    exact q_none
  | succ j ih =>
    intro s0
    rw [f_X12_aHeed_L57]
    refine g_rl0 hc dX12_aHeed_57 rfl (pc2 := 58) rfl ?_
    refine g_getI hc fl_X12_177 rfl hx0 dX12_aHeed_58 (pc2 := 61) rfl ?_
    refine g_iconst hc dX12_aHeed_61 ic_5 (pc2 := 62) rfl ?_
    refine g_icmp_ne hc dX12_aHeed_62 (pc1 := 65) (pc2 := 79) rfl rfl (fun _ => ?_) (fun _ => ?_)
    · refine g_rl0 hc dX12_aHeed_65 rfl (pc2 := 66) rfl ?_
      refine g_callV0v hc (C_X12_next0 hx0) mv_X12_next0 ln_X12_201 hx0 ⟨by decide, by decide⟩ (Nat.le_of_ble_eq_true rfl) dX12_aHeed_66 (pc2 := 69) rfl (fun s14 => ?_)
      refine g_rl0 hc dX12_aHeed_69 rfl (pc2 := 70) rfl ?_
      refine g_il1 hc dX12_aHeed_70 rfl (pc2 := 71) rfl ?_
      refine g_callV1 hc (C_X12_another hx0) mv_X12_another ln_X12_254 hx0 ⟨by decide, by decide⟩ (Nat.le_of_ble_eq_true rfl) dX12_aHeed_71 (pc2 := 74) rfl (fun r17 s16 => ?_)
      refine g_if_ne hc dX12_aHeed_74 (pc1 := 77) (pc2 := 57) rfl rfl (fun _ => ?_) (fun _ => ?_)
      · refine g_iconst hc dX12_aHeed_77 ic_0 (pc2 := 78) rfl ?_
        exact g_zret0 (by decide) hc dX12_aHeed_78
      · exact ih _
    · refine g_iconst hc dX12_aHeed_79 ic_1 (pc2 := 80) rfl ?_
      exact g_zret0 (by decide) hc dX12_aHeed_80
set_option maxRecDepth 100000 in
set_option maxHeartbeats 4000000 in
theorem C_X12_aHeed {l : Launch} {w : q_Wd} {n : Nat} {t : Nat} (ht : q_KD t = .inl 12) {s0 : q_Sto} : q_C l w yX12_aHeed cX12_aHeed 2 (some .boolean) (q_rm 13 292) [q_rf w t] s0 (f_X12_aHeed n t s0) := q_CofG [some (q_rf w t), none] (by decide +kernel) rfl rfl (Nat.le_of_ble_eq_true rfl) fun cx hl hc => by
  have hc : q_ok w cx RX12 cX12_aHeed 2 (some .boolean) (q_rm 13 292) := hc
  rw [f_X12_aHeed]
  refine g_iconst hc dX12_aHeed_0 ic_2 (pc2 := 1) rfl ?_
  refine g_rl0 hc dX12_aHeed_1 rfl (pc2 := 2) rfl ?_
  refine g_getI hc fl_X12_247 rfl ht dX12_aHeed_2 (pc2 := 5) rfl ?_
  refine g_imul hc dX12_aHeed_5 (pc2 := 6) rfl ?_
  refine g_nm (fun v1 => ?_)
  refine g_is1 hc dX12_aHeed_6 (by decide) (L2 := [some (q_rf w t), some (.int v1)]) rfl (pc2 := 7) rfl ?_
  refine g_rl0 hc dX12_aHeed_7 rfl (pc2 := 8) rfl ?_
  refine g_il1 hc dX12_aHeed_8 rfl (pc2 := 9) rfl ?_
  refine g_bipush hc dX12_aHeed_9 bp_7 (pc2 := 11) rfl ?_
  refine g_iconst hc dX12_aHeed_11 ic_0 (pc2 := 12) rfl ?_
  refine g_rl0 hc dX12_aHeed_12 rfl (pc2 := 13) rfl ?_
  refine g_getR hc fl_X12_7 rfl ht dX12_aHeed_13 (pc2 := 16) rfl ?_
  refine g_bipush hc dX12_aHeed_16 bp_86 (pc2 := 18) rfl ?_
  refine g_iald hc (kf_12_0 ht) (kl_12_0 ht) dX12_aHeed_18 (pc2 := 19) rfl (fun v2 => ?_)
  refine g_iconst hc dX12_aHeed_19 ic_1 (pc2 := 20) rfl ?_
  refine g_isub hc dX12_aHeed_20 (pc2 := 21) rfl ?_
  refine g_callV4 hc (C_X12_told ht) mv_X12_told ln_X12_250 ht ⟨by decide, by decide⟩ (Nat.le_of_ble_eq_true rfl) dX12_aHeed_21 (pc2 := 24) rfl (fun r4 s3 => ?_)
  refine g_if_ne hc dX12_aHeed_24 (pc1 := 27) (pc2 := 29) rfl rfl (fun _ => ?_) (fun _ => ?_)
  · refine g_iconst hc dX12_aHeed_27 ic_0 (pc2 := 28) rfl ?_
    exact g_zret0 (by decide) hc dX12_aHeed_28
  · refine g_rl0 hc dX12_aHeed_29 rfl (pc2 := 30) rfl ?_
    refine g_getR hc fl_X12_28 rfl ht dX12_aHeed_30 (pc2 := 33) rfl ?_
    refine g_il1 hc dX12_aHeed_33 rfl (pc2 := 34) rfl ?_
    refine g_iconst hc dX12_aHeed_34 ic_1 (pc2 := 35) rfl ?_
    refine g_iadd hc dX12_aHeed_35 (pc2 := 36) rfl ?_
    refine g_iconst hc dX12_aHeed_36 ic_0 (pc2 := 37) rfl ?_
    refine g_iast hc (kf_12_8 ht) (kl_12_8 ht) dX12_aHeed_37 (pc2 := 38) rfl (fun s6 => ?_)
    refine g_rl0 hc dX12_aHeed_38 rfl (pc2 := 39) rfl ?_
    refine g_bipush hc dX12_aHeed_39 bp_8 (pc2 := 41) rfl ?_
    refine g_callV1 hc (C_X12_need ht) mv_X12_need ln_X12_233 ht ⟨by decide, by decide⟩ (Nat.le_of_ble_eq_true rfl) dX12_aHeed_41 (pc2 := 44) rfl (fun r8 s7 => ?_)
    refine g_if_eq hc dX12_aHeed_44 (pc1 := 55) (pc2 := 47) rfl rfl (fun _ => ?_) (fun _ => ?_)
    · refine g_iconst hc dX12_aHeed_55 ic_0 (pc2 := 56) rfl ?_
      exact g_zret0 (by decide) hc dX12_aHeed_56
    · refine g_rl0 hc dX12_aHeed_47 rfl (pc2 := 48) rfl ?_
      refine g_il1 hc dX12_aHeed_48 rfl (pc2 := 49) rfl ?_
      refine g_callV1 hc (C_X12_another ht) mv_X12_another ln_X12_254 ht ⟨by decide, by decide⟩ (Nat.le_of_ble_eq_true rfl) dX12_aHeed_49 (pc2 := 52) rfl (fun r11 s10 => ?_)
      refine g_if_ne hc dX12_aHeed_52 (pc1 := 55) (pc2 := 57) rfl rfl (fun _ => ?_) (fun _ => ?_)
      · refine g_iconst hc dX12_aHeed_55 ic_0 (pc2 := 56) rfl ?_
        exact g_zret0 (by decide) hc dX12_aHeed_56
      · refine t_X12_aHeed_L57 hc ht  n  _
