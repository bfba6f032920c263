theorem q_kd0 : q_KD 0 = .inl 11 := by decide +kernel
set_option maxRecDepth 100000 in
set_option maxHeartbeats 4000000 in
def F_X12_init (n : Nat) (t : Nat) (s0 : x_U) : Option (Int32 × x_U) :=
  if t = 0 then none else
  x_pi s0 t 12 3 (-1) fun s1 =>
  x_nwa s1 3 12 fun o2 s3 =>
  x_pr s3 t 12 12 o2 fun s4 =>
  x_nwa s4 3 5 fun o5 s6 =>
  x_pr s6 t 12 13 o5 fun s7 =>
  x_nwa s7 3 0 fun o8 s9 =>
  x_pr s9 t 12 14 o8 fun s10 =>
  x_nwa s10 3 0 fun o11 s12 =>
  x_pr s12 t 12 15 o11 fun s13 =>
  x_nwa s13 3 150 fun o14 s15 =>
  x_pr s15 t 12 16 o14 fun s16 =>
  some (0, s16)
set_option maxRecDepth 100000 in
set_option maxHeartbeats 4000000 in
theorem C2_X12_init {l : Launch} {w : q_Wd} {n : Nat} {t : Nat} {s0 : x_U} : x_C l w yX12_init cX12_init 1 (none) 1 20 [x_v w t] x_aV s0 (F_X12_init n t s0) := x_CofG [some (x_v w t)] (by decide +kernel) rfl (x_ca x_vcat x_c0) (Nat.le_of_ble_eq_true rfl) fun hop cx hl => by
  subst hl
  show x_G w cx RX12 "<init>" cX12_init 1 (none) 1 20 (x_m s0) x_aV 0 [some (x_v w t)] [] s0 _
  rw [F_X12_init]
  refine x_aload_n dX12_init_0 x_vR rfl (pc2 := 1) rfl ?_
  refine x_obj xl_X12_1 ob_w ⟨by decide, by decide⟩ (Nat.le_trans x_s0 (by decide)) dX12_init_1 (pc2 := 4) rfl ?_
  refine x_aload_n dX12_init_4 x_vR rfl (pc2 := 5) rfl ?_
  refine x_iconst dX12_init_5 ic_m1 (pc2 := 6) rfl ?_
  refine x_putI (Or.inl xf_X12_7) (Or.inl rfl) rfl rfl rfl dX12_init_6 (pc2 := 9) rfl (fun s1 => ?_)
  refine x_aload_n dX12_init_9 x_vR rfl (pc2 := 10) rfl ?_
  refine x_bipush dX12_init_10 bp_12 (pc2 := 12) rfl ?_
  refine x_newq (t := 3) (Or.inl ⟨rfl, xc_X12_13⟩) dX12_init_12 (pc2 := 15) rfl (fun o2 s3 => ?_)
  refine x_putR (Or.inl xf_X12_15) (Or.inl rfl) rfl (x_nR (Or.inr ⟨_, rfl⟩)) dX12_init_15 (pc2 := 18) rfl (fun s4 => ?_)
  refine x_aload_n dX12_init_18 x_vR rfl (pc2 := 19) rfl ?_
  refine x_iconst dX12_init_19 ic_5 (pc2 := 20) rfl ?_
  refine x_newq (t := 3) (Or.inl ⟨rfl, xc_X12_13⟩) dX12_init_20 (pc2 := 23) rfl (fun o5 s6 => ?_)
  refine x_putR (Or.inl xf_X12_19) (Or.inl rfl) rfl (x_nR (Or.inr ⟨_, rfl⟩)) dX12_init_23 (pc2 := 26) rfl (fun s7 => ?_)
  refine x_aload_n dX12_init_26 x_vR rfl (pc2 := 27) rfl ?_
  refine x_iconst dX12_init_27 ic_0 (pc2 := 28) rfl ?_
  refine x_newq (t := 3) (Or.inl ⟨rfl, xc_X12_13⟩) dX12_init_28 (pc2 := 31) rfl (fun o8 s9 => ?_)
  refine x_putR (Or.inl xf_X12_22) (Or.inl rfl) rfl (x_nR (Or.inr ⟨_, rfl⟩)) dX12_init_31 (pc2 := 34) rfl (fun s10 => ?_)
  refine x_aload_n dX12_init_34 x_vR rfl (pc2 := 35) rfl ?_
  refine x_iconst dX12_init_35 ic_0 (pc2 := 36) rfl ?_
  refine x_newq (t := 3) (Or.inl ⟨rfl, xc_X12_13⟩) dX12_init_36 (pc2 := 39) rfl (fun o11 s12 => ?_)
  refine x_putR (Or.inl xf_X12_25) (Or.inl rfl) rfl (x_nR (Or.inr ⟨_, rfl⟩)) dX12_init_39 (pc2 := 42) rfl (fun s13 => ?_)
  refine x_aload_n dX12_init_42 x_vR rfl (pc2 := 43) rfl ?_
  refine x_sipush dX12_init_43 sp_150 (pc2 := 46) rfl ?_
  refine x_newq (t := 3) (Or.inl ⟨rfl, xc_X12_13⟩) dX12_init_46 (pc2 := 49) rfl (fun o14 s15 => ?_)
  refine x_putR (Or.inl xf_X12_28) (Or.inl rfl) rfl (x_nR (Or.inr ⟨_, rfl⟩)) dX12_init_49 (pc2 := 52) rfl (fun s16 => ?_)
  exact x_vret dX12_init_52
set_option maxRecDepth 100000 in
set_option maxHeartbeats 4000000 in
def F_L_cell (n : Nat) (a0 : Nat) (a1 : Int32) (s0 : x_U) : Option (Int32 × x_U) :=
  x_len s0 a0 fun v1 =>
  if a1 < v1 then (
  x_ld s0 a0 a1 fun v2 =>
  some (v2, s0))
  else (
  some ((631 * a1) + 619, s0))
set_option maxRecDepth 100000 in
set_option maxHeartbeats 4000000 in
theorem C2_L_cell {l : Launch} {w : q_Wd} {n : Nat} {a0 : Nat} {a1 : Int32} {s0 : x_U} : x_C l w yL_cell cL_cell 2 (some .int) 0 0 [x_v w a0, .int a1] x_aI s0 (F_L_cell n a0 a1 s0) := x_CofG [some (x_v w a0), some (.int a1)] (by decide +kernel) rfl (x_ca x_vcat (x_ca rfl x_c0)) (Nat.le_of_ble_eq_true rfl) fun hop cx hl => by
  subst hl
  show x_G w cx RL "cell" cL_cell 2 (some .int) 0 0 (x_m s0) x_aI 0 [some (x_v w a0), some (.int a1)] [] s0 _
  rw [F_L_cell]
  refine x_iload_n dL_cell_0 rfl (pc2 := 1) rfl ?_
  refine x_aload_n dL_cell_1 x_vR rfl (pc2 := 2) rfl ?_
  refine x_alen dL_cell_2 (pc2 := 3) rfl (fun v1 => ?_)
  refine x_icmp_ge dL_cell_3 (pc1 := 6) (pc2 := 12) rfl rfl (fun _ => ?_) (fun _ => ?_)
  · refine x_aload_n dL_cell_6 x_vR rfl (pc2 := 7) rfl ?_
    refine x_iload_n dL_cell_7 rfl (pc2 := 8) rfl ?_
    refine x_iald dL_cell_8 (pc2 := 9) rfl (fun v2 => ?_)
    refine x_goto dL_cell_9 (pc2 := 21) rfl ?_
    exact x_iret dL_cell_21
  · refine x_sipush dL_cell_12 sp_631 (pc2 := 15) rfl ?_
    refine x_iload_n dL_cell_15 rfl (pc2 := 16) rfl ?_
    refine x_imul dL_cell_16 (pc2 := 17) rfl ?_
    refine x_sipush dL_cell_17 sp_619 (pc2 := 20) rfl ?_
    refine x_iadd dL_cell_20 (pc2 := 21) rfl ?_
    exact x_iret dL_cell_21
set_option maxRecDepth 100000 in
set_option maxHeartbeats 4000000 in
def F_L_between (n : Nat) (a0 : Int32) (a1 : Int32) (a2 : Int32) (s0 : x_U) : Option (Int32 × x_U) :=
  x_rem (a0 &&& 1048575) ((a2 - a1) + 1) fun v1 =>
  some (a1 + v1, s0)
set_option maxRecDepth 100000 in
set_option maxHeartbeats 4000000 in
theorem C2_L_between {l : Launch} {w : q_Wd} {n : Nat} {a0 : Int32} {a1 : Int32} {a2 : Int32} {s0 : x_U} : x_C l w yL_between cL_between 3 (some .int) 0 0 [.int a0, .int a1, .int a2] x_aI s0 (F_L_between n a0 a1 a2 s0) := x_CofG [some (.int a0), some (.int a1), some (.int a2)] (by decide +kernel) rfl (x_ca rfl (x_ca rfl (x_ca rfl x_c0))) (Nat.le_of_ble_eq_true rfl) fun hop cx hl => by
  subst hl
  show x_G w cx RL "between" cL_between 3 (some .int) 0 0 (x_m s0) x_aI 0 [some (.int a0), some (.int a1), some (.int a2)] [] s0 _
  rw [F_L_between]
  refine x_iload_n dL_between_0 rfl (pc2 := 1) rfl ?_
  refine x_iload_n dL_between_1 rfl (pc2 := 2) rfl ?_
  refine x_ldc dL_between_2 cn_L_7 (pc2 := 4) rfl ?_
  refine x_iand dL_between_4 (pc2 := 5) rfl ?_
  refine x_iload_n dL_between_5 rfl (pc2 := 6) rfl ?_
  refine x_iload_n dL_between_6 rfl (pc2 := 7) rfl ?_
  refine x_isub dL_between_7 (pc2 := 8) rfl ?_
  refine x_iconst dL_between_8 ic_1 (pc2 := 9) rfl ?_
  refine x_iadd dL_between_9 (pc2 := 10) rfl ?_
  refine x_irem dL_between_10 (pc2 := 11) rfl (fun v1 => ?_)
  refine x_iadd dL_between_11 (pc2 := 12) rfl ?_
  exact x_iret dL_between_12
set_option maxRecDepth 100000 in
set_option maxHeartbeats 4000000 in
def F_J5_init_d00df (n : Nat) (t : Nat) (a0 : Int32) (s0 : x_U) : Option (Int32 × x_U) :=
  if t = 0 then none else
  if (1 : Int32) = 0 then (
  none)
  else (
  x_nwa s0 2 a0 fun o1 s2 =>
  x_pr s2 t 14 0 o1 fun s3 =>
  x_pi s3 t 14 1 0 fun s4 =>
  some (0, s4))
set_option maxRecDepth 100000 in
set_option maxHeartbeats 4000000 in
theorem C2_J5_init_d00df {l : Launch} {w : q_Wd} {n : Nat} {t : Nat} {a0 : Int32} {s0 : x_U} : x_C l w yJ5_init_d00df cJ5_init_d00df 2 (none) 1 20 [x_v w t, .int a0] x_aV s0 (F_J5_init_d00df n t a0 s0) := x_CofG [some (x_v w t), some (.int a0)] (by decide +kernel) rfl (x_ca x_vcat (x_ca rfl x_c0)) (Nat.le_of_ble_eq_true rfl) fun hop cx hl => by
  subst hl
  show x_G w cx RJ5 "<init>" cJ5_init_d00df 2 (none) 1 20 (x_m s0) x_aV 0 [some (x_v w t), some (.int a0)] [] s0 _
  rw [F_J5_init_d00df]
  refine x_aload_n dJ5_init_d00df_0 x_vR rfl (pc2 := 1) rfl ?_
  refine x_obj xl_J5_3 ob_w ⟨by decide, by decide⟩ (Nat.le_trans x_s0 (by decide)) dJ5_init_d00df_1 (pc2 := 4) rfl ?_
  refine x_gscmp xg_J5_18 dJ5_init_d00df_4 (pc2 := 7) rfl ?_
  refine x_if_eq dJ5_init_d00df_7 (pc1 := 25) (pc2 := 10) rfl rfl (fun _ => ?_) (fun _ => ?_)
  · exact x_none
  · refine x_aload_n dJ5_init_d00df_10 x_vR rfl (pc2 := 11) rfl ?_
    refine x_iload_n dJ5_init_d00df_11 rfl (pc2 := 12) rfl ?_
    refine x_newa (t := 2) (ty := .byte) rfl (Or.inr ⟨rfl, rfl⟩) xw_byte dJ5_init_d00df_12 (pc2 := 14) rfl (fun o1 s2 => ?_)
    refine x_putR (Or.inl xf_J5_15) (Or.inl rfl) rfl (x_nR (Or.inr ⟨_, rfl⟩)) dJ5_init_d00df_14 (pc2 := 17) rfl (fun s3 => ?_)
    refine x_aload_n dJ5_init_d00df_17 x_vR rfl (pc2 := 18) rfl ?_
    refine x_iconst dJ5_init_d00df_18 ic_0 (pc2 := 19) rfl ?_
    refine x_putI (Or.inl xf_J5_22) (Or.inl rfl) rfl rfl rfl dJ5_init_d00df_19 (pc2 := 22) rfl (fun s4 => ?_)
    refine x_goto dJ5_init_d00df_22 (pc2 := 38) rfl ?_
    exact x_vret dJ5_init_d00df_38
set_option maxRecDepth 100000 in
set_option maxHeartbeats 4000000 in
def F_J4_init_da8c8 (n : Nat) (t : Nat) (s0 : x_U) : Option (Int32 × x_U) :=
  x_o s0 t 14 <|
  x_call (F_J5_init_d00df n t 16 s0) fun r2 s1 =>
  some (0, s1)
set_option maxRecDepth 100000 in
set_option maxHeartbeats 4000000 in
theorem C2_J4_init_da8c8 {l : Launch} {w : q_Wd} {n : Nat} {t : Nat} {s0 : x_U} : x_C l w yJ4_init_da8c8 cJ4_init_da8c8 1 (none) 2 41 [x_v w t] x_aV s0 (F_J4_init_da8c8 n t s0) := x_CofG [some (x_v w t)] (by decide +kernel) rfl (x_ca x_vcat x_c0) (Nat.le_of_ble_eq_true rfl) fun hop cx hl => by
  subst hl
  show x_G w cx RJ4 "<init>" cJ4_init_da8c8 1 (none) 2 41 (x_m s0) x_aV 0 [some (x_v w t)] [] s0 _
  rw [F_J4_init_da8c8]
  refine x_aload_n dJ4_init_da8c8_0 x_vR rfl (pc2 := 1) rfl ?_
  refine x_bipush dJ4_init_da8c8_1 bp_16 (pc2 := 3) rfl ?_
  refine x_oo (ci := 14) (fun hk3 => ?_)
  refine x_callIV (As := [.int 16]) C2_J5_init_d00df mi_J5_init_d00df rfl rfl xl_J4_1 hk3 xq_14 (fun h => by first | rfl | cases h) rfl rfl ⟨by decide, by decide⟩ (Nat.le_trans x_s0 (by decide)) dJ4_init_da8c8_3 (pc2 := 6) rfl (fun r2 s1 => ?_) hop
  exact x_vret dJ4_init_da8c8_6
set_option maxRecDepth 100000 in
set_option maxHeartbeats 4000000 in
def F_J0_coder_7d493 (n : Nat) (t : Nat) (s0 : x_U) : Option (Int32 × x_U) :=
  if (1 : Int32) = 0 then (
  x_rb 1 s0)
  else (
  x_gi s0 t 13 1 fun v1 =>
  x_rb v1 s0)
set_option maxRecDepth 100000 in
set_option maxHeartbeats 4000000 in
theorem C2_J0_coder_7d493 {l : Launch} {w : q_Wd} {n : Nat} {t : Nat} {s0 : x_U} : x_C l w yJ0_coder_7d493 cJ0_coder_7d493 1 (some .byte) 0 0 [x_v w t] x_aI s0 (F_J0_coder_7d493 n t s0) := x_CofG [some (x_v w t)] (by decide +kernel) rfl (x_ca x_vcat x_c0) (Nat.le_of_ble_eq_true rfl) fun hop cx hl => by
  subst hl
  show x_G w cx RJ0 "coder" cJ0_coder_7d493 1 (some .byte) 0 0 (x_m s0) x_aI 0 [some (x_v w t)] [] s0 _
  rw [F_J0_coder_7d493]
  refine x_gscmp xg_J0_38 dJ0_coder_7d493_0 (pc2 := 3) rfl ?_
  refine x_if_eq dJ0_coder_7d493_3 (pc1 := 13) (pc2 := 6) rfl rfl (fun _ => ?_) (fun _ => ?_)
  · refine x_iconst dJ0_coder_7d493_13 ic_1 (pc2 := 14) rfl ?_
    exact x_bret dJ0_coder_7d493_14
  · refine x_aload_n dJ0_coder_7d493_6 x_vR rfl (pc2 := 7) rfl ?_
    refine x_getSC rfl xf_J0_15 xg_J0_15 dJ0_coder_7d493_7 (pc2 := 10) rfl (fun v1 => ?_)
    refine x_goto dJ0_coder_7d493_10 (pc2 := 14) rfl ?_
    exact x_bret dJ0_coder_7d493_14
set_option maxRecDepth 100000 in
set_option maxHeartbeats 4000000 in
def F_J0_length_8abf5 (n : Nat) (t : Nat) (s0 : x_U) : Option (Int32 × x_U) :=
  x_gr s0 t 13 0 fun o1 =>
  x_len s0 o1 fun v2 =>
  x_o s0 t 13 <|
  x_call (F_J0_coder_7d493 n t s0) fun r4 s3 =>
  some (v2 >>> (r4 &&& 31), s3)
set_option maxRecDepth 100000 in
set_option maxHeartbeats 4000000 in
theorem C2_J0_length_8abf5 {l : Launch} {w : q_Wd} {n : Nat} {t : Nat} {s0 : x_U} : x_C l w yJ0_length_8abf5 cJ0_length_8abf5 1 (some .int) 1 20 [x_v w t] x_aI s0 (F_J0_length_8abf5 n t s0) := x_CofG [some (x_v w t)] (by decide +kernel) rfl (x_ca x_vcat x_c0) (Nat.le_of_ble_eq_true rfl) fun hop cx hl => by
  subst hl
  show x_G w cx RJ0 "length" cJ0_length_8abf5 1 (some .int) 1 20 (x_m s0) x_aI 0 [some (x_v w t)] [] s0 _
  rw [F_J0_length_8abf5]
  refine x_aload_n dJ0_length_8abf5_0 x_vR rfl (pc2 := 1) rfl ?_
  refine x_getSV rfl xf_J0_9 xg_J0_9 dJ0_length_8abf5_1 (pc2 := 4) rfl (fun o1 => ?_)
  refine x_alen dJ0_length_8abf5_4 (pc2 := 5) rfl (fun v2 => ?_)
  refine x_aload_n dJ0_length_8abf5_5 x_vR rfl (pc2 := 6) rfl ?_
  refine x_oo (ci := 13) (fun hk5 => ?_)
  refine x_callVI (As := []) C2_J0_coder_7d493 xm_J0_coder_7d493 (fun h => by first | rfl | cases h) xl_J0_335 hk5 rfl rfl ⟨by decide, by decide⟩ (Nat.le_trans (x_sm rfl x_s0) (by decide)) dJ0_length_8abf5_6 (pc2 := 9) rfl (fun r4 s3 => ?_) hop
  refine x_ishr dJ0_length_8abf5_9 (pc2 := 10) rfl ?_
  exact x_iret dJ0_length_8abf5_10
set_option maxRecDepth 100000 in
set_option maxHeartbeats 4000000 in
def F_J8_newLength_cabcc (n : Nat) (a0 : Int32) (a1 : Int32) (a2 : Int32) (s0 : x_U) : Option (Int32 × x_U) :=
  x_nm (a0 + (q_mx a1 a2)) fun v1 =>
  if (0 : Int32) < v1 then (
  if v1 ≤ 2147483639 then (
  some (v1, s0))
  else (
  none))
  else (
  none)
set_option maxRecDepth 100000 in
set_option maxHeartbeats 4000000 in
theorem C2_J8_newLength_cabcc {l : Launch} {w : q_Wd} {n : Nat} {a0 : Int32} {a1 : Int32} {a2 : Int32} {s0 : x_U} : x_C l w yJ8_newLength_cabcc cJ8_newLength_cabcc 4 (some .int) 1 21 [.int a0, .int a1, .int a2] x_aI s0 (F_J8_newLength_cabcc n a0 a1 a2 s0) := x_CofG [some (.int a0), some (.int a1), some (.int a2), none] (by decide +kernel) rfl (x_ca rfl (x_ca rfl (x_ca rfl x_c0))) (Nat.le_of_ble_eq_true rfl) fun hop cx hl => by
  subst hl
  show x_G w cx RJ8 "newLength" cJ8_newLength_cabcc 4 (some .int) 1 21 (x_m s0) x_aI 0 [some (.int a0), some (.int a1), some (.int a2), none] [] s0 _
  rw [F_J8_newLength_cabcc]
  refine x_iload_n dJ8_newLength_cabcc_0 rfl (pc2 := 1) rfl ?_
  refine x_iload_n dJ8_newLength_cabcc_1 rfl (pc2 := 2) rfl ?_
  refine x_iload_n dJ8_newLength_cabcc_2 rfl (pc2 := 3) rfl ?_
  refine x_max xl_J8_194 ⟨by decide, by decide⟩ (Nat.le_trans (x_sm rfl x_s0) (by decide)) dJ8_newLength_cabcc_3 (pc2 := 6) rfl ?_
  refine x_iadd dJ8_newLength_cabcc_6 (pc2 := 7) rfl ?_
  refine x_gnm (fun v1 => ?_)
  refine x_istore_n dJ8_newLength_cabcc_7 (by decide) (L2 := [some (.int a0), some (.int a1), some (.int a2), some (.int v1)]) rfl (pc2 := 8) rfl ?_
  refine x_iconst dJ8_newLength_cabcc_8 ic_0 (pc2 := 9) rfl ?_
  refine x_iload_n dJ8_newLength_cabcc_9 rfl (pc2 := 10) rfl ?_
  refine x_icmp_ge dJ8_newLength_cabcc_10 (pc1 := 13) (pc2 := 21) rfl rfl (fun _ => ?_) (fun _ => ?_)
  · refine x_iload_n dJ8_newLength_cabcc_13 rfl (pc2 := 14) rfl ?_
    refine x_ldc dJ8_newLength_cabcc_14 cn_J8_200 (pc2 := 16) rfl ?_
    refine x_icmp_gt dJ8_newLength_cabcc_16 (pc1 := 19) (pc2 := 21) rfl rfl (fun _ => ?_) (fun _ => ?_)
    · refine x_iload_n dJ8_newLength_cabcc_19 rfl (pc2 := 20) rfl ?_
      exact x_iret dJ8_newLength_cabcc_20
    · exact x_none
  · exact x_none
set_option maxRecDepth 100000 in
set_option maxHeartbeats 4000000 in
def F_J5_newCapacity_0f7a4 (n : Nat) (t : Nat) (a0 : Int32) (s0 : x_U) : Option (Int32 × x_U) :=
  x_gr s0 t 14 0 fun o1 =>
  x_len s0 o1 fun v2 =>
  x_gi s0 t 14 1 fun v3 =>
  x_nm (a0 <<< (v3 &&& 31)) fun v4 =>
  x_nm (v4 - v2) fun v5 =>
  x_gi s0 t 14 1 fun v6 =>
  x_call (F_J8_newLength_cabcc n v2 v5 (v2 + (2 <<< (v6 &&& 31))) s0) fun r8 s7 =>
  if r8 = 2147483647 then (
  none)
  else (
  x_gi s7 t 14 1 fun v9 =>
  some (r8 >>> (v9 &&& 31), s7))
set_option maxRecDepth 100000 in
set_option maxHeartbeats 4000000 in
theorem C2_J5_newCapacity_0f7a4 {l : Launch} {w : q_Wd} {n : Nat} {t : Nat} {a0 : Int32} {s0 : x_U} : x_C l w yJ5_newCapacity_0f7a4 cJ5_newCapacity_0f7a4 6 (some .int) 2 44 [x_v w t, .int a0] x_aI s0 (F_J5_newCapacity_0f7a4 n t a0 s0) := x_CofG [some (x_v w t), some (.int a0), none, none, none, none] (by decide +kernel) rfl (x_ca x_vcat (x_ca rfl x_c0)) (Nat.le_of_ble_eq_true rfl) fun hop cx hl => by
  subst hl
  show x_G w cx RJ5 "newCapacity" cJ5_newCapacity_0f7a4 6 (some .int) 2 44 (x_m s0) x_aI 0 [some (x_v w t), some (.int a0), none, none, none, none] [] s0 _
  rw [F_J5_newCapacity_0f7a4]
  refine x_aload_n dJ5_newCapacity_0f7a4_0 x_vR rfl (pc2 := 1) rfl ?_
  refine x_getR xf_J5_15 (by decide) rfl dJ5_newCapacity_0f7a4_1 (pc2 := 4) rfl (fun o1 => ?_)
  refine x_alen dJ5_newCapacity_0f7a4_4 (pc2 := 5) rfl (fun v2 => ?_)
  refine x_istore_n dJ5_newCapacity_0f7a4_5 (by decide) (L2 := [some (x_v w t), some (.int a0), some (.int v2), none, none, none]) rfl (pc2 := 6) rfl ?_
  refine x_iload_n dJ5_newCapacity_0f7a4_6 rfl (pc2 := 7) rfl ?_
  refine x_aload_n dJ5_newCapacity_0f7a4_7 x_vR rfl (pc2 := 8) rfl ?_
  refine x_getI xf_J5_22 (by decide) rfl dJ5_newCapacity_0f7a4_8 (pc2 := 11) rfl (fun v3 => ?_)
  refine x_ishl dJ5_newCapacity_0f7a4_11 (pc2 := 12) rfl ?_
  refine x_gnm (fun v4 => ?_)
  refine x_istore_n dJ5_newCapacity_0f7a4_12 (by decide) (L2 := [some (x_v w t), some (.int a0), some (.int v2), some (.int v4), none, none]) rfl (pc2 := 13) rfl ?_
  refine x_iload_n dJ5_newCapacity_0f7a4_13 rfl (pc2 := 14) rfl ?_
  refine x_iload_n dJ5_newCapacity_0f7a4_14 rfl (pc2 := 15) rfl ?_
  refine x_isub dJ5_newCapacity_0f7a4_15 (pc2 := 16) rfl ?_
  refine x_gnm (fun v5 => ?_)
  refine x_istore dJ5_newCapacity_0f7a4_16 (by decide) (L2 := [some (x_v w t), some (.int a0), some (.int v2), some (.int v4), some (.int v5), none]) rfl (pc2 := 18) rfl ?_
  refine x_iload_n dJ5_newCapacity_0f7a4_18 rfl (pc2 := 19) rfl ?_
  refine x_iload dJ5_newCapacity_0f7a4_19 rfl (pc2 := 21) rfl ?_
  refine x_iload_n dJ5_newCapacity_0f7a4_21 rfl (pc2 := 22) rfl ?_
  refine x_iconst dJ5_newCapacity_0f7a4_22 ic_2 (pc2 := 23) rfl ?_
  refine x_aload_n dJ5_newCapacity_0f7a4_23 x_vR rfl (pc2 := 24) rfl ?_
  refine x_getI xf_J5_22 (by decide) rfl dJ5_newCapacity_0f7a4_24 (pc2 := 27) rfl (fun v6 => ?_)
  refine x_ishl dJ5_newCapacity_0f7a4_27 (pc2 := 28) rfl ?_
  refine x_iadd dJ5_newCapacity_0f7a4_28 (pc2 := 29) rfl ?_
  refine x_callSI (As := [.int v2, .int v5, .int (v2 + (2 <<< (v6 &&& 31)))]) C2_J8_newLength_cabcc xm_J8_newLength_cabcc xl_J5_114 rfl rfl ⟨by decide, by decide⟩ (Nat.le_trans x_s0 (by decide)) dJ5_newCapacity_0f7a4_29 (pc2 := 32) rfl (fun r8 s7 => ?_) hop
  refine x_istore dJ5_newCapacity_0f7a4_32 (by decide) (L2 := [some (x_v w t), some (.int a0), some (.int v2), some (.int v4), some (.int v5), some (.int r8)]) rfl (pc2 := 34) rfl ?_
  refine x_iload dJ5_newCapacity_0f7a4_34 rfl (pc2 := 36) rfl ?_
  refine x_ldc dJ5_newCapacity_0f7a4_36 cn_J5_39 (pc2 := 38) rfl ?_
  refine x_icmp_ne dJ5_newCapacity_0f7a4_38 (pc1 := 41) (pc2 := 51) rfl rfl (fun _ => ?_) (fun _ => ?_)
  · exact x_none
  · refine x_iload dJ5_newCapacity_0f7a4_51 rfl (pc2 := 53) rfl ?_
    refine x_aload_n dJ5_newCapacity_0f7a4_53 x_vR rfl (pc2 := 54) rfl ?_
    refine x_getI xf_J5_22 (by decide) rfl dJ5_newCapacity_0f7a4_54 (pc2 := 57) rfl (fun v9 => ?_)
    refine x_ishr dJ5_newCapacity_0f7a4_57 (pc2 := 58) rfl ?_
    exact x_iret dJ5_newCapacity_0f7a4_58
set_option maxRecDepth 100000 in
set_option maxHeartbeats 4000000 in
def F_J7_copyOf_9075b (n : Nat) (a0 : Nat) (a1 : Int32) (s0 : x_U) : Option (Nat × x_U) :=
  x_len s0 a0 fun v1 =>
  if a1 = v1 then (
  x_cln s0 2 a0 fun o2 s3 =>
  x_cst s3 o2 2 <|
  some (o2, s3))
  else (
  x_nwa s0 2 a1 fun o4 s5 =>
  x_len s5 a0 fun v6 =>
  x_cp s5 a0 0 o4 0 (q_mn v6 a1) fun s7 =>
  some (o4, s7))
set_option maxRecDepth 100000 in
set_option maxHeartbeats 4000000 in
theorem C2_J7_copyOf_9075b {l : Launch} {w : q_Wd} {n : Nat} {a0 : Nat} {a1 : Int32} {s0 : x_U} : x_C l w yJ7_copyOf_9075b cJ7_copyOf_9075b 3 (some (.array .byte)) 1 80 [x_v w a0, .int a1] (x_aR w) s0 (F_J7_copyOf_9075b n a0 a1 s0) := x_CofG [some (x_v w a0), some (.int a1), none] (by decide +kernel) rfl (x_ca x_vcat (x_ca rfl x_c0)) (Nat.le_of_ble_eq_true rfl) fun hop cx hl => by
  subst hl
  show x_G w cx RJ7 "copyOf" cJ7_copyOf_9075b 3 (some (.array .byte)) 1 80 (x_m s0) (x_aR w) 0 [some (x_v w a0), some (.int a1), none] [] s0 _
  rw [F_J7_copyOf_9075b]
  refine x_iload_n dJ7_copyOf_9075b_0 rfl (pc2 := 1) rfl ?_
  refine x_aload_n dJ7_copyOf_9075b_1 x_vR rfl (pc2 := 2) rfl ?_
  refine x_alen dJ7_copyOf_9075b_2 (pc2 := 3) rfl (fun v1 => ?_)
  refine x_icmp_ne dJ7_copyOf_9075b_3 (pc1 := 6) (pc2 := 14) rfl rfl (fun _ => ?_) (fun _ => ?_)
  · refine x_aload_n dJ7_copyOf_9075b_6 x_vR rfl (pc2 := 7) rfl ?_
    refine x_clone (t := 2) (Or.inr ⟨rfl, rfl⟩) xk_J7_310 ⟨by decide, by decide⟩ (Nat.le_trans x_s0 (by decide)) dJ7_copyOf_9075b_7 (pc2 := 10) rfl (fun o2 s3 => ?_)
    refine x_castA (t := 2) (Or.inr ⟨rfl, rfl⟩) xc_J7_311 dJ7_copyOf_9075b_10 (pc2 := 13) rfl ?_
    exact x_aret (Or.inr ⟨_, rfl⟩) dJ7_copyOf_9075b_13
  · refine x_iload_n dJ7_copyOf_9075b_14 rfl (pc2 := 15) rfl ?_
    refine x_newa (t := 2) (ty := .byte) rfl (Or.inr ⟨rfl, rfl⟩) xw_byte dJ7_copyOf_9075b_15 (pc2 := 17) rfl (fun o4 s5 => ?_)
    refine x_astore_n x_vR dJ7_copyOf_9075b_17 (by decide) (L2 := [some (x_v w a0), some (.int a1), some (x_v w o4)]) rfl (pc2 := 18) rfl ?_
    refine x_aload_n dJ7_copyOf_9075b_18 x_vR rfl (pc2 := 19) rfl ?_
    refine x_iconst dJ7_copyOf_9075b_19 ic_0 (pc2 := 20) rfl ?_
    refine x_aload_n dJ7_copyOf_9075b_20 x_vR rfl (pc2 := 21) rfl ?_
    refine x_iconst dJ7_copyOf_9075b_21 ic_0 (pc2 := 22) rfl ?_
    refine x_aload_n dJ7_copyOf_9075b_22 x_vR rfl (pc2 := 23) rfl ?_
    refine x_alen dJ7_copyOf_9075b_23 (pc2 := 24) rfl (fun v6 => ?_)
    refine x_iload_n dJ7_copyOf_9075b_24 rfl (pc2 := 25) rfl ?_
    refine x_min xl_J7_304 ⟨by decide, by decide⟩ (Nat.le_trans (x_sm rfl (x_sm x_vcat (x_sm rfl (x_sm x_vcat x_s0)))) (by decide)) dJ7_copyOf_9075b_25 (pc2 := 28) rfl ?_
    refine x_copyb (q_w_copy xl_J7_150) ⟨by decide, by decide +kernel⟩ (Nat.le_trans x_s0 (by decide)) dJ7_copyOf_9075b_28 (pc2 := 31) rfl (fun s7 => ?_)
    refine x_aload_n dJ7_copyOf_9075b_31 x_vR rfl (pc2 := 32) rfl ?_
    exact x_aret (Or.inr ⟨_, rfl⟩) dJ7_copyOf_9075b_32
set_option maxRecDepth 100000 in
set_option maxHeartbeats 4000000 in
def F_J5_ensureCapacityInternal_d00df (n : Nat) (t : Nat) (a0 : Int32) (s0 : x_U) : Option (Int32 × x_U) :=
  x_gr s0 t 14 0 fun o1 =>
  x_len s0 o1 fun v2 =>
  x_gi s0 t 14 1 fun v3 =>
  x_nm (v2 >>> (v3 &&& 31)) fun v4 =>
  if (a0 - v4) ≤ 0 then (
  some (0, s0))
  else (
  x_gr s0 t 14 0 fun o5 =>
  x_o s0 t 14 <|
  x_call (F_J5_newCapacity_0f7a4 n t a0 s0) fun r7 s6 =>
  x_gi s6 t 14 1 fun v9 =>
  x_call (F_J7_copyOf_9075b n o5 (r7 <<< (v9 &&& 31)) s6) fun o11 s10 =>
  x_pr s10 t 14 0 o11 fun s12 =>
  some (0, s12))
set_option maxRecDepth 100000 in
set_option maxHeartbeats 4000000 in
theorem C2_J5_ensureCapacityInternal_d00df {l : Launch} {w : q_Wd} {n : Nat} {t : Nat} {a0 : Int32} {s0 : x_U} : x_C l w yJ5_ensureCapacityInternal_d00df cJ5_ensureCapacityInternal_d00df 3 (none) 3 102 [x_v w t, .int a0] x_aV s0 (F_J5_ensureCapacityInternal_d00df n t a0 s0) := x_CofG [some (x_v w t), some (.int a0), none] (by decide +kernel) rfl (x_ca x_vcat (x_ca rfl x_c0)) (Nat.le_of_ble_eq_true rfl) fun hop cx hl => by
  subst hl
  show x_G w cx RJ5 "ensureCapacityInternal" cJ5_ensureCapacityInternal_d00df 3 (none) 3 102 (x_m s0) x_aV 0 [some (x_v w t), some (.int a0), none] [] s0 _
  rw [F_J5_ensureCapacityInternal_d00df]
  refine x_aload_n dJ5_ensureCapacityInternal_d00df_0 x_vR rfl (pc2 := 1) rfl ?_
  refine x_getR xf_J5_15 (by decide) rfl dJ5_ensureCapacityInternal_d00df_1 (pc2 := 4) rfl (fun o1 => ?_)
  refine x_alen dJ5_ensureCapacityInternal_d00df_4 (pc2 := 5) rfl (fun v2 => ?_)
  refine x_aload_n dJ5_ensureCapacityInternal_d00df_5 x_vR rfl (pc2 := 6) rfl ?_
  refine x_getI xf_J5_22 (by decide) rfl dJ5_ensureCapacityInternal_d00df_6 (pc2 := 9) rfl (fun v3 => ?_)
  refine x_ishr dJ5_ensureCapacityInternal_d00df_9 (pc2 := 10) rfl ?_
  refine x_gnm (fun v4 => ?_)
  refine x_istore_n dJ5_ensureCapacityInternal_d00df_10 (by decide) (L2 := [some (x_v w t), some (.int a0), some (.int v4)]) rfl (pc2 := 11) rfl ?_
  refine x_iload_n dJ5_ensureCapacityInternal_d00df_11 rfl (pc2 := 12) rfl ?_
  refine x_iload_n dJ5_ensureCapacityInternal_d00df_12 rfl (pc2 := 13) rfl ?_
  refine x_isub dJ5_ensureCapacityInternal_d00df_13 (pc2 := 14) rfl ?_
  refine x_if_le dJ5_ensureCapacityInternal_d00df_14 (pc1 := 38) (pc2 := 17) rfl rfl (fun _ => ?_) (fun _ => ?_)
  · exact x_vret dJ5_ensureCapacityInternal_d00df_38
  · refine x_aload_n dJ5_ensureCapacityInternal_d00df_17 x_vR rfl (pc2 := 18) rfl ?_
    refine x_aload_n dJ5_ensureCapacityInternal_d00df_18 x_vR rfl (pc2 := 19) rfl ?_
    refine x_getR xf_J5_15 (by decide) rfl dJ5_ensureCapacityInternal_d00df_19 (pc2 := 22) rfl (fun o5 => ?_)
    refine x_aload_n dJ5_ensureCapacityInternal_d00df_22 x_vR rfl (pc2 := 23) rfl ?_
    refine x_iload_n dJ5_ensureCapacityInternal_d00df_23 rfl (pc2 := 24) rfl ?_
    refine x_oo (ci := 14) (fun hk8 => ?_)
    refine x_callUI (As := [.int a0]) C2_J5_newCapacity_0f7a4 xo_J5_newCapacity_0f7a4 xx_J5_newCapacity_0f7a4 xs_J5_newCapacity_0f7a4 xq_14 (fun h => by cases h) xl_J5_104 hk8 rfl rfl ⟨by decide, by decide⟩ (Nat.le_trans (x_sm x_vcat (x_sm x_vcat x_s0)) (by decide)) dJ5_ensureCapacityInternal_d00df_24 (pc2 := 27) rfl (fun r7 s6 => ?_) hop
    refine x_aload_n dJ5_ensureCapacityInternal_d00df_27 x_vR rfl (pc2 := 28) rfl ?_
    refine x_getI xf_J5_22 (by decide) rfl dJ5_ensureCapacityInternal_d00df_28 (pc2 := 31) rfl (fun v9 => ?_)
    refine x_ishl dJ5_ensureCapacityInternal_d00df_31 (pc2 := 32) rfl ?_
    refine x_callSR (As := [x_v w o5, .int (r7 <<< (v9 &&& 31))]) C2_J7_copyOf_9075b xm_J7_copyOf_9075b xl_J5_108 rfl rfl ⟨by decide, by decide⟩ (Nat.le_trans (x_sm x_vcat x_s0) (by decide)) dJ5_ensureCapacityInternal_d00df_32 (pc2 := 35) rfl (fun o11 s10 => ?_) hop
    refine x_putR (Or.inl xf_J5_15) (Or.inl rfl) rfl (x_nR (Or.inr ⟨_, rfl⟩)) dJ5_ensureCapacityInternal_d00df_35 (pc2 := 38) rfl (fun s12 => ?_)
    exact x_vret dJ5_ensureCapacityInternal_d00df_38
set_option maxRecDepth 100000 in
set_option maxHeartbeats 4000000 in
def F_J5_inflateIfNeededFor_a7421 (n : Nat) (t : Nat) (a0 : Nat) (s0 : x_U) : Option (Int32 × x_U) :=
  if (1 : Int32) = 0 then (
  some (0, s0))
  else (
  x_gi s0 t 14 1 fun v1 =>
  x_o s0 a0 13 <|
  x_call (F_J0_coder_7d493 n a0 s0) fun r3 s2 =>
  if v1 = r3 then (
  some (0, s2))
  else (
  none))
set_option maxRecDepth 100000 in
set_option maxHeartbeats 4000000 in
theorem C2_J5_inflateIfNeededFor_a7421 {l : Launch} {w : q_Wd} {n : Nat} {t : Nat} {a0 : Nat} {s0 : x_U} : x_C l w yJ5_inflateIfNeededFor_a7421 cJ5_inflateIfNeededFor_a7421 2 (none) 1 20 [x_v w t, x_v w a0] x_aV s0 (F_J5_inflateIfNeededFor_a7421 n t a0 s0) := x_CofG [some (x_v w t), some (x_v w a0)] (by decide +kernel) rfl (x_ca x_vcat (x_ca x_vcat x_c0)) (Nat.le_of_ble_eq_true rfl) fun hop cx hl => by
  subst hl
  show x_G w cx RJ5 "inflateIfNeededFor" cJ5_inflateIfNeededFor_a7421 2 (none) 1 20 (x_m s0) x_aV 0 [some (x_v w t), some (x_v w a0)] [] s0 _
  rw [F_J5_inflateIfNeededFor_a7421]
  refine x_gscmp xg_J5_18 dJ5_inflateIfNeededFor_a7421_0 (pc2 := 3) rfl ?_
  refine x_if_eq dJ5_inflateIfNeededFor_a7421_3 (pc1 := 21) (pc2 := 6) rfl rfl (fun _ => ?_) (fun _ => ?_)
  · exact x_vret dJ5_inflateIfNeededFor_a7421_21
  · refine x_aload_n dJ5_inflateIfNeededFor_a7421_6 x_vR rfl (pc2 := 7) rfl ?_
    refine x_getI xf_J5_22 (by decide) rfl dJ5_inflateIfNeededFor_a7421_7 (pc2 := 10) rfl (fun v1 => ?_)
    refine x_aload_n dJ5_inflateIfNeededFor_a7421_10 x_vR rfl (pc2 := 11) rfl ?_
    refine x_oo (ci := 13) (fun hk4 => ?_)
    refine x_callVI (As := []) C2_J0_coder_7d493 xm_J0_coder_7d493 (fun h => by first | rfl | cases h) xl_J5_40 hk4 rfl rfl ⟨by decide, by decide⟩ (Nat.le_trans (x_sm rfl x_s0) (by decide)) dJ5_inflateIfNeededFor_a7421_11 (pc2 := 14) rfl (fun r3 s2 => ?_) hop
    refine x_icmp_eq dJ5_inflateIfNeededFor_a7421_14 (pc1 := 21) (pc2 := 17) rfl rfl (fun _ => ?_) (fun _ => ?_)
    · exact x_vret dJ5_inflateIfNeededFor_a7421_21
    · exact x_none
set_option maxRecDepth 100000 in
set_option maxHeartbeats 4000000 in
def F_J0_getBytes_840e7 (n : Nat) (t : Nat) (a0 : Nat) (a1 : Int32) (a2 : Int32) (s0 : x_U) : Option (Int32 × x_U) :=
  x_o s0 t 13 <|
  x_call (F_J0_coder_7d493 n t s0) fun r2 s1 =>
  if r2 = a2 then (
  x_gr s1 t 13 0 fun o4 =>
  x_gr s1 t 13 0 fun o5 =>
  x_len s1 o5 fun v6 =>
  x_cp s1 o4 0 a0 (a1 <<< (a2 &&& 31)) v6 fun s7 =>
  some (0, s7))
  else (
  none)
set_option maxRecDepth 100000 in
set_option maxHeartbeats 4000000 in
theorem C2_J0_getBytes_840e7 {l : Launch} {w : q_Wd} {n : Nat} {t : Nat} {a0 : Nat} {a1 : Int32} {a2 : Int32} {s0 : x_U} : x_C l w yJ0_getBytes_840e7 cJ0_getBytes_840e7 4 (none) 1 80 [x_v w t, x_v w a0, .int a1, .int a2] x_aV s0 (F_J0_getBytes_840e7 n t a0 a1 a2 s0) := x_CofG [some (x_v w t), some (x_v w a0), some (.int a1), some (.int a2)] (by decide +kernel) rfl (x_ca x_vcat (x_ca x_vcat (x_ca rfl (x_ca rfl x_c0)))) (Nat.le_of_ble_eq_true rfl) fun hop cx hl => by
  subst hl
  show x_G w cx RJ0 "getBytes" cJ0_getBytes_840e7 4 (none) 1 80 (x_m s0) x_aV 0 [some (x_v w t), some (x_v w a0), some (.int a1), some (.int a2)] [] s0 _
  rw [F_J0_getBytes_840e7]
  refine x_aload_n dJ0_getBytes_840e7_0 x_vR rfl (pc2 := 1) rfl ?_
  refine x_oo (ci := 13) (fun hk3 => ?_)
  refine x_callVI (As := []) C2_J0_coder_7d493 xm_J0_coder_7d493 (fun h => by first | rfl | cases h) xl_J0_335 hk3 rfl rfl ⟨by decide, by decide⟩ (Nat.le_trans x_s0 (by decide)) dJ0_getBytes_840e7_1 (pc2 := 4) rfl (fun r2 s1 => ?_) hop
  refine x_iload_n dJ0_getBytes_840e7_4 rfl (pc2 := 5) rfl ?_
  refine x_icmp_ne dJ0_getBytes_840e7_5 (pc1 := 8) (pc2 := 28) rfl rfl (fun _ => ?_) (fun _ => ?_)
  · refine x_aload_n dJ0_getBytes_840e7_8 x_vR rfl (pc2 := 9) rfl ?_
    refine x_getSV rfl xf_J0_9 xg_J0_9 dJ0_getBytes_840e7_9 (pc2 := 12) rfl (fun o4 => ?_)
    refine x_iconst dJ0_getBytes_840e7_12 ic_0 (pc2 := 13) rfl ?_
    refine x_aload_n dJ0_getBytes_840e7_13 x_vR rfl (pc2 := 14) rfl ?_
    refine x_iload_n dJ0_getBytes_840e7_14 rfl (pc2 := 15) rfl ?_
    refine x_iload_n dJ0_getBytes_840e7_15 rfl (pc2 := 16) rfl ?_
    refine x_ishl dJ0_getBytes_840e7_16 (pc2 := 17) rfl ?_
    refine x_aload_n dJ0_getBytes_840e7_17 x_vR rfl (pc2 := 18) rfl ?_
    refine x_getSV rfl xf_J0_9 xg_J0_9 dJ0_getBytes_840e7_18 (pc2 := 21) rfl (fun o5 => ?_)
    refine x_alen dJ0_getBytes_840e7_21 (pc2 := 22) rfl (fun v6 => ?_)
    refine x_copyb (q_w_copy xl_J0_212) ⟨by decide, by decide +kernel⟩ (Nat.le_trans x_s0 (by decide)) dJ0_getBytes_840e7_22 (pc2 := 25) rfl (fun s7 => ?_)
    refine x_goto dJ0_getBytes_840e7_25 (pc2 := 43) rfl ?_
    exact x_vret dJ0_getBytes_840e7_43
  · exact x_none
set_option maxRecDepth 100000 in
set_option maxHeartbeats 4000000 in
def F_J5_putStringAt_47b60 (n : Nat) (t : Nat) (a0 : Int32) (a1 : Nat) (s0 : x_U) : Option (Int32 × x_U) :=
  x_o s0 t 14 <|
  x_call (F_J5_inflateIfNeededFor_a7421 n t a1 s0) fun r2 s1 =>
  x_gr s1 t 14 0 fun o4 =>
  x_gi s1 t 14 1 fun v5 =>
  x_o s1 a1 13 <|
  x_call (F_J0_getBytes_840e7 n a1 o4 a0 v5 s1) fun r7 s6 =>
  some (0, s6)
set_option maxRecDepth 100000 in
set_option maxHeartbeats 4000000 in
theorem C2_J5_putStringAt_47b60 {l : Launch} {w : q_Wd} {n : Nat} {t : Nat} {a0 : Int32} {a1 : Nat} {s0 : x_U} : x_C l w yJ5_putStringAt_47b60 cJ5_putStringAt_47b60 3 (none) 2 103 [x_v w t, .int a0, x_v w a1] x_aV s0 (F_J5_putStringAt_47b60 n t a0 a1 s0) := x_CofG [some (x_v w t), some (.int a0), some (x_v w a1)] (by decide +kernel) rfl (x_ca x_vcat (x_ca rfl (x_ca x_vcat x_c0))) (Nat.le_of_ble_eq_true rfl) fun hop cx hl => by
  subst hl
  show x_G w cx RJ5 "putStringAt" cJ5_putStringAt_47b60 3 (none) 2 103 (x_m s0) x_aV 0 [some (x_v w t), some (.int a0), some (x_v w a1)] [] s0 _
  rw [F_J5_putStringAt_47b60]
  refine x_aload_n dJ5_putStringAt_47b60_0 x_vR rfl (pc2 := 1) rfl ?_
  refine x_aload_n dJ5_putStringAt_47b60_1 x_vR rfl (pc2 := 2) rfl ?_
  refine x_oo (ci := 14) (fun hk3 => ?_)
  refine x_callUV (As := [x_v w a1]) C2_J5_inflateIfNeededFor_a7421 xo_J5_inflateIfNeededFor_a7421 xx_J5_inflateIfNeededFor_a7421 xs_J5_inflateIfNeededFor_a7421 xq_14 (fun h => by cases h) xl_J5_397 hk3 rfl rfl ⟨by decide, by decide⟩ (Nat.le_trans x_s0 (by decide)) dJ5_putStringAt_47b60_2 (pc2 := 5) rfl (fun r2 s1 => ?_) hop
  refine x_aload_n dJ5_putStringAt_47b60_5 x_vR rfl (pc2 := 6) rfl ?_
  refine x_aload_n dJ5_putStringAt_47b60_6 x_vR rfl (pc2 := 7) rfl ?_
  refine x_getR xf_J5_15 (by decide) rfl dJ5_putStringAt_47b60_7 (pc2 := 10) rfl (fun o4 => ?_)
  refine x_iload_n dJ5_putStringAt_47b60_10 rfl (pc2 := 11) rfl ?_
  refine x_aload_n dJ5_putStringAt_47b60_11 x_vR rfl (pc2 := 12) rfl ?_
  refine x_getI xf_J5_22 (by decide) rfl dJ5_putStringAt_47b60_12 (pc2 := 15) rfl (fun v5 => ?_)
  refine x_oo (ci := 13) (fun hk8 => ?_)
  refine x_callVV (As := [x_v w o4, .int a0, .int v5]) C2_J0_getBytes_840e7 xm_J0_getBytes_840e7 (fun h => by first | rfl | cases h) xl_J5_399 hk8 rfl rfl ⟨by decide, by decide⟩ (Nat.le_trans x_s0 (by decide)) dJ5_putStringAt_47b60_15 (pc2 := 18) rfl (fun r7 s6 => ?_) hop
  exact x_vret dJ5_putStringAt_47b60_18
set_option maxRecDepth 100000 in
set_option maxHeartbeats 4000000 in
def F_J5_append_cf1ce (n : Nat) (t : Nat) (a0 : Nat) (s0 : x_U) : Option (Nat × x_U) :=
  if a0 = 0 then (
  none)
  else (
  x_o s0 a0 13 <|
  x_call (F_J0_length_8abf5 n a0 s0) fun r2 s1 =>
  x_gi s1 t 14 3 fun v4 =>
  x_o s1 t 14 <|
  x_call (F_J5_ensureCapacityInternal_d00df n t (v4 + r2) s1) fun r6 s5 =>
  x_gi s5 t 14 3 fun v8 =>
  x_o s5 t 14 <|
  x_call (F_J5_putStringAt_47b60 n t v8 a0 s5) fun r10 s9 =>
  x_gi s9 t 14 3 fun v12 =>
  x_pi s9 t 14 3 (v12 + r2) fun s13 =>
  some (t, s13))
set_option maxRecDepth 100000 in
set_option maxHeartbeats 4000000 in
theorem C2_J5_append_cf1ce {l : Launch} {w : q_Wd} {n : Nat} {t : Nat} {a0 : Nat} {s0 : x_U} : x_C l w yJ5_append_cf1ce cJ5_append_cf1ce 3 (some (.object "java/lang/AbstractStringBuilder")) 4 125 [x_v w t, x_v w a0] (x_aR w) s0 (F_J5_append_cf1ce n t a0 s0) := x_CofG [some (x_v w t), some (x_v w a0), none] (by decide +kernel) rfl (x_ca x_vcat (x_ca x_vcat x_c0)) (Nat.le_of_ble_eq_true rfl) fun hop cx hl => by
  subst hl
  show x_G w cx RJ5 "append" cJ5_append_cf1ce 3 (some (.object "java/lang/AbstractStringBuilder")) 4 125 (x_m s0) (x_aR w) 0 [some (x_v w t), some (x_v w a0), none] [] s0 _
  rw [F_J5_append_cf1ce]
  refine x_aload_n dJ5_append_cf1ce_0 x_vR rfl (pc2 := 1) rfl ?_
  refine x_ifnonnull dJ5_append_cf1ce_1 (pc1 := 4) (pc2 := 9) rfl rfl (fun _ => ?_) (fun _ => ?_)
  · exact x_none
  · refine x_aload_n dJ5_append_cf1ce_9 x_vR rfl (pc2 := 10) rfl ?_
    refine x_oo (ci := 13) (fun hk3 => ?_)
    refine x_callVI (As := []) C2_J0_length_8abf5 xm_J0_length_8abf5 (fun h => by first | rfl | cases h) xl_J5_32 hk3 rfl rfl ⟨by decide, by decide⟩ (Nat.le_trans x_s0 (by decide)) dJ5_append_cf1ce_10 (pc2 := 13) rfl (fun r2 s1 => ?_) hop
    refine x_istore_n dJ5_append_cf1ce_13 (by decide) (L2 := [some (x_v w t), some (x_v w a0), some (.int r2)]) rfl (pc2 := 14) rfl ?_
    refine x_aload_n dJ5_append_cf1ce_14 x_vR rfl (pc2 := 15) rfl ?_
    refine x_aload_n dJ5_append_cf1ce_15 x_vR rfl (pc2 := 16) rfl ?_
    refine x_getI xf_J5_79 (by decide) rfl dJ5_append_cf1ce_16 (pc2 := 19) rfl (fun v4 => ?_)
    refine x_iload_n dJ5_append_cf1ce_19 rfl (pc2 := 20) rfl ?_
    refine x_iadd dJ5_append_cf1ce_20 (pc2 := 21) rfl ?_
    refine x_oo (ci := 14) (fun hk7 => ?_)
    refine x_callUV (As := [.int (v4 + r2)]) C2_J5_ensureCapacityInternal_d00df xo_J5_ensureCapacityInternal_d00df xx_J5_ensureCapacityInternal_d00df xs_J5_ensureCapacityInternal_d00df xq_14 (fun h => by cases h) xl_J5_100 hk7 rfl rfl ⟨by decide, by decide⟩ (Nat.le_trans x_s0 (by decide)) dJ5_append_cf1ce_21 (pc2 := 24) rfl (fun r6 s5 => ?_) hop
    refine x_aload_n dJ5_append_cf1ce_24 x_vR rfl (pc2 := 25) rfl ?_
    refine x_aload_n dJ5_append_cf1ce_25 x_vR rfl (pc2 := 26) rfl ?_
    refine x_getI xf_J5_79 (by decide) rfl dJ5_append_cf1ce_26 (pc2 := 29) rfl (fun v8 => ?_)
    refine x_aload_n dJ5_append_cf1ce_29 x_vR rfl (pc2 := 30) rfl ?_
    refine x_oo (ci := 14) (fun hk11 => ?_)
    refine x_callUV (As := [.int v8, x_v w a0]) C2_J5_putStringAt_47b60 xo_J5_putStringAt_47b60 xx_J5_putStringAt_47b60 xs_J5_putStringAt_47b60 xq_14 (fun h => by cases h) xl_J5_208 hk11 rfl rfl ⟨by decide, by decide⟩ (Nat.le_trans x_s0 (by decide)) dJ5_append_cf1ce_30 (pc2 := 33) rfl (fun r10 s9 => ?_) hop
    refine x_aload_n dJ5_append_cf1ce_33 x_vR rfl (pc2 := 34) rfl ?_
    refine x_dup dJ5_append_cf1ce_34 x_vcat (pc2 := 35) rfl ?_
    refine x_getI xf_J5_79 (by decide) rfl dJ5_append_cf1ce_35 (pc2 := 38) rfl (fun v12 => ?_)
    refine x_iload_n dJ5_append_cf1ce_38 rfl (pc2 := 39) rfl ?_
    refine x_iadd dJ5_append_cf1ce_39 (pc2 := 40) rfl ?_
    refine x_putI (Or.inl xf_J5_79) (Or.inl rfl) rfl rfl rfl dJ5_append_cf1ce_40 (pc2 := 43) rfl (fun s13 => ?_)
    refine x_aload_n dJ5_append_cf1ce_43 x_vR rfl (pc2 := 44) rfl ?_
    exact x_aret (Or.inl ⟨_, rfl⟩) dJ5_append_cf1ce_44
set_option maxRecDepth 100000 in
set_option maxHeartbeats 4000000 in
def F_J4_append_15ec4 (n : Nat) (t : Nat) (a0 : Nat) (s0 : x_U) : Option (Nat × x_U) :=
  x_o s0 t 14 <|
  x_call (F_J5_append_cf1ce n t a0 s0) fun o2 s1 =>
  some (t, s1)
set_option maxRecDepth 100000 in
set_option maxHeartbeats 4000000 in
theorem C2_J4_append_15ec4 {l : Launch} {w : q_Wd} {n : Nat} {t : Nat} {a0 : Nat} {s0 : x_U} : x_C l w yJ4_append_15ec4 cJ4_append_15ec4 2 (some (.object "java/lang/StringBuilder")) 5 147 [x_v w t, x_v w a0] (x_aR w) s0 (F_J4_append_15ec4 n t a0 s0) := x_CofG [some (x_v w t), some (x_v w a0)] (by decide +kernel) rfl (x_ca x_vcat (x_ca x_vcat x_c0)) (Nat.le_of_ble_eq_true rfl) fun hop cx hl => by
  subst hl
  show x_G w cx RJ4 "append" cJ4_append_15ec4 2 (some (.object "java/lang/StringBuilder")) 5 147 (x_m s0) (x_aR w) 0 [some (x_v w t), some (x_v w a0)] [] s0 _
  rw [F_J4_append_15ec4]
  refine x_aload_n dJ4_append_15ec4_0 x_vR rfl (pc2 := 1) rfl ?_
  refine x_aload_n dJ4_append_15ec4_1 x_vR rfl (pc2 := 2) rfl ?_
  refine x_oo (ci := 14) (fun hk3 => ?_)
  refine x_callSUR (As := [x_v w a0]) C2_J5_append_cf1ce xm_J5_append_cf1ce xu_J4 (by decide) xq_14 (fun h => by cases h) xl_J4_29 hk3 rfl rfl ⟨by decide, by decide⟩ (Nat.le_trans x_s0 (by decide)) dJ4_append_15ec4_2 (pc2 := 5) rfl (fun o2 s1 => ?_) hop
  refine x_pop dJ4_append_15ec4_5 x_vcat (pc2 := 6) rfl ?_
  refine x_aload_n dJ4_append_15ec4_6 x_vR rfl (pc2 := 7) rfl ?_
  exact x_aret (Or.inl ⟨_, rfl⟩) dJ4_append_15ec4_7
set_option maxRecDepth 100000 in
set_option maxHeartbeats 4000000 in
def F_J6_stringSize_0f7a4_L16 (n : Nat) (x0 : Int32) (x1 : Int32) : Nat → Int32 → Int32 → x_U → Option (Int32 × x_U)
  | 0, _, _, _ => none
  | j + 1, x2, x3, s0 =>
    if x3 < 10 then (
    if x0 ≤ x2 then (
    x_nm (10 * x2) fun v1 =>
    F_J6_stringSize_0f7a4_L16 n x0 x1 j v1 (x3 + 1) s0)
    else (
    some (x3 + x1, s0)))
    else (
    some (10 + x1, s0))
set_option maxRecDepth 100000 in
set_option maxHeartbeats 4000000 in
def F_J6_stringSize_0f7a4 (n : Nat) (a0 : Int32) (s0 : x_U) : Option (Int32 × x_U) :=
  if a0 < 0 then (
  F_J6_stringSize_0f7a4_L16 n a0 1  n (-10) 1 s0)
  else (
  x_nm (-a0) fun v2 =>
  F_J6_stringSize_0f7a4_L16 n v2 0  n (-10) 1 s0)
set_option maxRecDepth 100000 in
set_option maxHeartbeats 4000000 in
theorem T_J6_stringSize_0f7a4_L16 {w : q_Wd} {cx : q_Cx} {M0 : Nat} (hop : w.2.2.2.2.2.1 = none) {n : Nat} {x0 : Int32} {x1 : Int32}   :
    ∀ (j : Nat) (x2 : Int32) (x3 : Int32) (s0 : x_U), x_G w cx RJ6 "stringSize" cJ6_stringSize_0f7a4 4 (some .int) 0 0 M0 x_aI 16 [some (.int x0), some (.int x1), some (.int x2), some (.int x3)] [] s0 (F_J6_stringSize_0f7a4_L16 n x0 x1 j x2 x3 s0) := by
  intro j
  induction j with
  | zero =>
    intro _ _ _
    rw [F_J6_stringSize_0f7a4_L16]
    exact x_none
  | succ j ih =>
    intro x2 x3 s0
    rw [F_J6_stringSize_0f7a4_L16]
    refine x_iload_n dJ6_stringSize_0f7a4_16 rfl (pc2 := 17) rfl ?_
    refine x_bipush dJ6_stringSize_0f7a4_17 bp_10 (pc2 := 19) rfl ?_
    refine x_icmp_ge dJ6_stringSize_0f7a4_19 (pc1 := 22) (pc2 := 42) rfl rfl (fun _ => ?_) (fun _ => ?_)
    · refine x_iload_n dJ6_stringSize_0f7a4_22 rfl (pc2 := 23) rfl ?_
      refine x_iload_n dJ6_stringSize_0f7a4_23 rfl (pc2 := 24) rfl ?_
      refine x_icmp_le dJ6_stringSize_0f7a4_24 (pc1 := 31) (pc2 := 27) rfl rfl (fun _ => ?_) (fun _ => ?_)
      · refine x_bipush dJ6_stringSize_0f7a4_31 bp_10 (pc2 := 33) rfl ?_
        refine x_iload_n dJ6_stringSize_0f7a4_33 rfl (pc2 := 34) rfl ?_
        refine x_imul dJ6_stringSize_0f7a4_34 (pc2 := 35) rfl ?_
        refine x_gnm (fun v1 => ?_)
        refine x_istore_n dJ6_stringSize_0f7a4_35 (by decide) (L2 := [some (.int x0), some (.int x1), some (.int v1), some (.int x3)]) rfl (pc2 := 36) rfl ?_
        refine x_iinc dJ6_stringSize_0f7a4_36 rfl (q_ii ic_1) (by decide) (L2 := [some (.int x0), some (.int x1), some (.int v1), some (.int (x3 + 1))]) rfl (pc2 := 39) rfl ?_
        refine x_goto dJ6_stringSize_0f7a4_39 (pc2 := 16) rfl ?_
        exact ih _ _ _
      · refine x_iload_n dJ6_stringSize_0f7a4_27 rfl (pc2 := 28) rfl ?_
        refine x_iload_n dJ6_stringSize_0f7a4_28 rfl (pc2 := 29) rfl ?_
        refine x_iadd dJ6_stringSize_0f7a4_29 (pc2 := 30) rfl ?_
        exact x_iret dJ6_stringSize_0f7a4_30
    · refine x_bipush dJ6_stringSize_0f7a4_42 bp_10 (pc2 := 44) rfl ?_
      refine x_iload_n dJ6_stringSize_0f7a4_44 rfl (pc2 := 45) rfl ?_
      refine x_iadd dJ6_stringSize_0f7a4_45 (pc2 := 46) rfl ?_
      exact x_iret dJ6_stringSize_0f7a4_46
set_option maxRecDepth 100000 in
set_option maxHeartbeats 4000000 in
theorem C2_J6_stringSize_0f7a4 {l : Launch} {w : q_Wd} {n : Nat} {a0 : Int32} {s0 : x_U} : x_C l w yJ6_stringSize_0f7a4 cJ6_stringSize_0f7a4 4 (some .int) 0 0 [.int a0] x_aI s0 (F_J6_stringSize_0f7a4 n a0 s0) := x_CofG [some (.int a0), none, none, none] (by decide +kernel) rfl (x_ca rfl x_c0) (Nat.le_of_ble_eq_true rfl) fun hop cx hl => by
  subst hl
  show x_G w cx RJ6 "stringSize" cJ6_stringSize_0f7a4 4 (some .int) 0 0 (x_m s0) x_aI 0 [some (.int a0), none, none, none] [] s0 _
  rw [F_J6_stringSize_0f7a4]
  refine x_iconst dJ6_stringSize_0f7a4_0 ic_1 (pc2 := 1) rfl ?_
  refine x_istore_n dJ6_stringSize_0f7a4_1 (by decide) (L2 := [some (.int a0), some (.int 1), none, none]) rfl (pc2 := 2) rfl ?_
  refine x_iload_n dJ6_stringSize_0f7a4_2 rfl (pc2 := 3) rfl ?_
  refine x_if_lt dJ6_stringSize_0f7a4_3 (pc1 := 11) (pc2 := 6) rfl rfl (fun _ => ?_) (fun _ => ?_)
  · refine x_bipush dJ6_stringSize_0f7a4_11 bp_m10 (pc2 := 13) rfl ?_
    refine x_istore_n dJ6_stringSize_0f7a4_13 (by decide) (L2 := [some (.int a0), some (.int 1), some (.int (-10)), none]) rfl (pc2 := 14) rfl ?_
    refine x_iconst dJ6_stringSize_0f7a4_14 ic_1 (pc2 := 15) rfl ?_
    refine x_istore_n dJ6_stringSize_0f7a4_15 (by decide) (L2 := [some (.int a0), some (.int 1), some (.int (-10)), some (.int 1)]) rfl (pc2 := 16) rfl ?_
    refine T_J6_stringSize_0f7a4_L16 hop  n _ _ _
  · refine x_iconst dJ6_stringSize_0f7a4_6 ic_0 (pc2 := 7) rfl ?_
    refine x_istore_n dJ6_stringSize_0f7a4_7 (by decide) (L2 := [some (.int a0), some (.int 0), none, none]) rfl (pc2 := 8) rfl ?_
    refine x_iload_n dJ6_stringSize_0f7a4_8 rfl (pc2 := 9) rfl ?_
    refine x_ineg dJ6_stringSize_0f7a4_9 (pc2 := 10) rfl ?_
    refine x_gnm (fun v2 => ?_)
    refine x_istore_n dJ6_stringSize_0f7a4_10 (by decide) (L2 := [some (.int v2), some (.int 0), none, none]) rfl (pc2 := 11) rfl ?_
    refine x_bipush dJ6_stringSize_0f7a4_11 bp_m10 (pc2 := 13) rfl ?_
    refine x_istore_n dJ6_stringSize_0f7a4_13 (by decide) (L2 := [some (.int v2), some (.int 0), some (.int (-10)), none]) rfl (pc2 := 14) rfl ?_
    refine x_iconst dJ6_stringSize_0f7a4_14 ic_1 (pc2 := 15) rfl ?_
    refine x_istore_n dJ6_stringSize_0f7a4_15 (by decide) (L2 := [some (.int v2), some (.int 0), some (.int (-10)), some (.int 1)]) rfl (pc2 := 16) rfl ?_
    refine T_J6_stringSize_0f7a4_L16 hop  n _ _ _
set_option maxRecDepth 100000 in
set_option maxHeartbeats 4000000 in
def F_J5_isLatin1_aae02 (n : Nat) (t : Nat) (s0 : x_U) : Option (Int32 × x_U) :=
  if (1 : Int32) = 0 then (
  some (0, s0))
  else (
  x_gi s0 t 14 1 fun v1 =>
  if v1 = 0 then (
  some (1, s0))
  else (
  some (0, s0)))
set_option maxRecDepth 100000 in
set_option maxHeartbeats 4000000 in
theorem C2_J5_isLatin1_aae02 {l : Launch} {w : q_Wd} {n : Nat} {t : Nat} {s0 : x_U} : x_C l w yJ5_isLatin1_aae02 cJ5_isLatin1_aae02 1 (some .boolean) 0 0 [x_v w t] x_aI s0 (F_J5_isLatin1_aae02 n t s0) := x_CofG [some (x_v w t)] (by decide +kernel) rfl (x_ca x_vcat x_c0) (Nat.le_of_ble_eq_true rfl) fun hop cx hl => by
  subst hl
  show x_G w cx RJ5 "isLatin1" cJ5_isLatin1_aae02 1 (some .boolean) 0 0 (x_m s0) x_aI 0 [some (x_v w t)] [] s0 _
  rw [F_J5_isLatin1_aae02]
  refine x_gscmp xg_J5_18 dJ5_isLatin1_aae02_0 (pc2 := 3) rfl ?_
  refine x_if_eq dJ5_isLatin1_aae02_3 (pc1 := 17) (pc2 := 6) rfl rfl (fun _ => ?_) (fun _ => ?_)
  · refine x_iconst dJ5_isLatin1_aae02_17 ic_0 (pc2 := 18) rfl ?_
    exact x_nret rfl dJ5_isLatin1_aae02_18
  · refine x_aload_n dJ5_isLatin1_aae02_6 x_vR rfl (pc2 := 7) rfl ?_
    refine x_getI xf_J5_22 (by decide) rfl dJ5_isLatin1_aae02_7 (pc2 := 10) rfl (fun v1 => ?_)
    refine x_if_ne dJ5_isLatin1_aae02_10 (pc1 := 13) (pc2 := 17) rfl rfl (fun _ => ?_) (fun _ => ?_)
    · refine x_iconst dJ5_isLatin1_aae02_13 ic_1 (pc2 := 14) rfl ?_
      refine x_goto dJ5_isLatin1_aae02_14 (pc2 := 18) rfl ?_
      exact x_nret rfl dJ5_isLatin1_aae02_18
    · refine x_iconst dJ5_isLatin1_aae02_17 ic_0 (pc2 := 18) rfl ?_
      exact x_nret rfl dJ5_isLatin1_aae02_18
set_option maxRecDepth 100000 in
set_option maxHeartbeats 4000000 in
def F_J6_getChars_ba4f3_L22 (n : Nat) (x2 : Nat) (x6 : Int32) (k72 : Int32 → Int32 → x_U → Option (Int32 × x_U)) : Nat → Int32 → Int32 → x_U → Option (Int32 × x_U)
  | 0, _, _, _ => none
  | j + 1, x0, x5, s0 =>
    if x0 ≤ (-100) then (
    x_dv x0 100 fun v2 =>
    x_nm ((v2 * 100) - x0) fun v3 =>
    x_lb s0 (x_CT + 0) v3 fun v4 =>
    x_sb s0 x2 (x5 + (-1)) v4 fun s5 =>
    x_lb s5 (x_CT + 1) v3 fun v6 =>
    x_sb s5 x2 ((x5 + (-1)) + (-1)) v6 fun s7 =>
    F_J6_getChars_ba4f3_L22 n x2 x6 k72 j v2 ((x5 + (-1)) + (-1)) s7)
    else (
    k72 x0 x5 s0)
set_option maxRecDepth 100000 in
set_option maxHeartbeats 4000000 in
def F_J6_getChars_ba4f3 (n : Nat) (a0 : Int32) (a1 : Int32) (a2 : Nat) (s0 : x_U) : Option (Int32 × x_U) :=
  if a0 < 0 then (
  if (1 : Int32) = 0 then (
  x_nm (-a0) fun v1 =>
  F_J6_getChars_ba4f3_L22 n a2 1 (fun (y8 : Int32) (y9 : Int32) (s10 : x_U) =>
  x_lb s10 (x_CT + 0) (-y8) fun v11 =>
  x_sb s10 a2 (y9 + (-1)) v11 fun s12 =>
  x_nm (fun (y13 : Int32) (s14 : x_U) =>
    if (1 : Int32) = 0 then (
    some (y13, s14))
    else (
    x_sb s14 a2 (y13 + (-1)) 45 fun s15 =>
    some (y13 + (-1), s15))) fun j104 =>
  if y8 < (-9) then (
  x_lb s12 (x_CT + 1) (-y8) fun v16 =>
  x_sb s12 a2 ((y9 + (-1)) + (-1)) v16 fun s17 =>
  j104 ((y9 + (-1)) + (-1)) s17)
  else (
  j104 (y9 + (-1)) s12)) n v1 a1 s0)
  else (
  F_J6_getChars_ba4f3_L22 n a2 1 (fun (y24 : Int32) (y25 : Int32) (s26 : x_U) =>
  x_lb s26 (x_CT + 0) (-y24) fun v27 =>
  x_sb s26 a2 (y25 + (-1)) v27 fun s28 =>
  x_nm (fun (y29 : Int32) (s30 : x_U) =>
    if (1 : Int32) = 0 then (
    some (y29, s30))
    else (
    x_sb s30 a2 (y29 + (-1)) 45 fun s31 =>
    some (y29 + (-1), s31))) fun j104 =>
  if y24 < (-9) then (
  x_lb s28 (x_CT + 1) (-y24) fun v32 =>
  x_sb s28 a2 ((y25 + (-1)) + (-1)) v32 fun s33 =>
  j104 ((y25 + (-1)) + (-1)) s33)
  else (
  j104 (y25 + (-1)) s28)) n a0 a1 s0))
  else (
  if (0 : Int32) = 0 then (
  x_nm (-a0) fun v34 =>
  F_J6_getChars_ba4f3_L22 n a2 0 (fun (y41 : Int32) (y42 : Int32) (s43 : x_U) =>
  x_lb s43 (x_CT + 0) (-y41) fun v44 =>
  x_sb s43 a2 (y42 + (-1)) v44 fun s45 =>
  x_nm (fun (y46 : Int32) (s47 : x_U) =>
    if (0 : Int32) = 0 then (
    some (y46, s47))
    else (
    x_sb s47 a2 (y46 + (-1)) 45 fun s48 =>
    some (y46 + (-1), s48))) fun j104 =>
  if y41 < (-9) then (
  x_lb s45 (x_CT + 1) (-y41) fun v49 =>
  x_sb s45 a2 ((y42 + (-1)) + (-1)) v49 fun s50 =>
  j104 ((y42 + (-1)) + (-1)) s50)
  else (
  j104 (y42 + (-1)) s45)) n v34 a1 s0)
  else (
  F_J6_getChars_ba4f3_L22 n a2 0 (fun (y57 : Int32) (y58 : Int32) (s59 : x_U) =>
  x_lb s59 (x_CT + 0) (-y57) fun v60 =>
  x_sb s59 a2 (y58 + (-1)) v60 fun s61 =>
  x_nm (fun (y62 : Int32) (s63 : x_U) =>
    if (0 : Int32) = 0 then (
    some (y62, s63))
    else (
    x_sb s63 a2 (y62 + (-1)) 45 fun s64 =>
    some (y62 + (-1), s64))) fun j104 =>
  if y57 < (-9) then (
  x_lb s61 (x_CT + 1) (-y57) fun v65 =>
  x_sb s61 a2 ((y58 + (-1)) + (-1)) v65 fun s66 =>
  j104 ((y58 + (-1)) + (-1)) s66)
  else (
  j104 (y58 + (-1)) s61)) n a0 a1 s0))
set_option maxRecDepth 100000 in
set_option maxHeartbeats 4000000 in
theorem T_J6_getChars_ba4f3_L22 {w : q_Wd} {cx : q_Cx} {M0 : Nat} (hop : w.2.2.2.2.2.1 = none) {n : Nat} {x2 : Nat} {x6 : Int32} {k72 : Int32 → Int32 → x_U → Option (Int32 × x_U)} (hk72 : ∀ (y0 : Int32) (y5 : Int32) (s1 : x_U), x_G w cx RJ6 "getChars" cJ6_getChars_ba4f3 7 (some .int) 0 0 M0 x_aI 72 [some (.int y0), none, some (x_v w x2), none, none, some (.int y5), some (.int x6)] [] s1 (k72 y0 y5 s1)) :
    ∀ (j : Nat) (x0 : Int32) (x5 : Int32) (s0 : x_U), x_G w cx RJ6 "getChars" cJ6_getChars_ba4f3 7 (some .int) 0 0 M0 x_aI 22 [some (.int x0), none, some (x_v w x2), none, none, some (.int x5), some (.int x6)] [] s0 (F_J6_getChars_ba4f3_L22 n x2 x6 k72 j x0 x5 s0) := by
  intro j
  induction j with
  | zero =>
    intro _ _ _
    rw [F_J6_getChars_ba4f3_L22]
    exact x_none
  | succ j ih =>
    intro x0 x5 s0
    rw [F_J6_getChars_ba4f3_L22]
    refine x_iload_n dJ6_getChars_ba4f3_22 rfl (pc2 := 23) rfl ?_
    refine x_bipush dJ6_getChars_ba4f3_23 bp_m100 (pc2 := 25) rfl ?_
    refine x_icmp_gt dJ6_getChars_ba4f3_25 (pc1 := 28) (pc2 := 72) rfl rfl (fun _ => ?_) (fun _ => ?_)
    · refine x_iload_n dJ6_getChars_ba4f3_28 rfl (pc2 := 29) rfl ?_
      refine x_bipush dJ6_getChars_ba4f3_29 bp_100 (pc2 := 31) rfl ?_
      refine x_idiv dJ6_getChars_ba4f3_31 (pc2 := 32) rfl (fun v2 => ?_)
      refine x_istore_n dJ6_getChars_ba4f3_32 (by decide) (L2 := [some (.int x0), none, some (x_v w x2), some (.int v2), none, some (.int x5), some (.int x6)]) rfl (pc2 := 33) rfl ?_
      refine x_iload_n dJ6_getChars_ba4f3_33 rfl (pc2 := 34) rfl ?_
      refine x_bipush dJ6_getChars_ba4f3_34 bp_100 (pc2 := 36) rfl ?_
      refine x_imul dJ6_getChars_ba4f3_36 (pc2 := 37) rfl ?_
      refine x_iload_n dJ6_getChars_ba4f3_37 rfl (pc2 := 38) rfl ?_
      refine x_isub dJ6_getChars_ba4f3_38 (pc2 := 39) rfl ?_
      refine x_gnm (fun v3 => ?_)
      refine x_istore dJ6_getChars_ba4f3_39 (by decide) (L2 := [some (.int x0), none, some (x_v w x2), some (.int v2), some (.int v3), some (.int x5), some (.int x6)]) rfl (pc2 := 41) rfl ?_
      refine x_iload_n dJ6_getChars_ba4f3_41 rfl (pc2 := 42) rfl ?_
      refine x_istore_n dJ6_getChars_ba4f3_42 (by decide) (L2 := [some (.int v2), none, some (x_v w x2), some (.int v2), some (.int v3), some (.int x5), some (.int x6)]) rfl (pc2 := 43) rfl ?_
      refine x_aload_n dJ6_getChars_ba4f3_43 x_vR rfl (pc2 := 44) rfl ?_
      refine x_iinc dJ6_getChars_ba4f3_44 rfl (q_ii ic_m1) (by decide) (L2 := [some (.int v2), none, some (x_v w x2), some (.int v2), some (.int v3), some (.int (x5 + (-1))), some (.int x6)]) rfl (pc2 := 47) rfl ?_
      refine x_iload dJ6_getChars_ba4f3_47 rfl (pc2 := 49) rfl ?_
      refine x_gsdig (i := 0) (Or.inl ⟨rfl, rfl⟩) xg_J6_83 dJ6_getChars_ba4f3_49 (pc2 := 52) rfl ?_
      refine x_iload dJ6_getChars_ba4f3_52 rfl (pc2 := 54) rfl ?_
      refine x_bald dJ6_getChars_ba4f3_54 (pc2 := 55) rfl (fun v4 => ?_)
      refine x_bast dJ6_getChars_ba4f3_55 (pc2 := 56) rfl (fun s5 => ?_)
      refine x_aload_n dJ6_getChars_ba4f3_56 x_vR rfl (pc2 := 57) rfl ?_
      refine x_iinc dJ6_getChars_ba4f3_57 rfl (q_ii ic_m1) (by decide) (L2 := [some (.int v2), none, some (x_v w x2), some (.int v2), some (.int v3), some (.int ((x5 + (-1)) + (-1))), some (.int x6)]) rfl (pc2 := 60) rfl ?_
      refine x_iload dJ6_getChars_ba4f3_60 rfl (pc2 := 62) rfl ?_
      refine x_gsdig (i := 1) (Or.inr ⟨rfl, rfl⟩) xg_J6_87 dJ6_getChars_ba4f3_62 (pc2 := 65) rfl ?_
      refine x_iload dJ6_getChars_ba4f3_65 rfl (pc2 := 67) rfl ?_
      refine x_bald dJ6_getChars_ba4f3_67 (pc2 := 68) rfl (fun v6 => ?_)
      refine x_bast dJ6_getChars_ba4f3_68 (pc2 := 69) rfl (fun s7 => ?_)
      refine x_goto dJ6_getChars_ba4f3_69 (pc2 := 22) rfl ?_
      refine x_Gmask [true, true, true, false, false, true, true] (L2 := [some (.int v2), none, some (x_v w x2), none, none, some (.int ((x5 + (-1)) + (-1))), some (.int x6)]) rfl ?_
      exact ih _ _ _
    · exact hk72 _ _ _
set_option maxRecDepth 100000 in
set_option maxHeartbeats 4000000 in
theorem C2_J6_getChars_ba4f3 {l : Launch} {w : q_Wd} {n : Nat} {a0 : Int32} {a1 : Int32} {a2 : Nat} {s0 : x_U} : x_C l w yJ6_getChars_ba4f3 cJ6_getChars_ba4f3 7 (some .int) 0 0 [.int a0, .int a1, x_v w a2] x_aI s0 (F_J6_getChars_ba4f3 n a0 a1 a2 s0) := x_CofG [some (.int a0), some (.int a1), some (x_v w a2), none, none, none, none] (by decide +kernel) rfl (x_ca rfl (x_ca rfl (x_ca x_vcat x_c0))) (Nat.le_of_ble_eq_true rfl) fun hop cx hl => by
  subst hl
  show x_G w cx RJ6 "getChars" cJ6_getChars_ba4f3 7 (some .int) 0 0 (x_m s0) x_aI 0 [some (.int a0), some (.int a1), some (x_v w a2), none, none, none, none] [] s0 _
  rw [F_J6_getChars_ba4f3]
  refine x_iload_n dJ6_getChars_ba4f3_0 rfl (pc2 := 1) rfl ?_
  refine x_istore dJ6_getChars_ba4f3_1 (by decide) (L2 := [some (.int a0), some (.int a1), some (x_v w a2), none, none, some (.int a1), none]) rfl (pc2 := 3) rfl ?_
  refine x_iload_n dJ6_getChars_ba4f3_3 rfl (pc2 := 4) rfl ?_
  refine x_if_ge dJ6_getChars_ba4f3_4 (pc1 := 7) (pc2 := 11) rfl rfl (fun _ => ?_) (fun _ => ?_)
  · refine x_iconst dJ6_getChars_ba4f3_7 ic_1 (pc2 := 8) rfl ?_
    refine x_goto dJ6_getChars_ba4f3_8 (pc2 := 12) rfl ?_
    refine x_istore dJ6_getChars_ba4f3_12 (by decide) (L2 := [some (.int a0), some (.int a1), some (x_v w a2), none, none, some (.int a1), some (.int 1)]) rfl (pc2 := 14) rfl ?_
    refine x_iload dJ6_getChars_ba4f3_14 rfl (pc2 := 16) rfl ?_
    refine x_if_ne dJ6_getChars_ba4f3_16 (pc1 := 19) (pc2 := 22) rfl rfl (fun _ => ?_) (fun _ => ?_)
    · refine x_iload_n dJ6_getChars_ba4f3_19 rfl (pc2 := 20) rfl ?_
      refine x_ineg dJ6_getChars_ba4f3_20 (pc2 := 21) rfl ?_
      refine x_gnm (fun v1 => ?_)
      refine x_istore_n dJ6_getChars_ba4f3_21 (by decide) (L2 := [some (.int v1), some (.int a1), some (x_v w a2), none, none, some (.int a1), some (.int 1)]) rfl (pc2 := 22) rfl ?_
      refine x_Gmask [true, false, true, true, true, true, true] (L2 := [some (.int v1), none, some (x_v w a2), none, none, some (.int a1), some (.int 1)]) rfl ?_
      refine T_J6_getChars_ba4f3_L22 hop (fun y8 y9 s10 => ?_) n _ _ _
      refine x_aload_n dJ6_getChars_ba4f3_72 x_vR rfl (pc2 := 73) rfl ?_
      refine x_iinc dJ6_getChars_ba4f3_73 rfl (q_ii ic_m1) (by decide) (L2 := [some (.int y8), none, some (x_v w a2), none, none, some (.int (y9 + (-1))), some (.int 1)]) rfl (pc2 := 76) rfl ?_
      refine x_iload dJ6_getChars_ba4f3_76 rfl (pc2 := 78) rfl ?_
      refine x_gsdig (i := 0) (Or.inl ⟨rfl, rfl⟩) xg_J6_83 dJ6_getChars_ba4f3_78 (pc2 := 81) rfl ?_
      refine x_iload_n dJ6_getChars_ba4f3_81 rfl (pc2 := 82) rfl ?_
      refine x_ineg dJ6_getChars_ba4f3_82 (pc2 := 83) rfl ?_
      refine x_bald dJ6_getChars_ba4f3_83 (pc2 := 84) rfl (fun v11 => ?_)
      refine x_bast dJ6_getChars_ba4f3_84 (pc2 := 85) rfl (fun s12 => ?_)
      refine x_iload_n dJ6_getChars_ba4f3_85 rfl (pc2 := 86) rfl ?_
      refine x_bipush dJ6_getChars_ba4f3_86 bp_m9 (pc2 := 88) rfl ?_
      refine x_jn (P := fun j104 => ∀ (y13 : Int32) (s14 : x_U), x_G w cx RJ6 "getChars" cJ6_getChars_ba4f3 7 (some .int) 0 0 (x_m s0) x_aI 104 [none, none, some (x_v w a2), none, none, some (.int y13), some (.int 1)] [] s14 (j104 y13 s14)) (fun y13 s14 => ?_) (fun j104 hj104 => ?_)
      · refine x_iload dJ6_getChars_ba4f3_104 rfl (pc2 := 106) rfl ?_
        refine x_if_eq dJ6_getChars_ba4f3_106 (pc1 := 118) (pc2 := 109) rfl rfl (fun _ => ?_) (fun _ => ?_)
        · refine x_iload dJ6_getChars_ba4f3_118 rfl (pc2 := 120) rfl ?_
          exact x_iret dJ6_getChars_ba4f3_120
        · refine x_aload_n dJ6_getChars_ba4f3_109 x_vR rfl (pc2 := 110) rfl ?_
          refine x_iinc dJ6_getChars_ba4f3_110 rfl (q_ii ic_m1) (by decide) (L2 := [none, none, some (x_v w a2), none, none, some (.int (y13 + (-1))), some (.int 1)]) rfl (pc2 := 113) rfl ?_
          refine x_iload dJ6_getChars_ba4f3_113 rfl (pc2 := 115) rfl ?_
          refine x_bipush dJ6_getChars_ba4f3_115 bp_45 (pc2 := 117) rfl ?_
          refine x_bast dJ6_getChars_ba4f3_117 (pc2 := 118) rfl (fun s15 => ?_)
          refine x_iload dJ6_getChars_ba4f3_118 rfl (pc2 := 120) rfl ?_
          exact x_iret dJ6_getChars_ba4f3_120
      · refine x_icmp_ge dJ6_getChars_ba4f3_88 (pc1 := 91) (pc2 := 104) rfl rfl (fun _ => ?_) (fun _ => ?_)
        · refine x_aload_n dJ6_getChars_ba4f3_91 x_vR rfl (pc2 := 92) rfl ?_
          refine x_iinc dJ6_getChars_ba4f3_92 rfl (q_ii ic_m1) (by decide) (L2 := [some (.int y8), none, some (x_v w a2), none, none, some (.int ((y9 + (-1)) + (-1))), some (.int 1)]) rfl (pc2 := 95) rfl ?_
          refine x_iload dJ6_getChars_ba4f3_95 rfl (pc2 := 97) rfl ?_
          refine x_gsdig (i := 1) (Or.inr ⟨rfl, rfl⟩) xg_J6_87 dJ6_getChars_ba4f3_97 (pc2 := 100) rfl ?_
          refine x_iload_n dJ6_getChars_ba4f3_100 rfl (pc2 := 101) rfl ?_
          refine x_ineg dJ6_getChars_ba4f3_101 (pc2 := 102) rfl ?_
          refine x_bald dJ6_getChars_ba4f3_102 (pc2 := 103) rfl (fun v16 => ?_)
          refine x_bast dJ6_getChars_ba4f3_103 (pc2 := 104) rfl (fun s17 => ?_)
          refine x_Gmask [false, true, true, true, true, true, true] (L2 := [none, none, some (x_v w a2), none, none, some (.int ((y9 + (-1)) + (-1))), some (.int 1)]) rfl ?_
          exact hj104 _ _
        · refine x_Gmask [false, true, true, true, true, true, true] (L2 := [none, none, some (x_v w a2), none, none, some (.int (y9 + (-1))), some (.int 1)]) rfl ?_
          exact hj104 _ _
    · refine x_Gmask [true, false, true, true, true, true, true] (L2 := [some (.int a0), none, some (x_v w a2), none, none, some (.int a1), some (.int 1)]) rfl ?_
      refine T_J6_getChars_ba4f3_L22 hop (fun y24 y25 s26 => ?_) n _ _ _
      refine x_aload_n dJ6_getChars_ba4f3_72 x_vR rfl (pc2 := 73) rfl ?_
      refine x_iinc dJ6_getChars_ba4f3_73 rfl (q_ii ic_m1) (by decide) (L2 := [some (.int y24), none, some (x_v w a2), none, none, some (.int (y25 + (-1))), some (.int 1)]) rfl (pc2 := 76) rfl ?_
      refine x_iload dJ6_getChars_ba4f3_76 rfl (pc2 := 78) rfl ?_
      refine x_gsdig (i := 0) (Or.inl ⟨rfl, rfl⟩) xg_J6_83 dJ6_getChars_ba4f3_78 (pc2 := 81) rfl ?_
      refine x_iload_n dJ6_getChars_ba4f3_81 rfl (pc2 := 82) rfl ?_
      refine x_ineg dJ6_getChars_ba4f3_82 (pc2 := 83) rfl ?_
      refine x_bald dJ6_getChars_ba4f3_83 (pc2 := 84) rfl (fun v27 => ?_)
      refine x_bast dJ6_getChars_ba4f3_84 (pc2 := 85) rfl (fun s28 => ?_)
      refine x_iload_n dJ6_getChars_ba4f3_85 rfl (pc2 := 86) rfl ?_
      refine x_bipush dJ6_getChars_ba4f3_86 bp_m9 (pc2 := 88) rfl ?_
      refine x_jn (P := fun j104 => ∀ (y29 : Int32) (s30 : x_U), x_G w cx RJ6 "getChars" cJ6_getChars_ba4f3 7 (some .int) 0 0 (x_m s0) x_aI 104 [none, none, some (x_v w a2), none, none, some (.int y29), some (.int 1)] [] s30 (j104 y29 s30)) (fun y29 s30 => ?_) (fun j104 hj104 => ?_)
      · refine x_iload dJ6_getChars_ba4f3_104 rfl (pc2 := 106) rfl ?_
        refine x_if_eq dJ6_getChars_ba4f3_106 (pc1 := 118) (pc2 := 109) rfl rfl (fun _ => ?_) (fun _ => ?_)
        · refine x_iload dJ6_getChars_ba4f3_118 rfl (pc2 := 120) rfl ?_
          exact x_iret dJ6_getChars_ba4f3_120
        · refine x_aload_n dJ6_getChars_ba4f3_109 x_vR rfl (pc2 := 110) rfl ?_
          refine x_iinc dJ6_getChars_ba4f3_110 rfl (q_ii ic_m1) (by decide) (L2 := [none, none, some (x_v w a2), none, none, some (.int (y29 + (-1))), some (.int 1)]) rfl (pc2 := 113) rfl ?_
          refine x_iload dJ6_getChars_ba4f3_113 rfl (pc2 := 115) rfl ?_
          refine x_bipush dJ6_getChars_ba4f3_115 bp_45 (pc2 := 117) rfl ?_
          refine x_bast dJ6_getChars_ba4f3_117 (pc2 := 118) rfl (fun s31 => ?_)
          refine x_iload dJ6_getChars_ba4f3_118 rfl (pc2 := 120) rfl ?_
          exact x_iret dJ6_getChars_ba4f3_120
      · refine x_icmp_ge dJ6_getChars_ba4f3_88 (pc1 := 91) (pc2 := 104) rfl rfl (fun _ => ?_) (fun _ => ?_)
        · refine x_aload_n dJ6_getChars_ba4f3_91 x_vR rfl (pc2 := 92) rfl ?_
          refine x_iinc dJ6_getChars_ba4f3_92 rfl (q_ii ic_m1) (by decide) (L2 := [some (.int y24), none, some (x_v w a2), none, none, some (.int ((y25 + (-1)) + (-1))), some (.int 1)]) rfl (pc2 := 95) rfl ?_
          refine x_iload dJ6_getChars_ba4f3_95 rfl (pc2 := 97) rfl ?_
          refine x_gsdig (i := 1) (Or.inr ⟨rfl, rfl⟩) xg_J6_87 dJ6_getChars_ba4f3_97 (pc2 := 100) rfl ?_
          refine x_iload_n dJ6_getChars_ba4f3_100 rfl (pc2 := 101) rfl ?_
          refine x_ineg dJ6_getChars_ba4f3_101 (pc2 := 102) rfl ?_
          refine x_bald dJ6_getChars_ba4f3_102 (pc2 := 103) rfl (fun v32 => ?_)
          refine x_bast dJ6_getChars_ba4f3_103 (pc2 := 104) rfl (fun s33 => ?_)
          refine x_Gmask [false, true, true, true, true, true, true] (L2 := [none, none, some (x_v w a2), none, none, some (.int ((y25 + (-1)) + (-1))), some (.int 1)]) rfl ?_
          exact hj104 _ _
        · refine x_Gmask [false, true, true, true, true, true, true] (L2 := [none, none, some (x_v w a2), none, none, some (.int (y25 + (-1))), some (.int 1)]) rfl ?_
          exact hj104 _ _
  · refine x_iconst dJ6_getChars_ba4f3_11 ic_0 (pc2 := 12) rfl ?_
    refine x_istore dJ6_getChars_ba4f3_12 (by decide) (L2 := [some (.int a0), some (.int a1), some (x_v w a2), none, none, some (.int a1), some (.int 0)]) rfl (pc2 := 14) rfl ?_
    refine x_iload dJ6_getChars_ba4f3_14 rfl (pc2 := 16) rfl ?_
    refine x_if_ne dJ6_getChars_ba4f3_16 (pc1 := 19) (pc2 := 22) rfl rfl (fun _ => ?_) (fun _ => ?_)
    · refine x_iload_n dJ6_getChars_ba4f3_19 rfl (pc2 := 20) rfl ?_
      refine x_ineg dJ6_getChars_ba4f3_20 (pc2 := 21) rfl ?_
      refine x_gnm (fun v34 => ?_)
      refine x_istore_n dJ6_getChars_ba4f3_21 (by decide) (L2 := [some (.int v34), some (.int a1), some (x_v w a2), none, none, some (.int a1), some (.int 0)]) rfl (pc2 := 22) rfl ?_
      refine x_Gmask [true, false, true, true, true, true, true] (L2 := [some (.int v34), none, some (x_v w a2), none, none, some (.int a1), some (.int 0)]) rfl ?_
      refine T_J6_getChars_ba4f3_L22 hop (fun y41 y42 s43 => ?_) n _ _ _
      refine x_aload_n dJ6_getChars_ba4f3_72 x_vR rfl (pc2 := 73) rfl ?_
      refine x_iinc dJ6_getChars_ba4f3_73 rfl (q_ii ic_m1) (by decide) (L2 := [some (.int y41), none, some (x_v w a2), none, none, some (.int (y42 + (-1))), some (.int 0)]) rfl (pc2 := 76) rfl ?_
      refine x_iload dJ6_getChars_ba4f3_76 rfl (pc2 := 78) rfl ?_
      refine x_gsdig (i := 0) (Or.inl ⟨rfl, rfl⟩) xg_J6_83 dJ6_getChars_ba4f3_78 (pc2 := 81) rfl ?_
      refine x_iload_n dJ6_getChars_ba4f3_81 rfl (pc2 := 82) rfl ?_
      refine x_ineg dJ6_getChars_ba4f3_82 (pc2 := 83) rfl ?_
      refine x_bald dJ6_getChars_ba4f3_83 (pc2 := 84) rfl (fun v44 => ?_)
      refine x_bast dJ6_getChars_ba4f3_84 (pc2 := 85) rfl (fun s45 => ?_)
      refine x_iload_n dJ6_getChars_ba4f3_85 rfl (pc2 := 86) rfl ?_
      refine x_bipush dJ6_getChars_ba4f3_86 bp_m9 (pc2 := 88) rfl ?_
      refine x_jn (P := fun j104 => ∀ (y46 : Int32) (s47 : x_U), x_G w cx RJ6 "getChars" cJ6_getChars_ba4f3 7 (some .int) 0 0 (x_m s0) x_aI 104 [none, none, some (x_v w a2), none, none, some (.int y46), some (.int 0)] [] s47 (j104 y46 s47)) (fun y46 s47 => ?_) (fun j104 hj104 => ?_)
      · refine x_iload dJ6_getChars_ba4f3_104 rfl (pc2 := 106) rfl ?_
        refine x_if_eq dJ6_getChars_ba4f3_106 (pc1 := 118) (pc2 := 109) rfl rfl (fun _ => ?_) (fun _ => ?_)
        · refine x_iload dJ6_getChars_ba4f3_118 rfl (pc2 := 120) rfl ?_
          exact x_iret dJ6_getChars_ba4f3_120
        · refine x_aload_n dJ6_getChars_ba4f3_109 x_vR rfl (pc2 := 110) rfl ?_
          refine x_iinc dJ6_getChars_ba4f3_110 rfl (q_ii ic_m1) (by decide) (L2 := [none, none, some (x_v w a2), none, none, some (.int (y46 + (-1))), some (.int 0)]) rfl (pc2 := 113) rfl ?_
          refine x_iload dJ6_getChars_ba4f3_113 rfl (pc2 := 115) rfl ?_
          refine x_bipush dJ6_getChars_ba4f3_115 bp_45 (pc2 := 117) rfl ?_
          refine x_bast dJ6_getChars_ba4f3_117 (pc2 := 118) rfl (fun s48 => ?_)
          refine x_iload dJ6_getChars_ba4f3_118 rfl (pc2 := 120) rfl ?_
          exact x_iret dJ6_getChars_ba4f3_120
      · refine x_icmp_ge dJ6_getChars_ba4f3_88 (pc1 := 91) (pc2 := 104) rfl rfl (fun _ => ?_) (fun _ => ?_)
        · refine x_aload_n dJ6_getChars_ba4f3_91 x_vR rfl (pc2 := 92) rfl ?_
          refine x_iinc dJ6_getChars_ba4f3_92 rfl (q_ii ic_m1) (by decide) (L2 := [some (.int y41), none, some (x_v w a2), none, none, some (.int ((y42 + (-1)) + (-1))), some (.int 0)]) rfl (pc2 := 95) rfl ?_
          refine x_iload dJ6_getChars_ba4f3_95 rfl (pc2 := 97) rfl ?_
          refine x_gsdig (i := 1) (Or.inr ⟨rfl, rfl⟩) xg_J6_87 dJ6_getChars_ba4f3_97 (pc2 := 100) rfl ?_
          refine x_iload_n dJ6_getChars_ba4f3_100 rfl (pc2 := 101) rfl ?_
          refine x_ineg dJ6_getChars_ba4f3_101 (pc2 := 102) rfl ?_
          refine x_bald dJ6_getChars_ba4f3_102 (pc2 := 103) rfl (fun v49 => ?_)
          refine x_bast dJ6_getChars_ba4f3_103 (pc2 := 104) rfl (fun s50 => ?_)
          refine x_Gmask [false, true, true, true, true, true, true] (L2 := [none, none, some (x_v w a2), none, none, some (.int ((y42 + (-1)) + (-1))), some (.int 0)]) rfl ?_
          exact hj104 _ _
        · refine x_Gmask [false, true, true, true, true, true, true] (L2 := [none, none, some (x_v w a2), none, none, some (.int (y42 + (-1))), some (.int 0)]) rfl ?_
          exact hj104 _ _
    · refine x_Gmask [true, false, true, true, true, true, true] (L2 := [some (.int a0), none, some (x_v w a2), none, none, some (.int a1), some (.int 0)]) rfl ?_
      refine T_J6_getChars_ba4f3_L22 hop (fun y57 y58 s59 => ?_) n _ _ _
      refine x_aload_n dJ6_getChars_ba4f3_72 x_vR rfl (pc2 := 73) rfl ?_
      refine x_iinc dJ6_getChars_ba4f3_73 rfl (q_ii ic_m1) (by decide) (L2 := [some (.int y57), none, some (x_v w a2), none, none, some (.int (y58 + (-1))), some (.int 0)]) rfl (pc2 := 76) rfl ?_
      refine x_iload dJ6_getChars_ba4f3_76 rfl (pc2 := 78) rfl ?_
      refine x_gsdig (i := 0) (Or.inl ⟨rfl, rfl⟩) xg_J6_83 dJ6_getChars_ba4f3_78 (pc2 := 81) rfl ?_
      refine x_iload_n dJ6_getChars_ba4f3_81 rfl (pc2 := 82) rfl ?_
      refine x_ineg dJ6_getChars_ba4f3_82 (pc2 := 83) rfl ?_
      refine x_bald dJ6_getChars_ba4f3_83 (pc2 := 84) rfl (fun v60 => ?_)
      refine x_bast dJ6_getChars_ba4f3_84 (pc2 := 85) rfl (fun s61 => ?_)
      refine x_iload_n dJ6_getChars_ba4f3_85 rfl (pc2 := 86) rfl ?_
      refine x_bipush dJ6_getChars_ba4f3_86 bp_m9 (pc2 := 88) rfl ?_
      refine x_jn (P := fun j104 => ∀ (y62 : Int32) (s63 : x_U), x_G w cx RJ6 "getChars" cJ6_getChars_ba4f3 7 (some .int) 0 0 (x_m s0) x_aI 104 [none, none, some (x_v w a2), none, none, some (.int y62), some (.int 0)] [] s63 (j104 y62 s63)) (fun y62 s63 => ?_) (fun j104 hj104 => ?_)
      · refine x_iload dJ6_getChars_ba4f3_104 rfl (pc2 := 106) rfl ?_
        refine x_if_eq dJ6_getChars_ba4f3_106 (pc1 := 118) (pc2 := 109) rfl rfl (fun _ => ?_) (fun _ => ?_)
        · refine x_iload dJ6_getChars_ba4f3_118 rfl (pc2 := 120) rfl ?_
          exact x_iret dJ6_getChars_ba4f3_120
        · refine x_aload_n dJ6_getChars_ba4f3_109 x_vR rfl (pc2 := 110) rfl ?_
          refine x_iinc dJ6_getChars_ba4f3_110 rfl (q_ii ic_m1) (by decide) (L2 := [none, none, some (x_v w a2), none, none, some (.int (y62 + (-1))), some (.int 0)]) rfl (pc2 := 113) rfl ?_
          refine x_iload dJ6_getChars_ba4f3_113 rfl (pc2 := 115) rfl ?_
          refine x_bipush dJ6_getChars_ba4f3_115 bp_45 (pc2 := 117) rfl ?_
          refine x_bast dJ6_getChars_ba4f3_117 (pc2 := 118) rfl (fun s64 => ?_)
          refine x_iload dJ6_getChars_ba4f3_118 rfl (pc2 := 120) rfl ?_
          exact x_iret dJ6_getChars_ba4f3_120
      · refine x_icmp_ge dJ6_getChars_ba4f3_88 (pc1 := 91) (pc2 := 104) rfl rfl (fun _ => ?_) (fun _ => ?_)
        · refine x_aload_n dJ6_getChars_ba4f3_91 x_vR rfl (pc2 := 92) rfl ?_
          refine x_iinc dJ6_getChars_ba4f3_92 rfl (q_ii ic_m1) (by decide) (L2 := [some (.int y57), none, some (x_v w a2), none, none, some (.int ((y58 + (-1)) + (-1))), some (.int 0)]) rfl (pc2 := 95) rfl ?_
          refine x_iload dJ6_getChars_ba4f3_95 rfl (pc2 := 97) rfl ?_
          refine x_gsdig (i := 1) (Or.inr ⟨rfl, rfl⟩) xg_J6_87 dJ6_getChars_ba4f3_97 (pc2 := 100) rfl ?_
          refine x_iload_n dJ6_getChars_ba4f3_100 rfl (pc2 := 101) rfl ?_
          refine x_ineg dJ6_getChars_ba4f3_101 (pc2 := 102) rfl ?_
          refine x_bald dJ6_getChars_ba4f3_102 (pc2 := 103) rfl (fun v65 => ?_)
          refine x_bast dJ6_getChars_ba4f3_103 (pc2 := 104) rfl (fun s66 => ?_)
          refine x_Gmask [false, true, true, true, true, true, true] (L2 := [none, none, some (x_v w a2), none, none, some (.int ((y58 + (-1)) + (-1))), some (.int 0)]) rfl ?_
          exact hj104 _ _
        · refine x_Gmask [false, true, true, true, true, true, true] (L2 := [none, none, some (x_v w a2), none, none, some (.int (y58 + (-1))), some (.int 0)]) rfl ?_
          exact hj104 _ _
set_option maxRecDepth 100000 in
set_option maxHeartbeats 4000000 in
def F_J5_append_c97b9 (n : Nat) (t : Nat) (a0 : Int32) (s0 : x_U) : Option (Nat × x_U) :=
  x_gi s0 t 14 3 fun v1 =>
  x_call (F_J6_stringSize_0f7a4 n a0 s0) fun r3 s2 =>
  x_nm (v1 + r3) fun v4 =>
  x_o s2 t 14 <|
  x_call (F_J5_ensureCapacityInternal_d00df n t v4 s2) fun r6 s5 =>
  x_o s5 t 14 <|
  x_call (F_J5_isLatin1_aae02 n t s5) fun r9 s8 =>
  if r9 = 0 then (
  none)
  else (
  x_gr s8 t 14 0 fun o12 =>
  x_call (F_J6_getChars_ba4f3 n a0 v4 o12 s8) fun r14 s13 =>
  x_pi s13 t 14 3 v4 fun s15 =>
  some (t, s15))
set_option maxRecDepth 100000 in
set_option maxHeartbeats 4000000 in
theorem C2_J5_append_c97b9 {l : Launch} {w : q_Wd} {n : Nat} {t : Nat} {a0 : Int32} {s0 : x_U} : x_C l w yJ5_append_c97b9 cJ5_append_c97b9 4 (some (.object "java/lang/AbstractStringBuilder")) 4 124 [x_v w t, .int a0] (x_aR w) s0 (F_J5_append_c97b9 n t a0 s0) := x_CofG [some (x_v w t), some (.int a0), none, none] (by decide +kernel) rfl (x_ca x_vcat (x_ca rfl x_c0)) (Nat.le_of_ble_eq_true rfl) fun hop cx hl => by
  subst hl
  show x_G w cx RJ5 "append" cJ5_append_c97b9 4 (some (.object "java/lang/AbstractStringBuilder")) 4 124 (x_m s0) (x_aR w) 0 [some (x_v w t), some (.int a0), none, none] [] s0 _
  rw [F_J5_append_c97b9]
  refine x_aload_n dJ5_append_c97b9_0 x_vR rfl (pc2 := 1) rfl ?_
  refine x_getI xf_J5_79 (by decide) rfl dJ5_append_c97b9_1 (pc2 := 4) rfl (fun v1 => ?_)
  refine x_istore_n dJ5_append_c97b9_4 (by decide) (L2 := [some (x_v w t), some (.int a0), some (.int v1), none]) rfl (pc2 := 5) rfl ?_
  refine x_iload_n dJ5_append_c97b9_5 rfl (pc2 := 6) rfl ?_
  refine x_iload_n dJ5_append_c97b9_6 rfl (pc2 := 7) rfl ?_
  refine x_callSI (As := [.int a0]) C2_J6_stringSize_0f7a4 xm_J6_stringSize_0f7a4 xl_J5_245 rfl rfl ⟨by decide, by decide⟩ (Nat.le_trans (x_sm rfl x_s0) (by decide)) dJ5_append_c97b9_7 (pc2 := 10) rfl (fun r3 s2 => ?_) hop
  refine x_iadd dJ5_append_c97b9_10 (pc2 := 11) rfl ?_
  refine x_gnm (fun v4 => ?_)
  refine x_istore_n dJ5_append_c97b9_11 (by decide) (L2 := [some (x_v w t), some (.int a0), some (.int v1), some (.int v4)]) rfl (pc2 := 12) rfl ?_
  refine x_aload_n dJ5_append_c97b9_12 x_vR rfl (pc2 := 13) rfl ?_
  refine x_iload_n dJ5_append_c97b9_13 rfl (pc2 := 14) rfl ?_
  refine x_oo (ci := 14) (fun hk7 => ?_)
  refine x_callUV (As := [.int v4]) C2_J5_ensureCapacityInternal_d00df xo_J5_ensureCapacityInternal_d00df xx_J5_ensureCapacityInternal_d00df xs_J5_ensureCapacityInternal_d00df xq_14 (fun h => by cases h) xl_J5_100 hk7 rfl rfl ⟨by decide, by decide⟩ (Nat.le_trans x_s0 (by decide)) dJ5_append_c97b9_14 (pc2 := 17) rfl (fun r6 s5 => ?_) hop
  refine x_aload_n dJ5_append_c97b9_17 x_vR rfl (pc2 := 18) rfl ?_
  refine x_oo (ci := 14) (fun hk10 => ?_)
  refine x_callUI (As := []) C2_J5_isLatin1_aae02 xo_J5_isLatin1_aae02 xx_J5_isLatin1_aae02 xs_J5_isLatin1_aae02 xq_14 (fun h => by cases h) xl_J5_83 hk10 rfl rfl ⟨by decide, by decide⟩ (Nat.le_trans x_s0 (by decide)) dJ5_append_c97b9_18 (pc2 := 21) rfl (fun r9 s8 => ?_) hop
  refine x_if_eq dJ5_append_c97b9_21 (pc1 := 37) (pc2 := 24) rfl rfl (fun _ => ?_) (fun _ => ?_)
  · exact x_none
  · refine x_iload_n dJ5_append_c97b9_24 rfl (pc2 := 25) rfl ?_
    refine x_iload_n dJ5_append_c97b9_25 rfl (pc2 := 26) rfl ?_
    refine x_aload_n dJ5_append_c97b9_26 x_vR rfl (pc2 := 27) rfl ?_
    refine x_getR xf_J5_15 (by decide) rfl dJ5_append_c97b9_27 (pc2 := 30) rfl (fun o12 => ?_)
    refine x_callSI (As := [.int a0, .int v4, x_v w o12]) C2_J6_getChars_ba4f3 xm_J6_getChars_ba4f3 xl_J5_248 rfl rfl ⟨by decide, by decide⟩ (Nat.le_trans x_s0 (by decide)) dJ5_append_c97b9_30 (pc2 := 33) rfl (fun r14 s13 => ?_) hop
    refine x_pop dJ5_append_c97b9_33 rfl (pc2 := 34) rfl ?_
    refine x_goto dJ5_append_c97b9_34 (pc2 := 48) rfl ?_
    refine x_aload_n dJ5_append_c97b9_48 x_vR rfl (pc2 := 49) rfl ?_
    refine x_iload_n dJ5_append_c97b9_49 rfl (pc2 := 50) rfl ?_
    refine x_putI (Or.inl xf_J5_79) (Or.inl rfl) rfl rfl rfl dJ5_append_c97b9_50 (pc2 := 53) rfl (fun s15 => ?_)
    refine x_aload_n dJ5_append_c97b9_53 x_vR rfl (pc2 := 54) rfl ?_
    exact x_aret (Or.inl ⟨_, rfl⟩) dJ5_append_c97b9_54
set_option maxRecDepth 100000 in
set_option maxHeartbeats 4000000 in
def F_J4_append_bf812 (n : Nat) (t : Nat) (a0 : Int32) (s0 : x_U) : Option (Nat × x_U) :=
  x_o s0 t 14 <|
  x_call (F_J5_append_c97b9 n t a0 s0) fun o2 s1 =>
  some (t, s1)
set_option maxRecDepth 100000 in
set_option maxHeartbeats 4000000 in
theorem C2_J4_append_bf812 {l : Launch} {w : q_Wd} {n : Nat} {t : Nat} {a0 : Int32} {s0 : x_U} : x_C l w yJ4_append_bf812 cJ4_append_bf812 2 (some (.object "java/lang/StringBuilder")) 5 147 [x_v w t, .int a0] (x_aR w) s0 (F_J4_append_bf812 n t a0 s0) := x_CofG [some (x_v w t), some (.int a0)] (by decide +kernel) rfl (x_ca x_vcat (x_ca rfl x_c0)) (Nat.le_of_ble_eq_true rfl) fun hop cx hl => by
  subst hl
  show x_G w cx RJ4 "append" cJ4_append_bf812 2 (some (.object "java/lang/StringBuilder")) 5 147 (x_m s0) (x_aR w) 0 [some (x_v w t), some (.int a0)] [] s0 _
  rw [F_J4_append_bf812]
  refine x_aload_n dJ4_append_bf812_0 x_vR rfl (pc2 := 1) rfl ?_
  refine x_iload_n dJ4_append_bf812_1 rfl (pc2 := 2) rfl ?_
  refine x_oo (ci := 14) (fun hk3 => ?_)
  refine x_callSUR (As := [.int a0]) C2_J5_append_c97b9 xm_J5_append_c97b9 xu_J4 (by decide) xq_14 (fun h => by cases h) xl_J4_53 hk3 rfl rfl ⟨by decide, by decide⟩ (Nat.le_trans x_s0 (by decide)) dJ4_append_bf812_2 (pc2 := 5) rfl (fun o2 s1 => ?_) hop
  refine x_pop dJ4_append_bf812_5 x_vcat (pc2 := 6) rfl ?_
  refine x_aload_n dJ4_append_bf812_6 x_vR rfl (pc2 := 7) rfl ?_
  exact x_aret (Or.inl ⟨_, rfl⟩) dJ4_append_bf812_7
set_option maxRecDepth 100000 in
set_option maxHeartbeats 4000000 in
def F_J5_getValue_6d5f1 (n : Nat) (t : Nat) (s0 : x_U) : Option (Nat × x_U) :=
  x_gr s0 t 14 0 fun o1 =>
  some (o1, s0)
set_option maxRecDepth 100000 in
set_option maxHeartbeats 4000000 in
theorem C2_J5_getValue_6d5f1 {l : Launch} {w : q_Wd} {n : Nat} {t : Nat} {s0 : x_U} : x_C l w yJ5_getValue_6d5f1 cJ5_getValue_6d5f1 1 (some (.array .byte)) 0 0 [x_v w t] (x_aR w) s0 (F_J5_getValue_6d5f1 n t s0) := x_CofG [some (x_v w t)] (by decide +kernel) rfl (x_ca x_vcat x_c0) (Nat.le_of_ble_eq_true rfl) fun hop cx hl => by
  subst hl
  show x_G w cx RJ5 "getValue" cJ5_getValue_6d5f1 1 (some (.array .byte)) 0 0 (x_m s0) (x_aR w) 0 [some (x_v w t)] [] s0 _
  rw [F_J5_getValue_6d5f1]
  refine x_aload_n dJ5_getValue_6d5f1_0 x_vR rfl (pc2 := 1) rfl ?_
  refine x_getR xf_J5_15 (by decide) rfl dJ5_getValue_6d5f1_1 (pc2 := 4) rfl (fun o1 => ?_)
  exact x_aret (Or.inr ⟨_, rfl⟩) dJ5_getValue_6d5f1_4
set_option maxRecDepth 100000 in
set_option maxHeartbeats 4000000 in
def F_J5_length_8abf5 (n : Nat) (t : Nat) (s0 : x_U) : Option (Int32 × x_U) :=
  x_gi s0 t 14 3 fun v1 =>
  some (v1, s0)
set_option maxRecDepth 100000 in
set_option maxHeartbeats 4000000 in
theorem C2_J5_length_8abf5 {l : Launch} {w : q_Wd} {n : Nat} {t : Nat} {s0 : x_U} : x_C l w yJ5_length_8abf5 cJ5_length_8abf5 1 (some .int) 0 0 [x_v w t] x_aI s0 (F_J5_length_8abf5 n t s0) := x_CofG [some (x_v w t)] (by decide +kernel) rfl (x_ca x_vcat x_c0) (Nat.le_of_ble_eq_true rfl) fun hop cx hl => by
  subst hl
  show x_G w cx RJ5 "length" cJ5_length_8abf5 1 (some .int) 0 0 (x_m s0) x_aI 0 [some (x_v w t)] [] s0 _
  rw [F_J5_length_8abf5]
  refine x_aload_n dJ5_length_8abf5_0 x_vR rfl (pc2 := 1) rfl ?_
  refine x_getI xf_J5_79 (by decide) rfl dJ5_length_8abf5_1 (pc2 := 4) rfl (fun v1 => ?_)
  exact x_iret dJ5_length_8abf5_4
set_option maxRecDepth 100000 in
set_option maxHeartbeats 4000000 in
def F_J4_length_8abf5 (n : Nat) (t : Nat) (s0 : x_U) : Option (Int32 × x_U) :=
  x_o s0 t 14 <|
  x_call (F_J5_length_8abf5 n t s0) fun r2 s1 =>
  some (r2, s1)
set_option maxRecDepth 100000 in
set_option maxHeartbeats 4000000 in
theorem C2_J4_length_8abf5 {l : Launch} {w : q_Wd} {n : Nat} {t : Nat} {s0 : x_U} : x_C l w yJ4_length_8abf5 cJ4_length_8abf5 1 (some .int) 1 20 [x_v w t] x_aI s0 (F_J4_length_8abf5 n t s0) := x_CofG [some (x_v w t)] (by decide +kernel) rfl (x_ca x_vcat x_c0) (Nat.le_of_ble_eq_true rfl) fun hop cx hl => by
  subst hl
  show x_G w cx RJ4 "length" cJ4_length_8abf5 1 (some .int) 1 20 (x_m s0) x_aI 0 [some (x_v w t)] [] s0 _
  rw [F_J4_length_8abf5]
  refine x_aload_n dJ4_length_8abf5_0 x_vR rfl (pc2 := 1) rfl ?_
  refine x_oo (ci := 14) (fun hk3 => ?_)
  refine x_callSUI (As := []) C2_J5_length_8abf5 xm_J5_length_8abf5 xu_J4 (by decide) xq_14 (fun h => by cases h) xl_J4_343 hk3 rfl rfl ⟨by decide, by decide⟩ (Nat.le_trans x_s0 (by decide)) dJ4_length_8abf5_1 (pc2 := 4) rfl (fun r2 s1 => ?_) hop
  exact x_iret dJ4_length_8abf5_4
set_option maxRecDepth 100000 in
set_option maxHeartbeats 4000000 in
def F_J7_checkLength_df160 (n : Nat) (a0 : Int32) (a1 : Int32) (s0 : x_U) : Option (Int32 × x_U) :=
  if a1 < a0 then (
  none)
  else (
  some (0, s0))
set_option maxRecDepth 100000 in
set_option maxHeartbeats 4000000 in
theorem C2_J7_checkLength_df160 {l : Launch} {w : q_Wd} {n : Nat} {a0 : Int32} {a1 : Int32} {s0 : x_U} : x_C l w yJ7_checkLength_df160 cJ7_checkLength_df160 2 (none) 6 168 [.int a0, .int a1] x_aV s0 (F_J7_checkLength_df160 n a0 a1 s0) := x_CofG [some (.int a0), some (.int a1)] (by decide +kernel) rfl (x_ca rfl (x_ca rfl x_c0)) (Nat.le_of_ble_eq_true rfl) fun hop cx hl => by
  subst hl
  show x_G w cx RJ7 "checkLength" cJ7_checkLength_df160 2 (none) 6 168 (x_m s0) x_aV 0 [some (.int a0), some (.int a1)] [] s0 _
  rw [F_J7_checkLength_df160]
  refine x_iload_n dJ7_checkLength_df160_0 rfl (pc2 := 1) rfl ?_
  refine x_iload_n dJ7_checkLength_df160_1 rfl (pc2 := 2) rfl ?_
  refine x_icmp_ge dJ7_checkLength_df160_2 (pc1 := 5) (pc2 := 37) rfl rfl (fun _ => ?_) (fun _ => ?_)
  · exact x_none
  · exact x_vret dJ7_checkLength_df160_37
set_option maxRecDepth 100000 in
set_option maxHeartbeats 4000000 in
def F_J7_copyOfRangeByte_39247 (n : Nat) (a0 : Nat) (a1 : Int32) (a2 : Int32) (s0 : x_U) : Option (Nat × x_U) :=
  x_call (F_J7_checkLength_df160 n a1 a2 s0) fun r2 s1 =>
  x_nm (a2 - a1) fun v3 =>
  x_nwa s1 2 v3 fun o4 s5 =>
  x_len s5 a0 fun v6 =>
  x_cp s5 a0 a1 o4 0 (q_mn (v6 - a1) v3) fun s7 =>
  some (o4, s7)
set_option maxRecDepth 100000 in
set_option maxHeartbeats 4000000 in
theorem C2_J7_copyOfRangeByte_39247 {l : Launch} {w : q_Wd} {n : Nat} {a0 : Nat} {a1 : Int32} {a2 : Int32} {s0 : x_U} : x_C l w yJ7_copyOfRangeByte_39247 cJ7_copyOfRangeByte_39247 5 (some (.array .byte)) 7 189 [x_v w a0, .int a1, .int a2] (x_aR w) s0 (F_J7_copyOfRangeByte_39247 n a0 a1 a2 s0) := x_CofG [some (x_v w a0), some (.int a1), some (.int a2), none, none] (by decide +kernel) rfl (x_ca x_vcat (x_ca rfl (x_ca rfl x_c0))) (Nat.le_of_ble_eq_true rfl) fun hop cx hl => by
  subst hl
  show x_G w cx RJ7 "copyOfRangeByte" cJ7_copyOfRangeByte_39247 5 (some (.array .byte)) 7 189 (x_m s0) (x_aR w) 0 [some (x_v w a0), some (.int a1), some (.int a2), none, none] [] s0 _
  rw [F_J7_copyOfRangeByte_39247]
  refine x_iload_n dJ7_copyOfRangeByte_39247_0 rfl (pc2 := 1) rfl ?_
  refine x_iload_n dJ7_copyOfRangeByte_39247_1 rfl (pc2 := 2) rfl ?_
  refine x_callSV (As := [.int a1, .int a2]) C2_J7_checkLength_df160 xm_J7_checkLength_df160 xl_J7_343 rfl rfl ⟨by decide, by decide⟩ (Nat.le_trans x_s0 (by decide)) dJ7_copyOfRangeByte_39247_2 (pc2 := 5) rfl (fun r2 s1 => ?_) hop
  refine x_iload_n dJ7_copyOfRangeByte_39247_5 rfl (pc2 := 6) rfl ?_
  refine x_iload_n dJ7_copyOfRangeByte_39247_6 rfl (pc2 := 7) rfl ?_
  refine x_isub dJ7_copyOfRangeByte_39247_7 (pc2 := 8) rfl ?_
  refine x_gnm (fun v3 => ?_)
  refine x_istore_n dJ7_copyOfRangeByte_39247_8 (by decide) (L2 := [some (x_v w a0), some (.int a1), some (.int a2), some (.int v3), none]) rfl (pc2 := 9) rfl ?_
  refine x_iload_n dJ7_copyOfRangeByte_39247_9 rfl (pc2 := 10) rfl ?_
  refine x_newa (t := 2) (ty := .byte) rfl (Or.inr ⟨rfl, rfl⟩) xw_byte dJ7_copyOfRangeByte_39247_10 (pc2 := 12) rfl (fun o4 s5 => ?_)
  refine x_astore x_vR dJ7_copyOfRangeByte_39247_12 (by decide) (L2 := [some (x_v w a0), some (.int a1), some (.int a2), some (.int v3), some (x_v w o4)]) rfl (pc2 := 14) rfl ?_
  refine x_aload_n dJ7_copyOfRangeByte_39247_14 x_vR rfl (pc2 := 15) rfl ?_
  refine x_iload_n dJ7_copyOfRangeByte_39247_15 rfl (pc2 := 16) rfl ?_
  refine x_aload dJ7_copyOfRangeByte_39247_16 x_vR rfl (pc2 := 18) rfl ?_
  refine x_iconst dJ7_copyOfRangeByte_39247_18 ic_0 (pc2 := 19) rfl ?_
  refine x_aload_n dJ7_copyOfRangeByte_39247_19 x_vR rfl (pc2 := 20) rfl ?_
  refine x_alen dJ7_copyOfRangeByte_39247_20 (pc2 := 21) rfl (fun v6 => ?_)
  refine x_iload_n dJ7_copyOfRangeByte_39247_21 rfl (pc2 := 22) rfl ?_
  refine x_isub dJ7_copyOfRangeByte_39247_22 (pc2 := 23) rfl ?_
  refine x_iload_n dJ7_copyOfRangeByte_39247_23 rfl (pc2 := 24) rfl ?_
  refine x_min xl_J7_304 ⟨by decide, by decide⟩ (Nat.le_trans (x_sm rfl (x_sm x_vcat (x_sm rfl (x_sm x_vcat x_s0)))) (by decide)) dJ7_copyOfRangeByte_39247_24 (pc2 := 27) rfl ?_
  refine x_copyb (q_w_copy xl_J7_150) ⟨by decide, by decide +kernel⟩ (Nat.le_trans x_s0 (by decide)) dJ7_copyOfRangeByte_39247_27 (pc2 := 30) rfl (fun s7 => ?_)
  refine x_aload dJ7_copyOfRangeByte_39247_30 x_vR rfl (pc2 := 32) rfl ?_
  exact x_aret (Or.inr ⟨_, rfl⟩) dJ7_copyOfRangeByte_39247_32
set_option maxRecDepth 100000 in
set_option maxHeartbeats 4000000 in
def F_J7_copyOfRange_39247 (n : Nat) (a0 : Nat) (a1 : Int32) (a2 : Int32) (s0 : x_U) : Option (Nat × x_U) :=
  if a1 = 0 then (
  x_len s0 a0 fun v1 =>
  if a2 = v1 then (
  x_cln s0 2 a0 fun o2 s3 =>
  x_cst s3 o2 2 <|
  some (o2, s3))
  else (
  x_call (F_J7_copyOfRangeByte_39247 n a0 a1 a2 s0) fun o5 s4 =>
  some (o5, s4)))
  else (
  x_call (F_J7_copyOfRangeByte_39247 n a0 a1 a2 s0) fun o7 s6 =>
  some (o7, s6))
set_option maxRecDepth 100000 in
set_option maxHeartbeats 4000000 in
theorem C2_J7_copyOfRange_39247 {l : Launch} {w : q_Wd} {n : Nat} {a0 : Nat} {a1 : Int32} {a2 : Int32} {s0 : x_U} : x_C l w yJ7_copyOfRange_39247 cJ7_copyOfRange_39247 3 (some (.array .byte)) 8 213 [x_v w a0, .int a1, .int a2] (x_aR w) s0 (F_J7_copyOfRange_39247 n a0 a1 a2 s0) := x_CofG [some (x_v w a0), some (.int a1), some (.int a2)] (by decide +kernel) rfl (x_ca x_vcat (x_ca rfl (x_ca rfl x_c0))) (Nat.le_of_ble_eq_true rfl) fun hop cx hl => by
  subst hl
  show x_G w cx RJ7 "copyOfRange" cJ7_copyOfRange_39247 3 (some (.array .byte)) 8 213 (x_m s0) (x_aR w) 0 [some (x_v w a0), some (.int a1), some (.int a2)] [] s0 _
  rw [F_J7_copyOfRange_39247]
  refine x_iload_n dJ7_copyOfRange_39247_0 rfl (pc2 := 1) rfl ?_
  refine x_if_ne dJ7_copyOfRange_39247_1 (pc1 := 4) (pc2 := 10) rfl rfl (fun _ => ?_) (fun _ => ?_)
  · refine x_iload_n dJ7_copyOfRange_39247_4 rfl (pc2 := 5) rfl ?_
    refine x_aload_n dJ7_copyOfRange_39247_5 x_vR rfl (pc2 := 6) rfl ?_
    refine x_alen dJ7_copyOfRange_39247_6 (pc2 := 7) rfl (fun v1 => ?_)
    refine x_icmp_eq dJ7_copyOfRange_39247_7 (pc1 := 17) (pc2 := 10) rfl rfl (fun _ => ?_) (fun _ => ?_)
    · refine x_aload_n dJ7_copyOfRange_39247_17 x_vR rfl (pc2 := 18) rfl ?_
      refine x_clone (t := 2) (Or.inr ⟨rfl, rfl⟩) xk_J7_310 ⟨by decide, by decide⟩ (Nat.le_trans x_s0 (by decide)) dJ7_copyOfRange_39247_18 (pc2 := 21) rfl (fun o2 s3 => ?_)
      refine x_castA (t := 2) (Or.inr ⟨rfl, rfl⟩) xc_J7_311 dJ7_copyOfRange_39247_21 (pc2 := 24) rfl ?_
      exact x_aret (Or.inr ⟨_, rfl⟩) dJ7_copyOfRange_39247_24
    · refine x_aload_n dJ7_copyOfRange_39247_10 x_vR rfl (pc2 := 11) rfl ?_
      refine x_iload_n dJ7_copyOfRange_39247_11 rfl (pc2 := 12) rfl ?_
      refine x_iload_n dJ7_copyOfRange_39247_12 rfl (pc2 := 13) rfl ?_
      refine x_callSR (As := [x_v w a0, .int a1, .int a2]) C2_J7_copyOfRangeByte_39247 xm_J7_copyOfRangeByte_39247 xl_J7_339 rfl rfl ⟨by decide, by decide⟩ (Nat.le_trans x_s0 (by decide)) dJ7_copyOfRange_39247_13 (pc2 := 16) rfl (fun o5 s4 => ?_) hop
      exact x_aret (Or.inr ⟨_, rfl⟩) dJ7_copyOfRange_39247_16
  · refine x_aload_n dJ7_copyOfRange_39247_10 x_vR rfl (pc2 := 11) rfl ?_
    refine x_iload_n dJ7_copyOfRange_39247_11 rfl (pc2 := 12) rfl ?_
    refine x_iload_n dJ7_copyOfRange_39247_12 rfl (pc2 := 13) rfl ?_
    refine x_callSR (As := [x_v w a0, .int a1, .int a2]) C2_J7_copyOfRangeByte_39247 xm_J7_copyOfRangeByte_39247 xl_J7_339 rfl rfl ⟨by decide, by decide⟩ (Nat.le_trans x_s0 (by decide)) dJ7_copyOfRange_39247_13 (pc2 := 16) rfl (fun o7 s6 => ?_) hop
    exact x_aret (Or.inr ⟨_, rfl⟩) dJ7_copyOfRange_39247_16
set_option maxRecDepth 100000 in
set_option maxHeartbeats 4000000 in
def F_J0_init_db425 (n : Nat) (t : Nat) (a0 : Nat) (a1 : Nat) (s0 : x_U) : Option (Int32 × x_U) :=
  if t = 0 then none else
  x_o s0 a0 14 <|
  x_call (F_J5_getValue_6d5f1 n a0 s0) fun o2 s1 =>
  x_o s1 a0 14 <|
  x_call (F_J4_length_8abf5 n a0 s1) fun r5 s4 =>
  x_o s4 a0 14 <|
  x_call (F_J5_isLatin1_aae02 n a0 s4) fun r8 s7 =>
  if r8 = 0 then (
  x_nm (fun  (s10 : x_U) =>
    x_pi s10 t 13 1 1 fun s11 =>
    x_call (F_J7_copyOfRange_39247 n o2 0 (r5 <<< (1 &&& 31)) s11) fun o13 s12 =>
    x_pr s12 t 13 0 o13 fun s14 =>
    some (0, s14)) fun j79 =>
  if (1 : Int32) = 0 then (
  j79 s7)
  else (
  x_gi s7 a0 14 2 fun v15 =>
  if v15 = 0 then (
  j79 s7)
  else (
  none)))
  else (
  x_pi s7 t 13 1 0 fun s16 =>
  x_call (F_J7_copyOfRange_39247 n o2 0 r5 s16) fun o18 s17 =>
  x_pr s17 t 13 0 o18 fun s19 =>
  some (0, s19))
set_option maxRecDepth 100000 in
set_option maxHeartbeats 4000000 in
theorem C2_J0_init_db425 {l : Launch} {w : q_Wd} {n : Nat} {t : Nat} {a0 : Nat} {a1 : Nat} {s0 : x_U} : x_C l w yJ0_init_db425 cJ0_init_db425 5 (none) 9 235 [x_v w t, x_v w a0, x_v w a1] x_aV s0 (F_J0_init_db425 n t a0 a1 s0) := x_CofG [some (x_v w t), some (x_v w a0), some (x_v w a1), none, none] (by decide +kernel) rfl (x_ca x_vcat (x_ca x_vcat (x_ca x_vcat x_c0))) (Nat.le_of_ble_eq_true rfl) fun hop cx hl => by
  subst hl
  show x_G w cx RJ0 "<init>" cJ0_init_db425 5 (none) 9 235 (x_m s0) x_aV 0 [some (x_v w t), some (x_v w a0), some (x_v w a1), none, none] [] s0 _
  rw [F_J0_init_db425]
  refine x_aload_n dJ0_init_db425_0 x_vR rfl (pc2 := 1) rfl ?_
  refine x_obj xl_J0_1 ob_w ⟨by decide, by decide⟩ (Nat.le_trans x_s0 (by decide)) dJ0_init_db425_1 (pc2 := 4) rfl ?_
  refine x_aload_n dJ0_init_db425_4 x_vR rfl (pc2 := 5) rfl ?_
  refine x_oo (ci := 14) (fun hk3 => ?_)
  refine x_callUR (As := []) C2_J5_getValue_6d5f1 xo_J5_getValue_6d5f1 xx_J5_getValue_6d5f1 xs_J5_getValue_6d5f1 xq_14 (fun h => by cases h) xl_J0_552 hk3 rfl rfl ⟨by decide, by decide⟩ (Nat.le_trans x_s0 (by decide)) dJ0_init_db425_5 (pc2 := 8) rfl (fun o2 s1 => ?_) hop
  refine x_astore_n x_vR dJ0_init_db425_8 (by decide) (L2 := [some (x_v w t), some (x_v w a0), some (x_v w a1), some (x_v w o2), none]) rfl (pc2 := 9) rfl ?_
  refine x_aload_n dJ0_init_db425_9 x_vR rfl (pc2 := 10) rfl ?_
  refine x_oo (ci := 14) (fun hk6 => ?_)
  refine x_callUI (As := []) C2_J4_length_8abf5 xo_J4_length_8abf5 xx_J5_length_8abf5 xs_J5_length_8abf5 xq_14 (fun h => by cases h) xl_J0_549 hk6 rfl rfl ⟨by decide, by decide⟩ (Nat.le_trans x_s0 (by decide)) dJ0_init_db425_10 (pc2 := 13) rfl (fun r5 s4 => ?_) hop
  refine x_istore dJ0_init_db425_13 (by decide) (L2 := [some (x_v w t), some (x_v w a0), some (x_v w a1), some (x_v w o2), some (.int r5)]) rfl (pc2 := 15) rfl ?_
  refine x_aload_n dJ0_init_db425_15 x_vR rfl (pc2 := 16) rfl ?_
  refine x_oo (ci := 14) (fun hk9 => ?_)
  refine x_callUI (As := []) C2_J5_isLatin1_aae02 xo_J5_isLatin1_aae02 xx_J5_isLatin1_aae02 xs_J5_isLatin1_aae02 xq_14 (fun h => by cases h) xl_J0_1047 hk9 rfl rfl ⟨by decide, by decide⟩ (Nat.le_trans x_s0 (by decide)) dJ0_init_db425_16 (pc2 := 19) rfl (fun r8 s7 => ?_) hop
  refine x_if_eq dJ0_init_db425_19 (pc1 := 41) (pc2 := 22) rfl rfl (fun _ => ?_) (fun _ => ?_)
  · refine x_gscmp xg_J0_38 dJ0_init_db425_41 (pc2 := 44) rfl ?_
    refine x_jn (P := fun j79 => ∀  (s10 : x_U), x_G w cx RJ0 "<init>" cJ0_init_db425 5 (none) 9 235 (x_m s0) x_aV 79 [some (x_v w t), none, none, some (x_v w o2), some (.int r5)] [] s10 (j79 s10)) (fun s10 => ?_) (fun j79 hj79 => ?_)
    · refine x_aload_n dJ0_init_db425_79 x_vR rfl (pc2 := 80) rfl ?_
      refine x_iconst dJ0_init_db425_80 ic_1 (pc2 := 81) rfl ?_
      refine x_putI (Or.inl xf_J0_15) (Or.inr ⟨rfl, _, rfl⟩) rfl rfl rfl dJ0_init_db425_81 (pc2 := 84) rfl (fun s11 => ?_)
      refine x_aload_n dJ0_init_db425_84 x_vR rfl (pc2 := 85) rfl ?_
      refine x_aload_n dJ0_init_db425_85 x_vR rfl (pc2 := 86) rfl ?_
      refine x_iconst dJ0_init_db425_86 ic_0 (pc2 := 87) rfl ?_
      refine x_iload dJ0_init_db425_87 rfl (pc2 := 89) rfl ?_
      refine x_iconst dJ0_init_db425_89 ic_1 (pc2 := 90) rfl ?_
      refine x_ishl dJ0_init_db425_90 (pc2 := 91) rfl ?_
      refine x_callSR (As := [x_v w o2, .int 0, .int (r5 <<< (1 &&& 31))]) C2_J7_copyOfRange_39247 xm_J7_copyOfRange_39247 xl_J0_54 rfl rfl ⟨by decide, by decide⟩ (Nat.le_trans (x_sm x_vcat x_s0) (by decide)) dJ0_init_db425_91 (pc2 := 94) rfl (fun o13 s12 => ?_) hop
      refine x_putR (Or.inl xf_J0_9) (Or.inr ⟨rfl, _, rfl⟩) rfl (x_nR (Or.inr ⟨_, rfl⟩)) dJ0_init_db425_94 (pc2 := 97) rfl (fun s14 => ?_)
      exact x_vret dJ0_init_db425_97
    · refine x_if_eq dJ0_init_db425_44 (pc1 := 79) (pc2 := 47) rfl rfl (fun _ => ?_) (fun _ => ?_)
      · refine x_Gmask [true, false, false, true, true] (L2 := [some (x_v w t), none, none, some (x_v w o2), some (.int r5)]) rfl ?_
        exact hj79 _
      · refine x_aload_n dJ0_init_db425_47 x_vR rfl (pc2 := 48) rfl ?_
        refine x_getI xf_J0_1048 (by decide) rfl dJ0_init_db425_48 (pc2 := 51) rfl (fun v15 => ?_)
        refine x_if_eq dJ0_init_db425_51 (pc1 := 79) (pc2 := 54) rfl rfl (fun _ => ?_) (fun _ => ?_)
        · refine x_Gmask [true, false, false, true, true] (L2 := [some (x_v w t), none, none, some (x_v w o2), some (.int r5)]) rfl ?_
          exact hj79 _
        · exact x_none
  · refine x_aload_n dJ0_init_db425_22 x_vR rfl (pc2 := 23) rfl ?_
    refine x_iconst dJ0_init_db425_23 ic_0 (pc2 := 24) rfl ?_
    refine x_putI (Or.inl xf_J0_15) (Or.inr ⟨rfl, _, rfl⟩) rfl rfl rfl dJ0_init_db425_24 (pc2 := 27) rfl (fun s16 => ?_)
    refine x_aload_n dJ0_init_db425_27 x_vR rfl (pc2 := 28) rfl ?_
    refine x_aload_n dJ0_init_db425_28 x_vR rfl (pc2 := 29) rfl ?_
    refine x_iconst dJ0_init_db425_29 ic_0 (pc2 := 30) rfl ?_
    refine x_iload dJ0_init_db425_30 rfl (pc2 := 32) rfl ?_
    refine x_callSR (As := [x_v w o2, .int 0, .int r5]) C2_J7_copyOfRange_39247 xm_J7_copyOfRange_39247 xl_J0_54 rfl rfl ⟨by decide, by decide⟩ (Nat.le_trans (x_sm x_vcat x_s0) (by decide)) dJ0_init_db425_32 (pc2 := 35) rfl (fun o18 s17 => ?_) hop
    refine x_putR (Or.inl xf_J0_9) (Or.inr ⟨rfl, _, rfl⟩) rfl (x_nR (Or.inr ⟨_, rfl⟩)) dJ0_init_db425_35 (pc2 := 38) rfl (fun s19 => ?_)
    refine x_goto dJ0_init_db425_38 (pc2 := 97) rfl ?_
    exact x_vret dJ0_init_db425_97
set_option maxRecDepth 100000 in
set_option maxHeartbeats 4000000 in
def F_J0_init_81219 (n : Nat) (t : Nat) (a0 : Nat) (s0 : x_U) : Option (Int32 × x_U) :=
  x_o s0 t 13 <|
  x_call (F_J0_init_db425 n t a0 0 s0) fun r2 s1 =>
  some (0, s1)
set_option maxRecDepth 100000 in
set_option maxHeartbeats 4000000 in
theorem C2_J0_init_81219 {l : Launch} {w : q_Wd} {n : Nat} {t : Nat} {a0 : Nat} {s0 : x_U} : x_C l w yJ0_init_81219 cJ0_init_81219 2 (none) 10 259 [x_v w t, x_v w a0] x_aV s0 (F_J0_init_81219 n t a0 s0) := x_CofG [some (x_v w t), some (x_v w a0)] (by decide +kernel) rfl (x_ca x_vcat (x_ca x_vcat x_c0)) (Nat.le_of_ble_eq_true rfl) fun hop cx hl => by
  subst hl
  show x_G w cx RJ0 "<init>" cJ0_init_81219 2 (none) 10 259 (x_m s0) x_aV 0 [some (x_v w t), some (x_v w a0)] [] s0 _
  rw [F_J0_init_81219]
  refine x_aload_n dJ0_init_81219_0 x_vR rfl (pc2 := 1) rfl ?_
  refine x_aload_n dJ0_init_81219_1 x_vR rfl (pc2 := 2) rfl ?_
  refine x_anull dJ0_init_81219_2 (pc2 := 3) rfl ?_
  refine x_oo (ci := 13) (fun hk3 => ?_)
  refine x_callIV (As := [x_v w a0, x_v w 0]) C2_J0_init_db425 mi_J0_init_db425 rfl rfl xl_J0_489 hk3 xq_13 (fun h => by first | rfl | cases h) rfl rfl ⟨by decide, by decide⟩ (Nat.le_trans x_s0 (by decide)) dJ0_init_81219_3 (pc2 := 6) rfl (fun r2 s1 => ?_) hop
  exact x_vret dJ0_init_81219_6
set_option maxRecDepth 100000 in
set_option maxHeartbeats 4000000 in
def F_J4_toString_0e30d (n : Nat) (t : Nat) (s0 : x_U) : Option (Nat × x_U) :=
  x_new s0 13 fun o1 s2 =>
  x_o s2 o1 13 <|
  x_call (F_J0_init_81219 n o1 t s2) fun r4 s3 =>
  some (o1, s3)
set_option maxRecDepth 100000 in
set_option maxHeartbeats 4000000 in
theorem C2_J4_toString_0e30d {l : Launch} {w : q_Wd} {n : Nat} {t : Nat} {s0 : x_U} : x_C l w yJ4_toString_0e30d cJ4_toString_0e30d 1 (some (.object "java/lang/String")) 11 280 [x_v w t] (x_aR w) s0 (F_J4_toString_0e30d n t s0) := x_CofG [some (x_v w t)] (by decide +kernel) rfl (x_ca x_vcat x_c0) (Nat.le_of_ble_eq_true rfl) fun hop cx hl => by
  subst hl
  show x_G w cx RJ4 "toString" cJ4_toString_0e30d 1 (some (.object "java/lang/String")) 11 280 (x_m s0) (x_aR w) 0 [some (x_v w t)] [] s0 _
  rw [F_J4_toString_0e30d]
  refine x_newo cl_13 xn_J4_18 df_13 dJ4_toString_0e30d_0 (pc2 := 3) rfl (fun o1 s2 => ?_)
  refine x_dup dJ4_toString_0e30d_3 x_vcat (pc2 := 4) rfl ?_
  refine x_aload_n dJ4_toString_0e30d_4 x_vR rfl (pc2 := 5) rfl ?_
  refine x_oo (ci := 13) (fun hk5 => ?_)
  refine x_callIV (As := [x_v w t]) C2_J0_init_81219 mi_J0_init_81219 rfl rfl xl_J4_137 hk5 xq_13 (fun h => by first | rfl | cases h) rfl rfl ⟨by decide, by decide⟩ (Nat.le_trans (x_sm x_vcat x_s0) (by decide)) dJ4_toString_0e30d_5 (pc2 := 8) rfl (fun r4 s3 => ?_) hop
  exact x_aret (Or.inl ⟨_, rfl⟩) dJ4_toString_0e30d_8
