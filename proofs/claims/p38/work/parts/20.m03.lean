set_option maxRecDepth 100000 in
set_option maxHeartbeats 4000000 in
def f_X3_readLine_L127 (n : Nat) (x0 : Nat) (k171 : q_Sto → Option (Int32 × q_Sto)) : Nat → Int32 → Int32 → q_Sto → Option (Int32 × q_Sto)
  | 0, _, _, _ => none
  | j + 1, x2, x3, s0 =>
    if x3 ≤ 400 then (
    if x2 = 0 then (
    k171 s0)
    else (
    if (s0 x0 6) = 0 then (
    q_call (f_X3_readOperand n x0 s0) fun r24 s23 =>
    f_X3_readLine_L127 n x0 k171 j r24 (x3 + 1) s23)
    else (
    if (s0 x0 6) = 1 then (
    q_call (f_X3_readOperand n x0 s0) fun r27 s26 =>
    f_X3_readLine_L127 n x0 k171 j r27 (x3 + 1) s26)
    else (
    q_call (f_X3_readSign n x0 s0) fun r29 s28 =>
    f_X3_readLine_L127 n x0 k171 j r29 (x3 + 1) s28))))
    else (
    k171 s0)
set_option maxRecDepth 100000 in
set_option maxHeartbeats 4000000 in
def f_X3_readLine (n : Nat) (t : Nat) (s0 : q_Sto) : Option (Int32 × q_Sto) :=
  q_call (f_X8_isWord n (q_RF t 0) 0 s0) fun r2 s1 =>
  q_jn (fun (y3 : Int32) (s4 : q_Sto) =>
    if y3 = (-1) then (
    q_call (f_X8_fail n (q_RF t 0) 1 s4) fun r7 s6 =>
    q_rz r7 s6)
    else (
    q_call (f_X2_isFull n (q_RF t 1) s4) fun r9 s8 =>
    if r9 = 0 then (
    q_callv (f_X8_next n (q_RF t 0) s8) fun s11 =>
    q_callv (f_X2_beginLine n (q_RF t 1) y3 s11) fun s13 =>
    q_nS1 (q_up s13 t 3 0) fun s15 =>
    q_nS1 (q_up s15 t 4 0) fun s16 =>
    q_nS1 (q_up s16 t 5 0) fun s17 =>
    q_nS1 (q_up s17 t 7 0) fun s18 =>
    q_nS1 (q_up s18 t 6 0) fun s19 =>
    f_X3_readLine_L127 n t (fun  (s30 : q_Sto) =>
    if (s30 (q_RF t 0) 6) = 0 then (
    some (1, s30))
    else (
    some (0, s30))) n 1 0 s19)
    else (
    q_call (f_X8_fail n (q_RF t 0) 3 s8) fun r33 s32 =>
    q_rz r33 s32))) fun j49 =>
  if r2 = 0 then (
  q_call (f_X8_isWord n (q_RF t 0) 1 s1) fun r36 s35 =>
  if r36 = 0 then (
  q_call (f_X8_isWord n (q_RF t 0) 2 s35) fun r39 s38 =>
  if r39 = 0 then (
  j49 (-1) s38)
  else (
  j49 2 s38))
  else (
  j49 1 s35))
  else (
  j49 0 s1)
set_option maxRecDepth 100000 in
set_option maxHeartbeats 4000000 in
theorem t_X3_readLine_L127 {w : q_Wd} {cx : q_Cx} (hc : q_ok w cx RX3 cX3_readLine 4 (some .boolean) (q_rm 9 203)) {n : Nat} {x0 : Nat} (hx0 : q_KD x0 = .inl 3) {k171 : q_Sto → Option (Int32 × q_Sto)} (hk171 : ∀  (s1 : q_Sto), q_G w cx 4 (some .boolean) 171 [some (q_rf w x0), none, none, none] [] s1 (k171 s1)) :
    ∀ (j : Nat) (x2 : Int32) (x3 : Int32) (s0 : q_Sto), q_G w cx 4 (some .boolean) 127 [some (q_rf w x0), none, some (.int x2), some (.int x3)] [] s0 (f_X3_readLine_L127 n x0 k171 j x2 x3 s0) := by
  intro j
  induction j with
  | zero =>
    intro _ _ _
    rw [f_X3_readLine_L127]
    exact q_none
  | succ j ih =>
    intro x2 x3 s0
    rw [f_X3_readLine_L127]
    refine g_il3 hc dX3_readLine_127 rfl (pc2 := 128) rfl ?_
    refine g_sipush hc dX3_readLine_128 sp_400 (pc2 := 131) rfl ?_
    refine g_icmp_gt hc dX3_readLine_131 (pc1 := 134) (pc2 := 171) rfl rfl (fun _ => ?_) (fun _ => ?_)
    · refine g_il2 hc dX3_readLine_134 rfl (pc2 := 135) rfl ?_
      refine g_if_eq hc dX3_readLine_135 (pc1 := 171) (pc2 := 138) rfl rfl (fun _ => ?_) (fun _ => ?_)
      · refine q_Gmask [true, true, false, false] (L2 := [some (q_rf w x0), none, none, none]) rfl ?_
        exact hk171 _
      · refine g_rl0 hc dX3_readLine_138 rfl (pc2 := 139) rfl ?_
        refine g_getI hc fl_X3_32 rfl hx0 dX3_readLine_139 (pc2 := 142) rfl ?_
        refine g_if_eq hc dX3_readLine_142 (pc1 := 153) (pc2 := 145) rfl rfl (fun _ => ?_) (fun _ => ?_)
        · refine g_rl0 hc dX3_readLine_153 rfl (pc2 := 154) rfl ?_
          refine g_callV0 hc (C_X3_readOperand hx0) mv_X3_readOperand ln_X3_82 hx0 ⟨by decide, by decide⟩ (Nat.le_of_ble_eq_true rfl) dX3_readLine_154 (pc2 := 157) rfl (fun r24 s23 => ?_)
          refine g_goto hc dX3_readLine_157 (pc2 := 164) rfl ?_
          refine g_is2 hc dX3_readLine_164 (by decide) (L2 := [some (q_rf w x0), none, some (.int r24), some (.int x3)]) rfl (pc2 := 165) rfl ?_
          refine g_iinc hc dX3_readLine_165 rfl (q_ii ic_1) (by decide) (L2 := [some (q_rf w x0), none, some (.int r24), some (.int (x3 + 1))]) rfl (pc2 := 168) rfl ?_
          refine g_goto hc dX3_readLine_168 (pc2 := 127) rfl ?_
          exact ih _ _ _
        · refine g_rl0 hc dX3_readLine_145 rfl (pc2 := 146) rfl ?_
          refine g_getI hc fl_X3_32 rfl hx0 dX3_readLine_146 (pc2 := 149) rfl ?_
          refine g_iconst hc dX3_readLine_149 ic_1 (pc2 := 150) rfl ?_
          refine g_icmp_ne hc dX3_readLine_150 (pc1 := 153) (pc2 := 160) rfl rfl (fun _ => ?_) (fun _ => ?_)
          · refine g_rl0 hc dX3_readLine_153 rfl (pc2 := 154) rfl ?_
            refine g_callV0 hc (C_X3_readOperand hx0) mv_X3_readOperand ln_X3_82 hx0 ⟨by decide, by decide⟩ (Nat.le_of_ble_eq_true rfl) dX3_readLine_154 (pc2 := 157) rfl (fun r27 s26 => ?_)
            refine g_goto hc dX3_readLine_157 (pc2 := 164) rfl ?_
            refine g_is2 hc dX3_readLine_164 (by decide) (L2 := [some (q_rf w x0), none, some (.int r27), some (.int x3)]) rfl (pc2 := 165) rfl ?_
            refine g_iinc hc dX3_readLine_165 rfl (q_ii ic_1) (by decide) (L2 := [some (q_rf w x0), none, some (.int r27), some (.int (x3 + 1))]) rfl (pc2 := 168) rfl ?_
            refine g_goto hc dX3_readLine_168 (pc2 := 127) rfl ?_
            exact ih _ _ _
          · refine g_rl0 hc dX3_readLine_160 rfl (pc2 := 161) rfl ?_
            refine g_callV0 hc (C_X3_readSign hx0) mv_X3_readSign ln_X3_85 hx0 ⟨by decide, by decide⟩ (Nat.le_of_ble_eq_true rfl) dX3_readLine_161 (pc2 := 164) rfl (fun r29 s28 => ?_)
            refine g_is2 hc dX3_readLine_164 (by decide) (L2 := [some (q_rf w x0), none, some (.int r29), some (.int x3)]) rfl (pc2 := 165) rfl ?_
            refine g_iinc hc dX3_readLine_165 rfl (q_ii ic_1) (by decide) (L2 := [some (q_rf w x0), none, some (.int r29), some (.int (x3 + 1))]) rfl (pc2 := 168) rfl ?_
            refine g_goto hc dX3_readLine_168 (pc2 := 127) rfl ?_
            exact ih _ _ _
    · refine q_Gmask [true, true, false, false] (L2 := [some (q_rf w x0), none, none, none]) rfl ?_
      exact hk171 _
set_option maxRecDepth 100000 in
set_option maxHeartbeats 4000000 in
theorem C_X3_readLine {l : Launch} {w : q_Wd} {n : Nat} {t : Nat} (ht : q_KD t = .inl 3) {s0 : q_Sto} : q_C l w yX3_readLine cX3_readLine 4 (some .boolean) (q_rm 9 203) [q_rf w t] s0 (f_X3_readLine n t s0) := q_CofG [some (q_rf w t), none, none, none] (by decide +kernel) rfl rfl (Nat.le_of_ble_eq_true rfl) fun cx hl hc => by
  have hc : q_ok w cx RX3 cX3_readLine 4 (some .boolean) (q_rm 9 203) := hc
  rw [f_X3_readLine]
  refine g_rl0 hc dX3_readLine_0 rfl (pc2 := 1) rfl ?_
  refine g_getR hc fl_X3_42 rfl ht dX3_readLine_1 (pc2 := 4) rfl ?_
  refine g_ldcS (i := 0) (tx := "lean") hc (by decide +kernel) dX3_readLine_4 (pc2 := 6) rfl ?_
  refine g_callV1 hc (C_X8_isWord (kf_3_0 ht) (by decide)) mv_X8_isWord ln_X3_60 (kf_3_0 ht) ⟨by decide, by decide⟩ (Nat.le_of_ble_eq_true rfl) dX3_readLine_6 (pc2 := 9) rfl (fun r2 s1 => ?_)
  refine g_jn (P := fun j49 => ∀ (y3 : Int32) (s4 : q_Sto), q_G w cx 4 (some .boolean) 49 [some (q_rf w t), none, none, none] [.int y3] s4 (j49 y3 s4)) (fun y3 s4 => ?_) (fun j49 hj49 => ?_)
  · refine g_is1 hc dX3_readLine_49 (by decide) (L2 := [some (q_rf w t), some (.int y3), none, none]) rfl (pc2 := 50) rfl ?_
    refine g_il1 hc dX3_readLine_50 rfl (pc2 := 51) rfl ?_
    refine g_iconst hc dX3_readLine_51 ic_m1 (pc2 := 52) rfl ?_
    refine g_icmp_ne hc dX3_readLine_52 (pc1 := 55) (pc2 := 64) rfl rfl (fun _ => ?_) (fun _ => ?_)
    · refine g_rl0 hc dX3_readLine_55 rfl (pc2 := 56) rfl ?_
      refine g_getR hc fl_X3_42 rfl ht dX3_readLine_56 (pc2 := 59) rfl ?_
      refine g_iconst hc dX3_readLine_59 ic_1 (pc2 := 60) rfl ?_
      refine g_callV1 hc (C_X8_fail (kf_3_0 ht)) mv_X8_fail ln_X3_68 (kf_3_0 ht) ⟨by decide, by decide⟩ (Nat.le_of_ble_eq_true rfl) dX3_readLine_60 (pc2 := 63) rfl (fun r7 s6 => ?_)
      exact g_zret hc dX3_readLine_63
    · refine g_rl0 hc dX3_readLine_64 rfl (pc2 := 65) rfl ?_
      refine g_getR hc fl_X3_12 rfl ht dX3_readLine_65 (pc2 := 68) rfl ?_
      refine g_callV0 hc (C_X2_isFull (kf_3_1 ht)) mv_X2_isFull ln_X3_72 (kf_3_1 ht) ⟨by decide, by decide⟩ (Nat.le_of_ble_eq_true rfl) dX3_readLine_68 (pc2 := 71) rfl (fun r9 s8 => ?_)
      refine g_if_eq hc dX3_readLine_71 (pc1 := 83) (pc2 := 74) rfl rfl (fun _ => ?_) (fun _ => ?_)
      · refine g_rl0 hc dX3_readLine_83 rfl (pc2 := 84) rfl ?_
        refine g_getR hc fl_X3_42 rfl ht dX3_readLine_84 (pc2 := 87) rfl ?_
        refine g_callV0v hc (C_X8_next (kf_3_0 ht)) mv_X8_next ln_X3_75 (kf_3_0 ht) ⟨by decide, by decide⟩ (Nat.le_of_ble_eq_true rfl) dX3_readLine_87 (pc2 := 90) rfl (fun s11 => ?_)
        refine g_rl0 hc dX3_readLine_90 rfl (pc2 := 91) rfl ?_
        refine g_getR hc fl_X3_12 rfl ht dX3_readLine_91 (pc2 := 94) rfl ?_
        refine g_il1 hc dX3_readLine_94 rfl (pc2 := 95) rfl ?_
        refine g_callV1v hc (C_X2_beginLine (kf_3_1 ht)) mv_X2_beginLine ln_X3_78 (kf_3_1 ht) ⟨by decide, by decide⟩ (Nat.le_of_ble_eq_true rfl) dX3_readLine_95 (pc2 := 98) rfl (fun s13 => ?_)
        refine g_rl0 hc dX3_readLine_98 rfl (pc2 := 99) rfl ?_
        refine g_iconst hc dX3_readLine_99 ic_0 (pc2 := 100) rfl ?_
        refine g_putI hc fl_X3_22 rfl ht dX3_readLine_100 (pc2 := 103) rfl (fun s15 => ?_)
        refine g_rl0 hc dX3_readLine_103 rfl (pc2 := 104) rfl ?_
        refine g_iconst hc dX3_readLine_104 ic_0 (pc2 := 105) rfl ?_
        refine g_putI hc fl_X3_26 rfl ht dX3_readLine_105 (pc2 := 108) rfl (fun s16 => ?_)
        refine g_rl0 hc dX3_readLine_108 rfl (pc2 := 109) rfl ?_
        refine g_iconst hc dX3_readLine_109 ic_0 (pc2 := 110) rfl ?_
        refine g_putI hc fl_X3_29 rfl ht dX3_readLine_110 (pc2 := 113) rfl (fun s17 => ?_)
        refine g_rl0 hc dX3_readLine_113 rfl (pc2 := 114) rfl ?_
        refine g_iconst hc dX3_readLine_114 ic_0 (pc2 := 115) rfl ?_
        refine g_putZ (by decide) hc fl_X3_35 rfl ht dX3_readLine_115 (pc2 := 118) rfl (fun s18 => ?_)
        refine g_rl0 hc dX3_readLine_118 rfl (pc2 := 119) rfl ?_
        refine g_iconst hc dX3_readLine_119 ic_0 (pc2 := 120) rfl ?_
        refine g_putI hc fl_X3_32 rfl ht dX3_readLine_120 (pc2 := 123) rfl (fun s19 => ?_)
        refine g_iconst hc dX3_readLine_123 ic_1 (pc2 := 124) rfl ?_
        refine g_is2 hc dX3_readLine_124 (by decide) (L2 := [some (q_rf w t), some (.int y3), some (.int 1), none]) rfl (pc2 := 125) rfl ?_
        refine g_iconst hc dX3_readLine_125 ic_0 (pc2 := 126) rfl ?_
        refine g_is3 hc dX3_readLine_126 (by decide) (L2 := [some (q_rf w t), some (.int y3), some (.int 1), some (.int 0)]) rfl (pc2 := 127) rfl ?_
        refine q_Gmask [true, false, true, true] (L2 := [some (q_rf w t), none, some (.int 1), some (.int 0)]) rfl ?_
        refine t_X3_readLine_L127 hc ht (fun s30 => ?_) n _ _ _
        refine g_rl0 hc dX3_readLine_171 rfl (pc2 := 172) rfl ?_
        refine g_getR hc fl_X3_42 rfl ht dX3_readLine_172 (pc2 := 175) rfl ?_
        refine g_getI hc fl_X3_88 rfl (kf_3_0 ht) dX3_readLine_175 (pc2 := 178) rfl ?_
        refine g_if_ne hc dX3_readLine_178 (pc1 := 181) (pc2 := 185) rfl rfl (fun _ => ?_) (fun _ => ?_)
        · refine g_iconst hc dX3_readLine_181 ic_1 (pc2 := 182) rfl ?_
          refine g_goto hc dX3_readLine_182 (pc2 := 186) rfl ?_
          exact g_zret0 (by decide) hc dX3_readLine_186
        · refine g_iconst hc dX3_readLine_185 ic_0 (pc2 := 186) rfl ?_
          exact g_zret0 (by decide) hc dX3_readLine_186
      · refine g_rl0 hc dX3_readLine_74 rfl (pc2 := 75) rfl ?_
        refine g_getR hc fl_X3_42 rfl ht dX3_readLine_75 (pc2 := 78) rfl ?_
        refine g_iconst hc dX3_readLine_78 ic_3 (pc2 := 79) rfl ?_
        refine g_callV1 hc (C_X8_fail (kf_3_0 ht)) mv_X8_fail ln_X3_68 (kf_3_0 ht) ⟨by decide, by decide⟩ (Nat.le_of_ble_eq_true rfl) dX3_readLine_79 (pc2 := 82) rfl (fun r33 s32 => ?_)
        exact g_zret hc dX3_readLine_82
  · refine g_if_eq hc dX3_readLine_9 (pc1 := 16) (pc2 := 12) rfl rfl (fun _ => ?_) (fun _ => ?_)
    · refine g_rl0 hc dX3_readLine_16 rfl (pc2 := 17) rfl ?_
      refine g_getR hc fl_X3_42 rfl ht dX3_readLine_17 (pc2 := 20) rfl ?_
      refine g_ldcS (i := 1) (tx := "need") hc (by decide +kernel) dX3_readLine_20 (pc2 := 22) rfl ?_
      refine g_callV1 hc (C_X8_isWord (kf_3_0 ht) (by decide)) mv_X8_isWord ln_X3_60 (kf_3_0 ht) ⟨by decide, by decide⟩ (Nat.le_of_ble_eq_true rfl) dX3_readLine_22 (pc2 := 25) rfl (fun r36 s35 => ?_)
      refine g_if_eq hc dX3_readLine_25 (pc1 := 32) (pc2 := 28) rfl rfl (fun _ => ?_) (fun _ => ?_)
      · refine g_rl0 hc dX3_readLine_32 rfl (pc2 := 33) rfl ?_
        refine g_getR hc fl_X3_42 rfl ht dX3_readLine_33 (pc2 := 36) rfl ?_
        refine g_ldcS (i := 2) (tx := "risk") hc (by decide +kernel) dX3_readLine_36 (pc2 := 38) rfl ?_
        refine g_callV1 hc (C_X8_isWord (kf_3_0 ht) (by decide)) mv_X8_isWord ln_X3_60 (kf_3_0 ht) ⟨by decide, by decide⟩ (Nat.le_of_ble_eq_true rfl) dX3_readLine_38 (pc2 := 41) rfl (fun r39 s38 => ?_)
        refine g_if_eq hc dX3_readLine_41 (pc1 := 48) (pc2 := 44) rfl rfl (fun _ => ?_) (fun _ => ?_)
        · refine g_iconst hc dX3_readLine_48 ic_m1 (pc2 := 49) rfl ?_
          exact hj49 _ _
        · refine g_iconst hc dX3_readLine_44 ic_2 (pc2 := 45) rfl ?_
          refine g_goto hc dX3_readLine_45 (pc2 := 49) rfl ?_
          exact hj49 _ _
      · refine g_iconst hc dX3_readLine_28 ic_1 (pc2 := 29) rfl ?_
        refine g_goto hc dX3_readLine_29 (pc2 := 49) rfl ?_
        exact hj49 _ _
    · refine g_iconst hc dX3_readLine_12 ic_0 (pc2 := 13) rfl ?_
      refine g_goto hc dX3_readLine_13 (pc2 := 49) rfl ?_
      exact hj49 _ _
set_option maxRecDepth 100000 in
set_option maxHeartbeats 4000000 in
def f_X3_read_L9 (n : Nat) (x0 : Nat) : Nat → Int32 → q_Sto → Option (Int32 × q_Sto)
  | 0, _, _ => none
  | j + 1, x1, s0 =>
    if x1 ≤ 400 then (
    q_call (f_X8_isEnd n (q_RF x0 0) s0) fun r5 s4 =>
    if r5 = 0 then (
    q_call (f_X3_readLine n x0 s4) fun r8 s7 =>
    if r8 = 0 then (
    some (0, s7))
    else (
    f_X3_read_L9 n x0  j (x1 + 1) s7))
    else (
    some (1, s4)))
    else (
    some (1, s0))
set_option maxRecDepth 100000 in
set_option maxHeartbeats 4000000 in
def f_X3_read (n : Nat) (t : Nat) (s0 : q_Sto) : Option (Int32 × q_Sto) :=
  q_callv (f_X2_clear n (q_RF t 1) s0) fun s1 =>
  f_X3_read_L9 n t  n 0 s1
set_option maxRecDepth 100000 in
set_option maxHeartbeats 4000000 in
theorem t_X3_read_L9 {w : q_Wd} {cx : q_Cx} (hc : q_ok w cx RX3 cX3_read 2 (some .boolean) (q_rm 10 226)) {n : Nat} {x0 : Nat} (hx0 : q_KD x0 = .inl 3)   :
    ∀ (j : Nat) (x1 : Int32) (s0 : q_Sto), q_G w cx 2 (some .boolean) 9 [some (q_rf w x0), some (.int x1)] [] s0 (f_X3_read_L9 n x0  j x1 s0) := by
  intro j
  induction j with
  | zero =>
    intro _ _
    rw [f_X3_read_L9]
    exact q_none
  | succ j ih =>
    intro x1 s0
    rw [f_X3_read_L9]
    refine g_il1 hc dX3_read_9 rfl (pc2 := 10) rfl ?_
    refine g_sipush hc dX3_read_10 sp_400 (pc2 := 13) rfl ?_
    refine g_icmp_gt hc dX3_read_13 (pc1 := 16) (pc2 := 41) rfl rfl (fun _ => ?_) (fun _ => ?_)
    · refine g_rl0 hc dX3_read_16 rfl (pc2 := 17) rfl ?_
      refine g_getR hc fl_X3_42 rfl hx0 dX3_read_17 (pc2 := 20) rfl ?_
      refine g_callV0 hc (C_X8_isEnd (kf_3_0 hx0)) mv_X8_isEnd ln_X3_49 (kf_3_0 hx0) ⟨by decide, by decide⟩ (Nat.le_of_ble_eq_true rfl) dX3_read_20 (pc2 := 23) rfl (fun r5 s4 => ?_)
      refine g_if_ne hc dX3_read_23 (pc1 := 26) (pc2 := 41) rfl rfl (fun _ => ?_) (fun _ => ?_)
      · refine g_rl0 hc dX3_read_26 rfl (pc2 := 27) rfl ?_
        refine g_callV0 hc (C_X3_readLine hx0) mv_X3_readLine ln_X3_55 hx0 ⟨by decide, by decide⟩ (Nat.le_of_ble_eq_true rfl) dX3_read_27 (pc2 := 30) rfl (fun r8 s7 => ?_)
        refine g_if_ne hc dX3_read_30 (pc1 := 33) (pc2 := 35) rfl rfl (fun _ => ?_) (fun _ => ?_)
        · refine g_iconst hc dX3_read_33 ic_0 (pc2 := 34) rfl ?_
          exact g_zret0 (by decide) hc dX3_read_34
        · refine g_iinc hc dX3_read_35 rfl (q_ii ic_1) (by decide) (L2 := [some (q_rf w x0), some (.int (x1 + 1))]) rfl (pc2 := 38) rfl ?_
          refine g_goto hc dX3_read_38 (pc2 := 9) rfl ?_
          exact ih _ _
      · refine g_iconst hc dX3_read_41 ic_1 (pc2 := 42) rfl ?_
        exact g_zret0 (by decide) hc dX3_read_42
    · refine g_iconst hc dX3_read_41 ic_1 (pc2 := 42) rfl ?_
      exact g_zret0 (by decide) hc dX3_read_42
set_option maxRecDepth 100000 in
set_option maxHeartbeats 4000000 in
theorem C_X3_read {l : Launch} {w : q_Wd} {n : Nat} {t : Nat} (ht : q_KD t = .inl 3) {s0 : q_Sto} : q_C l w yX3_read cX3_read 2 (some .boolean) (q_rm 10 226) [q_rf w t] s0 (f_X3_read n t s0) := q_CofG [some (q_rf w t), none] (by decide +kernel) rfl rfl (Nat.le_of_ble_eq_true rfl) fun cx hl hc => by
  have hc : q_ok w cx RX3 cX3_read 2 (some .boolean) (q_rm 10 226) := hc
  rw [f_X3_read]
  refine g_rl0 hc dX3_read_0 rfl (pc2 := 1) rfl ?_
  refine g_getR hc fl_X3_12 rfl ht dX3_read_1 (pc2 := 4) rfl ?_
  refine g_callV0v hc (C_X2_clear (kf_3_1 ht)) mv_X2_clear ln_X3_46 (kf_3_1 ht) ⟨by decide, by decide⟩ (Nat.le_of_ble_eq_true rfl) dX3_read_4 (pc2 := 7) rfl (fun s1 => ?_)
  refine g_iconst hc dX3_read_7 ic_0 (pc2 := 8) rfl ?_
  refine g_is1 hc dX3_read_8 (by decide) (L2 := [some (q_rf w t), some (.int 0)]) rfl (pc2 := 9) rfl ?_
  refine t_X3_read_L9 hc ht  n _ _
set_option maxRecDepth 100000 in
set_option maxHeartbeats 4000000 in
def f_X6_clear (n : Nat) (t : Nat) (s0 : q_Sto) : Option (Int32 × q_Sto) :=
  q_nS1 (q_up s0 t 2 0) fun s1 =>
  some (0, s1)
set_option maxRecDepth 100000 in
set_option maxHeartbeats 4000000 in
theorem C_X6_clear {l : Launch} {w : q_Wd} {n : Nat} {t : Nat} (ht : q_KD t = .inl 6) {s0 : q_Sto} : q_C l w yX6_clear cX6_clear 1 (none) (q_rm 0 0) [q_rf w t] s0 (f_X6_clear n t s0) := q_CofG [some (q_rf w t)] (by decide +kernel) rfl rfl (Nat.le_of_ble_eq_true rfl) fun cx hl hc => by
  have hc : q_ok w cx RX6 cX6_clear 1 (none) (q_rm 0 0) := hc
  rw [f_X6_clear]
  refine g_rl0 hc dX6_clear_0 rfl (pc2 := 1) rfl ?_
  refine g_iconst hc dX6_clear_1 ic_0 (pc2 := 2) rfl ?_
  refine g_putI hc fl_X6_15 rfl ht dX6_clear_2 (pc2 := 5) rfl (fun s1 => ?_)
  exact g_vret hc dX6_clear_5
set_option maxRecDepth 100000 in
set_option maxHeartbeats 4000000 in
def f_X6_add (n : Nat) (t : Nat) (a0 : Int32) (a1 : Int32) (a2 : Int32) (a3 : Int32) (s0 : q_Sto) : Option (Int32 × q_Sto) :=
  if (s0 t 2) < 0 then (
  some (0, s0))
  else (
  if (s0 t 2) < (s0 t 1) then (
  q_nm ((s0 t 2) * 4) fun v3 =>
  q_st s0 (q_RF t 0) v3 64 a0 fun s4 =>
  q_st s4 (q_RF t 0) (v3 + 1) 64 a1 fun s5 =>
  q_st s5 (q_RF t 0) (v3 + 2) 64 a2 fun s6 =>
  q_st s6 (q_RF t 0) (v3 + 3) 64 a3 fun s7 =>
  q_nS1 (q_up s7 t 2 ((s7 t 2) + 1)) fun s8 =>
  some (0, s8))
  else (
  some (0, s0)))
set_option maxRecDepth 100000 in
set_option maxHeartbeats 4000000 in
theorem C_X6_add {l : Launch} {w : q_Wd} {n : Nat} {t : Nat} {a0 : Int32} {a1 : Int32} {a2 : Int32} {a3 : Int32} (ht : q_KD t = .inl 6) {s0 : q_Sto} : q_C l w yX6_add cX6_add 6 (none) (q_rm 0 0) [q_rf w t, .int a0, .int a1, .int a2, .int a3] s0 (f_X6_add n t a0 a1 a2 a3 s0) := q_CofG [some (q_rf w t), some (.int a0), some (.int a1), some (.int a2), some (.int a3), none] (by decide +kernel) rfl rfl (Nat.le_of_ble_eq_true rfl) fun cx hl hc => by
  have hc : q_ok w cx RX6 cX6_add 6 (none) (q_rm 0 0) := hc
  rw [f_X6_add]
  refine g_rl0 hc dX6_add_0 rfl (pc2 := 1) rfl ?_
  refine g_getI hc fl_X6_15 rfl ht dX6_add_1 (pc2 := 4) rfl ?_
  refine g_if_lt hc dX6_add_4 (pc1 := 75) (pc2 := 7) rfl rfl (fun _ => ?_) (fun _ => ?_)
  · exact g_vret hc dX6_add_75
  · refine g_rl0 hc dX6_add_7 rfl (pc2 := 8) rfl ?_
    refine g_getI hc fl_X6_15 rfl ht dX6_add_8 (pc2 := 11) rfl ?_
    refine g_rl0 hc dX6_add_11 rfl (pc2 := 12) rfl ?_
    refine g_getI hc fl_X6_28 rfl ht dX6_add_12 (pc2 := 15) rfl ?_
    refine g_icmp_ge hc dX6_add_15 (pc1 := 18) (pc2 := 75) rfl rfl (fun _ => ?_) (fun _ => ?_)
    · refine g_rl0 hc dX6_add_18 rfl (pc2 := 19) rfl ?_
      refine g_getI hc fl_X6_15 rfl ht dX6_add_19 (pc2 := 22) rfl ?_
      refine g_iconst hc dX6_add_22 ic_4 (pc2 := 23) rfl ?_
      refine g_imul hc dX6_add_23 (pc2 := 24) rfl ?_
      refine g_nm (fun v3 => ?_)
      refine g_istore hc dX6_add_24 (by decide) (L2 := [some (q_rf w t), some (.int a0), some (.int a1), some (.int a2), some (.int a3), some (.int v3)]) rfl (pc2 := 26) rfl ?_
      refine g_rl0 hc dX6_add_26 rfl (pc2 := 27) rfl ?_
      refine g_getR hc fl_X6_11 rfl ht dX6_add_27 (pc2 := 30) rfl ?_
      refine g_iload hc dX6_add_30 rfl (pc2 := 32) rfl ?_
      refine g_il1 hc dX6_add_32 rfl (pc2 := 33) rfl ?_
      refine g_iast hc (kf_6_0 ht) (kl_6_0 ht) dX6_add_33 (pc2 := 34) rfl (fun s4 => ?_)
      refine g_rl0 hc dX6_add_34 rfl (pc2 := 35) rfl ?_
      refine g_getR hc fl_X6_11 rfl ht dX6_add_35 (pc2 := 38) rfl ?_
      refine g_iload hc dX6_add_38 rfl (pc2 := 40) rfl ?_
      refine g_iconst hc dX6_add_40 ic_1 (pc2 := 41) rfl ?_
      refine g_iadd hc dX6_add_41 (pc2 := 42) rfl ?_
      refine g_il2 hc dX6_add_42 rfl (pc2 := 43) rfl ?_
      refine g_iast hc (kf_6_0 ht) (kl_6_0 ht) dX6_add_43 (pc2 := 44) rfl (fun s5 => ?_)
      refine g_rl0 hc dX6_add_44 rfl (pc2 := 45) rfl ?_
      refine g_getR hc fl_X6_11 rfl ht dX6_add_45 (pc2 := 48) rfl ?_
      refine g_iload hc dX6_add_48 rfl (pc2 := 50) rfl ?_
      refine g_iconst hc dX6_add_50 ic_2 (pc2 := 51) rfl ?_
      refine g_iadd hc dX6_add_51 (pc2 := 52) rfl ?_
      refine g_il3 hc dX6_add_52 rfl (pc2 := 53) rfl ?_
      refine g_iast hc (kf_6_0 ht) (kl_6_0 ht) dX6_add_53 (pc2 := 54) rfl (fun s6 => ?_)
      refine g_rl0 hc dX6_add_54 rfl (pc2 := 55) rfl ?_
      refine g_getR hc fl_X6_11 rfl ht dX6_add_55 (pc2 := 58) rfl ?_
      refine g_iload hc dX6_add_58 rfl (pc2 := 60) rfl ?_
      refine g_iconst hc dX6_add_60 ic_3 (pc2 := 61) rfl ?_
      refine g_iadd hc dX6_add_61 (pc2 := 62) rfl ?_
      refine g_iload hc dX6_add_62 rfl (pc2 := 64) rfl ?_
      refine g_iast hc (kf_6_0 ht) (kl_6_0 ht) dX6_add_64 (pc2 := 65) rfl (fun s7 => ?_)
      refine g_rl0 hc dX6_add_65 rfl (pc2 := 66) rfl ?_
      refine g_dup hc dX6_add_66 rfl (pc2 := 67) rfl ?_
      refine g_getI hc fl_X6_15 rfl ht dX6_add_67 (pc2 := 70) rfl ?_
      refine g_iconst hc dX6_add_70 ic_1 (pc2 := 71) rfl ?_
      refine g_iadd hc dX6_add_71 (pc2 := 72) rfl ?_
      refine g_putI hc fl_X6_15 rfl ht dX6_add_72 (pc2 := 75) rfl (fun s8 => ?_)
      exact g_vret hc dX6_add_75
    · exact g_vret hc dX6_add_75
set_option maxRecDepth 100000 in
set_option maxHeartbeats 4000000 in
def f_X6_copyFrom (n : Nat) (t : Nat) (a0 : Nat) (s0 : q_Sto) : Option (Int32 × q_Sto) :=
  q_callv (f_X11_copyRow n (q_RF a0 0) 64 (q_RF t 0) 64 s0) fun s1 =>
  q_nS1 (q_up s1 t 2 (q_mn (s1 a0 2) (s1 t 1))) fun s3 =>
  some (0, s3)
set_option maxRecDepth 100000 in
set_option maxHeartbeats 4000000 in
theorem C_X6_copyFrom {l : Launch} {w : q_Wd} {n : Nat} {t : Nat} {a0 : Nat} (ht : q_KD t = .inl 6) (ha0 : q_KD a0 = .inl 6) {s0 : q_Sto} : q_C l w yX6_copyFrom cX6_copyFrom 2 (none) (q_rm 2 101) [q_rf w t, q_rf w a0] s0 (f_X6_copyFrom n t a0 s0) := q_CofG [some (q_rf w t), some (q_rf w a0)] (by decide +kernel) rfl rfl (Nat.le_of_ble_eq_true rfl) fun cx hl hc => by
  have hc : q_ok w cx RX6 cX6_copyFrom 2 (none) (q_rm 2 101) := hc
  rw [f_X6_copyFrom]
  refine g_rl1 hc dX6_copyFrom_0 rfl (pc2 := 1) rfl ?_
  refine g_getR hc fl_X6_11 rfl ha0 dX6_copyFrom_1 (pc2 := 4) rfl ?_
  refine g_rl0 hc dX6_copyFrom_4 rfl (pc2 := 5) rfl ?_
  refine g_getR hc fl_X6_11 rfl ht dX6_copyFrom_5 (pc2 := 8) rfl ?_
  refine g_callSN2v (host := "MuleVote") hc (C_X11_copyRow (kf_6_0 ha0) (kl_6_0 ha0) (kf_6_0 ht) (kl_6_0 ht)) mv_X11_copyRow (by decide +kernel) ⟨by decide, by decide⟩ (Nat.le_of_ble_eq_true rfl) dX6_copyFrom_8 (pc2 := 11) rfl (fun s1 => ?_)
  refine g_rl0 hc dX6_copyFrom_11 rfl (pc2 := 12) rfl ?_
  refine g_rl1 hc dX6_copyFrom_12 rfl (pc2 := 13) rfl ?_
  refine g_getI hc fl_X6_15 rfl ha0 dX6_copyFrom_13 (pc2 := 16) rfl ?_
  refine g_rl0 hc dX6_copyFrom_16 rfl (pc2 := 17) rfl ?_
  refine g_getI hc fl_X6_28 rfl ht dX6_copyFrom_17 (pc2 := 20) rfl ?_
  refine g_min hc ln_X6_19 ⟨by decide, by decide⟩ (Nat.le_of_ble_eq_true rfl) dX6_copyFrom_20 (pc2 := 23) rfl ?_
  refine g_putI hc fl_X6_15 rfl ht dX6_copyFrom_23 (pc2 := 26) rfl (fun s3 => ?_)
  exact g_vret hc dX6_copyFrom_26
set_option maxRecDepth 100000 in
set_option maxHeartbeats 4000000 in
def f_X8_takeWord (n : Nat) (t : Nat) (a0 : Nat) (s0 : q_Sto) : Option (Int32 × q_Sto) :=
  q_call (f_X8_isWord n t a0 s0) fun r2 s1 =>
  if r2 = 0 then (
  some (0, s1))
  else (
  q_callv (f_X8_next n t s1) fun s4 =>
  some (1, s4))
set_option maxRecDepth 100000 in
set_option maxHeartbeats 4000000 in
theorem C_X8_takeWord {l : Launch} {w : q_Wd} {n : Nat} {t : Nat} {a0 : Nat} (ht : q_KD t = .inl 8) (ha0 : a0 < q_nS) {s0 : q_Sto} : q_C l w yX8_takeWord cX8_takeWord 2 (some .boolean) (q_rm 7 162) [q_rf w t, q_rs w a0] s0 (f_X8_takeWord n t a0 s0) := q_CofG [some (q_rf w t), some (q_rs w a0)] (by decide +kernel) rfl rfl (Nat.le_of_ble_eq_true rfl) fun cx hl hc => by
  have hc : q_ok w cx RX8 cX8_takeWord 2 (some .boolean) (q_rm 7 162) := hc
  rw [f_X8_takeWord]
  refine g_rl0 hc dX8_takeWord_0 rfl (pc2 := 1) rfl ?_
  refine g_sl1 hc dX8_takeWord_1 rfl (pc2 := 2) rfl ?_
  refine g_callV1 hc (C_X8_isWord ht ha0) mv_X8_isWord ln_X8_64 ht ⟨by decide, by decide⟩ (Nat.le_of_ble_eq_true rfl) dX8_takeWord_2 (pc2 := 5) rfl (fun r2 s1 => ?_)
  refine g_if_ne hc dX8_takeWord_5 (pc1 := 8) (pc2 := 10) rfl rfl (fun _ => ?_) (fun _ => ?_)
  · refine g_iconst hc dX8_takeWord_8 ic_0 (pc2 := 9) rfl ?_
    exact g_zret0 (by decide) hc dX8_takeWord_9
  · refine g_rl0 hc dX8_takeWord_10 rfl (pc2 := 11) rfl ?_
    refine g_callV0v hc (C_X8_next ht) mv_X8_next ln_X8_37 ht ⟨by decide, by decide⟩ (Nat.le_of_ble_eq_true rfl) dX8_takeWord_11 (pc2 := 14) rfl (fun s4 => ?_)
    refine g_iconst hc dX8_takeWord_14 ic_1 (pc2 := 15) rfl ?_
    exact g_zret0 (by decide) hc dX8_takeWord_15
set_option maxRecDepth 100000 in
set_option maxHeartbeats 4000000 in
def f_X8_expectWord (n : Nat) (t : Nat) (a0 : Nat) (s0 : q_Sto) : Option (Int32 × q_Sto) :=
  q_call (f_X8_takeWord n t a0 s0) fun r2 s1 =>
  if r2 = 0 then (
  q_call (f_X8_fail n t 1 s1) fun r5 s4 =>
  if r5 = 0 then (
  some (0, s4))
  else (
  some (1, s4)))
  else (
  some (1, s1))
set_option maxRecDepth 100000 in
set_option maxHeartbeats 4000000 in
theorem C_X8_expectWord {l : Launch} {w : q_Wd} {n : Nat} {t : Nat} {a0 : Nat} (ht : q_KD t = .inl 8) (ha0 : a0 < q_nS) {s0 : q_Sto} : q_C l w yX8_expectWord cX8_expectWord 2 (some .boolean) (q_rm 8 183) [q_rf w t, q_rs w a0] s0 (f_X8_expectWord n t a0 s0) := q_CofG [some (q_rf w t), some (q_rs w a0)] (by decide +kernel) rfl rfl (Nat.le_of_ble_eq_true rfl) fun cx hl hc => by
  have hc : q_ok w cx RX8 cX8_expectWord 2 (some .boolean) (q_rm 8 183) := hc
  rw [f_X8_expectWord]
  refine g_rl0 hc dX8_expectWord_0 rfl (pc2 := 1) rfl ?_
  refine g_sl1 hc dX8_expectWord_1 rfl (pc2 := 2) rfl ?_
  refine g_callV1 hc (C_X8_takeWord ht ha0) mv_X8_takeWord ln_X8_68 ht ⟨by decide, by decide⟩ (Nat.le_of_ble_eq_true rfl) dX8_expectWord_2 (pc2 := 5) rfl (fun r2 s1 => ?_)
  refine g_if_ne hc dX8_expectWord_5 (pc1 := 8) (pc2 := 16) rfl rfl (fun _ => ?_) (fun _ => ?_)
  · refine g_rl0 hc dX8_expectWord_8 rfl (pc2 := 9) rfl ?_
    refine g_iconst hc dX8_expectWord_9 ic_1 (pc2 := 10) rfl ?_
    refine g_callV1 hc (C_X8_fail ht) mv_X8_fail ln_X8_71 ht ⟨by decide, by decide⟩ (Nat.le_of_ble_eq_true rfl) dX8_expectWord_10 (pc2 := 13) rfl (fun r5 s4 => ?_)
    refine g_if_eq hc dX8_expectWord_13 (pc1 := 20) (pc2 := 16) rfl rfl (fun _ => ?_) (fun _ => ?_)
    · refine g_iconst hc dX8_expectWord_20 ic_0 (pc2 := 21) rfl ?_
      exact g_zret0 (by decide) hc dX8_expectWord_21
    · refine g_iconst hc dX8_expectWord_16 ic_1 (pc2 := 17) rfl ?_
      refine g_goto hc dX8_expectWord_17 (pc2 := 21) rfl ?_
      exact g_zret0 (by decide) hc dX8_expectWord_21
  · refine g_iconst hc dX8_expectWord_16 ic_1 (pc2 := 17) rfl ?_
    refine g_goto hc dX8_expectWord_17 (pc2 := 21) rfl ?_
    exact g_zret0 (by decide) hc dX8_expectWord_21
set_option maxRecDepth 100000 in
set_option maxHeartbeats 4000000 in
def f_X7_readHeed_L43 (n : Nat) (x0 : Nat) (x1 : Nat) (x2 : Int32) (k105 : Int32 → q_Sto → Option (Int32 × q_Sto)) : Nat → Int32 → Int32 → Int32 → q_Sto → Option (Int32 × q_Sto)
  | 0, _, _, _, _ => none
  | j + 1, x3, x4, x5, s0 =>
    if x5 ≤ 400 then (
    if x4 = 0 then (
    k105 x3 s0)
    else (
    q_call (f_X8_expectNumber n (q_RF x0 0) 0 ((s0 x1 8) - 1) x2 s0) fun r10 s9 =>
    if r10 = (-1) then (
    some (0, s9))
    else (
    q_nm (x3 ||| (1 <<< (r10 &&& 31))) fun v12 =>
    q_call (f_X8_takeWord n (q_RF x0 0) 22 s9) fun r14 s13 =>
    f_X7_readHeed_L43 n x0 x1 x2 k105 j v12 r14 (x5 + 1) s13)))
    else (
    k105 x3 s0)
set_option maxRecDepth 100000 in
set_option maxHeartbeats 4000000 in
def f_X7_readHeed (n : Nat) (t : Nat) (a0 : Nat) (s0 : q_Sto) : Option (Int32 × q_Sto) :=
  q_call (f_X8_expectNumber n (q_RF t 0) 0 ((s0 a0 8) - 1) (-1) s0) fun r2 s1 =>
  if r2 = (-1) then (
  some (0, s1))
  else (
  q_call (f_X8_expectWord n (q_RF t 0) 21 s1) fun r5 s4 =>
  if r5 = 0 then (
  some (0, s4))
  else (
  f_X7_readHeed_L43 n t a0 r2 (fun (y15 : Int32) (s16 : q_Sto) =>
  q_callv (f_X6_add n (q_RF t 1) r2 y15 0 0 s16) fun s17 =>
  some (1, s17)) n 0 1 0 s4))
set_option maxRecDepth 100000 in
set_option maxHeartbeats 4000000 in
theorem t_X7_readHeed_L43 {w : q_Wd} {cx : q_Cx} (hc : q_ok w cx RX7 cX7_readHeed 7 (some .boolean) (q_rm 9 204)) {n : Nat} {x0 : Nat} {x1 : Nat} {x2 : Int32} (hx0 : q_KD x0 = .inl 7) (hx1 : q_KD x1 = .inl 9) {k105 : Int32 → q_Sto → Option (Int32 × q_Sto)} (hk105 : ∀ (y3 : Int32) (s1 : q_Sto), q_G w cx 7 (some .boolean) 105 [some (q_rf w x0), none, some (.int x2), some (.int y3), none, none, none] [] s1 (k105 y3 s1)) :
    ∀ (j : Nat) (x3 : Int32) (x4 : Int32) (x5 : Int32) (s0 : q_Sto), q_G w cx 7 (some .boolean) 43 [some (q_rf w x0), some (q_rf w x1), some (.int x2), some (.int x3), some (.int x4), some (.int x5), none] [] s0 (f_X7_readHeed_L43 n x0 x1 x2 k105 j x3 x4 x5 s0) := by
  intro j
  induction j with
  | zero =>
    intro _ _ _ _
    rw [f_X7_readHeed_L43]
    exact q_none
  | succ j ih =>
    intro x3 x4 x5 s0
    rw [f_X7_readHeed_L43]
    refine g_iload hc dX7_readHeed_43 rfl (pc2 := 45) rfl ?_
    refine g_sipush hc dX7_readHeed_45 sp_400 (pc2 := 48) rfl ?_
    refine g_icmp_gt hc dX7_readHeed_48 (pc1 := 51) (pc2 := 105) rfl rfl (fun _ => ?_) (fun _ => ?_)
    · refine g_iload hc dX7_readHeed_51 rfl (pc2 := 53) rfl ?_
      refine g_if_eq hc dX7_readHeed_53 (pc1 := 105) (pc2 := 56) rfl rfl (fun _ => ?_) (fun _ => ?_)
      · refine q_Gmask [true, false, true, true, false, false, true] (L2 := [some (q_rf w x0), none, some (.int x2), some (.int x3), none, none, none]) rfl ?_
        exact hk105 _ _
      · refine g_rl0 hc dX7_readHeed_56 rfl (pc2 := 57) rfl ?_
        refine g_getR hc fl_X7_20 rfl hx0 dX7_readHeed_57 (pc2 := 60) rfl ?_
        refine g_iconst hc dX7_readHeed_60 ic_0 (pc2 := 61) rfl ?_
        refine g_rl1 hc dX7_readHeed_61 rfl (pc2 := 62) rfl ?_
        refine g_getI hc fl_X7_77 rfl hx1 dX7_readHeed_62 (pc2 := 65) rfl ?_
        refine g_iconst hc dX7_readHeed_65 ic_1 (pc2 := 66) rfl ?_
        refine g_isub hc dX7_readHeed_66 (pc2 := 67) rfl ?_
        refine g_il2 hc dX7_readHeed_67 rfl (pc2 := 68) rfl ?_
        refine g_callV3 hc (C_X8_expectNumber (kf_7_0 hx0)) mv_X8_expectNumber ln_X7_82 (kf_7_0 hx0) ⟨by decide, by decide⟩ (Nat.le_of_ble_eq_true rfl) dX7_readHeed_68 (pc2 := 71) rfl (fun r10 s9 => ?_)
        refine g_istore hc dX7_readHeed_71 (by decide) (L2 := [some (q_rf w x0), some (q_rf w x1), some (.int x2), some (.int x3), some (.int x4), some (.int x5), some (.int r10)]) rfl (pc2 := 73) rfl ?_
        refine g_iload hc dX7_readHeed_73 rfl (pc2 := 75) rfl ?_
        refine g_iconst hc dX7_readHeed_75 ic_m1 (pc2 := 76) rfl ?_
        refine g_icmp_ne hc dX7_readHeed_76 (pc1 := 79) (pc2 := 81) rfl rfl (fun _ => ?_) (fun _ => ?_)
        · refine g_iconst hc dX7_readHeed_79 ic_0 (pc2 := 80) rfl ?_
          exact g_zret0 (by decide) hc dX7_readHeed_80
        · refine g_il3 hc dX7_readHeed_81 rfl (pc2 := 82) rfl ?_
          refine g_iconst hc dX7_readHeed_82 ic_1 (pc2 := 83) rfl ?_
          refine g_iload hc dX7_readHeed_83 rfl (pc2 := 85) rfl ?_
          refine g_ishl hc dX7_readHeed_85 (pc2 := 86) rfl ?_
          refine g_ior hc dX7_readHeed_86 (pc2 := 87) rfl ?_
          refine g_nm (fun v12 => ?_)
          refine g_is3 hc dX7_readHeed_87 (by decide) (L2 := [some (q_rf w x0), some (q_rf w x1), some (.int x2), some (.int v12), some (.int x4), some (.int x5), some (.int r10)]) rfl (pc2 := 88) rfl ?_
          refine g_rl0 hc dX7_readHeed_88 rfl (pc2 := 89) rfl ?_
          refine g_getR hc fl_X7_20 rfl hx0 dX7_readHeed_89 (pc2 := 92) rfl ?_
          refine g_ldcS (i := 22) (tx := "and") hc (by decide +kernel) dX7_readHeed_92 (pc2 := 94) rfl ?_
          refine g_callV1 hc (C_X8_takeWord (kf_7_0 hx0) (by decide)) mv_X8_takeWord ln_X7_93 (kf_7_0 hx0) ⟨by decide, by decide⟩ (Nat.le_of_ble_eq_true rfl) dX7_readHeed_94 (pc2 := 97) rfl (fun r14 s13 => ?_)
          refine g_istore hc dX7_readHeed_97 (by decide) (L2 := [some (q_rf w x0), some (q_rf w x1), some (.int x2), some (.int v12), some (.int r14), some (.int x5), some (.int r10)]) rfl (pc2 := 99) rfl ?_
          refine g_iinc hc dX7_readHeed_99 rfl (q_ii ic_1) (by decide) (L2 := [some (q_rf w x0), some (q_rf w x1), some (.int x2), some (.int v12), some (.int r14), some (.int (x5 + 1)), some (.int r10)]) rfl (pc2 := 102) rfl ?_
          refine g_goto hc dX7_readHeed_102 (pc2 := 43) rfl ?_
          refine q_Gmask [true, true, true, true, true, true, false] (L2 := [some (q_rf w x0), some (q_rf w x1), some (.int x2), some (.int v12), some (.int r14), some (.int (x5 + 1)), none]) rfl ?_
          exact ih _ _ _ _
    · refine q_Gmask [true, false, true, true, false, false, true] (L2 := [some (q_rf w x0), none, some (.int x2), some (.int x3), none, none, none]) rfl ?_
      exact hk105 _ _
set_option maxRecDepth 100000 in
set_option maxHeartbeats 4000000 in
theorem C_X7_readHeed {l : Launch} {w : q_Wd} {n : Nat} {t : Nat} {a0 : Nat} (ht : q_KD t = .inl 7) (ha0 : q_KD a0 = .inl 9) {s0 : q_Sto} : q_C l w yX7_readHeed cX7_readHeed 7 (some .boolean) (q_rm 9 204) [q_rf w t, q_rf w a0] s0 (f_X7_readHeed n t a0 s0) := q_CofG [some (q_rf w t), some (q_rf w a0), none, none, none, none, none] (by decide +kernel) rfl rfl (Nat.le_of_ble_eq_true rfl) fun cx hl hc => by
  have hc : q_ok w cx RX7 cX7_readHeed 7 (some .boolean) (q_rm 9 204) := hc
  rw [f_X7_readHeed]
  refine g_rl0 hc dX7_readHeed_0 rfl (pc2 := 1) rfl ?_
  refine g_getR hc fl_X7_20 rfl ht dX7_readHeed_1 (pc2 := 4) rfl ?_
  refine g_iconst hc dX7_readHeed_4 ic_0 (pc2 := 5) rfl ?_
  refine g_rl1 hc dX7_readHeed_5 rfl (pc2 := 6) rfl ?_
  refine g_getI hc fl_X7_77 rfl ha0 dX7_readHeed_6 (pc2 := 9) rfl ?_
  refine g_iconst hc dX7_readHeed_9 ic_1 (pc2 := 10) rfl ?_
  refine g_isub hc dX7_readHeed_10 (pc2 := 11) rfl ?_
  refine g_iconst hc dX7_readHeed_11 ic_m1 (pc2 := 12) rfl ?_
  refine g_callV3 hc (C_X8_expectNumber (kf_7_0 ht)) mv_X8_expectNumber ln_X7_82 (kf_7_0 ht) ⟨by decide, by decide⟩ (Nat.le_of_ble_eq_true rfl) dX7_readHeed_12 (pc2 := 15) rfl (fun r2 s1 => ?_)
  refine g_is2 hc dX7_readHeed_15 (by decide) (L2 := [some (q_rf w t), some (q_rf w a0), some (.int r2), none, none, none, none]) rfl (pc2 := 16) rfl ?_
  refine g_il2 hc dX7_readHeed_16 rfl (pc2 := 17) rfl ?_
  refine g_iconst hc dX7_readHeed_17 ic_m1 (pc2 := 18) rfl ?_
  refine g_icmp_eq hc dX7_readHeed_18 (pc1 := 33) (pc2 := 21) rfl rfl (fun _ => ?_) (fun _ => ?_)
  · refine g_iconst hc dX7_readHeed_33 ic_0 (pc2 := 34) rfl ?_
    exact g_zret0 (by decide) hc dX7_readHeed_34
  · refine g_rl0 hc dX7_readHeed_21 rfl (pc2 := 22) rfl ?_
    refine g_getR hc fl_X7_20 rfl ht dX7_readHeed_22 (pc2 := 25) rfl ?_
    refine g_ldcS (i := 21) (tx := "heeds") hc (by decide +kernel) dX7_readHeed_25 (pc2 := 27) rfl ?_
    refine g_callV1 hc (C_X8_expectWord (kf_7_0 ht) (by decide)) mv_X8_expectWord ln_X7_88 (kf_7_0 ht) ⟨by decide, by decide⟩ (Nat.le_of_ble_eq_true rfl) dX7_readHeed_27 (pc2 := 30) rfl (fun r5 s4 => ?_)
    refine g_if_ne hc dX7_readHeed_30 (pc1 := 33) (pc2 := 35) rfl rfl (fun _ => ?_) (fun _ => ?_)
    · refine g_iconst hc dX7_readHeed_33 ic_0 (pc2 := 34) rfl ?_
      exact g_zret0 (by decide) hc dX7_readHeed_34
    · refine g_iconst hc dX7_readHeed_35 ic_0 (pc2 := 36) rfl ?_
      refine g_is3 hc dX7_readHeed_36 (by decide) (L2 := [some (q_rf w t), some (q_rf w a0), some (.int r2), some (.int 0), none, none, none]) rfl (pc2 := 37) rfl ?_
      refine g_iconst hc dX7_readHeed_37 ic_1 (pc2 := 38) rfl ?_
      refine g_istore hc dX7_readHeed_38 (by decide) (L2 := [some (q_rf w t), some (q_rf w a0), some (.int r2), some (.int 0), some (.int 1), none, none]) rfl (pc2 := 40) rfl ?_
      refine g_iconst hc dX7_readHeed_40 ic_0 (pc2 := 41) rfl ?_
      refine g_istore hc dX7_readHeed_41 (by decide) (L2 := [some (q_rf w t), some (q_rf w a0), some (.int r2), some (.int 0), some (.int 1), some (.int 0), none]) rfl (pc2 := 43) rfl ?_
      refine t_X7_readHeed_L43 hc ht ha0 (fun y15 s16 => ?_) n _ _ _ _
      refine g_rl0 hc dX7_readHeed_105 rfl (pc2 := 106) rfl ?_
      refine g_getR hc fl_X7_14 rfl ht dX7_readHeed_106 (pc2 := 109) rfl ?_
      refine g_il2 hc dX7_readHeed_109 rfl (pc2 := 110) rfl ?_
      refine g_il3 hc dX7_readHeed_110 rfl (pc2 := 111) rfl ?_
      refine g_iconst hc dX7_readHeed_111 ic_0 (pc2 := 112) rfl ?_
      refine g_iconst hc dX7_readHeed_112 ic_0 (pc2 := 113) rfl ?_
      refine g_callV4v hc (C_X6_add (kf_7_1 ht)) mv_X6_add ln_X7_96 (kf_7_1 ht) ⟨by decide, by decide⟩ (Nat.le_of_ble_eq_true rfl) dX7_readHeed_113 (pc2 := 116) rfl (fun s17 => ?_)
      refine g_iconst hc dX7_readHeed_116 ic_1 (pc2 := 117) rfl ?_
      exact g_zret0 (by decide) hc dX7_readHeed_117
set_option maxRecDepth 100000 in
set_option maxHeartbeats 4000000 in
def f_X7_readPlan (n : Nat) (t : Nat) (a0 : Nat) (s0 : q_Sto) : Option (Int32 × q_Sto) :=
  q_call (f_X8_expectNumber n (q_RF t 0) 0 999 (-1) s0) fun r2 s1 =>
  if r2 = (-1) then (
  some (0, s1))
  else (
  q_call (f_X8_takeWord n (q_RF t 0) 23 s1) fun r5 s4 =>
  if r5 = 0 then (
  q_call (f_X8_isWord n (q_RF t 0) 24 s4) fun r8 s7 =>
  q_jn (fun (y9 : Int32) (s10 : q_Sto) =>
    if y9 = (-1) then (
    q_call (f_X8_fail n (q_RF t 0) 1 s10) fun r13 s12 =>
    q_rz r13 s12)
    else (
    q_callv (f_X8_next n (q_RF t 0) s10) fun s14 =>
    q_jn (fun (y16 : Int32) (s17 : q_Sto) =>
      q_call (f_X8_expectNumber n (q_RF t 0) 0 y16 (-1) s17) fun r19 s18 =>
      if r19 = (-1) then (
      some (0, s18))
      else (
      q_jn (fun  (s21 : q_Sto) =>
        q_call (f_X8_expectNumber n (q_RF t 0) 0 ((s21 a0 8) - 1) (-1) s21) fun r23 s22 =>
        q_callv (f_X6_add n (q_RF t 1) r2 y9 r19 r23 s22) fun s24 =>
        if r23 = (-1) then (
        some (0, s24))
        else (
        some (1, s24))) fun j180 =>
      q_jn (fun (y27 : Int32) (s28 : q_Sto) =>
        q_callv (f_X6_add n (q_RF t 1) r2 y9 r19 y27 s28) fun s29 =>
        if y27 = (-1) then (
        some (0, s29))
        else (
        some (1, s29))) fun j197 =>
      if y9 = 1 then (
      j180 s18)
      else (
      if y9 = 3 then (
      j180 s18)
      else (
      j197 0 s18)))) fun j153 =>
    if y9 = 4 then (
    j153 9 s14)
    else (
    j153 ((s14 a0 9) - 1) s14))) fun j110 =>
  if r8 = 0 then (
  q_call (f_X8_isWord n (q_RF t 0) 25 s7) fun r37 s36 =>
  if r37 = 0 then (
  q_call (f_X8_isWord n (q_RF t 0) 26 s36) fun r40 s39 =>
  if r40 = 0 then (
  q_call (f_X8_isWord n (q_RF t 0) 27 s39) fun r43 s42 =>
  if r43 = 0 then (
  j110 (-1) s42)
  else (
  j110 4 s42))
  else (
  j110 3 s39))
  else (
  j110 2 s36))
  else (
  j110 1 s7))
  else (
  q_callv (f_X6_add n (q_RF t 1) r2 0 0 0 s4) fun s45 =>
  some (1, s45)))
set_option maxRecDepth 100000 in
set_option maxHeartbeats 4000000 in
theorem C_X7_readPlan {l : Launch} {w : q_Wd} {n : Nat} {t : Nat} {a0 : Nat} (ht : q_KD t = .inl 7) (ha0 : q_KD a0 = .inl 9) {s0 : q_Sto} : q_C l w yX7_readPlan cX7_readPlan 6 (some .boolean) (q_rm 8 183) [q_rf w t, q_rf w a0] s0 (f_X7_readPlan n t a0 s0) := q_CofG [some (q_rf w t), some (q_rf w a0), none, none, none, none] (by decide +kernel) rfl rfl (Nat.le_of_ble_eq_true rfl) fun cx hl hc => by
  have hc : q_ok w cx RX7 cX7_readPlan 6 (some .boolean) (q_rm 8 183) := hc
  rw [f_X7_readPlan]
  refine g_rl0 hc dX7_readPlan_0 rfl (pc2 := 1) rfl ?_
  refine g_getR hc fl_X7_20 rfl ht dX7_readPlan_1 (pc2 := 4) rfl ?_
  refine g_iconst hc dX7_readPlan_4 ic_0 (pc2 := 5) rfl ?_
  refine g_sipush hc dX7_readPlan_5 sp_999 (pc2 := 8) rfl ?_
  refine g_iconst hc dX7_readPlan_8 ic_m1 (pc2 := 9) rfl ?_
  refine g_callV3 hc (C_X8_expectNumber (kf_7_0 ht)) mv_X8_expectNumber ln_X7_82 (kf_7_0 ht) ⟨by decide, by decide⟩ (Nat.le_of_ble_eq_true rfl) dX7_readPlan_9 (pc2 := 12) rfl (fun r2 s1 => ?_)
  refine g_is2 hc dX7_readPlan_12 (by decide) (L2 := [some (q_rf w t), some (q_rf w a0), some (.int r2), none, none, none]) rfl (pc2 := 13) rfl ?_
  refine g_il2 hc dX7_readPlan_13 rfl (pc2 := 14) rfl ?_
  refine g_iconst hc dX7_readPlan_14 ic_m1 (pc2 := 15) rfl ?_
  refine g_icmp_ne hc dX7_readPlan_15 (pc1 := 18) (pc2 := 20) rfl rfl (fun _ => ?_) (fun _ => ?_)
  · refine g_iconst hc dX7_readPlan_18 ic_0 (pc2 := 19) rfl ?_
    exact g_zret0 (by decide) hc dX7_readPlan_19
  · refine g_rl0 hc dX7_readPlan_20 rfl (pc2 := 21) rfl ?_
    refine g_getR hc fl_X7_20 rfl ht dX7_readPlan_21 (pc2 := 24) rfl ?_
    refine g_ldcS (i := 23) (tx := "vote") hc (by decide +kernel) dX7_readPlan_24 (pc2 := 26) rfl ?_
    refine g_callV1 hc (C_X8_takeWord (kf_7_0 ht) (by decide)) mv_X8_takeWord ln_X7_93 (kf_7_0 ht) ⟨by decide, by decide⟩ (Nat.le_of_ble_eq_true rfl) dX7_readPlan_26 (pc2 := 29) rfl (fun r5 s4 => ?_)
    refine g_if_eq hc dX7_readPlan_29 (pc1 := 45) (pc2 := 32) rfl rfl (fun _ => ?_) (fun _ => ?_)
    · refine g_rl0 hc dX7_readPlan_45 rfl (pc2 := 46) rfl ?_
      refine g_getR hc fl_X7_20 rfl ht dX7_readPlan_46 (pc2 := 49) rfl ?_
      refine g_ldcS (i := 24) (tx := "salt") hc (by decide +kernel) dX7_readPlan_49 (pc2 := 51) rfl ?_
      refine g_callV1 hc (C_X8_isWord (kf_7_0 ht) (by decide)) mv_X8_isWord ln_X7_49 (kf_7_0 ht) ⟨by decide, by decide⟩ (Nat.le_of_ble_eq_true rfl) dX7_readPlan_51 (pc2 := 54) rfl (fun r8 s7 => ?_)
      refine g_jn (P := fun j110 => ∀ (y9 : Int32) (s10 : q_Sto), q_G w cx 6 (some .boolean) 110 [some (q_rf w t), some (q_rf w a0), some (.int r2), none, none, none] [.int y9] s10 (j110 y9 s10)) (fun y9 s10 => ?_) (fun j110 hj110 => ?_)
      · refine g_is3 hc dX7_readPlan_110 (by decide) (L2 := [some (q_rf w t), some (q_rf w a0), some (.int r2), some (.int y9), none, none]) rfl (pc2 := 111) rfl ?_
        refine g_il3 hc dX7_readPlan_111 rfl (pc2 := 112) rfl ?_
        refine g_iconst hc dX7_readPlan_112 ic_m1 (pc2 := 113) rfl ?_
        refine g_icmp_ne hc dX7_readPlan_113 (pc1 := 116) (pc2 := 125) rfl rfl (fun _ => ?_) (fun _ => ?_)
        · refine g_rl0 hc dX7_readPlan_116 rfl (pc2 := 117) rfl ?_
          refine g_getR hc fl_X7_20 rfl ht dX7_readPlan_117 (pc2 := 120) rfl ?_
          refine g_iconst hc dX7_readPlan_120 ic_1 (pc2 := 121) rfl ?_
          refine g_callV1 hc (C_X8_fail (kf_7_0 ht)) mv_X8_fail ln_X7_53 (kf_7_0 ht) ⟨by decide, by decide⟩ (Nat.le_of_ble_eq_true rfl) dX7_readPlan_121 (pc2 := 124) rfl (fun r13 s12 => ?_)
          exact g_zret hc dX7_readPlan_124
        · refine g_rl0 hc dX7_readPlan_125 rfl (pc2 := 126) rfl ?_
          refine g_getR hc fl_X7_20 rfl ht dX7_readPlan_126 (pc2 := 129) rfl ?_
          refine g_callV0v hc (C_X8_next (kf_7_0 ht)) mv_X8_next ln_X7_61 (kf_7_0 ht) ⟨by decide, by decide⟩ (Nat.le_of_ble_eq_true rfl) dX7_readPlan_129 (pc2 := 132) rfl (fun s14 => ?_)
          refine g_rl0 hc dX7_readPlan_132 rfl (pc2 := 133) rfl ?_
          refine g_getR hc fl_X7_20 rfl ht dX7_readPlan_133 (pc2 := 136) rfl ?_
          refine g_iconst hc dX7_readPlan_136 ic_0 (pc2 := 137) rfl ?_
          refine g_il3 hc dX7_readPlan_137 rfl (pc2 := 138) rfl ?_
          refine g_iconst hc dX7_readPlan_138 ic_4 (pc2 := 139) rfl ?_
          refine g_jn (P := fun j153 => ∀ (y16 : Int32) (s17 : q_Sto), q_G w cx 6 (some .boolean) 153 [some (q_rf w t), some (q_rf w a0), some (.int r2), some (.int y9), none, none] [.int y16, .int 0, q_rf w (q_RF t 0)] s17 (j153 y16 s17)) (fun y16 s17 => ?_) (fun j153 hj153 => ?_)
          · refine g_iconst hc dX7_readPlan_153 ic_m1 (pc2 := 154) rfl ?_
            refine g_callV3 hc (C_X8_expectNumber (kf_7_0 ht)) mv_X8_expectNumber ln_X7_82 (kf_7_0 ht) ⟨by decide, by decide⟩ (Nat.le_of_ble_eq_true rfl) dX7_readPlan_154 (pc2 := 157) rfl (fun r19 s18 => ?_)
            refine g_istore hc dX7_readPlan_157 (by decide) (L2 := [some (q_rf w t), some (q_rf w a0), some (.int r2), some (.int y9), some (.int r19), none]) rfl (pc2 := 159) rfl ?_
            refine g_iload hc dX7_readPlan_159 rfl (pc2 := 161) rfl ?_
            refine g_iconst hc dX7_readPlan_161 ic_m1 (pc2 := 162) rfl ?_
            refine g_icmp_ne hc dX7_readPlan_162 (pc1 := 165) (pc2 := 167) rfl rfl (fun _ => ?_) (fun _ => ?_)
            · refine g_iconst hc dX7_readPlan_165 ic_0 (pc2 := 166) rfl ?_
              exact g_zret0 (by decide) hc dX7_readPlan_166
            · refine g_iconst hc dX7_readPlan_167 ic_0 (pc2 := 168) rfl ?_
              refine g_istore hc dX7_readPlan_168 (by decide) (L2 := [some (q_rf w t), some (q_rf w a0), some (.int r2), some (.int y9), some (.int r19), some (.int 0)]) rfl (pc2 := 170) rfl ?_
              refine g_il3 hc dX7_readPlan_170 rfl (pc2 := 171) rfl ?_
              refine g_iconst hc dX7_readPlan_171 ic_1 (pc2 := 172) rfl ?_
              refine g_jn (P := fun j180 => ∀  (s21 : q_Sto), q_G w cx 6 (some .boolean) 180 [some (q_rf w t), some (q_rf w a0), some (.int r2), some (.int y9), some (.int r19), none] [] s21 (j180 s21)) (fun s21 => ?_) (fun j180 hj180 => ?_)
              · refine g_rl0 hc dX7_readPlan_180 rfl (pc2 := 181) rfl ?_
                refine g_getR hc fl_X7_20 rfl ht dX7_readPlan_181 (pc2 := 184) rfl ?_
                refine g_iconst hc dX7_readPlan_184 ic_0 (pc2 := 185) rfl ?_
                refine g_rl1 hc dX7_readPlan_185 rfl (pc2 := 186) rfl ?_
                refine g_getI hc fl_X7_77 rfl ha0 dX7_readPlan_186 (pc2 := 189) rfl ?_
                refine g_iconst hc dX7_readPlan_189 ic_1 (pc2 := 190) rfl ?_
                refine g_isub hc dX7_readPlan_190 (pc2 := 191) rfl ?_
                refine g_iconst hc dX7_readPlan_191 ic_m1 (pc2 := 192) rfl ?_
                refine g_callV3 hc (C_X8_expectNumber (kf_7_0 ht)) mv_X8_expectNumber ln_X7_82 (kf_7_0 ht) ⟨by decide, by decide⟩ (Nat.le_of_ble_eq_true rfl) dX7_readPlan_192 (pc2 := 195) rfl (fun r23 s22 => ?_)
                refine g_istore hc dX7_readPlan_195 (by decide) (L2 := [some (q_rf w t), some (q_rf w a0), some (.int r2), some (.int y9), some (.int r19), some (.int r23)]) rfl (pc2 := 197) rfl ?_
                refine g_rl0 hc dX7_readPlan_197 rfl (pc2 := 198) rfl ?_
                refine g_getR hc fl_X7_14 rfl ht dX7_readPlan_198 (pc2 := 201) rfl ?_
                refine g_il2 hc dX7_readPlan_201 rfl (pc2 := 202) rfl ?_
                refine g_il3 hc dX7_readPlan_202 rfl (pc2 := 203) rfl ?_
                refine g_iload hc dX7_readPlan_203 rfl (pc2 := 205) rfl ?_
                refine g_iload hc dX7_readPlan_205 rfl (pc2 := 207) rfl ?_
                refine g_callV4v hc (C_X6_add (kf_7_1 ht)) mv_X6_add ln_X7_96 (kf_7_1 ht) ⟨by decide, by decide⟩ (Nat.le_of_ble_eq_true rfl) dX7_readPlan_207 (pc2 := 210) rfl (fun s24 => ?_)
                refine g_iload hc dX7_readPlan_210 rfl (pc2 := 212) rfl ?_
                refine g_iconst hc dX7_readPlan_212 ic_m1 (pc2 := 213) rfl ?_
                refine g_icmp_eq hc dX7_readPlan_213 (pc1 := 220) (pc2 := 216) rfl rfl (fun _ => ?_) (fun _ => ?_)
                · refine g_iconst hc dX7_readPlan_220 ic_0 (pc2 := 221) rfl ?_
                  exact g_zret0 (by decide) hc dX7_readPlan_221
                · refine g_iconst hc dX7_readPlan_216 ic_1 (pc2 := 217) rfl ?_
                  refine g_goto hc dX7_readPlan_217 (pc2 := 221) rfl ?_
                  exact g_zret0 (by decide) hc dX7_readPlan_221
              · refine g_jn (P := fun j197 => ∀ (y27 : Int32) (s28 : q_Sto), q_G w cx 6 (some .boolean) 197 [some (q_rf w t), none, some (.int r2), some (.int y9), some (.int r19), some (.int y27)] [] s28 (j197 y27 s28)) (fun y27 s28 => ?_) (fun j197 hj197 => ?_)
                · refine g_rl0 hc dX7_readPlan_197 rfl (pc2 := 198) rfl ?_
                  refine g_getR hc fl_X7_14 rfl ht dX7_readPlan_198 (pc2 := 201) rfl ?_
                  refine g_il2 hc dX7_readPlan_201 rfl (pc2 := 202) rfl ?_
                  refine g_il3 hc dX7_readPlan_202 rfl (pc2 := 203) rfl ?_
                  refine g_iload hc dX7_readPlan_203 rfl (pc2 := 205) rfl ?_
                  refine g_iload hc dX7_readPlan_205 rfl (pc2 := 207) rfl ?_
                  refine g_callV4v hc (C_X6_add (kf_7_1 ht)) mv_X6_add ln_X7_96 (kf_7_1 ht) ⟨by decide, by decide⟩ (Nat.le_of_ble_eq_true rfl) dX7_readPlan_207 (pc2 := 210) rfl (fun s29 => ?_)
                  refine g_iload hc dX7_readPlan_210 rfl (pc2 := 212) rfl ?_
                  refine g_iconst hc dX7_readPlan_212 ic_m1 (pc2 := 213) rfl ?_
                  refine g_icmp_eq hc dX7_readPlan_213 (pc1 := 220) (pc2 := 216) rfl rfl (fun _ => ?_) (fun _ => ?_)
                  · refine g_iconst hc dX7_readPlan_220 ic_0 (pc2 := 221) rfl ?_
                    exact g_zret0 (by decide) hc dX7_readPlan_221
                  · refine g_iconst hc dX7_readPlan_216 ic_1 (pc2 := 217) rfl ?_
                    refine g_goto hc dX7_readPlan_217 (pc2 := 221) rfl ?_
                    exact g_zret0 (by decide) hc dX7_readPlan_221
                · refine g_icmp_eq hc dX7_readPlan_172 (pc1 := 180) (pc2 := 175) rfl rfl (fun _ => ?_) (fun _ => ?_)
                  · refine q_Gmask [true, true, true, true, true, false] (L2 := [some (q_rf w t), some (q_rf w a0), some (.int r2), some (.int y9), some (.int r19), none]) rfl ?_
                    exact hj180 _
                  · refine g_il3 hc dX7_readPlan_175 rfl (pc2 := 176) rfl ?_
                    refine g_iconst hc dX7_readPlan_176 ic_3 (pc2 := 177) rfl ?_
                    refine g_icmp_ne hc dX7_readPlan_177 (pc1 := 180) (pc2 := 197) rfl rfl (fun _ => ?_) (fun _ => ?_)
                    · refine q_Gmask [true, true, true, true, true, false] (L2 := [some (q_rf w t), some (q_rf w a0), some (.int r2), some (.int y9), some (.int r19), none]) rfl ?_
                      exact hj180 _
                    · refine q_Gmask [true, false, true, true, true, true] (L2 := [some (q_rf w t), none, some (.int r2), some (.int y9), some (.int r19), some (.int 0)]) rfl ?_
                      exact hj197 _ _
          · refine g_icmp_ne hc dX7_readPlan_139 (pc1 := 142) (pc2 := 147) rfl rfl (fun _ => ?_) (fun _ => ?_)
            · refine g_bipush hc dX7_readPlan_142 bp_9 (pc2 := 144) rfl ?_
              refine g_goto hc dX7_readPlan_144 (pc2 := 153) rfl ?_
              exact hj153 _ _
            · refine g_rl1 hc dX7_readPlan_147 rfl (pc2 := 148) rfl ?_
              refine g_getI hc fl_X7_110 rfl ha0 dX7_readPlan_148 (pc2 := 151) rfl ?_
              refine g_iconst hc dX7_readPlan_151 ic_1 (pc2 := 152) rfl ?_
              refine g_isub hc dX7_readPlan_152 (pc2 := 153) rfl ?_
              exact hj153 _ _
      · refine g_if_eq hc dX7_readPlan_54 (pc1 := 61) (pc2 := 57) rfl rfl (fun _ => ?_) (fun _ => ?_)
        · refine g_rl0 hc dX7_readPlan_61 rfl (pc2 := 62) rfl ?_
          refine g_getR hc fl_X7_20 rfl ht dX7_readPlan_62 (pc2 := 65) rfl ?_
          refine g_ldcS (i := 25) (tx := "sing") hc (by decide +kernel) dX7_readPlan_65 (pc2 := 67) rfl ?_
          refine g_callV1 hc (C_X8_isWord (kf_7_0 ht) (by decide)) mv_X8_isWord ln_X7_49 (kf_7_0 ht) ⟨by decide, by decide⟩ (Nat.le_of_ble_eq_true rfl) dX7_readPlan_67 (pc2 := 70) rfl (fun r37 s36 => ?_)
          refine g_if_eq hc dX7_readPlan_70 (pc1 := 77) (pc2 := 73) rfl rfl (fun _ => ?_) (fun _ => ?_)
          · refine g_rl0 hc dX7_readPlan_77 rfl (pc2 := 78) rfl ?_
            refine g_getR hc fl_X7_20 rfl ht dX7_readPlan_78 (pc2 := 81) rfl ?_
            refine g_ldcS (i := 26) (tx := "whip") hc (by decide +kernel) dX7_readPlan_81 (pc2 := 83) rfl ?_
            refine g_callV1 hc (C_X8_isWord (kf_7_0 ht) (by decide)) mv_X8_isWord ln_X7_49 (kf_7_0 ht) ⟨by decide, by decide⟩ (Nat.le_of_ble_eq_true rfl) dX7_readPlan_83 (pc2 := 86) rfl (fun r40 s39 => ?_)
            refine g_if_eq hc dX7_readPlan_86 (pc1 := 93) (pc2 := 89) rfl rfl (fun _ => ?_) (fun _ => ?_)
            · refine g_rl0 hc dX7_readPlan_93 rfl (pc2 := 94) rfl ?_
              refine g_getR hc fl_X7_20 rfl ht dX7_readPlan_94 (pc2 := 97) rfl ?_
              refine g_ldcS (i := 27) (tx := "go") hc (by decide +kernel) dX7_readPlan_97 (pc2 := 99) rfl ?_
              refine g_callV1 hc (C_X8_isWord (kf_7_0 ht) (by decide)) mv_X8_isWord ln_X7_49 (kf_7_0 ht) ⟨by decide, by decide⟩ (Nat.le_of_ble_eq_true rfl) dX7_readPlan_99 (pc2 := 102) rfl (fun r43 s42 => ?_)
              refine g_if_eq hc dX7_readPlan_102 (pc1 := 109) (pc2 := 105) rfl rfl (fun _ => ?_) (fun _ => ?_)
              · refine g_iconst hc dX7_readPlan_109 ic_m1 (pc2 := 110) rfl ?_
                exact hj110 _ _
              · refine g_iconst hc dX7_readPlan_105 ic_4 (pc2 := 106) rfl ?_
                refine g_goto hc dX7_readPlan_106 (pc2 := 110) rfl ?_
                exact hj110 _ _
            · refine g_iconst hc dX7_readPlan_89 ic_3 (pc2 := 90) rfl ?_
              refine g_goto hc dX7_readPlan_90 (pc2 := 110) rfl ?_
              exact hj110 _ _
          · refine g_iconst hc dX7_readPlan_73 ic_2 (pc2 := 74) rfl ?_
            refine g_goto hc dX7_readPlan_74 (pc2 := 110) rfl ?_
            exact hj110 _ _
        · refine g_iconst hc dX7_readPlan_57 ic_1 (pc2 := 58) rfl ?_
          refine g_goto hc dX7_readPlan_58 (pc2 := 110) rfl ?_
          exact hj110 _ _
    · refine g_rl0 hc dX7_readPlan_32 rfl (pc2 := 33) rfl ?_
      refine g_getR hc fl_X7_14 rfl ht dX7_readPlan_33 (pc2 := 36) rfl ?_
      refine g_il2 hc dX7_readPlan_36 rfl (pc2 := 37) rfl ?_
      refine g_iconst hc dX7_readPlan_37 ic_0 (pc2 := 38) rfl ?_
      refine g_iconst hc dX7_readPlan_38 ic_0 (pc2 := 39) rfl ?_
      refine g_iconst hc dX7_readPlan_39 ic_0 (pc2 := 40) rfl ?_
      refine g_callV4v hc (C_X6_add (kf_7_1 ht)) mv_X6_add ln_X7_96 (kf_7_1 ht) ⟨by decide, by decide⟩ (Nat.le_of_ble_eq_true rfl) dX7_readPlan_40 (pc2 := 43) rfl (fun s45 => ?_)
      refine g_iconst hc dX7_readPlan_43 ic_1 (pc2 := 44) rfl ?_
      exact g_zret0 (by decide) hc dX7_readPlan_44
set_option maxRecDepth 100000 in
set_option maxHeartbeats 4000000 in
def f_X7_readPath (n : Nat) (t : Nat) (s0 : q_Sto) : Option (Int32 × q_Sto) :=
  q_call (f_X8_expectNumber n (q_RF t 0) 0 9 (-1) s0) fun r2 s1 =>
  if r2 = (-1) then (
  some (0, s1))
  else (
  q_call (f_X8_expectNumber n (q_RF t 0) 0 9 r2 s1) fun r5 s4 =>
  if r5 = (-1) then (
  some (0, s4))
  else (
  q_call (f_X8_expectWord n (q_RF t 0) 28 s4) fun r8 s7 =>
  if r8 = 0 then (
  some (0, s7))
  else (
  q_call (f_X8_expectNumber n (q_RF t 0) 1 24 (-1) s7) fun r11 s10 =>
  q_callv (f_X6_add n (q_RF t 1) r2 r5 r11 0 s10) fun s12 =>
  if r11 = (-1) then (
  some (0, s12))
  else (
  some (1, s12)))))
set_option maxRecDepth 100000 in
set_option maxHeartbeats 4000000 in
theorem C_X7_readPath {l : Launch} {w : q_Wd} {n : Nat} {t : Nat} (ht : q_KD t = .inl 7) {s0 : q_Sto} : q_C l w yX7_readPath cX7_readPath 4 (some .boolean) (q_rm 9 204) [q_rf w t] s0 (f_X7_readPath n t s0) := q_CofG [some (q_rf w t), none, none, none] (by decide +kernel) rfl rfl (Nat.le_of_ble_eq_true rfl) fun cx hl hc => by
  have hc : q_ok w cx RX7 cX7_readPath 4 (some .boolean) (q_rm 9 204) := hc
  rw [f_X7_readPath]
  refine g_rl0 hc dX7_readPath_0 rfl (pc2 := 1) rfl ?_
  refine g_getR hc fl_X7_20 rfl ht dX7_readPath_1 (pc2 := 4) rfl ?_
  refine g_iconst hc dX7_readPath_4 ic_0 (pc2 := 5) rfl ?_
  refine g_bipush hc dX7_readPath_5 bp_9 (pc2 := 7) rfl ?_
  refine g_iconst hc dX7_readPath_7 ic_m1 (pc2 := 8) rfl ?_
  refine g_callV3 hc (C_X8_expectNumber (kf_7_0 ht)) mv_X8_expectNumber ln_X7_82 (kf_7_0 ht) ⟨by decide, by decide⟩ (Nat.le_of_ble_eq_true rfl) dX7_readPath_8 (pc2 := 11) rfl (fun r2 s1 => ?_)
  refine g_is1 hc dX7_readPath_11 (by decide) (L2 := [some (q_rf w t), some (.int r2), none, none]) rfl (pc2 := 12) rfl ?_
  refine g_il1 hc dX7_readPath_12 rfl (pc2 := 13) rfl ?_
  refine g_iconst hc dX7_readPath_13 ic_m1 (pc2 := 14) rfl ?_
  refine g_icmp_ne hc dX7_readPath_14 (pc1 := 17) (pc2 := 19) rfl rfl (fun _ => ?_) (fun _ => ?_)
  · refine g_iconst hc dX7_readPath_17 ic_0 (pc2 := 18) rfl ?_
    exact g_zret0 (by decide) hc dX7_readPath_18
  · refine g_rl0 hc dX7_readPath_19 rfl (pc2 := 20) rfl ?_
    refine g_getR hc fl_X7_20 rfl ht dX7_readPath_20 (pc2 := 23) rfl ?_
    refine g_iconst hc dX7_readPath_23 ic_0 (pc2 := 24) rfl ?_
    refine g_bipush hc dX7_readPath_24 bp_9 (pc2 := 26) rfl ?_
    refine g_il1 hc dX7_readPath_26 rfl (pc2 := 27) rfl ?_
    refine g_callV3 hc (C_X8_expectNumber (kf_7_0 ht)) mv_X8_expectNumber ln_X7_82 (kf_7_0 ht) ⟨by decide, by decide⟩ (Nat.le_of_ble_eq_true rfl) dX7_readPath_27 (pc2 := 30) rfl (fun r5 s4 => ?_)
    refine g_is2 hc dX7_readPath_30 (by decide) (L2 := [some (q_rf w t), some (.int r2), some (.int r5), none]) rfl (pc2 := 31) rfl ?_
    refine g_il2 hc dX7_readPath_31 rfl (pc2 := 32) rfl ?_
    refine g_iconst hc dX7_readPath_32 ic_m1 (pc2 := 33) rfl ?_
    refine g_icmp_eq hc dX7_readPath_33 (pc1 := 48) (pc2 := 36) rfl rfl (fun _ => ?_) (fun _ => ?_)
    · refine g_iconst hc dX7_readPath_48 ic_0 (pc2 := 49) rfl ?_
      exact g_zret0 (by decide) hc dX7_readPath_49
    · refine g_rl0 hc dX7_readPath_36 rfl (pc2 := 37) rfl ?_
      refine g_getR hc fl_X7_20 rfl ht dX7_readPath_37 (pc2 := 40) rfl ?_
      refine g_ldcS (i := 28) (tx := "hours") hc (by decide +kernel) dX7_readPath_40 (pc2 := 42) rfl ?_
      refine g_callV1 hc (C_X8_expectWord (kf_7_0 ht) (by decide)) mv_X8_expectWord ln_X7_88 (kf_7_0 ht) ⟨by decide, by decide⟩ (Nat.le_of_ble_eq_true rfl) dX7_readPath_42 (pc2 := 45) rfl (fun r8 s7 => ?_)
      refine g_if_ne hc dX7_readPath_45 (pc1 := 48) (pc2 := 50) rfl rfl (fun _ => ?_) (fun _ => ?_)
      · refine g_iconst hc dX7_readPath_48 ic_0 (pc2 := 49) rfl ?_
        exact g_zret0 (by decide) hc dX7_readPath_49
      · refine g_rl0 hc dX7_readPath_50 rfl (pc2 := 51) rfl ?_
        refine g_getR hc fl_X7_20 rfl ht dX7_readPath_51 (pc2 := 54) rfl ?_
        refine g_iconst hc dX7_readPath_54 ic_1 (pc2 := 55) rfl ?_
        refine g_bipush hc dX7_readPath_55 bp_24 (pc2 := 57) rfl ?_
        refine g_iconst hc dX7_readPath_57 ic_m1 (pc2 := 58) rfl ?_
        refine g_callV3 hc (C_X8_expectNumber (kf_7_0 ht)) mv_X8_expectNumber ln_X7_82 (kf_7_0 ht) ⟨by decide, by decide⟩ (Nat.le_of_ble_eq_true rfl) dX7_readPath_58 (pc2 := 61) rfl (fun r11 s10 => ?_)
        refine g_is3 hc dX7_readPath_61 (by decide) (L2 := [some (q_rf w t), some (.int r2), some (.int r5), some (.int r11)]) rfl (pc2 := 62) rfl ?_
        refine g_rl0 hc dX7_readPath_62 rfl (pc2 := 63) rfl ?_
        refine g_getR hc fl_X7_14 rfl ht dX7_readPath_63 (pc2 := 66) rfl ?_
        refine g_il1 hc dX7_readPath_66 rfl (pc2 := 67) rfl ?_
        refine g_il2 hc dX7_readPath_67 rfl (pc2 := 68) rfl ?_
        refine g_il3 hc dX7_readPath_68 rfl (pc2 := 69) rfl ?_
        refine g_iconst hc dX7_readPath_69 ic_0 (pc2 := 70) rfl ?_
        refine g_callV4v hc (C_X6_add (kf_7_1 ht)) mv_X6_add ln_X7_96 (kf_7_1 ht) ⟨by decide, by decide⟩ (Nat.le_of_ble_eq_true rfl) dX7_readPath_70 (pc2 := 73) rfl (fun s12 => ?_)
        refine g_il3 hc dX7_readPath_73 rfl (pc2 := 74) rfl ?_
        refine g_iconst hc dX7_readPath_74 ic_m1 (pc2 := 75) rfl ?_
        refine g_icmp_eq hc dX7_readPath_75 (pc1 := 82) (pc2 := 78) rfl rfl (fun _ => ?_) (fun _ => ?_)
        · refine g_iconst hc dX7_readPath_82 ic_0 (pc2 := 83) rfl ?_
          exact g_zret0 (by decide) hc dX7_readPath_83
        · refine g_iconst hc dX7_readPath_78 ic_1 (pc2 := 79) rfl ?_
          refine g_goto hc dX7_readPath_79 (pc2 := 83) rfl ?_
          exact g_zret0 (by decide) hc dX7_readPath_83
set_option maxRecDepth 100000 in
set_option maxHeartbeats 4000000 in
def f_X7_readLoad (n : Nat) (t : Nat) (s0 : q_Sto) : Option (Int32 × q_Sto) :=
  q_call (f_X8_expectNumber n (q_RF t 0) 1 40 (-1) s0) fun r2 s1 =>
  if r2 = (-1) then (
  some (0, s1))
  else (
  q_call (f_X8_expectWord n (q_RF t 0) 29 s1) fun r5 s4 =>
  if r5 = 0 then (
  some (0, s4))
  else (
  q_call (f_X8_expectNumber n (q_RF t 0) 1 99 (-1) s4) fun r8 s7 =>
  q_callv (f_X6_add n (q_RF t 1) r2 r8 0 0 s7) fun s9 =>
  if r8 = (-1) then (
  some (0, s9))
  else (
  some (1, s9))))
set_option maxRecDepth 100000 in
set_option maxHeartbeats 4000000 in
theorem C_X7_readLoad {l : Launch} {w : q_Wd} {n : Nat} {t : Nat} (ht : q_KD t = .inl 7) {s0 : q_Sto} : q_C l w yX7_readLoad cX7_readLoad 3 (some .boolean) (q_rm 9 204) [q_rf w t] s0 (f_X7_readLoad n t s0) := q_CofG [some (q_rf w t), none, none] (by decide +kernel) rfl rfl (Nat.le_of_ble_eq_true rfl) fun cx hl hc => by
  have hc : q_ok w cx RX7 cX7_readLoad 3 (some .boolean) (q_rm 9 204) := hc
  rw [f_X7_readLoad]
  refine g_rl0 hc dX7_readLoad_0 rfl (pc2 := 1) rfl ?_
  refine g_getR hc fl_X7_20 rfl ht dX7_readLoad_1 (pc2 := 4) rfl ?_
  refine g_iconst hc dX7_readLoad_4 ic_1 (pc2 := 5) rfl ?_
  refine g_bipush hc dX7_readLoad_5 bp_40 (pc2 := 7) rfl ?_
  refine g_iconst hc dX7_readLoad_7 ic_m1 (pc2 := 8) rfl ?_
  refine g_callV3 hc (C_X8_expectNumber (kf_7_0 ht)) mv_X8_expectNumber ln_X7_82 (kf_7_0 ht) ⟨by decide, by decide⟩ (Nat.le_of_ble_eq_true rfl) dX7_readLoad_8 (pc2 := 11) rfl (fun r2 s1 => ?_)
  refine g_is1 hc dX7_readLoad_11 (by decide) (L2 := [some (q_rf w t), some (.int r2), none]) rfl (pc2 := 12) rfl ?_
  refine g_il1 hc dX7_readLoad_12 rfl (pc2 := 13) rfl ?_
  refine g_iconst hc dX7_readLoad_13 ic_m1 (pc2 := 14) rfl ?_
  refine g_icmp_eq hc dX7_readLoad_14 (pc1 := 29) (pc2 := 17) rfl rfl (fun _ => ?_) (fun _ => ?_)
  · refine g_iconst hc dX7_readLoad_29 ic_0 (pc2 := 30) rfl ?_
    exact g_zret0 (by decide) hc dX7_readLoad_30
  · refine g_rl0 hc dX7_readLoad_17 rfl (pc2 := 18) rfl ?_
    refine g_getR hc fl_X7_20 rfl ht dX7_readLoad_18 (pc2 := 21) rfl ?_
    refine g_ldcS (i := 29) (tx := "worth") hc (by decide +kernel) dX7_readLoad_21 (pc2 := 23) rfl ?_
    refine g_callV1 hc (C_X8_expectWord (kf_7_0 ht) (by decide)) mv_X8_expectWord ln_X7_88 (kf_7_0 ht) ⟨by decide, by decide⟩ (Nat.le_of_ble_eq_true rfl) dX7_readLoad_23 (pc2 := 26) rfl (fun r5 s4 => ?_)
    refine g_if_ne hc dX7_readLoad_26 (pc1 := 29) (pc2 := 31) rfl rfl (fun _ => ?_) (fun _ => ?_)
    · refine g_iconst hc dX7_readLoad_29 ic_0 (pc2 := 30) rfl ?_
      exact g_zret0 (by decide) hc dX7_readLoad_30
    · refine g_rl0 hc dX7_readLoad_31 rfl (pc2 := 32) rfl ?_
      refine g_getR hc fl_X7_20 rfl ht dX7_readLoad_32 (pc2 := 35) rfl ?_
      refine g_iconst hc dX7_readLoad_35 ic_1 (pc2 := 36) rfl ?_
      refine g_bipush hc dX7_readLoad_36 bp_99 (pc2 := 38) rfl ?_
      refine g_iconst hc dX7_readLoad_38 ic_m1 (pc2 := 39) rfl ?_
      refine g_callV3 hc (C_X8_expectNumber (kf_7_0 ht)) mv_X8_expectNumber ln_X7_82 (kf_7_0 ht) ⟨by decide, by decide⟩ (Nat.le_of_ble_eq_true rfl) dX7_readLoad_39 (pc2 := 42) rfl (fun r8 s7 => ?_)
      refine g_is2 hc dX7_readLoad_42 (by decide) (L2 := [some (q_rf w t), some (.int r2), some (.int r8)]) rfl (pc2 := 43) rfl ?_
      refine g_rl0 hc dX7_readLoad_43 rfl (pc2 := 44) rfl ?_
      refine g_getR hc fl_X7_14 rfl ht dX7_readLoad_44 (pc2 := 47) rfl ?_
      refine g_il1 hc dX7_readLoad_47 rfl (pc2 := 48) rfl ?_
      refine g_il2 hc dX7_readLoad_48 rfl (pc2 := 49) rfl ?_
      refine g_iconst hc dX7_readLoad_49 ic_0 (pc2 := 50) rfl ?_
      refine g_iconst hc dX7_readLoad_50 ic_0 (pc2 := 51) rfl ?_
      refine g_callV4v hc (C_X6_add (kf_7_1 ht)) mv_X6_add ln_X7_96 (kf_7_1 ht) ⟨by decide, by decide⟩ (Nat.le_of_ble_eq_true rfl) dX7_readLoad_51 (pc2 := 54) rfl (fun s9 => ?_)
      refine g_il2 hc dX7_readLoad_54 rfl (pc2 := 55) rfl ?_
      refine g_iconst hc dX7_readLoad_55 ic_m1 (pc2 := 56) rfl ?_
      refine g_icmp_eq hc dX7_readLoad_56 (pc1 := 63) (pc2 := 59) rfl rfl (fun _ => ?_) (fun _ => ?_)
      · refine g_iconst hc dX7_readLoad_63 ic_0 (pc2 := 64) rfl ?_
        exact g_zret0 (by decide) hc dX7_readLoad_64
      · refine g_iconst hc dX7_readLoad_59 ic_1 (pc2 := 60) rfl ?_
        refine g_goto hc dX7_readLoad_60 (pc2 := 64) rfl ?_
        exact g_zret0 (by decide) hc dX7_readLoad_64
set_option maxRecDepth 100000 in
set_option maxHeartbeats 4000000 in
def f_X7_readLine (n : Nat) (t : Nat) (a0 : Int32) (a1 : Nat) (s0 : q_Sto) : Option (Int32 × q_Sto) :=
  q_jn (fun (y1 : Nat) (s2 : q_Sto) =>
    q_call (f_X8_isWord n (q_RF t 0) y1 s2) fun r4 s3 =>
    if r4 = 0 then (
    q_call (f_X8_fail n (q_RF t 0) 1 s3) fun r7 s6 =>
    q_rz r7 s6)
    else (
    q_jn (fun (y8 : Int32) (s9 : q_Sto) =>
      if (s3 (q_RF t 1) 2) < y8 then (
      q_callv (f_X8_next n (q_RF t 0) s9) fun s11 =>
      if a0 = 1 then (
      q_call (f_X7_readHeed n t a1 s11) fun r15 s14 =>
      q_rz r15 s14)
      else
      if a0 = 2 then (
      q_call (f_X7_readPlan n t a1 s11) fun r18 s17 =>
      q_rz r18 s17)
      else
      if a0 = 3 then (
      q_call (f_X7_readPath n t s11) fun r21 s20 =>
      q_rz r21 s20)
      else
      (q_call (f_X7_readLoad n t s11) fun r23 s22 =>
      q_rz r23 s22))
      else (
      q_call (f_X8_fail n (q_RF t 0) 3 s9) fun r25 s24 =>
      q_rz r25 s24)) fun j72 =>
    if a0 = 4 then (
    j72 8 s3)
    else (
    j72 16 s3))) fun j32 =>
  if a0 = 1 then (
  j32 17 s0)
  else (
  if a0 = 2 then (
  j32 18 s0)
  else (
  if a0 = 3 then (
  j32 19 s0)
  else (
  j32 20 s0)))
set_option maxRecDepth 100000 in
set_option maxHeartbeats 4000000 in
theorem C_X7_readLine {l : Launch} {w : q_Wd} {n : Nat} {t : Nat} {a0 : Int32} {a1 : Nat} (ht : q_KD t = .inl 7) (ha1 : q_KD a1 = .inl 9) {s0 : q_Sto} : q_C l w yX7_readLine cX7_readLine 4 (some .boolean) (q_rm 10 230) [q_rf w t, .int a0, q_rf w a1] s0 (f_X7_readLine n t a0 a1 s0) := q_CofG [some (q_rf w t), some (.int a0), some (q_rf w a1), none] (by decide +kernel) rfl rfl (Nat.le_of_ble_eq_true rfl) fun cx hl hc => by
  have hc : q_ok w cx RX7 cX7_readLine 4 (some .boolean) (q_rm 10 230) := hc
  rw [f_X7_readLine]
  refine g_il1 hc dX7_readLine_0 rfl (pc2 := 1) rfl ?_
  refine g_iconst hc dX7_readLine_1 ic_1 (pc2 := 2) rfl ?_
  refine g_jn (P := fun j32 => ∀ (y1 : Nat) (hy1 : y1 < q_nS) (s2 : q_Sto), q_G w cx 4 (some .boolean) 32 [some (q_rf w t), some (.int a0), some (q_rf w a1), none] [q_rs w y1] s2 (j32 y1 s2)) (fun y1 hy1 s2 => ?_) (fun j32 hj32 => ?_)
  · refine g_ss3 hc dX7_readLine_32 (by decide) (L2 := [some (q_rf w t), some (.int a0), some (q_rf w a1), some (q_rs w y1)]) rfl (pc2 := 33) rfl ?_
    refine g_rl0 hc dX7_readLine_33 rfl (pc2 := 34) rfl ?_
    refine g_getR hc fl_X7_20 rfl ht dX7_readLine_34 (pc2 := 37) rfl ?_
    refine g_sl3 hc dX7_readLine_37 rfl (pc2 := 38) rfl ?_
    refine g_callV1 hc (C_X8_isWord (kf_7_0 ht) hy1) mv_X8_isWord ln_X7_49 (kf_7_0 ht) ⟨by decide, by decide⟩ (Nat.le_of_ble_eq_true rfl) dX7_readLine_38 (pc2 := 41) rfl (fun r4 s3 => ?_)
    refine g_if_ne hc dX7_readLine_41 (pc1 := 44) (pc2 := 53) rfl rfl (fun _ => ?_) (fun _ => ?_)
    · refine g_rl0 hc dX7_readLine_44 rfl (pc2 := 45) rfl ?_
      refine g_getR hc fl_X7_20 rfl ht dX7_readLine_45 (pc2 := 48) rfl ?_
      refine g_iconst hc dX7_readLine_48 ic_1 (pc2 := 49) rfl ?_
      refine g_callV1 hc (C_X8_fail (kf_7_0 ht)) mv_X8_fail ln_X7_53 (kf_7_0 ht) ⟨by decide, by decide⟩ (Nat.le_of_ble_eq_true rfl) dX7_readLine_49 (pc2 := 52) rfl (fun r7 s6 => ?_)
      exact g_zret hc dX7_readLine_52
    · refine g_rl0 hc dX7_readLine_53 rfl (pc2 := 54) rfl ?_
      refine g_getR hc fl_X7_14 rfl ht dX7_readLine_54 (pc2 := 57) rfl ?_
      refine g_getI hc fl_X7_57 rfl (kf_7_1 ht) dX7_readLine_57 (pc2 := 60) rfl ?_
      refine g_il1 hc dX7_readLine_60 rfl (pc2 := 61) rfl ?_
      refine g_iconst hc dX7_readLine_61 ic_4 (pc2 := 62) rfl ?_
      refine g_jn (P := fun j72 => ∀ (y8 : Int32) (s9 : q_Sto), q_G w cx 4 (some .boolean) 72 [some (q_rf w t), some (.int a0), some (q_rf w a1), none] [.int y8, .int (s3 (q_RF t 1) 2)] s9 (j72 y8 s9)) (fun y8 s9 => ?_) (fun j72 hj72 => ?_)
      · refine g_icmp_lt hc dX7_readLine_72 (pc1 := 84) (pc2 := 75) rfl rfl (fun _ => ?_) (fun _ => ?_)
        · refine g_rl0 hc dX7_readLine_84 rfl (pc2 := 85) rfl ?_
          refine g_getR hc fl_X7_20 rfl ht dX7_readLine_85 (pc2 := 88) rfl ?_
          refine g_callV0v hc (C_X8_next (kf_7_0 ht)) mv_X8_next ln_X7_61 (kf_7_0 ht) ⟨by decide, by decide⟩ (Nat.le_of_ble_eq_true rfl) dX7_readLine_88 (pc2 := 91) rfl (fun s11 => ?_)
          refine g_il1 hc dX7_readLine_91 rfl (pc2 := 92) rfl ?_
          refine g_swc (pc2 := 0) hc dX7_readLine_92 (c := 1) (by decide) (by decide) rfl (pc1 := 120) rfl (fun _ => ?_) (fun c13 => ?_)
          · refine g_rl0 hc dX7_readLine_120 rfl (pc2 := 121) rfl ?_
            refine g_rl2 hc dX7_readLine_121 rfl (pc2 := 122) rfl ?_
            refine g_callV1 hc (C_X7_readHeed ht ha1) mv_X7_readHeed ln_X7_64 ht ⟨by decide, by decide⟩ (Nat.le_of_ble_eq_true rfl) dX7_readLine_122 (pc2 := 125) rfl (fun r15 s14 => ?_)
            exact g_zret hc dX7_readLine_125
          refine g_swc (pc2 := 0) hc dX7_readLine_92 (c := 2) (by decide) (by decide) rfl (pc1 := 126) rfl (fun _ => ?_) (fun c16 => ?_)
          · refine g_rl0 hc dX7_readLine_126 rfl (pc2 := 127) rfl ?_
            refine g_rl2 hc dX7_readLine_127 rfl (pc2 := 128) rfl ?_
            refine g_callV1 hc (C_X7_readPlan ht ha1) mv_X7_readPlan ln_X7_68 ht ⟨by decide, by decide⟩ (Nat.le_of_ble_eq_true rfl) dX7_readLine_128 (pc2 := 131) rfl (fun r18 s17 => ?_)
            exact g_zret hc dX7_readLine_131
          refine g_swc (pc2 := 0) hc dX7_readLine_92 (c := 3) (by decide) (by decide) rfl (pc1 := 132) rfl (fun _ => ?_) (fun c19 => ?_)
          · refine g_rl0 hc dX7_readLine_132 rfl (pc2 := 133) rfl ?_
            refine g_callV0 hc (C_X7_readPath ht) mv_X7_readPath ln_X7_71 ht ⟨by decide, by decide⟩ (Nat.le_of_ble_eq_true rfl) dX7_readLine_133 (pc2 := 136) rfl (fun r21 s20 => ?_)
            exact g_zret hc dX7_readLine_136
          refine g_swd (pc2 := 0) hc dX7_readLine_92 (fun i a b e => ?_) (pc1 := 137) rfl ?_
          · rcases (show i = 1 ∨ i = 2 ∨ i = 3 by omega) with rfl | rfl | rfl
            · exact q_swx (c := 1) (by decide) c13 e
            · exact q_swx (c := 2) (by decide) c16 e
            · exact q_swx (c := 3) (by decide) c19 e
          · refine g_rl0 hc dX7_readLine_137 rfl (pc2 := 138) rfl ?_
            refine g_callV0 hc (C_X7_readLoad ht) mv_X7_readLoad ln_X7_74 ht ⟨by decide, by decide⟩ (Nat.le_of_ble_eq_true rfl) dX7_readLine_138 (pc2 := 141) rfl (fun r23 s22 => ?_)
            exact g_zret hc dX7_readLine_141
        · refine g_rl0 hc dX7_readLine_75 rfl (pc2 := 76) rfl ?_
          refine g_getR hc fl_X7_20 rfl ht dX7_readLine_76 (pc2 := 79) rfl ?_
          refine g_iconst hc dX7_readLine_79 ic_3 (pc2 := 80) rfl ?_
          refine g_callV1 hc (C_X8_fail (kf_7_0 ht)) mv_X8_fail ln_X7_53 (kf_7_0 ht) ⟨by decide, by decide⟩ (Nat.le_of_ble_eq_true rfl) dX7_readLine_80 (pc2 := 83) rfl (fun r25 s24 => ?_)
          exact g_zret hc dX7_readLine_83
      · refine g_icmp_ne hc dX7_readLine_62 (pc1 := 65) (pc2 := 70) rfl rfl (fun _ => ?_) (fun _ => ?_)
        · refine g_bipush hc dX7_readLine_65 bp_8 (pc2 := 67) rfl ?_
          refine g_goto hc dX7_readLine_67 (pc2 := 72) rfl ?_
          refine q_Gmask [true, true, true, false] (L2 := [some (q_rf w t), some (.int a0), some (q_rf w a1), none]) rfl ?_
          exact hj72 _ _
        · refine g_bipush hc dX7_readLine_70 bp_16 (pc2 := 72) rfl ?_
          refine q_Gmask [true, true, true, false] (L2 := [some (q_rf w t), some (.int a0), some (q_rf w a1), none]) rfl ?_
          exact hj72 _ _
  · refine g_icmp_ne hc dX7_readLine_2 (pc1 := 5) (pc2 := 10) rfl rfl (fun _ => ?_) (fun _ => ?_)
    · refine g_ldcS (i := 17) (tx := "mule") hc (by decide +kernel) dX7_readLine_5 (pc2 := 7) rfl ?_
      refine g_goto hc dX7_readLine_7 (pc2 := 32) rfl ?_
      exact hj32 _ (by decide) _
    · refine g_il1 hc dX7_readLine_10 rfl (pc2 := 11) rfl ?_
      refine g_iconst hc dX7_readLine_11 ic_2 (pc2 := 12) rfl ?_
      refine g_icmp_ne hc dX7_readLine_12 (pc1 := 15) (pc2 := 20) rfl rfl (fun _ => ?_) (fun _ => ?_)
      · refine g_ldcS (i := 18) (tx := "on") hc (by decide +kernel) dX7_readLine_15 (pc2 := 17) rfl ?_
        refine g_goto hc dX7_readLine_17 (pc2 := 32) rfl ?_
        exact hj32 _ (by decide) _
      · refine g_il1 hc dX7_readLine_20 rfl (pc2 := 21) rfl ?_
        refine g_iconst hc dX7_readLine_21 ic_3 (pc2 := 22) rfl ?_
        refine g_icmp_ne hc dX7_readLine_22 (pc1 := 25) (pc2 := 30) rfl rfl (fun _ => ?_) (fun _ => ?_)
        · refine g_ldcS (i := 19) (tx := "path") hc (by decide +kernel) dX7_readLine_25 (pc2 := 27) rfl ?_
          refine g_goto hc dX7_readLine_27 (pc2 := 32) rfl ?_
          exact hj32 _ (by decide) _
        · refine g_ldcS (i := 20) (tx := "load") hc (by decide +kernel) dX7_readLine_30 (pc2 := 32) rfl ?_
          exact hj32 _ (by decide) _
set_option maxRecDepth 100000 in
set_option maxHeartbeats 4000000 in
def f_X8_takeSign (n : Nat) (t : Nat) (a0 : Int32) (s0 : q_Sto) : Option (Int32 × q_Sto) :=
  q_call (f_X8_isSign n t a0 s0) fun r2 s1 =>
  if r2 = 0 then (
  some (0, s1))
  else (
  q_callv (f_X8_next n t s1) fun s4 =>
  some (1, s4))
set_option maxRecDepth 100000 in
set_option maxHeartbeats 4000000 in
theorem C_X8_takeSign {l : Launch} {w : q_Wd} {n : Nat} {t : Nat} {a0 : Int32} (ht : q_KD t = .inl 8) {s0 : q_Sto} : q_C l w yX8_takeSign cX8_takeSign 2 (some .boolean) (q_rm 2 41) [q_rf w t, .int a0] s0 (f_X8_takeSign n t a0 s0) := q_CofG [some (q_rf w t), some (.int a0)] (by decide +kernel) rfl rfl (Nat.le_of_ble_eq_true rfl) fun cx hl hc => by
  have hc : q_ok w cx RX8 cX8_takeSign 2 (some .boolean) (q_rm 2 41) := hc
  rw [f_X8_takeSign]
  refine g_rl0 hc dX8_takeSign_0 rfl (pc2 := 1) rfl ?_
  refine g_il1 hc dX8_takeSign_1 rfl (pc2 := 2) rfl ?_
  refine g_callV1 hc (C_X8_isSign ht) mv_X8_isSign ln_X8_60 ht ⟨by decide, by decide⟩ (Nat.le_of_ble_eq_true rfl) dX8_takeSign_2 (pc2 := 5) rfl (fun r2 s1 => ?_)
  refine g_if_ne hc dX8_takeSign_5 (pc1 := 8) (pc2 := 10) rfl rfl (fun _ => ?_) (fun _ => ?_)
  · refine g_iconst hc dX8_takeSign_8 ic_0 (pc2 := 9) rfl ?_
    exact g_zret0 (by decide) hc dX8_takeSign_9
  · refine g_rl0 hc dX8_takeSign_10 rfl (pc2 := 11) rfl ?_
    refine g_callV0v hc (C_X8_next ht) mv_X8_next ln_X8_37 ht ⟨by decide, by decide⟩ (Nat.le_of_ble_eq_true rfl) dX8_takeSign_11 (pc2 := 14) rfl (fun s4 => ?_)
    refine g_iconst hc dX8_takeSign_14 ic_1 (pc2 := 15) rfl ?_
    exact g_zret0 (by decide) hc dX8_takeSign_15
set_option maxRecDepth 100000 in
set_option maxHeartbeats 4000000 in
def f_X8_expectSign (n : Nat) (t : Nat) (a0 : Int32) (s0 : q_Sto) : Option (Int32 × q_Sto) :=
  q_call (f_X8_takeSign n t a0 s0) fun r2 s1 =>
  if r2 = 0 then (
  q_call (f_X8_fail n t 1 s1) fun r5 s4 =>
  if r5 = 0 then (
  some (0, s4))
  else (
  some (1, s4)))
  else (
  some (1, s1))
set_option maxRecDepth 100000 in
set_option maxHeartbeats 4000000 in
theorem C_X8_expectSign {l : Launch} {w : q_Wd} {n : Nat} {t : Nat} {a0 : Int32} (ht : q_KD t = .inl 8) {s0 : q_Sto} : q_C l w yX8_expectSign cX8_expectSign 2 (some .boolean) (q_rm 3 62) [q_rf w t, .int a0] s0 (f_X8_expectSign n t a0 s0) := q_CofG [some (q_rf w t), some (.int a0)] (by decide +kernel) rfl rfl (Nat.le_of_ble_eq_true rfl) fun cx hl hc => by
  have hc : q_ok w cx RX8 cX8_expectSign 2 (some .boolean) (q_rm 3 62) := hc
  rw [f_X8_expectSign]
  refine g_rl0 hc dX8_expectSign_0 rfl (pc2 := 1) rfl ?_
  refine g_il1 hc dX8_expectSign_1 rfl (pc2 := 2) rfl ?_
  refine g_callV1 hc (C_X8_takeSign ht) mv_X8_takeSign ln_X8_74 ht ⟨by decide, by decide⟩ (Nat.le_of_ble_eq_true rfl) dX8_expectSign_2 (pc2 := 5) rfl (fun r2 s1 => ?_)
  refine g_if_ne hc dX8_expectSign_5 (pc1 := 8) (pc2 := 16) rfl rfl (fun _ => ?_) (fun _ => ?_)
  · refine g_rl0 hc dX8_expectSign_8 rfl (pc2 := 9) rfl ?_
    refine g_iconst hc dX8_expectSign_9 ic_1 (pc2 := 10) rfl ?_
    refine g_callV1 hc (C_X8_fail ht) mv_X8_fail ln_X8_71 ht ⟨by decide, by decide⟩ (Nat.le_of_ble_eq_true rfl) dX8_expectSign_10 (pc2 := 13) rfl (fun r5 s4 => ?_)
    refine g_if_eq hc dX8_expectSign_13 (pc1 := 20) (pc2 := 16) rfl rfl (fun _ => ?_) (fun _ => ?_)
    · refine g_iconst hc dX8_expectSign_20 ic_0 (pc2 := 21) rfl ?_
      exact g_zret0 (by decide) hc dX8_expectSign_21
    · refine g_iconst hc dX8_expectSign_16 ic_1 (pc2 := 17) rfl ?_
      refine g_goto hc dX8_expectSign_17 (pc2 := 21) rfl ?_
      exact g_zret0 (by decide) hc dX8_expectSign_21
  · refine g_iconst hc dX8_expectSign_16 ic_1 (pc2 := 17) rfl ?_
    refine g_goto hc dX8_expectSign_17 (pc2 := 21) rfl ?_
    exact g_zret0 (by decide) hc dX8_expectSign_21
set_option maxRecDepth 100000 in
set_option maxHeartbeats 4000000 in
def f_X7_read_L9 (n : Nat) (x0 : Nat) (x1 : Int32) (x2 : Nat) : Nat → Int32 → q_Sto → Option (Int32 × q_Sto)
  | 0, _, _ => none
  | j + 1, x3, s0 =>
    if x3 ≤ 400 then (
    q_call (f_X8_isEnd n (q_RF x0 0) s0) fun r5 s4 =>
    if r5 = 0 then (
    q_call (f_X7_readLine n x0 x1 x2 s4) fun r8 s7 =>
    if r8 = 0 then (
    some (0, s7))
    else (
    q_call (f_X8_expectSign n (q_RF x0 0) 59 s7) fun r11 s10 =>
    if r11 = 0 then (
    some (0, s10))
    else (
    f_X7_read_L9 n x0 x1 x2  j (x3 + 1) s10)))
    else (
    some (1, s4)))
    else (
    some (1, s0))
set_option maxRecDepth 100000 in
set_option maxHeartbeats 4000000 in
def f_X7_read (n : Nat) (t : Nat) (a0 : Int32) (a1 : Nat) (s0 : q_Sto) : Option (Int32 × q_Sto) :=
  q_callv (f_X6_clear n (q_RF t 1) s0) fun s1 =>
  f_X7_read_L9 n t a0 a1  n 0 s1
set_option maxRecDepth 100000 in
set_option maxHeartbeats 4000000 in
theorem t_X7_read_L9 {w : q_Wd} {cx : q_Cx} (hc : q_ok w cx RX7 cX7_read 4 (some .boolean) (q_rm 11 253)) {n : Nat} {x0 : Nat} {x1 : Int32} {x2 : Nat} (hx0 : q_KD x0 = .inl 7) (hx2 : q_KD x2 = .inl 9)   :
    ∀ (j : Nat) (x3 : Int32) (s0 : q_Sto), q_G w cx 4 (some .boolean) 9 [some (q_rf w x0), some (.int x1), some (q_rf w x2), some (.int x3)] [] s0 (f_X7_read_L9 n x0 x1 x2  j x3 s0) := by
  intro j
  induction j with
  | zero =>
    intro _ _
    rw [f_X7_read_L9]
    exact q_none
  | succ j ih =>
    intro x3 s0
    rw [f_X7_read_L9]
    refine g_il3 hc dX7_read_9 rfl (pc2 := 10) rfl ?_
    refine g_sipush hc dX7_read_10 sp_400 (pc2 := 13) rfl ?_
    refine g_icmp_gt hc dX7_read_13 (pc1 := 16) (pc2 := 55) rfl rfl (fun _ => ?_) (fun _ => ?_)
    · refine g_rl0 hc dX7_read_16 rfl (pc2 := 17) rfl ?_
      refine g_getR hc fl_X7_20 rfl hx0 dX7_read_17 (pc2 := 20) rfl ?_
      refine g_callV0 hc (C_X8_isEnd (kf_7_0 hx0)) mv_X8_isEnd ln_X7_27 (kf_7_0 hx0) ⟨by decide, by decide⟩ (Nat.le_of_ble_eq_true rfl) dX7_read_20 (pc2 := 23) rfl (fun r5 s4 => ?_)
      refine g_if_ne hc dX7_read_23 (pc1 := 26) (pc2 := 55) rfl rfl (fun _ => ?_) (fun _ => ?_)
      · refine g_rl0 hc dX7_read_26 rfl (pc2 := 27) rfl ?_
        refine g_il1 hc dX7_read_27 rfl (pc2 := 28) rfl ?_
        refine g_rl2 hc dX7_read_28 rfl (pc2 := 29) rfl ?_
        refine g_callV2 hc (C_X7_readLine hx0 hx2) mv_X7_readLine ln_X7_33 hx0 ⟨by decide, by decide⟩ (Nat.le_of_ble_eq_true rfl) dX7_read_29 (pc2 := 32) rfl (fun r8 s7 => ?_)
        refine g_if_eq hc dX7_read_32 (pc1 := 47) (pc2 := 35) rfl rfl (fun _ => ?_) (fun _ => ?_)
        · refine g_iconst hc dX7_read_47 ic_0 (pc2 := 48) rfl ?_
          exact g_zret0 (by decide) hc dX7_read_48
        · refine g_rl0 hc dX7_read_35 rfl (pc2 := 36) rfl ?_
          refine g_getR hc fl_X7_20 rfl hx0 dX7_read_36 (pc2 := 39) rfl ?_
          refine g_bipush hc dX7_read_39 bp_59 (pc2 := 41) rfl ?_
          refine g_callV1 hc (C_X8_expectSign (kf_7_0 hx0)) mv_X8_expectSign ln_X7_37 (kf_7_0 hx0) ⟨by decide, by decide⟩ (Nat.le_of_ble_eq_true rfl) dX7_read_41 (pc2 := 44) rfl (fun r11 s10 => ?_)
          refine g_if_ne hc dX7_read_44 (pc1 := 47) (pc2 := 49) rfl rfl (fun _ => ?_) (fun _ => ?_)
          · refine g_iconst hc dX7_read_47 ic_0 (pc2 := 48) rfl ?_
            exact g_zret0 (by decide) hc dX7_read_48
          · refine g_iinc hc dX7_read_49 rfl (q_ii ic_1) (by decide) (L2 := [some (q_rf w x0), some (.int x1), some (q_rf w x2), some (.int (x3 + 1))]) rfl (pc2 := 52) rfl ?_
            refine g_goto hc dX7_read_52 (pc2 := 9) rfl ?_
            exact ih _ _
      · refine g_iconst hc dX7_read_55 ic_1 (pc2 := 56) rfl ?_
        exact g_zret0 (by decide) hc dX7_read_56
    · refine g_iconst hc dX7_read_55 ic_1 (pc2 := 56) rfl ?_
      exact g_zret0 (by decide) hc dX7_read_56
set_option maxRecDepth 100000 in
set_option maxHeartbeats 4000000 in
theorem C_X7_read {l : Launch} {w : q_Wd} {n : Nat} {t : Nat} {a0 : Int32} {a1 : Nat} (ht : q_KD t = .inl 7) (ha1 : q_KD a1 = .inl 9) {s0 : q_Sto} : q_C l w yX7_read cX7_read 4 (some .boolean) (q_rm 11 253) [q_rf w t, .int a0, q_rf w a1] s0 (f_X7_read n t a0 a1 s0) := q_CofG [some (q_rf w t), some (.int a0), some (q_rf w a1), none] (by decide +kernel) rfl rfl (Nat.le_of_ble_eq_true rfl) fun cx hl hc => by
  have hc : q_ok w cx RX7 cX7_read 4 (some .boolean) (q_rm 11 253) := hc
  rw [f_X7_read]
  refine g_rl0 hc dX7_read_0 rfl (pc2 := 1) rfl ?_
  refine g_getR hc fl_X7_14 rfl ht dX7_read_1 (pc2 := 4) rfl ?_
  refine g_callV0v hc (C_X6_clear (kf_7_1 ht)) mv_X6_clear ln_X7_24 (kf_7_1 ht) ⟨by decide, by decide⟩ (Nat.le_of_ble_eq_true rfl) dX7_read_4 (pc2 := 7) rfl (fun s1 => ?_)
  refine g_iconst hc dX7_read_7 ic_0 (pc2 := 8) rfl ?_
  refine g_is3 hc dX7_read_8 (by decide) (L2 := [some (q_rf w t), some (.int a0), some (q_rf w a1), some (.int 0)]) rfl (pc2 := 9) rfl ?_
  refine t_X7_read_L9 hc ht ha1  n _ _
set_option maxRecDepth 100000 in
set_option maxHeartbeats 4000000 in
def f_X8_add_L3 (n : Nat) (x0 : Nat) (x1 : Int32) : Nat → Int32 → q_Sto → Option (Int32 × q_Sto)
  | 0, _, _ => none
  | j + 1, x2, s0 =>
    if x2 < 0 then (
    some (0, s0))
    else (
    if (s0 x0 1) < 0 then (
    f_X8_add_L3 n x0 x1  j (x2 + (-8)) s0)
    else (
    if (s0 x0 1) < 400 then (
    q_st s0 (q_RF x0 0) (s0 x0 1) 400 ((q_ushr x1 x2) &&& 255) fun s4 =>
    q_nS1 (q_up s4 x0 1 ((s4 x0 1) + 1)) fun s5 =>
    f_X8_add_L3 n x0 x1  j (x2 + (-8)) s5)
    else (
    f_X8_add_L3 n x0 x1  j (x2 + (-8)) s0)))
set_option maxRecDepth 100000 in
set_option maxHeartbeats 4000000 in
def f_X8_add (n : Nat) (t : Nat) (a0 : Int32) (s0 : q_Sto) : Option (Int32 × q_Sto) :=
  f_X8_add_L3 n t a0  n 24 s0
set_option maxRecDepth 100000 in
set_option maxHeartbeats 4000000 in
theorem t_X8_add_L3 {w : q_Wd} {cx : q_Cx} (hc : q_ok w cx RX8 cX8_add 3 (none) (q_rm 0 0)) {n : Nat} {x0 : Nat} {x1 : Int32} (hx0 : q_KD x0 = .inl 8)   :
    ∀ (j : Nat) (x2 : Int32) (s0 : q_Sto), q_G w cx 3 (none) 3 [some (q_rf w x0), some (.int x1), some (.int x2)] [] s0 (f_X8_add_L3 n x0 x1  j x2 s0) := by
  intro j
  induction j with
  | zero =>
    intro _ _
    rw [f_X8_add_L3]
    exact q_none
  | succ j ih =>
    intro x2 s0
    rw [f_X8_add_L3]
    refine g_il2 hc dX8_add_3 rfl (pc2 := 4) rfl ?_
    refine g_if_lt hc dX8_add_4 (pc1 := 56) (pc2 := 7) rfl rfl (fun _ => ?_) (fun _ => ?_)
    · exact g_vret hc dX8_add_56
    · refine g_rl0 hc dX8_add_7 rfl (pc2 := 8) rfl ?_
      refine g_getI hc fl_X8_15 rfl hx0 dX8_add_8 (pc2 := 11) rfl ?_
      refine g_if_lt hc dX8_add_11 (pc1 := 50) (pc2 := 14) rfl rfl (fun _ => ?_) (fun _ => ?_)
      · refine g_iinc hc dX8_add_50 rfl (q_ii ic_m8) (by decide) (L2 := [some (q_rf w x0), some (.int x1), some (.int (x2 + (-8)))]) rfl (pc2 := 53) rfl ?_
        refine g_goto hc dX8_add_53 (pc2 := 3) rfl ?_
        exact ih _ _
      · refine g_rl0 hc dX8_add_14 rfl (pc2 := 15) rfl ?_
        refine g_getI hc fl_X8_15 rfl hx0 dX8_add_15 (pc2 := 18) rfl ?_
        refine g_sipush hc dX8_add_18 sp_400 (pc2 := 21) rfl ?_
        refine g_icmp_ge hc dX8_add_21 (pc1 := 24) (pc2 := 50) rfl rfl (fun _ => ?_) (fun _ => ?_)
        · refine g_rl0 hc dX8_add_24 rfl (pc2 := 25) rfl ?_
          refine g_getR hc fl_X8_9 rfl hx0 dX8_add_25 (pc2 := 28) rfl ?_
          refine g_rl0 hc dX8_add_28 rfl (pc2 := 29) rfl ?_
          refine g_getI hc fl_X8_15 rfl hx0 dX8_add_29 (pc2 := 32) rfl ?_
          refine g_il1 hc dX8_add_32 rfl (pc2 := 33) rfl ?_
          refine g_il2 hc dX8_add_33 rfl (pc2 := 34) rfl ?_
          refine g_iushr hc dX8_add_34 (pc2 := 35) rfl ?_
          refine g_sipush hc dX8_add_35 sp_255 (pc2 := 38) rfl ?_
          refine g_iand hc dX8_add_38 (pc2 := 39) rfl ?_
          refine g_iast hc (kf_8_0 hx0) (kl_8_0 hx0) dX8_add_39 (pc2 := 40) rfl (fun s4 => ?_)
          refine g_rl0 hc dX8_add_40 rfl (pc2 := 41) rfl ?_
          refine g_dup hc dX8_add_41 rfl (pc2 := 42) rfl ?_
          refine g_getI hc fl_X8_15 rfl hx0 dX8_add_42 (pc2 := 45) rfl ?_
          refine g_iconst hc dX8_add_45 ic_1 (pc2 := 46) rfl ?_
          refine g_iadd hc dX8_add_46 (pc2 := 47) rfl ?_
          refine g_putI hc fl_X8_15 rfl hx0 dX8_add_47 (pc2 := 50) rfl (fun s5 => ?_)
          refine g_iinc hc dX8_add_50 rfl (q_ii ic_m8) (by decide) (L2 := [some (q_rf w x0), some (.int x1), some (.int (x2 + (-8)))]) rfl (pc2 := 53) rfl ?_
          refine g_goto hc dX8_add_53 (pc2 := 3) rfl ?_
          exact ih _ _
        · refine g_iinc hc dX8_add_50 rfl (q_ii ic_m8) (by decide) (L2 := [some (q_rf w x0), some (.int x1), some (.int (x2 + (-8)))]) rfl (pc2 := 53) rfl ?_
          refine g_goto hc dX8_add_53 (pc2 := 3) rfl ?_
          exact ih _ _
set_option maxRecDepth 100000 in
set_option maxHeartbeats 4000000 in
theorem C_X8_add {l : Launch} {w : q_Wd} {n : Nat} {t : Nat} {a0 : Int32} (ht : q_KD t = .inl 8) {s0 : q_Sto} : q_C l w yX8_add cX8_add 3 (none) (q_rm 0 0) [q_rf w t, .int a0] s0 (f_X8_add n t a0 s0) := q_CofG [some (q_rf w t), some (.int a0), none] (by decide +kernel) rfl rfl (Nat.le_of_ble_eq_true rfl) fun cx hl hc => by
  have hc : q_ok w cx RX8 cX8_add 3 (none) (q_rm 0 0) := hc
  rw [f_X8_add]
  refine g_bipush hc dX8_add_0 bp_24 (pc2 := 2) rfl ?_
  refine g_is2 hc dX8_add_2 (by decide) (L2 := [some (q_rf w t), some (.int a0), some (.int 24)]) rfl (pc2 := 3) rfl ?_
  refine t_X8_add_L3 hc ht  n _ _
set_option maxRecDepth 100000 in
set_option maxHeartbeats 4000000 in
def f_X8_begin (n : Nat) (t : Nat) (s0 : q_Sto) : Option (Int32 × q_Sto) :=
  q_nS1 (q_up s0 t 6 0) fun s1 =>
  q_nS1 (q_up s1 t 7 (-1)) fun s2 =>
  q_nS1 (q_up s2 t 2 0) fun s3 =>
  q_callv (f_X8_next n t s3) fun s4 =>
  some (0, s4)
set_option maxRecDepth 100000 in
set_option maxHeartbeats 4000000 in
theorem C_X8_begin {l : Launch} {w : q_Wd} {n : Nat} {t : Nat} (ht : q_KD t = .inl 8) {s0 : q_Sto} : q_C l w yX8_begin cX8_begin 1 (none) (q_rm 2 41) [q_rf w t] s0 (f_X8_begin n t s0) := q_CofG [some (q_rf w t)] (by decide +kernel) rfl rfl (Nat.le_of_ble_eq_true rfl) fun cx hl hc => by
  have hc : q_ok w cx RX8 cX8_begin 1 (none) (q_rm 2 41) := hc
  rw [f_X8_begin]
  refine g_rl0 hc dX8_begin_0 rfl (pc2 := 1) rfl ?_
  refine g_iconst hc dX8_begin_1 ic_0 (pc2 := 2) rfl ?_
  refine g_putI hc fl_X8_31 rfl ht dX8_begin_2 (pc2 := 5) rfl (fun s1 => ?_)
  refine g_rl0 hc dX8_begin_5 rfl (pc2 := 6) rfl ?_
  refine g_iconst hc dX8_begin_6 ic_m1 (pc2 := 7) rfl ?_
  refine g_putI hc fl_X8_34 rfl ht dX8_begin_7 (pc2 := 10) rfl (fun s2 => ?_)
  refine g_rl0 hc dX8_begin_10 rfl (pc2 := 11) rfl ?_
  refine g_iconst hc dX8_begin_11 ic_0 (pc2 := 12) rfl ?_
  refine g_putI hc fl_X8_19 rfl ht dX8_begin_12 (pc2 := 15) rfl (fun s3 => ?_)
  refine g_rl0 hc dX8_begin_15 rfl (pc2 := 16) rfl ?_
  refine g_callV0v hc (C_X8_next ht) mv_X8_next ln_X8_37 ht ⟨by decide, by decide⟩ (Nat.le_of_ble_eq_true rfl) dX8_begin_16 (pc2 := 19) rfl (fun s4 => ?_)
  exact g_vret hc dX8_begin_19
set_option maxRecDepth 100000 in
set_option maxHeartbeats 4000000 in
def f_X9_addMule (n : Nat) (t : Nat) (a0 : Int32) (a1 : Int32) (s0 : q_Sto) : Option (Int32 × q_Sto) :=
  if (s0 t 8) < 0 then (
  some ((-1), s0))
  else (
  if (s0 t 8) < 12 then (
  q_st s0 (q_RF t 0) (s0 t 8) 12 a0 fun s3 =>
  q_st s3 (q_RF t 1) (s3 t 8) 12 a1 fun s4 =>
  q_nS1 (q_up s4 t 8 ((s4 t 8) + 1)) fun s5 =>
  some ((s5 t 8) - 1, s5))
  else (
  some ((-1), s0)))
set_option maxRecDepth 100000 in
set_option maxHeartbeats 4000000 in
theorem C_X9_addMule {l : Launch} {w : q_Wd} {n : Nat} {t : Nat} {a0 : Int32} {a1 : Int32} (ht : q_KD t = .inl 9) {s0 : q_Sto} : q_C l w yX9_addMule cX9_addMule 3 (some .int) (q_rm 0 0) [q_rf w t, .int a0, .int a1] s0 (f_X9_addMule n t a0 a1 s0) := q_CofG [some (q_rf w t), some (.int a0), some (.int a1)] (by decide +kernel) rfl rfl (Nat.le_of_ble_eq_true rfl) fun cx hl hc => by
  have hc : q_ok w cx RX9 cX9_addMule 3 (some .int) (q_rm 0 0) := hc
  rw [f_X9_addMule]
  refine g_rl0 hc dX9_addMule_0 rfl (pc2 := 1) rfl ?_
  refine g_getI hc fl_X9_36 rfl ht dX9_addMule_1 (pc2 := 4) rfl ?_
  refine g_if_lt hc dX9_addMule_4 (pc1 := 16) (pc2 := 7) rfl rfl (fun _ => ?_) (fun _ => ?_)
  · refine g_iconst hc dX9_addMule_16 ic_m1 (pc2 := 17) rfl ?_
    exact g_iret hc dX9_addMule_17
  · refine g_rl0 hc dX9_addMule_7 rfl (pc2 := 8) rfl ?_
    refine g_getI hc fl_X9_36 rfl ht dX9_addMule_8 (pc2 := 11) rfl ?_
    refine g_bipush hc dX9_addMule_11 bp_12 (pc2 := 13) rfl ?_
    refine g_icmp_lt hc dX9_addMule_13 (pc1 := 18) (pc2 := 16) rfl rfl (fun _ => ?_) (fun _ => ?_)
    · refine g_rl0 hc dX9_addMule_18 rfl (pc2 := 19) rfl ?_
      refine g_getR hc fl_X9_9 rfl ht dX9_addMule_19 (pc2 := 22) rfl ?_
      refine g_rl0 hc dX9_addMule_22 rfl (pc2 := 23) rfl ?_
      refine g_getI hc fl_X9_36 rfl ht dX9_addMule_23 (pc2 := 26) rfl ?_
      refine g_il1 hc dX9_addMule_26 rfl (pc2 := 27) rfl ?_
      refine g_iast hc (kf_9_0 ht) (kl_9_0 ht) dX9_addMule_27 (pc2 := 28) rfl (fun s3 => ?_)
      refine g_rl0 hc dX9_addMule_28 rfl (pc2 := 29) rfl ?_
      refine g_getR hc fl_X9_15 rfl ht dX9_addMule_29 (pc2 := 32) rfl ?_
      refine g_rl0 hc dX9_addMule_32 rfl (pc2 := 33) rfl ?_
      refine g_getI hc fl_X9_36 rfl ht dX9_addMule_33 (pc2 := 36) rfl ?_
      refine g_il2 hc dX9_addMule_36 rfl (pc2 := 37) rfl ?_
      refine g_iast hc (kf_9_1 ht) (kl_9_1 ht) dX9_addMule_37 (pc2 := 38) rfl (fun s4 => ?_)
      refine g_rl0 hc dX9_addMule_38 rfl (pc2 := 39) rfl ?_
      refine g_dup hc dX9_addMule_39 rfl (pc2 := 40) rfl ?_
      refine g_getI hc fl_X9_36 rfl ht dX9_addMule_40 (pc2 := 43) rfl ?_
      refine g_iconst hc dX9_addMule_43 ic_1 (pc2 := 44) rfl ?_
      refine g_iadd hc dX9_addMule_44 (pc2 := 45) rfl ?_
      refine g_putI hc fl_X9_36 rfl ht dX9_addMule_45 (pc2 := 48) rfl (fun s5 => ?_)
      refine g_rl0 hc dX9_addMule_48 rfl (pc2 := 49) rfl ?_
      refine g_getI hc fl_X9_36 rfl ht dX9_addMule_49 (pc2 := 52) rfl ?_
      refine g_iconst hc dX9_addMule_52 ic_1 (pc2 := 53) rfl ?_
      refine g_isub hc dX9_addMule_53 (pc2 := 54) rfl ?_
      exact g_iret hc dX9_addMule_54
    · refine g_iconst hc dX9_addMule_16 ic_m1 (pc2 := 17) rfl ?_
      exact g_iret hc dX9_addMule_17
set_option maxRecDepth 100000 in
set_option maxHeartbeats 4000000 in
def f_X9_addMan (n : Nat) (t : Nat) (a0 : Int32) (a1 : Int32) (a2 : Int32) (s0 : q_Sto) : Option (Int32 × q_Sto) :=
  if (s0 t 9) < 0 then (
  some ((-1), s0))
  else (
  if (s0 t 9) < 5 then (
  q_st s0 (q_RF t 4) (s0 t 9) 5 a0 fun s3 =>
  q_st s3 (q_RF t 5) (s3 t 9) 5 a1 fun s4 =>
  q_st s4 (q_RF t 6) (s4 t 9) 5 a2 fun s5 =>
  q_nS1 (q_up s5 t 9 ((s5 t 9) + 1)) fun s6 =>
  some ((s6 t 9) - 1, s6))
  else (
  some ((-1), s0)))
set_option maxRecDepth 100000 in
set_option maxHeartbeats 4000000 in
theorem C_X9_addMan {l : Launch} {w : q_Wd} {n : Nat} {t : Nat} {a0 : Int32} {a1 : Int32} {a2 : Int32} (ht : q_KD t = .inl 9) {s0 : q_Sto} : q_C l w yX9_addMan cX9_addMan 4 (some .int) (q_rm 0 0) [q_rf w t, .int a0, .int a1, .int a2] s0 (f_X9_addMan n t a0 a1 a2 s0) := q_CofG [some (q_rf w t), some (.int a0), some (.int a1), some (.int a2)] (by decide +kernel) rfl rfl (Nat.le_of_ble_eq_true rfl) fun cx hl hc => by
  have hc : q_ok w cx RX9 cX9_addMan 4 (some .int) (q_rm 0 0) := hc
  rw [f_X9_addMan]
  refine g_rl0 hc dX9_addMan_0 rfl (pc2 := 1) rfl ?_
  refine g_getI hc fl_X9_40 rfl ht dX9_addMan_1 (pc2 := 4) rfl ?_
  refine g_if_lt hc dX9_addMan_4 (pc1 := 15) (pc2 := 7) rfl rfl (fun _ => ?_) (fun _ => ?_)
  · refine g_iconst hc dX9_addMan_15 ic_m1 (pc2 := 16) rfl ?_
    exact g_iret hc dX9_addMan_16
  · refine g_rl0 hc dX9_addMan_7 rfl (pc2 := 8) rfl ?_
    refine g_getI hc fl_X9_40 rfl ht dX9_addMan_8 (pc2 := 11) rfl ?_
    refine g_iconst hc dX9_addMan_11 ic_5 (pc2 := 12) rfl ?_
    refine g_icmp_lt hc dX9_addMan_12 (pc1 := 17) (pc2 := 15) rfl rfl (fun _ => ?_) (fun _ => ?_)
    · refine g_rl0 hc dX9_addMan_17 rfl (pc2 := 18) rfl ?_
      refine g_getR hc fl_X9_24 rfl ht dX9_addMan_18 (pc2 := 21) rfl ?_
      refine g_rl0 hc dX9_addMan_21 rfl (pc2 := 22) rfl ?_
      refine g_getI hc fl_X9_40 rfl ht dX9_addMan_22 (pc2 := 25) rfl ?_
      refine g_il1 hc dX9_addMan_25 rfl (pc2 := 26) rfl ?_
      refine g_iast hc (kf_9_4 ht) (kl_9_4 ht) dX9_addMan_26 (pc2 := 27) rfl (fun s3 => ?_)
      refine g_rl0 hc dX9_addMan_27 rfl (pc2 := 28) rfl ?_
      refine g_getR hc fl_X9_27 rfl ht dX9_addMan_28 (pc2 := 31) rfl ?_
      refine g_rl0 hc dX9_addMan_31 rfl (pc2 := 32) rfl ?_
      refine g_getI hc fl_X9_40 rfl ht dX9_addMan_32 (pc2 := 35) rfl ?_
      refine g_il2 hc dX9_addMan_35 rfl (pc2 := 36) rfl ?_
      refine g_iast hc (kf_9_5 ht) (kl_9_5 ht) dX9_addMan_36 (pc2 := 37) rfl (fun s4 => ?_)
      refine g_rl0 hc dX9_addMan_37 rfl (pc2 := 38) rfl ?_
      refine g_getR hc fl_X9_30 rfl ht dX9_addMan_38 (pc2 := 41) rfl ?_
      refine g_rl0 hc dX9_addMan_41 rfl (pc2 := 42) rfl ?_
      refine g_getI hc fl_X9_40 rfl ht dX9_addMan_42 (pc2 := 45) rfl ?_
      refine g_il3 hc dX9_addMan_45 rfl (pc2 := 46) rfl ?_
      refine g_iast hc (kf_9_6 ht) (kl_9_6 ht) dX9_addMan_46 (pc2 := 47) rfl (fun s5 => ?_)
      refine g_rl0 hc dX9_addMan_47 rfl (pc2 := 48) rfl ?_
      refine g_dup hc dX9_addMan_48 rfl (pc2 := 49) rfl ?_
      refine g_getI hc fl_X9_40 rfl ht dX9_addMan_49 (pc2 := 52) rfl ?_
      refine g_iconst hc dX9_addMan_52 ic_1 (pc2 := 53) rfl ?_
      refine g_iadd hc dX9_addMan_53 (pc2 := 54) rfl ?_
      refine g_putI hc fl_X9_40 rfl ht dX9_addMan_54 (pc2 := 57) rfl (fun s6 => ?_)
      refine g_rl0 hc dX9_addMan_57 rfl (pc2 := 58) rfl ?_
      refine g_getI hc fl_X9_40 rfl ht dX9_addMan_58 (pc2 := 61) rfl ?_
      refine g_iconst hc dX9_addMan_61 ic_1 (pc2 := 62) rfl ?_
      refine g_isub hc dX9_addMan_62 (pc2 := 63) rfl ?_
      exact g_iret hc dX9_addMan_63
    · refine g_iconst hc dX9_addMan_15 ic_m1 (pc2 := 16) rfl ?_
      exact g_iret hc dX9_addMan_16
set_option maxRecDepth 100000 in
set_option maxHeartbeats 4000000 in
def f_X9_setLiking (n : Nat) (t : Nat) (a0 : Int32) (a1 : Int32) (a2 : Int32) (s0 : q_Sto) : Option (Int32 × q_Sto) :=
  q_call (f_X9_hasMule n t a0 s0) fun r2 s1 =>
  if r2 = 0 then (
  some (0, s1))
  else (
  q_call (f_X9_hasMan n t a1 s1) fun r5 s4 =>
  if r5 = 0 then (
  some (0, s4))
  else (
  q_st s4 (q_RF t 7) ((a0 * 5) + a1) 60 (q_mx 0 (q_mn 99 a2)) fun s7 =>
  some (0, s7)))
set_option maxRecDepth 100000 in
set_option maxHeartbeats 4000000 in
theorem C_X9_setLiking {l : Launch} {w : q_Wd} {n : Nat} {t : Nat} {a0 : Int32} {a1 : Int32} {a2 : Int32} (ht : q_KD t = .inl 9) {s0 : q_Sto} : q_C l w yX9_setLiking cX9_setLiking 4 (none) (q_rm 1 21) [q_rf w t, .int a0, .int a1, .int a2] s0 (f_X9_setLiking n t a0 a1 a2 s0) := q_CofG [some (q_rf w t), some (.int a0), some (.int a1), some (.int a2)] (by decide +kernel) rfl rfl (Nat.le_of_ble_eq_true rfl) fun cx hl hc => by
  have hc : q_ok w cx RX9 cX9_setLiking 4 (none) (q_rm 1 21) := hc
  rw [f_X9_setLiking]
  refine g_rl0 hc dX9_setLiking_0 rfl (pc2 := 1) rfl ?_
  refine g_il1 hc dX9_setLiking_1 rfl (pc2 := 2) rfl ?_
  refine g_callV1 hc (C_X9_hasMule ht) mv_X9_hasMule ln_X9_77 ht ⟨by decide, by decide⟩ (Nat.le_of_ble_eq_true rfl) dX9_setLiking_2 (pc2 := 5) rfl (fun r2 s1 => ?_)
  refine g_if_eq hc dX9_setLiking_5 (pc1 := 36) (pc2 := 8) rfl rfl (fun _ => ?_) (fun _ => ?_)
  · exact g_vret hc dX9_setLiking_36
  · refine g_rl0 hc dX9_setLiking_8 rfl (pc2 := 9) rfl ?_
    refine g_il2 hc dX9_setLiking_9 rfl (pc2 := 10) rfl ?_
    refine g_callV1 hc (C_X9_hasMan ht) mv_X9_hasMan ln_X9_81 ht ⟨by decide, by decide⟩ (Nat.le_of_ble_eq_true rfl) dX9_setLiking_10 (pc2 := 13) rfl (fun r5 s4 => ?_)
    refine g_if_eq hc dX9_setLiking_13 (pc1 := 36) (pc2 := 16) rfl rfl (fun _ => ?_) (fun _ => ?_)
    · exact g_vret hc dX9_setLiking_36
    · refine g_rl0 hc dX9_setLiking_16 rfl (pc2 := 17) rfl ?_
      refine g_getR hc fl_X9_33 rfl ht dX9_setLiking_17 (pc2 := 20) rfl ?_
      refine g_il1 hc dX9_setLiking_20 rfl (pc2 := 21) rfl ?_
      refine g_iconst hc dX9_setLiking_21 ic_5 (pc2 := 22) rfl ?_
      refine g_imul hc dX9_setLiking_22 (pc2 := 23) rfl ?_
      refine g_il2 hc dX9_setLiking_23 rfl (pc2 := 24) rfl ?_
      refine g_iadd hc dX9_setLiking_24 (pc2 := 25) rfl ?_
      refine g_iconst hc dX9_setLiking_25 ic_0 (pc2 := 26) rfl ?_
      refine g_bipush hc dX9_setLiking_26 bp_99 (pc2 := 28) rfl ?_
      refine g_il3 hc dX9_setLiking_28 rfl (pc2 := 29) rfl ?_
      refine g_min hc ln_X9_84 ⟨by decide, by decide⟩ (Nat.le_of_ble_eq_true rfl) dX9_setLiking_29 (pc2 := 32) rfl ?_
      refine g_max hc ln_X9_90 ⟨by decide, by decide⟩ (Nat.le_of_ble_eq_true rfl) dX9_setLiking_32 (pc2 := 35) rfl ?_
      refine g_iast hc (kf_9_7 ht) (kl_9_7 ht) dX9_setLiking_35 (pc2 := 36) rfl (fun s7 => ?_)
      exact g_vret hc dX9_setLiking_36
set_option maxRecDepth 100000 in
set_option maxHeartbeats 4000000 in
def f_X9_moveLiking (n : Nat) (t : Nat) (a0 : Int32) (a1 : Int32) (a2 : Int32) (s0 : q_Sto) : Option (Int32 × q_Sto) :=
  q_call (f_X9_likingFor n t a0 a1 s0) fun r2 s1 =>
  q_callv (f_X9_setLiking n t a0 a1 (r2 + a2) s1) fun s3 =>
  some (0, s3)
set_option maxRecDepth 100000 in
set_option maxHeartbeats 4000000 in
theorem C_X9_moveLiking {l : Launch} {w : q_Wd} {n : Nat} {t : Nat} {a0 : Int32} {a1 : Int32} {a2 : Int32} (ht : q_KD t = .inl 9) {s0 : q_Sto} : q_C l w yX9_moveLiking cX9_moveLiking 4 (none) (q_rm 2 44) [q_rf w t, .int a0, .int a1, .int a2] s0 (f_X9_moveLiking n t a0 a1 a2 s0) := q_CofG [some (q_rf w t), some (.int a0), some (.int a1), some (.int a2)] (by decide +kernel) rfl rfl (Nat.le_of_ble_eq_true rfl) fun cx hl hc => by
  have hc : q_ok w cx RX9 cX9_moveLiking 4 (none) (q_rm 2 44) := hc
  rw [f_X9_moveLiking]
  refine g_rl0 hc dX9_moveLiking_0 rfl (pc2 := 1) rfl ?_
  refine g_il1 hc dX9_moveLiking_1 rfl (pc2 := 2) rfl ?_
  refine g_il2 hc dX9_moveLiking_2 rfl (pc2 := 3) rfl ?_
  refine g_rl0 hc dX9_moveLiking_3 rfl (pc2 := 4) rfl ?_
  refine g_il1 hc dX9_moveLiking_4 rfl (pc2 := 5) rfl ?_
  refine g_il2 hc dX9_moveLiking_5 rfl (pc2 := 6) rfl ?_
  refine g_callV2 hc (C_X9_likingFor ht) mv_X9_likingFor ln_X9_93 ht ⟨by decide, by decide⟩ (Nat.le_of_ble_eq_true rfl) dX9_moveLiking_6 (pc2 := 9) rfl (fun r2 s1 => ?_)
  refine g_il3 hc dX9_moveLiking_9 rfl (pc2 := 10) rfl ?_
  refine g_iadd hc dX9_moveLiking_10 (pc2 := 11) rfl ?_
  refine g_callV3v hc (C_X9_setLiking ht) mv_X9_setLiking ln_X9_96 ht ⟨by decide, by decide⟩ (Nat.le_of_ble_eq_true rfl) dX9_moveLiking_11 (pc2 := 14) rfl (fun s3 => ?_)
  exact g_vret hc dX9_moveLiking_14
set_option maxRecDepth 100000 in
set_option maxHeartbeats 4000000 in
def f_X9_behindOf_L4 (n : Nat) (x0 : Nat) (x1 : Int32) : Nat → Int32 → Int32 → q_Sto → Option (Int32 × q_Sto)
  | 0, _, _, _ => none
  | j + 1, x2, x3, s0 =>
    if x3 < (s0 x0 8) then (
    if x3 < 12 then (
    q_ld s0 (q_RF x0 3) x3 12 fun v3 =>
    if v3 = x1 then (
    q_nm (x2 ||| (1 <<< (x3 &&& 31))) fun v5 =>
    f_X9_behindOf_L4 n x0 x1  j v5 (x3 + 1) s0)
    else (
    f_X9_behindOf_L4 n x0 x1  j x2 (x3 + 1) s0))
    else (
    some (x2, s0)))
    else (
    some (x2, s0))
set_option maxRecDepth 100000 in
set_option maxHeartbeats 4000000 in
def f_X9_behindOf (n : Nat) (t : Nat) (a0 : Int32) (s0 : q_Sto) : Option (Int32 × q_Sto) :=
  f_X9_behindOf_L4 n t a0  n 0 0 s0
set_option maxRecDepth 100000 in
set_option maxHeartbeats 4000000 in
theorem t_X9_behindOf_L4 {w : q_Wd} {cx : q_Cx} (hc : q_ok w cx RX9 cX9_behindOf 4 (some .int) (q_rm 0 0)) {n : Nat} {x0 : Nat} {x1 : Int32} (hx0 : q_KD x0 = .inl 9)   :
    ∀ (j : Nat) (x2 : Int32) (x3 : Int32) (s0 : q_Sto), q_G w cx 4 (some .int) 4 [some (q_rf w x0), some (.int x1), some (.int x2), some (.int x3)] [] s0 (f_X9_behindOf_L4 n x0 x1  j x2 x3 s0) := by
  intro j
  induction j with
  | zero =>
    intro _ _ _
    rw [f_X9_behindOf_L4]
    exact q_none
  | succ j ih =>
    intro x2 x3 s0
    rw [f_X9_behindOf_L4]
    refine g_il3 hc dX9_behindOf_4 rfl (pc2 := 5) rfl ?_
    refine g_rl0 hc dX9_behindOf_5 rfl (pc2 := 6) rfl ?_
    refine g_getI hc fl_X9_36 rfl hx0 dX9_behindOf_6 (pc2 := 9) rfl ?_
    refine g_icmp_ge hc dX9_behindOf_9 (pc1 := 12) (pc2 := 40) rfl rfl (fun _ => ?_) (fun _ => ?_)
    · refine g_il3 hc dX9_behindOf_12 rfl (pc2 := 13) rfl ?_
      refine g_bipush hc dX9_behindOf_13 bp_12 (pc2 := 15) rfl ?_
      refine g_icmp_ge hc dX9_behindOf_15 (pc1 := 18) (pc2 := 40) rfl rfl (fun _ => ?_) (fun _ => ?_)
      · refine g_rl0 hc dX9_behindOf_18 rfl (pc2 := 19) rfl ?_
        refine g_getR hc fl_X9_21 rfl hx0 dX9_behindOf_19 (pc2 := 22) rfl ?_
        refine g_il3 hc dX9_behindOf_22 rfl (pc2 := 23) rfl ?_
        refine g_iald hc (kf_9_3 hx0) (kl_9_3 hx0) dX9_behindOf_23 (pc2 := 24) rfl (fun v3 => ?_)
        refine g_il1 hc dX9_behindOf_24 rfl (pc2 := 25) rfl ?_
        refine g_icmp_ne hc dX9_behindOf_25 (pc1 := 28) (pc2 := 34) rfl rfl (fun _ => ?_) (fun _ => ?_)
        · refine g_il2 hc dX9_behindOf_28 rfl (pc2 := 29) rfl ?_
          refine g_iconst hc dX9_behindOf_29 ic_1 (pc2 := 30) rfl ?_
          refine g_il3 hc dX9_behindOf_30 rfl (pc2 := 31) rfl ?_
          refine g_ishl hc dX9_behindOf_31 (pc2 := 32) rfl ?_
          refine g_ior hc dX9_behindOf_32 (pc2 := 33) rfl ?_
          refine g_nm (fun v5 => ?_)
          refine g_is2 hc dX9_behindOf_33 (by decide) (L2 := [some (q_rf w x0), some (.int x1), some (.int v5), some (.int x3)]) rfl (pc2 := 34) rfl ?_
          refine g_iinc hc dX9_behindOf_34 rfl (q_ii ic_1) (by decide) (L2 := [some (q_rf w x0), some (.int x1), some (.int v5), some (.int (x3 + 1))]) rfl (pc2 := 37) rfl ?_
          refine g_goto hc dX9_behindOf_37 (pc2 := 4) rfl ?_
          exact ih _ _ _
        · refine g_iinc hc dX9_behindOf_34 rfl (q_ii ic_1) (by decide) (L2 := [some (q_rf w x0), some (.int x1), some (.int x2), some (.int (x3 + 1))]) rfl (pc2 := 37) rfl ?_
          refine g_goto hc dX9_behindOf_37 (pc2 := 4) rfl ?_
          exact ih _ _ _
      · refine g_il2 hc dX9_behindOf_40 rfl (pc2 := 41) rfl ?_
        exact g_iret hc dX9_behindOf_41
    · refine g_il2 hc dX9_behindOf_40 rfl (pc2 := 41) rfl ?_
      exact g_iret hc dX9_behindOf_41
set_option maxRecDepth 100000 in
set_option maxHeartbeats 4000000 in
theorem C_X9_behindOf {l : Launch} {w : q_Wd} {n : Nat} {t : Nat} {a0 : Int32} (ht : q_KD t = .inl 9) {s0 : q_Sto} : q_C l w yX9_behindOf cX9_behindOf 4 (some .int) (q_rm 0 0) [q_rf w t, .int a0] s0 (f_X9_behindOf n t a0 s0) := q_CofG [some (q_rf w t), some (.int a0), none, none] (by decide +kernel) rfl rfl (Nat.le_of_ble_eq_true rfl) fun cx hl hc => by
  have hc : q_ok w cx RX9 cX9_behindOf 4 (some .int) (q_rm 0 0) := hc
  rw [f_X9_behindOf]
  refine g_iconst hc dX9_behindOf_0 ic_0 (pc2 := 1) rfl ?_
  refine g_is2 hc dX9_behindOf_1 (by decide) (L2 := [some (q_rf w t), some (.int a0), some (.int 0), none]) rfl (pc2 := 2) rfl ?_
  refine g_iconst hc dX9_behindOf_2 ic_0 (pc2 := 3) rfl ?_
  refine g_is3 hc dX9_behindOf_3 (by decide) (L2 := [some (q_rf w t), some (.int a0), some (.int 0), some (.int 0)]) rfl (pc2 := 4) rfl ?_
  refine t_X9_behindOf_L4 hc ht  n _ _ _
set_option maxRecDepth 100000 in
set_option maxHeartbeats 4000000 in
def f_X9_draw (n : Nat) (t : Nat) (a0 : Int32) (s0 : q_Sto) : Option (Int32 × q_Sto) :=
  q_nS1 (q_up s0 t 10 ((1664525 * (s0 t 10)) + 1013904223)) fun s1 =>
  if a0 ≤ 0 then (
  some (0, s1))
  else (
  q_rem (q_ushr (s1 t 10) 8) a0 fun v3 =>
  some (v3, s1))
set_option maxRecDepth 100000 in
set_option maxHeartbeats 4000000 in
theorem C_X9_draw {l : Launch} {w : q_Wd} {n : Nat} {t : Nat} {a0 : Int32} (ht : q_KD t = .inl 9) {s0 : q_Sto} : q_C l w yX9_draw cX9_draw 2 (some .int) (q_rm 0 0) [q_rf w t, .int a0] s0 (f_X9_draw n t a0 s0) := q_CofG [some (q_rf w t), some (.int a0)] (by decide +kernel) rfl rfl (Nat.le_of_ble_eq_true rfl) fun cx hl hc => by
  have hc : q_ok w cx RX9 cX9_draw 2 (some .int) (q_rm 0 0) := hc
  rw [f_X9_draw]
  refine g_rl0 hc dX9_draw_0 rfl (pc2 := 1) rfl ?_
  refine g_ldc hc cn_X9_100 dX9_draw_1 (pc2 := 3) rfl ?_
  refine g_rl0 hc dX9_draw_3 rfl (pc2 := 4) rfl ?_
  refine g_getI hc fl_X9_43 rfl ht dX9_draw_4 (pc2 := 7) rfl ?_
  refine g_imul hc dX9_draw_7 (pc2 := 8) rfl ?_
  refine g_ldc hc cn_X9_101 dX9_draw_8 (pc2 := 10) rfl ?_
  refine g_iadd hc dX9_draw_10 (pc2 := 11) rfl ?_
  refine g_putI hc fl_X9_43 rfl ht dX9_draw_11 (pc2 := 14) rfl (fun s1 => ?_)
  refine g_il1 hc dX9_draw_14 rfl (pc2 := 15) rfl ?_
  refine g_if_le hc dX9_draw_15 (pc1 := 30) (pc2 := 18) rfl rfl (fun _ => ?_) (fun _ => ?_)
  · refine g_iconst hc dX9_draw_30 ic_0 (pc2 := 31) rfl ?_
    exact g_iret hc dX9_draw_31
  · refine g_rl0 hc dX9_draw_18 rfl (pc2 := 19) rfl ?_
    refine g_getI hc fl_X9_43 rfl ht dX9_draw_19 (pc2 := 22) rfl ?_
    refine g_bipush hc dX9_draw_22 bp_8 (pc2 := 24) rfl ?_
    refine g_iushr hc dX9_draw_24 (pc2 := 25) rfl ?_
    refine g_il1 hc dX9_draw_25 rfl (pc2 := 26) rfl ?_
    refine g_irem hc dX9_draw_26 (pc2 := 27) rfl (fun v3 => ?_)
    refine g_goto hc dX9_draw_27 (pc2 := 31) rfl ?_
    exact g_iret hc dX9_draw_31
set_option maxRecDepth 100000 in
set_option maxHeartbeats 4000000 in
def f_X10_leanNow (n : Nat) (t : Nat) (a0 : Int32) (a1 : Int32) (s0 : q_Sto) : Option (Int32 × q_Sto) :=
  q_call (f_X10_heededBy n t a0 s0) fun r2 s1 =>
  q_call (f_X9_behindOf n (q_RF t 0) a1 s1) fun r4 s3 =>
  q_call (f_J6_bitCount_0f7a4 n (r2 &&& r4) s3) fun r6 s5 =>
  q_call (f_X9_likingFor n (q_RF t 0) a0 a1 s5) fun r8 s7 =>
  q_call (f_X10_leanOf n t a0 a1 r8 r6 s7) fun r10 s9 =>
  some (r10, s9)
set_option maxRecDepth 100000 in
set_option maxHeartbeats 4000000 in
theorem C_X10_leanNow {l : Launch} {w : q_Wd} {n : Nat} {t : Nat} {a0 : Int32} {a1 : Int32} (ht : q_KD t = .inl 10) {s0 : q_Sto} : q_C l w yX10_leanNow cX10_leanNow 4 (some .int) (q_rm 3 78) [q_rf w t, .int a0, .int a1] s0 (f_X10_leanNow n t a0 a1 s0) := q_CofG [some (q_rf w t), some (.int a0), some (.int a1), none] (by decide +kernel) rfl rfl (Nat.le_of_ble_eq_true rfl) fun cx hl hc => by
  have hc : q_ok w cx RX10 cX10_leanNow 4 (some .int) (q_rm 3 78) := hc
  rw [f_X10_leanNow]
  refine g_rl0 hc dX10_leanNow_0 rfl (pc2 := 1) rfl ?_
  refine g_il1 hc dX10_leanNow_1 rfl (pc2 := 2) rfl ?_
  refine g_callV1 hc (C_X10_heededBy ht) mv_X10_heededBy ln_X10_110 ht ⟨by decide, by decide⟩ (Nat.le_of_ble_eq_true rfl) dX10_leanNow_2 (pc2 := 5) rfl (fun r2 s1 => ?_)
  refine g_rl0 hc dX10_leanNow_5 rfl (pc2 := 6) rfl ?_
  refine g_getR hc fl_X10_12 rfl ht dX10_leanNow_6 (pc2 := 9) rfl ?_
  refine g_il2 hc dX10_leanNow_9 rfl (pc2 := 10) rfl ?_
  refine g_callV1 hc (C_X9_behindOf (kf_10_0 ht)) mv_X9_behindOf ln_X10_114 (kf_10_0 ht) ⟨by decide, by decide⟩ (Nat.le_of_ble_eq_true rfl) dX10_leanNow_10 (pc2 := 13) rfl (fun r4 s3 => ?_)
  refine g_iand hc dX10_leanNow_13 (pc2 := 14) rfl ?_
  refine g_callS1 hc C_J6_bitCount_0f7a4 mv_J6_bitCount_0f7a4 ln_X10_117 ⟨by decide, by decide⟩ (Nat.le_of_ble_eq_true rfl) dX10_leanNow_14 (pc2 := 17) rfl (fun r6 s5 => ?_)
  refine g_is3 hc dX10_leanNow_17 (by decide) (L2 := [some (q_rf w t), some (.int a0), some (.int a1), some (.int r6)]) rfl (pc2 := 18) rfl ?_
  refine g_rl0 hc dX10_leanNow_18 rfl (pc2 := 19) rfl ?_
  refine g_il1 hc dX10_leanNow_19 rfl (pc2 := 20) rfl ?_
  refine g_il2 hc dX10_leanNow_20 rfl (pc2 := 21) rfl ?_
  refine g_rl0 hc dX10_leanNow_21 rfl (pc2 := 22) rfl ?_
  refine g_getR hc fl_X10_12 rfl ht dX10_leanNow_22 (pc2 := 25) rfl ?_
  refine g_il1 hc dX10_leanNow_25 rfl (pc2 := 26) rfl ?_
  refine g_il2 hc dX10_leanNow_26 rfl (pc2 := 27) rfl ?_
  refine g_callV2 hc (C_X9_likingFor (kf_10_0 ht)) mv_X9_likingFor ln_X10_122 (kf_10_0 ht) ⟨by decide, by decide⟩ (Nat.le_of_ble_eq_true rfl) dX10_leanNow_27 (pc2 := 30) rfl (fun r8 s7 => ?_)
  refine g_il3 hc dX10_leanNow_30 rfl (pc2 := 31) rfl ?_
  refine g_callV4 hc (C_X10_leanOf ht) mv_X10_leanOf ln_X10_125 ht ⟨by decide, by decide⟩ (Nat.le_of_ble_eq_true rfl) dX10_leanNow_31 (pc2 := 34) rfl (fun r10 s9 => ?_)
  exact g_iret hc dX10_leanNow_34
