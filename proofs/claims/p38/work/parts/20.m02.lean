set_option maxRecDepth 100000 in
set_option maxHeartbeats 4000000 in
def f_X8_fail (n : Nat) (t : Nat) (a0 : Int32) (s0 : q_Sto) : Option (Int32 × q_Sto) :=
  q_nS1 (q_up s0 t 6 a0) fun s1 =>
  q_nS1 (q_up s1 t 7 (s1 t 3)) fun s2 =>
  some (0, s2)
set_option maxRecDepth 100000 in
set_option maxHeartbeats 4000000 in
theorem C_X8_fail {l : Launch} {w : q_Wd} {n : Nat} {t : Nat} {a0 : Int32} (ht : q_KD t = .inl 8) {s0 : q_Sto} : q_C l w yX8_fail cX8_fail 2 (some .boolean) (q_rm 0 0) [q_rf w t, .int a0] s0 (f_X8_fail n t a0 s0) := q_CofG [some (q_rf w t), some (.int a0)] (by decide +kernel) rfl rfl (Nat.le_of_ble_eq_true rfl) fun cx hl hc => by
  have hc : q_ok w cx RX8 cX8_fail 2 (some .boolean) (q_rm 0 0) := hc
  rw [f_X8_fail]
  refine g_rl0 hc dX8_fail_0 rfl (pc2 := 1) rfl ?_
  refine g_il1 hc dX8_fail_1 rfl (pc2 := 2) rfl ?_
  refine g_putI hc fl_X8_31 rfl ht dX8_fail_2 (pc2 := 5) rfl (fun s1 => ?_)
  refine g_rl0 hc dX8_fail_5 rfl (pc2 := 6) rfl ?_
  refine g_rl0 hc dX8_fail_6 rfl (pc2 := 7) rfl ?_
  refine g_getI hc fl_X8_22 rfl ht dX8_fail_7 (pc2 := 10) rfl ?_
  refine g_putI hc fl_X8_34 rfl ht dX8_fail_10 (pc2 := 13) rfl (fun s2 => ?_)
  refine g_iconst hc dX8_fail_13 ic_0 (pc2 := 14) rfl ?_
  exact g_zret0 (by decide) hc dX8_fail_14
set_option maxRecDepth 100000 in
set_option maxHeartbeats 4000000 in
def f_X8_isLetter (n : Nat) (a0 : Int32) (s0 : q_Sto) : Option (Int32 × q_Sto) :=
  q_jn (fun  (s1 : q_Sto) =>
    if a0 < 65 then (
    some (0, s1))
    else (
    if a0 ≤ 90 then (
    some (1, s1))
    else (
    some (0, s1)))) fun j12 =>
  if a0 < 97 then (
  j12 s0)
  else (
  if a0 ≤ 122 then (
  some (1, s0))
  else (
  j12 s0))
set_option maxRecDepth 100000 in
set_option maxHeartbeats 4000000 in
theorem C_X8_isLetter {l : Launch} {w : q_Wd} {n : Nat} {a0 : Int32}  {s0 : q_Sto} : q_C l w yX8_isLetter cX8_isLetter 1 (some .boolean) (q_rm 0 0) [.int a0] s0 (f_X8_isLetter n a0 s0) := q_CofG [some (.int a0)] (by decide +kernel) rfl rfl (Nat.le_of_ble_eq_true rfl) fun cx hl hc => by
  have hc : q_ok w cx RX8 cX8_isLetter 1 (some .boolean) (q_rm 0 0) := hc
  rw [f_X8_isLetter]
  refine g_il0 hc dX8_isLetter_0 rfl (pc2 := 1) rfl ?_
  refine g_bipush hc dX8_isLetter_1 bp_97 (pc2 := 3) rfl ?_
  refine g_jn (P := fun j12 => ∀  (s1 : q_Sto), q_G w cx 1 (some .boolean) 12 [some (.int a0)] [] s1 (j12 s1)) (fun s1 => ?_) (fun j12 hj12 => ?_)
  · refine g_il0 hc dX8_isLetter_12 rfl (pc2 := 13) rfl ?_
    refine g_bipush hc dX8_isLetter_13 bp_65 (pc2 := 15) rfl ?_
    refine g_icmp_lt hc dX8_isLetter_15 (pc1 := 28) (pc2 := 18) rfl rfl (fun _ => ?_) (fun _ => ?_)
    · refine g_iconst hc dX8_isLetter_28 ic_0 (pc2 := 29) rfl ?_
      exact g_zret0 (by decide) hc dX8_isLetter_29
    · refine g_il0 hc dX8_isLetter_18 rfl (pc2 := 19) rfl ?_
      refine g_bipush hc dX8_isLetter_19 bp_90 (pc2 := 21) rfl ?_
      refine g_icmp_gt hc dX8_isLetter_21 (pc1 := 24) (pc2 := 28) rfl rfl (fun _ => ?_) (fun _ => ?_)
      · refine g_iconst hc dX8_isLetter_24 ic_1 (pc2 := 25) rfl ?_
        refine g_goto hc dX8_isLetter_25 (pc2 := 29) rfl ?_
        exact g_zret0 (by decide) hc dX8_isLetter_29
      · refine g_iconst hc dX8_isLetter_28 ic_0 (pc2 := 29) rfl ?_
        exact g_zret0 (by decide) hc dX8_isLetter_29
  · refine g_icmp_lt hc dX8_isLetter_3 (pc1 := 12) (pc2 := 6) rfl rfl (fun _ => ?_) (fun _ => ?_)
    · exact hj12 _
    · refine g_il0 hc dX8_isLetter_6 rfl (pc2 := 7) rfl ?_
      refine g_bipush hc dX8_isLetter_7 bp_122 (pc2 := 9) rfl ?_
      refine g_icmp_le hc dX8_isLetter_9 (pc1 := 24) (pc2 := 12) rfl rfl (fun _ => ?_) (fun _ => ?_)
      · refine g_iconst hc dX8_isLetter_24 ic_1 (pc2 := 25) rfl ?_
        refine g_goto hc dX8_isLetter_25 (pc2 := 29) rfl ?_
        exact g_zret0 (by decide) hc dX8_isLetter_29
      · exact hj12 _
set_option maxRecDepth 100000 in
set_option maxHeartbeats 4000000 in
def f_X8_isDigit (n : Nat) (a0 : Int32) (s0 : q_Sto) : Option (Int32 × q_Sto) :=
  if a0 < 48 then (
  some (0, s0))
  else (
  if a0 ≤ 57 then (
  some (1, s0))
  else (
  some (0, s0)))
set_option maxRecDepth 100000 in
set_option maxHeartbeats 4000000 in
theorem C_X8_isDigit {l : Launch} {w : q_Wd} {n : Nat} {a0 : Int32}  {s0 : q_Sto} : q_C l w yX8_isDigit cX8_isDigit 1 (some .boolean) (q_rm 0 0) [.int a0] s0 (f_X8_isDigit n a0 s0) := q_CofG [some (.int a0)] (by decide +kernel) rfl rfl (Nat.le_of_ble_eq_true rfl) fun cx hl hc => by
  have hc : q_ok w cx RX8 cX8_isDigit 1 (some .boolean) (q_rm 0 0) := hc
  rw [f_X8_isDigit]
  refine g_il0 hc dX8_isDigit_0 rfl (pc2 := 1) rfl ?_
  refine g_bipush hc dX8_isDigit_1 bp_48 (pc2 := 3) rfl ?_
  refine g_icmp_lt hc dX8_isDigit_3 (pc1 := 16) (pc2 := 6) rfl rfl (fun _ => ?_) (fun _ => ?_)
  · refine g_iconst hc dX8_isDigit_16 ic_0 (pc2 := 17) rfl ?_
    exact g_zret0 (by decide) hc dX8_isDigit_17
  · refine g_il0 hc dX8_isDigit_6 rfl (pc2 := 7) rfl ?_
    refine g_bipush hc dX8_isDigit_7 bp_57 (pc2 := 9) rfl ?_
    refine g_icmp_gt hc dX8_isDigit_9 (pc1 := 12) (pc2 := 16) rfl rfl (fun _ => ?_) (fun _ => ?_)
    · refine g_iconst hc dX8_isDigit_12 ic_1 (pc2 := 13) rfl ?_
      refine g_goto hc dX8_isDigit_13 (pc2 := 17) rfl ?_
      exact g_zret0 (by decide) hc dX8_isDigit_17
    · refine g_iconst hc dX8_isDigit_16 ic_0 (pc2 := 17) rfl ?_
      exact g_zret0 (by decide) hc dX8_isDigit_17
set_option maxRecDepth 100000 in
set_option maxHeartbeats 4000000 in
def f_X8_next_L0 (n : Nat) (x0 : Nat) (k50 : q_Sto → Option (Int32 × q_Sto)) : Nat → q_Sto → Option (Int32 × q_Sto)
  | 0, _ => none
  | j + 1, s0 =>
    if (s0 x0 2) < (s0 x0 1) then (
    q_call (f_X8_byteAt n x0 (s0 x0 2) s0) fun r3 s2 =>
    if r3 = 32 then (
    q_nS1 (q_up s2 x0 2 ((s2 x0 2) + 1)) fun s5 =>
    f_X8_next_L0 n x0 k50 j  s5)
    else (
    q_call (f_X8_byteAt n x0 (s2 x0 2) s2) fun r7 s6 =>
    if r7 = 10 then (
    q_nS1 (q_up s6 x0 2 ((s6 x0 2) + 1)) fun s9 =>
    f_X8_next_L0 n x0 k50 j  s9)
    else (
    k50 s6)))
    else (
    k50 s0)
set_option maxRecDepth 100000 in
set_option maxHeartbeats 4000000 in
def f_X8_next_L162 (n : Nat) (x0 : Nat) : Nat → q_Sto → Option (Int32 × q_Sto)
  | 0, _ => none
  | j + 1, s0 =>
    if (s0 x0 2) < (s0 x0 1) then (
    q_call (f_X8_byteAt n x0 (s0 x0 2) s0) fun r28 s27 =>
    q_call (f_X8_isDigit n r28 s27) fun r30 s29 =>
    if r30 = 0 then (
    some (0, s29))
    else (
    q_call (f_X8_byteAt n x0 (s29 x0 2) s29) fun r33 s32 =>
    q_nS1 (q_up s32 x0 5 ((((s29 x0 5) * 10) + r33) - 48)) fun s34 =>
    q_nS1 (q_up s34 x0 2 ((s34 x0 2) + 1)) fun s35 =>
    f_X8_next_L162 n x0  j  s35))
    else (
    some (0, s0))
set_option maxRecDepth 100000 in
set_option maxHeartbeats 4000000 in
def f_X8_next_L104 (n : Nat) (x0 : Nat) : Nat → q_Sto → Option (Int32 × q_Sto)
  | 0, _ => none
  | j + 1, s0 =>
    if (s0 x0 2) < (s0 x0 1) then (
    q_call (f_X8_byteAt n x0 (s0 x0 2) s0) fun r39 s38 =>
    q_call (f_X8_isLetter n r39 s38) fun r41 s40 =>
    if r41 = 0 then (
    some (0, s40))
    else (
    q_nS1 (q_up s40 x0 2 ((s40 x0 2) + 1)) fun s43 =>
    f_X8_next_L104 n x0  j  s43))
    else (
    some (0, s0))
set_option maxRecDepth 100000 in
set_option maxHeartbeats 4000000 in
def f_X8_next (n : Nat) (t : Nat) (s0 : q_Sto) : Option (Int32 × q_Sto) :=
  f_X8_next_L0 n t (fun  (s10 : q_Sto) =>
  q_nS1 (q_up s10 t 3 (s10 t 2)) fun s11 =>
  q_call (f_X8_byteAt n t (s11 t 2) s11) fun r13 s12 =>
  q_nS1 (q_up s12 t 5 r13) fun s14 =>
  if (s14 t 2) < (s14 t 1) then (
  q_call (f_X8_isLetter n (s14 t 5) s14) fun r17 s16 =>
  if r17 = 0 then (
  q_call (f_X8_isDigit n (s16 t 5) s16) fun r20 s19 =>
  if r20 = 0 then (
  q_nS1 (q_up s19 t 4 3) fun s22 =>
  q_nS1 (q_up s22 t 2 ((s22 t 2) + 1)) fun s23 =>
  some (0, s23))
  else (
  q_nS1 (q_up s19 t 4 2) fun s24 =>
  q_nS1 (q_up s24 t 5 0) fun s25 =>
  f_X8_next_L162 n t  n  s25))
  else (
  q_nS1 (q_up s16 t 4 1) fun s36 =>
  f_X8_next_L104 n t  n  s36))
  else (
  q_nS1 (q_up s14 t 4 0) fun s44 =>
  some (0, s44))) n  s0
set_option maxRecDepth 100000 in
set_option maxHeartbeats 4000000 in
theorem t_X8_next_L0 {w : q_Wd} {cx : q_Cx} (hc : q_ok w cx RX8 cX8_next 1 (none) (q_rm 1 21)) {n : Nat} {x0 : Nat} (hx0 : q_KD x0 = .inl 8) {k50 : q_Sto → Option (Int32 × q_Sto)} (hk50 : ∀  (s1 : q_Sto), q_G w cx 1 (none) 50 [some (q_rf w x0)] [] s1 (k50 s1)) :
    ∀ (j : Nat)  (s0 : q_Sto), q_G w cx 1 (none) 0 [some (q_rf w x0)] [] s0 (f_X8_next_L0 n x0 k50 j  s0) := by
  intro j
  induction j with
  | zero =>
    intro _
    rw [f_X8_next_L0]
    exact q_none
  | succ j ih =>
    intro s0
    rw [f_X8_next_L0]
    refine g_rl0 hc dX8_next_0 rfl (pc2 := 1) rfl ?_
    refine g_getI hc fl_X8_19 rfl hx0 dX8_next_1 (pc2 := 4) rfl ?_
    refine g_rl0 hc dX8_next_4 rfl (pc2 := 5) rfl ?_
    refine g_getI hc fl_X8_15 rfl hx0 dX8_next_5 (pc2 := 8) rfl ?_
    refine g_icmp_ge hc dX8_next_8 (pc1 := 11) (pc2 := 50) rfl rfl (fun _ => ?_) (fun _ => ?_)
    · refine g_rl0 hc dX8_next_11 rfl (pc2 := 12) rfl ?_
      refine g_rl0 hc dX8_next_12 rfl (pc2 := 13) rfl ?_
      refine g_getI hc fl_X8_19 rfl hx0 dX8_next_13 (pc2 := 16) rfl ?_
      refine g_callV1 hc (C_X8_byteAt hx0) mv_X8_byteAt ln_X8_40 hx0 ⟨by decide, by decide⟩ (Nat.le_of_ble_eq_true rfl) dX8_next_16 (pc2 := 19) rfl (fun r3 s2 => ?_)
      refine g_bipush hc dX8_next_19 bp_32 (pc2 := 21) rfl ?_
      refine g_icmp_eq hc dX8_next_21 (pc1 := 37) (pc2 := 24) rfl rfl (fun _ => ?_) (fun _ => ?_)
      · refine g_rl0 hc dX8_next_37 rfl (pc2 := 38) rfl ?_
        refine g_dup hc dX8_next_38 rfl (pc2 := 39) rfl ?_
        refine g_getI hc fl_X8_19 rfl hx0 dX8_next_39 (pc2 := 42) rfl ?_
        refine g_iconst hc dX8_next_42 ic_1 (pc2 := 43) rfl ?_
        refine g_iadd hc dX8_next_43 (pc2 := 44) rfl ?_
        refine g_putI hc fl_X8_19 rfl hx0 dX8_next_44 (pc2 := 47) rfl (fun s5 => ?_)
        refine g_goto hc dX8_next_47 (pc2 := 0) rfl ?_
        exact ih _
      · refine g_rl0 hc dX8_next_24 rfl (pc2 := 25) rfl ?_
        refine g_rl0 hc dX8_next_25 rfl (pc2 := 26) rfl ?_
        refine g_getI hc fl_X8_19 rfl hx0 dX8_next_26 (pc2 := 29) rfl ?_
        refine g_callV1 hc (C_X8_byteAt hx0) mv_X8_byteAt ln_X8_40 hx0 ⟨by decide, by decide⟩ (Nat.le_of_ble_eq_true rfl) dX8_next_29 (pc2 := 32) rfl (fun r7 s6 => ?_)
        refine g_bipush hc dX8_next_32 bp_10 (pc2 := 34) rfl ?_
        refine g_icmp_ne hc dX8_next_34 (pc1 := 37) (pc2 := 50) rfl rfl (fun _ => ?_) (fun _ => ?_)
        · refine g_rl0 hc dX8_next_37 rfl (pc2 := 38) rfl ?_
          refine g_dup hc dX8_next_38 rfl (pc2 := 39) rfl ?_
          refine g_getI hc fl_X8_19 rfl hx0 dX8_next_39 (pc2 := 42) rfl ?_
          refine g_iconst hc dX8_next_42 ic_1 (pc2 := 43) rfl ?_
          refine g_iadd hc dX8_next_43 (pc2 := 44) rfl ?_
          refine g_putI hc fl_X8_19 rfl hx0 dX8_next_44 (pc2 := 47) rfl (fun s9 => ?_)
          refine g_goto hc dX8_next_47 (pc2 := 0) rfl ?_
          exact ih _
        · exact hk50 _
    · exact hk50 _
set_option maxRecDepth 100000 in
set_option maxHeartbeats 4000000 in
theorem t_X8_next_L162 {w : q_Wd} {cx : q_Cx} (hc : q_ok w cx RX8 cX8_next 1 (none) (q_rm 1 21)) {n : Nat} {x0 : Nat} (hx0 : q_KD x0 = .inl 8)   :
    ∀ (j : Nat)  (s0 : q_Sto), q_G w cx 1 (none) 162 [some (q_rf w x0)] [] s0 (f_X8_next_L162 n x0  j  s0) := by
  intro j
  induction j with
  | zero =>
    intro _
    rw [f_X8_next_L162]
    exact q_none
  | succ j ih =>
    intro s0
    rw [f_X8_next_L162]
    refine g_rl0 hc dX8_next_162 rfl (pc2 := 163) rfl ?_
    refine g_getI hc fl_X8_19 rfl hx0 dX8_next_163 (pc2 := 166) rfl ?_
    refine g_rl0 hc dX8_next_166 rfl (pc2 := 167) rfl ?_
    refine g_getI hc fl_X8_15 rfl hx0 dX8_next_167 (pc2 := 170) rfl ?_
    refine g_icmp_ge hc dX8_next_170 (pc1 := 173) (pc2 := 238) rfl rfl (fun _ => ?_) (fun _ => ?_)
    · refine g_rl0 hc dX8_next_173 rfl (pc2 := 174) rfl ?_
      refine g_rl0 hc dX8_next_174 rfl (pc2 := 175) rfl ?_
      refine g_getI hc fl_X8_19 rfl hx0 dX8_next_175 (pc2 := 178) rfl ?_
      refine g_callV1 hc (C_X8_byteAt hx0) mv_X8_byteAt ln_X8_40 hx0 ⟨by decide, by decide⟩ (Nat.le_of_ble_eq_true rfl) dX8_next_178 (pc2 := 181) rfl (fun r28 s27 => ?_)
      refine g_callS1 hc C_X8_isDigit mv_X8_isDigit ln_X8_48 ⟨by decide, by decide⟩ (Nat.le_of_ble_eq_true rfl) dX8_next_181 (pc2 := 184) rfl (fun r30 s29 => ?_)
      refine g_if_eq hc dX8_next_184 (pc1 := 238) (pc2 := 187) rfl rfl (fun _ => ?_) (fun _ => ?_)
      · exact g_vret hc dX8_next_238
      · refine g_rl0 hc dX8_next_187 rfl (pc2 := 188) rfl ?_
        refine g_rl0 hc dX8_next_188 rfl (pc2 := 189) rfl ?_
        refine g_getI hc fl_X8_28 rfl hx0 dX8_next_189 (pc2 := 192) rfl ?_
        refine g_bipush hc dX8_next_192 bp_10 (pc2 := 194) rfl ?_
        refine g_imul hc dX8_next_194 (pc2 := 195) rfl ?_
        refine g_rl0 hc dX8_next_195 rfl (pc2 := 196) rfl ?_
        refine g_rl0 hc dX8_next_196 rfl (pc2 := 197) rfl ?_
        refine g_getI hc fl_X8_19 rfl hx0 dX8_next_197 (pc2 := 200) rfl ?_
        refine g_callV1 hc (C_X8_byteAt hx0) mv_X8_byteAt ln_X8_40 hx0 ⟨by decide, by decide⟩ (Nat.le_of_ble_eq_true rfl) dX8_next_200 (pc2 := 203) rfl (fun r33 s32 => ?_)
        refine g_iadd hc dX8_next_203 (pc2 := 204) rfl ?_
        refine g_bipush hc dX8_next_204 bp_48 (pc2 := 206) rfl ?_
        refine g_isub hc dX8_next_206 (pc2 := 207) rfl ?_
        refine g_putI hc fl_X8_28 rfl hx0 dX8_next_207 (pc2 := 210) rfl (fun s34 => ?_)
        refine g_rl0 hc dX8_next_210 rfl (pc2 := 211) rfl ?_
        refine g_dup hc dX8_next_211 rfl (pc2 := 212) rfl ?_
        refine g_getI hc fl_X8_19 rfl hx0 dX8_next_212 (pc2 := 215) rfl ?_
        refine g_iconst hc dX8_next_215 ic_1 (pc2 := 216) rfl ?_
        refine g_iadd hc dX8_next_216 (pc2 := 217) rfl ?_
        refine g_putI hc fl_X8_19 rfl hx0 dX8_next_217 (pc2 := 220) rfl (fun s35 => ?_)
        refine g_goto hc dX8_next_220 (pc2 := 162) rfl ?_
        exact ih _
    · exact g_vret hc dX8_next_238
set_option maxRecDepth 100000 in
set_option maxHeartbeats 4000000 in
theorem t_X8_next_L104 {w : q_Wd} {cx : q_Cx} (hc : q_ok w cx RX8 cX8_next 1 (none) (q_rm 1 21)) {n : Nat} {x0 : Nat} (hx0 : q_KD x0 = .inl 8)   :
    ∀ (j : Nat)  (s0 : q_Sto), q_G w cx 1 (none) 104 [some (q_rf w x0)] [] s0 (f_X8_next_L104 n x0  j  s0) := by
  intro j
  induction j with
  | zero =>
    intro _
    rw [f_X8_next_L104]
    exact q_none
  | succ j ih =>
    intro s0
    rw [f_X8_next_L104]
    refine g_rl0 hc dX8_next_104 rfl (pc2 := 105) rfl ?_
    refine g_getI hc fl_X8_19 rfl hx0 dX8_next_105 (pc2 := 108) rfl ?_
    refine g_rl0 hc dX8_next_108 rfl (pc2 := 109) rfl ?_
    refine g_getI hc fl_X8_15 rfl hx0 dX8_next_109 (pc2 := 112) rfl ?_
    refine g_icmp_ge hc dX8_next_112 (pc1 := 115) (pc2 := 238) rfl rfl (fun _ => ?_) (fun _ => ?_)
    · refine g_rl0 hc dX8_next_115 rfl (pc2 := 116) rfl ?_
      refine g_rl0 hc dX8_next_116 rfl (pc2 := 117) rfl ?_
      refine g_getI hc fl_X8_19 rfl hx0 dX8_next_117 (pc2 := 120) rfl ?_
      refine g_callV1 hc (C_X8_byteAt hx0) mv_X8_byteAt ln_X8_40 hx0 ⟨by decide, by decide⟩ (Nat.le_of_ble_eq_true rfl) dX8_next_120 (pc2 := 123) rfl (fun r39 s38 => ?_)
      refine g_callS1 hc C_X8_isLetter mv_X8_isLetter ln_X8_44 ⟨by decide, by decide⟩ (Nat.le_of_ble_eq_true rfl) dX8_next_123 (pc2 := 126) rfl (fun r41 s40 => ?_)
      refine g_if_eq hc dX8_next_126 (pc1 := 238) (pc2 := 129) rfl rfl (fun _ => ?_) (fun _ => ?_)
      · exact g_vret hc dX8_next_238
      · refine g_rl0 hc dX8_next_129 rfl (pc2 := 130) rfl ?_
        refine g_dup hc dX8_next_130 rfl (pc2 := 131) rfl ?_
        refine g_getI hc fl_X8_19 rfl hx0 dX8_next_131 (pc2 := 134) rfl ?_
        refine g_iconst hc dX8_next_134 ic_1 (pc2 := 135) rfl ?_
        refine g_iadd hc dX8_next_135 (pc2 := 136) rfl ?_
        refine g_putI hc fl_X8_19 rfl hx0 dX8_next_136 (pc2 := 139) rfl (fun s43 => ?_)
        refine g_goto hc dX8_next_139 (pc2 := 104) rfl ?_
        exact ih _
    · exact g_vret hc dX8_next_238
set_option maxRecDepth 100000 in
set_option maxHeartbeats 4000000 in
theorem C_X8_next {l : Launch} {w : q_Wd} {n : Nat} {t : Nat} (ht : q_KD t = .inl 8) {s0 : q_Sto} : q_C l w yX8_next cX8_next 1 (none) (q_rm 1 21) [q_rf w t] s0 (f_X8_next n t s0) := q_CofG [some (q_rf w t)] (by decide +kernel) rfl rfl (Nat.le_of_ble_eq_true rfl) fun cx hl hc => by
  have hc : q_ok w cx RX8 cX8_next 1 (none) (q_rm 1 21) := hc
  rw [f_X8_next]
  refine t_X8_next_L0 hc ht (fun s10 => ?_) n  _
  refine g_rl0 hc dX8_next_50 rfl (pc2 := 51) rfl ?_
  refine g_rl0 hc dX8_next_51 rfl (pc2 := 52) rfl ?_
  refine g_getI hc fl_X8_19 rfl ht dX8_next_52 (pc2 := 55) rfl ?_
  refine g_putI hc fl_X8_22 rfl ht dX8_next_55 (pc2 := 58) rfl (fun s11 => ?_)
  refine g_rl0 hc dX8_next_58 rfl (pc2 := 59) rfl ?_
  refine g_rl0 hc dX8_next_59 rfl (pc2 := 60) rfl ?_
  refine g_rl0 hc dX8_next_60 rfl (pc2 := 61) rfl ?_
  refine g_getI hc fl_X8_19 rfl ht dX8_next_61 (pc2 := 64) rfl ?_
  refine g_callV1 hc (C_X8_byteAt ht) mv_X8_byteAt ln_X8_40 ht ⟨by decide, by decide⟩ (Nat.le_of_ble_eq_true rfl) dX8_next_64 (pc2 := 67) rfl (fun r13 s12 => ?_)
  refine g_putI hc fl_X8_28 rfl ht dX8_next_67 (pc2 := 70) rfl (fun s14 => ?_)
  refine g_rl0 hc dX8_next_70 rfl (pc2 := 71) rfl ?_
  refine g_getI hc fl_X8_19 rfl ht dX8_next_71 (pc2 := 74) rfl ?_
  refine g_rl0 hc dX8_next_74 rfl (pc2 := 75) rfl ?_
  refine g_getI hc fl_X8_15 rfl ht dX8_next_75 (pc2 := 78) rfl ?_
  refine g_icmp_lt hc dX8_next_78 (pc1 := 89) (pc2 := 81) rfl rfl (fun _ => ?_) (fun _ => ?_)
  · refine g_rl0 hc dX8_next_89 rfl (pc2 := 90) rfl ?_
    refine g_getI hc fl_X8_28 rfl ht dX8_next_90 (pc2 := 93) rfl ?_
    refine g_callS1 hc C_X8_isLetter mv_X8_isLetter ln_X8_44 ⟨by decide, by decide⟩ (Nat.le_of_ble_eq_true rfl) dX8_next_93 (pc2 := 96) rfl (fun r17 s16 => ?_)
    refine g_if_eq hc dX8_next_96 (pc1 := 142) (pc2 := 99) rfl rfl (fun _ => ?_) (fun _ => ?_)
    · refine g_rl0 hc dX8_next_142 rfl (pc2 := 143) rfl ?_
      refine g_getI hc fl_X8_28 rfl ht dX8_next_143 (pc2 := 146) rfl ?_
      refine g_callS1 hc C_X8_isDigit mv_X8_isDigit ln_X8_48 ⟨by decide, by decide⟩ (Nat.le_of_ble_eq_true rfl) dX8_next_146 (pc2 := 149) rfl (fun r20 s19 => ?_)
      refine g_if_eq hc dX8_next_149 (pc1 := 223) (pc2 := 152) rfl rfl (fun _ => ?_) (fun _ => ?_)
      · refine g_rl0 hc dX8_next_223 rfl (pc2 := 224) rfl ?_
        refine g_iconst hc dX8_next_224 ic_3 (pc2 := 225) rfl ?_
        refine g_putI hc fl_X8_25 rfl ht dX8_next_225 (pc2 := 228) rfl (fun s22 => ?_)
        refine g_rl0 hc dX8_next_228 rfl (pc2 := 229) rfl ?_
        refine g_dup hc dX8_next_229 rfl (pc2 := 230) rfl ?_
        refine g_getI hc fl_X8_19 rfl ht dX8_next_230 (pc2 := 233) rfl ?_
        refine g_iconst hc dX8_next_233 ic_1 (pc2 := 234) rfl ?_
        refine g_iadd hc dX8_next_234 (pc2 := 235) rfl ?_
        refine g_putI hc fl_X8_19 rfl ht dX8_next_235 (pc2 := 238) rfl (fun s23 => ?_)
        exact g_vret hc dX8_next_238
      · refine g_rl0 hc dX8_next_152 rfl (pc2 := 153) rfl ?_
        refine g_iconst hc dX8_next_153 ic_2 (pc2 := 154) rfl ?_
        refine g_putI hc fl_X8_25 rfl ht dX8_next_154 (pc2 := 157) rfl (fun s24 => ?_)
        refine g_rl0 hc dX8_next_157 rfl (pc2 := 158) rfl ?_
        refine g_iconst hc dX8_next_158 ic_0 (pc2 := 159) rfl ?_
        refine g_putI hc fl_X8_28 rfl ht dX8_next_159 (pc2 := 162) rfl (fun s25 => ?_)
        refine t_X8_next_L162 hc ht  n  _
    · refine g_rl0 hc dX8_next_99 rfl (pc2 := 100) rfl ?_
      refine g_iconst hc dX8_next_100 ic_1 (pc2 := 101) rfl ?_
      refine g_putI hc fl_X8_25 rfl ht dX8_next_101 (pc2 := 104) rfl (fun s36 => ?_)
      refine t_X8_next_L104 hc ht  n  _
  · refine g_rl0 hc dX8_next_81 rfl (pc2 := 82) rfl ?_
    refine g_iconst hc dX8_next_82 ic_0 (pc2 := 83) rfl ?_
    refine g_putI hc fl_X8_25 rfl ht dX8_next_83 (pc2 := 86) rfl (fun s44 => ?_)
    refine g_goto hc dX8_next_86 (pc2 := 238) rfl ?_
    exact g_vret hc dX8_next_238
set_option maxRecDepth 100000 in
set_option maxHeartbeats 4000000 in
def f_X3_push (n : Nat) (t : Nat) (a0 : Int32) (s0 : q_Sto) : Option (Int32 × q_Sto) :=
  if (s0 t 3) < 0 then (
  some (0, s0))
  else (
  if (s0 t 3) < (Int32.ofNat 400) then (
  q_st s0 (q_RF t 2) (s0 t 3) 400 a0 fun s3 =>
  q_nS1 (q_up s3 t 3 ((s3 t 3) + 1)) fun s4 =>
  some (0, s4))
  else (
  some (0, s0)))
set_option maxRecDepth 100000 in
set_option maxHeartbeats 4000000 in
theorem C_X3_push {l : Launch} {w : q_Wd} {n : Nat} {t : Nat} {a0 : Int32} (ht : q_KD t = .inl 3) {s0 : q_Sto} : q_C l w yX3_push cX3_push 2 (none) (q_rm 0 0) [q_rf w t, .int a0] s0 (f_X3_push n t a0 s0) := q_CofG [some (q_rf w t), some (.int a0)] (by decide +kernel) rfl rfl (Nat.le_of_ble_eq_true rfl) fun cx hl hc => by
  have hc : q_ok w cx RX3 cX3_push 2 (none) (q_rm 0 0) := hc
  rw [f_X3_push]
  refine g_rl0 hc dX3_push_0 rfl (pc2 := 1) rfl ?_
  refine g_getI hc fl_X3_22 rfl ht dX3_push_1 (pc2 := 4) rfl ?_
  refine g_if_lt hc dX3_push_4 (pc1 := 39) (pc2 := 7) rfl rfl (fun _ => ?_) (fun _ => ?_)
  · exact g_vret hc dX3_push_39
  · refine g_rl0 hc dX3_push_7 rfl (pc2 := 8) rfl ?_
    refine g_getI hc fl_X3_22 rfl ht dX3_push_8 (pc2 := 11) rfl ?_
    refine g_rl0 hc dX3_push_11 rfl (pc2 := 12) rfl ?_
    refine g_getR hc fl_X3_18 rfl ht dX3_push_12 (pc2 := 15) rfl ?_
    refine g_alen hc (kf_3_2 ht) (kl_3_2 ht) dX3_push_15 (pc2 := 16) rfl ?_
    refine g_icmp_ge hc dX3_push_16 (pc1 := 19) (pc2 := 39) rfl rfl (fun _ => ?_) (fun _ => ?_)
    · refine g_rl0 hc dX3_push_19 rfl (pc2 := 20) rfl ?_
      refine g_getR hc fl_X3_18 rfl ht dX3_push_20 (pc2 := 23) rfl ?_
      refine g_rl0 hc dX3_push_23 rfl (pc2 := 24) rfl ?_
      refine g_getI hc fl_X3_22 rfl ht dX3_push_24 (pc2 := 27) rfl ?_
      refine g_il1 hc dX3_push_27 rfl (pc2 := 28) rfl ?_
      refine g_iast hc (kf_3_2 ht) (kl_3_2 ht) dX3_push_28 (pc2 := 29) rfl (fun s3 => ?_)
      refine g_rl0 hc dX3_push_29 rfl (pc2 := 30) rfl ?_
      refine g_dup hc dX3_push_30 rfl (pc2 := 31) rfl ?_
      refine g_getI hc fl_X3_22 rfl ht dX3_push_31 (pc2 := 34) rfl ?_
      refine g_iconst hc dX3_push_34 ic_1 (pc2 := 35) rfl ?_
      refine g_iadd hc dX3_push_35 (pc2 := 36) rfl ?_
      refine g_putI hc fl_X3_22 rfl ht dX3_push_36 (pc2 := 39) rfl (fun s4 => ?_)
      exact g_vret hc dX3_push_39
    · exact g_vret hc dX3_push_39
set_option maxRecDepth 100000 in
set_option maxHeartbeats 4000000 in
def f_X3_readOpening (n : Nat) (t : Nat) (a0 : Int32) (s0 : q_Sto) : Option (Int32 × q_Sto) :=
  if (s0 t 5) < 8 then (
  q_nS1 (q_up s0 t 5 ((s0 t 5) + 1)) fun s2 =>
  if a0 = 12 then (
  q_nS1 (q_up s2 t 4 ((s2 t 4) + 1)) fun s4 =>
  q_callv (f_X3_push n t a0 s4) fun s5 =>
  q_callv (f_X8_next n (q_RF t 0) s5) fun s7 =>
  some (1, s7))
  else (
  q_callv (f_X3_push n t a0 s2) fun s9 =>
  q_callv (f_X8_next n (q_RF t 0) s9) fun s11 =>
  some (1, s11)))
  else (
  q_call (f_X8_fail n (q_RF t 0) 3 s0) fun r14 s13 =>
  q_rz r14 s13)
set_option maxRecDepth 100000 in
set_option maxHeartbeats 4000000 in
theorem C_X3_readOpening {l : Launch} {w : q_Wd} {n : Nat} {t : Nat} {a0 : Int32} (ht : q_KD t = .inl 3) {s0 : q_Sto} : q_C l w yX3_readOpening cX3_readOpening 2 (some .boolean) (q_rm 2 41) [q_rf w t, .int a0] s0 (f_X3_readOpening n t a0 s0) := q_CofG [some (q_rf w t), some (.int a0)] (by decide +kernel) rfl rfl (Nat.le_of_ble_eq_true rfl) fun cx hl hc => by
  have hc : q_ok w cx RX3 cX3_readOpening 2 (some .boolean) (q_rm 2 41) := hc
  rw [f_X3_readOpening]
  refine g_rl0 hc dX3_readOpening_0 rfl (pc2 := 1) rfl ?_
  refine g_getI hc fl_X3_29 rfl ht dX3_readOpening_1 (pc2 := 4) rfl ?_
  refine g_bipush hc dX3_readOpening_4 bp_8 (pc2 := 6) rfl ?_
  refine g_icmp_lt hc dX3_readOpening_6 (pc1 := 18) (pc2 := 9) rfl rfl (fun _ => ?_) (fun _ => ?_)
  · refine g_rl0 hc dX3_readOpening_18 rfl (pc2 := 19) rfl ?_
    refine g_dup hc dX3_readOpening_19 rfl (pc2 := 20) rfl ?_
    refine g_getI hc fl_X3_29 rfl ht dX3_readOpening_20 (pc2 := 23) rfl ?_
    refine g_iconst hc dX3_readOpening_23 ic_1 (pc2 := 24) rfl ?_
    refine g_iadd hc dX3_readOpening_24 (pc2 := 25) rfl ?_
    refine g_putI hc fl_X3_29 rfl ht dX3_readOpening_25 (pc2 := 28) rfl (fun s2 => ?_)
    refine g_il1 hc dX3_readOpening_28 rfl (pc2 := 29) rfl ?_
    refine g_bipush hc dX3_readOpening_29 bp_12 (pc2 := 31) rfl ?_
    refine g_icmp_ne hc dX3_readOpening_31 (pc1 := 34) (pc2 := 44) rfl rfl (fun _ => ?_) (fun _ => ?_)
    · refine g_rl0 hc dX3_readOpening_34 rfl (pc2 := 35) rfl ?_
      refine g_dup hc dX3_readOpening_35 rfl (pc2 := 36) rfl ?_
      refine g_getI hc fl_X3_26 rfl ht dX3_readOpening_36 (pc2 := 39) rfl ?_
      refine g_iconst hc dX3_readOpening_39 ic_1 (pc2 := 40) rfl ?_
      refine g_iadd hc dX3_readOpening_40 (pc2 := 41) rfl ?_
      refine g_putI hc fl_X3_26 rfl ht dX3_readOpening_41 (pc2 := 44) rfl (fun s4 => ?_)
      refine g_rl0 hc dX3_readOpening_44 rfl (pc2 := 45) rfl ?_
      refine g_il1 hc dX3_readOpening_45 rfl (pc2 := 46) rfl ?_
      refine g_callV1v hc (C_X3_push ht) mv_X3_push ln_X3_114 ht ⟨by decide, by decide⟩ (Nat.le_of_ble_eq_true rfl) dX3_readOpening_46 (pc2 := 49) rfl (fun s5 => ?_)
      refine g_rl0 hc dX3_readOpening_49 rfl (pc2 := 50) rfl ?_
      refine g_getR hc fl_X3_42 rfl ht dX3_readOpening_50 (pc2 := 53) rfl ?_
      refine g_callV0v hc (C_X8_next (kf_3_0 ht)) mv_X8_next ln_X3_75 (kf_3_0 ht) ⟨by decide, by decide⟩ (Nat.le_of_ble_eq_true rfl) dX3_readOpening_53 (pc2 := 56) rfl (fun s7 => ?_)
      refine g_iconst hc dX3_readOpening_56 ic_1 (pc2 := 57) rfl ?_
      exact g_zret0 (by decide) hc dX3_readOpening_57
    · refine g_rl0 hc dX3_readOpening_44 rfl (pc2 := 45) rfl ?_
      refine g_il1 hc dX3_readOpening_45 rfl (pc2 := 46) rfl ?_
      refine g_callV1v hc (C_X3_push ht) mv_X3_push ln_X3_114 ht ⟨by decide, by decide⟩ (Nat.le_of_ble_eq_true rfl) dX3_readOpening_46 (pc2 := 49) rfl (fun s9 => ?_)
      refine g_rl0 hc dX3_readOpening_49 rfl (pc2 := 50) rfl ?_
      refine g_getR hc fl_X3_42 rfl ht dX3_readOpening_50 (pc2 := 53) rfl ?_
      refine g_callV0v hc (C_X8_next (kf_3_0 ht)) mv_X8_next ln_X3_75 (kf_3_0 ht) ⟨by decide, by decide⟩ (Nat.le_of_ble_eq_true rfl) dX3_readOpening_53 (pc2 := 56) rfl (fun s11 => ?_)
      refine g_iconst hc dX3_readOpening_56 ic_1 (pc2 := 57) rfl ?_
      exact g_zret0 (by decide) hc dX3_readOpening_57
  · refine g_rl0 hc dX3_readOpening_9 rfl (pc2 := 10) rfl ?_
    refine g_getR hc fl_X3_42 rfl ht dX3_readOpening_10 (pc2 := 13) rfl ?_
    refine g_iconst hc dX3_readOpening_13 ic_3 (pc2 := 14) rfl ?_
    refine g_callV1 hc (C_X8_fail (kf_3_0 ht)) mv_X8_fail ln_X3_68 (kf_3_0 ht) ⟨by decide, by decide⟩ (Nat.le_of_ble_eq_true rfl) dX3_readOpening_14 (pc2 := 17) rfl (fun r14 s13 => ?_)
    exact g_zret hc dX3_readOpening_17
set_option maxRecDepth 100000 in
set_option maxHeartbeats 4000000 in
def f_X8_isSign (n : Nat) (t : Nat) (a0 : Int32) (s0 : q_Sto) : Option (Int32 × q_Sto) :=
  if (s0 t 4) = 3 then (
  if (s0 t 5) = a0 then (
  some (1, s0))
  else (
  some (0, s0)))
  else (
  some (0, s0))
set_option maxRecDepth 100000 in
set_option maxHeartbeats 4000000 in
theorem C_X8_isSign {l : Launch} {w : q_Wd} {n : Nat} {t : Nat} {a0 : Int32} (ht : q_KD t = .inl 8) {s0 : q_Sto} : q_C l w yX8_isSign cX8_isSign 2 (some .boolean) (q_rm 0 0) [q_rf w t, .int a0] s0 (f_X8_isSign n t a0 s0) := q_CofG [some (q_rf w t), some (.int a0)] (by decide +kernel) rfl rfl (Nat.le_of_ble_eq_true rfl) fun cx hl hc => by
  have hc : q_ok w cx RX8 cX8_isSign 2 (some .boolean) (q_rm 0 0) := hc
  rw [f_X8_isSign]
  refine g_rl0 hc dX8_isSign_0 rfl (pc2 := 1) rfl ?_
  refine g_getI hc fl_X8_25 rfl ht dX8_isSign_1 (pc2 := 4) rfl ?_
  refine g_iconst hc dX8_isSign_4 ic_3 (pc2 := 5) rfl ?_
  refine g_icmp_ne hc dX8_isSign_5 (pc1 := 8) (pc2 := 20) rfl rfl (fun _ => ?_) (fun _ => ?_)
  · refine g_rl0 hc dX8_isSign_8 rfl (pc2 := 9) rfl ?_
    refine g_getI hc fl_X8_28 rfl ht dX8_isSign_9 (pc2 := 12) rfl ?_
    refine g_il1 hc dX8_isSign_12 rfl (pc2 := 13) rfl ?_
    refine g_icmp_ne hc dX8_isSign_13 (pc1 := 16) (pc2 := 20) rfl rfl (fun _ => ?_) (fun _ => ?_)
    · refine g_iconst hc dX8_isSign_16 ic_1 (pc2 := 17) rfl ?_
      refine g_goto hc dX8_isSign_17 (pc2 := 21) rfl ?_
      exact g_zret0 (by decide) hc dX8_isSign_21
    · refine g_iconst hc dX8_isSign_20 ic_0 (pc2 := 21) rfl ?_
      exact g_zret0 (by decide) hc dX8_isSign_21
  · refine g_iconst hc dX8_isSign_20 ic_0 (pc2 := 21) rfl ?_
    exact g_zret0 (by decide) hc dX8_isSign_21
set_option maxRecDepth 100000 in
set_option maxHeartbeats 4000000 in
def f_X8_isNumber (n : Nat) (t : Nat) (s0 : q_Sto) : Option (Int32 × q_Sto) :=
  if (s0 t 4) = 2 then (
  if ((s0 t 2) - (s0 t 3)) ≤ 4 then (
  some (1, s0))
  else (
  some (0, s0)))
  else (
  some (0, s0))
set_option maxRecDepth 100000 in
set_option maxHeartbeats 4000000 in
theorem C_X8_isNumber {l : Launch} {w : q_Wd} {n : Nat} {t : Nat} (ht : q_KD t = .inl 8) {s0 : q_Sto} : q_C l w yX8_isNumber cX8_isNumber 1 (some .boolean) (q_rm 0 0) [q_rf w t] s0 (f_X8_isNumber n t s0) := q_CofG [some (q_rf w t)] (by decide +kernel) rfl rfl (Nat.le_of_ble_eq_true rfl) fun cx hl hc => by
  have hc : q_ok w cx RX8 cX8_isNumber 1 (some .boolean) (q_rm 0 0) := hc
  rw [f_X8_isNumber]
  refine g_rl0 hc dX8_isNumber_0 rfl (pc2 := 1) rfl ?_
  refine g_getI hc fl_X8_25 rfl ht dX8_isNumber_1 (pc2 := 4) rfl ?_
  refine g_iconst hc dX8_isNumber_4 ic_2 (pc2 := 5) rfl ?_
  refine g_icmp_ne hc dX8_isNumber_5 (pc1 := 8) (pc2 := 25) rfl rfl (fun _ => ?_) (fun _ => ?_)
  · refine g_rl0 hc dX8_isNumber_8 rfl (pc2 := 9) rfl ?_
    refine g_getI hc fl_X8_19 rfl ht dX8_isNumber_9 (pc2 := 12) rfl ?_
    refine g_rl0 hc dX8_isNumber_12 rfl (pc2 := 13) rfl ?_
    refine g_getI hc fl_X8_22 rfl ht dX8_isNumber_13 (pc2 := 16) rfl ?_
    refine g_isub hc dX8_isNumber_16 (pc2 := 17) rfl ?_
    refine g_iconst hc dX8_isNumber_17 ic_4 (pc2 := 18) rfl ?_
    refine g_icmp_gt hc dX8_isNumber_18 (pc1 := 21) (pc2 := 25) rfl rfl (fun _ => ?_) (fun _ => ?_)
    · refine g_iconst hc dX8_isNumber_21 ic_1 (pc2 := 22) rfl ?_
      refine g_goto hc dX8_isNumber_22 (pc2 := 26) rfl ?_
      exact g_zret0 (by decide) hc dX8_isNumber_26
    · refine g_iconst hc dX8_isNumber_25 ic_0 (pc2 := 26) rfl ?_
      exact g_zret0 (by decide) hc dX8_isNumber_26
  · refine g_iconst hc dX8_isNumber_25 ic_0 (pc2 := 26) rfl ?_
    exact g_zret0 (by decide) hc dX8_isNumber_26
set_option maxRecDepth 100000 in
set_option maxHeartbeats 4000000 in
def f_X8_number (n : Nat) (t : Nat) (s0 : q_Sto) : Option (Int32 × q_Sto) :=
  some ((s0 t 5), s0)
set_option maxRecDepth 100000 in
set_option maxHeartbeats 4000000 in
theorem C_X8_number {l : Launch} {w : q_Wd} {n : Nat} {t : Nat} (ht : q_KD t = .inl 8) {s0 : q_Sto} : q_C l w yX8_number cX8_number 1 (some .int) (q_rm 0 0) [q_rf w t] s0 (f_X8_number n t s0) := q_CofG [some (q_rf w t)] (by decide +kernel) rfl rfl (Nat.le_of_ble_eq_true rfl) fun cx hl hc => by
  have hc : q_ok w cx RX8 cX8_number 1 (some .int) (q_rm 0 0) := hc
  rw [f_X8_number]
  refine g_rl0 hc dX8_number_0 rfl (pc2 := 1) rfl ?_
  refine g_getI hc fl_X8_28 rfl ht dX8_number_1 (pc2 := 4) rfl ?_
  exact g_iret hc dX8_number_4
set_option maxRecDepth 100000 in
set_option maxHeartbeats 4000000 in
def f_X3_factAtHand (n : Nat) (t : Nat) (s0 : q_Sto) : Option (Int32 × q_Sto) :=
  q_call (f_X8_isWord n (q_RF t 0) 4 s0) fun r2 s1 =>
  if r2 = 0 then (
  q_call (f_X8_isWord n (q_RF t 0) 5 s1) fun r5 s4 =>
  if r5 = 0 then (
  q_call (f_X8_isWord n (q_RF t 0) 6 s4) fun r8 s7 =>
  if r8 = 0 then (
  q_call (f_X8_isWord n (q_RF t 0) 7 s7) fun r11 s10 =>
  if r11 = 0 then (
  q_call (f_X8_isWord n (q_RF t 0) 8 s10) fun r14 s13 =>
  if r14 = 0 then (
  q_call (f_X8_isWord n (q_RF t 0) 9 s13) fun r17 s16 =>
  if r17 = 0 then (
  q_call (f_X8_isWord n (q_RF t 0) 10 s16) fun r20 s19 =>
  if r20 = 0 then (
  q_call (f_X8_isWord n (q_RF t 0) 11 s19) fun r23 s22 =>
  if r23 = 0 then (
  q_call (f_X8_isWord n (q_RF t 0) 12 s22) fun r26 s25 =>
  if r26 = 0 then (
  q_call (f_X8_isWord n (q_RF t 0) 13 s25) fun r29 s28 =>
  if r29 = 0 then (
  some ((-1), s28))
  else (
  some (9, s28)))
  else (
  some (8, s25)))
  else (
  some (7, s22)))
  else (
  some (6, s19)))
  else (
  some (5, s16)))
  else (
  some (4, s13)))
  else (
  some (3, s10)))
  else (
  some (2, s7)))
  else (
  some (1, s4)))
  else (
  some (0, s1))
set_option maxRecDepth 100000 in
set_option maxHeartbeats 4000000 in
theorem C_X3_factAtHand {l : Launch} {w : q_Wd} {n : Nat} {t : Nat} (ht : q_KD t = .inl 3) {s0 : q_Sto} : q_C l w yX3_factAtHand cX3_factAtHand 1 (some .int) (q_rm 7 162) [q_rf w t] s0 (f_X3_factAtHand n t s0) := q_CofG [some (q_rf w t)] (by decide +kernel) rfl rfl (Nat.le_of_ble_eq_true rfl) fun cx hl hc => by
  have hc : q_ok w cx RX3 cX3_factAtHand 1 (some .int) (q_rm 7 162) := hc
  rw [f_X3_factAtHand]
  refine g_rl0 hc dX3_factAtHand_0 rfl (pc2 := 1) rfl ?_
  refine g_getR hc fl_X3_42 rfl ht dX3_factAtHand_1 (pc2 := 4) rfl ?_
  refine g_ldcS (i := 4) (tx := "mule") hc (by decide +kernel) dX3_factAtHand_4 (pc2 := 6) rfl ?_
  refine g_callV1 hc (C_X8_isWord (kf_3_0 ht) (by decide)) mv_X8_isWord ln_X3_60 (kf_3_0 ht) ⟨by decide, by decide⟩ (Nat.le_of_ble_eq_true rfl) dX3_factAtHand_6 (pc2 := 9) rfl (fun r2 s1 => ?_)
  refine g_if_eq hc dX3_factAtHand_9 (pc1 := 16) (pc2 := 12) rfl rfl (fun _ => ?_) (fun _ => ?_)
  · refine g_rl0 hc dX3_factAtHand_16 rfl (pc2 := 17) rfl ?_
    refine g_getR hc fl_X3_42 rfl ht dX3_factAtHand_17 (pc2 := 20) rfl ?_
    refine g_ldcS (i := 5) (tx := "age") hc (by decide +kernel) dX3_factAtHand_20 (pc2 := 22) rfl ?_
    refine g_callV1 hc (C_X8_isWord (kf_3_0 ht) (by decide)) mv_X8_isWord ln_X3_60 (kf_3_0 ht) ⟨by decide, by decide⟩ (Nat.le_of_ble_eq_true rfl) dX3_factAtHand_22 (pc2 := 25) rfl (fun r5 s4 => ?_)
    refine g_if_eq hc dX3_factAtHand_25 (pc1 := 32) (pc2 := 28) rfl rfl (fun _ => ?_) (fun _ => ?_)
    · refine g_rl0 hc dX3_factAtHand_32 rfl (pc2 := 33) rfl ?_
      refine g_getR hc fl_X3_42 rfl ht dX3_factAtHand_33 (pc2 := 36) rfl ?_
      refine g_ldcS (i := 6) (tx := "strong") hc (by decide +kernel) dX3_factAtHand_36 (pc2 := 38) rfl ?_
      refine g_callV1 hc (C_X8_isWord (kf_3_0 ht) (by decide)) mv_X8_isWord ln_X3_60 (kf_3_0 ht) ⟨by decide, by decide⟩ (Nat.le_of_ble_eq_true rfl) dX3_factAtHand_38 (pc2 := 41) rfl (fun r8 s7 => ?_)
      refine g_if_eq hc dX3_factAtHand_41 (pc1 := 48) (pc2 := 44) rfl rfl (fun _ => ?_) (fun _ => ?_)
      · refine g_rl0 hc dX3_factAtHand_48 rfl (pc2 := 49) rfl ?_
        refine g_getR hc fl_X3_42 rfl ht dX3_factAtHand_49 (pc2 := 52) rfl ?_
        refine g_ldcS (i := 7) (tx := "liking") hc (by decide +kernel) dX3_factAtHand_52 (pc2 := 54) rfl ?_
        refine g_callV1 hc (C_X8_isWord (kf_3_0 ht) (by decide)) mv_X8_isWord ln_X3_60 (kf_3_0 ht) ⟨by decide, by decide⟩ (Nat.le_of_ble_eq_true rfl) dX3_factAtHand_54 (pc2 := 57) rfl (fun r11 s10 => ?_)
        refine g_if_eq hc dX3_factAtHand_57 (pc1 := 64) (pc2 := 60) rfl rfl (fun _ => ?_) (fun _ => ?_)
        · refine g_rl0 hc dX3_factAtHand_64 rfl (pc2 := 65) rfl ?_
          refine g_getR hc fl_X3_42 rfl ht dX3_factAtHand_65 (pc2 := 68) rfl ?_
          refine g_ldcS (i := 8) (tx := "heeded") hc (by decide +kernel) dX3_factAtHand_68 (pc2 := 70) rfl ?_
          refine g_callV1 hc (C_X8_isWord (kf_3_0 ht) (by decide)) mv_X8_isWord ln_X3_60 (kf_3_0 ht) ⟨by decide, by decide⟩ (Nat.le_of_ble_eq_true rfl) dX3_factAtHand_70 (pc2 := 73) rfl (fun r14 s13 => ?_)
          refine g_if_eq hc dX3_factAtHand_73 (pc1 := 80) (pc2 := 76) rfl rfl (fun _ => ?_) (fun _ => ?_)
          · refine g_rl0 hc dX3_factAtHand_80 rfl (pc2 := 81) rfl ?_
            refine g_getR hc fl_X3_42 rfl ht dX3_factAtHand_81 (pc2 := 84) rfl ?_
            refine g_ldcS (i := 9) (tx := "hand") hc (by decide +kernel) dX3_factAtHand_84 (pc2 := 86) rfl ?_
            refine g_callV1 hc (C_X8_isWord (kf_3_0 ht) (by decide)) mv_X8_isWord ln_X3_60 (kf_3_0 ht) ⟨by decide, by decide⟩ (Nat.le_of_ble_eq_true rfl) dX3_factAtHand_86 (pc2 := 89) rfl (fun r17 s16 => ?_)
            refine g_if_eq hc dX3_factAtHand_89 (pc1 := 96) (pc2 := 92) rfl rfl (fun _ => ?_) (fun _ => ?_)
            · refine g_rl0 hc dX3_factAtHand_96 rfl (pc2 := 97) rfl ?_
              refine g_getR hc fl_X3_42 rfl ht dX3_factAtHand_97 (pc2 := 100) rfl ?_
              refine g_ldcS (i := 10) (tx := "songs") hc (by decide +kernel) dX3_factAtHand_100 (pc2 := 102) rfl ?_
              refine g_callV1 hc (C_X8_isWord (kf_3_0 ht) (by decide)) mv_X8_isWord ln_X3_60 (kf_3_0 ht) ⟨by decide, by decide⟩ (Nat.le_of_ble_eq_true rfl) dX3_factAtHand_102 (pc2 := 105) rfl (fun r20 s19 => ?_)
              refine g_if_eq hc dX3_factAtHand_105 (pc1 := 113) (pc2 := 108) rfl rfl (fun _ => ?_) (fun _ => ?_)
              · refine g_rl0 hc dX3_factAtHand_113 rfl (pc2 := 114) rfl ?_
                refine g_getR hc fl_X3_42 rfl ht dX3_factAtHand_114 (pc2 := 117) rfl ?_
                refine g_ldcS (i := 11) (tx := "snow") hc (by decide +kernel) dX3_factAtHand_117 (pc2 := 119) rfl ?_
                refine g_callV1 hc (C_X8_isWord (kf_3_0 ht) (by decide)) mv_X8_isWord ln_X3_60 (kf_3_0 ht) ⟨by decide, by decide⟩ (Nat.le_of_ble_eq_true rfl) dX3_factAtHand_119 (pc2 := 122) rfl (fun r23 s22 => ?_)
                refine g_if_eq hc dX3_factAtHand_122 (pc1 := 130) (pc2 := 125) rfl rfl (fun _ => ?_) (fun _ => ?_)
                · refine g_rl0 hc dX3_factAtHand_130 rfl (pc2 := 131) rfl ?_
                  refine g_getR hc fl_X3_42 rfl ht dX3_factAtHand_131 (pc2 := 134) rfl ?_
                  refine g_ldcS (i := 12) (tx := "hours") hc (by decide +kernel) dX3_factAtHand_134 (pc2 := 136) rfl ?_
                  refine g_callV1 hc (C_X8_isWord (kf_3_0 ht) (by decide)) mv_X8_isWord ln_X3_60 (kf_3_0 ht) ⟨by decide, by decide⟩ (Nat.le_of_ble_eq_true rfl) dX3_factAtHand_136 (pc2 := 139) rfl (fun r26 s25 => ?_)
                  refine g_if_eq hc dX3_factAtHand_139 (pc1 := 147) (pc2 := 142) rfl rfl (fun _ => ?_) (fun _ => ?_)
                  · refine g_rl0 hc dX3_factAtHand_147 rfl (pc2 := 148) rfl ?_
                    refine g_getR hc fl_X3_42 rfl ht dX3_factAtHand_148 (pc2 := 151) rfl ?_
                    refine g_ldcS (i := 13) (tx := "day") hc (by decide +kernel) dX3_factAtHand_151 (pc2 := 153) rfl ?_
                    refine g_callV1 hc (C_X8_isWord (kf_3_0 ht) (by decide)) mv_X8_isWord ln_X3_60 (kf_3_0 ht) ⟨by decide, by decide⟩ (Nat.le_of_ble_eq_true rfl) dX3_factAtHand_153 (pc2 := 156) rfl (fun r29 s28 => ?_)
                    refine g_if_eq hc dX3_factAtHand_156 (pc1 := 164) (pc2 := 159) rfl rfl (fun _ => ?_) (fun _ => ?_)
                    · refine g_iconst hc dX3_factAtHand_164 ic_m1 (pc2 := 165) rfl ?_
                      exact g_iret hc dX3_factAtHand_165
                    · refine g_bipush hc dX3_factAtHand_159 bp_9 (pc2 := 161) rfl ?_
                      refine g_goto hc dX3_factAtHand_161 (pc2 := 165) rfl ?_
                      exact g_iret hc dX3_factAtHand_165
                  · refine g_bipush hc dX3_factAtHand_142 bp_8 (pc2 := 144) rfl ?_
                    refine g_goto hc dX3_factAtHand_144 (pc2 := 165) rfl ?_
                    exact g_iret hc dX3_factAtHand_165
                · refine g_bipush hc dX3_factAtHand_125 bp_7 (pc2 := 127) rfl ?_
                  refine g_goto hc dX3_factAtHand_127 (pc2 := 165) rfl ?_
                  exact g_iret hc dX3_factAtHand_165
              · refine g_bipush hc dX3_factAtHand_108 bp_6 (pc2 := 110) rfl ?_
                refine g_goto hc dX3_factAtHand_110 (pc2 := 165) rfl ?_
                exact g_iret hc dX3_factAtHand_165
            · refine g_iconst hc dX3_factAtHand_92 ic_5 (pc2 := 93) rfl ?_
              refine g_goto hc dX3_factAtHand_93 (pc2 := 165) rfl ?_
              exact g_iret hc dX3_factAtHand_165
          · refine g_iconst hc dX3_factAtHand_76 ic_4 (pc2 := 77) rfl ?_
            refine g_goto hc dX3_factAtHand_77 (pc2 := 165) rfl ?_
            exact g_iret hc dX3_factAtHand_165
        · refine g_iconst hc dX3_factAtHand_60 ic_3 (pc2 := 61) rfl ?_
          refine g_goto hc dX3_factAtHand_61 (pc2 := 165) rfl ?_
          exact g_iret hc dX3_factAtHand_165
      · refine g_iconst hc dX3_factAtHand_44 ic_2 (pc2 := 45) rfl ?_
        refine g_goto hc dX3_factAtHand_45 (pc2 := 165) rfl ?_
        exact g_iret hc dX3_factAtHand_165
    · refine g_iconst hc dX3_factAtHand_28 ic_1 (pc2 := 29) rfl ?_
      refine g_goto hc dX3_factAtHand_29 (pc2 := 165) rfl ?_
      exact g_iret hc dX3_factAtHand_165
  · refine g_iconst hc dX3_factAtHand_12 ic_0 (pc2 := 13) rfl ?_
    refine g_goto hc dX3_factAtHand_13 (pc2 := 165) rfl ?_
    exact g_iret hc dX3_factAtHand_165
set_option maxRecDepth 100000 in
set_option maxHeartbeats 4000000 in
def f_X3_readOperand (n : Nat) (t : Nat) (s0 : q_Sto) : Option (Int32 × q_Sto) :=
  q_jn (fun  (s1 : q_Sto) =>
    q_call (f_X8_isNumber n (q_RF t 0) s1) fun r3 s2 =>
    if r3 = 0 then (
    q_call (f_X3_factAtHand n t s2) fun r6 s5 =>
    if r6 = (-1) then (
    q_call (f_X8_fail n (q_RF t 0) 1 s5) fun r9 s8 =>
    q_rz r9 s8)
    else (
    q_callv (f_X2_emit n (q_RF t 1) 1 r6 s5) fun s10 =>
    q_callv (f_X8_next n (q_RF t 0) s10) fun s12 =>
    q_nS1 (q_up s12 t 6 2) fun s14 =>
    some (1, s14)))
    else (
    q_call (f_X8_number n (q_RF t 0) s2) fun r16 s15 =>
    q_callv (f_X2_emit n (q_RF t 1) 0 r16 s15) fun s17 =>
    q_callv (f_X8_next n (q_RF t 0) s17) fun s19 =>
    q_nS1 (q_up s19 t 6 2) fun s21 =>
    some (1, s21))) fun j51 =>
  if (s0 t 6) = 1 then (
  q_nS1 (q_up s0 t 8 0) fun s23 =>
  q_call (f_X8_isWord n (q_RF t 0) 3 s23) fun r25 s24 =>
  if r25 = 0 then (
  q_call (f_X8_isSign n (q_RF t 0) 40 s24) fun r28 s27 =>
  if r28 = 0 then (
  j51 s27)
  else (
  q_call (f_X3_readOpening n t 12 s27) fun r31 s30 =>
  q_rz r31 s30))
  else (
  q_call (f_X3_readOpening n t 9 s24) fun r33 s32 =>
  q_rz r33 s32))
  else (
  j51 s0)
set_option maxRecDepth 100000 in
set_option maxHeartbeats 4000000 in
theorem C_X3_readOperand {l : Launch} {w : q_Wd} {n : Nat} {t : Nat} (ht : q_KD t = .inl 3) {s0 : q_Sto} : q_C l w yX3_readOperand cX3_readOperand 2 (some .boolean) (q_rm 8 182) [q_rf w t] s0 (f_X3_readOperand n t s0) := q_CofG [some (q_rf w t), none] (by decide +kernel) rfl rfl (Nat.le_of_ble_eq_true rfl) fun cx hl hc => by
  have hc : q_ok w cx RX3 cX3_readOperand 2 (some .boolean) (q_rm 8 182) := hc
  rw [f_X3_readOperand]
  refine g_rl0 hc dX3_readOperand_0 rfl (pc2 := 1) rfl ?_
  refine g_getI hc fl_X3_32 rfl ht dX3_readOperand_1 (pc2 := 4) rfl ?_
  refine g_iconst hc dX3_readOperand_4 ic_1 (pc2 := 5) rfl ?_
  refine g_jn (P := fun j51 => ∀  (s1 : q_Sto), q_G w cx 2 (some .boolean) 51 [some (q_rf w t), none] [] s1 (j51 s1)) (fun s1 => ?_) (fun j51 hj51 => ?_)
  · refine g_rl0 hc dX3_readOperand_51 rfl (pc2 := 52) rfl ?_
    refine g_getR hc fl_X3_42 rfl ht dX3_readOperand_52 (pc2 := 55) rfl ?_
    refine g_callV0 hc (C_X8_isNumber (kf_3_0 ht)) mv_X8_isNumber ln_X3_100 (kf_3_0 ht) ⟨by decide, by decide⟩ (Nat.le_of_ble_eq_true rfl) dX3_readOperand_55 (pc2 := 58) rfl (fun r3 s2 => ?_)
    refine g_if_eq hc dX3_readOperand_58 (pc1 := 79) (pc2 := 61) rfl rfl (fun _ => ?_) (fun _ => ?_)
    · refine g_rl0 hc dX3_readOperand_79 rfl (pc2 := 80) rfl ?_
      refine g_callV0 hc (C_X3_factAtHand ht) mv_X3_factAtHand ln_X3_111 ht ⟨by decide, by decide⟩ (Nat.le_of_ble_eq_true rfl) dX3_readOperand_80 (pc2 := 83) rfl (fun r6 s5 => ?_)
      refine g_is1 hc dX3_readOperand_83 (by decide) (L2 := [some (q_rf w t), some (.int r6)]) rfl (pc2 := 84) rfl ?_
      refine g_il1 hc dX3_readOperand_84 rfl (pc2 := 85) rfl ?_
      refine g_iconst hc dX3_readOperand_85 ic_m1 (pc2 := 86) rfl ?_
      refine g_icmp_ne hc dX3_readOperand_86 (pc1 := 89) (pc2 := 98) rfl rfl (fun _ => ?_) (fun _ => ?_)
      · refine g_rl0 hc dX3_readOperand_89 rfl (pc2 := 90) rfl ?_
        refine g_getR hc fl_X3_42 rfl ht dX3_readOperand_90 (pc2 := 93) rfl ?_
        refine g_iconst hc dX3_readOperand_93 ic_1 (pc2 := 94) rfl ?_
        refine g_callV1 hc (C_X8_fail (kf_3_0 ht)) mv_X8_fail ln_X3_68 (kf_3_0 ht) ⟨by decide, by decide⟩ (Nat.le_of_ble_eq_true rfl) dX3_readOperand_94 (pc2 := 97) rfl (fun r9 s8 => ?_)
        exact g_zret hc dX3_readOperand_97
      · refine g_rl0 hc dX3_readOperand_98 rfl (pc2 := 99) rfl ?_
        refine g_getR hc fl_X3_12 rfl ht dX3_readOperand_99 (pc2 := 102) rfl ?_
        refine g_iconst hc dX3_readOperand_102 ic_1 (pc2 := 103) rfl ?_
        refine g_il1 hc dX3_readOperand_103 rfl (pc2 := 104) rfl ?_
        refine g_callV2v hc (C_X2_emit (kf_3_1 ht)) mv_X2_emit ln_X3_107 (kf_3_1 ht) ⟨by decide, by decide⟩ (Nat.le_of_ble_eq_true rfl) dX3_readOperand_104 (pc2 := 107) rfl (fun s10 => ?_)
        refine g_rl0 hc dX3_readOperand_107 rfl (pc2 := 108) rfl ?_
        refine g_getR hc fl_X3_42 rfl ht dX3_readOperand_108 (pc2 := 111) rfl ?_
        refine g_callV0v hc (C_X8_next (kf_3_0 ht)) mv_X8_next ln_X3_75 (kf_3_0 ht) ⟨by decide, by decide⟩ (Nat.le_of_ble_eq_true rfl) dX3_readOperand_111 (pc2 := 114) rfl (fun s12 => ?_)
        refine g_rl0 hc dX3_readOperand_114 rfl (pc2 := 115) rfl ?_
        refine g_iconst hc dX3_readOperand_115 ic_2 (pc2 := 116) rfl ?_
        refine g_putI hc fl_X3_32 rfl ht dX3_readOperand_116 (pc2 := 119) rfl (fun s14 => ?_)
        refine g_iconst hc dX3_readOperand_119 ic_1 (pc2 := 120) rfl ?_
        exact g_zret0 (by decide) hc dX3_readOperand_120
    · refine g_rl0 hc dX3_readOperand_61 rfl (pc2 := 62) rfl ?_
      refine g_getR hc fl_X3_12 rfl ht dX3_readOperand_62 (pc2 := 65) rfl ?_
      refine g_iconst hc dX3_readOperand_65 ic_0 (pc2 := 66) rfl ?_
      refine g_rl0 hc dX3_readOperand_66 rfl (pc2 := 67) rfl ?_
      refine g_getR hc fl_X3_42 rfl ht dX3_readOperand_67 (pc2 := 70) rfl ?_
      refine g_callV0 hc (C_X8_number (kf_3_0 ht)) mv_X8_number ln_X3_103 (kf_3_0 ht) ⟨by decide, by decide⟩ (Nat.le_of_ble_eq_true rfl) dX3_readOperand_70 (pc2 := 73) rfl (fun r16 s15 => ?_)
      refine g_callV2v hc (C_X2_emit (kf_3_1 ht)) mv_X2_emit ln_X3_107 (kf_3_1 ht) ⟨by decide, by decide⟩ (Nat.le_of_ble_eq_true rfl) dX3_readOperand_73 (pc2 := 76) rfl (fun s17 => ?_)
      refine g_goto hc dX3_readOperand_76 (pc2 := 107) rfl ?_
      refine g_rl0 hc dX3_readOperand_107 rfl (pc2 := 108) rfl ?_
      refine g_getR hc fl_X3_42 rfl ht dX3_readOperand_108 (pc2 := 111) rfl ?_
      refine g_callV0v hc (C_X8_next (kf_3_0 ht)) mv_X8_next ln_X3_75 (kf_3_0 ht) ⟨by decide, by decide⟩ (Nat.le_of_ble_eq_true rfl) dX3_readOperand_111 (pc2 := 114) rfl (fun s19 => ?_)
      refine g_rl0 hc dX3_readOperand_114 rfl (pc2 := 115) rfl ?_
      refine g_iconst hc dX3_readOperand_115 ic_2 (pc2 := 116) rfl ?_
      refine g_putI hc fl_X3_32 rfl ht dX3_readOperand_116 (pc2 := 119) rfl (fun s21 => ?_)
      refine g_iconst hc dX3_readOperand_119 ic_1 (pc2 := 120) rfl ?_
      exact g_zret0 (by decide) hc dX3_readOperand_120
  · refine g_icmp_ne hc dX3_readOperand_5 (pc1 := 8) (pc2 := 51) rfl rfl (fun _ => ?_) (fun _ => ?_)
    · refine g_rl0 hc dX3_readOperand_8 rfl (pc2 := 9) rfl ?_
      refine g_iconst hc dX3_readOperand_9 ic_0 (pc2 := 10) rfl ?_
      refine g_putZ (by decide) hc fl_X3_39 rfl ht dX3_readOperand_10 (pc2 := 13) rfl (fun s23 => ?_)
      refine g_rl0 hc dX3_readOperand_13 rfl (pc2 := 14) rfl ?_
      refine g_getR hc fl_X3_42 rfl ht dX3_readOperand_14 (pc2 := 17) rfl ?_
      refine g_ldcS (i := 3) (tx := "not") hc (by decide +kernel) dX3_readOperand_17 (pc2 := 19) rfl ?_
      refine g_callV1 hc (C_X8_isWord (kf_3_0 ht) (by decide)) mv_X8_isWord ln_X3_60 (kf_3_0 ht) ⟨by decide, by decide⟩ (Nat.le_of_ble_eq_true rfl) dX3_readOperand_19 (pc2 := 22) rfl (fun r25 s24 => ?_)
      refine g_if_eq hc dX3_readOperand_22 (pc1 := 32) (pc2 := 25) rfl rfl (fun _ => ?_) (fun _ => ?_)
      · refine g_rl0 hc dX3_readOperand_32 rfl (pc2 := 33) rfl ?_
        refine g_getR hc fl_X3_42 rfl ht dX3_readOperand_33 (pc2 := 36) rfl ?_
        refine g_bipush hc dX3_readOperand_36 bp_40 (pc2 := 38) rfl ?_
        refine g_callV1 hc (C_X8_isSign (kf_3_0 ht)) mv_X8_isSign ln_X3_96 (kf_3_0 ht) ⟨by decide, by decide⟩ (Nat.le_of_ble_eq_true rfl) dX3_readOperand_38 (pc2 := 41) rfl (fun r28 s27 => ?_)
        refine g_if_eq hc dX3_readOperand_41 (pc1 := 51) (pc2 := 44) rfl rfl (fun _ => ?_) (fun _ => ?_)
        · exact hj51 _
        · refine g_rl0 hc dX3_readOperand_44 rfl (pc2 := 45) rfl ?_
          refine g_bipush hc dX3_readOperand_45 bp_12 (pc2 := 47) rfl ?_
          refine g_callV1 hc (C_X3_readOpening ht) mv_X3_readOpening ln_X3_93 ht ⟨by decide, by decide⟩ (Nat.le_of_ble_eq_true rfl) dX3_readOperand_47 (pc2 := 50) rfl (fun r31 s30 => ?_)
          exact g_zret hc dX3_readOperand_50
      · refine g_rl0 hc dX3_readOperand_25 rfl (pc2 := 26) rfl ?_
        refine g_bipush hc dX3_readOperand_26 bp_9 (pc2 := 28) rfl ?_
        refine g_callV1 hc (C_X3_readOpening ht) mv_X3_readOpening ln_X3_93 ht ⟨by decide, by decide⟩ (Nat.le_of_ble_eq_true rfl) dX3_readOperand_28 (pc2 := 31) rfl (fun r33 s32 => ?_)
        exact g_zret hc dX3_readOperand_31
    · exact hj51 _
set_option maxRecDepth 100000 in
set_option maxHeartbeats 4000000 in
def f_X3_rank (n : Nat) (a0 : Int32) (s0 : q_Sto) : Option (Int32 × q_Sto) :=
  if a0 = 2 then (
  some (6, s0))
  else
  if a0 = 3 then (
  some (6, s0))
  else
  if a0 = 4 then (
  some (5, s0))
  else
  if a0 = 5 then (
  some (5, s0))
  else
  if a0 = 9 then (
  some (3, s0))
  else
  if a0 = 10 then (
  some (2, s0))
  else
  if a0 = 11 then (
  some (1, s0))
  else
  if a0 = 12 then (
  some (0, s0))
  else
  (some (4, s0))
set_option maxRecDepth 100000 in
set_option maxHeartbeats 4000000 in
theorem C_X3_rank {l : Launch} {w : q_Wd} {n : Nat} {a0 : Int32}  {s0 : q_Sto} : q_C l w yX3_rank cX3_rank 1 (some .int) (q_rm 0 0) [.int a0] s0 (f_X3_rank n a0 s0) := q_CofG [some (.int a0)] (by decide +kernel) rfl rfl (Nat.le_of_ble_eq_true rfl) fun cx hl hc => by
  have hc : q_ok w cx RX3 cX3_rank 1 (some .int) (q_rm 0 0) := hc
  rw [f_X3_rank]
  refine g_il0 hc dX3_rank_0 rfl (pc2 := 1) rfl ?_
  refine g_swc (pc2 := 0) hc dX3_rank_1 (c := 2) (by decide) (by decide) rfl (pc1 := 70) rfl (fun _ => ?_) (fun c1 => ?_)
  · refine g_bipush hc dX3_rank_70 bp_6 (pc2 := 72) rfl ?_
    exact g_iret hc dX3_rank_72
  refine g_swc (pc2 := 0) hc dX3_rank_1 (c := 3) (by decide) (by decide) rfl (pc1 := 70) rfl (fun _ => ?_) (fun c2 => ?_)
  · refine g_bipush hc dX3_rank_70 bp_6 (pc2 := 72) rfl ?_
    exact g_iret hc dX3_rank_72
  refine g_swc (pc2 := 0) hc dX3_rank_1 (c := 4) (by decide) (by decide) rfl (pc1 := 68) rfl (fun _ => ?_) (fun c3 => ?_)
  · refine g_iconst hc dX3_rank_68 ic_5 (pc2 := 69) rfl ?_
    exact g_iret hc dX3_rank_69
  refine g_swc (pc2 := 0) hc dX3_rank_1 (c := 5) (by decide) (by decide) rfl (pc1 := 68) rfl (fun _ => ?_) (fun c4 => ?_)
  · refine g_iconst hc dX3_rank_68 ic_5 (pc2 := 69) rfl ?_
    exact g_iret hc dX3_rank_69
  refine g_swc (pc2 := 0) hc dX3_rank_1 (c := 9) (by decide) (by decide) rfl (pc1 := 66) rfl (fun _ => ?_) (fun c5 => ?_)
  · refine g_iconst hc dX3_rank_66 ic_3 (pc2 := 67) rfl ?_
    exact g_iret hc dX3_rank_67
  refine g_swc (pc2 := 0) hc dX3_rank_1 (c := 10) (by decide) (by decide) rfl (pc1 := 64) rfl (fun _ => ?_) (fun c6 => ?_)
  · refine g_iconst hc dX3_rank_64 ic_2 (pc2 := 65) rfl ?_
    exact g_iret hc dX3_rank_65
  refine g_swc (pc2 := 0) hc dX3_rank_1 (c := 11) (by decide) (by decide) rfl (pc1 := 62) rfl (fun _ => ?_) (fun c7 => ?_)
  · refine g_iconst hc dX3_rank_62 ic_1 (pc2 := 63) rfl ?_
    exact g_iret hc dX3_rank_63
  refine g_swc (pc2 := 0) hc dX3_rank_1 (c := 12) (by decide) (by decide) rfl (pc1 := 60) rfl (fun _ => ?_) (fun c8 => ?_)
  · refine g_iconst hc dX3_rank_60 ic_0 (pc2 := 61) rfl ?_
    exact g_iret hc dX3_rank_61
  refine g_swd (pc2 := 0) hc dX3_rank_1 (fun i a b e => ?_) (pc1 := 73) rfl ?_
  · rcases (show i = 2 ∨ i = 3 ∨ i = 4 ∨ i = 5 ∨ i = 6 ∨ i = 7 ∨ i = 8 ∨ i = 9 ∨ i = 10 ∨ i = 11 ∨ i = 12 by omega) with rfl | rfl | rfl | rfl | rfl | rfl | rfl | rfl | rfl | rfl | rfl
    · exact q_swx (c := 2) (by decide) c1 e
    · exact q_swx (c := 3) (by decide) c2 e
    · exact q_swx (c := 4) (by decide) c3 e
    · exact q_swx (c := 5) (by decide) c4 e
    · rfl
    · rfl
    · rfl
    · exact q_swx (c := 9) (by decide) c5 e
    · exact q_swx (c := 10) (by decide) c6 e
    · exact q_swx (c := 11) (by decide) c7 e
    · exact q_swx (c := 12) (by decide) c8 e
  · refine g_iconst hc dX3_rank_73 ic_4 (pc2 := 74) rfl ?_
    exact g_iret hc dX3_rank_74
set_option maxRecDepth 100000 in
set_option maxHeartbeats 4000000 in
def f_X3_release_L0 (n : Nat) (x0 : Nat) (x1 : Int32) : Nat → q_Sto → Option (Int32 × q_Sto)
  | 0, _ => none
  | j + 1, s0 =>
    if (s0 x0 3) ≤ 0 then (
    some (0, s0))
    else (
    if (s0 x0 3) ≤ (Int32.ofNat 400) then (
    q_ld s0 (q_RF x0 2) ((s0 x0 3) - 1) 400 fun v3 =>
    q_call (f_X3_rank n v3 s0) fun r5 s4 =>
    if r5 < x1 then (
    some (0, s4))
    else (
    q_nS1 (q_up s4 x0 3 ((s4 x0 3) - 1)) fun s7 =>
    q_ld s7 (q_RF x0 2) (s7 x0 3) 400 fun v8 =>
    q_callv (f_X2_emit n (q_RF x0 1) v8 0 s7) fun s9 =>
    q_ld s9 (q_RF x0 2) (s9 x0 3) 400 fun v11 =>
    if v11 = 9 then (
    q_nS1 (q_up s9 x0 5 ((s9 x0 5) - 1)) fun s13 =>
    f_X3_release_L0 n x0 x1  j  s13)
    else (
    f_X3_release_L0 n x0 x1  j  s9)))
    else (
    some (0, s0)))
set_option maxRecDepth 100000 in
set_option maxHeartbeats 4000000 in
def f_X3_release (n : Nat) (t : Nat) (a0 : Int32) (s0 : q_Sto) : Option (Int32 × q_Sto) :=
  f_X3_release_L0 n t a0  n  s0
set_option maxRecDepth 100000 in
set_option maxHeartbeats 4000000 in
theorem t_X3_release_L0 {w : q_Wd} {cx : q_Cx} (hc : q_ok w cx RX3 cX3_release 2 (none) (q_rm 1 22)) {n : Nat} {x0 : Nat} {x1 : Int32} (hx0 : q_KD x0 = .inl 3)   :
    ∀ (j : Nat)  (s0 : q_Sto), q_G w cx 2 (none) 0 [some (q_rf w x0), some (.int x1)] [] s0 (f_X3_release_L0 n x0 x1  j  s0) := by
  intro j
  induction j with
  | zero =>
    intro _
    rw [f_X3_release_L0]
    exact q_none
  | succ j ih =>
    intro s0
    rw [f_X3_release_L0]
    refine g_rl0 hc dX3_release_0 rfl (pc2 := 1) rfl ?_
    refine g_getI hc fl_X3_22 rfl hx0 dX3_release_1 (pc2 := 4) rfl ?_
    refine g_if_le hc dX3_release_4 (pc1 := 91) (pc2 := 7) rfl rfl (fun _ => ?_) (fun _ => ?_)
    · exact g_vret hc dX3_release_91
    · refine g_rl0 hc dX3_release_7 rfl (pc2 := 8) rfl ?_
      refine g_getI hc fl_X3_22 rfl hx0 dX3_release_8 (pc2 := 11) rfl ?_
      refine g_rl0 hc dX3_release_11 rfl (pc2 := 12) rfl ?_
      refine g_getR hc fl_X3_18 rfl hx0 dX3_release_12 (pc2 := 15) rfl ?_
      refine g_alen hc (kf_3_2 hx0) (kl_3_2 hx0) dX3_release_15 (pc2 := 16) rfl ?_
      refine g_icmp_gt hc dX3_release_16 (pc1 := 19) (pc2 := 91) rfl rfl (fun _ => ?_) (fun _ => ?_)
      · refine g_rl0 hc dX3_release_19 rfl (pc2 := 20) rfl ?_
        refine g_getR hc fl_X3_18 rfl hx0 dX3_release_20 (pc2 := 23) rfl ?_
        refine g_rl0 hc dX3_release_23 rfl (pc2 := 24) rfl ?_
        refine g_getI hc fl_X3_22 rfl hx0 dX3_release_24 (pc2 := 27) rfl ?_
        refine g_iconst hc dX3_release_27 ic_1 (pc2 := 28) rfl ?_
        refine g_isub hc dX3_release_28 (pc2 := 29) rfl ?_
        refine g_iald hc (kf_3_2 hx0) (kl_3_2 hx0) dX3_release_29 (pc2 := 30) rfl (fun v3 => ?_)
        refine g_callS1 hc C_X3_rank mv_X3_rank ln_X3_140 ⟨by decide, by decide⟩ (Nat.le_of_ble_eq_true rfl) dX3_release_30 (pc2 := 33) rfl (fun r5 s4 => ?_)
        refine g_il1 hc dX3_release_33 rfl (pc2 := 34) rfl ?_
        refine g_icmp_lt hc dX3_release_34 (pc1 := 91) (pc2 := 37) rfl rfl (fun _ => ?_) (fun _ => ?_)
        · exact g_vret hc dX3_release_91
        · refine g_rl0 hc dX3_release_37 rfl (pc2 := 38) rfl ?_
          refine g_dup hc dX3_release_38 rfl (pc2 := 39) rfl ?_
          refine g_getI hc fl_X3_22 rfl hx0 dX3_release_39 (pc2 := 42) rfl ?_
          refine g_iconst hc dX3_release_42 ic_1 (pc2 := 43) rfl ?_
          refine g_isub hc dX3_release_43 (pc2 := 44) rfl ?_
          refine g_putI hc fl_X3_22 rfl hx0 dX3_release_44 (pc2 := 47) rfl (fun s7 => ?_)
          refine g_rl0 hc dX3_release_47 rfl (pc2 := 48) rfl ?_
          refine g_getR hc fl_X3_12 rfl hx0 dX3_release_48 (pc2 := 51) rfl ?_
          refine g_rl0 hc dX3_release_51 rfl (pc2 := 52) rfl ?_
          refine g_getR hc fl_X3_18 rfl hx0 dX3_release_52 (pc2 := 55) rfl ?_
          refine g_rl0 hc dX3_release_55 rfl (pc2 := 56) rfl ?_
          refine g_getI hc fl_X3_22 rfl hx0 dX3_release_56 (pc2 := 59) rfl ?_
          refine g_iald hc (kf_3_2 hx0) (kl_3_2 hx0) dX3_release_59 (pc2 := 60) rfl (fun v8 => ?_)
          refine g_iconst hc dX3_release_60 ic_0 (pc2 := 61) rfl ?_
          refine g_callV2v hc (C_X2_emit (kf_3_1 hx0)) mv_X2_emit ln_X3_107 (kf_3_1 hx0) ⟨by decide, by decide⟩ (Nat.le_of_ble_eq_true rfl) dX3_release_61 (pc2 := 64) rfl (fun s9 => ?_)
          refine g_rl0 hc dX3_release_64 rfl (pc2 := 65) rfl ?_
          refine g_getR hc fl_X3_18 rfl hx0 dX3_release_65 (pc2 := 68) rfl ?_
          refine g_rl0 hc dX3_release_68 rfl (pc2 := 69) rfl ?_
          refine g_getI hc fl_X3_22 rfl hx0 dX3_release_69 (pc2 := 72) rfl ?_
          refine g_iald hc (kf_3_2 hx0) (kl_3_2 hx0) dX3_release_72 (pc2 := 73) rfl (fun v11 => ?_)
          refine g_bipush hc dX3_release_73 bp_9 (pc2 := 75) rfl ?_
          refine g_icmp_ne hc dX3_release_75 (pc1 := 78) (pc2 := 0) rfl rfl (fun _ => ?_) (fun _ => ?_)
          · refine g_rl0 hc dX3_release_78 rfl (pc2 := 79) rfl ?_
            refine g_dup hc dX3_release_79 rfl (pc2 := 80) rfl ?_
            refine g_getI hc fl_X3_29 rfl hx0 dX3_release_80 (pc2 := 83) rfl ?_
            refine g_iconst hc dX3_release_83 ic_1 (pc2 := 84) rfl ?_
            refine g_isub hc dX3_release_84 (pc2 := 85) rfl ?_
            refine g_putI hc fl_X3_29 rfl hx0 dX3_release_85 (pc2 := 88) rfl (fun s13 => ?_)
            refine g_goto hc dX3_release_88 (pc2 := 0) rfl ?_
            exact ih _
          · exact ih _
      · exact g_vret hc dX3_release_91
set_option maxRecDepth 100000 in
set_option maxHeartbeats 4000000 in
theorem C_X3_release {l : Launch} {w : q_Wd} {n : Nat} {t : Nat} {a0 : Int32} (ht : q_KD t = .inl 3) {s0 : q_Sto} : q_C l w yX3_release cX3_release 2 (none) (q_rm 1 22) [q_rf w t, .int a0] s0 (f_X3_release n t a0 s0) := q_CofG [some (q_rf w t), some (.int a0)] (by decide +kernel) rfl rfl (Nat.le_of_ble_eq_true rfl) fun cx hl hc => by
  have hc : q_ok w cx RX3 cX3_release 2 (none) (q_rm 1 22) := hc
  rw [f_X3_release]
  refine t_X3_release_L0 hc ht  n  _
set_option maxRecDepth 100000 in
set_option maxHeartbeats 4000000 in
def f_X8_expectNumber (n : Nat) (t : Nat) (a0 : Int32) (a1 : Int32) (a2 : Int32) (s0 : q_Sto) : Option (Int32 × q_Sto) :=
  q_call (f_X8_isNumber n t s0) fun r2 s1 =>
  if r2 = 0 then (
  q_call (f_X8_fail n t 1 s1) fun r5 s4 =>
  some ((-1), s4))
  else (
  q_nm (s1 t 5) fun v6 =>
  if v6 < a0 then (
  q_call (f_X8_fail n t 2 s1) fun r9 s8 =>
  some ((-1), s8))
  else (
  if v6 ≤ a1 then (
  if v6 = a2 then (
  q_call (f_X8_fail n t 2 s1) fun r13 s12 =>
  some ((-1), s12))
  else (
  q_callv (f_X8_next n t s1) fun s14 =>
  some (v6, s14)))
  else (
  q_call (f_X8_fail n t 2 s1) fun r17 s16 =>
  some ((-1), s16))))
set_option maxRecDepth 100000 in
set_option maxHeartbeats 4000000 in
theorem C_X8_expectNumber {l : Launch} {w : q_Wd} {n : Nat} {t : Nat} {a0 : Int32} {a1 : Int32} {a2 : Int32} (ht : q_KD t = .inl 8) {s0 : q_Sto} : q_C l w yX8_expectNumber cX8_expectNumber 5 (some .int) (q_rm 2 41) [q_rf w t, .int a0, .int a1, .int a2] s0 (f_X8_expectNumber n t a0 a1 a2 s0) := q_CofG [some (q_rf w t), some (.int a0), some (.int a1), some (.int a2), none] (by decide +kernel) rfl rfl (Nat.le_of_ble_eq_true rfl) fun cx hl hc => by
  have hc : q_ok w cx RX8 cX8_expectNumber 5 (some .int) (q_rm 2 41) := hc
  rw [f_X8_expectNumber]
  refine g_rl0 hc dX8_expectNumber_0 rfl (pc2 := 1) rfl ?_
  refine g_callV0 hc (C_X8_isNumber ht) mv_X8_isNumber ln_X8_77 ht ⟨by decide, by decide⟩ (Nat.le_of_ble_eq_true rfl) dX8_expectNumber_1 (pc2 := 4) rfl (fun r2 s1 => ?_)
  refine g_if_ne hc dX8_expectNumber_4 (pc1 := 7) (pc2 := 15) rfl rfl (fun _ => ?_) (fun _ => ?_)
  · refine g_rl0 hc dX8_expectNumber_7 rfl (pc2 := 8) rfl ?_
    refine g_iconst hc dX8_expectNumber_8 ic_1 (pc2 := 9) rfl ?_
    refine g_callV1 hc (C_X8_fail ht) mv_X8_fail ln_X8_71 ht ⟨by decide, by decide⟩ (Nat.le_of_ble_eq_true rfl) dX8_expectNumber_9 (pc2 := 12) rfl (fun r5 s4 => ?_)
    refine g_pop hc dX8_expectNumber_12 (pc2 := 13) rfl ?_
    refine g_iconst hc dX8_expectNumber_13 ic_m1 (pc2 := 14) rfl ?_
    exact g_iret hc dX8_expectNumber_14
  · refine g_rl0 hc dX8_expectNumber_15 rfl (pc2 := 16) rfl ?_
    refine g_getI hc fl_X8_28 rfl ht dX8_expectNumber_16 (pc2 := 19) rfl ?_
    refine g_nm (fun v6 => ?_)
    refine g_istore hc dX8_expectNumber_19 (by decide) (L2 := [some (q_rf w t), some (.int a0), some (.int a1), some (.int a2), some (.int v6)]) rfl (pc2 := 21) rfl ?_
    refine g_iload hc dX8_expectNumber_21 rfl (pc2 := 23) rfl ?_
    refine g_il1 hc dX8_expectNumber_23 rfl (pc2 := 24) rfl ?_
    refine g_icmp_lt hc dX8_expectNumber_24 (pc1 := 39) (pc2 := 27) rfl rfl (fun _ => ?_) (fun _ => ?_)
    · refine g_rl0 hc dX8_expectNumber_39 rfl (pc2 := 40) rfl ?_
      refine g_iconst hc dX8_expectNumber_40 ic_2 (pc2 := 41) rfl ?_
      refine g_callV1 hc (C_X8_fail ht) mv_X8_fail ln_X8_71 ht ⟨by decide, by decide⟩ (Nat.le_of_ble_eq_true rfl) dX8_expectNumber_41 (pc2 := 44) rfl (fun r9 s8 => ?_)
      refine g_pop hc dX8_expectNumber_44 (pc2 := 45) rfl ?_
      refine g_iconst hc dX8_expectNumber_45 ic_m1 (pc2 := 46) rfl ?_
      exact g_iret hc dX8_expectNumber_46
    · refine g_iload hc dX8_expectNumber_27 rfl (pc2 := 29) rfl ?_
      refine g_il2 hc dX8_expectNumber_29 rfl (pc2 := 30) rfl ?_
      refine g_icmp_gt hc dX8_expectNumber_30 (pc1 := 33) (pc2 := 39) rfl rfl (fun _ => ?_) (fun _ => ?_)
      · refine g_iload hc dX8_expectNumber_33 rfl (pc2 := 35) rfl ?_
        refine g_il3 hc dX8_expectNumber_35 rfl (pc2 := 36) rfl ?_
        refine g_icmp_ne hc dX8_expectNumber_36 (pc1 := 39) (pc2 := 47) rfl rfl (fun _ => ?_) (fun _ => ?_)
        · refine g_rl0 hc dX8_expectNumber_39 rfl (pc2 := 40) rfl ?_
          refine g_iconst hc dX8_expectNumber_40 ic_2 (pc2 := 41) rfl ?_
          refine g_callV1 hc (C_X8_fail ht) mv_X8_fail ln_X8_71 ht ⟨by decide, by decide⟩ (Nat.le_of_ble_eq_true rfl) dX8_expectNumber_41 (pc2 := 44) rfl (fun r13 s12 => ?_)
          refine g_pop hc dX8_expectNumber_44 (pc2 := 45) rfl ?_
          refine g_iconst hc dX8_expectNumber_45 ic_m1 (pc2 := 46) rfl ?_
          exact g_iret hc dX8_expectNumber_46
        · refine g_rl0 hc dX8_expectNumber_47 rfl (pc2 := 48) rfl ?_
          refine g_callV0v hc (C_X8_next ht) mv_X8_next ln_X8_37 ht ⟨by decide, by decide⟩ (Nat.le_of_ble_eq_true rfl) dX8_expectNumber_48 (pc2 := 51) rfl (fun s14 => ?_)
          refine g_iload hc dX8_expectNumber_51 rfl (pc2 := 53) rfl ?_
          exact g_iret hc dX8_expectNumber_53
      · refine g_rl0 hc dX8_expectNumber_39 rfl (pc2 := 40) rfl ?_
        refine g_iconst hc dX8_expectNumber_40 ic_2 (pc2 := 41) rfl ?_
        refine g_callV1 hc (C_X8_fail ht) mv_X8_fail ln_X8_71 ht ⟨by decide, by decide⟩ (Nat.le_of_ble_eq_true rfl) dX8_expectNumber_41 (pc2 := 44) rfl (fun r17 s16 => ?_)
        refine g_pop hc dX8_expectNumber_44 (pc2 := 45) rfl ?_
        refine g_iconst hc dX8_expectNumber_45 ic_m1 (pc2 := 46) rfl ?_
        exact g_iret hc dX8_expectNumber_46
set_option maxRecDepth 100000 in
set_option maxHeartbeats 4000000 in
def f_X3_readPart (n : Nat) (t : Nat) (s0 : q_Sto) : Option (Int32 × q_Sto) :=
  q_call (f_X3_rank n 2 s0) fun r2 s1 =>
  q_callv (f_X3_release n t r2 s1) fun s3 =>
  q_callv (f_X8_next n (q_RF t 0) s3) fun s5 =>
  q_call (f_X8_expectNumber n (q_RF t 0) 1 9999 (-1) s5) fun r8 s7 =>
  if r8 = (-1) then (
  some (0, s7))
  else (
  q_callv (f_X2_emit n (q_RF t 1) 2 r8 s7) fun s10 =>
  some (1, s10))
set_option maxRecDepth 100000 in
set_option maxHeartbeats 4000000 in
theorem C_X3_readPart {l : Launch} {w : q_Wd} {n : Nat} {t : Nat} (ht : q_KD t = .inl 3) {s0 : q_Sto} : q_C l w yX3_readPart cX3_readPart 2 (some .boolean) (q_rm 3 65) [q_rf w t] s0 (f_X3_readPart n t s0) := q_CofG [some (q_rf w t), none] (by decide +kernel) rfl rfl (Nat.le_of_ble_eq_true rfl) fun cx hl hc => by
  have hc : q_ok w cx RX3 cX3_readPart 2 (some .boolean) (q_rm 3 65) := hc
  rw [f_X3_readPart]
  refine g_rl0 hc dX3_readPart_0 rfl (pc2 := 1) rfl ?_
  refine g_iconst hc dX3_readPart_1 ic_2 (pc2 := 2) rfl ?_
  refine g_callS1 hc C_X3_rank mv_X3_rank ln_X3_140 ⟨by decide, by decide⟩ (Nat.le_of_ble_eq_true rfl) dX3_readPart_2 (pc2 := 5) rfl (fun r2 s1 => ?_)
  refine g_callV1v hc (C_X3_release ht) mv_X3_release ln_X3_144 ht ⟨by decide, by decide⟩ (Nat.le_of_ble_eq_true rfl) dX3_readPart_5 (pc2 := 8) rfl (fun s3 => ?_)
  refine g_rl0 hc dX3_readPart_8 rfl (pc2 := 9) rfl ?_
  refine g_getR hc fl_X3_42 rfl ht dX3_readPart_9 (pc2 := 12) rfl ?_
  refine g_callV0v hc (C_X8_next (kf_3_0 ht)) mv_X8_next ln_X3_75 (kf_3_0 ht) ⟨by decide, by decide⟩ (Nat.le_of_ble_eq_true rfl) dX3_readPart_12 (pc2 := 15) rfl (fun s5 => ?_)
  refine g_rl0 hc dX3_readPart_15 rfl (pc2 := 16) rfl ?_
  refine g_getR hc fl_X3_42 rfl ht dX3_readPart_16 (pc2 := 19) rfl ?_
  refine g_iconst hc dX3_readPart_19 ic_1 (pc2 := 20) rfl ?_
  refine g_sipush hc dX3_readPart_20 sp_9999 (pc2 := 23) rfl ?_
  refine g_iconst hc dX3_readPart_23 ic_m1 (pc2 := 24) rfl ?_
  refine g_callV3 hc (C_X8_expectNumber (kf_3_0 ht)) mv_X8_expectNumber ln_X3_147 (kf_3_0 ht) ⟨by decide, by decide⟩ (Nat.le_of_ble_eq_true rfl) dX3_readPart_24 (pc2 := 27) rfl (fun r8 s7 => ?_)
  refine g_is1 hc dX3_readPart_27 (by decide) (L2 := [some (q_rf w t), some (.int r8)]) rfl (pc2 := 28) rfl ?_
  refine g_il1 hc dX3_readPart_28 rfl (pc2 := 29) rfl ?_
  refine g_iconst hc dX3_readPart_29 ic_m1 (pc2 := 30) rfl ?_
  refine g_icmp_ne hc dX3_readPart_30 (pc1 := 33) (pc2 := 35) rfl rfl (fun _ => ?_) (fun _ => ?_)
  · refine g_iconst hc dX3_readPart_33 ic_0 (pc2 := 34) rfl ?_
    exact g_zret0 (by decide) hc dX3_readPart_34
  · refine g_rl0 hc dX3_readPart_35 rfl (pc2 := 36) rfl ?_
    refine g_getR hc fl_X3_12 rfl ht dX3_readPart_36 (pc2 := 39) rfl ?_
    refine g_iconst hc dX3_readPart_39 ic_2 (pc2 := 40) rfl ?_
    refine g_il1 hc dX3_readPart_40 rfl (pc2 := 41) rfl ?_
    refine g_callV2v hc (C_X2_emit (kf_3_1 ht)) mv_X2_emit ln_X3_107 (kf_3_1 ht) ⟨by decide, by decide⟩ (Nat.le_of_ble_eq_true rfl) dX3_readPart_41 (pc2 := 44) rfl (fun s10 => ?_)
    refine g_iconst hc dX3_readPart_44 ic_1 (pc2 := 45) rfl ?_
    exact g_zret0 (by decide) hc dX3_readPart_45
set_option maxRecDepth 100000 in
set_option maxHeartbeats 4000000 in
def f_X3_join (n : Nat) (t : Nat) (a0 : Int32) (a1 : Int32) (s0 : q_Sto) : Option (Int32 × q_Sto) :=
  q_call (f_X3_rank n a0 s0) fun r2 s1 =>
  q_callv (f_X3_release n t r2 s1) fun s3 =>
  q_callv (f_X3_push n t a0 s3) fun s5 =>
  q_callv (f_X8_next n (q_RF t 0) s5) fun s7 =>
  q_nS1 (q_up s7 t 6 a1) fun s9 =>
  some (1, s9)
set_option maxRecDepth 100000 in
set_option maxHeartbeats 4000000 in
theorem C_X3_join {l : Launch} {w : q_Wd} {n : Nat} {t : Nat} {a0 : Int32} {a1 : Int32} (ht : q_KD t = .inl 3) {s0 : q_Sto} : q_C l w yX3_join cX3_join 3 (some .boolean) (q_rm 2 43) [q_rf w t, .int a0, .int a1] s0 (f_X3_join n t a0 a1 s0) := q_CofG [some (q_rf w t), some (.int a0), some (.int a1)] (by decide +kernel) rfl rfl (Nat.le_of_ble_eq_true rfl) fun cx hl hc => by
  have hc : q_ok w cx RX3 cX3_join 3 (some .boolean) (q_rm 2 43) := hc
  rw [f_X3_join]
  refine g_rl0 hc dX3_join_0 rfl (pc2 := 1) rfl ?_
  refine g_il1 hc dX3_join_1 rfl (pc2 := 2) rfl ?_
  refine g_callS1 hc C_X3_rank mv_X3_rank ln_X3_140 ⟨by decide, by decide⟩ (Nat.le_of_ble_eq_true rfl) dX3_join_2 (pc2 := 5) rfl (fun r2 s1 => ?_)
  refine g_callV1v hc (C_X3_release ht) mv_X3_release ln_X3_144 ht ⟨by decide, by decide⟩ (Nat.le_of_ble_eq_true rfl) dX3_join_5 (pc2 := 8) rfl (fun s3 => ?_)
  refine g_rl0 hc dX3_join_8 rfl (pc2 := 9) rfl ?_
  refine g_il1 hc dX3_join_9 rfl (pc2 := 10) rfl ?_
  refine g_callV1v hc (C_X3_push ht) mv_X3_push ln_X3_114 ht ⟨by decide, by decide⟩ (Nat.le_of_ble_eq_true rfl) dX3_join_10 (pc2 := 13) rfl (fun s5 => ?_)
  refine g_rl0 hc dX3_join_13 rfl (pc2 := 14) rfl ?_
  refine g_getR hc fl_X3_42 rfl ht dX3_join_14 (pc2 := 17) rfl ?_
  refine g_callV0v hc (C_X8_next (kf_3_0 ht)) mv_X8_next ln_X3_75 (kf_3_0 ht) ⟨by decide, by decide⟩ (Nat.le_of_ble_eq_true rfl) dX3_join_17 (pc2 := 20) rfl (fun s7 => ?_)
  refine g_rl0 hc dX3_join_20 rfl (pc2 := 21) rfl ?_
  refine g_il2 hc dX3_join_21 rfl (pc2 := 22) rfl ?_
  refine g_putI hc fl_X3_32 rfl ht dX3_join_22 (pc2 := 25) rfl (fun s9 => ?_)
  refine g_iconst hc dX3_join_25 ic_1 (pc2 := 26) rfl ?_
  exact g_zret0 (by decide) hc dX3_join_26
set_option maxRecDepth 100000 in
set_option maxHeartbeats 4000000 in
def f_X3_endLine (n : Nat) (t : Nat) (s0 : q_Sto) : Option (Int32 × q_Sto) :=
  q_call (f_X8_isSign n (q_RF t 0) 59 s0) fun r2 s1 =>
  if r2 = 0 then (
  q_call (f_X8_fail n (q_RF t 0) 1 s1) fun r5 s4 =>
  q_rz r5 s4)
  else (
  q_callv (f_X3_release n t 1 s1) fun s6 =>
  q_callv (f_X2_endLine n (q_RF t 1) s6) fun s8 =>
  q_callv (f_X8_next n (q_RF t 0) s8) fun s10 =>
  some (0, s10))
set_option maxRecDepth 100000 in
set_option maxHeartbeats 4000000 in
theorem C_X3_endLine {l : Launch} {w : q_Wd} {n : Nat} {t : Nat} (ht : q_KD t = .inl 3) {s0 : q_Sto} : q_C l w yX3_endLine cX3_endLine 1 (some .boolean) (q_rm 2 43) [q_rf w t] s0 (f_X3_endLine n t s0) := q_CofG [some (q_rf w t)] (by decide +kernel) rfl rfl (Nat.le_of_ble_eq_true rfl) fun cx hl hc => by
  have hc : q_ok w cx RX3 cX3_endLine 1 (some .boolean) (q_rm 2 43) := hc
  rw [f_X3_endLine]
  refine g_rl0 hc dX3_endLine_0 rfl (pc2 := 1) rfl ?_
  refine g_getR hc fl_X3_42 rfl ht dX3_endLine_1 (pc2 := 4) rfl ?_
  refine g_bipush hc dX3_endLine_4 bp_59 (pc2 := 6) rfl ?_
  refine g_callV1 hc (C_X8_isSign (kf_3_0 ht)) mv_X8_isSign ln_X3_96 (kf_3_0 ht) ⟨by decide, by decide⟩ (Nat.le_of_ble_eq_true rfl) dX3_endLine_6 (pc2 := 9) rfl (fun r2 s1 => ?_)
  refine g_if_ne hc dX3_endLine_9 (pc1 := 12) (pc2 := 21) rfl rfl (fun _ => ?_) (fun _ => ?_)
  · refine g_rl0 hc dX3_endLine_12 rfl (pc2 := 13) rfl ?_
    refine g_getR hc fl_X3_42 rfl ht dX3_endLine_13 (pc2 := 16) rfl ?_
    refine g_iconst hc dX3_endLine_16 ic_1 (pc2 := 17) rfl ?_
    refine g_callV1 hc (C_X8_fail (kf_3_0 ht)) mv_X8_fail ln_X3_68 (kf_3_0 ht) ⟨by decide, by decide⟩ (Nat.le_of_ble_eq_true rfl) dX3_endLine_17 (pc2 := 20) rfl (fun r5 s4 => ?_)
    exact g_zret hc dX3_endLine_20
  · refine g_rl0 hc dX3_endLine_21 rfl (pc2 := 22) rfl ?_
    refine g_iconst hc dX3_endLine_22 ic_1 (pc2 := 23) rfl ?_
    refine g_callV1v hc (C_X3_release ht) mv_X3_release ln_X3_144 ht ⟨by decide, by decide⟩ (Nat.le_of_ble_eq_true rfl) dX3_endLine_23 (pc2 := 26) rfl (fun s6 => ?_)
    refine g_rl0 hc dX3_endLine_26 rfl (pc2 := 27) rfl ?_
    refine g_getR hc fl_X3_12 rfl ht dX3_endLine_27 (pc2 := 30) rfl ?_
    refine g_callV0v hc (C_X2_endLine (kf_3_1 ht)) mv_X2_endLine ln_X3_162 (kf_3_1 ht) ⟨by decide, by decide⟩ (Nat.le_of_ble_eq_true rfl) dX3_endLine_30 (pc2 := 33) rfl (fun s8 => ?_)
    refine g_rl0 hc dX3_endLine_33 rfl (pc2 := 34) rfl ?_
    refine g_getR hc fl_X3_42 rfl ht dX3_endLine_34 (pc2 := 37) rfl ?_
    refine g_callV0v hc (C_X8_next (kf_3_0 ht)) mv_X8_next ln_X3_75 (kf_3_0 ht) ⟨by decide, by decide⟩ (Nat.le_of_ble_eq_true rfl) dX3_endLine_37 (pc2 := 40) rfl (fun s10 => ?_)
    refine g_iconst hc dX3_endLine_40 ic_0 (pc2 := 41) rfl ?_
    exact g_zret0 (by decide) hc dX3_endLine_41
set_option maxRecDepth 100000 in
set_option maxHeartbeats 4000000 in
def f_X3_readWhen (n : Nat) (t : Nat) (s0 : q_Sto) : Option (Int32 × q_Sto) :=
  q_call (f_X8_isWord n (q_RF t 0) 14 s0) fun r2 s1 =>
  if r2 = 0 then (
  q_call (f_X3_endLine n t s1) fun r5 s4 =>
  q_rz r5 s4)
  else (
  q_callv (f_X3_release n t 1 s1) fun s6 =>
  q_callv (f_X2_beginWhen n (q_RF t 1) s6) fun s8 =>
  q_callv (f_X8_next n (q_RF t 0) s8) fun s10 =>
  q_nS1 (q_up s10 t 7 1) fun s12 =>
  q_nS1 (q_up s12 t 6 1) fun s13 =>
  some (1, s13))
set_option maxRecDepth 100000 in
set_option maxHeartbeats 4000000 in
theorem C_X3_readWhen {l : Launch} {w : q_Wd} {n : Nat} {t : Nat} (ht : q_KD t = .inl 3) {s0 : q_Sto} : q_C l w yX3_readWhen cX3_readWhen 1 (some .boolean) (q_rm 7 162) [q_rf w t] s0 (f_X3_readWhen n t s0) := q_CofG [some (q_rf w t)] (by decide +kernel) rfl rfl (Nat.le_of_ble_eq_true rfl) fun cx hl hc => by
  have hc : q_ok w cx RX3 cX3_readWhen 1 (some .boolean) (q_rm 7 162) := hc
  rw [f_X3_readWhen]
  refine g_rl0 hc dX3_readWhen_0 rfl (pc2 := 1) rfl ?_
  refine g_getR hc fl_X3_42 rfl ht dX3_readWhen_1 (pc2 := 4) rfl ?_
  refine g_ldcS (i := 14) (tx := "when") hc (by decide +kernel) dX3_readWhen_4 (pc2 := 6) rfl ?_
  refine g_callV1 hc (C_X8_isWord (kf_3_0 ht) (by decide)) mv_X8_isWord ln_X3_60 (kf_3_0 ht) ⟨by decide, by decide⟩ (Nat.le_of_ble_eq_true rfl) dX3_readWhen_6 (pc2 := 9) rfl (fun r2 s1 => ?_)
  refine g_if_ne hc dX3_readWhen_9 (pc1 := 12) (pc2 := 17) rfl rfl (fun _ => ?_) (fun _ => ?_)
  · refine g_rl0 hc dX3_readWhen_12 rfl (pc2 := 13) rfl ?_
    refine g_callV0 hc (C_X3_endLine ht) mv_X3_endLine ln_X3_137 ht ⟨by decide, by decide⟩ (Nat.le_of_ble_eq_true rfl) dX3_readWhen_13 (pc2 := 16) rfl (fun r5 s4 => ?_)
    exact g_zret hc dX3_readWhen_16
  · refine g_rl0 hc dX3_readWhen_17 rfl (pc2 := 18) rfl ?_
    refine g_iconst hc dX3_readWhen_18 ic_1 (pc2 := 19) rfl ?_
    refine g_callV1v hc (C_X3_release ht) mv_X3_release ln_X3_144 ht ⟨by decide, by decide⟩ (Nat.le_of_ble_eq_true rfl) dX3_readWhen_19 (pc2 := 22) rfl (fun s6 => ?_)
    refine g_rl0 hc dX3_readWhen_22 rfl (pc2 := 23) rfl ?_
    refine g_getR hc fl_X3_12 rfl ht dX3_readWhen_23 (pc2 := 26) rfl ?_
    refine g_callV0v hc (C_X2_beginWhen (kf_3_1 ht)) mv_X2_beginWhen ln_X3_153 (kf_3_1 ht) ⟨by decide, by decide⟩ (Nat.le_of_ble_eq_true rfl) dX3_readWhen_26 (pc2 := 29) rfl (fun s8 => ?_)
    refine g_rl0 hc dX3_readWhen_29 rfl (pc2 := 30) rfl ?_
    refine g_getR hc fl_X3_42 rfl ht dX3_readWhen_30 (pc2 := 33) rfl ?_
    refine g_callV0v hc (C_X8_next (kf_3_0 ht)) mv_X8_next ln_X3_75 (kf_3_0 ht) ⟨by decide, by decide⟩ (Nat.le_of_ble_eq_true rfl) dX3_readWhen_33 (pc2 := 36) rfl (fun s10 => ?_)
    refine g_rl0 hc dX3_readWhen_36 rfl (pc2 := 37) rfl ?_
    refine g_iconst hc dX3_readWhen_37 ic_1 (pc2 := 38) rfl ?_
    refine g_putZ (by decide) hc fl_X3_35 rfl ht dX3_readWhen_38 (pc2 := 41) rfl (fun s12 => ?_)
    refine g_rl0 hc dX3_readWhen_41 rfl (pc2 := 42) rfl ?_
    refine g_iconst hc dX3_readWhen_42 ic_1 (pc2 := 43) rfl ?_
    refine g_putI hc fl_X3_32 rfl ht dX3_readWhen_43 (pc2 := 46) rfl (fun s13 => ?_)
    refine g_iconst hc dX3_readWhen_46 ic_1 (pc2 := 47) rfl ?_
    exact g_zret0 (by decide) hc dX3_readWhen_47
set_option maxRecDepth 100000 in
set_option maxHeartbeats 4000000 in
def f_X3_readComparison (n : Nat) (t : Nat) (s0 : q_Sto) : Option (Int32 × q_Sto) :=
  q_call (f_X8_isSign n (q_RF t 0) 60 s0) fun r2 s1 =>
  q_jn (fun (y3 : Int32) (s4 : q_Sto) =>
    if y3 = (-1) then (
    q_call (f_X8_fail n (q_RF t 0) 1 s4) fun r7 s6 =>
    q_rz r7 s6)
    else (
    q_nS1 (q_up s4 t 8 1) fun s8 =>
    q_call (f_X3_join n t y3 0 s8) fun r10 s9 =>
    q_rz r10 s9)) fun j52 =>
  if r2 = 0 then (
  q_call (f_X8_isSign n (q_RF t 0) 61 s1) fun r13 s12 =>
  if r13 = 0 then (
  q_call (f_X8_isSign n (q_RF t 0) 62 s12) fun r16 s15 =>
  if r16 = 0 then (
  j52 (-1) s15)
  else (
  j52 8 s15))
  else (
  j52 7 s12))
  else (
  j52 6 s1)
set_option maxRecDepth 100000 in
set_option maxHeartbeats 4000000 in
theorem C_X3_readComparison {l : Launch} {w : q_Wd} {n : Nat} {t : Nat} (ht : q_KD t = .inl 3) {s0 : q_Sto} : q_C l w yX3_readComparison cX3_readComparison 2 (some .boolean) (q_rm 3 65) [q_rf w t] s0 (f_X3_readComparison n t s0) := q_CofG [some (q_rf w t), none] (by decide +kernel) rfl rfl (Nat.le_of_ble_eq_true rfl) fun cx hl hc => by
  have hc : q_ok w cx RX3 cX3_readComparison 2 (some .boolean) (q_rm 3 65) := hc
  rw [f_X3_readComparison]
  refine g_rl0 hc dX3_readComparison_0 rfl (pc2 := 1) rfl ?_
  refine g_getR hc fl_X3_42 rfl ht dX3_readComparison_1 (pc2 := 4) rfl ?_
  refine g_bipush hc dX3_readComparison_4 bp_60 (pc2 := 6) rfl ?_
  refine g_callV1 hc (C_X8_isSign (kf_3_0 ht)) mv_X8_isSign ln_X3_96 (kf_3_0 ht) ⟨by decide, by decide⟩ (Nat.le_of_ble_eq_true rfl) dX3_readComparison_6 (pc2 := 9) rfl (fun r2 s1 => ?_)
  refine g_jn (P := fun j52 => ∀ (y3 : Int32) (s4 : q_Sto), q_G w cx 2 (some .boolean) 52 [some (q_rf w t), none] [.int y3] s4 (j52 y3 s4)) (fun y3 s4 => ?_) (fun j52 hj52 => ?_)
  · refine g_is1 hc dX3_readComparison_52 (by decide) (L2 := [some (q_rf w t), some (.int y3)]) rfl (pc2 := 53) rfl ?_
    refine g_il1 hc dX3_readComparison_53 rfl (pc2 := 54) rfl ?_
    refine g_iconst hc dX3_readComparison_54 ic_m1 (pc2 := 55) rfl ?_
    refine g_icmp_ne hc dX3_readComparison_55 (pc1 := 58) (pc2 := 67) rfl rfl (fun _ => ?_) (fun _ => ?_)
    · refine g_rl0 hc dX3_readComparison_58 rfl (pc2 := 59) rfl ?_
      refine g_getR hc fl_X3_42 rfl ht dX3_readComparison_59 (pc2 := 62) rfl ?_
      refine g_iconst hc dX3_readComparison_62 ic_1 (pc2 := 63) rfl ?_
      refine g_callV1 hc (C_X8_fail (kf_3_0 ht)) mv_X8_fail ln_X3_68 (kf_3_0 ht) ⟨by decide, by decide⟩ (Nat.le_of_ble_eq_true rfl) dX3_readComparison_63 (pc2 := 66) rfl (fun r7 s6 => ?_)
      exact g_zret hc dX3_readComparison_66
    · refine g_rl0 hc dX3_readComparison_67 rfl (pc2 := 68) rfl ?_
      refine g_iconst hc dX3_readComparison_68 ic_1 (pc2 := 69) rfl ?_
      refine g_putZ (by decide) hc fl_X3_39 rfl ht dX3_readComparison_69 (pc2 := 72) rfl (fun s8 => ?_)
      refine g_rl0 hc dX3_readComparison_72 rfl (pc2 := 73) rfl ?_
      refine g_il1 hc dX3_readComparison_73 rfl (pc2 := 74) rfl ?_
      refine g_iconst hc dX3_readComparison_74 ic_0 (pc2 := 75) rfl ?_
      refine g_callV2 hc (C_X3_join ht) mv_X3_join ln_X3_120 ht ⟨by decide, by decide⟩ (Nat.le_of_ble_eq_true rfl) dX3_readComparison_75 (pc2 := 78) rfl (fun r10 s9 => ?_)
      exact g_zret hc dX3_readComparison_78
  · refine g_if_eq hc dX3_readComparison_9 (pc1 := 17) (pc2 := 12) rfl rfl (fun _ => ?_) (fun _ => ?_)
    · refine g_rl0 hc dX3_readComparison_17 rfl (pc2 := 18) rfl ?_
      refine g_getR hc fl_X3_42 rfl ht dX3_readComparison_18 (pc2 := 21) rfl ?_
      refine g_bipush hc dX3_readComparison_21 bp_61 (pc2 := 23) rfl ?_
      refine g_callV1 hc (C_X8_isSign (kf_3_0 ht)) mv_X8_isSign ln_X3_96 (kf_3_0 ht) ⟨by decide, by decide⟩ (Nat.le_of_ble_eq_true rfl) dX3_readComparison_23 (pc2 := 26) rfl (fun r13 s12 => ?_)
      refine g_if_eq hc dX3_readComparison_26 (pc1 := 34) (pc2 := 29) rfl rfl (fun _ => ?_) (fun _ => ?_)
      · refine g_rl0 hc dX3_readComparison_34 rfl (pc2 := 35) rfl ?_
        refine g_getR hc fl_X3_42 rfl ht dX3_readComparison_35 (pc2 := 38) rfl ?_
        refine g_bipush hc dX3_readComparison_38 bp_62 (pc2 := 40) rfl ?_
        refine g_callV1 hc (C_X8_isSign (kf_3_0 ht)) mv_X8_isSign ln_X3_96 (kf_3_0 ht) ⟨by decide, by decide⟩ (Nat.le_of_ble_eq_true rfl) dX3_readComparison_40 (pc2 := 43) rfl (fun r16 s15 => ?_)
        refine g_if_eq hc dX3_readComparison_43 (pc1 := 51) (pc2 := 46) rfl rfl (fun _ => ?_) (fun _ => ?_)
        · refine g_iconst hc dX3_readComparison_51 ic_m1 (pc2 := 52) rfl ?_
          exact hj52 _ _
        · refine g_bipush hc dX3_readComparison_46 bp_8 (pc2 := 48) rfl ?_
          refine g_goto hc dX3_readComparison_48 (pc2 := 52) rfl ?_
          exact hj52 _ _
      · refine g_bipush hc dX3_readComparison_29 bp_7 (pc2 := 31) rfl ?_
        refine g_goto hc dX3_readComparison_31 (pc2 := 52) rfl ?_
        exact hj52 _ _
    · refine g_bipush hc dX3_readComparison_12 bp_6 (pc2 := 14) rfl ?_
      refine g_goto hc dX3_readComparison_14 (pc2 := 52) rfl ?_
      exact hj52 _ _
set_option maxRecDepth 100000 in
set_option maxHeartbeats 4000000 in
def f_X3_readClosing (n : Nat) (t : Nat) (s0 : q_Sto) : Option (Int32 × q_Sto) :=
  q_call (f_X8_isSign n (q_RF t 0) 41 s0) fun r2 s1 =>
  if r2 = 0 then (
  q_call (f_X8_fail n (q_RF t 0) 1 s1) fun r5 s4 =>
  q_rz r5 s4)
  else (
  q_callv (f_X3_release n t 1 s1) fun s6 =>
  q_nS1 (q_up s6 t 3 (q_mx 0 ((s6 t 3) - 1))) fun s8 =>
  q_nS1 (q_up s8 t 4 ((s8 t 4) - 1)) fun s9 =>
  q_nS1 (q_up s9 t 5 ((s9 t 5) - 1)) fun s10 =>
  q_callv (f_X8_next n (q_RF t 0) s10) fun s11 =>
  q_nS1 (q_up s11 t 6 3) fun s13 =>
  some (1, s13))
set_option maxRecDepth 100000 in
set_option maxHeartbeats 4000000 in
theorem C_X3_readClosing {l : Launch} {w : q_Wd} {n : Nat} {t : Nat} (ht : q_KD t = .inl 3) {s0 : q_Sto} : q_C l w yX3_readClosing cX3_readClosing 1 (some .boolean) (q_rm 2 43) [q_rf w t] s0 (f_X3_readClosing n t s0) := q_CofG [some (q_rf w t)] (by decide +kernel) rfl rfl (Nat.le_of_ble_eq_true rfl) fun cx hl hc => by
  have hc : q_ok w cx RX3 cX3_readClosing 1 (some .boolean) (q_rm 2 43) := hc
  rw [f_X3_readClosing]
  refine g_rl0 hc dX3_readClosing_0 rfl (pc2 := 1) rfl ?_
  refine g_getR hc fl_X3_42 rfl ht dX3_readClosing_1 (pc2 := 4) rfl ?_
  refine g_bipush hc dX3_readClosing_4 bp_41 (pc2 := 6) rfl ?_
  refine g_callV1 hc (C_X8_isSign (kf_3_0 ht)) mv_X8_isSign ln_X3_96 (kf_3_0 ht) ⟨by decide, by decide⟩ (Nat.le_of_ble_eq_true rfl) dX3_readClosing_6 (pc2 := 9) rfl (fun r2 s1 => ?_)
  refine g_if_ne hc dX3_readClosing_9 (pc1 := 12) (pc2 := 21) rfl rfl (fun _ => ?_) (fun _ => ?_)
  · refine g_rl0 hc dX3_readClosing_12 rfl (pc2 := 13) rfl ?_
    refine g_getR hc fl_X3_42 rfl ht dX3_readClosing_13 (pc2 := 16) rfl ?_
    refine g_iconst hc dX3_readClosing_16 ic_1 (pc2 := 17) rfl ?_
    refine g_callV1 hc (C_X8_fail (kf_3_0 ht)) mv_X8_fail ln_X3_68 (kf_3_0 ht) ⟨by decide, by decide⟩ (Nat.le_of_ble_eq_true rfl) dX3_readClosing_17 (pc2 := 20) rfl (fun r5 s4 => ?_)
    exact g_zret hc dX3_readClosing_20
  · refine g_rl0 hc dX3_readClosing_21 rfl (pc2 := 22) rfl ?_
    refine g_iconst hc dX3_readClosing_22 ic_1 (pc2 := 23) rfl ?_
    refine g_callV1v hc (C_X3_release ht) mv_X3_release ln_X3_144 ht ⟨by decide, by decide⟩ (Nat.le_of_ble_eq_true rfl) dX3_readClosing_23 (pc2 := 26) rfl (fun s6 => ?_)
    refine g_rl0 hc dX3_readClosing_26 rfl (pc2 := 27) rfl ?_
    refine g_iconst hc dX3_readClosing_27 ic_0 (pc2 := 28) rfl ?_
    refine g_rl0 hc dX3_readClosing_28 rfl (pc2 := 29) rfl ?_
    refine g_getI hc fl_X3_22 rfl ht dX3_readClosing_29 (pc2 := 32) rfl ?_
    refine g_iconst hc dX3_readClosing_32 ic_1 (pc2 := 33) rfl ?_
    refine g_isub hc dX3_readClosing_33 (pc2 := 34) rfl ?_
    refine g_max hc ln_X3_156 ⟨by decide, by decide⟩ (Nat.le_of_ble_eq_true rfl) dX3_readClosing_34 (pc2 := 37) rfl ?_
    refine g_putI hc fl_X3_22 rfl ht dX3_readClosing_37 (pc2 := 40) rfl (fun s8 => ?_)
    refine g_rl0 hc dX3_readClosing_40 rfl (pc2 := 41) rfl ?_
    refine g_dup hc dX3_readClosing_41 rfl (pc2 := 42) rfl ?_
    refine g_getI hc fl_X3_26 rfl ht dX3_readClosing_42 (pc2 := 45) rfl ?_
    refine g_iconst hc dX3_readClosing_45 ic_1 (pc2 := 46) rfl ?_
    refine g_isub hc dX3_readClosing_46 (pc2 := 47) rfl ?_
    refine g_putI hc fl_X3_26 rfl ht dX3_readClosing_47 (pc2 := 50) rfl (fun s9 => ?_)
    refine g_rl0 hc dX3_readClosing_50 rfl (pc2 := 51) rfl ?_
    refine g_dup hc dX3_readClosing_51 rfl (pc2 := 52) rfl ?_
    refine g_getI hc fl_X3_29 rfl ht dX3_readClosing_52 (pc2 := 55) rfl ?_
    refine g_iconst hc dX3_readClosing_55 ic_1 (pc2 := 56) rfl ?_
    refine g_isub hc dX3_readClosing_56 (pc2 := 57) rfl ?_
    refine g_putI hc fl_X3_29 rfl ht dX3_readClosing_57 (pc2 := 60) rfl (fun s10 => ?_)
    refine g_rl0 hc dX3_readClosing_60 rfl (pc2 := 61) rfl ?_
    refine g_getR hc fl_X3_42 rfl ht dX3_readClosing_61 (pc2 := 64) rfl ?_
    refine g_callV0v hc (C_X8_next (kf_3_0 ht)) mv_X8_next ln_X3_75 (kf_3_0 ht) ⟨by decide, by decide⟩ (Nat.le_of_ble_eq_true rfl) dX3_readClosing_64 (pc2 := 67) rfl (fun s11 => ?_)
    refine g_rl0 hc dX3_readClosing_67 rfl (pc2 := 68) rfl ?_
    refine g_iconst hc dX3_readClosing_68 ic_3 (pc2 := 69) rfl ?_
    refine g_putI hc fl_X3_32 rfl ht dX3_readClosing_69 (pc2 := 72) rfl (fun s13 => ?_)
    refine g_iconst hc dX3_readClosing_72 ic_1 (pc2 := 73) rfl ?_
    exact g_zret0 (by decide) hc dX3_readClosing_73
set_option maxRecDepth 100000 in
set_option maxHeartbeats 4000000 in
def f_X3_readSign (n : Nat) (t : Nat) (s0 : q_Sto) : Option (Int32 × q_Sto) :=
  q_jn (fun  (s1 : q_Sto) =>
    q_call (f_X8_isWord n (q_RF t 0) 15 s1) fun r3 s2 =>
    if r3 = 0 then (
    q_call (f_X8_isWord n (q_RF t 0) 16 s2) fun r6 s5 =>
    if r6 = 0 then (
    if (s5 t 4) ≤ 0 then (
    q_call (f_X3_endLine n t s5) fun r10 s9 =>
    q_rz r10 s9)
    else (
    q_call (f_X3_readClosing n t s5) fun r12 s11 =>
    q_rz r12 s11))
    else (
    q_call (f_X3_join n t 11 1 s5) fun r14 s13 =>
    q_rz r14 s13))
    else (
    q_call (f_X3_join n t 10 1 s2) fun r16 s15 =>
    q_rz r16 s15)) fun j111 =>
  if (s0 t 6) = 2 then (
  q_call (f_X8_isSign n (q_RF t 0) 47 s0) fun r19 s18 =>
  if r19 = 0 then (
  q_call (f_X8_isSign n (q_RF t 0) 42 s18) fun r22 s21 =>
  q_jn (fun (y23 : Int32) (s24 : q_Sto) =>
    if y23 = (-1) then (
    if (s24 t 7) = 0 then (
    q_call (f_X3_readWhen n t s24) fun r28 s27 =>
    q_rz r28 s27)
    else (
    if (s24 t 8) = 0 then (
    q_call (f_X3_readComparison n t s24) fun r31 s30 =>
    q_rz r31 s30)
    else (
    j111 s24)))
    else (
    q_call (f_X3_join n t y23 0 s24) fun r33 s32 =>
    q_rz r33 s32)) fun j74 =>
  if r22 = 0 then (
  q_call (f_X8_isSign n (q_RF t 0) 43 s21) fun r36 s35 =>
  if r36 = 0 then (
  q_call (f_X8_isSign n (q_RF t 0) 45 s35) fun r39 s38 =>
  if r39 = 0 then (
  j74 (-1) s38)
  else (
  j74 5 s38))
  else (
  j74 4 s35))
  else (
  j74 3 s21))
  else (
  q_call (f_X3_readPart n t s18) fun r42 s41 =>
  q_rz r42 s41))
  else (
  j111 s0)
set_option maxRecDepth 100000 in
set_option maxHeartbeats 4000000 in
theorem C_X3_readSign {l : Launch} {w : q_Wd} {n : Nat} {t : Nat} (ht : q_KD t = .inl 3) {s0 : q_Sto} : q_C l w yX3_readSign cX3_readSign 2 (some .boolean) (q_rm 8 182) [q_rf w t] s0 (f_X3_readSign n t s0) := q_CofG [some (q_rf w t), none] (by decide +kernel) rfl rfl (Nat.le_of_ble_eq_true rfl) fun cx hl hc => by
  have hc : q_ok w cx RX3 cX3_readSign 2 (some .boolean) (q_rm 8 182) := hc
  rw [f_X3_readSign]
  refine g_rl0 hc dX3_readSign_0 rfl (pc2 := 1) rfl ?_
  refine g_getI hc fl_X3_32 rfl ht dX3_readSign_1 (pc2 := 4) rfl ?_
  refine g_iconst hc dX3_readSign_4 ic_2 (pc2 := 5) rfl ?_
  refine g_jn (P := fun j111 => ∀  (s1 : q_Sto), q_G w cx 2 (some .boolean) 111 [some (q_rf w t), none] [] s1 (j111 s1)) (fun s1 => ?_) (fun j111 hj111 => ?_)
  · refine g_rl0 hc dX3_readSign_111 rfl (pc2 := 112) rfl ?_
    refine g_getR hc fl_X3_42 rfl ht dX3_readSign_112 (pc2 := 115) rfl ?_
    refine g_ldcS (i := 15) (tx := "and") hc (by decide +kernel) dX3_readSign_115 (pc2 := 117) rfl ?_
    refine g_callV1 hc (C_X8_isWord (kf_3_0 ht) (by decide)) mv_X8_isWord ln_X3_60 (kf_3_0 ht) ⟨by decide, by decide⟩ (Nat.le_of_ble_eq_true rfl) dX3_readSign_117 (pc2 := 120) rfl (fun r3 s2 => ?_)
    refine g_if_eq hc dX3_readSign_120 (pc1 := 131) (pc2 := 123) rfl rfl (fun _ => ?_) (fun _ => ?_)
    · refine g_rl0 hc dX3_readSign_131 rfl (pc2 := 132) rfl ?_
      refine g_getR hc fl_X3_42 rfl ht dX3_readSign_132 (pc2 := 135) rfl ?_
      refine g_ldcS (i := 16) (tx := "or") hc (by decide +kernel) dX3_readSign_135 (pc2 := 137) rfl ?_
      refine g_callV1 hc (C_X8_isWord (kf_3_0 ht) (by decide)) mv_X8_isWord ln_X3_60 (kf_3_0 ht) ⟨by decide, by decide⟩ (Nat.le_of_ble_eq_true rfl) dX3_readSign_137 (pc2 := 140) rfl (fun r6 s5 => ?_)
      refine g_if_eq hc dX3_readSign_140 (pc1 := 151) (pc2 := 143) rfl rfl (fun _ => ?_) (fun _ => ?_)
      · refine g_rl0 hc dX3_readSign_151 rfl (pc2 := 152) rfl ?_
        refine g_getI hc fl_X3_26 rfl ht dX3_readSign_152 (pc2 := 155) rfl ?_
        refine g_if_le hc dX3_readSign_155 (pc1 := 163) (pc2 := 158) rfl rfl (fun _ => ?_) (fun _ => ?_)
        · refine g_rl0 hc dX3_readSign_163 rfl (pc2 := 164) rfl ?_
          refine g_callV0 hc (C_X3_endLine ht) mv_X3_endLine ln_X3_137 ht ⟨by decide, by decide⟩ (Nat.le_of_ble_eq_true rfl) dX3_readSign_164 (pc2 := 167) rfl (fun r10 s9 => ?_)
          exact g_zret hc dX3_readSign_167
        · refine g_rl0 hc dX3_readSign_158 rfl (pc2 := 159) rfl ?_
          refine g_callV0 hc (C_X3_readClosing ht) mv_X3_readClosing ln_X3_134 ht ⟨by decide, by decide⟩ (Nat.le_of_ble_eq_true rfl) dX3_readSign_159 (pc2 := 162) rfl (fun r12 s11 => ?_)
          exact g_zret hc dX3_readSign_162
      · refine g_rl0 hc dX3_readSign_143 rfl (pc2 := 144) rfl ?_
        refine g_bipush hc dX3_readSign_144 bp_11 (pc2 := 146) rfl ?_
        refine g_iconst hc dX3_readSign_146 ic_1 (pc2 := 147) rfl ?_
        refine g_callV2 hc (C_X3_join ht) mv_X3_join ln_X3_120 ht ⟨by decide, by decide⟩ (Nat.le_of_ble_eq_true rfl) dX3_readSign_147 (pc2 := 150) rfl (fun r14 s13 => ?_)
        exact g_zret hc dX3_readSign_150
    · refine g_rl0 hc dX3_readSign_123 rfl (pc2 := 124) rfl ?_
      refine g_bipush hc dX3_readSign_124 bp_10 (pc2 := 126) rfl ?_
      refine g_iconst hc dX3_readSign_126 ic_1 (pc2 := 127) rfl ?_
      refine g_callV2 hc (C_X3_join ht) mv_X3_join ln_X3_120 ht ⟨by decide, by decide⟩ (Nat.le_of_ble_eq_true rfl) dX3_readSign_127 (pc2 := 130) rfl (fun r16 s15 => ?_)
      exact g_zret hc dX3_readSign_130
  · refine g_icmp_ne hc dX3_readSign_5 (pc1 := 8) (pc2 := 111) rfl rfl (fun _ => ?_) (fun _ => ?_)
    · refine g_rl0 hc dX3_readSign_8 rfl (pc2 := 9) rfl ?_
      refine g_getR hc fl_X3_42 rfl ht dX3_readSign_9 (pc2 := 12) rfl ?_
      refine g_bipush hc dX3_readSign_12 bp_47 (pc2 := 14) rfl ?_
      refine g_callV1 hc (C_X8_isSign (kf_3_0 ht)) mv_X8_isSign ln_X3_96 (kf_3_0 ht) ⟨by decide, by decide⟩ (Nat.le_of_ble_eq_true rfl) dX3_readSign_14 (pc2 := 17) rfl (fun r19 s18 => ?_)
      refine g_if_eq hc dX3_readSign_17 (pc1 := 25) (pc2 := 20) rfl rfl (fun _ => ?_) (fun _ => ?_)
      · refine g_rl0 hc dX3_readSign_25 rfl (pc2 := 26) rfl ?_
        refine g_getR hc fl_X3_42 rfl ht dX3_readSign_26 (pc2 := 29) rfl ?_
        refine g_bipush hc dX3_readSign_29 bp_42 (pc2 := 31) rfl ?_
        refine g_callV1 hc (C_X8_isSign (kf_3_0 ht)) mv_X8_isSign ln_X3_96 (kf_3_0 ht) ⟨by decide, by decide⟩ (Nat.le_of_ble_eq_true rfl) dX3_readSign_31 (pc2 := 34) rfl (fun r22 s21 => ?_)
        refine g_jn (P := fun j74 => ∀ (y23 : Int32) (s24 : q_Sto), q_G w cx 2 (some .boolean) 74 [some (q_rf w t), none] [.int y23] s24 (j74 y23 s24)) (fun y23 s24 => ?_) (fun j74 hj74 => ?_)
        · refine g_is1 hc dX3_readSign_74 (by decide) (L2 := [some (q_rf w t), some (.int y23)]) rfl (pc2 := 75) rfl ?_
          refine g_il1 hc dX3_readSign_75 rfl (pc2 := 76) rfl ?_
          refine g_iconst hc dX3_readSign_76 ic_m1 (pc2 := 77) rfl ?_
          refine g_icmp_eq hc dX3_readSign_77 (pc1 := 87) (pc2 := 80) rfl rfl (fun _ => ?_) (fun _ => ?_)
          · refine g_rl0 hc dX3_readSign_87 rfl (pc2 := 88) rfl ?_
            refine g_getI hc fl_X3_35 rfl ht dX3_readSign_88 (pc2 := 91) rfl ?_
            refine g_if_ne hc dX3_readSign_91 (pc1 := 94) (pc2 := 99) rfl rfl (fun _ => ?_) (fun _ => ?_)
            · refine g_rl0 hc dX3_readSign_94 rfl (pc2 := 95) rfl ?_
              refine g_callV0 hc (C_X3_readWhen ht) mv_X3_readWhen ln_X3_124 ht ⟨by decide, by decide⟩ (Nat.le_of_ble_eq_true rfl) dX3_readSign_95 (pc2 := 98) rfl (fun r28 s27 => ?_)
              exact g_zret hc dX3_readSign_98
            · refine g_rl0 hc dX3_readSign_99 rfl (pc2 := 100) rfl ?_
              refine g_getI hc fl_X3_39 rfl ht dX3_readSign_100 (pc2 := 103) rfl ?_
              refine g_if_ne hc dX3_readSign_103 (pc1 := 106) (pc2 := 111) rfl rfl (fun _ => ?_) (fun _ => ?_)
              · refine g_rl0 hc dX3_readSign_106 rfl (pc2 := 107) rfl ?_
                refine g_callV0 hc (C_X3_readComparison ht) mv_X3_readComparison ln_X3_127 ht ⟨by decide, by decide⟩ (Nat.le_of_ble_eq_true rfl) dX3_readSign_107 (pc2 := 110) rfl (fun r31 s30 => ?_)
                exact g_zret hc dX3_readSign_110
              · refine q_Gmask [true, false] (L2 := [some (q_rf w t), none]) rfl ?_
                exact hj111 _
          · refine g_rl0 hc dX3_readSign_80 rfl (pc2 := 81) rfl ?_
            refine g_il1 hc dX3_readSign_81 rfl (pc2 := 82) rfl ?_
            refine g_iconst hc dX3_readSign_82 ic_0 (pc2 := 83) rfl ?_
            refine g_callV2 hc (C_X3_join ht) mv_X3_join ln_X3_120 ht ⟨by decide, by decide⟩ (Nat.le_of_ble_eq_true rfl) dX3_readSign_83 (pc2 := 86) rfl (fun r33 s32 => ?_)
            exact g_zret hc dX3_readSign_86
        · refine g_if_eq hc dX3_readSign_34 (pc1 := 41) (pc2 := 37) rfl rfl (fun _ => ?_) (fun _ => ?_)
          · refine g_rl0 hc dX3_readSign_41 rfl (pc2 := 42) rfl ?_
            refine g_getR hc fl_X3_42 rfl ht dX3_readSign_42 (pc2 := 45) rfl ?_
            refine g_bipush hc dX3_readSign_45 bp_43 (pc2 := 47) rfl ?_
            refine g_callV1 hc (C_X8_isSign (kf_3_0 ht)) mv_X8_isSign ln_X3_96 (kf_3_0 ht) ⟨by decide, by decide⟩ (Nat.le_of_ble_eq_true rfl) dX3_readSign_47 (pc2 := 50) rfl (fun r36 s35 => ?_)
            refine g_if_eq hc dX3_readSign_50 (pc1 := 57) (pc2 := 53) rfl rfl (fun _ => ?_) (fun _ => ?_)
            · refine g_rl0 hc dX3_readSign_57 rfl (pc2 := 58) rfl ?_
              refine g_getR hc fl_X3_42 rfl ht dX3_readSign_58 (pc2 := 61) rfl ?_
              refine g_bipush hc dX3_readSign_61 bp_45 (pc2 := 63) rfl ?_
              refine g_callV1 hc (C_X8_isSign (kf_3_0 ht)) mv_X8_isSign ln_X3_96 (kf_3_0 ht) ⟨by decide, by decide⟩ (Nat.le_of_ble_eq_true rfl) dX3_readSign_63 (pc2 := 66) rfl (fun r39 s38 => ?_)
              refine g_if_eq hc dX3_readSign_66 (pc1 := 73) (pc2 := 69) rfl rfl (fun _ => ?_) (fun _ => ?_)
              · refine g_iconst hc dX3_readSign_73 ic_m1 (pc2 := 74) rfl ?_
                exact hj74 _ _
              · refine g_iconst hc dX3_readSign_69 ic_5 (pc2 := 70) rfl ?_
                refine g_goto hc dX3_readSign_70 (pc2 := 74) rfl ?_
                exact hj74 _ _
            · refine g_iconst hc dX3_readSign_53 ic_4 (pc2 := 54) rfl ?_
              refine g_goto hc dX3_readSign_54 (pc2 := 74) rfl ?_
              exact hj74 _ _
          · refine g_iconst hc dX3_readSign_37 ic_3 (pc2 := 38) rfl ?_
            refine g_goto hc dX3_readSign_38 (pc2 := 74) rfl ?_
            exact hj74 _ _
      · refine g_rl0 hc dX3_readSign_20 rfl (pc2 := 21) rfl ?_
        refine g_callV0 hc (C_X3_readPart ht) mv_X3_readPart ln_X3_117 ht ⟨by decide, by decide⟩ (Nat.le_of_ble_eq_true rfl) dX3_readSign_21 (pc2 := 24) rfl (fun r42 s41 => ?_)
        exact g_zret hc dX3_readSign_24
    · exact hj111 _
