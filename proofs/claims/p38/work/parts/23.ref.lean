/-! a ghost: functions that p38 knows no bytecode of; they are a mathematical companion of the class (wip/p38/genref.py) -/
def q_RGl : List (List Nat) := [[1, 31, 0, 61, 117, 126, 132, 135, 142, 144, 154], [2, 11, 19, 21, 23, 25, 27, 29, 30], [3, 4, 5, 6, 7, 8, 9, 10, 0, 0, 0, 0, 0, 0, 0, 0, 0, 0], [], [], [], [], [], [], [], [], [12, 13, 14, 15, 16, 17, 18, 0, 0], [], [], [], [], [], [], [], [20, 0, 0], [], [22, 0, 0], [], [24, 0, 0], [], [26, 0, 0], [], [28, 0, 0], [], [], [], [32, 41, 49, 51, 53, 55, 57, 59, 60], [33, 34, 35, 36, 37, 38, 39, 40, 0, 0, 0, 0, 0, 0, 0, 0, 0, 0], [], [], [], [], [], [], [], [], [42, 43, 44, 45, 46, 47, 48, 0, 0], [], [], [], [], [], [], [], [50, 0, 0], [], [52, 0, 0], [], [54, 0, 0], [], [56, 0, 0], [], [58, 0, 0], [], [], [], [62, 0], [], [64, 65, 66, 67, 68, 69, 70, 71, 0, 0, 0, 0, 0, 0, 0, 0, 0, 0], [], [], [], [], [], [], [], [], [73, 74, 75, 76, 77, 78, 79, 80, 0, 0, 0, 0, 0, 0, 0, 0, 0, 0], [], [], [], [], [], [], [], [], [82, 83, 84, 85, 86, 87, 88, 89, 0, 0, 0, 0, 0, 0, 0, 0, 0, 0], [], [], [], [], [], [], [], [], [91, 92, 93, 94, 95, 96, 97, 98, 0, 0, 0, 0, 0, 0, 0, 0, 0, 0], [], [], [], [], [], [], [], [], [100, 101, 102, 103, 104, 105, 106, 107, 0, 0, 0, 0, 0, 0, 0, 0, 0, 0], [], [], [], [], [], [], [], [], [109, 110, 111, 112, 113, 114, 115, 116, 0, 0, 0, 0, 0, 0, 0, 0, 0, 0], [], [], [], [], [], [], [], [], [118, 119, 120, 121, 122, 123, 124, 125, 0, 0, 0, 0, 0, 0, 0, 0, 0, 0], [], [], [], [], [], [], [], [], [127, 128, 129, 130, 131, 0, 0, 0, 0], [], [], [], [], [], [133, 134], [], [], [136, 137, 138, 139, 140, 141], [], [], [], [], [], [], [143, 0, 0, 0, 0, 0, 0, 0], [], [142, 145, 153, 0, 0, 0, 0, 0, 0], [146, 147, 148, 149, 150, 151, 152, 0, 0], [], [], [], [], [], [], [], [], [142, 155], [156, 0, 0], [], [158, 159, 160, 161, 0, 0, 162, 163, 164, 165, 166, 167, 0, 0, 0, 0, 0, 0, 0, 0, 0, 0, 0, 0, 0, 0, 0, 168, 169, 170, 171], [], [], [], [], [], [], [], [], [], [], [], [], [], []]
def q_RG (o k : Nat) : Nat := (q_RGl.getD o []).getD k 0
set_option maxRecDepth 100000 in
set_option maxHeartbeats 4000000 in
def f_X12_lay (n : Nat) (t : Nat) (a0 : Int32) (a1 : Int32) (s0 : q_Sto) : Option (Int32 × q_Sto) :=
  q_st s0 (q_RG t 7) (2 * (s0 t 14)) 820 a0 fun s1 =>
  q_st s1 (q_RG t 7) ((2 * (s1 t 14)) + 1) 820 a1 fun s2 =>
  q_nS1 (q_up s2 t 14 ((s2 t 14) + 1)) fun s3 =>
  some (0, s3)
set_option maxRecDepth 100000 in
set_option maxHeartbeats 4000000 in
def f_X12_bad (n : Nat) (t : Nat) (a0 : Int32) (s0 : q_Sto) : Option (Int32 × q_Sto) :=
  q_nS1 (q_up s0 t 21 a0) fun s1 =>
  q_nS1 (q_up s1 t 22 (s1 t 19)) fun s2 =>
  some (0, s2)
set_option maxRecDepth 100000 in
set_option maxHeartbeats 4000000 in
def f_X12_see (n : Nat) (t : Nat) (a0 : Int32) (s0 : q_Sto) : Option (Int32 × q_Sto) :=
  if a0 < (s0 t 16) then (
  q_ld s0 (q_RG t 9) a0 400 fun v2 =>
  some (v2, s0))
  else (
  some ((-1), s0))
set_option maxRecDepth 100000 in
set_option maxHeartbeats 4000000 in
def f_X12_isIn (n : Nat) (a0 : Int32) (a1 : Int32) (a2 : Int32) (s0 : q_Sto) : Option (Int32 × q_Sto) :=
  if a0 < a1 then (
  some (0, s0))
  else (
  if a0 ≤ a2 then (
  some (1, s0))
  else (
  some (0, s0)))
set_option maxRecDepth 100000 in
set_option maxHeartbeats 4000000 in
def f_X12_isLetter (n : Nat) (a0 : Int32) (s0 : q_Sto) : Option (Int32 × q_Sto) :=
  q_call (f_X12_isIn n a0 97 122 s0) fun r2 s1 =>
  if r2 = 0 then (
  q_call (f_X12_isIn n a0 65 90 s1) fun r5 s4 =>
  if r5 = 0 then (
  some (0, s4))
  else (
  some (1, s4)))
  else (
  some (1, s1))
set_option maxRecDepth 100000 in
set_option maxHeartbeats 4000000 in
def f_X12_is_L24 (n : Nat) (x0 : Nat) (x1 : Nat) : Nat → Int32 → Int32 → q_Sto → Option (Int32 × q_Sto)
  | 0, _, _, _ => none
  | j + 1, x2, x3, s0 =>
    if x3 < (q_slen x1) then (
    if x2 = 0 then (
    q_rz x2 s0)
    else (
    q_ld s0 (q_RG x0 9) ((s0 x0 19) + x3) 400 fun v4 =>
    q_scat x1 x3 fun v5 =>
    if v4 = v5 then (
    f_X12_is_L24 n x0 x1  j 1 (x3 + 1) s0)
    else (
    f_X12_is_L24 n x0 x1  j 0 (x3 + 1) s0)))
    else (
    q_rz x2 s0)
set_option maxRecDepth 100000 in
set_option maxHeartbeats 4000000 in
def f_X12_is (n : Nat) (t : Nat) (a0 : Nat) (s0 : q_Sto) : Option (Int32 × q_Sto) :=
  if ((s0 t 17) - (s0 t 19)) = (q_slen a0) then (
  f_X12_is_L24 n t a0  n 1 0 s0)
  else (
  f_X12_is_L24 n t a0  n 0 0 s0)
set_option maxRecDepth 100000 in
set_option maxHeartbeats 4000000 in
def f_X12_asked (n : Nat) (t : Nat) (s0 : q_Sto) : Option (Int32 × q_Sto) :=
  q_call (f_X12_is n t 37 s0) fun r2 s1 =>
  if r2 = 0 then (
  q_call (f_X12_is n t 38 s1) fun r5 s4 =>
  if r5 = 0 then (
  q_call (f_X12_is n t 39 s4) fun r8 s7 =>
  if r8 = 0 then (
  q_call (f_X12_is n t 40 s7) fun r11 s10 =>
  if r11 = 0 then (
  q_call (f_X12_is n t 41 s10) fun r14 s13 =>
  if r14 = 0 then (
  q_call (f_X12_is n t 42 s13) fun r17 s16 =>
  if r17 = 0 then (
  q_call (f_X12_is n t 43 s16) fun r20 s19 =>
  if r20 = 0 then (
  q_call (f_X12_is n t 44 s19) fun r23 s22 =>
  if r23 = 0 then (
  q_call (f_X12_is n t 45 s22) fun r26 s25 =>
  if r26 = 0 then (
  q_call (f_X12_is n t 46 s25) fun r29 s28 =>
  if r29 = 0 then (
  some (1, s28))
  else (
  some (50, s28)))
  else (
  some (49, s25)))
  else (
  some (48, s22)))
  else (
  some (47, s19)))
  else (
  some (46, s16)))
  else (
  some (45, s13)))
  else (
  some (44, s10)))
  else (
  some (43, s7)))
  else (
  some (42, s4)))
  else (
  some (41, s1))
set_option maxRecDepth 100000 in
set_option maxHeartbeats 4000000 in
def f_X12_lawWord (n : Nat) (t : Nat) (s0 : q_Sto) : Option (Int32 × q_Sto) :=
  q_call (f_X12_is n t 30 s0) fun r2 s1 =>
  if r2 = 0 then (
  q_call (f_X12_is n t 31 s1) fun r5 s4 =>
  if r5 = 0 then (
  q_call (f_X12_is n t 32 s4) fun r8 s7 =>
  if r8 = 0 then (
  q_call (f_X12_is n t 33 s7) fun r11 s10 =>
  if r11 = 0 then (
  q_call (f_X12_is n t 34 s10) fun r14 s13 =>
  if r14 = 0 then (
  q_call (f_X12_is n t 35 s13) fun r17 s16 =>
  if r17 = 0 then (
  q_call (f_X12_is n t 36 s16) fun r20 s19 =>
  if r20 = 0 then (
  q_call (f_X12_asked n t s19) fun r23 s22 =>
  some (r23, s22))
  else (
  some (22, s19)))
  else (
  some (21, s16)))
  else (
  some (20, s13)))
  else (
  some (6, s10)))
  else (
  some (5, s7)))
  else (
  some (4, s4)))
  else (
  some (3, s1))
set_option maxRecDepth 100000 in
set_option maxHeartbeats 4000000 in
def f_X12_heedWord (n : Nat) (t : Nat) (s0 : q_Sto) : Option (Int32 × q_Sto) :=
  q_call (f_X12_is n t 37 s0) fun r2 s1 =>
  if r2 = 0 then (
  q_call (f_X12_is n t 47 s1) fun r5 s4 =>
  if r5 = 0 then (
  q_call (f_X12_is n t 32 s4) fun r8 s7 =>
  if r8 = 0 then (
  some (1, s7))
  else (
  some (5, s7)))
  else (
  some (8, s4)))
  else (
  some (7, s1))
set_option maxRecDepth 100000 in
set_option maxHeartbeats 4000000 in
def f_X12_planWord (n : Nat) (t : Nat) (s0 : q_Sto) : Option (Int32 × q_Sto) :=
  q_call (f_X12_is n t 48 s0) fun r2 s1 =>
  if r2 = 0 then (
  q_call (f_X12_is n t 49 s1) fun r5 s4 =>
  if r5 = 0 then (
  q_call (f_X12_is n t 50 s4) fun r8 s7 =>
  if r8 = 0 then (
  q_call (f_X12_is n t 51 s7) fun r11 s10 =>
  if r11 = 0 then (
  q_call (f_X12_is n t 52 s10) fun r14 s13 =>
  if r14 = 0 then (
  q_call (f_X12_is n t 53 s13) fun r17 s16 =>
  if r17 = 0 then (
  some (1, s16))
  else (
  some (14, s16)))
  else (
  some (13, s13)))
  else (
  some (12, s10)))
  else (
  some (11, s7)))
  else (
  some (10, s4)))
  else (
  some (9, s1))
set_option maxRecDepth 100000 in
set_option maxHeartbeats 4000000 in
def f_X12_word (n : Nat) (t : Nat) (s0 : q_Sto) : Option (Int32 × q_Sto) :=
  if (s0 t 12) = 0 then (
  q_call (f_X12_lawWord n t s0) fun r3 s2 =>
  some (r3, s2))
  else
  if (s0 t 12) = 1 then (
  q_call (f_X12_heedWord n t s0) fun r6 s5 =>
  some (r6, s5))
  else
  if (s0 t 12) = 2 then (
  q_call (f_X12_planWord n t s0) fun r9 s8 =>
  some (r9, s8))
  else
  if (s0 t 12) = 3 then (
  q_call (f_X12_is n t 54 s0) fun r12 s11 =>
  if r12 = 0 then (
  q_call (f_X12_is n t 45 s11) fun r15 s14 =>
  if r15 = 0 then (
  some (1, s14))
  else (
  some (16, s14)))
  else (
  some (15, s11)))
  else
  (q_call (f_X12_is n t 55 s0) fun r18 s17 =>
  if r18 = 0 then (
  q_call (f_X12_is n t 56 s17) fun r21 s20 =>
  if r21 = 0 then (
  some (1, s20))
  else (
  some (18, s20)))
  else (
  some (17, s17)))
set_option maxRecDepth 100000 in
set_option maxHeartbeats 4000000 in
def f_X12_isDigit (n : Nat) (a0 : Int32) (s0 : q_Sto) : Option (Int32 × q_Sto) :=
  q_call (f_X12_isIn n a0 48 57 s0) fun r2 s1 =>
  q_rz r2 s1
set_option maxRecDepth 100000 in
set_option maxHeartbeats 4000000 in
def f_X12_next0_L0 (n : Nat) (x0 : Nat) (k39 : q_Sto → Option (Int32 × q_Sto)) : Nat → q_Sto → Option (Int32 × q_Sto)
  | 0, _ => none
  | j + 1, s0 =>
    q_call (f_X12_see n x0 (s0 x0 17) s0) fun r2 s1 =>
    if r2 = 32 then (
    q_nS1 (q_up s1 x0 17 ((s1 x0 17) + 1)) fun s4 =>
    f_X12_next0_L0 n x0 k39 j  s4)
    else (
    q_call (f_X12_see n x0 (s1 x0 17) s1) fun r6 s5 =>
    if r6 = 10 then (
    q_nS1 (q_up s5 x0 17 ((s5 x0 17) + 1)) fun s8 =>
    f_X12_next0_L0 n x0 k39 j  s8)
    else (
    k39 s5))
set_option maxRecDepth 100000 in
set_option maxHeartbeats 4000000 in
def f_X12_next0_L126 (n : Nat) (x0 : Nat) (k189 : q_Sto → Option (Int32 × q_Sto)) : Nat → q_Sto → Option (Int32 × q_Sto)
  | 0, _ => none
  | j + 1, s0 =>
    q_call (f_X12_see n x0 (s0 x0 17) s0) fun r43 s42 =>
    q_call (f_X12_isDigit n r43 s42) fun r45 s44 =>
    if r45 = 0 then (
    k189 s44)
    else (
    if (s44 x0 17) < ((s44 x0 19) + 4) then (
    q_call (f_X12_see n x0 (s44 x0 17) s44) fun r49 s48 =>
    q_nS1 (q_up s48 x0 20 (((10 * (s44 x0 20)) + r49) - 48)) fun s50 =>
    q_nS1 (q_up s50 x0 17 ((s50 x0 17) + 1)) fun s51 =>
    f_X12_next0_L126 n x0 k189 j  s51)
    else (
    q_nS1 (q_up s44 x0 17 ((s44 x0 17) + 1)) fun s52 =>
    f_X12_next0_L126 n x0 k189 j  s52))
set_option maxRecDepth 100000 in
set_option maxHeartbeats 4000000 in
def f_X12_next0_L76 (n : Nat) (x0 : Nat) (k103 : q_Sto → Option (Int32 × q_Sto)) : Nat → q_Sto → Option (Int32 × q_Sto)
  | 0, _ => none
  | j + 1, s0 =>
    q_call (f_X12_see n x0 (s0 x0 17) s0) fun r58 s57 =>
    q_call (f_X12_isLetter n r58 s57) fun r60 s59 =>
    if r60 = 0 then (
    k103 s59)
    else (
    q_nS1 (q_up s59 x0 17 ((s59 x0 17) + 1)) fun s62 =>
    f_X12_next0_L76 n x0 k103 j  s62)
set_option maxRecDepth 100000 in
set_option maxHeartbeats 4000000 in
def f_X12_next0 (n : Nat) (t : Nat) (s0 : q_Sto) : Option (Int32 × q_Sto) :=
  f_X12_next0_L0 n t (fun  (s9 : q_Sto) =>
  q_nS1 (q_up s9 t 19 (s9 t 17)) fun s10 =>
  q_call (f_X12_see n t (s10 t 17) s10) fun r12 s11 =>
  if r12 = (-1) then (
  q_nS1 (q_up s11 t 18 0) fun s14 =>
  some (0, s14))
  else (
  q_call (f_X12_isLetter n r12 s11) fun r16 s15 =>
  if r16 = 0 then (
  q_call (f_X12_isDigit n r12 s15) fun r19 s18 =>
  if r19 = 0 then (
  q_nS1 (q_up s18 t 17 ((s18 t 17) + 1)) fun s21 =>
  q_jn (fun  (s22 : q_Sto) =>
    if (1 : Int32) = 0 then (
    q_nS1 (q_up s22 t 18 1) fun s24 =>
    some (0, s24))
    else (
    q_nS1 (q_up s22 t 18 (100 + r12)) fun s25 =>
    some (0, s25))) fun j284 =>
  q_jn (fun (y26 : Int32) (s27 : q_Sto) =>
    if y26 = 0 then (
    q_nS1 (q_up s27 t 18 1) fun s29 =>
    some (0, s29))
    else (
    q_nS1 (q_up s27 t 18 (100 + r12)) fun s30 =>
    some (0, s30))) fun j289 =>
  if r12 = 59 then (
  j284 s21)
  else (
  if r12 = 43 then (
  j284 s21)
  else (
  if r12 = 45 then (
  j284 s21)
  else (
  if r12 = 42 then (
  j284 s21)
  else (
  if r12 = 47 then (
  j284 s21)
  else (
  if r12 = 40 then (
  j284 s21)
  else (
  if r12 = 41 then (
  j284 s21)
  else (
  if r12 = 60 then (
  j284 s21)
  else (
  if r12 = 61 then (
  j284 s21)
  else (
  if r12 = 62 then (
  j284 s21)
  else (
  j289 0 s21)))))))))))
  else (
  q_nS1 (q_up s18 t 20 0) fun s41 =>
  f_X12_next0_L126 n t (fun  (s53 : q_Sto) =>
  if ((s53 t 17) - (s53 t 19)) < 5 then (
  q_nS1 (q_up s53 t 18 2) fun s55 =>
  some (0, s55))
  else (
  q_nS1 (q_up s53 t 18 1) fun s56 =>
  some (0, s56))) n  s41))
  else (
  f_X12_next0_L76 n t (fun  (s63 : q_Sto) =>
  q_call (f_X12_word n t s63) fun r65 s64 =>
  q_nS1 (q_up s64 t 18 r65) fun s66 =>
  some (0, s66)) n  s15))) n  s0
set_option maxRecDepth 100000 in
set_option maxHeartbeats 4000000 in
def f_X12_opens (n : Nat) (t : Nat) (s0 : q_Sto) : Option (Int32 × q_Sto) :=
  if (s0 t 24) = 8 then (
  q_call (f_X12_bad n t 3 s0) fun r3 s2 =>
  q_rz r3 s2)
  else (
  q_nS1 (q_up s0 t 24 ((s0 t 24) + 1)) fun s4 =>
  q_callv (f_X12_next0 n t s4) fun s5 =>
  some (1, s5))
set_option maxRecDepth 100000 in
set_option maxHeartbeats 4000000 in
def f_X12_unit (n : Nat) (t : Nat) (s0 : q_Sto) : Option (Int32 × q_Sto) :=
  q_call (f_X12_isIn n (s0 t 18) 41 50 s0) fun r2 s1 =>
  q_jn (fun  (s3 : q_Sto) =>
    if r2 = 0 then (
    q_callv (f_X12_lay n t 0 (s3 t 20) s3) fun s5 =>
    q_callv (f_X12_next0 n t s5) fun s7 =>
    some (1, s7))
    else (
    q_callv (f_X12_lay n t ((s3 t 18) - 40) (s3 t 20) s3) fun s9 =>
    q_callv (f_X12_next0 n t s9) fun s11 =>
    some (1, s11))) fun j30 =>
  if (s1 t 18) = 2 then (
  j30 s1)
  else (
  if r2 = 0 then (
  q_call (f_X12_bad n t 1 s1) fun r16 s15 =>
  q_rz r16 s15)
  else (
  j30 s1))
set_option maxRecDepth 100000 in
set_option maxHeartbeats 4000000 in
def f_X12_product_L9 (n : Nat) (x0 : Nat) : Nat → q_Sto → Option (Int32 × q_Sto)
  | 0, _ => none
  | j + 1, s0 =>
    q_jn (fun  (s4 : q_Sto) =>
      q_jn (fun (y5 : Int32) (s6 : q_Sto) =>
        q_callv (f_X12_next0 n x0 s6) fun s7 =>
        if y5 = 0 then (
        q_call (f_X12_unit n x0 s7) fun r11 s10 =>
        if r11 = 0 then (
        some (0, s10))
        else (
        q_callv (f_X12_lay n x0 25 0 s10) fun s13 =>
        f_X12_product_L9 n x0  j  s13))
        else (
        q_nm (s7 x0 20) fun v15 =>
        if (s7 x0 18) = 2 then (
        if v15 = 0 then (
        q_call (f_X12_bad n x0 2 s7) fun r19 s18 =>
        q_rz r19 s18)
        else (
        q_callv (f_X12_next0 n x0 s7) fun s20 =>
        q_callv (f_X12_lay n x0 26 v15 s20) fun s22 =>
        f_X12_product_L9 n x0  j  s22))
        else (
        q_call (f_X12_bad n x0 1 s7) fun r25 s24 =>
        q_rz r25 s24))) fun j44 =>
      if (s4 x0 18) = 147 then (
      j44 1 s4)
      else (
      j44 0 s4)) fun j29 =>
    if (s0 x0 18) = 142 then (
    j29 s0)
    else (
    if (s0 x0 18) = 147 then (
    j29 s0)
    else (
    some (1, s0)))
set_option maxRecDepth 100000 in
set_option maxHeartbeats 4000000 in
def f_X12_product (n : Nat) (t : Nat) (s0 : q_Sto) : Option (Int32 × q_Sto) :=
  q_call (f_X12_unit n t s0) fun r2 s1 =>
  if r2 = 0 then (
  some (0, s1))
  else (
  f_X12_product_L9 n t  n  s1)
set_option maxRecDepth 100000 in
set_option maxHeartbeats 4000000 in
def f_X12_sumUp_L9 (n : Nat) (x0 : Nat) : Nat → q_Sto → Option (Int32 × q_Sto)
  | 0, _ => none
  | j + 1, s0 =>
    q_jn (fun  (s4 : q_Sto) =>
      q_jn (fun (y5 : Int32) (s6 : q_Sto) =>
        q_callv (f_X12_next0 n x0 s6) fun s7 =>
        q_call (f_X12_product n x0 s7) fun r10 s9 =>
        if r10 = 0 then (
        some (0, s9))
        else (
        q_callv (f_X12_lay n x0 y5 0 s9) fun s12 =>
        f_X12_sumUp_L9 n x0  j  s12)) fun j46 =>
      if (s4 x0 18) = 143 then (
      j46 23 s4)
      else (
      j46 24 s4)) fun j29 =>
    if (s0 x0 18) = 143 then (
    j29 s0)
    else (
    if (s0 x0 18) = 145 then (
    j29 s0)
    else (
    some (1, s0)))
set_option maxRecDepth 100000 in
set_option maxHeartbeats 4000000 in
def f_X12_sumUp (n : Nat) (t : Nat) (s0 : q_Sto) : Option (Int32 × q_Sto) :=
  q_call (f_X12_product n t s0) fun r2 s1 =>
  if r2 = 0 then (
  some (0, s1))
  else (
  f_X12_sumUp_L9 n t  n  s1)
set_option maxRecDepth 100000 in
set_option maxHeartbeats 4000000 in
def f_X12_need (n : Nat) (t : Nat) (a0 : Int32) (s0 : q_Sto) : Option (Int32 × q_Sto) :=
  if (s0 t 18) = a0 then (
  q_callv (f_X12_next0 n t s0) fun s2 =>
  some (1, s2))
  else (
  q_call (f_X12_bad n t 1 s0) fun r5 s4 =>
  q_rz r5 s4)
set_option maxRecDepth 100000 in
set_option maxHeartbeats 4000000 in
def f_X12_every_L9 (n : Nat) (ot : q_Sto → Option (Int32 × q_Sto)) (x0 : Nat) : Nat → q_Sto → Option (Int32 × q_Sto)
  | 0, _ => none
  | j + 1, s0 =>
    if (s0 x0 18) = 5 then (
    q_callv (f_X12_next0 n x0 s0) fun s5 =>
    q_call (ot s5) fun r8 s7 =>
    if r8 = 0 then (
    some (0, s7))
    else (
    q_callv (f_X12_lay n x0 31 0 s7) fun s10 =>
    f_X12_every_L9 n ot x0  j  s10))
    else (
    some (1, s0))
set_option maxRecDepth 100000 in
set_option maxHeartbeats 4000000 in
def f_X12_every (n : Nat) (ot : q_Sto → Option (Int32 × q_Sto)) (t : Nat) (s0 : q_Sto) : Option (Int32 × q_Sto) :=
  q_call (ot s0) fun r2 s1 =>
  if r2 = 0 then (
  some (0, s1))
  else (
  f_X12_every_L9 n ot t  n  s1)
set_option maxRecDepth 100000 in
set_option maxHeartbeats 4000000 in
def f_X12_any_L9 (n : Nat) (ot : q_Sto → Option (Int32 × q_Sto)) (x0 : Nat) : Nat → q_Sto → Option (Int32 × q_Sto)
  | 0, _ => none
  | j + 1, s0 =>
    if (s0 x0 18) = 4 then (
    q_callv (f_X12_next0 n x0 s0) fun s5 =>
    q_call (f_X12_every n ot x0 s5) fun r8 s7 =>
    if r8 = 0 then (
    some (0, s7))
    else (
    q_callv (f_X12_lay n x0 32 0 s7) fun s10 =>
    f_X12_any_L9 n ot x0  j  s10))
    else (
    some (1, s0))
set_option maxRecDepth 100000 in
set_option maxHeartbeats 4000000 in
def f_X12_any (n : Nat) (ot : q_Sto → Option (Int32 × q_Sto)) (t : Nat) (s0 : q_Sto) : Option (Int32 × q_Sto) :=
  q_call (f_X12_every n ot t s0) fun r2 s1 =>
  if r2 = 0 then (
  some (0, s1))
  else (
  f_X12_any_L9 n ot t  n  s1)
set_option maxRecDepth 100000 in
set_option maxHeartbeats 4000000 in
def f_X12_oneTest (n : Nat) : Nat → Nat → q_Sto → Option (Int32 × q_Sto)
  | 0, _, _ => none
  | d + 1, t, s0 =>
    if (s0 t 18) = 6 then (
    q_call (f_X12_opens n t s0) fun r3 s2 =>
    if r3 = 0 then (
    some (0, s2))
    else (
    q_call (f_X12_oneTest n d t s2) fun r6 s5 =>
    if r6 = 0 then (
    some (0, s5))
    else (
    q_nS1 (q_up s5 t 24 ((s5 t 24) - 1)) fun s8 =>
    q_callv (f_X12_lay n t 30 0 s8) fun s9 =>
    some (1, s9))))
    else (
    if (s0 t 18) = 140 then (
    q_call (f_X12_opens n t s0) fun r13 s12 =>
    if r13 = 0 then (
    some (0, s12))
    else (
    q_call (f_X12_any n (f_X12_oneTest n d t) t s12) fun r16 s15 =>
    if r16 = 0 then (
    some (0, s15))
    else (
    q_call (f_X12_need n t 141 s15) fun r19 s18 =>
    if r19 = 0 then (
    some (0, s18))
    else (
    q_nS1 (q_up s18 t 24 ((s18 t 24) - 1)) fun s21 =>
    some (1, s21)))))
    else (
    q_call (f_X12_sumUp n t s0) fun r23 s22 =>
    if r23 = 0 then (
    some (0, s22))
    else (
    q_jn (fun (y25 : Int32) (s26 : q_Sto) =>
      if y25 = (-1) then (
      q_call (f_X12_bad n t 1 s26) fun r29 s28 =>
      q_rz r29 s28)
      else (
      q_callv (f_X12_next0 n t s26) fun s30 =>
      q_call (f_X12_sumUp n t s30) fun r33 s32 =>
      if r33 = 0 then (
      some (0, s32))
      else (
      q_callv (f_X12_lay n t y25 0 s32) fun s35 =>
      some (1, s35)))) fun j147 =>
    if (s22 t 18) = 160 then (
    j147 27 s22)
    else (
    if (s22 t 18) = 161 then (
    j147 28 s22)
    else (
    if (s22 t 18) = 162 then (
    j147 29 s22)
    else (
    j147 (-1) s22))))))
set_option maxRecDepth 100000 in
set_option maxHeartbeats 4000000 in
def f_X12_lesser (n : Nat) (a0 : Int32) (a1 : Int32) (s0 : q_Sto) : Option (Int32 × q_Sto) :=
  if a0 < a1 then (
  some (a0, s0))
  else (
  some (a1, s0))
set_option maxRecDepth 100000 in
set_option maxHeartbeats 4000000 in
def f_X12_greater (n : Nat) (a0 : Int32) (a1 : Int32) (s0 : q_Sto) : Option (Int32 × q_Sto) :=
  if a0 ≤ a1 then (
  some (a1, s0))
  else (
  some (a0, s0))
set_option maxRecDepth 100000 in
set_option maxHeartbeats 4000000 in
def f_X12_isMule (n : Nat) (t : Nat) (a0 : Int32) (s0 : q_Sto) : Option (Int32 × q_Sto) :=
  q_ld s0 (q_RG t 0) 86 1790 fun v1 =>
  q_call (f_X12_isIn n a0 0 (v1 - 1) s0) fun r3 s2 =>
  q_rz r3 s2
set_option maxRecDepth 100000 in
set_option maxHeartbeats 4000000 in
def f_X12_isMan (n : Nat) (t : Nat) (a0 : Int32) (s0 : q_Sto) : Option (Int32 × q_Sto) :=
  q_ld s0 (q_RG t 0) 87 1790 fun v1 =>
  q_call (f_X12_isIn n a0 0 (v1 - 1) s0) fun r3 s2 =>
  q_rz r3 s2
set_option maxRecDepth 100000 in
set_option maxHeartbeats 4000000 in
def f_X12_isCamp (n : Nat) (a0 : Int32) (s0 : q_Sto) : Option (Int32 × q_Sto) :=
  q_call (f_X12_isIn n a0 0 9 s0) fun r2 s1 =>
  q_rz r2 s1
set_option maxRecDepth 100000 in
set_option maxHeartbeats 4000000 in
def f_X12_isLame (n : Nat) (t : Nat) (a0 : Int32) (s0 : q_Sto) : Option (Int32 × q_Sto) :=
  q_ld s0 (q_RG t 0) 7 1790 fun v1 =>
  if ((v1 >>> (a0 &&& 31)) &&& 1) = 1 then (
  some (1, s0))
  else (
  some (0, s0))
set_option maxRecDepth 100000 in
set_option maxHeartbeats 4000000 in
def f_X12_likingOf (n : Nat) (t : Nat) (a0 : Int32) (a1 : Int32) (s0 : q_Sto) : Option (Int32 × q_Sto) :=
  q_ld s0 (q_RG t 0) ((20 + (5 * a0)) + a1) 1790 fun v1 =>
  some (v1, s0)
set_option maxRecDepth 100000 in
set_option maxHeartbeats 4000000 in
def f_X12_count_L4 (n : Nat) (x0 : Int32) : Nat → Int32 → Int32 → q_Sto → Option (Int32 × q_Sto)
  | 0, _, _, _ => none
  | j + 1, x1, x2, s0 =>
    if x2 < 12 then (
    q_nm (x1 + ((x0 >>> (x2 &&& 31)) &&& 1)) fun v2 =>
    f_X12_count_L4 n x0  j v2 (x2 + 1) s0)
    else (
    some (x1, s0))
set_option maxRecDepth 100000 in
set_option maxHeartbeats 4000000 in
def f_X12_count (n : Nat) (a0 : Int32) (s0 : q_Sto) : Option (Int32 × q_Sto) :=
  f_X12_count_L4 n a0  n 0 0 s0
set_option maxRecDepth 100000 in
set_option maxHeartbeats 4000000 in
def f_X12_behind_L4 (n : Nat) (x0 : Nat) (x1 : Int32) : Nat → Int32 → Int32 → q_Sto → Option (Int32 × q_Sto)
  | 0, _, _, _ => none
  | j + 1, x2, x3, s0 =>
    q_ld s0 (q_RG x0 0) 86 1790 fun v1 =>
    if x3 < v1 then (
    q_ld s0 (q_RG x0 0) (8 + x3) 1790 fun v3 =>
    if v3 = x1 then (
    q_nm (x2 ||| (1 <<< (x3 &&& 31))) fun v5 =>
    f_X12_behind_L4 n x0 x1  j v5 (x3 + 1) s0)
    else (
    q_nm (x2 ||| 0) fun v6 =>
    f_X12_behind_L4 n x0 x1  j v6 (x3 + 1) s0))
    else (
    some (x2, s0))
set_option maxRecDepth 100000 in
set_option maxHeartbeats 4000000 in
def f_X12_behind (n : Nat) (t : Nat) (a0 : Int32) (s0 : q_Sto) : Option (Int32 × q_Sto) :=
  f_X12_behind_L4 n t a0  n 0 0 s0
set_option maxRecDepth 100000 in
set_option maxHeartbeats 4000000 in
def f_X12_forgets (n : Nat) (t : Nat) (s0 : q_Sto) : Option (Int32 × q_Sto) :=
  q_nS1 (q_up s0 t 4 0) fun s1 =>
  some (0, s1)
set_option maxRecDepth 100000 in
set_option maxHeartbeats 4000000 in
def f_X12_state (n : Nat) (t : Nat) (a0 : Int32) (s0 : q_Sto) : Option (Int32 × q_Sto) :=
  q_ld s0 (q_RG t 0) 5 1790 fun v1 =>
  q_st s0 (q_RG t 0) 5 1790 a0 fun s2 =>
  q_callv (f_X12_forgets n t s2) fun s3 =>
  some (v1, s3)
set_option maxRecDepth 100000 in
set_option maxHeartbeats 4000000 in
def f_X12_draw (n : Nat) (t : Nat) (a0 : Int32) (s0 : q_Sto) : Option (Int32 × q_Sto) :=
  q_ld s0 (q_RG t 0) 5 1790 fun v1 =>
  q_st s0 (q_RG t 0) 5 1790 ((1664525 * v1) + 1013904223) fun s2 =>
  q_ld s2 (q_RG t 0) 5 1790 fun v3 =>
  q_rem (q_ushr v3 8) a0 fun v4 =>
  some (v4, s2)
set_option maxRecDepth 100000 in
set_option maxHeartbeats 4000000 in
def f_X12_mule_L86 (n : Nat) (x0 : Nat) (x3 : Int32) (k114 : q_Sto → Option (Int32 × q_Sto)) : Nat → Int32 → q_Sto → Option (Int32 × q_Sto)
  | 0, _, _ => none
  | j + 1, x4, s0 =>
    if x4 < 5 then (
    q_st s0 (q_RG x0 0) ((20 + (5 * x3)) + x4) 1790 30 fun s15 =>
    f_X12_mule_L86 n x0 x3 k114 j (x4 + 1) s15)
    else (
    k114 s0)
set_option maxRecDepth 100000 in
set_option maxHeartbeats 4000000 in
def f_X12_mule (n : Nat) (t : Nat) (a0 : Int32) (a1 : Int32) (s0 : q_Sto) : Option (Int32 × q_Sto) :=
  q_call (f_X12_isIn n a0 1 40 s0) fun r2 s1 =>
  if r2 = 0 then (
  some ((-1), s1))
  else (
  q_call (f_X12_isIn n a1 0 40 s1) fun r5 s4 =>
  if r5 = 0 then (
  some ((-1), s4))
  else (
  q_ld s4 (q_RG t 0) 86 1790 fun v7 =>
  if v7 = 12 then (
  some ((-1), s4))
  else (
  q_ld s4 (q_RG t 0) 86 1790 fun v9 =>
  q_st s4 (q_RG t 0) (95 + v9) 1790 a0 fun s10 =>
  q_st s10 (q_RG t 0) (107 + v9) 1790 a1 fun s11 =>
  q_st s11 (q_RG t 0) (8 + v9) 1790 (-1) fun s12 =>
  q_st s12 (q_RG t 0) (129 + v9) 1790 0 fun s13 =>
  f_X12_mule_L86 n t v9 (fun  (s16 : q_Sto) =>
  q_ld s16 (q_RG t 0) 86 1790 fun v17 =>
  q_st s16 (q_RG t 0) 86 1790 (v17 + 1) fun s18 =>
  q_callv (f_X12_forgets n t s18) fun s19 =>
  some (v9, s19)) n 0 s13)))
set_option maxRecDepth 100000 in
set_option maxHeartbeats 4000000 in
def f_X12_man_L88 (n : Nat) (x0 : Nat) (x4 : Int32) (k118 : q_Sto → Option (Int32 × q_Sto)) : Nat → Int32 → q_Sto → Option (Int32 × q_Sto)
  | 0, _, _ => none
  | j + 1, x5, s0 =>
    if x5 < 12 then (
    q_st s0 (q_RG x0 0) ((20 + (5 * x5)) + x4) 1790 30 fun s17 =>
    f_X12_man_L88 n x0 x4 k118 j (x5 + 1) s17)
    else (
    k118 s0)
set_option maxRecDepth 100000 in
set_option maxHeartbeats 4000000 in
def f_X12_man (n : Nat) (t : Nat) (a0 : Int32) (a1 : Int32) (a2 : Int32) (s0 : q_Sto) : Option (Int32 × q_Sto) :=
  q_call (f_X12_isIn n a0 0 99 s0) fun r2 s1 =>
  if r2 = 0 then (
  some ((-1), s1))
  else (
  q_call (f_X12_isIn n a1 0 9 s1) fun r5 s4 =>
  if r5 = 0 then (
  some ((-1), s4))
  else (
  q_call (f_X12_isIn n a2 0 9 s4) fun r8 s7 =>
  if r8 = 0 then (
  some ((-1), s7))
  else (
  q_ld s7 (q_RG t 0) 87 1790 fun v10 =>
  if v10 = 5 then (
  some ((-1), s7))
  else (
  q_ld s7 (q_RG t 0) 87 1790 fun v12 =>
  q_st s7 (q_RG t 0) (80 + v12) 1790 a0 fun s13 =>
  q_st s13 (q_RG t 0) (119 + v12) 1790 a1 fun s14 =>
  q_st s14 (q_RG t 0) (124 + v12) 1790 a2 fun s15 =>
  f_X12_man_L88 n t v12 (fun  (s18 : q_Sto) =>
  q_ld s18 (q_RG t 0) 87 1790 fun v19 =>
  q_st s18 (q_RG t 0) 87 1790 (v19 + 1) fun s20 =>
  q_callv (f_X12_forgets n t s20) fun s21 =>
  some (v12, s21)) n 0 s15))))
set_option maxRecDepth 100000 in
set_option maxHeartbeats 4000000 in
def f_X12_canSet (n : Nat) (t : Nat) (a0 : Int32) (a1 : Int32) (a2 : Int32) (s0 : q_Sto) : Option (Int32 × q_Sto) :=
  q_jn (fun  (s1 : q_Sto) =>
    q_call (f_X12_isMan n t a1 s1) fun r3 s2 =>
    if r3 = 0 then (
    some (0, s2))
    else (
    q_call (f_X12_isIn n a2 0 9 s2) fun r6 s5 =>
    if r6 = 0 then (
    some (0, s5))
    else (
    some (1, s5)))) fun j100 =>
  if a0 = 0 then (
  q_call (f_X12_isIn n a2 0 9 s0) fun r10 s9 =>
  q_rz r10 s9)
  else
  if a0 = 1 then (
  q_call (f_X12_isCamp n a2 s0) fun r13 s12 =>
  q_rz r13 s12)
  else
  if a0 = 2 then (
  q_call (f_X12_isMule n t a1 s0) fun r16 s15 =>
  if r16 = 0 then (
  some (0, s15))
  else (
  q_call (f_X12_isIn n a2 0 1 s15) fun r19 s18 =>
  if r19 = 0 then (
  some (0, s18))
  else (
  some (1, s18))))
  else
  if a0 = 3 then (
  q_call (f_X12_isMan n t a1 s0) fun r23 s22 =>
  if r23 = 0 then (
  some (0, s22))
  else (
  q_call (f_X12_isIn n a2 0 99 s22) fun r26 s25 =>
  if r26 = 0 then (
  some (0, s25))
  else (
  some (1, s25))))
  else
  if a0 = 4 then (
  j100 s0)
  else
  if a0 = 5 then (
  j100 s0)
  else
  (some (0, s0))
set_option maxRecDepth 100000 in
set_option maxHeartbeats 4000000 in
def f_X12_set (n : Nat) (t : Nat) (a0 : Int32) (a1 : Int32) (a2 : Int32) (s0 : q_Sto) : Option (Int32 × q_Sto) :=
  q_call (f_X12_canSet n t a0 a1 a2 s0) fun r2 s1 =>
  if r2 = 0 then (
  some (0, s1))
  else (
  if a0 = 0 then (
  q_st s1 (q_RG t 0) 88 1790 a2 fun s5 =>
  q_callv (f_X12_forgets n t s5) fun s6 =>
  some (1, s6))
  else
  if a0 = 1 then (
  q_st s1 (q_RG t 0) 1 1790 a2 fun s9 =>
  q_callv (f_X12_forgets n t s9) fun s10 =>
  some (1, s10))
  else
  if a0 = 2 then (
  q_ld s1 (q_RG t 0) 7 1790 fun v13 =>
  q_st s1 (q_RG t 0) 7 1790 ((v13 &&& ((1 <<< (a1 &&& 31)) ^^^ (-1))) ||| (a2 <<< (a1 &&& 31))) fun s14 =>
  q_callv (f_X12_forgets n t s14) fun s15 =>
  some (1, s15))
  else
  (if a0 = 3 then (
  q_st s1 (q_RG t 0) (80 + a1) 1790 a2 fun s18 =>
  q_callv (f_X12_forgets n t s18) fun s19 =>
  some (1, s19))
  else (
  if a0 = 4 then (
  q_st s1 (q_RG t 0) (119 + a1) 1790 a2 fun s22 =>
  q_callv (f_X12_forgets n t s22) fun s23 =>
  some (1, s23))
  else (
  q_st s1 (q_RG t 0) (124 + a1) 1790 a2 fun s25 =>
  q_callv (f_X12_forgets n t s25) fun s26 =>
  some (1, s26)))))
set_option maxRecDepth 100000 in
set_option maxHeartbeats 4000000 in
def f_X12_like (n : Nat) (t : Nat) (a0 : Int32) (a1 : Int32) (a2 : Int32) (s0 : q_Sto) : Option (Int32 × q_Sto) :=
  q_call (f_X12_isMule n t a0 s0) fun r2 s1 =>
  if r2 = 0 then (
  some (0, s1))
  else (
  q_call (f_X12_isMan n t a1 s1) fun r5 s4 =>
  if r5 = 0 then (
  some (0, s4))
  else (
  q_call (f_X12_isIn n a2 0 99 s4) fun r8 s7 =>
  if r8 = 0 then (
  some (0, s7))
  else (
  q_st s7 (q_RG t 0) ((20 + (5 * a0)) + a1) 1790 a2 fun s10 =>
  q_callv (f_X12_forgets n t s10) fun s11 =>
  some (1, s11))))
set_option maxRecDepth 100000 in
set_option maxHeartbeats 4000000 in
def f_X12_feed_L18 (n : Nat) (x0 : Nat) (x1 : Int32) (x2 : Int32) (x3 : Int32) (x4 : Int32) (x5 : Int32) : Nat → Int32 → q_Sto → Option (Int32 × q_Sto)
  | 0, _, _ => none
  | j + 1, x6, s0 =>
    if x6 < 20 then (
    q_jn (fun (y3 : Int32) (s4 : q_Sto) =>
      q_rem x6 4 fun v5 =>
      q_st s4 (q_RG x0 9) (s4 x0 16) 400 ((y3 >>> ((24 - (8 * v5)) &&& 31)) &&& 255) fun s6 =>
      q_nS1 (q_up s6 x0 16 ((s6 x0 16) + 1)) fun s7 =>
      f_X12_feed_L18 n x0 x1 x2 x3 x4 x5  j (x6 + 1) s7) fun j71 =>
    if x6 < 4 then (
    j71 x1 s0)
    else (
    if x6 < 8 then (
    j71 x2 s0)
    else (
    if x6 < 12 then (
    j71 x3 s0)
    else (
    if x6 < 16 then (
    j71 x4 s0)
    else (
    j71 x5 s0)))))
    else (
    some ((s0 x0 16), s0))
set_option maxRecDepth 100000 in
set_option maxHeartbeats 4000000 in
def f_X12_feed (n : Nat) (t : Nat) (a0 : Int32) (a1 : Int32) (a2 : Int32) (a3 : Int32) (a4 : Int32) (s0 : q_Sto) : Option (Int32 × q_Sto) :=
  if ((s0 t 16) + 20) ≤ 400 then (
  f_X12_feed_L18 n t a0 a1 a2 a3 a4  n 0 s0)
  else (
  some ((-1), s0))
set_option maxRecDepth 100000 in
set_option maxHeartbeats 4000000 in
def f_X12_end (n : Nat) (t : Nat) (a0 : Int32) (s0 : q_Sto) : Option (Int32 × q_Sto) :=
  q_call (f_X12_isIn n a0 0 (s0 t 16) s0) fun r2 s1 =>
  if r2 = 0 then (
  some (0, s1))
  else (
  q_nS1 (q_up s1 t 16 a0) fun s4 =>
  some (1, s4))
set_option maxRecDepth 100000 in
set_option maxHeartbeats 4000000 in
def f_X12_aLine (n : Nat) (t : Nat) (s0 : q_Sto) : Option (Int32 × q_Sto) :=
  q_call (f_X12_isIn n (s0 t 18) 20 22 s0) fun r2 s1 =>
  if r2 = 0 then (
  q_call (f_X12_bad n t 1 s1) fun r5 s4 =>
  q_rz r5 s4)
  else (
  if (s1 t 13) = 16 then (
  q_call (f_X12_bad n t 3 s1) fun r8 s7 =>
  q_rz r8 s7)
  else (
  q_nS1 (q_up s1 t 24 0) fun s9 =>
  q_st s9 (q_RG t 6) ((4 * (s9 t 13)) + 3) 64 (s9 t 18) fun s10 =>
  q_callv (f_X12_next0 n t s10) fun s11 =>
  q_st s11 (q_RG t 6) (4 * (s11 t 13)) 64 (s11 t 14) fun s13 =>
  q_call (f_X12_sumUp n t s13) fun r15 s14 =>
  if r15 = 0 then (
  some (0, s14))
  else (
  q_st s14 (q_RG t 6) ((4 * (s14 t 13)) + 1) 64 (s14 t 14) fun s17 =>
  q_jn (fun  (s18 : q_Sto) =>
    q_st s18 (q_RG t 6) ((4 * (s18 t 13)) + 2) 64 (s18 t 14) fun s19 =>
    q_call (f_X12_need n t 159 s19) fun r21 s20 =>
    q_rz r21 s20) fun j123 =>
  if (s17 t 18) = 3 then (
  q_callv (f_X12_next0 n t s17) fun s23 =>
  q_call (f_X12_any n (f_X12_oneTest n 12 t) t s23) fun r26 s25 =>
  if r26 = 0 then (
  some (0, s25))
  else (
  j123 s25))
  else (
  j123 s17))))
set_option maxRecDepth 100000 in
set_option maxHeartbeats 4000000 in
def f_X12_readsLaw_L12 (n : Nat) (x0 : Nat) : Nat → Int32 → q_Sto → Option (Int32 × q_Sto)
  | 0, _, _ => none
  | j + 1, x1, s0 =>
    if x1 = 0 then (
    q_rz x1 s0)
    else (
    if (s0 x0 18) = 0 then (
    q_rz x1 s0)
    else (
    q_call (f_X12_aLine n x0 s0) fun r6 s5 =>
    if r6 = 0 then (
    q_nS1 (q_up s5 x0 13 ((s5 x0 13) + 0)) fun s8 =>
    f_X12_readsLaw_L12 n x0  j r6 s8)
    else (
    q_nS1 (q_up s5 x0 13 ((s5 x0 13) + 1)) fun s9 =>
    f_X12_readsLaw_L12 n x0  j r6 s9)))
set_option maxRecDepth 100000 in
set_option maxHeartbeats 4000000 in
def f_X12_readsLaw (n : Nat) (t : Nat) (s0 : q_Sto) : Option (Int32 × q_Sto) :=
  q_nS1 (q_up s0 t 13 0) fun s1 =>
  q_nS1 (q_up s1 t 14 0) fun s2 =>
  f_X12_readsLaw_L12 n t  n 1 s2
set_option maxRecDepth 100000 in
set_option maxHeartbeats 4000000 in
def f_X12_number (n : Nat) (t : Nat) (a0 : Int32) (a1 : Int32) (a2 : Int32) (s0 : q_Sto) : Option (Int32 × q_Sto) :=
  if (s0 t 18) = 2 then (
  q_call (f_X12_isIn n (s0 t 20) a1 a2 s0) fun r3 s2 =>
  if r3 = 0 then (
  q_call (f_X12_bad n t 2 s2) fun r6 s5 =>
  q_rz r6 s5)
  else (
  q_st s2 (q_RG t 8) a0 64 (s2 t 20) fun s7 =>
  q_callv (f_X12_next0 n t s7) fun s8 =>
  some (1, s8)))
  else (
  q_call (f_X12_bad n t 1 s0) fun r11 s10 =>
  q_rz r11 s10)
set_option maxRecDepth 100000 in
set_option maxHeartbeats 4000000 in
def f_X12_told (n : Nat) (t : Nat) (a0 : Int32) (a1 : Int32) (a2 : Int32) (a3 : Int32) (s0 : q_Sto) : Option (Int32 × q_Sto) :=
  q_call (f_X12_need n t a1 s0) fun r2 s1 =>
  if r2 = 0 then (
  some (0, s1))
  else (
  q_call (f_X12_number n t a0 a2 a3 s1) fun r5 s4 =>
  if r5 = 0 then (
  some (0, s4))
  else (
  some (1, s4)))
set_option maxRecDepth 100000 in
set_option maxHeartbeats 4000000 in
def f_X12_another (n : Nat) (t : Nat) (a0 : Int32) (s0 : q_Sto) : Option (Int32 × q_Sto) :=
  q_jn (fun  (s1 : q_Sto) =>
    if (s1 t 18) = 2 then (
    q_call (f_X12_isMule n t (s1 t 20) s1) fun r4 s3 =>
    if r4 = 0 then (
    q_call (f_X12_bad n t 2 s3) fun r7 s6 =>
    q_rz r7 s6)
    else (
    q_ld s3 (q_RG t 8) (a0 + 1) 64 fun v8 =>
    q_st s3 (q_RG t 8) (a0 + 1) 64 (v8 ||| (1 <<< ((s3 t 20) &&& 31))) fun s9 =>
    q_callv (f_X12_next0 n t s9) fun s10 =>
    some (1, s10)))
    else (
    q_call (f_X12_bad n t 1 s1) fun r13 s12 =>
    q_rz r13 s12)) fun j27 =>
  if (s0 t 18) = 2 then (
  q_ld s0 (q_RG t 8) a0 64 fun v15 =>
  if (s0 t 20) = v15 then (
  q_call (f_X12_bad n t 2 s0) fun r18 s17 =>
  q_rz r18 s17)
  else (
  j27 s0))
  else (
  j27 s0)
set_option maxRecDepth 100000 in
set_option maxHeartbeats 4000000 in
def f_X12_aHeed_L57 (n : Nat) (x0 : Nat) (x1 : Int32) : Nat → q_Sto → Option (Int32 × q_Sto)
  | 0, _ => none
  | j + 1, s0 =>
    if (s0 x0 18) = 5 then (
    q_callv (f_X12_next0 n x0 s0) fun s14 =>
    q_call (f_X12_another n x0 x1 s14) fun r17 s16 =>
    if r17 = 0 then (
    some (0, s16))
    else (
    f_X12_aHeed_L57 n x0 x1  j  s16))
    else (
    some (1, s0))
set_option maxRecDepth 100000 in
set_option maxHeartbeats 4000000 in
def f_X12_aHeed (n : Nat) (t : Nat) (s0 : q_Sto) : Option (Int32 × q_Sto) :=
  q_nm (2 * (s0 t 15)) fun v1 =>
  q_ld s0 (q_RG t 0) 86 1790 fun v2 =>
  q_call (f_X12_told n t v1 7 0 (v2 - 1) s0) fun r4 s3 =>
  if r4 = 0 then (
  some (0, s3))
  else (
  q_st s3 (q_RG t 8) (v1 + 1) 64 0 fun s6 =>
  q_call (f_X12_need n t 8 s6) fun r8 s7 =>
  if r8 = 0 then (
  some (0, s7))
  else (
  q_call (f_X12_another n t v1 s7) fun r11 s10 =>
  if r11 = 0 then (
  some (0, s10))
  else (
  f_X12_aHeed_L57 n t v1  n  s10)))
set_option maxRecDepth 100000 in
set_option maxHeartbeats 4000000 in
def f_X12_aPlan (n : Nat) (t : Nat) (s0 : q_Sto) : Option (Int32 × q_Sto) :=
  q_nm (4 * (s0 t 15)) fun v1 =>
  q_call (f_X12_told n t v1 9 0 999 s0) fun r3 s2 =>
  if r3 = 0 then (
  some (0, s2))
  else (
  q_call (f_X12_isIn n (s2 t 18) 10 14 s2) fun r6 s5 =>
  if r6 = 0 then (
  q_call (f_X12_bad n t 1 s5) fun r9 s8 =>
  q_rz r9 s8)
  else (
  q_nm (s5 t 18) fun v10 =>
  q_st s5 (q_RG t 8) (v1 + 1) 64 v10 fun s11 =>
  q_st s11 (q_RG t 8) (v1 + 2) 64 0 fun s12 =>
  q_st s12 (q_RG t 8) (v1 + 3) 64 0 fun s13 =>
  q_callv (f_X12_next0 n t s13) fun s14 =>
  if v10 = 13 then (
  some (1, s14))
  else (
  q_jn (fun (y17 : Int32) (s18 : q_Sto) =>
    q_call (f_X12_number n t (v1 + 2) 0 y17 s18) fun r20 s19 =>
    if r20 = 0 then (
    some (0, s19))
    else (
    if v10 = 14 then (
    some (1, s19))
    else (
    if v10 = 11 then (
    some (1, s19))
    else (
    q_ld s19 (q_RG t 0) 86 1790 fun v24 =>
    q_call (f_X12_number n t (v1 + 3) 0 (v24 - 1) s19) fun r26 s25 =>
    if r26 = 0 then (
    some (0, s25))
    else (
    some (1, s25)))))) fun j112 =>
  if v10 = 14 then (
  j112 9 s14)
  else (
  q_ld s14 (q_RG t 0) 87 1790 fun v29 =>
  j112 (v29 - 1) s14))))
set_option maxRecDepth 100000 in
set_option maxHeartbeats 4000000 in
def f_X12_aPath (n : Nat) (t : Nat) (s0 : q_Sto) : Option (Int32 × q_Sto) :=
  q_nm (3 * (s0 t 15)) fun v1 =>
  q_call (f_X12_told n t v1 15 0 9 s0) fun r3 s2 =>
  if r3 = 0 then (
  some (0, s2))
  else (
  q_jn (fun  (s5 : q_Sto) =>
    q_call (f_X12_number n t (v1 + 1) 0 9 s5) fun r7 s6 =>
    if r7 = 0 then (
    some (0, s6))
    else (
    q_call (f_X12_told n t (v1 + 2) 16 1 24 s6) fun r10 s9 =>
    if r10 = 0 then (
    some (0, s9))
    else (
    some (1, s9)))) fun j49 =>
  if (s2 t 18) = 2 then (
  q_ld s2 (q_RG t 8) v1 64 fun v13 =>
  if (s2 t 20) = v13 then (
  q_call (f_X12_bad n t 2 s2) fun r16 s15 =>
  q_rz r16 s15)
  else (
  j49 s2))
  else (
  j49 s2))
set_option maxRecDepth 100000 in
set_option maxHeartbeats 4000000 in
def f_X12_aLoad (n : Nat) (t : Nat) (s0 : q_Sto) : Option (Int32 × q_Sto) :=
  q_call (f_X12_told n t (2 * (s0 t 15)) 17 1 40 s0) fun r2 s1 =>
  if r2 = 0 then (
  some (0, s1))
  else (
  q_call (f_X12_told n t ((2 * (s1 t 15)) + 1) 18 1 99 s1) fun r5 s4 =>
  if r5 = 0 then (
  some (0, s4))
  else (
  some (1, s4)))
set_option maxRecDepth 100000 in
set_option maxHeartbeats 4000000 in
def f_X12_aRow (n : Nat) (t : Nat) (s0 : q_Sto) : Option (Int32 × q_Sto) :=
  if (s0 t 12) = 1 then (
  q_call (f_X12_aHeed n t s0) fun r3 s2 =>
  q_rz r3 s2)
  else
  if (s0 t 12) = 2 then (
  q_call (f_X12_aPlan n t s0) fun r6 s5 =>
  q_rz r6 s5)
  else
  if (s0 t 12) = 3 then (
  q_call (f_X12_aPath n t s0) fun r9 s8 =>
  q_rz r9 s8)
  else
  (q_call (f_X12_aLoad n t s0) fun r11 s10 =>
  q_rz r11 s10)
set_option maxRecDepth 100000 in
set_option maxHeartbeats 4000000 in
def f_X12_readsRows_L49 (n : Nat) (x0 : Nat) (x1 : Int32) : Nat → Int32 → q_Sto → Option (Int32 × q_Sto)
  | 0, _, _ => none
  | j + 1, x2, s0 =>
    if x2 = 0 then (
    q_rz x2 s0)
    else (
    if (s0 x0 18) = 0 then (
    q_rz x2 s0)
    else (
    if (s0 x0 18) = x1 then (
    q_jn (fun (y6 : Int32) (s7 : q_Sto) =>
      if (s0 x0 15) = y6 then (
      q_call (f_X12_bad n x0 3 s7) fun r10 s9 =>
      q_rz r10 s9)
      else (
      q_call (f_X12_aRow n x0 s7) fun r12 s11 =>
      q_jn (fun  (s13 : q_Sto) =>
        if (0 : Int32) = 0 then (
        q_nS1 (q_up s13 x0 15 ((s13 x0 15) + 0)) fun s15 =>
        f_X12_readsRows_L49 n x0 x1  j 0 s15)
        else (
        q_nS1 (q_up s13 x0 15 ((s13 x0 15) + 1)) fun s16 =>
        f_X12_readsRows_L49 n x0 x1  j 0 s16)) fun j123 =>
      q_jn (fun (y17 : Int32) (s18 : q_Sto) =>
        if y17 = 0 then (
        q_nS1 (q_up s18 x0 15 ((s18 x0 15) + 0)) fun s20 =>
        f_X12_readsRows_L49 n x0 x1  j y17 s20)
        else (
        q_nS1 (q_up s18 x0 15 ((s18 x0 15) + 1)) fun s21 =>
        f_X12_readsRows_L49 n x0 x1  j y17 s21)) fun j124 =>
      if r12 = 0 then (
      j123 s11)
      else (
      q_call (f_X12_need n x0 159 s11) fun r24 s23 =>
      if r24 = 0 then (
      j123 s23)
      else (
      j124 1 s23)))) fun j93 =>
    if (s0 x0 12) = 4 then (
    j93 8 s0)
    else (
    j93 16 s0))
    else (
    q_call (f_X12_bad n x0 1 s0) fun r28 s27 =>
    q_rz r28 s27)))
set_option maxRecDepth 100000 in
set_option maxHeartbeats 4000000 in
def f_X12_readsRows (n : Nat) (t : Nat) (s0 : q_Sto) : Option (Int32 × q_Sto) :=
  q_nS1 (q_up s0 t 15 0) fun s1 =>
  if (s1 t 12) = 1 then (
  f_X12_readsRows_L49 n t 7  n 1 s1)
  else (
  if (s1 t 12) = 2 then (
  f_X12_readsRows_L49 n t 9  n 1 s1)
  else (
  if (s1 t 12) = 3 then (
  f_X12_readsRows_L49 n t 15  n 1 s1)
  else (
  f_X12_readsRows_L49 n t 17  n 1 s1)))
set_option maxRecDepth 100000 in
set_option maxHeartbeats 4000000 in
def f_X12_putsLaw_L13 (n : Nat) (x0 : Nat) (k105 : q_Sto → Option (Int32 × q_Sto)) : Nat → Int32 → q_Sto → Option (Int32 × q_Sto)
  | 0, _, _ => none
  | j + 1, x1, s0 =>
    if x1 < (s0 x0 13) then (
    q_ld s0 (q_RG x0 6) (4 * x1) 64 fun v3 =>
    q_st s0 (q_RG x0 0) (905 + x1) 1790 v3 fun s4 =>
    q_ld s4 (q_RG x0 6) ((4 * x1) + 1) 64 fun v5 =>
    q_st s4 (q_RG x0 0) (921 + x1) 1790 v5 fun s6 =>
    q_ld s6 (q_RG x0 6) ((4 * x1) + 2) 64 fun v7 =>
    q_st s6 (q_RG x0 0) (937 + x1) 1790 v7 fun s8 =>
    q_ld s8 (q_RG x0 6) ((4 * x1) + 3) 64 fun v9 =>
    q_st s8 (q_RG x0 0) (953 + x1) 1790 v9 fun s10 =>
    f_X12_putsLaw_L13 n x0 k105 j (x1 + 1) s10)
    else (
    k105 s0)
set_option maxRecDepth 100000 in
set_option maxHeartbeats 4000000 in
def f_X12_putsLaw_L107 (n : Nat) (x0 : Nat) : Nat → Int32 → q_Sto → Option (Int32 × q_Sto)
  | 0, _, _ => none
  | j + 1, x1, s0 =>
    if x1 < (2 * (s0 x0 14)) then (
    q_ld s0 (q_RG x0 7) x1 820 fun v13 =>
    q_st s0 (q_RG x0 0) (970 + x1) 1790 v13 fun s14 =>
    f_X12_putsLaw_L107 n x0  j (x1 + 1) s14)
    else (
    some ((s0 x0 13), s0))
set_option maxRecDepth 100000 in
set_option maxHeartbeats 4000000 in
def f_X12_putsLaw (n : Nat) (t : Nat) (s0 : q_Sto) : Option (Int32 × q_Sto) :=
  q_st s0 (q_RG t 0) 89 1790 (s0 t 13) fun s1 =>
  f_X12_putsLaw_L13 n t (fun  (s11 : q_Sto) =>
  f_X12_putsLaw_L107 n t  n 0 s11) n 0 s1
set_option maxRecDepth 100000 in
set_option maxHeartbeats 4000000 in
def f_X12_puts_L13 (n : Nat) (x0 : Nat) (x2 : Int32) (x3 : Int32) : Nat → Int32 → q_Sto → Option (Int32 × q_Sto)
  | 0, _, _ => none
  | j + 1, x4, s0 =>
    if x4 < (x3 * (s0 x0 15)) then (
    q_ld s0 (q_RG x0 8) x4 64 fun v3 =>
    q_st s0 (q_RG x0 0) (x2 + x4) 1790 v3 fun s4 =>
    f_X12_puts_L13 n x0 x2 x3  j (x4 + 1) s4)
    else (
    some ((s0 x0 15), s0))
set_option maxRecDepth 100000 in
set_option maxHeartbeats 4000000 in
def f_X12_puts (n : Nat) (t : Nat) (a0 : Int32) (a1 : Int32) (a2 : Int32) (s0 : q_Sto) : Option (Int32 × q_Sto) :=
  q_st s0 (q_RG t 0) a0 1790 (s0 t 15) fun s1 =>
  f_X12_puts_L13 n t a1 a2  n 0 s1
set_option maxRecDepth 100000 in
set_option maxHeartbeats 4000000 in
def f_X12_putsHeeds_L13 (n : Nat) (x0 : Nat) (k36 : q_Sto → Option (Int32 × q_Sto)) : Nat → Int32 → q_Sto → Option (Int32 × q_Sto)
  | 0, _, _ => none
  | j + 1, x1, s0 =>
    if x1 < 12 then (
    q_st s0 (q_RG x0 0) (129 + x1) 1790 0 fun s3 =>
    f_X12_putsHeeds_L13 n x0 k36 j (x1 + 1) s3)
    else (
    k36 s0)
set_option maxRecDepth 100000 in
set_option maxHeartbeats 4000000 in
def f_X12_putsHeeds_L38 (n : Nat) (x0 : Nat) : Nat → Int32 → q_Sto → Option (Int32 × q_Sto)
  | 0, _, _ => none
  | j + 1, x1, s0 =>
    if x1 < (s0 x0 15) then (
    q_ld s0 (q_RG x0 8) (2 * x1) 64 fun v6 =>
    q_ld s0 (q_RG x0 0) (129 + v6) 1790 fun v7 =>
    q_ld s0 (q_RG x0 8) ((2 * x1) + 1) 64 fun v8 =>
    q_st s0 (q_RG x0 0) (129 + v6) 1790 (v7 ||| v8) fun s9 =>
    f_X12_putsHeeds_L38 n x0  j (x1 + 1) s9)
    else (
    some ((s0 x0 15), s0))
set_option maxRecDepth 100000 in
set_option maxHeartbeats 4000000 in
def f_X12_putsHeeds (n : Nat) (t : Nat) (s0 : q_Sto) : Option (Int32 × q_Sto) :=
  q_st s0 (q_RG t 0) 90 1790 (s0 t 15) fun s1 =>
  f_X12_putsHeeds_L13 n t (fun  (s4 : q_Sto) =>
  f_X12_putsHeeds_L38 n t  n 0 s4) n 0 s1
set_option maxRecDepth 100000 in
set_option maxHeartbeats 4000000 in
def f_X12_putsText (n : Nat) (t : Nat) (a0 : Int32) (s0 : q_Sto) : Option (Int32 × q_Sto) :=
  if a0 = 0 then (
  q_call (f_X12_putsLaw n t s0) fun r3 s2 =>
  some (r3, s2))
  else (
  if a0 = 4 then (
  q_call (f_X12_puts n t 93 253 2 s0) fun r6 s5 =>
  some (r6, s5))
  else (
  q_callv (f_X12_forgets n t s0) fun s7 =>
  if a0 = 1 then (
  q_call (f_X12_putsHeeds n t s7) fun r11 s10 =>
  some (r11, s10))
  else (
  if a0 = 2 then (
  q_call (f_X12_puts n t 91 141 4 s7) fun r14 s13 =>
  some (r14, s13))
  else (
  q_call (f_X12_puts n t 92 205 3 s7) fun r16 s15 =>
  some (r16, s15)))))
set_option maxRecDepth 100000 in
set_option maxHeartbeats 4000000 in
def f_X12_text (n : Nat) (t : Nat) (a0 : Int32) (s0 : q_Sto) : Option (Int32 × q_Sto) :=
  q_nS1 (q_up s0 t 23 0) fun s1 =>
  q_nS1 (q_up s1 t 25 (-1)) fun s2 =>
  q_call (f_X12_isIn n a0 0 4 s2) fun r4 s3 =>
  if r4 = 0 then (
  q_nS1 (q_up s3 t 16 0) fun s6 =>
  some ((-1), s6))
  else (
  q_nS1 (q_up s3 t 21 0) fun s7 =>
  q_nS1 (q_up s7 t 17 0) fun s8 =>
  q_nS1 (q_up s8 t 12 a0) fun s9 =>
  q_callv (f_X12_next0 n t s9) fun s10 =>
  q_jn (fun (y12 : Int32) (s13 : q_Sto) =>
    q_nS1 (q_up s13 t 16 0) fun s14 =>
    if y12 = 0 then (
    q_nS1 (q_up s14 t 23 (s14 t 21)) fun s16 =>
    q_nS1 (q_up s16 t 25 (s16 t 22)) fun s17 =>
    some ((-1), s17))
    else (
    q_call (f_X12_putsText n t a0 s14) fun r19 s18 =>
    some (r19, s18))) fun j60 =>
  if a0 = 0 then (
  q_call (f_X12_readsLaw n t s10) fun r22 s21 =>
  j60 r22 s21)
  else (
  q_call (f_X12_readsRows n t s10) fun r24 s23 =>
  j60 r24 s23))
set_option maxRecDepth 100000 in
set_option maxHeartbeats 4000000 in
def f_X12_fault (n : Nat) (t : Nat) (a0 : Int32) (s0 : q_Sto) : Option (Int32 × q_Sto) :=
  if a0 = 0 then (
  some ((s0 t 23), s0))
  else (
  if a0 = 1 then (
  some ((s0 t 25), s0))
  else (
  some ((-1), s0)))
set_option maxRecDepth 100000 in
set_option maxHeartbeats 4000000 in
def f_X12_both (n : Nat) (a0 : Int32) (a1 : Int32) (a2 : Int32) (s0 : q_Sto) : Option (Int32 × q_Sto) :=
  if a0 = 23 then (
  some (a1 + a2, s0))
  else
  if a0 = 24 then (
  some (a1 - a2, s0))
  else
  if a0 = 25 then (
  some (a1 * a2, s0))
  else
  if a0 = 27 then (
  if a1 < a2 then (
  some (1, s0))
  else (
  some (0, s0)))
  else
  if a0 = 28 then (
  if a1 = a2 then (
  some (1, s0))
  else (
  some (0, s0)))
  else
  if a0 = 29 then (
  if a1 ≤ a2 then (
  some (0, s0))
  else (
  some (1, s0)))
  else
  if a0 = 31 then (
  some (a1 &&& a2, s0))
  else
  (some (a1 ||| a2, s0))
set_option maxRecDepth 100000 in
set_option maxHeartbeats 4000000 in
def f_X12_comesTo_L6 (n : Nat) (x0 : Nat) (x1 : Int32) (x3 : Int32) (k186 : q_Sto → Option (Int32 × q_Sto)) : Nat → Int32 → Int32 → q_Sto → Option (Int32 × q_Sto)
  | 0, _, _, _ => none
  | j + 1, x4, x5, s0 =>
    if x5 < x3 then (
    q_ld s0 (q_RG x0 0) ((970 + (820 * x1)) + (2 * x5)) 1790 fun v2 =>
    q_ld s0 (q_RG x0 0) (((970 + (820 * x1)) + (2 * x5)) + 1) 1790 fun v3 =>
    if v2 < 23 then (
    if v2 = 0 then (
    q_st s0 (q_RG x0 10) x4 420 v3 fun s6 =>
    f_X12_comesTo_L6 n x0 x1 x3 k186 j (x4 + 1) (x5 + 1) s6)
    else (
    q_ld s0 (q_RG x0 11) v2 11 fun v7 =>
    q_st s0 (q_RG x0 10) x4 420 v7 fun s8 =>
    f_X12_comesTo_L6 n x0 x1 x3 k186 j (x4 + 1) (x5 + 1) s8))
    else (
    if v2 = 26 then (
    q_ld s0 (q_RG x0 10) (x4 - 1) 420 fun v10 =>
    q_dv v10 v3 fun v11 =>
    q_st s0 (q_RG x0 10) (x4 - 1) 420 v11 fun s12 =>
    f_X12_comesTo_L6 n x0 x1 x3 k186 j x4 (x5 + 1) s12)
    else (
    if v2 = 30 then (
    q_ld s0 (q_RG x0 10) (x4 - 1) 420 fun v14 =>
    q_st s0 (q_RG x0 10) (x4 - 1) 420 (1 - v14) fun s15 =>
    f_X12_comesTo_L6 n x0 x1 x3 k186 j x4 (x5 + 1) s15)
    else (
    q_ld s0 (q_RG x0 10) ((x4 + (-1)) - 1) 420 fun v16 =>
    q_ld s0 (q_RG x0 10) (x4 + (-1)) 420 fun v17 =>
    q_call (f_X12_both n v2 v16 v17 s0) fun r19 s18 =>
    q_st s18 (q_RG x0 10) ((x4 + (-1)) - 1) 420 r19 fun s20 =>
    f_X12_comesTo_L6 n x0 x1 x3 k186 j (x4 + (-1)) (x5 + 1) s20))))
    else (
    k186 s0)
set_option maxRecDepth 100000 in
set_option maxHeartbeats 4000000 in
def f_X12_comesTo (n : Nat) (t : Nat) (a0 : Int32) (a1 : Int32) (a2 : Int32) (s0 : q_Sto) : Option (Int32 × q_Sto) :=
  f_X12_comesTo_L6 n t a0 a2 (fun  (s21 : q_Sto) =>
  q_ld s21 (q_RG t 10) 0 420 fun v22 =>
  some (v22, s21)) n 0 a1 s0
set_option maxRecDepth 100000 in
set_option maxHeartbeats 4000000 in
def f_X12_isSo (n : Nat) (t : Nat) (a0 : Int32) (s0 : q_Sto) : Option (Int32 × q_Sto) :=
  q_ld s0 (q_RG t 0) (937 + a0) 1790 fun v1 =>
  q_ld s0 (q_RG t 0) (921 + a0) 1790 fun v2 =>
  if v1 = v2 then (
  some (1, s0))
  else (
  q_ld s0 (q_RG t 0) (921 + a0) 1790 fun v4 =>
  q_ld s0 (q_RG t 0) (937 + a0) 1790 fun v5 =>
  q_call (f_X12_comesTo n t 0 v4 v5 s0) fun r7 s6 =>
  if r7 = 1 then (
  some (1, s6))
  else (
  some (0, s6)))
set_option maxRecDepth 100000 in
set_option maxHeartbeats 4000000 in
def f_X12_says_L3 (n : Nat) (x0 : Nat) (x1 : Int32) (x2 : Int32) (x3 : Int32) (k81 : q_Sto → Option (Int32 × q_Sto)) (k39 : Int32 → q_Sto → Option (Int32 × q_Sto)) : Nat → Int32 → q_Sto → Option (Int32 × q_Sto)
  | 0, _, _ => none
  | j + 1, x4, s0 =>
    q_ld s0 (q_RG x0 0) 89 1790 fun v1 =>
    if x4 < v1 then (
    q_ld s0 (q_RG x0 0) (953 + x4) 1790 fun v3 =>
    if v3 = x1 then (
    q_call (f_X12_isSo n x0 x4 s0) fun r6 s5 =>
    if r6 = 0 then (
    f_X12_says_L3 n x0 x1 x2 x3 k81 k39 j (x4 + 1) s5)
    else (
    k39 x4 s5))
    else (
    f_X12_says_L3 n x0 x1 x2 x3 k81 k39 j (x4 + 1) s0))
    else (
    k81 s0)
set_option maxRecDepth 100000 in
set_option maxHeartbeats 4000000 in
def f_X12_says (n : Nat) (t : Nat) (a0 : Int32) (a1 : Int32) (a2 : Int32) (s0 : q_Sto) : Option (Int32 × q_Sto) :=
  f_X12_says_L3 n t a0 a1 a2 (fun  (s8 : q_Sto) =>
  q_call (f_X12_lesser n a2 a1 s8) fun r10 s9 =>
  q_call (f_X12_greater n 0 r10 s9) fun r12 s11 =>
  some (r12, s11)) (fun (y13 : Int32) (s14 : q_Sto) =>
  q_ld s14 (q_RG t 0) (905 + y13) 1790 fun v15 =>
  q_ld s14 (q_RG t 0) (921 + y13) 1790 fun v16 =>
  q_call (f_X12_comesTo n t 0 v15 v16 s14) fun r18 s17 =>
  q_call (f_X12_lesser n a2 r18 s17) fun r20 s19 =>
  q_call (f_X12_greater n 0 r20 s19) fun r22 s21 =>
  some (r22, s21)) n 0 s0
set_option maxRecDepth 100000 in
set_option maxHeartbeats 4000000 in
def f_X12_laysMule_L2 (n : Nat) (x0 : Nat) (x1 : Int32) (k24 : q_Sto → Option (Int32 × q_Sto)) : Nat → Int32 → q_Sto → Option (Int32 × q_Sto)
  | 0, _, _ => none
  | j + 1, x2, s0 =>
    if x2 < (Int32.ofNat 11) then (
    q_st s0 (q_RG x0 11) x2 11 0 fun s2 =>
    f_X12_laysMule_L2 n x0 x1 k24 j (x2 + 1) s2)
    else (
    k24 s0)
set_option maxRecDepth 100000 in
set_option maxHeartbeats 4000000 in
def f_X12_laysMule (n : Nat) (t : Nat) (a0 : Int32) (s0 : q_Sto) : Option (Int32 × q_Sto) :=
  f_X12_laysMule_L2 n t a0 (fun  (s3 : q_Sto) =>
  q_st s3 (q_RG t 11) 1 11 a0 fun s4 =>
  q_ld s4 (q_RG t 0) (107 + a0) 1790 fun v5 =>
  q_st s4 (q_RG t 11) 2 11 v5 fun s6 =>
  q_ld s6 (q_RG t 0) (95 + a0) 1790 fun v7 =>
  q_st s6 (q_RG t 11) 3 11 v7 fun s8 =>
  q_ld s8 (q_RG t 0) 88 1790 fun v9 =>
  q_st s8 (q_RG t 11) 8 11 v9 fun s10 =>
  q_ld s10 (q_RG t 0) 0 1790 fun v11 =>
  q_st s10 (q_RG t 11) 10 11 v11 fun s12 =>
  some (0, s12)) n 0 s0
set_option maxRecDepth 100000 in
set_option maxHeartbeats 4000000 in
def f_X12_leanOf (n : Nat) (t : Nat) (a0 : Int32) (a1 : Int32) (s0 : q_Sto) : Option (Int32 × q_Sto) :=
  q_callv (f_X12_laysMule n t a0 s0) fun s1 =>
  q_call (f_X12_likingOf n t a0 a1 s1) fun r4 s3 =>
  q_st s3 (q_RG t 11) 4 11 r4 fun s5 =>
  q_ld s5 (q_RG t 0) (129 + a0) 1790 fun v6 =>
  q_call (f_X12_behind n t a1 s5) fun r8 s7 =>
  q_call (f_X12_count n (v6 &&& r8) s7) fun r10 s9 =>
  q_st s9 (q_RG t 11) 5 11 r10 fun s11 =>
  q_ld s11 (q_RG t 0) (119 + a1) 1790 fun v12 =>
  q_st s11 (q_RG t 11) 6 11 v12 fun s13 =>
  q_ld s13 (q_RG t 0) (124 + a1) 1790 fun v14 =>
  q_st s13 (q_RG t 11) 7 11 v14 fun s15 =>
  q_ld s15 (q_RG t 11) 4 11 fun v16 =>
  q_ld s15 (q_RG t 11) 5 11 fun v17 =>
  q_call (f_X12_says n t 20 (v16 + (10 * v17)) 999 s15) fun r19 s18 =>
  some (r19, s18)
set_option maxRecDepth 100000 in
set_option maxHeartbeats 4000000 in
def f_X12_needOf (n : Nat) (t : Nat) (a0 : Int32) (s0 : q_Sto) : Option (Int32 × q_Sto) :=
  q_callv (f_X12_laysMule n t a0 s0) fun s1 =>
  q_call (f_X12_says n t 21 40 999 s1) fun r4 s3 =>
  some (r4, s3)
set_option maxRecDepth 100000 in
set_option maxHeartbeats 4000000 in
def f_X12_riskOf (n : Nat) (t : Nat) (a0 : Int32) (a1 : Int32) (a2 : Int32) (s0 : q_Sto) : Option (Int32 × q_Sto) :=
  q_callv (f_X12_laysMule n t a0 s0) fun s1 =>
  q_st s1 (q_RG t 11) 9 11 a1 fun s3 =>
  q_jn (fun (y4 : Int32) (s5 : q_Sto) =>
    q_st s5 (q_RG t 11) 6 11 y4 fun s6 =>
    q_jn (fun (y7 : Int32) (s8 : q_Sto) =>
      q_st s8 (q_RG t 11) 7 11 y7 fun s9 =>
      q_ld s9 (q_RG t 0) 88 1790 fun v10 =>
      q_call (f_X12_says n t 22 (20 * v10) 1000 s9) fun r12 s11 =>
      some (r12, s11)) fun j62 =>
    if a2 = (-1) then (
    j62 0 s6)
    else (
    q_ld s6 (q_RG t 0) (124 + a2) 1790 fun v14 =>
    j62 v14 s6)) fun j37 =>
  if a2 = (-1) then (
  j37 0 s3)
  else (
  q_ld s3 (q_RG t 0) (119 + a2) 1790 fun v16 =>
  j37 v16 s3)
set_option maxRecDepth 100000 in
set_option maxHeartbeats 4000000 in
def f_X12_keeps_L11 (n : Nat) (x0 : Nat) (k39 : q_Sto → Option (Int32 × q_Sto)) : Nat → Int32 → q_Sto → Option (Int32 × q_Sto)
  | 0, _, _ => none
  | j + 1, x1, s0 =>
    if x1 < 430 then (
    q_ld s0 (q_RG x0 2) (x1 + 86) 516 fun v3 =>
    q_st s0 (q_RG x0 2) x1 516 v3 fun s4 =>
    f_X12_keeps_L11 n x0 k39 j (x1 + 1) s4)
    else (
    k39 s0)
set_option maxRecDepth 100000 in
set_option maxHeartbeats 4000000 in
def f_X12_keeps_L51 (n : Nat) (x0 : Nat) (k83 : q_Sto → Option (Int32 × q_Sto)) : Nat → Int32 → q_Sto → Option (Int32 × q_Sto)
  | 0, _, _ => none
  | j + 1, x1, s0 =>
    if x1 < 86 then (
    q_ld s0 (q_RG x0 0) x1 1790 fun v8 =>
    q_st s0 (q_RG x0 2) ((86 * (s0 x0 4)) + x1) 516 v8 fun s9 =>
    f_X12_keeps_L51 n x0 k83 j (x1 + 1) s9)
    else (
    k83 s0)
set_option maxRecDepth 100000 in
set_option maxHeartbeats 4000000 in
def f_X12_keeps (n : Nat) (t : Nat) (s0 : q_Sto) : Option (Int32 × q_Sto) :=
  if (s0 t 4) = 6 then (
  f_X12_keeps_L11 n t (fun  (s5 : q_Sto) =>
  q_nS1 (q_up s5 t 4 ((s5 t 4) - 1)) fun s6 =>
  f_X12_keeps_L51 n t (fun  (s10 : q_Sto) =>
  q_nS1 (q_up s10 t 4 ((s10 t 4) + 1)) fun s11 =>
  q_nS1 (q_up s11 t 26 1) fun s12 =>
  some (0, s12)) n 0 s6) n 0 s0)
  else (
  f_X12_keeps_L51 n t (fun  (s16 : q_Sto) =>
  q_nS1 (q_up s16 t 4 ((s16 t 4) + 1)) fun s17 =>
  q_nS1 (q_up s17 t 26 1) fun s18 =>
  some (0, s18)) n 0 s0)
set_option maxRecDepth 100000 in
set_option maxHeartbeats 4000000 in
def f_X12_undo_L21 (n : Nat) (x0 : Nat) : Nat → Int32 → q_Sto → Option (Int32 × q_Sto)
  | 0, _, _ => none
  | j + 1, x1, s0 =>
    if x1 < 86 then (
    q_ld s0 (q_RG x0 2) ((86 * (s0 x0 4)) + x1) 516 fun v4 =>
    q_st s0 (q_RG x0 0) x1 1790 v4 fun s5 =>
    f_X12_undo_L21 n x0  j (x1 + 1) s5)
    else (
    some (1, s0))
set_option maxRecDepth 100000 in
set_option maxHeartbeats 4000000 in
def f_X12_undo (n : Nat) (t : Nat) (s0 : q_Sto) : Option (Int32 × q_Sto) :=
  if (s0 t 4) = 0 then (
  some (0, s0))
  else (
  q_nS1 (q_up s0 t 4 ((s0 t 4) - 1)) fun s2 =>
  f_X12_undo_L21 n t  n 0 s2)
set_option maxRecDepth 100000 in
set_option maxHeartbeats 4000000 in
def f_X12_notes (n : Nat) (t : Nat) (a0 : Int32) (a1 : Int32) (a2 : Int32) (s0 : q_Sto) : Option (Int32 × q_Sto) :=
  if (s0 t 26) = 0 then (
  some (0, s0))
  else (
  q_ld s0 (q_RG t 0) 6 1790 fun v2 =>
  if v2 = 150 then (
  some (0, s0))
  else (
  q_ld s0 (q_RG t 0) 6 1790 fun v4 =>
  q_nm (305 + (4 * v4)) fun v5 =>
  q_ld s0 (q_RG t 0) 0 1790 fun v6 =>
  q_st s0 (q_RG t 0) v5 1790 v6 fun s7 =>
  q_st s7 (q_RG t 0) (v5 + 1) 1790 a0 fun s8 =>
  q_st s8 (q_RG t 0) (v5 + 2) 1790 a1 fun s9 =>
  q_st s9 (q_RG t 0) (v5 + 3) 1790 a2 fun s10 =>
  q_ld s10 (q_RG t 0) 6 1790 fun v11 =>
  q_st s10 (q_RG t 0) 6 1790 (v11 + 1) fun s12 =>
  some (0, s12)))
set_option maxRecDepth 100000 in
set_option maxHeartbeats 4000000 in
def f_X12_leansTo_L7 (n : Nat) (x0 : Nat) (x1 : Int32) (k54 : Int32 → Int32 → q_Sto → Option (Int32 × q_Sto)) : Nat → Int32 → Int32 → Int32 → q_Sto → Option (Int32 × q_Sto)
  | 0, _, _, _, _ => none
  | j + 1, x2, x3, x4, s0 =>
    q_ld s0 (q_RG x0 0) 87 1790 fun v1 =>
    if x4 < v1 then (
    q_call (f_X12_leanOf n x0 x1 x4 s0) fun r4 s3 =>
    if x2 = (-1) then (
    f_X12_leansTo_L7 n x0 x1 k54 j x4 r4 (x4 + 1) s3)
    else (
    if r4 ≤ x3 then (
    f_X12_leansTo_L7 n x0 x1 k54 j x2 x3 (x4 + 1) s3)
    else (
    f_X12_leansTo_L7 n x0 x1 k54 j x4 r4 (x4 + 1) s3)))
    else (
    k54 x2 x3 s0)
set_option maxRecDepth 100000 in
set_option maxHeartbeats 4000000 in
def f_X12_leansTo (n : Nat) (t : Nat) (a0 : Int32) (s0 : q_Sto) : Option (Int32 × q_Sto) :=
  f_X12_leansTo_L7 n t a0 (fun (y7 : Int32) (y8 : Int32) (s9 : q_Sto) =>
  if y7 = (-1) then (
  some ((-1), s9))
  else (
  q_call (f_X12_needOf n t a0 s9) fun r12 s11 =>
  if y8 < r12 then (
  some ((-1), s11))
  else (
  some (y7, s11)))) n (-1) 0 0 s0
set_option maxRecDepth 100000 in
set_option maxHeartbeats 4000000 in
def f_X12_aRound_L4 (n : Nat) (x0 : Nat) : Nat → Int32 → Int32 → q_Sto → Option (Int32 × q_Sto)
  | 0, _, _, _ => none
  | j + 1, x1, x2, s0 =>
    q_ld s0 (q_RG x0 0) 86 1790 fun v1 =>
    if x2 < v1 then (
    q_call (f_X12_isLame n x0 x2 s0) fun r4 s3 =>
    if r4 = 0 then (
    q_ld s3 (q_RG x0 0) (8 + x2) 1790 fun v6 =>
    if v6 = (-1) then (
    q_call (f_X12_leansTo n x0 x2 s3) fun r9 s8 =>
    q_st s8 (q_RG x0 0) (8 + x2) 1790 r9 fun s10 =>
    if x1 = 0 then (
    q_ld s10 (q_RG x0 0) (8 + x2) 1790 fun v12 =>
    if v12 = (-1) then (
    f_X12_aRound_L4 n x0  j 0 (x2 + 1) s10)
    else (
    f_X12_aRound_L4 n x0  j 1 (x2 + 1) s10))
    else (
    f_X12_aRound_L4 n x0  j 1 (x2 + 1) s10))
    else (
    f_X12_aRound_L4 n x0  j x1 (x2 + 1) s3))
    else (
    f_X12_aRound_L4 n x0  j x1 (x2 + 1) s3))
    else (
    q_rz x1 s0)
set_option maxRecDepth 100000 in
set_option maxHeartbeats 4000000 in
def f_X12_aRound (n : Nat) (t : Nat) (s0 : q_Sto) : Option (Int32 × q_Sto) :=
  f_X12_aRound_L4 n t  n 0 0 s0
set_option maxRecDepth 100000 in
set_option maxHeartbeats 4000000 in
def f_X12_mostFollowed_L6 (n : Nat) (x0 : Nat) : Nat → Int32 → Int32 → Int32 → q_Sto → Option (Int32 × q_Sto)
  | 0, _, _, _, _ => none
  | j + 1, x1, x2, x3, s0 =>
    q_ld s0 (q_RG x0 0) 87 1790 fun v1 =>
    if x3 < v1 then (
    q_call (f_X12_behind n x0 x3 s0) fun r4 s3 =>
    q_call (f_X12_count n r4 s3) fun r6 s5 =>
    if r6 < x2 then (
    f_X12_mostFollowed_L6 n x0  j x1 x2 (x3 + 1) s5)
    else (
    if r6 = 0 then (
    f_X12_mostFollowed_L6 n x0  j x1 x2 (x3 + 1) s5)
    else (
    if r6 = x2 then (
    f_X12_mostFollowed_L6 n x0  j (-1) r6 (x3 + 1) s5)
    else (
    f_X12_mostFollowed_L6 n x0  j x3 r6 (x3 + 1) s5))))
    else (
    some (x1, s0))
set_option maxRecDepth 100000 in
set_option maxHeartbeats 4000000 in
def f_X12_mostFollowed (n : Nat) (t : Nat) (s0 : q_Sto) : Option (Int32 × q_Sto) :=
  f_X12_mostFollowed_L6 n t  n (-1) 0 0 s0
set_option maxRecDepth 100000 in
set_option maxHeartbeats 4000000 in
def f_X12_stand_L2 (n : Nat) (x0 : Nat) (k24 : q_Sto → Option (Int32 × q_Sto)) : Nat → Int32 → q_Sto → Option (Int32 × q_Sto)
  | 0, _, _ => none
  | j + 1, x1, s0 =>
    if x1 < 12 then (
    q_st s0 (q_RG x0 0) (8 + x1) 1790 (-1) fun s2 =>
    f_X12_stand_L2 n x0 k24 j (x1 + 1) s2)
    else (
    k24 s0)
set_option maxRecDepth 100000 in
set_option maxHeartbeats 4000000 in
def f_X12_stand_L26 (n : Nat) (x0 : Nat) (k39 : Int32 → q_Sto → Option (Int32 × q_Sto)) : Nat → Int32 → q_Sto → Option (Int32 × q_Sto)
  | 0, _, _ => none
  | j + 1, x1, s0 =>
    q_call (f_X12_aRound n x0 s0) fun r5 s4 =>
    if r5 = 0 then (
    k39 x1 s4)
    else (
    f_X12_stand_L26 n x0 k39 j (x1 + 1) s4)
set_option maxRecDepth 100000 in
set_option maxHeartbeats 4000000 in
def f_X12_stand (n : Nat) (t : Nat) (s0 : q_Sto) : Option (Int32 × q_Sto) :=
  f_X12_stand_L2 n t (fun  (s3 : q_Sto) =>
  f_X12_stand_L26 n t (fun (y7 : Int32) (s8 : q_Sto) =>
  q_call (f_X12_mostFollowed n t s8) fun r10 s9 =>
  q_st s9 (q_RG t 0) 2 1790 r10 fun s11 =>
  some (y7, s11)) n 0 s3) n 0 s0
set_option maxRecDepth 100000 in
set_option maxHeartbeats 4000000 in
def f_X12_votes (n : Nat) (t : Nat) (s0 : q_Sto) : Option (Int32 × q_Sto) :=
  q_call (f_X12_stand n t s0) fun r2 s1 =>
  q_ld s1 (q_RG t 0) 3 1790 fun v3 =>
  q_ld s1 (q_RG t 0) 2 1790 fun v4 =>
  q_jn (fun (y5 : Int32) (s6 : q_Sto) =>
    q_st s6 (q_RG t 0) 3 1790 (v3 + y5) fun s7 =>
    q_ld s7 (q_RG t 0) 2 1790 fun v8 =>
    q_ld s7 (q_RG t 0) 2 1790 fun v9 =>
    if v9 = (-1) then (
    q_callv (f_X12_notes n t 0 v8 0 s7) fun s11 =>
    some (0, s11))
    else (
    q_ld s7 (q_RG t 0) 2 1790 fun v13 =>
    q_call (f_X12_behind n t v13 s7) fun r15 s14 =>
    q_call (f_X12_count n r15 s14) fun r17 s16 =>
    q_callv (f_X12_notes n t 0 v8 r17 s16) fun s18 =>
    some (0, s18))) fun j27 =>
  if v4 = (-1) then (
  j27 1 s1)
  else (
  j27 0 s1)
set_option maxRecDepth 100000 in
set_option maxHeartbeats 4000000 in
def f_X12_vote (n : Nat) (t : Nat) (s0 : q_Sto) : Option (Int32 × q_Sto) :=
  q_callv (f_X12_keeps n t s0) fun s1 =>
  q_callv (f_X12_votes n t s1) fun s3 =>
  q_ld s3 (q_RG t 0) 2 1790 fun v5 =>
  some (v5, s3)
set_option maxRecDepth 100000 in
set_option maxHeartbeats 4000000 in
def f_X12_likes (n : Nat) (t : Nat) (a0 : Int32) (a1 : Int32) (a2 : Int32) (s0 : q_Sto) : Option (Int32 × q_Sto) :=
  q_call (f_X12_likingOf n t a0 a1 s0) fun r2 s1 =>
  q_call (f_X12_lesser n 99 (r2 + a2) s1) fun r4 s3 =>
  q_call (f_X12_greater n 0 r4 s3) fun r6 s5 =>
  q_st s5 (q_RG t 0) ((20 + (5 * a0)) + a1) 1790 r6 fun s7 =>
  some (0, s7)
set_option maxRecDepth 100000 in
set_option maxHeartbeats 4000000 in
def f_X12_gives (n : Nat) (t : Nat) (a0 : Int32) (a1 : Int32) (s0 : q_Sto) : Option (Int32 × q_Sto) :=
  q_ld s0 (q_RG t 0) (80 + a0) 1790 fun v1 =>
  if v1 = 0 then (
  some (0, s0))
  else (
  q_ld s0 (q_RG t 0) (80 + a0) 1790 fun v3 =>
  q_st s0 (q_RG t 0) (80 + a0) 1790 (v3 - 1) fun s4 =>
  q_callv (f_X12_likes n t a1 a0 15 s4) fun s5 =>
  q_callv (f_X12_notes n t 1 a0 a1 s5) fun s7 =>
  some (1, s7))
set_option maxRecDepth 100000 in
set_option maxHeartbeats 4000000 in
def f_X12_sings_L2 (n : Nat) (x0 : Nat) (x1 : Int32) (k34 : q_Sto → Option (Int32 × q_Sto)) : Nat → Int32 → q_Sto → Option (Int32 × q_Sto)
  | 0, _, _ => none
  | j + 1, x2, s0 =>
    q_ld s0 (q_RG x0 0) 86 1790 fun v1 =>
    if x2 < v1 then (
    q_ld s0 (q_RG x0 0) (124 + x1) 1790 fun v3 =>
    q_callv (f_X12_likes n x0 x2 x1 v3 s0) fun s4 =>
    f_X12_sings_L2 n x0 x1 k34 j (x2 + 1) s4)
    else (
    k34 s0)
set_option maxRecDepth 100000 in
set_option maxHeartbeats 4000000 in
def f_X12_sings (n : Nat) (t : Nat) (a0 : Int32) (s0 : q_Sto) : Option (Int32 × q_Sto) :=
  f_X12_sings_L2 n t a0 (fun  (s6 : q_Sto) =>
  q_callv (f_X12_notes n t 2 a0 0 s6) fun s7 =>
  some (0, s7)) n 0 s0
set_option maxRecDepth 100000 in
set_option maxHeartbeats 4000000 in
def f_X12_whips_L2 (n : Nat) (x0 : Nat) (x1 : Int32) (x2 : Int32) (k36 : q_Sto → Option (Int32 × q_Sto)) : Nat → Int32 → q_Sto → Option (Int32 × q_Sto)
  | 0, _, _ => none
  | j + 1, x3, s0 =>
    q_ld s0 (q_RG x0 0) 87 1790 fun v1 =>
    if x3 < v1 then (
    if x3 = x1 then (
    q_callv (f_X12_likes n x0 x2 x3 (-20) s0) fun s4 =>
    f_X12_whips_L2 n x0 x1 x2 k36 j (x3 + 1) s4)
    else (
    q_callv (f_X12_likes n x0 x2 x3 5 s0) fun s6 =>
    f_X12_whips_L2 n x0 x1 x2 k36 j (x3 + 1) s6))
    else (
    k36 s0)
set_option maxRecDepth 100000 in
set_option maxHeartbeats 4000000 in
def f_X12_whips (n : Nat) (t : Nat) (a0 : Int32) (a1 : Int32) (s0 : q_Sto) : Option (Int32 × q_Sto) :=
  f_X12_whips_L2 n t a0 a1 (fun  (s8 : q_Sto) =>
  q_callv (f_X12_notes n t 3 a0 a1 s8) fun s9 =>
  some (0, s9)) n 0 s0
set_option maxRecDepth 100000 in
set_option maxHeartbeats 4000000 in
def f_X12_act (n : Nat) (t : Nat) (a0 : Int32) (a1 : Int32) (a2 : Int32) (s0 : q_Sto) : Option (Int32 × q_Sto) :=
  q_call (f_X12_isIn n a0 0 2 s0) fun r2 s1 =>
  if r2 = 0 then (
  some (0, s1))
  else (
  q_call (f_X12_isMan n t a1 s1) fun r5 s4 =>
  if r5 = 0 then (
  some (0, s4))
  else (
  q_jn (fun  (s7 : q_Sto) =>
    q_jn (fun  (s8 : q_Sto) =>
      q_callv (f_X12_keeps n t s8) fun s9 =>
      if a0 = 1 then (
      q_callv (f_X12_sings n t a1 s9) fun s12 =>
      some (1, s12))
      else (
      if a0 = 2 then (
      q_callv (f_X12_whips n t a1 a2 s9) fun s15 =>
      some (1, s15))
      else (
      q_call (f_X12_gives n t a1 a2 s9) fun r18 s17 =>
      q_rz r18 s17))) fun j48 =>
    if a0 = 0 then (
    q_ld s7 (q_RG t 0) (80 + a1) 1790 fun v20 =>
    if v20 = 0 then (
    some (0, s7))
    else (
    j48 s7))
    else (
    j48 s7)) fun j30 =>
  if a0 = 1 then (
  j30 s4)
  else (
  q_call (f_X12_isMule n t a2 s4) fun r24 s23 =>
  if r24 = 0 then (
  some (0, s23))
  else (
  j30 s23))))
set_option maxRecDepth 100000 in
set_option maxHeartbeats 4000000 in
def f_X12_pathOf_L2 (n : Nat) (x0 : Nat) (x1 : Int32) (x2 : Int32) (k47 : Int32 → q_Sto → Option (Int32 × q_Sto)) : Nat → Int32 → q_Sto → Option (Int32 × q_Sto)
  | 0, _, _ => none
  | j + 1, x3, s0 =>
    q_ld s0 (q_RG x0 0) 92 1790 fun v1 =>
    if x3 < v1 then (
    q_ld s0 (q_RG x0 0) (205 + (3 * x3)) 1790 fun v3 =>
    if v3 = x1 then (
    q_ld s0 (q_RG x0 0) ((205 + (3 * x3)) + 1) 1790 fun v5 =>
    if v5 = x2 then (
    k47 x3 s0)
    else (
    f_X12_pathOf_L2 n x0 x1 x2 k47 j (x3 + 1) s0))
    else (
    f_X12_pathOf_L2 n x0 x1 x2 k47 j (x3 + 1) s0))
    else (
    some ((-1), s0))
set_option maxRecDepth 100000 in
set_option maxHeartbeats 4000000 in
def f_X12_pathOf (n : Nat) (t : Nat) (a0 : Int32) (a1 : Int32) (s0 : q_Sto) : Option (Int32 × q_Sto) :=
  f_X12_pathOf_L2 n t a0 a1 (fun (y7 : Int32) (s8 : q_Sto) =>
  q_ld s8 (q_RG t 0) ((205 + (3 * y7)) + 2) 1790 fun v9 =>
  some (v9, s8)) n 0 s0
set_option maxRecDepth 100000 in
set_option maxHeartbeats 4000000 in
def f_X12_canGo (n : Nat) (t : Nat) (a0 : Int32) (s0 : q_Sto) : Option (Int32 × q_Sto) :=
  q_ld s0 (q_RG t 0) 2 1790 fun v1 =>
  if v1 = (-1) then (
  some (0, s0))
  else (
  q_ld s0 (q_RG t 0) 1 1790 fun v3 =>
  q_call (f_X12_pathOf n t v3 a0 s0) fun r5 s4 =>
  if r5 = (-1) then (
  some (0, s4))
  else (
  some (1, s4)))
set_option maxRecDepth 100000 in
set_option maxHeartbeats 4000000 in
def f_X12_goesTo_L34 (n : Nat) (x0 : Nat) (x1 : Int32) (x2 : Int32) (k132 : Int32 → q_Sto → Option (Int32 × q_Sto)) : Nat → Int32 → Int32 → q_Sto → Option (Int32 × q_Sto)
  | 0, _, _, _ => none
  | j + 1, x3, x4, s0 =>
    q_ld s0 (q_RG x0 0) 86 1790 fun v8 =>
    if x4 < v8 then (
    if (s0 x0 26) = 0 then (
    k132 x3 s0)
    else (
    q_call (f_X12_isLame n x0 x4 s0) fun r12 s11 =>
    q_jn (fun (y13 : Int32) (s14 : q_Sto) =>
      if y13 = 0 then (
      f_X12_goesTo_L34 n x0 x1 x2 k132 j x3 (x4 + 1) s14)
      else (
      q_call (f_X12_draw n x0 1000 s14) fun r17 s16 =>
      if r17 < y13 then (
      q_ld s16 (q_RG x0 0) 7 1790 fun v19 =>
      q_st s16 (q_RG x0 0) 7 1790 (v19 ||| (1 <<< (x4 &&& 31))) fun s20 =>
      q_callv (f_X12_notes n x0 5 x4 0 s20) fun s21 =>
      f_X12_goesTo_L34 n x0 x1 x2 k132 j (x3 + 1) (x4 + 1) s21)
      else (
      f_X12_goesTo_L34 n x0 x1 x2 k132 j x3 (x4 + 1) s16))) fun j79 =>
    if r12 = 0 then (
    q_ld s11 (q_RG x0 0) 2 1790 fun v24 =>
    q_call (f_X12_riskOf n x0 x4 x2 v24 s11) fun r26 s25 =>
    j79 r26 s25)
    else (
    j79 0 s11)))
    else (
    k132 x3 s0)
set_option maxRecDepth 100000 in
set_option maxHeartbeats 4000000 in
def f_X12_goesTo (n : Nat) (t : Nat) (a0 : Int32) (s0 : q_Sto) : Option (Int32 × q_Sto) :=
  q_ld s0 (q_RG t 0) 1 1790 fun v1 =>
  q_call (f_X12_pathOf n t v1 a0 s0) fun r3 s2 =>
  q_ld s2 (q_RG t 0) 4 1790 fun v4 =>
  q_st s2 (q_RG t 0) 4 1790 (v4 + r3) fun s5 =>
  q_callv (f_X12_notes n t 4 a0 r3 s5) fun s6 =>
  f_X12_goesTo_L34 n t a0 r3 (fun (y27 : Int32) (s28 : q_Sto) =>
  q_st s28 (q_RG t 0) 1 1790 a0 fun s29 =>
  some (y27, s29)) n 0 0 s6
set_option maxRecDepth 100000 in
set_option maxHeartbeats 4000000 in
def f_X12_go (n : Nat) (t : Nat) (a0 : Int32) (s0 : q_Sto) : Option (Int32 × q_Sto) :=
  q_call (f_X12_isCamp n a0 s0) fun r2 s1 =>
  if r2 = 0 then (
  some ((-1), s1))
  else (
  q_call (f_X12_canGo n t a0 s1) fun r5 s4 =>
  if r5 = 0 then (
  some ((-1), s4))
  else (
  q_callv (f_X12_keeps n t s4) fun s7 =>
  q_call (f_X12_goesTo n t a0 s7) fun r10 s9 =>
  some (r10, s9)))
set_option maxRecDepth 100000 in
set_option maxHeartbeats 4000000 in
def f_X12_rest (n : Nat) (t : Nat) (s0 : q_Sto) : Option (Int32 × q_Sto) :=
  q_callv (f_X12_keeps n t s0) fun s1 =>
  q_ld s1 (q_RG t 0) 7 1790 fun v3 =>
  q_call (f_X12_count n v3 s1) fun r5 s4 =>
  q_st s4 (q_RG t 0) 7 1790 0 fun s6 =>
  q_callv (f_X12_notes n t 6 (-1) 0 s6) fun s7 =>
  some (r5, s7)
set_option maxRecDepth 100000 in
set_option maxHeartbeats 4000000 in
def f_X12_does (n : Nat) (t : Nat) (a0 : Int32) (s0 : q_Sto) : Option (Int32 × q_Sto) :=
  q_ld s0 (q_RG t 0) (a0 + 2) 1790 fun v1 =>
  q_ld s0 (q_RG t 0) (a0 + 1) 1790 fun v2 =>
  if v2 = 10 then (
  q_ld s0 (q_RG t 0) (a0 + 3) 1790 fun v4 =>
  q_call (f_X12_gives n t v1 v4 s0) fun r6 s5 =>
  q_rz r6 s5)
  else
  if v2 = 11 then (
  q_callv (f_X12_sings n t v1 s0) fun s8 =>
  some (1, s8))
  else
  if v2 = 12 then (
  q_ld s0 (q_RG t 0) (a0 + 3) 1790 fun v11 =>
  q_callv (f_X12_whips n t v1 v11 s0) fun s12 =>
  some (1, s12))
  else
  if v2 = 13 then (
  q_callv (f_X12_votes n t s0) fun s15 =>
  some (1, s15))
  else
  (q_call (f_X12_canGo n t v1 s0) fun r18 s17 =>
  if r18 = 0 then (
  some (0, s17))
  else (
  q_call (f_X12_goesTo n t v1 s17) fun r21 s20 =>
  some (1, s20)))
set_option maxRecDepth 100000 in
set_option maxHeartbeats 4000000 in
def f_X12_aDay_L4 (n : Nat) (x0 : Nat) (k64 : Int32 → q_Sto → Option (Int32 × q_Sto)) : Nat → Int32 → Int32 → q_Sto → Option (Int32 × q_Sto)
  | 0, _, _, _ => none
  | j + 1, x1, x2, s0 =>
    q_ld s0 (q_RG x0 0) 91 1790 fun v1 =>
    if x2 < v1 then (
    q_ld s0 (q_RG x0 0) (141 + (4 * x2)) 1790 fun v3 =>
    q_ld s0 (q_RG x0 0) 0 1790 fun v4 =>
    if v3 = v4 then (
    q_call (f_X12_does n x0 (141 + (4 * x2)) s0) fun r7 s6 =>
    if r7 = 0 then (
    q_nm (x1 + 0) fun v9 =>
    f_X12_aDay_L4 n x0 k64 j v9 (x2 + 1) s6)
    else (
    q_nm (x1 + 1) fun v10 =>
    f_X12_aDay_L4 n x0 k64 j v10 (x2 + 1) s6))
    else (
    q_nm (x1 + 0) fun v11 =>
    f_X12_aDay_L4 n x0 k64 j v11 (x2 + 1) s0))
    else (
    k64 x1 s0)
set_option maxRecDepth 100000 in
set_option maxHeartbeats 4000000 in
def f_X12_aDay_L66 (n : Nat) (x0 : Nat) (x1 : Int32) (k111 : q_Sto → Option (Int32 × q_Sto)) : Nat → Int32 → q_Sto → Option (Int32 × q_Sto)
  | 0, _, _ => none
  | j + 1, x2, s0 =>
    q_ld s0 (q_RG x0 0) 86 1790 fun v14 =>
    if x2 < v14 then (
    q_ld s0 (q_RG x0 0) (8 + x2) 1790 fun v16 =>
    if v16 = (-1) then (
    f_X12_aDay_L66 n x0 x1 k111 j (x2 + 1) s0)
    else (
    q_ld s0 (q_RG x0 0) (8 + x2) 1790 fun v18 =>
    q_callv (f_X12_likes n x0 x2 v18 (-1) s0) fun s19 =>
    f_X12_aDay_L66 n x0 x1 k111 j (x2 + 1) s19))
    else (
    k111 s0)
set_option maxRecDepth 100000 in
set_option maxHeartbeats 4000000 in
def f_X12_aDay (n : Nat) (t : Nat) (s0 : q_Sto) : Option (Int32 × q_Sto) :=
  f_X12_aDay_L4 n t (fun (y12 : Int32) (s13 : q_Sto) =>
  f_X12_aDay_L66 n t y12 (fun  (s21 : q_Sto) =>
  q_ld s21 (q_RG t 0) 0 1790 fun v22 =>
  q_st s21 (q_RG t 0) 0 1790 (v22 + 1) fun s23 =>
  some (y12, s23)) n 0 s13) n 0 0 s0
set_option maxRecDepth 100000 in
set_option maxHeartbeats 4000000 in
def f_X12_days_L30 (n : Nat) (x0 : Nat) (x1 : Int32) : Nat → Int32 → Int32 → q_Sto → Option (Int32 × q_Sto)
  | 0, _, _, _ => none
  | j + 1, x2, x3, s0 =>
    if x3 < x1 then (
    q_callv (f_X12_keeps n x0 s0) fun s7 =>
    q_call (f_X12_aDay n x0 s7) fun r10 s9 =>
    q_nm (x2 + r10) fun v11 =>
    f_X12_days_L30 n x0 x1  j v11 (x3 + 1) s9)
    else (
    some (x2, s0))
set_option maxRecDepth 100000 in
set_option maxHeartbeats 4000000 in
def f_X12_days (n : Nat) (t : Nat) (a0 : Int32) (s0 : q_Sto) : Option (Int32 × q_Sto) :=
  q_call (f_X12_isIn n a0 1 60 s0) fun r2 s1 =>
  if r2 = 0 then (
  some ((-1), s1))
  else (
  q_ld s1 (q_RG t 0) 0 1790 fun v4 =>
  if (v4 + a0) ≤ 9999 then (
  f_X12_days_L30 n t a0  n 0 0 s1)
  else (
  some ((-1), s1)))
set_option maxRecDepth 100000 in
set_option maxHeartbeats 4000000 in
def f_X12_of (n : Nat) (t : Nat) (a0 : Int32) (a1 : Int32) (s0 : q_Sto) : Option (Int32 × q_Sto) :=
  q_call (f_X12_isMule n t a0 s0) fun r2 s1 =>
  if r2 = 0 then (
  some ((-2), s1))
  else (
  if a1 = 0 then (
  q_ld s1 (q_RG t 0) (95 + a0) 1790 fun v5 =>
  some (v5, s1))
  else
  if a1 = 1 then (
  q_ld s1 (q_RG t 0) (107 + a0) 1790 fun v7 =>
  some (v7, s1))
  else
  if a1 = 2 then (
  q_call (f_X12_isLame n t a0 s1) fun r10 s9 =>
  if r10 = 0 then (
  some (0, s9))
  else (
  some (1, s9)))
  else
  if a1 = 3 then (
  q_ld s1 (q_RG t 0) (8 + a0) 1790 fun v13 =>
  some (v13, s1))
  else
  if a1 = 4 then (
  q_ld s1 (q_RG t 0) (129 + a0) 1790 fun v15 =>
  some (v15, s1))
  else
  if a1 = 5 then (
  q_call (f_X12_needOf n t a0 s1) fun r18 s17 =>
  some (r18, s17))
  else
  (q_ld s1 (q_RG t 0) 87 1790 fun v19 =>
  q_call (f_X12_isIn n a1 10 (9 + v19) s1) fun r21 s20 =>
  if r21 = 0 then (
  q_ld s20 (q_RG t 0) 87 1790 fun v23 =>
  q_call (f_X12_isIn n a1 20 (19 + v23) s20) fun r25 s24 =>
  if r25 = 0 then (
  q_call (f_X12_isIn n a1 31 54 s24) fun r28 s27 =>
  if r28 = 0 then (
  some ((-2), s27))
  else (
  q_ld s27 (q_RG t 0) 2 1790 fun v30 =>
  q_call (f_X12_riskOf n t a0 (a1 - 30) v30 s27) fun r32 s31 =>
  some (r32, s31)))
  else (
  q_call (f_X12_leanOf n t a0 (a1 - 20) s24) fun r34 s33 =>
  some (r34, s33)))
  else (
  q_call (f_X12_likingOf n t a0 (a1 - 10) s20) fun r36 s35 =>
  some (r36, s35))))
set_option maxRecDepth 100000 in
set_option maxHeartbeats 4000000 in
def f_X12_manOf (n : Nat) (t : Nat) (a0 : Int32) (a1 : Int32) (s0 : q_Sto) : Option (Int32 × q_Sto) :=
  q_call (f_X12_isMan n t a0 s0) fun r2 s1 =>
  if r2 = 0 then (
  some ((-1), s1))
  else (
  if a1 = 0 then (
  q_ld s1 (q_RG t 0) (80 + a0) 1790 fun v5 =>
  some (v5, s1))
  else (
  if a1 = 1 then (
  q_ld s1 (q_RG t 0) (119 + a0) 1790 fun v7 =>
  some (v7, s1))
  else (
  if a1 = 2 then (
  q_ld s1 (q_RG t 0) (124 + a0) 1790 fun v9 =>
  some (v9, s1))
  else (
  if a1 = 3 then (
  q_call (f_X12_behind n t a0 s1) fun r12 s11 =>
  some (r12, s11))
  else (
  some ((-1), s1))))))
set_option maxRecDepth 100000 in
set_option maxHeartbeats 4000000 in
def f_X12_path (n : Nat) (t : Nat) (a0 : Int32) (a1 : Int32) (s0 : q_Sto) : Option (Int32 × q_Sto) :=
  q_call (f_X12_isCamp n a0 s0) fun r2 s1 =>
  if r2 = 0 then (
  some ((-1), s1))
  else (
  q_call (f_X12_isCamp n a1 s1) fun r5 s4 =>
  if r5 = 0 then (
  some ((-1), s4))
  else (
  q_call (f_X12_pathOf n t a0 a1 s4) fun r8 s7 =>
  some (r8, s7)))
set_option maxRecDepth 100000 in
set_option maxHeartbeats 4000000 in
def f_X12_book (n : Nat) (t : Nat) (a0 : Int32) (a1 : Int32) (s0 : q_Sto) : Option (Int32 × q_Sto) :=
  q_ld s0 (q_RG t 0) 6 1790 fun v1 =>
  q_call (f_X12_isIn n a0 0 (v1 - 1) s0) fun r3 s2 =>
  if r3 = 0 then (
  some ((-2), s2))
  else (
  q_call (f_X12_isIn n a1 0 3 s2) fun r6 s5 =>
  if r6 = 0 then (
  some ((-2), s5))
  else (
  q_ld s5 (q_RG t 0) ((305 + (4 * a0)) + a1) 1790 fun v8 =>
  some (v8, s5)))
set_option maxRecDepth 100000 in
set_option maxHeartbeats 4000000 in
def f_X12_lays_L2 (n : Nat) (x0 : Nat) : Nat → Int32 → q_Sto → Option (Int32 × q_Sto)
  | 0, _, _ => none
  | j + 1, x1, s0 =>
    if x1 < 86 then (
    q_ld s0 (q_RG x0 0) x1 1790 fun v2 =>
    q_st s0 (q_RG x0 3) x1 86 v2 fun s3 =>
    f_X12_lays_L2 n x0  j (x1 + 1) s3)
    else (
    q_nS1 (q_up s0 x0 26 0) fun s4 =>
    some (0, s4))
set_option maxRecDepth 100000 in
set_option maxHeartbeats 4000000 in
def f_X12_lays (n : Nat) (t : Nat) (s0 : q_Sto) : Option (Int32 × q_Sto) :=
  f_X12_lays_L2 n t  n 0 s0
set_option maxRecDepth 100000 in
set_option maxHeartbeats 4000000 in
def f_X12_putsBack_L2 (n : Nat) (x0 : Nat) : Nat → Int32 → q_Sto → Option (Int32 × q_Sto)
  | 0, _, _ => none
  | j + 1, x1, s0 =>
    if x1 < 86 then (
    q_ld s0 (q_RG x0 3) x1 86 fun v2 =>
    q_st s0 (q_RG x0 0) x1 1790 v2 fun s3 =>
    f_X12_putsBack_L2 n x0  j (x1 + 1) s3)
    else (
    some (0, s0))
set_option maxRecDepth 100000 in
set_option maxHeartbeats 4000000 in
def f_X12_putsBack (n : Nat) (t : Nat) (s0 : q_Sto) : Option (Int32 × q_Sto) :=
  f_X12_putsBack_L2 n t  n 0 s0
set_option maxRecDepth 100000 in
set_option maxHeartbeats 4000000 in
def f_X12_stands (n : Nat) (t : Nat) (a0 : Int32) (s0 : q_Sto) : Option (Int32 × q_Sto) :=
  q_call (f_X12_isMule n t a0 s0) fun r2 s1 =>
  if r2 = 0 then (
  some ((-2), s1))
  else (
  q_callv (f_X12_lays n t s1) fun s4 =>
  q_call (f_X12_stand n t s4) fun r7 s6 =>
  q_ld s6 (q_RG t 0) (8 + a0) 1790 fun v8 =>
  q_callv (f_X12_putsBack n t s6) fun s9 =>
  some (v8, s9))
set_option maxRecDepth 100000 in
set_option maxHeartbeats 4000000 in
def f_X12_settles (n : Nat) (t : Nat) (a0 : Int32) (s0 : q_Sto) : Option (Int32 × q_Sto) :=
  q_call (f_X12_isIn n a0 0 1 s0) fun r2 s1 =>
  if r2 = 0 then (
  some ((-2), s1))
  else (
  q_callv (f_X12_lays n t s1) fun s4 =>
  q_call (f_X12_stand n t s4) fun r7 s6 =>
  q_ld s6 (q_RG t 0) 2 1790 fun v8 =>
  q_callv (f_X12_putsBack n t s6) fun s9 =>
  if a0 = 0 then (
  some (r7, s9))
  else (
  some (v8, s9)))
set_option maxRecDepth 100000 in
set_option maxHeartbeats 4000000 in
def f_X12_goes_L28 (n : Nat) (x0 : Nat) (x1 : Int32) (x2 : Int32) (k44 : q_Sto → Option (Int32 × q_Sto)) : Nat → Int32 → q_Sto → Option (Int32 × q_Sto)
  | 0, _, _ => none
  | j + 1, x3, s0 =>
    if x3 < x1 then (
    q_call (f_X12_aDay n x0 s0) fun r11 s10 =>
    f_X12_goes_L28 n x0 x1 x2 k44 j (x3 + 1) s10)
    else (
    k44 s0)
set_option maxRecDepth 100000 in
set_option maxHeartbeats 4000000 in
def f_X12_goes (n : Nat) (t : Nat) (a0 : Int32) (a1 : Int32) (s0 : q_Sto) : Option (Int32 × q_Sto) :=
  q_call (f_X12_isIn n a0 1 60 s0) fun r2 s1 =>
  if r2 = 0 then (
  some ((-2), s1))
  else (
  q_call (f_X12_isIn n a1 0 3 s1) fun r5 s4 =>
  if r5 = 0 then (
  some ((-2), s4))
  else (
  q_callv (f_X12_lays n t s4) fun s7 =>
  f_X12_goes_L28 n t a0 a1 (fun  (s12 : q_Sto) =>
  if a1 = 0 then (
  q_ld s12 (q_RG t 0) 2 1790 fun v14 =>
  q_callv (f_X12_putsBack n t s12) fun s15 =>
  some (v14, s15))
  else (
  if a1 = 1 then (
  q_ld s12 (q_RG t 0) 1 1790 fun v18 =>
  q_callv (f_X12_putsBack n t s12) fun s19 =>
  some (v18, s19))
  else (
  if a1 = 2 then (
  q_ld s12 (q_RG t 0) 4 1790 fun v22 =>
  q_callv (f_X12_putsBack n t s12) fun s23 =>
  some (v22, s23))
  else (
  q_ld s12 (q_RG t 0) 3 1790 fun v25 =>
  q_callv (f_X12_putsBack n t s12) fun s26 =>
  some (v25, s26))))) n 0 s7))
set_option maxRecDepth 100000 in
set_option maxHeartbeats 4000000 in
def f_X12_winsBy_L6 (n : Nat) (x0 : Nat) (x1 : Int32) (x2 : Int32) (k40 : q_Sto → Option (Int32 × q_Sto)) : Nat → Int32 → q_Sto → Option (Int32 × q_Sto)
  | 0, _, _ => none
  | j + 1, x3, s0 =>
    q_ld s0 (q_RG x0 0) 86 1790 fun v3 =>
    if x3 < v3 then (
    if ((x2 >>> (x3 &&& 31)) &&& 1) = 1 then (
    q_callv (f_X12_likes n x0 x3 x1 15 s0) fun s6 =>
    f_X12_winsBy_L6 n x0 x1 x2 k40 j (x3 + 1) s6)
    else (
    f_X12_winsBy_L6 n x0 x1 x2 k40 j (x3 + 1) s0))
    else (
    k40 s0)
set_option maxRecDepth 100000 in
set_option maxHeartbeats 4000000 in
def f_X12_winsBy (n : Nat) (t : Nat) (a0 : Int32) (a1 : Int32) (s0 : q_Sto) : Option (Int32 × q_Sto) :=
  q_callv (f_X12_lays n t s0) fun s1 =>
  f_X12_winsBy_L6 n t a0 a1 (fun  (s8 : q_Sto) =>
  q_call (f_X12_stand n t s8) fun r10 s9 =>
  q_ld s9 (q_RG t 0) 2 1790 fun v11 =>
  if v11 = a0 then (
  q_callv (f_X12_putsBack n t s9) fun s13 =>
  some (1, s13))
  else (
  q_callv (f_X12_putsBack n t s9) fun s15 =>
  some (0, s15))) n 0 s1
set_option maxRecDepth 100000 in
set_option maxHeartbeats 4000000 in
def f_X12_wins_L24 (n : Nat) (x0 : Nat) (x1 : Int32) (x2 : Int32) (k74 : Int32 → q_Sto → Option (Int32 × q_Sto)) : Nat → Int32 → Int32 → q_Sto → Option (Int32 × q_Sto)
  | 0, _, _, _ => none
  | j + 1, x3, x4, s0 =>
    q_ld s0 (q_RG x0 0) 86 1790 fun v7 =>
    if x4 < (1 <<< (v7 &&& 31)) then (
    q_jn (fun  (s9 : q_Sto) =>
      q_call (f_X12_winsBy n x0 x1 x4 s9) fun r11 s10 =>
      if r11 = 0 then (
      f_X12_wins_L24 n x0 x1 x2 k74 j x3 (x4 + 1) s10)
      else (
      f_X12_wins_L24 n x0 x1 x2 k74 j x4 (x4 + 1) s10)) fun j55 =>
    if x3 = (-1) then (
    j55 s0)
    else (
    q_call (f_X12_count n x4 s0) fun r15 s14 =>
    q_call (f_X12_count n x3 s14) fun r17 s16 =>
    if r15 < r17 then (
    j55 s16)
    else (
    f_X12_wins_L24 n x0 x1 x2 k74 j x3 (x4 + 1) s16)))
    else (
    k74 x3 s0)
set_option maxRecDepth 100000 in
set_option maxHeartbeats 4000000 in
def f_X12_wins (n : Nat) (t : Nat) (a0 : Int32) (a1 : Int32) (s0 : q_Sto) : Option (Int32 × q_Sto) :=
  q_call (f_X12_isMan n t a0 s0) fun r2 s1 =>
  if r2 = 0 then (
  some ((-1), s1))
  else (
  q_call (f_X12_isIn n a1 0 1 s1) fun r5 s4 =>
  if r5 = 0 then (
  some ((-1), s4))
  else (
  f_X12_wins_L24 n t a0 a1 (fun (y19 : Int32) (s20 : q_Sto) =>
  if y19 = (-1) then (
  some (y19, s20))
  else (
  if a1 = 1 then (
  some (y19, s20))
  else (
  q_call (f_X12_count n y19 s20) fun r24 s23 =>
  some (r24, s23)))) n (-1) 0 s4))
set_option maxRecDepth 100000 in
set_option maxHeartbeats 4000000 in
def f_X12_turnsBy (n : Nat) (t : Nat) (a0 : Int32) (s0 : q_Sto) : Option (Int32 × q_Sto) :=
  q_call (f_X12_isMule n t a0 s0) fun r2 s1 =>
  if r2 = 0 then (
  some ((-1), s1))
  else (
  q_callv (f_X12_lays n t s1) fun s4 =>
  q_call (f_X12_stand n t s4) fun r7 s6 =>
  q_ld s6 (q_RG t 0) 2 1790 fun v8 =>
  q_ld s6 (q_RG t 0) 7 1790 fun v9 =>
  q_st s6 (q_RG t 0) 7 1790 (v9 ||| (1 <<< (a0 &&& 31))) fun s10 =>
  q_call (f_X12_stand n t s10) fun r12 s11 =>
  q_ld s11 (q_RG t 0) 2 1790 fun v13 =>
  q_callv (f_X12_putsBack n t s11) fun s14 =>
  if v8 = v13 then (
  some (0, s14))
  else (
  some (1, s14)))
set_option maxRecDepth 100000 in
set_option maxHeartbeats 4000000 in
def f_X12_greatestRisk_L4 (n : Nat) (x0 : Nat) (x1 : Int32) : Nat → Int32 → Int32 → q_Sto → Option (Int32 × q_Sto)
  | 0, _, _, _ => none
  | j + 1, x2, x3, s0 =>
    q_ld s0 (q_RG x0 0) 86 1790 fun v1 =>
    if x3 < v1 then (
    q_call (f_X12_isLame n x0 x3 s0) fun r4 s3 =>
    if r4 = 0 then (
    q_ld s3 (q_RG x0 0) 2 1790 fun v6 =>
    q_call (f_X12_riskOf n x0 x3 x1 v6 s3) fun r8 s7 =>
    q_call (f_X12_greater n x2 r8 s7) fun r10 s9 =>
    f_X12_greatestRisk_L4 n x0 x1  j r10 (x3 + 1) s9)
    else (
    f_X12_greatestRisk_L4 n x0 x1  j x2 (x3 + 1) s3))
    else (
    some (x2, s0))
set_option maxRecDepth 100000 in
set_option maxHeartbeats 4000000 in
def f_X12_greatestRisk (n : Nat) (t : Nat) (a0 : Int32) (s0 : q_Sto) : Option (Int32 × q_Sto) :=
  f_X12_greatestRisk_L4 n t a0  n 0 0 s0
set_option maxRecDepth 100000 in
set_option maxHeartbeats 4000000 in
def f_X12_priceOf (n : Nat) (t : Nat) (a0 : Int32) (a1 : Int32) (a2 : Int32) (s0 : q_Sto) : Option (Int32 × q_Sto) :=
  q_call (f_X12_pathOf n t a0 a1 s0) fun r2 s1 =>
  if r2 = (-1) then (
  some (r2, s1))
  else (
  if a2 = 0 then (
  some (r2, s1))
  else (
  q_call (f_X12_greatestRisk n t r2 s1) fun r6 s5 =>
  some (r6, s5)))
set_option maxRecDepth 100000 in
set_option maxHeartbeats 4000000 in
def f_X12_laysWays_L2 (n : Nat) (x0 : Nat) (x1 : Int32) (x2 : Int32) (k32 : q_Sto → Option (Int32 × q_Sto)) : Nat → Int32 → q_Sto → Option (Int32 × q_Sto)
  | 0, _, _ => none
  | j + 1, x3, s0 =>
    if x3 < 10 then (
    if x3 = x1 then (
    q_st s0 (q_RG x0 27) x3 10 0 fun s3 =>
    f_X12_laysWays_L2 n x0 x1 x2 k32 j (x3 + 1) s3)
    else (
    q_st s0 (q_RG x0 27) x3 10 1000000 fun s4 =>
    f_X12_laysWays_L2 n x0 x1 x2 k32 j (x3 + 1) s4))
    else (
    k32 s0)
set_option maxRecDepth 100000 in
set_option maxHeartbeats 4000000 in
def f_X12_laysWays_L53 (n : Nat) (x0 : Nat) (x2 : Int32) (x3 : Int32) (x4 : Int32) (k127 : q_Sto → Option (Int32 × q_Sto)) : Nat → Int32 → q_Sto → Option (Int32 × q_Sto)
  | 0, _, _ => none
  | j + 1, x5, s0 =>
    if x5 < 10 then (
    q_ld s0 (q_RG x0 27) x5 10 fun v9 =>
    q_jn (fun (y10 : Int32) (s11 : q_Sto) =>
      if y10 = (-1) then (
      f_X12_laysWays_L53 n x0 x2 x3 x4 k127 j (x5 + 1) s11)
      else (
      q_ld s11 (q_RG x0 27) x4 10 fun v13 =>
      q_ld s11 (q_RG x0 27) x5 10 fun v14 =>
      q_call (f_X12_lesser n v13 (y10 + v14) s11) fun r16 s15 =>
      q_st s15 (q_RG x0 27) x4 10 r16 fun s17 =>
      f_X12_laysWays_L53 n x0 x2 x3 x4 k127 j (x5 + 1) s17)) fun j86 =>
    if v9 = 1000000 then (
    j86 (-1) s0)
    else (
    q_call (f_X12_priceOf n x0 x4 x5 x2 s0) fun r20 s19 =>
    j86 r20 s19))
    else (
    k127 s0)
set_option maxRecDepth 100000 in
set_option maxHeartbeats 4000000 in
def f_X12_laysWays_L43 (n : Nat) (x0 : Nat) (x2 : Int32) (x3 : Int32) (k133 : q_Sto → Option (Int32 × q_Sto)) : Nat → Int32 → q_Sto → Option (Int32 × q_Sto)
  | 0, _, _ => none
  | j + 1, x4, s0 =>
    if x4 < 10 then (
    f_X12_laysWays_L53 n x0 x2 x3 x4 (fun  (s21 : q_Sto) =>
    f_X12_laysWays_L43 n x0 x2 x3 k133 j (x4 + 1) s21) n 0 s0)
    else (
    k133 s0)
set_option maxRecDepth 100000 in
set_option maxHeartbeats 4000000 in
def f_X12_laysWays_L34 (n : Nat) (x0 : Nat) (x2 : Int32) : Nat → Int32 → q_Sto → Option (Int32 × q_Sto)
  | 0, _, _ => none
  | j + 1, x3, s0 =>
    if x3 < 10 then (
    f_X12_laysWays_L43 n x0 x2 x3 (fun  (s22 : q_Sto) =>
    f_X12_laysWays_L34 n x0 x2  j (x3 + 1) s22) n 0 s0)
    else (
    some (0, s0))
set_option maxRecDepth 100000 in
set_option maxHeartbeats 4000000 in
def f_X12_laysWays (n : Nat) (t : Nat) (a0 : Int32) (a1 : Int32) (s0 : q_Sto) : Option (Int32 × q_Sto) :=
  f_X12_laysWays_L2 n t a0 a1 (fun  (s5 : q_Sto) =>
  f_X12_laysWays_L34 n t a1  n 0 s5) n 0 s0
set_option maxRecDepth 100000 in
set_option maxHeartbeats 4000000 in
def f_X12_way_L69 (n : Nat) (x0 : Nat) (x1 : Int32) (x2 : Int32) : Nat → Int32 → q_Sto → Option (Int32 × q_Sto)
  | 0, _, _ => none
  | j + 1, x4, s0 =>
    if x4 < 10 then (
    if x1 = x2 then (
    some ((-1), s0))
    else (
    q_call (f_X12_pathOf n x0 x1 x4 s0) fun r20 s19 =>
    if r20 = (-1) then (
    f_X12_way_L69 n x0 x1 x2  j (x4 + 1) s19)
    else (
    q_call (f_X12_pathOf n x0 x1 x4 s19) fun r23 s22 =>
    q_ld s22 (q_RG x0 27) x4 10 fun v24 =>
    q_ld s22 (q_RG x0 27) x1 10 fun v25 =>
    if (r23 + v24) = v25 then (
    some (x4, s22))
    else (
    f_X12_way_L69 n x0 x1 x2  j (x4 + 1) s22))))
    else (
    some ((-1), s0))
set_option maxRecDepth 100000 in
set_option maxHeartbeats 4000000 in
def f_X12_way (n : Nat) (t : Nat) (a0 : Int32) (a1 : Int32) (a2 : Int32) (s0 : q_Sto) : Option (Int32 × q_Sto) :=
  q_call (f_X12_isCamp n a0 s0) fun r2 s1 =>
  if r2 = 0 then (
  some ((-1), s1))
  else (
  q_call (f_X12_isCamp n a1 s1) fun r5 s4 =>
  if r5 = 0 then (
  some ((-1), s4))
  else (
  q_call (f_X12_isIn n a2 0 2 s4) fun r8 s7 =>
  if r8 = 0 then (
  some ((-1), s7))
  else (
  q_jn (fun (y10 : Int32) (s11 : q_Sto) =>
    q_callv (f_X12_laysWays n t a1 y10 s11) fun s12 =>
    q_ld s12 (q_RG t 27) a0 10 fun v14 =>
    if v14 = 1000000 then (
    some ((-1), s12))
    else (
    if a2 = 1 then (
    f_X12_way_L69 n t a0 a1  n 0 s12)
    else (
    q_ld s12 (q_RG t 27) a0 10 fun v27 =>
    some (v27, s12)))) fun j37 =>
  if a2 = 2 then (
  j37 1 s7)
  else (
  j37 0 s7))))
set_option maxRecDepth 100000 in
set_option maxHeartbeats 4000000 in
def f_X12_weightOf_L4 (n : Nat) (x0 : Nat) (x1 : Int32) : Nat → Int32 → Int32 → q_Sto → Option (Int32 × q_Sto)
  | 0, _, _, _ => none
  | j + 1, x2, x3, s0 =>
    q_ld s0 (q_RG x0 0) 93 1790 fun v1 =>
    if x3 < v1 then (
    if ((x1 >>> (x3 &&& 31)) &&& 1) = 1 then (
    q_ld s0 (q_RG x0 0) (253 + (2 * x3)) 1790 fun v4 =>
    q_nm (x2 + v4) fun v5 =>
    f_X12_weightOf_L4 n x0 x1  j v5 (x3 + 1) s0)
    else (
    q_nm (x2 + 0) fun v6 =>
    f_X12_weightOf_L4 n x0 x1  j v6 (x3 + 1) s0))
    else (
    some (x2, s0))
set_option maxRecDepth 100000 in
set_option maxHeartbeats 4000000 in
def f_X12_weightOf (n : Nat) (t : Nat) (a0 : Int32) (s0 : q_Sto) : Option (Int32 × q_Sto) :=
  f_X12_weightOf_L4 n t a0  n 0 0 s0
set_option maxRecDepth 100000 in
set_option maxHeartbeats 4000000 in
def f_X12_worthOf_L4 (n : Nat) (x0 : Nat) (x1 : Int32) : Nat → Int32 → Int32 → q_Sto → Option (Int32 × q_Sto)
  | 0, _, _, _ => none
  | j + 1, x2, x3, s0 =>
    q_ld s0 (q_RG x0 0) 93 1790 fun v1 =>
    if x3 < v1 then (
    if ((x1 >>> (x3 &&& 31)) &&& 1) = 1 then (
    q_ld s0 (q_RG x0 0) ((253 + (2 * x3)) + 1) 1790 fun v4 =>
    q_nm (x2 + v4) fun v5 =>
    f_X12_worthOf_L4 n x0 x1  j v5 (x3 + 1) s0)
    else (
    q_nm (x2 + 0) fun v6 =>
    f_X12_worthOf_L4 n x0 x1  j v6 (x3 + 1) s0))
    else (
    some (x2, s0))
set_option maxRecDepth 100000 in
set_option maxHeartbeats 4000000 in
def f_X12_worthOf (n : Nat) (t : Nat) (a0 : Int32) (s0 : q_Sto) : Option (Int32 × q_Sto) :=
  f_X12_worthOf_L4 n t a0  n 0 0 s0
set_option maxRecDepth 100000 in
set_option maxHeartbeats 4000000 in
def f_X12_laysLoads_L12 (n : Nat) (x0 : Nat) (x1 : Int32) (k38 : q_Sto → Option (Int32 × q_Sto)) : Nat → Int32 → q_Sto → Option (Int32 × q_Sto)
  | 0, _, _ => none
  | j + 1, x2, s0 =>
    if x2 < x1 then (
    if x2 = 0 then (
    q_st s0 (q_RG x0 28) x2 256 1 fun s5 =>
    f_X12_laysLoads_L12 n x0 x1 k38 j (x2 + 1) s5)
    else (
    q_st s0 (q_RG x0 28) x2 256 0 fun s6 =>
    f_X12_laysLoads_L12 n x0 x1 k38 j (x2 + 1) s6))
    else (
    k38 s0)
set_option maxRecDepth 100000 in
set_option maxHeartbeats 4000000 in
def f_X12_laysLoads_L73 (n : Nat) (x0 : Nat) (x1 : Int32) (x2 : Int32) (x3 : Int32) (k142 : q_Sto → Option (Int32 × q_Sto)) : Nat → Int32 → q_Sto → Option (Int32 × q_Sto)
  | 0, _, _ => none
  | j + 1, x4, s0 =>
    if x4 ≤ 0 then (
    k142 s0)
    else (
    q_ld s0 (q_RG x0 28) x3 256 fun v16 =>
    if v16 = 0 then (
    q_ld s0 (q_RG x0 28) (x3 &&& (x4 ^^^ (-1))) 256 fun v18 =>
    if v18 = 1 then (
    q_call (f_X12_weightOf n x0 x4 s0) fun r21 s20 =>
    q_ld s20 (q_RG x0 0) (95 + x2) 1790 fun v22 =>
    if r21 ≤ v22 then (
    q_st s20 (q_RG x0 28) x3 256 1 fun s24 =>
    q_nm ((x4 - 1) &&& x3) fun v25 =>
    f_X12_laysLoads_L73 n x0 x1 x2 x3 k142 j v25 s24)
    else (
    q_st s20 (q_RG x0 28) x3 256 0 fun s26 =>
    q_nm ((x4 - 1) &&& x3) fun v27 =>
    f_X12_laysLoads_L73 n x0 x1 x2 x3 k142 j v27 s26))
    else (
    q_st s0 (q_RG x0 28) x3 256 0 fun s28 =>
    q_nm ((x4 - 1) &&& x3) fun v29 =>
    f_X12_laysLoads_L73 n x0 x1 x2 x3 k142 j v29 s28))
    else (
    k142 s0))
set_option maxRecDepth 100000 in
set_option maxHeartbeats 4000000 in
def f_X12_laysLoads_L66 (n : Nat) (x0 : Nat) (x1 : Int32) (x2 : Int32) (k148 : q_Sto → Option (Int32 × q_Sto)) : Nat → Int32 → q_Sto → Option (Int32 × q_Sto)
  | 0, _, _ => none
  | j + 1, x3, s0 =>
    if x3 ≤ 0 then (
    k148 s0)
    else (
    f_X12_laysLoads_L73 n x0 x1 x2 x3 (fun  (s30 : q_Sto) =>
    f_X12_laysLoads_L66 n x0 x1 x2 k148 j (x3 + (-1)) s30) n x3 s0)
set_option maxRecDepth 100000 in
set_option maxHeartbeats 4000000 in
def f_X12_laysLoads_L40 (n : Nat) (x0 : Nat) (x1 : Int32) : Nat → Int32 → q_Sto → Option (Int32 × q_Sto)
  | 0, _, _ => none
  | j + 1, x2, s0 =>
    q_ld s0 (q_RG x0 0) 86 1790 fun v8 =>
    if x2 < v8 then (
    q_call (f_X12_isLame n x0 x2 s0) fun r11 s10 =>
    if r11 = 0 then (
    q_nm (x1 - 1) fun v13 =>
    f_X12_laysLoads_L66 n x0 x1 x2 (fun  (s31 : q_Sto) =>
    f_X12_laysLoads_L40 n x0 x1  j (x2 + 1) s31) n v13 s10)
    else (
    f_X12_laysLoads_L40 n x0 x1  j (x2 + 1) s10))
    else (
    some (0, s0))
set_option maxRecDepth 100000 in
set_option maxHeartbeats 4000000 in
def f_X12_laysLoads (n : Nat) (t : Nat) (s0 : q_Sto) : Option (Int32 × q_Sto) :=
  q_ld s0 (q_RG t 0) 93 1790 fun v1 =>
  q_nm (1 <<< (v1 &&& 31)) fun v2 =>
  f_X12_laysLoads_L12 n t v2 (fun  (s7 : q_Sto) =>
  f_X12_laysLoads_L40 n t v2  n 0 s7) n 0 s0
set_option maxRecDepth 100000 in
set_option maxHeartbeats 4000000 in
def f_X12_packs_L19 (n : Nat) (x0 : Nat) (x1 : Int32) (k63 : Int32 → q_Sto → Option (Int32 × q_Sto)) : Nat → Int32 → Int32 → q_Sto → Option (Int32 × q_Sto)
  | 0, _, _, _ => none
  | j + 1, x2, x3, s0 =>
    q_ld s0 (q_RG x0 0) 93 1790 fun v6 =>
    if x3 < (1 <<< (v6 &&& 31)) then (
    q_ld s0 (q_RG x0 28) x3 256 fun v8 =>
    if v8 = 1 then (
    q_call (f_X12_worthOf n x0 x3 s0) fun r11 s10 =>
    q_call (f_X12_worthOf n x0 x2 s10) fun r13 s12 =>
    if r11 ≤ r13 then (
    f_X12_packs_L19 n x0 x1 k63 j x2 (x3 + 1) s12)
    else (
    f_X12_packs_L19 n x0 x1 k63 j x3 (x3 + 1) s12))
    else (
    f_X12_packs_L19 n x0 x1 k63 j x2 (x3 + 1) s0))
    else (
    k63 x2 s0)
set_option maxRecDepth 100000 in
set_option maxHeartbeats 4000000 in
def f_X12_packs (n : Nat) (t : Nat) (a0 : Int32) (s0 : q_Sto) : Option (Int32 × q_Sto) :=
  q_call (f_X12_isIn n a0 0 1 s0) fun r2 s1 =>
  if r2 = 0 then (
  some ((-1), s1))
  else (
  q_callv (f_X12_laysLoads n t s1) fun s4 =>
  f_X12_packs_L19 n t a0 (fun (y15 : Int32) (s16 : q_Sto) =>
  if a0 = 0 then (
  q_call (f_X12_worthOf n t y15 s16) fun r19 s18 =>
  some (r19, s18))
  else (
  some (y15, s16))) n 0 1 s4)
set_option maxRecDepth 100000 in
set_option maxHeartbeats 4000000 in
def f_X12_row_L75 (n : Nat) (x0 : Nat) (x1 : Int32) (x2 : Int32) (x3 : Int32) (x4 : Int32) (x5 : Int32) (x6 : Int32) (k130 : Int32 → q_Sto → Option (Int32 × q_Sto)) : Nat → Int32 → Int32 → q_Sto → Option (Int32 × q_Sto)
  | 0, _, _, _ => none
  | j + 1, x7, x8, s0 =>
    if x8 < x1 then (
    if x7 = 0 then (
    q_ld s0 (q_RG x0 29) x6 4096 fun v10 =>
    q_ld s0 (q_RG x0 0) (129 + x8) 1790 fun v11 =>
    if (((v10 >>> (x8 &&& 31)) &&& (v11 >>> (x5 &&& 31))) &&& 1) = 1 then (
    f_X12_row_L75 n x0 x1 x2 x3 x4 x5 x6 k130 j 1 (x8 + 1) s0)
    else (
    f_X12_row_L75 n x0 x1 x2 x3 x4 x5 x6 k130 j 0 (x8 + 1) s0))
    else (
    f_X12_row_L75 n x0 x1 x2 x3 x4 x5 x6 k130 j 1 (x8 + 1) s0))
    else (
    k130 x7 s0)
set_option maxRecDepth 100000 in
set_option maxHeartbeats 4000000 in
def f_X12_row_L32 (n : Nat) (x0 : Nat) (x1 : Int32) (x2 : Int32) (x3 : Int32) (k154 : Int32 → q_Sto → Option (Int32 × q_Sto)) : Nat → Int32 → Int32 → q_Sto → Option (Int32 × q_Sto)
  | 0, _, _, _ => none
  | j + 1, x4, x5, s0 =>
    if x5 < x1 then (
    if ((x3 >>> (x5 &&& 31)) &&& 1) = 0 then (
    f_X12_row_L32 n x0 x1 x2 x3 k154 j x4 (x5 + 1) s0)
    else (
    q_nm (x3 &&& ((1 <<< (x5 &&& 31)) ^^^ (-1))) fun v6 =>
    if v6 = 0 then (
    f_X12_row_L75 n x0 x1 x2 x3 x4 x5 v6 (fun (y13 : Int32) (s14 : q_Sto) =>
    if y13 = 0 then (
    q_nm (x4 ||| 0) fun v16 =>
    f_X12_row_L32 n x0 x1 x2 x3 k154 j v16 (x5 + 1) s14)
    else (
    q_nm (x4 ||| (1 <<< (x5 &&& 31))) fun v17 =>
    f_X12_row_L32 n x0 x1 x2 x3 k154 j v17 (x5 + 1) s14)) n 1 0 s0)
    else (
    f_X12_row_L75 n x0 x1 x2 x3 x4 x5 v6 (fun (y23 : Int32) (s24 : q_Sto) =>
    if y23 = 0 then (
    q_nm (x4 ||| 0) fun v26 =>
    f_X12_row_L32 n x0 x1 x2 x3 k154 j v26 (x5 + 1) s24)
    else (
    q_nm (x4 ||| (1 <<< (x5 &&& 31))) fun v27 =>
    f_X12_row_L32 n x0 x1 x2 x3 k154 j v27 (x5 + 1) s24)) n 0 0 s0)))
    else (
    k154 x4 s0)
set_option maxRecDepth 100000 in
set_option maxHeartbeats 4000000 in
def f_X12_row_L19 (n : Nat) (x0 : Nat) (x1 : Int32) : Nat → Int32 → Int32 → q_Sto → Option (Int32 × q_Sto)
  | 0, _, _, _ => none
  | j + 1, x2, x3, s0 =>
    if x3 < (1 <<< (x1 &&& 31)) then (
    f_X12_row_L32 n x0 x1 x2 x3 (fun (y28 : Int32) (s29 : q_Sto) =>
    q_st s29 (q_RG x0 29) x3 4096 y28 fun s30 =>
    if y28 = 0 then (
    f_X12_row_L19 n x0 x1  j x2 (x3 + 1) s30)
    else (
    q_call (f_X12_count n x3 s30) fun r33 s32 =>
    q_call (f_X12_greater n x2 r33 s32) fun r35 s34 =>
    f_X12_row_L19 n x0 x1  j r35 (x3 + 1) s34)) n 0 0 s0)
    else (
    some (x2, s0))
set_option maxRecDepth 100000 in
set_option maxHeartbeats 4000000 in
def f_X12_row (n : Nat) (t : Nat) (s0 : q_Sto) : Option (Int32 × q_Sto) :=
  q_ld s0 (q_RG t 0) 86 1790 fun v1 =>
  q_st s0 (q_RG t 29) 0 4096 0 fun s2 =>
  f_X12_row_L19 n t v1  n 0 1 s2
set_option maxRecDepth 100000 in
set_option maxHeartbeats 4000000 in
def f_X12_seen (n : Nat) (t : Nat) (a0 : Int32) (a1 : Int32) (a2 : Int32) (s0 : q_Sto) : Option (Int32 × q_Sto) :=
  if a0 = (-1) then (
  q_st s0 (q_RG t 0) 94 1790 0 fun s2 =>
  some (0, s2))
  else (
  q_call (f_X12_isMule n t a0 s0) fun r4 s3 =>
  if r4 = 0 then (
  some ((-1), s3))
  else (
  q_call (f_X12_isMan n t a1 s3) fun r7 s6 =>
  if r7 = 0 then (
  some ((-1), s6))
  else (
  q_ld s6 (q_RG t 0) 94 1790 fun v9 =>
  if v9 = 12 then (
  some ((-1), s6))
  else (
  q_ld s6 (q_RG t 0) 94 1790 fun v11 =>
  q_nm (269 + (3 * v11)) fun v12 =>
  q_st s6 (q_RG t 0) v12 1790 a0 fun s13 =>
  q_st s13 (q_RG t 0) (v12 + 1) 1790 a1 fun s14 =>
  q_jn (fun (y15 : Int32) (s16 : q_Sto) =>
    q_st s16 (q_RG t 0) (v12 + 2) 1790 y15 fun s17 =>
    q_ld s17 (q_RG t 0) 94 1790 fun v18 =>
    q_st s17 (q_RG t 0) 94 1790 (v18 + 1) fun s19 =>
    q_ld s19 (q_RG t 0) 94 1790 fun v20 =>
    some (v20, s19)) fun j95 =>
  if a2 = 0 then (
  j95 0 s14)
  else (
  j95 1 s14)))))
set_option maxRecDepth 100000 in
set_option maxHeartbeats 4000000 in
def f_X12_isFitting_L2 (n : Nat) (x0 : Nat) (x1 : Int32) : Nat → Int32 → q_Sto → Option (Int32 × q_Sto)
  | 0, _, _ => none
  | j + 1, x2, s0 =>
    q_ld s0 (q_RG x0 0) 94 1790 fun v1 =>
    if x2 < v1 then (
    q_nm (269 + (3 * x2)) fun v3 =>
    q_ld s0 (q_RG x0 0) v3 1790 fun v4 =>
    q_ld s0 (q_RG x0 0) (v3 + 1) 1790 fun v5 =>
    q_call (f_X12_likingOf n x0 v4 v5 s0) fun r7 s6 =>
    q_jn (fun (y8 : Int32) (s9 : q_Sto) =>
      q_ld s9 (q_RG x0 0) (v3 + 2) 1790 fun v10 =>
      if y8 = v10 then (
      f_X12_isFitting_L2 n x0 x1  j (x2 + 1) s9)
      else (
      some (0, s9))) fun j48 =>
    if r7 < x1 then (
    j48 0 s6)
    else (
    j48 1 s6))
    else (
    some (1, s0))
set_option maxRecDepth 100000 in
set_option maxHeartbeats 4000000 in
def f_X12_isFitting (n : Nat) (t : Nat) (a0 : Int32) (s0 : q_Sto) : Option (Int32 × q_Sto) :=
  f_X12_isFitting_L2 n t a0  n 0 s0
set_option maxRecDepth 100000 in
set_option maxHeartbeats 4000000 in
def f_X12_fitting_L4 (n : Nat) (x0 : Nat) (x1 : Int32) : Nat → Int32 → Int32 → q_Sto → Option (Int32 × q_Sto)
  | 0, _, _, _ => none
  | j + 1, x2, x3, s0 =>
    if x3 ≤ x1 then (
    q_call (f_X12_isFitting n x0 x3 s0) fun r3 s2 =>
    if r3 = 0 then (
    q_nm (x2 + 0) fun v5 =>
    f_X12_fitting_L4 n x0 x1  j v5 (x3 + 1) s2)
    else (
    q_nm (x2 + 1) fun v6 =>
    f_X12_fitting_L4 n x0 x1  j v6 (x3 + 1) s2))
    else (
    some (x2, s0))
set_option maxRecDepth 100000 in
set_option maxHeartbeats 4000000 in
def f_X12_fitting (n : Nat) (t : Nat) (a0 : Int32) (s0 : q_Sto) : Option (Int32 × q_Sto) :=
  f_X12_fitting_L4 n t a0  n 0 0 s0
set_option maxRecDepth 100000 in
set_option maxHeartbeats 4000000 in
def f_X12_leastFitting_L2 (n : Nat) (x0 : Nat) : Nat → Int32 → q_Sto → Option (Int32 × q_Sto)
  | 0, _, _ => none
  | j + 1, x1, s0 =>
    if x1 ≤ 99 then (
    q_call (f_X12_isFitting n x0 x1 s0) fun r3 s2 =>
    if r3 = 0 then (
    f_X12_leastFitting_L2 n x0  j (x1 + 1) s2)
    else (
    some (x1, s2)))
    else (
    some ((-1), s0))
set_option maxRecDepth 100000 in
set_option maxHeartbeats 4000000 in
def f_X12_leastFitting (n : Nat) (t : Nat) (s0 : q_Sto) : Option (Int32 × q_Sto) :=
  f_X12_leastFitting_L2 n t  n 0 s0
set_option maxRecDepth 100000 in
set_option maxHeartbeats 4000000 in
def f_X12_fits_L66 (n : Nat) (x0 : Nat) (x1 : Int32) (x2 : Int32) (x5 : Int32) (k134 : Int32 → Int32 → q_Sto → Option (Int32 × q_Sto)) : Nat → Int32 → Int32 → Int32 → q_Sto → Option (Int32 × q_Sto)
  | 0, _, _, _, _ => none
  | j + 1, x3, x4, x6, s0 =>
    q_ld s0 (q_RG x0 0) 87 1790 fun v13 =>
    if x6 < v13 then (
    q_call (f_X12_likingOf n x0 x5 x6 s0) fun r16 s15 =>
    q_call (f_X12_fitting n x0 r16 s15) fun r18 s17 =>
    q_call (f_X12_greater n r18 (x2 - r18) s17) fun r20 s19 =>
    if r20 < x4 then (
    q_call (f_X12_greater n r18 (x2 - r18) s19) fun r23 s22 =>
    q_nm ((5 * x5) + x6) fun v24 =>
    f_X12_fits_L66 n x0 x1 x2 x5 k134 j v24 r23 (x6 + 1) s22)
    else (
    f_X12_fits_L66 n x0 x1 x2 x5 k134 j x3 x4 (x6 + 1) s19))
    else (
    k134 x3 x4 s0)
set_option maxRecDepth 100000 in
set_option maxHeartbeats 4000000 in
def f_X12_fits_L46 (n : Nat) (x0 : Nat) (x1 : Int32) (x2 : Int32) (k140 : Int32 → q_Sto → Option (Int32 × q_Sto)) : Nat → Int32 → Int32 → Int32 → q_Sto → Option (Int32 × q_Sto)
  | 0, _, _, _, _ => none
  | j + 1, x3, x4, x5, s0 =>
    q_ld s0 (q_RG x0 0) 86 1790 fun v10 =>
    if x5 < v10 then (
    if x2 ≤ 1 then (
    k140 x3 s0)
    else (
    f_X12_fits_L66 n x0 x1 x2 x5 (fun (y25 : Int32) (y26 : Int32) (s27 : q_Sto) =>
    f_X12_fits_L46 n x0 x1 x2 k140 j y25 y26 (x5 + 1) s27) n x3 x4 0 s0))
    else (
    k140 x3 s0)
set_option maxRecDepth 100000 in
set_option maxHeartbeats 4000000 in
def f_X12_fits (n : Nat) (t : Nat) (a0 : Int32) (s0 : q_Sto) : Option (Int32 × q_Sto) :=
  q_call (f_X12_isIn n a0 0 3 s0) fun r2 s1 =>
  if r2 = 0 then (
  some ((-1), s1))
  else (
  q_call (f_X12_fitting n t 99 s1) fun r5 s4 =>
  if a0 < 2 then (
  if a0 = 0 then (
  some (r5, s4))
  else (
  q_call (f_X12_leastFitting n t s4) fun r9 s8 =>
  some (r9, s8)))
  else (
  f_X12_fits_L46 n t a0 r5 (fun (y28 : Int32) (s29 : q_Sto) =>
  if y28 = (-1) then (
  some ((-1), s29))
  else (
  if a0 = 2 then (
  q_dv y28 5 fun v32 =>
  some (v32, s29))
  else (
  q_rem y28 5 fun v33 =>
  some (v33, s29)))) n (-1) 1000000 0 s4))
set_option maxRecDepth 100000 in
set_option maxHeartbeats 4000000 in
def f_X12_ledBy_L8 (n : Nat) (x0 : Nat) (x1 : Int32) (x2 : Int32) (x3 : Int32) : Nat → Int32 → Int32 → q_Sto → Option (Int32 × q_Sto)
  | 0, _, _, _ => none
  | j + 1, x4, x5, s0 =>
    q_ld s0 (q_RG x0 0) 86 1790 fun v1 =>
    if x5 < v1 then (
    q_call (f_X12_riskOf n x0 x5 x3 x1 s0) fun r4 s3 =>
    q_jn (fun (y5 : Int32) (s6 : q_Sto) =>
      q_dv x4 1000 fun v7 =>
      q_rem x4 1000 fun v8 =>
      q_dv (v8 * y5) 1000 fun v9 =>
      q_nm ((v7 * y5) + v9) fun v10 =>
      f_X12_ledBy_L8 n x0 x1 x2 x3  j v10 (x5 + 1) s6) fun j51 =>
    if ((x2 >>> (x5 &&& 31)) &&& 1) = 1 then (
    j51 r4 s3)
    else (
    j51 (1000 - r4) s3))
    else (
    some (x4, s0))
set_option maxRecDepth 100000 in
set_option maxHeartbeats 4000000 in
def f_X12_ledBy (n : Nat) (t : Nat) (a0 : Int32) (a1 : Int32) (a2 : Int32) (s0 : q_Sto) : Option (Int32 × q_Sto) :=
  f_X12_ledBy_L8 n t a0 a1 a2  n 1000000 0 s0
set_option maxRecDepth 100000 in
set_option maxHeartbeats 4000000 in
def f_X12_led_L49 (n : Nat) (x0 : Nat) (x1 : Int32) (x2 : Int32) (x3 : Int32) (k95 : Int32 → Int32 → q_Sto → Option (Int32 × q_Sto)) : Nat → Int32 → Int32 → Int32 → q_Sto → Option (Int32 × q_Sto)
  | 0, _, _, _, _ => none
  | j + 1, x4, x5, x6, s0 =>
    q_ld s0 (q_RG x0 0) 87 1790 fun v11 =>
    if x6 < v11 then (
    q_call (f_X12_ledBy n x0 x6 x1 x2 s0) fun r14 s13 =>
    if r14 ≤ x5 then (
    f_X12_led_L49 n x0 x1 x2 x3 k95 j x4 x5 (x6 + 1) s13)
    else (
    f_X12_led_L49 n x0 x1 x2 x3 k95 j x6 r14 (x6 + 1) s13))
    else (
    k95 x4 x5 s0)
set_option maxRecDepth 100000 in
set_option maxHeartbeats 4000000 in
def f_X12_led (n : Nat) (t : Nat) (a0 : Int32) (a1 : Int32) (a2 : Int32) (s0 : q_Sto) : Option (Int32 × q_Sto) :=
  q_ld s0 (q_RG t 0) 86 1790 fun v1 =>
  q_call (f_X12_isIn n a0 0 ((1 <<< (v1 &&& 31)) - 1) s0) fun r3 s2 =>
  if r3 = 0 then (
  some ((-1), s2))
  else (
  q_call (f_X12_isIn n a1 1 24 s2) fun r6 s5 =>
  if r6 = 0 then (
  some ((-1), s5))
  else (
  q_call (f_X12_isIn n a2 0 1 s5) fun r9 s8 =>
  if r9 = 0 then (
  some ((-1), s8))
  else (
  f_X12_led_L49 n t a0 a1 a2 (fun (y16 : Int32) (y17 : Int32) (s18 : q_Sto) =>
  if a2 = 0 then (
  some (y16, s18))
  else (
  some (y17, s18))) n (-1) (-1) 0 s8)))
set_option maxRecDepth 100000 in
set_option maxHeartbeats 4000000 in
def f_X12_leastBut_L2 (n : Nat) (x0 : Int32) (x1 : Int32) : Nat → Int32 → q_Sto → Option (Int32 × q_Sto)
  | 0, _, _ => none
  | j + 1, x2, s0 =>
    if x2 = x0 then (
    f_X12_leastBut_L2 n x0 x1  j (x2 + 1) s0)
    else (
    if x2 = x1 then (
    f_X12_leastBut_L2 n x0 x1  j (x2 + 1) s0)
    else (
    some (x2, s0)))
set_option maxRecDepth 100000 in
set_option maxHeartbeats 4000000 in
def f_X12_leastBut (n : Nat) (a0 : Int32) (a1 : Int32) (s0 : q_Sto) : Option (Int32 × q_Sto) :=
  f_X12_leastBut_L2 n a0 a1  n 0 s0
set_option maxRecDepth 100000 in
set_option maxHeartbeats 4000000 in
def f_X12_game_L20 (n : Nat) (x0 : Nat) (x1 : Int32) (k57 : q_Sto → Option (Int32 × q_Sto)) : Nat → Int32 → q_Sto → Option (Int32 × q_Sto)
  | 0, _, _ => none
  | j + 1, x2, s0 =>
    if x2 ≤ 99 then (
    q_ld s0 (q_RG x0 30) (x2 - 1) 100 fun v6 =>
    q_dv x2 2 fun v7 =>
    q_ld s0 (q_RG x0 30) v7 100 fun v8 =>
    q_call (f_X12_leastBut n v6 v8 s0) fun r10 s9 =>
    q_st s9 (q_RG x0 30) x2 100 r10 fun s11 =>
    f_X12_game_L20 n x0 x1 k57 j (x2 + 1) s11)
    else (
    k57 s0)
set_option maxRecDepth 100000 in
set_option maxHeartbeats 4000000 in
def f_X12_game_L61 (n : Nat) (x0 : Nat) (x1 : Int32) (k95 : Int32 → q_Sto → Option (Int32 × q_Sto)) : Nat → Int32 → Int32 → q_Sto → Option (Int32 × q_Sto)
  | 0, _, _, _ => none
  | j + 1, x2, x3, s0 =>
    q_ld s0 (q_RG x0 0) 87 1790 fun v13 =>
    if x3 < v13 then (
    q_ld s0 (q_RG x0 0) (80 + x3) 1790 fun v15 =>
    q_ld s0 (q_RG x0 30) v15 100 fun v16 =>
    q_nm (x2 ^^^ v16) fun v17 =>
    f_X12_game_L61 n x0 x1 k95 j v17 (x3 + 1) s0)
    else (
    k95 x2 s0)
set_option maxRecDepth 100000 in
set_option maxHeartbeats 4000000 in
def f_X12_game_L97 (n : Nat) (x0 : Nat) (x1 : Int32) (x2 : Int32) (k149 : Int32 → Int32 → q_Sto → Option (Int32 × q_Sto)) (k181 : Int32 → Int32 → q_Sto → Option (Int32 × q_Sto)) : Nat → Int32 → q_Sto → Option (Int32 × q_Sto)
  | 0, _, _ => none
  | j + 1, x3, s0 =>
    q_ld s0 (q_RG x0 0) 87 1790 fun v20 =>
    if x3 < v20 then (
    q_ld s0 (q_RG x0 0) (80 + x3) 1790 fun v22 =>
    q_ld s0 (q_RG x0 30) v22 100 fun v23 =>
    q_nm (x2 ^^^ v23) fun v24 =>
    q_jn (fun  (s25 : q_Sto) =>
      if v22 ≤ 0 then (
      f_X12_game_L97 n x0 x1 x2 k149 k181 j (x3 + 1) s25)
      else (
      q_ld s25 (q_RG x0 30) (v22 - 1) 100 fun v27 =>
      if v27 = v24 then (
      k181 x3 v22 s25)
      else (
      f_X12_game_L97 n x0 x1 x2 k149 k181 j (x3 + 1) s25))) fun j162 =>
    if v22 ≤ 0 then (
    j162 s0)
    else (
    q_dv v22 2 fun v30 =>
    q_ld s0 (q_RG x0 30) v30 100 fun v31 =>
    if v31 = v24 then (
    k149 x3 v22 s0)
    else (
    j162 s0)))
    else (
    some ((-1), s0))
set_option maxRecDepth 100000 in
set_option maxHeartbeats 4000000 in
def f_X12_game (n : Nat) (t : Nat) (a0 : Int32) (s0 : q_Sto) : Option (Int32 × q_Sto) :=
  q_call (f_X12_isIn n a0 0 1 s0) fun r2 s1 =>
  if r2 = 0 then (
  some ((-1), s1))
  else (
  q_st s1 (q_RG t 30) 0 100 0 fun s4 =>
  f_X12_game_L20 n t a0 (fun  (s12 : q_Sto) =>
  f_X12_game_L61 n t a0 (fun (y18 : Int32) (s19 : q_Sto) =>
  f_X12_game_L97 n t a0 y18 (fun (y33 : Int32) (y34 : Int32) (s35 : q_Sto) =>
  if a0 = 0 then (
  some (y33, s35))
  else (
  q_dv y34 2 fun v37 =>
  some (v37, s35))) (fun (y38 : Int32) (y39 : Int32) (s40 : q_Sto) =>
  if a0 = 0 then (
  some (y38, s40))
  else (
  some (y39 - 1, s40))) n 0 s19) n 0 0 s12) n 1 s4)
set_option maxRecDepth 100000 in
set_option maxHeartbeats 4000000 in
def f_X12_heedersOf_L4 (n : Nat) (x0 : Nat) (x1 : Int32) : Nat → Int32 → Int32 → q_Sto → Option (Int32 × q_Sto)
  | 0, _, _, _ => none
  | j + 1, x2, x3, s0 =>
    q_ld s0 (q_RG x0 0) 86 1790 fun v1 =>
    if x3 < v1 then (
    q_ld s0 (q_RG x0 0) (129 + x3) 1790 fun v3 =>
    q_nm (x2 + ((v3 >>> (x1 &&& 31)) &&& 1)) fun v4 =>
    f_X12_heedersOf_L4 n x0 x1  j v4 (x3 + 1) s0)
    else (
    some (x2, s0))
set_option maxRecDepth 100000 in
set_option maxHeartbeats 4000000 in
def f_X12_heedersOf (n : Nat) (t : Nat) (a0 : Int32) (s0 : q_Sto) : Option (Int32 × q_Sto) :=
  f_X12_heedersOf_L4 n t a0  n 0 0 s0
set_option maxRecDepth 100000 in
set_option maxHeartbeats 4000000 in
def f_X12_share_L26 (n : Nat) (x0 : Nat) (x1 : Int32) (x2 : Int32) (k53 : Int32 → q_Sto → Option (Int32 × q_Sto)) : Nat → Int32 → Int32 → q_Sto → Option (Int32 × q_Sto)
  | 0, _, _, _ => none
  | j + 1, x3, x4, s0 =>
    q_ld s0 (q_RG x0 0) 86 1790 fun v7 =>
    if x4 < v7 then (
    q_call (f_X12_heedersOf n x0 x4 s0) fun r10 s9 =>
    q_nm (x3 + r10) fun v11 =>
    f_X12_share_L26 n x0 x1 x2 k53 j v11 (x4 + 1) s9)
    else (
    k53 x3 s0)
set_option maxRecDepth 100000 in
set_option maxHeartbeats 4000000 in
def f_X12_share_L76 (n : Nat) (x0 : Nat) (x1 : Int32) (x2 : Int32) (x3 : Int32) (k134 : Int32 → Int32 → q_Sto → Option (Int32 × q_Sto)) : Nat → Int32 → Int32 → Int32 → q_Sto → Option (Int32 × q_Sto)
  | 0, _, _, _, _ => none
  | j + 1, x4, x5, x6, s0 =>
    q_ld s0 (q_RG x0 0) 86 1790 fun v18 =>
    if x6 < v18 then (
    q_call (f_X12_heedersOf n x0 x6 s0) fun r21 s20 =>
    q_dv (x1 * r21) x3 fun v22 =>
    q_nm (x4 - v22) fun v23 =>
    if x6 < x2 then (
    q_call (f_X12_heedersOf n x0 x6 s20) fun r26 s25 =>
    if r26 ≤ 0 then (
    q_nm (x5 + 0) fun v28 =>
    f_X12_share_L76 n x0 x1 x2 x3 k134 j v23 v28 (x6 + 1) s25)
    else (
    q_nm (x5 + 1) fun v29 =>
    f_X12_share_L76 n x0 x1 x2 x3 k134 j v23 v29 (x6 + 1) s25))
    else (
    q_nm (x5 + 0) fun v30 =>
    f_X12_share_L76 n x0 x1 x2 x3 k134 j v23 v30 (x6 + 1) s20))
    else (
    k134 x4 x5 s0)
set_option maxRecDepth 100000 in
set_option maxHeartbeats 4000000 in
def f_X12_share (n : Nat) (t : Nat) (a0 : Int32) (a1 : Int32) (s0 : q_Sto) : Option (Int32 × q_Sto) :=
  q_call (f_X12_isIn n a0 0 9999 s0) fun r2 s1 =>
  if r2 = 0 then (
  some ((-1), s1))
  else (
  q_call (f_X12_isMule n t a1 s1) fun r5 s4 =>
  if r5 = 0 then (
  some ((-1), s4))
  else (
  f_X12_share_L26 n t a0 a1 (fun (y12 : Int32) (s13 : q_Sto) =>
  if y12 = 0 then (
  some (0, s13))
  else (
  q_call (f_X12_heedersOf n t a1 s13) fun r16 s15 =>
  if r16 = 0 then (
  some (0, s15))
  else (
  f_X12_share_L76 n t a0 a1 y12 (fun (y31 : Int32) (y32 : Int32) (s33 : q_Sto) =>
  q_call (f_X12_heedersOf n t a1 s33) fun r35 s34 =>
  q_dv (a0 * r35) y12 fun v36 =>
  if y32 < y31 then (
  some (v36 + 1, s34))
  else (
  some (v36 + 0, s34))) n a0 0 0 s15))) n 0 0 s4))
set_option maxRecDepth 100000 in
set_option maxHeartbeats 4000000 in
def f_X12_lineFrom_L2 (n : Nat) (x0 : Nat) (x1 : Int32) (k29 : Int32 → q_Sto → Option (Int32 × q_Sto)) : Nat → Int32 → q_Sto → Option (Int32 × q_Sto)
  | 0, _, _ => none
  | j + 1, x2, s0 =>
    q_ld s0 (q_RG x0 0) 92 1790 fun v1 =>
    if x2 < v1 then (
    q_ld s0 (q_RG x0 0) (205 + (3 * x2)) 1790 fun v3 =>
    if v3 = x1 then (
    k29 x2 s0)
    else (
    f_X12_lineFrom_L2 n x0 x1 k29 j (x2 + 1) s0))
    else (
    some ((-1), s0))
set_option maxRecDepth 100000 in
set_option maxHeartbeats 4000000 in
def f_X12_lineFrom (n : Nat) (t : Nat) (a0 : Int32) (s0 : q_Sto) : Option (Int32 × q_Sto) :=
  f_X12_lineFrom_L2 n t a0 (fun (y5 : Int32) (s6 : q_Sto) =>
  some (205 + (3 * y5), s6)) n 0 s0
set_option maxRecDepth 100000 in
set_option maxHeartbeats 4000000 in
def f_X12_campAt_L12 (n : Nat) (x0 : Nat) : Nat → Int32 → Int32 → Int32 → q_Sto → Option (Int32 × q_Sto)
  | 0, _, _, _, _ => none
  | j + 1, x3, x4, x5, s0 =>
    if x4 ≤ 0 then (
    some (x3, s0))
    else (
    if x5 = (-1) then (
    some (x3, s0))
    else (
    q_ld s0 (q_RG x0 0) (x5 + 2) 1790 fun v5 =>
    if v5 ≤ x4 then (
    q_ld s0 (q_RG x0 0) (x5 + 2) 1790 fun v7 =>
    q_nm (x4 - v7) fun v8 =>
    q_ld s0 (q_RG x0 0) (x5 + 1) 1790 fun v9 =>
    q_call (f_X12_lineFrom n x0 v9 s0) fun r11 s10 =>
    f_X12_campAt_L12 n x0  j v9 v8 r11 s10)
    else (
    some ((-1), s0))))
set_option maxRecDepth 100000 in
set_option maxHeartbeats 4000000 in
def f_X12_campAt (n : Nat) (t : Nat) (a0 : Int32) (a1 : Int32) (s0 : q_Sto) : Option (Int32 × q_Sto) :=
  q_call (f_X12_lineFrom n t a0 s0) fun r2 s1 =>
  f_X12_campAt_L12 n t  n a0 a1 r2 s1
set_option maxRecDepth 100000 in
set_option maxHeartbeats 4000000 in
def f_X12_meets_L18 (n : Nat) (x0 : Nat) (x1 : Int32) (x2 : Int32) : Nat → Int32 → q_Sto → Option (Int32 × q_Sto)
  | 0, _, _ => none
  | j + 1, x3, s0 =>
    if x3 < 100 then (
    q_call (f_X12_campAt n x0 x1 x3 s0) fun r9 s8 =>
    if r9 = (-1) then (
    f_X12_meets_L18 n x0 x1 x2  j (x3 + 1) s8)
    else (
    q_call (f_X12_campAt n x0 x1 x3 s8) fun r12 s11 =>
    q_call (f_X12_campAt n x0 x2 x3 s11) fun r14 s13 =>
    if r12 = r14 then (
    some (x3, s13))
    else (
    f_X12_meets_L18 n x0 x1 x2  j (x3 + 1) s13)))
    else (
    some ((-1), s0))
set_option maxRecDepth 100000 in
set_option maxHeartbeats 4000000 in
def f_X12_meets (n : Nat) (t : Nat) (a0 : Int32) (a1 : Int32) (s0 : q_Sto) : Option (Int32 × q_Sto) :=
  q_call (f_X12_isCamp n a0 s0) fun r2 s1 =>
  if r2 = 0 then (
  some ((-1), s1))
  else (
  q_call (f_X12_isCamp n a1 s1) fun r5 s4 =>
  if r5 = 0 then (
  some ((-1), s4))
  else (
  f_X12_meets_L18 n t a0 a1  n 0 s4))
set_option maxRecDepth 100000 in
set_option maxHeartbeats 4000000 in
def f_X12_image_L15 (n : Nat) (x0 : Nat) (x1 : Int32) (k59 : q_Sto → Option (Int32 × q_Sto)) : Nat → Int32 → q_Sto → Option (Int32 × q_Sto)
  | 0, _, _ => none
  | j + 1, x2, s0 =>
    if x2 < 1790 then (
    if x1 = 0 then (
    q_ld s0 (q_RG x0 1) x2 1790 fun v5 =>
    q_st s0 (q_RG x0 0) x2 1790 v5 fun s6 =>
    f_X12_image_L15 n x0 x1 k59 j (x2 + 1) s6)
    else (
    q_ld s0 (q_RG x0 0) x2 1790 fun v7 =>
    q_st s0 (q_RG x0 1) x2 1790 v7 fun s8 =>
    f_X12_image_L15 n x0 x1 k59 j (x2 + 1) s8))
    else (
    k59 s0)
set_option maxRecDepth 100000 in
set_option maxHeartbeats 4000000 in
def f_X12_image (n : Nat) (t : Nat) (a0 : Int32) (s0 : q_Sto) : Option (Int32 × q_Sto) :=
  if a0 = 0 then (
  if (s0 t 5) = 0 then (
  some (0, s0))
  else (
  f_X12_image_L15 n t a0 (fun  (s9 : q_Sto) =>
  if a0 = 0 then (
  q_callv (f_X12_forgets n t s9) fun s11 =>
  q_nS1 (q_up s11 t 5 1) fun s13 =>
  some (1, s13))
  else (
  q_nS1 (q_up s9 t 5 1) fun s14 =>
  some (1, s14))) n 0 s0))
  else (
  f_X12_image_L15 n t a0 (fun  (s21 : q_Sto) =>
  if a0 = 0 then (
  q_callv (f_X12_forgets n t s21) fun s23 =>
  q_nS1 (q_up s23 t 5 1) fun s25 =>
  some (1, s25))
  else (
  q_nS1 (q_up s21 t 5 1) fun s26 =>
  some (1, s26))) n 0 s0)
set_option maxRecDepth 100000 in
set_option maxHeartbeats 4000000 in
def f_X12_look (n : Nat) (t : Nat) (a0 : Int32) (s0 : q_Sto) : Option (Int32 × q_Sto) :=
  if a0 = 0 then (
  q_ld s0 (q_RG t 0) 86 1790 fun v2 =>
  some (v2, s0))
  else
  if a0 = 1 then (
  q_ld s0 (q_RG t 0) 87 1790 fun v4 =>
  some (v4, s0))
  else
  if a0 = 2 then (
  q_ld s0 (q_RG t 0) 0 1790 fun v6 =>
  some (v6, s0))
  else
  if a0 = 3 then (
  q_ld s0 (q_RG t 0) 88 1790 fun v8 =>
  some (v8, s0))
  else
  if a0 = 4 then (
  q_ld s0 (q_RG t 0) 1 1790 fun v10 =>
  some (v10, s0))
  else
  if a0 = 5 then (
  q_ld s0 (q_RG t 0) 2 1790 fun v12 =>
  some (v12, s0))
  else
  if a0 = 6 then (
  q_ld s0 (q_RG t 0) 3 1790 fun v14 =>
  some (v14, s0))
  else
  if a0 = 7 then (
  q_ld s0 (q_RG t 0) 4 1790 fun v16 =>
  some (v16, s0))
  else
  if a0 = 8 then (
  q_ld s0 (q_RG t 0) 7 1790 fun v18 =>
  some (v18, s0))
  else
  if a0 = 9 then (
  q_ld s0 (q_RG t 0) 6 1790 fun v20 =>
  some (v20, s0))
  else
  if a0 = 10 then (
  q_ld s0 (q_RG t 0) 5 1790 fun v22 =>
  some (v22, s0))
  else
  if a0 = 11 then (
  q_ld s0 (q_RG t 0) 89 1790 fun v24 =>
  some (v24, s0))
  else
  if a0 = 12 then (
  q_ld s0 (q_RG t 0) 90 1790 fun v26 =>
  some (v26, s0))
  else
  if a0 = 13 then (
  q_ld s0 (q_RG t 0) 91 1790 fun v28 =>
  some (v28, s0))
  else
  if a0 = 14 then (
  q_ld s0 (q_RG t 0) 92 1790 fun v30 =>
  some (v30, s0))
  else
  if a0 = 15 then (
  q_ld s0 (q_RG t 0) 93 1790 fun v32 =>
  some (v32, s0))
  else
  if a0 = 16 then (
  q_ld s0 (q_RG t 0) 94 1790 fun v34 =>
  some (v34, s0))
  else
  if a0 = 17 then (
  some ((s0 t 4), s0))
  else
  (some ((-1), s0))
