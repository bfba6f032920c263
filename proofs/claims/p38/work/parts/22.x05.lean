set_option maxRecDepth 100000 in
set_option maxHeartbeats 4000000 in
def F_L_law_L1004 (n : Nat) (x0 : Nat) (x2 : Nat) (x3 : Nat) (x4 : Int32) (x5 : Int32) (x10 : Nat) (k1027 : x_U → Option (Int32 × x_U)) : Nat → Int32 → x_U → Option (Int32 × x_U)
  | 0, _, _ => none
  | j + 1, x12, s0 =>
    if x12 < 6 then (
    x_lr s0 x3 x12 fun o38 =>
    x_sr s0 x3 (x12 - 1) o38 fun s39 =>
    F_L_law_L1004 n x0 x2 x3 x4 x5 x10 k1027 j (x12 + 1) s39)
    else (
    k1027 s0)
set_option maxRecDepth 100000 in
set_option maxHeartbeats 4000000 in
def F_L_law_L165 (n : Nat) (x0 : Nat) (x2 : Nat) (x3 : Nat) (x4 : Int32) (x5 : Int32) (x10 : Nat) (x11 : Int32) (x12 : Int32) (x13 : Int32) (x14 : Int32) (k188 : x_U → Option (Int32 × x_U)) : Nat → Int32 → x_U → Option (Int32 × x_U)
  | 0, _, _ => none
  | j + 1, x15, s0 =>
    if x15 < 6 then (
    x_lr s0 x3 x15 fun o53 =>
    x_sr s0 x3 (x15 - 1) o53 fun s54 =>
    F_L_law_L165 n x0 x2 x3 x4 x5 x10 x11 x12 x13 x14 k188 j (x15 + 1) s54)
    else (
    k188 s0)
set_option maxRecDepth 100000 in
set_option maxHeartbeats 4000000 in
def F_L_law_L148 (n : Nat) (x0 : Nat) (x2 : Nat) (x3 : Nat) (x5 : Int32) (x10 : Nat) (x11 : Int32) (x12 : Int32) (k218 : Int32 → Int32 → x_U → Option (Int32 × x_U)) : Nat → Int32 → Int32 → Int32 → x_U → Option (Int32 × x_U)
  | 0, _, _, _, _ => none
  | j + 1, x4, x13, x14, s0 =>
    if x14 < x12 then (
    x_nm (fun (y43 : Int32) (s44 : x_U) =>
      x_o s44 x2 12 <|
      x_call (F_X12_copy n x2 s44) fun o46 s45 =>
      x_sr s45 x3 y43 o46 fun s48 =>
      x_o s48 x2 12 <|
      x_call (F_X12_passes n x2 1 s48) fun r50 s49 =>
      x_nm (x13 + r50) fun v52 =>
      F_L_law_L148 n x0 x2 x3 x5 x10 x11 x12 k218 j (y43 + 1) v52 (x14 + 1) s49) fun j191 =>
    if x4 = 6 then (
    F_L_law_L165 n x0 x2 x3 x4 x5 x10 x11 x12 x13 x14 (fun  (s55 : x_U) =>
    j191 (x4 + (-1)) s55) n 1 s0)
    else (
    j191 x4 s0))
    else (
    k218 x4 x13 s0)
set_option maxRecDepth 100000 in
set_option maxHeartbeats 4000000 in
def F_L_law_L431 (n : Nat) (x0 : Nat) (x2 : Nat) (x3 : Nat) (x4 : Int32) (x5 : Int32) (x6 : Int32) (x10 : Nat) (x13 : Nat) (x14 : Int32) (k479 : Int32 → x_U → Option (Int32 × x_U)) : Nat → Int32 → Int32 → x_U → Option (Int32 × x_U)
  | 0, _, _, _ => none
  | j + 1, x12, x15, s0 =>
    if x15 < x14 then (
    x_lr s0 x13 x15 fun o89 =>
    x_ld s0 o89 0 fun v90 =>
    x_gi s0 x2 12 2 fun v91 =>
    x_nm (fun (y92 : Int32) (s93 : x_U) =>
      F_L_law_L431 n x0 x2 x3 x4 x5 x6 x10 x13 x14 k479 j y92 (x15 + 1) s93) fun j473 =>
    if v90 = v91 then (
    if ((x6 >>> (8 &&& 31)) &&& 1) = 1 then (
    x_ld s0 o89 1 fun v94 =>
    j473 v94 s0)
    else (
    j473 x12 s0))
    else (
    j473 x12 s0))
    else (
    k479 x12 s0)
set_option maxRecDepth 100000 in
set_option maxHeartbeats 4000000 in
def F_L_law_L549 (n : Nat) (x0 : Nat) (x2 : Nat) (x3 : Nat) (x4 : Int32) (x5 : Int32) (x10 : Nat) (x11 : Int32) (x12 : Int32) (k574 : x_U → Option (Int32 × x_U)) : Nat → Int32 → x_U → Option (Int32 × x_U)
  | 0, _, _ => none
  | j + 1, x13, s0 =>
    x_gi s0 x2 12 7 fun v120 =>
    if x13 < v120 then (
    x_gr s0 x2 12 12 fun o121 =>
    x_lr s0 o121 x13 fun o122 =>
    x_st s0 o122 2 0 fun s123 =>
    F_L_law_L549 n x0 x2 x3 x4 x5 x10 x11 x12 k574 j (x13 + 1) s123)
    else (
    k574 s0)
set_option maxRecDepth 100000 in
set_option maxHeartbeats 4000000 in
def F_L_law_L41 (n : Nat) (x0 : Nat) (x3 : Nat) (k1066 : Nat → x_U → Option (Int32 × x_U)) : Nat → Nat → Int32 → Int32 → x_U → Option (Int32 × x_U)
  | 0, _, _, _, _ => none
  | j + 1, x2, x4, x5, s0 =>
    if x5 < 22 then (
    x_rem x5 12 fun v8 =>
    x_call (F_L_cell n x0 (6 + v8) s0) fun r10 s9 =>
    x_dv x5 12 fun v11 =>
    x_nm ((r10 * (v11 + 1)) + (191 * x5)) fun v12 =>
    x_call (F_L_between n v12 0 13 s9) fun r14 s13 =>
    x_gi s13 x2 12 7 fun v15 =>
    x_call (F_L_between n (v12 >>> (3 &&& 31)) 0 v15 s13) fun r17 s16 =>
    x_gi s16 x2 12 8 fun v18 =>
    x_call (F_L_between n (v12 >>> (5 &&& 31)) 0 v18 s16) fun r20 s19 =>
    x_o s19 x2 12 <|
    x_call (F_X12_copy n x2 s19) fun o22 s21 =>
    x_nm (fun (y24 : Nat) (y25 : Int32) (y26 : Int32) (s27 : x_U) =>
      x_nm (fun (y28 : Int32) (s29 : x_U) =>
        x_calc s29 (f_X11_look n 0 17 (x_c s29)) fun r31 s30 =>
        if r31 = y28 then (
        x_o s30 y24 12 <|
        x_call (F_X12_isSame n y24 s30) fun r33 s32 =>
        if r33 = 0 then (
        some (0, s32))
        else (
        F_L_law_L41 n x0 x3 k1066 j y24 y28 (x5 + 1) s32))
        else (
        some (0, s30))) fun j1039 =>
      if y26 = 0 then (
      j1039 y25 s27)
      else (
      x_nm (fun (y35 : Int32) (s36 : x_U) =>
        x_sr s36 x3 y35 o22 fun s37 =>
        j1039 (y35 + 1) s37) fun j1030 =>
      if y25 = 6 then (
      F_L_law_L1004 n x0 y24 x3 y25 x5 o22 (fun  (s40 : x_U) =>
      j1030 (y25 + (-1)) s40) n 1 s27)
      else (
      j1030 y25 s27))) fun j989 =>
    if r14 < 2 then (
    x_call (F_L_between n (v12 >>> (5 &&& 31)) 1 6 s21) fun r42 s41 =>
    F_L_law_L148 n x0 x2 x3 x5 o22 0 r42 (fun (y56 : Int32) (y57 : Int32) (s58 : x_U) =>
    x_calc s58 (f_X11_days n 0 r42 (x_c s58)) fun r60 s59 =>
    if r60 = y57 then (
    j989 x2 y56 0 s59)
    else (
    some (0, s59))) n x4 0 0 s41)
    else (
    if r14 < 5 then (
    x_o s21 x2 12 <|
    x_call (F_X12_votes n x2 1 s21) fun r62 s61 =>
    x_calc s61 (f_X11_vote n 0  (x_c s61)) fun r65 s64 =>
    x_gi s64 x2 12 3 fun v66 =>
    if r65 = v66 then (
    j989 x2 x4 1 s64)
    else (
    some (0, s64)))
    else (
    if r14 < 7 then (
    x_call (F_L_between n (v12 >>> (6 &&& 31)) 0 3 s21) fun r68 s67 =>
    x_nm (fun (y69 : Int32) (s70 : x_U) =>
      x_nm (fun (y71 : Int32) (s72 : x_U) =>
        x_calc s72 (f_X11_act n 0 r68 r20 r17 (x_c s72)) fun r74 s73 =>
        if r74 = y71 then (
        j989 x2 x4 y71 s73)
        else (
        some (0, s73))) fun j341 =>
      x_nm (fun  (s75 : x_U) =>
        j341 0 s75) fun j340 =>
      if y69 = 0 then (
      j340 s70)
      else (
      x_o s70 x2 12 <|
      x_call (F_X12_does n x2 r68 r20 r17 1 s70) fun r77 s76 =>
      if r77 = 0 then (
      j340 s76)
      else (
      j341 1 s76))) fun j315 =>
    x_nm (fun  (s79 : x_U) =>
      j315 0 s79) fun j314 =>
    if r68 < 3 then (
    x_gi s67 x2 12 8 fun v80 =>
    if r20 < v80 then (
    x_nm (fun  (s81 : x_U) =>
      j315 1 s81) fun j310 =>
    if r68 = 1 then (
    j310 s67)
    else (
    x_gi s67 x2 12 7 fun v82 =>
    if r17 < v82 then (
    j310 s67)
    else (
    j314 s67)))
    else (
    j314 s67))
    else (
    j314 s67))
    else (
    if r14 = 7 then (
    x_gr s21 x2 12 15 fun o83 =>
    x_len s21 o83 fun v84 =>
    x_nm (fun (y85 : Int32) (s86 : x_U) =>
      x_gr s86 x2 12 15 fun o87 =>
      x_len s86 o87 fun v88 =>
      F_L_law_L431 n x0 x2 x3 x4 x5 v12 o22 o87 v88 (fun (y95 : Int32) (s96 : x_U) =>
      x_nm (fun (y97 : Int32) (s98 : x_U) =>
        x_nm (fun (y99 : Int32) (s100 : x_U) =>
          x_calc s100 (f_X11_go n 0 y95 (x_c s100)) fun r102 s101 =>
          if r102 = y97 then (
          j989 x2 x4 y99 s101)
          else (
          some (0, s101))) fun j509 =>
        if y97 < 0 then (
        j509 0 s98)
        else (
        j509 1 s98)) fun j497 =>
      if y95 < 10 then (
      x_o s96 x2 12 <|
      x_call (F_X12_goes n x2 y95 1 s96) fun r104 s103 =>
      j497 r104 s103)
      else (
      j497 (-1) s96)) n y85 0 s86) fun j415 =>
    if v84 = 0 then (
    x_call (F_L_between n (v12 >>> (6 &&& 31)) 0 10 s21) fun r107 s106 =>
    j415 r107 s106)
    else (
    x_gr s21 x2 12 15 fun o108 =>
    x_gr s21 x2 12 15 fun o109 =>
    x_len s21 o109 fun v110 =>
    x_call (F_L_between n (v12 >>> (6 &&& 31)) 0 (v110 - 1) s21) fun r112 s111 =>
    x_lr s111 o108 r112 fun o113 =>
    x_ld s111 o113 1 fun v114 =>
    j415 v114 s111))
    else (
    if r14 = 8 then (
    x_o s21 x2 12 <|
    x_call (F_X12_lame n x2 s21) fun r116 s115 =>
    x_call (F_J6_bitCount_0f7a4 n r116 s115) fun r119 s118 =>
    F_L_law_L549 n x0 x2 x3 x4 x5 o22 1 r119 (fun  (s124 : x_U) =>
    x_o s124 x2 12 <|
    x_call (F_X12_notes n x2 6 (-1) 0 1 s124) fun r126 s125 =>
    x_calc s125 (f_X11_rest n 0  (x_c s125)) fun r129 s128 =>
    if r129 = r119 then (
    j989 x2 x4 1 s128)
    else (
    some (0, s128))) n 0 s118)
    else (
    if r14 = 9 then (
    x_call (F_L_between n (v12 >>> (4 &&& 31)) 0 6 s21) fun r131 s130 =>
    x_nm (fun (y132 : Int32) (s133 : x_U) =>
      x_nm (fun (y134 : Int32) (s135 : x_U) =>
        x_call (F_L_between n (v12 >>> (6 &&& 31)) 0 y134 s135) fun r137 s136 =>
        x_nwa s136 0 7 fun o138 s139 =>
        x_st s139 o138 0 9 fun s140 =>
        x_st s140 o138 1 9 fun s141 =>
        x_st s141 o138 2 1 fun s142 =>
        x_st s142 o138 3 99 fun s143 =>
        x_st s143 o138 4 9 fun s144 =>
        x_st s144 o138 5 9 fun s145 =>
        x_st s145 o138 6 (-1) fun s146 =>
        x_ld s146 o138 r131 fun v147 =>
        x_nm (fun (y148 : Int32) (s149 : x_U) =>
          x_calc s149 (f_X11_set n 0 r131 y132 r137 (x_c s149)) fun r151 s150 =>
          if r151 = y148 then (
          x_nm (fun (y152 : Int32) (s153 : x_U) =>
            j989 x2 y152 0 s153) fun j825 =>
          if y148 = 0 then (
          j825 x4 s150)
          else (
          x_nm (fun  (s154 : x_U) =>
            x_nm (fun  (s155 : x_U) =>
              x_nm (fun  (s156 : x_U) =>
                x_nm (fun  (s157 : x_U) =>
                  j825 0 s157) fun j822 =>
                if r131 ≤ 2 then (
                j822 s156)
                else (
                x_gr s156 x2 12 13 fun o158 =>
                x_lr s156 o158 r20 fun o159 =>
                x_st s156 o159 (r131 - 3) r137 fun s160 =>
                j822 s160)) fun j802 =>
              if r131 = 2 then (
              x_gr s155 x2 12 12 fun o161 =>
              x_lr s155 o161 r17 fun o162 =>
              x_st s155 o162 2 r137 fun s163 =>
              j802 s163)
              else (
              j802 s155)) fun j785 =>
            if r131 = 1 then (
            x_pi s154 x2 12 2 r137 fun s164 =>
            j785 s164)
            else (
            j785 s154)) fun j773 =>
          if r131 = 0 then (
          x_pi s150 x2 12 6 r137 fun s165 =>
          j773 s165)
          else (
          j773 s150)))
          else (
          some (0, s150))) fun j738 =>
        x_nm (fun  (s166 : x_U) =>
          j738 0 s166) fun j737 =>
        if r137 ≤ v147 then (
        x_nm (fun  (s167 : x_U) =>
          j738 1 s167) fun j733 =>
        if r131 < 2 then (
        j733 s146)
        else (
        x_nm (fun (y168 : Int32) (s169 : x_U) =>
          if y132 < y168 then (
          j733 s169)
          else (
          j737 s169)) fun j730 =>
        if r131 = 2 then (
        x_gi s146 x2 12 7 fun v170 =>
        j730 v170 s146)
        else (
        x_gi s146 x2 12 8 fun v171 =>
        j730 v171 s146)))
        else (
        j737 s146)) fun j650 =>
      if r131 = 3 then (
      j650 100 s133)
      else (
      j650 10 s133)) fun j629 =>
    if r131 = 2 then (
    j629 r17 s130)
    else (
    j629 r20 s130))
    else (
    if r14 = 10 then (
    x_call (F_L_between n (v12 >>> (6 &&& 31)) 0 100 s21) fun r173 s172 =>
    x_gi s172 x2 12 7 fun v174 =>
    x_nm (fun (y175 : Int32) (s176 : x_U) =>
      x_calc s176 (f_X11_like n 0 r17 r20 r173 (x_c s176)) fun r178 s177 =>
      if r178 = y175 then (
      x_nm (fun (y179 : Int32) (s180 : x_U) =>
        j989 x2 y179 0 s180) fun j919 =>
      if y175 = 0 then (
      j919 x4 s177)
      else (
      x_gr s177 x2 12 12 fun o181 =>
      x_lr s177 o181 r17 fun o182 =>
      x_st s177 o182 (5 + r20) r173 fun s183 =>
      j919 0 s183))
      else (
      some (0, s177))) fun j878 =>
    x_nm (fun  (s184 : x_U) =>
      j878 0 s184) fun j877 =>
    if r17 < v174 then (
    x_gi s172 x2 12 8 fun v185 =>
    if r20 < v185 then (
    if r173 < 100 then (
    j878 1 s172)
    else (
    j877 s172))
    else (
    j877 s172))
    else (
    j877 s172))
    else (
    if r14 = 11 then (
    if ((v12 >>> (6 &&& 31)) &&& 1) = 0 then (
    x_call (F_L_texts n x2 v12 s21) fun r187 s186 =>
    if r187 = 0 then (
    some (0, s186))
    else (
    j989 x2 0 0 s186))
    else (
    j989 x2 x4 0 s21))
    else (
    x_calc s21 (f_X11_undo n 0  (x_c s21)) fun r189 s188 =>
    x_nm (fun (y190 : Int32) (s191 : x_U) =>
      if r189 = y190 then (
      if x4 ≤ 0 then (
      j989 x2 x4 0 s191)
      else (
      x_lr s191 x3 (x4 + (-1)) fun o192 =>
      j989 o192 (x4 + (-1)) 0 s191))
      else (
      some (0, s191))) fun j971 =>
    if x4 ≤ 0 then (
    j971 0 s188)
    else (
    j971 1 s188))))))))))
    else (
    k1066 x2 s0)
set_option maxRecDepth 100000 in
set_option maxHeartbeats 4000000 in
def F_L_law (n : Nat) (s0 : x_U) : Option (Int32 × x_U) :=
  x_call (F_L_train n (x_CT + 2) 0 s0) fun o2 s1 =>
  if o2 = 0 then (
  some (0, s1))
  else (
  x_o s1 o2 12 <|
  x_call (F_X12_isSame n o2 s1) fun r4 s3 =>
  if r4 = 0 then (
  some (0, s3))
  else (
  x_nwa s3 4 6 fun o6 s7 =>
  F_L_law_L41 n (x_CT + 2) o6 (fun (y193 : Nat) (s194 : x_U) =>
  x_calc s194 (f_X11_days n 0 0 (x_c s194)) fun r196 s195 =>
  if r196 = (-1) then (
  x_calc s195 (f_X11_days n 0 61 (x_c s195)) fun r198 s197 =>
  if r198 = (-1) then (
  x_calc s197 (f_X11_mule n 0 0 0 (x_c s197)) fun r200 s199 =>
  if r200 = (-1) then (
  x_calc s199 (f_X11_mule n 0 41 0 (x_c s199)) fun r202 s201 =>
  if r202 = (-1) then (
  x_calc s201 (f_X11_mule n 0 1 41 (x_c s201)) fun r204 s203 =>
  if r204 = (-1) then (
  x_calc s203 (f_X11_man n 0 100 0 0 (x_c s203)) fun r206 s205 =>
  if r206 = (-1) then (
  x_calc s205 (f_X11_man n 0 0 10 0 (x_c s205)) fun r208 s207 =>
  if r208 = (-1) then (
  x_calc s207 (f_X11_man n 0 0 0 10 (x_c s207)) fun r210 s209 =>
  if r210 = (-1) then (
  x_calc s209 (f_X11_set n 0 1 0 10 (x_c s209)) fun r212 s211 =>
  if r212 = 0 then (
  x_gi s211 y193 12 7 fun v213 =>
  x_calc s211 (f_X11_set n 0 2 v213 0 (x_c s211)) fun r215 s214 =>
  if r215 = 0 then (
  x_calc s214 (f_X11_like n 0 0 (-1) 0 (x_c s214)) fun r217 s216 =>
  if r217 = 0 then (
  x_calc s216 (f_X11_act n 0 3 0 0 (x_c s216)) fun r219 s218 =>
  if r219 = 0 then (
  x_calc s218 (f_X11_act n 0 1 (-1) 0 (x_c s218)) fun r221 s220 =>
  if r221 = 0 then (
  x_calc s220 (f_X11_go n 0 (-1) (x_c s220)) fun r223 s222 =>
  if r223 = (-1) then (
  x_calc s222 (f_X11_go n 0 10 (x_c s222)) fun r225 s224 =>
  if r225 = (-1) then (
  x_calc s224 (f_X11_path n 0 0 10 (x_c s224)) fun r227 s226 =>
  if r227 = (-1) then (
  x_calc s226 (f_X11_book n 0 0 4 (x_c s226)) fun r229 s228 =>
  if r229 = (-2) then (
  x_calc s228 (f_X11_look n 0 18 (x_c s228)) fun r231 s230 =>
  if r231 = (-1) then (
  x_o s230 y193 12 <|
  x_call (F_X12_isSame n y193 s230) fun r233 s232 =>
  if r233 = 0 then (
  some (0, s232))
  else (
  some (1, s232)))
  else (
  some (0, s230)))
  else (
  some (0, s228)))
  else (
  some (0, s226)))
  else (
  some (0, s224)))
  else (
  some (0, s222)))
  else (
  some (0, s220)))
  else (
  some (0, s218)))
  else (
  some (0, s216)))
  else (
  some (0, s214)))
  else (
  some (0, s211)))
  else (
  some (0, s209)))
  else (
  some (0, s207)))
  else (
  some (0, s205)))
  else (
  some (0, s203)))
  else (
  some (0, s201)))
  else (
  some (0, s199)))
  else (
  some (0, s197)))
  else (
  some (0, s195))) n o2 0 0 s7))
set_option maxRecDepth 100000 in
set_option maxHeartbeats 4000000 in
theorem T_L_law_L1004 {w : q_Wd} {cx : q_Cx} {M0 : Nat} {nm : String} (hop : w.2.2.2.2.2.1 = none) {n : Nat} {x0 : Nat} {x2 : Nat} {x3 : Nat} {x4 : Int32} {x5 : Int32} {x10 : Nat} {k1027 : x_U → Option (Int32 × x_U)} (hk1027 : ∀  (s1 : x_U), x_G w cx RL nm code 17 (some .boolean) 16 648 M0 x_aI 1027 [some (x_v w x0), some (q_rf w 0), some (x_v w x2), some (x_v w x3), some (.int x4), some (.int x5), none, none, none, none, some (x_v w x10), none, none, none, none, none, none] [] s1 (k1027 s1)) :
    ∀ (j : Nat) (x12 : Int32) (s0 : x_U), x_G w cx RL nm code 17 (some .boolean) 16 648 M0 x_aI 1004 [some (x_v w x0), some (q_rf w 0), some (x_v w x2), some (x_v w x3), some (.int x4), some (.int x5), none, none, none, none, some (x_v w x10), none, some (.int x12), none, none, none, none] [] s0 (F_L_law_L1004 n x0 x2 x3 x4 x5 x10 k1027 j x12 s0) := by
  intro j
  induction j with
  | zero =>
    intro _ _
    rw [F_L_law_L1004]
    exact x_none
  | succ j ih =>
    intro x12 s0
    rw [F_L_law_L1004]
    refine x_iload dL_law_1004 rfl (pc2 := 1006) rfl ?_
    refine x_bipush dL_law_1006 bp_6 (pc2 := 1008) rfl ?_
    refine x_icmp_ge dL_law_1008 (pc1 := 1011) (pc2 := 1027) rfl rfl (fun _ => ?_) (fun _ => ?_)
    · refine x_aload_n dL_law_1011 x_vR rfl (pc2 := 1012) rfl ?_
      refine x_iload dL_law_1012 rfl (pc2 := 1014) rfl ?_
      refine x_iconst dL_law_1014 ic_1 (pc2 := 1015) rfl ?_
      refine x_isub dL_law_1015 (pc2 := 1016) rfl ?_
      refine x_aload_n dL_law_1016 x_vR rfl (pc2 := 1017) rfl ?_
      refine x_iload dL_law_1017 rfl (pc2 := 1019) rfl ?_
      refine x_aald dL_law_1019 (pc2 := 1020) rfl (fun o38 => ?_)
      refine x_aast dL_law_1020 (pc2 := 1021) rfl (fun s39 => ?_)
      refine x_iinc dL_law_1021 rfl (q_ii ic_1) (by decide) (L2 := [some (x_v w x0), some (q_rf w 0), some (x_v w x2), some (x_v w x3), some (.int x4), some (.int x5), none, none, none, none, some (x_v w x10), none, some (.int (x12 + 1)), none, none, none, none]) rfl (pc2 := 1024) rfl ?_
      refine x_goto dL_law_1024 (pc2 := 1004) rfl ?_
      exact ih _ _
    · refine x_Gmask [true, true, true, true, true, true, true, true, true, true, true, true, false, true, true, true, true] (L2 := [some (x_v w x0), some (q_rf w 0), some (x_v w x2), some (x_v w x3), some (.int x4), some (.int x5), none, none, none, none, some (x_v w x10), none, none, none, none, none, none]) rfl ?_
      exact hk1027 _
set_option maxRecDepth 100000 in
set_option maxHeartbeats 4000000 in
theorem T_L_law_L165 {w : q_Wd} {cx : q_Cx} {M0 : Nat} {nm : String} (hop : w.2.2.2.2.2.1 = none) {n : Nat} {x0 : Nat} {x2 : Nat} {x3 : Nat} {x4 : Int32} {x5 : Int32} {x10 : Nat} {x11 : Int32} {x12 : Int32} {x13 : Int32} {x14 : Int32} {k188 : x_U → Option (Int32 × x_U)} (hk188 : ∀  (s1 : x_U), x_G w cx RL nm code 17 (some .boolean) 16 648 M0 x_aI 188 [some (x_v w x0), some (q_rf w 0), some (x_v w x2), some (x_v w x3), some (.int x4), some (.int x5), none, none, none, none, some (x_v w x10), some (.int x11), some (.int x12), some (.int x13), some (.int x14), none, none] [] s1 (k188 s1)) :
    ∀ (j : Nat) (x15 : Int32) (s0 : x_U), x_G w cx RL nm code 17 (some .boolean) 16 648 M0 x_aI 165 [some (x_v w x0), some (q_rf w 0), some (x_v w x2), some (x_v w x3), some (.int x4), some (.int x5), none, none, none, none, some (x_v w x10), some (.int x11), some (.int x12), some (.int x13), some (.int x14), some (.int x15), none] [] s0 (F_L_law_L165 n x0 x2 x3 x4 x5 x10 x11 x12 x13 x14 k188 j x15 s0) := by
  intro j
  induction j with
  | zero =>
    intro _ _
    rw [F_L_law_L165]
    exact x_none
  | succ j ih =>
    intro x15 s0
    rw [F_L_law_L165]
    refine x_iload dL_law_165 rfl (pc2 := 167) rfl ?_
    refine x_bipush dL_law_167 bp_6 (pc2 := 169) rfl ?_
    refine x_icmp_ge dL_law_169 (pc1 := 172) (pc2 := 188) rfl rfl (fun _ => ?_) (fun _ => ?_)
    · refine x_aload_n dL_law_172 x_vR rfl (pc2 := 173) rfl ?_
      refine x_iload dL_law_173 rfl (pc2 := 175) rfl ?_
      refine x_iconst dL_law_175 ic_1 (pc2 := 176) rfl ?_
      refine x_isub dL_law_176 (pc2 := 177) rfl ?_
      refine x_aload_n dL_law_177 x_vR rfl (pc2 := 178) rfl ?_
      refine x_iload dL_law_178 rfl (pc2 := 180) rfl ?_
      refine x_aald dL_law_180 (pc2 := 181) rfl (fun o53 => ?_)
      refine x_aast dL_law_181 (pc2 := 182) rfl (fun s54 => ?_)
      refine x_iinc dL_law_182 rfl (q_ii ic_1) (by decide) (L2 := [some (x_v w x0), some (q_rf w 0), some (x_v w x2), some (x_v w x3), some (.int x4), some (.int x5), none, none, none, none, some (x_v w x10), some (.int x11), some (.int x12), some (.int x13), some (.int x14), some (.int (x15 + 1)), none]) rfl (pc2 := 185) rfl ?_
      refine x_goto dL_law_185 (pc2 := 165) rfl ?_
      exact ih _ _
    · refine x_Gmask [true, true, true, true, true, true, true, true, true, true, true, true, true, true, true, false, true] (L2 := [some (x_v w x0), some (q_rf w 0), some (x_v w x2), some (x_v w x3), some (.int x4), some (.int x5), none, none, none, none, some (x_v w x10), some (.int x11), some (.int x12), some (.int x13), some (.int x14), none, none]) rfl ?_
      exact hk188 _
set_option maxRecDepth 100000 in
set_option maxHeartbeats 4000000 in
theorem T_L_law_L148 {w : q_Wd} {cx : q_Cx} {M0 : Nat} {nm : String} (hop : w.2.2.2.2.2.1 = none) {n : Nat} {x0 : Nat} {x2 : Nat} {x3 : Nat} {x5 : Int32} {x10 : Nat} {x11 : Int32} {x12 : Int32} {k218 : Int32 → Int32 → x_U → Option (Int32 × x_U)} (hk218 : ∀ (y4 : Int32) (y13 : Int32) (s1 : x_U), x_G w cx RL nm code 17 (some .boolean) 16 648 M0 x_aI 218 [some (x_v w x0), some (q_rf w 0), some (x_v w x2), some (x_v w x3), some (.int y4), some (.int x5), none, none, none, none, some (x_v w x10), some (.int x11), some (.int x12), some (.int y13), none, none, none] [] s1 (k218 y4 y13 s1)) :
    ∀ (j : Nat) (x4 : Int32) (x13 : Int32) (x14 : Int32) (s0 : x_U), x_G w cx RL nm code 17 (some .boolean) 16 648 M0 x_aI 148 [some (x_v w x0), some (q_rf w 0), some (x_v w x2), some (x_v w x3), some (.int x4), some (.int x5), none, none, none, none, some (x_v w x10), some (.int x11), some (.int x12), some (.int x13), some (.int x14), none, none] [] s0 (F_L_law_L148 n x0 x2 x3 x5 x10 x11 x12 k218 j x4 x13 x14 s0) := by
  intro j
  induction j with
  | zero =>
    intro _ _ _ _
    rw [F_L_law_L148]
    exact x_none
  | succ j ih =>
    intro x4 x13 x14 s0
    rw [F_L_law_L148]
    refine x_iload dL_law_148 rfl (pc2 := 150) rfl ?_
    refine x_iload dL_law_150 rfl (pc2 := 152) rfl ?_
    refine x_icmp_ge dL_law_152 (pc1 := 155) (pc2 := 218) rfl rfl (fun _ => ?_) (fun _ => ?_)
    · refine x_iload dL_law_155 rfl (pc2 := 157) rfl ?_
      refine x_bipush dL_law_157 bp_6 (pc2 := 159) rfl ?_
      refine x_jn (P := fun j191 => ∀ (y43 : Int32) (s44 : x_U), x_G w cx RL nm code 17 (some .boolean) 16 648 M0 x_aI 191 [some (x_v w x0), some (q_rf w 0), some (x_v w x2), some (x_v w x3), some (.int y43), some (.int x5), none, none, none, none, some (x_v w x10), some (.int x11), some (.int x12), some (.int x13), some (.int x14), none, none] [] s44 (j191 y43 s44)) (fun y43 s44 => ?_) (fun j191 hj191 => ?_)
      · refine x_aload_n dL_law_191 x_vR rfl (pc2 := 192) rfl ?_
        refine x_iload dL_law_192 rfl (pc2 := 194) rfl ?_
        refine x_iinc dL_law_194 rfl (q_ii ic_1) (by decide) (L2 := [some (x_v w x0), some (q_rf w 0), some (x_v w x2), some (x_v w x3), some (.int (y43 + 1)), some (.int x5), none, none, none, none, some (x_v w x10), some (.int x11), some (.int x12), some (.int x13), some (.int x14), none, none]) rfl (pc2 := 197) rfl ?_
        refine x_aload_n dL_law_197 x_vR rfl (pc2 := 198) rfl ?_
        refine x_oo (ci := 12) (fun hk47 => ?_)
        refine x_callVR (As := []) C2_X12_copy xm_X12_copy (fun h => by first | rfl | cases h) xl_L_187 hk47 rfl rfl ⟨by decide, by decide⟩ (Nat.le_trans (x_sm rfl (x_sm x_vcat x_s0)) (by decide)) dL_law_198 (pc2 := 201) rfl (fun o46 s45 => ?_) hop
        refine x_aast dL_law_201 (pc2 := 202) rfl (fun s48 => ?_)
        refine x_iload dL_law_202 rfl (pc2 := 204) rfl ?_
        refine x_aload_n dL_law_204 x_vR rfl (pc2 := 205) rfl ?_
        refine x_iconst dL_law_205 ic_1 (pc2 := 206) rfl ?_
        refine x_oo (ci := 12) (fun hk51 => ?_)
        refine x_callVI (As := [.int 1]) C2_X12_passes xm_X12_passes (fun h => by first | rfl | cases h) xl_L_191 hk51 rfl rfl ⟨by decide, by decide⟩ (Nat.le_trans (x_sm rfl x_s0) (by decide)) dL_law_206 (pc2 := 209) rfl (fun r50 s49 => ?_) hop
        refine x_iadd dL_law_209 (pc2 := 210) rfl ?_
        refine x_gnm (fun v52 => ?_)
        refine x_istore dL_law_210 (by decide) (L2 := [some (x_v w x0), some (q_rf w 0), some (x_v w x2), some (x_v w x3), some (.int (y43 + 1)), some (.int x5), none, none, none, none, some (x_v w x10), some (.int x11), some (.int x12), some (.int v52), some (.int x14), none, none]) rfl (pc2 := 212) rfl ?_
        refine x_iinc dL_law_212 rfl (q_ii ic_1) (by decide) (L2 := [some (x_v w x0), some (q_rf w 0), some (x_v w x2), some (x_v w x3), some (.int (y43 + 1)), some (.int x5), none, none, none, none, some (x_v w x10), some (.int x11), some (.int x12), some (.int v52), some (.int (x14 + 1)), none, none]) rfl (pc2 := 215) rfl ?_
        refine x_goto dL_law_215 (pc2 := 148) rfl ?_
        exact ih _ _ _ _
      · refine x_icmp_ne dL_law_159 (pc1 := 162) (pc2 := 191) rfl rfl (fun _ => ?_) (fun _ => ?_)
        · refine x_iconst dL_law_162 ic_1 (pc2 := 163) rfl ?_
          refine x_istore dL_law_163 (by decide) (L2 := [some (x_v w x0), some (q_rf w 0), some (x_v w x2), some (x_v w x3), some (.int x4), some (.int x5), none, none, none, none, some (x_v w x10), some (.int x11), some (.int x12), some (.int x13), some (.int x14), some (.int 1), none]) rfl (pc2 := 165) rfl ?_
          refine T_L_law_L165 hop (fun s55 => ?_) n _ _
          refine x_iinc dL_law_188 rfl (q_ii ic_m1) (by decide) (L2 := [some (x_v w x0), some (q_rf w 0), some (x_v w x2), some (x_v w x3), some (.int (x4 + (-1))), some (.int x5), none, none, none, none, some (x_v w x10), some (.int x11), some (.int x12), some (.int x13), some (.int x14), none, none]) rfl (pc2 := 191) rfl ?_
          exact hj191 _ _
        · exact hj191 _ _
    · refine x_Gmask [true, true, true, true, true, true, true, true, true, true, true, true, true, true, false, true, true] (L2 := [some (x_v w x0), some (q_rf w 0), some (x_v w x2), some (x_v w x3), some (.int x4), some (.int x5), none, none, none, none, some (x_v w x10), some (.int x11), some (.int x12), some (.int x13), none, none, none]) rfl ?_
      exact hk218 _ _ _
set_option maxRecDepth 100000 in
set_option maxHeartbeats 4000000 in
theorem T_L_law_L431 {w : q_Wd} {cx : q_Cx} {M0 : Nat} {nm : String} (hop : w.2.2.2.2.2.1 = none) {n : Nat} {x0 : Nat} {x2 : Nat} {x3 : Nat} {x4 : Int32} {x5 : Int32} {x6 : Int32} {x10 : Nat} {x13 : Nat} {x14 : Int32} {k479 : Int32 → x_U → Option (Int32 × x_U)} (hk479 : ∀ (y12 : Int32) (s1 : x_U), x_G w cx RL nm code 17 (some .boolean) 16 648 M0 x_aI 479 [some (x_v w x0), some (q_rf w 0), some (x_v w x2), some (x_v w x3), some (.int x4), some (.int x5), none, none, none, none, some (x_v w x10), none, some (.int y12), none, none, none, none] [] s1 (k479 y12 s1)) :
    ∀ (j : Nat) (x12 : Int32) (x15 : Int32) (s0 : x_U), x_G w cx RL nm code 17 (some .boolean) 16 648 M0 x_aI 431 [some (x_v w x0), some (q_rf w 0), some (x_v w x2), some (x_v w x3), some (.int x4), some (.int x5), some (.int x6), none, none, none, some (x_v w x10), none, some (.int x12), some (x_v w x13), some (.int x14), some (.int x15), none] [] s0 (F_L_law_L431 n x0 x2 x3 x4 x5 x6 x10 x13 x14 k479 j x12 x15 s0) := by
  intro j
  induction j with
  | zero =>
    intro _ _ _
    rw [F_L_law_L431]
    exact x_none
  | succ j ih =>
    intro x12 x15 s0
    rw [F_L_law_L431]
    refine x_iload dL_law_431 rfl (pc2 := 433) rfl ?_
    refine x_iload dL_law_433 rfl (pc2 := 435) rfl ?_
    refine x_icmp_ge dL_law_435 (pc1 := 438) (pc2 := 479) rfl rfl (fun _ => ?_) (fun _ => ?_)
    · refine x_aload dL_law_438 x_vR rfl (pc2 := 440) rfl ?_
      refine x_iload dL_law_440 rfl (pc2 := 442) rfl ?_
      refine x_aald dL_law_442 (pc2 := 443) rfl (fun o89 => ?_)
      refine x_astore x_vR dL_law_443 (by decide) (L2 := [some (x_v w x0), some (q_rf w 0), some (x_v w x2), some (x_v w x3), some (.int x4), some (.int x5), some (.int x6), none, none, none, some (x_v w x10), none, some (.int x12), some (x_v w x13), some (.int x14), some (.int x15), some (x_v w o89)]) rfl (pc2 := 445) rfl ?_
      refine x_aload dL_law_445 x_vR rfl (pc2 := 447) rfl ?_
      refine x_iconst dL_law_447 ic_0 (pc2 := 448) rfl ?_
      refine x_iald dL_law_448 (pc2 := 449) rfl (fun v90 => ?_)
      refine x_aload_n dL_law_449 x_vR rfl (pc2 := 450) rfl ?_
      refine x_getIN xf_L_166 (by decide) rfl dL_law_450 (pc2 := 453) rfl (fun v91 => ?_)
      refine x_jn (P := fun j473 => ∀ (y92 : Int32) (s93 : x_U), x_G w cx RL nm code 17 (some .boolean) 16 648 M0 x_aI 473 [some (x_v w x0), some (q_rf w 0), some (x_v w x2), some (x_v w x3), some (.int x4), some (.int x5), some (.int x6), none, none, none, some (x_v w x10), none, some (.int y92), some (x_v w x13), some (.int x14), some (.int x15), none] [] s93 (j473 y92 s93)) (fun y92 s93 => ?_) (fun j473 hj473 => ?_)
      · refine x_iinc dL_law_473 rfl (q_ii ic_1) (by decide) (L2 := [some (x_v w x0), some (q_rf w 0), some (x_v w x2), some (x_v w x3), some (.int x4), some (.int x5), some (.int x6), none, none, none, some (x_v w x10), none, some (.int y92), some (x_v w x13), some (.int x14), some (.int (x15 + 1)), none]) rfl (pc2 := 476) rfl ?_
        refine x_goto dL_law_476 (pc2 := 431) rfl ?_
        exact ih _ _ _
      · refine x_icmp_ne dL_law_453 (pc1 := 456) (pc2 := 473) rfl rfl (fun _ => ?_) (fun _ => ?_)
        · refine x_iload dL_law_456 rfl (pc2 := 458) rfl ?_
          refine x_bipush dL_law_458 bp_8 (pc2 := 460) rfl ?_
          refine x_ishr dL_law_460 (pc2 := 461) rfl ?_
          refine x_iconst dL_law_461 ic_1 (pc2 := 462) rfl ?_
          refine x_iand dL_law_462 (pc2 := 463) rfl ?_
          refine x_iconst dL_law_463 ic_1 (pc2 := 464) rfl ?_
          refine x_icmp_ne dL_law_464 (pc1 := 467) (pc2 := 473) rfl rfl (fun _ => ?_) (fun _ => ?_)
          · refine x_aload dL_law_467 x_vR rfl (pc2 := 469) rfl ?_
            refine x_iconst dL_law_469 ic_1 (pc2 := 470) rfl ?_
            refine x_iald dL_law_470 (pc2 := 471) rfl (fun v94 => ?_)
            refine x_istore dL_law_471 (by decide) (L2 := [some (x_v w x0), some (q_rf w 0), some (x_v w x2), some (x_v w x3), some (.int x4), some (.int x5), some (.int x6), none, none, none, some (x_v w x10), none, some (.int v94), some (x_v w x13), some (.int x14), some (.int x15), some (x_v w o89)]) rfl (pc2 := 473) rfl ?_
            refine x_Gmask [true, true, true, true, true, true, true, true, true, true, true, true, true, true, true, true, false] (L2 := [some (x_v w x0), some (q_rf w 0), some (x_v w x2), some (x_v w x3), some (.int x4), some (.int x5), some (.int x6), none, none, none, some (x_v w x10), none, some (.int v94), some (x_v w x13), some (.int x14), some (.int x15), none]) rfl ?_
            exact hj473 _ _
          · refine x_Gmask [true, true, true, true, true, true, true, true, true, true, true, true, true, true, true, true, false] (L2 := [some (x_v w x0), some (q_rf w 0), some (x_v w x2), some (x_v w x3), some (.int x4), some (.int x5), some (.int x6), none, none, none, some (x_v w x10), none, some (.int x12), some (x_v w x13), some (.int x14), some (.int x15), none]) rfl ?_
            exact hj473 _ _
        · refine x_Gmask [true, true, true, true, true, true, true, true, true, true, true, true, true, true, true, true, false] (L2 := [some (x_v w x0), some (q_rf w 0), some (x_v w x2), some (x_v w x3), some (.int x4), some (.int x5), some (.int x6), none, none, none, some (x_v w x10), none, some (.int x12), some (x_v w x13), some (.int x14), some (.int x15), none]) rfl ?_
          exact hj473 _ _
    · refine x_Gmask [true, true, true, true, true, true, false, true, true, true, true, true, true, false, false, false, true] (L2 := [some (x_v w x0), some (q_rf w 0), some (x_v w x2), some (x_v w x3), some (.int x4), some (.int x5), none, none, none, none, some (x_v w x10), none, some (.int x12), none, none, none, none]) rfl ?_
      exact hk479 _ _
set_option maxRecDepth 100000 in
set_option maxHeartbeats 4000000 in
theorem T_L_law_L549 {w : q_Wd} {cx : q_Cx} {M0 : Nat} {nm : String} (hop : w.2.2.2.2.2.1 = none) {n : Nat} {x0 : Nat} {x2 : Nat} {x3 : Nat} {x4 : Int32} {x5 : Int32} {x10 : Nat} {x11 : Int32} {x12 : Int32} {k574 : x_U → Option (Int32 × x_U)} (hk574 : ∀  (s1 : x_U), x_G w cx RL nm code 17 (some .boolean) 16 648 M0 x_aI 574 [some (x_v w x0), some (q_rf w 0), some (x_v w x2), some (x_v w x3), some (.int x4), some (.int x5), none, none, none, none, some (x_v w x10), some (.int x11), some (.int x12), none, none, none, none] [] s1 (k574 s1)) :
    ∀ (j : Nat) (x13 : Int32) (s0 : x_U), x_G w cx RL nm code 17 (some .boolean) 16 648 M0 x_aI 549 [some (x_v w x0), some (q_rf w 0), some (x_v w x2), some (x_v w x3), some (.int x4), some (.int x5), none, none, none, none, some (x_v w x10), some (.int x11), some (.int x12), some (.int x13), none, none, none] [] s0 (F_L_law_L549 n x0 x2 x3 x4 x5 x10 x11 x12 k574 j x13 s0) := by
  intro j
  induction j with
  | zero =>
    intro _ _
    rw [F_L_law_L549]
    exact x_none
  | succ j ih =>
    intro x13 s0
    rw [F_L_law_L549]
    refine x_iload dL_law_549 rfl (pc2 := 551) rfl ?_
    refine x_aload_n dL_law_551 x_vR rfl (pc2 := 552) rfl ?_
    refine x_getIN xf_L_37 (by decide) rfl dL_law_552 (pc2 := 555) rfl (fun v120 => ?_)
    refine x_icmp_ge dL_law_555 (pc1 := 558) (pc2 := 574) rfl rfl (fun _ => ?_) (fun _ => ?_)
    · refine x_aload_n dL_law_558 x_vR rfl (pc2 := 559) rfl ?_
      refine x_getRN xf_L_52 (by decide) rfl dL_law_559 (pc2 := 562) rfl (fun o121 => ?_)
      refine x_iload dL_law_562 rfl (pc2 := 564) rfl ?_
      refine x_aald dL_law_564 (pc2 := 565) rfl (fun o122 => ?_)
      refine x_iconst dL_law_565 ic_2 (pc2 := 566) rfl ?_
      refine x_iconst dL_law_566 ic_0 (pc2 := 567) rfl ?_
      refine x_iast dL_law_567 (pc2 := 568) rfl (fun s123 => ?_)
      refine x_iinc dL_law_568 rfl (q_ii ic_1) (by decide) (L2 := [some (x_v w x0), some (q_rf w 0), some (x_v w x2), some (x_v w x3), some (.int x4), some (.int x5), none, none, none, none, some (x_v w x10), some (.int x11), some (.int x12), some (.int (x13 + 1)), none, none, none]) rfl (pc2 := 571) rfl ?_
      refine x_goto dL_law_571 (pc2 := 549) rfl ?_
      exact ih _ _
    · refine x_Gmask [true, true, true, true, true, true, true, true, true, true, true, true, true, false, true, true, true] (L2 := [some (x_v w x0), some (q_rf w 0), some (x_v w x2), some (x_v w x3), some (.int x4), some (.int x5), none, none, none, none, some (x_v w x10), some (.int x11), some (.int x12), none, none, none, none]) rfl ?_
      exact hk574 _
set_option maxRecDepth 100000 in
set_option maxHeartbeats 4000000 in
theorem T_L_law_L41 {w : q_Wd} {cx : q_Cx} {M0 : Nat} {nm : String} (hop : w.2.2.2.2.2.1 = none) {n : Nat} {x0 : Nat} {x3 : Nat} {k1066 : Nat → x_U → Option (Int32 × x_U)} (hk1066 : ∀ (y2 : Nat) (s1 : x_U), x_G w cx RL nm code 17 (some .boolean) 16 648 M0 x_aI 1066 [none, some (q_rf w 0), some (x_v w y2), none, none, none, none, none, none, none, none, none, none, none, none, none, none] [] s1 (k1066 y2 s1)) :
    ∀ (j : Nat) (x2 : Nat) (x4 : Int32) (x5 : Int32) (s0 : x_U), x_G w cx RL nm code 17 (some .boolean) 16 648 M0 x_aI 41 [some (x_v w x0), some (q_rf w 0), some (x_v w x2), some (x_v w x3), some (.int x4), some (.int x5), none, none, none, none, none, none, none, none, none, none, none] [] s0 (F_L_law_L41 n x0 x3 k1066 j x2 x4 x5 s0) := by
  intro j
  induction j with
  | zero =>
    intro _ _ _ _
    rw [F_L_law_L41]
    exact x_none
  | succ j ih =>
    intro x2 x4 x5 s0
    rw [F_L_law_L41]
    refine x_iload dL_law_41 rfl (pc2 := 43) rfl ?_
    refine x_bipush dL_law_43 bp_22 (pc2 := 45) rfl ?_
    refine x_icmp_ge dL_law_45 (pc1 := 48) (pc2 := 1066) rfl rfl (fun _ => ?_) (fun _ => ?_)
    · refine x_aload_n dL_law_48 x_vR rfl (pc2 := 49) rfl ?_
      refine x_bipush dL_law_49 bp_6 (pc2 := 51) rfl ?_
      refine x_iload dL_law_51 rfl (pc2 := 53) rfl ?_
      refine x_bipush dL_law_53 bp_12 (pc2 := 55) rfl ?_
      refine x_irem dL_law_55 (pc2 := 56) rfl (fun v8 => ?_)
      refine x_iadd dL_law_56 (pc2 := 57) rfl ?_
      refine x_callSI (As := [x_v w x0, .int (6 + v8)]) C2_L_cell xm_L_cell xl_L_121 rfl rfl ⟨by decide, by decide⟩ (Nat.le_trans x_s0 (by decide)) dL_law_57 (pc2 := 60) rfl (fun r10 s9 => ?_) hop
      refine x_iload dL_law_60 rfl (pc2 := 62) rfl ?_
      refine x_bipush dL_law_62 bp_12 (pc2 := 64) rfl ?_
      refine x_idiv dL_law_64 (pc2 := 65) rfl (fun v11 => ?_)
      refine x_iconst dL_law_65 ic_1 (pc2 := 66) rfl ?_
      refine x_iadd dL_law_66 (pc2 := 67) rfl ?_
      refine x_imul dL_law_67 (pc2 := 68) rfl ?_
      refine x_sipush dL_law_68 sp_191 (pc2 := 71) rfl ?_
      refine x_iload dL_law_71 rfl (pc2 := 73) rfl ?_
      refine x_imul dL_law_73 (pc2 := 74) rfl ?_
      refine x_iadd dL_law_74 (pc2 := 75) rfl ?_
      refine x_gnm (fun v12 => ?_)
      refine x_istore dL_law_75 (by decide) (L2 := [some (x_v w x0), some (q_rf w 0), some (x_v w x2), some (x_v w x3), some (.int x4), some (.int x5), some (.int v12), none, none, none, none, none, none, none, none, none, none]) rfl (pc2 := 77) rfl ?_
      refine x_iload dL_law_77 rfl (pc2 := 79) rfl ?_
      refine x_iconst dL_law_79 ic_0 (pc2 := 80) rfl ?_
      refine x_bipush dL_law_80 bp_13 (pc2 := 82) rfl ?_
      refine x_callSI (As := [.int v12, .int 0, .int 13]) C2_L_between xm_L_between xl_L_43 rfl rfl ⟨by decide, by decide⟩ (Nat.le_trans x_s0 (by decide)) dL_law_82 (pc2 := 85) rfl (fun r14 s13 => ?_) hop
      refine x_istore dL_law_85 (by decide) (L2 := [some (x_v w x0), some (q_rf w 0), some (x_v w x2), some (x_v w x3), some (.int x4), some (.int x5), some (.int v12), some (.int r14), none, none, none, none, none, none, none, none, none]) rfl (pc2 := 87) rfl ?_
      refine x_iload dL_law_87 rfl (pc2 := 89) rfl ?_
      refine x_iconst dL_law_89 ic_3 (pc2 := 90) rfl ?_
      refine x_ishr dL_law_90 (pc2 := 91) rfl ?_
      refine x_iconst dL_law_91 ic_0 (pc2 := 92) rfl ?_
      refine x_aload_n dL_law_92 x_vR rfl (pc2 := 93) rfl ?_
      refine x_getIN xf_L_37 (by decide) rfl dL_law_93 (pc2 := 96) rfl (fun v15 => ?_)
      refine x_callSI (As := [.int (v12 >>> (3 &&& 31)), .int 0, .int v15]) C2_L_between xm_L_between xl_L_43 rfl rfl ⟨by decide, by decide⟩ (Nat.le_trans x_s0 (by decide)) dL_law_96 (pc2 := 99) rfl (fun r17 s16 => ?_) hop
      refine x_istore dL_law_99 (by decide) (L2 := [some (x_v w x0), some (q_rf w 0), some (x_v w x2), some (x_v w x3), some (.int x4), some (.int x5), some (.int v12), some (.int r14), some (.int r17), none, none, none, none, none, none, none, none]) rfl (pc2 := 101) rfl ?_
      refine x_iload dL_law_101 rfl (pc2 := 103) rfl ?_
      refine x_iconst dL_law_103 ic_5 (pc2 := 104) rfl ?_
      refine x_ishr dL_law_104 (pc2 := 105) rfl ?_
      refine x_iconst dL_law_105 ic_0 (pc2 := 106) rfl ?_
      refine x_aload_n dL_law_106 x_vR rfl (pc2 := 107) rfl ?_
      refine x_getIN xf_L_103 (by decide) rfl dL_law_107 (pc2 := 110) rfl (fun v18 => ?_)
      refine x_callSI (As := [.int (v12 >>> (5 &&& 31)), .int 0, .int v18]) C2_L_between xm_L_between xl_L_43 rfl rfl ⟨by decide, by decide⟩ (Nat.le_trans x_s0 (by decide)) dL_law_110 (pc2 := 113) rfl (fun r20 s19 => ?_) hop
      refine x_istore dL_law_113 (by decide) (L2 := [some (x_v w x0), some (q_rf w 0), some (x_v w x2), some (x_v w x3), some (.int x4), some (.int x5), some (.int v12), some (.int r14), some (.int r17), some (.int r20), none, none, none, none, none, none, none]) rfl (pc2 := 115) rfl ?_
      refine x_aload_n dL_law_115 x_vR rfl (pc2 := 116) rfl ?_
      refine x_oo (ci := 12) (fun hk23 => ?_)
      refine x_callVR (As := []) C2_X12_copy xm_X12_copy (fun h => by first | rfl | cases h) xl_L_187 hk23 rfl rfl ⟨by decide, by decide⟩ (Nat.le_trans x_s0 (by decide)) dL_law_116 (pc2 := 119) rfl (fun o22 s21 => ?_) hop
      refine x_astore x_vR dL_law_119 (by decide) (L2 := [some (x_v w x0), some (q_rf w 0), some (x_v w x2), some (x_v w x3), some (.int x4), some (.int x5), some (.int v12), some (.int r14), some (.int r17), some (.int r20), some (x_v w o22), none, none, none, none, none, none]) rfl (pc2 := 121) rfl ?_
      refine x_iconst dL_law_121 ic_0 (pc2 := 122) rfl ?_
      refine x_istore dL_law_122 (by decide) (L2 := [some (x_v w x0), some (q_rf w 0), some (x_v w x2), some (x_v w x3), some (.int x4), some (.int x5), some (.int v12), some (.int r14), some (.int r17), some (.int r20), some (x_v w o22), some (.int 0), none, none, none, none, none]) rfl (pc2 := 124) rfl ?_
      refine x_iload dL_law_124 rfl (pc2 := 126) rfl ?_
      refine x_iconst dL_law_126 ic_2 (pc2 := 127) rfl ?_
      refine x_jn (P := fun j989 => ∀ (y24 : Nat) (y25 : Int32) (y26 : Int32) (s27 : x_U), x_G w cx RL nm code 17 (some .boolean) 16 648 M0 x_aI 989 [some (x_v w x0), some (q_rf w 0), some (x_v w y24), some (x_v w x3), some (.int y25), some (.int x5), none, none, none, none, some (x_v w o22), some (.int y26), none, none, none, none, none] [] s27 (j989 y24 y25 y26 s27)) (fun y24 y25 y26 s27 => ?_) (fun j989 hj989 => ?_)
      · refine x_iload dL_law_989 rfl (pc2 := 991) rfl ?_
        refine x_jn (P := fun j1039 => ∀ (y28 : Int32) (s29 : x_U), x_G w cx RL nm code 17 (some .boolean) 16 648 M0 x_aI 1039 [some (x_v w x0), some (q_rf w 0), some (x_v w y24), some (x_v w x3), some (.int y28), some (.int x5), none, none, none, none, none, none, none, none, none, none, none] [] s29 (j1039 y28 s29)) (fun y28 s29 => ?_) (fun j1039 hj1039 => ?_)
        · refine x_aload_n dL_law_1039 x_cR rfl (pc2 := 1040) rfl ?_
          refine x_bipush dL_law_1040 bp_17 (pc2 := 1042) rfl ?_
          refine x_callcI (As := [.int 17]) (fun w' => C_X11_look q_kd0) mv_X11_look xl_L_241 rfl rfl ⟨by decide, by decide⟩ (Nat.le_trans x_s0 (by decide)) dL_law_1042 (pc2 := 1045) rfl (fun r31 s30 => ?_)
          refine x_iload dL_law_1045 rfl (pc2 := 1047) rfl ?_
          refine x_icmp_ne dL_law_1047 (pc1 := 1050) (pc2 := 1058) rfl rfl (fun _ => ?_) (fun _ => ?_)
          · refine x_aload_n dL_law_1050 x_vR rfl (pc2 := 1051) rfl ?_
            refine x_aload_n dL_law_1051 x_cR rfl (pc2 := 1052) rfl ?_
            refine x_oo (ci := 12) (fun hk34 => ?_)
            refine x_callVI (As := [q_rf w 0]) C2_X12_isSame xm_X12_isSame (fun h => by first | rfl | cases h) xl_L_183 hk34 rfl rfl ⟨by decide, by decide⟩ (Nat.le_trans x_s0 (by decide)) dL_law_1052 (pc2 := 1055) rfl (fun r33 s32 => ?_) hop
            refine x_if_ne dL_law_1055 (pc1 := 1058) (pc2 := 1060) rfl rfl (fun _ => ?_) (fun _ => ?_)
            · refine x_iconst dL_law_1058 ic_0 (pc2 := 1059) rfl ?_
              exact x_nret rfl dL_law_1059
            · refine x_iinc dL_law_1060 rfl (q_ii ic_1) (by decide) (L2 := [some (x_v w x0), some (q_rf w 0), some (x_v w y24), some (x_v w x3), some (.int y28), some (.int (x5 + 1)), none, none, none, none, none, none, none, none, none, none, none]) rfl (pc2 := 1063) rfl ?_
              refine x_goto dL_law_1063 (pc2 := 41) rfl ?_
              exact ih _ _ _ _
          · refine x_iconst dL_law_1058 ic_0 (pc2 := 1059) rfl ?_
            exact x_nret rfl dL_law_1059
        · refine x_if_eq dL_law_991 (pc1 := 1039) (pc2 := 994) rfl rfl (fun _ => ?_) (fun _ => ?_)
          · refine x_Gmask [true, true, true, true, true, true, true, true, true, true, false, false, true, true, true, true, true] (L2 := [some (x_v w x0), some (q_rf w 0), some (x_v w y24), some (x_v w x3), some (.int y25), some (.int x5), none, none, none, none, none, none, none, none, none, none, none]) rfl ?_
            exact hj1039 _ _
          · refine x_iload dL_law_994 rfl (pc2 := 996) rfl ?_
            refine x_bipush dL_law_996 bp_6 (pc2 := 998) rfl ?_
            refine x_jn (P := fun j1030 => ∀ (y35 : Int32) (s36 : x_U), x_G w cx RL nm code 17 (some .boolean) 16 648 M0 x_aI 1030 [some (x_v w x0), some (q_rf w 0), some (x_v w y24), some (x_v w x3), some (.int y35), some (.int x5), none, none, none, none, some (x_v w o22), none, none, none, none, none, none] [] s36 (j1030 y35 s36)) (fun y35 s36 => ?_) (fun j1030 hj1030 => ?_)
            · refine x_aload_n dL_law_1030 x_vR rfl (pc2 := 1031) rfl ?_
              refine x_iload dL_law_1031 rfl (pc2 := 1033) rfl ?_
              refine x_iinc dL_law_1033 rfl (q_ii ic_1) (by decide) (L2 := [some (x_v w x0), some (q_rf w 0), some (x_v w y24), some (x_v w x3), some (.int (y35 + 1)), some (.int x5), none, none, none, none, some (x_v w o22), none, none, none, none, none, none]) rfl (pc2 := 1036) rfl ?_
              refine x_aload dL_law_1036 x_vR rfl (pc2 := 1038) rfl ?_
              refine x_aast dL_law_1038 (pc2 := 1039) rfl (fun s37 => ?_)
              refine x_Gmask [true, true, true, true, true, true, true, true, true, true, false, true, true, true, true, true, true] (L2 := [some (x_v w x0), some (q_rf w 0), some (x_v w y24), some (x_v w x3), some (.int (y35 + 1)), some (.int x5), none, none, none, none, none, none, none, none, none, none, none]) rfl ?_
              exact hj1039 _ _
            · refine x_icmp_ne dL_law_998 (pc1 := 1001) (pc2 := 1030) rfl rfl (fun _ => ?_) (fun _ => ?_)
              · refine x_iconst dL_law_1001 ic_1 (pc2 := 1002) rfl ?_
                refine x_istore dL_law_1002 (by decide) (L2 := [some (x_v w x0), some (q_rf w 0), some (x_v w y24), some (x_v w x3), some (.int y25), some (.int x5), none, none, none, none, some (x_v w o22), some (.int y26), some (.int 1), none, none, none, none]) rfl (pc2 := 1004) rfl ?_
                refine x_Gmask [true, true, true, true, true, true, true, true, true, true, true, false, true, true, true, true, true] (L2 := [some (x_v w x0), some (q_rf w 0), some (x_v w y24), some (x_v w x3), some (.int y25), some (.int x5), none, none, none, none, some (x_v w o22), none, some (.int 1), none, none, none, none]) rfl ?_
                refine T_L_law_L1004 hop (fun s40 => ?_) n _ _
                refine x_iinc dL_law_1027 rfl (q_ii ic_m1) (by decide) (L2 := [some (x_v w x0), some (q_rf w 0), some (x_v w y24), some (x_v w x3), some (.int (y25 + (-1))), some (.int x5), none, none, none, none, some (x_v w o22), none, none, none, none, none, none]) rfl (pc2 := 1030) rfl ?_
                exact hj1030 _ _
              · refine x_Gmask [true, true, true, true, true, true, true, true, true, true, true, false, true, true, true, true, true] (L2 := [some (x_v w x0), some (q_rf w 0), some (x_v w y24), some (x_v w x3), some (.int y25), some (.int x5), none, none, none, none, some (x_v w o22), none, none, none, none, none, none]) rfl ?_
                exact hj1030 _ _
      · refine x_icmp_ge dL_law_127 (pc1 := 130) (pc2 := 234) rfl rfl (fun _ => ?_) (fun _ => ?_)
        · refine x_iload dL_law_130 rfl (pc2 := 132) rfl ?_
          refine x_iconst dL_law_132 ic_5 (pc2 := 133) rfl ?_
          refine x_ishr dL_law_133 (pc2 := 134) rfl ?_
          refine x_iconst dL_law_134 ic_1 (pc2 := 135) rfl ?_
          refine x_bipush dL_law_135 bp_6 (pc2 := 137) rfl ?_
          refine x_callSI (As := [.int (v12 >>> (5 &&& 31)), .int 1, .int 6]) C2_L_between xm_L_between xl_L_43 rfl rfl ⟨by decide, by decide⟩ (Nat.le_trans x_s0 (by decide)) dL_law_137 (pc2 := 140) rfl (fun r42 s41 => ?_) hop
          refine x_istore dL_law_140 (by decide) (L2 := [some (x_v w x0), some (q_rf w 0), some (x_v w x2), some (x_v w x3), some (.int x4), some (.int x5), some (.int v12), some (.int r14), some (.int r17), some (.int r20), some (x_v w o22), some (.int 0), some (.int r42), none, none, none, none]) rfl (pc2 := 142) rfl ?_
          refine x_iconst dL_law_142 ic_0 (pc2 := 143) rfl ?_
          refine x_istore dL_law_143 (by decide) (L2 := [some (x_v w x0), some (q_rf w 0), some (x_v w x2), some (x_v w x3), some (.int x4), some (.int x5), some (.int v12), some (.int r14), some (.int r17), some (.int r20), some (x_v w o22), some (.int 0), some (.int r42), some (.int 0), none, none, none]) rfl (pc2 := 145) rfl ?_
          refine x_iconst dL_law_145 ic_0 (pc2 := 146) rfl ?_
          refine x_istore dL_law_146 (by decide) (L2 := [some (x_v w x0), some (q_rf w 0), some (x_v w x2), some (x_v w x3), some (.int x4), some (.int x5), some (.int v12), some (.int r14), some (.int r17), some (.int r20), some (x_v w o22), some (.int 0), some (.int r42), some (.int 0), some (.int 0), none, none]) rfl (pc2 := 148) rfl ?_
          refine x_Gmask [true, true, true, true, true, true, false, false, false, false, true, true, true, true, true, true, true] (L2 := [some (x_v w x0), some (q_rf w 0), some (x_v w x2), some (x_v w x3), some (.int x4), some (.int x5), none, none, none, none, some (x_v w o22), some (.int 0), some (.int r42), some (.int 0), some (.int 0), none, none]) rfl ?_
          refine T_L_law_L148 hop (fun y56 y57 s58 => ?_) n _ _ _ _
          refine x_aload_n dL_law_218 x_cR rfl (pc2 := 219) rfl ?_
          refine x_iload dL_law_219 rfl (pc2 := 221) rfl ?_
          refine x_callcI (As := [.int r42]) (fun w' => C_X11_days q_kd0) mv_X11_days xl_L_195 rfl rfl ⟨by decide, by decide⟩ (Nat.le_trans x_s0 (by decide)) dL_law_221 (pc2 := 224) rfl (fun r60 s59 => ?_)
          refine x_iload dL_law_224 rfl (pc2 := 226) rfl ?_
          refine x_icmp_eq dL_law_226 (pc1 := 231) (pc2 := 229) rfl rfl (fun _ => ?_) (fun _ => ?_)
          · refine x_goto dL_law_231 (pc2 := 989) rfl ?_
            refine x_Gmask [true, true, true, true, true, true, true, true, true, true, true, true, false, false, true, true, true] (L2 := [some (x_v w x0), some (q_rf w 0), some (x_v w x2), some (x_v w x3), some (.int y56), some (.int x5), none, none, none, none, some (x_v w o22), some (.int 0), none, none, none, none, none]) rfl ?_
            exact hj989 _ _ _ _
          · refine x_iconst dL_law_229 ic_0 (pc2 := 230) rfl ?_
            exact x_nret rfl dL_law_230
        · refine x_iload dL_law_234 rfl (pc2 := 236) rfl ?_
          refine x_iconst dL_law_236 ic_5 (pc2 := 237) rfl ?_
          refine x_icmp_ge dL_law_237 (pc1 := 240) (pc2 := 261) rfl rfl (fun _ => ?_) (fun _ => ?_)
          · refine x_iconst dL_law_240 ic_1 (pc2 := 241) rfl ?_
            refine x_istore dL_law_241 (by decide) (L2 := [some (x_v w x0), some (q_rf w 0), some (x_v w x2), some (x_v w x3), some (.int x4), some (.int x5), some (.int v12), some (.int r14), some (.int r17), some (.int r20), some (x_v w o22), some (.int 1), none, none, none, none, none]) rfl (pc2 := 243) rfl ?_
            refine x_aload_n dL_law_243 x_vR rfl (pc2 := 244) rfl ?_
            refine x_iconst dL_law_244 ic_1 (pc2 := 245) rfl ?_
            refine x_oo (ci := 12) (fun hk63 => ?_)
            refine x_callVV (As := [.int 1]) C2_X12_votes xm_X12_votes (fun h => by first | rfl | cases h) xl_L_198 hk63 rfl rfl ⟨by decide, by decide⟩ (Nat.le_trans x_s0 (by decide)) dL_law_245 (pc2 := 248) rfl (fun r62 s61 => ?_) hop
            refine x_aload_n dL_law_248 x_cR rfl (pc2 := 249) rfl ?_
            refine x_callcI (As := []) (fun w' => C_X11_vote q_kd0) mv_X11_vote xl_L_202 rfl rfl ⟨by decide, by decide⟩ (Nat.le_trans x_s0 (by decide)) dL_law_249 (pc2 := 252) rfl (fun r65 s64 => ?_)
            refine x_aload_n dL_law_252 x_vR rfl (pc2 := 253) rfl ?_
            refine x_getIN xf_L_205 (by decide) rfl dL_law_253 (pc2 := 256) rfl (fun v66 => ?_)
            refine x_icmp_eq dL_law_256 (pc1 := 989) (pc2 := 259) rfl rfl (fun _ => ?_) (fun _ => ?_)
            · refine x_Gmask [true, true, true, true, true, true, false, false, false, false, true, true, true, true, true, true, true] (L2 := [some (x_v w x0), some (q_rf w 0), some (x_v w x2), some (x_v w x3), some (.int x4), some (.int x5), none, none, none, none, some (x_v w o22), some (.int 1), none, none, none, none, none]) rfl ?_
              exact hj989 _ _ _ _
            · refine x_iconst dL_law_259 ic_0 (pc2 := 260) rfl ?_
              exact x_nret rfl dL_law_260
          · refine x_iload dL_law_261 rfl (pc2 := 263) rfl ?_
            refine x_bipush dL_law_263 bp_7 (pc2 := 265) rfl ?_
            refine x_icmp_ge dL_law_265 (pc1 := 268) (pc2 := 363) rfl rfl (fun _ => ?_) (fun _ => ?_)
            · refine x_iload dL_law_268 rfl (pc2 := 270) rfl ?_
              refine x_bipush dL_law_270 bp_6 (pc2 := 272) rfl ?_
              refine x_ishr dL_law_272 (pc2 := 273) rfl ?_
              refine x_iconst dL_law_273 ic_0 (pc2 := 274) rfl ?_
              refine x_iconst dL_law_274 ic_3 (pc2 := 275) rfl ?_
              refine x_callSI (As := [.int (v12 >>> (6 &&& 31)), .int 0, .int 3]) C2_L_between xm_L_between xl_L_43 rfl rfl ⟨by decide, by decide⟩ (Nat.le_trans x_s0 (by decide)) dL_law_275 (pc2 := 278) rfl (fun r68 s67 => ?_) hop
              refine x_istore dL_law_278 (by decide) (L2 := [some (x_v w x0), some (q_rf w 0), some (x_v w x2), some (x_v w x3), some (.int x4), some (.int x5), some (.int v12), some (.int r14), some (.int r17), some (.int r20), some (x_v w o22), some (.int 0), some (.int r68), none, none, none, none]) rfl (pc2 := 280) rfl ?_
              refine x_iload dL_law_280 rfl (pc2 := 282) rfl ?_
              refine x_iconst dL_law_282 ic_3 (pc2 := 283) rfl ?_
              refine x_jn (P := fun j315 => ∀ (y69 : Int32) (s70 : x_U), x_G w cx RL nm code 17 (some .boolean) 16 648 M0 x_aI 315 [some (x_v w x0), some (q_rf w 0), some (x_v w x2), some (x_v w x3), some (.int x4), some (.int x5), none, none, some (.int r17), some (.int r20), some (x_v w o22), none, some (.int r68), none, none, none, none] [.int y69] s70 (j315 y69 s70)) (fun y69 s70 => ?_) (fun j315 hj315 => ?_)
              · refine x_istore dL_law_315 (by decide) (L2 := [some (x_v w x0), some (q_rf w 0), some (x_v w x2), some (x_v w x3), some (.int x4), some (.int x5), none, none, some (.int r17), some (.int r20), some (x_v w o22), none, some (.int r68), some (.int y69), none, none, none]) rfl (pc2 := 317) rfl ?_
                refine x_iload dL_law_317 rfl (pc2 := 319) rfl ?_
                refine x_jn (P := fun j341 => ∀ (y71 : Int32) (s72 : x_U), x_G w cx RL nm code 17 (some .boolean) 16 648 M0 x_aI 341 [some (x_v w x0), some (q_rf w 0), some (x_v w x2), some (x_v w x3), some (.int x4), some (.int x5), none, none, some (.int r17), some (.int r20), some (x_v w o22), none, some (.int r68), none, none, none, none] [.int y71] s72 (j341 y71 s72)) (fun y71 s72 => ?_) (fun j341 hj341 => ?_)
                · refine x_istore dL_law_341 (by decide) (L2 := [some (x_v w x0), some (q_rf w 0), some (x_v w x2), some (x_v w x3), some (.int x4), some (.int x5), none, none, some (.int r17), some (.int r20), some (x_v w o22), some (.int y71), some (.int r68), none, none, none, none]) rfl (pc2 := 343) rfl ?_
                  refine x_aload_n dL_law_343 x_cR rfl (pc2 := 344) rfl ?_
                  refine x_iload dL_law_344 rfl (pc2 := 346) rfl ?_
                  refine x_iload dL_law_346 rfl (pc2 := 348) rfl ?_
                  refine x_iload dL_law_348 rfl (pc2 := 350) rfl ?_
                  refine x_callcI (As := [.int r68, .int r20, .int r17]) (fun w' => C_X11_act q_kd0) mv_X11_act xl_L_212 rfl rfl ⟨by decide, by decide⟩ (Nat.le_trans x_s0 (by decide)) dL_law_350 (pc2 := 353) rfl (fun r74 s73 => ?_)
                  refine x_iload dL_law_353 rfl (pc2 := 355) rfl ?_
                  refine x_icmp_eq dL_law_355 (pc1 := 360) (pc2 := 358) rfl rfl (fun _ => ?_) (fun _ => ?_)
                  · refine x_goto dL_law_360 (pc2 := 989) rfl ?_
                    refine x_Gmask [true, true, true, true, true, true, true, true, false, false, true, true, false, true, true, true, true] (L2 := [some (x_v w x0), some (q_rf w 0), some (x_v w x2), some (x_v w x3), some (.int x4), some (.int x5), none, none, none, none, some (x_v w o22), some (.int y71), none, none, none, none, none]) rfl ?_
                    exact hj989 _ _ _ _
                  · refine x_iconst dL_law_358 ic_0 (pc2 := 359) rfl ?_
                    exact x_nret rfl dL_law_359
                · refine x_jn (P := fun j340 => ∀  (s75 : x_U), x_G w cx RL nm code 17 (some .boolean) 16 648 M0 x_aI 340 [some (x_v w x0), some (q_rf w 0), some (x_v w x2), some (x_v w x3), some (.int x4), some (.int x5), none, none, some (.int r17), some (.int r20), some (x_v w o22), none, some (.int r68), none, none, none, none] [] s75 (j340 s75)) (fun s75 => ?_) (fun j340 hj340 => ?_)
                  · refine x_iconst dL_law_340 ic_0 (pc2 := 341) rfl ?_
                    exact hj341 _ _
                  · refine x_if_eq dL_law_319 (pc1 := 340) (pc2 := 322) rfl rfl (fun _ => ?_) (fun _ => ?_)
                    · refine x_Gmask [true, true, true, true, true, true, true, true, true, true, true, true, true, false, true, true, true] (L2 := [some (x_v w x0), some (q_rf w 0), some (x_v w x2), some (x_v w x3), some (.int x4), some (.int x5), none, none, some (.int r17), some (.int r20), some (x_v w o22), none, some (.int r68), none, none, none, none]) rfl ?_
                      exact hj340 _
                    · refine x_aload_n dL_law_322 x_vR rfl (pc2 := 323) rfl ?_
                      refine x_iload dL_law_323 rfl (pc2 := 325) rfl ?_
                      refine x_iload dL_law_325 rfl (pc2 := 327) rfl ?_
                      refine x_iload dL_law_327 rfl (pc2 := 329) rfl ?_
                      refine x_iconst dL_law_329 ic_1 (pc2 := 330) rfl ?_
                      refine x_oo (ci := 12) (fun hk78 => ?_)
                      refine x_callVI (As := [.int r68, .int r20, .int r17, .int 1]) C2_X12_does xm_X12_does (fun h => by first | rfl | cases h) xl_L_208 hk78 rfl rfl ⟨by decide, by decide⟩ (Nat.le_trans x_s0 (by decide)) dL_law_330 (pc2 := 333) rfl (fun r77 s76 => ?_) hop
                      refine x_if_eq dL_law_333 (pc1 := 340) (pc2 := 336) rfl rfl (fun _ => ?_) (fun _ => ?_)
                      · refine x_Gmask [true, true, true, true, true, true, true, true, true, true, true, true, true, false, true, true, true] (L2 := [some (x_v w x0), some (q_rf w 0), some (x_v w x2), some (x_v w x3), some (.int x4), some (.int x5), none, none, some (.int r17), some (.int r20), some (x_v w o22), none, some (.int r68), none, none, none, none]) rfl ?_
                        exact hj340 _
                      · refine x_iconst dL_law_336 ic_1 (pc2 := 337) rfl ?_
                        refine x_goto dL_law_337 (pc2 := 341) rfl ?_
                        refine x_Gmask [true, true, true, true, true, true, true, true, true, true, true, true, true, false, true, true, true] (L2 := [some (x_v w x0), some (q_rf w 0), some (x_v w x2), some (x_v w x3), some (.int x4), some (.int x5), none, none, some (.int r17), some (.int r20), some (x_v w o22), none, some (.int r68), none, none, none, none]) rfl ?_
                        exact hj341 _ _
              · refine x_jn (P := fun j314 => ∀  (s79 : x_U), x_G w cx RL nm code 17 (some .boolean) 16 648 M0 x_aI 314 [some (x_v w x0), some (q_rf w 0), some (x_v w x2), some (x_v w x3), some (.int x4), some (.int x5), none, none, some (.int r17), some (.int r20), some (x_v w o22), none, some (.int r68), none, none, none, none] [] s79 (j314 s79)) (fun s79 => ?_) (fun j314 hj314 => ?_)
                · refine x_iconst dL_law_314 ic_0 (pc2 := 315) rfl ?_
                  exact hj315 _ _
                · refine x_icmp_ge dL_law_283 (pc1 := 286) (pc2 := 314) rfl rfl (fun _ => ?_) (fun _ => ?_)
                  · refine x_iload dL_law_286 rfl (pc2 := 288) rfl ?_
                    refine x_aload_n dL_law_288 x_vR rfl (pc2 := 289) rfl ?_
                    refine x_getIN xf_L_103 (by decide) rfl dL_law_289 (pc2 := 292) rfl (fun v80 => ?_)
                    refine x_icmp_ge dL_law_292 (pc1 := 295) (pc2 := 314) rfl rfl (fun _ => ?_) (fun _ => ?_)
                    · refine x_iload dL_law_295 rfl (pc2 := 297) rfl ?_
                      refine x_iconst dL_law_297 ic_1 (pc2 := 298) rfl ?_
                      refine x_jn (P := fun j310 => ∀  (s81 : x_U), x_G w cx RL nm code 17 (some .boolean) 16 648 M0 x_aI 310 [some (x_v w x0), some (q_rf w 0), some (x_v w x2), some (x_v w x3), some (.int x4), some (.int x5), none, none, some (.int r17), some (.int r20), some (x_v w o22), none, some (.int r68), none, none, none, none] [] s81 (j310 s81)) (fun s81 => ?_) (fun j310 hj310 => ?_)
                      · refine x_iconst dL_law_310 ic_1 (pc2 := 311) rfl ?_
                        refine x_goto dL_law_311 (pc2 := 315) rfl ?_
                        exact hj315 _ _
                      · refine x_icmp_eq dL_law_298 (pc1 := 310) (pc2 := 301) rfl rfl (fun _ => ?_) (fun _ => ?_)
                        · refine x_Gmask [true, true, true, true, true, true, false, false, true, true, true, false, true, true, true, true, true] (L2 := [some (x_v w x0), some (q_rf w 0), some (x_v w x2), some (x_v w x3), some (.int x4), some (.int x5), none, none, some (.int r17), some (.int r20), some (x_v w o22), none, some (.int r68), none, none, none, none]) rfl ?_
                          exact hj310 _
                        · refine x_iload dL_law_301 rfl (pc2 := 303) rfl ?_
                          refine x_aload_n dL_law_303 x_vR rfl (pc2 := 304) rfl ?_
                          refine x_getIN xf_L_37 (by decide) rfl dL_law_304 (pc2 := 307) rfl (fun v82 => ?_)
                          refine x_icmp_ge dL_law_307 (pc1 := 310) (pc2 := 314) rfl rfl (fun _ => ?_) (fun _ => ?_)
                          · refine x_Gmask [true, true, true, true, true, true, false, false, true, true, true, false, true, true, true, true, true] (L2 := [some (x_v w x0), some (q_rf w 0), some (x_v w x2), some (x_v w x3), some (.int x4), some (.int x5), none, none, some (.int r17), some (.int r20), some (x_v w o22), none, some (.int r68), none, none, none, none]) rfl ?_
                            exact hj310 _
                          · refine x_Gmask [true, true, true, true, true, true, false, false, true, true, true, false, true, true, true, true, true] (L2 := [some (x_v w x0), some (q_rf w 0), some (x_v w x2), some (x_v w x3), some (.int x4), some (.int x5), none, none, some (.int r17), some (.int r20), some (x_v w o22), none, some (.int r68), none, none, none, none]) rfl ?_
                            exact hj314 _
                    · refine x_Gmask [true, true, true, true, true, true, false, false, true, true, true, false, true, true, true, true, true] (L2 := [some (x_v w x0), some (q_rf w 0), some (x_v w x2), some (x_v w x3), some (.int x4), some (.int x5), none, none, some (.int r17), some (.int r20), some (x_v w o22), none, some (.int r68), none, none, none, none]) rfl ?_
                      exact hj314 _
                  · refine x_Gmask [true, true, true, true, true, true, false, false, true, true, true, false, true, true, true, true, true] (L2 := [some (x_v w x0), some (q_rf w 0), some (x_v w x2), some (x_v w x3), some (.int x4), some (.int x5), none, none, some (.int r17), some (.int r20), some (x_v w o22), none, some (.int r68), none, none, none, none]) rfl ?_
                    exact hj314 _
            · refine x_iload dL_law_363 rfl (pc2 := 365) rfl ?_
              refine x_bipush dL_law_365 bp_7 (pc2 := 367) rfl ?_
              refine x_icmp_ne dL_law_367 (pc1 := 370) (pc2 := 527) rfl rfl (fun _ => ?_) (fun _ => ?_)
              · refine x_aload_n dL_law_370 x_vR rfl (pc2 := 371) rfl ?_
                refine x_getRN xf_L_113 (by decide) rfl dL_law_371 (pc2 := 374) rfl (fun o83 => ?_)
                refine x_alen dL_law_374 (pc2 := 375) rfl (fun v84 => ?_)
                refine x_jn (P := fun j415 => ∀ (y85 : Int32) (s86 : x_U), x_G w cx RL nm code 17 (some .boolean) 16 648 M0 x_aI 415 [some (x_v w x0), some (q_rf w 0), some (x_v w x2), some (x_v w x3), some (.int x4), some (.int x5), some (.int v12), none, none, none, some (x_v w o22), none, none, none, none, none, none] [.int y85] s86 (j415 y85 s86)) (fun y85 s86 => ?_) (fun j415 hj415 => ?_)
                · refine x_istore dL_law_415 (by decide) (L2 := [some (x_v w x0), some (q_rf w 0), some (x_v w x2), some (x_v w x3), some (.int x4), some (.int x5), some (.int v12), none, none, none, some (x_v w o22), none, some (.int y85), none, none, none, none]) rfl (pc2 := 417) rfl ?_
                  refine x_aload_n dL_law_417 x_vR rfl (pc2 := 418) rfl ?_
                  refine x_getRN xf_L_113 (by decide) rfl dL_law_418 (pc2 := 421) rfl (fun o87 => ?_)
                  refine x_astore x_vR dL_law_421 (by decide) (L2 := [some (x_v w x0), some (q_rf w 0), some (x_v w x2), some (x_v w x3), some (.int x4), some (.int x5), some (.int v12), none, none, none, some (x_v w o22), none, some (.int y85), some (x_v w o87), none, none, none]) rfl (pc2 := 423) rfl ?_
                  refine x_aload dL_law_423 x_vR rfl (pc2 := 425) rfl ?_
                  refine x_alen dL_law_425 (pc2 := 426) rfl (fun v88 => ?_)
                  refine x_istore dL_law_426 (by decide) (L2 := [some (x_v w x0), some (q_rf w 0), some (x_v w x2), some (x_v w x3), some (.int x4), some (.int x5), some (.int v12), none, none, none, some (x_v w o22), none, some (.int y85), some (x_v w o87), some (.int v88), none, none]) rfl (pc2 := 428) rfl ?_
                  refine x_iconst dL_law_428 ic_0 (pc2 := 429) rfl ?_
                  refine x_istore dL_law_429 (by decide) (L2 := [some (x_v w x0), some (q_rf w 0), some (x_v w x2), some (x_v w x3), some (.int x4), some (.int x5), some (.int v12), none, none, none, some (x_v w o22), none, some (.int y85), some (x_v w o87), some (.int v88), some (.int 0), none]) rfl (pc2 := 431) rfl ?_
                  refine T_L_law_L431 hop (fun y95 s96 => ?_) n _ _ _
                  refine x_iload dL_law_479 rfl (pc2 := 481) rfl ?_
                  refine x_bipush dL_law_481 bp_10 (pc2 := 483) rfl ?_
                  refine x_jn (P := fun j497 => ∀ (y97 : Int32) (s98 : x_U), x_G w cx RL nm code 17 (some .boolean) 16 648 M0 x_aI 497 [some (x_v w x0), some (q_rf w 0), some (x_v w x2), some (x_v w x3), some (.int x4), some (.int x5), none, none, none, none, some (x_v w o22), none, some (.int y95), none, none, none, none] [.int y97] s98 (j497 y97 s98)) (fun y97 s98 => ?_) (fun j497 hj497 => ?_)
                  · refine x_istore dL_law_497 (by decide) (L2 := [some (x_v w x0), some (q_rf w 0), some (x_v w x2), some (x_v w x3), some (.int x4), some (.int x5), none, none, none, none, some (x_v w o22), none, some (.int y95), some (.int y97), none, none, none]) rfl (pc2 := 499) rfl ?_
                    refine x_iload dL_law_499 rfl (pc2 := 501) rfl ?_
                    refine x_jn (P := fun j509 => ∀ (y99 : Int32) (s100 : x_U), x_G w cx RL nm code 17 (some .boolean) 16 648 M0 x_aI 509 [some (x_v w x0), some (q_rf w 0), some (x_v w x2), some (x_v w x3), some (.int x4), some (.int x5), none, none, none, none, some (x_v w o22), none, some (.int y95), some (.int y97), none, none, none] [.int y99] s100 (j509 y99 s100)) (fun y99 s100 => ?_) (fun j509 hj509 => ?_)
                    · refine x_istore dL_law_509 (by decide) (L2 := [some (x_v w x0), some (q_rf w 0), some (x_v w x2), some (x_v w x3), some (.int x4), some (.int x5), none, none, none, none, some (x_v w o22), some (.int y99), some (.int y95), some (.int y97), none, none, none]) rfl (pc2 := 511) rfl ?_
                      refine x_aload_n dL_law_511 x_cR rfl (pc2 := 512) rfl ?_
                      refine x_iload dL_law_512 rfl (pc2 := 514) rfl ?_
                      refine x_callcI (As := [.int y95]) (fun w' => C_X11_go q_kd0) mv_X11_go xl_L_219 rfl rfl ⟨by decide, by decide⟩ (Nat.le_trans x_s0 (by decide)) dL_law_514 (pc2 := 517) rfl (fun r102 s101 => ?_)
                      refine x_iload dL_law_517 rfl (pc2 := 519) rfl ?_
                      refine x_icmp_eq dL_law_519 (pc1 := 524) (pc2 := 522) rfl rfl (fun _ => ?_) (fun _ => ?_)
                      · refine x_goto dL_law_524 (pc2 := 989) rfl ?_
                        refine x_Gmask [true, true, true, true, true, true, true, true, true, true, true, true, false, false, true, true, true] (L2 := [some (x_v w x0), some (q_rf w 0), some (x_v w x2), some (x_v w x3), some (.int x4), some (.int x5), none, none, none, none, some (x_v w o22), some (.int y99), none, none, none, none, none]) rfl ?_
                        exact hj989 _ _ _ _
                      · refine x_iconst dL_law_522 ic_0 (pc2 := 523) rfl ?_
                        exact x_nret rfl dL_law_523
                    · refine x_if_lt dL_law_501 (pc1 := 508) (pc2 := 504) rfl rfl (fun _ => ?_) (fun _ => ?_)
                      · refine x_iconst dL_law_508 ic_0 (pc2 := 509) rfl ?_
                        exact hj509 _ _
                      · refine x_iconst dL_law_504 ic_1 (pc2 := 505) rfl ?_
                        refine x_goto dL_law_505 (pc2 := 509) rfl ?_
                        exact hj509 _ _
                  · refine x_icmp_ge dL_law_483 (pc1 := 486) (pc2 := 496) rfl rfl (fun _ => ?_) (fun _ => ?_)
                    · refine x_aload_n dL_law_486 x_vR rfl (pc2 := 487) rfl ?_
                      refine x_iload dL_law_487 rfl (pc2 := 489) rfl ?_
                      refine x_iconst dL_law_489 ic_1 (pc2 := 490) rfl ?_
                      refine x_oo (ci := 12) (fun hk105 => ?_)
                      refine x_callVI (As := [.int y95, .int 1]) C2_X12_goes xm_X12_goes (fun h => by first | rfl | cases h) xl_L_215 hk105 rfl rfl ⟨by decide, by decide⟩ (Nat.le_trans x_s0 (by decide)) dL_law_490 (pc2 := 493) rfl (fun r104 s103 => ?_) hop
                      refine x_goto dL_law_493 (pc2 := 497) rfl ?_
                      exact hj497 _ _
                    · refine x_iconst dL_law_496 ic_m1 (pc2 := 497) rfl ?_
                      exact hj497 _ _
                · refine x_if_ne dL_law_375 (pc1 := 378) (pc2 := 392) rfl rfl (fun _ => ?_) (fun _ => ?_)
                  · refine x_iload dL_law_378 rfl (pc2 := 380) rfl ?_
                    refine x_bipush dL_law_380 bp_6 (pc2 := 382) rfl ?_
                    refine x_ishr dL_law_382 (pc2 := 383) rfl ?_
                    refine x_iconst dL_law_383 ic_0 (pc2 := 384) rfl ?_
                    refine x_bipush dL_law_384 bp_10 (pc2 := 386) rfl ?_
                    refine x_callSI (As := [.int (v12 >>> (6 &&& 31)), .int 0, .int 10]) C2_L_between xm_L_between xl_L_43 rfl rfl ⟨by decide, by decide⟩ (Nat.le_trans x_s0 (by decide)) dL_law_386 (pc2 := 389) rfl (fun r107 s106 => ?_) hop
                    refine x_goto dL_law_389 (pc2 := 415) rfl ?_
                    refine x_Gmask [true, true, true, true, true, true, true, false, false, false, true, false, true, true, true, true, true] (L2 := [some (x_v w x0), some (q_rf w 0), some (x_v w x2), some (x_v w x3), some (.int x4), some (.int x5), some (.int v12), none, none, none, some (x_v w o22), none, none, none, none, none, none]) rfl ?_
                    exact hj415 _ _
                  · refine x_aload_n dL_law_392 x_vR rfl (pc2 := 393) rfl ?_
                    refine x_getRN xf_L_113 (by decide) rfl dL_law_393 (pc2 := 396) rfl (fun o108 => ?_)
                    refine x_iload dL_law_396 rfl (pc2 := 398) rfl ?_
                    refine x_bipush dL_law_398 bp_6 (pc2 := 400) rfl ?_
                    refine x_ishr dL_law_400 (pc2 := 401) rfl ?_
                    refine x_iconst dL_law_401 ic_0 (pc2 := 402) rfl ?_
                    refine x_aload_n dL_law_402 x_vR rfl (pc2 := 403) rfl ?_
                    refine x_getRN xf_L_113 (by decide) rfl dL_law_403 (pc2 := 406) rfl (fun o109 => ?_)
                    refine x_alen dL_law_406 (pc2 := 407) rfl (fun v110 => ?_)
                    refine x_iconst dL_law_407 ic_1 (pc2 := 408) rfl ?_
                    refine x_isub dL_law_408 (pc2 := 409) rfl ?_
                    refine x_callSI (As := [.int (v12 >>> (6 &&& 31)), .int 0, .int (v110 - 1)]) C2_L_between xm_L_between xl_L_43 rfl rfl ⟨by decide, by decide⟩ (Nat.le_trans (x_sm x_vcat x_s0) (by decide)) dL_law_409 (pc2 := 412) rfl (fun r112 s111 => ?_) hop
                    refine x_aald dL_law_412 (pc2 := 413) rfl (fun o113 => ?_)
                    refine x_iconst dL_law_413 ic_1 (pc2 := 414) rfl ?_
                    refine x_iald dL_law_414 (pc2 := 415) rfl (fun v114 => ?_)
                    refine x_Gmask [true, true, true, true, true, true, true, false, false, false, true, false, true, true, true, true, true] (L2 := [some (x_v w x0), some (q_rf w 0), some (x_v w x2), some (x_v w x3), some (.int x4), some (.int x5), some (.int v12), none, none, none, some (x_v w o22), none, none, none, none, none, none]) rfl ?_
                    exact hj415 _ _
              · refine x_iload dL_law_527 rfl (pc2 := 529) rfl ?_
                refine x_bipush dL_law_529 bp_8 (pc2 := 531) rfl ?_
                refine x_icmp_ne dL_law_531 (pc1 := 534) (pc2 := 597) rfl rfl (fun _ => ?_) (fun _ => ?_)
                · refine x_iconst dL_law_534 ic_1 (pc2 := 535) rfl ?_
                  refine x_istore dL_law_535 (by decide) (L2 := [some (x_v w x0), some (q_rf w 0), some (x_v w x2), some (x_v w x3), some (.int x4), some (.int x5), some (.int v12), some (.int r14), some (.int r17), some (.int r20), some (x_v w o22), some (.int 1), none, none, none, none, none]) rfl (pc2 := 537) rfl ?_
                  refine x_aload_n dL_law_537 x_vR rfl (pc2 := 538) rfl ?_
                  refine x_oo (ci := 12) (fun hk117 => ?_)
                  refine x_callVI (As := []) C2_X12_lame xm_X12_lame (fun h => by first | rfl | cases h) xl_L_222 hk117 rfl rfl ⟨by decide, by decide⟩ (Nat.le_trans x_s0 (by decide)) dL_law_538 (pc2 := 541) rfl (fun r116 s115 => ?_) hop
                  refine x_callSI (As := [.int r116]) C2_J6_bitCount_0f7a4 xm_J6_bitCount_0f7a4 xl_L_225 rfl rfl ⟨by decide, by decide⟩ (Nat.le_trans x_s0 (by decide)) dL_law_541 (pc2 := 544) rfl (fun r119 s118 => ?_) hop
                  refine x_istore dL_law_544 (by decide) (L2 := [some (x_v w x0), some (q_rf w 0), some (x_v w x2), some (x_v w x3), some (.int x4), some (.int x5), some (.int v12), some (.int r14), some (.int r17), some (.int r20), some (x_v w o22), some (.int 1), some (.int r119), none, none, none, none]) rfl (pc2 := 546) rfl ?_
                  refine x_iconst dL_law_546 ic_0 (pc2 := 547) rfl ?_
                  refine x_istore dL_law_547 (by decide) (L2 := [some (x_v w x0), some (q_rf w 0), some (x_v w x2), some (x_v w x3), some (.int x4), some (.int x5), some (.int v12), some (.int r14), some (.int r17), some (.int r20), some (x_v w o22), some (.int 1), some (.int r119), some (.int 0), none, none, none]) rfl (pc2 := 549) rfl ?_
                  refine x_Gmask [true, true, true, true, true, true, false, false, false, false, true, true, true, true, true, true, true] (L2 := [some (x_v w x0), some (q_rf w 0), some (x_v w x2), some (x_v w x3), some (.int x4), some (.int x5), none, none, none, none, some (x_v w o22), some (.int 1), some (.int r119), some (.int 0), none, none, none]) rfl ?_
                  refine T_L_law_L549 hop (fun s124 => ?_) n _ _
                  refine x_aload_n dL_law_574 x_vR rfl (pc2 := 575) rfl ?_
                  refine x_bipush dL_law_575 bp_6 (pc2 := 577) rfl ?_
                  refine x_iconst dL_law_577 ic_m1 (pc2 := 578) rfl ?_
                  refine x_iconst dL_law_578 ic_0 (pc2 := 579) rfl ?_
                  refine x_iconst dL_law_579 ic_1 (pc2 := 580) rfl ?_
                  refine x_oo (ci := 12) (fun hk127 => ?_)
                  refine x_callVV (As := [.int 6, .int (-1), .int 0, .int 1]) C2_X12_notes xm_X12_notes (fun h => by first | rfl | cases h) xl_L_230 hk127 rfl rfl ⟨by decide, by decide⟩ (Nat.le_trans x_s0 (by decide)) dL_law_580 (pc2 := 583) rfl (fun r126 s125 => ?_) hop
                  refine x_aload_n dL_law_583 x_cR rfl (pc2 := 584) rfl ?_
                  refine x_callcI (As := []) (fun w' => C_X11_rest q_kd0) mv_X11_rest xl_L_234 rfl rfl ⟨by decide, by decide⟩ (Nat.le_trans x_s0 (by decide)) dL_law_584 (pc2 := 587) rfl (fun r129 s128 => ?_)
                  refine x_iload dL_law_587 rfl (pc2 := 589) rfl ?_
                  refine x_icmp_eq dL_law_589 (pc1 := 594) (pc2 := 592) rfl rfl (fun _ => ?_) (fun _ => ?_)
                  · refine x_goto dL_law_594 (pc2 := 989) rfl ?_
                    refine x_Gmask [true, true, true, true, true, true, true, true, true, true, true, true, false, true, true, true, true] (L2 := [some (x_v w x0), some (q_rf w 0), some (x_v w x2), some (x_v w x3), some (.int x4), some (.int x5), none, none, none, none, some (x_v w o22), some (.int 1), none, none, none, none, none]) rfl ?_
                    exact hj989 _ _ _ _
                  · refine x_iconst dL_law_592 ic_0 (pc2 := 593) rfl ?_
                    exact x_nret rfl dL_law_593
                · refine x_iload dL_law_597 rfl (pc2 := 599) rfl ?_
                  refine x_bipush dL_law_599 bp_9 (pc2 := 601) rfl ?_
                  refine x_icmp_ne dL_law_601 (pc1 := 604) (pc2 := 828) rfl rfl (fun _ => ?_) (fun _ => ?_)
                  · refine x_iload dL_law_604 rfl (pc2 := 606) rfl ?_
                    refine x_iconst dL_law_606 ic_4 (pc2 := 607) rfl ?_
                    refine x_ishr dL_law_607 (pc2 := 608) rfl ?_
                    refine x_iconst dL_law_608 ic_0 (pc2 := 609) rfl ?_
                    refine x_bipush dL_law_609 bp_6 (pc2 := 611) rfl ?_
                    refine x_callSI (As := [.int (v12 >>> (4 &&& 31)), .int 0, .int 6]) C2_L_between xm_L_between xl_L_43 rfl rfl ⟨by decide, by decide⟩ (Nat.le_trans x_s0 (by decide)) dL_law_611 (pc2 := 614) rfl (fun r131 s130 => ?_) hop
                    refine x_istore dL_law_614 (by decide) (L2 := [some (x_v w x0), some (q_rf w 0), some (x_v w x2), some (x_v w x3), some (.int x4), some (.int x5), some (.int v12), some (.int r14), some (.int r17), some (.int r20), some (x_v w o22), some (.int 0), some (.int r131), none, none, none, none]) rfl (pc2 := 616) rfl ?_
                    refine x_iload dL_law_616 rfl (pc2 := 618) rfl ?_
                    refine x_iconst dL_law_618 ic_2 (pc2 := 619) rfl ?_
                    refine x_jn (P := fun j629 => ∀ (y132 : Int32) (s133 : x_U), x_G w cx RL nm code 17 (some .boolean) 16 648 M0 x_aI 629 [some (x_v w x0), some (q_rf w 0), some (x_v w x2), some (x_v w x3), some (.int x4), some (.int x5), some (.int v12), none, some (.int r17), some (.int r20), some (x_v w o22), some (.int 0), some (.int r131), none, none, none, none] [.int y132] s133 (j629 y132 s133)) (fun y132 s133 => ?_) (fun j629 hj629 => ?_)
                    · refine x_istore dL_law_629 (by decide) (L2 := [some (x_v w x0), some (q_rf w 0), some (x_v w x2), some (x_v w x3), some (.int x4), some (.int x5), some (.int v12), none, some (.int r17), some (.int r20), some (x_v w o22), some (.int 0), some (.int r131), some (.int y132), none, none, none]) rfl (pc2 := 631) rfl ?_
                      refine x_iload dL_law_631 rfl (pc2 := 633) rfl ?_
                      refine x_bipush dL_law_633 bp_6 (pc2 := 635) rfl ?_
                      refine x_ishr dL_law_635 (pc2 := 636) rfl ?_
                      refine x_iconst dL_law_636 ic_0 (pc2 := 637) rfl ?_
                      refine x_iload dL_law_637 rfl (pc2 := 639) rfl ?_
                      refine x_iconst dL_law_639 ic_3 (pc2 := 640) rfl ?_
                      refine x_jn (P := fun j650 => ∀ (y134 : Int32) (s135 : x_U), x_G w cx RL nm code 17 (some .boolean) 16 648 M0 x_aI 650 [some (x_v w x0), some (q_rf w 0), some (x_v w x2), some (x_v w x3), some (.int x4), some (.int x5), none, none, some (.int r17), some (.int r20), some (x_v w o22), some (.int 0), some (.int r131), some (.int y132), none, none, none] [.int y134, .int 0, .int (v12 >>> (6 &&& 31))] s135 (j650 y134 s135)) (fun y134 s135 => ?_) (fun j650 hj650 => ?_)
                      · refine x_callSI (As := [.int (v12 >>> (6 &&& 31)), .int 0, .int y134]) C2_L_between xm_L_between xl_L_43 rfl rfl ⟨by decide, by decide⟩ (Nat.le_trans x_s0 (by decide)) dL_law_650 (pc2 := 653) rfl (fun r137 s136 => ?_) hop
                        refine x_istore dL_law_653 (by decide) (L2 := [some (x_v w x0), some (q_rf w 0), some (x_v w x2), some (x_v w x3), some (.int x4), some (.int x5), none, none, some (.int r17), some (.int r20), some (x_v w o22), some (.int 0), some (.int r131), some (.int y132), some (.int r137), none, none]) rfl (pc2 := 655) rfl ?_
                        refine x_bipush dL_law_655 bp_7 (pc2 := 657) rfl ?_
                        refine x_newa (t := 0) (ty := .int) rfl (Or.inl ⟨rfl, rfl⟩) nw_arr dL_law_657 (pc2 := 659) rfl (fun o138 s139 => ?_)
                        refine x_dup dL_law_659 x_vcat (pc2 := 660) rfl ?_
                        refine x_iconst dL_law_660 ic_0 (pc2 := 661) rfl ?_
                        refine x_bipush dL_law_661 bp_9 (pc2 := 663) rfl ?_
                        refine x_iast dL_law_663 (pc2 := 664) rfl (fun s140 => ?_)
                        refine x_dup dL_law_664 x_vcat (pc2 := 665) rfl ?_
                        refine x_iconst dL_law_665 ic_1 (pc2 := 666) rfl ?_
                        refine x_bipush dL_law_666 bp_9 (pc2 := 668) rfl ?_
                        refine x_iast dL_law_668 (pc2 := 669) rfl (fun s141 => ?_)
                        refine x_dup dL_law_669 x_vcat (pc2 := 670) rfl ?_
                        refine x_iconst dL_law_670 ic_2 (pc2 := 671) rfl ?_
                        refine x_iconst dL_law_671 ic_1 (pc2 := 672) rfl ?_
                        refine x_iast dL_law_672 (pc2 := 673) rfl (fun s142 => ?_)
                        refine x_dup dL_law_673 x_vcat (pc2 := 674) rfl ?_
                        refine x_iconst dL_law_674 ic_3 (pc2 := 675) rfl ?_
                        refine x_bipush dL_law_675 bp_99 (pc2 := 677) rfl ?_
                        refine x_iast dL_law_677 (pc2 := 678) rfl (fun s143 => ?_)
                        refine x_dup dL_law_678 x_vcat (pc2 := 679) rfl ?_
                        refine x_iconst dL_law_679 ic_4 (pc2 := 680) rfl ?_
                        refine x_bipush dL_law_680 bp_9 (pc2 := 682) rfl ?_
                        refine x_iast dL_law_682 (pc2 := 683) rfl (fun s144 => ?_)
                        refine x_dup dL_law_683 x_vcat (pc2 := 684) rfl ?_
                        refine x_iconst dL_law_684 ic_5 (pc2 := 685) rfl ?_
                        refine x_bipush dL_law_685 bp_9 (pc2 := 687) rfl ?_
                        refine x_iast dL_law_687 (pc2 := 688) rfl (fun s145 => ?_)
                        refine x_dup dL_law_688 x_vcat (pc2 := 689) rfl ?_
                        refine x_bipush dL_law_689 bp_6 (pc2 := 691) rfl ?_
                        refine x_iconst dL_law_691 ic_m1 (pc2 := 692) rfl ?_
                        refine x_iast dL_law_692 (pc2 := 693) rfl (fun s146 => ?_)
                        refine x_astore x_vR dL_law_693 (by decide) (L2 := [some (x_v w x0), some (q_rf w 0), some (x_v w x2), some (x_v w x3), some (.int x4), some (.int x5), none, none, some (.int r17), some (.int r20), some (x_v w o22), some (.int 0), some (.int r131), some (.int y132), some (.int r137), some (x_v w o138), none]) rfl (pc2 := 695) rfl ?_
                        refine x_iload dL_law_695 rfl (pc2 := 697) rfl ?_
                        refine x_aload dL_law_697 x_vR rfl (pc2 := 699) rfl ?_
                        refine x_iload dL_law_699 rfl (pc2 := 701) rfl ?_
                        refine x_iald dL_law_701 (pc2 := 702) rfl (fun v147 => ?_)
                        refine x_jn (P := fun j738 => ∀ (y148 : Int32) (s149 : x_U), x_G w cx RL nm code 17 (some .boolean) 16 648 M0 x_aI 738 [some (x_v w x0), some (q_rf w 0), some (x_v w x2), some (x_v w x3), some (.int x4), some (.int x5), none, none, some (.int r17), some (.int r20), some (x_v w o22), some (.int 0), some (.int r131), some (.int y132), some (.int r137), none, none] [.int y148] s149 (j738 y148 s149)) (fun y148 s149 => ?_) (fun j738 hj738 => ?_)
                        · refine x_istore dL_law_738 (by decide) (L2 := [some (x_v w x0), some (q_rf w 0), some (x_v w x2), some (x_v w x3), some (.int x4), some (.int x5), none, none, some (.int r17), some (.int r20), some (x_v w o22), some (.int 0), some (.int r131), some (.int y132), some (.int r137), none, some (.int y148)]) rfl (pc2 := 740) rfl ?_
                          refine x_aload_n dL_law_740 x_cR rfl (pc2 := 741) rfl ?_
                          refine x_iload dL_law_741 rfl (pc2 := 743) rfl ?_
                          refine x_iload dL_law_743 rfl (pc2 := 745) rfl ?_
                          refine x_iload dL_law_745 rfl (pc2 := 747) rfl ?_
                          refine x_callcI (As := [.int r131, .int y132, .int r137]) (fun w' => C_X11_set q_kd0) mv_X11_set xl_L_148 rfl rfl ⟨by decide, by decide⟩ (Nat.le_trans x_s0 (by decide)) dL_law_747 (pc2 := 750) rfl (fun r151 s150 => ?_)
                          refine x_iload dL_law_750 rfl (pc2 := 752) rfl ?_
                          refine x_icmp_eq dL_law_752 (pc1 := 757) (pc2 := 755) rfl rfl (fun _ => ?_) (fun _ => ?_)
                          · refine x_iload dL_law_757 rfl (pc2 := 759) rfl ?_
                            refine x_jn (P := fun j825 => ∀ (y152 : Int32) (s153 : x_U), x_G w cx RL nm code 17 (some .boolean) 16 648 M0 x_aI 825 [some (x_v w x0), some (q_rf w 0), some (x_v w x2), some (x_v w x3), some (.int y152), some (.int x5), none, none, none, none, some (x_v w o22), some (.int 0), none, none, none, none, none] [] s153 (j825 y152 s153)) (fun y152 s153 => ?_) (fun j825 hj825 => ?_)
                            · refine x_goto dL_law_825 (pc2 := 989) rfl ?_
                              exact hj989 _ _ _ _
                            · refine x_if_eq dL_law_759 (pc1 := 825) (pc2 := 762) rfl rfl (fun _ => ?_) (fun _ => ?_)
                              · refine x_Gmask [true, true, true, true, true, true, true, true, false, false, true, true, false, false, false, true, false] (L2 := [some (x_v w x0), some (q_rf w 0), some (x_v w x2), some (x_v w x3), some (.int x4), some (.int x5), none, none, none, none, some (x_v w o22), some (.int 0), none, none, none, none, none]) rfl ?_
                                exact hj825 _ _
                              · refine x_iload dL_law_762 rfl (pc2 := 764) rfl ?_
                                refine x_jn (P := fun j773 => ∀  (s154 : x_U), x_G w cx RL nm code 17 (some .boolean) 16 648 M0 x_aI 773 [some (x_v w x0), some (q_rf w 0), some (x_v w x2), some (x_v w x3), none, some (.int x5), none, none, some (.int r17), some (.int r20), some (x_v w o22), some (.int 0), some (.int r131), none, some (.int r137), none, none] [] s154 (j773 s154)) (fun s154 => ?_) (fun j773 hj773 => ?_)
                                · refine x_iload dL_law_773 rfl (pc2 := 775) rfl ?_
                                  refine x_iconst dL_law_775 ic_1 (pc2 := 776) rfl ?_
                                  refine x_jn (P := fun j785 => ∀  (s155 : x_U), x_G w cx RL nm code 17 (some .boolean) 16 648 M0 x_aI 785 [some (x_v w x0), some (q_rf w 0), some (x_v w x2), some (x_v w x3), none, some (.int x5), none, none, some (.int r17), some (.int r20), some (x_v w o22), some (.int 0), some (.int r131), none, some (.int r137), none, none] [] s155 (j785 s155)) (fun s155 => ?_) (fun j785 hj785 => ?_)
                                  · refine x_iload dL_law_785 rfl (pc2 := 787) rfl ?_
                                    refine x_iconst dL_law_787 ic_2 (pc2 := 788) rfl ?_
                                    refine x_jn (P := fun j802 => ∀  (s156 : x_U), x_G w cx RL nm code 17 (some .boolean) 16 648 M0 x_aI 802 [some (x_v w x0), some (q_rf w 0), some (x_v w x2), some (x_v w x3), none, some (.int x5), none, none, none, some (.int r20), some (x_v w o22), some (.int 0), some (.int r131), none, some (.int r137), none, none] [] s156 (j802 s156)) (fun s156 => ?_) (fun j802 hj802 => ?_)
                                    · refine x_iload dL_law_802 rfl (pc2 := 804) rfl ?_
                                      refine x_iconst dL_law_804 ic_2 (pc2 := 805) rfl ?_
                                      refine x_jn (P := fun j822 => ∀  (s157 : x_U), x_G w cx RL nm code 17 (some .boolean) 16 648 M0 x_aI 822 [some (x_v w x0), some (q_rf w 0), some (x_v w x2), some (x_v w x3), none, some (.int x5), none, none, none, none, some (x_v w o22), some (.int 0), none, none, none, none, none] [] s157 (j822 s157)) (fun s157 => ?_) (fun j822 hj822 => ?_)
                                      · refine x_iconst dL_law_822 ic_0 (pc2 := 823) rfl ?_
                                        refine x_istore dL_law_823 (by decide) (L2 := [some (x_v w x0), some (q_rf w 0), some (x_v w x2), some (x_v w x3), some (.int 0), some (.int x5), none, none, none, none, some (x_v w o22), some (.int 0), none, none, none, none, none]) rfl (pc2 := 825) rfl ?_
                                        exact hj825 _ _
                                      · refine x_icmp_le dL_law_805 (pc1 := 822) (pc2 := 808) rfl rfl (fun _ => ?_) (fun _ => ?_)
                                        · refine x_Gmask [true, true, true, true, true, true, true, true, true, false, true, true, false, true, false, true, true] (L2 := [some (x_v w x0), some (q_rf w 0), some (x_v w x2), some (x_v w x3), none, some (.int x5), none, none, none, none, some (x_v w o22), some (.int 0), none, none, none, none, none]) rfl ?_
                                          exact hj822 _
                                        · refine x_aload_n dL_law_808 x_vR rfl (pc2 := 809) rfl ?_
                                          refine x_getRN xf_L_152 (by decide) rfl dL_law_809 (pc2 := 812) rfl (fun o158 => ?_)
                                          refine x_iload dL_law_812 rfl (pc2 := 814) rfl ?_
                                          refine x_aald dL_law_814 (pc2 := 815) rfl (fun o159 => ?_)
                                          refine x_iload dL_law_815 rfl (pc2 := 817) rfl ?_
                                          refine x_iconst dL_law_817 ic_3 (pc2 := 818) rfl ?_
                                          refine x_isub dL_law_818 (pc2 := 819) rfl ?_
                                          refine x_iload dL_law_819 rfl (pc2 := 821) rfl ?_
                                          refine x_iast dL_law_821 (pc2 := 822) rfl (fun s160 => ?_)
                                          refine x_Gmask [true, true, true, true, true, true, true, true, true, false, true, true, false, true, false, true, true] (L2 := [some (x_v w x0), some (q_rf w 0), some (x_v w x2), some (x_v w x3), none, some (.int x5), none, none, none, none, some (x_v w o22), some (.int 0), none, none, none, none, none]) rfl ?_
                                          exact hj822 _
                                    · refine x_icmp_ne dL_law_788 (pc1 := 791) (pc2 := 802) rfl rfl (fun _ => ?_) (fun _ => ?_)
                                      · refine x_aload_n dL_law_791 x_vR rfl (pc2 := 792) rfl ?_
                                        refine x_getRN xf_L_52 (by decide) rfl dL_law_792 (pc2 := 795) rfl (fun o161 => ?_)
                                        refine x_iload dL_law_795 rfl (pc2 := 797) rfl ?_
                                        refine x_aald dL_law_797 (pc2 := 798) rfl (fun o162 => ?_)
                                        refine x_iconst dL_law_798 ic_2 (pc2 := 799) rfl ?_
                                        refine x_iload dL_law_799 rfl (pc2 := 801) rfl ?_
                                        refine x_iast dL_law_801 (pc2 := 802) rfl (fun s163 => ?_)
                                        refine x_Gmask [true, true, true, true, true, true, true, true, false, true, true, true, true, true, true, true, true] (L2 := [some (x_v w x0), some (q_rf w 0), some (x_v w x2), some (x_v w x3), none, some (.int x5), none, none, none, some (.int r20), some (x_v w o22), some (.int 0), some (.int r131), none, some (.int r137), none, none]) rfl ?_
                                        exact hj802 _
                                      · refine x_Gmask [true, true, true, true, true, true, true, true, false, true, true, true, true, true, true, true, true] (L2 := [some (x_v w x0), some (q_rf w 0), some (x_v w x2), some (x_v w x3), none, some (.int x5), none, none, none, some (.int r20), some (x_v w o22), some (.int 0), some (.int r131), none, some (.int r137), none, none]) rfl ?_
                                        exact hj802 _
                                  · refine x_icmp_ne dL_law_776 (pc1 := 779) (pc2 := 785) rfl rfl (fun _ => ?_) (fun _ => ?_)
                                    · refine x_aload_n dL_law_779 x_vR rfl (pc2 := 780) rfl ?_
                                      refine x_iload dL_law_780 rfl (pc2 := 782) rfl ?_
                                      refine x_putI (Or.inr ⟨rfl, xf_L_166⟩) (Or.inl rfl) rfl rfl rfl dL_law_782 (pc2 := 785) rfl (fun s164 => ?_)
                                      exact hj785 _
                                    · exact hj785 _
                                · refine x_if_ne dL_law_764 (pc1 := 767) (pc2 := 773) rfl rfl (fun _ => ?_) (fun _ => ?_)
                                  · refine x_aload_n dL_law_767 x_vR rfl (pc2 := 768) rfl ?_
                                    refine x_iload dL_law_768 rfl (pc2 := 770) rfl ?_
                                    refine x_putI (Or.inr ⟨rfl, xf_L_163⟩) (Or.inl rfl) rfl rfl rfl dL_law_770 (pc2 := 773) rfl (fun s165 => ?_)
                                    refine x_Gmask [true, true, true, true, false, true, true, true, true, true, true, true, true, false, true, true, false] (L2 := [some (x_v w x0), some (q_rf w 0), some (x_v w x2), some (x_v w x3), none, some (.int x5), none, none, some (.int r17), some (.int r20), some (x_v w o22), some (.int 0), some (.int r131), none, some (.int r137), none, none]) rfl ?_
                                    exact hj773 _
                                  · refine x_Gmask [true, true, true, true, false, true, true, true, true, true, true, true, true, false, true, true, false] (L2 := [some (x_v w x0), some (q_rf w 0), some (x_v w x2), some (x_v w x3), none, some (.int x5), none, none, some (.int r17), some (.int r20), some (x_v w o22), some (.int 0), some (.int r131), none, some (.int r137), none, none]) rfl ?_
                                    exact hj773 _
                          · refine x_iconst dL_law_755 ic_0 (pc2 := 756) rfl ?_
                            exact x_nret rfl dL_law_756
                        · refine x_jn (P := fun j737 => ∀  (s166 : x_U), x_G w cx RL nm code 17 (some .boolean) 16 648 M0 x_aI 737 [some (x_v w x0), some (q_rf w 0), some (x_v w x2), some (x_v w x3), some (.int x4), some (.int x5), none, none, some (.int r17), some (.int r20), some (x_v w o22), some (.int 0), some (.int r131), some (.int y132), some (.int r137), none, none] [] s166 (j737 s166)) (fun s166 => ?_) (fun j737 hj737 => ?_)
                          · refine x_iconst dL_law_737 ic_0 (pc2 := 738) rfl ?_
                            exact hj738 _ _
                          · refine x_icmp_gt dL_law_702 (pc1 := 705) (pc2 := 737) rfl rfl (fun _ => ?_) (fun _ => ?_)
                            · refine x_iload dL_law_705 rfl (pc2 := 707) rfl ?_
                              refine x_iconst dL_law_707 ic_2 (pc2 := 708) rfl ?_
                              refine x_jn (P := fun j733 => ∀  (s167 : x_U), x_G w cx RL nm code 17 (some .boolean) 16 648 M0 x_aI 733 [some (x_v w x0), some (q_rf w 0), some (x_v w x2), some (x_v w x3), some (.int x4), some (.int x5), none, none, some (.int r17), some (.int r20), some (x_v w o22), some (.int 0), some (.int r131), some (.int y132), some (.int r137), none, none] [] s167 (j733 s167)) (fun s167 => ?_) (fun j733 hj733 => ?_)
                              · refine x_iconst dL_law_733 ic_1 (pc2 := 734) rfl ?_
                                refine x_goto dL_law_734 (pc2 := 738) rfl ?_
                                exact hj738 _ _
                              · refine x_icmp_lt dL_law_708 (pc1 := 733) (pc2 := 711) rfl rfl (fun _ => ?_) (fun _ => ?_)
                                · refine x_Gmask [true, true, true, true, true, true, true, true, true, true, true, true, true, true, true, false, true] (L2 := [some (x_v w x0), some (q_rf w 0), some (x_v w x2), some (x_v w x3), some (.int x4), some (.int x5), none, none, some (.int r17), some (.int r20), some (x_v w o22), some (.int 0), some (.int r131), some (.int y132), some (.int r137), none, none]) rfl ?_
                                  exact hj733 _
                                · refine x_iload dL_law_711 rfl (pc2 := 713) rfl ?_
                                  refine x_iload dL_law_713 rfl (pc2 := 715) rfl ?_
                                  refine x_iconst dL_law_715 ic_2 (pc2 := 716) rfl ?_
                                  refine x_jn (P := fun j730 => ∀ (y168 : Int32) (s169 : x_U), x_G w cx RL nm code 17 (some .boolean) 16 648 M0 x_aI 730 [some (x_v w x0), some (q_rf w 0), some (x_v w x2), some (x_v w x3), some (.int x4), some (.int x5), none, none, some (.int r17), some (.int r20), some (x_v w o22), some (.int 0), some (.int r131), some (.int y132), some (.int r137), none, none] [.int y168, .int y132] s169 (j730 y168 s169)) (fun y168 s169 => ?_) (fun j730 hj730 => ?_)
                                  · refine x_icmp_ge dL_law_730 (pc1 := 733) (pc2 := 737) rfl rfl (fun _ => ?_) (fun _ => ?_)
                                    · exact hj733 _
                                    · exact hj737 _
                                  · refine x_icmp_ne dL_law_716 (pc1 := 719) (pc2 := 726) rfl rfl (fun _ => ?_) (fun _ => ?_)
                                    · refine x_aload_n dL_law_719 x_vR rfl (pc2 := 720) rfl ?_
                                      refine x_getIN xf_L_37 (by decide) rfl dL_law_720 (pc2 := 723) rfl (fun v170 => ?_)
                                      refine x_goto dL_law_723 (pc2 := 730) rfl ?_
                                      refine x_Gmask [true, true, true, true, true, true, true, true, true, true, true, true, true, true, true, false, true] (L2 := [some (x_v w x0), some (q_rf w 0), some (x_v w x2), some (x_v w x3), some (.int x4), some (.int x5), none, none, some (.int r17), some (.int r20), some (x_v w o22), some (.int 0), some (.int r131), some (.int y132), some (.int r137), none, none]) rfl ?_
                                      exact hj730 _ _
                                    · refine x_aload_n dL_law_726 x_vR rfl (pc2 := 727) rfl ?_
                                      refine x_getIN xf_L_103 (by decide) rfl dL_law_727 (pc2 := 730) rfl (fun v171 => ?_)
                                      refine x_Gmask [true, true, true, true, true, true, true, true, true, true, true, true, true, true, true, false, true] (L2 := [some (x_v w x0), some (q_rf w 0), some (x_v w x2), some (x_v w x3), some (.int x4), some (.int x5), none, none, some (.int r17), some (.int r20), some (x_v w o22), some (.int 0), some (.int r131), some (.int y132), some (.int r137), none, none]) rfl ?_
                                      exact hj730 _ _
                            · refine x_Gmask [true, true, true, true, true, true, true, true, true, true, true, true, true, true, true, false, true] (L2 := [some (x_v w x0), some (q_rf w 0), some (x_v w x2), some (x_v w x3), some (.int x4), some (.int x5), none, none, some (.int r17), some (.int r20), some (x_v w o22), some (.int 0), some (.int r131), some (.int y132), some (.int r137), none, none]) rfl ?_
                              exact hj737 _
                      · refine x_icmp_ne dL_law_640 (pc1 := 643) (pc2 := 648) rfl rfl (fun _ => ?_) (fun _ => ?_)
                        · refine x_bipush dL_law_643 bp_100 (pc2 := 645) rfl ?_
                          refine x_goto dL_law_645 (pc2 := 650) rfl ?_
                          refine x_Gmask [true, true, true, true, true, true, false, true, true, true, true, true, true, true, true, true, true] (L2 := [some (x_v w x0), some (q_rf w 0), some (x_v w x2), some (x_v w x3), some (.int x4), some (.int x5), none, none, some (.int r17), some (.int r20), some (x_v w o22), some (.int 0), some (.int r131), some (.int y132), none, none, none]) rfl ?_
                          exact hj650 _ _
                        · refine x_bipush dL_law_648 bp_10 (pc2 := 650) rfl ?_
                          refine x_Gmask [true, true, true, true, true, true, false, true, true, true, true, true, true, true, true, true, true] (L2 := [some (x_v w x0), some (q_rf w 0), some (x_v w x2), some (x_v w x3), some (.int x4), some (.int x5), none, none, some (.int r17), some (.int r20), some (x_v w o22), some (.int 0), some (.int r131), some (.int y132), none, none, none]) rfl ?_
                          exact hj650 _ _
                    · refine x_icmp_ne dL_law_619 (pc1 := 622) (pc2 := 627) rfl rfl (fun _ => ?_) (fun _ => ?_)
                      · refine x_iload dL_law_622 rfl (pc2 := 624) rfl ?_
                        refine x_goto dL_law_624 (pc2 := 629) rfl ?_
                        refine x_Gmask [true, true, true, true, true, true, true, false, true, true, true, true, true, true, true, true, true] (L2 := [some (x_v w x0), some (q_rf w 0), some (x_v w x2), some (x_v w x3), some (.int x4), some (.int x5), some (.int v12), none, some (.int r17), some (.int r20), some (x_v w o22), some (.int 0), some (.int r131), none, none, none, none]) rfl ?_
                        exact hj629 _ _
                      · refine x_iload dL_law_627 rfl (pc2 := 629) rfl ?_
                        refine x_Gmask [true, true, true, true, true, true, true, false, true, true, true, true, true, true, true, true, true] (L2 := [some (x_v w x0), some (q_rf w 0), some (x_v w x2), some (x_v w x3), some (.int x4), some (.int x5), some (.int v12), none, some (.int r17), some (.int r20), some (x_v w o22), some (.int 0), some (.int r131), none, none, none, none]) rfl ?_
                        exact hj629 _ _
                  · refine x_iload dL_law_828 rfl (pc2 := 830) rfl ?_
                    refine x_bipush dL_law_830 bp_10 (pc2 := 832) rfl ?_
                    refine x_icmp_ne dL_law_832 (pc1 := 835) (pc2 := 922) rfl rfl (fun _ => ?_) (fun _ => ?_)
                    · refine x_iload dL_law_835 rfl (pc2 := 837) rfl ?_
                      refine x_bipush dL_law_837 bp_6 (pc2 := 839) rfl ?_
                      refine x_ishr dL_law_839 (pc2 := 840) rfl ?_
                      refine x_iconst dL_law_840 ic_0 (pc2 := 841) rfl ?_
                      refine x_bipush dL_law_841 bp_100 (pc2 := 843) rfl ?_
                      refine x_callSI (As := [.int (v12 >>> (6 &&& 31)), .int 0, .int 100]) C2_L_between xm_L_between xl_L_43 rfl rfl ⟨by decide, by decide⟩ (Nat.le_trans x_s0 (by decide)) dL_law_843 (pc2 := 846) rfl (fun r173 s172 => ?_) hop
                      refine x_istore dL_law_846 (by decide) (L2 := [some (x_v w x0), some (q_rf w 0), some (x_v w x2), some (x_v w x3), some (.int x4), some (.int x5), some (.int v12), some (.int r14), some (.int r17), some (.int r20), some (x_v w o22), some (.int 0), some (.int r173), none, none, none, none]) rfl (pc2 := 848) rfl ?_
                      refine x_iload dL_law_848 rfl (pc2 := 850) rfl ?_
                      refine x_aload_n dL_law_850 x_vR rfl (pc2 := 851) rfl ?_
                      refine x_getIN xf_L_37 (by decide) rfl dL_law_851 (pc2 := 854) rfl (fun v174 => ?_)
                      refine x_jn (P := fun j878 => ∀ (y175 : Int32) (s176 : x_U), x_G w cx RL nm code 17 (some .boolean) 16 648 M0 x_aI 878 [some (x_v w x0), some (q_rf w 0), some (x_v w x2), some (x_v w x3), some (.int x4), some (.int x5), none, none, some (.int r17), some (.int r20), some (x_v w o22), some (.int 0), some (.int r173), none, none, none, none] [.int y175] s176 (j878 y175 s176)) (fun y175 s176 => ?_) (fun j878 hj878 => ?_)
                      · refine x_istore dL_law_878 (by decide) (L2 := [some (x_v w x0), some (q_rf w 0), some (x_v w x2), some (x_v w x3), some (.int x4), some (.int x5), none, none, some (.int r17), some (.int r20), some (x_v w o22), some (.int 0), some (.int r173), some (.int y175), none, none, none]) rfl (pc2 := 880) rfl ?_
                        refine x_aload_n dL_law_880 x_cR rfl (pc2 := 881) rfl ?_
                        refine x_iload dL_law_881 rfl (pc2 := 883) rfl ?_
                        refine x_iload dL_law_883 rfl (pc2 := 885) rfl ?_
                        refine x_iload dL_law_885 rfl (pc2 := 887) rfl ?_
                        refine x_callcI (As := [.int r17, .int r20, .int r173]) (fun w' => C_X11_like q_kd0) mv_X11_like xl_L_160 rfl rfl ⟨by decide, by decide⟩ (Nat.le_trans x_s0 (by decide)) dL_law_887 (pc2 := 890) rfl (fun r178 s177 => ?_)
                        refine x_iload dL_law_890 rfl (pc2 := 892) rfl ?_
                        refine x_icmp_eq dL_law_892 (pc1 := 897) (pc2 := 895) rfl rfl (fun _ => ?_) (fun _ => ?_)
                        · refine x_iload dL_law_897 rfl (pc2 := 899) rfl ?_
                          refine x_jn (P := fun j919 => ∀ (y179 : Int32) (s180 : x_U), x_G w cx RL nm code 17 (some .boolean) 16 648 M0 x_aI 919 [some (x_v w x0), some (q_rf w 0), some (x_v w x2), some (x_v w x3), some (.int y179), some (.int x5), none, none, none, none, some (x_v w o22), some (.int 0), none, none, none, none, none] [] s180 (j919 y179 s180)) (fun y179 s180 => ?_) (fun j919 hj919 => ?_)
                          · refine x_goto dL_law_919 (pc2 := 989) rfl ?_
                            exact hj989 _ _ _ _
                          · refine x_if_eq dL_law_899 (pc1 := 919) (pc2 := 902) rfl rfl (fun _ => ?_) (fun _ => ?_)
                            · refine x_Gmask [true, true, true, true, true, true, true, true, false, false, true, true, false, false, true, true, true] (L2 := [some (x_v w x0), some (q_rf w 0), some (x_v w x2), some (x_v w x3), some (.int x4), some (.int x5), none, none, none, none, some (x_v w o22), some (.int 0), none, none, none, none, none]) rfl ?_
                              exact hj919 _ _
                            · refine x_aload_n dL_law_902 x_vR rfl (pc2 := 903) rfl ?_
                              refine x_getRN xf_L_52 (by decide) rfl dL_law_903 (pc2 := 906) rfl (fun o181 => ?_)
                              refine x_iload dL_law_906 rfl (pc2 := 908) rfl ?_
                              refine x_aald dL_law_908 (pc2 := 909) rfl (fun o182 => ?_)
                              refine x_iconst dL_law_909 ic_5 (pc2 := 910) rfl ?_
                              refine x_iload dL_law_910 rfl (pc2 := 912) rfl ?_
                              refine x_iadd dL_law_912 (pc2 := 913) rfl ?_
                              refine x_iload dL_law_913 rfl (pc2 := 915) rfl ?_
                              refine x_iast dL_law_915 (pc2 := 916) rfl (fun s183 => ?_)
                              refine x_iconst dL_law_916 ic_0 (pc2 := 917) rfl ?_
                              refine x_istore dL_law_917 (by decide) (L2 := [some (x_v w x0), some (q_rf w 0), some (x_v w x2), some (x_v w x3), some (.int 0), some (.int x5), none, none, some (.int r17), some (.int r20), some (x_v w o22), some (.int 0), some (.int r173), some (.int y175), none, none, none]) rfl (pc2 := 919) rfl ?_
                              refine x_Gmask [true, true, true, true, true, true, true, true, false, false, true, true, false, false, true, true, true] (L2 := [some (x_v w x0), some (q_rf w 0), some (x_v w x2), some (x_v w x3), some (.int 0), some (.int x5), none, none, none, none, some (x_v w o22), some (.int 0), none, none, none, none, none]) rfl ?_
                              exact hj919 _ _
                        · refine x_iconst dL_law_895 ic_0 (pc2 := 896) rfl ?_
                          exact x_nret rfl dL_law_896
                      · refine x_jn (P := fun j877 => ∀  (s184 : x_U), x_G w cx RL nm code 17 (some .boolean) 16 648 M0 x_aI 877 [some (x_v w x0), some (q_rf w 0), some (x_v w x2), some (x_v w x3), some (.int x4), some (.int x5), none, none, some (.int r17), some (.int r20), some (x_v w o22), some (.int 0), some (.int r173), none, none, none, none] [] s184 (j877 s184)) (fun s184 => ?_) (fun j877 hj877 => ?_)
                        · refine x_iconst dL_law_877 ic_0 (pc2 := 878) rfl ?_
                          exact hj878 _ _
                        · refine x_icmp_ge dL_law_854 (pc1 := 857) (pc2 := 877) rfl rfl (fun _ => ?_) (fun _ => ?_)
                          · refine x_iload dL_law_857 rfl (pc2 := 859) rfl ?_
                            refine x_aload_n dL_law_859 x_vR rfl (pc2 := 860) rfl ?_
                            refine x_getIN xf_L_103 (by decide) rfl dL_law_860 (pc2 := 863) rfl (fun v185 => ?_)
                            refine x_icmp_ge dL_law_863 (pc1 := 866) (pc2 := 877) rfl rfl (fun _ => ?_) (fun _ => ?_)
                            · refine x_iload dL_law_866 rfl (pc2 := 868) rfl ?_
                              refine x_bipush dL_law_868 bp_100 (pc2 := 870) rfl ?_
                              refine x_icmp_ge dL_law_870 (pc1 := 873) (pc2 := 877) rfl rfl (fun _ => ?_) (fun _ => ?_)
                              · refine x_iconst dL_law_873 ic_1 (pc2 := 874) rfl ?_
                                refine x_goto dL_law_874 (pc2 := 878) rfl ?_
                                refine x_Gmask [true, true, true, true, true, true, false, false, true, true, true, true, true, true, true, true, true] (L2 := [some (x_v w x0), some (q_rf w 0), some (x_v w x2), some (x_v w x3), some (.int x4), some (.int x5), none, none, some (.int r17), some (.int r20), some (x_v w o22), some (.int 0), some (.int r173), none, none, none, none]) rfl ?_
                                exact hj878 _ _
                              · refine x_Gmask [true, true, true, true, true, true, false, false, true, true, true, true, true, true, true, true, true] (L2 := [some (x_v w x0), some (q_rf w 0), some (x_v w x2), some (x_v w x3), some (.int x4), some (.int x5), none, none, some (.int r17), some (.int r20), some (x_v w o22), some (.int 0), some (.int r173), none, none, none, none]) rfl ?_
                                exact hj877 _
                            · refine x_Gmask [true, true, true, true, true, true, false, false, true, true, true, true, true, true, true, true, true] (L2 := [some (x_v w x0), some (q_rf w 0), some (x_v w x2), some (x_v w x3), some (.int x4), some (.int x5), none, none, some (.int r17), some (.int r20), some (x_v w o22), some (.int 0), some (.int r173), none, none, none, none]) rfl ?_
                              exact hj877 _
                          · refine x_Gmask [true, true, true, true, true, true, false, false, true, true, true, true, true, true, true, true, true] (L2 := [some (x_v w x0), some (q_rf w 0), some (x_v w x2), some (x_v w x3), some (.int x4), some (.int x5), none, none, some (.int r17), some (.int r20), some (x_v w o22), some (.int 0), some (.int r173), none, none, none, none]) rfl ?_
                            exact hj877 _
                    · refine x_iload dL_law_922 rfl (pc2 := 924) rfl ?_
                      refine x_bipush dL_law_924 bp_11 (pc2 := 926) rfl ?_
                      refine x_icmp_ne dL_law_926 (pc1 := 929) (pc2 := 957) rfl rfl (fun _ => ?_) (fun _ => ?_)
                      · refine x_iload dL_law_929 rfl (pc2 := 931) rfl ?_
                        refine x_bipush dL_law_931 bp_6 (pc2 := 933) rfl ?_
                        refine x_ishr dL_law_933 (pc2 := 934) rfl ?_
                        refine x_iconst dL_law_934 ic_1 (pc2 := 935) rfl ?_
                        refine x_iand dL_law_935 (pc2 := 936) rfl ?_
                        refine x_if_ne dL_law_936 (pc1 := 939) (pc2 := 989) rfl rfl (fun _ => ?_) (fun _ => ?_)
                        · refine x_aload_n dL_law_939 x_cR rfl (pc2 := 940) rfl ?_
                          refine x_aload_n dL_law_940 x_vR rfl (pc2 := 941) rfl ?_
                          refine x_iload dL_law_941 rfl (pc2 := 943) rfl ?_
                          refine x_callSI (As := [q_rf w 0, x_v w x2, .int v12]) C2_L_texts xm_L_texts xl_L_169 rfl rfl ⟨by decide, by decide⟩ (Nat.le_trans x_s0 (by decide)) dL_law_943 (pc2 := 946) rfl (fun r187 s186 => ?_) hop
                          refine x_if_ne dL_law_946 (pc1 := 949) (pc2 := 951) rfl rfl (fun _ => ?_) (fun _ => ?_)
                          · refine x_iconst dL_law_949 ic_0 (pc2 := 950) rfl ?_
                            exact x_nret rfl dL_law_950
                          · refine x_iconst dL_law_951 ic_0 (pc2 := 952) rfl ?_
                            refine x_istore dL_law_952 (by decide) (L2 := [some (x_v w x0), some (q_rf w 0), some (x_v w x2), some (x_v w x3), some (.int 0), some (.int x5), some (.int v12), some (.int r14), some (.int r17), some (.int r20), some (x_v w o22), some (.int 0), none, none, none, none, none]) rfl (pc2 := 954) rfl ?_
                            refine x_goto dL_law_954 (pc2 := 989) rfl ?_
                            refine x_Gmask [true, true, true, true, true, true, false, false, false, false, true, true, true, true, true, true, true] (L2 := [some (x_v w x0), some (q_rf w 0), some (x_v w x2), some (x_v w x3), some (.int 0), some (.int x5), none, none, none, none, some (x_v w o22), some (.int 0), none, none, none, none, none]) rfl ?_
                            exact hj989 _ _ _ _
                        · refine x_Gmask [true, true, true, true, true, true, false, false, false, false, true, true, true, true, true, true, true] (L2 := [some (x_v w x0), some (q_rf w 0), some (x_v w x2), some (x_v w x3), some (.int x4), some (.int x5), none, none, none, none, some (x_v w o22), some (.int 0), none, none, none, none, none]) rfl ?_
                          exact hj989 _ _ _ _
                      · refine x_aload_n dL_law_957 x_cR rfl (pc2 := 958) rfl ?_
                        refine x_callcI (As := []) (fun w' => C_X11_undo q_kd0) mv_X11_undo xl_L_237 rfl rfl ⟨by decide, by decide⟩ (Nat.le_trans x_s0 (by decide)) dL_law_958 (pc2 := 961) rfl (fun r189 s188 => ?_)
                        refine x_iload dL_law_961 rfl (pc2 := 963) rfl ?_
                        refine x_jn (P := fun j971 => ∀ (y190 : Int32) (s191 : x_U), x_G w cx RL nm code 17 (some .boolean) 16 648 M0 x_aI 971 [some (x_v w x0), some (q_rf w 0), some (x_v w x2), some (x_v w x3), some (.int x4), some (.int x5), none, none, none, none, some (x_v w o22), some (.int 0), none, none, none, none, none] [.int y190, .int r189] s191 (j971 y190 s191)) (fun y190 s191 => ?_) (fun j971 hj971 => ?_)
                        · refine x_icmp_eq dL_law_971 (pc1 := 976) (pc2 := 974) rfl rfl (fun _ => ?_) (fun _ => ?_)
                          · refine x_iload dL_law_976 rfl (pc2 := 978) rfl ?_
                            refine x_if_le dL_law_978 (pc1 := 989) (pc2 := 981) rfl rfl (fun _ => ?_) (fun _ => ?_)
                            · exact hj989 _ _ _ _
                            · refine x_aload_n dL_law_981 x_vR rfl (pc2 := 982) rfl ?_
                              refine x_iinc dL_law_982 rfl (q_ii ic_m1) (by decide) (L2 := [some (x_v w x0), some (q_rf w 0), some (x_v w x2), some (x_v w x3), some (.int (x4 + (-1))), some (.int x5), none, none, none, none, some (x_v w o22), some (.int 0), none, none, none, none, none]) rfl (pc2 := 985) rfl ?_
                              refine x_iload dL_law_985 rfl (pc2 := 987) rfl ?_
                              refine x_aald dL_law_987 (pc2 := 988) rfl (fun o192 => ?_)
                              refine x_astore_n x_vR dL_law_988 (by decide) (L2 := [some (x_v w x0), some (q_rf w 0), some (x_v w o192), some (x_v w x3), some (.int (x4 + (-1))), some (.int x5), none, none, none, none, some (x_v w o22), some (.int 0), none, none, none, none, none]) rfl (pc2 := 989) rfl ?_
                              exact hj989 _ _ _ _
                          · refine x_iconst dL_law_974 ic_0 (pc2 := 975) rfl ?_
                            exact x_nret rfl dL_law_975
                        · refine x_if_le dL_law_963 (pc1 := 970) (pc2 := 966) rfl rfl (fun _ => ?_) (fun _ => ?_)
                          · refine x_iconst dL_law_970 ic_0 (pc2 := 971) rfl ?_
                            refine x_Gmask [true, true, true, true, true, true, false, false, false, false, true, true, true, true, true, true, true] (L2 := [some (x_v w x0), some (q_rf w 0), some (x_v w x2), some (x_v w x3), some (.int x4), some (.int x5), none, none, none, none, some (x_v w o22), some (.int 0), none, none, none, none, none]) rfl ?_
                            exact hj971 _ _
                          · refine x_iconst dL_law_966 ic_1 (pc2 := 967) rfl ?_
                            refine x_goto dL_law_967 (pc2 := 971) rfl ?_
                            refine x_Gmask [true, true, true, true, true, true, false, false, false, false, true, true, true, true, true, true, true] (L2 := [some (x_v w x0), some (q_rf w 0), some (x_v w x2), some (x_v w x3), some (.int x4), some (.int x5), none, none, none, none, some (x_v w o22), some (.int 0), none, none, none, none, none]) rfl ?_
                            exact hj971 _ _
    · refine x_Gmask [false, true, true, false, false, false, true, true, true, true, true, true, true, true, true, true, true] (L2 := [none, some (q_rf w 0), some (x_v w x2), none, none, none, none, none, none, none, none, none, none, none, none, none, none]) rfl ?_
      exact hk1066 _ _
set_option maxRecDepth 100000 in
set_option maxHeartbeats 4000000 in
theorem C2_L_law {w : q_Wd} {cx : q_Cx} {M0 : Nat} {nm : String} (hop : w.2.2.2.2.2.1 = none) {n : Nat} (s0 : x_U) : x_G w cx RL nm code 17 (some .boolean) 16 648 M0 x_aI 8 [some (x_v w (x_CT + 2)), some (q_rf w 0), none, none, none, none, none, none, none, none, none, none, none, none, none, none, none] [] s0 (F_L_law n s0) := by
  rw [F_L_law]
  refine x_aload_n dL_law_8 x_cR rfl (pc2 := 9) rfl ?_
  refine x_aload_n dL_law_9 x_vR rfl (pc2 := 10) rfl ?_
  refine x_iconst dL_law_10 ic_0 (pc2 := 11) rfl ?_
  refine x_callSR (As := [q_rf w 0, x_v w (x_CT + 2), .int 0]) C2_L_train xm_L_train xl_L_179 rfl rfl ⟨by decide, by decide⟩ (Nat.le_trans x_s0 (by decide)) dL_law_11 (pc2 := 14) rfl (fun o2 s1 => ?_) hop
  refine x_astore_n x_vR dL_law_14 (by decide) (L2 := [some (x_v w (x_CT + 2)), some (q_rf w 0), some (x_v w o2), none, none, none, none, none, none, none, none, none, none, none, none, none, none]) rfl (pc2 := 15) rfl ?_
  refine x_aload_n dL_law_15 x_vR rfl (pc2 := 16) rfl ?_
  refine x_ifnull dL_law_16 (pc1 := 27) (pc2 := 19) rfl rfl (fun _ => ?_) (fun _ => ?_)
  · refine x_iconst dL_law_27 ic_0 (pc2 := 28) rfl ?_
    exact x_nret rfl dL_law_28
  · refine x_aload_n dL_law_19 x_vR rfl (pc2 := 20) rfl ?_
    refine x_aload_n dL_law_20 x_cR rfl (pc2 := 21) rfl ?_
    refine x_oo (ci := 12) (fun hk5 => ?_)
    refine x_callVI (As := [q_rf w 0]) C2_X12_isSame xm_X12_isSame (fun h => by first | rfl | cases h) xl_L_183 hk5 rfl rfl ⟨by decide, by decide⟩ (Nat.le_trans x_s0 (by decide)) dL_law_21 (pc2 := 24) rfl (fun r4 s3 => ?_) hop
    refine x_if_ne dL_law_24 (pc1 := 27) (pc2 := 29) rfl rfl (fun _ => ?_) (fun _ => ?_)
    · refine x_iconst dL_law_27 ic_0 (pc2 := 28) rfl ?_
      exact x_nret rfl dL_law_28
    · refine x_bipush dL_law_29 bp_6 (pc2 := 31) rfl ?_
      refine x_newq (t := 4) (Or.inr (Or.inl ⟨rfl, xc_L_38⟩)) dL_law_31 (pc2 := 34) rfl (fun o6 s7 => ?_)
      refine x_astore_n x_vR dL_law_34 (by decide) (L2 := [some (x_v w (x_CT + 2)), some (q_rf w 0), some (x_v w o2), some (x_v w o6), none, none, none, none, none, none, none, none, none, none, none, none, none]) rfl (pc2 := 35) rfl ?_
      refine x_iconst dL_law_35 ic_0 (pc2 := 36) rfl ?_
      refine x_istore dL_law_36 (by decide) (L2 := [some (x_v w (x_CT + 2)), some (q_rf w 0), some (x_v w o2), some (x_v w o6), some (.int 0), none, none, none, none, none, none, none, none, none, none, none, none]) rfl (pc2 := 38) rfl ?_
      refine x_iconst dL_law_38 ic_0 (pc2 := 39) rfl ?_
      refine x_istore dL_law_39 (by decide) (L2 := [some (x_v w (x_CT + 2)), some (q_rf w 0), some (x_v w o2), some (x_v w o6), some (.int 0), some (.int 0), none, none, none, none, none, none, none, none, none, none, none]) rfl (pc2 := 41) rfl ?_
      refine T_L_law_L41 hop (fun y193 s194 => ?_) n _ _ _ _
      refine x_aload_n dL_law_1066 x_cR rfl (pc2 := 1067) rfl ?_
      refine x_iconst dL_law_1067 ic_0 (pc2 := 1068) rfl ?_
      refine x_callcI (As := [.int 0]) (fun w' => C_X11_days q_kd0) mv_X11_days xl_L_195 rfl rfl ⟨by decide, by decide⟩ (Nat.le_trans x_s0 (by decide)) dL_law_1068 (pc2 := 1071) rfl (fun r196 s195 => ?_)
      refine x_iconst dL_law_1071 ic_m1 (pc2 := 1072) rfl ?_
      refine x_icmp_ne dL_law_1072 (pc1 := 1075) (pc2 := 1270) rfl rfl (fun _ => ?_) (fun _ => ?_)
      · refine x_aload_n dL_law_1075 x_cR rfl (pc2 := 1076) rfl ?_
        refine x_bipush dL_law_1076 bp_61 (pc2 := 1078) rfl ?_
        refine x_callcI (As := [.int 61]) (fun w' => C_X11_days q_kd0) mv_X11_days xl_L_195 rfl rfl ⟨by decide, by decide⟩ (Nat.le_trans x_s0 (by decide)) dL_law_1078 (pc2 := 1081) rfl (fun r198 s197 => ?_)
        refine x_iconst dL_law_1081 ic_m1 (pc2 := 1082) rfl ?_
        refine x_icmp_ne dL_law_1082 (pc1 := 1085) (pc2 := 1270) rfl rfl (fun _ => ?_) (fun _ => ?_)
        · refine x_aload_n dL_law_1085 x_cR rfl (pc2 := 1086) rfl ?_
          refine x_iconst dL_law_1086 ic_0 (pc2 := 1087) rfl ?_
          refine x_iconst dL_law_1087 ic_0 (pc2 := 1088) rfl ?_
          refine x_callcI (As := [.int 0, .int 0]) (fun w' => C_X11_mule q_kd0) mv_X11_mule xl_L_146 rfl rfl ⟨by decide, by decide⟩ (Nat.le_trans x_s0 (by decide)) dL_law_1088 (pc2 := 1091) rfl (fun r200 s199 => ?_)
          refine x_iconst dL_law_1091 ic_m1 (pc2 := 1092) rfl ?_
          refine x_icmp_ne dL_law_1092 (pc1 := 1095) (pc2 := 1270) rfl rfl (fun _ => ?_) (fun _ => ?_)
          · refine x_aload_n dL_law_1095 x_cR rfl (pc2 := 1096) rfl ?_
            refine x_bipush dL_law_1096 bp_41 (pc2 := 1098) rfl ?_
            refine x_iconst dL_law_1098 ic_0 (pc2 := 1099) rfl ?_
            refine x_callcI (As := [.int 41, .int 0]) (fun w' => C_X11_mule q_kd0) mv_X11_mule xl_L_146 rfl rfl ⟨by decide, by decide⟩ (Nat.le_trans x_s0 (by decide)) dL_law_1099 (pc2 := 1102) rfl (fun r202 s201 => ?_)
            refine x_iconst dL_law_1102 ic_m1 (pc2 := 1103) rfl ?_
            refine x_icmp_ne dL_law_1103 (pc1 := 1106) (pc2 := 1270) rfl rfl (fun _ => ?_) (fun _ => ?_)
            · refine x_aload_n dL_law_1106 x_cR rfl (pc2 := 1107) rfl ?_
              refine x_iconst dL_law_1107 ic_1 (pc2 := 1108) rfl ?_
              refine x_bipush dL_law_1108 bp_41 (pc2 := 1110) rfl ?_
              refine x_callcI (As := [.int 1, .int 41]) (fun w' => C_X11_mule q_kd0) mv_X11_mule xl_L_146 rfl rfl ⟨by decide, by decide⟩ (Nat.le_trans x_s0 (by decide)) dL_law_1110 (pc2 := 1113) rfl (fun r204 s203 => ?_)
              refine x_iconst dL_law_1113 ic_m1 (pc2 := 1114) rfl ?_
              refine x_icmp_ne dL_law_1114 (pc1 := 1117) (pc2 := 1270) rfl rfl (fun _ => ?_) (fun _ => ?_)
              · refine x_aload_n dL_law_1117 x_cR rfl (pc2 := 1118) rfl ?_
                refine x_bipush dL_law_1118 bp_100 (pc2 := 1120) rfl ?_
                refine x_iconst dL_law_1120 ic_0 (pc2 := 1121) rfl ?_
                refine x_iconst dL_law_1121 ic_0 (pc2 := 1122) rfl ?_
                refine x_callcI (As := [.int 100, .int 0, .int 0]) (fun w' => C_X11_man q_kd0) mv_X11_man xl_L_155 rfl rfl ⟨by decide, by decide⟩ (Nat.le_trans x_s0 (by decide)) dL_law_1122 (pc2 := 1125) rfl (fun r206 s205 => ?_)
                refine x_iconst dL_law_1125 ic_m1 (pc2 := 1126) rfl ?_
                refine x_icmp_ne dL_law_1126 (pc1 := 1129) (pc2 := 1270) rfl rfl (fun _ => ?_) (fun _ => ?_)
                · refine x_aload_n dL_law_1129 x_cR rfl (pc2 := 1130) rfl ?_
                  refine x_iconst dL_law_1130 ic_0 (pc2 := 1131) rfl ?_
                  refine x_bipush dL_law_1131 bp_10 (pc2 := 1133) rfl ?_
                  refine x_iconst dL_law_1133 ic_0 (pc2 := 1134) rfl ?_
                  refine x_callcI (As := [.int 0, .int 10, .int 0]) (fun w' => C_X11_man q_kd0) mv_X11_man xl_L_155 rfl rfl ⟨by decide, by decide⟩ (Nat.le_trans x_s0 (by decide)) dL_law_1134 (pc2 := 1137) rfl (fun r208 s207 => ?_)
                  refine x_iconst dL_law_1137 ic_m1 (pc2 := 1138) rfl ?_
                  refine x_icmp_ne dL_law_1138 (pc1 := 1141) (pc2 := 1270) rfl rfl (fun _ => ?_) (fun _ => ?_)
                  · refine x_aload_n dL_law_1141 x_cR rfl (pc2 := 1142) rfl ?_
                    refine x_iconst dL_law_1142 ic_0 (pc2 := 1143) rfl ?_
                    refine x_iconst dL_law_1143 ic_0 (pc2 := 1144) rfl ?_
                    refine x_bipush dL_law_1144 bp_10 (pc2 := 1146) rfl ?_
                    refine x_callcI (As := [.int 0, .int 0, .int 10]) (fun w' => C_X11_man q_kd0) mv_X11_man xl_L_155 rfl rfl ⟨by decide, by decide⟩ (Nat.le_trans x_s0 (by decide)) dL_law_1146 (pc2 := 1149) rfl (fun r210 s209 => ?_)
                    refine x_iconst dL_law_1149 ic_m1 (pc2 := 1150) rfl ?_
                    refine x_icmp_ne dL_law_1150 (pc1 := 1153) (pc2 := 1270) rfl rfl (fun _ => ?_) (fun _ => ?_)
                    · refine x_aload_n dL_law_1153 x_cR rfl (pc2 := 1154) rfl ?_
                      refine x_iconst dL_law_1154 ic_1 (pc2 := 1155) rfl ?_
                      refine x_iconst dL_law_1155 ic_0 (pc2 := 1156) rfl ?_
                      refine x_bipush dL_law_1156 bp_10 (pc2 := 1158) rfl ?_
                      refine x_callcI (As := [.int 1, .int 0, .int 10]) (fun w' => C_X11_set q_kd0) mv_X11_set xl_L_148 rfl rfl ⟨by decide, by decide⟩ (Nat.le_trans x_s0 (by decide)) dL_law_1158 (pc2 := 1161) rfl (fun r212 s211 => ?_)
                      refine x_if_ne dL_law_1161 (pc1 := 1164) (pc2 := 1270) rfl rfl (fun _ => ?_) (fun _ => ?_)
                      · refine x_aload_n dL_law_1164 x_cR rfl (pc2 := 1165) rfl ?_
                        refine x_iconst dL_law_1165 ic_2 (pc2 := 1166) rfl ?_
                        refine x_aload_n dL_law_1166 x_vR rfl (pc2 := 1167) rfl ?_
                        refine x_getIN xf_L_37 (by decide) rfl dL_law_1167 (pc2 := 1170) rfl (fun v213 => ?_)
                        refine x_iconst dL_law_1170 ic_0 (pc2 := 1171) rfl ?_
                        refine x_callcI (As := [.int 2, .int v213, .int 0]) (fun w' => C_X11_set q_kd0) mv_X11_set xl_L_148 rfl rfl ⟨by decide, by decide⟩ (Nat.le_trans x_s0 (by decide)) dL_law_1171 (pc2 := 1174) rfl (fun r215 s214 => ?_)
                        refine x_if_ne dL_law_1174 (pc1 := 1177) (pc2 := 1270) rfl rfl (fun _ => ?_) (fun _ => ?_)
                        · refine x_aload_n dL_law_1177 x_cR rfl (pc2 := 1178) rfl ?_
                          refine x_iconst dL_law_1178 ic_0 (pc2 := 1179) rfl ?_
                          refine x_iconst dL_law_1179 ic_m1 (pc2 := 1180) rfl ?_
                          refine x_iconst dL_law_1180 ic_0 (pc2 := 1181) rfl ?_
                          refine x_callcI (As := [.int 0, .int (-1), .int 0]) (fun w' => C_X11_like q_kd0) mv_X11_like xl_L_160 rfl rfl ⟨by decide, by decide⟩ (Nat.le_trans x_s0 (by decide)) dL_law_1181 (pc2 := 1184) rfl (fun r217 s216 => ?_)
                          refine x_if_ne dL_law_1184 (pc1 := 1187) (pc2 := 1270) rfl rfl (fun _ => ?_) (fun _ => ?_)
                          · refine x_aload_n dL_law_1187 x_cR rfl (pc2 := 1188) rfl ?_
                            refine x_iconst dL_law_1188 ic_3 (pc2 := 1189) rfl ?_
                            refine x_iconst dL_law_1189 ic_0 (pc2 := 1190) rfl ?_
                            refine x_iconst dL_law_1190 ic_0 (pc2 := 1191) rfl ?_
                            refine x_callcI (As := [.int 3, .int 0, .int 0]) (fun w' => C_X11_act q_kd0) mv_X11_act xl_L_212 rfl rfl ⟨by decide, by decide⟩ (Nat.le_trans x_s0 (by decide)) dL_law_1191 (pc2 := 1194) rfl (fun r219 s218 => ?_)
                            refine x_if_ne dL_law_1194 (pc1 := 1197) (pc2 := 1270) rfl rfl (fun _ => ?_) (fun _ => ?_)
                            · refine x_aload_n dL_law_1197 x_cR rfl (pc2 := 1198) rfl ?_
                              refine x_iconst dL_law_1198 ic_1 (pc2 := 1199) rfl ?_
                              refine x_iconst dL_law_1199 ic_m1 (pc2 := 1200) rfl ?_
                              refine x_iconst dL_law_1200 ic_0 (pc2 := 1201) rfl ?_
                              refine x_callcI (As := [.int 1, .int (-1), .int 0]) (fun w' => C_X11_act q_kd0) mv_X11_act xl_L_212 rfl rfl ⟨by decide, by decide⟩ (Nat.le_trans x_s0 (by decide)) dL_law_1201 (pc2 := 1204) rfl (fun r221 s220 => ?_)
                              refine x_if_ne dL_law_1204 (pc1 := 1207) (pc2 := 1270) rfl rfl (fun _ => ?_) (fun _ => ?_)
                              · refine x_aload_n dL_law_1207 x_cR rfl (pc2 := 1208) rfl ?_
                                refine x_iconst dL_law_1208 ic_m1 (pc2 := 1209) rfl ?_
                                refine x_callcI (As := [.int (-1)]) (fun w' => C_X11_go q_kd0) mv_X11_go xl_L_219 rfl rfl ⟨by decide, by decide⟩ (Nat.le_trans x_s0 (by decide)) dL_law_1209 (pc2 := 1212) rfl (fun r223 s222 => ?_)
                                refine x_iconst dL_law_1212 ic_m1 (pc2 := 1213) rfl ?_
                                refine x_icmp_ne dL_law_1213 (pc1 := 1216) (pc2 := 1270) rfl rfl (fun _ => ?_) (fun _ => ?_)
                                · refine x_aload_n dL_law_1216 x_cR rfl (pc2 := 1217) rfl ?_
                                  refine x_bipush dL_law_1217 bp_10 (pc2 := 1219) rfl ?_
                                  refine x_callcI (As := [.int 10]) (fun w' => C_X11_go q_kd0) mv_X11_go xl_L_219 rfl rfl ⟨by decide, by decide⟩ (Nat.le_trans x_s0 (by decide)) dL_law_1219 (pc2 := 1222) rfl (fun r225 s224 => ?_)
                                  refine x_iconst dL_law_1222 ic_m1 (pc2 := 1223) rfl ?_
                                  refine x_icmp_ne dL_law_1223 (pc1 := 1226) (pc2 := 1270) rfl rfl (fun _ => ?_) (fun _ => ?_)
                                  · refine x_aload_n dL_law_1226 x_cR rfl (pc2 := 1227) rfl ?_
                                    refine x_iconst dL_law_1227 ic_0 (pc2 := 1228) rfl ?_
                                    refine x_bipush dL_law_1228 bp_10 (pc2 := 1230) rfl ?_
                                    refine x_callcI (As := [.int 0, .int 10]) (fun w' => C_X11_path q_kd0) mv_X11_path xl_L_244 rfl rfl ⟨by decide, by decide⟩ (Nat.le_trans x_s0 (by decide)) dL_law_1230 (pc2 := 1233) rfl (fun r227 s226 => ?_)
                                    refine x_iconst dL_law_1233 ic_m1 (pc2 := 1234) rfl ?_
                                    refine x_icmp_ne dL_law_1234 (pc1 := 1237) (pc2 := 1270) rfl rfl (fun _ => ?_) (fun _ => ?_)
                                    · refine x_aload_n dL_law_1237 x_cR rfl (pc2 := 1238) rfl ?_
                                      refine x_iconst dL_law_1238 ic_0 (pc2 := 1239) rfl ?_
                                      refine x_iconst dL_law_1239 ic_4 (pc2 := 1240) rfl ?_
                                      refine x_callcI (As := [.int 0, .int 4]) (fun w' => C_X11_book q_kd0) mv_X11_book xl_L_246 rfl rfl ⟨by decide, by decide⟩ (Nat.le_trans x_s0 (by decide)) dL_law_1240 (pc2 := 1243) rfl (fun r229 s228 => ?_)
                                      refine x_bipush dL_law_1243 bp_m2 (pc2 := 1245) rfl ?_
                                      refine x_icmp_ne dL_law_1245 (pc1 := 1248) (pc2 := 1270) rfl rfl (fun _ => ?_) (fun _ => ?_)
                                      · refine x_aload_n dL_law_1248 x_cR rfl (pc2 := 1249) rfl ?_
                                        refine x_bipush dL_law_1249 bp_18 (pc2 := 1251) rfl ?_
                                        refine x_callcI (As := [.int 18]) (fun w' => C_X11_look q_kd0) mv_X11_look xl_L_241 rfl rfl ⟨by decide, by decide⟩ (Nat.le_trans x_s0 (by decide)) dL_law_1251 (pc2 := 1254) rfl (fun r231 s230 => ?_)
                                        refine x_iconst dL_law_1254 ic_m1 (pc2 := 1255) rfl ?_
                                        refine x_icmp_ne dL_law_1255 (pc1 := 1258) (pc2 := 1270) rfl rfl (fun _ => ?_) (fun _ => ?_)
                                        · refine x_aload_n dL_law_1258 x_vR rfl (pc2 := 1259) rfl ?_
                                          refine x_aload_n dL_law_1259 x_cR rfl (pc2 := 1260) rfl ?_
                                          refine x_oo (ci := 12) (fun hk234 => ?_)
                                          refine x_callVI (As := [q_rf w 0]) C2_X12_isSame xm_X12_isSame (fun h => by first | rfl | cases h) xl_L_183 hk234 rfl rfl ⟨by decide, by decide⟩ (Nat.le_trans x_s0 (by decide)) dL_law_1260 (pc2 := 1263) rfl (fun r233 s232 => ?_) hop
                                          refine x_if_eq dL_law_1263 (pc1 := 1270) (pc2 := 1266) rfl rfl (fun _ => ?_) (fun _ => ?_)
                                          · refine x_iconst dL_law_1270 ic_0 (pc2 := 1271) rfl ?_
                                            exact x_nret rfl dL_law_1271
                                          · refine x_iconst dL_law_1266 ic_1 (pc2 := 1267) rfl ?_
                                            refine x_goto dL_law_1267 (pc2 := 1271) rfl ?_
                                            exact x_nret rfl dL_law_1271
                                        · refine x_iconst dL_law_1270 ic_0 (pc2 := 1271) rfl ?_
                                          exact x_nret rfl dL_law_1271
                                      · refine x_iconst dL_law_1270 ic_0 (pc2 := 1271) rfl ?_
                                        exact x_nret rfl dL_law_1271
                                    · refine x_iconst dL_law_1270 ic_0 (pc2 := 1271) rfl ?_
                                      exact x_nret rfl dL_law_1271
                                  · refine x_iconst dL_law_1270 ic_0 (pc2 := 1271) rfl ?_
                                    exact x_nret rfl dL_law_1271
                                · refine x_iconst dL_law_1270 ic_0 (pc2 := 1271) rfl ?_
                                  exact x_nret rfl dL_law_1271
                              · refine x_iconst dL_law_1270 ic_0 (pc2 := 1271) rfl ?_
                                exact x_nret rfl dL_law_1271
                            · refine x_iconst dL_law_1270 ic_0 (pc2 := 1271) rfl ?_
                              exact x_nret rfl dL_law_1271
                          · refine x_iconst dL_law_1270 ic_0 (pc2 := 1271) rfl ?_
                            exact x_nret rfl dL_law_1271
                        · refine x_iconst dL_law_1270 ic_0 (pc2 := 1271) rfl ?_
                          exact x_nret rfl dL_law_1271
                      · refine x_iconst dL_law_1270 ic_0 (pc2 := 1271) rfl ?_
                        exact x_nret rfl dL_law_1271
                    · refine x_iconst dL_law_1270 ic_0 (pc2 := 1271) rfl ?_
                      exact x_nret rfl dL_law_1271
                  · refine x_iconst dL_law_1270 ic_0 (pc2 := 1271) rfl ?_
                    exact x_nret rfl dL_law_1271
                · refine x_iconst dL_law_1270 ic_0 (pc2 := 1271) rfl ?_
                  exact x_nret rfl dL_law_1271
              · refine x_iconst dL_law_1270 ic_0 (pc2 := 1271) rfl ?_
                exact x_nret rfl dL_law_1271
            · refine x_iconst dL_law_1270 ic_0 (pc2 := 1271) rfl ?_
              exact x_nret rfl dL_law_1271
          · refine x_iconst dL_law_1270 ic_0 (pc2 := 1271) rfl ?_
            exact x_nret rfl dL_law_1271
        · refine x_iconst dL_law_1270 ic_0 (pc2 := 1271) rfl ?_
          exact x_nret rfl dL_law_1271
      · refine x_iconst dL_law_1270 ic_0 (pc2 := 1271) rfl ?_
        exact x_nret rfl dL_law_1271
