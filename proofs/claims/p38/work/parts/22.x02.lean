set_option maxRecDepth 100000 in
set_option maxHeartbeats 4000000 in
def F_L_train_L296 (n : Nat) (x1 : Nat) (x2 : Int32) (x3 : Nat) (x4 : Int32) (x7 : Int32) (k493 : x_U → Option (Nat × x_U)) : Nat → Int32 → x_U → Option (Nat × x_U)
  | 0, _, _ => none
  | j + 1, x8, s0 =>
    if x8 < x7 then (
    x_call (F_L_cell n x1 (x2 + 2) s0) fun r40 s39 =>
    x_nm ((r40 * (x8 + 1)) + (307 * x8)) fun v41 =>
    x_gr s39 x3 12 12 fun o42 =>
    x_nwa s39 0 10 fun o43 s44 =>
    x_call (F_L_between n (v41 >>> (3 &&& 31)) 1 40 s44) fun r46 s45 =>
    x_st s45 o43 0 r46 fun s47 =>
    x_call (F_L_between n (v41 >>> (5 &&& 31)) 0 40 s47) fun r49 s48 =>
    x_st s48 o43 1 r49 fun s50 =>
    x_st s50 o43 2 0 fun s51 =>
    x_st s51 o43 3 (-1) fun s52 =>
    x_st s52 o43 4 0 fun s53 =>
    x_st s53 o43 5 30 fun s54 =>
    x_st s54 o43 6 30 fun s55 =>
    x_st s55 o43 7 30 fun s56 =>
    x_st s56 o43 8 30 fun s57 =>
    x_st s57 o43 9 30 fun s58 =>
    x_sr s58 o42 x8 o43 fun s59 =>
    x_gr s59 x3 12 12 fun o60 =>
    x_lr s59 o60 x8 fun o61 =>
    x_ld s59 o61 0 fun v62 =>
    x_gr s59 x3 12 12 fun o63 =>
    x_lr s59 o63 x8 fun o64 =>
    x_ld s59 o64 1 fun v65 =>
    x_calc s59 (f_X11_mule n 0 v62 v65 (x_c s59)) fun r67 s66 =>
    if r67 = x8 then (
    x_gi s66 x3 12 7 fun v68 =>
    x_pi s66 x3 12 7 (v68 + 1) fun s69 =>
    x_gr s69 x3 12 12 fun o70 =>
    x_lr s69 o70 x8 fun o71 =>
    x_nm (fun (y72 : Int32) (s73 : x_U) =>
      x_st s73 o71 2 y72 fun s74 =>
      x_gr s74 x3 12 12 fun o75 =>
      x_lr s74 o75 x8 fun o76 =>
      x_ld s74 o76 2 fun v77 =>
      x_calc s74 (f_X11_set n 0 2 x8 v77 (x_c s74)) fun r79 s78 =>
      if r79 = 0 then (
      some (0, s78))
      else (
      F_L_train_L296 n x1 x2 x3 x4 x7 k493 j (x8 + 1) s78)) fun j465 =>
    if ((v41 >>> (6 &&& 31)) &&& 7) = 0 then (
    j465 1 s69)
    else (
    j465 0 s69))
    else (
    some (0, s66)))
    else (
    k493 s0)
set_option maxRecDepth 100000 in
set_option maxHeartbeats 4000000 in
def F_L_train_L637 (n : Nat) (x1 : Nat) (x2 : Int32) (x3 : Nat) (x4 : Int32) (x5 : Int32) (x7 : Int32) (x8 : Int32) (k720 : x_U → Option (Nat × x_U)) : Nat → Int32 → x_U → Option (Nat × x_U)
  | 0, _, _ => none
  | j + 1, x9, s0 =>
    x_gi s0 x3 12 7 fun v112 =>
    if x9 < v112 then (
    x_gr s0 x3 12 12 fun o113 =>
    x_lr s0 o113 x9 fun o114 =>
    x_call (F_L_between n ((x5 * (x9 + 3)) >>> (4 &&& 31)) 0 99 s0) fun r116 s115 =>
    x_st s115 o114 (5 + x8) r116 fun s117 =>
    x_calc s117 (f_X11_of n 0 x9 (10 + x8) (x_c s117)) fun r119 s118 =>
    if r119 = 30 then (
    x_gr s118 x3 12 12 fun o120 =>
    x_lr s118 o120 x9 fun o121 =>
    x_ld s118 o121 (5 + x8) fun v122 =>
    x_calc s118 (f_X11_like n 0 x9 x8 v122 (x_c s118)) fun r124 s123 =>
    if r124 = 0 then (
    some (0, s123))
    else (
    F_L_train_L637 n x1 x2 x3 x4 x5 x7 x8 k720 j (x9 + 1) s123))
    else (
    some (0, s118)))
    else (
    k720 s0)
set_option maxRecDepth 100000 in
set_option maxHeartbeats 4000000 in
def F_L_train_L508 (n : Nat) (x1 : Nat) (x2 : Int32) (x3 : Nat) (x4 : Int32) (x7 : Int32) (k726 : x_U → Option (Nat × x_U)) : Nat → Int32 → x_U → Option (Nat × x_U)
  | 0, _, _ => none
  | j + 1, x8, s0 =>
    if x8 < x7 then (
    x_call (F_L_cell n x1 (x2 + 3) s0) fun r84 s83 =>
    x_nm ((r84 * (x8 + 1)) + (311 * x8)) fun v85 =>
    x_gr s83 x3 12 13 fun o86 =>
    x_nwa s83 0 3 fun o87 s88 =>
    x_call (F_L_between n (v85 >>> (3 &&& 31)) 0 12 s88) fun r90 s89 =>
    x_st s89 o87 0 r90 fun s91 =>
    x_call (F_L_between n (v85 >>> (5 &&& 31)) 0 9 s91) fun r93 s92 =>
    x_st s92 o87 1 r93 fun s94 =>
    x_call (F_L_between n (v85 >>> (6 &&& 31)) 0 9 s94) fun r96 s95 =>
    x_st s95 o87 2 r96 fun s97 =>
    x_sr s97 o86 x8 o87 fun s98 =>
    x_gr s98 x3 12 13 fun o99 =>
    x_lr s98 o99 x8 fun o100 =>
    x_ld s98 o100 0 fun v101 =>
    x_gr s98 x3 12 13 fun o102 =>
    x_lr s98 o102 x8 fun o103 =>
    x_ld s98 o103 1 fun v104 =>
    x_gr s98 x3 12 13 fun o105 =>
    x_lr s98 o105 x8 fun o106 =>
    x_ld s98 o106 2 fun v107 =>
    x_calc s98 (f_X11_man n 0 v101 v104 v107 (x_c s98)) fun r109 s108 =>
    if r109 = x8 then (
    x_gi s108 x3 12 8 fun v110 =>
    x_pi s108 x3 12 8 (v110 + 1) fun s111 =>
    F_L_train_L637 n x1 x2 x3 x4 v85 x7 x8 (fun  (s125 : x_U) =>
    F_L_train_L508 n x1 x2 x3 x4 x7 k726 j (x8 + 1) s125) n 0 s111)
    else (
    some (0, s108)))
    else (
    k726 s0)
set_option maxRecDepth 100000 in
set_option maxHeartbeats 4000000 in
def F_L_train (n : Nat) (a1 : Nat) (a2 : Int32) (s0 : x_U) : Option (Nat × x_U) :=
  x_new s0 12 fun o1 s2 =>
  x_o s2 o1 12 <|
  x_call (F_X12_init n o1 s2) fun r4 s3 =>
  x_call (F_L_cell n a1 a2 s3) fun r7 s6 =>
  x_call (F_L_cell n a1 (a2 + 1) s6) fun r9 s8 =>
  x_nwa s8 0 8 fun o10 s11 =>
  x_call (F_L_between n r9 0 30 s11) fun r13 s12 =>
  x_st s12 o10 0 r13 fun s14 =>
  x_call (F_L_between n (r9 >>> (3 &&& 31)) 0 9 s14) fun r16 s15 =>
  x_st s15 o10 1 r16 fun s17 =>
  x_call (F_L_between n (r9 >>> (5 &&& 31)) 0 9 s17) fun r19 s18 =>
  x_st s18 o10 2 r19 fun s20 =>
  x_call (F_L_between n (r9 >>> (6 &&& 31)) 5 30 s20) fun r22 s21 =>
  x_st s21 o10 3 r22 fun s23 =>
  x_call (F_L_between n (r9 >>> (4 &&& 31)) 0 60 s23) fun r25 s24 =>
  x_st s24 o10 4 r25 fun s26 =>
  x_call (F_L_between n (r9 >>> (7 &&& 31)) 0 20 s26) fun r28 s27 =>
  x_st s27 o10 5 r28 fun s29 =>
  x_call (F_L_between n (r9 >>> (2 &&& 31)) 0 11 s29) fun r31 s30 =>
  x_st s30 o10 6 r31 fun s32 =>
  x_call (F_L_between n (r9 >>> (8 &&& 31)) 0 40 s32) fun r34 s33 =>
  x_st s33 o10 7 r34 fun s35 =>
  x_nm (fun  (s36 : x_U) =>
    x_call (F_L_between n (r7 >>> (3 &&& 31)) 0 12 s36) fun r38 s37 =>
    F_L_train_L296 n a1 a2 o1 r7 r38 (fun  (s80 : x_U) =>
    x_call (F_L_between n (r7 >>> (6 &&& 31)) 0 5 s80) fun r82 s81 =>
    F_L_train_L508 n a1 a2 o1 r7 r82 (fun  (s126 : x_U) =>
    x_call (F_L_between n (r7 >>> (4 &&& 31)) 0 9 s126) fun r128 s127 =>
    x_pi s127 o1 12 6 r128 fun s129 =>
    x_call (F_L_between n (r7 >>> (7 &&& 31)) 0 5 s129) fun r131 s130 =>
    x_pi s130 o1 12 2 r131 fun s132 =>
    x_gi s132 o1 12 6 fun v133 =>
    x_calc s132 (f_X11_set n 0 0 0 v133 (x_c s132)) fun r135 s134 =>
    if r135 = 0 then (
    some (0, s134))
    else (
    x_gi s134 o1 12 2 fun v136 =>
    x_calc s134 (f_X11_set n 0 1 0 v136 (x_c s134)) fun r138 s137 =>
    if r138 = 0 then (
    some (0, s137))
    else (
    x_call (F_L_cell n a1 (a2 + 4) s137) fun r140 s139 =>
    x_call (F_L_texts n o1 r140 s139) fun r142 s141 =>
    if r142 = 0 then (
    some (0, s141))
    else (
    x_call (F_L_cell n a1 (a2 + 5) s141) fun r144 s143 =>
    x_pi s143 o1 12 0 r144 fun s145 =>
    x_gi s145 o1 12 0 fun v146 =>
    x_calc s145 (f_X11_state n 0 v146 (x_c s145)) fun r148 s147 =>
    some (o1, s147))))) n 0 s81) n 0 s37) fun j281 =>
  if ((r7 >>> (5 &&& 31)) &&& 7) ≤ 0 then (
  j281 s35)
  else (
  x_pr s35 o1 12 17 o10 fun s149 =>
  x_new s149 14 fun o150 s151 =>
  x_o s151 o150 14 <|
  x_call (F_J4_init_da8c8 n o150 s151) fun r153 s152 =>
  x_o s152 o150 14 <|
  x_call (F_J4_append_15ec4 n o150 (x_CB + 44) s152) fun o156 s155 =>
  x_ld s155 o10 2 fun v158 =>
  x_o s155 o156 14 <|
  x_call (F_J4_append_bf812 n o156 v158 s155) fun o160 s159 =>
  x_o s159 o160 14 <|
  x_call (F_J4_append_15ec4 n o160 (x_CB + 45) s159) fun o163 s162 =>
  x_ld s162 o10 0 fun v165 =>
  x_o s162 o163 14 <|
  x_call (F_J4_append_bf812 n o163 v165 s162) fun o167 s166 =>
  x_o s166 o167 14 <|
  x_call (F_J4_append_15ec4 n o167 (x_CB + 46) s166) fun o170 s169 =>
  x_ld s169 o10 1 fun v172 =>
  x_o s169 o170 14 <|
  x_call (F_J4_append_bf812 n o170 v172 s169) fun o174 s173 =>
  x_o s173 o174 14 <|
  x_call (F_J4_append_15ec4 n o174 (x_CB + 47) s173) fun o177 s176 =>
  x_ld s176 o10 3 fun v179 =>
  x_o s176 o177 14 <|
  x_call (F_J4_append_bf812 n o177 v179 s176) fun o181 s180 =>
  x_o s180 o181 14 <|
  x_call (F_J4_append_15ec4 n o181 (x_CB + 48) s180) fun o184 s183 =>
  x_ld s183 o10 4 fun v186 =>
  x_o s183 o184 14 <|
  x_call (F_J4_append_bf812 n o184 v186 s183) fun o188 s187 =>
  x_o s187 o188 14 <|
  x_call (F_J4_append_15ec4 n o188 (x_CB + 49) s187) fun o191 s190 =>
  x_ld s190 o10 5 fun v193 =>
  x_o s190 o191 14 <|
  x_call (F_J4_append_bf812 n o191 v193 s190) fun o195 s194 =>
  x_o s194 o195 14 <|
  x_call (F_J4_append_15ec4 n o195 (x_CB + 50) s194) fun o198 s197 =>
  x_ld s197 o10 6 fun v200 =>
  x_o s197 o198 14 <|
  x_call (F_J4_append_bf812 n o198 v200 s197) fun o202 s201 =>
  x_o s201 o202 14 <|
  x_call (F_J4_append_15ec4 n o202 (x_CB + 51) s201) fun o205 s204 =>
  x_ld s204 o10 7 fun v207 =>
  x_o s204 o205 14 <|
  x_call (F_J4_append_bf812 n o205 v207 s204) fun o209 s208 =>
  x_o s208 o209 14 <|
  x_call (F_J4_append_15ec4 n o209 (x_CB + 52) s208) fun o212 s211 =>
  x_o s211 o212 14 <|
  x_call (F_J4_toString_0e30d n o212 s211) fun o215 s214 =>
  x_call (F_L_say n o215 s214) fun r218 s217 =>
  x_calc s217 (f_X11_text n 0 0 (x_c s217)) fun r220 s219 =>
  if r220 = 5 then (
  j281 s219)
  else (
  some (0, s219)))
set_option maxRecDepth 100000 in
set_option maxHeartbeats 4000000 in
theorem T_L_train_L296 {w : q_Wd} {cx : q_Cx} {M0 : Nat} (hop : w.2.2.2.2.2.1 = none) {n : Nat} {x1 : Nat} {x2 : Int32} {x3 : Nat} {x4 : Int32} {x7 : Int32} {k493 : x_U → Option (Nat × x_U)} (hk493 : ∀  (s1 : x_U), x_G w cx RL "train" cL_train 10 (some (.object "MuleVoteLaw$Train")) 14 330 M0 (x_aR w) 493 [some (q_rf w 0), some (x_v w x1), some (.int x2), some (x_v w x3), some (.int x4), none, none, none, none, none] [] s1 (k493 s1)) :
    ∀ (j : Nat) (x8 : Int32) (s0 : x_U), x_G w cx RL "train" cL_train 10 (some (.object "MuleVoteLaw$Train")) 14 330 M0 (x_aR w) 296 [some (q_rf w 0), some (x_v w x1), some (.int x2), some (x_v w x3), some (.int x4), none, none, some (.int x7), some (.int x8), none] [] s0 (F_L_train_L296 n x1 x2 x3 x4 x7 k493 j x8 s0) := by
  intro j
  induction j with
  | zero =>
    intro _ _
    rw [F_L_train_L296]
    exact x_none
  | succ j ih =>
    intro x8 s0
    rw [F_L_train_L296]
    refine x_iload dL_train_296 rfl (pc2 := 298) rfl ?_
    refine x_iload dL_train_298 rfl (pc2 := 300) rfl ?_
    refine x_icmp_ge dL_train_300 (pc1 := 303) (pc2 := 493) rfl rfl (fun _ => ?_) (fun _ => ?_)
    · refine x_aload_n dL_train_303 x_vR rfl (pc2 := 304) rfl ?_
      refine x_iload_n dL_train_304 rfl (pc2 := 305) rfl ?_
      refine x_iconst dL_train_305 ic_2 (pc2 := 306) rfl ?_
      refine x_iadd dL_train_306 (pc2 := 307) rfl ?_
      refine x_callSI (As := [x_v w x1, .int (x2 + 2)]) C2_L_cell xm_L_cell xl_L_121 rfl rfl ⟨by decide, by decide⟩ (Nat.le_trans x_s0 (by decide)) dL_train_307 (pc2 := 310) rfl (fun r40 s39 => ?_) hop
      refine x_iload dL_train_310 rfl (pc2 := 312) rfl ?_
      refine x_iconst dL_train_312 ic_1 (pc2 := 313) rfl ?_
      refine x_iadd dL_train_313 (pc2 := 314) rfl ?_
      refine x_imul dL_train_314 (pc2 := 315) rfl ?_
      refine x_sipush dL_train_315 sp_307 (pc2 := 318) rfl ?_
      refine x_iload dL_train_318 rfl (pc2 := 320) rfl ?_
      refine x_imul dL_train_320 (pc2 := 321) rfl ?_
      refine x_iadd dL_train_321 (pc2 := 322) rfl ?_
      refine x_gnm (fun v41 => ?_)
      refine x_istore dL_train_322 (by decide) (L2 := [some (q_rf w 0), some (x_v w x1), some (.int x2), some (x_v w x3), some (.int x4), some (.int v41), none, some (.int x7), some (.int x8), none]) rfl (pc2 := 324) rfl ?_
      refine x_aload_n dL_train_324 x_vR rfl (pc2 := 325) rfl ?_
      refine x_getRN xf_L_52 (by decide) rfl dL_train_325 (pc2 := 328) rfl (fun o42 => ?_)
      refine x_iload dL_train_328 rfl (pc2 := 330) rfl ?_
      refine x_bipush dL_train_330 bp_10 (pc2 := 332) rfl ?_
      refine x_newa (t := 0) (ty := .int) rfl (Or.inl ⟨rfl, rfl⟩) nw_arr dL_train_332 (pc2 := 334) rfl (fun o43 s44 => ?_)
      refine x_dup dL_train_334 x_vcat (pc2 := 335) rfl ?_
      refine x_iconst dL_train_335 ic_0 (pc2 := 336) rfl ?_
      refine x_iload dL_train_336 rfl (pc2 := 338) rfl ?_
      refine x_iconst dL_train_338 ic_3 (pc2 := 339) rfl ?_
      refine x_ishr dL_train_339 (pc2 := 340) rfl ?_
      refine x_iconst dL_train_340 ic_1 (pc2 := 341) rfl ?_
      refine x_bipush dL_train_341 bp_40 (pc2 := 343) rfl ?_
      refine x_callSI (As := [.int (v41 >>> (3 &&& 31)), .int 1, .int 40]) C2_L_between xm_L_between xl_L_43 rfl rfl ⟨by decide, by decide⟩ (Nat.le_trans (x_sm rfl (x_sm x_vcat (x_sm x_vcat (x_sm rfl (x_sm x_vcat x_s0))))) (by decide)) dL_train_343 (pc2 := 346) rfl (fun r46 s45 => ?_) hop
      refine x_iast dL_train_346 (pc2 := 347) rfl (fun s47 => ?_)
      refine x_dup dL_train_347 x_vcat (pc2 := 348) rfl ?_
      refine x_iconst dL_train_348 ic_1 (pc2 := 349) rfl ?_
      refine x_iload dL_train_349 rfl (pc2 := 351) rfl ?_
      refine x_iconst dL_train_351 ic_5 (pc2 := 352) rfl ?_
      refine x_ishr dL_train_352 (pc2 := 353) rfl ?_
      refine x_iconst dL_train_353 ic_0 (pc2 := 354) rfl ?_
      refine x_bipush dL_train_354 bp_40 (pc2 := 356) rfl ?_
      refine x_callSI (As := [.int (v41 >>> (5 &&& 31)), .int 0, .int 40]) C2_L_between xm_L_between xl_L_43 rfl rfl ⟨by decide, by decide⟩ (Nat.le_trans (x_sm rfl (x_sm x_vcat (x_sm x_vcat (x_sm rfl (x_sm x_vcat x_s0))))) (by decide)) dL_train_356 (pc2 := 359) rfl (fun r49 s48 => ?_) hop
      refine x_iast dL_train_359 (pc2 := 360) rfl (fun s50 => ?_)
      refine x_dup dL_train_360 x_vcat (pc2 := 361) rfl ?_
      refine x_iconst dL_train_361 ic_2 (pc2 := 362) rfl ?_
      refine x_iconst dL_train_362 ic_0 (pc2 := 363) rfl ?_
      refine x_iast dL_train_363 (pc2 := 364) rfl (fun s51 => ?_)
      refine x_dup dL_train_364 x_vcat (pc2 := 365) rfl ?_
      refine x_iconst dL_train_365 ic_3 (pc2 := 366) rfl ?_
      refine x_iconst dL_train_366 ic_m1 (pc2 := 367) rfl ?_
      refine x_iast dL_train_367 (pc2 := 368) rfl (fun s52 => ?_)
      refine x_dup dL_train_368 x_vcat (pc2 := 369) rfl ?_
      refine x_iconst dL_train_369 ic_4 (pc2 := 370) rfl ?_
      refine x_iconst dL_train_370 ic_0 (pc2 := 371) rfl ?_
      refine x_iast dL_train_371 (pc2 := 372) rfl (fun s53 => ?_)
      refine x_dup dL_train_372 x_vcat (pc2 := 373) rfl ?_
      refine x_iconst dL_train_373 ic_5 (pc2 := 374) rfl ?_
      refine x_bipush dL_train_374 bp_30 (pc2 := 376) rfl ?_
      refine x_iast dL_train_376 (pc2 := 377) rfl (fun s54 => ?_)
      refine x_dup dL_train_377 x_vcat (pc2 := 378) rfl ?_
      refine x_bipush dL_train_378 bp_6 (pc2 := 380) rfl ?_
      refine x_bipush dL_train_380 bp_30 (pc2 := 382) rfl ?_
      refine x_iast dL_train_382 (pc2 := 383) rfl (fun s55 => ?_)
      refine x_dup dL_train_383 x_vcat (pc2 := 384) rfl ?_
      refine x_bipush dL_train_384 bp_7 (pc2 := 386) rfl ?_
      refine x_bipush dL_train_386 bp_30 (pc2 := 388) rfl ?_
      refine x_iast dL_train_388 (pc2 := 389) rfl (fun s56 => ?_)
      refine x_dup dL_train_389 x_vcat (pc2 := 390) rfl ?_
      refine x_bipush dL_train_390 bp_8 (pc2 := 392) rfl ?_
      refine x_bipush dL_train_392 bp_30 (pc2 := 394) rfl ?_
      refine x_iast dL_train_394 (pc2 := 395) rfl (fun s57 => ?_)
      refine x_dup dL_train_395 x_vcat (pc2 := 396) rfl ?_
      refine x_bipush dL_train_396 bp_9 (pc2 := 398) rfl ?_
      refine x_bipush dL_train_398 bp_30 (pc2 := 400) rfl ?_
      refine x_iast dL_train_400 (pc2 := 401) rfl (fun s58 => ?_)
      refine x_aast dL_train_401 (pc2 := 402) rfl (fun s59 => ?_)
      refine x_aload_n dL_train_402 x_cR rfl (pc2 := 403) rfl ?_
      refine x_aload_n dL_train_403 x_vR rfl (pc2 := 404) rfl ?_
      refine x_getRN xf_L_52 (by decide) rfl dL_train_404 (pc2 := 407) rfl (fun o60 => ?_)
      refine x_iload dL_train_407 rfl (pc2 := 409) rfl ?_
      refine x_aald dL_train_409 (pc2 := 410) rfl (fun o61 => ?_)
      refine x_iconst dL_train_410 ic_0 (pc2 := 411) rfl ?_
      refine x_iald dL_train_411 (pc2 := 412) rfl (fun v62 => ?_)
      refine x_aload_n dL_train_412 x_vR rfl (pc2 := 413) rfl ?_
      refine x_getRN xf_L_52 (by decide) rfl dL_train_413 (pc2 := 416) rfl (fun o63 => ?_)
      refine x_iload dL_train_416 rfl (pc2 := 418) rfl ?_
      refine x_aald dL_train_418 (pc2 := 419) rfl (fun o64 => ?_)
      refine x_iconst dL_train_419 ic_1 (pc2 := 420) rfl ?_
      refine x_iald dL_train_420 (pc2 := 421) rfl (fun v65 => ?_)
      refine x_callcI (As := [.int v62, .int v65]) (fun w' => C_X11_mule q_kd0) mv_X11_mule xl_L_146 rfl rfl ⟨by decide, by decide⟩ (Nat.le_trans x_s0 (by decide)) dL_train_421 (pc2 := 424) rfl (fun r67 s66 => ?_)
      refine x_iload dL_train_424 rfl (pc2 := 426) rfl ?_
      refine x_icmp_eq dL_train_426 (pc1 := 431) (pc2 := 429) rfl rfl (fun _ => ?_) (fun _ => ?_)
      · refine x_aload_n dL_train_431 x_vR rfl (pc2 := 432) rfl ?_
        refine x_dup dL_train_432 x_vcat (pc2 := 433) rfl ?_
        refine x_getIN xf_L_37 (by decide) rfl dL_train_433 (pc2 := 436) rfl (fun v68 => ?_)
        refine x_iconst dL_train_436 ic_1 (pc2 := 437) rfl ?_
        refine x_iadd dL_train_437 (pc2 := 438) rfl ?_
        refine x_putI (Or.inr ⟨rfl, xf_L_37⟩) (Or.inl rfl) rfl rfl rfl dL_train_438 (pc2 := 441) rfl (fun s69 => ?_)
        refine x_aload_n dL_train_441 x_vR rfl (pc2 := 442) rfl ?_
        refine x_getRN xf_L_52 (by decide) rfl dL_train_442 (pc2 := 445) rfl (fun o70 => ?_)
        refine x_iload dL_train_445 rfl (pc2 := 447) rfl ?_
        refine x_aald dL_train_447 (pc2 := 448) rfl (fun o71 => ?_)
        refine x_iconst dL_train_448 ic_2 (pc2 := 449) rfl ?_
        refine x_iload dL_train_449 rfl (pc2 := 451) rfl ?_
        refine x_bipush dL_train_451 bp_6 (pc2 := 453) rfl ?_
        refine x_ishr dL_train_453 (pc2 := 454) rfl ?_
        refine x_bipush dL_train_454 bp_7 (pc2 := 456) rfl ?_
        refine x_iand dL_train_456 (pc2 := 457) rfl ?_
        refine x_jn (P := fun j465 => ∀ (y72 : Int32) (s73 : x_U), x_G w cx RL "train" cL_train 10 (some (.object "MuleVoteLaw$Train")) 14 330 M0 (x_aR w) 465 [some (q_rf w 0), some (x_v w x1), some (.int x2), some (x_v w x3), some (.int x4), none, none, some (.int x7), some (.int x8), none] [.int y72, .int 2, x_v w o71] s73 (j465 y72 s73)) (fun y72 s73 => ?_) (fun j465 hj465 => ?_)
        · refine x_iast dL_train_465 (pc2 := 466) rfl (fun s74 => ?_)
          refine x_aload_n dL_train_466 x_cR rfl (pc2 := 467) rfl ?_
          refine x_iconst dL_train_467 ic_2 (pc2 := 468) rfl ?_
          refine x_iload dL_train_468 rfl (pc2 := 470) rfl ?_
          refine x_aload_n dL_train_470 x_vR rfl (pc2 := 471) rfl ?_
          refine x_getRN xf_L_52 (by decide) rfl dL_train_471 (pc2 := 474) rfl (fun o75 => ?_)
          refine x_iload dL_train_474 rfl (pc2 := 476) rfl ?_
          refine x_aald dL_train_476 (pc2 := 477) rfl (fun o76 => ?_)
          refine x_iconst dL_train_477 ic_2 (pc2 := 478) rfl ?_
          refine x_iald dL_train_478 (pc2 := 479) rfl (fun v77 => ?_)
          refine x_callcI (As := [.int 2, .int x8, .int v77]) (fun w' => C_X11_set q_kd0) mv_X11_set xl_L_148 rfl rfl ⟨by decide, by decide⟩ (Nat.le_trans x_s0 (by decide)) dL_train_479 (pc2 := 482) rfl (fun r79 s78 => ?_)
          refine x_if_ne dL_train_482 (pc1 := 485) (pc2 := 487) rfl rfl (fun _ => ?_) (fun _ => ?_)
          · refine x_anull dL_train_485 (pc2 := 486) rfl ?_
            exact x_aret (Or.inl ⟨_, rfl⟩) dL_train_486
          · refine x_iinc dL_train_487 rfl (q_ii ic_1) (by decide) (L2 := [some (q_rf w 0), some (x_v w x1), some (.int x2), some (x_v w x3), some (.int x4), none, none, some (.int x7), some (.int (x8 + 1)), none]) rfl (pc2 := 490) rfl ?_
            refine x_goto dL_train_490 (pc2 := 296) rfl ?_
            exact ih _ _
        · refine x_if_ne dL_train_457 (pc1 := 460) (pc2 := 464) rfl rfl (fun _ => ?_) (fun _ => ?_)
          · refine x_iconst dL_train_460 ic_1 (pc2 := 461) rfl ?_
            refine x_goto dL_train_461 (pc2 := 465) rfl ?_
            refine x_Gmask [true, true, true, true, true, false, true, true, true, true] (L2 := [some (q_rf w 0), some (x_v w x1), some (.int x2), some (x_v w x3), some (.int x4), none, none, some (.int x7), some (.int x8), none]) rfl ?_
            exact hj465 _ _
          · refine x_iconst dL_train_464 ic_0 (pc2 := 465) rfl ?_
            refine x_Gmask [true, true, true, true, true, false, true, true, true, true] (L2 := [some (q_rf w 0), some (x_v w x1), some (.int x2), some (x_v w x3), some (.int x4), none, none, some (.int x7), some (.int x8), none]) rfl ?_
            exact hj465 _ _
      · refine x_anull dL_train_429 (pc2 := 430) rfl ?_
        exact x_aret (Or.inl ⟨_, rfl⟩) dL_train_430
    · refine x_Gmask [true, true, true, true, true, true, true, false, false, true] (L2 := [some (q_rf w 0), some (x_v w x1), some (.int x2), some (x_v w x3), some (.int x4), none, none, none, none, none]) rfl ?_
      exact hk493 _
set_option maxRecDepth 100000 in
set_option maxHeartbeats 4000000 in
theorem T_L_train_L637 {w : q_Wd} {cx : q_Cx} {M0 : Nat} (hop : w.2.2.2.2.2.1 = none) {n : Nat} {x1 : Nat} {x2 : Int32} {x3 : Nat} {x4 : Int32} {x5 : Int32} {x7 : Int32} {x8 : Int32} {k720 : x_U → Option (Nat × x_U)} (hk720 : ∀  (s1 : x_U), x_G w cx RL "train" cL_train 10 (some (.object "MuleVoteLaw$Train")) 14 330 M0 (x_aR w) 720 [some (q_rf w 0), some (x_v w x1), some (.int x2), some (x_v w x3), some (.int x4), none, none, some (.int x7), some (.int x8), none] [] s1 (k720 s1)) :
    ∀ (j : Nat) (x9 : Int32) (s0 : x_U), x_G w cx RL "train" cL_train 10 (some (.object "MuleVoteLaw$Train")) 14 330 M0 (x_aR w) 637 [some (q_rf w 0), some (x_v w x1), some (.int x2), some (x_v w x3), some (.int x4), some (.int x5), none, some (.int x7), some (.int x8), some (.int x9)] [] s0 (F_L_train_L637 n x1 x2 x3 x4 x5 x7 x8 k720 j x9 s0) := by
  intro j
  induction j with
  | zero =>
    intro _ _
    rw [F_L_train_L637]
    exact x_none
  | succ j ih =>
    intro x9 s0
    rw [F_L_train_L637]
    refine x_iload dL_train_637 rfl (pc2 := 639) rfl ?_
    refine x_aload_n dL_train_639 x_vR rfl (pc2 := 640) rfl ?_
    refine x_getIN xf_L_37 (by decide) rfl dL_train_640 (pc2 := 643) rfl (fun v112 => ?_)
    refine x_icmp_ge dL_train_643 (pc1 := 646) (pc2 := 720) rfl rfl (fun _ => ?_) (fun _ => ?_)
    · refine x_aload_n dL_train_646 x_vR rfl (pc2 := 647) rfl ?_
      refine x_getRN xf_L_52 (by decide) rfl dL_train_647 (pc2 := 650) rfl (fun o113 => ?_)
      refine x_iload dL_train_650 rfl (pc2 := 652) rfl ?_
      refine x_aald dL_train_652 (pc2 := 653) rfl (fun o114 => ?_)
      refine x_iconst dL_train_653 ic_5 (pc2 := 654) rfl ?_
      refine x_iload dL_train_654 rfl (pc2 := 656) rfl ?_
      refine x_iadd dL_train_656 (pc2 := 657) rfl ?_
      refine x_iload dL_train_657 rfl (pc2 := 659) rfl ?_
      refine x_iload dL_train_659 rfl (pc2 := 661) rfl ?_
      refine x_iconst dL_train_661 ic_3 (pc2 := 662) rfl ?_
      refine x_iadd dL_train_662 (pc2 := 663) rfl ?_
      refine x_imul dL_train_663 (pc2 := 664) rfl ?_
      refine x_iconst dL_train_664 ic_4 (pc2 := 665) rfl ?_
      refine x_ishr dL_train_665 (pc2 := 666) rfl ?_
      refine x_iconst dL_train_666 ic_0 (pc2 := 667) rfl ?_
      refine x_bipush dL_train_667 bp_99 (pc2 := 669) rfl ?_
      refine x_callSI (As := [.int ((x5 * (x9 + 3)) >>> (4 &&& 31)), .int 0, .int 99]) C2_L_between xm_L_between xl_L_43 rfl rfl ⟨by decide, by decide⟩ (Nat.le_trans (x_sm rfl (x_sm x_vcat x_s0)) (by decide)) dL_train_669 (pc2 := 672) rfl (fun r116 s115 => ?_) hop
      refine x_iast dL_train_672 (pc2 := 673) rfl (fun s117 => ?_)
      refine x_aload_n dL_train_673 x_cR rfl (pc2 := 674) rfl ?_
      refine x_iload dL_train_674 rfl (pc2 := 676) rfl ?_
      refine x_bipush dL_train_676 bp_10 (pc2 := 678) rfl ?_
      refine x_iload dL_train_678 rfl (pc2 := 680) rfl ?_
      refine x_iadd dL_train_680 (pc2 := 681) rfl ?_
      refine x_callcI (As := [.int x9, .int (10 + x8)]) (fun w' => C_X11_of q_kd0) mv_X11_of xl_L_157 rfl rfl ⟨by decide, by decide⟩ (Nat.le_trans x_s0 (by decide)) dL_train_681 (pc2 := 684) rfl (fun r119 s118 => ?_)
      refine x_bipush dL_train_684 bp_30 (pc2 := 686) rfl ?_
      refine x_icmp_ne dL_train_686 (pc1 := 689) (pc2 := 712) rfl rfl (fun _ => ?_) (fun _ => ?_)
      · refine x_aload_n dL_train_689 x_cR rfl (pc2 := 690) rfl ?_
        refine x_iload dL_train_690 rfl (pc2 := 692) rfl ?_
        refine x_iload dL_train_692 rfl (pc2 := 694) rfl ?_
        refine x_aload_n dL_train_694 x_vR rfl (pc2 := 695) rfl ?_
        refine x_getRN xf_L_52 (by decide) rfl dL_train_695 (pc2 := 698) rfl (fun o120 => ?_)
        refine x_iload dL_train_698 rfl (pc2 := 700) rfl ?_
        refine x_aald dL_train_700 (pc2 := 701) rfl (fun o121 => ?_)
        refine x_iconst dL_train_701 ic_5 (pc2 := 702) rfl ?_
        refine x_iload dL_train_702 rfl (pc2 := 704) rfl ?_
        refine x_iadd dL_train_704 (pc2 := 705) rfl ?_
        refine x_iald dL_train_705 (pc2 := 706) rfl (fun v122 => ?_)
        refine x_callcI (As := [.int x9, .int x8, .int v122]) (fun w' => C_X11_like q_kd0) mv_X11_like xl_L_160 rfl rfl ⟨by decide, by decide⟩ (Nat.le_trans x_s0 (by decide)) dL_train_706 (pc2 := 709) rfl (fun r124 s123 => ?_)
        refine x_if_ne dL_train_709 (pc1 := 712) (pc2 := 714) rfl rfl (fun _ => ?_) (fun _ => ?_)
        · refine x_anull dL_train_712 (pc2 := 713) rfl ?_
          exact x_aret (Or.inl ⟨_, rfl⟩) dL_train_713
        · refine x_iinc dL_train_714 rfl (q_ii ic_1) (by decide) (L2 := [some (q_rf w 0), some (x_v w x1), some (.int x2), some (x_v w x3), some (.int x4), some (.int x5), none, some (.int x7), some (.int x8), some (.int (x9 + 1))]) rfl (pc2 := 717) rfl ?_
          refine x_goto dL_train_717 (pc2 := 637) rfl ?_
          exact ih _ _
      · refine x_anull dL_train_712 (pc2 := 713) rfl ?_
        exact x_aret (Or.inl ⟨_, rfl⟩) dL_train_713
    · refine x_Gmask [true, true, true, true, true, false, true, true, true, false] (L2 := [some (q_rf w 0), some (x_v w x1), some (.int x2), some (x_v w x3), some (.int x4), none, none, some (.int x7), some (.int x8), none]) rfl ?_
      exact hk720 _
set_option maxRecDepth 100000 in
set_option maxHeartbeats 4000000 in
theorem T_L_train_L508 {w : q_Wd} {cx : q_Cx} {M0 : Nat} (hop : w.2.2.2.2.2.1 = none) {n : Nat} {x1 : Nat} {x2 : Int32} {x3 : Nat} {x4 : Int32} {x7 : Int32} {k726 : x_U → Option (Nat × x_U)} (hk726 : ∀  (s1 : x_U), x_G w cx RL "train" cL_train 10 (some (.object "MuleVoteLaw$Train")) 14 330 M0 (x_aR w) 726 [some (q_rf w 0), some (x_v w x1), some (.int x2), some (x_v w x3), some (.int x4), none, none, none, none, none] [] s1 (k726 s1)) :
    ∀ (j : Nat) (x8 : Int32) (s0 : x_U), x_G w cx RL "train" cL_train 10 (some (.object "MuleVoteLaw$Train")) 14 330 M0 (x_aR w) 508 [some (q_rf w 0), some (x_v w x1), some (.int x2), some (x_v w x3), some (.int x4), none, none, some (.int x7), some (.int x8), none] [] s0 (F_L_train_L508 n x1 x2 x3 x4 x7 k726 j x8 s0) := by
  intro j
  induction j with
  | zero =>
    intro _ _
    rw [F_L_train_L508]
    exact x_none
  | succ j ih =>
    intro x8 s0
    rw [F_L_train_L508]
    refine x_iload dL_train_508 rfl (pc2 := 510) rfl ?_
    refine x_iload dL_train_510 rfl (pc2 := 512) rfl ?_
    refine x_icmp_ge dL_train_512 (pc1 := 515) (pc2 := 726) rfl rfl (fun _ => ?_) (fun _ => ?_)
    · refine x_aload_n dL_train_515 x_vR rfl (pc2 := 516) rfl ?_
      refine x_iload_n dL_train_516 rfl (pc2 := 517) rfl ?_
      refine x_iconst dL_train_517 ic_3 (pc2 := 518) rfl ?_
      refine x_iadd dL_train_518 (pc2 := 519) rfl ?_
      refine x_callSI (As := [x_v w x1, .int (x2 + 3)]) C2_L_cell xm_L_cell xl_L_121 rfl rfl ⟨by decide, by decide⟩ (Nat.le_trans x_s0 (by decide)) dL_train_519 (pc2 := 522) rfl (fun r84 s83 => ?_) hop
      refine x_iload dL_train_522 rfl (pc2 := 524) rfl ?_
      refine x_iconst dL_train_524 ic_1 (pc2 := 525) rfl ?_
      refine x_iadd dL_train_525 (pc2 := 526) rfl ?_
      refine x_imul dL_train_526 (pc2 := 527) rfl ?_
      refine x_sipush dL_train_527 sp_311 (pc2 := 530) rfl ?_
      refine x_iload dL_train_530 rfl (pc2 := 532) rfl ?_
      refine x_imul dL_train_532 (pc2 := 533) rfl ?_
      refine x_iadd dL_train_533 (pc2 := 534) rfl ?_
      refine x_gnm (fun v85 => ?_)
      refine x_istore dL_train_534 (by decide) (L2 := [some (q_rf w 0), some (x_v w x1), some (.int x2), some (x_v w x3), some (.int x4), some (.int v85), none, some (.int x7), some (.int x8), none]) rfl (pc2 := 536) rfl ?_
      refine x_aload_n dL_train_536 x_vR rfl (pc2 := 537) rfl ?_
      refine x_getRN xf_L_152 (by decide) rfl dL_train_537 (pc2 := 540) rfl (fun o86 => ?_)
      refine x_iload dL_train_540 rfl (pc2 := 542) rfl ?_
      refine x_iconst dL_train_542 ic_3 (pc2 := 543) rfl ?_
      refine x_newa (t := 0) (ty := .int) rfl (Or.inl ⟨rfl, rfl⟩) nw_arr dL_train_543 (pc2 := 545) rfl (fun o87 s88 => ?_)
      refine x_dup dL_train_545 x_vcat (pc2 := 546) rfl ?_
      refine x_iconst dL_train_546 ic_0 (pc2 := 547) rfl ?_
      refine x_iload dL_train_547 rfl (pc2 := 549) rfl ?_
      refine x_iconst dL_train_549 ic_3 (pc2 := 550) rfl ?_
      refine x_ishr dL_train_550 (pc2 := 551) rfl ?_
      refine x_iconst dL_train_551 ic_0 (pc2 := 552) rfl ?_
      refine x_bipush dL_train_552 bp_12 (pc2 := 554) rfl ?_
      refine x_callSI (As := [.int (v85 >>> (3 &&& 31)), .int 0, .int 12]) C2_L_between xm_L_between xl_L_43 rfl rfl ⟨by decide, by decide⟩ (Nat.le_trans (x_sm rfl (x_sm x_vcat (x_sm x_vcat (x_sm rfl (x_sm x_vcat x_s0))))) (by decide)) dL_train_554 (pc2 := 557) rfl (fun r90 s89 => ?_) hop
      refine x_iast dL_train_557 (pc2 := 558) rfl (fun s91 => ?_)
      refine x_dup dL_train_558 x_vcat (pc2 := 559) rfl ?_
      refine x_iconst dL_train_559 ic_1 (pc2 := 560) rfl ?_
      refine x_iload dL_train_560 rfl (pc2 := 562) rfl ?_
      refine x_iconst dL_train_562 ic_5 (pc2 := 563) rfl ?_
      refine x_ishr dL_train_563 (pc2 := 564) rfl ?_
      refine x_iconst dL_train_564 ic_0 (pc2 := 565) rfl ?_
      refine x_bipush dL_train_565 bp_9 (pc2 := 567) rfl ?_
      refine x_callSI (As := [.int (v85 >>> (5 &&& 31)), .int 0, .int 9]) C2_L_between xm_L_between xl_L_43 rfl rfl ⟨by decide, by decide⟩ (Nat.le_trans (x_sm rfl (x_sm x_vcat (x_sm x_vcat (x_sm rfl (x_sm x_vcat x_s0))))) (by decide)) dL_train_567 (pc2 := 570) rfl (fun r93 s92 => ?_) hop
      refine x_iast dL_train_570 (pc2 := 571) rfl (fun s94 => ?_)
      refine x_dup dL_train_571 x_vcat (pc2 := 572) rfl ?_
      refine x_iconst dL_train_572 ic_2 (pc2 := 573) rfl ?_
      refine x_iload dL_train_573 rfl (pc2 := 575) rfl ?_
      refine x_bipush dL_train_575 bp_6 (pc2 := 577) rfl ?_
      refine x_ishr dL_train_577 (pc2 := 578) rfl ?_
      refine x_iconst dL_train_578 ic_0 (pc2 := 579) rfl ?_
      refine x_bipush dL_train_579 bp_9 (pc2 := 581) rfl ?_
      refine x_callSI (As := [.int (v85 >>> (6 &&& 31)), .int 0, .int 9]) C2_L_between xm_L_between xl_L_43 rfl rfl ⟨by decide, by decide⟩ (Nat.le_trans (x_sm rfl (x_sm x_vcat (x_sm x_vcat (x_sm rfl (x_sm x_vcat x_s0))))) (by decide)) dL_train_581 (pc2 := 584) rfl (fun r96 s95 => ?_) hop
      refine x_iast dL_train_584 (pc2 := 585) rfl (fun s97 => ?_)
      refine x_aast dL_train_585 (pc2 := 586) rfl (fun s98 => ?_)
      refine x_aload_n dL_train_586 x_cR rfl (pc2 := 587) rfl ?_
      refine x_aload_n dL_train_587 x_vR rfl (pc2 := 588) rfl ?_
      refine x_getRN xf_L_152 (by decide) rfl dL_train_588 (pc2 := 591) rfl (fun o99 => ?_)
      refine x_iload dL_train_591 rfl (pc2 := 593) rfl ?_
      refine x_aald dL_train_593 (pc2 := 594) rfl (fun o100 => ?_)
      refine x_iconst dL_train_594 ic_0 (pc2 := 595) rfl ?_
      refine x_iald dL_train_595 (pc2 := 596) rfl (fun v101 => ?_)
      refine x_aload_n dL_train_596 x_vR rfl (pc2 := 597) rfl ?_
      refine x_getRN xf_L_152 (by decide) rfl dL_train_597 (pc2 := 600) rfl (fun o102 => ?_)
      refine x_iload dL_train_600 rfl (pc2 := 602) rfl ?_
      refine x_aald dL_train_602 (pc2 := 603) rfl (fun o103 => ?_)
      refine x_iconst dL_train_603 ic_1 (pc2 := 604) rfl ?_
      refine x_iald dL_train_604 (pc2 := 605) rfl (fun v104 => ?_)
      refine x_aload_n dL_train_605 x_vR rfl (pc2 := 606) rfl ?_
      refine x_getRN xf_L_152 (by decide) rfl dL_train_606 (pc2 := 609) rfl (fun o105 => ?_)
      refine x_iload dL_train_609 rfl (pc2 := 611) rfl ?_
      refine x_aald dL_train_611 (pc2 := 612) rfl (fun o106 => ?_)
      refine x_iconst dL_train_612 ic_2 (pc2 := 613) rfl ?_
      refine x_iald dL_train_613 (pc2 := 614) rfl (fun v107 => ?_)
      refine x_callcI (As := [.int v101, .int v104, .int v107]) (fun w' => C_X11_man q_kd0) mv_X11_man xl_L_155 rfl rfl ⟨by decide, by decide⟩ (Nat.le_trans x_s0 (by decide)) dL_train_614 (pc2 := 617) rfl (fun r109 s108 => ?_)
      refine x_iload dL_train_617 rfl (pc2 := 619) rfl ?_
      refine x_icmp_eq dL_train_619 (pc1 := 624) (pc2 := 622) rfl rfl (fun _ => ?_) (fun _ => ?_)
      · refine x_aload_n dL_train_624 x_vR rfl (pc2 := 625) rfl ?_
        refine x_dup dL_train_625 x_vcat (pc2 := 626) rfl ?_
        refine x_getIN xf_L_103 (by decide) rfl dL_train_626 (pc2 := 629) rfl (fun v110 => ?_)
        refine x_iconst dL_train_629 ic_1 (pc2 := 630) rfl ?_
        refine x_iadd dL_train_630 (pc2 := 631) rfl ?_
        refine x_putI (Or.inr ⟨rfl, xf_L_103⟩) (Or.inl rfl) rfl rfl rfl dL_train_631 (pc2 := 634) rfl (fun s111 => ?_)
        refine x_iconst dL_train_634 ic_0 (pc2 := 635) rfl ?_
        refine x_istore dL_train_635 (by decide) (L2 := [some (q_rf w 0), some (x_v w x1), some (.int x2), some (x_v w x3), some (.int x4), some (.int v85), none, some (.int x7), some (.int x8), some (.int 0)]) rfl (pc2 := 637) rfl ?_
        refine T_L_train_L637 hop (fun s125 => ?_) n _ _
        refine x_iinc dL_train_720 rfl (q_ii ic_1) (by decide) (L2 := [some (q_rf w 0), some (x_v w x1), some (.int x2), some (x_v w x3), some (.int x4), none, none, some (.int x7), some (.int (x8 + 1)), none]) rfl (pc2 := 723) rfl ?_
        refine x_goto dL_train_723 (pc2 := 508) rfl ?_
        exact ih _ _
      · refine x_anull dL_train_622 (pc2 := 623) rfl ?_
        exact x_aret (Or.inl ⟨_, rfl⟩) dL_train_623
    · refine x_Gmask [true, true, true, true, true, true, true, false, false, true] (L2 := [some (q_rf w 0), some (x_v w x1), some (.int x2), some (x_v w x3), some (.int x4), none, none, none, none, none]) rfl ?_
      exact hk726 _
set_option maxRecDepth 100000 in
set_option maxHeartbeats 4000000 in
theorem C2_L_train {l : Launch} {w : q_Wd} {n : Nat} {a1 : Nat} {a2 : Int32} {s0 : x_U} : x_C l w yL_train cL_train 10 (some (.object "MuleVoteLaw$Train")) 14 330 [q_rf w 0, x_v w a1, .int a2] (x_aR w) s0 (F_L_train n a1 a2 s0) := x_CofG [some (q_rf w 0), some (x_v w a1), some (.int a2), none, none, none, none, none, none, none] (by decide +kernel) rfl (x_ca rfl (x_ca x_vcat (x_ca rfl x_c0))) (Nat.le_of_ble_eq_true rfl) fun hop cx hl => by
  subst hl
  show x_G w cx RL "train" cL_train 10 (some (.object "MuleVoteLaw$Train")) 14 330 (x_m s0) (x_aR w) 0 [some (q_rf w 0), some (x_v w a1), some (.int a2), none, none, none, none, none, none, none] [] s0 _
  rw [F_L_train]
  refine x_newo cl_12 xn_L_38 df_12 dL_train_0 (pc2 := 3) rfl (fun o1 s2 => ?_)
  refine x_dup dL_train_3 x_vcat (pc2 := 4) rfl ?_
  refine x_oo (ci := 12) (fun hk5 => ?_)
  refine x_callINV (As := []) (host := "MuleVoteLaw") C2_X12_init mi_X12_init rfl rfl (by decide +kernel) hk5 xq_12 (fun h => by first | rfl | cases h) rfl rfl ⟨by decide, by decide⟩ (Nat.le_trans (x_sm x_vcat x_s0) (by decide)) dL_train_4 (pc2 := 7) rfl (fun r4 s3 => ?_) hop
  refine x_astore_n x_vR dL_train_7 (by decide) (L2 := [some (q_rf w 0), some (x_v w a1), some (.int a2), some (x_v w o1), none, none, none, none, none, none]) rfl (pc2 := 8) rfl ?_
  refine x_aload_n dL_train_8 x_vR rfl (pc2 := 9) rfl ?_
  refine x_iload_n dL_train_9 rfl (pc2 := 10) rfl ?_
  refine x_callSI (As := [x_v w a1, .int a2]) C2_L_cell xm_L_cell xl_L_121 rfl rfl ⟨by decide, by decide⟩ (Nat.le_trans x_s0 (by decide)) dL_train_10 (pc2 := 13) rfl (fun r7 s6 => ?_) hop
  refine x_istore dL_train_13 (by decide) (L2 := [some (q_rf w 0), some (x_v w a1), some (.int a2), some (x_v w o1), some (.int r7), none, none, none, none, none]) rfl (pc2 := 15) rfl ?_
  refine x_aload_n dL_train_15 x_vR rfl (pc2 := 16) rfl ?_
  refine x_iload_n dL_train_16 rfl (pc2 := 17) rfl ?_
  refine x_iconst dL_train_17 ic_1 (pc2 := 18) rfl ?_
  refine x_iadd dL_train_18 (pc2 := 19) rfl ?_
  refine x_callSI (As := [x_v w a1, .int (a2 + 1)]) C2_L_cell xm_L_cell xl_L_121 rfl rfl ⟨by decide, by decide⟩ (Nat.le_trans x_s0 (by decide)) dL_train_19 (pc2 := 22) rfl (fun r9 s8 => ?_) hop
  refine x_istore dL_train_22 (by decide) (L2 := [some (q_rf w 0), some (x_v w a1), some (.int a2), some (x_v w o1), some (.int r7), some (.int r9), none, none, none, none]) rfl (pc2 := 24) rfl ?_
  refine x_bipush dL_train_24 bp_8 (pc2 := 26) rfl ?_
  refine x_newa (t := 0) (ty := .int) rfl (Or.inl ⟨rfl, rfl⟩) nw_arr dL_train_26 (pc2 := 28) rfl (fun o10 s11 => ?_)
  refine x_dup dL_train_28 x_vcat (pc2 := 29) rfl ?_
  refine x_iconst dL_train_29 ic_0 (pc2 := 30) rfl ?_
  refine x_iload dL_train_30 rfl (pc2 := 32) rfl ?_
  refine x_iconst dL_train_32 ic_0 (pc2 := 33) rfl ?_
  refine x_bipush dL_train_33 bp_30 (pc2 := 35) rfl ?_
  refine x_callSI (As := [.int r9, .int 0, .int 30]) C2_L_between xm_L_between xl_L_43 rfl rfl ⟨by decide, by decide⟩ (Nat.le_trans (x_sm rfl (x_sm x_vcat (x_sm x_vcat x_s0))) (by decide)) dL_train_35 (pc2 := 38) rfl (fun r13 s12 => ?_) hop
  refine x_iast dL_train_38 (pc2 := 39) rfl (fun s14 => ?_)
  refine x_dup dL_train_39 x_vcat (pc2 := 40) rfl ?_
  refine x_iconst dL_train_40 ic_1 (pc2 := 41) rfl ?_
  refine x_iload dL_train_41 rfl (pc2 := 43) rfl ?_
  refine x_iconst dL_train_43 ic_3 (pc2 := 44) rfl ?_
  refine x_ishr dL_train_44 (pc2 := 45) rfl ?_
  refine x_iconst dL_train_45 ic_0 (pc2 := 46) rfl ?_
  refine x_bipush dL_train_46 bp_9 (pc2 := 48) rfl ?_
  refine x_callSI (As := [.int (r9 >>> (3 &&& 31)), .int 0, .int 9]) C2_L_between xm_L_between xl_L_43 rfl rfl ⟨by decide, by decide⟩ (Nat.le_trans (x_sm rfl (x_sm x_vcat (x_sm x_vcat x_s0))) (by decide)) dL_train_48 (pc2 := 51) rfl (fun r16 s15 => ?_) hop
  refine x_iast dL_train_51 (pc2 := 52) rfl (fun s17 => ?_)
  refine x_dup dL_train_52 x_vcat (pc2 := 53) rfl ?_
  refine x_iconst dL_train_53 ic_2 (pc2 := 54) rfl ?_
  refine x_iload dL_train_54 rfl (pc2 := 56) rfl ?_
  refine x_iconst dL_train_56 ic_5 (pc2 := 57) rfl ?_
  refine x_ishr dL_train_57 (pc2 := 58) rfl ?_
  refine x_iconst dL_train_58 ic_0 (pc2 := 59) rfl ?_
  refine x_bipush dL_train_59 bp_9 (pc2 := 61) rfl ?_
  refine x_callSI (As := [.int (r9 >>> (5 &&& 31)), .int 0, .int 9]) C2_L_between xm_L_between xl_L_43 rfl rfl ⟨by decide, by decide⟩ (Nat.le_trans (x_sm rfl (x_sm x_vcat (x_sm x_vcat x_s0))) (by decide)) dL_train_61 (pc2 := 64) rfl (fun r19 s18 => ?_) hop
  refine x_iast dL_train_64 (pc2 := 65) rfl (fun s20 => ?_)
  refine x_dup dL_train_65 x_vcat (pc2 := 66) rfl ?_
  refine x_iconst dL_train_66 ic_3 (pc2 := 67) rfl ?_
  refine x_iload dL_train_67 rfl (pc2 := 69) rfl ?_
  refine x_bipush dL_train_69 bp_6 (pc2 := 71) rfl ?_
  refine x_ishr dL_train_71 (pc2 := 72) rfl ?_
  refine x_iconst dL_train_72 ic_5 (pc2 := 73) rfl ?_
  refine x_bipush dL_train_73 bp_30 (pc2 := 75) rfl ?_
  refine x_callSI (As := [.int (r9 >>> (6 &&& 31)), .int 5, .int 30]) C2_L_between xm_L_between xl_L_43 rfl rfl ⟨by decide, by decide⟩ (Nat.le_trans (x_sm rfl (x_sm x_vcat (x_sm x_vcat x_s0))) (by decide)) dL_train_75 (pc2 := 78) rfl (fun r22 s21 => ?_) hop
  refine x_iast dL_train_78 (pc2 := 79) rfl (fun s23 => ?_)
  refine x_dup dL_train_79 x_vcat (pc2 := 80) rfl ?_
  refine x_iconst dL_train_80 ic_4 (pc2 := 81) rfl ?_
  refine x_iload dL_train_81 rfl (pc2 := 83) rfl ?_
  refine x_iconst dL_train_83 ic_4 (pc2 := 84) rfl ?_
  refine x_ishr dL_train_84 (pc2 := 85) rfl ?_
  refine x_iconst dL_train_85 ic_0 (pc2 := 86) rfl ?_
  refine x_bipush dL_train_86 bp_60 (pc2 := 88) rfl ?_
  refine x_callSI (As := [.int (r9 >>> (4 &&& 31)), .int 0, .int 60]) C2_L_between xm_L_between xl_L_43 rfl rfl ⟨by decide, by decide⟩ (Nat.le_trans (x_sm rfl (x_sm x_vcat (x_sm x_vcat x_s0))) (by decide)) dL_train_88 (pc2 := 91) rfl (fun r25 s24 => ?_) hop
  refine x_iast dL_train_91 (pc2 := 92) rfl (fun s26 => ?_)
  refine x_dup dL_train_92 x_vcat (pc2 := 93) rfl ?_
  refine x_iconst dL_train_93 ic_5 (pc2 := 94) rfl ?_
  refine x_iload dL_train_94 rfl (pc2 := 96) rfl ?_
  refine x_bipush dL_train_96 bp_7 (pc2 := 98) rfl ?_
  refine x_ishr dL_train_98 (pc2 := 99) rfl ?_
  refine x_iconst dL_train_99 ic_0 (pc2 := 100) rfl ?_
  refine x_bipush dL_train_100 bp_20 (pc2 := 102) rfl ?_
  refine x_callSI (As := [.int (r9 >>> (7 &&& 31)), .int 0, .int 20]) C2_L_between xm_L_between xl_L_43 rfl rfl ⟨by decide, by decide⟩ (Nat.le_trans (x_sm rfl (x_sm x_vcat (x_sm x_vcat x_s0))) (by decide)) dL_train_102 (pc2 := 105) rfl (fun r28 s27 => ?_) hop
  refine x_iast dL_train_105 (pc2 := 106) rfl (fun s29 => ?_)
  refine x_dup dL_train_106 x_vcat (pc2 := 107) rfl ?_
  refine x_bipush dL_train_107 bp_6 (pc2 := 109) rfl ?_
  refine x_iload dL_train_109 rfl (pc2 := 111) rfl ?_
  refine x_iconst dL_train_111 ic_2 (pc2 := 112) rfl ?_
  refine x_ishr dL_train_112 (pc2 := 113) rfl ?_
  refine x_iconst dL_train_113 ic_0 (pc2 := 114) rfl ?_
  refine x_bipush dL_train_114 bp_11 (pc2 := 116) rfl ?_
  refine x_callSI (As := [.int (r9 >>> (2 &&& 31)), .int 0, .int 11]) C2_L_between xm_L_between xl_L_43 rfl rfl ⟨by decide, by decide⟩ (Nat.le_trans (x_sm rfl (x_sm x_vcat (x_sm x_vcat x_s0))) (by decide)) dL_train_116 (pc2 := 119) rfl (fun r31 s30 => ?_) hop
  refine x_iast dL_train_119 (pc2 := 120) rfl (fun s32 => ?_)
  refine x_dup dL_train_120 x_vcat (pc2 := 121) rfl ?_
  refine x_bipush dL_train_121 bp_7 (pc2 := 123) rfl ?_
  refine x_iload dL_train_123 rfl (pc2 := 125) rfl ?_
  refine x_bipush dL_train_125 bp_8 (pc2 := 127) rfl ?_
  refine x_ishr dL_train_127 (pc2 := 128) rfl ?_
  refine x_iconst dL_train_128 ic_0 (pc2 := 129) rfl ?_
  refine x_bipush dL_train_129 bp_40 (pc2 := 131) rfl ?_
  refine x_callSI (As := [.int (r9 >>> (8 &&& 31)), .int 0, .int 40]) C2_L_between xm_L_between xl_L_43 rfl rfl ⟨by decide, by decide⟩ (Nat.le_trans (x_sm rfl (x_sm x_vcat (x_sm x_vcat x_s0))) (by decide)) dL_train_131 (pc2 := 134) rfl (fun r34 s33 => ?_) hop
  refine x_iast dL_train_134 (pc2 := 135) rfl (fun s35 => ?_)
  refine x_astore x_vR dL_train_135 (by decide) (L2 := [some (q_rf w 0), some (x_v w a1), some (.int a2), some (x_v w o1), some (.int r7), some (.int r9), some (x_v w o10), none, none, none]) rfl (pc2 := 137) rfl ?_
  refine x_iload dL_train_137 rfl (pc2 := 139) rfl ?_
  refine x_iconst dL_train_139 ic_5 (pc2 := 140) rfl ?_
  refine x_ishr dL_train_140 (pc2 := 141) rfl ?_
  refine x_bipush dL_train_141 bp_7 (pc2 := 143) rfl ?_
  refine x_iand dL_train_143 (pc2 := 144) rfl ?_
  refine x_jn (P := fun j281 => ∀  (s36 : x_U), x_G w cx RL "train" cL_train 10 (some (.object "MuleVoteLaw$Train")) 14 330 (x_m s0) (x_aR w) 281 [some (q_rf w 0), some (x_v w a1), some (.int a2), some (x_v w o1), some (.int r7), none, none, none, none, none] [] s36 (j281 s36)) (fun s36 => ?_) (fun j281 hj281 => ?_)
  · refine x_iload dL_train_281 rfl (pc2 := 283) rfl ?_
    refine x_iconst dL_train_283 ic_3 (pc2 := 284) rfl ?_
    refine x_ishr dL_train_284 (pc2 := 285) rfl ?_
    refine x_iconst dL_train_285 ic_0 (pc2 := 286) rfl ?_
    refine x_bipush dL_train_286 bp_12 (pc2 := 288) rfl ?_
    refine x_callSI (As := [.int (r7 >>> (3 &&& 31)), .int 0, .int 12]) C2_L_between xm_L_between xl_L_43 rfl rfl ⟨by decide, by decide⟩ (Nat.le_trans x_s0 (by decide)) dL_train_288 (pc2 := 291) rfl (fun r38 s37 => ?_) hop
    refine x_istore dL_train_291 (by decide) (L2 := [some (q_rf w 0), some (x_v w a1), some (.int a2), some (x_v w o1), some (.int r7), none, none, some (.int r38), none, none]) rfl (pc2 := 293) rfl ?_
    refine x_iconst dL_train_293 ic_0 (pc2 := 294) rfl ?_
    refine x_istore dL_train_294 (by decide) (L2 := [some (q_rf w 0), some (x_v w a1), some (.int a2), some (x_v w o1), some (.int r7), none, none, some (.int r38), some (.int 0), none]) rfl (pc2 := 296) rfl ?_
    refine T_L_train_L296 hop (fun s80 => ?_) n _ _
    refine x_iload dL_train_493 rfl (pc2 := 495) rfl ?_
    refine x_bipush dL_train_495 bp_6 (pc2 := 497) rfl ?_
    refine x_ishr dL_train_497 (pc2 := 498) rfl ?_
    refine x_iconst dL_train_498 ic_0 (pc2 := 499) rfl ?_
    refine x_iconst dL_train_499 ic_5 (pc2 := 500) rfl ?_
    refine x_callSI (As := [.int (r7 >>> (6 &&& 31)), .int 0, .int 5]) C2_L_between xm_L_between xl_L_43 rfl rfl ⟨by decide, by decide⟩ (Nat.le_trans x_s0 (by decide)) dL_train_500 (pc2 := 503) rfl (fun r82 s81 => ?_) hop
    refine x_istore dL_train_503 (by decide) (L2 := [some (q_rf w 0), some (x_v w a1), some (.int a2), some (x_v w o1), some (.int r7), none, none, some (.int r82), none, none]) rfl (pc2 := 505) rfl ?_
    refine x_iconst dL_train_505 ic_0 (pc2 := 506) rfl ?_
    refine x_istore dL_train_506 (by decide) (L2 := [some (q_rf w 0), some (x_v w a1), some (.int a2), some (x_v w o1), some (.int r7), none, none, some (.int r82), some (.int 0), none]) rfl (pc2 := 508) rfl ?_
    refine T_L_train_L508 hop (fun s126 => ?_) n _ _
    refine x_aload_n dL_train_726 x_vR rfl (pc2 := 727) rfl ?_
    refine x_iload dL_train_727 rfl (pc2 := 729) rfl ?_
    refine x_iconst dL_train_729 ic_4 (pc2 := 730) rfl ?_
    refine x_ishr dL_train_730 (pc2 := 731) rfl ?_
    refine x_iconst dL_train_731 ic_0 (pc2 := 732) rfl ?_
    refine x_bipush dL_train_732 bp_9 (pc2 := 734) rfl ?_
    refine x_callSI (As := [.int (r7 >>> (4 &&& 31)), .int 0, .int 9]) C2_L_between xm_L_between xl_L_43 rfl rfl ⟨by decide, by decide⟩ (Nat.le_trans (x_sm x_vcat x_s0) (by decide)) dL_train_734 (pc2 := 737) rfl (fun r128 s127 => ?_) hop
    refine x_putI (Or.inr ⟨rfl, xf_L_163⟩) (Or.inl rfl) rfl rfl rfl dL_train_737 (pc2 := 740) rfl (fun s129 => ?_)
    refine x_aload_n dL_train_740 x_vR rfl (pc2 := 741) rfl ?_
    refine x_iload dL_train_741 rfl (pc2 := 743) rfl ?_
    refine x_bipush dL_train_743 bp_7 (pc2 := 745) rfl ?_
    refine x_ishr dL_train_745 (pc2 := 746) rfl ?_
    refine x_iconst dL_train_746 ic_0 (pc2 := 747) rfl ?_
    refine x_iconst dL_train_747 ic_5 (pc2 := 748) rfl ?_
    refine x_callSI (As := [.int (r7 >>> (7 &&& 31)), .int 0, .int 5]) C2_L_between xm_L_between xl_L_43 rfl rfl ⟨by decide, by decide⟩ (Nat.le_trans (x_sm x_vcat x_s0) (by decide)) dL_train_748 (pc2 := 751) rfl (fun r131 s130 => ?_) hop
    refine x_putI (Or.inr ⟨rfl, xf_L_166⟩) (Or.inl rfl) rfl rfl rfl dL_train_751 (pc2 := 754) rfl (fun s132 => ?_)
    refine x_aload_n dL_train_754 x_cR rfl (pc2 := 755) rfl ?_
    refine x_iconst dL_train_755 ic_0 (pc2 := 756) rfl ?_
    refine x_iconst dL_train_756 ic_0 (pc2 := 757) rfl ?_
    refine x_aload_n dL_train_757 x_vR rfl (pc2 := 758) rfl ?_
    refine x_getIN xf_L_163 (by decide) rfl dL_train_758 (pc2 := 761) rfl (fun v133 => ?_)
    refine x_callcI (As := [.int 0, .int 0, .int v133]) (fun w' => C_X11_set q_kd0) mv_X11_set xl_L_148 rfl rfl ⟨by decide, by decide⟩ (Nat.le_trans x_s0 (by decide)) dL_train_761 (pc2 := 764) rfl (fun r135 s134 => ?_)
    refine x_if_eq dL_train_764 (pc1 := 795) (pc2 := 767) rfl rfl (fun _ => ?_) (fun _ => ?_)
    · refine x_anull dL_train_795 (pc2 := 796) rfl ?_
      exact x_aret (Or.inl ⟨_, rfl⟩) dL_train_796
    · refine x_aload_n dL_train_767 x_cR rfl (pc2 := 768) rfl ?_
      refine x_iconst dL_train_768 ic_1 (pc2 := 769) rfl ?_
      refine x_iconst dL_train_769 ic_0 (pc2 := 770) rfl ?_
      refine x_aload_n dL_train_770 x_vR rfl (pc2 := 771) rfl ?_
      refine x_getIN xf_L_166 (by decide) rfl dL_train_771 (pc2 := 774) rfl (fun v136 => ?_)
      refine x_callcI (As := [.int 1, .int 0, .int v136]) (fun w' => C_X11_set q_kd0) mv_X11_set xl_L_148 rfl rfl ⟨by decide, by decide⟩ (Nat.le_trans x_s0 (by decide)) dL_train_774 (pc2 := 777) rfl (fun r138 s137 => ?_)
      refine x_if_eq dL_train_777 (pc1 := 795) (pc2 := 780) rfl rfl (fun _ => ?_) (fun _ => ?_)
      · refine x_anull dL_train_795 (pc2 := 796) rfl ?_
        exact x_aret (Or.inl ⟨_, rfl⟩) dL_train_796
      · refine x_aload_n dL_train_780 x_cR rfl (pc2 := 781) rfl ?_
        refine x_aload_n dL_train_781 x_vR rfl (pc2 := 782) rfl ?_
        refine x_aload_n dL_train_782 x_vR rfl (pc2 := 783) rfl ?_
        refine x_iload_n dL_train_783 rfl (pc2 := 784) rfl ?_
        refine x_iconst dL_train_784 ic_4 (pc2 := 785) rfl ?_
        refine x_iadd dL_train_785 (pc2 := 786) rfl ?_
        refine x_callSI (As := [x_v w a1, .int (a2 + 4)]) C2_L_cell xm_L_cell xl_L_121 rfl rfl ⟨by decide, by decide⟩ (Nat.le_trans (x_sm x_vcat (x_sm rfl x_s0)) (by decide)) dL_train_786 (pc2 := 789) rfl (fun r140 s139 => ?_) hop
        refine x_callSI (As := [q_rf w 0, x_v w o1, .int r140]) C2_L_texts xm_L_texts xl_L_169 rfl rfl ⟨by decide, by decide⟩ (Nat.le_trans x_s0 (by decide)) dL_train_789 (pc2 := 792) rfl (fun r142 s141 => ?_) hop
        refine x_if_ne dL_train_792 (pc1 := 795) (pc2 := 797) rfl rfl (fun _ => ?_) (fun _ => ?_)
        · refine x_anull dL_train_795 (pc2 := 796) rfl ?_
          exact x_aret (Or.inl ⟨_, rfl⟩) dL_train_796
        · refine x_aload_n dL_train_797 x_vR rfl (pc2 := 798) rfl ?_
          refine x_aload_n dL_train_798 x_vR rfl (pc2 := 799) rfl ?_
          refine x_iload_n dL_train_799 rfl (pc2 := 800) rfl ?_
          refine x_iconst dL_train_800 ic_5 (pc2 := 801) rfl ?_
          refine x_iadd dL_train_801 (pc2 := 802) rfl ?_
          refine x_callSI (As := [x_v w a1, .int (a2 + 5)]) C2_L_cell xm_L_cell xl_L_121 rfl rfl ⟨by decide, by decide⟩ (Nat.le_trans (x_sm x_vcat x_s0) (by decide)) dL_train_802 (pc2 := 805) rfl (fun r144 s143 => ?_) hop
          refine x_putI (Or.inr ⟨rfl, xf_L_173⟩) (Or.inl rfl) rfl rfl rfl dL_train_805 (pc2 := 808) rfl (fun s145 => ?_)
          refine x_aload_n dL_train_808 x_cR rfl (pc2 := 809) rfl ?_
          refine x_aload_n dL_train_809 x_vR rfl (pc2 := 810) rfl ?_
          refine x_getIN xf_L_173 (by decide) rfl dL_train_810 (pc2 := 813) rfl (fun v146 => ?_)
          refine x_callcI (As := [.int v146]) (fun w' => C_X11_state q_kd0) mv_X11_state xl_L_176 rfl rfl ⟨by decide, by decide⟩ (Nat.le_trans x_s0 (by decide)) dL_train_813 (pc2 := 816) rfl (fun r148 s147 => ?_)
          refine x_pop dL_train_816 rfl (pc2 := 817) rfl ?_
          refine x_aload_n dL_train_817 x_vR rfl (pc2 := 818) rfl ?_
          exact x_aret (Or.inl ⟨_, rfl⟩) dL_train_818
  · refine x_if_le dL_train_144 (pc1 := 281) (pc2 := 147) rfl rfl (fun _ => ?_) (fun _ => ?_)
    · refine x_Gmask [true, true, true, true, true, false, false, true, true, true] (L2 := [some (q_rf w 0), some (x_v w a1), some (.int a2), some (x_v w o1), some (.int r7), none, none, none, none, none]) rfl ?_
      exact hj281 _
    · refine x_aload_n dL_train_147 x_vR rfl (pc2 := 148) rfl ?_
      refine x_aload dL_train_148 x_vR rfl (pc2 := 150) rfl ?_
      refine x_putR (Or.inr ⟨rfl, xf_L_125⟩) (Or.inl rfl) rfl (x_nR (Or.inr ⟨_, rfl⟩)) dL_train_150 (pc2 := 153) rfl (fun s149 => ?_)
      refine x_aload_n dL_train_153 x_cR rfl (pc2 := 154) rfl ?_
      refine x_newo cl_14 xn_L_49 df_14 dL_train_154 (pc2 := 157) rfl (fun o150 s151 => ?_)
      refine x_dup dL_train_157 x_vcat (pc2 := 158) rfl ?_
      refine x_oo (ci := 14) (fun hk154 => ?_)
      refine x_callIV (As := []) C2_J4_init_da8c8 mi_J4_init_da8c8 rfl rfl xl_L_51 hk154 xq_14 (fun h => by first | rfl | cases h) rfl rfl ⟨by decide, by decide⟩ (Nat.le_trans (x_sm x_vcat (x_sm rfl x_s0)) (by decide)) dL_train_158 (pc2 := 161) rfl (fun r153 s152 => ?_) hop
      refine x_ldcS (i := 44) (tx := "lean liking+songs*") dL_train_161 (by decide +kernel) (by decide) (pc2 := 163) rfl ?_
      refine x_oo (ci := 14) (fun hk157 => ?_)
      refine x_callVR (As := [x_v w (x_CB + 44)]) C2_J4_append_15ec4 xm_J4_append_15ec4 (fun h => by first | rfl | cases h) xl_L_61 hk157 rfl rfl ⟨by decide, by decide⟩ (Nat.le_trans (x_sm rfl x_s0) (by decide)) dL_train_163 (pc2 := 166) rfl (fun o156 s155 => ?_) hop
      refine x_aload dL_train_166 x_vR rfl (pc2 := 168) rfl ?_
      refine x_iconst dL_train_168 ic_2 (pc2 := 169) rfl ?_
      refine x_iald dL_train_169 (pc2 := 170) rfl (fun v158 => ?_)
      refine x_oo (ci := 14) (fun hk161 => ?_)
      refine x_callVR (As := [.int v158]) C2_J4_append_bf812 xm_J4_append_bf812 (fun h => by first | rfl | cases h) xl_L_65 hk161 rfl rfl ⟨by decide, by decide⟩ (Nat.le_trans (x_sm rfl x_s0) (by decide)) dL_train_170 (pc2 := 173) rfl (fun o160 s159 => ?_) hop
      refine x_ldcS (i := 45) (tx := "-hand when age>") dL_train_173 (by decide +kernel) (by decide) (pc2 := 175) rfl ?_
      refine x_oo (ci := 14) (fun hk164 => ?_)
      refine x_callVR (As := [x_v w (x_CB + 45)]) C2_J4_append_15ec4 xm_J4_append_15ec4 (fun h => by first | rfl | cases h) xl_L_61 hk164 rfl rfl ⟨by decide, by decide⟩ (Nat.le_trans (x_sm rfl x_s0) (by decide)) dL_train_175 (pc2 := 178) rfl (fun o163 s162 => ?_) hop
      refine x_aload dL_train_178 x_vR rfl (pc2 := 180) rfl ?_
      refine x_iconst dL_train_180 ic_0 (pc2 := 181) rfl ?_
      refine x_iald dL_train_181 (pc2 := 182) rfl (fun v165 => ?_)
      refine x_oo (ci := 14) (fun hk168 => ?_)
      refine x_callVR (As := [.int v165]) C2_J4_append_bf812 xm_J4_append_bf812 (fun h => by first | rfl | cases h) xl_L_65 hk168 rfl rfl ⟨by decide, by decide⟩ (Nat.le_trans (x_sm rfl x_s0) (by decide)) dL_train_182 (pc2 := 185) rfl (fun o167 s166 => ?_) hop
      refine x_ldcS (i := 46) (tx := " and not (heeded>1 or hand=") dL_train_185 (by decide +kernel) (by decide) (pc2 := 187) rfl ?_
      refine x_oo (ci := 14) (fun hk171 => ?_)
      refine x_callVR (As := [x_v w (x_CB + 46)]) C2_J4_append_15ec4 xm_J4_append_15ec4 (fun h => by first | rfl | cases h) xl_L_61 hk171 rfl rfl ⟨by decide, by decide⟩ (Nat.le_trans (x_sm rfl x_s0) (by decide)) dL_train_187 (pc2 := 190) rfl (fun o170 s169 => ?_) hop
      refine x_aload dL_train_190 x_vR rfl (pc2 := 192) rfl ?_
      refine x_iconst dL_train_192 ic_1 (pc2 := 193) rfl ?_
      refine x_iald dL_train_193 (pc2 := 194) rfl (fun v172 => ?_)
      refine x_oo (ci := 14) (fun hk175 => ?_)
      refine x_callVR (As := [.int v172]) C2_J4_append_bf812 xm_J4_append_bf812 (fun h => by first | rfl | cases h) xl_L_65 hk175 rfl rfl ⟨by decide, by decide⟩ (Nat.le_trans (x_sm rfl x_s0) (by decide)) dL_train_194 (pc2 := 197) rfl (fun o174 s173 => ?_) hop
      refine x_ldcS (i := 47) (tx := ");lean liking/2+heeded*") dL_train_197 (by decide +kernel) (by decide) (pc2 := 199) rfl ?_
      refine x_oo (ci := 14) (fun hk178 => ?_)
      refine x_callVR (As := [x_v w (x_CB + 47)]) C2_J4_append_15ec4 xm_J4_append_15ec4 (fun h => by first | rfl | cases h) xl_L_61 hk178 rfl rfl ⟨by decide, by decide⟩ (Nat.le_trans (x_sm rfl x_s0) (by decide)) dL_train_199 (pc2 := 202) rfl (fun o177 s176 => ?_) hop
      refine x_aload dL_train_202 x_vR rfl (pc2 := 204) rfl ?_
      refine x_iconst dL_train_204 ic_3 (pc2 := 205) rfl ?_
      refine x_iald dL_train_205 (pc2 := 206) rfl (fun v179 => ?_)
      refine x_oo (ci := 14) (fun hk182 => ?_)
      refine x_callVR (As := [.int v179]) C2_J4_append_bf812 xm_J4_append_bf812 (fun h => by first | rfl | cases h) xl_L_65 hk182 rfl rfl ⟨by decide, by decide⟩ (Nat.le_trans (x_sm rfl x_s0) (by decide)) dL_train_206 (pc2 := 209) rfl (fun o181 s180 => ?_) hop
      refine x_ldcS (i := 48) (tx := ";need ") dL_train_209 (by decide +kernel) (by decide) (pc2 := 211) rfl ?_
      refine x_oo (ci := 14) (fun hk185 => ?_)
      refine x_callVR (As := [x_v w (x_CB + 48)]) C2_J4_append_15ec4 xm_J4_append_15ec4 (fun h => by first | rfl | cases h) xl_L_61 hk185 rfl rfl ⟨by decide, by decide⟩ (Nat.le_trans (x_sm rfl x_s0) (by decide)) dL_train_211 (pc2 := 214) rfl (fun o184 s183 => ?_) hop
      refine x_aload dL_train_214 x_vR rfl (pc2 := 216) rfl ?_
      refine x_iconst dL_train_216 ic_4 (pc2 := 217) rfl ?_
      refine x_iald dL_train_217 (pc2 := 218) rfl (fun v186 => ?_)
      refine x_oo (ci := 14) (fun hk189 => ?_)
      refine x_callVR (As := [.int v186]) C2_J4_append_bf812 xm_J4_append_bf812 (fun h => by first | rfl | cases h) xl_L_65 hk189 rfl rfl ⟨by decide, by decide⟩ (Nat.le_trans (x_sm rfl x_s0) (by decide)) dL_train_218 (pc2 := 221) rfl (fun o188 s187 => ?_) hop
      refine x_ldcS (i := 49) (tx := "+strong/9-snow;risk snow*60+age*3-hand*9 when hours>") dL_train_221 (by decide +kernel) (by decide) (pc2 := 223) rfl ?_
      refine x_oo (ci := 14) (fun hk192 => ?_)
      refine x_callVR (As := [x_v w (x_CB + 49)]) C2_J4_append_15ec4 xm_J4_append_15ec4 (fun h => by first | rfl | cases h) xl_L_61 hk192 rfl rfl ⟨by decide, by decide⟩ (Nat.le_trans (x_sm rfl x_s0) (by decide)) dL_train_223 (pc2 := 226) rfl (fun o191 s190 => ?_) hop
      refine x_aload dL_train_226 x_vR rfl (pc2 := 228) rfl ?_
      refine x_iconst dL_train_228 ic_5 (pc2 := 229) rfl ?_
      refine x_iald dL_train_229 (pc2 := 230) rfl (fun v193 => ?_)
      refine x_oo (ci := 14) (fun hk196 => ?_)
      refine x_callVR (As := [.int v193]) C2_J4_append_bf812 xm_J4_append_bf812 (fun h => by first | rfl | cases h) xl_L_65 hk196 rfl rfl ⟨by decide, by decide⟩ (Nat.le_trans (x_sm rfl x_s0) (by decide)) dL_train_230 (pc2 := 233) rfl (fun o195 s194 => ?_) hop
      refine x_ldcS (i := 50) (tx := " or mule=") dL_train_233 (by decide +kernel) (by decide) (pc2 := 235) rfl ?_
      refine x_oo (ci := 14) (fun hk199 => ?_)
      refine x_callVR (As := [x_v w (x_CB + 50)]) C2_J4_append_15ec4 xm_J4_append_15ec4 (fun h => by first | rfl | cases h) xl_L_61 hk199 rfl rfl ⟨by decide, by decide⟩ (Nat.le_trans (x_sm rfl x_s0) (by decide)) dL_train_235 (pc2 := 238) rfl (fun o198 s197 => ?_) hop
      refine x_aload dL_train_238 x_vR rfl (pc2 := 240) rfl ?_
      refine x_bipush dL_train_240 bp_6 (pc2 := 242) rfl ?_
      refine x_iald dL_train_242 (pc2 := 243) rfl (fun v200 => ?_)
      refine x_oo (ci := 14) (fun hk203 => ?_)
      refine x_callVR (As := [.int v200]) C2_J4_append_bf812 xm_J4_append_bf812 (fun h => by first | rfl | cases h) xl_L_65 hk203 rfl rfl ⟨by decide, by decide⟩ (Nat.le_trans (x_sm rfl x_s0) (by decide)) dL_train_243 (pc2 := 246) rfl (fun o202 s201 => ?_) hop
      refine x_ldcS (i := 51) (tx := ";risk hours*") dL_train_246 (by decide +kernel) (by decide) (pc2 := 248) rfl ?_
      refine x_oo (ci := 14) (fun hk206 => ?_)
      refine x_callVR (As := [x_v w (x_CB + 51)]) C2_J4_append_15ec4 xm_J4_append_15ec4 (fun h => by first | rfl | cases h) xl_L_61 hk206 rfl rfl ⟨by decide, by decide⟩ (Nat.le_trans (x_sm rfl x_s0) (by decide)) dL_train_248 (pc2 := 251) rfl (fun o205 s204 => ?_) hop
      refine x_aload dL_train_251 x_vR rfl (pc2 := 253) rfl ?_
      refine x_bipush dL_train_253 bp_7 (pc2 := 255) rfl ?_
      refine x_iald dL_train_255 (pc2 := 256) rfl (fun v207 => ?_)
      refine x_oo (ci := 14) (fun hk210 => ?_)
      refine x_callVR (As := [.int v207]) C2_J4_append_bf812 xm_J4_append_bf812 (fun h => by first | rfl | cases h) xl_L_65 hk210 rfl rfl ⟨by decide, by decide⟩ (Nat.le_trans (x_sm rfl x_s0) (by decide)) dL_train_256 (pc2 := 259) rfl (fun o209 s208 => ?_) hop
      refine x_ldcS (i := 52) (tx := "-songs;") dL_train_259 (by decide +kernel) (by decide) (pc2 := 261) rfl ?_
      refine x_oo (ci := 14) (fun hk213 => ?_)
      refine x_callVR (As := [x_v w (x_CB + 52)]) C2_J4_append_15ec4 xm_J4_append_15ec4 (fun h => by first | rfl | cases h) xl_L_61 hk213 rfl rfl ⟨by decide, by decide⟩ (Nat.le_trans (x_sm rfl x_s0) (by decide)) dL_train_261 (pc2 := 264) rfl (fun o212 s211 => ?_) hop
      refine x_oo (ci := 14) (fun hk216 => ?_)
      refine x_callVR (As := []) C2_J4_toString_0e30d xm_J4_toString_0e30d (fun h => by first | rfl | cases h) xl_L_72 hk216 rfl rfl ⟨by decide, by decide⟩ (Nat.le_trans (x_sm rfl x_s0) (by decide)) dL_train_264 (pc2 := 267) rfl (fun o215 s214 => ?_) hop
      refine x_callSV (As := [q_rf w 0, x_v w o215]) C2_L_say xm_L_say xl_L_80 rfl rfl ⟨by decide, by decide⟩ (Nat.le_trans x_s0 (by decide)) dL_train_267 (pc2 := 270) rfl (fun r218 s217 => ?_) hop
      refine x_aload_n dL_train_270 x_cR rfl (pc2 := 271) rfl ?_
      refine x_iconst dL_train_271 ic_0 (pc2 := 272) rfl ?_
      refine x_callcI (As := [.int 0]) (fun w' => C_X11_text q_kd0) mv_X11_text xl_L_84 rfl rfl ⟨by decide, by decide⟩ (Nat.le_trans x_s0 (by decide)) dL_train_272 (pc2 := 275) rfl (fun r220 s219 => ?_)
      refine x_iconst dL_train_275 ic_5 (pc2 := 276) rfl ?_
      refine x_icmp_eq dL_train_276 (pc1 := 281) (pc2 := 279) rfl rfl (fun _ => ?_) (fun _ => ?_)
      · refine x_Gmask [true, true, true, true, true, false, false, true, true, true] (L2 := [some (q_rf w 0), some (x_v w a1), some (.int a2), some (x_v w o1), some (.int r7), none, none, none, none, none]) rfl ?_
        exact hj281 _
      · refine x_anull dL_train_279 (pc2 := 280) rfl ?_
        exact x_aret (Or.inl ⟨_, rfl⟩) dL_train_280
set_option maxRecDepth 100000 in
set_option maxHeartbeats 4000000 in
def F_L_held (n : Nat) (a0 : Int32) (a1 : Int32) (a2 : Int32) (s0 : x_U) : Option (Int32 × x_U) :=
  some (q_mx a1 (q_mn a2 a0), s0)
set_option maxRecDepth 100000 in
set_option maxHeartbeats 4000000 in
theorem C2_L_held {l : Launch} {w : q_Wd} {n : Nat} {a0 : Int32} {a1 : Int32} {a2 : Int32} {s0 : x_U} : x_C l w yL_held cL_held 3 (some .int) 1 21 [.int a0, .int a1, .int a2] x_aI s0 (F_L_held n a0 a1 a2 s0) := x_CofG [some (.int a0), some (.int a1), some (.int a2)] (by decide +kernel) rfl (x_ca rfl (x_ca rfl (x_ca rfl x_c0))) (Nat.le_of_ble_eq_true rfl) fun hop cx hl => by
  subst hl
  show x_G w cx RL "held" cL_held 3 (some .int) 1 21 (x_m s0) x_aI 0 [some (.int a0), some (.int a1), some (.int a2)] [] s0 _
  rw [F_L_held]
  refine x_iload_n dL_held_0 rfl (pc2 := 1) rfl ?_
  refine x_iload_n dL_held_1 rfl (pc2 := 2) rfl ?_
  refine x_iload_n dL_held_2 rfl (pc2 := 3) rfl ?_
  refine x_min xl_L_8 ⟨by decide, by decide⟩ (Nat.le_trans (x_sm rfl x_s0) (by decide)) dL_held_3 (pc2 := 6) rfl ?_
  refine x_max xl_L_14 ⟨by decide, by decide⟩ (Nat.le_trans x_s0 (by decide)) dL_held_6 (pc2 := 9) rfl ?_
  exact x_iret dL_held_9
set_option maxRecDepth 100000 in
set_option maxHeartbeats 4000000 in
def F_X12_need (n : Nat) (t : Nat) (a0 : Int32) (s0 : x_U) : Option (Int32 × x_U) :=
  x_gr s0 t 12 17 fun o1 =>
  if o1 = 0 then (
  some (40, s0))
  else (
  x_gr s0 t 12 17 fun o2 =>
  x_ld s0 o2 4 fun v3 =>
  x_gr s0 t 12 12 fun o4 =>
  x_lr s0 o4 a0 fun o5 =>
  x_ld s0 o5 0 fun v6 =>
  x_dv v6 9 fun v7 =>
  x_gi s0 t 12 6 fun v8 =>
  x_call (F_L_held n ((v3 + v7) - v8) 0 999 s0) fun r10 s9 =>
  some (r10, s9))
set_option maxRecDepth 100000 in
set_option maxHeartbeats 4000000 in
theorem C2_X12_need {l : Launch} {w : q_Wd} {n : Nat} {t : Nat} {a0 : Int32} {s0 : x_U} : x_C l w yX12_need cX12_need 2 (some .int) 2 43 [x_v w t, .int a0] x_aI s0 (F_X12_need n t a0 s0) := x_CofG [some (x_v w t), some (.int a0)] (by decide +kernel) rfl (x_ca x_vcat (x_ca rfl x_c0)) (Nat.le_of_ble_eq_true rfl) fun hop cx hl => by
  subst hl
  show x_G w cx RX12 "need" cX12_need 2 (some .int) 2 43 (x_m s0) x_aI 0 [some (x_v w t), some (.int a0)] [] s0 _
  rw [F_X12_need]
  refine x_aload_n dX12_need_0 x_vR rfl (pc2 := 1) rfl ?_
  refine x_getR xf_X12_62 (by decide) rfl dX12_need_1 (pc2 := 4) rfl (fun o1 => ?_)
  refine x_ifnonnull dX12_need_4 (pc1 := 7) (pc2 := 12) rfl rfl (fun _ => ?_) (fun _ => ?_)
  · refine x_bipush dX12_need_7 bp_40 (pc2 := 9) rfl ?_
    refine x_goto dX12_need_9 (pc2 := 42) rfl ?_
    exact x_iret dX12_need_42
  · refine x_aload_n dX12_need_12 x_vR rfl (pc2 := 13) rfl ?_
    refine x_getR xf_X12_62 (by decide) rfl dX12_need_13 (pc2 := 16) rfl (fun o2 => ?_)
    refine x_iconst dX12_need_16 ic_4 (pc2 := 17) rfl ?_
    refine x_iald dX12_need_17 (pc2 := 18) rfl (fun v3 => ?_)
    refine x_aload_n dX12_need_18 x_vR rfl (pc2 := 19) rfl ?_
    refine x_getR xf_X12_15 (by decide) rfl dX12_need_19 (pc2 := 22) rfl (fun o4 => ?_)
    refine x_iload_n dX12_need_22 rfl (pc2 := 23) rfl ?_
    refine x_aald dX12_need_23 (pc2 := 24) rfl (fun o5 => ?_)
    refine x_iconst dX12_need_24 ic_0 (pc2 := 25) rfl ?_
    refine x_iald dX12_need_25 (pc2 := 26) rfl (fun v6 => ?_)
    refine x_bipush dX12_need_26 bp_9 (pc2 := 28) rfl ?_
    refine x_idiv dX12_need_28 (pc2 := 29) rfl (fun v7 => ?_)
    refine x_iadd dX12_need_29 (pc2 := 30) rfl ?_
    refine x_aload_n dX12_need_30 x_vR rfl (pc2 := 31) rfl ?_
    refine x_getI xf_X12_47 (by decide) rfl dX12_need_31 (pc2 := 34) rfl (fun v8 => ?_)
    refine x_isub dX12_need_34 (pc2 := 35) rfl ?_
    refine x_iconst dX12_need_35 ic_0 (pc2 := 36) rfl ?_
    refine x_sipush dX12_need_36 sp_999 (pc2 := 39) rfl ?_
    refine x_callSNI (As := [.int ((v3 + v7) - v8), .int 0, .int 999]) (host := "MuleVoteLaw") C2_L_held xm_L_held (by decide +kernel) rfl rfl ⟨by decide, by decide⟩ (Nat.le_trans x_s0 (by decide)) dX12_need_39 (pc2 := 42) rfl (fun r10 s9 => ?_) hop
    exact x_iret dX12_need_42
set_option maxRecDepth 100000 in
set_option maxHeartbeats 4000000 in
def F_X12_behind_L4 (n : Nat) (x0 : Nat) (x1 : Int32) : Nat → Int32 → Int32 → x_U → Option (Int32 × x_U)
  | 0, _, _, _ => none
  | j + 1, x2, x3, s0 =>
    x_gi s0 x0 12 7 fun v1 =>
    if x3 < v1 then (
    x_gr s0 x0 12 12 fun o2 =>
    x_lr s0 o2 x3 fun o3 =>
    x_ld s0 o3 3 fun v4 =>
    if v4 = x1 then (
    x_nm (x2 ||| (1 <<< (x3 &&& 31))) fun v5 =>
    F_X12_behind_L4 n x0 x1 j v5 (x3 + 1) s0)
    else (
    F_X12_behind_L4 n x0 x1 j x2 (x3 + 1) s0))
    else (
    some (x2, s0))
set_option maxRecDepth 100000 in
set_option maxHeartbeats 4000000 in
def F_X12_behind (n : Nat) (t : Nat) (a0 : Int32) (s0 : x_U) : Option (Int32 × x_U) :=
  F_X12_behind_L4 n t a0  n 0 0 s0
set_option maxRecDepth 100000 in
set_option maxHeartbeats 4000000 in
theorem T_X12_behind_L4 {w : q_Wd} {cx : q_Cx} {M0 : Nat} (hop : w.2.2.2.2.2.1 = none) {n : Nat} {x0 : Nat} {x1 : Int32}   :
    ∀ (j : Nat) (x2 : Int32) (x3 : Int32) (s0 : x_U), x_G w cx RX12 "behind" cX12_behind 4 (some .int) 0 0 M0 x_aI 4 [some (x_v w x0), some (.int x1), some (.int x2), some (.int x3)] [] s0 (F_X12_behind_L4 n x0 x1 j x2 x3 s0) := by
  intro j
  induction j with
  | zero =>
    intro _ _ _
    rw [F_X12_behind_L4]
    exact x_none
  | succ j ih =>
    intro x2 x3 s0
    rw [F_X12_behind_L4]
    refine x_iload_n dX12_behind_4 rfl (pc2 := 5) rfl ?_
    refine x_aload_n dX12_behind_5 x_vR rfl (pc2 := 6) rfl ?_
    refine x_getI xf_X12_50 (by decide) rfl dX12_behind_6 (pc2 := 9) rfl (fun v1 => ?_)
    refine x_icmp_ge dX12_behind_9 (pc1 := 12) (pc2 := 36) rfl rfl (fun _ => ?_) (fun _ => ?_)
    · refine x_aload_n dX12_behind_12 x_vR rfl (pc2 := 13) rfl ?_
      refine x_getR xf_X12_15 (by decide) rfl dX12_behind_13 (pc2 := 16) rfl (fun o2 => ?_)
      refine x_iload_n dX12_behind_16 rfl (pc2 := 17) rfl ?_
      refine x_aald dX12_behind_17 (pc2 := 18) rfl (fun o3 => ?_)
      refine x_iconst dX12_behind_18 ic_3 (pc2 := 19) rfl ?_
      refine x_iald dX12_behind_19 (pc2 := 20) rfl (fun v4 => ?_)
      refine x_iload_n dX12_behind_20 rfl (pc2 := 21) rfl ?_
      refine x_icmp_ne dX12_behind_21 (pc1 := 24) (pc2 := 30) rfl rfl (fun _ => ?_) (fun _ => ?_)
      · refine x_iload_n dX12_behind_24 rfl (pc2 := 25) rfl ?_
        refine x_iconst dX12_behind_25 ic_1 (pc2 := 26) rfl ?_
        refine x_iload_n dX12_behind_26 rfl (pc2 := 27) rfl ?_
        refine x_ishl dX12_behind_27 (pc2 := 28) rfl ?_
        refine x_ior dX12_behind_28 (pc2 := 29) rfl ?_
        refine x_gnm (fun v5 => ?_)
        refine x_istore_n dX12_behind_29 (by decide) (L2 := [some (x_v w x0), some (.int x1), some (.int v5), some (.int x3)]) rfl (pc2 := 30) rfl ?_
        refine x_iinc dX12_behind_30 rfl (q_ii ic_1) (by decide) (L2 := [some (x_v w x0), some (.int x1), some (.int v5), some (.int (x3 + 1))]) rfl (pc2 := 33) rfl ?_
        refine x_goto dX12_behind_33 (pc2 := 4) rfl ?_
        exact ih _ _ _
      · refine x_iinc dX12_behind_30 rfl (q_ii ic_1) (by decide) (L2 := [some (x_v w x0), some (.int x1), some (.int x2), some (.int (x3 + 1))]) rfl (pc2 := 33) rfl ?_
        refine x_goto dX12_behind_33 (pc2 := 4) rfl ?_
        exact ih _ _ _
    · refine x_iload_n dX12_behind_36 rfl (pc2 := 37) rfl ?_
      exact x_iret dX12_behind_37
set_option maxRecDepth 100000 in
set_option maxHeartbeats 4000000 in
theorem C2_X12_behind {l : Launch} {w : q_Wd} {n : Nat} {t : Nat} {a0 : Int32} {s0 : x_U} : x_C l w yX12_behind cX12_behind 4 (some .int) 0 0 [x_v w t, .int a0] x_aI s0 (F_X12_behind n t a0 s0) := x_CofG [some (x_v w t), some (.int a0), none, none] (by decide +kernel) rfl (x_ca x_vcat (x_ca rfl x_c0)) (Nat.le_of_ble_eq_true rfl) fun hop cx hl => by
  subst hl
  show x_G w cx RX12 "behind" cX12_behind 4 (some .int) 0 0 (x_m s0) x_aI 0 [some (x_v w t), some (.int a0), none, none] [] s0 _
  rw [F_X12_behind]
  refine x_iconst dX12_behind_0 ic_0 (pc2 := 1) rfl ?_
  refine x_istore_n dX12_behind_1 (by decide) (L2 := [some (x_v w t), some (.int a0), some (.int 0), none]) rfl (pc2 := 2) rfl ?_
  refine x_iconst dX12_behind_2 ic_0 (pc2 := 3) rfl ?_
  refine x_istore_n dX12_behind_3 (by decide) (L2 := [some (x_v w t), some (.int a0), some (.int 0), some (.int 0)]) rfl (pc2 := 4) rfl ?_
  refine T_X12_behind_L4 hop  n _ _ _
set_option maxRecDepth 100000 in
set_option maxHeartbeats 4000000 in
def F_J6_bitCount_0f7a4 (n : Nat) (a0 : Int32) (s0 : x_U) : Option (Int32 × x_U) :=
  x_nm (a0 - ((q_ushr a0 1) &&& 1431655765)) fun v1 =>
  x_nm ((v1 &&& 858993459) + ((q_ushr v1 2) &&& 858993459)) fun v2 =>
  x_nm ((v2 + (q_ushr v2 4)) &&& 252645135) fun v3 =>
  x_nm (v3 + (q_ushr v3 8)) fun v4 =>
  x_nm (v4 + (q_ushr v4 16)) fun v5 =>
  some (v5 &&& 63, s0)
set_option maxRecDepth 100000 in
set_option maxHeartbeats 4000000 in
theorem C2_J6_bitCount_0f7a4 {l : Launch} {w : q_Wd} {n : Nat} {a0 : Int32} {s0 : x_U} : x_C l w yJ6_bitCount_0f7a4 cJ6_bitCount_0f7a4 1 (some .int) 0 0 [.int a0] x_aI s0 (F_J6_bitCount_0f7a4 n a0 s0) := x_CofG [some (.int a0)] (by decide +kernel) rfl (x_ca rfl x_c0) (Nat.le_of_ble_eq_true rfl) fun hop cx hl => by
  subst hl
  show x_G w cx RJ6 "bitCount" cJ6_bitCount_0f7a4 1 (some .int) 0 0 (x_m s0) x_aI 0 [some (.int a0)] [] s0 _
  rw [F_J6_bitCount_0f7a4]
  refine x_iload_n dJ6_bitCount_0f7a4_0 rfl (pc2 := 1) rfl ?_
  refine x_iload_n dJ6_bitCount_0f7a4_1 rfl (pc2 := 2) rfl ?_
  refine x_iconst dJ6_bitCount_0f7a4_2 ic_1 (pc2 := 3) rfl ?_
  refine x_iushr dJ6_bitCount_0f7a4_3 (pc2 := 4) rfl ?_
  refine x_ldcw dJ6_bitCount_0f7a4_4 cn_J6_265 (pc2 := 7) rfl ?_
  refine x_iand dJ6_bitCount_0f7a4_7 (pc2 := 8) rfl ?_
  refine x_isub dJ6_bitCount_0f7a4_8 (pc2 := 9) rfl ?_
  refine x_gnm (fun v1 => ?_)
  refine x_istore_n dJ6_bitCount_0f7a4_9 (by decide) (L2 := [some (.int v1)]) rfl (pc2 := 10) rfl ?_
  refine x_iload_n dJ6_bitCount_0f7a4_10 rfl (pc2 := 11) rfl ?_
  refine x_ldcw dJ6_bitCount_0f7a4_11 cn_J6_266 (pc2 := 14) rfl ?_
  refine x_iand dJ6_bitCount_0f7a4_14 (pc2 := 15) rfl ?_
  refine x_iload_n dJ6_bitCount_0f7a4_15 rfl (pc2 := 16) rfl ?_
  refine x_iconst dJ6_bitCount_0f7a4_16 ic_2 (pc2 := 17) rfl ?_
  refine x_iushr dJ6_bitCount_0f7a4_17 (pc2 := 18) rfl ?_
  refine x_ldcw dJ6_bitCount_0f7a4_18 cn_J6_266 (pc2 := 21) rfl ?_
  refine x_iand dJ6_bitCount_0f7a4_21 (pc2 := 22) rfl ?_
  refine x_iadd dJ6_bitCount_0f7a4_22 (pc2 := 23) rfl ?_
  refine x_gnm (fun v2 => ?_)
  refine x_istore_n dJ6_bitCount_0f7a4_23 (by decide) (L2 := [some (.int v2)]) rfl (pc2 := 24) rfl ?_
  refine x_iload_n dJ6_bitCount_0f7a4_24 rfl (pc2 := 25) rfl ?_
  refine x_iload_n dJ6_bitCount_0f7a4_25 rfl (pc2 := 26) rfl ?_
  refine x_iconst dJ6_bitCount_0f7a4_26 ic_4 (pc2 := 27) rfl ?_
  refine x_iushr dJ6_bitCount_0f7a4_27 (pc2 := 28) rfl ?_
  refine x_iadd dJ6_bitCount_0f7a4_28 (pc2 := 29) rfl ?_
  refine x_ldcw dJ6_bitCount_0f7a4_29 cn_J6_267 (pc2 := 32) rfl ?_
  refine x_iand dJ6_bitCount_0f7a4_32 (pc2 := 33) rfl ?_
  refine x_gnm (fun v3 => ?_)
  refine x_istore_n dJ6_bitCount_0f7a4_33 (by decide) (L2 := [some (.int v3)]) rfl (pc2 := 34) rfl ?_
  refine x_iload_n dJ6_bitCount_0f7a4_34 rfl (pc2 := 35) rfl ?_
  refine x_iload_n dJ6_bitCount_0f7a4_35 rfl (pc2 := 36) rfl ?_
  refine x_bipush dJ6_bitCount_0f7a4_36 bp_8 (pc2 := 38) rfl ?_
  refine x_iushr dJ6_bitCount_0f7a4_38 (pc2 := 39) rfl ?_
  refine x_iadd dJ6_bitCount_0f7a4_39 (pc2 := 40) rfl ?_
  refine x_gnm (fun v4 => ?_)
  refine x_istore_n dJ6_bitCount_0f7a4_40 (by decide) (L2 := [some (.int v4)]) rfl (pc2 := 41) rfl ?_
  refine x_iload_n dJ6_bitCount_0f7a4_41 rfl (pc2 := 42) rfl ?_
  refine x_iload_n dJ6_bitCount_0f7a4_42 rfl (pc2 := 43) rfl ?_
  refine x_bipush dJ6_bitCount_0f7a4_43 bp_16 (pc2 := 45) rfl ?_
  refine x_iushr dJ6_bitCount_0f7a4_45 (pc2 := 46) rfl ?_
  refine x_iadd dJ6_bitCount_0f7a4_46 (pc2 := 47) rfl ?_
  refine x_gnm (fun v5 => ?_)
  refine x_istore_n dJ6_bitCount_0f7a4_47 (by decide) (L2 := [some (.int v5)]) rfl (pc2 := 48) rfl ?_
  refine x_iload_n dJ6_bitCount_0f7a4_48 rfl (pc2 := 49) rfl ?_
  refine x_bipush dJ6_bitCount_0f7a4_49 bp_63 (pc2 := 51) rfl ?_
  refine x_iand dJ6_bitCount_0f7a4_51 (pc2 := 52) rfl ?_
  exact x_iret dJ6_bitCount_0f7a4_52
set_option maxRecDepth 100000 in
set_option maxHeartbeats 4000000 in
def F_X12_lean (n : Nat) (t : Nat) (a0 : Int32) (a1 : Int32) (s0 : x_U) : Option (Int32 × x_U) :=
  x_gr s0 t 12 12 fun o1 =>
  x_lr s0 o1 a0 fun o2 =>
  x_gr s0 t 12 17 fun o3 =>
  x_ld s0 o2 4 fun v4 =>
  x_o s0 t 12 <|
  x_call (F_X12_behind n t a1 s0) fun r6 s5 =>
  x_call (F_J6_bitCount_0f7a4 n (v4 &&& r6) s5) fun r9 s8 =>
  x_ld s8 o2 (5 + a1) fun v10 =>
  if o3 = 0 then (
  x_call (F_L_held n (v10 + (10 * r9)) 0 999 s8) fun r12 s11 =>
  some (r12, s11))
  else (
  x_ld s8 o2 1 fun v13 =>
  x_ld s8 o3 0 fun v14 =>
  x_nm (fun  (s15 : x_U) =>
    x_dv v10 2 fun v16 =>
    x_ld s15 o3 3 fun v17 =>
    x_call (F_L_held n (v16 + (r9 * v17)) 0 999 s15) fun r19 s18 =>
    some (r19, s18)) fun j121 =>
  if v13 ≤ v14 then (
  j121 s8)
  else (
  if r9 ≤ 1 then (
  x_gr s8 t 12 13 fun o20 =>
  x_lr s8 o20 a1 fun o21 =>
  x_ld s8 o21 1 fun v22 =>
  x_ld s8 o3 1 fun v23 =>
  if v22 = v23 then (
  j121 s8)
  else (
  x_gr s8 t 12 13 fun o24 =>
  x_lr s8 o24 a1 fun o25 =>
  x_ld s8 o25 2 fun v26 =>
  x_ld s8 o3 2 fun v27 =>
  x_gr s8 t 12 13 fun o28 =>
  x_lr s8 o28 a1 fun o29 =>
  x_ld s8 o29 1 fun v30 =>
  x_call (F_L_held n ((v10 + (v26 * v27)) - v30) 0 999 s8) fun r32 s31 =>
  some (r32, s31)))
  else (
  j121 s8)))
set_option maxRecDepth 100000 in
set_option maxHeartbeats 4000000 in
theorem C2_X12_lean {l : Launch} {w : q_Wd} {n : Nat} {t : Nat} {a0 : Int32} {a1 : Int32} {s0 : x_U} : x_C l w yX12_lean cX12_lean 7 (some .int) 2 43 [x_v w t, .int a0, .int a1] x_aI s0 (F_X12_lean n t a0 a1 s0) := x_CofG [some (x_v w t), some (.int a0), some (.int a1), none, none, none, none] (by decide +kernel) rfl (x_ca x_vcat (x_ca rfl (x_ca rfl x_c0))) (Nat.le_of_ble_eq_true rfl) fun hop cx hl => by
  subst hl
  show x_G w cx RX12 "lean" cX12_lean 7 (some .int) 2 43 (x_m s0) x_aI 0 [some (x_v w t), some (.int a0), some (.int a1), none, none, none, none] [] s0 _
  rw [F_X12_lean]
  refine x_aload_n dX12_lean_0 x_vR rfl (pc2 := 1) rfl ?_
  refine x_getR xf_X12_15 (by decide) rfl dX12_lean_1 (pc2 := 4) rfl (fun o1 => ?_)
  refine x_iload_n dX12_lean_4 rfl (pc2 := 5) rfl ?_
  refine x_aald dX12_lean_5 (pc2 := 6) rfl (fun o2 => ?_)
  refine x_astore_n x_vR dX12_lean_6 (by decide) (L2 := [some (x_v w t), some (.int a0), some (.int a1), some (x_v w o2), none, none, none]) rfl (pc2 := 7) rfl ?_
  refine x_aload_n dX12_lean_7 x_vR rfl (pc2 := 8) rfl ?_
  refine x_getR xf_X12_62 (by decide) rfl dX12_lean_8 (pc2 := 11) rfl (fun o3 => ?_)
  refine x_astore x_vR dX12_lean_11 (by decide) (L2 := [some (x_v w t), some (.int a0), some (.int a1), some (x_v w o2), some (x_v w o3), none, none]) rfl (pc2 := 13) rfl ?_
  refine x_aload_n dX12_lean_13 x_vR rfl (pc2 := 14) rfl ?_
  refine x_iconst dX12_lean_14 ic_4 (pc2 := 15) rfl ?_
  refine x_iald dX12_lean_15 (pc2 := 16) rfl (fun v4 => ?_)
  refine x_aload_n dX12_lean_16 x_vR rfl (pc2 := 17) rfl ?_
  refine x_iload_n dX12_lean_17 rfl (pc2 := 18) rfl ?_
  refine x_oo (ci := 12) (fun hk7 => ?_)
  refine x_callVI (As := [.int a1]) C2_X12_behind xm_X12_behind (fun h => by first | rfl | cases h) xl_X12_71 hk7 rfl rfl ⟨by decide, by decide⟩ (Nat.le_trans (x_sm rfl x_s0) (by decide)) dX12_lean_18 (pc2 := 21) rfl (fun r6 s5 => ?_) hop
  refine x_iand dX12_lean_21 (pc2 := 22) rfl ?_
  refine x_callSI (As := [.int (v4 &&& r6)]) C2_J6_bitCount_0f7a4 xm_J6_bitCount_0f7a4 xl_X12_75 rfl rfl ⟨by decide, by decide⟩ (Nat.le_trans x_s0 (by decide)) dX12_lean_22 (pc2 := 25) rfl (fun r9 s8 => ?_) hop
  refine x_istore dX12_lean_25 (by decide) (L2 := [some (x_v w t), some (.int a0), some (.int a1), some (x_v w o2), some (x_v w o3), some (.int r9), none]) rfl (pc2 := 27) rfl ?_
  refine x_aload_n dX12_lean_27 x_vR rfl (pc2 := 28) rfl ?_
  refine x_iconst dX12_lean_28 ic_5 (pc2 := 29) rfl ?_
  refine x_iload_n dX12_lean_29 rfl (pc2 := 30) rfl ?_
  refine x_iadd dX12_lean_30 (pc2 := 31) rfl ?_
  refine x_iald dX12_lean_31 (pc2 := 32) rfl (fun v10 => ?_)
  refine x_istore dX12_lean_32 (by decide) (L2 := [some (x_v w t), some (.int a0), some (.int a1), some (x_v w o2), some (x_v w o3), some (.int r9), some (.int v10)]) rfl (pc2 := 34) rfl ?_
  refine x_aload dX12_lean_34 x_vR rfl (pc2 := 36) rfl ?_
  refine x_ifnonnull dX12_lean_36 (pc1 := 39) (pc2 := 55) rfl rfl (fun _ => ?_) (fun _ => ?_)
  · refine x_iload dX12_lean_39 rfl (pc2 := 41) rfl ?_
    refine x_bipush dX12_lean_41 bp_10 (pc2 := 43) rfl ?_
    refine x_iload dX12_lean_43 rfl (pc2 := 45) rfl ?_
    refine x_imul dX12_lean_45 (pc2 := 46) rfl ?_
    refine x_iadd dX12_lean_46 (pc2 := 47) rfl ?_
    refine x_iconst dX12_lean_47 ic_0 (pc2 := 48) rfl ?_
    refine x_sipush dX12_lean_48 sp_999 (pc2 := 51) rfl ?_
    refine x_callSNI (As := [.int (v10 + (10 * r9)), .int 0, .int 999]) (host := "MuleVoteLaw") C2_L_held xm_L_held (by decide +kernel) rfl rfl ⟨by decide, by decide⟩ (Nat.le_trans x_s0 (by decide)) dX12_lean_51 (pc2 := 54) rfl (fun r12 s11 => ?_) hop
    exact x_iret dX12_lean_54
  · refine x_aload_n dX12_lean_55 x_vR rfl (pc2 := 56) rfl ?_
    refine x_iconst dX12_lean_56 ic_1 (pc2 := 57) rfl ?_
    refine x_iald dX12_lean_57 (pc2 := 58) rfl (fun v13 => ?_)
    refine x_aload dX12_lean_58 x_vR rfl (pc2 := 60) rfl ?_
    refine x_iconst dX12_lean_60 ic_0 (pc2 := 61) rfl ?_
    refine x_iald dX12_lean_61 (pc2 := 62) rfl (fun v14 => ?_)
    refine x_jn (P := fun j121 => ∀  (s15 : x_U), x_G w cx RX12 "lean" cX12_lean 7 (some .int) 2 43 (x_m s0) x_aI 121 [none, none, none, none, some (x_v w o3), some (.int r9), some (.int v10)] [] s15 (j121 s15)) (fun s15 => ?_) (fun j121 hj121 => ?_)
    · refine x_iload dX12_lean_121 rfl (pc2 := 123) rfl ?_
      refine x_iconst dX12_lean_123 ic_2 (pc2 := 124) rfl ?_
      refine x_idiv dX12_lean_124 (pc2 := 125) rfl (fun v16 => ?_)
      refine x_iload dX12_lean_125 rfl (pc2 := 127) rfl ?_
      refine x_aload dX12_lean_127 x_vR rfl (pc2 := 129) rfl ?_
      refine x_iconst dX12_lean_129 ic_3 (pc2 := 130) rfl ?_
      refine x_iald dX12_lean_130 (pc2 := 131) rfl (fun v17 => ?_)
      refine x_imul dX12_lean_131 (pc2 := 132) rfl ?_
      refine x_iadd dX12_lean_132 (pc2 := 133) rfl ?_
      refine x_iconst dX12_lean_133 ic_0 (pc2 := 134) rfl ?_
      refine x_sipush dX12_lean_134 sp_999 (pc2 := 137) rfl ?_
      refine x_callSNI (As := [.int (v16 + (r9 * v17)), .int 0, .int 999]) (host := "MuleVoteLaw") C2_L_held xm_L_held (by decide +kernel) rfl rfl ⟨by decide, by decide⟩ (Nat.le_trans x_s0 (by decide)) dX12_lean_137 (pc2 := 140) rfl (fun r19 s18 => ?_) hop
      exact x_iret dX12_lean_140
    · refine x_icmp_le dX12_lean_62 (pc1 := 121) (pc2 := 65) rfl rfl (fun _ => ?_) (fun _ => ?_)
      · refine x_Gmask [false, false, false, false, true, true, true] (L2 := [none, none, none, none, some (x_v w o3), some (.int r9), some (.int v10)]) rfl ?_
        exact hj121 _
      · refine x_iload dX12_lean_65 rfl (pc2 := 67) rfl ?_
        refine x_iconst dX12_lean_67 ic_1 (pc2 := 68) rfl ?_
        refine x_icmp_gt dX12_lean_68 (pc1 := 71) (pc2 := 121) rfl rfl (fun _ => ?_) (fun _ => ?_)
        · refine x_aload_n dX12_lean_71 x_vR rfl (pc2 := 72) rfl ?_
          refine x_getR xf_X12_19 (by decide) rfl dX12_lean_72 (pc2 := 75) rfl (fun o20 => ?_)
          refine x_iload_n dX12_lean_75 rfl (pc2 := 76) rfl ?_
          refine x_aald dX12_lean_76 (pc2 := 77) rfl (fun o21 => ?_)
          refine x_iconst dX12_lean_77 ic_1 (pc2 := 78) rfl ?_
          refine x_iald dX12_lean_78 (pc2 := 79) rfl (fun v22 => ?_)
          refine x_aload dX12_lean_79 x_vR rfl (pc2 := 81) rfl ?_
          refine x_iconst dX12_lean_81 ic_1 (pc2 := 82) rfl ?_
          refine x_iald dX12_lean_82 (pc2 := 83) rfl (fun v23 => ?_)
          refine x_icmp_eq dX12_lean_83 (pc1 := 121) (pc2 := 86) rfl rfl (fun _ => ?_) (fun _ => ?_)
          · refine x_Gmask [false, false, false, false, true, true, true] (L2 := [none, none, none, none, some (x_v w o3), some (.int r9), some (.int v10)]) rfl ?_
            exact hj121 _
          · refine x_iload dX12_lean_86 rfl (pc2 := 88) rfl ?_
            refine x_aload_n dX12_lean_88 x_vR rfl (pc2 := 89) rfl ?_
            refine x_getR xf_X12_19 (by decide) rfl dX12_lean_89 (pc2 := 92) rfl (fun o24 => ?_)
            refine x_iload_n dX12_lean_92 rfl (pc2 := 93) rfl ?_
            refine x_aald dX12_lean_93 (pc2 := 94) rfl (fun o25 => ?_)
            refine x_iconst dX12_lean_94 ic_2 (pc2 := 95) rfl ?_
            refine x_iald dX12_lean_95 (pc2 := 96) rfl (fun v26 => ?_)
            refine x_aload dX12_lean_96 x_vR rfl (pc2 := 98) rfl ?_
            refine x_iconst dX12_lean_98 ic_2 (pc2 := 99) rfl ?_
            refine x_iald dX12_lean_99 (pc2 := 100) rfl (fun v27 => ?_)
            refine x_imul dX12_lean_100 (pc2 := 101) rfl ?_
            refine x_iadd dX12_lean_101 (pc2 := 102) rfl ?_
            refine x_aload_n dX12_lean_102 x_vR rfl (pc2 := 103) rfl ?_
            refine x_getR xf_X12_19 (by decide) rfl dX12_lean_103 (pc2 := 106) rfl (fun o28 => ?_)
            refine x_iload_n dX12_lean_106 rfl (pc2 := 107) rfl ?_
            refine x_aald dX12_lean_107 (pc2 := 108) rfl (fun o29 => ?_)
            refine x_iconst dX12_lean_108 ic_1 (pc2 := 109) rfl ?_
            refine x_iald dX12_lean_109 (pc2 := 110) rfl (fun v30 => ?_)
            refine x_isub dX12_lean_110 (pc2 := 111) rfl ?_
            refine x_iconst dX12_lean_111 ic_0 (pc2 := 112) rfl ?_
            refine x_sipush dX12_lean_112 sp_999 (pc2 := 115) rfl ?_
            refine x_callSNI (As := [.int ((v10 + (v26 * v27)) - v30), .int 0, .int 999]) (host := "MuleVoteLaw") C2_L_held xm_L_held (by decide +kernel) rfl rfl ⟨by decide, by decide⟩ (Nat.le_trans x_s0 (by decide)) dX12_lean_115 (pc2 := 118) rfl (fun r32 s31 => ?_) hop
            refine x_goto dX12_lean_118 (pc2 := 140) rfl ?_
            exact x_iret dX12_lean_140
        · refine x_Gmask [false, false, false, false, true, true, true] (L2 := [none, none, none, none, some (x_v w o3), some (.int r9), some (.int v10)]) rfl ?_
          exact hj121 _
set_option maxRecDepth 100000 in
set_option maxHeartbeats 4000000 in
def F_X12_risk (n : Nat) (t : Nat) (a0 : Int32) (a1 : Int32) (a2 : Int32) (s0 : x_U) : Option (Int32 × x_U) :=
  x_gr s0 t 12 17 fun o1 =>
  if o1 = 0 then (
  x_gi s0 t 12 6 fun v2 =>
  x_call (F_L_held n (20 * v2) 0 1000 s0) fun r4 s3 =>
  some (r4, s3))
  else (
  x_ld s0 o1 5 fun v5 =>
  x_nm (fun  (s6 : x_U) =>
    x_gi s6 t 12 6 fun v7 =>
    x_gr s6 t 12 12 fun o8 =>
    x_lr s6 o8 a0 fun o9 =>
    x_ld s6 o9 1 fun v10 =>
    if a2 < 0 then (
    x_call (F_L_held n (((v7 * 60) + (v10 * 3)) - (0 * 9)) 0 1000 s6) fun r12 s11 =>
    some (r12, s11))
    else (
    x_gr s6 t 12 13 fun o13 =>
    x_lr s6 o13 a2 fun o14 =>
    x_ld s6 o14 1 fun v15 =>
    x_call (F_L_held n (((v7 * 60) + (v10 * 3)) - (v15 * 9)) 0 1000 s6) fun r17 s16 =>
    some (r17, s16))) fun j43 =>
  if a1 ≤ v5 then (
  x_ld s0 o1 6 fun v18 =>
  if a0 = v18 then (
  j43 s0)
  else (
  x_ld s0 o1 7 fun v19 =>
  if a2 < 0 then (
  x_call (F_L_held n ((a1 * v19) - 0) 0 1000 s0) fun r21 s20 =>
  some (r21, s20))
  else (
  x_gr s0 t 12 13 fun o22 =>
  x_lr s0 o22 a2 fun o23 =>
  x_ld s0 o23 2 fun v24 =>
  x_call (F_L_held n ((a1 * v19) - v24) 0 1000 s0) fun r26 s25 =>
  some (r26, s25))))
  else (
  j43 s0))
set_option maxRecDepth 100000 in
set_option maxHeartbeats 4000000 in
theorem C2_X12_risk {l : Launch} {w : q_Wd} {n : Nat} {t : Nat} {a0 : Int32} {a1 : Int32} {a2 : Int32} {s0 : x_U} : x_C l w yX12_risk cX12_risk 5 (some .int) 2 43 [x_v w t, .int a0, .int a1, .int a2] x_aI s0 (F_X12_risk n t a0 a1 a2 s0) := x_CofG [some (x_v w t), some (.int a0), some (.int a1), some (.int a2), none] (by decide +kernel) rfl (x_ca x_vcat (x_ca rfl (x_ca rfl (x_ca rfl x_c0)))) (Nat.le_of_ble_eq_true rfl) fun hop cx hl => by
  subst hl
  show x_G w cx RX12 "risk" cX12_risk 5 (some .int) 2 43 (x_m s0) x_aI 0 [some (x_v w t), some (.int a0), some (.int a1), some (.int a2), none] [] s0 _
  rw [F_X12_risk]
  refine x_aload_n dX12_risk_0 x_vR rfl (pc2 := 1) rfl ?_
  refine x_getR xf_X12_62 (by decide) rfl dX12_risk_1 (pc2 := 4) rfl (fun o1 => ?_)
  refine x_astore x_vR dX12_risk_4 (by decide) (L2 := [some (x_v w t), some (.int a0), some (.int a1), some (.int a2), some (x_v w o1)]) rfl (pc2 := 6) rfl ?_
  refine x_aload dX12_risk_6 x_vR rfl (pc2 := 8) rfl ?_
  refine x_ifnonnull dX12_risk_8 (pc1 := 11) (pc2 := 26) rfl rfl (fun _ => ?_) (fun _ => ?_)
  · refine x_bipush dX12_risk_11 bp_20 (pc2 := 13) rfl ?_
    refine x_aload_n dX12_risk_13 x_vR rfl (pc2 := 14) rfl ?_
    refine x_getI xf_X12_47 (by decide) rfl dX12_risk_14 (pc2 := 17) rfl (fun v2 => ?_)
    refine x_imul dX12_risk_17 (pc2 := 18) rfl ?_
    refine x_iconst dX12_risk_18 ic_0 (pc2 := 19) rfl ?_
    refine x_sipush dX12_risk_19 sp_1000 (pc2 := 22) rfl ?_
    refine x_callSNI (As := [.int (20 * v2), .int 0, .int 1000]) (host := "MuleVoteLaw") C2_L_held xm_L_held (by decide +kernel) rfl rfl ⟨by decide, by decide⟩ (Nat.le_trans x_s0 (by decide)) dX12_risk_22 (pc2 := 25) rfl (fun r4 s3 => ?_) hop
    exact x_iret dX12_risk_25
  · refine x_iload_n dX12_risk_26 rfl (pc2 := 27) rfl ?_
    refine x_aload dX12_risk_27 x_vR rfl (pc2 := 29) rfl ?_
    refine x_iconst dX12_risk_29 ic_5 (pc2 := 30) rfl ?_
    refine x_iald dX12_risk_30 (pc2 := 31) rfl (fun v5 => ?_)
    refine x_jn (P := fun j43 => ∀  (s6 : x_U), x_G w cx RX12 "risk" cX12_risk 5 (some .int) 2 43 (x_m s0) x_aI 43 [some (x_v w t), some (.int a0), none, some (.int a2), none] [] s6 (j43 s6)) (fun s6 => ?_) (fun j43 hj43 => ?_)
    · refine x_aload_n dX12_risk_43 x_vR rfl (pc2 := 44) rfl ?_
      refine x_getI xf_X12_47 (by decide) rfl dX12_risk_44 (pc2 := 47) rfl (fun v7 => ?_)
      refine x_bipush dX12_risk_47 bp_60 (pc2 := 49) rfl ?_
      refine x_imul dX12_risk_49 (pc2 := 50) rfl ?_
      refine x_aload_n dX12_risk_50 x_vR rfl (pc2 := 51) rfl ?_
      refine x_getR xf_X12_15 (by decide) rfl dX12_risk_51 (pc2 := 54) rfl (fun o8 => ?_)
      refine x_iload_n dX12_risk_54 rfl (pc2 := 55) rfl ?_
      refine x_aald dX12_risk_55 (pc2 := 56) rfl (fun o9 => ?_)
      refine x_iconst dX12_risk_56 ic_1 (pc2 := 57) rfl ?_
      refine x_iald dX12_risk_57 (pc2 := 58) rfl (fun v10 => ?_)
      refine x_iconst dX12_risk_58 ic_3 (pc2 := 59) rfl ?_
      refine x_imul dX12_risk_59 (pc2 := 60) rfl ?_
      refine x_iadd dX12_risk_60 (pc2 := 61) rfl ?_
      refine x_iload_n dX12_risk_61 rfl (pc2 := 62) rfl ?_
      refine x_if_ge dX12_risk_62 (pc1 := 65) (pc2 := 69) rfl rfl (fun _ => ?_) (fun _ => ?_)
      · refine x_iconst dX12_risk_65 ic_0 (pc2 := 66) rfl ?_
        refine x_goto dX12_risk_66 (pc2 := 77) rfl ?_
        refine x_bipush dX12_risk_77 bp_9 (pc2 := 79) rfl ?_
        refine x_imul dX12_risk_79 (pc2 := 80) rfl ?_
        refine x_isub dX12_risk_80 (pc2 := 81) rfl ?_
        refine x_iconst dX12_risk_81 ic_0 (pc2 := 82) rfl ?_
        refine x_sipush dX12_risk_82 sp_1000 (pc2 := 85) rfl ?_
        refine x_callSNI (As := [.int (((v7 * 60) + (v10 * 3)) - (0 * 9)), .int 0, .int 1000]) (host := "MuleVoteLaw") C2_L_held xm_L_held (by decide +kernel) rfl rfl ⟨by decide, by decide⟩ (Nat.le_trans x_s0 (by decide)) dX12_risk_85 (pc2 := 88) rfl (fun r12 s11 => ?_) hop
        refine x_goto dX12_risk_88 (pc2 := 122) rfl ?_
        exact x_iret dX12_risk_122
      · refine x_aload_n dX12_risk_69 x_vR rfl (pc2 := 70) rfl ?_
        refine x_getR xf_X12_19 (by decide) rfl dX12_risk_70 (pc2 := 73) rfl (fun o13 => ?_)
        refine x_iload_n dX12_risk_73 rfl (pc2 := 74) rfl ?_
        refine x_aald dX12_risk_74 (pc2 := 75) rfl (fun o14 => ?_)
        refine x_iconst dX12_risk_75 ic_1 (pc2 := 76) rfl ?_
        refine x_iald dX12_risk_76 (pc2 := 77) rfl (fun v15 => ?_)
        refine x_bipush dX12_risk_77 bp_9 (pc2 := 79) rfl ?_
        refine x_imul dX12_risk_79 (pc2 := 80) rfl ?_
        refine x_isub dX12_risk_80 (pc2 := 81) rfl ?_
        refine x_iconst dX12_risk_81 ic_0 (pc2 := 82) rfl ?_
        refine x_sipush dX12_risk_82 sp_1000 (pc2 := 85) rfl ?_
        refine x_callSNI (As := [.int (((v7 * 60) + (v10 * 3)) - (v15 * 9)), .int 0, .int 1000]) (host := "MuleVoteLaw") C2_L_held xm_L_held (by decide +kernel) rfl rfl ⟨by decide, by decide⟩ (Nat.le_trans x_s0 (by decide)) dX12_risk_85 (pc2 := 88) rfl (fun r17 s16 => ?_) hop
        refine x_goto dX12_risk_88 (pc2 := 122) rfl ?_
        exact x_iret dX12_risk_122
    · refine x_icmp_gt dX12_risk_31 (pc1 := 34) (pc2 := 43) rfl rfl (fun _ => ?_) (fun _ => ?_)
      · refine x_iload_n dX12_risk_34 rfl (pc2 := 35) rfl ?_
        refine x_aload dX12_risk_35 x_vR rfl (pc2 := 37) rfl ?_
        refine x_bipush dX12_risk_37 bp_6 (pc2 := 39) rfl ?_
        refine x_iald dX12_risk_39 (pc2 := 40) rfl (fun v18 => ?_)
        refine x_icmp_ne dX12_risk_40 (pc1 := 43) (pc2 := 91) rfl rfl (fun _ => ?_) (fun _ => ?_)
        · refine x_Gmask [true, true, false, true, false] (L2 := [some (x_v w t), some (.int a0), none, some (.int a2), none]) rfl ?_
          exact hj43 _
        · refine x_iload_n dX12_risk_91 rfl (pc2 := 92) rfl ?_
          refine x_aload dX12_risk_92 x_vR rfl (pc2 := 94) rfl ?_
          refine x_bipush dX12_risk_94 bp_7 (pc2 := 96) rfl ?_
          refine x_iald dX12_risk_96 (pc2 := 97) rfl (fun v19 => ?_)
          refine x_imul dX12_risk_97 (pc2 := 98) rfl ?_
          refine x_iload_n dX12_risk_98 rfl (pc2 := 99) rfl ?_
          refine x_if_ge dX12_risk_99 (pc1 := 102) (pc2 := 106) rfl rfl (fun _ => ?_) (fun _ => ?_)
          · refine x_iconst dX12_risk_102 ic_0 (pc2 := 103) rfl ?_
            refine x_goto dX12_risk_103 (pc2 := 114) rfl ?_
            refine x_isub dX12_risk_114 (pc2 := 115) rfl ?_
            refine x_iconst dX12_risk_115 ic_0 (pc2 := 116) rfl ?_
            refine x_sipush dX12_risk_116 sp_1000 (pc2 := 119) rfl ?_
            refine x_callSNI (As := [.int ((a1 * v19) - 0), .int 0, .int 1000]) (host := "MuleVoteLaw") C2_L_held xm_L_held (by decide +kernel) rfl rfl ⟨by decide, by decide⟩ (Nat.le_trans x_s0 (by decide)) dX12_risk_119 (pc2 := 122) rfl (fun r21 s20 => ?_) hop
            exact x_iret dX12_risk_122
          · refine x_aload_n dX12_risk_106 x_vR rfl (pc2 := 107) rfl ?_
            refine x_getR xf_X12_19 (by decide) rfl dX12_risk_107 (pc2 := 110) rfl (fun o22 => ?_)
            refine x_iload_n dX12_risk_110 rfl (pc2 := 111) rfl ?_
            refine x_aald dX12_risk_111 (pc2 := 112) rfl (fun o23 => ?_)
            refine x_iconst dX12_risk_112 ic_2 (pc2 := 113) rfl ?_
            refine x_iald dX12_risk_113 (pc2 := 114) rfl (fun v24 => ?_)
            refine x_isub dX12_risk_114 (pc2 := 115) rfl ?_
            refine x_iconst dX12_risk_115 ic_0 (pc2 := 116) rfl ?_
            refine x_sipush dX12_risk_116 sp_1000 (pc2 := 119) rfl ?_
            refine x_callSNI (As := [.int ((a1 * v19) - v24), .int 0, .int 1000]) (host := "MuleVoteLaw") C2_L_held xm_L_held (by decide +kernel) rfl rfl ⟨by decide, by decide⟩ (Nat.le_trans x_s0 (by decide)) dX12_risk_119 (pc2 := 122) rfl (fun r26 s25 => ?_) hop
            exact x_iret dX12_risk_122
      · refine x_Gmask [true, true, false, true, false] (L2 := [some (x_v w t), some (.int a0), none, some (.int a2), none]) rfl ?_
        exact hj43 _
