set_option maxRecDepth 100000 in
set_option maxHeartbeats 4000000 in
def f_X11_of (n : Nat) (t : Nat) (a0 : Int32) (a1 : Int32) (s0 : q_Sto) : Option (Int32 × q_Sto) :=
  q_call (f_X9_hasMule n (q_RF (q_RF t 0) 0) a0 s0) fun r2 s1 =>
  if r2 = 0 then (
  some ((-2), s1))
  else (
  if a1 ≤ 30 then (
  if a1 < 20 then (
  if a1 < 10 then (
  if a1 = 0 then (
  q_ld s1 (q_RF (q_RF (q_RF t 0) 0) 0) a0 12 fun v8 =>
  some (v8, s1))
  else
  if a1 = 1 then (
  q_ld s1 (q_RF (q_RF (q_RF t 0) 0) 1) a0 12 fun v10 =>
  some (v10, s1))
  else
  if a1 = 2 then (
  q_ld s1 (q_RF (q_RF (q_RF t 0) 0) 2) a0 12 fun v12 =>
  some (v12, s1))
  else
  if a1 = 3 then (
  q_ld s1 (q_RF (q_RF (q_RF t 0) 0) 3) a0 12 fun v14 =>
  some (v14, s1))
  else
  if a1 = 4 then (
  q_call (f_X10_heededBy n (q_RF t 0) a0 s1) fun r17 s16 =>
  some (r17, s16))
  else
  if a1 = 5 then (
  q_call (f_X10_needOf n (q_RF t 0) a0 s1) fun r20 s19 =>
  some (r20, s19))
  else
  (some ((-2), s1)))
  else (
  q_call (f_X9_hasMan n (q_RF (q_RF t 0) 0) (a1 - 10) s1) fun r22 s21 =>
  if r22 = 0 then (
  some ((-2), s21))
  else (
  q_call (f_X9_likingFor n (q_RF (q_RF t 0) 0) a0 (a1 - 10) s21) fun r25 s24 =>
  some (r25, s24))))
  else (
  q_call (f_X9_hasMan n (q_RF (q_RF t 0) 0) (a1 - 20) s1) fun r27 s26 =>
  if r27 = 0 then (
  some ((-2), s26))
  else (
  q_call (f_X10_leanNow n (q_RF t 0) a0 (a1 - 20) s26) fun r30 s29 =>
  some (r30, s29))))
  else (
  if a1 ≤ 54 then (
  q_call (f_X10_riskOf n (q_RF t 0) a0 (a1 - 30) (s1 (q_RF (q_RF t 0) 0) 13) s1) fun r33 s32 =>
  some (r33, s32))
  else (
  some ((-2), s1))))
set_option maxRecDepth 100000 in
set_option maxHeartbeats 4000000 in
theorem C_X11_of {l : Launch} {w : q_Wd} {n : Nat} {t : Nat} {a0 : Int32} {a1 : Int32} (ht : q_KD t = .inl 11) {s0 : q_Sto} : q_C l w yX11_of cX11_of 4 (some .int) (q_rm 4 101) [q_rf w t, .int a0, .int a1] s0 (f_X11_of n t a0 a1 s0) := q_CofG [some (q_rf w t), some (.int a0), some (.int a1), none] (by decide +kernel) rfl rfl (Nat.le_of_ble_eq_true rfl) fun cx hl hc => by
  have hc : q_ok w cx RX11 cX11_of 4 (some .int) (q_rm 4 101) := hc
  rw [f_X11_of]
  refine g_rl0 hc dX11_of_0 rfl (pc2 := 1) rfl ?_
  refine g_getR hc fl_X11_12 rfl ht dX11_of_1 (pc2 := 4) rfl ?_
  refine g_getR hc fl_X11_81 rfl (kf_11_0 ht) dX11_of_4 (pc2 := 7) rfl ?_
  refine g_rs3 hc dX11_of_7 (by decide) (L2 := [some (q_rf w t), some (.int a0), some (.int a1), some (q_rf w (q_RF (q_RF t 0) 0))]) rfl (pc2 := 8) rfl ?_
  refine g_rl3 hc dX11_of_8 rfl (pc2 := 9) rfl ?_
  refine g_il1 hc dX11_of_9 rfl (pc2 := 10) rfl ?_
  refine g_callV1 hc (C_X9_hasMule (kf_10_0 (kf_11_0 ht))) mv_X9_hasMule ln_X11_119 (kf_10_0 (kf_11_0 ht)) ⟨by decide, by decide⟩ (Nat.le_of_ble_eq_true rfl) dX11_of_10 (pc2 := 13) rfl (fun r2 s1 => ?_)
  refine g_if_ne hc dX11_of_13 (pc1 := 16) (pc2 := 19) rfl rfl (fun _ => ?_) (fun _ => ?_)
  · refine g_bipush hc dX11_of_16 bp_m2 (pc2 := 18) rfl ?_
    exact g_iret hc dX11_of_18
  · refine g_il2 hc dX11_of_19 rfl (pc2 := 20) rfl ?_
    refine g_bipush hc dX11_of_20 bp_30 (pc2 := 22) rfl ?_
    refine g_icmp_le hc dX11_of_22 (pc1 := 53) (pc2 := 25) rfl rfl (fun _ => ?_) (fun _ => ?_)
    · refine g_il2 hc dX11_of_53 rfl (pc2 := 54) rfl ?_
      refine g_bipush hc dX11_of_54 bp_20 (pc2 := 56) rfl ?_
      refine g_icmp_lt hc dX11_of_56 (pc1 := 88) (pc2 := 59) rfl rfl (fun _ => ?_) (fun _ => ?_)
      · refine g_il2 hc dX11_of_88 rfl (pc2 := 89) rfl ?_
        refine g_bipush hc dX11_of_89 bp_10 (pc2 := 91) rfl ?_
        refine g_icmp_lt hc dX11_of_91 (pc1 := 120) (pc2 := 94) rfl rfl (fun _ => ?_) (fun _ => ?_)
        · refine g_il2 hc dX11_of_120 rfl (pc2 := 121) rfl ?_
          refine g_swc (pc2 := 0) hc dX11_of_121 (c := 0) (by decide) (by decide) rfl (pc1 := 160) rfl (fun _ => ?_) (fun c7 => ?_)
          · refine g_rl3 hc dX11_of_160 rfl (pc2 := 161) rfl ?_
            refine g_getR hc fl_X11_251 rfl (kf_10_0 (kf_11_0 ht)) dX11_of_161 (pc2 := 164) rfl ?_
            refine g_il1 hc dX11_of_164 rfl (pc2 := 165) rfl ?_
            refine g_iald hc (kf_9_0 (kf_10_0 (kf_11_0 ht))) (kl_9_0 (kf_10_0 (kf_11_0 ht))) dX11_of_165 (pc2 := 166) rfl (fun v8 => ?_)
            exact g_iret hc dX11_of_166
          refine g_swc (pc2 := 0) hc dX11_of_121 (c := 1) (by decide) (by decide) rfl (pc1 := 167) rfl (fun _ => ?_) (fun c9 => ?_)
          · refine g_rl3 hc dX11_of_167 rfl (pc2 := 168) rfl ?_
            refine g_getR hc fl_X11_254 rfl (kf_10_0 (kf_11_0 ht)) dX11_of_168 (pc2 := 171) rfl ?_
            refine g_il1 hc dX11_of_171 rfl (pc2 := 172) rfl ?_
            refine g_iald hc (kf_9_1 (kf_10_0 (kf_11_0 ht))) (kl_9_1 (kf_10_0 (kf_11_0 ht))) dX11_of_172 (pc2 := 173) rfl (fun v10 => ?_)
            exact g_iret hc dX11_of_173
          refine g_swc (pc2 := 0) hc dX11_of_121 (c := 2) (by decide) (by decide) rfl (pc1 := 174) rfl (fun _ => ?_) (fun c11 => ?_)
          · refine g_rl3 hc dX11_of_174 rfl (pc2 := 175) rfl ?_
            refine g_getR hc fl_X11_122 rfl (kf_10_0 (kf_11_0 ht)) dX11_of_175 (pc2 := 178) rfl ?_
            refine g_il1 hc dX11_of_178 rfl (pc2 := 179) rfl ?_
            refine g_iald hc (kf_9_2 (kf_10_0 (kf_11_0 ht))) (kl_9_2 (kf_10_0 (kf_11_0 ht))) dX11_of_179 (pc2 := 180) rfl (fun v12 => ?_)
            exact g_iret hc dX11_of_180
          refine g_swc (pc2 := 0) hc dX11_of_121 (c := 3) (by decide) (by decide) rfl (pc1 := 181) rfl (fun _ => ?_) (fun c13 => ?_)
          · refine g_rl3 hc dX11_of_181 rfl (pc2 := 182) rfl ?_
            refine g_getR hc fl_X11_257 rfl (kf_10_0 (kf_11_0 ht)) dX11_of_182 (pc2 := 185) rfl ?_
            refine g_il1 hc dX11_of_185 rfl (pc2 := 186) rfl ?_
            refine g_iald hc (kf_9_3 (kf_10_0 (kf_11_0 ht))) (kl_9_3 (kf_10_0 (kf_11_0 ht))) dX11_of_186 (pc2 := 187) rfl (fun v14 => ?_)
            exact g_iret hc dX11_of_187
          refine g_swc (pc2 := 0) hc dX11_of_121 (c := 4) (by decide) (by decide) rfl (pc1 := 188) rfl (fun _ => ?_) (fun c15 => ?_)
          · refine g_rl0 hc dX11_of_188 rfl (pc2 := 189) rfl ?_
            refine g_getR hc fl_X11_12 rfl ht dX11_of_189 (pc2 := 192) rfl ?_
            refine g_il1 hc dX11_of_192 rfl (pc2 := 193) rfl ?_
            refine g_callV1 hc (C_X10_heededBy (kf_11_0 ht)) mv_X10_heededBy ln_X11_260 (kf_11_0 ht) ⟨by decide, by decide⟩ (Nat.le_of_ble_eq_true rfl) dX11_of_193 (pc2 := 196) rfl (fun r17 s16 => ?_)
            exact g_iret hc dX11_of_196
          refine g_swc (pc2 := 0) hc dX11_of_121 (c := 5) (by decide) (by decide) rfl (pc1 := 197) rfl (fun _ => ?_) (fun c18 => ?_)
          · refine g_rl0 hc dX11_of_197 rfl (pc2 := 198) rfl ?_
            refine g_getR hc fl_X11_12 rfl ht dX11_of_198 (pc2 := 201) rfl ?_
            refine g_il1 hc dX11_of_201 rfl (pc2 := 202) rfl ?_
            refine g_callV1 hc (C_X10_needOf (kf_11_0 ht)) mv_X10_needOf ln_X11_263 (kf_11_0 ht) ⟨by decide, by decide⟩ (Nat.le_of_ble_eq_true rfl) dX11_of_202 (pc2 := 205) rfl (fun r20 s19 => ?_)
            exact g_iret hc dX11_of_205
          refine g_swd (pc2 := 0) hc dX11_of_121 (fun i a b e => ?_) (pc1 := 206) rfl ?_
          · rcases (show i = 0 ∨ i = 1 ∨ i = 2 ∨ i = 3 ∨ i = 4 ∨ i = 5 by omega) with rfl | rfl | rfl | rfl | rfl | rfl
            · exact q_swx (c := 0) (by decide) c7 e
            · exact q_swx (c := 1) (by decide) c9 e
            · exact q_swx (c := 2) (by decide) c11 e
            · exact q_swx (c := 3) (by decide) c13 e
            · exact q_swx (c := 4) (by decide) c15 e
            · exact q_swx (c := 5) (by decide) c18 e
          · refine g_bipush hc dX11_of_206 bp_m2 (pc2 := 208) rfl ?_
            exact g_iret hc dX11_of_208
        · refine g_rl3 hc dX11_of_94 rfl (pc2 := 95) rfl ?_
          refine g_il2 hc dX11_of_95 rfl (pc2 := 96) rfl ?_
          refine g_bipush hc dX11_of_96 bp_10 (pc2 := 98) rfl ?_
          refine g_isub hc dX11_of_98 (pc2 := 99) rfl ?_
          refine g_callV1 hc (C_X9_hasMan (kf_10_0 (kf_11_0 ht))) mv_X9_hasMan ln_X11_126 (kf_10_0 (kf_11_0 ht)) ⟨by decide, by decide⟩ (Nat.le_of_ble_eq_true rfl) dX11_of_99 (pc2 := 102) rfl (fun r22 s21 => ?_)
          refine g_if_eq hc dX11_of_102 (pc1 := 117) (pc2 := 105) rfl rfl (fun _ => ?_) (fun _ => ?_)
          · refine g_bipush hc dX11_of_117 bp_m2 (pc2 := 119) rfl ?_
            exact g_iret hc dX11_of_119
          · refine g_rl3 hc dX11_of_105 rfl (pc2 := 106) rfl ?_
            refine g_il1 hc dX11_of_106 rfl (pc2 := 107) rfl ?_
            refine g_il2 hc dX11_of_107 rfl (pc2 := 108) rfl ?_
            refine g_bipush hc dX11_of_108 bp_10 (pc2 := 110) rfl ?_
            refine g_isub hc dX11_of_110 (pc2 := 111) rfl ?_
            refine g_callV2 hc (C_X9_likingFor (kf_10_0 (kf_11_0 ht))) mv_X9_likingFor ln_X11_248 (kf_10_0 (kf_11_0 ht)) ⟨by decide, by decide⟩ (Nat.le_of_ble_eq_true rfl) dX11_of_111 (pc2 := 114) rfl (fun r25 s24 => ?_)
            refine g_goto hc dX11_of_114 (pc2 := 119) rfl ?_
            exact g_iret hc dX11_of_119
      · refine g_rl3 hc dX11_of_59 rfl (pc2 := 60) rfl ?_
        refine g_il2 hc dX11_of_60 rfl (pc2 := 61) rfl ?_
        refine g_bipush hc dX11_of_61 bp_20 (pc2 := 63) rfl ?_
        refine g_isub hc dX11_of_63 (pc2 := 64) rfl ?_
        refine g_callV1 hc (C_X9_hasMan (kf_10_0 (kf_11_0 ht))) mv_X9_hasMan ln_X11_126 (kf_10_0 (kf_11_0 ht)) ⟨by decide, by decide⟩ (Nat.le_of_ble_eq_true rfl) dX11_of_64 (pc2 := 67) rfl (fun r27 s26 => ?_)
        refine g_if_eq hc dX11_of_67 (pc1 := 85) (pc2 := 70) rfl rfl (fun _ => ?_) (fun _ => ?_)
        · refine g_bipush hc dX11_of_85 bp_m2 (pc2 := 87) rfl ?_
          exact g_iret hc dX11_of_87
        · refine g_rl0 hc dX11_of_70 rfl (pc2 := 71) rfl ?_
          refine g_getR hc fl_X11_12 rfl ht dX11_of_71 (pc2 := 74) rfl ?_
          refine g_il1 hc dX11_of_74 rfl (pc2 := 75) rfl ?_
          refine g_il2 hc dX11_of_75 rfl (pc2 := 76) rfl ?_
          refine g_bipush hc dX11_of_76 bp_20 (pc2 := 78) rfl ?_
          refine g_isub hc dX11_of_78 (pc2 := 79) rfl ?_
          refine g_callV2 hc (C_X10_leanNow (kf_11_0 ht)) mv_X10_leanNow ln_X11_245 (kf_11_0 ht) ⟨by decide, by decide⟩ (Nat.le_of_ble_eq_true rfl) dX11_of_79 (pc2 := 82) rfl (fun r30 s29 => ?_)
          refine g_goto hc dX11_of_82 (pc2 := 87) rfl ?_
          exact g_iret hc dX11_of_87
    · refine g_il2 hc dX11_of_25 rfl (pc2 := 26) rfl ?_
      refine g_bipush hc dX11_of_26 bp_54 (pc2 := 28) rfl ?_
      refine g_icmp_gt hc dX11_of_28 (pc1 := 31) (pc2 := 50) rfl rfl (fun _ => ?_) (fun _ => ?_)
      · refine g_rl0 hc dX11_of_31 rfl (pc2 := 32) rfl ?_
        refine g_getR hc fl_X11_12 rfl ht dX11_of_32 (pc2 := 35) rfl ?_
        refine g_il1 hc dX11_of_35 rfl (pc2 := 36) rfl ?_
        refine g_il2 hc dX11_of_36 rfl (pc2 := 37) rfl ?_
        refine g_bipush hc dX11_of_37 bp_30 (pc2 := 39) rfl ?_
        refine g_isub hc dX11_of_39 (pc2 := 40) rfl ?_
        refine g_rl3 hc dX11_of_40 rfl (pc2 := 41) rfl ?_
        refine g_getI hc fl_X11_150 rfl (kf_10_0 (kf_11_0 ht)) dX11_of_41 (pc2 := 44) rfl ?_
        refine g_callV3 hc (C_X10_riskOf (kf_11_0 ht)) mv_X10_riskOf ln_X11_242 (kf_11_0 ht) ⟨by decide, by decide⟩ (Nat.le_of_ble_eq_true rfl) dX11_of_44 (pc2 := 47) rfl (fun r33 s32 => ?_)
        refine g_goto hc dX11_of_47 (pc2 := 52) rfl ?_
        exact g_iret hc dX11_of_52
      · refine g_bipush hc dX11_of_50 bp_m2 (pc2 := 52) rfl ?_
        exact g_iret hc dX11_of_52
set_option maxRecDepth 100000 in
set_option maxHeartbeats 4000000 in
def f_X11_manOf (n : Nat) (t : Nat) (a0 : Int32) (a1 : Int32) (s0 : q_Sto) : Option (Int32 × q_Sto) :=
  q_call (f_X9_hasMan n (q_RF (q_RF t 0) 0) a0 s0) fun r2 s1 =>
  if r2 = 0 then (
  some ((-1), s1))
  else (
  if a1 = 0 then (
  q_ld s1 (q_RF (q_RF (q_RF t 0) 0) 4) a0 5 fun v5 =>
  some (v5, s1))
  else
  if a1 = 1 then (
  q_ld s1 (q_RF (q_RF (q_RF t 0) 0) 5) a0 5 fun v7 =>
  some (v7, s1))
  else
  if a1 = 2 then (
  q_ld s1 (q_RF (q_RF (q_RF t 0) 0) 6) a0 5 fun v9 =>
  some (v9, s1))
  else
  if a1 = 3 then (
  q_call (f_X9_behindOf n (q_RF (q_RF t 0) 0) a0 s1) fun r12 s11 =>
  some (r12, s11))
  else
  (some ((-1), s1)))
set_option maxRecDepth 100000 in
set_option maxHeartbeats 4000000 in
theorem C_X11_manOf {l : Launch} {w : q_Wd} {n : Nat} {t : Nat} {a0 : Int32} {a1 : Int32} (ht : q_KD t = .inl 11) {s0 : q_Sto} : q_C l w yX11_manOf cX11_manOf 4 (some .int) (q_rm 1 23) [q_rf w t, .int a0, .int a1] s0 (f_X11_manOf n t a0 a1 s0) := q_CofG [some (q_rf w t), some (.int a0), some (.int a1), none] (by decide +kernel) rfl rfl (Nat.le_of_ble_eq_true rfl) fun cx hl hc => by
  have hc : q_ok w cx RX11 cX11_manOf 4 (some .int) (q_rm 1 23) := hc
  rw [f_X11_manOf]
  refine g_rl0 hc dX11_manOf_0 rfl (pc2 := 1) rfl ?_
  refine g_getR hc fl_X11_12 rfl ht dX11_manOf_1 (pc2 := 4) rfl ?_
  refine g_getR hc fl_X11_81 rfl (kf_11_0 ht) dX11_manOf_4 (pc2 := 7) rfl ?_
  refine g_rs3 hc dX11_manOf_7 (by decide) (L2 := [some (q_rf w t), some (.int a0), some (.int a1), some (q_rf w (q_RF (q_RF t 0) 0))]) rfl (pc2 := 8) rfl ?_
  refine g_rl3 hc dX11_manOf_8 rfl (pc2 := 9) rfl ?_
  refine g_il1 hc dX11_manOf_9 rfl (pc2 := 10) rfl ?_
  refine g_callV1 hc (C_X9_hasMan (kf_10_0 (kf_11_0 ht))) mv_X9_hasMan ln_X11_126 (kf_10_0 (kf_11_0 ht)) ⟨by decide, by decide⟩ (Nat.le_of_ble_eq_true rfl) dX11_manOf_10 (pc2 := 13) rfl (fun r2 s1 => ?_)
  refine g_if_ne hc dX11_manOf_13 (pc1 := 16) (pc2 := 18) rfl rfl (fun _ => ?_) (fun _ => ?_)
  · refine g_iconst hc dX11_manOf_16 ic_m1 (pc2 := 17) rfl ?_
    exact g_iret hc dX11_manOf_17
  · refine g_il2 hc dX11_manOf_18 rfl (pc2 := 19) rfl ?_
    refine g_swc (pc2 := 0) hc dX11_manOf_19 (c := 0) (by decide) (by decide) rfl (pc1 := 48) rfl (fun _ => ?_) (fun c4 => ?_)
    · refine g_rl3 hc dX11_manOf_48 rfl (pc2 := 49) rfl ?_
      refine g_getR hc fl_X11_129 rfl (kf_10_0 (kf_11_0 ht)) dX11_manOf_49 (pc2 := 52) rfl ?_
      refine g_il1 hc dX11_manOf_52 rfl (pc2 := 53) rfl ?_
      refine g_iald hc (kf_9_4 (kf_10_0 (kf_11_0 ht))) (kl_9_4 (kf_10_0 (kf_11_0 ht))) dX11_manOf_53 (pc2 := 54) rfl (fun v5 => ?_)
      exact g_iret hc dX11_manOf_54
    refine g_swc (pc2 := 0) hc dX11_manOf_19 (c := 1) (by decide) (by decide) rfl (pc1 := 55) rfl (fun _ => ?_) (fun c6 => ?_)
    · refine g_rl3 hc dX11_manOf_55 rfl (pc2 := 56) rfl ?_
      refine g_getR hc fl_X11_132 rfl (kf_10_0 (kf_11_0 ht)) dX11_manOf_56 (pc2 := 59) rfl ?_
      refine g_il1 hc dX11_manOf_59 rfl (pc2 := 60) rfl ?_
      refine g_iald hc (kf_9_5 (kf_10_0 (kf_11_0 ht))) (kl_9_5 (kf_10_0 (kf_11_0 ht))) dX11_manOf_60 (pc2 := 61) rfl (fun v7 => ?_)
      exact g_iret hc dX11_manOf_61
    refine g_swc (pc2 := 0) hc dX11_manOf_19 (c := 2) (by decide) (by decide) rfl (pc1 := 62) rfl (fun _ => ?_) (fun c8 => ?_)
    · refine g_rl3 hc dX11_manOf_62 rfl (pc2 := 63) rfl ?_
      refine g_getR hc fl_X11_135 rfl (kf_10_0 (kf_11_0 ht)) dX11_manOf_63 (pc2 := 66) rfl ?_
      refine g_il1 hc dX11_manOf_66 rfl (pc2 := 67) rfl ?_
      refine g_iald hc (kf_9_6 (kf_10_0 (kf_11_0 ht))) (kl_9_6 (kf_10_0 (kf_11_0 ht))) dX11_manOf_67 (pc2 := 68) rfl (fun v9 => ?_)
      exact g_iret hc dX11_manOf_68
    refine g_swc (pc2 := 0) hc dX11_manOf_19 (c := 3) (by decide) (by decide) rfl (pc1 := 69) rfl (fun _ => ?_) (fun c10 => ?_)
    · refine g_rl3 hc dX11_manOf_69 rfl (pc2 := 70) rfl ?_
      refine g_il1 hc dX11_manOf_70 rfl (pc2 := 71) rfl ?_
      refine g_callV1 hc (C_X9_behindOf (kf_10_0 (kf_11_0 ht))) mv_X9_behindOf ln_X11_266 (kf_10_0 (kf_11_0 ht)) ⟨by decide, by decide⟩ (Nat.le_of_ble_eq_true rfl) dX11_manOf_71 (pc2 := 74) rfl (fun r12 s11 => ?_)
      exact g_iret hc dX11_manOf_74
    refine g_swd (pc2 := 0) hc dX11_manOf_19 (fun i a b e => ?_) (pc1 := 75) rfl ?_
    · rcases (show i = 0 ∨ i = 1 ∨ i = 2 ∨ i = 3 by omega) with rfl | rfl | rfl | rfl
      · exact q_swx (c := 0) (by decide) c4 e
      · exact q_swx (c := 1) (by decide) c6 e
      · exact q_swx (c := 2) (by decide) c8 e
      · exact q_swx (c := 3) (by decide) c10 e
    · refine g_iconst hc dX11_manOf_75 ic_m1 (pc2 := 76) rfl ?_
      exact g_iret hc dX11_manOf_76
set_option maxRecDepth 100000 in
set_option maxHeartbeats 4000000 in
def f_X11_path (n : Nat) (t : Nat) (a0 : Int32) (a1 : Int32) (s0 : q_Sto) : Option (Int32 × q_Sto) :=
  q_call (f_X10_hoursBetween n (q_RF t 0) a0 a1 s0) fun r2 s1 =>
  some (r2, s1)
set_option maxRecDepth 100000 in
set_option maxHeartbeats 4000000 in
theorem C_X11_path {l : Launch} {w : q_Wd} {n : Nat} {t : Nat} {a0 : Int32} {a1 : Int32} (ht : q_KD t = .inl 11) {s0 : q_Sto} : q_C l w yX11_path cX11_path 3 (some .int) (q_rm 2 45) [q_rf w t, .int a0, .int a1] s0 (f_X11_path n t a0 a1 s0) := q_CofG [some (q_rf w t), some (.int a0), some (.int a1)] (by decide +kernel) rfl rfl (Nat.le_of_ble_eq_true rfl) fun cx hl hc => by
  have hc : q_ok w cx RX11 cX11_path 3 (some .int) (q_rm 2 45) := hc
  rw [f_X11_path]
  refine g_rl0 hc dX11_path_0 rfl (pc2 := 1) rfl ?_
  refine g_getR hc fl_X11_12 rfl ht dX11_path_1 (pc2 := 4) rfl ?_
  refine g_il1 hc dX11_path_4 rfl (pc2 := 5) rfl ?_
  refine g_il2 hc dX11_path_5 rfl (pc2 := 6) rfl ?_
  refine g_callV2 hc (C_X10_hoursBetween (kf_11_0 ht)) mv_X10_hoursBetween ln_X11_269 (kf_11_0 ht) ⟨by decide, by decide⟩ (Nat.le_of_ble_eq_true rfl) dX11_path_6 (pc2 := 9) rfl (fun r2 s1 => ?_)
  exact g_iret hc dX11_path_9
set_option maxRecDepth 100000 in
set_option maxHeartbeats 4000000 in
def f_X11_book (n : Nat) (t : Nat) (a0 : Int32) (a1 : Int32) (s0 : q_Sto) : Option (Int32 × q_Sto) :=
  if a0 < 0 then (
  some ((-2), s0))
  else (
  if a0 < (s0 (q_RF (q_RF t 0) 0) 17) then (
  q_call (f_X11_isWithin n a1 0 3 s0) fun r4 s3 =>
  if r4 = 0 then (
  some ((-2), s3))
  else (
  q_call (f_X10_read n (q_RF t 0) a0 a1 s3) fun r7 s6 =>
  some (r7, s6)))
  else (
  some ((-2), s0)))
set_option maxRecDepth 100000 in
set_option maxHeartbeats 4000000 in
theorem C_X11_book {l : Launch} {w : q_Wd} {n : Nat} {t : Nat} {a0 : Int32} {a1 : Int32} (ht : q_KD t = .inl 11) {s0 : q_Sto} : q_C l w yX11_book cX11_book 3 (some .int) (q_rm 1 22) [q_rf w t, .int a0, .int a1] s0 (f_X11_book n t a0 a1 s0) := q_CofG [some (q_rf w t), some (.int a0), some (.int a1)] (by decide +kernel) rfl rfl (Nat.le_of_ble_eq_true rfl) fun cx hl hc => by
  have hc : q_ok w cx RX11 cX11_book 3 (some .int) (q_rm 1 22) := hc
  rw [f_X11_book]
  refine g_il1 hc dX11_book_0 rfl (pc2 := 1) rfl ?_
  refine g_if_lt hc dX11_book_1 (pc1 := 27) (pc2 := 4) rfl rfl (fun _ => ?_) (fun _ => ?_)
  · refine g_bipush hc dX11_book_27 bp_m2 (pc2 := 29) rfl ?_
    exact g_iret hc dX11_book_29
  · refine g_il1 hc dX11_book_4 rfl (pc2 := 5) rfl ?_
    refine g_rl0 hc dX11_book_5 rfl (pc2 := 6) rfl ?_
    refine g_getR hc fl_X11_12 rfl ht dX11_book_6 (pc2 := 9) rfl ?_
    refine g_getR hc fl_X11_81 rfl (kf_11_0 ht) dX11_book_9 (pc2 := 12) rfl ?_
    refine g_getI hc fl_X11_272 rfl (kf_10_0 (kf_11_0 ht)) dX11_book_12 (pc2 := 15) rfl ?_
    refine g_icmp_ge hc dX11_book_15 (pc1 := 18) (pc2 := 27) rfl rfl (fun _ => ?_) (fun _ => ?_)
    · refine g_il2 hc dX11_book_18 rfl (pc2 := 19) rfl ?_
      refine g_iconst hc dX11_book_19 ic_0 (pc2 := 20) rfl ?_
      refine g_iconst hc dX11_book_20 ic_3 (pc2 := 21) rfl ?_
      refine g_callS3 hc C_X11_isWithin mv_X11_isWithin ln_X11_91 ⟨by decide, by decide⟩ (Nat.le_of_ble_eq_true rfl) dX11_book_21 (pc2 := 24) rfl (fun r4 s3 => ?_)
      refine g_if_ne hc dX11_book_24 (pc1 := 27) (pc2 := 30) rfl rfl (fun _ => ?_) (fun _ => ?_)
      · refine g_bipush hc dX11_book_27 bp_m2 (pc2 := 29) rfl ?_
        exact g_iret hc dX11_book_29
      · refine g_rl0 hc dX11_book_30 rfl (pc2 := 31) rfl ?_
        refine g_getR hc fl_X11_12 rfl ht dX11_book_31 (pc2 := 34) rfl ?_
        refine g_il1 hc dX11_book_34 rfl (pc2 := 35) rfl ?_
        refine g_il2 hc dX11_book_35 rfl (pc2 := 36) rfl ?_
        refine g_callV2 hc (C_X10_read (kf_11_0 ht)) mv_X10_read ln_X11_275 (kf_11_0 ht) ⟨by decide, by decide⟩ (Nat.le_of_ble_eq_true rfl) dX11_book_36 (pc2 := 39) rfl (fun r7 s6 => ?_)
        exact g_iret hc dX11_book_39
    · refine g_bipush hc dX11_book_27 bp_m2 (pc2 := 29) rfl ?_
      exact g_iret hc dX11_book_29
set_option maxRecDepth 100000 in
set_option maxHeartbeats 4000000 in
def f_X11_stands (n : Nat) (t : Nat) (a0 : Int32) (s0 : q_Sto) : Option (Int32 × q_Sto) :=
  q_call (f_X9_hasMule n (q_RF (q_RF t 0) 0) a0 s0) fun r2 s1 =>
  if r2 = 0 then (
  some ((-2), s1))
  else (
  q_callv (f_X0_standNow n (q_RF t 5) (q_RF t 0) s1) fun s4 =>
  q_call (f_X0_choiceOf n (q_RF t 5) a0 s4) fun r7 s6 =>
  some (r7, s6))
set_option maxRecDepth 100000 in
set_option maxHeartbeats 4000000 in
theorem C_X11_stands {l : Launch} {w : q_Wd} {n : Nat} {t : Nat} {a0 : Int32} (ht : q_KD t = .inl 11) {s0 : q_Sto} : q_C l w yX11_stands cX11_stands 2 (some .int) (q_rm 4 105) [q_rf w t, .int a0] s0 (f_X11_stands n t a0 s0) := q_CofG [some (q_rf w t), some (.int a0)] (by decide +kernel) rfl rfl (Nat.le_of_ble_eq_true rfl) fun cx hl hc => by
  have hc : q_ok w cx RX11 cX11_stands 2 (some .int) (q_rm 4 105) := hc
  rw [f_X11_stands]
  refine g_rl0 hc dX11_stands_0 rfl (pc2 := 1) rfl ?_
  refine g_getR hc fl_X11_12 rfl ht dX11_stands_1 (pc2 := 4) rfl ?_
  refine g_getR hc fl_X11_81 rfl (kf_11_0 ht) dX11_stands_4 (pc2 := 7) rfl ?_
  refine g_il1 hc dX11_stands_7 rfl (pc2 := 8) rfl ?_
  refine g_callV1 hc (C_X9_hasMule (kf_10_0 (kf_11_0 ht))) mv_X9_hasMule ln_X11_119 (kf_10_0 (kf_11_0 ht)) ⟨by decide, by decide⟩ (Nat.le_of_ble_eq_true rfl) dX11_stands_8 (pc2 := 11) rfl (fun r2 s1 => ?_)
  refine g_if_ne hc dX11_stands_11 (pc1 := 14) (pc2 := 17) rfl rfl (fun _ => ?_) (fun _ => ?_)
  · refine g_bipush hc dX11_stands_14 bp_m2 (pc2 := 16) rfl ?_
    exact g_iret hc dX11_stands_16
  · refine g_rl0 hc dX11_stands_17 rfl (pc2 := 18) rfl ?_
    refine g_getR hc fl_X11_40 rfl ht dX11_stands_18 (pc2 := 21) rfl ?_
    refine g_rl0 hc dX11_stands_21 rfl (pc2 := 22) rfl ?_
    refine g_getR hc fl_X11_12 rfl ht dX11_stands_22 (pc2 := 25) rfl ?_
    refine g_callV1v hc (C_X0_standNow (kf_11_5 ht) (kf_11_0 ht)) mv_X0_standNow ln_X11_277 (kf_11_5 ht) ⟨by decide, by decide⟩ (Nat.le_of_ble_eq_true rfl) dX11_stands_25 (pc2 := 28) rfl (fun s4 => ?_)
    refine g_rl0 hc dX11_stands_28 rfl (pc2 := 29) rfl ?_
    refine g_getR hc fl_X11_40 rfl ht dX11_stands_29 (pc2 := 32) rfl ?_
    refine g_il1 hc dX11_stands_32 rfl (pc2 := 33) rfl ?_
    refine g_callV1 hc (C_X0_choiceOf (kf_11_5 ht)) mv_X0_choiceOf ln_X11_281 (kf_11_5 ht) ⟨by decide, by decide⟩ (Nat.le_of_ble_eq_true rfl) dX11_stands_33 (pc2 := 36) rfl (fun r7 s6 => ?_)
    exact g_iret hc dX11_stands_36
set_option maxRecDepth 100000 in
set_option maxHeartbeats 4000000 in
def f_X11_settles (n : Nat) (t : Nat) (a0 : Int32) (s0 : q_Sto) : Option (Int32 × q_Sto) :=
  q_call (f_X11_isWithin n a0 0 1 s0) fun r2 s1 =>
  if r2 = 0 then (
  some ((-2), s1))
  else (
  q_callv (f_X0_standNow n (q_RF t 5) (q_RF t 0) s1) fun s4 =>
  if a0 = 0 then (
  some ((s4 (q_RF t 5) 7), s4))
  else (
  some ((s4 (q_RF t 5) 8), s4)))
set_option maxRecDepth 100000 in
set_option maxHeartbeats 4000000 in
theorem C_X11_settles {l : Launch} {w : q_Wd} {n : Nat} {t : Nat} {a0 : Int32} (ht : q_KD t = .inl 11) {s0 : q_Sto} : q_C l w yX11_settles cX11_settles 2 (some .int) (q_rm 4 105) [q_rf w t, .int a0] s0 (f_X11_settles n t a0 s0) := q_CofG [some (q_rf w t), some (.int a0)] (by decide +kernel) rfl rfl (Nat.le_of_ble_eq_true rfl) fun cx hl hc => by
  have hc : q_ok w cx RX11 cX11_settles 2 (some .int) (q_rm 4 105) := hc
  rw [f_X11_settles]
  refine g_il1 hc dX11_settles_0 rfl (pc2 := 1) rfl ?_
  refine g_iconst hc dX11_settles_1 ic_0 (pc2 := 2) rfl ?_
  refine g_iconst hc dX11_settles_2 ic_1 (pc2 := 3) rfl ?_
  refine g_callS3 hc C_X11_isWithin mv_X11_isWithin ln_X11_91 ⟨by decide, by decide⟩ (Nat.le_of_ble_eq_true rfl) dX11_settles_3 (pc2 := 6) rfl (fun r2 s1 => ?_)
  refine g_if_ne hc dX11_settles_6 (pc1 := 9) (pc2 := 12) rfl rfl (fun _ => ?_) (fun _ => ?_)
  · refine g_bipush hc dX11_settles_9 bp_m2 (pc2 := 11) rfl ?_
    exact g_iret hc dX11_settles_11
  · refine g_rl0 hc dX11_settles_12 rfl (pc2 := 13) rfl ?_
    refine g_getR hc fl_X11_40 rfl ht dX11_settles_13 (pc2 := 16) rfl ?_
    refine g_rl0 hc dX11_settles_16 rfl (pc2 := 17) rfl ?_
    refine g_getR hc fl_X11_12 rfl ht dX11_settles_17 (pc2 := 20) rfl ?_
    refine g_callV1v hc (C_X0_standNow (kf_11_5 ht) (kf_11_0 ht)) mv_X0_standNow ln_X11_277 (kf_11_5 ht) ⟨by decide, by decide⟩ (Nat.le_of_ble_eq_true rfl) dX11_settles_20 (pc2 := 23) rfl (fun s4 => ?_)
    refine g_il1 hc dX11_settles_23 rfl (pc2 := 24) rfl ?_
    refine g_if_ne hc dX11_settles_24 (pc1 := 27) (pc2 := 37) rfl rfl (fun _ => ?_) (fun _ => ?_)
    · refine g_rl0 hc dX11_settles_27 rfl (pc2 := 28) rfl ?_
      refine g_getR hc fl_X11_40 rfl ht dX11_settles_28 (pc2 := 31) rfl ?_
      refine g_getI hc fl_X11_284 rfl (kf_11_5 ht) dX11_settles_31 (pc2 := 34) rfl ?_
      refine g_goto hc dX11_settles_34 (pc2 := 44) rfl ?_
      exact g_iret hc dX11_settles_44
    · refine g_rl0 hc dX11_settles_37 rfl (pc2 := 38) rfl ?_
      refine g_getR hc fl_X11_40 rfl ht dX11_settles_38 (pc2 := 41) rfl ?_
      refine g_getI hc fl_X11_287 rfl (kf_11_5 ht) dX11_settles_41 (pc2 := 44) rfl ?_
      exact g_iret hc dX11_settles_44
set_option maxRecDepth 100000 in
set_option maxHeartbeats 4000000 in
def f_X11_goes_L41 (n : Nat) (x0 : Nat) (x1 : Int32) (x2 : Int32) (x3 : Nat) (k66 : q_Sto → Option (Int32 × q_Sto)) : Nat → Int32 → q_Sto → Option (Int32 × q_Sto)
  | 0, _, _ => none
  | j + 1, x4, s0 =>
    if x4 < x1 then (
    q_call (f_X10_passDay n (q_RF x0 0) (q_RF x0 5) 0 s0) fun r11 s10 =>
    f_X11_goes_L41 n x0 x1 x2 x3 k66 j (x4 + 1) s10)
    else (
    k66 s0)
set_option maxRecDepth 100000 in
set_option maxHeartbeats 4000000 in
def f_X11_goes (n : Nat) (t : Nat) (a0 : Int32) (a1 : Int32) (s0 : q_Sto) : Option (Int32 × q_Sto) :=
  q_call (f_X11_isWithin n a0 1 60 s0) fun r2 s1 =>
  if r2 = 0 then (
  some ((-2), s1))
  else (
  q_call (f_X11_isWithin n a1 0 3 s1) fun r5 s4 =>
  if r5 = 0 then (
  some ((-2), s4))
  else (
  q_callv (f_X9_copyFrom n (q_RF t 4) (q_RF (q_RF t 0) 0) s4) fun s7 =>
  f_X11_goes_L41 n t a0 a1 (q_RF (q_RF t 0) 0) (fun  (s12 : q_Sto) =>
  if a1 = 0 then (
  q_nm (s12 (q_RF (q_RF t 0) 0) 13) fun v14 =>
  q_callv (f_X9_copyFrom n (q_RF (q_RF t 0) 0) (q_RF t 4) s12) fun s15 =>
  some (v14, s15))
  else (
  if a1 = 1 then (
  q_nm (s12 (q_RF (q_RF t 0) 0) 12) fun v18 =>
  q_callv (f_X9_copyFrom n (q_RF (q_RF t 0) 0) (q_RF t 4) s12) fun s19 =>
  some (v18, s19))
  else (
  if a1 = 2 then (
  q_nm (s12 (q_RF (q_RF t 0) 0) 15) fun v22 =>
  q_callv (f_X9_copyFrom n (q_RF (q_RF t 0) 0) (q_RF t 4) s12) fun s23 =>
  some (v22, s23))
  else (
  q_nm (s12 (q_RF (q_RF t 0) 0) 14) fun v25 =>
  q_callv (f_X9_copyFrom n (q_RF (q_RF t 0) 0) (q_RF t 4) s12) fun s26 =>
  some (v25, s26))))) n 0 s7))
set_option maxRecDepth 100000 in
set_option maxHeartbeats 4000000 in
theorem t_X11_goes_L41 {w : q_Wd} {cx : q_Cx} (hc : q_ok w cx RX11 cX11_goes 5 (some .int) (q_rm 7 178)) {n : Nat} {x0 : Nat} {x1 : Int32} {x2 : Int32} {x3 : Nat} (hx0 : q_KD x0 = .inl 11) (hx3 : q_KD x3 = .inl 9) {k66 : q_Sto → Option (Int32 × q_Sto)} (hk66 : ∀  (s1 : q_Sto), q_G w cx 5 (some .int) 66 [some (q_rf w x0), none, some (.int x2), some (q_rf w x3), none] [] s1 (k66 s1)) :
    ∀ (j : Nat) (x4 : Int32) (s0 : q_Sto), q_G w cx 5 (some .int) 41 [some (q_rf w x0), some (.int x1), some (.int x2), some (q_rf w x3), some (.int x4)] [] s0 (f_X11_goes_L41 n x0 x1 x2 x3 k66 j x4 s0) := by
  intro j
  induction j with
  | zero =>
    intro _ _
    rw [f_X11_goes_L41]
    exact q_none
  | succ j ih =>
    intro x4 s0
    rw [f_X11_goes_L41]
    refine g_iload hc dX11_goes_41 rfl (pc2 := 43) rfl ?_
    refine g_il1 hc dX11_goes_43 rfl (pc2 := 44) rfl ?_
    refine g_icmp_ge hc dX11_goes_44 (pc1 := 47) (pc2 := 66) rfl rfl (fun _ => ?_) (fun _ => ?_)
    · refine g_rl0 hc dX11_goes_47 rfl (pc2 := 48) rfl ?_
      refine g_getR hc fl_X11_12 rfl hx0 dX11_goes_48 (pc2 := 51) rfl ?_
      refine g_rl0 hc dX11_goes_51 rfl (pc2 := 52) rfl ?_
      refine g_getR hc fl_X11_40 rfl hx0 dX11_goes_52 (pc2 := 55) rfl ?_
      refine g_iconst hc dX11_goes_55 ic_0 (pc2 := 56) rfl ?_
      refine g_callV2 hc (C_X10_passDay (kf_11_0 hx0) (kf_11_5 hx0)) mv_X10_passDay ln_X11_174 (kf_11_0 hx0) ⟨by decide, by decide⟩ (Nat.le_of_ble_eq_true rfl) dX11_goes_56 (pc2 := 59) rfl (fun r11 s10 => ?_)
      refine g_pop hc dX11_goes_59 (pc2 := 60) rfl ?_
      refine g_iinc hc dX11_goes_60 rfl (q_ii ic_1) (by decide) (L2 := [some (q_rf w x0), some (.int x1), some (.int x2), some (q_rf w x3), some (.int (x4 + 1))]) rfl (pc2 := 63) rfl ?_
      refine g_goto hc dX11_goes_63 (pc2 := 41) rfl ?_
      exact ih _ _
    · refine q_Gmask [true, false, true, true, false] (L2 := [some (q_rf w x0), none, some (.int x2), some (q_rf w x3), none]) rfl ?_
      exact hk66 _
set_option maxRecDepth 100000 in
set_option maxHeartbeats 4000000 in
theorem C_X11_goes {l : Launch} {w : q_Wd} {n : Nat} {t : Nat} {a0 : Int32} {a1 : Int32} (ht : q_KD t = .inl 11) {s0 : q_Sto} : q_C l w yX11_goes cX11_goes 5 (some .int) (q_rm 7 178) [q_rf w t, .int a0, .int a1] s0 (f_X11_goes n t a0 a1 s0) := q_CofG [some (q_rf w t), some (.int a0), some (.int a1), none, none] (by decide +kernel) rfl rfl (Nat.le_of_ble_eq_true rfl) fun cx hl hc => by
  have hc : q_ok w cx RX11 cX11_goes 5 (some .int) (q_rm 7 178) := hc
  rw [f_X11_goes]
  refine g_il1 hc dX11_goes_0 rfl (pc2 := 1) rfl ?_
  refine g_iconst hc dX11_goes_1 ic_1 (pc2 := 2) rfl ?_
  refine g_bipush hc dX11_goes_2 bp_60 (pc2 := 4) rfl ?_
  refine g_callS3 hc C_X11_isWithin mv_X11_isWithin ln_X11_91 ⟨by decide, by decide⟩ (Nat.le_of_ble_eq_true rfl) dX11_goes_4 (pc2 := 7) rfl (fun r2 s1 => ?_)
  refine g_if_eq hc dX11_goes_7 (pc1 := 19) (pc2 := 10) rfl rfl (fun _ => ?_) (fun _ => ?_)
  · refine g_bipush hc dX11_goes_19 bp_m2 (pc2 := 21) rfl ?_
    exact g_iret hc dX11_goes_21
  · refine g_il2 hc dX11_goes_10 rfl (pc2 := 11) rfl ?_
    refine g_iconst hc dX11_goes_11 ic_0 (pc2 := 12) rfl ?_
    refine g_iconst hc dX11_goes_12 ic_3 (pc2 := 13) rfl ?_
    refine g_callS3 hc C_X11_isWithin mv_X11_isWithin ln_X11_91 ⟨by decide, by decide⟩ (Nat.le_of_ble_eq_true rfl) dX11_goes_13 (pc2 := 16) rfl (fun r5 s4 => ?_)
    refine g_if_ne hc dX11_goes_16 (pc1 := 19) (pc2 := 22) rfl rfl (fun _ => ?_) (fun _ => ?_)
    · refine g_bipush hc dX11_goes_19 bp_m2 (pc2 := 21) rfl ?_
      exact g_iret hc dX11_goes_21
    · refine g_rl0 hc dX11_goes_22 rfl (pc2 := 23) rfl ?_
      refine g_getR hc fl_X11_12 rfl ht dX11_goes_23 (pc2 := 26) rfl ?_
      refine g_getR hc fl_X11_81 rfl (kf_11_0 ht) dX11_goes_26 (pc2 := 29) rfl ?_
      refine g_rs3 hc dX11_goes_29 (by decide) (L2 := [some (q_rf w t), some (.int a0), some (.int a1), some (q_rf w (q_RF (q_RF t 0) 0)), none]) rfl (pc2 := 30) rfl ?_
      refine g_rl0 hc dX11_goes_30 rfl (pc2 := 31) rfl ?_
      refine g_getR hc fl_X11_33 rfl ht dX11_goes_31 (pc2 := 34) rfl ?_
      refine g_rl3 hc dX11_goes_34 rfl (pc2 := 35) rfl ?_
      refine g_callV1v hc (C_X9_copyFrom (kf_11_4 ht) (kf_10_0 (kf_11_0 ht))) mv_X9_copyFrom ln_X11_288 (kf_11_4 ht) ⟨by decide, by decide⟩ (Nat.le_of_ble_eq_true rfl) dX11_goes_35 (pc2 := 38) rfl (fun s7 => ?_)
      refine g_iconst hc dX11_goes_38 ic_0 (pc2 := 39) rfl ?_
      refine g_istore hc dX11_goes_39 (by decide) (L2 := [some (q_rf w t), some (.int a0), some (.int a1), some (q_rf w (q_RF (q_RF t 0) 0)), some (.int 0)]) rfl (pc2 := 41) rfl ?_
      refine t_X11_goes_L41 hc ht (kf_10_0 (kf_11_0 ht)) (fun s12 => ?_) n _ _
      refine g_il2 hc dX11_goes_66 rfl (pc2 := 67) rfl ?_
      refine g_if_ne hc dX11_goes_67 (pc1 := 70) (pc2 := 77) rfl rfl (fun _ => ?_) (fun _ => ?_)
      · refine g_rl3 hc dX11_goes_70 rfl (pc2 := 71) rfl ?_
        refine g_getI hc fl_X11_150 rfl (kf_10_0 (kf_11_0 ht)) dX11_goes_71 (pc2 := 74) rfl ?_
        refine g_goto hc dX11_goes_74 (pc2 := 105) rfl ?_
        refine g_nm (fun v14 => ?_)
        refine g_istore hc dX11_goes_105 (by decide) (L2 := [some (q_rf w t), none, some (.int a1), some (q_rf w (q_RF (q_RF t 0) 0)), some (.int v14)]) rfl (pc2 := 107) rfl ?_
        refine g_rl3 hc dX11_goes_107 rfl (pc2 := 108) rfl ?_
        refine g_rl0 hc dX11_goes_108 rfl (pc2 := 109) rfl ?_
        refine g_getR hc fl_X11_33 rfl ht dX11_goes_109 (pc2 := 112) rfl ?_
        refine g_callV1v hc (C_X9_copyFrom (kf_10_0 (kf_11_0 ht)) (kf_11_4 ht)) mv_X9_copyFrom ln_X11_288 (kf_10_0 (kf_11_0 ht)) ⟨by decide, by decide⟩ (Nat.le_of_ble_eq_true rfl) dX11_goes_112 (pc2 := 115) rfl (fun s15 => ?_)
        refine g_iload hc dX11_goes_115 rfl (pc2 := 117) rfl ?_
        exact g_iret hc dX11_goes_117
      · refine g_il2 hc dX11_goes_77 rfl (pc2 := 78) rfl ?_
        refine g_iconst hc dX11_goes_78 ic_1 (pc2 := 79) rfl ?_
        refine g_icmp_ne hc dX11_goes_79 (pc1 := 82) (pc2 := 89) rfl rfl (fun _ => ?_) (fun _ => ?_)
        · refine g_rl3 hc dX11_goes_82 rfl (pc2 := 83) rfl ?_
          refine g_getI hc fl_X11_116 rfl (kf_10_0 (kf_11_0 ht)) dX11_goes_83 (pc2 := 86) rfl ?_
          refine g_goto hc dX11_goes_86 (pc2 := 105) rfl ?_
          refine g_nm (fun v18 => ?_)
          refine g_istore hc dX11_goes_105 (by decide) (L2 := [some (q_rf w t), none, some (.int a1), some (q_rf w (q_RF (q_RF t 0) 0)), some (.int v18)]) rfl (pc2 := 107) rfl ?_
          refine g_rl3 hc dX11_goes_107 rfl (pc2 := 108) rfl ?_
          refine g_rl0 hc dX11_goes_108 rfl (pc2 := 109) rfl ?_
          refine g_getR hc fl_X11_33 rfl ht dX11_goes_109 (pc2 := 112) rfl ?_
          refine g_callV1v hc (C_X9_copyFrom (kf_10_0 (kf_11_0 ht)) (kf_11_4 ht)) mv_X9_copyFrom ln_X11_288 (kf_10_0 (kf_11_0 ht)) ⟨by decide, by decide⟩ (Nat.le_of_ble_eq_true rfl) dX11_goes_112 (pc2 := 115) rfl (fun s19 => ?_)
          refine g_iload hc dX11_goes_115 rfl (pc2 := 117) rfl ?_
          exact g_iret hc dX11_goes_117
        · refine g_il2 hc dX11_goes_89 rfl (pc2 := 90) rfl ?_
          refine g_iconst hc dX11_goes_90 ic_2 (pc2 := 91) rfl ?_
          refine g_icmp_ne hc dX11_goes_91 (pc1 := 94) (pc2 := 101) rfl rfl (fun _ => ?_) (fun _ => ?_)
          · refine g_rl3 hc dX11_goes_94 rfl (pc2 := 95) rfl ?_
            refine g_getI hc fl_X11_290 rfl (kf_10_0 (kf_11_0 ht)) dX11_goes_95 (pc2 := 98) rfl ?_
            refine g_goto hc dX11_goes_98 (pc2 := 105) rfl ?_
            refine g_nm (fun v22 => ?_)
            refine g_istore hc dX11_goes_105 (by decide) (L2 := [some (q_rf w t), none, some (.int a1), some (q_rf w (q_RF (q_RF t 0) 0)), some (.int v22)]) rfl (pc2 := 107) rfl ?_
            refine g_rl3 hc dX11_goes_107 rfl (pc2 := 108) rfl ?_
            refine g_rl0 hc dX11_goes_108 rfl (pc2 := 109) rfl ?_
            refine g_getR hc fl_X11_33 rfl ht dX11_goes_109 (pc2 := 112) rfl ?_
            refine g_callV1v hc (C_X9_copyFrom (kf_10_0 (kf_11_0 ht)) (kf_11_4 ht)) mv_X9_copyFrom ln_X11_288 (kf_10_0 (kf_11_0 ht)) ⟨by decide, by decide⟩ (Nat.le_of_ble_eq_true rfl) dX11_goes_112 (pc2 := 115) rfl (fun s23 => ?_)
            refine g_iload hc dX11_goes_115 rfl (pc2 := 117) rfl ?_
            exact g_iret hc dX11_goes_117
          · refine g_rl3 hc dX11_goes_101 rfl (pc2 := 102) rfl ?_
            refine g_getI hc fl_X11_293 rfl (kf_10_0 (kf_11_0 ht)) dX11_goes_102 (pc2 := 105) rfl ?_
            refine g_nm (fun v25 => ?_)
            refine g_istore hc dX11_goes_105 (by decide) (L2 := [some (q_rf w t), none, some (.int a1), some (q_rf w (q_RF (q_RF t 0) 0)), some (.int v25)]) rfl (pc2 := 107) rfl ?_
            refine g_rl3 hc dX11_goes_107 rfl (pc2 := 108) rfl ?_
            refine g_rl0 hc dX11_goes_108 rfl (pc2 := 109) rfl ?_
            refine g_getR hc fl_X11_33 rfl ht dX11_goes_109 (pc2 := 112) rfl ?_
            refine g_callV1v hc (C_X9_copyFrom (kf_10_0 (kf_11_0 ht)) (kf_11_4 ht)) mv_X9_copyFrom ln_X11_288 (kf_10_0 (kf_11_0 ht)) ⟨by decide, by decide⟩ (Nat.le_of_ble_eq_true rfl) dX11_goes_112 (pc2 := 115) rfl (fun s26 => ?_)
            refine g_iload hc dX11_goes_115 rfl (pc2 := 117) rfl ?_
            exact g_iret hc dX11_goes_117
set_option maxRecDepth 100000 in
set_option maxHeartbeats 4000000 in
def f_X11_wins (n : Nat) (t : Nat) (a0 : Int32) (a1 : Int32) (s0 : q_Sto) : Option (Int32 × q_Sto) :=
  q_call (f_X9_hasMan n (q_RF (q_RF t 0) 0) a0 s0) fun r2 s1 =>
  if r2 = 0 then (
  some ((-1), s1))
  else (
  q_call (f_X11_isWithin n a1 0 1 s1) fun r5 s4 =>
  if r5 = 0 then (
  some ((-1), s4))
  else (
  q_call (f_X0_fewestSalted n (q_RF t 5) (q_RF t 0) a0 s4) fun r8 s7 =>
  if r8 = (-1) then (
  some ((-1), s7))
  else (
  if a1 = 0 then (
  q_call (f_J6_bitCount_0f7a4 n r8 s7) fun r12 s11 =>
  some (r12, s11))
  else (
  some (r8, s7)))))
set_option maxRecDepth 100000 in
set_option maxHeartbeats 4000000 in
theorem C_X11_wins {l : Launch} {w : q_Wd} {n : Nat} {t : Nat} {a0 : Int32} {a1 : Int32} (ht : q_KD t = .inl 11) {s0 : q_Sto} : q_C l w yX11_wins cX11_wins 4 (some .int) (q_rm 5 135) [q_rf w t, .int a0, .int a1] s0 (f_X11_wins n t a0 a1 s0) := q_CofG [some (q_rf w t), some (.int a0), some (.int a1), none] (by decide +kernel) rfl rfl (Nat.le_of_ble_eq_true rfl) fun cx hl hc => by
  have hc : q_ok w cx RX11 cX11_wins 4 (some .int) (q_rm 5 135) := hc
  rw [f_X11_wins]
  refine g_rl0 hc dX11_wins_0 rfl (pc2 := 1) rfl ?_
  refine g_getR hc fl_X11_12 rfl ht dX11_wins_1 (pc2 := 4) rfl ?_
  refine g_getR hc fl_X11_81 rfl (kf_11_0 ht) dX11_wins_4 (pc2 := 7) rfl ?_
  refine g_il1 hc dX11_wins_7 rfl (pc2 := 8) rfl ?_
  refine g_callV1 hc (C_X9_hasMan (kf_10_0 (kf_11_0 ht))) mv_X9_hasMan ln_X11_126 (kf_10_0 (kf_11_0 ht)) ⟨by decide, by decide⟩ (Nat.le_of_ble_eq_true rfl) dX11_wins_8 (pc2 := 11) rfl (fun r2 s1 => ?_)
  refine g_if_eq hc dX11_wins_11 (pc1 := 23) (pc2 := 14) rfl rfl (fun _ => ?_) (fun _ => ?_)
  · refine g_iconst hc dX11_wins_23 ic_m1 (pc2 := 24) rfl ?_
    exact g_iret hc dX11_wins_24
  · refine g_il2 hc dX11_wins_14 rfl (pc2 := 15) rfl ?_
    refine g_iconst hc dX11_wins_15 ic_0 (pc2 := 16) rfl ?_
    refine g_iconst hc dX11_wins_16 ic_1 (pc2 := 17) rfl ?_
    refine g_callS3 hc C_X11_isWithin mv_X11_isWithin ln_X11_91 ⟨by decide, by decide⟩ (Nat.le_of_ble_eq_true rfl) dX11_wins_17 (pc2 := 20) rfl (fun r5 s4 => ?_)
    refine g_if_ne hc dX11_wins_20 (pc1 := 23) (pc2 := 25) rfl rfl (fun _ => ?_) (fun _ => ?_)
    · refine g_iconst hc dX11_wins_23 ic_m1 (pc2 := 24) rfl ?_
      exact g_iret hc dX11_wins_24
    · refine g_rl0 hc dX11_wins_25 rfl (pc2 := 26) rfl ?_
      refine g_getR hc fl_X11_40 rfl ht dX11_wins_26 (pc2 := 29) rfl ?_
      refine g_rl0 hc dX11_wins_29 rfl (pc2 := 30) rfl ?_
      refine g_getR hc fl_X11_12 rfl ht dX11_wins_30 (pc2 := 33) rfl ?_
      refine g_il1 hc dX11_wins_33 rfl (pc2 := 34) rfl ?_
      refine g_callV2 hc (C_X0_fewestSalted (kf_11_5 ht) (kf_11_0 ht)) mv_X0_fewestSalted ln_X11_296 (kf_11_5 ht) ⟨by decide, by decide⟩ (Nat.le_of_ble_eq_true rfl) dX11_wins_34 (pc2 := 37) rfl (fun r8 s7 => ?_)
      refine g_is3 hc dX11_wins_37 (by decide) (L2 := [some (q_rf w t), some (.int a0), some (.int a1), some (.int r8)]) rfl (pc2 := 38) rfl ?_
      refine g_il3 hc dX11_wins_38 rfl (pc2 := 39) rfl ?_
      refine g_iconst hc dX11_wins_39 ic_m1 (pc2 := 40) rfl ?_
      refine g_icmp_ne hc dX11_wins_40 (pc1 := 43) (pc2 := 45) rfl rfl (fun _ => ?_) (fun _ => ?_)
      · refine g_iconst hc dX11_wins_43 ic_m1 (pc2 := 44) rfl ?_
        exact g_iret hc dX11_wins_44
      · refine g_il2 hc dX11_wins_45 rfl (pc2 := 46) rfl ?_
        refine g_if_ne hc dX11_wins_46 (pc1 := 49) (pc2 := 56) rfl rfl (fun _ => ?_) (fun _ => ?_)
        · refine g_il3 hc dX11_wins_49 rfl (pc2 := 50) rfl ?_
          refine g_callS1 hc C_J6_bitCount_0f7a4 mv_J6_bitCount_0f7a4 ln_X11_300 ⟨by decide, by decide⟩ (Nat.le_of_ble_eq_true rfl) dX11_wins_50 (pc2 := 53) rfl (fun r12 s11 => ?_)
          refine g_goto hc dX11_wins_53 (pc2 := 57) rfl ?_
          exact g_iret hc dX11_wins_57
        · refine g_il3 hc dX11_wins_56 rfl (pc2 := 57) rfl ?_
          exact g_iret hc dX11_wins_57
set_option maxRecDepth 100000 in
set_option maxHeartbeats 4000000 in
def f_X11_turnsBy (n : Nat) (t : Nat) (a0 : Int32) (s0 : q_Sto) : Option (Int32 × q_Sto) :=
  q_call (f_X9_hasMule n (q_RF (q_RF t 0) 0) a0 s0) fun r2 s1 =>
  if r2 = 0 then (
  some ((-1), s1))
  else (
  q_callv (f_X0_standNow n (q_RF t 5) (q_RF t 0) s1) fun s4 =>
  q_nm (s4 (q_RF t 5) 8) fun v6 =>
  q_call (f_X9_lameOnes n (q_RF (q_RF t 0) 0) s4) fun r8 s7 =>
  q_callv (f_X0_settle n (q_RF t 5) (r8 ||| (1 <<< (a0 &&& 31))) 0 (-1) s7) fun s9 =>
  if (s9 (q_RF t 5) 8) = v6 then (
  some (0, s9))
  else (
  some (1, s9)))
set_option maxRecDepth 100000 in
set_option maxHeartbeats 4000000 in
theorem C_X11_turnsBy {l : Launch} {w : q_Wd} {n : Nat} {t : Nat} {a0 : Int32} (ht : q_KD t = .inl 11) {s0 : q_Sto} : q_C l w yX11_turnsBy cX11_turnsBy 3 (some .int) (q_rm 4 105) [q_rf w t, .int a0] s0 (f_X11_turnsBy n t a0 s0) := q_CofG [some (q_rf w t), some (.int a0), none] (by decide +kernel) rfl rfl (Nat.le_of_ble_eq_true rfl) fun cx hl hc => by
  have hc : q_ok w cx RX11 cX11_turnsBy 3 (some .int) (q_rm 4 105) := hc
  rw [f_X11_turnsBy]
  refine g_rl0 hc dX11_turnsBy_0 rfl (pc2 := 1) rfl ?_
  refine g_getR hc fl_X11_12 rfl ht dX11_turnsBy_1 (pc2 := 4) rfl ?_
  refine g_getR hc fl_X11_81 rfl (kf_11_0 ht) dX11_turnsBy_4 (pc2 := 7) rfl ?_
  refine g_il1 hc dX11_turnsBy_7 rfl (pc2 := 8) rfl ?_
  refine g_callV1 hc (C_X9_hasMule (kf_10_0 (kf_11_0 ht))) mv_X9_hasMule ln_X11_119 (kf_10_0 (kf_11_0 ht)) ⟨by decide, by decide⟩ (Nat.le_of_ble_eq_true rfl) dX11_turnsBy_8 (pc2 := 11) rfl (fun r2 s1 => ?_)
  refine g_if_ne hc dX11_turnsBy_11 (pc1 := 14) (pc2 := 16) rfl rfl (fun _ => ?_) (fun _ => ?_)
  · refine g_iconst hc dX11_turnsBy_14 ic_m1 (pc2 := 15) rfl ?_
    exact g_iret hc dX11_turnsBy_15
  · refine g_rl0 hc dX11_turnsBy_16 rfl (pc2 := 17) rfl ?_
    refine g_getR hc fl_X11_40 rfl ht dX11_turnsBy_17 (pc2 := 20) rfl ?_
    refine g_rl0 hc dX11_turnsBy_20 rfl (pc2 := 21) rfl ?_
    refine g_getR hc fl_X11_12 rfl ht dX11_turnsBy_21 (pc2 := 24) rfl ?_
    refine g_callV1v hc (C_X0_standNow (kf_11_5 ht) (kf_11_0 ht)) mv_X0_standNow ln_X11_277 (kf_11_5 ht) ⟨by decide, by decide⟩ (Nat.le_of_ble_eq_true rfl) dX11_turnsBy_24 (pc2 := 27) rfl (fun s4 => ?_)
    refine g_rl0 hc dX11_turnsBy_27 rfl (pc2 := 28) rfl ?_
    refine g_getR hc fl_X11_40 rfl ht dX11_turnsBy_28 (pc2 := 31) rfl ?_
    refine g_getI hc fl_X11_287 rfl (kf_11_5 ht) dX11_turnsBy_31 (pc2 := 34) rfl ?_
    refine g_nm (fun v6 => ?_)
    refine g_is2 hc dX11_turnsBy_34 (by decide) (L2 := [some (q_rf w t), some (.int a0), some (.int v6)]) rfl (pc2 := 35) rfl ?_
    refine g_rl0 hc dX11_turnsBy_35 rfl (pc2 := 36) rfl ?_
    refine g_getR hc fl_X11_40 rfl ht dX11_turnsBy_36 (pc2 := 39) rfl ?_
    refine g_rl0 hc dX11_turnsBy_39 rfl (pc2 := 40) rfl ?_
    refine g_getR hc fl_X11_12 rfl ht dX11_turnsBy_40 (pc2 := 43) rfl ?_
    refine g_getR hc fl_X11_81 rfl (kf_11_0 ht) dX11_turnsBy_43 (pc2 := 46) rfl ?_
    refine g_callV0 hc (C_X9_lameOnes (kf_10_0 (kf_11_0 ht))) mv_X9_lameOnes ln_X11_305 (kf_10_0 (kf_11_0 ht)) ⟨by decide, by decide⟩ (Nat.le_of_ble_eq_true rfl) dX11_turnsBy_46 (pc2 := 49) rfl (fun r8 s7 => ?_)
    refine g_iconst hc dX11_turnsBy_49 ic_1 (pc2 := 50) rfl ?_
    refine g_il1 hc dX11_turnsBy_50 rfl (pc2 := 51) rfl ?_
    refine g_ishl hc dX11_turnsBy_51 (pc2 := 52) rfl ?_
    refine g_ior hc dX11_turnsBy_52 (pc2 := 53) rfl ?_
    refine g_iconst hc dX11_turnsBy_53 ic_0 (pc2 := 54) rfl ?_
    refine g_iconst hc dX11_turnsBy_54 ic_m1 (pc2 := 55) rfl ?_
    refine g_callV3v hc (C_X0_settle (kf_11_5 ht)) mv_X0_settle ln_X11_308 (kf_11_5 ht) ⟨by decide, by decide⟩ (Nat.le_of_ble_eq_true rfl) dX11_turnsBy_55 (pc2 := 58) rfl (fun s9 => ?_)
    refine g_rl0 hc dX11_turnsBy_58 rfl (pc2 := 59) rfl ?_
    refine g_getR hc fl_X11_40 rfl ht dX11_turnsBy_59 (pc2 := 62) rfl ?_
    refine g_getI hc fl_X11_287 rfl (kf_11_5 ht) dX11_turnsBy_62 (pc2 := 65) rfl ?_
    refine g_il2 hc dX11_turnsBy_65 rfl (pc2 := 66) rfl ?_
    refine g_icmp_ne hc dX11_turnsBy_66 (pc1 := 69) (pc2 := 73) rfl rfl (fun _ => ?_) (fun _ => ?_)
    · refine g_iconst hc dX11_turnsBy_69 ic_0 (pc2 := 70) rfl ?_
      refine g_goto hc dX11_turnsBy_70 (pc2 := 74) rfl ?_
      exact g_iret hc dX11_turnsBy_74
    · refine g_iconst hc dX11_turnsBy_73 ic_1 (pc2 := 74) rfl ?_
      exact g_iret hc dX11_turnsBy_74
set_option maxRecDepth 100000 in
set_option maxHeartbeats 4000000 in
def f_X11_way (n : Nat) (t : Nat) (a0 : Int32) (a1 : Int32) (a2 : Int32) (s0 : q_Sto) : Option (Int32 × q_Sto) :=
  q_call (f_X11_isCamp n a0 s0) fun r2 s1 =>
  if r2 = 0 then (
  some ((-1), s1))
  else (
  q_call (f_X11_isCamp n a1 s1) fun r5 s4 =>
  if r5 = 0 then (
  some ((-1), s4))
  else (
  q_call (f_X11_isWithin n a2 0 2 s4) fun r8 s7 =>
  if r8 = 0 then (
  some ((-1), s7))
  else (
  q_jn (fun (y10 : Int32) (s11 : q_Sto) =>
    q_callv (f_X5_measure n (q_RF t 6) (q_RF t 0) y10 s11) fun s12 =>
    q_callv (f_X5_reach n (q_RF t 6) a1 s12) fun s14 =>
    if a2 = 1 then (
    q_call (f_X5_nextFrom n (q_RF t 6) a0 a1 s14) fun r18 s17 =>
    some (r18, s17))
    else (
    q_call (f_X5_farFrom n (q_RF t 6) a0 s14) fun r20 s19 =>
    some (r20, s19))) fun j43 =>
  if a2 = 2 then (
  j43 1 s7)
  else (
  j43 0 s7))))
set_option maxRecDepth 100000 in
set_option maxHeartbeats 4000000 in
theorem C_X11_way {l : Launch} {w : q_Wd} {n : Nat} {t : Nat} {a0 : Int32} {a1 : Int32} {a2 : Int32} (ht : q_KD t = .inl 11) {s0 : q_Sto} : q_C l w yX11_way cX11_way 4 (some .int) (q_rm 5 127) [q_rf w t, .int a0, .int a1, .int a2] s0 (f_X11_way n t a0 a1 a2 s0) := q_CofG [some (q_rf w t), some (.int a0), some (.int a1), some (.int a2)] (by decide +kernel) rfl rfl (Nat.le_of_ble_eq_true rfl) fun cx hl hc => by
  have hc : q_ok w cx RX11 cX11_way 4 (some .int) (q_rm 5 127) := hc
  rw [f_X11_way]
  refine g_il1 hc dX11_way_0 rfl (pc2 := 1) rfl ?_
  refine g_callS1 hc C_X11_isCamp mv_X11_isCamp ln_X11_112 ⟨by decide, by decide⟩ (Nat.le_of_ble_eq_true rfl) dX11_way_1 (pc2 := 4) rfl (fun r2 s1 => ?_)
  refine g_if_eq hc dX11_way_4 (pc1 := 23) (pc2 := 7) rfl rfl (fun _ => ?_) (fun _ => ?_)
  · refine g_iconst hc dX11_way_23 ic_m1 (pc2 := 24) rfl ?_
    exact g_iret hc dX11_way_24
  · refine g_il2 hc dX11_way_7 rfl (pc2 := 8) rfl ?_
    refine g_callS1 hc C_X11_isCamp mv_X11_isCamp ln_X11_112 ⟨by decide, by decide⟩ (Nat.le_of_ble_eq_true rfl) dX11_way_8 (pc2 := 11) rfl (fun r5 s4 => ?_)
    refine g_if_eq hc dX11_way_11 (pc1 := 23) (pc2 := 14) rfl rfl (fun _ => ?_) (fun _ => ?_)
    · refine g_iconst hc dX11_way_23 ic_m1 (pc2 := 24) rfl ?_
      exact g_iret hc dX11_way_24
    · refine g_il3 hc dX11_way_14 rfl (pc2 := 15) rfl ?_
      refine g_iconst hc dX11_way_15 ic_0 (pc2 := 16) rfl ?_
      refine g_iconst hc dX11_way_16 ic_2 (pc2 := 17) rfl ?_
      refine g_callS3 hc C_X11_isWithin mv_X11_isWithin ln_X11_91 ⟨by decide, by decide⟩ (Nat.le_of_ble_eq_true rfl) dX11_way_17 (pc2 := 20) rfl (fun r8 s7 => ?_)
      refine g_if_ne hc dX11_way_20 (pc1 := 23) (pc2 := 25) rfl rfl (fun _ => ?_) (fun _ => ?_)
      · refine g_iconst hc dX11_way_23 ic_m1 (pc2 := 24) rfl ?_
        exact g_iret hc dX11_way_24
      · refine g_rl0 hc dX11_way_25 rfl (pc2 := 26) rfl ?_
        refine g_getR hc fl_X11_47 rfl ht dX11_way_26 (pc2 := 29) rfl ?_
        refine g_rl0 hc dX11_way_29 rfl (pc2 := 30) rfl ?_
        refine g_getR hc fl_X11_12 rfl ht dX11_way_30 (pc2 := 33) rfl ?_
        refine g_il3 hc dX11_way_33 rfl (pc2 := 34) rfl ?_
        refine g_iconst hc dX11_way_34 ic_2 (pc2 := 35) rfl ?_
        refine g_jn (P := fun j43 => ∀ (y10 : Int32) (s11 : q_Sto), q_G w cx 4 (some .int) 43 [some (q_rf w t), some (.int a0), some (.int a1), some (.int a2)] [.int y10, q_rf w (q_RF t 0), q_rf w (q_RF t 6)] s11 (j43 y10 s11)) (fun y10 s11 => ?_) (fun j43 hj43 => ?_)
        · refine g_callV2v hc (C_X5_measure (kf_11_6 ht) (kf_11_0 ht)) mv_X5_measure ln_X11_311 (kf_11_6 ht) ⟨by decide, by decide⟩ (Nat.le_of_ble_eq_true rfl) dX11_way_43 (pc2 := 46) rfl (fun s12 => ?_)
          refine g_rl0 hc dX11_way_46 rfl (pc2 := 47) rfl ?_
          refine g_getR hc fl_X11_47 rfl ht dX11_way_47 (pc2 := 50) rfl ?_
          refine g_il2 hc dX11_way_50 rfl (pc2 := 51) rfl ?_
          refine g_callV1v hc (C_X5_reach (kf_11_6 ht)) mv_X5_reach ln_X11_315 (kf_11_6 ht) ⟨by decide, by decide⟩ (Nat.le_of_ble_eq_true rfl) dX11_way_51 (pc2 := 54) rfl (fun s14 => ?_)
          refine g_il3 hc dX11_way_54 rfl (pc2 := 55) rfl ?_
          refine g_iconst hc dX11_way_55 ic_1 (pc2 := 56) rfl ?_
          refine g_icmp_ne hc dX11_way_56 (pc1 := 59) (pc2 := 71) rfl rfl (fun _ => ?_) (fun _ => ?_)
          · refine g_rl0 hc dX11_way_59 rfl (pc2 := 60) rfl ?_
            refine g_getR hc fl_X11_47 rfl ht dX11_way_60 (pc2 := 63) rfl ?_
            refine g_il1 hc dX11_way_63 rfl (pc2 := 64) rfl ?_
            refine g_il2 hc dX11_way_64 rfl (pc2 := 65) rfl ?_
            refine g_callV2 hc (C_X5_nextFrom (kf_11_6 ht)) mv_X5_nextFrom ln_X11_318 (kf_11_6 ht) ⟨by decide, by decide⟩ (Nat.le_of_ble_eq_true rfl) dX11_way_65 (pc2 := 68) rfl (fun r18 s17 => ?_)
            refine g_goto hc dX11_way_68 (pc2 := 79) rfl ?_
            exact g_iret hc dX11_way_79
          · refine g_rl0 hc dX11_way_71 rfl (pc2 := 72) rfl ?_
            refine g_getR hc fl_X11_47 rfl ht dX11_way_72 (pc2 := 75) rfl ?_
            refine g_il1 hc dX11_way_75 rfl (pc2 := 76) rfl ?_
            refine g_callV1 hc (C_X5_farFrom (kf_11_6 ht)) mv_X5_farFrom ln_X11_321 (kf_11_6 ht) ⟨by decide, by decide⟩ (Nat.le_of_ble_eq_true rfl) dX11_way_76 (pc2 := 79) rfl (fun r20 s19 => ?_)
            exact g_iret hc dX11_way_79
        · refine g_icmp_ne hc dX11_way_35 (pc1 := 38) (pc2 := 42) rfl rfl (fun _ => ?_) (fun _ => ?_)
          · refine g_iconst hc dX11_way_38 ic_1 (pc2 := 39) rfl ?_
            refine g_goto hc dX11_way_39 (pc2 := 43) rfl ?_
            exact hj43 _ _
          · refine g_iconst hc dX11_way_42 ic_0 (pc2 := 43) rfl ?_
            exact hj43 _ _
set_option maxRecDepth 100000 in
set_option maxHeartbeats 4000000 in
def f_X11_packs (n : Nat) (t : Nat) (a0 : Int32) (s0 : q_Sto) : Option (Int32 × q_Sto) :=
  q_call (f_X11_isWithin n a0 0 1 s0) fun r2 s1 =>
  if r2 = 0 then (
  some ((-1), s1))
  else (
  q_call (f_X4_bestPack n (q_RF t 7) (q_RF t 0) s1) fun r5 s4 =>
  if a0 = 0 then (
  q_call (f_X4_worthOf n (q_RF t 7) (q_RF t 0) r5 s4) fun r8 s7 =>
  some (r8, s7))
  else (
  some (r5, s4)))
set_option maxRecDepth 100000 in
set_option maxHeartbeats 4000000 in
theorem C_X11_packs {l : Launch} {w : q_Wd} {n : Nat} {t : Nat} {a0 : Int32} (ht : q_KD t = .inl 11) {s0 : q_Sto} : q_C l w yX11_packs cX11_packs 3 (some .int) (q_rm 3 72) [q_rf w t, .int a0] s0 (f_X11_packs n t a0 s0) := q_CofG [some (q_rf w t), some (.int a0), none] (by decide +kernel) rfl rfl (Nat.le_of_ble_eq_true rfl) fun cx hl hc => by
  have hc : q_ok w cx RX11 cX11_packs 3 (some .int) (q_rm 3 72) := hc
  rw [f_X11_packs]
  refine g_il1 hc dX11_packs_0 rfl (pc2 := 1) rfl ?_
  refine g_iconst hc dX11_packs_1 ic_0 (pc2 := 2) rfl ?_
  refine g_iconst hc dX11_packs_2 ic_1 (pc2 := 3) rfl ?_
  refine g_callS3 hc C_X11_isWithin mv_X11_isWithin ln_X11_91 ⟨by decide, by decide⟩ (Nat.le_of_ble_eq_true rfl) dX11_packs_3 (pc2 := 6) rfl (fun r2 s1 => ?_)
  refine g_if_ne hc dX11_packs_6 (pc1 := 9) (pc2 := 11) rfl rfl (fun _ => ?_) (fun _ => ?_)
  · refine g_iconst hc dX11_packs_9 ic_m1 (pc2 := 10) rfl ?_
    exact g_iret hc dX11_packs_10
  · refine g_rl0 hc dX11_packs_11 rfl (pc2 := 12) rfl ?_
    refine g_getR hc fl_X11_54 rfl ht dX11_packs_12 (pc2 := 15) rfl ?_
    refine g_rl0 hc dX11_packs_15 rfl (pc2 := 16) rfl ?_
    refine g_getR hc fl_X11_12 rfl ht dX11_packs_16 (pc2 := 19) rfl ?_
    refine g_callV1 hc (C_X4_bestPack (kf_11_7 ht) (kf_11_0 ht)) mv_X4_bestPack ln_X11_324 (kf_11_7 ht) ⟨by decide, by decide⟩ (Nat.le_of_ble_eq_true rfl) dX11_packs_19 (pc2 := 22) rfl (fun r5 s4 => ?_)
    refine g_is2 hc dX11_packs_22 (by decide) (L2 := [some (q_rf w t), some (.int a0), some (.int r5)]) rfl (pc2 := 23) rfl ?_
    refine g_il1 hc dX11_packs_23 rfl (pc2 := 24) rfl ?_
    refine g_if_ne hc dX11_packs_24 (pc1 := 27) (pc2 := 42) rfl rfl (fun _ => ?_) (fun _ => ?_)
    · refine g_rl0 hc dX11_packs_27 rfl (pc2 := 28) rfl ?_
      refine g_getR hc fl_X11_54 rfl ht dX11_packs_28 (pc2 := 31) rfl ?_
      refine g_rl0 hc dX11_packs_31 rfl (pc2 := 32) rfl ?_
      refine g_getR hc fl_X11_12 rfl ht dX11_packs_32 (pc2 := 35) rfl ?_
      refine g_il2 hc dX11_packs_35 rfl (pc2 := 36) rfl ?_
      refine g_callV2 hc (C_X4_worthOf (kf_11_7 ht) (kf_11_0 ht)) mv_X4_worthOf ln_X11_328 (kf_11_7 ht) ⟨by decide, by decide⟩ (Nat.le_of_ble_eq_true rfl) dX11_packs_36 (pc2 := 39) rfl (fun r8 s7 => ?_)
      refine g_goto hc dX11_packs_39 (pc2 := 43) rfl ?_
      exact g_iret hc dX11_packs_43
    · refine g_il2 hc dX11_packs_42 rfl (pc2 := 43) rfl ?_
      exact g_iret hc dX11_packs_43
set_option maxRecDepth 100000 in
set_option maxHeartbeats 4000000 in
def f_X11_row (n : Nat) (t : Nat) (s0 : q_Sto) : Option (Int32 × q_Sto) :=
  q_call (f_X4_longestRow n (q_RF t 7) (q_RF t 0) s0) fun r2 s1 =>
  some (r2, s1)
set_option maxRecDepth 100000 in
set_option maxHeartbeats 4000000 in
theorem C_X11_row {l : Launch} {w : q_Wd} {n : Nat} {t : Nat} (ht : q_KD t = .inl 11) {s0 : q_Sto} : q_C l w yX11_row cX11_row 1 (some .int) (q_rm 3 70) [q_rf w t] s0 (f_X11_row n t s0) := q_CofG [some (q_rf w t)] (by decide +kernel) rfl rfl (Nat.le_of_ble_eq_true rfl) fun cx hl hc => by
  have hc : q_ok w cx RX11 cX11_row 1 (some .int) (q_rm 3 70) := hc
  rw [f_X11_row]
  refine g_rl0 hc dX11_row_0 rfl (pc2 := 1) rfl ?_
  refine g_getR hc fl_X11_54 rfl ht dX11_row_1 (pc2 := 4) rfl ?_
  refine g_rl0 hc dX11_row_4 rfl (pc2 := 5) rfl ?_
  refine g_getR hc fl_X11_12 rfl ht dX11_row_5 (pc2 := 8) rfl ?_
  refine g_callV1 hc (C_X4_longestRow (kf_11_7 ht) (kf_11_0 ht)) mv_X4_longestRow ln_X11_331 (kf_11_7 ht) ⟨by decide, by decide⟩ (Nat.le_of_ble_eq_true rfl) dX11_row_8 (pc2 := 11) rfl (fun r2 s1 => ?_)
  exact g_iret hc dX11_row_11
set_option maxRecDepth 100000 in
set_option maxHeartbeats 4000000 in
def f_X11_seen (n : Nat) (t : Nat) (a0 : Int32) (a1 : Int32) (a2 : Int32) (s0 : q_Sto) : Option (Int32 × q_Sto) :=
  if a0 = (-1) then (
  q_callv (f_X6_clear n (q_RF (q_RF t 0) 6) s0) fun s2 =>
  some (0, s2))
  else (
  q_call (f_X9_hasMule n (q_RF (q_RF t 0) 0) a0 s0) fun r5 s4 =>
  if r5 = 0 then (
  some ((-1), s4))
  else (
  q_call (f_X9_hasMan n (q_RF (q_RF t 0) 0) a1 s4) fun r8 s7 =>
  if r8 = 0 then (
  some ((-1), s7))
  else (
  q_call (f_X6_isFull n (q_RF (q_RF t 0) 6) s7) fun r11 s10 =>
  if r11 = 0 then (
  if a2 = 0 then (
  q_callv (f_X6_add n (q_RF (q_RF t 0) 6) a0 a1 0 0 s10) fun s14 =>
  some ((s14 (q_RF (q_RF t 0) 6) 2), s14))
  else (
  q_callv (f_X6_add n (q_RF (q_RF t 0) 6) a0 a1 1 0 s10) fun s16 =>
  some ((s16 (q_RF (q_RF t 0) 6) 2), s16)))
  else (
  some ((-1), s10)))))
set_option maxRecDepth 100000 in
set_option maxHeartbeats 4000000 in
theorem C_X11_seen {l : Launch} {w : q_Wd} {n : Nat} {t : Nat} {a0 : Int32} {a1 : Int32} {a2 : Int32} (ht : q_KD t = .inl 11) {s0 : q_Sto} : q_C l w yX11_seen cX11_seen 5 (some .int) (q_rm 1 25) [q_rf w t, .int a0, .int a1, .int a2] s0 (f_X11_seen n t a0 a1 a2 s0) := q_CofG [some (q_rf w t), some (.int a0), some (.int a1), some (.int a2), none] (by decide +kernel) rfl rfl (Nat.le_of_ble_eq_true rfl) fun cx hl hc => by
  have hc : q_ok w cx RX11 cX11_seen 5 (some .int) (q_rm 1 25) := hc
  rw [f_X11_seen]
  refine g_rl0 hc dX11_seen_0 rfl (pc2 := 1) rfl ?_
  refine g_getR hc fl_X11_12 rfl ht dX11_seen_1 (pc2 := 4) rfl ?_
  refine g_getR hc fl_X11_334 rfl (kf_11_0 ht) dX11_seen_4 (pc2 := 7) rfl ?_
  refine g_rs hc dX11_seen_7 (by decide) (L2 := [some (q_rf w t), some (.int a0), some (.int a1), some (.int a2), some (q_rf w (q_RF (q_RF t 0) 6))]) rfl (pc2 := 9) rfl ?_
  refine g_il1 hc dX11_seen_9 rfl (pc2 := 10) rfl ?_
  refine g_iconst hc dX11_seen_10 ic_m1 (pc2 := 11) rfl ?_
  refine g_icmp_ne hc dX11_seen_11 (pc1 := 14) (pc2 := 21) rfl rfl (fun _ => ?_) (fun _ => ?_)
  · refine g_rl hc dX11_seen_14 rfl (pc2 := 16) rfl ?_
    refine g_callV0v hc (C_X6_clear (kf_10_6 (kf_11_0 ht))) mv_X6_clear ln_X11_337 (kf_10_6 (kf_11_0 ht)) ⟨by decide, by decide⟩ (Nat.le_of_ble_eq_true rfl) dX11_seen_16 (pc2 := 19) rfl (fun s2 => ?_)
    refine g_iconst hc dX11_seen_19 ic_0 (pc2 := 20) rfl ?_
    exact g_iret hc dX11_seen_20
  · refine g_rl0 hc dX11_seen_21 rfl (pc2 := 22) rfl ?_
    refine g_getR hc fl_X11_12 rfl ht dX11_seen_22 (pc2 := 25) rfl ?_
    refine g_getR hc fl_X11_81 rfl (kf_11_0 ht) dX11_seen_25 (pc2 := 28) rfl ?_
    refine g_il1 hc dX11_seen_28 rfl (pc2 := 29) rfl ?_
    refine g_callV1 hc (C_X9_hasMule (kf_10_0 (kf_11_0 ht))) mv_X9_hasMule ln_X11_119 (kf_10_0 (kf_11_0 ht)) ⟨by decide, by decide⟩ (Nat.le_of_ble_eq_true rfl) dX11_seen_29 (pc2 := 32) rfl (fun r5 s4 => ?_)
    refine g_if_eq hc dX11_seen_32 (pc1 := 57) (pc2 := 35) rfl rfl (fun _ => ?_) (fun _ => ?_)
    · refine g_iconst hc dX11_seen_57 ic_m1 (pc2 := 58) rfl ?_
      exact g_iret hc dX11_seen_58
    · refine g_rl0 hc dX11_seen_35 rfl (pc2 := 36) rfl ?_
      refine g_getR hc fl_X11_12 rfl ht dX11_seen_36 (pc2 := 39) rfl ?_
      refine g_getR hc fl_X11_81 rfl (kf_11_0 ht) dX11_seen_39 (pc2 := 42) rfl ?_
      refine g_il2 hc dX11_seen_42 rfl (pc2 := 43) rfl ?_
      refine g_callV1 hc (C_X9_hasMan (kf_10_0 (kf_11_0 ht))) mv_X9_hasMan ln_X11_126 (kf_10_0 (kf_11_0 ht)) ⟨by decide, by decide⟩ (Nat.le_of_ble_eq_true rfl) dX11_seen_43 (pc2 := 46) rfl (fun r8 s7 => ?_)
      refine g_if_eq hc dX11_seen_46 (pc1 := 57) (pc2 := 49) rfl rfl (fun _ => ?_) (fun _ => ?_)
      · refine g_iconst hc dX11_seen_57 ic_m1 (pc2 := 58) rfl ?_
        exact g_iret hc dX11_seen_58
      · refine g_rl hc dX11_seen_49 rfl (pc2 := 51) rfl ?_
        refine g_callV0 hc (C_X6_isFull (kf_10_6 (kf_11_0 ht))) mv_X6_isFull ln_X11_340 (kf_10_6 (kf_11_0 ht)) ⟨by decide, by decide⟩ (Nat.le_of_ble_eq_true rfl) dX11_seen_51 (pc2 := 54) rfl (fun r11 s10 => ?_)
        refine g_if_eq hc dX11_seen_54 (pc1 := 59) (pc2 := 57) rfl rfl (fun _ => ?_) (fun _ => ?_)
        · refine g_rl hc dX11_seen_59 rfl (pc2 := 61) rfl ?_
          refine g_il1 hc dX11_seen_61 rfl (pc2 := 62) rfl ?_
          refine g_il2 hc dX11_seen_62 rfl (pc2 := 63) rfl ?_
          refine g_il3 hc dX11_seen_63 rfl (pc2 := 64) rfl ?_
          refine g_if_eq hc dX11_seen_64 (pc1 := 71) (pc2 := 67) rfl rfl (fun _ => ?_) (fun _ => ?_)
          · refine g_iconst hc dX11_seen_71 ic_0 (pc2 := 72) rfl ?_
            refine g_iconst hc dX11_seen_72 ic_0 (pc2 := 73) rfl ?_
            refine g_callV4v hc (C_X6_add (kf_10_6 (kf_11_0 ht))) mv_X6_add ln_X11_343 (kf_10_6 (kf_11_0 ht)) ⟨by decide, by decide⟩ (Nat.le_of_ble_eq_true rfl) dX11_seen_73 (pc2 := 76) rfl (fun s14 => ?_)
            refine g_rl hc dX11_seen_76 rfl (pc2 := 78) rfl ?_
            refine g_getI hc fl_X11_233 rfl (kf_10_6 (kf_11_0 ht)) dX11_seen_78 (pc2 := 81) rfl ?_
            exact g_iret hc dX11_seen_81
          · refine g_iconst hc dX11_seen_67 ic_1 (pc2 := 68) rfl ?_
            refine g_goto hc dX11_seen_68 (pc2 := 72) rfl ?_
            refine g_iconst hc dX11_seen_72 ic_0 (pc2 := 73) rfl ?_
            refine g_callV4v hc (C_X6_add (kf_10_6 (kf_11_0 ht))) mv_X6_add ln_X11_343 (kf_10_6 (kf_11_0 ht)) ⟨by decide, by decide⟩ (Nat.le_of_ble_eq_true rfl) dX11_seen_73 (pc2 := 76) rfl (fun s16 => ?_)
            refine g_rl hc dX11_seen_76 rfl (pc2 := 78) rfl ?_
            refine g_getI hc fl_X11_233 rfl (kf_10_6 (kf_11_0 ht)) dX11_seen_78 (pc2 := 81) rfl ?_
            exact g_iret hc dX11_seen_81
        · refine g_iconst hc dX11_seen_57 ic_m1 (pc2 := 58) rfl ?_
          exact g_iret hc dX11_seen_58
set_option maxRecDepth 100000 in
set_option maxHeartbeats 4000000 in
def f_X11_fits (n : Nat) (t : Nat) (a0 : Int32) (s0 : q_Sto) : Option (Int32 × q_Sto) :=
  if a0 = 0 then (
  q_call (f_X4_countFits n (q_RF t 7) (q_RF t 0) s0) fun r3 s2 =>
  some (r3, s2))
  else
  if a0 = 1 then (
  q_call (f_X4_leastFit n (q_RF t 7) (q_RF t 0) s0) fun r6 s5 =>
  some (r6, s5))
  else
  if a0 = 2 then (
  q_call (f_X4_bestAsk n (q_RF t 7) (q_RF t 0) 1 s0) fun r9 s8 =>
  some (r9, s8))
  else
  if a0 = 3 then (
  q_call (f_X4_bestAsk n (q_RF t 7) (q_RF t 0) 0 s0) fun r12 s11 =>
  some (r12, s11))
  else
  (some ((-1), s0))
set_option maxRecDepth 100000 in
set_option maxHeartbeats 4000000 in
theorem C_X11_fits {l : Launch} {w : q_Wd} {n : Nat} {t : Nat} {a0 : Int32} (ht : q_KD t = .inl 11) {s0 : q_Sto} : q_C l w yX11_fits cX11_fits 2 (some .int) (q_rm 5 120) [q_rf w t, .int a0] s0 (f_X11_fits n t a0 s0) := q_CofG [some (q_rf w t), some (.int a0)] (by decide +kernel) rfl rfl (Nat.le_of_ble_eq_true rfl) fun cx hl hc => by
  have hc : q_ok w cx RX11 cX11_fits 2 (some .int) (q_rm 5 120) := hc
  rw [f_X11_fits]
  refine g_il1 hc dX11_fits_0 rfl (pc2 := 1) rfl ?_
  refine g_swc (pc2 := 0) hc dX11_fits_1 (c := 0) (by decide) (by decide) rfl (pc1 := 32) rfl (fun _ => ?_) (fun c1 => ?_)
  · refine g_rl0 hc dX11_fits_32 rfl (pc2 := 33) rfl ?_
    refine g_getR hc fl_X11_54 rfl ht dX11_fits_33 (pc2 := 36) rfl ?_
    refine g_rl0 hc dX11_fits_36 rfl (pc2 := 37) rfl ?_
    refine g_getR hc fl_X11_12 rfl ht dX11_fits_37 (pc2 := 40) rfl ?_
    refine g_callV1 hc (C_X4_countFits (kf_11_7 ht) (kf_11_0 ht)) mv_X4_countFits ln_X11_346 (kf_11_7 ht) ⟨by decide, by decide⟩ (Nat.le_of_ble_eq_true rfl) dX11_fits_40 (pc2 := 43) rfl (fun r3 s2 => ?_)
    exact g_iret hc dX11_fits_43
  refine g_swc (pc2 := 0) hc dX11_fits_1 (c := 1) (by decide) (by decide) rfl (pc1 := 44) rfl (fun _ => ?_) (fun c4 => ?_)
  · refine g_rl0 hc dX11_fits_44 rfl (pc2 := 45) rfl ?_
    refine g_getR hc fl_X11_54 rfl ht dX11_fits_45 (pc2 := 48) rfl ?_
    refine g_rl0 hc dX11_fits_48 rfl (pc2 := 49) rfl ?_
    refine g_getR hc fl_X11_12 rfl ht dX11_fits_49 (pc2 := 52) rfl ?_
    refine g_callV1 hc (C_X4_leastFit (kf_11_7 ht) (kf_11_0 ht)) mv_X4_leastFit ln_X11_349 (kf_11_7 ht) ⟨by decide, by decide⟩ (Nat.le_of_ble_eq_true rfl) dX11_fits_52 (pc2 := 55) rfl (fun r6 s5 => ?_)
    exact g_iret hc dX11_fits_55
  refine g_swc (pc2 := 0) hc dX11_fits_1 (c := 2) (by decide) (by decide) rfl (pc1 := 56) rfl (fun _ => ?_) (fun c7 => ?_)
  · refine g_rl0 hc dX11_fits_56 rfl (pc2 := 57) rfl ?_
    refine g_getR hc fl_X11_54 rfl ht dX11_fits_57 (pc2 := 60) rfl ?_
    refine g_rl0 hc dX11_fits_60 rfl (pc2 := 61) rfl ?_
    refine g_getR hc fl_X11_12 rfl ht dX11_fits_61 (pc2 := 64) rfl ?_
    refine g_iconst hc dX11_fits_64 ic_1 (pc2 := 65) rfl ?_
    refine g_callV2 hc (C_X4_bestAsk (kf_11_7 ht) (kf_11_0 ht)) mv_X4_bestAsk ln_X11_352 (kf_11_7 ht) ⟨by decide, by decide⟩ (Nat.le_of_ble_eq_true rfl) dX11_fits_65 (pc2 := 68) rfl (fun r9 s8 => ?_)
    exact g_iret hc dX11_fits_68
  refine g_swc (pc2 := 0) hc dX11_fits_1 (c := 3) (by decide) (by decide) rfl (pc1 := 69) rfl (fun _ => ?_) (fun c10 => ?_)
  · refine g_rl0 hc dX11_fits_69 rfl (pc2 := 70) rfl ?_
    refine g_getR hc fl_X11_54 rfl ht dX11_fits_70 (pc2 := 73) rfl ?_
    refine g_rl0 hc dX11_fits_73 rfl (pc2 := 74) rfl ?_
    refine g_getR hc fl_X11_12 rfl ht dX11_fits_74 (pc2 := 77) rfl ?_
    refine g_iconst hc dX11_fits_77 ic_0 (pc2 := 78) rfl ?_
    refine g_callV2 hc (C_X4_bestAsk (kf_11_7 ht) (kf_11_0 ht)) mv_X4_bestAsk ln_X11_352 (kf_11_7 ht) ⟨by decide, by decide⟩ (Nat.le_of_ble_eq_true rfl) dX11_fits_78 (pc2 := 81) rfl (fun r12 s11 => ?_)
    exact g_iret hc dX11_fits_81
  refine g_swd (pc2 := 0) hc dX11_fits_1 (fun i a b e => ?_) (pc1 := 82) rfl ?_
  · rcases (show i = 0 ∨ i = 1 ∨ i = 2 ∨ i = 3 by omega) with rfl | rfl | rfl | rfl
    · exact q_swx (c := 0) (by decide) c1 e
    · exact q_swx (c := 1) (by decide) c4 e
    · exact q_swx (c := 2) (by decide) c7 e
    · exact q_swx (c := 3) (by decide) c10 e
  · refine g_iconst hc dX11_fits_82 ic_m1 (pc2 := 83) rfl ?_
    exact g_iret hc dX11_fits_83
set_option maxRecDepth 100000 in
set_option maxHeartbeats 4000000 in
def f_X11_led_L54 (n : Nat) (x0 : Nat) (x1 : Int32) (x2 : Int32) (x3 : Int32) (x4 : Nat) (k98 : Int32 → Int32 → q_Sto → Option (Int32 × q_Sto)) : Nat → Int32 → Int32 → Int32 → q_Sto → Option (Int32 × q_Sto)
  | 0, _, _, _, _ => none
  | j + 1, x5, x6, x7, s0 =>
    if x7 < (s0 x4 9) then (
    q_call (f_X10_likelihood n (q_RF x0 0) x1 x2 x7 s0) fun r11 s10 =>
    if r11 ≤ x6 then (
    f_X11_led_L54 n x0 x1 x2 x3 x4 k98 j x5 x6 (x7 + 1) s10)
    else (
    f_X11_led_L54 n x0 x1 x2 x3 x4 k98 j x7 r11 (x7 + 1) s10))
    else (
    k98 x5 x6 s0)
set_option maxRecDepth 100000 in
set_option maxHeartbeats 4000000 in
def f_X11_led (n : Nat) (t : Nat) (a0 : Int32) (a1 : Int32) (a2 : Int32) (s0 : q_Sto) : Option (Int32 × q_Sto) :=
  if a0 < 0 then (
  some ((-1), s0))
  else (
  if a0 < (1 <<< ((s0 (q_RF (q_RF t 0) 0) 8) &&& 31)) then (
  q_call (f_X11_isWithin n a1 1 24 s0) fun r4 s3 =>
  if r4 = 0 then (
  some ((-1), s3))
  else (
  q_call (f_X11_isWithin n a2 0 1 s3) fun r7 s6 =>
  if r7 = 0 then (
  some ((-1), s6))
  else (
  f_X11_led_L54 n t a0 a1 a2 (q_RF (q_RF t 0) 0) (fun (y13 : Int32) (y14 : Int32) (s15 : q_Sto) =>
  if a2 = 0 then (
  some (y13, s15))
  else (
  some (y14, s15))) n (-1) (-1) 0 s6)))
  else (
  some ((-1), s0)))
set_option maxRecDepth 100000 in
set_option maxHeartbeats 4000000 in
theorem t_X11_led_L54 {w : q_Wd} {cx : q_Cx} (hc : q_ok w cx RX11 cX11_led 9 (some .int) (q_rm 4 102)) {n : Nat} {x0 : Nat} {x1 : Int32} {x2 : Int32} {x3 : Int32} {x4 : Nat} (hx0 : q_KD x0 = .inl 11) (hx4 : q_KD x4 = .inl 9) {k98 : Int32 → Int32 → q_Sto → Option (Int32 × q_Sto)} (hk98 : ∀ (y5 : Int32) (y6 : Int32) (s1 : q_Sto), q_G w cx 9 (some .int) 98 [none, none, none, some (.int x3), none, some (.int y5), some (.int y6), none, none] [] s1 (k98 y5 y6 s1)) :
    ∀ (j : Nat) (x5 : Int32) (x6 : Int32) (x7 : Int32) (s0 : q_Sto), q_G w cx 9 (some .int) 54 [some (q_rf w x0), some (.int x1), some (.int x2), some (.int x3), some (q_rf w x4), some (.int x5), some (.int x6), some (.int x7), none] [] s0 (f_X11_led_L54 n x0 x1 x2 x3 x4 k98 j x5 x6 x7 s0) := by
  intro j
  induction j with
  | zero =>
    intro _ _ _ _
    rw [f_X11_led_L54]
    exact q_none
  | succ j ih =>
    intro x5 x6 x7 s0
    rw [f_X11_led_L54]
    refine g_iload hc dX11_led_54 rfl (pc2 := 56) rfl ?_
    refine g_rl hc dX11_led_56 rfl (pc2 := 58) rfl ?_
    refine g_getI hc fl_X11_359 rfl hx4 dX11_led_58 (pc2 := 61) rfl ?_
    refine g_icmp_ge hc dX11_led_61 (pc1 := 64) (pc2 := 98) rfl rfl (fun _ => ?_) (fun _ => ?_)
    · refine g_rl0 hc dX11_led_64 rfl (pc2 := 65) rfl ?_
      refine g_getR hc fl_X11_12 rfl hx0 dX11_led_65 (pc2 := 68) rfl ?_
      refine g_il1 hc dX11_led_68 rfl (pc2 := 69) rfl ?_
      refine g_il2 hc dX11_led_69 rfl (pc2 := 70) rfl ?_
      refine g_iload hc dX11_led_70 rfl (pc2 := 72) rfl ?_
      refine g_callV3 hc (C_X10_likelihood (kf_11_0 hx0)) mv_X10_likelihood ln_X11_362 (kf_11_0 hx0) ⟨by decide, by decide⟩ (Nat.le_of_ble_eq_true rfl) dX11_led_72 (pc2 := 75) rfl (fun r11 s10 => ?_)
      refine g_istore hc dX11_led_75 (by decide) (L2 := [some (q_rf w x0), some (.int x1), some (.int x2), some (.int x3), some (q_rf w x4), some (.int x5), some (.int x6), some (.int x7), some (.int r11)]) rfl (pc2 := 77) rfl ?_
      refine g_iload hc dX11_led_77 rfl (pc2 := 79) rfl ?_
      refine g_iload hc dX11_led_79 rfl (pc2 := 81) rfl ?_
      refine g_icmp_le hc dX11_led_81 (pc1 := 92) (pc2 := 84) rfl rfl (fun _ => ?_) (fun _ => ?_)
      · refine g_iinc hc dX11_led_92 rfl (q_ii ic_1) (by decide) (L2 := [some (q_rf w x0), some (.int x1), some (.int x2), some (.int x3), some (q_rf w x4), some (.int x5), some (.int x6), some (.int (x7 + 1)), some (.int r11)]) rfl (pc2 := 95) rfl ?_
        refine g_goto hc dX11_led_95 (pc2 := 54) rfl ?_
        refine q_Gmask [true, true, true, true, true, true, true, true, false] (L2 := [some (q_rf w x0), some (.int x1), some (.int x2), some (.int x3), some (q_rf w x4), some (.int x5), some (.int x6), some (.int (x7 + 1)), none]) rfl ?_
        exact ih _ _ _ _
      · refine g_iload hc dX11_led_84 rfl (pc2 := 86) rfl ?_
        refine g_istore hc dX11_led_86 (by decide) (L2 := [some (q_rf w x0), some (.int x1), some (.int x2), some (.int x3), some (q_rf w x4), some (.int x5), some (.int r11), some (.int x7), some (.int r11)]) rfl (pc2 := 88) rfl ?_
        refine g_iload hc dX11_led_88 rfl (pc2 := 90) rfl ?_
        refine g_istore hc dX11_led_90 (by decide) (L2 := [some (q_rf w x0), some (.int x1), some (.int x2), some (.int x3), some (q_rf w x4), some (.int x7), some (.int r11), some (.int x7), some (.int r11)]) rfl (pc2 := 92) rfl ?_
        refine g_iinc hc dX11_led_92 rfl (q_ii ic_1) (by decide) (L2 := [some (q_rf w x0), some (.int x1), some (.int x2), some (.int x3), some (q_rf w x4), some (.int x7), some (.int r11), some (.int (x7 + 1)), some (.int r11)]) rfl (pc2 := 95) rfl ?_
        refine g_goto hc dX11_led_95 (pc2 := 54) rfl ?_
        refine q_Gmask [true, true, true, true, true, true, true, true, false] (L2 := [some (q_rf w x0), some (.int x1), some (.int x2), some (.int x3), some (q_rf w x4), some (.int x7), some (.int r11), some (.int (x7 + 1)), none]) rfl ?_
        exact ih _ _ _ _
    · refine q_Gmask [false, false, false, true, false, true, true, false, true] (L2 := [none, none, none, some (.int x3), none, some (.int x5), some (.int x6), none, none]) rfl ?_
      exact hk98 _ _ _
set_option maxRecDepth 100000 in
set_option maxHeartbeats 4000000 in
theorem C_X11_led {l : Launch} {w : q_Wd} {n : Nat} {t : Nat} {a0 : Int32} {a1 : Int32} {a2 : Int32} (ht : q_KD t = .inl 11) {s0 : q_Sto} : q_C l w yX11_led cX11_led 9 (some .int) (q_rm 4 102) [q_rf w t, .int a0, .int a1, .int a2] s0 (f_X11_led n t a0 a1 a2 s0) := q_CofG [some (q_rf w t), some (.int a0), some (.int a1), some (.int a2), none, none, none, none, none] (by decide +kernel) rfl rfl (Nat.le_of_ble_eq_true rfl) fun cx hl hc => by
  have hc : q_ok w cx RX11 cX11_led 9 (some .int) (q_rm 4 102) := hc
  rw [f_X11_led]
  refine g_rl0 hc dX11_led_0 rfl (pc2 := 1) rfl ?_
  refine g_getR hc fl_X11_12 rfl ht dX11_led_1 (pc2 := 4) rfl ?_
  refine g_getR hc fl_X11_81 rfl (kf_11_0 ht) dX11_led_4 (pc2 := 7) rfl ?_
  refine g_rs hc dX11_led_7 (by decide) (L2 := [some (q_rf w t), some (.int a0), some (.int a1), some (.int a2), some (q_rf w (q_RF (q_RF t 0) 0)), none, none, none, none]) rfl (pc2 := 9) rfl ?_
  refine g_il1 hc dX11_led_9 rfl (pc2 := 10) rfl ?_
  refine g_if_lt hc dX11_led_10 (pc1 := 43) (pc2 := 13) rfl rfl (fun _ => ?_) (fun _ => ?_)
  · refine g_iconst hc dX11_led_43 ic_m1 (pc2 := 44) rfl ?_
    exact g_iret hc dX11_led_44
  · refine g_il1 hc dX11_led_13 rfl (pc2 := 14) rfl ?_
    refine g_iconst hc dX11_led_14 ic_1 (pc2 := 15) rfl ?_
    refine g_rl hc dX11_led_15 rfl (pc2 := 17) rfl ?_
    refine g_getI hc fl_X11_356 rfl (kf_10_0 (kf_11_0 ht)) dX11_led_17 (pc2 := 20) rfl ?_
    refine g_ishl hc dX11_led_20 (pc2 := 21) rfl ?_
    refine g_icmp_ge hc dX11_led_21 (pc1 := 24) (pc2 := 43) rfl rfl (fun _ => ?_) (fun _ => ?_)
    · refine g_il2 hc dX11_led_24 rfl (pc2 := 25) rfl ?_
      refine g_iconst hc dX11_led_25 ic_1 (pc2 := 26) rfl ?_
      refine g_bipush hc dX11_led_26 bp_24 (pc2 := 28) rfl ?_
      refine g_callS3 hc C_X11_isWithin mv_X11_isWithin ln_X11_91 ⟨by decide, by decide⟩ (Nat.le_of_ble_eq_true rfl) dX11_led_28 (pc2 := 31) rfl (fun r4 s3 => ?_)
      refine g_if_eq hc dX11_led_31 (pc1 := 43) (pc2 := 34) rfl rfl (fun _ => ?_) (fun _ => ?_)
      · refine g_iconst hc dX11_led_43 ic_m1 (pc2 := 44) rfl ?_
        exact g_iret hc dX11_led_44
      · refine g_il3 hc dX11_led_34 rfl (pc2 := 35) rfl ?_
        refine g_iconst hc dX11_led_35 ic_0 (pc2 := 36) rfl ?_
        refine g_iconst hc dX11_led_36 ic_1 (pc2 := 37) rfl ?_
        refine g_callS3 hc C_X11_isWithin mv_X11_isWithin ln_X11_91 ⟨by decide, by decide⟩ (Nat.le_of_ble_eq_true rfl) dX11_led_37 (pc2 := 40) rfl (fun r7 s6 => ?_)
        refine g_if_ne hc dX11_led_40 (pc1 := 43) (pc2 := 45) rfl rfl (fun _ => ?_) (fun _ => ?_)
        · refine g_iconst hc dX11_led_43 ic_m1 (pc2 := 44) rfl ?_
          exact g_iret hc dX11_led_44
        · refine g_iconst hc dX11_led_45 ic_m1 (pc2 := 46) rfl ?_
          refine g_istore hc dX11_led_46 (by decide) (L2 := [some (q_rf w t), some (.int a0), some (.int a1), some (.int a2), some (q_rf w (q_RF (q_RF t 0) 0)), some (.int (-1)), none, none, none]) rfl (pc2 := 48) rfl ?_
          refine g_iconst hc dX11_led_48 ic_m1 (pc2 := 49) rfl ?_
          refine g_istore hc dX11_led_49 (by decide) (L2 := [some (q_rf w t), some (.int a0), some (.int a1), some (.int a2), some (q_rf w (q_RF (q_RF t 0) 0)), some (.int (-1)), some (.int (-1)), none, none]) rfl (pc2 := 51) rfl ?_
          refine g_iconst hc dX11_led_51 ic_0 (pc2 := 52) rfl ?_
          refine g_istore hc dX11_led_52 (by decide) (L2 := [some (q_rf w t), some (.int a0), some (.int a1), some (.int a2), some (q_rf w (q_RF (q_RF t 0) 0)), some (.int (-1)), some (.int (-1)), some (.int 0), none]) rfl (pc2 := 54) rfl ?_
          refine t_X11_led_L54 hc ht (kf_10_0 (kf_11_0 ht)) (fun y13 y14 s15 => ?_) n _ _ _ _
          refine g_il3 hc dX11_led_98 rfl (pc2 := 99) rfl ?_
          refine g_if_ne hc dX11_led_99 (pc1 := 102) (pc2 := 107) rfl rfl (fun _ => ?_) (fun _ => ?_)
          · refine g_iload hc dX11_led_102 rfl (pc2 := 104) rfl ?_
            refine g_goto hc dX11_led_104 (pc2 := 109) rfl ?_
            exact g_iret hc dX11_led_109
          · refine g_iload hc dX11_led_107 rfl (pc2 := 109) rfl ?_
            exact g_iret hc dX11_led_109
    · refine g_iconst hc dX11_led_43 ic_m1 (pc2 := 44) rfl ?_
      exact g_iret hc dX11_led_44
set_option maxRecDepth 100000 in
set_option maxHeartbeats 4000000 in
def f_X11_game (n : Nat) (t : Nat) (a0 : Int32) (s0 : q_Sto) : Option (Int32 × q_Sto) :=
  q_call (f_X11_isWithin n a0 0 1 s0) fun r2 s1 =>
  if r2 = 0 then (
  some ((-1), s1))
  else (
  if a0 = 0 then (
  q_call (f_X4_bestTaking n (q_RF t 7) (q_RF (q_RF t 0) 0) 1 s1) fun r6 s5 =>
  some (r6, s5))
  else (
  q_call (f_X4_bestTaking n (q_RF t 7) (q_RF (q_RF t 0) 0) 0 s1) fun r8 s7 =>
  some (r8, s7)))
set_option maxRecDepth 100000 in
set_option maxHeartbeats 4000000 in
theorem C_X11_game {l : Launch} {w : q_Wd} {n : Nat} {t : Nat} {a0 : Int32} (ht : q_KD t = .inl 11) {s0 : q_Sto} : q_C l w yX11_game cX11_game 2 (some .int) (q_rm 3 71) [q_rf w t, .int a0] s0 (f_X11_game n t a0 s0) := q_CofG [some (q_rf w t), some (.int a0)] (by decide +kernel) rfl rfl (Nat.le_of_ble_eq_true rfl) fun cx hl hc => by
  have hc : q_ok w cx RX11 cX11_game 2 (some .int) (q_rm 3 71) := hc
  rw [f_X11_game]
  refine g_il1 hc dX11_game_0 rfl (pc2 := 1) rfl ?_
  refine g_iconst hc dX11_game_1 ic_0 (pc2 := 2) rfl ?_
  refine g_iconst hc dX11_game_2 ic_1 (pc2 := 3) rfl ?_
  refine g_callS3 hc C_X11_isWithin mv_X11_isWithin ln_X11_91 ⟨by decide, by decide⟩ (Nat.le_of_ble_eq_true rfl) dX11_game_3 (pc2 := 6) rfl (fun r2 s1 => ?_)
  refine g_if_ne hc dX11_game_6 (pc1 := 9) (pc2 := 11) rfl rfl (fun _ => ?_) (fun _ => ?_)
  · refine g_iconst hc dX11_game_9 ic_m1 (pc2 := 10) rfl ?_
    exact g_iret hc dX11_game_10
  · refine g_rl0 hc dX11_game_11 rfl (pc2 := 12) rfl ?_
    refine g_getR hc fl_X11_54 rfl ht dX11_game_12 (pc2 := 15) rfl ?_
    refine g_rl0 hc dX11_game_15 rfl (pc2 := 16) rfl ?_
    refine g_getR hc fl_X11_12 rfl ht dX11_game_16 (pc2 := 19) rfl ?_
    refine g_getR hc fl_X11_81 rfl (kf_11_0 ht) dX11_game_19 (pc2 := 22) rfl ?_
    refine g_il1 hc dX11_game_22 rfl (pc2 := 23) rfl ?_
    refine g_if_ne hc dX11_game_23 (pc1 := 26) (pc2 := 30) rfl rfl (fun _ => ?_) (fun _ => ?_)
    · refine g_iconst hc dX11_game_26 ic_1 (pc2 := 27) rfl ?_
      refine g_goto hc dX11_game_27 (pc2 := 31) rfl ?_
      refine g_callV2 hc (C_X4_bestTaking (kf_11_7 ht) (kf_10_0 (kf_11_0 ht))) mv_X4_bestTaking ln_X11_365 (kf_11_7 ht) ⟨by decide, by decide⟩ (Nat.le_of_ble_eq_true rfl) dX11_game_31 (pc2 := 34) rfl (fun r6 s5 => ?_)
      exact g_iret hc dX11_game_34
    · refine g_iconst hc dX11_game_30 ic_0 (pc2 := 31) rfl ?_
      refine g_callV2 hc (C_X4_bestTaking (kf_11_7 ht) (kf_10_0 (kf_11_0 ht))) mv_X4_bestTaking ln_X11_365 (kf_11_7 ht) ⟨by decide, by decide⟩ (Nat.le_of_ble_eq_true rfl) dX11_game_31 (pc2 := 34) rfl (fun r8 s7 => ?_)
      exact g_iret hc dX11_game_34
set_option maxRecDepth 100000 in
set_option maxHeartbeats 4000000 in
def f_X11_share (n : Nat) (t : Nat) (a0 : Int32) (a1 : Int32) (s0 : q_Sto) : Option (Int32 × q_Sto) :=
  q_call (f_X11_isWithin n a0 0 9999 s0) fun r2 s1 =>
  if r2 = 0 then (
  some ((-1), s1))
  else (
  q_call (f_X9_hasMule n (q_RF (q_RF t 0) 0) a1 s1) fun r5 s4 =>
  if r5 = 0 then (
  some ((-1), s4))
  else (
  q_call (f_X4_shareOf n (q_RF t 7) (q_RF t 0) a0 a1 s4) fun r8 s7 =>
  some (r8, s7)))
set_option maxRecDepth 100000 in
set_option maxHeartbeats 4000000 in
theorem C_X11_share {l : Launch} {w : q_Wd} {n : Nat} {t : Nat} {a0 : Int32} {a1 : Int32} (ht : q_KD t = .inl 11) {s0 : q_Sto} : q_C l w yX11_share cX11_share 3 (some .int) (q_rm 4 96) [q_rf w t, .int a0, .int a1] s0 (f_X11_share n t a0 a1 s0) := q_CofG [some (q_rf w t), some (.int a0), some (.int a1)] (by decide +kernel) rfl rfl (Nat.le_of_ble_eq_true rfl) fun cx hl hc => by
  have hc : q_ok w cx RX11 cX11_share 3 (some .int) (q_rm 4 96) := hc
  rw [f_X11_share]
  refine g_il1 hc dX11_share_0 rfl (pc2 := 1) rfl ?_
  refine g_iconst hc dX11_share_1 ic_0 (pc2 := 2) rfl ?_
  refine g_sipush hc dX11_share_2 sp_9999 (pc2 := 5) rfl ?_
  refine g_callS3 hc C_X11_isWithin mv_X11_isWithin ln_X11_91 ⟨by decide, by decide⟩ (Nat.le_of_ble_eq_true rfl) dX11_share_5 (pc2 := 8) rfl (fun r2 s1 => ?_)
  refine g_if_eq hc dX11_share_8 (pc1 := 25) (pc2 := 11) rfl rfl (fun _ => ?_) (fun _ => ?_)
  · refine g_iconst hc dX11_share_25 ic_m1 (pc2 := 26) rfl ?_
    exact g_iret hc dX11_share_26
  · refine g_rl0 hc dX11_share_11 rfl (pc2 := 12) rfl ?_
    refine g_getR hc fl_X11_12 rfl ht dX11_share_12 (pc2 := 15) rfl ?_
    refine g_getR hc fl_X11_81 rfl (kf_11_0 ht) dX11_share_15 (pc2 := 18) rfl ?_
    refine g_il2 hc dX11_share_18 rfl (pc2 := 19) rfl ?_
    refine g_callV1 hc (C_X9_hasMule (kf_10_0 (kf_11_0 ht))) mv_X9_hasMule ln_X11_119 (kf_10_0 (kf_11_0 ht)) ⟨by decide, by decide⟩ (Nat.le_of_ble_eq_true rfl) dX11_share_19 (pc2 := 22) rfl (fun r5 s4 => ?_)
    refine g_if_ne hc dX11_share_22 (pc1 := 25) (pc2 := 27) rfl rfl (fun _ => ?_) (fun _ => ?_)
    · refine g_iconst hc dX11_share_25 ic_m1 (pc2 := 26) rfl ?_
      exact g_iret hc dX11_share_26
    · refine g_rl0 hc dX11_share_27 rfl (pc2 := 28) rfl ?_
      refine g_getR hc fl_X11_54 rfl ht dX11_share_28 (pc2 := 31) rfl ?_
      refine g_rl0 hc dX11_share_31 rfl (pc2 := 32) rfl ?_
      refine g_getR hc fl_X11_12 rfl ht dX11_share_32 (pc2 := 35) rfl ?_
      refine g_il1 hc dX11_share_35 rfl (pc2 := 36) rfl ?_
      refine g_il2 hc dX11_share_36 rfl (pc2 := 37) rfl ?_
      refine g_callV3 hc (C_X4_shareOf (kf_11_7 ht) (kf_11_0 ht)) mv_X4_shareOf ln_X11_369 (kf_11_7 ht) ⟨by decide, by decide⟩ (Nat.le_of_ble_eq_true rfl) dX11_share_37 (pc2 := 40) rfl (fun r8 s7 => ?_)
      exact g_iret hc dX11_share_40
set_option maxRecDepth 100000 in
set_option maxHeartbeats 4000000 in
def f_X11_meets (n : Nat) (t : Nat) (a0 : Int32) (a1 : Int32) (s0 : q_Sto) : Option (Int32 × q_Sto) :=
  q_call (f_X11_isCamp n a0 s0) fun r2 s1 =>
  if r2 = 0 then (
  some ((-1), s1))
  else (
  q_call (f_X11_isCamp n a1 s1) fun r5 s4 =>
  if r5 = 0 then (
  some ((-1), s4))
  else (
  q_call (f_X5_meeting n (q_RF t 6) (q_RF t 0) a0 a1 s4) fun r8 s7 =>
  some (r8, s7)))
set_option maxRecDepth 100000 in
set_option maxHeartbeats 4000000 in
theorem C_X11_meets {l : Launch} {w : q_Wd} {n : Nat} {t : Nat} {a0 : Int32} {a1 : Int32} (ht : q_KD t = .inl 11) {s0 : q_Sto} : q_C l w yX11_meets cX11_meets 3 (some .int) (q_rm 3 75) [q_rf w t, .int a0, .int a1] s0 (f_X11_meets n t a0 a1 s0) := q_CofG [some (q_rf w t), some (.int a0), some (.int a1)] (by decide +kernel) rfl rfl (Nat.le_of_ble_eq_true rfl) fun cx hl hc => by
  have hc : q_ok w cx RX11 cX11_meets 3 (some .int) (q_rm 3 75) := hc
  rw [f_X11_meets]
  refine g_il1 hc dX11_meets_0 rfl (pc2 := 1) rfl ?_
  refine g_callS1 hc C_X11_isCamp mv_X11_isCamp ln_X11_112 ⟨by decide, by decide⟩ (Nat.le_of_ble_eq_true rfl) dX11_meets_1 (pc2 := 4) rfl (fun r2 s1 => ?_)
  refine g_if_eq hc dX11_meets_4 (pc1 := 14) (pc2 := 7) rfl rfl (fun _ => ?_) (fun _ => ?_)
  · refine g_iconst hc dX11_meets_14 ic_m1 (pc2 := 15) rfl ?_
    exact g_iret hc dX11_meets_15
  · refine g_il2 hc dX11_meets_7 rfl (pc2 := 8) rfl ?_
    refine g_callS1 hc C_X11_isCamp mv_X11_isCamp ln_X11_112 ⟨by decide, by decide⟩ (Nat.le_of_ble_eq_true rfl) dX11_meets_8 (pc2 := 11) rfl (fun r5 s4 => ?_)
    refine g_if_ne hc dX11_meets_11 (pc1 := 14) (pc2 := 16) rfl rfl (fun _ => ?_) (fun _ => ?_)
    · refine g_iconst hc dX11_meets_14 ic_m1 (pc2 := 15) rfl ?_
      exact g_iret hc dX11_meets_15
    · refine g_rl0 hc dX11_meets_16 rfl (pc2 := 17) rfl ?_
      refine g_getR hc fl_X11_47 rfl ht dX11_meets_17 (pc2 := 20) rfl ?_
      refine g_rl0 hc dX11_meets_20 rfl (pc2 := 21) rfl ?_
      refine g_getR hc fl_X11_12 rfl ht dX11_meets_21 (pc2 := 24) rfl ?_
      refine g_il1 hc dX11_meets_24 rfl (pc2 := 25) rfl ?_
      refine g_il2 hc dX11_meets_25 rfl (pc2 := 26) rfl ?_
      refine g_callV3 hc (C_X5_meeting (kf_11_6 ht) (kf_11_0 ht)) mv_X5_meeting ln_X11_373 (kf_11_6 ht) ⟨by decide, by decide⟩ (Nat.le_of_ble_eq_true rfl) dX11_meets_26 (pc2 := 29) rfl (fun r8 s7 => ?_)
      exact g_iret hc dX11_meets_29
set_option maxRecDepth 100000 in
set_option maxHeartbeats 4000000 in
def f_X11_undo (n : Nat) (t : Nat) (s0 : q_Sto) : Option (Int32 × q_Sto) :=
  q_call (f_X1_giveBack n (q_RF t 3) (q_RF (q_RF t 0) 0) s0) fun r2 s1 =>
  q_rz r2 s1
set_option maxRecDepth 100000 in
set_option maxHeartbeats 4000000 in
theorem C_X11_undo {l : Launch} {w : q_Wd} {n : Nat} {t : Nat} (ht : q_KD t = .inl 11) {s0 : q_Sto} : q_C l w yX11_undo cX11_undo 1 (some .boolean) (q_rm 4 144) [q_rf w t] s0 (f_X11_undo n t s0) := q_CofG [some (q_rf w t)] (by decide +kernel) rfl rfl (Nat.le_of_ble_eq_true rfl) fun cx hl hc => by
  have hc : q_ok w cx RX11 cX11_undo 1 (some .boolean) (q_rm 4 144) := hc
  rw [f_X11_undo]
  refine g_rl0 hc dX11_undo_0 rfl (pc2 := 1) rfl ?_
  refine g_getR hc fl_X11_26 rfl ht dX11_undo_1 (pc2 := 4) rfl ?_
  refine g_rl0 hc dX11_undo_4 rfl (pc2 := 5) rfl ?_
  refine g_getR hc fl_X11_12 rfl ht dX11_undo_5 (pc2 := 8) rfl ?_
  refine g_getR hc fl_X11_81 rfl (kf_11_0 ht) dX11_undo_8 (pc2 := 11) rfl ?_
  refine g_callV1 hc (C_X1_giveBack (kf_11_3 ht) (kf_10_0 (kf_11_0 ht))) mv_X1_giveBack ln_X11_376 (kf_11_3 ht) ⟨by decide, by decide⟩ (Nat.le_of_ble_eq_true rfl) dX11_undo_11 (pc2 := 14) rfl (fun r2 s1 => ?_)
  exact g_zret hc dX11_undo_14
set_option maxRecDepth 100000 in
set_option maxHeartbeats 4000000 in
def f_X11_image (n : Nat) (t : Nat) (a0 : Int32) (s0 : q_Sto) : Option (Int32 × q_Sto) :=
  if a0 = 0 then (
  if (s0 t 2) = 0 then (
  some (0, s0))
  else (
  q_callv (f_X10_copyFrom n (q_RF t 0) (q_RF t 1) s0) fun s3 =>
  q_callv (f_X1_forget n (q_RF t 3) s3) fun s5 =>
  some (1, s5)))
  else (
  q_callv (f_X10_copyFrom n (q_RF t 1) (q_RF t 0) s0) fun s7 =>
  q_nS1 (q_up s7 t 2 1) fun s9 =>
  some (1, s9))
set_option maxRecDepth 100000 in
set_option maxHeartbeats 4000000 in
theorem C_X11_image {l : Launch} {w : q_Wd} {n : Nat} {t : Nat} {a0 : Int32} (ht : q_KD t = .inl 11) {s0 : q_Sto} : q_C l w yX11_image cX11_image 2 (some .boolean) (q_rm 4 143) [q_rf w t, .int a0] s0 (f_X11_image n t a0 s0) := q_CofG [some (q_rf w t), some (.int a0)] (by decide +kernel) rfl rfl (Nat.le_of_ble_eq_true rfl) fun cx hl hc => by
  have hc : q_ok w cx RX11 cX11_image 2 (some .boolean) (q_rm 4 143) := hc
  rw [f_X11_image]
  refine g_il1 hc dX11_image_0 rfl (pc2 := 1) rfl ?_
  refine g_if_eq hc dX11_image_1 (pc1 := 22) (pc2 := 4) rfl rfl (fun _ => ?_) (fun _ => ?_)
  · refine g_rl0 hc dX11_image_22 rfl (pc2 := 23) rfl ?_
    refine g_getI hc fl_X11_19 rfl ht dX11_image_23 (pc2 := 26) rfl ?_
    refine g_if_ne hc dX11_image_26 (pc1 := 29) (pc2 := 31) rfl rfl (fun _ => ?_) (fun _ => ?_)
    · refine g_iconst hc dX11_image_29 ic_0 (pc2 := 30) rfl ?_
      exact g_zret0 (by decide) hc dX11_image_30
    · refine g_rl0 hc dX11_image_31 rfl (pc2 := 32) rfl ?_
      refine g_getR hc fl_X11_12 rfl ht dX11_image_32 (pc2 := 35) rfl ?_
      refine g_rl0 hc dX11_image_35 rfl (pc2 := 36) rfl ?_
      refine g_getR hc fl_X11_16 rfl ht dX11_image_36 (pc2 := 39) rfl ?_
      refine g_callV1v hc (C_X10_copyFrom (kf_11_0 ht) (kf_11_1 ht)) mv_X10_copyFrom ln_X11_380 (kf_11_0 ht) ⟨by decide, by decide⟩ (Nat.le_of_ble_eq_true rfl) dX11_image_39 (pc2 := 42) rfl (fun s3 => ?_)
      refine g_rl0 hc dX11_image_42 rfl (pc2 := 43) rfl ?_
      refine g_getR hc fl_X11_26 rfl ht dX11_image_43 (pc2 := 46) rfl ?_
      refine g_callV0v hc (C_X1_forget (kf_11_3 ht)) mv_X1_forget ln_X11_88 (kf_11_3 ht) ⟨by decide, by decide⟩ (Nat.le_of_ble_eq_true rfl) dX11_image_46 (pc2 := 49) rfl (fun s5 => ?_)
      refine g_iconst hc dX11_image_49 ic_1 (pc2 := 50) rfl ?_
      exact g_zret0 (by decide) hc dX11_image_50
  · refine g_rl0 hc dX11_image_4 rfl (pc2 := 5) rfl ?_
    refine g_getR hc fl_X11_16 rfl ht dX11_image_5 (pc2 := 8) rfl ?_
    refine g_rl0 hc dX11_image_8 rfl (pc2 := 9) rfl ?_
    refine g_getR hc fl_X11_12 rfl ht dX11_image_9 (pc2 := 12) rfl ?_
    refine g_callV1v hc (C_X10_copyFrom (kf_11_1 ht) (kf_11_0 ht)) mv_X10_copyFrom ln_X11_380 (kf_11_1 ht) ⟨by decide, by decide⟩ (Nat.le_of_ble_eq_true rfl) dX11_image_12 (pc2 := 15) rfl (fun s7 => ?_)
    refine g_rl0 hc dX11_image_15 rfl (pc2 := 16) rfl ?_
    refine g_iconst hc dX11_image_16 ic_1 (pc2 := 17) rfl ?_
    refine g_putZ (by decide) hc fl_X11_19 rfl ht dX11_image_17 (pc2 := 20) rfl (fun s9 => ?_)
    refine g_iconst hc dX11_image_20 ic_1 (pc2 := 21) rfl ?_
    exact g_zret0 (by decide) hc dX11_image_21
set_option maxRecDepth 100000 in
set_option maxHeartbeats 4000000 in
def f_X11_look (n : Nat) (t : Nat) (a0 : Int32) (s0 : q_Sto) : Option (Int32 × q_Sto) :=
  if a0 = 0 then (
  some ((s0 (q_RF (q_RF t 0) 0) 8), s0))
  else
  if a0 = 1 then (
  some ((s0 (q_RF (q_RF t 0) 0) 9), s0))
  else
  if a0 = 2 then (
  some ((s0 (q_RF (q_RF t 0) 0) 16), s0))
  else
  if a0 = 3 then (
  some ((s0 (q_RF (q_RF t 0) 0) 11), s0))
  else
  if a0 = 4 then (
  some ((s0 (q_RF (q_RF t 0) 0) 12), s0))
  else
  if a0 = 5 then (
  some ((s0 (q_RF (q_RF t 0) 0) 13), s0))
  else
  if a0 = 6 then (
  some ((s0 (q_RF (q_RF t 0) 0) 14), s0))
  else
  if a0 = 7 then (
  some ((s0 (q_RF (q_RF t 0) 0) 15), s0))
  else
  if a0 = 8 then (
  q_call (f_X9_lameOnes n (q_RF (q_RF t 0) 0) s0) fun r11 s10 =>
  some (r11, s10))
  else
  if a0 = 9 then (
  some ((s0 (q_RF (q_RF t 0) 0) 17), s0))
  else
  if a0 = 10 then (
  some ((s0 (q_RF (q_RF t 0) 0) 10), s0))
  else
  if a0 = 11 then (
  some ((s0 (q_RF (q_RF t 0) 1) 8), s0))
  else
  if a0 = 12 then (
  some ((s0 (q_RF (q_RF t 0) 2) 2), s0))
  else
  if a0 = 13 then (
  some ((s0 (q_RF (q_RF t 0) 3) 2), s0))
  else
  if a0 = 14 then (
  some ((s0 (q_RF (q_RF t 0) 4) 2), s0))
  else
  if a0 = 15 then (
  some ((s0 (q_RF (q_RF t 0) 5) 2), s0))
  else
  if a0 = 16 then (
  some ((s0 (q_RF (q_RF t 0) 6) 2), s0))
  else
  if a0 = 17 then (
  some ((s0 (q_RF t 3) 1), s0))
  else
  (some ((-1), s0))
set_option maxRecDepth 100000 in
set_option maxHeartbeats 4000000 in
theorem C_X11_look {l : Launch} {w : q_Wd} {n : Nat} {t : Nat} {a0 : Int32} (ht : q_KD t = .inl 11) {s0 : q_Sto} : q_C l w yX11_look cX11_look 3 (some .int) (q_rm 1 22) [q_rf w t, .int a0] s0 (f_X11_look n t a0 s0) := q_CofG [some (q_rf w t), some (.int a0), none] (by decide +kernel) rfl rfl (Nat.le_of_ble_eq_true rfl) fun cx hl hc => by
  have hc : q_ok w cx RX11 cX11_look 3 (some .int) (q_rm 1 22) := hc
  rw [f_X11_look]
  refine g_rl0 hc dX11_look_0 rfl (pc2 := 1) rfl ?_
  refine g_getR hc fl_X11_12 rfl ht dX11_look_1 (pc2 := 4) rfl ?_
  refine g_getR hc fl_X11_81 rfl (kf_11_0 ht) dX11_look_4 (pc2 := 7) rfl ?_
  refine g_rs2 hc dX11_look_7 (by decide) (L2 := [some (q_rf w t), some (.int a0), some (q_rf w (q_RF (q_RF t 0) 0))]) rfl (pc2 := 8) rfl ?_
  refine g_il1 hc dX11_look_8 rfl (pc2 := 9) rfl ?_
  refine g_swc (pc2 := 0) hc dX11_look_9 (c := 0) (by decide) (by decide) rfl (pc1 := 96) rfl (fun _ => ?_) (fun c1 => ?_)
  · refine g_rl2 hc dX11_look_96 rfl (pc2 := 97) rfl ?_
    refine g_getI hc fl_X11_356 rfl (kf_10_0 (kf_11_0 ht)) dX11_look_97 (pc2 := 100) rfl ?_
    exact g_iret hc dX11_look_100
  refine g_swc (pc2 := 0) hc dX11_look_9 (c := 1) (by decide) (by decide) rfl (pc1 := 101) rfl (fun _ => ?_) (fun c2 => ?_)
  · refine g_rl2 hc dX11_look_101 rfl (pc2 := 102) rfl ?_
    refine g_getI hc fl_X11_359 rfl (kf_10_0 (kf_11_0 ht)) dX11_look_102 (pc2 := 105) rfl ?_
    exact g_iret hc dX11_look_105
  refine g_swc (pc2 := 0) hc dX11_look_9 (c := 2) (by decide) (by decide) rfl (pc1 := 106) rfl (fun _ => ?_) (fun c3 => ?_)
  · refine g_rl2 hc dX11_look_106 rfl (pc2 := 107) rfl ?_
    refine g_getI hc fl_X11_171 rfl (kf_10_0 (kf_11_0 ht)) dX11_look_107 (pc2 := 110) rfl ?_
    exact g_iret hc dX11_look_110
  refine g_swc (pc2 := 0) hc dX11_look_9 (c := 3) (by decide) (by decide) rfl (pc1 := 111) rfl (fun _ => ?_) (fun c4 => ?_)
  · refine g_rl2 hc dX11_look_111 rfl (pc2 := 112) rfl ?_
    refine g_getI hc fl_X11_109 rfl (kf_10_0 (kf_11_0 ht)) dX11_look_112 (pc2 := 115) rfl ?_
    exact g_iret hc dX11_look_115
  refine g_swc (pc2 := 0) hc dX11_look_9 (c := 4) (by decide) (by decide) rfl (pc1 := 116) rfl (fun _ => ?_) (fun c5 => ?_)
  · refine g_rl2 hc dX11_look_116 rfl (pc2 := 117) rfl ?_
    refine g_getI hc fl_X11_116 rfl (kf_10_0 (kf_11_0 ht)) dX11_look_117 (pc2 := 120) rfl ?_
    exact g_iret hc dX11_look_120
  refine g_swc (pc2 := 0) hc dX11_look_9 (c := 5) (by decide) (by decide) rfl (pc1 := 121) rfl (fun _ => ?_) (fun c6 => ?_)
  · refine g_rl2 hc dX11_look_121 rfl (pc2 := 122) rfl ?_
    refine g_getI hc fl_X11_150 rfl (kf_10_0 (kf_11_0 ht)) dX11_look_122 (pc2 := 125) rfl ?_
    exact g_iret hc dX11_look_125
  refine g_swc (pc2 := 0) hc dX11_look_9 (c := 6) (by decide) (by decide) rfl (pc1 := 126) rfl (fun _ => ?_) (fun c7 => ?_)
  · refine g_rl2 hc dX11_look_126 rfl (pc2 := 127) rfl ?_
    refine g_getI hc fl_X11_293 rfl (kf_10_0 (kf_11_0 ht)) dX11_look_127 (pc2 := 130) rfl ?_
    exact g_iret hc dX11_look_130
  refine g_swc (pc2 := 0) hc dX11_look_9 (c := 7) (by decide) (by decide) rfl (pc1 := 131) rfl (fun _ => ?_) (fun c8 => ?_)
  · refine g_rl2 hc dX11_look_131 rfl (pc2 := 132) rfl ?_
    refine g_getI hc fl_X11_290 rfl (kf_10_0 (kf_11_0 ht)) dX11_look_132 (pc2 := 135) rfl ?_
    exact g_iret hc dX11_look_135
  refine g_swc (pc2 := 0) hc dX11_look_9 (c := 8) (by decide) (by decide) rfl (pc1 := 136) rfl (fun _ => ?_) (fun c9 => ?_)
  · refine g_rl2 hc dX11_look_136 rfl (pc2 := 137) rfl ?_
    refine g_callV0 hc (C_X9_lameOnes (kf_10_0 (kf_11_0 ht))) mv_X9_lameOnes ln_X11_305 (kf_10_0 (kf_11_0 ht)) ⟨by decide, by decide⟩ (Nat.le_of_ble_eq_true rfl) dX11_look_137 (pc2 := 140) rfl (fun r11 s10 => ?_)
    exact g_iret hc dX11_look_140
  refine g_swc (pc2 := 0) hc dX11_look_9 (c := 9) (by decide) (by decide) rfl (pc1 := 141) rfl (fun _ => ?_) (fun c12 => ?_)
  · refine g_rl2 hc dX11_look_141 rfl (pc2 := 142) rfl ?_
    refine g_getI hc fl_X11_272 rfl (kf_10_0 (kf_11_0 ht)) dX11_look_142 (pc2 := 145) rfl ?_
    exact g_iret hc dX11_look_145
  refine g_swc (pc2 := 0) hc dX11_look_9 (c := 10) (by decide) (by decide) rfl (pc1 := 146) rfl (fun _ => ?_) (fun c13 => ?_)
  · refine g_rl2 hc dX11_look_146 rfl (pc2 := 147) rfl ?_
    refine g_getI hc fl_X11_84 rfl (kf_10_0 (kf_11_0 ht)) dX11_look_147 (pc2 := 150) rfl ?_
    exact g_iret hc dX11_look_150
  refine g_swc (pc2 := 0) hc dX11_look_9 (c := 11) (by decide) (by decide) rfl (pc1 := 151) rfl (fun _ => ?_) (fun c14 => ?_)
  · refine g_rl0 hc dX11_look_151 rfl (pc2 := 152) rfl ?_
    refine g_getR hc fl_X11_12 rfl ht dX11_look_152 (pc2 := 155) rfl ?_
    refine g_getR hc fl_X11_192 rfl (kf_11_0 ht) dX11_look_155 (pc2 := 158) rfl ?_
    refine g_getI hc fl_X11_203 rfl (kf_10_1 (kf_11_0 ht)) dX11_look_158 (pc2 := 161) rfl ?_
    exact g_iret hc dX11_look_161
  refine g_swc (pc2 := 0) hc dX11_look_9 (c := 12) (by decide) (by decide) rfl (pc1 := 162) rfl (fun _ => ?_) (fun c15 => ?_)
  · refine g_rl0 hc dX11_look_162 rfl (pc2 := 163) rfl ?_
    refine g_getR hc fl_X11_12 rfl ht dX11_look_163 (pc2 := 166) rfl ?_
    refine g_getR hc fl_X11_212 rfl (kf_11_0 ht) dX11_look_166 (pc2 := 169) rfl ?_
    refine g_getI hc fl_X11_233 rfl (kf_10_2 (kf_11_0 ht)) dX11_look_169 (pc2 := 172) rfl ?_
    exact g_iret hc dX11_look_172
  refine g_swc (pc2 := 0) hc dX11_look_9 (c := 13) (by decide) (by decide) rfl (pc1 := 173) rfl (fun _ => ?_) (fun c16 => ?_)
  · refine g_rl0 hc dX11_look_173 rfl (pc2 := 174) rfl ?_
    refine g_getR hc fl_X11_12 rfl ht dX11_look_174 (pc2 := 177) rfl ?_
    refine g_getR hc fl_X11_216 rfl (kf_11_0 ht) dX11_look_177 (pc2 := 180) rfl ?_
    refine g_getI hc fl_X11_233 rfl (kf_10_3 (kf_11_0 ht)) dX11_look_180 (pc2 := 183) rfl ?_
    exact g_iret hc dX11_look_183
  refine g_swc (pc2 := 0) hc dX11_look_9 (c := 14) (by decide) (by decide) rfl (pc1 := 184) rfl (fun _ => ?_) (fun c17 => ?_)
  · refine g_rl0 hc dX11_look_184 rfl (pc2 := 185) rfl ?_
    refine g_getR hc fl_X11_12 rfl ht dX11_look_185 (pc2 := 188) rfl ?_
    refine g_getR hc fl_X11_219 rfl (kf_11_0 ht) dX11_look_188 (pc2 := 191) rfl ?_
    refine g_getI hc fl_X11_233 rfl (kf_10_4 (kf_11_0 ht)) dX11_look_191 (pc2 := 194) rfl ?_
    exact g_iret hc dX11_look_194
  refine g_swc (pc2 := 0) hc dX11_look_9 (c := 15) (by decide) (by decide) rfl (pc1 := 195) rfl (fun _ => ?_) (fun c18 => ?_)
  · refine g_rl0 hc dX11_look_195 rfl (pc2 := 196) rfl ?_
    refine g_getR hc fl_X11_12 rfl ht dX11_look_196 (pc2 := 199) rfl ?_
    refine g_getR hc fl_X11_222 rfl (kf_11_0 ht) dX11_look_199 (pc2 := 202) rfl ?_
    refine g_getI hc fl_X11_233 rfl (kf_10_5 (kf_11_0 ht)) dX11_look_202 (pc2 := 205) rfl ?_
    exact g_iret hc dX11_look_205
  refine g_swc (pc2 := 0) hc dX11_look_9 (c := 16) (by decide) (by decide) rfl (pc1 := 206) rfl (fun _ => ?_) (fun c19 => ?_)
  · refine g_rl0 hc dX11_look_206 rfl (pc2 := 207) rfl ?_
    refine g_getR hc fl_X11_12 rfl ht dX11_look_207 (pc2 := 210) rfl ?_
    refine g_getR hc fl_X11_334 rfl (kf_11_0 ht) dX11_look_210 (pc2 := 213) rfl ?_
    refine g_getI hc fl_X11_233 rfl (kf_10_6 (kf_11_0 ht)) dX11_look_213 (pc2 := 216) rfl ?_
    exact g_iret hc dX11_look_216
  refine g_swc (pc2 := 0) hc dX11_look_9 (c := 17) (by decide) (by decide) rfl (pc1 := 217) rfl (fun _ => ?_) (fun c20 => ?_)
  · refine g_rl0 hc dX11_look_217 rfl (pc2 := 218) rfl ?_
    refine g_getR hc fl_X11_26 rfl ht dX11_look_218 (pc2 := 221) rfl ?_
    refine g_getI hc fl_X11_382 rfl (kf_11_3 ht) dX11_look_221 (pc2 := 224) rfl ?_
    exact g_iret hc dX11_look_224
  refine g_swd (pc2 := 0) hc dX11_look_9 (fun i a b e => ?_) (pc1 := 225) rfl ?_
  · rcases (show i = 0 ∨ i = 1 ∨ i = 2 ∨ i = 3 ∨ i = 4 ∨ i = 5 ∨ i = 6 ∨ i = 7 ∨ i = 8 ∨ i = 9 ∨ i = 10 ∨ i = 11 ∨ i = 12 ∨ i = 13 ∨ i = 14 ∨ i = 15 ∨ i = 16 ∨ i = 17 by omega) with rfl | rfl | rfl | rfl | rfl | rfl | rfl | rfl | rfl | rfl | rfl | rfl | rfl | rfl | rfl | rfl | rfl | rfl
    · exact q_swx (c := 0) (by decide) c1 e
    · exact q_swx (c := 1) (by decide) c2 e
    · exact q_swx (c := 2) (by decide) c3 e
    · exact q_swx (c := 3) (by decide) c4 e
    · exact q_swx (c := 4) (by decide) c5 e
    · exact q_swx (c := 5) (by decide) c6 e
    · exact q_swx (c := 6) (by decide) c7 e
    · exact q_swx (c := 7) (by decide) c8 e
    · exact q_swx (c := 8) (by decide) c9 e
    · exact q_swx (c := 9) (by decide) c12 e
    · exact q_swx (c := 10) (by decide) c13 e
    · exact q_swx (c := 11) (by decide) c14 e
    · exact q_swx (c := 12) (by decide) c15 e
    · exact q_swx (c := 13) (by decide) c16 e
    · exact q_swx (c := 14) (by decide) c17 e
    · exact q_swx (c := 15) (by decide) c18 e
    · exact q_swx (c := 16) (by decide) c19 e
    · exact q_swx (c := 17) (by decide) c20 e
  · refine g_iconst hc dX11_look_225 ic_m1 (pc2 := 226) rfl ?_
    exact g_iret hc dX11_look_226
set_option maxRecDepth 100000 in
set_option maxHeartbeats 4000000 in
def f_X12_lesser (n : Nat) (a0 : Int32) (a1 : Int32) (s0 : q_Sto) : Option (Int32 × q_Sto) :=
  if a0 < a1 then (
  some (a0, s0))
  else (
  some (a1, s0))
set_option maxRecDepth 100000 in
set_option maxHeartbeats 4000000 in
theorem C_X12_lesser {l : Launch} {w : q_Wd} {n : Nat} {a0 : Int32} {a1 : Int32}  {s0 : q_Sto} : q_C l w yX12_lesser cX12_lesser 2 (some .int) (q_rm 0 0) [.int a0, .int a1] s0 (f_X12_lesser n a0 a1 s0) := q_CofG [some (.int a0), some (.int a1)] (by decide +kernel) rfl rfl (Nat.le_of_ble_eq_true rfl) fun cx hl hc => by
  have hc : q_ok w cx RX12 cX12_lesser 2 (some .int) (q_rm 0 0) := hc
  rw [f_X12_lesser]
  refine g_il0 hc dX12_lesser_0 rfl (pc2 := 1) rfl ?_
  refine g_il1 hc dX12_lesser_1 rfl (pc2 := 2) rfl ?_
  refine g_icmp_ge hc dX12_lesser_2 (pc1 := 5) (pc2 := 9) rfl rfl (fun _ => ?_) (fun _ => ?_)
  · refine g_il0 hc dX12_lesser_5 rfl (pc2 := 6) rfl ?_
    refine g_goto hc dX12_lesser_6 (pc2 := 10) rfl ?_
    exact g_iret hc dX12_lesser_10
  · refine g_il1 hc dX12_lesser_9 rfl (pc2 := 10) rfl ?_
    exact g_iret hc dX12_lesser_10
set_option maxRecDepth 100000 in
set_option maxHeartbeats 4000000 in
def f_X12_greater (n : Nat) (a0 : Int32) (a1 : Int32) (s0 : q_Sto) : Option (Int32 × q_Sto) :=
  if a0 ≤ a1 then (
  some (a1, s0))
  else (
  some (a0, s0))
set_option maxRecDepth 100000 in
set_option maxHeartbeats 4000000 in
theorem C_X12_greater {l : Launch} {w : q_Wd} {n : Nat} {a0 : Int32} {a1 : Int32}  {s0 : q_Sto} : q_C l w yX12_greater cX12_greater 2 (some .int) (q_rm 0 0) [.int a0, .int a1] s0 (f_X12_greater n a0 a1 s0) := q_CofG [some (.int a0), some (.int a1)] (by decide +kernel) rfl rfl (Nat.le_of_ble_eq_true rfl) fun cx hl hc => by
  have hc : q_ok w cx RX12 cX12_greater 2 (some .int) (q_rm 0 0) := hc
  rw [f_X12_greater]
  refine g_il0 hc dX12_greater_0 rfl (pc2 := 1) rfl ?_
  refine g_il1 hc dX12_greater_1 rfl (pc2 := 2) rfl ?_
  refine g_icmp_le hc dX12_greater_2 (pc1 := 9) (pc2 := 5) rfl rfl (fun _ => ?_) (fun _ => ?_)
  · refine g_il1 hc dX12_greater_9 rfl (pc2 := 10) rfl ?_
    exact g_iret hc dX12_greater_10
  · refine g_il0 hc dX12_greater_5 rfl (pc2 := 6) rfl ?_
    refine g_goto hc dX12_greater_6 (pc2 := 10) rfl ?_
    exact g_iret hc dX12_greater_10
set_option maxRecDepth 100000 in
set_option maxHeartbeats 4000000 in
def f_X12_isMule (n : Nat) (t : Nat) (a0 : Int32) (s0 : q_Sto) : Option (Int32 × q_Sto) :=
  q_ld s0 (q_RF t 0) 86 1790 fun v1 =>
  q_call (f_X12_isIn n a0 0 (v1 - 1) s0) fun r3 s2 =>
  q_rz r3 s2
set_option maxRecDepth 100000 in
set_option maxHeartbeats 4000000 in
theorem C_X12_isMule {l : Launch} {w : q_Wd} {n : Nat} {t : Nat} {a0 : Int32} (ht : q_KD t = .inl 12) {s0 : q_Sto} : q_C l w yX12_isMule cX12_isMule 2 (some .boolean) (q_rm 1 22) [q_rf w t, .int a0] s0 (f_X12_isMule n t a0 s0) := q_CofG [some (q_rf w t), some (.int a0)] (by decide +kernel) rfl rfl (Nat.le_of_ble_eq_true rfl) fun cx hl hc => by
  have hc : q_ok w cx RX12 cX12_isMule 2 (some .boolean) (q_rm 1 22) := hc
  rw [f_X12_isMule]
  refine g_il1 hc dX12_isMule_0 rfl (pc2 := 1) rfl ?_
  refine g_iconst hc dX12_isMule_1 ic_0 (pc2 := 2) rfl ?_
  refine g_rl0 hc dX12_isMule_2 rfl (pc2 := 3) rfl ?_
  refine g_getR hc fl_X12_7 rfl ht dX12_isMule_3 (pc2 := 6) rfl ?_
  refine g_bipush hc dX12_isMule_6 bp_86 (pc2 := 8) rfl ?_
  refine g_iald hc (kf_12_0 ht) (kl_12_0 ht) dX12_isMule_8 (pc2 := 9) rfl (fun v1 => ?_)
  refine g_iconst hc dX12_isMule_9 ic_1 (pc2 := 10) rfl ?_
  refine g_isub hc dX12_isMule_10 (pc2 := 11) rfl ?_
  refine g_callS3 hc C_X12_isIn mv_X12_isIn ln_X12_56 ⟨by decide, by decide⟩ (Nat.le_of_ble_eq_true rfl) dX12_isMule_11 (pc2 := 14) rfl (fun r3 s2 => ?_)
  exact g_zret hc dX12_isMule_14
set_option maxRecDepth 100000 in
set_option maxHeartbeats 4000000 in
def f_X12_isMan (n : Nat) (t : Nat) (a0 : Int32) (s0 : q_Sto) : Option (Int32 × q_Sto) :=
  q_ld s0 (q_RF t 0) 87 1790 fun v1 =>
  q_call (f_X12_isIn n a0 0 (v1 - 1) s0) fun r3 s2 =>
  q_rz r3 s2
set_option maxRecDepth 100000 in
set_option maxHeartbeats 4000000 in
theorem C_X12_isMan {l : Launch} {w : q_Wd} {n : Nat} {t : Nat} {a0 : Int32} (ht : q_KD t = .inl 12) {s0 : q_Sto} : q_C l w yX12_isMan cX12_isMan 2 (some .boolean) (q_rm 1 22) [q_rf w t, .int a0] s0 (f_X12_isMan n t a0 s0) := q_CofG [some (q_rf w t), some (.int a0)] (by decide +kernel) rfl rfl (Nat.le_of_ble_eq_true rfl) fun cx hl hc => by
  have hc : q_ok w cx RX12 cX12_isMan 2 (some .boolean) (q_rm 1 22) := hc
  rw [f_X12_isMan]
  refine g_il1 hc dX12_isMan_0 rfl (pc2 := 1) rfl ?_
  refine g_iconst hc dX12_isMan_1 ic_0 (pc2 := 2) rfl ?_
  refine g_rl0 hc dX12_isMan_2 rfl (pc2 := 3) rfl ?_
  refine g_getR hc fl_X12_7 rfl ht dX12_isMan_3 (pc2 := 6) rfl ?_
  refine g_bipush hc dX12_isMan_6 bp_87 (pc2 := 8) rfl ?_
  refine g_iald hc (kf_12_0 ht) (kl_12_0 ht) dX12_isMan_8 (pc2 := 9) rfl (fun v1 => ?_)
  refine g_iconst hc dX12_isMan_9 ic_1 (pc2 := 10) rfl ?_
  refine g_isub hc dX12_isMan_10 (pc2 := 11) rfl ?_
  refine g_callS3 hc C_X12_isIn mv_X12_isIn ln_X12_56 ⟨by decide, by decide⟩ (Nat.le_of_ble_eq_true rfl) dX12_isMan_11 (pc2 := 14) rfl (fun r3 s2 => ?_)
  exact g_zret hc dX12_isMan_14
set_option maxRecDepth 100000 in
set_option maxHeartbeats 4000000 in
def f_X12_isCamp (n : Nat) (a0 : Int32) (s0 : q_Sto) : Option (Int32 × q_Sto) :=
  q_call (f_X12_isIn n a0 0 9 s0) fun r2 s1 =>
  q_rz r2 s1
set_option maxRecDepth 100000 in
set_option maxHeartbeats 4000000 in
theorem C_X12_isCamp {l : Launch} {w : q_Wd} {n : Nat} {a0 : Int32}  {s0 : q_Sto} : q_C l w yX12_isCamp cX12_isCamp 1 (some .boolean) (q_rm 1 22) [.int a0] s0 (f_X12_isCamp n a0 s0) := q_CofG [some (.int a0)] (by decide +kernel) rfl rfl (Nat.le_of_ble_eq_true rfl) fun cx hl hc => by
  have hc : q_ok w cx RX12 cX12_isCamp 1 (some .boolean) (q_rm 1 22) := hc
  rw [f_X12_isCamp]
  refine g_il0 hc dX12_isCamp_0 rfl (pc2 := 1) rfl ?_
  refine g_iconst hc dX12_isCamp_1 ic_0 (pc2 := 2) rfl ?_
  refine g_bipush hc dX12_isCamp_2 bp_9 (pc2 := 4) rfl ?_
  refine g_callS3 hc C_X12_isIn mv_X12_isIn ln_X12_56 ⟨by decide, by decide⟩ (Nat.le_of_ble_eq_true rfl) dX12_isCamp_4 (pc2 := 7) rfl (fun r2 s1 => ?_)
  exact g_zret hc dX12_isCamp_7
set_option maxRecDepth 100000 in
set_option maxHeartbeats 4000000 in
def f_X12_isLame (n : Nat) (t : Nat) (a0 : Int32) (s0 : q_Sto) : Option (Int32 × q_Sto) :=
  q_ld s0 (q_RF t 0) 7 1790 fun v1 =>
  if ((v1 >>> (a0 &&& 31)) &&& 1) = 1 then (
  some (1, s0))
  else (
  some (0, s0))
set_option maxRecDepth 100000 in
set_option maxHeartbeats 4000000 in
theorem C_X12_isLame {l : Launch} {w : q_Wd} {n : Nat} {t : Nat} {a0 : Int32} (ht : q_KD t = .inl 12) {s0 : q_Sto} : q_C l w yX12_isLame cX12_isLame 2 (some .boolean) (q_rm 0 0) [q_rf w t, .int a0] s0 (f_X12_isLame n t a0 s0) := q_CofG [some (q_rf w t), some (.int a0)] (by decide +kernel) rfl rfl (Nat.le_of_ble_eq_true rfl) fun cx hl hc => by
  have hc : q_ok w cx RX12 cX12_isLame 2 (some .boolean) (q_rm 0 0) := hc
  rw [f_X12_isLame]
  refine g_rl0 hc dX12_isLame_0 rfl (pc2 := 1) rfl ?_
  refine g_getR hc fl_X12_7 rfl ht dX12_isLame_1 (pc2 := 4) rfl ?_
  refine g_bipush hc dX12_isLame_4 bp_7 (pc2 := 6) rfl ?_
  refine g_iald hc (kf_12_0 ht) (kl_12_0 ht) dX12_isLame_6 (pc2 := 7) rfl (fun v1 => ?_)
  refine g_il1 hc dX12_isLame_7 rfl (pc2 := 8) rfl ?_
  refine g_ishr hc dX12_isLame_8 (pc2 := 9) rfl ?_
  refine g_iconst hc dX12_isLame_9 ic_1 (pc2 := 10) rfl ?_
  refine g_iand hc dX12_isLame_10 (pc2 := 11) rfl ?_
  refine g_iconst hc dX12_isLame_11 ic_1 (pc2 := 12) rfl ?_
  refine g_icmp_ne hc dX12_isLame_12 (pc1 := 15) (pc2 := 19) rfl rfl (fun _ => ?_) (fun _ => ?_)
  · refine g_iconst hc dX12_isLame_15 ic_1 (pc2 := 16) rfl ?_
    refine g_goto hc dX12_isLame_16 (pc2 := 20) rfl ?_
    exact g_zret0 (by decide) hc dX12_isLame_20
  · refine g_iconst hc dX12_isLame_19 ic_0 (pc2 := 20) rfl ?_
    exact g_zret0 (by decide) hc dX12_isLame_20
set_option maxRecDepth 100000 in
set_option maxHeartbeats 4000000 in
def f_X12_likingOf (n : Nat) (t : Nat) (a0 : Int32) (a1 : Int32) (s0 : q_Sto) : Option (Int32 × q_Sto) :=
  q_ld s0 (q_RF t 0) ((20 + (5 * a0)) + a1) 1790 fun v1 =>
  some (v1, s0)
set_option maxRecDepth 100000 in
set_option maxHeartbeats 4000000 in
theorem C_X12_likingOf {l : Launch} {w : q_Wd} {n : Nat} {t : Nat} {a0 : Int32} {a1 : Int32} (ht : q_KD t = .inl 12) {s0 : q_Sto} : q_C l w yX12_likingOf cX12_likingOf 3 (some .int) (q_rm 0 0) [q_rf w t, .int a0, .int a1] s0 (f_X12_likingOf n t a0 a1 s0) := q_CofG [some (q_rf w t), some (.int a0), some (.int a1)] (by decide +kernel) rfl rfl (Nat.le_of_ble_eq_true rfl) fun cx hl hc => by
  have hc : q_ok w cx RX12 cX12_likingOf 3 (some .int) (q_rm 0 0) := hc
  rw [f_X12_likingOf]
  refine g_rl0 hc dX12_likingOf_0 rfl (pc2 := 1) rfl ?_
  refine g_getR hc fl_X12_7 rfl ht dX12_likingOf_1 (pc2 := 4) rfl ?_
  refine g_bipush hc dX12_likingOf_4 bp_20 (pc2 := 6) rfl ?_
  refine g_iconst hc dX12_likingOf_6 ic_5 (pc2 := 7) rfl ?_
  refine g_il1 hc dX12_likingOf_7 rfl (pc2 := 8) rfl ?_
  refine g_imul hc dX12_likingOf_8 (pc2 := 9) rfl ?_
  refine g_iadd hc dX12_likingOf_9 (pc2 := 10) rfl ?_
  refine g_il2 hc dX12_likingOf_10 rfl (pc2 := 11) rfl ?_
  refine g_iadd hc dX12_likingOf_11 (pc2 := 12) rfl ?_
  refine g_iald hc (kf_12_0 ht) (kl_12_0 ht) dX12_likingOf_12 (pc2 := 13) rfl (fun v1 => ?_)
  exact g_iret hc dX12_likingOf_13
