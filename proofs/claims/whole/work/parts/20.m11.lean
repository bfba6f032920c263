set_option maxRecDepth 100000 in
set_option maxHeartbeats 4000000 in
def f_X12_aPlan (n : Nat) (t : Nat) (s0 : q_Sto) : Option (Int32 × q_Sto) :=
  q_nm (4 * (s0 t 15)) fun v1 =>
  q_call (f_X12_told n t v1 9 0 999 s0) fun r3 s2 =>
  if r3 = 0 then (
  some (0, s2))
  else (
  q_call (f_X12_isIn n (s2 t 18) 10 14 s2) fun r6 s5 =>
  if r6 = 0 then (
  q_call (f_X12_bad n t 1 s5) fun r9 s8 =>
  q_rz r9 s8)
  else (
  q_nm (s5 t 18) fun v10 =>
  q_st s5 (q_RF t 8) (v1 + 1) 64 v10 fun s11 =>
  q_st s11 (q_RF t 8) (v1 + 2) 64 0 fun s12 =>
  q_st s12 (q_RF t 8) (v1 + 3) 64 0 fun s13 =>
  q_callv (f_X12_next0 n t s13) fun s14 =>
  if v10 = 13 then (
  some (1, s14))
  else (
  q_jn (fun (y17 : Int32) (s18 : q_Sto) =>
    q_call (f_X12_number n t (v1 + 2) 0 y17 s18) fun r20 s19 =>
    if r20 = 0 then (
    some (0, s19))
    else (
    if v10 = 14 then (
    some (1, s19))
    else (
    if v10 = 11 then (
    some (1, s19))
    else (
    q_ld s19 (q_RF t 0) 86 1790 fun v24 =>
    q_call (f_X12_number n t (v1 + 3) 0 (v24 - 1) s19) fun r26 s25 =>
    if r26 = 0 then (
    some (0, s25))
    else (
    some (1, s25)))))) fun j112 =>
  if v10 = 14 then (
  j112 9 s14)
  else (
  q_ld s14 (q_RF t 0) 87 1790 fun v29 =>
  j112 (v29 - 1) s14))))
set_option maxRecDepth 100000 in
set_option maxHeartbeats 4000000 in
theorem C_X12_aPlan {l : Launch} {w : q_Wd} {n : Nat} {t : Nat} (ht : q_KD t = .inl 12) {s0 : q_Sto} : q_C l w yX12_aPlan cX12_aPlan 3 (some .boolean) (q_rm 13 292) [q_rf w t] s0 (f_X12_aPlan n t s0) := q_CofG [some (q_rf w t), none, none] (by decide +kernel) rfl rfl (Nat.le_of_ble_eq_true rfl) fun cx hl hc => by
  have hc : q_ok w cx RX12 cX12_aPlan 3 (some .boolean) (q_rm 13 292) := hc
  rw [f_X12_aPlan]
  refine g_iconst hc dX12_aPlan_0 ic_4 (pc2 := 1) rfl ?_
  refine g_rl0 hc dX12_aPlan_1 rfl (pc2 := 2) rfl ?_
  refine g_getI hc fl_X12_247 rfl ht dX12_aPlan_2 (pc2 := 5) rfl ?_
  refine g_imul hc dX12_aPlan_5 (pc2 := 6) rfl ?_
  refine g_nm (fun v1 => ?_)
  refine g_is1 hc dX12_aPlan_6 (by decide) (L2 := [some (q_rf w t), some (.int v1), none]) rfl (pc2 := 7) rfl ?_
  refine g_rl0 hc dX12_aPlan_7 rfl (pc2 := 8) rfl ?_
  refine g_il1 hc dX12_aPlan_8 rfl (pc2 := 9) rfl ?_
  refine g_bipush hc dX12_aPlan_9 bp_9 (pc2 := 11) rfl ?_
  refine g_iconst hc dX12_aPlan_11 ic_0 (pc2 := 12) rfl ?_
  refine g_sipush hc dX12_aPlan_12 sp_999 (pc2 := 15) rfl ?_
  refine g_callV4 hc (C_X12_told ht) mv_X12_told ln_X12_250 ht ⟨by decide, by decide⟩ (Nat.le_of_ble_eq_true rfl) dX12_aPlan_15 (pc2 := 18) rfl (fun r3 s2 => ?_)
  refine g_if_ne hc dX12_aPlan_18 (pc1 := 21) (pc2 := 23) rfl rfl (fun _ => ?_) (fun _ => ?_)
  · refine g_iconst hc dX12_aPlan_21 ic_0 (pc2 := 22) rfl ?_
    exact g_zret0 (by decide) hc dX12_aPlan_22
  · refine g_rl0 hc dX12_aPlan_23 rfl (pc2 := 24) rfl ?_
    refine g_getI hc fl_X12_177 rfl ht dX12_aPlan_24 (pc2 := 27) rfl ?_
    refine g_bipush hc dX12_aPlan_27 bp_10 (pc2 := 29) rfl ?_
    refine g_bipush hc dX12_aPlan_29 bp_14 (pc2 := 31) rfl ?_
    refine g_callS3 hc C_X12_isIn mv_X12_isIn ln_X12_56 ⟨by decide, by decide⟩ (Nat.le_of_ble_eq_true rfl) dX12_aPlan_31 (pc2 := 34) rfl (fun r6 s5 => ?_)
    refine g_if_ne hc dX12_aPlan_34 (pc1 := 37) (pc2 := 43) rfl rfl (fun _ => ?_) (fun _ => ?_)
    · refine g_rl0 hc dX12_aPlan_37 rfl (pc2 := 38) rfl ?_
      refine g_iconst hc dX12_aPlan_38 ic_1 (pc2 := 39) rfl ?_
      refine g_callV1 hc (C_X12_bad ht) mv_X12_bad ln_X12_198 ht ⟨by decide, by decide⟩ (Nat.le_of_ble_eq_true rfl) dX12_aPlan_39 (pc2 := 42) rfl (fun r9 s8 => ?_)
      exact g_zret hc dX12_aPlan_42
    · refine g_rl0 hc dX12_aPlan_43 rfl (pc2 := 44) rfl ?_
      refine g_getI hc fl_X12_177 rfl ht dX12_aPlan_44 (pc2 := 47) rfl ?_
      refine g_nm (fun v10 => ?_)
      refine g_is2 hc dX12_aPlan_47 (by decide) (L2 := [some (q_rf w t), some (.int v1), some (.int v10)]) rfl (pc2 := 48) rfl ?_
      refine g_rl0 hc dX12_aPlan_48 rfl (pc2 := 49) rfl ?_
      refine g_getR hc fl_X12_28 rfl ht dX12_aPlan_49 (pc2 := 52) rfl ?_
      refine g_il1 hc dX12_aPlan_52 rfl (pc2 := 53) rfl ?_
      refine g_iconst hc dX12_aPlan_53 ic_1 (pc2 := 54) rfl ?_
      refine g_iadd hc dX12_aPlan_54 (pc2 := 55) rfl ?_
      refine g_il2 hc dX12_aPlan_55 rfl (pc2 := 56) rfl ?_
      refine g_iast hc (kf_12_8 ht) (kl_12_8 ht) dX12_aPlan_56 (pc2 := 57) rfl (fun s11 => ?_)
      refine g_rl0 hc dX12_aPlan_57 rfl (pc2 := 58) rfl ?_
      refine g_getR hc fl_X12_28 rfl ht dX12_aPlan_58 (pc2 := 61) rfl ?_
      refine g_il1 hc dX12_aPlan_61 rfl (pc2 := 62) rfl ?_
      refine g_iconst hc dX12_aPlan_62 ic_2 (pc2 := 63) rfl ?_
      refine g_iadd hc dX12_aPlan_63 (pc2 := 64) rfl ?_
      refine g_iconst hc dX12_aPlan_64 ic_0 (pc2 := 65) rfl ?_
      refine g_iast hc (kf_12_8 ht) (kl_12_8 ht) dX12_aPlan_65 (pc2 := 66) rfl (fun s12 => ?_)
      refine g_rl0 hc dX12_aPlan_66 rfl (pc2 := 67) rfl ?_
      refine g_getR hc fl_X12_28 rfl ht dX12_aPlan_67 (pc2 := 70) rfl ?_
      refine g_il1 hc dX12_aPlan_70 rfl (pc2 := 71) rfl ?_
      refine g_iconst hc dX12_aPlan_71 ic_3 (pc2 := 72) rfl ?_
      refine g_iadd hc dX12_aPlan_72 (pc2 := 73) rfl ?_
      refine g_iconst hc dX12_aPlan_73 ic_0 (pc2 := 74) rfl ?_
      refine g_iast hc (kf_12_8 ht) (kl_12_8 ht) dX12_aPlan_74 (pc2 := 75) rfl (fun s13 => ?_)
      refine g_rl0 hc dX12_aPlan_75 rfl (pc2 := 76) rfl ?_
      refine g_callV0v hc (C_X12_next0 ht) mv_X12_next0 ln_X12_201 ht ⟨by decide, by decide⟩ (Nat.le_of_ble_eq_true rfl) dX12_aPlan_76 (pc2 := 79) rfl (fun s14 => ?_)
      refine g_il2 hc dX12_aPlan_79 rfl (pc2 := 80) rfl ?_
      refine g_bipush hc dX12_aPlan_80 bp_13 (pc2 := 82) rfl ?_
      refine g_icmp_ne hc dX12_aPlan_82 (pc1 := 85) (pc2 := 87) rfl rfl (fun _ => ?_) (fun _ => ?_)
      · refine g_iconst hc dX12_aPlan_85 ic_1 (pc2 := 86) rfl ?_
        exact g_zret0 (by decide) hc dX12_aPlan_86
      · refine g_rl0 hc dX12_aPlan_87 rfl (pc2 := 88) rfl ?_
        refine g_il1 hc dX12_aPlan_88 rfl (pc2 := 89) rfl ?_
        refine g_iconst hc dX12_aPlan_89 ic_2 (pc2 := 90) rfl ?_
        refine g_iadd hc dX12_aPlan_90 (pc2 := 91) rfl ?_
        refine g_iconst hc dX12_aPlan_91 ic_0 (pc2 := 92) rfl ?_
        refine g_il2 hc dX12_aPlan_92 rfl (pc2 := 93) rfl ?_
        refine g_bipush hc dX12_aPlan_93 bp_14 (pc2 := 95) rfl ?_
        refine g_jn (P := fun j112 => ∀ (y17 : Int32) (s18 : q_Sto), q_G w cx 3 (some .boolean) 112 [some (q_rf w t), some (.int v1), some (.int v10)] [.int y17, .int 0, .int (v1 + 2), q_rf w t] s18 (j112 y17 s18)) (fun y17 s18 => ?_) (fun j112 hj112 => ?_)
        · refine g_callV3 hc (C_X12_number ht) mv_X12_number ln_X12_244 ht ⟨by decide, by decide⟩ (Nat.le_of_ble_eq_true rfl) dX12_aPlan_112 (pc2 := 115) rfl (fun r20 s19 => ?_)
          refine g_if_ne hc dX12_aPlan_115 (pc1 := 118) (pc2 := 120) rfl rfl (fun _ => ?_) (fun _ => ?_)
          · refine g_iconst hc dX12_aPlan_118 ic_0 (pc2 := 119) rfl ?_
            exact g_zret0 (by decide) hc dX12_aPlan_119
          · refine g_il2 hc dX12_aPlan_120 rfl (pc2 := 121) rfl ?_
            refine g_bipush hc dX12_aPlan_121 bp_14 (pc2 := 123) rfl ?_
            refine g_icmp_eq hc dX12_aPlan_123 (pc1 := 152) (pc2 := 126) rfl rfl (fun _ => ?_) (fun _ => ?_)
            · refine g_iconst hc dX12_aPlan_152 ic_1 (pc2 := 153) rfl ?_
              refine g_goto hc dX12_aPlan_153 (pc2 := 157) rfl ?_
              exact g_zret0 (by decide) hc dX12_aPlan_157
            · refine g_il2 hc dX12_aPlan_126 rfl (pc2 := 127) rfl ?_
              refine g_bipush hc dX12_aPlan_127 bp_11 (pc2 := 129) rfl ?_
              refine g_icmp_eq hc dX12_aPlan_129 (pc1 := 152) (pc2 := 132) rfl rfl (fun _ => ?_) (fun _ => ?_)
              · refine g_iconst hc dX12_aPlan_152 ic_1 (pc2 := 153) rfl ?_
                refine g_goto hc dX12_aPlan_153 (pc2 := 157) rfl ?_
                exact g_zret0 (by decide) hc dX12_aPlan_157
              · refine g_rl0 hc dX12_aPlan_132 rfl (pc2 := 133) rfl ?_
                refine g_il1 hc dX12_aPlan_133 rfl (pc2 := 134) rfl ?_
                refine g_iconst hc dX12_aPlan_134 ic_3 (pc2 := 135) rfl ?_
                refine g_iadd hc dX12_aPlan_135 (pc2 := 136) rfl ?_
                refine g_iconst hc dX12_aPlan_136 ic_0 (pc2 := 137) rfl ?_
                refine g_rl0 hc dX12_aPlan_137 rfl (pc2 := 138) rfl ?_
                refine g_getR hc fl_X12_7 rfl ht dX12_aPlan_138 (pc2 := 141) rfl ?_
                refine g_bipush hc dX12_aPlan_141 bp_86 (pc2 := 143) rfl ?_
                refine g_iald hc (kf_12_0 ht) (kl_12_0 ht) dX12_aPlan_143 (pc2 := 144) rfl (fun v24 => ?_)
                refine g_iconst hc dX12_aPlan_144 ic_1 (pc2 := 145) rfl ?_
                refine g_isub hc dX12_aPlan_145 (pc2 := 146) rfl ?_
                refine g_callV3 hc (C_X12_number ht) mv_X12_number ln_X12_244 ht ⟨by decide, by decide⟩ (Nat.le_of_ble_eq_true rfl) dX12_aPlan_146 (pc2 := 149) rfl (fun r26 s25 => ?_)
                refine g_if_eq hc dX12_aPlan_149 (pc1 := 156) (pc2 := 152) rfl rfl (fun _ => ?_) (fun _ => ?_)
                · refine g_iconst hc dX12_aPlan_156 ic_0 (pc2 := 157) rfl ?_
                  exact g_zret0 (by decide) hc dX12_aPlan_157
                · refine g_iconst hc dX12_aPlan_152 ic_1 (pc2 := 153) rfl ?_
                  refine g_goto hc dX12_aPlan_153 (pc2 := 157) rfl ?_
                  exact g_zret0 (by decide) hc dX12_aPlan_157
        · refine g_icmp_ne hc dX12_aPlan_95 (pc1 := 98) (pc2 := 103) rfl rfl (fun _ => ?_) (fun _ => ?_)
          · refine g_bipush hc dX12_aPlan_98 bp_9 (pc2 := 100) rfl ?_
            refine g_goto hc dX12_aPlan_100 (pc2 := 112) rfl ?_
            exact hj112 _ _
          · refine g_rl0 hc dX12_aPlan_103 rfl (pc2 := 104) rfl ?_
            refine g_getR hc fl_X12_7 rfl ht dX12_aPlan_104 (pc2 := 107) rfl ?_
            refine g_bipush hc dX12_aPlan_107 bp_87 (pc2 := 109) rfl ?_
            refine g_iald hc (kf_12_0 ht) (kl_12_0 ht) dX12_aPlan_109 (pc2 := 110) rfl (fun v29 => ?_)
            refine g_iconst hc dX12_aPlan_110 ic_1 (pc2 := 111) rfl ?_
            refine g_isub hc dX12_aPlan_111 (pc2 := 112) rfl ?_
            exact hj112 _ _
set_option maxRecDepth 100000 in
set_option maxHeartbeats 4000000 in
def f_X12_aPath (n : Nat) (t : Nat) (s0 : q_Sto) : Option (Int32 × q_Sto) :=
  q_nm (3 * (s0 t 15)) fun v1 =>
  q_call (f_X12_told n t v1 15 0 9 s0) fun r3 s2 =>
  if r3 = 0 then (
  some (0, s2))
  else (
  q_jn (fun  (s5 : q_Sto) =>
    q_call (f_X12_number n t (v1 + 1) 0 9 s5) fun r7 s6 =>
    if r7 = 0 then (
    some (0, s6))
    else (
    q_call (f_X12_told n t (v1 + 2) 16 1 24 s6) fun r10 s9 =>
    if r10 = 0 then (
    some (0, s9))
    else (
    some (1, s9)))) fun j49 =>
  if (s2 t 18) = 2 then (
  q_ld s2 (q_RF t 8) v1 64 fun v13 =>
  if (s2 t 20) = v13 then (
  q_call (f_X12_bad n t 2 s2) fun r16 s15 =>
  q_rz r16 s15)
  else (
  j49 s2))
  else (
  j49 s2))
set_option maxRecDepth 100000 in
set_option maxHeartbeats 4000000 in
theorem C_X12_aPath {l : Launch} {w : q_Wd} {n : Nat} {t : Nat} (ht : q_KD t = .inl 12) {s0 : q_Sto} : q_C l w yX12_aPath cX12_aPath 2 (some .boolean) (q_rm 13 292) [q_rf w t] s0 (f_X12_aPath n t s0) := q_CofG [some (q_rf w t), none] (by decide +kernel) rfl rfl (Nat.le_of_ble_eq_true rfl) fun cx hl hc => by
  have hc : q_ok w cx RX12 cX12_aPath 2 (some .boolean) (q_rm 13 292) := hc
  rw [f_X12_aPath]
  refine g_iconst hc dX12_aPath_0 ic_3 (pc2 := 1) rfl ?_
  refine g_rl0 hc dX12_aPath_1 rfl (pc2 := 2) rfl ?_
  refine g_getI hc fl_X12_247 rfl ht dX12_aPath_2 (pc2 := 5) rfl ?_
  refine g_imul hc dX12_aPath_5 (pc2 := 6) rfl ?_
  refine g_nm (fun v1 => ?_)
  refine g_is1 hc dX12_aPath_6 (by decide) (L2 := [some (q_rf w t), some (.int v1)]) rfl (pc2 := 7) rfl ?_
  refine g_rl0 hc dX12_aPath_7 rfl (pc2 := 8) rfl ?_
  refine g_il1 hc dX12_aPath_8 rfl (pc2 := 9) rfl ?_
  refine g_bipush hc dX12_aPath_9 bp_15 (pc2 := 11) rfl ?_
  refine g_iconst hc dX12_aPath_11 ic_0 (pc2 := 12) rfl ?_
  refine g_bipush hc dX12_aPath_12 bp_9 (pc2 := 14) rfl ?_
  refine g_callV4 hc (C_X12_told ht) mv_X12_told ln_X12_250 ht ⟨by decide, by decide⟩ (Nat.le_of_ble_eq_true rfl) dX12_aPath_14 (pc2 := 17) rfl (fun r3 s2 => ?_)
  refine g_if_ne hc dX12_aPath_17 (pc1 := 20) (pc2 := 22) rfl rfl (fun _ => ?_) (fun _ => ?_)
  · refine g_iconst hc dX12_aPath_20 ic_0 (pc2 := 21) rfl ?_
    exact g_zret0 (by decide) hc dX12_aPath_21
  · refine g_rl0 hc dX12_aPath_22 rfl (pc2 := 23) rfl ?_
    refine g_getI hc fl_X12_177 rfl ht dX12_aPath_23 (pc2 := 26) rfl ?_
    refine g_iconst hc dX12_aPath_26 ic_2 (pc2 := 27) rfl ?_
    refine g_jn (P := fun j49 => ∀  (s5 : q_Sto), q_G w cx 2 (some .boolean) 49 [some (q_rf w t), some (.int v1)] [] s5 (j49 s5)) (fun s5 => ?_) (fun j49 hj49 => ?_)
    · refine g_rl0 hc dX12_aPath_49 rfl (pc2 := 50) rfl ?_
      refine g_il1 hc dX12_aPath_50 rfl (pc2 := 51) rfl ?_
      refine g_iconst hc dX12_aPath_51 ic_1 (pc2 := 52) rfl ?_
      refine g_iadd hc dX12_aPath_52 (pc2 := 53) rfl ?_
      refine g_iconst hc dX12_aPath_53 ic_0 (pc2 := 54) rfl ?_
      refine g_bipush hc dX12_aPath_54 bp_9 (pc2 := 56) rfl ?_
      refine g_callV3 hc (C_X12_number ht) mv_X12_number ln_X12_244 ht ⟨by decide, by decide⟩ (Nat.le_of_ble_eq_true rfl) dX12_aPath_56 (pc2 := 59) rfl (fun r7 s6 => ?_)
      refine g_if_eq hc dX12_aPath_59 (pc1 := 81) (pc2 := 62) rfl rfl (fun _ => ?_) (fun _ => ?_)
      · refine g_iconst hc dX12_aPath_81 ic_0 (pc2 := 82) rfl ?_
        exact g_zret0 (by decide) hc dX12_aPath_82
      · refine g_rl0 hc dX12_aPath_62 rfl (pc2 := 63) rfl ?_
        refine g_il1 hc dX12_aPath_63 rfl (pc2 := 64) rfl ?_
        refine g_iconst hc dX12_aPath_64 ic_2 (pc2 := 65) rfl ?_
        refine g_iadd hc dX12_aPath_65 (pc2 := 66) rfl ?_
        refine g_bipush hc dX12_aPath_66 bp_16 (pc2 := 68) rfl ?_
        refine g_iconst hc dX12_aPath_68 ic_1 (pc2 := 69) rfl ?_
        refine g_bipush hc dX12_aPath_69 bp_24 (pc2 := 71) rfl ?_
        refine g_callV4 hc (C_X12_told ht) mv_X12_told ln_X12_250 ht ⟨by decide, by decide⟩ (Nat.le_of_ble_eq_true rfl) dX12_aPath_71 (pc2 := 74) rfl (fun r10 s9 => ?_)
        refine g_if_eq hc dX12_aPath_74 (pc1 := 81) (pc2 := 77) rfl rfl (fun _ => ?_) (fun _ => ?_)
        · refine g_iconst hc dX12_aPath_81 ic_0 (pc2 := 82) rfl ?_
          exact g_zret0 (by decide) hc dX12_aPath_82
        · refine g_iconst hc dX12_aPath_77 ic_1 (pc2 := 78) rfl ?_
          refine g_goto hc dX12_aPath_78 (pc2 := 82) rfl ?_
          exact g_zret0 (by decide) hc dX12_aPath_82
    · refine g_icmp_ne hc dX12_aPath_27 (pc1 := 30) (pc2 := 49) rfl rfl (fun _ => ?_) (fun _ => ?_)
      · refine g_rl0 hc dX12_aPath_30 rfl (pc2 := 31) rfl ?_
        refine g_getI hc fl_X12_189 rfl ht dX12_aPath_31 (pc2 := 34) rfl ?_
        refine g_rl0 hc dX12_aPath_34 rfl (pc2 := 35) rfl ?_
        refine g_getR hc fl_X12_28 rfl ht dX12_aPath_35 (pc2 := 38) rfl ?_
        refine g_il1 hc dX12_aPath_38 rfl (pc2 := 39) rfl ?_
        refine g_iald hc (kf_12_8 ht) (kl_12_8 ht) dX12_aPath_39 (pc2 := 40) rfl (fun v13 => ?_)
        refine g_icmp_ne hc dX12_aPath_40 (pc1 := 43) (pc2 := 49) rfl rfl (fun _ => ?_) (fun _ => ?_)
        · refine g_rl0 hc dX12_aPath_43 rfl (pc2 := 44) rfl ?_
          refine g_iconst hc dX12_aPath_44 ic_2 (pc2 := 45) rfl ?_
          refine g_callV1 hc (C_X12_bad ht) mv_X12_bad ln_X12_198 ht ⟨by decide, by decide⟩ (Nat.le_of_ble_eq_true rfl) dX12_aPath_45 (pc2 := 48) rfl (fun r16 s15 => ?_)
          exact g_zret hc dX12_aPath_48
        · exact hj49 _
      · exact hj49 _
set_option maxRecDepth 100000 in
set_option maxHeartbeats 4000000 in
def f_X12_aLoad (n : Nat) (t : Nat) (s0 : q_Sto) : Option (Int32 × q_Sto) :=
  q_call (f_X12_told n t (2 * (s0 t 15)) 17 1 40 s0) fun r2 s1 =>
  if r2 = 0 then (
  some (0, s1))
  else (
  q_call (f_X12_told n t ((2 * (s1 t 15)) + 1) 18 1 99 s1) fun r5 s4 =>
  if r5 = 0 then (
  some (0, s4))
  else (
  some (1, s4)))
set_option maxRecDepth 100000 in
set_option maxHeartbeats 4000000 in
theorem C_X12_aLoad {l : Launch} {w : q_Wd} {n : Nat} {t : Nat} (ht : q_KD t = .inl 12) {s0 : q_Sto} : q_C l w yX12_aLoad cX12_aLoad 1 (some .boolean) (q_rm 13 292) [q_rf w t] s0 (f_X12_aLoad n t s0) := q_CofG [some (q_rf w t)] (by decide +kernel) rfl rfl (Nat.le_of_ble_eq_true rfl) fun cx hl hc => by
  have hc : q_ok w cx RX12 cX12_aLoad 1 (some .boolean) (q_rm 13 292) := hc
  rw [f_X12_aLoad]
  refine g_rl0 hc dX12_aLoad_0 rfl (pc2 := 1) rfl ?_
  refine g_iconst hc dX12_aLoad_1 ic_2 (pc2 := 2) rfl ?_
  refine g_rl0 hc dX12_aLoad_2 rfl (pc2 := 3) rfl ?_
  refine g_getI hc fl_X12_247 rfl ht dX12_aLoad_3 (pc2 := 6) rfl ?_
  refine g_imul hc dX12_aLoad_6 (pc2 := 7) rfl ?_
  refine g_bipush hc dX12_aLoad_7 bp_17 (pc2 := 9) rfl ?_
  refine g_iconst hc dX12_aLoad_9 ic_1 (pc2 := 10) rfl ?_
  refine g_bipush hc dX12_aLoad_10 bp_40 (pc2 := 12) rfl ?_
  refine g_callV4 hc (C_X12_told ht) mv_X12_told ln_X12_250 ht ⟨by decide, by decide⟩ (Nat.le_of_ble_eq_true rfl) dX12_aLoad_12 (pc2 := 15) rfl (fun r2 s1 => ?_)
  refine g_if_eq hc dX12_aLoad_15 (pc1 := 42) (pc2 := 18) rfl rfl (fun _ => ?_) (fun _ => ?_)
  · refine g_iconst hc dX12_aLoad_42 ic_0 (pc2 := 43) rfl ?_
    exact g_zret0 (by decide) hc dX12_aLoad_43
  · refine g_rl0 hc dX12_aLoad_18 rfl (pc2 := 19) rfl ?_
    refine g_iconst hc dX12_aLoad_19 ic_2 (pc2 := 20) rfl ?_
    refine g_rl0 hc dX12_aLoad_20 rfl (pc2 := 21) rfl ?_
    refine g_getI hc fl_X12_247 rfl ht dX12_aLoad_21 (pc2 := 24) rfl ?_
    refine g_imul hc dX12_aLoad_24 (pc2 := 25) rfl ?_
    refine g_iconst hc dX12_aLoad_25 ic_1 (pc2 := 26) rfl ?_
    refine g_iadd hc dX12_aLoad_26 (pc2 := 27) rfl ?_
    refine g_bipush hc dX12_aLoad_27 bp_18 (pc2 := 29) rfl ?_
    refine g_iconst hc dX12_aLoad_29 ic_1 (pc2 := 30) rfl ?_
    refine g_bipush hc dX12_aLoad_30 bp_99 (pc2 := 32) rfl ?_
    refine g_callV4 hc (C_X12_told ht) mv_X12_told ln_X12_250 ht ⟨by decide, by decide⟩ (Nat.le_of_ble_eq_true rfl) dX12_aLoad_32 (pc2 := 35) rfl (fun r5 s4 => ?_)
    refine g_if_eq hc dX12_aLoad_35 (pc1 := 42) (pc2 := 38) rfl rfl (fun _ => ?_) (fun _ => ?_)
    · refine g_iconst hc dX12_aLoad_42 ic_0 (pc2 := 43) rfl ?_
      exact g_zret0 (by decide) hc dX12_aLoad_43
    · refine g_iconst hc dX12_aLoad_38 ic_1 (pc2 := 39) rfl ?_
      refine g_goto hc dX12_aLoad_39 (pc2 := 43) rfl ?_
      exact g_zret0 (by decide) hc dX12_aLoad_43
set_option maxRecDepth 100000 in
set_option maxHeartbeats 4000000 in
def f_X12_aRow (n : Nat) (t : Nat) (s0 : q_Sto) : Option (Int32 × q_Sto) :=
  if (s0 t 12) = 1 then (
  q_call (f_X12_aHeed n t s0) fun r3 s2 =>
  q_rz r3 s2)
  else
  if (s0 t 12) = 2 then (
  q_call (f_X12_aPlan n t s0) fun r6 s5 =>
  q_rz r6 s5)
  else
  if (s0 t 12) = 3 then (
  q_call (f_X12_aPath n t s0) fun r9 s8 =>
  q_rz r9 s8)
  else
  (q_call (f_X12_aLoad n t s0) fun r11 s10 =>
  q_rz r11 s10)
set_option maxRecDepth 100000 in
set_option maxHeartbeats 4000000 in
theorem C_X12_aRow {l : Launch} {w : q_Wd} {n : Nat} {t : Nat} (ht : q_KD t = .inl 12) {s0 : q_Sto} : q_C l w yX12_aRow cX12_aRow 1 (some .boolean) (q_rm 14 314) [q_rf w t] s0 (f_X12_aRow n t s0) := q_CofG [some (q_rf w t)] (by decide +kernel) rfl rfl (Nat.le_of_ble_eq_true rfl) fun cx hl hc => by
  have hc : q_ok w cx RX12 cX12_aRow 1 (some .boolean) (q_rm 14 314) := hc
  rw [f_X12_aRow]
  refine g_rl0 hc dX12_aRow_0 rfl (pc2 := 1) rfl ?_
  refine g_getI hc fl_X12_155 rfl ht dX12_aRow_1 (pc2 := 4) rfl ?_
  refine g_swc (pc2 := 0) hc dX12_aRow_4 (c := 1) (by decide) (by decide) rfl (pc1 := 32) rfl (fun _ => ?_) (fun c1 => ?_)
  · refine g_rl0 hc dX12_aRow_32 rfl (pc2 := 33) rfl ?_
    refine g_callV0 hc (C_X12_aHeed ht) mv_X12_aHeed ln_X12_257 ht ⟨by decide, by decide⟩ (Nat.le_of_ble_eq_true rfl) dX12_aRow_33 (pc2 := 36) rfl (fun r3 s2 => ?_)
    exact g_zret hc dX12_aRow_36
  refine g_swc (pc2 := 0) hc dX12_aRow_4 (c := 2) (by decide) (by decide) rfl (pc1 := 37) rfl (fun _ => ?_) (fun c4 => ?_)
  · refine g_rl0 hc dX12_aRow_37 rfl (pc2 := 38) rfl ?_
    refine g_callV0 hc (C_X12_aPlan ht) mv_X12_aPlan ln_X12_260 ht ⟨by decide, by decide⟩ (Nat.le_of_ble_eq_true rfl) dX12_aRow_38 (pc2 := 41) rfl (fun r6 s5 => ?_)
    exact g_zret hc dX12_aRow_41
  refine g_swc (pc2 := 0) hc dX12_aRow_4 (c := 3) (by decide) (by decide) rfl (pc1 := 42) rfl (fun _ => ?_) (fun c7 => ?_)
  · refine g_rl0 hc dX12_aRow_42 rfl (pc2 := 43) rfl ?_
    refine g_callV0 hc (C_X12_aPath ht) mv_X12_aPath ln_X12_263 ht ⟨by decide, by decide⟩ (Nat.le_of_ble_eq_true rfl) dX12_aRow_43 (pc2 := 46) rfl (fun r9 s8 => ?_)
    exact g_zret hc dX12_aRow_46
  refine g_swd (pc2 := 0) hc dX12_aRow_4 (fun i a b e => ?_) (pc1 := 47) rfl ?_
  · rcases (show i = 1 ∨ i = 2 ∨ i = 3 by omega) with rfl | rfl | rfl
    · exact q_swx (c := 1) (by decide) c1 e
    · exact q_swx (c := 2) (by decide) c4 e
    · exact q_swx (c := 3) (by decide) c7 e
  · refine g_rl0 hc dX12_aRow_47 rfl (pc2 := 48) rfl ?_
    refine g_callV0 hc (C_X12_aLoad ht) mv_X12_aLoad ln_X12_266 ht ⟨by decide, by decide⟩ (Nat.le_of_ble_eq_true rfl) dX12_aRow_48 (pc2 := 51) rfl (fun r11 s10 => ?_)
    exact g_zret hc dX12_aRow_51
set_option maxRecDepth 100000 in
set_option maxHeartbeats 4000000 in
def f_X12_readsRows_L49 (n : Nat) (x0 : Nat) (x1 : Int32) : Nat → Int32 → q_Sto → Option (Int32 × q_Sto)
  | 0, _, _ => none
  | j + 1, x2, s0 =>
    if x2 = 0 then (
    q_rz x2 s0)
    else (
    if (s0 x0 18) = 0 then (
    q_rz x2 s0)
    else (
    if (s0 x0 18) = x1 then (
    q_jn (fun (y6 : Int32) (s7 : q_Sto) =>
      if (s0 x0 15) = y6 then (
      q_call (f_X12_bad n x0 3 s7) fun r10 s9 =>
      q_rz r10 s9)
      else (
      q_call (f_X12_aRow n x0 s7) fun r12 s11 =>
      q_jn (fun  (s13 : q_Sto) =>
        if (0 : Int32) = 0 then (
        q_nS1 (q_up s13 x0 15 ((s13 x0 15) + 0)) fun s15 =>
        f_X12_readsRows_L49 n x0 x1  j 0 s15)
        else (
        q_nS1 (q_up s13 x0 15 ((s13 x0 15) + 1)) fun s16 =>
        f_X12_readsRows_L49 n x0 x1  j 0 s16)) fun j123 =>
      q_jn (fun (y17 : Int32) (s18 : q_Sto) =>
        if y17 = 0 then (
        q_nS1 (q_up s18 x0 15 ((s18 x0 15) + 0)) fun s20 =>
        f_X12_readsRows_L49 n x0 x1  j y17 s20)
        else (
        q_nS1 (q_up s18 x0 15 ((s18 x0 15) + 1)) fun s21 =>
        f_X12_readsRows_L49 n x0 x1  j y17 s21)) fun j124 =>
      if r12 = 0 then (
      j123 s11)
      else (
      q_call (f_X12_need n x0 159 s11) fun r24 s23 =>
      if r24 = 0 then (
      j123 s23)
      else (
      j124 1 s23)))) fun j93 =>
    if (s0 x0 12) = 4 then (
    j93 8 s0)
    else (
    j93 16 s0))
    else (
    q_call (f_X12_bad n x0 1 s0) fun r28 s27 =>
    q_rz r28 s27)))
set_option maxRecDepth 100000 in
set_option maxHeartbeats 4000000 in
def f_X12_readsRows (n : Nat) (t : Nat) (s0 : q_Sto) : Option (Int32 × q_Sto) :=
  q_nS1 (q_up s0 t 15 0) fun s1 =>
  if (s1 t 12) = 1 then (
  f_X12_readsRows_L49 n t 7  n 1 s1)
  else (
  if (s1 t 12) = 2 then (
  f_X12_readsRows_L49 n t 9  n 1 s1)
  else (
  if (s1 t 12) = 3 then (
  f_X12_readsRows_L49 n t 15  n 1 s1)
  else (
  f_X12_readsRows_L49 n t 17  n 1 s1)))
set_option maxRecDepth 100000 in
set_option maxHeartbeats 4000000 in
theorem t_X12_readsRows_L49 {w : q_Wd} {cx : q_Cx} (hc : q_ok w cx RX12 cX12_readsRows 3 (some .boolean) (q_rm 15 334)) {n : Nat} {x0 : Nat} {x1 : Int32} (hx0 : q_KD x0 = .inl 12)   :
    ∀ (j : Nat) (x2 : Int32) (s0 : q_Sto), q_G w cx 3 (some .boolean) 49 [some (q_rf w x0), some (.int x1), some (.int x2)] [] s0 (f_X12_readsRows_L49 n x0 x1  j x2 s0) := by
  intro j
  induction j with
  | zero =>
    intro _ _
    rw [f_X12_readsRows_L49]
    exact q_none
  | succ j ih =>
    intro x2 s0
    rw [f_X12_readsRows_L49]
    refine g_il2 hc dX12_readsRows_49 rfl (pc2 := 50) rfl ?_
    refine g_if_eq hc dX12_readsRows_50 (pc1 := 146) (pc2 := 53) rfl rfl (fun _ => ?_) (fun _ => ?_)
    · refine g_il2 hc dX12_readsRows_146 rfl (pc2 := 147) rfl ?_
      exact g_zret hc dX12_readsRows_147
    · refine g_rl0 hc dX12_readsRows_53 rfl (pc2 := 54) rfl ?_
      refine g_getI hc fl_X12_177 rfl hx0 dX12_readsRows_54 (pc2 := 57) rfl ?_
      refine g_if_eq hc dX12_readsRows_57 (pc1 := 146) (pc2 := 60) rfl rfl (fun _ => ?_) (fun _ => ?_)
      · refine g_il2 hc dX12_readsRows_146 rfl (pc2 := 147) rfl ?_
        exact g_zret hc dX12_readsRows_147
      · refine g_rl0 hc dX12_readsRows_60 rfl (pc2 := 61) rfl ?_
        refine g_getI hc fl_X12_177 rfl hx0 dX12_readsRows_61 (pc2 := 64) rfl ?_
        refine g_il1 hc dX12_readsRows_64 rfl (pc2 := 65) rfl ?_
        refine g_icmp_eq hc dX12_readsRows_65 (pc1 := 74) (pc2 := 68) rfl rfl (fun _ => ?_) (fun _ => ?_)
        · refine g_rl0 hc dX12_readsRows_74 rfl (pc2 := 75) rfl ?_
          refine g_getI hc fl_X12_247 rfl hx0 dX12_readsRows_75 (pc2 := 78) rfl ?_
          refine g_rl0 hc dX12_readsRows_78 rfl (pc2 := 79) rfl ?_
          refine g_getI hc fl_X12_155 rfl hx0 dX12_readsRows_79 (pc2 := 82) rfl ?_
          refine g_iconst hc dX12_readsRows_82 ic_4 (pc2 := 83) rfl ?_
          refine g_jn (P := fun j93 => ∀ (y6 : Int32) (s7 : q_Sto), q_G w cx 3 (some .boolean) 93 [some (q_rf w x0), some (.int x1), none] [.int y6, .int (s0 x0 15)] s7 (j93 y6 s7)) (fun y6 s7 => ?_) (fun j93 hj93 => ?_)
          · refine g_icmp_ne hc dX12_readsRows_93 (pc1 := 96) (pc2 := 102) rfl rfl (fun _ => ?_) (fun _ => ?_)
            · refine g_rl0 hc dX12_readsRows_96 rfl (pc2 := 97) rfl ?_
              refine g_iconst hc dX12_readsRows_97 ic_3 (pc2 := 98) rfl ?_
              refine g_callV1 hc (C_X12_bad hx0) mv_X12_bad ln_X12_198 hx0 ⟨by decide, by decide⟩ (Nat.le_of_ble_eq_true rfl) dX12_readsRows_98 (pc2 := 101) rfl (fun r10 s9 => ?_)
              exact g_zret hc dX12_readsRows_101
            · refine g_rl0 hc dX12_readsRows_102 rfl (pc2 := 103) rfl ?_
              refine g_callV0 hc (C_X12_aRow hx0) mv_X12_aRow ln_X12_269 hx0 ⟨by decide, by decide⟩ (Nat.le_of_ble_eq_true rfl) dX12_readsRows_103 (pc2 := 106) rfl (fun r12 s11 => ?_)
              refine g_jn (P := fun j123 => ∀  (s13 : q_Sto), q_G w cx 3 (some .boolean) 123 [some (q_rf w x0), some (.int x1), none] [] s13 (j123 s13)) (fun s13 => ?_) (fun j123 hj123 => ?_)
              · refine g_iconst hc dX12_readsRows_123 ic_0 (pc2 := 124) rfl ?_
                refine g_is2 hc dX12_readsRows_124 (by decide) (L2 := [some (q_rf w x0), some (.int x1), some (.int 0)]) rfl (pc2 := 125) rfl ?_
                refine g_rl0 hc dX12_readsRows_125 rfl (pc2 := 126) rfl ?_
                refine g_dup hc dX12_readsRows_126 rfl (pc2 := 127) rfl ?_
                refine g_getI hc fl_X12_247 rfl hx0 dX12_readsRows_127 (pc2 := 130) rfl ?_
                refine g_il2 hc dX12_readsRows_130 rfl (pc2 := 131) rfl ?_
                refine g_if_eq hc dX12_readsRows_131 (pc1 := 138) (pc2 := 134) rfl rfl (fun _ => ?_) (fun _ => ?_)
                · refine g_iconst hc dX12_readsRows_138 ic_0 (pc2 := 139) rfl ?_
                  refine g_iadd hc dX12_readsRows_139 (pc2 := 140) rfl ?_
                  refine g_putI hc fl_X12_247 rfl hx0 dX12_readsRows_140 (pc2 := 143) rfl (fun s15 => ?_)
                  refine g_goto hc dX12_readsRows_143 (pc2 := 49) rfl ?_
                  exact ih _ _
                · refine g_iconst hc dX12_readsRows_134 ic_1 (pc2 := 135) rfl ?_
                  refine g_goto hc dX12_readsRows_135 (pc2 := 139) rfl ?_
                  refine g_iadd hc dX12_readsRows_139 (pc2 := 140) rfl ?_
                  refine g_putI hc fl_X12_247 rfl hx0 dX12_readsRows_140 (pc2 := 143) rfl (fun s16 => ?_)
                  refine g_goto hc dX12_readsRows_143 (pc2 := 49) rfl ?_
                  exact ih _ _
              · refine g_jn (P := fun j124 => ∀ (y17 : Int32) (s18 : q_Sto), q_G w cx 3 (some .boolean) 124 [some (q_rf w x0), some (.int x1), none] [.int y17] s18 (j124 y17 s18)) (fun y17 s18 => ?_) (fun j124 hj124 => ?_)
                · refine g_is2 hc dX12_readsRows_124 (by decide) (L2 := [some (q_rf w x0), some (.int x1), some (.int y17)]) rfl (pc2 := 125) rfl ?_
                  refine g_rl0 hc dX12_readsRows_125 rfl (pc2 := 126) rfl ?_
                  refine g_dup hc dX12_readsRows_126 rfl (pc2 := 127) rfl ?_
                  refine g_getI hc fl_X12_247 rfl hx0 dX12_readsRows_127 (pc2 := 130) rfl ?_
                  refine g_il2 hc dX12_readsRows_130 rfl (pc2 := 131) rfl ?_
                  refine g_if_eq hc dX12_readsRows_131 (pc1 := 138) (pc2 := 134) rfl rfl (fun _ => ?_) (fun _ => ?_)
                  · refine g_iconst hc dX12_readsRows_138 ic_0 (pc2 := 139) rfl ?_
                    refine g_iadd hc dX12_readsRows_139 (pc2 := 140) rfl ?_
                    refine g_putI hc fl_X12_247 rfl hx0 dX12_readsRows_140 (pc2 := 143) rfl (fun s20 => ?_)
                    refine g_goto hc dX12_readsRows_143 (pc2 := 49) rfl ?_
                    exact ih _ _
                  · refine g_iconst hc dX12_readsRows_134 ic_1 (pc2 := 135) rfl ?_
                    refine g_goto hc dX12_readsRows_135 (pc2 := 139) rfl ?_
                    refine g_iadd hc dX12_readsRows_139 (pc2 := 140) rfl ?_
                    refine g_putI hc fl_X12_247 rfl hx0 dX12_readsRows_140 (pc2 := 143) rfl (fun s21 => ?_)
                    refine g_goto hc dX12_readsRows_143 (pc2 := 49) rfl ?_
                    exact ih _ _
                · refine g_if_eq hc dX12_readsRows_106 (pc1 := 123) (pc2 := 109) rfl rfl (fun _ => ?_) (fun _ => ?_)
                  · exact hj123 _
                  · refine g_rl0 hc dX12_readsRows_109 rfl (pc2 := 110) rfl ?_
                    refine g_sipush hc dX12_readsRows_110 sp_159 (pc2 := 113) rfl ?_
                    refine g_callV1 hc (C_X12_need hx0) mv_X12_need ln_X12_233 hx0 ⟨by decide, by decide⟩ (Nat.le_of_ble_eq_true rfl) dX12_readsRows_113 (pc2 := 116) rfl (fun r24 s23 => ?_)
                    refine g_if_eq hc dX12_readsRows_116 (pc1 := 123) (pc2 := 119) rfl rfl (fun _ => ?_) (fun _ => ?_)
                    · exact hj123 _
                    · refine g_iconst hc dX12_readsRows_119 ic_1 (pc2 := 120) rfl ?_
                      refine g_goto hc dX12_readsRows_120 (pc2 := 124) rfl ?_
                      exact hj124 _ _
          · refine g_icmp_ne hc dX12_readsRows_83 (pc1 := 86) (pc2 := 91) rfl rfl (fun _ => ?_) (fun _ => ?_)
            · refine g_bipush hc dX12_readsRows_86 bp_8 (pc2 := 88) rfl ?_
              refine g_goto hc dX12_readsRows_88 (pc2 := 93) rfl ?_
              refine q_Gmask [true, true, false] (L2 := [some (q_rf w x0), some (.int x1), none]) rfl ?_
              exact hj93 _ _
            · refine g_bipush hc dX12_readsRows_91 bp_16 (pc2 := 93) rfl ?_
              refine q_Gmask [true, true, false] (L2 := [some (q_rf w x0), some (.int x1), none]) rfl ?_
              exact hj93 _ _
        · refine g_rl0 hc dX12_readsRows_68 rfl (pc2 := 69) rfl ?_
          refine g_iconst hc dX12_readsRows_69 ic_1 (pc2 := 70) rfl ?_
          refine g_callV1 hc (C_X12_bad hx0) mv_X12_bad ln_X12_198 hx0 ⟨by decide, by decide⟩ (Nat.le_of_ble_eq_true rfl) dX12_readsRows_70 (pc2 := 73) rfl (fun r28 s27 => ?_)
          exact g_zret hc dX12_readsRows_73
set_option maxRecDepth 100000 in
set_option maxHeartbeats 4000000 in
theorem C_X12_readsRows {l : Launch} {w : q_Wd} {n : Nat} {t : Nat} (ht : q_KD t = .inl 12) {s0 : q_Sto} : q_C l w yX12_readsRows cX12_readsRows 3 (some .boolean) (q_rm 15 334) [q_rf w t] s0 (f_X12_readsRows n t s0) := q_CofG [some (q_rf w t), none, none] (by decide +kernel) rfl rfl (Nat.le_of_ble_eq_true rfl) fun cx hl hc => by
  have hc : q_ok w cx RX12 cX12_readsRows 3 (some .boolean) (q_rm 15 334) := hc
  rw [f_X12_readsRows]
  refine g_rl0 hc dX12_readsRows_0 rfl (pc2 := 1) rfl ?_
  refine g_iconst hc dX12_readsRows_1 ic_0 (pc2 := 2) rfl ?_
  refine g_putI hc fl_X12_247 rfl ht dX12_readsRows_2 (pc2 := 5) rfl (fun s1 => ?_)
  refine g_rl0 hc dX12_readsRows_5 rfl (pc2 := 6) rfl ?_
  refine g_getI hc fl_X12_155 rfl ht dX12_readsRows_6 (pc2 := 9) rfl ?_
  refine g_iconst hc dX12_readsRows_9 ic_1 (pc2 := 10) rfl ?_
  refine g_icmp_ne hc dX12_readsRows_10 (pc1 := 13) (pc2 := 18) rfl rfl (fun _ => ?_) (fun _ => ?_)
  · refine g_bipush hc dX12_readsRows_13 bp_7 (pc2 := 15) rfl ?_
    refine g_goto hc dX12_readsRows_15 (pc2 := 46) rfl ?_
    refine g_is1 hc dX12_readsRows_46 (by decide) (L2 := [some (q_rf w t), some (.int 7), none]) rfl (pc2 := 47) rfl ?_
    refine g_iconst hc dX12_readsRows_47 ic_1 (pc2 := 48) rfl ?_
    refine g_is2 hc dX12_readsRows_48 (by decide) (L2 := [some (q_rf w t), some (.int 7), some (.int 1)]) rfl (pc2 := 49) rfl ?_
    refine t_X12_readsRows_L49 hc ht  n _ _
  · refine g_rl0 hc dX12_readsRows_18 rfl (pc2 := 19) rfl ?_
    refine g_getI hc fl_X12_155 rfl ht dX12_readsRows_19 (pc2 := 22) rfl ?_
    refine g_iconst hc dX12_readsRows_22 ic_2 (pc2 := 23) rfl ?_
    refine g_icmp_ne hc dX12_readsRows_23 (pc1 := 26) (pc2 := 31) rfl rfl (fun _ => ?_) (fun _ => ?_)
    · refine g_bipush hc dX12_readsRows_26 bp_9 (pc2 := 28) rfl ?_
      refine g_goto hc dX12_readsRows_28 (pc2 := 46) rfl ?_
      refine g_is1 hc dX12_readsRows_46 (by decide) (L2 := [some (q_rf w t), some (.int 9), none]) rfl (pc2 := 47) rfl ?_
      refine g_iconst hc dX12_readsRows_47 ic_1 (pc2 := 48) rfl ?_
      refine g_is2 hc dX12_readsRows_48 (by decide) (L2 := [some (q_rf w t), some (.int 9), some (.int 1)]) rfl (pc2 := 49) rfl ?_
      refine t_X12_readsRows_L49 hc ht  n _ _
    · refine g_rl0 hc dX12_readsRows_31 rfl (pc2 := 32) rfl ?_
      refine g_getI hc fl_X12_155 rfl ht dX12_readsRows_32 (pc2 := 35) rfl ?_
      refine g_iconst hc dX12_readsRows_35 ic_3 (pc2 := 36) rfl ?_
      refine g_icmp_ne hc dX12_readsRows_36 (pc1 := 39) (pc2 := 44) rfl rfl (fun _ => ?_) (fun _ => ?_)
      · refine g_bipush hc dX12_readsRows_39 bp_15 (pc2 := 41) rfl ?_
        refine g_goto hc dX12_readsRows_41 (pc2 := 46) rfl ?_
        refine g_is1 hc dX12_readsRows_46 (by decide) (L2 := [some (q_rf w t), some (.int 15), none]) rfl (pc2 := 47) rfl ?_
        refine g_iconst hc dX12_readsRows_47 ic_1 (pc2 := 48) rfl ?_
        refine g_is2 hc dX12_readsRows_48 (by decide) (L2 := [some (q_rf w t), some (.int 15), some (.int 1)]) rfl (pc2 := 49) rfl ?_
        refine t_X12_readsRows_L49 hc ht  n _ _
      · refine g_bipush hc dX12_readsRows_44 bp_17 (pc2 := 46) rfl ?_
        refine g_is1 hc dX12_readsRows_46 (by decide) (L2 := [some (q_rf w t), some (.int 17), none]) rfl (pc2 := 47) rfl ?_
        refine g_iconst hc dX12_readsRows_47 ic_1 (pc2 := 48) rfl ?_
        refine g_is2 hc dX12_readsRows_48 (by decide) (L2 := [some (q_rf w t), some (.int 17), some (.int 1)]) rfl (pc2 := 49) rfl ?_
        refine t_X12_readsRows_L49 hc ht  n _ _
set_option maxRecDepth 100000 in
set_option maxHeartbeats 4000000 in
def f_X12_putsLaw_L13 (n : Nat) (x0 : Nat) (k105 : q_Sto → Option (Int32 × q_Sto)) : Nat → Int32 → q_Sto → Option (Int32 × q_Sto)
  | 0, _, _ => none
  | j + 1, x1, s0 =>
    if x1 < (s0 x0 13) then (
    q_ld s0 (q_RF x0 6) (4 * x1) 64 fun v3 =>
    q_st s0 (q_RF x0 0) (905 + x1) 1790 v3 fun s4 =>
    q_ld s4 (q_RF x0 6) ((4 * x1) + 1) 64 fun v5 =>
    q_st s4 (q_RF x0 0) (921 + x1) 1790 v5 fun s6 =>
    q_ld s6 (q_RF x0 6) ((4 * x1) + 2) 64 fun v7 =>
    q_st s6 (q_RF x0 0) (937 + x1) 1790 v7 fun s8 =>
    q_ld s8 (q_RF x0 6) ((4 * x1) + 3) 64 fun v9 =>
    q_st s8 (q_RF x0 0) (953 + x1) 1790 v9 fun s10 =>
    f_X12_putsLaw_L13 n x0 k105 j (x1 + 1) s10)
    else (
    k105 s0)
set_option maxRecDepth 100000 in
set_option maxHeartbeats 4000000 in
def f_X12_putsLaw_L107 (n : Nat) (x0 : Nat) : Nat → Int32 → q_Sto → Option (Int32 × q_Sto)
  | 0, _, _ => none
  | j + 1, x1, s0 =>
    if x1 < (2 * (s0 x0 14)) then (
    q_ld s0 (q_RF x0 7) x1 820 fun v13 =>
    q_st s0 (q_RF x0 0) (970 + x1) 1790 v13 fun s14 =>
    f_X12_putsLaw_L107 n x0  j (x1 + 1) s14)
    else (
    some ((s0 x0 13), s0))
set_option maxRecDepth 100000 in
set_option maxHeartbeats 4000000 in
def f_X12_putsLaw (n : Nat) (t : Nat) (s0 : q_Sto) : Option (Int32 × q_Sto) :=
  q_st s0 (q_RF t 0) 89 1790 (s0 t 13) fun s1 =>
  f_X12_putsLaw_L13 n t (fun  (s11 : q_Sto) =>
  f_X12_putsLaw_L107 n t  n 0 s11) n 0 s1
set_option maxRecDepth 100000 in
set_option maxHeartbeats 4000000 in
theorem t_X12_putsLaw_L13 {w : q_Wd} {cx : q_Cx} (hc : q_ok w cx RX12 cX12_putsLaw 2 (some .int) (q_rm 0 0)) {n : Nat} {x0 : Nat} (hx0 : q_KD x0 = .inl 12) {k105 : q_Sto → Option (Int32 × q_Sto)} (hk105 : ∀  (s1 : q_Sto), q_G w cx 2 (some .int) 105 [some (q_rf w x0), none] [] s1 (k105 s1)) :
    ∀ (j : Nat) (x1 : Int32) (s0 : q_Sto), q_G w cx 2 (some .int) 13 [some (q_rf w x0), some (.int x1)] [] s0 (f_X12_putsLaw_L13 n x0 k105 j x1 s0) := by
  intro j
  induction j with
  | zero =>
    intro _ _
    rw [f_X12_putsLaw_L13]
    exact q_none
  | succ j ih =>
    intro x1 s0
    rw [f_X12_putsLaw_L13]
    refine g_il1 hc dX12_putsLaw_13 rfl (pc2 := 14) rfl ?_
    refine g_rl0 hc dX12_putsLaw_14 rfl (pc2 := 15) rfl ?_
    refine g_getI hc fl_X12_238 rfl hx0 dX12_putsLaw_15 (pc2 := 18) rfl ?_
    refine g_icmp_ge hc dX12_putsLaw_18 (pc1 := 21) (pc2 := 105) rfl rfl (fun _ => ?_) (fun _ => ?_)
    · refine g_rl0 hc dX12_putsLaw_21 rfl (pc2 := 22) rfl ?_
      refine g_getR hc fl_X12_7 rfl hx0 dX12_putsLaw_22 (pc2 := 25) rfl ?_
      refine g_sipush hc dX12_putsLaw_25 sp_905 (pc2 := 28) rfl ?_
      refine g_il1 hc dX12_putsLaw_28 rfl (pc2 := 29) rfl ?_
      refine g_iadd hc dX12_putsLaw_29 (pc2 := 30) rfl ?_
      refine g_rl0 hc dX12_putsLaw_30 rfl (pc2 := 31) rfl ?_
      refine g_getR hc fl_X12_22 rfl hx0 dX12_putsLaw_31 (pc2 := 34) rfl ?_
      refine g_iconst hc dX12_putsLaw_34 ic_4 (pc2 := 35) rfl ?_
      refine g_il1 hc dX12_putsLaw_35 rfl (pc2 := 36) rfl ?_
      refine g_imul hc dX12_putsLaw_36 (pc2 := 37) rfl ?_
      refine g_iald hc (kf_12_6 hx0) (kl_12_6 hx0) dX12_putsLaw_37 (pc2 := 38) rfl (fun v3 => ?_)
      refine g_iast hc (kf_12_0 hx0) (kl_12_0 hx0) dX12_putsLaw_38 (pc2 := 39) rfl (fun s4 => ?_)
      refine g_rl0 hc dX12_putsLaw_39 rfl (pc2 := 40) rfl ?_
      refine g_getR hc fl_X12_7 rfl hx0 dX12_putsLaw_40 (pc2 := 43) rfl ?_
      refine g_sipush hc dX12_putsLaw_43 sp_921 (pc2 := 46) rfl ?_
      refine g_il1 hc dX12_putsLaw_46 rfl (pc2 := 47) rfl ?_
      refine g_iadd hc dX12_putsLaw_47 (pc2 := 48) rfl ?_
      refine g_rl0 hc dX12_putsLaw_48 rfl (pc2 := 49) rfl ?_
      refine g_getR hc fl_X12_22 rfl hx0 dX12_putsLaw_49 (pc2 := 52) rfl ?_
      refine g_iconst hc dX12_putsLaw_52 ic_4 (pc2 := 53) rfl ?_
      refine g_il1 hc dX12_putsLaw_53 rfl (pc2 := 54) rfl ?_
      refine g_imul hc dX12_putsLaw_54 (pc2 := 55) rfl ?_
      refine g_iconst hc dX12_putsLaw_55 ic_1 (pc2 := 56) rfl ?_
      refine g_iadd hc dX12_putsLaw_56 (pc2 := 57) rfl ?_
      refine g_iald hc (kf_12_6 hx0) (kl_12_6 hx0) dX12_putsLaw_57 (pc2 := 58) rfl (fun v5 => ?_)
      refine g_iast hc (kf_12_0 hx0) (kl_12_0 hx0) dX12_putsLaw_58 (pc2 := 59) rfl (fun s6 => ?_)
      refine g_rl0 hc dX12_putsLaw_59 rfl (pc2 := 60) rfl ?_
      refine g_getR hc fl_X12_7 rfl hx0 dX12_putsLaw_60 (pc2 := 63) rfl ?_
      refine g_sipush hc dX12_putsLaw_63 sp_937 (pc2 := 66) rfl ?_
      refine g_il1 hc dX12_putsLaw_66 rfl (pc2 := 67) rfl ?_
      refine g_iadd hc dX12_putsLaw_67 (pc2 := 68) rfl ?_
      refine g_rl0 hc dX12_putsLaw_68 rfl (pc2 := 69) rfl ?_
      refine g_getR hc fl_X12_22 rfl hx0 dX12_putsLaw_69 (pc2 := 72) rfl ?_
      refine g_iconst hc dX12_putsLaw_72 ic_4 (pc2 := 73) rfl ?_
      refine g_il1 hc dX12_putsLaw_73 rfl (pc2 := 74) rfl ?_
      refine g_imul hc dX12_putsLaw_74 (pc2 := 75) rfl ?_
      refine g_iconst hc dX12_putsLaw_75 ic_2 (pc2 := 76) rfl ?_
      refine g_iadd hc dX12_putsLaw_76 (pc2 := 77) rfl ?_
      refine g_iald hc (kf_12_6 hx0) (kl_12_6 hx0) dX12_putsLaw_77 (pc2 := 78) rfl (fun v7 => ?_)
      refine g_iast hc (kf_12_0 hx0) (kl_12_0 hx0) dX12_putsLaw_78 (pc2 := 79) rfl (fun s8 => ?_)
      refine g_rl0 hc dX12_putsLaw_79 rfl (pc2 := 80) rfl ?_
      refine g_getR hc fl_X12_7 rfl hx0 dX12_putsLaw_80 (pc2 := 83) rfl ?_
      refine g_sipush hc dX12_putsLaw_83 sp_953 (pc2 := 86) rfl ?_
      refine g_il1 hc dX12_putsLaw_86 rfl (pc2 := 87) rfl ?_
      refine g_iadd hc dX12_putsLaw_87 (pc2 := 88) rfl ?_
      refine g_rl0 hc dX12_putsLaw_88 rfl (pc2 := 89) rfl ?_
      refine g_getR hc fl_X12_22 rfl hx0 dX12_putsLaw_89 (pc2 := 92) rfl ?_
      refine g_iconst hc dX12_putsLaw_92 ic_4 (pc2 := 93) rfl ?_
      refine g_il1 hc dX12_putsLaw_93 rfl (pc2 := 94) rfl ?_
      refine g_imul hc dX12_putsLaw_94 (pc2 := 95) rfl ?_
      refine g_iconst hc dX12_putsLaw_95 ic_3 (pc2 := 96) rfl ?_
      refine g_iadd hc dX12_putsLaw_96 (pc2 := 97) rfl ?_
      refine g_iald hc (kf_12_6 hx0) (kl_12_6 hx0) dX12_putsLaw_97 (pc2 := 98) rfl (fun v9 => ?_)
      refine g_iast hc (kf_12_0 hx0) (kl_12_0 hx0) dX12_putsLaw_98 (pc2 := 99) rfl (fun s10 => ?_)
      refine g_iinc hc dX12_putsLaw_99 rfl (q_ii ic_1) (by decide) (L2 := [some (q_rf w x0), some (.int (x1 + 1))]) rfl (pc2 := 102) rfl ?_
      refine g_goto hc dX12_putsLaw_102 (pc2 := 13) rfl ?_
      exact ih _ _
    · refine q_Gmask [true, false] (L2 := [some (q_rf w x0), none]) rfl ?_
      exact hk105 _
set_option maxRecDepth 100000 in
set_option maxHeartbeats 4000000 in
theorem t_X12_putsLaw_L107 {w : q_Wd} {cx : q_Cx} (hc : q_ok w cx RX12 cX12_putsLaw 2 (some .int) (q_rm 0 0)) {n : Nat} {x0 : Nat} (hx0 : q_KD x0 = .inl 12)   :
    ∀ (j : Nat) (x1 : Int32) (s0 : q_Sto), q_G w cx 2 (some .int) 107 [some (q_rf w x0), some (.int x1)] [] s0 (f_X12_putsLaw_L107 n x0  j x1 s0) := by
  intro j
  induction j with
  | zero =>
    intro _ _
    rw [f_X12_putsLaw_L107]
    exact q_none
  | succ j ih =>
    intro x1 s0
    rw [f_X12_putsLaw_L107]
    refine g_il1 hc dX12_putsLaw_107 rfl (pc2 := 108) rfl ?_
    refine g_iconst hc dX12_putsLaw_108 ic_2 (pc2 := 109) rfl ?_
    refine g_rl0 hc dX12_putsLaw_109 rfl (pc2 := 110) rfl ?_
    refine g_getI hc fl_X12_204 rfl hx0 dX12_putsLaw_110 (pc2 := 113) rfl ?_
    refine g_imul hc dX12_putsLaw_113 (pc2 := 114) rfl ?_
    refine g_icmp_ge hc dX12_putsLaw_114 (pc1 := 117) (pc2 := 139) rfl rfl (fun _ => ?_) (fun _ => ?_)
    · refine g_rl0 hc dX12_putsLaw_117 rfl (pc2 := 118) rfl ?_
      refine g_getR hc fl_X12_7 rfl hx0 dX12_putsLaw_118 (pc2 := 121) rfl ?_
      refine g_sipush hc dX12_putsLaw_121 sp_970 (pc2 := 124) rfl ?_
      refine g_il1 hc dX12_putsLaw_124 rfl (pc2 := 125) rfl ?_
      refine g_iadd hc dX12_putsLaw_125 (pc2 := 126) rfl ?_
      refine g_rl0 hc dX12_putsLaw_126 rfl (pc2 := 127) rfl ?_
      refine g_getR hc fl_X12_25 rfl hx0 dX12_putsLaw_127 (pc2 := 130) rfl ?_
      refine g_il1 hc dX12_putsLaw_130 rfl (pc2 := 131) rfl ?_
      refine g_iald hc (kf_12_7 hx0) (kl_12_7 hx0) dX12_putsLaw_131 (pc2 := 132) rfl (fun v13 => ?_)
      refine g_iast hc (kf_12_0 hx0) (kl_12_0 hx0) dX12_putsLaw_132 (pc2 := 133) rfl (fun s14 => ?_)
      refine g_iinc hc dX12_putsLaw_133 rfl (q_ii ic_1) (by decide) (L2 := [some (q_rf w x0), some (.int (x1 + 1))]) rfl (pc2 := 136) rfl ?_
      refine g_goto hc dX12_putsLaw_136 (pc2 := 107) rfl ?_
      exact ih _ _
    · refine g_rl0 hc dX12_putsLaw_139 rfl (pc2 := 140) rfl ?_
      refine g_getI hc fl_X12_238 rfl hx0 dX12_putsLaw_140 (pc2 := 143) rfl ?_
      exact g_iret hc dX12_putsLaw_143
set_option maxRecDepth 100000 in
set_option maxHeartbeats 4000000 in
theorem C_X12_putsLaw {l : Launch} {w : q_Wd} {n : Nat} {t : Nat} (ht : q_KD t = .inl 12) {s0 : q_Sto} : q_C l w yX12_putsLaw cX12_putsLaw 2 (some .int) (q_rm 0 0) [q_rf w t] s0 (f_X12_putsLaw n t s0) := q_CofG [some (q_rf w t), none] (by decide +kernel) rfl rfl (Nat.le_of_ble_eq_true rfl) fun cx hl hc => by
  have hc : q_ok w cx RX12 cX12_putsLaw 2 (some .int) (q_rm 0 0) := hc
  rw [f_X12_putsLaw]
  refine g_rl0 hc dX12_putsLaw_0 rfl (pc2 := 1) rfl ?_
  refine g_getR hc fl_X12_7 rfl ht dX12_putsLaw_1 (pc2 := 4) rfl ?_
  refine g_bipush hc dX12_putsLaw_4 bp_89 (pc2 := 6) rfl ?_
  refine g_rl0 hc dX12_putsLaw_6 rfl (pc2 := 7) rfl ?_
  refine g_getI hc fl_X12_238 rfl ht dX12_putsLaw_7 (pc2 := 10) rfl ?_
  refine g_iast hc (kf_12_0 ht) (kl_12_0 ht) dX12_putsLaw_10 (pc2 := 11) rfl (fun s1 => ?_)
  refine g_iconst hc dX12_putsLaw_11 ic_0 (pc2 := 12) rfl ?_
  refine g_is1 hc dX12_putsLaw_12 (by decide) (L2 := [some (q_rf w t), some (.int 0)]) rfl (pc2 := 13) rfl ?_
  refine t_X12_putsLaw_L13 hc ht (fun s11 => ?_) n _ _
  refine g_iconst hc dX12_putsLaw_105 ic_0 (pc2 := 106) rfl ?_
  refine g_is1 hc dX12_putsLaw_106 (by decide) (L2 := [some (q_rf w t), some (.int 0)]) rfl (pc2 := 107) rfl ?_
  refine t_X12_putsLaw_L107 hc ht  n _ _
set_option maxRecDepth 100000 in
set_option maxHeartbeats 4000000 in
def f_X12_puts_L13 (n : Nat) (x0 : Nat) (x2 : Int32) (x3 : Int32) : Nat → Int32 → q_Sto → Option (Int32 × q_Sto)
  | 0, _, _ => none
  | j + 1, x4, s0 =>
    if x4 < (x3 * (s0 x0 15)) then (
    q_ld s0 (q_RF x0 8) x4 64 fun v3 =>
    q_st s0 (q_RF x0 0) (x2 + x4) 1790 v3 fun s4 =>
    f_X12_puts_L13 n x0 x2 x3  j (x4 + 1) s4)
    else (
    some ((s0 x0 15), s0))
set_option maxRecDepth 100000 in
set_option maxHeartbeats 4000000 in
def f_X12_puts (n : Nat) (t : Nat) (a0 : Int32) (a1 : Int32) (a2 : Int32) (s0 : q_Sto) : Option (Int32 × q_Sto) :=
  q_st s0 (q_RF t 0) a0 1790 (s0 t 15) fun s1 =>
  f_X12_puts_L13 n t a1 a2  n 0 s1
set_option maxRecDepth 100000 in
set_option maxHeartbeats 4000000 in
theorem t_X12_puts_L13 {w : q_Wd} {cx : q_Cx} (hc : q_ok w cx RX12 cX12_puts 5 (some .int) (q_rm 0 0)) {n : Nat} {x0 : Nat} {x2 : Int32} {x3 : Int32} (hx0 : q_KD x0 = .inl 12)   :
    ∀ (j : Nat) (x4 : Int32) (s0 : q_Sto), q_G w cx 5 (some .int) 13 [some (q_rf w x0), none, some (.int x2), some (.int x3), some (.int x4)] [] s0 (f_X12_puts_L13 n x0 x2 x3  j x4 s0) := by
  intro j
  induction j with
  | zero =>
    intro _ _
    rw [f_X12_puts_L13]
    exact q_none
  | succ j ih =>
    intro x4 s0
    rw [f_X12_puts_L13]
    refine g_iload hc dX12_puts_13 rfl (pc2 := 15) rfl ?_
    refine g_il3 hc dX12_puts_15 rfl (pc2 := 16) rfl ?_
    refine g_rl0 hc dX12_puts_16 rfl (pc2 := 17) rfl ?_
    refine g_getI hc fl_X12_247 rfl hx0 dX12_puts_17 (pc2 := 20) rfl ?_
    refine g_imul hc dX12_puts_20 (pc2 := 21) rfl ?_
    refine g_icmp_ge hc dX12_puts_21 (pc1 := 24) (pc2 := 46) rfl rfl (fun _ => ?_) (fun _ => ?_)
    · refine g_rl0 hc dX12_puts_24 rfl (pc2 := 25) rfl ?_
      refine g_getR hc fl_X12_7 rfl hx0 dX12_puts_25 (pc2 := 28) rfl ?_
      refine g_il2 hc dX12_puts_28 rfl (pc2 := 29) rfl ?_
      refine g_iload hc dX12_puts_29 rfl (pc2 := 31) rfl ?_
      refine g_iadd hc dX12_puts_31 (pc2 := 32) rfl ?_
      refine g_rl0 hc dX12_puts_32 rfl (pc2 := 33) rfl ?_
      refine g_getR hc fl_X12_28 rfl hx0 dX12_puts_33 (pc2 := 36) rfl ?_
      refine g_iload hc dX12_puts_36 rfl (pc2 := 38) rfl ?_
      refine g_iald hc (kf_12_8 hx0) (kl_12_8 hx0) dX12_puts_38 (pc2 := 39) rfl (fun v3 => ?_)
      refine g_iast hc (kf_12_0 hx0) (kl_12_0 hx0) dX12_puts_39 (pc2 := 40) rfl (fun s4 => ?_)
      refine g_iinc hc dX12_puts_40 rfl (q_ii ic_1) (by decide) (L2 := [some (q_rf w x0), none, some (.int x2), some (.int x3), some (.int (x4 + 1))]) rfl (pc2 := 43) rfl ?_
      refine g_goto hc dX12_puts_43 (pc2 := 13) rfl ?_
      exact ih _ _
    · refine g_rl0 hc dX12_puts_46 rfl (pc2 := 47) rfl ?_
      refine g_getI hc fl_X12_247 rfl hx0 dX12_puts_47 (pc2 := 50) rfl ?_
      exact g_iret hc dX12_puts_50
set_option maxRecDepth 100000 in
set_option maxHeartbeats 4000000 in
theorem C_X12_puts {l : Launch} {w : q_Wd} {n : Nat} {t : Nat} {a0 : Int32} {a1 : Int32} {a2 : Int32} (ht : q_KD t = .inl 12) {s0 : q_Sto} : q_C l w yX12_puts cX12_puts 5 (some .int) (q_rm 0 0) [q_rf w t, .int a0, .int a1, .int a2] s0 (f_X12_puts n t a0 a1 a2 s0) := q_CofG [some (q_rf w t), some (.int a0), some (.int a1), some (.int a2), none] (by decide +kernel) rfl rfl (Nat.le_of_ble_eq_true rfl) fun cx hl hc => by
  have hc : q_ok w cx RX12 cX12_puts 5 (some .int) (q_rm 0 0) := hc
  rw [f_X12_puts]
  refine g_rl0 hc dX12_puts_0 rfl (pc2 := 1) rfl ?_
  refine g_getR hc fl_X12_7 rfl ht dX12_puts_1 (pc2 := 4) rfl ?_
  refine g_il1 hc dX12_puts_4 rfl (pc2 := 5) rfl ?_
  refine g_rl0 hc dX12_puts_5 rfl (pc2 := 6) rfl ?_
  refine g_getI hc fl_X12_247 rfl ht dX12_puts_6 (pc2 := 9) rfl ?_
  refine g_iast hc (kf_12_0 ht) (kl_12_0 ht) dX12_puts_9 (pc2 := 10) rfl (fun s1 => ?_)
  refine g_iconst hc dX12_puts_10 ic_0 (pc2 := 11) rfl ?_
  refine g_istore hc dX12_puts_11 (by decide) (L2 := [some (q_rf w t), some (.int a0), some (.int a1), some (.int a2), some (.int 0)]) rfl (pc2 := 13) rfl ?_
  refine q_Gmask [true, false, true, true, true] (L2 := [some (q_rf w t), none, some (.int a1), some (.int a2), some (.int 0)]) rfl ?_
  refine t_X12_puts_L13 hc ht  n _ _
set_option maxRecDepth 100000 in
set_option maxHeartbeats 4000000 in
def f_X12_putsHeeds_L13 (n : Nat) (x0 : Nat) (k36 : q_Sto → Option (Int32 × q_Sto)) : Nat → Int32 → q_Sto → Option (Int32 × q_Sto)
  | 0, _, _ => none
  | j + 1, x1, s0 =>
    if x1 < 12 then (
    q_st s0 (q_RF x0 0) (129 + x1) 1790 0 fun s3 =>
    f_X12_putsHeeds_L13 n x0 k36 j (x1 + 1) s3)
    else (
    k36 s0)
set_option maxRecDepth 100000 in
set_option maxHeartbeats 4000000 in
def f_X12_putsHeeds_L38 (n : Nat) (x0 : Nat) : Nat → Int32 → q_Sto → Option (Int32 × q_Sto)
  | 0, _, _ => none
  | j + 1, x1, s0 =>
    if x1 < (s0 x0 15) then (
    q_ld s0 (q_RF x0 8) (2 * x1) 64 fun v6 =>
    q_ld s0 (q_RF x0 0) (129 + v6) 1790 fun v7 =>
    q_ld s0 (q_RF x0 8) ((2 * x1) + 1) 64 fun v8 =>
    q_st s0 (q_RF x0 0) (129 + v6) 1790 (v7 ||| v8) fun s9 =>
    f_X12_putsHeeds_L38 n x0  j (x1 + 1) s9)
    else (
    some ((s0 x0 15), s0))
set_option maxRecDepth 100000 in
set_option maxHeartbeats 4000000 in
def f_X12_putsHeeds (n : Nat) (t : Nat) (s0 : q_Sto) : Option (Int32 × q_Sto) :=
  q_st s0 (q_RF t 0) 90 1790 (s0 t 15) fun s1 =>
  f_X12_putsHeeds_L13 n t (fun  (s4 : q_Sto) =>
  f_X12_putsHeeds_L38 n t  n 0 s4) n 0 s1
set_option maxRecDepth 100000 in
set_option maxHeartbeats 4000000 in
theorem t_X12_putsHeeds_L13 {w : q_Wd} {cx : q_Cx} (hc : q_ok w cx RX12 cX12_putsHeeds 2 (some .int) (q_rm 0 0)) {n : Nat} {x0 : Nat} (hx0 : q_KD x0 = .inl 12) {k36 : q_Sto → Option (Int32 × q_Sto)} (hk36 : ∀  (s1 : q_Sto), q_G w cx 2 (some .int) 36 [some (q_rf w x0), none] [] s1 (k36 s1)) :
    ∀ (j : Nat) (x1 : Int32) (s0 : q_Sto), q_G w cx 2 (some .int) 13 [some (q_rf w x0), some (.int x1)] [] s0 (f_X12_putsHeeds_L13 n x0 k36 j x1 s0) := by
  intro j
  induction j with
  | zero =>
    intro _ _
    rw [f_X12_putsHeeds_L13]
    exact q_none
  | succ j ih =>
    intro x1 s0
    rw [f_X12_putsHeeds_L13]
    refine g_il1 hc dX12_putsHeeds_13 rfl (pc2 := 14) rfl ?_
    refine g_bipush hc dX12_putsHeeds_14 bp_12 (pc2 := 16) rfl ?_
    refine g_icmp_ge hc dX12_putsHeeds_16 (pc1 := 19) (pc2 := 36) rfl rfl (fun _ => ?_) (fun _ => ?_)
    · refine g_rl0 hc dX12_putsHeeds_19 rfl (pc2 := 20) rfl ?_
      refine g_getR hc fl_X12_7 rfl hx0 dX12_putsHeeds_20 (pc2 := 23) rfl ?_
      refine g_sipush hc dX12_putsHeeds_23 sp_129 (pc2 := 26) rfl ?_
      refine g_il1 hc dX12_putsHeeds_26 rfl (pc2 := 27) rfl ?_
      refine g_iadd hc dX12_putsHeeds_27 (pc2 := 28) rfl ?_
      refine g_iconst hc dX12_putsHeeds_28 ic_0 (pc2 := 29) rfl ?_
      refine g_iast hc (kf_12_0 hx0) (kl_12_0 hx0) dX12_putsHeeds_29 (pc2 := 30) rfl (fun s3 => ?_)
      refine g_iinc hc dX12_putsHeeds_30 rfl (q_ii ic_1) (by decide) (L2 := [some (q_rf w x0), some (.int (x1 + 1))]) rfl (pc2 := 33) rfl ?_
      refine g_goto hc dX12_putsHeeds_33 (pc2 := 13) rfl ?_
      exact ih _ _
    · refine q_Gmask [true, false] (L2 := [some (q_rf w x0), none]) rfl ?_
      exact hk36 _
set_option maxRecDepth 100000 in
set_option maxHeartbeats 4000000 in
theorem t_X12_putsHeeds_L38 {w : q_Wd} {cx : q_Cx} (hc : q_ok w cx RX12 cX12_putsHeeds 2 (some .int) (q_rm 0 0)) {n : Nat} {x0 : Nat} (hx0 : q_KD x0 = .inl 12)   :
    ∀ (j : Nat) (x1 : Int32) (s0 : q_Sto), q_G w cx 2 (some .int) 38 [some (q_rf w x0), some (.int x1)] [] s0 (f_X12_putsHeeds_L38 n x0  j x1 s0) := by
  intro j
  induction j with
  | zero =>
    intro _ _
    rw [f_X12_putsHeeds_L38]
    exact q_none
  | succ j ih =>
    intro x1 s0
    rw [f_X12_putsHeeds_L38]
    refine g_il1 hc dX12_putsHeeds_38 rfl (pc2 := 39) rfl ?_
    refine g_rl0 hc dX12_putsHeeds_39 rfl (pc2 := 40) rfl ?_
    refine g_getI hc fl_X12_247 rfl hx0 dX12_putsHeeds_40 (pc2 := 43) rfl ?_
    refine g_icmp_ge hc dX12_putsHeeds_43 (pc1 := 46) (pc2 := 82) rfl rfl (fun _ => ?_) (fun _ => ?_)
    · refine g_rl0 hc dX12_putsHeeds_46 rfl (pc2 := 47) rfl ?_
      refine g_getR hc fl_X12_7 rfl hx0 dX12_putsHeeds_47 (pc2 := 50) rfl ?_
      refine g_sipush hc dX12_putsHeeds_50 sp_129 (pc2 := 53) rfl ?_
      refine g_rl0 hc dX12_putsHeeds_53 rfl (pc2 := 54) rfl ?_
      refine g_getR hc fl_X12_28 rfl hx0 dX12_putsHeeds_54 (pc2 := 57) rfl ?_
      refine g_iconst hc dX12_putsHeeds_57 ic_2 (pc2 := 58) rfl ?_
      refine g_il1 hc dX12_putsHeeds_58 rfl (pc2 := 59) rfl ?_
      refine g_imul hc dX12_putsHeeds_59 (pc2 := 60) rfl ?_
      refine g_iald hc (kf_12_8 hx0) (kl_12_8 hx0) dX12_putsHeeds_60 (pc2 := 61) rfl (fun v6 => ?_)
      refine g_iadd hc dX12_putsHeeds_61 (pc2 := 62) rfl ?_
      refine g_dup2 hc dX12_putsHeeds_62 rfl rfl (pc2 := 63) rfl ?_
      refine g_iald hc (kf_12_0 hx0) (kl_12_0 hx0) dX12_putsHeeds_63 (pc2 := 64) rfl (fun v7 => ?_)
      refine g_rl0 hc dX12_putsHeeds_64 rfl (pc2 := 65) rfl ?_
      refine g_getR hc fl_X12_28 rfl hx0 dX12_putsHeeds_65 (pc2 := 68) rfl ?_
      refine g_iconst hc dX12_putsHeeds_68 ic_2 (pc2 := 69) rfl ?_
      refine g_il1 hc dX12_putsHeeds_69 rfl (pc2 := 70) rfl ?_
      refine g_imul hc dX12_putsHeeds_70 (pc2 := 71) rfl ?_
      refine g_iconst hc dX12_putsHeeds_71 ic_1 (pc2 := 72) rfl ?_
      refine g_iadd hc dX12_putsHeeds_72 (pc2 := 73) rfl ?_
      refine g_iald hc (kf_12_8 hx0) (kl_12_8 hx0) dX12_putsHeeds_73 (pc2 := 74) rfl (fun v8 => ?_)
      refine g_ior hc dX12_putsHeeds_74 (pc2 := 75) rfl ?_
      refine g_iast hc (kf_12_0 hx0) (kl_12_0 hx0) dX12_putsHeeds_75 (pc2 := 76) rfl (fun s9 => ?_)
      refine g_iinc hc dX12_putsHeeds_76 rfl (q_ii ic_1) (by decide) (L2 := [some (q_rf w x0), some (.int (x1 + 1))]) rfl (pc2 := 79) rfl ?_
      refine g_goto hc dX12_putsHeeds_79 (pc2 := 38) rfl ?_
      exact ih _ _
    · refine g_rl0 hc dX12_putsHeeds_82 rfl (pc2 := 83) rfl ?_
      refine g_getI hc fl_X12_247 rfl hx0 dX12_putsHeeds_83 (pc2 := 86) rfl ?_
      exact g_iret hc dX12_putsHeeds_86
set_option maxRecDepth 100000 in
set_option maxHeartbeats 4000000 in
theorem C_X12_putsHeeds {l : Launch} {w : q_Wd} {n : Nat} {t : Nat} (ht : q_KD t = .inl 12) {s0 : q_Sto} : q_C l w yX12_putsHeeds cX12_putsHeeds 2 (some .int) (q_rm 0 0) [q_rf w t] s0 (f_X12_putsHeeds n t s0) := q_CofG [some (q_rf w t), none] (by decide +kernel) rfl rfl (Nat.le_of_ble_eq_true rfl) fun cx hl hc => by
  have hc : q_ok w cx RX12 cX12_putsHeeds 2 (some .int) (q_rm 0 0) := hc
  rw [f_X12_putsHeeds]
  refine g_rl0 hc dX12_putsHeeds_0 rfl (pc2 := 1) rfl ?_
  refine g_getR hc fl_X12_7 rfl ht dX12_putsHeeds_1 (pc2 := 4) rfl ?_
  refine g_bipush hc dX12_putsHeeds_4 bp_90 (pc2 := 6) rfl ?_
  refine g_rl0 hc dX12_putsHeeds_6 rfl (pc2 := 7) rfl ?_
  refine g_getI hc fl_X12_247 rfl ht dX12_putsHeeds_7 (pc2 := 10) rfl ?_
  refine g_iast hc (kf_12_0 ht) (kl_12_0 ht) dX12_putsHeeds_10 (pc2 := 11) rfl (fun s1 => ?_)
  refine g_iconst hc dX12_putsHeeds_11 ic_0 (pc2 := 12) rfl ?_
  refine g_is1 hc dX12_putsHeeds_12 (by decide) (L2 := [some (q_rf w t), some (.int 0)]) rfl (pc2 := 13) rfl ?_
  refine t_X12_putsHeeds_L13 hc ht (fun s4 => ?_) n _ _
  refine g_iconst hc dX12_putsHeeds_36 ic_0 (pc2 := 37) rfl ?_
  refine g_is1 hc dX12_putsHeeds_37 (by decide) (L2 := [some (q_rf w t), some (.int 0)]) rfl (pc2 := 38) rfl ?_
  refine t_X12_putsHeeds_L38 hc ht  n _ _
set_option maxRecDepth 100000 in
set_option maxHeartbeats 4000000 in
def f_X12_putsText (n : Nat) (t : Nat) (a0 : Int32) (s0 : q_Sto) : Option (Int32 × q_Sto) :=
  if a0 = 0 then (
  q_call (f_X12_putsLaw n t s0) fun r3 s2 =>
  some (r3, s2))
  else (
  if a0 = 4 then (
  q_call (f_X12_puts n t 93 253 2 s0) fun r6 s5 =>
  some (r6, s5))
  else (
  q_callv (f_X12_forgets n t s0) fun s7 =>
  if a0 = 1 then (
  q_call (f_X12_putsHeeds n t s7) fun r11 s10 =>
  some (r11, s10))
  else (
  if a0 = 2 then (
  q_call (f_X12_puts n t 91 141 4 s7) fun r14 s13 =>
  some (r14, s13))
  else (
  q_call (f_X12_puts n t 92 205 3 s7) fun r16 s15 =>
  some (r16, s15)))))
set_option maxRecDepth 100000 in
set_option maxHeartbeats 4000000 in
theorem C_X12_putsText {l : Launch} {w : q_Wd} {n : Nat} {t : Nat} {a0 : Int32} (ht : q_KD t = .inl 12) {s0 : q_Sto} : q_C l w yX12_putsText cX12_putsText 2 (some .int) (q_rm 1 24) [q_rf w t, .int a0] s0 (f_X12_putsText n t a0 s0) := q_CofG [some (q_rf w t), some (.int a0)] (by decide +kernel) rfl rfl (Nat.le_of_ble_eq_true rfl) fun cx hl hc => by
  have hc : q_ok w cx RX12 cX12_putsText 2 (some .int) (q_rm 1 24) := hc
  rw [f_X12_putsText]
  refine g_il1 hc dX12_putsText_0 rfl (pc2 := 1) rfl ?_
  refine g_if_ne hc dX12_putsText_1 (pc1 := 4) (pc2 := 9) rfl rfl (fun _ => ?_) (fun _ => ?_)
  · refine g_rl0 hc dX12_putsText_4 rfl (pc2 := 5) rfl ?_
    refine g_callV0 hc (C_X12_putsLaw ht) mv_X12_putsLaw ln_X12_272 ht ⟨by decide, by decide⟩ (Nat.le_of_ble_eq_true rfl) dX12_putsText_5 (pc2 := 8) rfl (fun r3 s2 => ?_)
    exact g_iret hc dX12_putsText_8
  · refine g_il1 hc dX12_putsText_9 rfl (pc2 := 10) rfl ?_
    refine g_iconst hc dX12_putsText_10 ic_4 (pc2 := 11) rfl ?_
    refine g_icmp_ne hc dX12_putsText_11 (pc1 := 14) (pc2 := 25) rfl rfl (fun _ => ?_) (fun _ => ?_)
    · refine g_rl0 hc dX12_putsText_14 rfl (pc2 := 15) rfl ?_
      refine g_bipush hc dX12_putsText_15 bp_93 (pc2 := 17) rfl ?_
      refine g_sipush hc dX12_putsText_17 sp_253 (pc2 := 20) rfl ?_
      refine g_iconst hc dX12_putsText_20 ic_2 (pc2 := 21) rfl ?_
      refine g_callV3 hc (C_X12_puts ht) mv_X12_puts ln_X12_275 ht ⟨by decide, by decide⟩ (Nat.le_of_ble_eq_true rfl) dX12_putsText_21 (pc2 := 24) rfl (fun r6 s5 => ?_)
      exact g_iret hc dX12_putsText_24
    · refine g_rl0 hc dX12_putsText_25 rfl (pc2 := 26) rfl ?_
      refine g_callV0v hc (C_X12_forgets ht) mv_X12_forgets ln_X12_63 ht ⟨by decide, by decide⟩ (Nat.le_of_ble_eq_true rfl) dX12_putsText_26 (pc2 := 29) rfl (fun s7 => ?_)
      refine g_il1 hc dX12_putsText_29 rfl (pc2 := 30) rfl ?_
      refine g_iconst hc dX12_putsText_30 ic_1 (pc2 := 31) rfl ?_
      refine g_icmp_ne hc dX12_putsText_31 (pc1 := 34) (pc2 := 41) rfl rfl (fun _ => ?_) (fun _ => ?_)
      · refine g_rl0 hc dX12_putsText_34 rfl (pc2 := 35) rfl ?_
        refine g_callV0 hc (C_X12_putsHeeds ht) mv_X12_putsHeeds ln_X12_279 ht ⟨by decide, by decide⟩ (Nat.le_of_ble_eq_true rfl) dX12_putsText_35 (pc2 := 38) rfl (fun r11 s10 => ?_)
        refine g_goto hc dX12_putsText_38 (pc2 := 69) rfl ?_
        exact g_iret hc dX12_putsText_69
      · refine g_il1 hc dX12_putsText_41 rfl (pc2 := 42) rfl ?_
        refine g_iconst hc dX12_putsText_42 ic_2 (pc2 := 43) rfl ?_
        refine g_icmp_ne hc dX12_putsText_43 (pc1 := 46) (pc2 := 59) rfl rfl (fun _ => ?_) (fun _ => ?_)
        · refine g_rl0 hc dX12_putsText_46 rfl (pc2 := 47) rfl ?_
          refine g_bipush hc dX12_putsText_47 bp_91 (pc2 := 49) rfl ?_
          refine g_sipush hc dX12_putsText_49 sp_141 (pc2 := 52) rfl ?_
          refine g_iconst hc dX12_putsText_52 ic_4 (pc2 := 53) rfl ?_
          refine g_callV3 hc (C_X12_puts ht) mv_X12_puts ln_X12_275 ht ⟨by decide, by decide⟩ (Nat.le_of_ble_eq_true rfl) dX12_putsText_53 (pc2 := 56) rfl (fun r14 s13 => ?_)
          refine g_goto hc dX12_putsText_56 (pc2 := 69) rfl ?_
          exact g_iret hc dX12_putsText_69
        · refine g_rl0 hc dX12_putsText_59 rfl (pc2 := 60) rfl ?_
          refine g_bipush hc dX12_putsText_60 bp_92 (pc2 := 62) rfl ?_
          refine g_sipush hc dX12_putsText_62 sp_205 (pc2 := 65) rfl ?_
          refine g_iconst hc dX12_putsText_65 ic_3 (pc2 := 66) rfl ?_
          refine g_callV3 hc (C_X12_puts ht) mv_X12_puts ln_X12_275 ht ⟨by decide, by decide⟩ (Nat.le_of_ble_eq_true rfl) dX12_putsText_66 (pc2 := 69) rfl (fun r16 s15 => ?_)
          exact g_iret hc dX12_putsText_69
set_option maxRecDepth 100000 in
set_option maxHeartbeats 4000000 in
def f_X12_text (n : Nat) (t : Nat) (a0 : Int32) (s0 : q_Sto) : Option (Int32 × q_Sto) :=
  q_nS1 (q_up s0 t 23 0) fun s1 =>
  q_nS1 (q_up s1 t 25 (-1)) fun s2 =>
  q_call (f_X12_isIn n a0 0 4 s2) fun r4 s3 =>
  if r4 = 0 then (
  q_nS1 (q_up s3 t 16 0) fun s6 =>
  some ((-1), s6))
  else (
  q_nS1 (q_up s3 t 21 0) fun s7 =>
  q_nS1 (q_up s7 t 17 0) fun s8 =>
  q_nS1 (q_up s8 t 12 a0) fun s9 =>
  q_callv (f_X12_next0 n t s9) fun s10 =>
  q_jn (fun (y12 : Int32) (s13 : q_Sto) =>
    q_nS1 (q_up s13 t 16 0) fun s14 =>
    if y12 = 0 then (
    q_nS1 (q_up s14 t 23 (s14 t 21)) fun s16 =>
    q_nS1 (q_up s16 t 25 (s16 t 22)) fun s17 =>
    some ((-1), s17))
    else (
    q_call (f_X12_putsText n t a0 s14) fun r19 s18 =>
    some (r19, s18))) fun j60 =>
  if a0 = 0 then (
  q_call (f_X12_readsLaw n t s10) fun r22 s21 =>
  j60 r22 s21)
  else (
  q_call (f_X12_readsRows n t s10) fun r24 s23 =>
  j60 r24 s23))
set_option maxRecDepth 100000 in
set_option maxHeartbeats 4000000 in
theorem C_X12_text {l : Launch} {w : q_Wd} {n : Nat} {t : Nat} {a0 : Int32} (ht : q_KD t = .inl 12) {s0 : q_Sto} : q_C l w yX12_text cX12_text 3 (some .int) (q_rm 71 2961) [q_rf w t, .int a0] s0 (f_X12_text n t a0 s0) := q_CofG [some (q_rf w t), some (.int a0), none] (by decide +kernel) rfl rfl (Nat.le_of_ble_eq_true rfl) fun cx hl hc => by
  have hc : q_ok w cx RX12 cX12_text 3 (some .int) (q_rm 71 2961) := hc
  rw [f_X12_text]
  refine g_rl0 hc dX12_text_0 rfl (pc2 := 1) rfl ?_
  refine g_iconst hc dX12_text_1 ic_0 (pc2 := 2) rfl ?_
  refine g_putI hc fl_X12_282 rfl ht dX12_text_2 (pc2 := 5) rfl (fun s1 => ?_)
  refine g_rl0 hc dX12_text_5 rfl (pc2 := 6) rfl ?_
  refine g_iconst hc dX12_text_6 ic_m1 (pc2 := 7) rfl ?_
  refine g_putI hc fl_X12_40 rfl ht dX12_text_7 (pc2 := 10) rfl (fun s2 => ?_)
  refine g_il1 hc dX12_text_10 rfl (pc2 := 11) rfl ?_
  refine g_iconst hc dX12_text_11 ic_0 (pc2 := 12) rfl ?_
  refine g_iconst hc dX12_text_12 ic_4 (pc2 := 13) rfl ?_
  refine g_callS3 hc C_X12_isIn mv_X12_isIn ln_X12_56 ⟨by decide, by decide⟩ (Nat.le_of_ble_eq_true rfl) dX12_text_13 (pc2 := 16) rfl (fun r4 s3 => ?_)
  refine g_if_ne hc dX12_text_16 (pc1 := 19) (pc2 := 26) rfl rfl (fun _ => ?_) (fun _ => ?_)
  · refine g_rl0 hc dX12_text_19 rfl (pc2 := 20) rfl ?_
    refine g_iconst hc dX12_text_20 ic_0 (pc2 := 21) rfl ?_
    refine g_putI hc fl_X12_81 rfl ht dX12_text_21 (pc2 := 24) rfl (fun s6 => ?_)
    refine g_iconst hc dX12_text_24 ic_m1 (pc2 := 25) rfl ?_
    exact g_iret hc dX12_text_25
  · refine g_rl0 hc dX12_text_26 rfl (pc2 := 27) rfl ?_
    refine g_iconst hc dX12_text_27 ic_0 (pc2 := 28) rfl ?_
    refine g_putI hc fl_X12_192 rfl ht dX12_text_28 (pc2 := 31) rfl (fun s7 => ?_)
    refine g_rl0 hc dX12_text_31 rfl (pc2 := 32) rfl ?_
    refine g_iconst hc dX12_text_32 ic_0 (pc2 := 33) rfl ?_
    refine g_putI hc fl_X12_84 rfl ht dX12_text_33 (pc2 := 36) rfl (fun s8 => ?_)
    refine g_rl0 hc dX12_text_36 rfl (pc2 := 37) rfl ?_
    refine g_il1 hc dX12_text_37 rfl (pc2 := 38) rfl ?_
    refine g_putI hc fl_X12_155 rfl ht dX12_text_38 (pc2 := 41) rfl (fun s9 => ?_)
    refine g_rl0 hc dX12_text_41 rfl (pc2 := 42) rfl ?_
    refine g_callV0v hc (C_X12_next0 ht) mv_X12_next0 ln_X12_201 ht ⟨by decide, by decide⟩ (Nat.le_of_ble_eq_true rfl) dX12_text_42 (pc2 := 45) rfl (fun s10 => ?_)
    refine g_il1 hc dX12_text_45 rfl (pc2 := 46) rfl ?_
    refine g_jn (P := fun j60 => ∀ (y12 : Int32) (s13 : q_Sto), q_G w cx 3 (some .int) 60 [some (q_rf w t), some (.int a0), none] [.int y12] s13 (j60 y12 s13)) (fun y12 s13 => ?_) (fun j60 hj60 => ?_)
    · refine g_is2 hc dX12_text_60 (by decide) (L2 := [some (q_rf w t), some (.int a0), some (.int y12)]) rfl (pc2 := 61) rfl ?_
      refine g_rl0 hc dX12_text_61 rfl (pc2 := 62) rfl ?_
      refine g_iconst hc dX12_text_62 ic_0 (pc2 := 63) rfl ?_
      refine g_putI hc fl_X12_81 rfl ht dX12_text_63 (pc2 := 66) rfl (fun s14 => ?_)
      refine g_il2 hc dX12_text_66 rfl (pc2 := 67) rfl ?_
      refine g_if_eq hc dX12_text_67 (pc1 := 76) (pc2 := 70) rfl rfl (fun _ => ?_) (fun _ => ?_)
      · refine g_rl0 hc dX12_text_76 rfl (pc2 := 77) rfl ?_
        refine g_rl0 hc dX12_text_77 rfl (pc2 := 78) rfl ?_
        refine g_getI hc fl_X12_192 rfl ht dX12_text_78 (pc2 := 81) rfl ?_
        refine g_putI hc fl_X12_282 rfl ht dX12_text_81 (pc2 := 84) rfl (fun s16 => ?_)
        refine g_rl0 hc dX12_text_84 rfl (pc2 := 85) rfl ?_
        refine g_rl0 hc dX12_text_85 rfl (pc2 := 86) rfl ?_
        refine g_getI hc fl_X12_195 rfl ht dX12_text_86 (pc2 := 89) rfl ?_
        refine g_putI hc fl_X12_40 rfl ht dX12_text_89 (pc2 := 92) rfl (fun s17 => ?_)
        refine g_iconst hc dX12_text_92 ic_m1 (pc2 := 93) rfl ?_
        exact g_iret hc dX12_text_93
      · refine g_rl0 hc dX12_text_70 rfl (pc2 := 71) rfl ?_
        refine g_il1 hc dX12_text_71 rfl (pc2 := 72) rfl ?_
        refine g_callV1 hc (C_X12_putsText ht) mv_X12_putsText ln_X12_291 ht ⟨by decide, by decide⟩ (Nat.le_of_ble_eq_true rfl) dX12_text_72 (pc2 := 75) rfl (fun r19 s18 => ?_)
        exact g_iret hc dX12_text_75
    · refine g_if_ne hc dX12_text_46 (pc1 := 49) (pc2 := 56) rfl rfl (fun _ => ?_) (fun _ => ?_)
      · refine g_rl0 hc dX12_text_49 rfl (pc2 := 50) rfl ?_
        refine g_callV0 hc (C_X12_readsLaw ht) mv_X12_readsLaw ln_X12_285 ht ⟨by decide, by decide⟩ (Nat.le_of_ble_eq_true rfl) dX12_text_50 (pc2 := 53) rfl (fun r22 s21 => ?_)
        refine g_goto hc dX12_text_53 (pc2 := 60) rfl ?_
        exact hj60 _ _
      · refine g_rl0 hc dX12_text_56 rfl (pc2 := 57) rfl ?_
        refine g_callV0 hc (C_X12_readsRows ht) mv_X12_readsRows ln_X12_288 ht ⟨by decide, by decide⟩ (Nat.le_of_ble_eq_true rfl) dX12_text_57 (pc2 := 60) rfl (fun r24 s23 => ?_)
        exact hj60 _ _
set_option maxRecDepth 100000 in
set_option maxHeartbeats 4000000 in
def f_X12_fault (n : Nat) (t : Nat) (a0 : Int32) (s0 : q_Sto) : Option (Int32 × q_Sto) :=
  if a0 = 0 then (
  some ((s0 t 23), s0))
  else (
  if a0 = 1 then (
  some ((s0 t 25), s0))
  else (
  some ((-1), s0)))
set_option maxRecDepth 100000 in
set_option maxHeartbeats 4000000 in
theorem C_X12_fault {l : Launch} {w : q_Wd} {n : Nat} {t : Nat} {a0 : Int32} (ht : q_KD t = .inl 12) {s0 : q_Sto} : q_C l w yX12_fault cX12_fault 2 (some .int) (q_rm 0 0) [q_rf w t, .int a0] s0 (f_X12_fault n t a0 s0) := q_CofG [some (q_rf w t), some (.int a0)] (by decide +kernel) rfl rfl (Nat.le_of_ble_eq_true rfl) fun cx hl hc => by
  have hc : q_ok w cx RX12 cX12_fault 2 (some .int) (q_rm 0 0) := hc
  rw [f_X12_fault]
  refine g_il1 hc dX12_fault_0 rfl (pc2 := 1) rfl ?_
  refine g_if_ne hc dX12_fault_1 (pc1 := 4) (pc2 := 11) rfl rfl (fun _ => ?_) (fun _ => ?_)
  · refine g_rl0 hc dX12_fault_4 rfl (pc2 := 5) rfl ?_
    refine g_getI hc fl_X12_282 rfl ht dX12_fault_5 (pc2 := 8) rfl ?_
    refine g_goto hc dX12_fault_8 (pc2 := 24) rfl ?_
    exact g_iret hc dX12_fault_24
  · refine g_il1 hc dX12_fault_11 rfl (pc2 := 12) rfl ?_
    refine g_iconst hc dX12_fault_12 ic_1 (pc2 := 13) rfl ?_
    refine g_icmp_ne hc dX12_fault_13 (pc1 := 16) (pc2 := 23) rfl rfl (fun _ => ?_) (fun _ => ?_)
    · refine g_rl0 hc dX12_fault_16 rfl (pc2 := 17) rfl ?_
      refine g_getI hc fl_X12_40 rfl ht dX12_fault_17 (pc2 := 20) rfl ?_
      refine g_goto hc dX12_fault_20 (pc2 := 24) rfl ?_
      exact g_iret hc dX12_fault_24
    · refine g_iconst hc dX12_fault_23 ic_m1 (pc2 := 24) rfl ?_
      exact g_iret hc dX12_fault_24
set_option maxRecDepth 100000 in
set_option maxHeartbeats 4000000 in
def f_X12_both (n : Nat) (a0 : Int32) (a1 : Int32) (a2 : Int32) (s0 : q_Sto) : Option (Int32 × q_Sto) :=
  if a0 = 23 then (
  some (a1 + a2, s0))
  else
  if a0 = 24 then (
  some (a1 - a2, s0))
  else
  if a0 = 25 then (
  some (a1 * a2, s0))
  else
  if a0 = 27 then (
  if a1 < a2 then (
  some (1, s0))
  else (
  some (0, s0)))
  else
  if a0 = 28 then (
  if a1 = a2 then (
  some (1, s0))
  else (
  some (0, s0)))
  else
  if a0 = 29 then (
  if a1 ≤ a2 then (
  some (0, s0))
  else (
  some (1, s0)))
  else
  if a0 = 31 then (
  some (a1 &&& a2, s0))
  else
  (some (a1 ||| a2, s0))
set_option maxRecDepth 100000 in
set_option maxHeartbeats 4000000 in
theorem C_X12_both {l : Launch} {w : q_Wd} {n : Nat} {a0 : Int32} {a1 : Int32} {a2 : Int32}  {s0 : q_Sto} : q_C l w yX12_both cX12_both 3 (some .int) (q_rm 0 0) [.int a0, .int a1, .int a2] s0 (f_X12_both n a0 a1 a2 s0) := q_CofG [some (.int a0), some (.int a1), some (.int a2)] (by decide +kernel) rfl rfl (Nat.le_of_ble_eq_true rfl) fun cx hl hc => by
  have hc : q_ok w cx RX12 cX12_both 3 (some .int) (q_rm 0 0) := hc
  rw [f_X12_both]
  refine g_il0 hc dX12_both_0 rfl (pc2 := 1) rfl ?_
  refine g_swc (pc2 := 0) hc dX12_both_1 (c := 23) (by decide) (by decide) rfl (pc1 := 52) rfl (fun _ => ?_) (fun c1 => ?_)
  · refine g_il1 hc dX12_both_52 rfl (pc2 := 53) rfl ?_
    refine g_il2 hc dX12_both_53 rfl (pc2 := 54) rfl ?_
    refine g_iadd hc dX12_both_54 (pc2 := 55) rfl ?_
    exact g_iret hc dX12_both_55
  refine g_swc (pc2 := 0) hc dX12_both_1 (c := 24) (by decide) (by decide) rfl (pc1 := 56) rfl (fun _ => ?_) (fun c2 => ?_)
  · refine g_il1 hc dX12_both_56 rfl (pc2 := 57) rfl ?_
    refine g_il2 hc dX12_both_57 rfl (pc2 := 58) rfl ?_
    refine g_isub hc dX12_both_58 (pc2 := 59) rfl ?_
    exact g_iret hc dX12_both_59
  refine g_swc (pc2 := 0) hc dX12_both_1 (c := 25) (by decide) (by decide) rfl (pc1 := 60) rfl (fun _ => ?_) (fun c3 => ?_)
  · refine g_il1 hc dX12_both_60 rfl (pc2 := 61) rfl ?_
    refine g_il2 hc dX12_both_61 rfl (pc2 := 62) rfl ?_
    refine g_imul hc dX12_both_62 (pc2 := 63) rfl ?_
    exact g_iret hc dX12_both_63
  refine g_swc (pc2 := 0) hc dX12_both_1 (c := 27) (by decide) (by decide) rfl (pc1 := 64) rfl (fun _ => ?_) (fun c4 => ?_)
  · refine g_il1 hc dX12_both_64 rfl (pc2 := 65) rfl ?_
    refine g_il2 hc dX12_both_65 rfl (pc2 := 66) rfl ?_
    refine g_icmp_ge hc dX12_both_66 (pc1 := 69) (pc2 := 73) rfl rfl (fun _ => ?_) (fun _ => ?_)
    · refine g_iconst hc dX12_both_69 ic_1 (pc2 := 70) rfl ?_
      refine g_goto hc dX12_both_70 (pc2 := 74) rfl ?_
      exact g_iret hc dX12_both_74
    · refine g_iconst hc dX12_both_73 ic_0 (pc2 := 74) rfl ?_
      exact g_iret hc dX12_both_74
  refine g_swc (pc2 := 0) hc dX12_both_1 (c := 28) (by decide) (by decide) rfl (pc1 := 75) rfl (fun _ => ?_) (fun c6 => ?_)
  · refine g_il1 hc dX12_both_75 rfl (pc2 := 76) rfl ?_
    refine g_il2 hc dX12_both_76 rfl (pc2 := 77) rfl ?_
    refine g_icmp_ne hc dX12_both_77 (pc1 := 80) (pc2 := 84) rfl rfl (fun _ => ?_) (fun _ => ?_)
    · refine g_iconst hc dX12_both_80 ic_1 (pc2 := 81) rfl ?_
      refine g_goto hc dX12_both_81 (pc2 := 85) rfl ?_
      exact g_iret hc dX12_both_85
    · refine g_iconst hc dX12_both_84 ic_0 (pc2 := 85) rfl ?_
      exact g_iret hc dX12_both_85
  refine g_swc (pc2 := 0) hc dX12_both_1 (c := 29) (by decide) (by decide) rfl (pc1 := 86) rfl (fun _ => ?_) (fun c8 => ?_)
  · refine g_il1 hc dX12_both_86 rfl (pc2 := 87) rfl ?_
    refine g_il2 hc dX12_both_87 rfl (pc2 := 88) rfl ?_
    refine g_icmp_le hc dX12_both_88 (pc1 := 95) (pc2 := 91) rfl rfl (fun _ => ?_) (fun _ => ?_)
    · refine g_iconst hc dX12_both_95 ic_0 (pc2 := 96) rfl ?_
      exact g_iret hc dX12_both_96
    · refine g_iconst hc dX12_both_91 ic_1 (pc2 := 92) rfl ?_
      refine g_goto hc dX12_both_92 (pc2 := 96) rfl ?_
      exact g_iret hc dX12_both_96
  refine g_swc (pc2 := 0) hc dX12_both_1 (c := 31) (by decide) (by decide) rfl (pc1 := 97) rfl (fun _ => ?_) (fun c10 => ?_)
  · refine g_il1 hc dX12_both_97 rfl (pc2 := 98) rfl ?_
    refine g_il2 hc dX12_both_98 rfl (pc2 := 99) rfl ?_
    refine g_iand hc dX12_both_99 (pc2 := 100) rfl ?_
    exact g_iret hc dX12_both_100
  refine g_swd (pc2 := 0) hc dX12_both_1 (fun i a b e => ?_) (pc1 := 101) rfl ?_
  · rcases (show i = 23 ∨ i = 24 ∨ i = 25 ∨ i = 26 ∨ i = 27 ∨ i = 28 ∨ i = 29 ∨ i = 30 ∨ i = 31 by omega) with rfl | rfl | rfl | rfl | rfl | rfl | rfl | rfl | rfl
    · exact q_swx (c := 23) (by decide) c1 e
    · exact q_swx (c := 24) (by decide) c2 e
    · exact q_swx (c := 25) (by decide) c3 e
    · rfl
    · exact q_swx (c := 27) (by decide) c4 e
    · exact q_swx (c := 28) (by decide) c6 e
    · exact q_swx (c := 29) (by decide) c8 e
    · rfl
    · exact q_swx (c := 31) (by decide) c10 e
  · refine g_il1 hc dX12_both_101 rfl (pc2 := 102) rfl ?_
    refine g_il2 hc dX12_both_102 rfl (pc2 := 103) rfl ?_
    refine g_ior hc dX12_both_103 (pc2 := 104) rfl ?_
    exact g_iret hc dX12_both_104
set_option maxRecDepth 100000 in
set_option maxHeartbeats 4000000 in
def f_X12_comesTo_L6 (n : Nat) (x0 : Nat) (x1 : Int32) (x3 : Int32) (k186 : q_Sto → Option (Int32 × q_Sto)) : Nat → Int32 → Int32 → q_Sto → Option (Int32 × q_Sto)
  | 0, _, _, _ => none
  | j + 1, x4, x5, s0 =>
    if x5 < x3 then (
    q_ld s0 (q_RF x0 0) ((970 + (820 * x1)) + (2 * x5)) 1790 fun v2 =>
    q_ld s0 (q_RF x0 0) (((970 + (820 * x1)) + (2 * x5)) + 1) 1790 fun v3 =>
    if v2 < 23 then (
    if v2 = 0 then (
    q_st s0 (q_RF x0 10) x4 420 v3 fun s6 =>
    f_X12_comesTo_L6 n x0 x1 x3 k186 j (x4 + 1) (x5 + 1) s6)
    else (
    q_ld s0 (q_RF x0 11) v2 11 fun v7 =>
    q_st s0 (q_RF x0 10) x4 420 v7 fun s8 =>
    f_X12_comesTo_L6 n x0 x1 x3 k186 j (x4 + 1) (x5 + 1) s8))
    else (
    if v2 = 26 then (
    q_ld s0 (q_RF x0 10) (x4 - 1) 420 fun v10 =>
    q_dv v10 v3 fun v11 =>
    q_st s0 (q_RF x0 10) (x4 - 1) 420 v11 fun s12 =>
    f_X12_comesTo_L6 n x0 x1 x3 k186 j x4 (x5 + 1) s12)
    else (
    if v2 = 30 then (
    q_ld s0 (q_RF x0 10) (x4 - 1) 420 fun v14 =>
    q_st s0 (q_RF x0 10) (x4 - 1) 420 (1 - v14) fun s15 =>
    f_X12_comesTo_L6 n x0 x1 x3 k186 j x4 (x5 + 1) s15)
    else (
    q_ld s0 (q_RF x0 10) ((x4 + (-1)) - 1) 420 fun v16 =>
    q_ld s0 (q_RF x0 10) (x4 + (-1)) 420 fun v17 =>
    q_call (f_X12_both n v2 v16 v17 s0) fun r19 s18 =>
    q_st s18 (q_RF x0 10) ((x4 + (-1)) - 1) 420 r19 fun s20 =>
    f_X12_comesTo_L6 n x0 x1 x3 k186 j (x4 + (-1)) (x5 + 1) s20))))
    else (
    k186 s0)
set_option maxRecDepth 100000 in
set_option maxHeartbeats 4000000 in
def f_X12_comesTo (n : Nat) (t : Nat) (a0 : Int32) (a1 : Int32) (a2 : Int32) (s0 : q_Sto) : Option (Int32 × q_Sto) :=
  f_X12_comesTo_L6 n t a0 a2 (fun  (s21 : q_Sto) =>
  q_ld s21 (q_RF t 10) 0 420 fun v22 =>
  some (v22, s21)) n 0 a1 s0
set_option maxRecDepth 100000 in
set_option maxHeartbeats 4000000 in
theorem t_X12_comesTo_L6 {w : q_Wd} {cx : q_Cx} (hc : q_ok w cx RX12 cX12_comesTo 8 (some .int) (q_rm 1 22)) {n : Nat} {x0 : Nat} {x1 : Int32} {x3 : Int32} (hx0 : q_KD x0 = .inl 12) {k186 : q_Sto → Option (Int32 × q_Sto)} (hk186 : ∀  (s1 : q_Sto), q_G w cx 8 (some .int) 186 [some (q_rf w x0), none, none, none, none, none, none, none] [] s1 (k186 s1)) :
    ∀ (j : Nat) (x4 : Int32) (x5 : Int32) (s0 : q_Sto), q_G w cx 8 (some .int) 6 [some (q_rf w x0), some (.int x1), none, some (.int x3), some (.int x4), some (.int x5), none, none] [] s0 (f_X12_comesTo_L6 n x0 x1 x3 k186 j x4 x5 s0) := by
  intro j
  induction j with
  | zero =>
    intro _ _ _
    rw [f_X12_comesTo_L6]
    exact q_none
  | succ j ih =>
    intro x4 x5 s0
    rw [f_X12_comesTo_L6]
    refine g_iload hc dX12_comesTo_6 rfl (pc2 := 8) rfl ?_
    refine g_il3 hc dX12_comesTo_8 rfl (pc2 := 9) rfl ?_
    refine g_icmp_ge hc dX12_comesTo_9 (pc1 := 12) (pc2 := 186) rfl rfl (fun _ => ?_) (fun _ => ?_)
    · refine g_rl0 hc dX12_comesTo_12 rfl (pc2 := 13) rfl ?_
      refine g_getR hc fl_X12_7 rfl hx0 dX12_comesTo_13 (pc2 := 16) rfl ?_
      refine g_sipush hc dX12_comesTo_16 sp_970 (pc2 := 19) rfl ?_
      refine g_sipush hc dX12_comesTo_19 sp_820 (pc2 := 22) rfl ?_
      refine g_il1 hc dX12_comesTo_22 rfl (pc2 := 23) rfl ?_
      refine g_imul hc dX12_comesTo_23 (pc2 := 24) rfl ?_
      refine g_iadd hc dX12_comesTo_24 (pc2 := 25) rfl ?_
      refine g_iconst hc dX12_comesTo_25 ic_2 (pc2 := 26) rfl ?_
      refine g_iload hc dX12_comesTo_26 rfl (pc2 := 28) rfl ?_
      refine g_imul hc dX12_comesTo_28 (pc2 := 29) rfl ?_
      refine g_iadd hc dX12_comesTo_29 (pc2 := 30) rfl ?_
      refine g_iald hc (kf_12_0 hx0) (kl_12_0 hx0) dX12_comesTo_30 (pc2 := 31) rfl (fun v2 => ?_)
      refine g_istore hc dX12_comesTo_31 (by decide) (L2 := [some (q_rf w x0), some (.int x1), none, some (.int x3), some (.int x4), some (.int x5), some (.int v2), none]) rfl (pc2 := 33) rfl ?_
      refine g_rl0 hc dX12_comesTo_33 rfl (pc2 := 34) rfl ?_
      refine g_getR hc fl_X12_7 rfl hx0 dX12_comesTo_34 (pc2 := 37) rfl ?_
      refine g_sipush hc dX12_comesTo_37 sp_970 (pc2 := 40) rfl ?_
      refine g_sipush hc dX12_comesTo_40 sp_820 (pc2 := 43) rfl ?_
      refine g_il1 hc dX12_comesTo_43 rfl (pc2 := 44) rfl ?_
      refine g_imul hc dX12_comesTo_44 (pc2 := 45) rfl ?_
      refine g_iadd hc dX12_comesTo_45 (pc2 := 46) rfl ?_
      refine g_iconst hc dX12_comesTo_46 ic_2 (pc2 := 47) rfl ?_
      refine g_iload hc dX12_comesTo_47 rfl (pc2 := 49) rfl ?_
      refine g_imul hc dX12_comesTo_49 (pc2 := 50) rfl ?_
      refine g_iadd hc dX12_comesTo_50 (pc2 := 51) rfl ?_
      refine g_iconst hc dX12_comesTo_51 ic_1 (pc2 := 52) rfl ?_
      refine g_iadd hc dX12_comesTo_52 (pc2 := 53) rfl ?_
      refine g_iald hc (kf_12_0 hx0) (kl_12_0 hx0) dX12_comesTo_53 (pc2 := 54) rfl (fun v3 => ?_)
      refine g_istore hc dX12_comesTo_54 (by decide) (L2 := [some (q_rf w x0), some (.int x1), none, some (.int x3), some (.int x4), some (.int x5), some (.int v2), some (.int v3)]) rfl (pc2 := 56) rfl ?_
      refine g_iload hc dX12_comesTo_56 rfl (pc2 := 58) rfl ?_
      refine g_bipush hc dX12_comesTo_58 bp_23 (pc2 := 60) rfl ?_
      refine g_icmp_ge hc dX12_comesTo_60 (pc1 := 63) (pc2 := 93) rfl rfl (fun _ => ?_) (fun _ => ?_)
      · refine g_rl0 hc dX12_comesTo_63 rfl (pc2 := 64) rfl ?_
        refine g_getR hc fl_X12_34 rfl hx0 dX12_comesTo_64 (pc2 := 67) rfl ?_
        refine g_iload hc dX12_comesTo_67 rfl (pc2 := 69) rfl ?_
        refine g_iload hc dX12_comesTo_69 rfl (pc2 := 71) rfl ?_
        refine g_if_ne hc dX12_comesTo_71 (pc1 := 74) (pc2 := 79) rfl rfl (fun _ => ?_) (fun _ => ?_)
        · refine g_iload hc dX12_comesTo_74 rfl (pc2 := 76) rfl ?_
          refine g_goto hc dX12_comesTo_76 (pc2 := 86) rfl ?_
          refine g_iast hc (kf_12_10 hx0) (kl_12_10 hx0) dX12_comesTo_86 (pc2 := 87) rfl (fun s6 => ?_)
          refine g_iinc hc dX12_comesTo_87 rfl (q_ii ic_1) (by decide) (L2 := [some (q_rf w x0), some (.int x1), none, some (.int x3), some (.int (x4 + 1)), some (.int x5), some (.int v2), some (.int v3)]) rfl (pc2 := 90) rfl ?_
          refine g_goto hc dX12_comesTo_90 (pc2 := 180) rfl ?_
          refine g_iinc hc dX12_comesTo_180 rfl (q_ii ic_1) (by decide) (L2 := [some (q_rf w x0), some (.int x1), none, some (.int x3), some (.int (x4 + 1)), some (.int (x5 + 1)), some (.int v2), some (.int v3)]) rfl (pc2 := 183) rfl ?_
          refine g_goto hc dX12_comesTo_183 (pc2 := 6) rfl ?_
          refine q_Gmask [true, true, true, true, true, true, false, false] (L2 := [some (q_rf w x0), some (.int x1), none, some (.int x3), some (.int (x4 + 1)), some (.int (x5 + 1)), none, none]) rfl ?_
          exact ih _ _ _
        · refine g_rl0 hc dX12_comesTo_79 rfl (pc2 := 80) rfl ?_
          refine g_getR hc fl_X12_37 rfl hx0 dX12_comesTo_80 (pc2 := 83) rfl ?_
          refine g_iload hc dX12_comesTo_83 rfl (pc2 := 85) rfl ?_
          refine g_iald hc (kf_12_11 hx0) (kl_12_11 hx0) dX12_comesTo_85 (pc2 := 86) rfl (fun v7 => ?_)
          refine g_iast hc (kf_12_10 hx0) (kl_12_10 hx0) dX12_comesTo_86 (pc2 := 87) rfl (fun s8 => ?_)
          refine g_iinc hc dX12_comesTo_87 rfl (q_ii ic_1) (by decide) (L2 := [some (q_rf w x0), some (.int x1), none, some (.int x3), some (.int (x4 + 1)), some (.int x5), some (.int v2), some (.int v3)]) rfl (pc2 := 90) rfl ?_
          refine g_goto hc dX12_comesTo_90 (pc2 := 180) rfl ?_
          refine g_iinc hc dX12_comesTo_180 rfl (q_ii ic_1) (by decide) (L2 := [some (q_rf w x0), some (.int x1), none, some (.int x3), some (.int (x4 + 1)), some (.int (x5 + 1)), some (.int v2), some (.int v3)]) rfl (pc2 := 183) rfl ?_
          refine g_goto hc dX12_comesTo_183 (pc2 := 6) rfl ?_
          refine q_Gmask [true, true, true, true, true, true, false, false] (L2 := [some (q_rf w x0), some (.int x1), none, some (.int x3), some (.int (x4 + 1)), some (.int (x5 + 1)), none, none]) rfl ?_
          exact ih _ _ _
      · refine g_iload hc dX12_comesTo_93 rfl (pc2 := 95) rfl ?_
        refine g_bipush hc dX12_comesTo_95 bp_26 (pc2 := 97) rfl ?_
        refine g_icmp_ne hc dX12_comesTo_97 (pc1 := 100) (pc2 := 117) rfl rfl (fun _ => ?_) (fun _ => ?_)
        · refine g_rl0 hc dX12_comesTo_100 rfl (pc2 := 101) rfl ?_
          refine g_getR hc fl_X12_34 rfl hx0 dX12_comesTo_101 (pc2 := 104) rfl ?_
          refine g_iload hc dX12_comesTo_104 rfl (pc2 := 106) rfl ?_
          refine g_iconst hc dX12_comesTo_106 ic_1 (pc2 := 107) rfl ?_
          refine g_isub hc dX12_comesTo_107 (pc2 := 108) rfl ?_
          refine g_dup2 hc dX12_comesTo_108 rfl rfl (pc2 := 109) rfl ?_
          refine g_iald hc (kf_12_10 hx0) (kl_12_10 hx0) dX12_comesTo_109 (pc2 := 110) rfl (fun v10 => ?_)
          refine g_iload hc dX12_comesTo_110 rfl (pc2 := 112) rfl ?_
          refine g_idiv hc dX12_comesTo_112 (pc2 := 113) rfl (fun v11 => ?_)
          refine g_iast hc (kf_12_10 hx0) (kl_12_10 hx0) dX12_comesTo_113 (pc2 := 114) rfl (fun s12 => ?_)
          refine g_goto hc dX12_comesTo_114 (pc2 := 180) rfl ?_
          refine g_iinc hc dX12_comesTo_180 rfl (q_ii ic_1) (by decide) (L2 := [some (q_rf w x0), some (.int x1), none, some (.int x3), some (.int x4), some (.int (x5 + 1)), some (.int v2), some (.int v3)]) rfl (pc2 := 183) rfl ?_
          refine g_goto hc dX12_comesTo_183 (pc2 := 6) rfl ?_
          refine q_Gmask [true, true, true, true, true, true, false, false] (L2 := [some (q_rf w x0), some (.int x1), none, some (.int x3), some (.int x4), some (.int (x5 + 1)), none, none]) rfl ?_
          exact ih _ _ _
        · refine g_iload hc dX12_comesTo_117 rfl (pc2 := 119) rfl ?_
          refine g_bipush hc dX12_comesTo_119 bp_30 (pc2 := 121) rfl ?_
          refine g_icmp_ne hc dX12_comesTo_121 (pc1 := 124) (pc2 := 147) rfl rfl (fun _ => ?_) (fun _ => ?_)
          · refine g_rl0 hc dX12_comesTo_124 rfl (pc2 := 125) rfl ?_
            refine g_getR hc fl_X12_34 rfl hx0 dX12_comesTo_125 (pc2 := 128) rfl ?_
            refine g_iload hc dX12_comesTo_128 rfl (pc2 := 130) rfl ?_
            refine g_iconst hc dX12_comesTo_130 ic_1 (pc2 := 131) rfl ?_
            refine g_isub hc dX12_comesTo_131 (pc2 := 132) rfl ?_
            refine g_iconst hc dX12_comesTo_132 ic_1 (pc2 := 133) rfl ?_
            refine g_rl0 hc dX12_comesTo_133 rfl (pc2 := 134) rfl ?_
            refine g_getR hc fl_X12_34 rfl hx0 dX12_comesTo_134 (pc2 := 137) rfl ?_
            refine g_iload hc dX12_comesTo_137 rfl (pc2 := 139) rfl ?_
            refine g_iconst hc dX12_comesTo_139 ic_1 (pc2 := 140) rfl ?_
            refine g_isub hc dX12_comesTo_140 (pc2 := 141) rfl ?_
            refine g_iald hc (kf_12_10 hx0) (kl_12_10 hx0) dX12_comesTo_141 (pc2 := 142) rfl (fun v14 => ?_)
            refine g_isub hc dX12_comesTo_142 (pc2 := 143) rfl ?_
            refine g_iast hc (kf_12_10 hx0) (kl_12_10 hx0) dX12_comesTo_143 (pc2 := 144) rfl (fun s15 => ?_)
            refine g_goto hc dX12_comesTo_144 (pc2 := 180) rfl ?_
            refine g_iinc hc dX12_comesTo_180 rfl (q_ii ic_1) (by decide) (L2 := [some (q_rf w x0), some (.int x1), none, some (.int x3), some (.int x4), some (.int (x5 + 1)), some (.int v2), some (.int v3)]) rfl (pc2 := 183) rfl ?_
            refine g_goto hc dX12_comesTo_183 (pc2 := 6) rfl ?_
            refine q_Gmask [true, true, true, true, true, true, false, false] (L2 := [some (q_rf w x0), some (.int x1), none, some (.int x3), some (.int x4), some (.int (x5 + 1)), none, none]) rfl ?_
            exact ih _ _ _
          · refine g_iinc hc dX12_comesTo_147 rfl (q_ii ic_m1) (by decide) (L2 := [some (q_rf w x0), some (.int x1), none, some (.int x3), some (.int (x4 + (-1))), some (.int x5), some (.int v2), some (.int v3)]) rfl (pc2 := 150) rfl ?_
            refine g_rl0 hc dX12_comesTo_150 rfl (pc2 := 151) rfl ?_
            refine g_getR hc fl_X12_34 rfl hx0 dX12_comesTo_151 (pc2 := 154) rfl ?_
            refine g_iload hc dX12_comesTo_154 rfl (pc2 := 156) rfl ?_
            refine g_iconst hc dX12_comesTo_156 ic_1 (pc2 := 157) rfl ?_
            refine g_isub hc dX12_comesTo_157 (pc2 := 158) rfl ?_
            refine g_iload hc dX12_comesTo_158 rfl (pc2 := 160) rfl ?_
            refine g_rl0 hc dX12_comesTo_160 rfl (pc2 := 161) rfl ?_
            refine g_getR hc fl_X12_34 rfl hx0 dX12_comesTo_161 (pc2 := 164) rfl ?_
            refine g_iload hc dX12_comesTo_164 rfl (pc2 := 166) rfl ?_
            refine g_iconst hc dX12_comesTo_166 ic_1 (pc2 := 167) rfl ?_
            refine g_isub hc dX12_comesTo_167 (pc2 := 168) rfl ?_
            refine g_iald hc (kf_12_10 hx0) (kl_12_10 hx0) dX12_comesTo_168 (pc2 := 169) rfl (fun v16 => ?_)
            refine g_rl0 hc dX12_comesTo_169 rfl (pc2 := 170) rfl ?_
            refine g_getR hc fl_X12_34 rfl hx0 dX12_comesTo_170 (pc2 := 173) rfl ?_
            refine g_iload hc dX12_comesTo_173 rfl (pc2 := 175) rfl ?_
            refine g_iald hc (kf_12_10 hx0) (kl_12_10 hx0) dX12_comesTo_175 (pc2 := 176) rfl (fun v17 => ?_)
            refine g_callS3 hc C_X12_both mv_X12_both ln_X12_294 ⟨by decide, by decide⟩ (Nat.le_of_ble_eq_true rfl) dX12_comesTo_176 (pc2 := 179) rfl (fun r19 s18 => ?_)
            refine g_iast hc (kf_12_10 hx0) (kl_12_10 hx0) dX12_comesTo_179 (pc2 := 180) rfl (fun s20 => ?_)
            refine g_iinc hc dX12_comesTo_180 rfl (q_ii ic_1) (by decide) (L2 := [some (q_rf w x0), some (.int x1), none, some (.int x3), some (.int (x4 + (-1))), some (.int (x5 + 1)), some (.int v2), some (.int v3)]) rfl (pc2 := 183) rfl ?_
            refine g_goto hc dX12_comesTo_183 (pc2 := 6) rfl ?_
            refine q_Gmask [true, true, true, true, true, true, false, false] (L2 := [some (q_rf w x0), some (.int x1), none, some (.int x3), some (.int (x4 + (-1))), some (.int (x5 + 1)), none, none]) rfl ?_
            exact ih _ _ _
    · refine q_Gmask [true, false, true, false, false, false, true, true] (L2 := [some (q_rf w x0), none, none, none, none, none, none, none]) rfl ?_
      exact hk186 _
set_option maxRecDepth 100000 in
set_option maxHeartbeats 4000000 in
theorem C_X12_comesTo {l : Launch} {w : q_Wd} {n : Nat} {t : Nat} {a0 : Int32} {a1 : Int32} {a2 : Int32} (ht : q_KD t = .inl 12) {s0 : q_Sto} : q_C l w yX12_comesTo cX12_comesTo 8 (some .int) (q_rm 1 22) [q_rf w t, .int a0, .int a1, .int a2] s0 (f_X12_comesTo n t a0 a1 a2 s0) := q_CofG [some (q_rf w t), some (.int a0), some (.int a1), some (.int a2), none, none, none, none] (by decide +kernel) rfl rfl (Nat.le_of_ble_eq_true rfl) fun cx hl hc => by
  have hc : q_ok w cx RX12 cX12_comesTo 8 (some .int) (q_rm 1 22) := hc
  rw [f_X12_comesTo]
  refine g_iconst hc dX12_comesTo_0 ic_0 (pc2 := 1) rfl ?_
  refine g_istore hc dX12_comesTo_1 (by decide) (L2 := [some (q_rf w t), some (.int a0), some (.int a1), some (.int a2), some (.int 0), none, none, none]) rfl (pc2 := 3) rfl ?_
  refine g_il2 hc dX12_comesTo_3 rfl (pc2 := 4) rfl ?_
  refine g_istore hc dX12_comesTo_4 (by decide) (L2 := [some (q_rf w t), some (.int a0), some (.int a1), some (.int a2), some (.int 0), some (.int a1), none, none]) rfl (pc2 := 6) rfl ?_
  refine q_Gmask [true, true, false, true, true, true, true, true] (L2 := [some (q_rf w t), some (.int a0), none, some (.int a2), some (.int 0), some (.int a1), none, none]) rfl ?_
  refine t_X12_comesTo_L6 hc ht (fun s21 => ?_) n _ _ _
  refine g_rl0 hc dX12_comesTo_186 rfl (pc2 := 187) rfl ?_
  refine g_getR hc fl_X12_34 rfl ht dX12_comesTo_187 (pc2 := 190) rfl ?_
  refine g_iconst hc dX12_comesTo_190 ic_0 (pc2 := 191) rfl ?_
  refine g_iald hc (kf_12_10 ht) (kl_12_10 ht) dX12_comesTo_191 (pc2 := 192) rfl (fun v22 => ?_)
  exact g_iret hc dX12_comesTo_192
set_option maxRecDepth 100000 in
set_option maxHeartbeats 4000000 in
def f_X12_isSo (n : Nat) (t : Nat) (a0 : Int32) (s0 : q_Sto) : Option (Int32 × q_Sto) :=
  q_ld s0 (q_RF t 0) (937 + a0) 1790 fun v1 =>
  q_ld s0 (q_RF t 0) (921 + a0) 1790 fun v2 =>
  if v1 = v2 then (
  some (1, s0))
  else (
  q_ld s0 (q_RF t 0) (921 + a0) 1790 fun v4 =>
  q_ld s0 (q_RF t 0) (937 + a0) 1790 fun v5 =>
  q_call (f_X12_comesTo n t 0 v4 v5 s0) fun r7 s6 =>
  if r7 = 1 then (
  some (1, s6))
  else (
  some (0, s6)))
set_option maxRecDepth 100000 in
set_option maxHeartbeats 4000000 in
theorem C_X12_isSo {l : Launch} {w : q_Wd} {n : Nat} {t : Nat} {a0 : Int32} (ht : q_KD t = .inl 12) {s0 : q_Sto} : q_C l w yX12_isSo cX12_isSo 2 (some .boolean) (q_rm 2 49) [q_rf w t, .int a0] s0 (f_X12_isSo n t a0 s0) := q_CofG [some (q_rf w t), some (.int a0)] (by decide +kernel) rfl rfl (Nat.le_of_ble_eq_true rfl) fun cx hl hc => by
  have hc : q_ok w cx RX12 cX12_isSo 2 (some .boolean) (q_rm 2 49) := hc
  rw [f_X12_isSo]
  refine g_rl0 hc dX12_isSo_0 rfl (pc2 := 1) rfl ?_
  refine g_getR hc fl_X12_7 rfl ht dX12_isSo_1 (pc2 := 4) rfl ?_
  refine g_sipush hc dX12_isSo_4 sp_937 (pc2 := 7) rfl ?_
  refine g_il1 hc dX12_isSo_7 rfl (pc2 := 8) rfl ?_
  refine g_iadd hc dX12_isSo_8 (pc2 := 9) rfl ?_
  refine g_iald hc (kf_12_0 ht) (kl_12_0 ht) dX12_isSo_9 (pc2 := 10) rfl (fun v1 => ?_)
  refine g_rl0 hc dX12_isSo_10 rfl (pc2 := 11) rfl ?_
  refine g_getR hc fl_X12_7 rfl ht dX12_isSo_11 (pc2 := 14) rfl ?_
  refine g_sipush hc dX12_isSo_14 sp_921 (pc2 := 17) rfl ?_
  refine g_il1 hc dX12_isSo_17 rfl (pc2 := 18) rfl ?_
  refine g_iadd hc dX12_isSo_18 (pc2 := 19) rfl ?_
  refine g_iald hc (kf_12_0 ht) (kl_12_0 ht) dX12_isSo_19 (pc2 := 20) rfl (fun v2 => ?_)
  refine g_icmp_eq hc dX12_isSo_20 (pc1 := 52) (pc2 := 23) rfl rfl (fun _ => ?_) (fun _ => ?_)
  · refine g_iconst hc dX12_isSo_52 ic_1 (pc2 := 53) rfl ?_
    refine g_goto hc dX12_isSo_53 (pc2 := 57) rfl ?_
    exact g_zret0 (by decide) hc dX12_isSo_57
  · refine g_rl0 hc dX12_isSo_23 rfl (pc2 := 24) rfl ?_
    refine g_iconst hc dX12_isSo_24 ic_0 (pc2 := 25) rfl ?_
    refine g_rl0 hc dX12_isSo_25 rfl (pc2 := 26) rfl ?_
    refine g_getR hc fl_X12_7 rfl ht dX12_isSo_26 (pc2 := 29) rfl ?_
    refine g_sipush hc dX12_isSo_29 sp_921 (pc2 := 32) rfl ?_
    refine g_il1 hc dX12_isSo_32 rfl (pc2 := 33) rfl ?_
    refine g_iadd hc dX12_isSo_33 (pc2 := 34) rfl ?_
    refine g_iald hc (kf_12_0 ht) (kl_12_0 ht) dX12_isSo_34 (pc2 := 35) rfl (fun v4 => ?_)
    refine g_rl0 hc dX12_isSo_35 rfl (pc2 := 36) rfl ?_
    refine g_getR hc fl_X12_7 rfl ht dX12_isSo_36 (pc2 := 39) rfl ?_
    refine g_sipush hc dX12_isSo_39 sp_937 (pc2 := 42) rfl ?_
    refine g_il1 hc dX12_isSo_42 rfl (pc2 := 43) rfl ?_
    refine g_iadd hc dX12_isSo_43 (pc2 := 44) rfl ?_
    refine g_iald hc (kf_12_0 ht) (kl_12_0 ht) dX12_isSo_44 (pc2 := 45) rfl (fun v5 => ?_)
    refine g_callV3 hc (C_X12_comesTo ht) mv_X12_comesTo ln_X12_297 ht ⟨by decide, by decide⟩ (Nat.le_of_ble_eq_true rfl) dX12_isSo_45 (pc2 := 48) rfl (fun r7 s6 => ?_)
    refine g_iconst hc dX12_isSo_48 ic_1 (pc2 := 49) rfl ?_
    refine g_icmp_ne hc dX12_isSo_49 (pc1 := 52) (pc2 := 56) rfl rfl (fun _ => ?_) (fun _ => ?_)
    · refine g_iconst hc dX12_isSo_52 ic_1 (pc2 := 53) rfl ?_
      refine g_goto hc dX12_isSo_53 (pc2 := 57) rfl ?_
      exact g_zret0 (by decide) hc dX12_isSo_57
    · refine g_iconst hc dX12_isSo_56 ic_0 (pc2 := 57) rfl ?_
      exact g_zret0 (by decide) hc dX12_isSo_57
set_option maxRecDepth 100000 in
set_option maxHeartbeats 4000000 in
def f_X12_says_L3 (n : Nat) (x0 : Nat) (x1 : Int32) (x2 : Int32) (x3 : Int32) (k81 : q_Sto → Option (Int32 × q_Sto)) (k39 : Int32 → q_Sto → Option (Int32 × q_Sto)) : Nat → Int32 → q_Sto → Option (Int32 × q_Sto)
  | 0, _, _ => none
  | j + 1, x4, s0 =>
    q_ld s0 (q_RF x0 0) 89 1790 fun v1 =>
    if x4 < v1 then (
    q_ld s0 (q_RF x0 0) (953 + x4) 1790 fun v3 =>
    if v3 = x1 then (
    q_call (f_X12_isSo n x0 x4 s0) fun r6 s5 =>
    if r6 = 0 then (
    f_X12_says_L3 n x0 x1 x2 x3 k81 k39 j (x4 + 1) s5)
    else (
    k39 x4 s5))
    else (
    f_X12_says_L3 n x0 x1 x2 x3 k81 k39 j (x4 + 1) s0))
    else (
    k81 s0)
set_option maxRecDepth 100000 in
set_option maxHeartbeats 4000000 in
def f_X12_says (n : Nat) (t : Nat) (a0 : Int32) (a1 : Int32) (a2 : Int32) (s0 : q_Sto) : Option (Int32 × q_Sto) :=
  f_X12_says_L3 n t a0 a1 a2 (fun  (s8 : q_Sto) =>
  q_call (f_X12_lesser n a2 a1 s8) fun r10 s9 =>
  q_call (f_X12_greater n 0 r10 s9) fun r12 s11 =>
  some (r12, s11)) (fun (y13 : Int32) (s14 : q_Sto) =>
  q_ld s14 (q_RF t 0) (905 + y13) 1790 fun v15 =>
  q_ld s14 (q_RF t 0) (921 + y13) 1790 fun v16 =>
  q_call (f_X12_comesTo n t 0 v15 v16 s14) fun r18 s17 =>
  q_call (f_X12_lesser n a2 r18 s17) fun r20 s19 =>
  q_call (f_X12_greater n 0 r20 s19) fun r22 s21 =>
  some (r22, s21)) n 0 s0
set_option maxRecDepth 100000 in
set_option maxHeartbeats 4000000 in
theorem t_X12_says_L3 {w : q_Wd} {cx : q_Cx} (hc : q_ok w cx RX12 cX12_says 5 (some .int) (q_rm 3 70)) {n : Nat} {x0 : Nat} {x1 : Int32} {x2 : Int32} {x3 : Int32} (hx0 : q_KD x0 = .inl 12) {k81 : q_Sto → Option (Int32 × q_Sto)} {k39 : Int32 → q_Sto → Option (Int32 × q_Sto)} (hk81 : ∀  (s1 : q_Sto), q_G w cx 5 (some .int) 81 [none, none, some (.int x2), some (.int x3), none] [] s1 (k81 s1)) (hk39 : ∀ (y4 : Int32) (s1 : q_Sto), q_G w cx 5 (some .int) 39 [some (q_rf w x0), none, none, some (.int x3), some (.int y4)] [] s1 (k39 y4 s1)) :
    ∀ (j : Nat) (x4 : Int32) (s0 : q_Sto), q_G w cx 5 (some .int) 3 [some (q_rf w x0), some (.int x1), some (.int x2), some (.int x3), some (.int x4)] [] s0 (f_X12_says_L3 n x0 x1 x2 x3 k81 k39 j x4 s0) := by
  intro j
  induction j with
  | zero =>
    intro _ _
    rw [f_X12_says_L3]
    exact q_none
  | succ j ih =>
    intro x4 s0
    rw [f_X12_says_L3]
    refine g_iload hc dX12_says_3 rfl (pc2 := 5) rfl ?_
    refine g_rl0 hc dX12_says_5 rfl (pc2 := 6) rfl ?_
    refine g_getR hc fl_X12_7 rfl hx0 dX12_says_6 (pc2 := 9) rfl ?_
    refine g_bipush hc dX12_says_9 bp_89 (pc2 := 11) rfl ?_
    refine g_iald hc (kf_12_0 hx0) (kl_12_0 hx0) dX12_says_11 (pc2 := 12) rfl (fun v1 => ?_)
    refine g_icmp_ge hc dX12_says_12 (pc1 := 15) (pc2 := 81) rfl rfl (fun _ => ?_) (fun _ => ?_)
    · refine g_rl0 hc dX12_says_15 rfl (pc2 := 16) rfl ?_
      refine g_getR hc fl_X12_7 rfl hx0 dX12_says_16 (pc2 := 19) rfl ?_
      refine g_sipush hc dX12_says_19 sp_953 (pc2 := 22) rfl ?_
      refine g_iload hc dX12_says_22 rfl (pc2 := 24) rfl ?_
      refine g_iadd hc dX12_says_24 (pc2 := 25) rfl ?_
      refine g_iald hc (kf_12_0 hx0) (kl_12_0 hx0) dX12_says_25 (pc2 := 26) rfl (fun v3 => ?_)
      refine g_il1 hc dX12_says_26 rfl (pc2 := 27) rfl ?_
      refine g_icmp_ne hc dX12_says_27 (pc1 := 30) (pc2 := 75) rfl rfl (fun _ => ?_) (fun _ => ?_)
      · refine g_rl0 hc dX12_says_30 rfl (pc2 := 31) rfl ?_
        refine g_iload hc dX12_says_31 rfl (pc2 := 33) rfl ?_
        refine g_callV1 hc (C_X12_isSo hx0) mv_X12_isSo ln_X12_300 hx0 ⟨by decide, by decide⟩ (Nat.le_of_ble_eq_true rfl) dX12_says_33 (pc2 := 36) rfl (fun r6 s5 => ?_)
        refine g_if_eq hc dX12_says_36 (pc1 := 75) (pc2 := 39) rfl rfl (fun _ => ?_) (fun _ => ?_)
        · refine g_iinc hc dX12_says_75 rfl (q_ii ic_1) (by decide) (L2 := [some (q_rf w x0), some (.int x1), some (.int x2), some (.int x3), some (.int (x4 + 1))]) rfl (pc2 := 78) rfl ?_
          refine g_goto hc dX12_says_78 (pc2 := 3) rfl ?_
          exact ih _ _
        · refine q_Gmask [true, false, false, true, true] (L2 := [some (q_rf w x0), none, none, some (.int x3), some (.int x4)]) rfl ?_
          exact hk39 _ _
      · refine g_iinc hc dX12_says_75 rfl (q_ii ic_1) (by decide) (L2 := [some (q_rf w x0), some (.int x1), some (.int x2), some (.int x3), some (.int (x4 + 1))]) rfl (pc2 := 78) rfl ?_
        refine g_goto hc dX12_says_78 (pc2 := 3) rfl ?_
        exact ih _ _
    · refine q_Gmask [false, false, true, true, false] (L2 := [none, none, some (.int x2), some (.int x3), none]) rfl ?_
      exact hk81 _
set_option maxRecDepth 100000 in
set_option maxHeartbeats 4000000 in
theorem C_X12_says {l : Launch} {w : q_Wd} {n : Nat} {t : Nat} {a0 : Int32} {a1 : Int32} {a2 : Int32} (ht : q_KD t = .inl 12) {s0 : q_Sto} : q_C l w yX12_says cX12_says 5 (some .int) (q_rm 3 70) [q_rf w t, .int a0, .int a1, .int a2] s0 (f_X12_says n t a0 a1 a2 s0) := q_CofG [some (q_rf w t), some (.int a0), some (.int a1), some (.int a2), none] (by decide +kernel) rfl rfl (Nat.le_of_ble_eq_true rfl) fun cx hl hc => by
  have hc : q_ok w cx RX12 cX12_says 5 (some .int) (q_rm 3 70) := hc
  rw [f_X12_says]
  refine g_iconst hc dX12_says_0 ic_0 (pc2 := 1) rfl ?_
  refine g_istore hc dX12_says_1 (by decide) (L2 := [some (q_rf w t), some (.int a0), some (.int a1), some (.int a2), some (.int 0)]) rfl (pc2 := 3) rfl ?_
  refine t_X12_says_L3 hc ht (fun s8 => ?_) (fun y13 s14 => ?_) n _ _
  · refine g_iconst hc dX12_says_81 ic_0 (pc2 := 82) rfl ?_
    refine g_il3 hc dX12_says_82 rfl (pc2 := 83) rfl ?_
    refine g_il2 hc dX12_says_83 rfl (pc2 := 84) rfl ?_
    refine g_callS2 hc C_X12_lesser mv_X12_lesser ln_X12_303 ⟨by decide, by decide⟩ (Nat.le_of_ble_eq_true rfl) dX12_says_84 (pc2 := 87) rfl (fun r10 s9 => ?_)
    refine g_callS2 hc C_X12_greater mv_X12_greater ln_X12_307 ⟨by decide, by decide⟩ (Nat.le_of_ble_eq_true rfl) dX12_says_87 (pc2 := 90) rfl (fun r12 s11 => ?_)
    exact g_iret hc dX12_says_90
  · refine g_iconst hc dX12_says_39 ic_0 (pc2 := 40) rfl ?_
    refine g_il3 hc dX12_says_40 rfl (pc2 := 41) rfl ?_
    refine g_rl0 hc dX12_says_41 rfl (pc2 := 42) rfl ?_
    refine g_iconst hc dX12_says_42 ic_0 (pc2 := 43) rfl ?_
    refine g_rl0 hc dX12_says_43 rfl (pc2 := 44) rfl ?_
    refine g_getR hc fl_X12_7 rfl ht dX12_says_44 (pc2 := 47) rfl ?_
    refine g_sipush hc dX12_says_47 sp_905 (pc2 := 50) rfl ?_
    refine g_iload hc dX12_says_50 rfl (pc2 := 52) rfl ?_
    refine g_iadd hc dX12_says_52 (pc2 := 53) rfl ?_
    refine g_iald hc (kf_12_0 ht) (kl_12_0 ht) dX12_says_53 (pc2 := 54) rfl (fun v15 => ?_)
    refine g_rl0 hc dX12_says_54 rfl (pc2 := 55) rfl ?_
    refine g_getR hc fl_X12_7 rfl ht dX12_says_55 (pc2 := 58) rfl ?_
    refine g_sipush hc dX12_says_58 sp_921 (pc2 := 61) rfl ?_
    refine g_iload hc dX12_says_61 rfl (pc2 := 63) rfl ?_
    refine g_iadd hc dX12_says_63 (pc2 := 64) rfl ?_
    refine g_iald hc (kf_12_0 ht) (kl_12_0 ht) dX12_says_64 (pc2 := 65) rfl (fun v16 => ?_)
    refine g_callV3 hc (C_X12_comesTo ht) mv_X12_comesTo ln_X12_297 ht ⟨by decide, by decide⟩ (Nat.le_of_ble_eq_true rfl) dX12_says_65 (pc2 := 68) rfl (fun r18 s17 => ?_)
    refine g_callS2 hc C_X12_lesser mv_X12_lesser ln_X12_303 ⟨by decide, by decide⟩ (Nat.le_of_ble_eq_true rfl) dX12_says_68 (pc2 := 71) rfl (fun r20 s19 => ?_)
    refine g_callS2 hc C_X12_greater mv_X12_greater ln_X12_307 ⟨by decide, by decide⟩ (Nat.le_of_ble_eq_true rfl) dX12_says_71 (pc2 := 74) rfl (fun r22 s21 => ?_)
    exact g_iret hc dX12_says_74
