set_option maxRecDepth 100000 in
set_option maxHeartbeats 4000000 in
theorem I_X9_init_3 {l : Launch} {w : q_Wd} (hop : w.2.2.2.2.2.1 = none) : q_M l w yX9_init cX9_init 1 none { frames := 1, cells := 8, slots := 123, locals := 23 } 8 123 [q_rf w 2] (q_St 3) 0 (q_St 31) := q_MofJ [some (q_rf w 2)] (by decide +kernel) rfl rfl (Nat.le_of_ble_eq_true rfl) fun cx hl hAs hnm hc => by
  have hc : q_ok w cx RX9 cX9_init 1 none { frames := 1, cells := 8, slots := 123, locals := 23 } := hc
  have hi : q_inm cx RX9 9 := ⟨hnm, _, rfl⟩
  refine k_rl (k := 0) hc dX9_init_0 rfl (pc2 := 1) rfl ?_
  refine k_obj hc ob_X9_3 ob_w ⟨by decide, by decide⟩ (Nat.le_of_ble_eq_true rfl) dX9_init_1 (pc2 := 4) rfl ?_
  refine k_rl (k := 0) hc dX9_init_4 rfl (pc2 := 5) rfl ?_
  refine j_bipush hc dX9_init_5 bp_12 (pc2 := 7) rfl ?_
  refine k_newa (n := 3) (len := 12) (t := 3) hc hop (by decide +kernel) (q_St_n (by decide +kernel)) (by decide +kernel) (by decide) (by decide +kernel) (by decide) (by decide +kernel) (t2 := 4) rfl (c2 := 1) rfl (s2 := 12) rfl ⟨by decide, by decide⟩ nw_arr dX9_init_7 (pc2 := 9) rfl ?_
  refine k_putR (t := 4) hc fl_X9_9 hi rfl (by decide +kernel) (q_lt (q_St_n (n := 4) (by decide +kernel)) (by decide)) rfl rfl (by decide +kernel) (t2 := 5) rfl dX9_init_9 (pc2 := 12) rfl ?_
  refine k_rl (k := 0) hc dX9_init_12 rfl (pc2 := 13) rfl ?_
  refine j_bipush hc dX9_init_13 bp_12 (pc2 := 15) rfl ?_
  refine k_newa (n := 4) (len := 12) (t := 5) hc hop (by decide +kernel) (q_St_n (by decide +kernel)) (by decide +kernel) (by decide) (by decide +kernel) (by decide) (by decide +kernel) (t2 := 6) rfl (c2 := 2) rfl (s2 := 24) rfl ⟨by decide, by decide⟩ nw_arr dX9_init_15 (pc2 := 17) rfl ?_
  refine k_putR (t := 6) hc fl_X9_15 hi rfl (by decide +kernel) (q_lt (q_St_n (n := 5) (by decide +kernel)) (by decide)) rfl rfl (by decide +kernel) (t2 := 7) rfl dX9_init_17 (pc2 := 20) rfl ?_
  refine k_rl (k := 0) hc dX9_init_20 rfl (pc2 := 21) rfl ?_
  refine j_bipush hc dX9_init_21 bp_12 (pc2 := 23) rfl ?_
  refine k_newa (n := 5) (len := 12) (t := 7) hc hop (by decide +kernel) (q_St_n (by decide +kernel)) (by decide +kernel) (by decide) (by decide +kernel) (by decide) (by decide +kernel) (t2 := 8) rfl (c2 := 3) rfl (s2 := 36) rfl ⟨by decide, by decide⟩ nw_arr dX9_init_23 (pc2 := 25) rfl ?_
  refine k_putR (t := 8) hc fl_X9_18 hi rfl (by decide +kernel) (q_lt (q_St_n (n := 6) (by decide +kernel)) (by decide)) rfl rfl (by decide +kernel) (t2 := 9) rfl dX9_init_25 (pc2 := 28) rfl ?_
  refine k_rl (k := 0) hc dX9_init_28 rfl (pc2 := 29) rfl ?_
  refine j_bipush hc dX9_init_29 bp_12 (pc2 := 31) rfl ?_
  refine k_newa (n := 6) (len := 12) (t := 9) hc hop (by decide +kernel) (q_St_n (by decide +kernel)) (by decide +kernel) (by decide) (by decide +kernel) (by decide) (by decide +kernel) (t2 := 10) rfl (c2 := 4) rfl (s2 := 48) rfl ⟨by decide, by decide⟩ nw_arr dX9_init_31 (pc2 := 33) rfl ?_
  refine k_putR (t := 10) hc fl_X9_21 hi rfl (by decide +kernel) (q_lt (q_St_n (n := 7) (by decide +kernel)) (by decide)) rfl rfl (by decide +kernel) (t2 := 11) rfl dX9_init_33 (pc2 := 36) rfl ?_
  refine k_rl (k := 0) hc dX9_init_36 rfl (pc2 := 37) rfl ?_
  refine j_iconst hc dX9_init_37 ic_5 (pc2 := 38) rfl ?_
  refine k_newa (n := 7) (len := 5) (t := 11) hc hop (by decide +kernel) (q_St_n (by decide +kernel)) (by decide +kernel) (by decide) (by decide +kernel) (by decide) (by decide +kernel) (t2 := 12) rfl (c2 := 5) rfl (s2 := 53) rfl ⟨by decide, by decide⟩ nw_arr dX9_init_38 (pc2 := 40) rfl ?_
  refine k_putR (t := 12) hc fl_X9_24 hi rfl (by decide +kernel) (q_lt (q_St_n (n := 8) (by decide +kernel)) (by decide)) rfl rfl (by decide +kernel) (t2 := 13) rfl dX9_init_40 (pc2 := 43) rfl ?_
  refine k_rl (k := 0) hc dX9_init_43 rfl (pc2 := 44) rfl ?_
  refine j_iconst hc dX9_init_44 ic_5 (pc2 := 45) rfl ?_
  refine k_newa (n := 8) (len := 5) (t := 13) hc hop (by decide +kernel) (q_St_n (by decide +kernel)) (by decide +kernel) (by decide) (by decide +kernel) (by decide) (by decide +kernel) (t2 := 14) rfl (c2 := 6) rfl (s2 := 58) rfl ⟨by decide, by decide⟩ nw_arr dX9_init_45 (pc2 := 47) rfl ?_
  refine k_putR (t := 14) hc fl_X9_27 hi rfl (by decide +kernel) (q_lt (q_St_n (n := 9) (by decide +kernel)) (by decide)) rfl rfl (by decide +kernel) (t2 := 15) rfl dX9_init_47 (pc2 := 50) rfl ?_
  refine k_rl (k := 0) hc dX9_init_50 rfl (pc2 := 51) rfl ?_
  refine j_iconst hc dX9_init_51 ic_5 (pc2 := 52) rfl ?_
  refine k_newa (n := 9) (len := 5) (t := 15) hc hop (by decide +kernel) (q_St_n (by decide +kernel)) (by decide +kernel) (by decide) (by decide +kernel) (by decide) (by decide +kernel) (t2 := 16) rfl (c2 := 7) rfl (s2 := 63) rfl ⟨by decide, by decide⟩ nw_arr dX9_init_52 (pc2 := 54) rfl ?_
  refine k_putR (t := 16) hc fl_X9_30 hi rfl (by decide +kernel) (q_lt (q_St_n (n := 10) (by decide +kernel)) (by decide)) rfl rfl (by decide +kernel) (t2 := 17) rfl dX9_init_54 (pc2 := 57) rfl ?_
  refine k_rl (k := 0) hc dX9_init_57 rfl (pc2 := 58) rfl ?_
  refine j_bipush hc dX9_init_58 bp_60 (pc2 := 60) rfl ?_
  refine k_newa (n := 10) (len := 60) (t := 17) hc hop (by decide +kernel) (q_St_n (by decide +kernel)) (by decide +kernel) (by decide) (by decide +kernel) (by decide) (by decide +kernel) (t2 := 18) rfl (c2 := 8) rfl (s2 := 123) rfl ⟨by decide, by decide⟩ nw_arr dX9_init_60 (pc2 := 62) rfl ?_
  refine k_putR (t := 18) hc fl_X9_33 hi rfl (by decide +kernel) (q_lt (q_St_n (n := 11) (by decide +kernel)) (by decide)) rfl rfl (by decide +kernel) (t2 := 19) rfl dX9_init_62 (pc2 := 65) rfl ?_
  refine k_rl (k := 0) hc dX9_init_65 rfl (pc2 := 66) rfl ?_
  refine j_iconst hc dX9_init_66 ic_0 (pc2 := 67) rfl ?_
  refine k_putI (t := 19) hc fl_X9_36 hi rfl (by decide +kernel) (q_lt (q_St_n (n := 11) (by decide +kernel)) (by decide)) rfl (by decide) (by decide +kernel) (t2 := 20) rfl dX9_init_67 (pc2 := 70) rfl ?_
  refine k_rl (k := 0) hc dX9_init_70 rfl (pc2 := 71) rfl ?_
  refine j_iconst hc dX9_init_71 ic_0 (pc2 := 72) rfl ?_
  refine k_putI (t := 20) hc fl_X9_40 hi rfl (by decide +kernel) (q_lt (q_St_n (n := 11) (by decide +kernel)) (by decide)) rfl (by decide) (by decide +kernel) (t2 := 21) rfl dX9_init_72 (pc2 := 75) rfl ?_
  refine k_rl (k := 0) hc dX9_init_75 rfl (pc2 := 76) rfl ?_
  refine j_iconst hc dX9_init_76 ic_0 (pc2 := 77) rfl ?_
  refine k_putI (t := 21) hc fl_X9_43 hi rfl (by decide +kernel) (q_lt (q_St_n (n := 11) (by decide +kernel)) (by decide)) rfl (by decide) (by decide +kernel) (t2 := 22) rfl dX9_init_77 (pc2 := 80) rfl ?_
  refine k_rl (k := 0) hc dX9_init_80 rfl (pc2 := 81) rfl ?_
  refine j_iconst hc dX9_init_81 ic_0 (pc2 := 82) rfl ?_
  refine k_putI (t := 22) hc fl_X9_46 hi rfl (by decide +kernel) (q_lt (q_St_n (n := 11) (by decide +kernel)) (by decide)) rfl (by decide) (by decide +kernel) (t2 := 23) rfl dX9_init_82 (pc2 := 85) rfl ?_
  refine k_rl (k := 0) hc dX9_init_85 rfl (pc2 := 86) rfl ?_
  refine j_iconst hc dX9_init_86 ic_0 (pc2 := 87) rfl ?_
  refine k_putI (t := 23) hc fl_X9_49 hi rfl (by decide +kernel) (q_lt (q_St_n (n := 11) (by decide +kernel)) (by decide)) rfl (by decide) (by decide +kernel) (t2 := 24) rfl dX9_init_87 (pc2 := 90) rfl ?_
  refine k_rl (k := 0) hc dX9_init_90 rfl (pc2 := 91) rfl ?_
  refine j_iconst hc dX9_init_91 ic_m1 (pc2 := 92) rfl ?_
  refine k_putI (t := 24) hc fl_X9_52 hi rfl (by decide +kernel) (q_lt (q_St_n (n := 11) (by decide +kernel)) (by decide)) rfl (by decide) (by decide +kernel) (t2 := 25) rfl dX9_init_92 (pc2 := 95) rfl ?_
  refine k_rl (k := 0) hc dX9_init_95 rfl (pc2 := 96) rfl ?_
  refine j_iconst hc dX9_init_96 ic_0 (pc2 := 97) rfl ?_
  refine k_putI (t := 25) hc fl_X9_55 hi rfl (by decide +kernel) (q_lt (q_St_n (n := 11) (by decide +kernel)) (by decide)) rfl (by decide) (by decide +kernel) (t2 := 26) rfl dX9_init_97 (pc2 := 100) rfl ?_
  refine k_rl (k := 0) hc dX9_init_100 rfl (pc2 := 101) rfl ?_
  refine j_iconst hc dX9_init_101 ic_0 (pc2 := 102) rfl ?_
  refine k_putI (t := 26) hc fl_X9_58 hi rfl (by decide +kernel) (q_lt (q_St_n (n := 11) (by decide +kernel)) (by decide)) rfl (by decide) (by decide +kernel) (t2 := 27) rfl dX9_init_102 (pc2 := 105) rfl ?_
  refine k_rl (k := 0) hc dX9_init_105 rfl (pc2 := 106) rfl ?_
  refine j_iconst hc dX9_init_106 ic_0 (pc2 := 107) rfl ?_
  refine k_putI (t := 27) hc fl_X9_61 hi rfl (by decide +kernel) (q_lt (q_St_n (n := 11) (by decide +kernel)) (by decide)) rfl (by decide) (by decide +kernel) (t2 := 28) rfl dX9_init_107 (pc2 := 110) rfl ?_
  refine k_rl (k := 0) hc dX9_init_110 rfl (pc2 := 111) rfl ?_
  refine j_iconst hc dX9_init_111 ic_0 (pc2 := 112) rfl ?_
  refine k_putI (t := 28) hc fl_X9_64 hi rfl (by decide +kernel) (q_lt (q_St_n (n := 11) (by decide +kernel)) (by decide)) rfl (by decide) (by decide +kernel) (t2 := 29) rfl dX9_init_112 (pc2 := 115) rfl ?_
  refine k_rl (k := 0) hc dX9_init_115 rfl (pc2 := 116) rfl ?_
  refine k_getR (x := 6) (t := 29) hc fl_X9_21 rfl (by decide +kernel) (q_lt (q_St_n (n := 11) (by decide +kernel)) (by decide)) (by decide +kernel) dX9_init_116 (pc2 := 119) rfl ?_
  refine j_iconst hc dX9_init_119 ic_m1 (pc2 := 120) rfl ?_
  refine k_fill (len := 12) (t := 29) hc (by decide +kernel) (q_lt (q_St_n (n := 11) (by decide +kernel)) (by decide)) (by decide) (by decide +kernel) (t2 := 30) rfl ln_X9_67 ⟨by decide, by decide⟩ ⟨by decide, by decide⟩ (Nat.le_of_ble_eq_true rfl) dX9_init_120 (pc2 := 123) rfl ?_
  refine k_rl (k := 0) hc dX9_init_123 rfl (pc2 := 124) rfl ?_
  refine k_getR (x := 10) (t := 30) hc fl_X9_33 rfl (by decide +kernel) (q_lt (q_St_n (n := 11) (by decide +kernel)) (by decide)) (by decide +kernel) dX9_init_124 (pc2 := 127) rfl ?_
  refine j_bipush hc dX9_init_127 bp_30 (pc2 := 129) rfl ?_
  refine k_fill (len := 60) (t := 30) hc (by decide +kernel) (q_lt (q_St_n (n := 11) (by decide +kernel)) (by decide)) (by decide) (by decide +kernel) (t2 := 31) rfl ln_X9_67 ⟨by decide, by decide⟩ ⟨by decide, by decide⟩ (Nat.le_of_ble_eq_true rfl) dX9_init_129 (pc2 := 132) rfl ?_
  exact j_vret hc dX9_init_132
set_option maxRecDepth 100000 in
set_option maxHeartbeats 4000000 in
theorem I_X2_init_33 {l : Launch} {w : q_Wd} (hop : w.2.2.2.2.2.1 = none) : q_M l w yX2_init cX2_init 1 none { frames := 1, cells := 7, slots := 1264, locals := 20 } 7 1264 [q_rf w 11] (q_St 33) 0 (q_St 49) := q_MofJ [some (q_rf w 11)] (by decide +kernel) rfl rfl (Nat.le_of_ble_eq_true rfl) fun cx hl hAs hnm hc => by
  have hc : q_ok w cx RX2 cX2_init 1 none { frames := 1, cells := 7, slots := 1264, locals := 20 } := hc
  have hi : q_inm cx RX2 2 := ⟨hnm, _, rfl⟩
  refine k_rl (k := 0) hc dX2_init_0 rfl (pc2 := 1) rfl ?_
  refine k_obj hc ob_X2_3 ob_w ⟨by decide, by decide⟩ (Nat.le_of_ble_eq_true rfl) dX2_init_1 (pc2 := 4) rfl ?_
  refine k_rl (k := 0) hc dX2_init_4 rfl (pc2 := 5) rfl ?_
  refine j_bipush hc dX2_init_5 bp_16 (pc2 := 7) rfl ?_
  refine k_newa (n := 12) (len := 16) (t := 33) hc hop (by decide +kernel) (q_St_n (by decide +kernel)) (by decide +kernel) (by decide) (by decide +kernel) (by decide) (by decide +kernel) (t2 := 34) rfl (c2 := 1) rfl (s2 := 16) rfl ⟨by decide, by decide⟩ nw_arr dX2_init_7 (pc2 := 9) rfl ?_
  refine k_putR (t := 34) hc fl_X2_9 hi rfl (by decide +kernel) (q_lt (q_St_n (n := 13) (by decide +kernel)) (by decide)) rfl rfl (by decide +kernel) (t2 := 35) rfl dX2_init_9 (pc2 := 12) rfl ?_
  refine k_rl (k := 0) hc dX2_init_12 rfl (pc2 := 13) rfl ?_
  refine j_bipush hc dX2_init_13 bp_16 (pc2 := 15) rfl ?_
  refine k_newa (n := 13) (len := 16) (t := 35) hc hop (by decide +kernel) (q_St_n (by decide +kernel)) (by decide +kernel) (by decide) (by decide +kernel) (by decide) (by decide +kernel) (t2 := 36) rfl (c2 := 2) rfl (s2 := 32) rfl ⟨by decide, by decide⟩ nw_arr dX2_init_15 (pc2 := 17) rfl ?_
  refine k_putR (t := 36) hc fl_X2_15 hi rfl (by decide +kernel) (q_lt (q_St_n (n := 14) (by decide +kernel)) (by decide)) rfl rfl (by decide +kernel) (t2 := 37) rfl dX2_init_17 (pc2 := 20) rfl ?_
  refine k_rl (k := 0) hc dX2_init_20 rfl (pc2 := 21) rfl ?_
  refine j_bipush hc dX2_init_21 bp_16 (pc2 := 23) rfl ?_
  refine k_newa (n := 14) (len := 16) (t := 37) hc hop (by decide +kernel) (q_St_n (by decide +kernel)) (by decide +kernel) (by decide) (by decide +kernel) (by decide) (by decide +kernel) (t2 := 38) rfl (c2 := 3) rfl (s2 := 48) rfl ⟨by decide, by decide⟩ nw_arr dX2_init_23 (pc2 := 25) rfl ?_
  refine k_putR (t := 38) hc fl_X2_18 hi rfl (by decide +kernel) (q_lt (q_St_n (n := 15) (by decide +kernel)) (by decide)) rfl rfl (by decide +kernel) (t2 := 39) rfl dX2_init_25 (pc2 := 28) rfl ?_
  refine k_rl (k := 0) hc dX2_init_28 rfl (pc2 := 29) rfl ?_
  refine j_bipush hc dX2_init_29 bp_16 (pc2 := 31) rfl ?_
  refine k_newa (n := 15) (len := 16) (t := 39) hc hop (by decide +kernel) (q_St_n (by decide +kernel)) (by decide +kernel) (by decide) (by decide +kernel) (by decide) (by decide +kernel) (t2 := 40) rfl (c2 := 4) rfl (s2 := 64) rfl ⟨by decide, by decide⟩ nw_arr dX2_init_31 (pc2 := 33) rfl ?_
  refine k_putR (t := 40) hc fl_X2_21 hi rfl (by decide +kernel) (q_lt (q_St_n (n := 16) (by decide +kernel)) (by decide)) rfl rfl (by decide +kernel) (t2 := 41) rfl dX2_init_33 (pc2 := 36) rfl ?_
  refine k_rl (k := 0) hc dX2_init_36 rfl (pc2 := 37) rfl ?_
  refine j_sipush hc dX2_init_37 sp_400 (pc2 := 40) rfl ?_
  refine k_newa (n := 16) (len := 400) (t := 41) hc hop (by decide +kernel) (q_St_n (by decide +kernel)) (by decide +kernel) (by decide) (by decide +kernel) (by decide) (by decide +kernel) (t2 := 42) rfl (c2 := 5) rfl (s2 := 464) rfl ⟨by decide, by decide⟩ nw_arr dX2_init_40 (pc2 := 42) rfl ?_
  refine k_putR (t := 42) hc fl_X2_24 hi rfl (by decide +kernel) (q_lt (q_St_n (n := 17) (by decide +kernel)) (by decide)) rfl rfl (by decide +kernel) (t2 := 43) rfl dX2_init_42 (pc2 := 45) rfl ?_
  refine k_rl (k := 0) hc dX2_init_45 rfl (pc2 := 46) rfl ?_
  refine j_sipush hc dX2_init_46 sp_400 (pc2 := 49) rfl ?_
  refine k_newa (n := 17) (len := 400) (t := 43) hc hop (by decide +kernel) (q_St_n (by decide +kernel)) (by decide +kernel) (by decide) (by decide +kernel) (by decide) (by decide +kernel) (t2 := 44) rfl (c2 := 6) rfl (s2 := 864) rfl ⟨by decide, by decide⟩ nw_arr dX2_init_49 (pc2 := 51) rfl ?_
  refine k_putR (t := 44) hc fl_X2_27 hi rfl (by decide +kernel) (q_lt (q_St_n (n := 18) (by decide +kernel)) (by decide)) rfl rfl (by decide +kernel) (t2 := 45) rfl dX2_init_51 (pc2 := 54) rfl ?_
  refine k_rl (k := 0) hc dX2_init_54 rfl (pc2 := 55) rfl ?_
  refine j_sipush hc dX2_init_55 sp_400 (pc2 := 58) rfl ?_
  refine k_newa (n := 18) (len := 400) (t := 45) hc hop (by decide +kernel) (q_St_n (by decide +kernel)) (by decide +kernel) (by decide) (by decide +kernel) (by decide) (by decide +kernel) (t2 := 46) rfl (c2 := 7) rfl (s2 := 1264) rfl ⟨by decide, by decide⟩ nw_arr dX2_init_58 (pc2 := 60) rfl ?_
  refine k_putR (t := 46) hc fl_X2_30 hi rfl (by decide +kernel) (q_lt (q_St_n (n := 19) (by decide +kernel)) (by decide)) rfl rfl (by decide +kernel) (t2 := 47) rfl dX2_init_60 (pc2 := 63) rfl ?_
  refine k_rl (k := 0) hc dX2_init_63 rfl (pc2 := 64) rfl ?_
  refine j_iconst hc dX2_init_64 ic_0 (pc2 := 65) rfl ?_
  refine k_putI (t := 47) hc fl_X2_33 hi rfl (by decide +kernel) (q_lt (q_St_n (n := 19) (by decide +kernel)) (by decide)) rfl (by decide) (by decide +kernel) (t2 := 48) rfl dX2_init_65 (pc2 := 68) rfl ?_
  refine k_rl (k := 0) hc dX2_init_68 rfl (pc2 := 69) rfl ?_
  refine j_iconst hc dX2_init_69 ic_0 (pc2 := 70) rfl ?_
  refine k_putI (t := 48) hc fl_X2_37 hi rfl (by decide +kernel) (q_lt (q_St_n (n := 19) (by decide +kernel)) (by decide)) rfl (by decide) (by decide +kernel) (t2 := 49) rfl dX2_init_70 (pc2 := 73) rfl ?_
  exact j_vret hc dX2_init_73
set_option maxRecDepth 100000 in
set_option maxHeartbeats 4000000 in
theorem I_X6_init_51 {l : Launch} {w : q_Wd} (hop : w.2.2.2.2.2.1 = none) : q_M l w yX6_init cX6_init 2 none { frames := 1, cells := 1, slots := 64, locals := 21 } 1 64 [q_rf w 19, .int 16] (q_St 51) 0 (q_St 55) := q_MofJ [some (q_rf w 19), some (.int 16)] (by decide +kernel) rfl rfl (Nat.le_of_ble_eq_true rfl) fun cx hl hAs hnm hc => by
  have hc : q_ok w cx RX6 cX6_init 2 none { frames := 1, cells := 1, slots := 64, locals := 21 } := hc
  have hi : q_inm cx RX6 6 := ⟨hnm, _, rfl⟩
  refine k_rl (k := 0) hc dX6_init_0 rfl (pc2 := 1) rfl ?_
  refine k_obj hc ob_X6_3 ob_w ⟨by decide, by decide⟩ (Nat.le_of_ble_eq_true rfl) dX6_init_1 (pc2 := 4) rfl ?_
  refine k_rl (k := 0) hc dX6_init_4 rfl (pc2 := 5) rfl ?_
  refine j_bipush hc dX6_init_5 bp_64 (pc2 := 7) rfl ?_
  refine k_newa (n := 20) (len := 64) (t := 51) hc hop (by decide +kernel) (q_St_n (by decide +kernel)) (by decide +kernel) (by decide) (by decide +kernel) (by decide) (by decide +kernel) (t2 := 52) rfl (c2 := 1) rfl (s2 := 64) rfl ⟨by decide, by decide⟩ nw_arr dX6_init_7 (pc2 := 9) rfl ?_
  refine k_putR (t := 52) hc fl_X6_11 hi rfl (by decide +kernel) (q_lt (q_St_n (n := 21) (by decide +kernel)) (by decide)) rfl rfl (by decide +kernel) (t2 := 53) rfl dX6_init_9 (pc2 := 12) rfl ?_
  refine k_rl (k := 0) hc dX6_init_12 rfl (pc2 := 13) rfl ?_
  refine j_iconst hc dX6_init_13 ic_0 (pc2 := 14) rfl ?_
  refine k_putI (t := 53) hc fl_X6_15 hi rfl (by decide +kernel) (q_lt (q_St_n (n := 21) (by decide +kernel)) (by decide)) rfl (by decide) (by decide +kernel) (t2 := 54) rfl dX6_init_14 (pc2 := 17) rfl ?_
  refine k_rl (k := 0) hc dX6_init_17 rfl (pc2 := 18) rfl ?_
  refine j_iconst hc dX6_init_18 ic_0 (pc2 := 19) rfl ?_
  refine j_bipush hc dX6_init_19 bp_16 (pc2 := 21) rfl ?_
  refine j_iload_n (k := 1) hc dX6_init_21 rfl (pc2 := 22) rfl ?_
  refine j_min hc ln_X6_19 ⟨by decide, by decide⟩ ⟨by decide, by decide⟩ (Nat.le_of_ble_eq_true rfl) dX6_init_22 (pc2 := 25) rfl ?_
  rw [show q_mn 16 16 = 16 from by decide +kernel]
  refine j_max hc ln_X6_25 ⟨by decide, by decide⟩ ⟨by decide, by decide⟩ (Nat.le_of_ble_eq_true rfl) dX6_init_25 (pc2 := 28) rfl ?_
  rw [show q_mx 0 16 = 16 from by decide +kernel]
  refine k_putI (t := 54) hc fl_X6_28 hi rfl (by decide +kernel) (q_lt (q_St_n (n := 21) (by decide +kernel)) (by decide)) rfl (by decide) (by decide +kernel) (t2 := 55) rfl dX6_init_28 (pc2 := 31) rfl ?_
  exact j_vret hc dX6_init_31
set_option maxRecDepth 100000 in
set_option maxHeartbeats 4000000 in
theorem I_X6_init_57 {l : Launch} {w : q_Wd} (hop : w.2.2.2.2.2.1 = none) : q_M l w yX6_init cX6_init 2 none { frames := 1, cells := 1, slots := 64, locals := 21 } 1 64 [q_rf w 21, .int 16] (q_St 57) 0 (q_St 61) := q_MofJ [some (q_rf w 21), some (.int 16)] (by decide +kernel) rfl rfl (Nat.le_of_ble_eq_true rfl) fun cx hl hAs hnm hc => by
  have hc : q_ok w cx RX6 cX6_init 2 none { frames := 1, cells := 1, slots := 64, locals := 21 } := hc
  have hi : q_inm cx RX6 6 := ⟨hnm, _, rfl⟩
  refine k_rl (k := 0) hc dX6_init_0 rfl (pc2 := 1) rfl ?_
  refine k_obj hc ob_X6_3 ob_w ⟨by decide, by decide⟩ (Nat.le_of_ble_eq_true rfl) dX6_init_1 (pc2 := 4) rfl ?_
  refine k_rl (k := 0) hc dX6_init_4 rfl (pc2 := 5) rfl ?_
  refine j_bipush hc dX6_init_5 bp_64 (pc2 := 7) rfl ?_
  refine k_newa (n := 22) (len := 64) (t := 57) hc hop (by decide +kernel) (q_St_n (by decide +kernel)) (by decide +kernel) (by decide) (by decide +kernel) (by decide) (by decide +kernel) (t2 := 58) rfl (c2 := 1) rfl (s2 := 64) rfl ⟨by decide, by decide⟩ nw_arr dX6_init_7 (pc2 := 9) rfl ?_
  refine k_putR (t := 58) hc fl_X6_11 hi rfl (by decide +kernel) (q_lt (q_St_n (n := 23) (by decide +kernel)) (by decide)) rfl rfl (by decide +kernel) (t2 := 59) rfl dX6_init_9 (pc2 := 12) rfl ?_
  refine k_rl (k := 0) hc dX6_init_12 rfl (pc2 := 13) rfl ?_
  refine j_iconst hc dX6_init_13 ic_0 (pc2 := 14) rfl ?_
  refine k_putI (t := 59) hc fl_X6_15 hi rfl (by decide +kernel) (q_lt (q_St_n (n := 23) (by decide +kernel)) (by decide)) rfl (by decide) (by decide +kernel) (t2 := 60) rfl dX6_init_14 (pc2 := 17) rfl ?_
  refine k_rl (k := 0) hc dX6_init_17 rfl (pc2 := 18) rfl ?_
  refine j_iconst hc dX6_init_18 ic_0 (pc2 := 19) rfl ?_
  refine j_bipush hc dX6_init_19 bp_16 (pc2 := 21) rfl ?_
  refine j_iload_n (k := 1) hc dX6_init_21 rfl (pc2 := 22) rfl ?_
  refine j_min hc ln_X6_19 ⟨by decide, by decide⟩ ⟨by decide, by decide⟩ (Nat.le_of_ble_eq_true rfl) dX6_init_22 (pc2 := 25) rfl ?_
  rw [show q_mn 16 16 = 16 from by decide +kernel]
  refine j_max hc ln_X6_25 ⟨by decide, by decide⟩ ⟨by decide, by decide⟩ (Nat.le_of_ble_eq_true rfl) dX6_init_25 (pc2 := 28) rfl ?_
  rw [show q_mx 0 16 = 16 from by decide +kernel]
  refine k_putI (t := 60) hc fl_X6_28 hi rfl (by decide +kernel) (q_lt (q_St_n (n := 23) (by decide +kernel)) (by decide)) rfl (by decide) (by decide +kernel) (t2 := 61) rfl dX6_init_28 (pc2 := 31) rfl ?_
  exact j_vret hc dX6_init_31
set_option maxRecDepth 100000 in
set_option maxHeartbeats 4000000 in
theorem I_X6_init_63 {l : Launch} {w : q_Wd} (hop : w.2.2.2.2.2.1 = none) : q_M l w yX6_init cX6_init 2 none { frames := 1, cells := 1, slots := 64, locals := 21 } 1 64 [q_rf w 23, .int 16] (q_St 63) 0 (q_St 67) := q_MofJ [some (q_rf w 23), some (.int 16)] (by decide +kernel) rfl rfl (Nat.le_of_ble_eq_true rfl) fun cx hl hAs hnm hc => by
  have hc : q_ok w cx RX6 cX6_init 2 none { frames := 1, cells := 1, slots := 64, locals := 21 } := hc
  have hi : q_inm cx RX6 6 := ⟨hnm, _, rfl⟩
  refine k_rl (k := 0) hc dX6_init_0 rfl (pc2 := 1) rfl ?_
  refine k_obj hc ob_X6_3 ob_w ⟨by decide, by decide⟩ (Nat.le_of_ble_eq_true rfl) dX6_init_1 (pc2 := 4) rfl ?_
  refine k_rl (k := 0) hc dX6_init_4 rfl (pc2 := 5) rfl ?_
  refine j_bipush hc dX6_init_5 bp_64 (pc2 := 7) rfl ?_
  refine k_newa (n := 24) (len := 64) (t := 63) hc hop (by decide +kernel) (q_St_n (by decide +kernel)) (by decide +kernel) (by decide) (by decide +kernel) (by decide) (by decide +kernel) (t2 := 64) rfl (c2 := 1) rfl (s2 := 64) rfl ⟨by decide, by decide⟩ nw_arr dX6_init_7 (pc2 := 9) rfl ?_
  refine k_putR (t := 64) hc fl_X6_11 hi rfl (by decide +kernel) (q_lt (q_St_n (n := 25) (by decide +kernel)) (by decide)) rfl rfl (by decide +kernel) (t2 := 65) rfl dX6_init_9 (pc2 := 12) rfl ?_
  refine k_rl (k := 0) hc dX6_init_12 rfl (pc2 := 13) rfl ?_
  refine j_iconst hc dX6_init_13 ic_0 (pc2 := 14) rfl ?_
  refine k_putI (t := 65) hc fl_X6_15 hi rfl (by decide +kernel) (q_lt (q_St_n (n := 25) (by decide +kernel)) (by decide)) rfl (by decide) (by decide +kernel) (t2 := 66) rfl dX6_init_14 (pc2 := 17) rfl ?_
  refine k_rl (k := 0) hc dX6_init_17 rfl (pc2 := 18) rfl ?_
  refine j_iconst hc dX6_init_18 ic_0 (pc2 := 19) rfl ?_
  refine j_bipush hc dX6_init_19 bp_16 (pc2 := 21) rfl ?_
  refine j_iload_n (k := 1) hc dX6_init_21 rfl (pc2 := 22) rfl ?_
  refine j_min hc ln_X6_19 ⟨by decide, by decide⟩ ⟨by decide, by decide⟩ (Nat.le_of_ble_eq_true rfl) dX6_init_22 (pc2 := 25) rfl ?_
  rw [show q_mn 16 16 = 16 from by decide +kernel]
  refine j_max hc ln_X6_25 ⟨by decide, by decide⟩ ⟨by decide, by decide⟩ (Nat.le_of_ble_eq_true rfl) dX6_init_25 (pc2 := 28) rfl ?_
  rw [show q_mx 0 16 = 16 from by decide +kernel]
  refine k_putI (t := 66) hc fl_X6_28 hi rfl (by decide +kernel) (q_lt (q_St_n (n := 25) (by decide +kernel)) (by decide)) rfl (by decide) (by decide +kernel) (t2 := 67) rfl dX6_init_28 (pc2 := 31) rfl ?_
  exact j_vret hc dX6_init_31
set_option maxRecDepth 100000 in
set_option maxHeartbeats 4000000 in
theorem I_X6_init_69 {l : Launch} {w : q_Wd} (hop : w.2.2.2.2.2.1 = none) : q_M l w yX6_init cX6_init 2 none { frames := 1, cells := 1, slots := 64, locals := 21 } 1 64 [q_rf w 25, .int 8] (q_St 69) 0 (q_St 73) := q_MofJ [some (q_rf w 25), some (.int 8)] (by decide +kernel) rfl rfl (Nat.le_of_ble_eq_true rfl) fun cx hl hAs hnm hc => by
  have hc : q_ok w cx RX6 cX6_init 2 none { frames := 1, cells := 1, slots := 64, locals := 21 } := hc
  have hi : q_inm cx RX6 6 := ⟨hnm, _, rfl⟩
  refine k_rl (k := 0) hc dX6_init_0 rfl (pc2 := 1) rfl ?_
  refine k_obj hc ob_X6_3 ob_w ⟨by decide, by decide⟩ (Nat.le_of_ble_eq_true rfl) dX6_init_1 (pc2 := 4) rfl ?_
  refine k_rl (k := 0) hc dX6_init_4 rfl (pc2 := 5) rfl ?_
  refine j_bipush hc dX6_init_5 bp_64 (pc2 := 7) rfl ?_
  refine k_newa (n := 26) (len := 64) (t := 69) hc hop (by decide +kernel) (q_St_n (by decide +kernel)) (by decide +kernel) (by decide) (by decide +kernel) (by decide) (by decide +kernel) (t2 := 70) rfl (c2 := 1) rfl (s2 := 64) rfl ⟨by decide, by decide⟩ nw_arr dX6_init_7 (pc2 := 9) rfl ?_
  refine k_putR (t := 70) hc fl_X6_11 hi rfl (by decide +kernel) (q_lt (q_St_n (n := 27) (by decide +kernel)) (by decide)) rfl rfl (by decide +kernel) (t2 := 71) rfl dX6_init_9 (pc2 := 12) rfl ?_
  refine k_rl (k := 0) hc dX6_init_12 rfl (pc2 := 13) rfl ?_
  refine j_iconst hc dX6_init_13 ic_0 (pc2 := 14) rfl ?_
  refine k_putI (t := 71) hc fl_X6_15 hi rfl (by decide +kernel) (q_lt (q_St_n (n := 27) (by decide +kernel)) (by decide)) rfl (by decide) (by decide +kernel) (t2 := 72) rfl dX6_init_14 (pc2 := 17) rfl ?_
  refine k_rl (k := 0) hc dX6_init_17 rfl (pc2 := 18) rfl ?_
  refine j_iconst hc dX6_init_18 ic_0 (pc2 := 19) rfl ?_
  refine j_bipush hc dX6_init_19 bp_16 (pc2 := 21) rfl ?_
  refine j_iload_n (k := 1) hc dX6_init_21 rfl (pc2 := 22) rfl ?_
  refine j_min hc ln_X6_19 ⟨by decide, by decide⟩ ⟨by decide, by decide⟩ (Nat.le_of_ble_eq_true rfl) dX6_init_22 (pc2 := 25) rfl ?_
  rw [show q_mn 16 8 = 8 from by decide +kernel]
  refine j_max hc ln_X6_25 ⟨by decide, by decide⟩ ⟨by decide, by decide⟩ (Nat.le_of_ble_eq_true rfl) dX6_init_25 (pc2 := 28) rfl ?_
  rw [show q_mx 0 8 = 8 from by decide +kernel]
  refine k_putI (t := 72) hc fl_X6_28 hi rfl (by decide +kernel) (q_lt (q_St_n (n := 27) (by decide +kernel)) (by decide)) rfl (by decide) (by decide +kernel) (t2 := 73) rfl dX6_init_28 (pc2 := 31) rfl ?_
  exact j_vret hc dX6_init_31
set_option maxRecDepth 100000 in
set_option maxHeartbeats 4000000 in
theorem I_X6_init_75 {l : Launch} {w : q_Wd} (hop : w.2.2.2.2.2.1 = none) : q_M l w yX6_init cX6_init 2 none { frames := 1, cells := 1, slots := 64, locals := 21 } 1 64 [q_rf w 27, .int 12] (q_St 75) 0 (q_St 79) := q_MofJ [some (q_rf w 27), some (.int 12)] (by decide +kernel) rfl rfl (Nat.le_of_ble_eq_true rfl) fun cx hl hAs hnm hc => by
  have hc : q_ok w cx RX6 cX6_init 2 none { frames := 1, cells := 1, slots := 64, locals := 21 } := hc
  have hi : q_inm cx RX6 6 := ⟨hnm, _, rfl⟩
  refine k_rl (k := 0) hc dX6_init_0 rfl (pc2 := 1) rfl ?_
  refine k_obj hc ob_X6_3 ob_w ⟨by decide, by decide⟩ (Nat.le_of_ble_eq_true rfl) dX6_init_1 (pc2 := 4) rfl ?_
  refine k_rl (k := 0) hc dX6_init_4 rfl (pc2 := 5) rfl ?_
  refine j_bipush hc dX6_init_5 bp_64 (pc2 := 7) rfl ?_
  refine k_newa (n := 28) (len := 64) (t := 75) hc hop (by decide +kernel) (q_St_n (by decide +kernel)) (by decide +kernel) (by decide) (by decide +kernel) (by decide) (by decide +kernel) (t2 := 76) rfl (c2 := 1) rfl (s2 := 64) rfl ⟨by decide, by decide⟩ nw_arr dX6_init_7 (pc2 := 9) rfl ?_
  refine k_putR (t := 76) hc fl_X6_11 hi rfl (by decide +kernel) (q_lt (q_St_n (n := 29) (by decide +kernel)) (by decide)) rfl rfl (by decide +kernel) (t2 := 77) rfl dX6_init_9 (pc2 := 12) rfl ?_
  refine k_rl (k := 0) hc dX6_init_12 rfl (pc2 := 13) rfl ?_
  refine j_iconst hc dX6_init_13 ic_0 (pc2 := 14) rfl ?_
  refine k_putI (t := 77) hc fl_X6_15 hi rfl (by decide +kernel) (q_lt (q_St_n (n := 29) (by decide +kernel)) (by decide)) rfl (by decide) (by decide +kernel) (t2 := 78) rfl dX6_init_14 (pc2 := 17) rfl ?_
  refine k_rl (k := 0) hc dX6_init_17 rfl (pc2 := 18) rfl ?_
  refine j_iconst hc dX6_init_18 ic_0 (pc2 := 19) rfl ?_
  refine j_bipush hc dX6_init_19 bp_16 (pc2 := 21) rfl ?_
  refine j_iload_n (k := 1) hc dX6_init_21 rfl (pc2 := 22) rfl ?_
  refine j_min hc ln_X6_19 ⟨by decide, by decide⟩ ⟨by decide, by decide⟩ (Nat.le_of_ble_eq_true rfl) dX6_init_22 (pc2 := 25) rfl ?_
  rw [show q_mn 16 12 = 12 from by decide +kernel]
  refine j_max hc ln_X6_25 ⟨by decide, by decide⟩ ⟨by decide, by decide⟩ (Nat.le_of_ble_eq_true rfl) dX6_init_25 (pc2 := 28) rfl ?_
  rw [show q_mx 0 12 = 12 from by decide +kernel]
  refine k_putI (t := 78) hc fl_X6_28 hi rfl (by decide +kernel) (q_lt (q_St_n (n := 29) (by decide +kernel)) (by decide)) rfl (by decide) (by decide +kernel) (t2 := 79) rfl dX6_init_28 (pc2 := 31) rfl ?_
  exact j_vret hc dX6_init_31
set_option maxRecDepth 100000 in
set_option maxHeartbeats 4000000 in
theorem I_X10_init_2 {l : Launch} {w : q_Wd} (hop : w.2.2.2.2.2.1 = none) : q_M l w yX10_init cX10_init 1 none { frames := 2, cells := 29, slots := 2359, locals := 43 } 29 2359 [q_rf w 1] (q_St 2) 0 (q_St 84) := q_MofJ [some (q_rf w 1)] (by decide +kernel) rfl rfl (Nat.le_of_ble_eq_true rfl) fun cx hl hAs hnm hc => by
  have hc : q_ok w cx RX10 cX10_init 1 none { frames := 2, cells := 29, slots := 2359, locals := 43 } := hc
  have hi : q_inm cx RX10 10 := ⟨hnm, _, rfl⟩
  refine k_rl (k := 0) hc dX10_init_0 rfl (pc2 := 1) rfl ?_
  refine k_obj hc ob_X10_3 ob_w ⟨by decide, by decide⟩ (Nat.le_of_ble_eq_true rfl) dX10_init_1 (pc2 := 4) rfl ?_
  refine k_rl (k := 0) hc dX10_init_4 rfl (pc2 := 5) rfl ?_
  refine k_new (n := 2) (t := 2) hc hop cl_9 (nw_X10_9) df_9 (by decide +kernel) (q_St_n (by decide +kernel)) (by decide +kernel) (by decide +kernel) (t2 := 3) rfl (c2 := 1) rfl (s2 := 18) rfl ⟨by decide, by decide⟩ dX10_init_5 (pc2 := 8) rfl ?_
  refine j_dup hc dX10_init_8 rfl (pc2 := 9) rfl ?_
  refine k_init (As := []) hc (I_X9_init_3 hop) mi_X9_init rfl ln_X10_11 rfl rfl ⟨by decide, by decide⟩ (c2 := 9) rfl (s2 := 141) rfl ⟨by decide, by decide⟩ (Nat.le_of_ble_eq_true rfl) dX10_init_9 (pc2 := 12) rfl ?_
  refine k_putR (t := 31) hc fl_X10_12 hi rfl (by decide +kernel) (q_lt (q_St_n (n := 11) (by decide +kernel)) (by decide)) rfl rfl (by decide +kernel) (t2 := 32) rfl dX10_init_12 (pc2 := 15) rfl ?_
  refine k_rl (k := 0) hc dX10_init_15 rfl (pc2 := 16) rfl ?_
  refine k_new (n := 11) (t := 32) hc hop cl_2 (nw_X10_18) df_2 (by decide +kernel) (q_St_n (by decide +kernel)) (by decide +kernel) (by decide +kernel) (t2 := 33) rfl (c2 := 10) rfl (s2 := 150) rfl ⟨by decide, by decide⟩ dX10_init_16 (pc2 := 19) rfl ?_
  refine j_dup hc dX10_init_19 rfl (pc2 := 20) rfl ?_
  refine k_initN (As := []) (host := "MuleVote") hc (I_X2_init_33 hop) mi_X2_init rfl (by decide +kernel) rfl rfl ⟨by decide, by decide⟩ (c2 := 17) rfl (s2 := 1414) rfl ⟨by decide, by decide⟩ (Nat.le_of_ble_eq_true rfl) dX10_init_20 (pc2 := 23) rfl ?_
  refine k_putR (t := 49) hc fl_X10_21 hi rfl (by decide +kernel) (q_lt (q_St_n (n := 19) (by decide +kernel)) (by decide)) rfl rfl (by decide +kernel) (t2 := 50) rfl dX10_init_23 (pc2 := 26) rfl ?_
  refine k_rl (k := 0) hc dX10_init_26 rfl (pc2 := 27) rfl ?_
  refine k_new (n := 19) (t := 50) hc hop cl_6 (nw_X10_25) df_6 (by decide +kernel) (q_St_n (by decide +kernel)) (by decide +kernel) (by decide +kernel) (t2 := 51) rfl (c2 := 18) rfl (s2 := 1417) rfl ⟨by decide, by decide⟩ dX10_init_27 (pc2 := 30) rfl ?_
  refine j_dup hc dX10_init_30 rfl (pc2 := 31) rfl ?_
  refine j_bipush hc dX10_init_31 bp_16 (pc2 := 33) rfl ?_
  refine k_init (As := [.int 16]) hc (I_X6_init_51 hop) mi_X6_init rfl ln_X10_27 rfl rfl ⟨by decide, by decide⟩ (c2 := 19) rfl (s2 := 1481) rfl ⟨by decide, by decide⟩ (Nat.le_of_ble_eq_true rfl) dX10_init_33 (pc2 := 36) rfl ?_
  refine k_putR (t := 55) hc fl_X10_30 hi rfl (by decide +kernel) (q_lt (q_St_n (n := 21) (by decide +kernel)) (by decide)) rfl rfl (by decide +kernel) (t2 := 56) rfl dX10_init_36 (pc2 := 39) rfl ?_
  refine k_rl (k := 0) hc dX10_init_39 rfl (pc2 := 40) rfl ?_
  refine k_new (n := 21) (t := 56) hc hop cl_6 (nw_X10_25) df_6 (by decide +kernel) (q_St_n (by decide +kernel)) (by decide +kernel) (by decide +kernel) (t2 := 57) rfl (c2 := 20) rfl (s2 := 1484) rfl ⟨by decide, by decide⟩ dX10_init_40 (pc2 := 43) rfl ?_
  refine j_dup hc dX10_init_43 rfl (pc2 := 44) rfl ?_
  refine j_bipush hc dX10_init_44 bp_16 (pc2 := 46) rfl ?_
  refine k_init (As := [.int 16]) hc (I_X6_init_57 hop) mi_X6_init rfl ln_X10_27 rfl rfl ⟨by decide, by decide⟩ (c2 := 21) rfl (s2 := 1548) rfl ⟨by decide, by decide⟩ (Nat.le_of_ble_eq_true rfl) dX10_init_46 (pc2 := 49) rfl ?_
  refine k_putR (t := 61) hc fl_X10_34 hi rfl (by decide +kernel) (q_lt (q_St_n (n := 23) (by decide +kernel)) (by decide)) rfl rfl (by decide +kernel) (t2 := 62) rfl dX10_init_49 (pc2 := 52) rfl ?_
  refine k_rl (k := 0) hc dX10_init_52 rfl (pc2 := 53) rfl ?_
  refine k_new (n := 23) (t := 62) hc hop cl_6 (nw_X10_25) df_6 (by decide +kernel) (q_St_n (by decide +kernel)) (by decide +kernel) (by decide +kernel) (t2 := 63) rfl (c2 := 22) rfl (s2 := 1551) rfl ⟨by decide, by decide⟩ dX10_init_53 (pc2 := 56) rfl ?_
  refine j_dup hc dX10_init_56 rfl (pc2 := 57) rfl ?_
  refine j_bipush hc dX10_init_57 bp_16 (pc2 := 59) rfl ?_
  refine k_init (As := [.int 16]) hc (I_X6_init_63 hop) mi_X6_init rfl ln_X10_27 rfl rfl ⟨by decide, by decide⟩ (c2 := 23) rfl (s2 := 1615) rfl ⟨by decide, by decide⟩ (Nat.le_of_ble_eq_true rfl) dX10_init_59 (pc2 := 62) rfl ?_
  refine k_putR (t := 67) hc fl_X10_37 hi rfl (by decide +kernel) (q_lt (q_St_n (n := 25) (by decide +kernel)) (by decide)) rfl rfl (by decide +kernel) (t2 := 68) rfl dX10_init_62 (pc2 := 65) rfl ?_
  refine k_rl (k := 0) hc dX10_init_65 rfl (pc2 := 66) rfl ?_
  refine k_new (n := 25) (t := 68) hc hop cl_6 (nw_X10_25) df_6 (by decide +kernel) (q_St_n (by decide +kernel)) (by decide +kernel) (by decide +kernel) (t2 := 69) rfl (c2 := 24) rfl (s2 := 1618) rfl ⟨by decide, by decide⟩ dX10_init_66 (pc2 := 69) rfl ?_
  refine j_dup hc dX10_init_69 rfl (pc2 := 70) rfl ?_
  refine j_bipush hc dX10_init_70 bp_8 (pc2 := 72) rfl ?_
  refine k_init (As := [.int 8]) hc (I_X6_init_69 hop) mi_X6_init rfl ln_X10_27 rfl rfl ⟨by decide, by decide⟩ (c2 := 25) rfl (s2 := 1682) rfl ⟨by decide, by decide⟩ (Nat.le_of_ble_eq_true rfl) dX10_init_72 (pc2 := 75) rfl ?_
  refine k_putR (t := 73) hc fl_X10_40 hi rfl (by decide +kernel) (q_lt (q_St_n (n := 27) (by decide +kernel)) (by decide)) rfl rfl (by decide +kernel) (t2 := 74) rfl dX10_init_75 (pc2 := 78) rfl ?_
  refine k_rl (k := 0) hc dX10_init_78 rfl (pc2 := 79) rfl ?_
  refine k_new (n := 27) (t := 74) hc hop cl_6 (nw_X10_25) df_6 (by decide +kernel) (q_St_n (by decide +kernel)) (by decide +kernel) (by decide +kernel) (t2 := 75) rfl (c2 := 26) rfl (s2 := 1685) rfl ⟨by decide, by decide⟩ dX10_init_79 (pc2 := 82) rfl ?_
  refine j_dup hc dX10_init_82 rfl (pc2 := 83) rfl ?_
  refine j_bipush hc dX10_init_83 bp_12 (pc2 := 85) rfl ?_
  refine k_init (As := [.int 12]) hc (I_X6_init_75 hop) mi_X6_init rfl ln_X10_27 rfl rfl ⟨by decide, by decide⟩ (c2 := 27) rfl (s2 := 1749) rfl ⟨by decide, by decide⟩ (Nat.le_of_ble_eq_true rfl) dX10_init_85 (pc2 := 88) rfl ?_
  refine k_putR (t := 79) hc fl_X10_43 hi rfl (by decide +kernel) (q_lt (q_St_n (n := 29) (by decide +kernel)) (by decide)) rfl rfl (by decide +kernel) (t2 := 80) rfl dX10_init_88 (pc2 := 91) rfl ?_
  refine k_rl (k := 0) hc dX10_init_91 rfl (pc2 := 92) rfl ?_
  refine j_sipush hc dX10_init_92 sp_600 (pc2 := 95) rfl ?_
  refine k_newa (n := 29) (len := 600) (t := 80) hc hop (by decide +kernel) (q_St_n (by decide +kernel)) (by decide +kernel) (by decide) (by decide +kernel) (by decide) (by decide +kernel) (t2 := 81) rfl (c2 := 28) rfl (s2 := 2349) rfl ⟨by decide, by decide⟩ nw_arr dX10_init_95 (pc2 := 97) rfl ?_
  refine k_putR (t := 81) hc fl_X10_46 hi rfl (by decide +kernel) (q_lt (q_St_n (n := 30) (by decide +kernel)) (by decide)) rfl rfl (by decide +kernel) (t2 := 82) rfl dX10_init_97 (pc2 := 100) rfl ?_
  refine k_rl (k := 0) hc dX10_init_100 rfl (pc2 := 101) rfl ?_
  refine j_bipush hc dX10_init_101 bp_10 (pc2 := 103) rfl ?_
  refine k_newa (n := 30) (len := 10) (t := 82) hc hop (by decide +kernel) (q_St_n (by decide +kernel)) (by decide +kernel) (by decide) (by decide +kernel) (by decide) (by decide +kernel) (t2 := 83) rfl (c2 := 29) rfl (s2 := 2359) rfl ⟨by decide, by decide⟩ nw_arr dX10_init_103 (pc2 := 105) rfl ?_
  refine k_putR (t := 83) hc fl_X10_50 hi rfl (by decide +kernel) (q_lt (q_St_n (n := 31) (by decide +kernel)) (by decide)) rfl rfl (by decide +kernel) (t2 := 84) rfl dX10_init_105 (pc2 := 108) rfl ?_
  exact j_vret hc dX10_init_108
set_option maxRecDepth 100000 in
set_option maxHeartbeats 4000000 in
theorem I_X9_init_87 {l : Launch} {w : q_Wd} (hop : w.2.2.2.2.2.1 = none) : q_M l w yX9_init cX9_init 1 none { frames := 1, cells := 8, slots := 123, locals := 23 } 8 123 [q_rf w 32] (q_St 87) 0 (q_St 115) := q_MofJ [some (q_rf w 32)] (by decide +kernel) rfl rfl (Nat.le_of_ble_eq_true rfl) fun cx hl hAs hnm hc => by
  have hc : q_ok w cx RX9 cX9_init 1 none { frames := 1, cells := 8, slots := 123, locals := 23 } := hc
  have hi : q_inm cx RX9 9 := ⟨hnm, _, rfl⟩
  refine k_rl (k := 0) hc dX9_init_0 rfl (pc2 := 1) rfl ?_
  refine k_obj hc ob_X9_3 ob_w ⟨by decide, by decide⟩ (Nat.le_of_ble_eq_true rfl) dX9_init_1 (pc2 := 4) rfl ?_
  refine k_rl (k := 0) hc dX9_init_4 rfl (pc2 := 5) rfl ?_
  refine j_bipush hc dX9_init_5 bp_12 (pc2 := 7) rfl ?_
  refine k_newa (n := 33) (len := 12) (t := 87) hc hop (by decide +kernel) (q_St_n (by decide +kernel)) (by decide +kernel) (by decide) (by decide +kernel) (by decide) (by decide +kernel) (t2 := 88) rfl (c2 := 1) rfl (s2 := 12) rfl ⟨by decide, by decide⟩ nw_arr dX9_init_7 (pc2 := 9) rfl ?_
  refine k_putR (t := 88) hc fl_X9_9 hi rfl (by decide +kernel) (q_lt (q_St_n (n := 34) (by decide +kernel)) (by decide)) rfl rfl (by decide +kernel) (t2 := 89) rfl dX9_init_9 (pc2 := 12) rfl ?_
  refine k_rl (k := 0) hc dX9_init_12 rfl (pc2 := 13) rfl ?_
  refine j_bipush hc dX9_init_13 bp_12 (pc2 := 15) rfl ?_
  refine k_newa (n := 34) (len := 12) (t := 89) hc hop (by decide +kernel) (q_St_n (by decide +kernel)) (by decide +kernel) (by decide) (by decide +kernel) (by decide) (by decide +kernel) (t2 := 90) rfl (c2 := 2) rfl (s2 := 24) rfl ⟨by decide, by decide⟩ nw_arr dX9_init_15 (pc2 := 17) rfl ?_
  refine k_putR (t := 90) hc fl_X9_15 hi rfl (by decide +kernel) (q_lt (q_St_n (n := 35) (by decide +kernel)) (by decide)) rfl rfl (by decide +kernel) (t2 := 91) rfl dX9_init_17 (pc2 := 20) rfl ?_
  refine k_rl (k := 0) hc dX9_init_20 rfl (pc2 := 21) rfl ?_
  refine j_bipush hc dX9_init_21 bp_12 (pc2 := 23) rfl ?_
  refine k_newa (n := 35) (len := 12) (t := 91) hc hop (by decide +kernel) (q_St_n (by decide +kernel)) (by decide +kernel) (by decide) (by decide +kernel) (by decide) (by decide +kernel) (t2 := 92) rfl (c2 := 3) rfl (s2 := 36) rfl ⟨by decide, by decide⟩ nw_arr dX9_init_23 (pc2 := 25) rfl ?_
  refine k_putR (t := 92) hc fl_X9_18 hi rfl (by decide +kernel) (q_lt (q_St_n (n := 36) (by decide +kernel)) (by decide)) rfl rfl (by decide +kernel) (t2 := 93) rfl dX9_init_25 (pc2 := 28) rfl ?_
  refine k_rl (k := 0) hc dX9_init_28 rfl (pc2 := 29) rfl ?_
  refine j_bipush hc dX9_init_29 bp_12 (pc2 := 31) rfl ?_
  refine k_newa (n := 36) (len := 12) (t := 93) hc hop (by decide +kernel) (q_St_n (by decide +kernel)) (by decide +kernel) (by decide) (by decide +kernel) (by decide) (by decide +kernel) (t2 := 94) rfl (c2 := 4) rfl (s2 := 48) rfl ⟨by decide, by decide⟩ nw_arr dX9_init_31 (pc2 := 33) rfl ?_
  refine k_putR (t := 94) hc fl_X9_21 hi rfl (by decide +kernel) (q_lt (q_St_n (n := 37) (by decide +kernel)) (by decide)) rfl rfl (by decide +kernel) (t2 := 95) rfl dX9_init_33 (pc2 := 36) rfl ?_
  refine k_rl (k := 0) hc dX9_init_36 rfl (pc2 := 37) rfl ?_
  refine j_iconst hc dX9_init_37 ic_5 (pc2 := 38) rfl ?_
  refine k_newa (n := 37) (len := 5) (t := 95) hc hop (by decide +kernel) (q_St_n (by decide +kernel)) (by decide +kernel) (by decide) (by decide +kernel) (by decide) (by decide +kernel) (t2 := 96) rfl (c2 := 5) rfl (s2 := 53) rfl ⟨by decide, by decide⟩ nw_arr dX9_init_38 (pc2 := 40) rfl ?_
  refine k_putR (t := 96) hc fl_X9_24 hi rfl (by decide +kernel) (q_lt (q_St_n (n := 38) (by decide +kernel)) (by decide)) rfl rfl (by decide +kernel) (t2 := 97) rfl dX9_init_40 (pc2 := 43) rfl ?_
  refine k_rl (k := 0) hc dX9_init_43 rfl (pc2 := 44) rfl ?_
  refine j_iconst hc dX9_init_44 ic_5 (pc2 := 45) rfl ?_
  refine k_newa (n := 38) (len := 5) (t := 97) hc hop (by decide +kernel) (q_St_n (by decide +kernel)) (by decide +kernel) (by decide) (by decide +kernel) (by decide) (by decide +kernel) (t2 := 98) rfl (c2 := 6) rfl (s2 := 58) rfl ⟨by decide, by decide⟩ nw_arr dX9_init_45 (pc2 := 47) rfl ?_
  refine k_putR (t := 98) hc fl_X9_27 hi rfl (by decide +kernel) (q_lt (q_St_n (n := 39) (by decide +kernel)) (by decide)) rfl rfl (by decide +kernel) (t2 := 99) rfl dX9_init_47 (pc2 := 50) rfl ?_
  refine k_rl (k := 0) hc dX9_init_50 rfl (pc2 := 51) rfl ?_
  refine j_iconst hc dX9_init_51 ic_5 (pc2 := 52) rfl ?_
  refine k_newa (n := 39) (len := 5) (t := 99) hc hop (by decide +kernel) (q_St_n (by decide +kernel)) (by decide +kernel) (by decide) (by decide +kernel) (by decide) (by decide +kernel) (t2 := 100) rfl (c2 := 7) rfl (s2 := 63) rfl ⟨by decide, by decide⟩ nw_arr dX9_init_52 (pc2 := 54) rfl ?_
  refine k_putR (t := 100) hc fl_X9_30 hi rfl (by decide +kernel) (q_lt (q_St_n (n := 40) (by decide +kernel)) (by decide)) rfl rfl (by decide +kernel) (t2 := 101) rfl dX9_init_54 (pc2 := 57) rfl ?_
  refine k_rl (k := 0) hc dX9_init_57 rfl (pc2 := 58) rfl ?_
  refine j_bipush hc dX9_init_58 bp_60 (pc2 := 60) rfl ?_
  refine k_newa (n := 40) (len := 60) (t := 101) hc hop (by decide +kernel) (q_St_n (by decide +kernel)) (by decide +kernel) (by decide) (by decide +kernel) (by decide) (by decide +kernel) (t2 := 102) rfl (c2 := 8) rfl (s2 := 123) rfl ⟨by decide, by decide⟩ nw_arr dX9_init_60 (pc2 := 62) rfl ?_
  refine k_putR (t := 102) hc fl_X9_33 hi rfl (by decide +kernel) (q_lt (q_St_n (n := 41) (by decide +kernel)) (by decide)) rfl rfl (by decide +kernel) (t2 := 103) rfl dX9_init_62 (pc2 := 65) rfl ?_
  refine k_rl (k := 0) hc dX9_init_65 rfl (pc2 := 66) rfl ?_
  refine j_iconst hc dX9_init_66 ic_0 (pc2 := 67) rfl ?_
  refine k_putI (t := 103) hc fl_X9_36 hi rfl (by decide +kernel) (q_lt (q_St_n (n := 41) (by decide +kernel)) (by decide)) rfl (by decide) (by decide +kernel) (t2 := 104) rfl dX9_init_67 (pc2 := 70) rfl ?_
  refine k_rl (k := 0) hc dX9_init_70 rfl (pc2 := 71) rfl ?_
  refine j_iconst hc dX9_init_71 ic_0 (pc2 := 72) rfl ?_
  refine k_putI (t := 104) hc fl_X9_40 hi rfl (by decide +kernel) (q_lt (q_St_n (n := 41) (by decide +kernel)) (by decide)) rfl (by decide) (by decide +kernel) (t2 := 105) rfl dX9_init_72 (pc2 := 75) rfl ?_
  refine k_rl (k := 0) hc dX9_init_75 rfl (pc2 := 76) rfl ?_
  refine j_iconst hc dX9_init_76 ic_0 (pc2 := 77) rfl ?_
  refine k_putI (t := 105) hc fl_X9_43 hi rfl (by decide +kernel) (q_lt (q_St_n (n := 41) (by decide +kernel)) (by decide)) rfl (by decide) (by decide +kernel) (t2 := 106) rfl dX9_init_77 (pc2 := 80) rfl ?_
  refine k_rl (k := 0) hc dX9_init_80 rfl (pc2 := 81) rfl ?_
  refine j_iconst hc dX9_init_81 ic_0 (pc2 := 82) rfl ?_
  refine k_putI (t := 106) hc fl_X9_46 hi rfl (by decide +kernel) (q_lt (q_St_n (n := 41) (by decide +kernel)) (by decide)) rfl (by decide) (by decide +kernel) (t2 := 107) rfl dX9_init_82 (pc2 := 85) rfl ?_
  refine k_rl (k := 0) hc dX9_init_85 rfl (pc2 := 86) rfl ?_
  refine j_iconst hc dX9_init_86 ic_0 (pc2 := 87) rfl ?_
  refine k_putI (t := 107) hc fl_X9_49 hi rfl (by decide +kernel) (q_lt (q_St_n (n := 41) (by decide +kernel)) (by decide)) rfl (by decide) (by decide +kernel) (t2 := 108) rfl dX9_init_87 (pc2 := 90) rfl ?_
  refine k_rl (k := 0) hc dX9_init_90 rfl (pc2 := 91) rfl ?_
  refine j_iconst hc dX9_init_91 ic_m1 (pc2 := 92) rfl ?_
  refine k_putI (t := 108) hc fl_X9_52 hi rfl (by decide +kernel) (q_lt (q_St_n (n := 41) (by decide +kernel)) (by decide)) rfl (by decide) (by decide +kernel) (t2 := 109) rfl dX9_init_92 (pc2 := 95) rfl ?_
  refine k_rl (k := 0) hc dX9_init_95 rfl (pc2 := 96) rfl ?_
  refine j_iconst hc dX9_init_96 ic_0 (pc2 := 97) rfl ?_
  refine k_putI (t := 109) hc fl_X9_55 hi rfl (by decide +kernel) (q_lt (q_St_n (n := 41) (by decide +kernel)) (by decide)) rfl (by decide) (by decide +kernel) (t2 := 110) rfl dX9_init_97 (pc2 := 100) rfl ?_
  refine k_rl (k := 0) hc dX9_init_100 rfl (pc2 := 101) rfl ?_
  refine j_iconst hc dX9_init_101 ic_0 (pc2 := 102) rfl ?_
  refine k_putI (t := 110) hc fl_X9_58 hi rfl (by decide +kernel) (q_lt (q_St_n (n := 41) (by decide +kernel)) (by decide)) rfl (by decide) (by decide +kernel) (t2 := 111) rfl dX9_init_102 (pc2 := 105) rfl ?_
  refine k_rl (k := 0) hc dX9_init_105 rfl (pc2 := 106) rfl ?_
  refine j_iconst hc dX9_init_106 ic_0 (pc2 := 107) rfl ?_
  refine k_putI (t := 111) hc fl_X9_61 hi rfl (by decide +kernel) (q_lt (q_St_n (n := 41) (by decide +kernel)) (by decide)) rfl (by decide) (by decide +kernel) (t2 := 112) rfl dX9_init_107 (pc2 := 110) rfl ?_
  refine k_rl (k := 0) hc dX9_init_110 rfl (pc2 := 111) rfl ?_
  refine j_iconst hc dX9_init_111 ic_0 (pc2 := 112) rfl ?_
  refine k_putI (t := 112) hc fl_X9_64 hi rfl (by decide +kernel) (q_lt (q_St_n (n := 41) (by decide +kernel)) (by decide)) rfl (by decide) (by decide +kernel) (t2 := 113) rfl dX9_init_112 (pc2 := 115) rfl ?_
  refine k_rl (k := 0) hc dX9_init_115 rfl (pc2 := 116) rfl ?_
  refine k_getR (x := 36) (t := 113) hc fl_X9_21 rfl (by decide +kernel) (q_lt (q_St_n (n := 41) (by decide +kernel)) (by decide)) (by decide +kernel) dX9_init_116 (pc2 := 119) rfl ?_
  refine j_iconst hc dX9_init_119 ic_m1 (pc2 := 120) rfl ?_
  refine k_fill (len := 12) (t := 113) hc (by decide +kernel) (q_lt (q_St_n (n := 41) (by decide +kernel)) (by decide)) (by decide) (by decide +kernel) (t2 := 114) rfl ln_X9_67 ⟨by decide, by decide⟩ ⟨by decide, by decide⟩ (Nat.le_of_ble_eq_true rfl) dX9_init_120 (pc2 := 123) rfl ?_
  refine k_rl (k := 0) hc dX9_init_123 rfl (pc2 := 124) rfl ?_
  refine k_getR (x := 40) (t := 114) hc fl_X9_33 rfl (by decide +kernel) (q_lt (q_St_n (n := 41) (by decide +kernel)) (by decide)) (by decide +kernel) dX9_init_124 (pc2 := 127) rfl ?_
  refine j_bipush hc dX9_init_127 bp_30 (pc2 := 129) rfl ?_
  refine k_fill (len := 60) (t := 114) hc (by decide +kernel) (q_lt (q_St_n (n := 41) (by decide +kernel)) (by decide)) (by decide) (by decide +kernel) (t2 := 115) rfl ln_X9_67 ⟨by decide, by decide⟩ ⟨by decide, by decide⟩ (Nat.le_of_ble_eq_true rfl) dX9_init_129 (pc2 := 132) rfl ?_
  exact j_vret hc dX9_init_132
set_option maxRecDepth 100000 in
set_option maxHeartbeats 4000000 in
theorem I_X2_init_117 {l : Launch} {w : q_Wd} (hop : w.2.2.2.2.2.1 = none) : q_M l w yX2_init cX2_init 1 none { frames := 1, cells := 7, slots := 1264, locals := 20 } 7 1264 [q_rf w 41] (q_St 117) 0 (q_St 133) := q_MofJ [some (q_rf w 41)] (by decide +kernel) rfl rfl (Nat.le_of_ble_eq_true rfl) fun cx hl hAs hnm hc => by
  have hc : q_ok w cx RX2 cX2_init 1 none { frames := 1, cells := 7, slots := 1264, locals := 20 } := hc
  have hi : q_inm cx RX2 2 := ⟨hnm, _, rfl⟩
  refine k_rl (k := 0) hc dX2_init_0 rfl (pc2 := 1) rfl ?_
  refine k_obj hc ob_X2_3 ob_w ⟨by decide, by decide⟩ (Nat.le_of_ble_eq_true rfl) dX2_init_1 (pc2 := 4) rfl ?_
  refine k_rl (k := 0) hc dX2_init_4 rfl (pc2 := 5) rfl ?_
  refine j_bipush hc dX2_init_5 bp_16 (pc2 := 7) rfl ?_
  refine k_newa (n := 42) (len := 16) (t := 117) hc hop (by decide +kernel) (q_St_n (by decide +kernel)) (by decide +kernel) (by decide) (by decide +kernel) (by decide) (by decide +kernel) (t2 := 118) rfl (c2 := 1) rfl (s2 := 16) rfl ⟨by decide, by decide⟩ nw_arr dX2_init_7 (pc2 := 9) rfl ?_
  refine k_putR (t := 118) hc fl_X2_9 hi rfl (by decide +kernel) (q_lt (q_St_n (n := 43) (by decide +kernel)) (by decide)) rfl rfl (by decide +kernel) (t2 := 119) rfl dX2_init_9 (pc2 := 12) rfl ?_
  refine k_rl (k := 0) hc dX2_init_12 rfl (pc2 := 13) rfl ?_
  refine j_bipush hc dX2_init_13 bp_16 (pc2 := 15) rfl ?_
  refine k_newa (n := 43) (len := 16) (t := 119) hc hop (by decide +kernel) (q_St_n (by decide +kernel)) (by decide +kernel) (by decide) (by decide +kernel) (by decide) (by decide +kernel) (t2 := 120) rfl (c2 := 2) rfl (s2 := 32) rfl ⟨by decide, by decide⟩ nw_arr dX2_init_15 (pc2 := 17) rfl ?_
  refine k_putR (t := 120) hc fl_X2_15 hi rfl (by decide +kernel) (q_lt (q_St_n (n := 44) (by decide +kernel)) (by decide)) rfl rfl (by decide +kernel) (t2 := 121) rfl dX2_init_17 (pc2 := 20) rfl ?_
  refine k_rl (k := 0) hc dX2_init_20 rfl (pc2 := 21) rfl ?_
  refine j_bipush hc dX2_init_21 bp_16 (pc2 := 23) rfl ?_
  refine k_newa (n := 44) (len := 16) (t := 121) hc hop (by decide +kernel) (q_St_n (by decide +kernel)) (by decide +kernel) (by decide) (by decide +kernel) (by decide) (by decide +kernel) (t2 := 122) rfl (c2 := 3) rfl (s2 := 48) rfl ⟨by decide, by decide⟩ nw_arr dX2_init_23 (pc2 := 25) rfl ?_
  refine k_putR (t := 122) hc fl_X2_18 hi rfl (by decide +kernel) (q_lt (q_St_n (n := 45) (by decide +kernel)) (by decide)) rfl rfl (by decide +kernel) (t2 := 123) rfl dX2_init_25 (pc2 := 28) rfl ?_
  refine k_rl (k := 0) hc dX2_init_28 rfl (pc2 := 29) rfl ?_
  refine j_bipush hc dX2_init_29 bp_16 (pc2 := 31) rfl ?_
  refine k_newa (n := 45) (len := 16) (t := 123) hc hop (by decide +kernel) (q_St_n (by decide +kernel)) (by decide +kernel) (by decide) (by decide +kernel) (by decide) (by decide +kernel) (t2 := 124) rfl (c2 := 4) rfl (s2 := 64) rfl ⟨by decide, by decide⟩ nw_arr dX2_init_31 (pc2 := 33) rfl ?_
  refine k_putR (t := 124) hc fl_X2_21 hi rfl (by decide +kernel) (q_lt (q_St_n (n := 46) (by decide +kernel)) (by decide)) rfl rfl (by decide +kernel) (t2 := 125) rfl dX2_init_33 (pc2 := 36) rfl ?_
  refine k_rl (k := 0) hc dX2_init_36 rfl (pc2 := 37) rfl ?_
  refine j_sipush hc dX2_init_37 sp_400 (pc2 := 40) rfl ?_
  refine k_newa (n := 46) (len := 400) (t := 125) hc hop (by decide +kernel) (q_St_n (by decide +kernel)) (by decide +kernel) (by decide) (by decide +kernel) (by decide) (by decide +kernel) (t2 := 126) rfl (c2 := 5) rfl (s2 := 464) rfl ⟨by decide, by decide⟩ nw_arr dX2_init_40 (pc2 := 42) rfl ?_
  refine k_putR (t := 126) hc fl_X2_24 hi rfl (by decide +kernel) (q_lt (q_St_n (n := 47) (by decide +kernel)) (by decide)) rfl rfl (by decide +kernel) (t2 := 127) rfl dX2_init_42 (pc2 := 45) rfl ?_
  refine k_rl (k := 0) hc dX2_init_45 rfl (pc2 := 46) rfl ?_
  refine j_sipush hc dX2_init_46 sp_400 (pc2 := 49) rfl ?_
  refine k_newa (n := 47) (len := 400) (t := 127) hc hop (by decide +kernel) (q_St_n (by decide +kernel)) (by decide +kernel) (by decide) (by decide +kernel) (by decide) (by decide +kernel) (t2 := 128) rfl (c2 := 6) rfl (s2 := 864) rfl ⟨by decide, by decide⟩ nw_arr dX2_init_49 (pc2 := 51) rfl ?_
  refine k_putR (t := 128) hc fl_X2_27 hi rfl (by decide +kernel) (q_lt (q_St_n (n := 48) (by decide +kernel)) (by decide)) rfl rfl (by decide +kernel) (t2 := 129) rfl dX2_init_51 (pc2 := 54) rfl ?_
  refine k_rl (k := 0) hc dX2_init_54 rfl (pc2 := 55) rfl ?_
  refine j_sipush hc dX2_init_55 sp_400 (pc2 := 58) rfl ?_
  refine k_newa (n := 48) (len := 400) (t := 129) hc hop (by decide +kernel) (q_St_n (by decide +kernel)) (by decide +kernel) (by decide) (by decide +kernel) (by decide) (by decide +kernel) (t2 := 130) rfl (c2 := 7) rfl (s2 := 1264) rfl ⟨by decide, by decide⟩ nw_arr dX2_init_58 (pc2 := 60) rfl ?_
  refine k_putR (t := 130) hc fl_X2_30 hi rfl (by decide +kernel) (q_lt (q_St_n (n := 49) (by decide +kernel)) (by decide)) rfl rfl (by decide +kernel) (t2 := 131) rfl dX2_init_60 (pc2 := 63) rfl ?_
  refine k_rl (k := 0) hc dX2_init_63 rfl (pc2 := 64) rfl ?_
  refine j_iconst hc dX2_init_64 ic_0 (pc2 := 65) rfl ?_
  refine k_putI (t := 131) hc fl_X2_33 hi rfl (by decide +kernel) (q_lt (q_St_n (n := 49) (by decide +kernel)) (by decide)) rfl (by decide) (by decide +kernel) (t2 := 132) rfl dX2_init_65 (pc2 := 68) rfl ?_
  refine k_rl (k := 0) hc dX2_init_68 rfl (pc2 := 69) rfl ?_
  refine j_iconst hc dX2_init_69 ic_0 (pc2 := 70) rfl ?_
  refine k_putI (t := 132) hc fl_X2_37 hi rfl (by decide +kernel) (q_lt (q_St_n (n := 49) (by decide +kernel)) (by decide)) rfl (by decide) (by decide +kernel) (t2 := 133) rfl dX2_init_70 (pc2 := 73) rfl ?_
  exact j_vret hc dX2_init_73
set_option maxRecDepth 100000 in
set_option maxHeartbeats 4000000 in
theorem I_X6_init_135 {l : Launch} {w : q_Wd} (hop : w.2.2.2.2.2.1 = none) : q_M l w yX6_init cX6_init 2 none { frames := 1, cells := 1, slots := 64, locals := 21 } 1 64 [q_rf w 49, .int 16] (q_St 135) 0 (q_St 139) := q_MofJ [some (q_rf w 49), some (.int 16)] (by decide +kernel) rfl rfl (Nat.le_of_ble_eq_true rfl) fun cx hl hAs hnm hc => by
  have hc : q_ok w cx RX6 cX6_init 2 none { frames := 1, cells := 1, slots := 64, locals := 21 } := hc
  have hi : q_inm cx RX6 6 := ⟨hnm, _, rfl⟩
  refine k_rl (k := 0) hc dX6_init_0 rfl (pc2 := 1) rfl ?_
  refine k_obj hc ob_X6_3 ob_w ⟨by decide, by decide⟩ (Nat.le_of_ble_eq_true rfl) dX6_init_1 (pc2 := 4) rfl ?_
  refine k_rl (k := 0) hc dX6_init_4 rfl (pc2 := 5) rfl ?_
  refine j_bipush hc dX6_init_5 bp_64 (pc2 := 7) rfl ?_
  refine k_newa (n := 50) (len := 64) (t := 135) hc hop (by decide +kernel) (q_St_n (by decide +kernel)) (by decide +kernel) (by decide) (by decide +kernel) (by decide) (by decide +kernel) (t2 := 136) rfl (c2 := 1) rfl (s2 := 64) rfl ⟨by decide, by decide⟩ nw_arr dX6_init_7 (pc2 := 9) rfl ?_
  refine k_putR (t := 136) hc fl_X6_11 hi rfl (by decide +kernel) (q_lt (q_St_n (n := 51) (by decide +kernel)) (by decide)) rfl rfl (by decide +kernel) (t2 := 137) rfl dX6_init_9 (pc2 := 12) rfl ?_
  refine k_rl (k := 0) hc dX6_init_12 rfl (pc2 := 13) rfl ?_
  refine j_iconst hc dX6_init_13 ic_0 (pc2 := 14) rfl ?_
  refine k_putI (t := 137) hc fl_X6_15 hi rfl (by decide +kernel) (q_lt (q_St_n (n := 51) (by decide +kernel)) (by decide)) rfl (by decide) (by decide +kernel) (t2 := 138) rfl dX6_init_14 (pc2 := 17) rfl ?_
  refine k_rl (k := 0) hc dX6_init_17 rfl (pc2 := 18) rfl ?_
  refine j_iconst hc dX6_init_18 ic_0 (pc2 := 19) rfl ?_
  refine j_bipush hc dX6_init_19 bp_16 (pc2 := 21) rfl ?_
  refine j_iload_n (k := 1) hc dX6_init_21 rfl (pc2 := 22) rfl ?_
  refine j_min hc ln_X6_19 ⟨by decide, by decide⟩ ⟨by decide, by decide⟩ (Nat.le_of_ble_eq_true rfl) dX6_init_22 (pc2 := 25) rfl ?_
  rw [show q_mn 16 16 = 16 from by decide +kernel]
  refine j_max hc ln_X6_25 ⟨by decide, by decide⟩ ⟨by decide, by decide⟩ (Nat.le_of_ble_eq_true rfl) dX6_init_25 (pc2 := 28) rfl ?_
  rw [show q_mx 0 16 = 16 from by decide +kernel]
  refine k_putI (t := 138) hc fl_X6_28 hi rfl (by decide +kernel) (q_lt (q_St_n (n := 51) (by decide +kernel)) (by decide)) rfl (by decide) (by decide +kernel) (t2 := 139) rfl dX6_init_28 (pc2 := 31) rfl ?_
  exact j_vret hc dX6_init_31
set_option maxRecDepth 100000 in
set_option maxHeartbeats 4000000 in
theorem I_X6_init_141 {l : Launch} {w : q_Wd} (hop : w.2.2.2.2.2.1 = none) : q_M l w yX6_init cX6_init 2 none { frames := 1, cells := 1, slots := 64, locals := 21 } 1 64 [q_rf w 51, .int 16] (q_St 141) 0 (q_St 145) := q_MofJ [some (q_rf w 51), some (.int 16)] (by decide +kernel) rfl rfl (Nat.le_of_ble_eq_true rfl) fun cx hl hAs hnm hc => by
  have hc : q_ok w cx RX6 cX6_init 2 none { frames := 1, cells := 1, slots := 64, locals := 21 } := hc
  have hi : q_inm cx RX6 6 := ⟨hnm, _, rfl⟩
  refine k_rl (k := 0) hc dX6_init_0 rfl (pc2 := 1) rfl ?_
  refine k_obj hc ob_X6_3 ob_w ⟨by decide, by decide⟩ (Nat.le_of_ble_eq_true rfl) dX6_init_1 (pc2 := 4) rfl ?_
  refine k_rl (k := 0) hc dX6_init_4 rfl (pc2 := 5) rfl ?_
  refine j_bipush hc dX6_init_5 bp_64 (pc2 := 7) rfl ?_
  refine k_newa (n := 52) (len := 64) (t := 141) hc hop (by decide +kernel) (q_St_n (by decide +kernel)) (by decide +kernel) (by decide) (by decide +kernel) (by decide) (by decide +kernel) (t2 := 142) rfl (c2 := 1) rfl (s2 := 64) rfl ⟨by decide, by decide⟩ nw_arr dX6_init_7 (pc2 := 9) rfl ?_
  refine k_putR (t := 142) hc fl_X6_11 hi rfl (by decide +kernel) (q_lt (q_St_n (n := 53) (by decide +kernel)) (by decide)) rfl rfl (by decide +kernel) (t2 := 143) rfl dX6_init_9 (pc2 := 12) rfl ?_
  refine k_rl (k := 0) hc dX6_init_12 rfl (pc2 := 13) rfl ?_
  refine j_iconst hc dX6_init_13 ic_0 (pc2 := 14) rfl ?_
  refine k_putI (t := 143) hc fl_X6_15 hi rfl (by decide +kernel) (q_lt (q_St_n (n := 53) (by decide +kernel)) (by decide)) rfl (by decide) (by decide +kernel) (t2 := 144) rfl dX6_init_14 (pc2 := 17) rfl ?_
  refine k_rl (k := 0) hc dX6_init_17 rfl (pc2 := 18) rfl ?_
  refine j_iconst hc dX6_init_18 ic_0 (pc2 := 19) rfl ?_
  refine j_bipush hc dX6_init_19 bp_16 (pc2 := 21) rfl ?_
  refine j_iload_n (k := 1) hc dX6_init_21 rfl (pc2 := 22) rfl ?_
  refine j_min hc ln_X6_19 ⟨by decide, by decide⟩ ⟨by decide, by decide⟩ (Nat.le_of_ble_eq_true rfl) dX6_init_22 (pc2 := 25) rfl ?_
  rw [show q_mn 16 16 = 16 from by decide +kernel]
  refine j_max hc ln_X6_25 ⟨by decide, by decide⟩ ⟨by decide, by decide⟩ (Nat.le_of_ble_eq_true rfl) dX6_init_25 (pc2 := 28) rfl ?_
  rw [show q_mx 0 16 = 16 from by decide +kernel]
  refine k_putI (t := 144) hc fl_X6_28 hi rfl (by decide +kernel) (q_lt (q_St_n (n := 53) (by decide +kernel)) (by decide)) rfl (by decide) (by decide +kernel) (t2 := 145) rfl dX6_init_28 (pc2 := 31) rfl ?_
  exact j_vret hc dX6_init_31
set_option maxRecDepth 100000 in
set_option maxHeartbeats 4000000 in
theorem I_X6_init_147 {l : Launch} {w : q_Wd} (hop : w.2.2.2.2.2.1 = none) : q_M l w yX6_init cX6_init 2 none { frames := 1, cells := 1, slots := 64, locals := 21 } 1 64 [q_rf w 53, .int 16] (q_St 147) 0 (q_St 151) := q_MofJ [some (q_rf w 53), some (.int 16)] (by decide +kernel) rfl rfl (Nat.le_of_ble_eq_true rfl) fun cx hl hAs hnm hc => by
  have hc : q_ok w cx RX6 cX6_init 2 none { frames := 1, cells := 1, slots := 64, locals := 21 } := hc
  have hi : q_inm cx RX6 6 := ⟨hnm, _, rfl⟩
  refine k_rl (k := 0) hc dX6_init_0 rfl (pc2 := 1) rfl ?_
  refine k_obj hc ob_X6_3 ob_w ⟨by decide, by decide⟩ (Nat.le_of_ble_eq_true rfl) dX6_init_1 (pc2 := 4) rfl ?_
  refine k_rl (k := 0) hc dX6_init_4 rfl (pc2 := 5) rfl ?_
  refine j_bipush hc dX6_init_5 bp_64 (pc2 := 7) rfl ?_
  refine k_newa (n := 54) (len := 64) (t := 147) hc hop (by decide +kernel) (q_St_n (by decide +kernel)) (by decide +kernel) (by decide) (by decide +kernel) (by decide) (by decide +kernel) (t2 := 148) rfl (c2 := 1) rfl (s2 := 64) rfl ⟨by decide, by decide⟩ nw_arr dX6_init_7 (pc2 := 9) rfl ?_
  refine k_putR (t := 148) hc fl_X6_11 hi rfl (by decide +kernel) (q_lt (q_St_n (n := 55) (by decide +kernel)) (by decide)) rfl rfl (by decide +kernel) (t2 := 149) rfl dX6_init_9 (pc2 := 12) rfl ?_
  refine k_rl (k := 0) hc dX6_init_12 rfl (pc2 := 13) rfl ?_
  refine j_iconst hc dX6_init_13 ic_0 (pc2 := 14) rfl ?_
  refine k_putI (t := 149) hc fl_X6_15 hi rfl (by decide +kernel) (q_lt (q_St_n (n := 55) (by decide +kernel)) (by decide)) rfl (by decide) (by decide +kernel) (t2 := 150) rfl dX6_init_14 (pc2 := 17) rfl ?_
  refine k_rl (k := 0) hc dX6_init_17 rfl (pc2 := 18) rfl ?_
  refine j_iconst hc dX6_init_18 ic_0 (pc2 := 19) rfl ?_
  refine j_bipush hc dX6_init_19 bp_16 (pc2 := 21) rfl ?_
  refine j_iload_n (k := 1) hc dX6_init_21 rfl (pc2 := 22) rfl ?_
  refine j_min hc ln_X6_19 ⟨by decide, by decide⟩ ⟨by decide, by decide⟩ (Nat.le_of_ble_eq_true rfl) dX6_init_22 (pc2 := 25) rfl ?_
  rw [show q_mn 16 16 = 16 from by decide +kernel]
  refine j_max hc ln_X6_25 ⟨by decide, by decide⟩ ⟨by decide, by decide⟩ (Nat.le_of_ble_eq_true rfl) dX6_init_25 (pc2 := 28) rfl ?_
  rw [show q_mx 0 16 = 16 from by decide +kernel]
  refine k_putI (t := 150) hc fl_X6_28 hi rfl (by decide +kernel) (q_lt (q_St_n (n := 55) (by decide +kernel)) (by decide)) rfl (by decide) (by decide +kernel) (t2 := 151) rfl dX6_init_28 (pc2 := 31) rfl ?_
  exact j_vret hc dX6_init_31
set_option maxRecDepth 100000 in
set_option maxHeartbeats 4000000 in
theorem I_X6_init_153 {l : Launch} {w : q_Wd} (hop : w.2.2.2.2.2.1 = none) : q_M l w yX6_init cX6_init 2 none { frames := 1, cells := 1, slots := 64, locals := 21 } 1 64 [q_rf w 55, .int 8] (q_St 153) 0 (q_St 157) := q_MofJ [some (q_rf w 55), some (.int 8)] (by decide +kernel) rfl rfl (Nat.le_of_ble_eq_true rfl) fun cx hl hAs hnm hc => by
  have hc : q_ok w cx RX6 cX6_init 2 none { frames := 1, cells := 1, slots := 64, locals := 21 } := hc
  have hi : q_inm cx RX6 6 := ⟨hnm, _, rfl⟩
  refine k_rl (k := 0) hc dX6_init_0 rfl (pc2 := 1) rfl ?_
  refine k_obj hc ob_X6_3 ob_w ⟨by decide, by decide⟩ (Nat.le_of_ble_eq_true rfl) dX6_init_1 (pc2 := 4) rfl ?_
  refine k_rl (k := 0) hc dX6_init_4 rfl (pc2 := 5) rfl ?_
  refine j_bipush hc dX6_init_5 bp_64 (pc2 := 7) rfl ?_
  refine k_newa (n := 56) (len := 64) (t := 153) hc hop (by decide +kernel) (q_St_n (by decide +kernel)) (by decide +kernel) (by decide) (by decide +kernel) (by decide) (by decide +kernel) (t2 := 154) rfl (c2 := 1) rfl (s2 := 64) rfl ⟨by decide, by decide⟩ nw_arr dX6_init_7 (pc2 := 9) rfl ?_
  refine k_putR (t := 154) hc fl_X6_11 hi rfl (by decide +kernel) (q_lt (q_St_n (n := 57) (by decide +kernel)) (by decide)) rfl rfl (by decide +kernel) (t2 := 155) rfl dX6_init_9 (pc2 := 12) rfl ?_
  refine k_rl (k := 0) hc dX6_init_12 rfl (pc2 := 13) rfl ?_
  refine j_iconst hc dX6_init_13 ic_0 (pc2 := 14) rfl ?_
  refine k_putI (t := 155) hc fl_X6_15 hi rfl (by decide +kernel) (q_lt (q_St_n (n := 57) (by decide +kernel)) (by decide)) rfl (by decide) (by decide +kernel) (t2 := 156) rfl dX6_init_14 (pc2 := 17) rfl ?_
  refine k_rl (k := 0) hc dX6_init_17 rfl (pc2 := 18) rfl ?_
  refine j_iconst hc dX6_init_18 ic_0 (pc2 := 19) rfl ?_
  refine j_bipush hc dX6_init_19 bp_16 (pc2 := 21) rfl ?_
  refine j_iload_n (k := 1) hc dX6_init_21 rfl (pc2 := 22) rfl ?_
  refine j_min hc ln_X6_19 ⟨by decide, by decide⟩ ⟨by decide, by decide⟩ (Nat.le_of_ble_eq_true rfl) dX6_init_22 (pc2 := 25) rfl ?_
  rw [show q_mn 16 8 = 8 from by decide +kernel]
  refine j_max hc ln_X6_25 ⟨by decide, by decide⟩ ⟨by decide, by decide⟩ (Nat.le_of_ble_eq_true rfl) dX6_init_25 (pc2 := 28) rfl ?_
  rw [show q_mx 0 8 = 8 from by decide +kernel]
  refine k_putI (t := 156) hc fl_X6_28 hi rfl (by decide +kernel) (q_lt (q_St_n (n := 57) (by decide +kernel)) (by decide)) rfl (by decide) (by decide +kernel) (t2 := 157) rfl dX6_init_28 (pc2 := 31) rfl ?_
  exact j_vret hc dX6_init_31
set_option maxRecDepth 100000 in
set_option maxHeartbeats 4000000 in
theorem I_X6_init_159 {l : Launch} {w : q_Wd} (hop : w.2.2.2.2.2.1 = none) : q_M l w yX6_init cX6_init 2 none { frames := 1, cells := 1, slots := 64, locals := 21 } 1 64 [q_rf w 57, .int 12] (q_St 159) 0 (q_St 163) := q_MofJ [some (q_rf w 57), some (.int 12)] (by decide +kernel) rfl rfl (Nat.le_of_ble_eq_true rfl) fun cx hl hAs hnm hc => by
  have hc : q_ok w cx RX6 cX6_init 2 none { frames := 1, cells := 1, slots := 64, locals := 21 } := hc
  have hi : q_inm cx RX6 6 := ⟨hnm, _, rfl⟩
  refine k_rl (k := 0) hc dX6_init_0 rfl (pc2 := 1) rfl ?_
  refine k_obj hc ob_X6_3 ob_w ⟨by decide, by decide⟩ (Nat.le_of_ble_eq_true rfl) dX6_init_1 (pc2 := 4) rfl ?_
  refine k_rl (k := 0) hc dX6_init_4 rfl (pc2 := 5) rfl ?_
  refine j_bipush hc dX6_init_5 bp_64 (pc2 := 7) rfl ?_
  refine k_newa (n := 58) (len := 64) (t := 159) hc hop (by decide +kernel) (q_St_n (by decide +kernel)) (by decide +kernel) (by decide) (by decide +kernel) (by decide) (by decide +kernel) (t2 := 160) rfl (c2 := 1) rfl (s2 := 64) rfl ⟨by decide, by decide⟩ nw_arr dX6_init_7 (pc2 := 9) rfl ?_
  refine k_putR (t := 160) hc fl_X6_11 hi rfl (by decide +kernel) (q_lt (q_St_n (n := 59) (by decide +kernel)) (by decide)) rfl rfl (by decide +kernel) (t2 := 161) rfl dX6_init_9 (pc2 := 12) rfl ?_
  refine k_rl (k := 0) hc dX6_init_12 rfl (pc2 := 13) rfl ?_
  refine j_iconst hc dX6_init_13 ic_0 (pc2 := 14) rfl ?_
  refine k_putI (t := 161) hc fl_X6_15 hi rfl (by decide +kernel) (q_lt (q_St_n (n := 59) (by decide +kernel)) (by decide)) rfl (by decide) (by decide +kernel) (t2 := 162) rfl dX6_init_14 (pc2 := 17) rfl ?_
  refine k_rl (k := 0) hc dX6_init_17 rfl (pc2 := 18) rfl ?_
  refine j_iconst hc dX6_init_18 ic_0 (pc2 := 19) rfl ?_
  refine j_bipush hc dX6_init_19 bp_16 (pc2 := 21) rfl ?_
  refine j_iload_n (k := 1) hc dX6_init_21 rfl (pc2 := 22) rfl ?_
  refine j_min hc ln_X6_19 ⟨by decide, by decide⟩ ⟨by decide, by decide⟩ (Nat.le_of_ble_eq_true rfl) dX6_init_22 (pc2 := 25) rfl ?_
  rw [show q_mn 16 12 = 12 from by decide +kernel]
  refine j_max hc ln_X6_25 ⟨by decide, by decide⟩ ⟨by decide, by decide⟩ (Nat.le_of_ble_eq_true rfl) dX6_init_25 (pc2 := 28) rfl ?_
  rw [show q_mx 0 12 = 12 from by decide +kernel]
  refine k_putI (t := 162) hc fl_X6_28 hi rfl (by decide +kernel) (q_lt (q_St_n (n := 59) (by decide +kernel)) (by decide)) rfl (by decide) (by decide +kernel) (t2 := 163) rfl dX6_init_28 (pc2 := 31) rfl ?_
  exact j_vret hc dX6_init_31
set_option maxRecDepth 100000 in
set_option maxHeartbeats 4000000 in
theorem I_X10_init_86 {l : Launch} {w : q_Wd} (hop : w.2.2.2.2.2.1 = none) : q_M l w yX10_init cX10_init 1 none { frames := 2, cells := 29, slots := 2359, locals := 43 } 29 2359 [q_rf w 31] (q_St 86) 0 (q_St 168) := q_MofJ [some (q_rf w 31)] (by decide +kernel) rfl rfl (Nat.le_of_ble_eq_true rfl) fun cx hl hAs hnm hc => by
  have hc : q_ok w cx RX10 cX10_init 1 none { frames := 2, cells := 29, slots := 2359, locals := 43 } := hc
  have hi : q_inm cx RX10 10 := ⟨hnm, _, rfl⟩
  refine k_rl (k := 0) hc dX10_init_0 rfl (pc2 := 1) rfl ?_
  refine k_obj hc ob_X10_3 ob_w ⟨by decide, by decide⟩ (Nat.le_of_ble_eq_true rfl) dX10_init_1 (pc2 := 4) rfl ?_
  refine k_rl (k := 0) hc dX10_init_4 rfl (pc2 := 5) rfl ?_
  refine k_new (n := 32) (t := 86) hc hop cl_9 (nw_X10_9) df_9 (by decide +kernel) (q_St_n (by decide +kernel)) (by decide +kernel) (by decide +kernel) (t2 := 87) rfl (c2 := 1) rfl (s2 := 18) rfl ⟨by decide, by decide⟩ dX10_init_5 (pc2 := 8) rfl ?_
  refine j_dup hc dX10_init_8 rfl (pc2 := 9) rfl ?_
  refine k_init (As := []) hc (I_X9_init_87 hop) mi_X9_init rfl ln_X10_11 rfl rfl ⟨by decide, by decide⟩ (c2 := 9) rfl (s2 := 141) rfl ⟨by decide, by decide⟩ (Nat.le_of_ble_eq_true rfl) dX10_init_9 (pc2 := 12) rfl ?_
  refine k_putR (t := 115) hc fl_X10_12 hi rfl (by decide +kernel) (q_lt (q_St_n (n := 41) (by decide +kernel)) (by decide)) rfl rfl (by decide +kernel) (t2 := 116) rfl dX10_init_12 (pc2 := 15) rfl ?_
  refine k_rl (k := 0) hc dX10_init_15 rfl (pc2 := 16) rfl ?_
  refine k_new (n := 41) (t := 116) hc hop cl_2 (nw_X10_18) df_2 (by decide +kernel) (q_St_n (by decide +kernel)) (by decide +kernel) (by decide +kernel) (t2 := 117) rfl (c2 := 10) rfl (s2 := 150) rfl ⟨by decide, by decide⟩ dX10_init_16 (pc2 := 19) rfl ?_
  refine j_dup hc dX10_init_19 rfl (pc2 := 20) rfl ?_
  refine k_initN (As := []) (host := "MuleVote") hc (I_X2_init_117 hop) mi_X2_init rfl (by decide +kernel) rfl rfl ⟨by decide, by decide⟩ (c2 := 17) rfl (s2 := 1414) rfl ⟨by decide, by decide⟩ (Nat.le_of_ble_eq_true rfl) dX10_init_20 (pc2 := 23) rfl ?_
  refine k_putR (t := 133) hc fl_X10_21 hi rfl (by decide +kernel) (q_lt (q_St_n (n := 49) (by decide +kernel)) (by decide)) rfl rfl (by decide +kernel) (t2 := 134) rfl dX10_init_23 (pc2 := 26) rfl ?_
  refine k_rl (k := 0) hc dX10_init_26 rfl (pc2 := 27) rfl ?_
  refine k_new (n := 49) (t := 134) hc hop cl_6 (nw_X10_25) df_6 (by decide +kernel) (q_St_n (by decide +kernel)) (by decide +kernel) (by decide +kernel) (t2 := 135) rfl (c2 := 18) rfl (s2 := 1417) rfl ⟨by decide, by decide⟩ dX10_init_27 (pc2 := 30) rfl ?_
  refine j_dup hc dX10_init_30 rfl (pc2 := 31) rfl ?_
  refine j_bipush hc dX10_init_31 bp_16 (pc2 := 33) rfl ?_
  refine k_init (As := [.int 16]) hc (I_X6_init_135 hop) mi_X6_init rfl ln_X10_27 rfl rfl ⟨by decide, by decide⟩ (c2 := 19) rfl (s2 := 1481) rfl ⟨by decide, by decide⟩ (Nat.le_of_ble_eq_true rfl) dX10_init_33 (pc2 := 36) rfl ?_
  refine k_putR (t := 139) hc fl_X10_30 hi rfl (by decide +kernel) (q_lt (q_St_n (n := 51) (by decide +kernel)) (by decide)) rfl rfl (by decide +kernel) (t2 := 140) rfl dX10_init_36 (pc2 := 39) rfl ?_
  refine k_rl (k := 0) hc dX10_init_39 rfl (pc2 := 40) rfl ?_
  refine k_new (n := 51) (t := 140) hc hop cl_6 (nw_X10_25) df_6 (by decide +kernel) (q_St_n (by decide +kernel)) (by decide +kernel) (by decide +kernel) (t2 := 141) rfl (c2 := 20) rfl (s2 := 1484) rfl ⟨by decide, by decide⟩ dX10_init_40 (pc2 := 43) rfl ?_
  refine j_dup hc dX10_init_43 rfl (pc2 := 44) rfl ?_
  refine j_bipush hc dX10_init_44 bp_16 (pc2 := 46) rfl ?_
  refine k_init (As := [.int 16]) hc (I_X6_init_141 hop) mi_X6_init rfl ln_X10_27 rfl rfl ⟨by decide, by decide⟩ (c2 := 21) rfl (s2 := 1548) rfl ⟨by decide, by decide⟩ (Nat.le_of_ble_eq_true rfl) dX10_init_46 (pc2 := 49) rfl ?_
  refine k_putR (t := 145) hc fl_X10_34 hi rfl (by decide +kernel) (q_lt (q_St_n (n := 53) (by decide +kernel)) (by decide)) rfl rfl (by decide +kernel) (t2 := 146) rfl dX10_init_49 (pc2 := 52) rfl ?_
  refine k_rl (k := 0) hc dX10_init_52 rfl (pc2 := 53) rfl ?_
  refine k_new (n := 53) (t := 146) hc hop cl_6 (nw_X10_25) df_6 (by decide +kernel) (q_St_n (by decide +kernel)) (by decide +kernel) (by decide +kernel) (t2 := 147) rfl (c2 := 22) rfl (s2 := 1551) rfl ⟨by decide, by decide⟩ dX10_init_53 (pc2 := 56) rfl ?_
  refine j_dup hc dX10_init_56 rfl (pc2 := 57) rfl ?_
  refine j_bipush hc dX10_init_57 bp_16 (pc2 := 59) rfl ?_
  refine k_init (As := [.int 16]) hc (I_X6_init_147 hop) mi_X6_init rfl ln_X10_27 rfl rfl ⟨by decide, by decide⟩ (c2 := 23) rfl (s2 := 1615) rfl ⟨by decide, by decide⟩ (Nat.le_of_ble_eq_true rfl) dX10_init_59 (pc2 := 62) rfl ?_
  refine k_putR (t := 151) hc fl_X10_37 hi rfl (by decide +kernel) (q_lt (q_St_n (n := 55) (by decide +kernel)) (by decide)) rfl rfl (by decide +kernel) (t2 := 152) rfl dX10_init_62 (pc2 := 65) rfl ?_
  refine k_rl (k := 0) hc dX10_init_65 rfl (pc2 := 66) rfl ?_
  refine k_new (n := 55) (t := 152) hc hop cl_6 (nw_X10_25) df_6 (by decide +kernel) (q_St_n (by decide +kernel)) (by decide +kernel) (by decide +kernel) (t2 := 153) rfl (c2 := 24) rfl (s2 := 1618) rfl ⟨by decide, by decide⟩ dX10_init_66 (pc2 := 69) rfl ?_
  refine j_dup hc dX10_init_69 rfl (pc2 := 70) rfl ?_
  refine j_bipush hc dX10_init_70 bp_8 (pc2 := 72) rfl ?_
  refine k_init (As := [.int 8]) hc (I_X6_init_153 hop) mi_X6_init rfl ln_X10_27 rfl rfl ⟨by decide, by decide⟩ (c2 := 25) rfl (s2 := 1682) rfl ⟨by decide, by decide⟩ (Nat.le_of_ble_eq_true rfl) dX10_init_72 (pc2 := 75) rfl ?_
  refine k_putR (t := 157) hc fl_X10_40 hi rfl (by decide +kernel) (q_lt (q_St_n (n := 57) (by decide +kernel)) (by decide)) rfl rfl (by decide +kernel) (t2 := 158) rfl dX10_init_75 (pc2 := 78) rfl ?_
  refine k_rl (k := 0) hc dX10_init_78 rfl (pc2 := 79) rfl ?_
  refine k_new (n := 57) (t := 158) hc hop cl_6 (nw_X10_25) df_6 (by decide +kernel) (q_St_n (by decide +kernel)) (by decide +kernel) (by decide +kernel) (t2 := 159) rfl (c2 := 26) rfl (s2 := 1685) rfl ⟨by decide, by decide⟩ dX10_init_79 (pc2 := 82) rfl ?_
  refine j_dup hc dX10_init_82 rfl (pc2 := 83) rfl ?_
  refine j_bipush hc dX10_init_83 bp_12 (pc2 := 85) rfl ?_
  refine k_init (As := [.int 12]) hc (I_X6_init_159 hop) mi_X6_init rfl ln_X10_27 rfl rfl ⟨by decide, by decide⟩ (c2 := 27) rfl (s2 := 1749) rfl ⟨by decide, by decide⟩ (Nat.le_of_ble_eq_true rfl) dX10_init_85 (pc2 := 88) rfl ?_
  refine k_putR (t := 163) hc fl_X10_43 hi rfl (by decide +kernel) (q_lt (q_St_n (n := 59) (by decide +kernel)) (by decide)) rfl rfl (by decide +kernel) (t2 := 164) rfl dX10_init_88 (pc2 := 91) rfl ?_
  refine k_rl (k := 0) hc dX10_init_91 rfl (pc2 := 92) rfl ?_
  refine j_sipush hc dX10_init_92 sp_600 (pc2 := 95) rfl ?_
  refine k_newa (n := 59) (len := 600) (t := 164) hc hop (by decide +kernel) (q_St_n (by decide +kernel)) (by decide +kernel) (by decide) (by decide +kernel) (by decide) (by decide +kernel) (t2 := 165) rfl (c2 := 28) rfl (s2 := 2349) rfl ⟨by decide, by decide⟩ nw_arr dX10_init_95 (pc2 := 97) rfl ?_
  refine k_putR (t := 165) hc fl_X10_46 hi rfl (by decide +kernel) (q_lt (q_St_n (n := 60) (by decide +kernel)) (by decide)) rfl rfl (by decide +kernel) (t2 := 166) rfl dX10_init_97 (pc2 := 100) rfl ?_
  refine k_rl (k := 0) hc dX10_init_100 rfl (pc2 := 101) rfl ?_
  refine j_bipush hc dX10_init_101 bp_10 (pc2 := 103) rfl ?_
  refine k_newa (n := 60) (len := 10) (t := 166) hc hop (by decide +kernel) (q_St_n (by decide +kernel)) (by decide +kernel) (by decide) (by decide +kernel) (by decide) (by decide +kernel) (t2 := 167) rfl (c2 := 29) rfl (s2 := 2359) rfl ⟨by decide, by decide⟩ nw_arr dX10_init_103 (pc2 := 105) rfl ?_
  refine k_putR (t := 167) hc fl_X10_50 hi rfl (by decide +kernel) (q_lt (q_St_n (n := 61) (by decide +kernel)) (by decide)) rfl rfl (by decide +kernel) (t2 := 168) rfl dX10_init_105 (pc2 := 108) rfl ?_
  exact j_vret hc dX10_init_108
set_option maxRecDepth 100000 in
set_option maxHeartbeats 4000000 in
theorem I_X9_init_175 {l : Launch} {w : q_Wd} (hop : w.2.2.2.2.2.1 = none) : q_M l w yX9_init cX9_init 1 none { frames := 1, cells := 8, slots := 123, locals := 23 } 8 123 [q_rf w 63] (q_St 175) 0 (q_St 203) := q_MofJ [some (q_rf w 63)] (by decide +kernel) rfl rfl (Nat.le_of_ble_eq_true rfl) fun cx hl hAs hnm hc => by
  have hc : q_ok w cx RX9 cX9_init 1 none { frames := 1, cells := 8, slots := 123, locals := 23 } := hc
  have hi : q_inm cx RX9 9 := ⟨hnm, _, rfl⟩
  refine k_rl (k := 0) hc dX9_init_0 rfl (pc2 := 1) rfl ?_
  refine k_obj hc ob_X9_3 ob_w ⟨by decide, by decide⟩ (Nat.le_of_ble_eq_true rfl) dX9_init_1 (pc2 := 4) rfl ?_
  refine k_rl (k := 0) hc dX9_init_4 rfl (pc2 := 5) rfl ?_
  refine j_bipush hc dX9_init_5 bp_12 (pc2 := 7) rfl ?_
  refine k_newa (n := 64) (len := 12) (t := 175) hc hop (by decide +kernel) (q_St_n (by decide +kernel)) (by decide +kernel) (by decide) (by decide +kernel) (by decide) (by decide +kernel) (t2 := 176) rfl (c2 := 1) rfl (s2 := 12) rfl ⟨by decide, by decide⟩ nw_arr dX9_init_7 (pc2 := 9) rfl ?_
  refine k_putR (t := 176) hc fl_X9_9 hi rfl (by decide +kernel) (q_lt (q_St_n (n := 65) (by decide +kernel)) (by decide)) rfl rfl (by decide +kernel) (t2 := 177) rfl dX9_init_9 (pc2 := 12) rfl ?_
  refine k_rl (k := 0) hc dX9_init_12 rfl (pc2 := 13) rfl ?_
  refine j_bipush hc dX9_init_13 bp_12 (pc2 := 15) rfl ?_
  refine k_newa (n := 65) (len := 12) (t := 177) hc hop (by decide +kernel) (q_St_n (by decide +kernel)) (by decide +kernel) (by decide) (by decide +kernel) (by decide) (by decide +kernel) (t2 := 178) rfl (c2 := 2) rfl (s2 := 24) rfl ⟨by decide, by decide⟩ nw_arr dX9_init_15 (pc2 := 17) rfl ?_
  refine k_putR (t := 178) hc fl_X9_15 hi rfl (by decide +kernel) (q_lt (q_St_n (n := 66) (by decide +kernel)) (by decide)) rfl rfl (by decide +kernel) (t2 := 179) rfl dX9_init_17 (pc2 := 20) rfl ?_
  refine k_rl (k := 0) hc dX9_init_20 rfl (pc2 := 21) rfl ?_
  refine j_bipush hc dX9_init_21 bp_12 (pc2 := 23) rfl ?_
  refine k_newa (n := 66) (len := 12) (t := 179) hc hop (by decide +kernel) (q_St_n (by decide +kernel)) (by decide +kernel) (by decide) (by decide +kernel) (by decide) (by decide +kernel) (t2 := 180) rfl (c2 := 3) rfl (s2 := 36) rfl ⟨by decide, by decide⟩ nw_arr dX9_init_23 (pc2 := 25) rfl ?_
  refine k_putR (t := 180) hc fl_X9_18 hi rfl (by decide +kernel) (q_lt (q_St_n (n := 67) (by decide +kernel)) (by decide)) rfl rfl (by decide +kernel) (t2 := 181) rfl dX9_init_25 (pc2 := 28) rfl ?_
  refine k_rl (k := 0) hc dX9_init_28 rfl (pc2 := 29) rfl ?_
  refine j_bipush hc dX9_init_29 bp_12 (pc2 := 31) rfl ?_
  refine k_newa (n := 67) (len := 12) (t := 181) hc hop (by decide +kernel) (q_St_n (by decide +kernel)) (by decide +kernel) (by decide) (by decide +kernel) (by decide) (by decide +kernel) (t2 := 182) rfl (c2 := 4) rfl (s2 := 48) rfl ⟨by decide, by decide⟩ nw_arr dX9_init_31 (pc2 := 33) rfl ?_
  refine k_putR (t := 182) hc fl_X9_21 hi rfl (by decide +kernel) (q_lt (q_St_n (n := 68) (by decide +kernel)) (by decide)) rfl rfl (by decide +kernel) (t2 := 183) rfl dX9_init_33 (pc2 := 36) rfl ?_
  refine k_rl (k := 0) hc dX9_init_36 rfl (pc2 := 37) rfl ?_
  refine j_iconst hc dX9_init_37 ic_5 (pc2 := 38) rfl ?_
  refine k_newa (n := 68) (len := 5) (t := 183) hc hop (by decide +kernel) (q_St_n (by decide +kernel)) (by decide +kernel) (by decide) (by decide +kernel) (by decide) (by decide +kernel) (t2 := 184) rfl (c2 := 5) rfl (s2 := 53) rfl ⟨by decide, by decide⟩ nw_arr dX9_init_38 (pc2 := 40) rfl ?_
  refine k_putR (t := 184) hc fl_X9_24 hi rfl (by decide +kernel) (q_lt (q_St_n (n := 69) (by decide +kernel)) (by decide)) rfl rfl (by decide +kernel) (t2 := 185) rfl dX9_init_40 (pc2 := 43) rfl ?_
  refine k_rl (k := 0) hc dX9_init_43 rfl (pc2 := 44) rfl ?_
  refine j_iconst hc dX9_init_44 ic_5 (pc2 := 45) rfl ?_
  refine k_newa (n := 69) (len := 5) (t := 185) hc hop (by decide +kernel) (q_St_n (by decide +kernel)) (by decide +kernel) (by decide) (by decide +kernel) (by decide) (by decide +kernel) (t2 := 186) rfl (c2 := 6) rfl (s2 := 58) rfl ⟨by decide, by decide⟩ nw_arr dX9_init_45 (pc2 := 47) rfl ?_
  refine k_putR (t := 186) hc fl_X9_27 hi rfl (by decide +kernel) (q_lt (q_St_n (n := 70) (by decide +kernel)) (by decide)) rfl rfl (by decide +kernel) (t2 := 187) rfl dX9_init_47 (pc2 := 50) rfl ?_
  refine k_rl (k := 0) hc dX9_init_50 rfl (pc2 := 51) rfl ?_
  refine j_iconst hc dX9_init_51 ic_5 (pc2 := 52) rfl ?_
  refine k_newa (n := 70) (len := 5) (t := 187) hc hop (by decide +kernel) (q_St_n (by decide +kernel)) (by decide +kernel) (by decide) (by decide +kernel) (by decide) (by decide +kernel) (t2 := 188) rfl (c2 := 7) rfl (s2 := 63) rfl ⟨by decide, by decide⟩ nw_arr dX9_init_52 (pc2 := 54) rfl ?_
  refine k_putR (t := 188) hc fl_X9_30 hi rfl (by decide +kernel) (q_lt (q_St_n (n := 71) (by decide +kernel)) (by decide)) rfl rfl (by decide +kernel) (t2 := 189) rfl dX9_init_54 (pc2 := 57) rfl ?_
  refine k_rl (k := 0) hc dX9_init_57 rfl (pc2 := 58) rfl ?_
  refine j_bipush hc dX9_init_58 bp_60 (pc2 := 60) rfl ?_
  refine k_newa (n := 71) (len := 60) (t := 189) hc hop (by decide +kernel) (q_St_n (by decide +kernel)) (by decide +kernel) (by decide) (by decide +kernel) (by decide) (by decide +kernel) (t2 := 190) rfl (c2 := 8) rfl (s2 := 123) rfl ⟨by decide, by decide⟩ nw_arr dX9_init_60 (pc2 := 62) rfl ?_
  refine k_putR (t := 190) hc fl_X9_33 hi rfl (by decide +kernel) (q_lt (q_St_n (n := 72) (by decide +kernel)) (by decide)) rfl rfl (by decide +kernel) (t2 := 191) rfl dX9_init_62 (pc2 := 65) rfl ?_
  refine k_rl (k := 0) hc dX9_init_65 rfl (pc2 := 66) rfl ?_
  refine j_iconst hc dX9_init_66 ic_0 (pc2 := 67) rfl ?_
  refine k_putI (t := 191) hc fl_X9_36 hi rfl (by decide +kernel) (q_lt (q_St_n (n := 72) (by decide +kernel)) (by decide)) rfl (by decide) (by decide +kernel) (t2 := 192) rfl dX9_init_67 (pc2 := 70) rfl ?_
  refine k_rl (k := 0) hc dX9_init_70 rfl (pc2 := 71) rfl ?_
  refine j_iconst hc dX9_init_71 ic_0 (pc2 := 72) rfl ?_
  refine k_putI (t := 192) hc fl_X9_40 hi rfl (by decide +kernel) (q_lt (q_St_n (n := 72) (by decide +kernel)) (by decide)) rfl (by decide) (by decide +kernel) (t2 := 193) rfl dX9_init_72 (pc2 := 75) rfl ?_
  refine k_rl (k := 0) hc dX9_init_75 rfl (pc2 := 76) rfl ?_
  refine j_iconst hc dX9_init_76 ic_0 (pc2 := 77) rfl ?_
  refine k_putI (t := 193) hc fl_X9_43 hi rfl (by decide +kernel) (q_lt (q_St_n (n := 72) (by decide +kernel)) (by decide)) rfl (by decide) (by decide +kernel) (t2 := 194) rfl dX9_init_77 (pc2 := 80) rfl ?_
  refine k_rl (k := 0) hc dX9_init_80 rfl (pc2 := 81) rfl ?_
  refine j_iconst hc dX9_init_81 ic_0 (pc2 := 82) rfl ?_
  refine k_putI (t := 194) hc fl_X9_46 hi rfl (by decide +kernel) (q_lt (q_St_n (n := 72) (by decide +kernel)) (by decide)) rfl (by decide) (by decide +kernel) (t2 := 195) rfl dX9_init_82 (pc2 := 85) rfl ?_
  refine k_rl (k := 0) hc dX9_init_85 rfl (pc2 := 86) rfl ?_
  refine j_iconst hc dX9_init_86 ic_0 (pc2 := 87) rfl ?_
  refine k_putI (t := 195) hc fl_X9_49 hi rfl (by decide +kernel) (q_lt (q_St_n (n := 72) (by decide +kernel)) (by decide)) rfl (by decide) (by decide +kernel) (t2 := 196) rfl dX9_init_87 (pc2 := 90) rfl ?_
  refine k_rl (k := 0) hc dX9_init_90 rfl (pc2 := 91) rfl ?_
  refine j_iconst hc dX9_init_91 ic_m1 (pc2 := 92) rfl ?_
  refine k_putI (t := 196) hc fl_X9_52 hi rfl (by decide +kernel) (q_lt (q_St_n (n := 72) (by decide +kernel)) (by decide)) rfl (by decide) (by decide +kernel) (t2 := 197) rfl dX9_init_92 (pc2 := 95) rfl ?_
  refine k_rl (k := 0) hc dX9_init_95 rfl (pc2 := 96) rfl ?_
  refine j_iconst hc dX9_init_96 ic_0 (pc2 := 97) rfl ?_
  refine k_putI (t := 197) hc fl_X9_55 hi rfl (by decide +kernel) (q_lt (q_St_n (n := 72) (by decide +kernel)) (by decide)) rfl (by decide) (by decide +kernel) (t2 := 198) rfl dX9_init_97 (pc2 := 100) rfl ?_
  refine k_rl (k := 0) hc dX9_init_100 rfl (pc2 := 101) rfl ?_
  refine j_iconst hc dX9_init_101 ic_0 (pc2 := 102) rfl ?_
  refine k_putI (t := 198) hc fl_X9_58 hi rfl (by decide +kernel) (q_lt (q_St_n (n := 72) (by decide +kernel)) (by decide)) rfl (by decide) (by decide +kernel) (t2 := 199) rfl dX9_init_102 (pc2 := 105) rfl ?_
  refine k_rl (k := 0) hc dX9_init_105 rfl (pc2 := 106) rfl ?_
  refine j_iconst hc dX9_init_106 ic_0 (pc2 := 107) rfl ?_
  refine k_putI (t := 199) hc fl_X9_61 hi rfl (by decide +kernel) (q_lt (q_St_n (n := 72) (by decide +kernel)) (by decide)) rfl (by decide) (by decide +kernel) (t2 := 200) rfl dX9_init_107 (pc2 := 110) rfl ?_
  refine k_rl (k := 0) hc dX9_init_110 rfl (pc2 := 111) rfl ?_
  refine j_iconst hc dX9_init_111 ic_0 (pc2 := 112) rfl ?_
  refine k_putI (t := 200) hc fl_X9_64 hi rfl (by decide +kernel) (q_lt (q_St_n (n := 72) (by decide +kernel)) (by decide)) rfl (by decide) (by decide +kernel) (t2 := 201) rfl dX9_init_112 (pc2 := 115) rfl ?_
  refine k_rl (k := 0) hc dX9_init_115 rfl (pc2 := 116) rfl ?_
  refine k_getR (x := 67) (t := 201) hc fl_X9_21 rfl (by decide +kernel) (q_lt (q_St_n (n := 72) (by decide +kernel)) (by decide)) (by decide +kernel) dX9_init_116 (pc2 := 119) rfl ?_
  refine j_iconst hc dX9_init_119 ic_m1 (pc2 := 120) rfl ?_
  refine k_fill (len := 12) (t := 201) hc (by decide +kernel) (q_lt (q_St_n (n := 72) (by decide +kernel)) (by decide)) (by decide) (by decide +kernel) (t2 := 202) rfl ln_X9_67 ⟨by decide, by decide⟩ ⟨by decide, by decide⟩ (Nat.le_of_ble_eq_true rfl) dX9_init_120 (pc2 := 123) rfl ?_
  refine k_rl (k := 0) hc dX9_init_123 rfl (pc2 := 124) rfl ?_
  refine k_getR (x := 71) (t := 202) hc fl_X9_33 rfl (by decide +kernel) (q_lt (q_St_n (n := 72) (by decide +kernel)) (by decide)) (by decide +kernel) dX9_init_124 (pc2 := 127) rfl ?_
  refine j_bipush hc dX9_init_127 bp_30 (pc2 := 129) rfl ?_
  refine k_fill (len := 60) (t := 202) hc (by decide +kernel) (q_lt (q_St_n (n := 72) (by decide +kernel)) (by decide)) (by decide) (by decide +kernel) (t2 := 203) rfl ln_X9_67 ⟨by decide, by decide⟩ ⟨by decide, by decide⟩ (Nat.le_of_ble_eq_true rfl) dX9_init_129 (pc2 := 132) rfl ?_
  exact j_vret hc dX9_init_132
set_option maxRecDepth 100000 in
set_option maxHeartbeats 4000000 in
theorem I_X9_init_205 {l : Launch} {w : q_Wd} (hop : w.2.2.2.2.2.1 = none) : q_M l w yX9_init cX9_init 1 none { frames := 1, cells := 8, slots := 123, locals := 23 } 8 123 [q_rf w 72] (q_St 205) 0 (q_St 233) := q_MofJ [some (q_rf w 72)] (by decide +kernel) rfl rfl (Nat.le_of_ble_eq_true rfl) fun cx hl hAs hnm hc => by
  have hc : q_ok w cx RX9 cX9_init 1 none { frames := 1, cells := 8, slots := 123, locals := 23 } := hc
  have hi : q_inm cx RX9 9 := ⟨hnm, _, rfl⟩
  refine k_rl (k := 0) hc dX9_init_0 rfl (pc2 := 1) rfl ?_
  refine k_obj hc ob_X9_3 ob_w ⟨by decide, by decide⟩ (Nat.le_of_ble_eq_true rfl) dX9_init_1 (pc2 := 4) rfl ?_
  refine k_rl (k := 0) hc dX9_init_4 rfl (pc2 := 5) rfl ?_
  refine j_bipush hc dX9_init_5 bp_12 (pc2 := 7) rfl ?_
  refine k_newa (n := 73) (len := 12) (t := 205) hc hop (by decide +kernel) (q_St_n (by decide +kernel)) (by decide +kernel) (by decide) (by decide +kernel) (by decide) (by decide +kernel) (t2 := 206) rfl (c2 := 1) rfl (s2 := 12) rfl ⟨by decide, by decide⟩ nw_arr dX9_init_7 (pc2 := 9) rfl ?_
  refine k_putR (t := 206) hc fl_X9_9 hi rfl (by decide +kernel) (q_lt (q_St_n (n := 74) (by decide +kernel)) (by decide)) rfl rfl (by decide +kernel) (t2 := 207) rfl dX9_init_9 (pc2 := 12) rfl ?_
  refine k_rl (k := 0) hc dX9_init_12 rfl (pc2 := 13) rfl ?_
  refine j_bipush hc dX9_init_13 bp_12 (pc2 := 15) rfl ?_
  refine k_newa (n := 74) (len := 12) (t := 207) hc hop (by decide +kernel) (q_St_n (by decide +kernel)) (by decide +kernel) (by decide) (by decide +kernel) (by decide) (by decide +kernel) (t2 := 208) rfl (c2 := 2) rfl (s2 := 24) rfl ⟨by decide, by decide⟩ nw_arr dX9_init_15 (pc2 := 17) rfl ?_
  refine k_putR (t := 208) hc fl_X9_15 hi rfl (by decide +kernel) (q_lt (q_St_n (n := 75) (by decide +kernel)) (by decide)) rfl rfl (by decide +kernel) (t2 := 209) rfl dX9_init_17 (pc2 := 20) rfl ?_
  refine k_rl (k := 0) hc dX9_init_20 rfl (pc2 := 21) rfl ?_
  refine j_bipush hc dX9_init_21 bp_12 (pc2 := 23) rfl ?_
  refine k_newa (n := 75) (len := 12) (t := 209) hc hop (by decide +kernel) (q_St_n (by decide +kernel)) (by decide +kernel) (by decide) (by decide +kernel) (by decide) (by decide +kernel) (t2 := 210) rfl (c2 := 3) rfl (s2 := 36) rfl ⟨by decide, by decide⟩ nw_arr dX9_init_23 (pc2 := 25) rfl ?_
  refine k_putR (t := 210) hc fl_X9_18 hi rfl (by decide +kernel) (q_lt (q_St_n (n := 76) (by decide +kernel)) (by decide)) rfl rfl (by decide +kernel) (t2 := 211) rfl dX9_init_25 (pc2 := 28) rfl ?_
  refine k_rl (k := 0) hc dX9_init_28 rfl (pc2 := 29) rfl ?_
  refine j_bipush hc dX9_init_29 bp_12 (pc2 := 31) rfl ?_
  refine k_newa (n := 76) (len := 12) (t := 211) hc hop (by decide +kernel) (q_St_n (by decide +kernel)) (by decide +kernel) (by decide) (by decide +kernel) (by decide) (by decide +kernel) (t2 := 212) rfl (c2 := 4) rfl (s2 := 48) rfl ⟨by decide, by decide⟩ nw_arr dX9_init_31 (pc2 := 33) rfl ?_
  refine k_putR (t := 212) hc fl_X9_21 hi rfl (by decide +kernel) (q_lt (q_St_n (n := 77) (by decide +kernel)) (by decide)) rfl rfl (by decide +kernel) (t2 := 213) rfl dX9_init_33 (pc2 := 36) rfl ?_
  refine k_rl (k := 0) hc dX9_init_36 rfl (pc2 := 37) rfl ?_
  refine j_iconst hc dX9_init_37 ic_5 (pc2 := 38) rfl ?_
  refine k_newa (n := 77) (len := 5) (t := 213) hc hop (by decide +kernel) (q_St_n (by decide +kernel)) (by decide +kernel) (by decide) (by decide +kernel) (by decide) (by decide +kernel) (t2 := 214) rfl (c2 := 5) rfl (s2 := 53) rfl ⟨by decide, by decide⟩ nw_arr dX9_init_38 (pc2 := 40) rfl ?_
  refine k_putR (t := 214) hc fl_X9_24 hi rfl (by decide +kernel) (q_lt (q_St_n (n := 78) (by decide +kernel)) (by decide)) rfl rfl (by decide +kernel) (t2 := 215) rfl dX9_init_40 (pc2 := 43) rfl ?_
  refine k_rl (k := 0) hc dX9_init_43 rfl (pc2 := 44) rfl ?_
  refine j_iconst hc dX9_init_44 ic_5 (pc2 := 45) rfl ?_
  refine k_newa (n := 78) (len := 5) (t := 215) hc hop (by decide +kernel) (q_St_n (by decide +kernel)) (by decide +kernel) (by decide) (by decide +kernel) (by decide) (by decide +kernel) (t2 := 216) rfl (c2 := 6) rfl (s2 := 58) rfl ⟨by decide, by decide⟩ nw_arr dX9_init_45 (pc2 := 47) rfl ?_
  refine k_putR (t := 216) hc fl_X9_27 hi rfl (by decide +kernel) (q_lt (q_St_n (n := 79) (by decide +kernel)) (by decide)) rfl rfl (by decide +kernel) (t2 := 217) rfl dX9_init_47 (pc2 := 50) rfl ?_
  refine k_rl (k := 0) hc dX9_init_50 rfl (pc2 := 51) rfl ?_
  refine j_iconst hc dX9_init_51 ic_5 (pc2 := 52) rfl ?_
  refine k_newa (n := 79) (len := 5) (t := 217) hc hop (by decide +kernel) (q_St_n (by decide +kernel)) (by decide +kernel) (by decide) (by decide +kernel) (by decide) (by decide +kernel) (t2 := 218) rfl (c2 := 7) rfl (s2 := 63) rfl ⟨by decide, by decide⟩ nw_arr dX9_init_52 (pc2 := 54) rfl ?_
  refine k_putR (t := 218) hc fl_X9_30 hi rfl (by decide +kernel) (q_lt (q_St_n (n := 80) (by decide +kernel)) (by decide)) rfl rfl (by decide +kernel) (t2 := 219) rfl dX9_init_54 (pc2 := 57) rfl ?_
  refine k_rl (k := 0) hc dX9_init_57 rfl (pc2 := 58) rfl ?_
  refine j_bipush hc dX9_init_58 bp_60 (pc2 := 60) rfl ?_
  refine k_newa (n := 80) (len := 60) (t := 219) hc hop (by decide +kernel) (q_St_n (by decide +kernel)) (by decide +kernel) (by decide) (by decide +kernel) (by decide) (by decide +kernel) (t2 := 220) rfl (c2 := 8) rfl (s2 := 123) rfl ⟨by decide, by decide⟩ nw_arr dX9_init_60 (pc2 := 62) rfl ?_
  refine k_putR (t := 220) hc fl_X9_33 hi rfl (by decide +kernel) (q_lt (q_St_n (n := 81) (by decide +kernel)) (by decide)) rfl rfl (by decide +kernel) (t2 := 221) rfl dX9_init_62 (pc2 := 65) rfl ?_
  refine k_rl (k := 0) hc dX9_init_65 rfl (pc2 := 66) rfl ?_
  refine j_iconst hc dX9_init_66 ic_0 (pc2 := 67) rfl ?_
  refine k_putI (t := 221) hc fl_X9_36 hi rfl (by decide +kernel) (q_lt (q_St_n (n := 81) (by decide +kernel)) (by decide)) rfl (by decide) (by decide +kernel) (t2 := 222) rfl dX9_init_67 (pc2 := 70) rfl ?_
  refine k_rl (k := 0) hc dX9_init_70 rfl (pc2 := 71) rfl ?_
  refine j_iconst hc dX9_init_71 ic_0 (pc2 := 72) rfl ?_
  refine k_putI (t := 222) hc fl_X9_40 hi rfl (by decide +kernel) (q_lt (q_St_n (n := 81) (by decide +kernel)) (by decide)) rfl (by decide) (by decide +kernel) (t2 := 223) rfl dX9_init_72 (pc2 := 75) rfl ?_
  refine k_rl (k := 0) hc dX9_init_75 rfl (pc2 := 76) rfl ?_
  refine j_iconst hc dX9_init_76 ic_0 (pc2 := 77) rfl ?_
  refine k_putI (t := 223) hc fl_X9_43 hi rfl (by decide +kernel) (q_lt (q_St_n (n := 81) (by decide +kernel)) (by decide)) rfl (by decide) (by decide +kernel) (t2 := 224) rfl dX9_init_77 (pc2 := 80) rfl ?_
  refine k_rl (k := 0) hc dX9_init_80 rfl (pc2 := 81) rfl ?_
  refine j_iconst hc dX9_init_81 ic_0 (pc2 := 82) rfl ?_
  refine k_putI (t := 224) hc fl_X9_46 hi rfl (by decide +kernel) (q_lt (q_St_n (n := 81) (by decide +kernel)) (by decide)) rfl (by decide) (by decide +kernel) (t2 := 225) rfl dX9_init_82 (pc2 := 85) rfl ?_
  refine k_rl (k := 0) hc dX9_init_85 rfl (pc2 := 86) rfl ?_
  refine j_iconst hc dX9_init_86 ic_0 (pc2 := 87) rfl ?_
  refine k_putI (t := 225) hc fl_X9_49 hi rfl (by decide +kernel) (q_lt (q_St_n (n := 81) (by decide +kernel)) (by decide)) rfl (by decide) (by decide +kernel) (t2 := 226) rfl dX9_init_87 (pc2 := 90) rfl ?_
  refine k_rl (k := 0) hc dX9_init_90 rfl (pc2 := 91) rfl ?_
  refine j_iconst hc dX9_init_91 ic_m1 (pc2 := 92) rfl ?_
  refine k_putI (t := 226) hc fl_X9_52 hi rfl (by decide +kernel) (q_lt (q_St_n (n := 81) (by decide +kernel)) (by decide)) rfl (by decide) (by decide +kernel) (t2 := 227) rfl dX9_init_92 (pc2 := 95) rfl ?_
  refine k_rl (k := 0) hc dX9_init_95 rfl (pc2 := 96) rfl ?_
  refine j_iconst hc dX9_init_96 ic_0 (pc2 := 97) rfl ?_
  refine k_putI (t := 227) hc fl_X9_55 hi rfl (by decide +kernel) (q_lt (q_St_n (n := 81) (by decide +kernel)) (by decide)) rfl (by decide) (by decide +kernel) (t2 := 228) rfl dX9_init_97 (pc2 := 100) rfl ?_
  refine k_rl (k := 0) hc dX9_init_100 rfl (pc2 := 101) rfl ?_
  refine j_iconst hc dX9_init_101 ic_0 (pc2 := 102) rfl ?_
  refine k_putI (t := 228) hc fl_X9_58 hi rfl (by decide +kernel) (q_lt (q_St_n (n := 81) (by decide +kernel)) (by decide)) rfl (by decide) (by decide +kernel) (t2 := 229) rfl dX9_init_102 (pc2 := 105) rfl ?_
  refine k_rl (k := 0) hc dX9_init_105 rfl (pc2 := 106) rfl ?_
  refine j_iconst hc dX9_init_106 ic_0 (pc2 := 107) rfl ?_
  refine k_putI (t := 229) hc fl_X9_61 hi rfl (by decide +kernel) (q_lt (q_St_n (n := 81) (by decide +kernel)) (by decide)) rfl (by decide) (by decide +kernel) (t2 := 230) rfl dX9_init_107 (pc2 := 110) rfl ?_
  refine k_rl (k := 0) hc dX9_init_110 rfl (pc2 := 111) rfl ?_
  refine j_iconst hc dX9_init_111 ic_0 (pc2 := 112) rfl ?_
  refine k_putI (t := 230) hc fl_X9_64 hi rfl (by decide +kernel) (q_lt (q_St_n (n := 81) (by decide +kernel)) (by decide)) rfl (by decide) (by decide +kernel) (t2 := 231) rfl dX9_init_112 (pc2 := 115) rfl ?_
  refine k_rl (k := 0) hc dX9_init_115 rfl (pc2 := 116) rfl ?_
  refine k_getR (x := 76) (t := 231) hc fl_X9_21 rfl (by decide +kernel) (q_lt (q_St_n (n := 81) (by decide +kernel)) (by decide)) (by decide +kernel) dX9_init_116 (pc2 := 119) rfl ?_
  refine j_iconst hc dX9_init_119 ic_m1 (pc2 := 120) rfl ?_
  refine k_fill (len := 12) (t := 231) hc (by decide +kernel) (q_lt (q_St_n (n := 81) (by decide +kernel)) (by decide)) (by decide) (by decide +kernel) (t2 := 232) rfl ln_X9_67 ⟨by decide, by decide⟩ ⟨by decide, by decide⟩ (Nat.le_of_ble_eq_true rfl) dX9_init_120 (pc2 := 123) rfl ?_
  refine k_rl (k := 0) hc dX9_init_123 rfl (pc2 := 124) rfl ?_
  refine k_getR (x := 80) (t := 232) hc fl_X9_33 rfl (by decide +kernel) (q_lt (q_St_n (n := 81) (by decide +kernel)) (by decide)) (by decide +kernel) dX9_init_124 (pc2 := 127) rfl ?_
  refine j_bipush hc dX9_init_127 bp_30 (pc2 := 129) rfl ?_
  refine k_fill (len := 60) (t := 232) hc (by decide +kernel) (q_lt (q_St_n (n := 81) (by decide +kernel)) (by decide)) (by decide) (by decide +kernel) (t2 := 233) rfl ln_X9_67 ⟨by decide, by decide⟩ ⟨by decide, by decide⟩ (Nat.le_of_ble_eq_true rfl) dX9_init_129 (pc2 := 132) rfl ?_
  exact j_vret hc dX9_init_132
set_option maxRecDepth 100000 in
set_option maxHeartbeats 4000000 in
theorem I_X9_init_235 {l : Launch} {w : q_Wd} (hop : w.2.2.2.2.2.1 = none) : q_M l w yX9_init cX9_init 1 none { frames := 1, cells := 8, slots := 123, locals := 23 } 8 123 [q_rf w 81] (q_St 235) 0 (q_St 263) := q_MofJ [some (q_rf w 81)] (by decide +kernel) rfl rfl (Nat.le_of_ble_eq_true rfl) fun cx hl hAs hnm hc => by
  have hc : q_ok w cx RX9 cX9_init 1 none { frames := 1, cells := 8, slots := 123, locals := 23 } := hc
  have hi : q_inm cx RX9 9 := ⟨hnm, _, rfl⟩
  refine k_rl (k := 0) hc dX9_init_0 rfl (pc2 := 1) rfl ?_
  refine k_obj hc ob_X9_3 ob_w ⟨by decide, by decide⟩ (Nat.le_of_ble_eq_true rfl) dX9_init_1 (pc2 := 4) rfl ?_
  refine k_rl (k := 0) hc dX9_init_4 rfl (pc2 := 5) rfl ?_
  refine j_bipush hc dX9_init_5 bp_12 (pc2 := 7) rfl ?_
  refine k_newa (n := 82) (len := 12) (t := 235) hc hop (by decide +kernel) (q_St_n (by decide +kernel)) (by decide +kernel) (by decide) (by decide +kernel) (by decide) (by decide +kernel) (t2 := 236) rfl (c2 := 1) rfl (s2 := 12) rfl ⟨by decide, by decide⟩ nw_arr dX9_init_7 (pc2 := 9) rfl ?_
  refine k_putR (t := 236) hc fl_X9_9 hi rfl (by decide +kernel) (q_lt (q_St_n (n := 83) (by decide +kernel)) (by decide)) rfl rfl (by decide +kernel) (t2 := 237) rfl dX9_init_9 (pc2 := 12) rfl ?_
  refine k_rl (k := 0) hc dX9_init_12 rfl (pc2 := 13) rfl ?_
  refine j_bipush hc dX9_init_13 bp_12 (pc2 := 15) rfl ?_
  refine k_newa (n := 83) (len := 12) (t := 237) hc hop (by decide +kernel) (q_St_n (by decide +kernel)) (by decide +kernel) (by decide) (by decide +kernel) (by decide) (by decide +kernel) (t2 := 238) rfl (c2 := 2) rfl (s2 := 24) rfl ⟨by decide, by decide⟩ nw_arr dX9_init_15 (pc2 := 17) rfl ?_
  refine k_putR (t := 238) hc fl_X9_15 hi rfl (by decide +kernel) (q_lt (q_St_n (n := 84) (by decide +kernel)) (by decide)) rfl rfl (by decide +kernel) (t2 := 239) rfl dX9_init_17 (pc2 := 20) rfl ?_
  refine k_rl (k := 0) hc dX9_init_20 rfl (pc2 := 21) rfl ?_
  refine j_bipush hc dX9_init_21 bp_12 (pc2 := 23) rfl ?_
  refine k_newa (n := 84) (len := 12) (t := 239) hc hop (by decide +kernel) (q_St_n (by decide +kernel)) (by decide +kernel) (by decide) (by decide +kernel) (by decide) (by decide +kernel) (t2 := 240) rfl (c2 := 3) rfl (s2 := 36) rfl ⟨by decide, by decide⟩ nw_arr dX9_init_23 (pc2 := 25) rfl ?_
  refine k_putR (t := 240) hc fl_X9_18 hi rfl (by decide +kernel) (q_lt (q_St_n (n := 85) (by decide +kernel)) (by decide)) rfl rfl (by decide +kernel) (t2 := 241) rfl dX9_init_25 (pc2 := 28) rfl ?_
  refine k_rl (k := 0) hc dX9_init_28 rfl (pc2 := 29) rfl ?_
  refine j_bipush hc dX9_init_29 bp_12 (pc2 := 31) rfl ?_
  refine k_newa (n := 85) (len := 12) (t := 241) hc hop (by decide +kernel) (q_St_n (by decide +kernel)) (by decide +kernel) (by decide) (by decide +kernel) (by decide) (by decide +kernel) (t2 := 242) rfl (c2 := 4) rfl (s2 := 48) rfl ⟨by decide, by decide⟩ nw_arr dX9_init_31 (pc2 := 33) rfl ?_
  refine k_putR (t := 242) hc fl_X9_21 hi rfl (by decide +kernel) (q_lt (q_St_n (n := 86) (by decide +kernel)) (by decide)) rfl rfl (by decide +kernel) (t2 := 243) rfl dX9_init_33 (pc2 := 36) rfl ?_
  refine k_rl (k := 0) hc dX9_init_36 rfl (pc2 := 37) rfl ?_
  refine j_iconst hc dX9_init_37 ic_5 (pc2 := 38) rfl ?_
  refine k_newa (n := 86) (len := 5) (t := 243) hc hop (by decide +kernel) (q_St_n (by decide +kernel)) (by decide +kernel) (by decide) (by decide +kernel) (by decide) (by decide +kernel) (t2 := 244) rfl (c2 := 5) rfl (s2 := 53) rfl ⟨by decide, by decide⟩ nw_arr dX9_init_38 (pc2 := 40) rfl ?_
  refine k_putR (t := 244) hc fl_X9_24 hi rfl (by decide +kernel) (q_lt (q_St_n (n := 87) (by decide +kernel)) (by decide)) rfl rfl (by decide +kernel) (t2 := 245) rfl dX9_init_40 (pc2 := 43) rfl ?_
  refine k_rl (k := 0) hc dX9_init_43 rfl (pc2 := 44) rfl ?_
  refine j_iconst hc dX9_init_44 ic_5 (pc2 := 45) rfl ?_
  refine k_newa (n := 87) (len := 5) (t := 245) hc hop (by decide +kernel) (q_St_n (by decide +kernel)) (by decide +kernel) (by decide) (by decide +kernel) (by decide) (by decide +kernel) (t2 := 246) rfl (c2 := 6) rfl (s2 := 58) rfl ⟨by decide, by decide⟩ nw_arr dX9_init_45 (pc2 := 47) rfl ?_
  refine k_putR (t := 246) hc fl_X9_27 hi rfl (by decide +kernel) (q_lt (q_St_n (n := 88) (by decide +kernel)) (by decide)) rfl rfl (by decide +kernel) (t2 := 247) rfl dX9_init_47 (pc2 := 50) rfl ?_
  refine k_rl (k := 0) hc dX9_init_50 rfl (pc2 := 51) rfl ?_
  refine j_iconst hc dX9_init_51 ic_5 (pc2 := 52) rfl ?_
  refine k_newa (n := 88) (len := 5) (t := 247) hc hop (by decide +kernel) (q_St_n (by decide +kernel)) (by decide +kernel) (by decide) (by decide +kernel) (by decide) (by decide +kernel) (t2 := 248) rfl (c2 := 7) rfl (s2 := 63) rfl ⟨by decide, by decide⟩ nw_arr dX9_init_52 (pc2 := 54) rfl ?_
  refine k_putR (t := 248) hc fl_X9_30 hi rfl (by decide +kernel) (q_lt (q_St_n (n := 89) (by decide +kernel)) (by decide)) rfl rfl (by decide +kernel) (t2 := 249) rfl dX9_init_54 (pc2 := 57) rfl ?_
  refine k_rl (k := 0) hc dX9_init_57 rfl (pc2 := 58) rfl ?_
  refine j_bipush hc dX9_init_58 bp_60 (pc2 := 60) rfl ?_
  refine k_newa (n := 89) (len := 60) (t := 249) hc hop (by decide +kernel) (q_St_n (by decide +kernel)) (by decide +kernel) (by decide) (by decide +kernel) (by decide) (by decide +kernel) (t2 := 250) rfl (c2 := 8) rfl (s2 := 123) rfl ⟨by decide, by decide⟩ nw_arr dX9_init_60 (pc2 := 62) rfl ?_
  refine k_putR (t := 250) hc fl_X9_33 hi rfl (by decide +kernel) (q_lt (q_St_n (n := 90) (by decide +kernel)) (by decide)) rfl rfl (by decide +kernel) (t2 := 251) rfl dX9_init_62 (pc2 := 65) rfl ?_
  refine k_rl (k := 0) hc dX9_init_65 rfl (pc2 := 66) rfl ?_
  refine j_iconst hc dX9_init_66 ic_0 (pc2 := 67) rfl ?_
  refine k_putI (t := 251) hc fl_X9_36 hi rfl (by decide +kernel) (q_lt (q_St_n (n := 90) (by decide +kernel)) (by decide)) rfl (by decide) (by decide +kernel) (t2 := 252) rfl dX9_init_67 (pc2 := 70) rfl ?_
  refine k_rl (k := 0) hc dX9_init_70 rfl (pc2 := 71) rfl ?_
  refine j_iconst hc dX9_init_71 ic_0 (pc2 := 72) rfl ?_
  refine k_putI (t := 252) hc fl_X9_40 hi rfl (by decide +kernel) (q_lt (q_St_n (n := 90) (by decide +kernel)) (by decide)) rfl (by decide) (by decide +kernel) (t2 := 253) rfl dX9_init_72 (pc2 := 75) rfl ?_
  refine k_rl (k := 0) hc dX9_init_75 rfl (pc2 := 76) rfl ?_
  refine j_iconst hc dX9_init_76 ic_0 (pc2 := 77) rfl ?_
  refine k_putI (t := 253) hc fl_X9_43 hi rfl (by decide +kernel) (q_lt (q_St_n (n := 90) (by decide +kernel)) (by decide)) rfl (by decide) (by decide +kernel) (t2 := 254) rfl dX9_init_77 (pc2 := 80) rfl ?_
  refine k_rl (k := 0) hc dX9_init_80 rfl (pc2 := 81) rfl ?_
  refine j_iconst hc dX9_init_81 ic_0 (pc2 := 82) rfl ?_
  refine k_putI (t := 254) hc fl_X9_46 hi rfl (by decide +kernel) (q_lt (q_St_n (n := 90) (by decide +kernel)) (by decide)) rfl (by decide) (by decide +kernel) (t2 := 255) rfl dX9_init_82 (pc2 := 85) rfl ?_
  refine k_rl (k := 0) hc dX9_init_85 rfl (pc2 := 86) rfl ?_
  refine j_iconst hc dX9_init_86 ic_0 (pc2 := 87) rfl ?_
  refine k_putI (t := 255) hc fl_X9_49 hi rfl (by decide +kernel) (q_lt (q_St_n (n := 90) (by decide +kernel)) (by decide)) rfl (by decide) (by decide +kernel) (t2 := 256) rfl dX9_init_87 (pc2 := 90) rfl ?_
  refine k_rl (k := 0) hc dX9_init_90 rfl (pc2 := 91) rfl ?_
  refine j_iconst hc dX9_init_91 ic_m1 (pc2 := 92) rfl ?_
  refine k_putI (t := 256) hc fl_X9_52 hi rfl (by decide +kernel) (q_lt (q_St_n (n := 90) (by decide +kernel)) (by decide)) rfl (by decide) (by decide +kernel) (t2 := 257) rfl dX9_init_92 (pc2 := 95) rfl ?_
  refine k_rl (k := 0) hc dX9_init_95 rfl (pc2 := 96) rfl ?_
  refine j_iconst hc dX9_init_96 ic_0 (pc2 := 97) rfl ?_
  refine k_putI (t := 257) hc fl_X9_55 hi rfl (by decide +kernel) (q_lt (q_St_n (n := 90) (by decide +kernel)) (by decide)) rfl (by decide) (by decide +kernel) (t2 := 258) rfl dX9_init_97 (pc2 := 100) rfl ?_
  refine k_rl (k := 0) hc dX9_init_100 rfl (pc2 := 101) rfl ?_
  refine j_iconst hc dX9_init_101 ic_0 (pc2 := 102) rfl ?_
  refine k_putI (t := 258) hc fl_X9_58 hi rfl (by decide +kernel) (q_lt (q_St_n (n := 90) (by decide +kernel)) (by decide)) rfl (by decide) (by decide +kernel) (t2 := 259) rfl dX9_init_102 (pc2 := 105) rfl ?_
  refine k_rl (k := 0) hc dX9_init_105 rfl (pc2 := 106) rfl ?_
  refine j_iconst hc dX9_init_106 ic_0 (pc2 := 107) rfl ?_
  refine k_putI (t := 259) hc fl_X9_61 hi rfl (by decide +kernel) (q_lt (q_St_n (n := 90) (by decide +kernel)) (by decide)) rfl (by decide) (by decide +kernel) (t2 := 260) rfl dX9_init_107 (pc2 := 110) rfl ?_
  refine k_rl (k := 0) hc dX9_init_110 rfl (pc2 := 111) rfl ?_
  refine j_iconst hc dX9_init_111 ic_0 (pc2 := 112) rfl ?_
  refine k_putI (t := 260) hc fl_X9_64 hi rfl (by decide +kernel) (q_lt (q_St_n (n := 90) (by decide +kernel)) (by decide)) rfl (by decide) (by decide +kernel) (t2 := 261) rfl dX9_init_112 (pc2 := 115) rfl ?_
  refine k_rl (k := 0) hc dX9_init_115 rfl (pc2 := 116) rfl ?_
  refine k_getR (x := 85) (t := 261) hc fl_X9_21 rfl (by decide +kernel) (q_lt (q_St_n (n := 90) (by decide +kernel)) (by decide)) (by decide +kernel) dX9_init_116 (pc2 := 119) rfl ?_
  refine j_iconst hc dX9_init_119 ic_m1 (pc2 := 120) rfl ?_
  refine k_fill (len := 12) (t := 261) hc (by decide +kernel) (q_lt (q_St_n (n := 90) (by decide +kernel)) (by decide)) (by decide) (by decide +kernel) (t2 := 262) rfl ln_X9_67 ⟨by decide, by decide⟩ ⟨by decide, by decide⟩ (Nat.le_of_ble_eq_true rfl) dX9_init_120 (pc2 := 123) rfl ?_
  refine k_rl (k := 0) hc dX9_init_123 rfl (pc2 := 124) rfl ?_
  refine k_getR (x := 89) (t := 262) hc fl_X9_33 rfl (by decide +kernel) (q_lt (q_St_n (n := 90) (by decide +kernel)) (by decide)) (by decide +kernel) dX9_init_124 (pc2 := 127) rfl ?_
  refine j_bipush hc dX9_init_127 bp_30 (pc2 := 129) rfl ?_
  refine k_fill (len := 60) (t := 262) hc (by decide +kernel) (q_lt (q_St_n (n := 90) (by decide +kernel)) (by decide)) (by decide) (by decide +kernel) (t2 := 263) rfl ln_X9_67 ⟨by decide, by decide⟩ ⟨by decide, by decide⟩ (Nat.le_of_ble_eq_true rfl) dX9_init_129 (pc2 := 132) rfl ?_
  exact j_vret hc dX9_init_132
set_option maxRecDepth 100000 in
set_option maxHeartbeats 4000000 in
theorem I_X9_init_265 {l : Launch} {w : q_Wd} (hop : w.2.2.2.2.2.1 = none) : q_M l w yX9_init cX9_init 1 none { frames := 1, cells := 8, slots := 123, locals := 23 } 8 123 [q_rf w 90] (q_St 265) 0 (q_St 293) := q_MofJ [some (q_rf w 90)] (by decide +kernel) rfl rfl (Nat.le_of_ble_eq_true rfl) fun cx hl hAs hnm hc => by
  have hc : q_ok w cx RX9 cX9_init 1 none { frames := 1, cells := 8, slots := 123, locals := 23 } := hc
  have hi : q_inm cx RX9 9 := ⟨hnm, _, rfl⟩
  refine k_rl (k := 0) hc dX9_init_0 rfl (pc2 := 1) rfl ?_
  refine k_obj hc ob_X9_3 ob_w ⟨by decide, by decide⟩ (Nat.le_of_ble_eq_true rfl) dX9_init_1 (pc2 := 4) rfl ?_
  refine k_rl (k := 0) hc dX9_init_4 rfl (pc2 := 5) rfl ?_
  refine j_bipush hc dX9_init_5 bp_12 (pc2 := 7) rfl ?_
  refine k_newa (n := 91) (len := 12) (t := 265) hc hop (by decide +kernel) (q_St_n (by decide +kernel)) (by decide +kernel) (by decide) (by decide +kernel) (by decide) (by decide +kernel) (t2 := 266) rfl (c2 := 1) rfl (s2 := 12) rfl ⟨by decide, by decide⟩ nw_arr dX9_init_7 (pc2 := 9) rfl ?_
  refine k_putR (t := 266) hc fl_X9_9 hi rfl (by decide +kernel) (q_lt (q_St_n (n := 92) (by decide +kernel)) (by decide)) rfl rfl (by decide +kernel) (t2 := 267) rfl dX9_init_9 (pc2 := 12) rfl ?_
  refine k_rl (k := 0) hc dX9_init_12 rfl (pc2 := 13) rfl ?_
  refine j_bipush hc dX9_init_13 bp_12 (pc2 := 15) rfl ?_
  refine k_newa (n := 92) (len := 12) (t := 267) hc hop (by decide +kernel) (q_St_n (by decide +kernel)) (by decide +kernel) (by decide) (by decide +kernel) (by decide) (by decide +kernel) (t2 := 268) rfl (c2 := 2) rfl (s2 := 24) rfl ⟨by decide, by decide⟩ nw_arr dX9_init_15 (pc2 := 17) rfl ?_
  refine k_putR (t := 268) hc fl_X9_15 hi rfl (by decide +kernel) (q_lt (q_St_n (n := 93) (by decide +kernel)) (by decide)) rfl rfl (by decide +kernel) (t2 := 269) rfl dX9_init_17 (pc2 := 20) rfl ?_
  refine k_rl (k := 0) hc dX9_init_20 rfl (pc2 := 21) rfl ?_
  refine j_bipush hc dX9_init_21 bp_12 (pc2 := 23) rfl ?_
  refine k_newa (n := 93) (len := 12) (t := 269) hc hop (by decide +kernel) (q_St_n (by decide +kernel)) (by decide +kernel) (by decide) (by decide +kernel) (by decide) (by decide +kernel) (t2 := 270) rfl (c2 := 3) rfl (s2 := 36) rfl ⟨by decide, by decide⟩ nw_arr dX9_init_23 (pc2 := 25) rfl ?_
  refine k_putR (t := 270) hc fl_X9_18 hi rfl (by decide +kernel) (q_lt (q_St_n (n := 94) (by decide +kernel)) (by decide)) rfl rfl (by decide +kernel) (t2 := 271) rfl dX9_init_25 (pc2 := 28) rfl ?_
  refine k_rl (k := 0) hc dX9_init_28 rfl (pc2 := 29) rfl ?_
  refine j_bipush hc dX9_init_29 bp_12 (pc2 := 31) rfl ?_
  refine k_newa (n := 94) (len := 12) (t := 271) hc hop (by decide +kernel) (q_St_n (by decide +kernel)) (by decide +kernel) (by decide) (by decide +kernel) (by decide) (by decide +kernel) (t2 := 272) rfl (c2 := 4) rfl (s2 := 48) rfl ⟨by decide, by decide⟩ nw_arr dX9_init_31 (pc2 := 33) rfl ?_
  refine k_putR (t := 272) hc fl_X9_21 hi rfl (by decide +kernel) (q_lt (q_St_n (n := 95) (by decide +kernel)) (by decide)) rfl rfl (by decide +kernel) (t2 := 273) rfl dX9_init_33 (pc2 := 36) rfl ?_
  refine k_rl (k := 0) hc dX9_init_36 rfl (pc2 := 37) rfl ?_
  refine j_iconst hc dX9_init_37 ic_5 (pc2 := 38) rfl ?_
  refine k_newa (n := 95) (len := 5) (t := 273) hc hop (by decide +kernel) (q_St_n (by decide +kernel)) (by decide +kernel) (by decide) (by decide +kernel) (by decide) (by decide +kernel) (t2 := 274) rfl (c2 := 5) rfl (s2 := 53) rfl ⟨by decide, by decide⟩ nw_arr dX9_init_38 (pc2 := 40) rfl ?_
  refine k_putR (t := 274) hc fl_X9_24 hi rfl (by decide +kernel) (q_lt (q_St_n (n := 96) (by decide +kernel)) (by decide)) rfl rfl (by decide +kernel) (t2 := 275) rfl dX9_init_40 (pc2 := 43) rfl ?_
  refine k_rl (k := 0) hc dX9_init_43 rfl (pc2 := 44) rfl ?_
  refine j_iconst hc dX9_init_44 ic_5 (pc2 := 45) rfl ?_
  refine k_newa (n := 96) (len := 5) (t := 275) hc hop (by decide +kernel) (q_St_n (by decide +kernel)) (by decide +kernel) (by decide) (by decide +kernel) (by decide) (by decide +kernel) (t2 := 276) rfl (c2 := 6) rfl (s2 := 58) rfl ⟨by decide, by decide⟩ nw_arr dX9_init_45 (pc2 := 47) rfl ?_
  refine k_putR (t := 276) hc fl_X9_27 hi rfl (by decide +kernel) (q_lt (q_St_n (n := 97) (by decide +kernel)) (by decide)) rfl rfl (by decide +kernel) (t2 := 277) rfl dX9_init_47 (pc2 := 50) rfl ?_
  refine k_rl (k := 0) hc dX9_init_50 rfl (pc2 := 51) rfl ?_
  refine j_iconst hc dX9_init_51 ic_5 (pc2 := 52) rfl ?_
  refine k_newa (n := 97) (len := 5) (t := 277) hc hop (by decide +kernel) (q_St_n (by decide +kernel)) (by decide +kernel) (by decide) (by decide +kernel) (by decide) (by decide +kernel) (t2 := 278) rfl (c2 := 7) rfl (s2 := 63) rfl ⟨by decide, by decide⟩ nw_arr dX9_init_52 (pc2 := 54) rfl ?_
  refine k_putR (t := 278) hc fl_X9_30 hi rfl (by decide +kernel) (q_lt (q_St_n (n := 98) (by decide +kernel)) (by decide)) rfl rfl (by decide +kernel) (t2 := 279) rfl dX9_init_54 (pc2 := 57) rfl ?_
  refine k_rl (k := 0) hc dX9_init_57 rfl (pc2 := 58) rfl ?_
  refine j_bipush hc dX9_init_58 bp_60 (pc2 := 60) rfl ?_
  refine k_newa (n := 98) (len := 60) (t := 279) hc hop (by decide +kernel) (q_St_n (by decide +kernel)) (by decide +kernel) (by decide) (by decide +kernel) (by decide) (by decide +kernel) (t2 := 280) rfl (c2 := 8) rfl (s2 := 123) rfl ⟨by decide, by decide⟩ nw_arr dX9_init_60 (pc2 := 62) rfl ?_
  refine k_putR (t := 280) hc fl_X9_33 hi rfl (by decide +kernel) (q_lt (q_St_n (n := 99) (by decide +kernel)) (by decide)) rfl rfl (by decide +kernel) (t2 := 281) rfl dX9_init_62 (pc2 := 65) rfl ?_
  refine k_rl (k := 0) hc dX9_init_65 rfl (pc2 := 66) rfl ?_
  refine j_iconst hc dX9_init_66 ic_0 (pc2 := 67) rfl ?_
  refine k_putI (t := 281) hc fl_X9_36 hi rfl (by decide +kernel) (q_lt (q_St_n (n := 99) (by decide +kernel)) (by decide)) rfl (by decide) (by decide +kernel) (t2 := 282) rfl dX9_init_67 (pc2 := 70) rfl ?_
  refine k_rl (k := 0) hc dX9_init_70 rfl (pc2 := 71) rfl ?_
  refine j_iconst hc dX9_init_71 ic_0 (pc2 := 72) rfl ?_
  refine k_putI (t := 282) hc fl_X9_40 hi rfl (by decide +kernel) (q_lt (q_St_n (n := 99) (by decide +kernel)) (by decide)) rfl (by decide) (by decide +kernel) (t2 := 283) rfl dX9_init_72 (pc2 := 75) rfl ?_
  refine k_rl (k := 0) hc dX9_init_75 rfl (pc2 := 76) rfl ?_
  refine j_iconst hc dX9_init_76 ic_0 (pc2 := 77) rfl ?_
  refine k_putI (t := 283) hc fl_X9_43 hi rfl (by decide +kernel) (q_lt (q_St_n (n := 99) (by decide +kernel)) (by decide)) rfl (by decide) (by decide +kernel) (t2 := 284) rfl dX9_init_77 (pc2 := 80) rfl ?_
  refine k_rl (k := 0) hc dX9_init_80 rfl (pc2 := 81) rfl ?_
  refine j_iconst hc dX9_init_81 ic_0 (pc2 := 82) rfl ?_
  refine k_putI (t := 284) hc fl_X9_46 hi rfl (by decide +kernel) (q_lt (q_St_n (n := 99) (by decide +kernel)) (by decide)) rfl (by decide) (by decide +kernel) (t2 := 285) rfl dX9_init_82 (pc2 := 85) rfl ?_
  refine k_rl (k := 0) hc dX9_init_85 rfl (pc2 := 86) rfl ?_
  refine j_iconst hc dX9_init_86 ic_0 (pc2 := 87) rfl ?_
  refine k_putI (t := 285) hc fl_X9_49 hi rfl (by decide +kernel) (q_lt (q_St_n (n := 99) (by decide +kernel)) (by decide)) rfl (by decide) (by decide +kernel) (t2 := 286) rfl dX9_init_87 (pc2 := 90) rfl ?_
  refine k_rl (k := 0) hc dX9_init_90 rfl (pc2 := 91) rfl ?_
  refine j_iconst hc dX9_init_91 ic_m1 (pc2 := 92) rfl ?_
  refine k_putI (t := 286) hc fl_X9_52 hi rfl (by decide +kernel) (q_lt (q_St_n (n := 99) (by decide +kernel)) (by decide)) rfl (by decide) (by decide +kernel) (t2 := 287) rfl dX9_init_92 (pc2 := 95) rfl ?_
  refine k_rl (k := 0) hc dX9_init_95 rfl (pc2 := 96) rfl ?_
  refine j_iconst hc dX9_init_96 ic_0 (pc2 := 97) rfl ?_
  refine k_putI (t := 287) hc fl_X9_55 hi rfl (by decide +kernel) (q_lt (q_St_n (n := 99) (by decide +kernel)) (by decide)) rfl (by decide) (by decide +kernel) (t2 := 288) rfl dX9_init_97 (pc2 := 100) rfl ?_
  refine k_rl (k := 0) hc dX9_init_100 rfl (pc2 := 101) rfl ?_
  refine j_iconst hc dX9_init_101 ic_0 (pc2 := 102) rfl ?_
  refine k_putI (t := 288) hc fl_X9_58 hi rfl (by decide +kernel) (q_lt (q_St_n (n := 99) (by decide +kernel)) (by decide)) rfl (by decide) (by decide +kernel) (t2 := 289) rfl dX9_init_102 (pc2 := 105) rfl ?_
  refine k_rl (k := 0) hc dX9_init_105 rfl (pc2 := 106) rfl ?_
  refine j_iconst hc dX9_init_106 ic_0 (pc2 := 107) rfl ?_
  refine k_putI (t := 289) hc fl_X9_61 hi rfl (by decide +kernel) (q_lt (q_St_n (n := 99) (by decide +kernel)) (by decide)) rfl (by decide) (by decide +kernel) (t2 := 290) rfl dX9_init_107 (pc2 := 110) rfl ?_
  refine k_rl (k := 0) hc dX9_init_110 rfl (pc2 := 111) rfl ?_
  refine j_iconst hc dX9_init_111 ic_0 (pc2 := 112) rfl ?_
  refine k_putI (t := 290) hc fl_X9_64 hi rfl (by decide +kernel) (q_lt (q_St_n (n := 99) (by decide +kernel)) (by decide)) rfl (by decide) (by decide +kernel) (t2 := 291) rfl dX9_init_112 (pc2 := 115) rfl ?_
  refine k_rl (k := 0) hc dX9_init_115 rfl (pc2 := 116) rfl ?_
  refine k_getR (x := 94) (t := 291) hc fl_X9_21 rfl (by decide +kernel) (q_lt (q_St_n (n := 99) (by decide +kernel)) (by decide)) (by decide +kernel) dX9_init_116 (pc2 := 119) rfl ?_
  refine j_iconst hc dX9_init_119 ic_m1 (pc2 := 120) rfl ?_
  refine k_fill (len := 12) (t := 291) hc (by decide +kernel) (q_lt (q_St_n (n := 99) (by decide +kernel)) (by decide)) (by decide) (by decide +kernel) (t2 := 292) rfl ln_X9_67 ⟨by decide, by decide⟩ ⟨by decide, by decide⟩ (Nat.le_of_ble_eq_true rfl) dX9_init_120 (pc2 := 123) rfl ?_
  refine k_rl (k := 0) hc dX9_init_123 rfl (pc2 := 124) rfl ?_
  refine k_getR (x := 98) (t := 292) hc fl_X9_33 rfl (by decide +kernel) (q_lt (q_St_n (n := 99) (by decide +kernel)) (by decide)) (by decide +kernel) dX9_init_124 (pc2 := 127) rfl ?_
  refine j_bipush hc dX9_init_127 bp_30 (pc2 := 129) rfl ?_
  refine k_fill (len := 60) (t := 292) hc (by decide +kernel) (q_lt (q_St_n (n := 99) (by decide +kernel)) (by decide)) (by decide) (by decide +kernel) (t2 := 293) rfl ln_X9_67 ⟨by decide, by decide⟩ ⟨by decide, by decide⟩ (Nat.le_of_ble_eq_true rfl) dX9_init_129 (pc2 := 132) rfl ?_
  exact j_vret hc dX9_init_132
set_option maxRecDepth 100000 in
set_option maxHeartbeats 4000000 in
theorem I_X9_init_295 {l : Launch} {w : q_Wd} (hop : w.2.2.2.2.2.1 = none) : q_M l w yX9_init cX9_init 1 none { frames := 1, cells := 8, slots := 123, locals := 23 } 8 123 [q_rf w 99] (q_St 295) 0 (q_St 323) := q_MofJ [some (q_rf w 99)] (by decide +kernel) rfl rfl (Nat.le_of_ble_eq_true rfl) fun cx hl hAs hnm hc => by
  have hc : q_ok w cx RX9 cX9_init 1 none { frames := 1, cells := 8, slots := 123, locals := 23 } := hc
  have hi : q_inm cx RX9 9 := ⟨hnm, _, rfl⟩
  refine k_rl (k := 0) hc dX9_init_0 rfl (pc2 := 1) rfl ?_
  refine k_obj hc ob_X9_3 ob_w ⟨by decide, by decide⟩ (Nat.le_of_ble_eq_true rfl) dX9_init_1 (pc2 := 4) rfl ?_
  refine k_rl (k := 0) hc dX9_init_4 rfl (pc2 := 5) rfl ?_
  refine j_bipush hc dX9_init_5 bp_12 (pc2 := 7) rfl ?_
  refine k_newa (n := 100) (len := 12) (t := 295) hc hop (by decide +kernel) (q_St_n (by decide +kernel)) (by decide +kernel) (by decide) (by decide +kernel) (by decide) (by decide +kernel) (t2 := 296) rfl (c2 := 1) rfl (s2 := 12) rfl ⟨by decide, by decide⟩ nw_arr dX9_init_7 (pc2 := 9) rfl ?_
  refine k_putR (t := 296) hc fl_X9_9 hi rfl (by decide +kernel) (q_lt (q_St_n (n := 101) (by decide +kernel)) (by decide)) rfl rfl (by decide +kernel) (t2 := 297) rfl dX9_init_9 (pc2 := 12) rfl ?_
  refine k_rl (k := 0) hc dX9_init_12 rfl (pc2 := 13) rfl ?_
  refine j_bipush hc dX9_init_13 bp_12 (pc2 := 15) rfl ?_
  refine k_newa (n := 101) (len := 12) (t := 297) hc hop (by decide +kernel) (q_St_n (by decide +kernel)) (by decide +kernel) (by decide) (by decide +kernel) (by decide) (by decide +kernel) (t2 := 298) rfl (c2 := 2) rfl (s2 := 24) rfl ⟨by decide, by decide⟩ nw_arr dX9_init_15 (pc2 := 17) rfl ?_
  refine k_putR (t := 298) hc fl_X9_15 hi rfl (by decide +kernel) (q_lt (q_St_n (n := 102) (by decide +kernel)) (by decide)) rfl rfl (by decide +kernel) (t2 := 299) rfl dX9_init_17 (pc2 := 20) rfl ?_
  refine k_rl (k := 0) hc dX9_init_20 rfl (pc2 := 21) rfl ?_
  refine j_bipush hc dX9_init_21 bp_12 (pc2 := 23) rfl ?_
  refine k_newa (n := 102) (len := 12) (t := 299) hc hop (by decide +kernel) (q_St_n (by decide +kernel)) (by decide +kernel) (by decide) (by decide +kernel) (by decide) (by decide +kernel) (t2 := 300) rfl (c2 := 3) rfl (s2 := 36) rfl ⟨by decide, by decide⟩ nw_arr dX9_init_23 (pc2 := 25) rfl ?_
  refine k_putR (t := 300) hc fl_X9_18 hi rfl (by decide +kernel) (q_lt (q_St_n (n := 103) (by decide +kernel)) (by decide)) rfl rfl (by decide +kernel) (t2 := 301) rfl dX9_init_25 (pc2 := 28) rfl ?_
  refine k_rl (k := 0) hc dX9_init_28 rfl (pc2 := 29) rfl ?_
  refine j_bipush hc dX9_init_29 bp_12 (pc2 := 31) rfl ?_
  refine k_newa (n := 103) (len := 12) (t := 301) hc hop (by decide +kernel) (q_St_n (by decide +kernel)) (by decide +kernel) (by decide) (by decide +kernel) (by decide) (by decide +kernel) (t2 := 302) rfl (c2 := 4) rfl (s2 := 48) rfl ⟨by decide, by decide⟩ nw_arr dX9_init_31 (pc2 := 33) rfl ?_
  refine k_putR (t := 302) hc fl_X9_21 hi rfl (by decide +kernel) (q_lt (q_St_n (n := 104) (by decide +kernel)) (by decide)) rfl rfl (by decide +kernel) (t2 := 303) rfl dX9_init_33 (pc2 := 36) rfl ?_
  refine k_rl (k := 0) hc dX9_init_36 rfl (pc2 := 37) rfl ?_
  refine j_iconst hc dX9_init_37 ic_5 (pc2 := 38) rfl ?_
  refine k_newa (n := 104) (len := 5) (t := 303) hc hop (by decide +kernel) (q_St_n (by decide +kernel)) (by decide +kernel) (by decide) (by decide +kernel) (by decide) (by decide +kernel) (t2 := 304) rfl (c2 := 5) rfl (s2 := 53) rfl ⟨by decide, by decide⟩ nw_arr dX9_init_38 (pc2 := 40) rfl ?_
  refine k_putR (t := 304) hc fl_X9_24 hi rfl (by decide +kernel) (q_lt (q_St_n (n := 105) (by decide +kernel)) (by decide)) rfl rfl (by decide +kernel) (t2 := 305) rfl dX9_init_40 (pc2 := 43) rfl ?_
  refine k_rl (k := 0) hc dX9_init_43 rfl (pc2 := 44) rfl ?_
  refine j_iconst hc dX9_init_44 ic_5 (pc2 := 45) rfl ?_
  refine k_newa (n := 105) (len := 5) (t := 305) hc hop (by decide +kernel) (q_St_n (by decide +kernel)) (by decide +kernel) (by decide) (by decide +kernel) (by decide) (by decide +kernel) (t2 := 306) rfl (c2 := 6) rfl (s2 := 58) rfl ⟨by decide, by decide⟩ nw_arr dX9_init_45 (pc2 := 47) rfl ?_
  refine k_putR (t := 306) hc fl_X9_27 hi rfl (by decide +kernel) (q_lt (q_St_n (n := 106) (by decide +kernel)) (by decide)) rfl rfl (by decide +kernel) (t2 := 307) rfl dX9_init_47 (pc2 := 50) rfl ?_
  refine k_rl (k := 0) hc dX9_init_50 rfl (pc2 := 51) rfl ?_
  refine j_iconst hc dX9_init_51 ic_5 (pc2 := 52) rfl ?_
  refine k_newa (n := 106) (len := 5) (t := 307) hc hop (by decide +kernel) (q_St_n (by decide +kernel)) (by decide +kernel) (by decide) (by decide +kernel) (by decide) (by decide +kernel) (t2 := 308) rfl (c2 := 7) rfl (s2 := 63) rfl ⟨by decide, by decide⟩ nw_arr dX9_init_52 (pc2 := 54) rfl ?_
  refine k_putR (t := 308) hc fl_X9_30 hi rfl (by decide +kernel) (q_lt (q_St_n (n := 107) (by decide +kernel)) (by decide)) rfl rfl (by decide +kernel) (t2 := 309) rfl dX9_init_54 (pc2 := 57) rfl ?_
  refine k_rl (k := 0) hc dX9_init_57 rfl (pc2 := 58) rfl ?_
  refine j_bipush hc dX9_init_58 bp_60 (pc2 := 60) rfl ?_
  refine k_newa (n := 107) (len := 60) (t := 309) hc hop (by decide +kernel) (q_St_n (by decide +kernel)) (by decide +kernel) (by decide) (by decide +kernel) (by decide) (by decide +kernel) (t2 := 310) rfl (c2 := 8) rfl (s2 := 123) rfl ⟨by decide, by decide⟩ nw_arr dX9_init_60 (pc2 := 62) rfl ?_
  refine k_putR (t := 310) hc fl_X9_33 hi rfl (by decide +kernel) (q_lt (q_St_n (n := 108) (by decide +kernel)) (by decide)) rfl rfl (by decide +kernel) (t2 := 311) rfl dX9_init_62 (pc2 := 65) rfl ?_
  refine k_rl (k := 0) hc dX9_init_65 rfl (pc2 := 66) rfl ?_
  refine j_iconst hc dX9_init_66 ic_0 (pc2 := 67) rfl ?_
  refine k_putI (t := 311) hc fl_X9_36 hi rfl (by decide +kernel) (q_lt (q_St_n (n := 108) (by decide +kernel)) (by decide)) rfl (by decide) (by decide +kernel) (t2 := 312) rfl dX9_init_67 (pc2 := 70) rfl ?_
  refine k_rl (k := 0) hc dX9_init_70 rfl (pc2 := 71) rfl ?_
  refine j_iconst hc dX9_init_71 ic_0 (pc2 := 72) rfl ?_
  refine k_putI (t := 312) hc fl_X9_40 hi rfl (by decide +kernel) (q_lt (q_St_n (n := 108) (by decide +kernel)) (by decide)) rfl (by decide) (by decide +kernel) (t2 := 313) rfl dX9_init_72 (pc2 := 75) rfl ?_
  refine k_rl (k := 0) hc dX9_init_75 rfl (pc2 := 76) rfl ?_
  refine j_iconst hc dX9_init_76 ic_0 (pc2 := 77) rfl ?_
  refine k_putI (t := 313) hc fl_X9_43 hi rfl (by decide +kernel) (q_lt (q_St_n (n := 108) (by decide +kernel)) (by decide)) rfl (by decide) (by decide +kernel) (t2 := 314) rfl dX9_init_77 (pc2 := 80) rfl ?_
  refine k_rl (k := 0) hc dX9_init_80 rfl (pc2 := 81) rfl ?_
  refine j_iconst hc dX9_init_81 ic_0 (pc2 := 82) rfl ?_
  refine k_putI (t := 314) hc fl_X9_46 hi rfl (by decide +kernel) (q_lt (q_St_n (n := 108) (by decide +kernel)) (by decide)) rfl (by decide) (by decide +kernel) (t2 := 315) rfl dX9_init_82 (pc2 := 85) rfl ?_
  refine k_rl (k := 0) hc dX9_init_85 rfl (pc2 := 86) rfl ?_
  refine j_iconst hc dX9_init_86 ic_0 (pc2 := 87) rfl ?_
  refine k_putI (t := 315) hc fl_X9_49 hi rfl (by decide +kernel) (q_lt (q_St_n (n := 108) (by decide +kernel)) (by decide)) rfl (by decide) (by decide +kernel) (t2 := 316) rfl dX9_init_87 (pc2 := 90) rfl ?_
  refine k_rl (k := 0) hc dX9_init_90 rfl (pc2 := 91) rfl ?_
  refine j_iconst hc dX9_init_91 ic_m1 (pc2 := 92) rfl ?_
  refine k_putI (t := 316) hc fl_X9_52 hi rfl (by decide +kernel) (q_lt (q_St_n (n := 108) (by decide +kernel)) (by decide)) rfl (by decide) (by decide +kernel) (t2 := 317) rfl dX9_init_92 (pc2 := 95) rfl ?_
  refine k_rl (k := 0) hc dX9_init_95 rfl (pc2 := 96) rfl ?_
  refine j_iconst hc dX9_init_96 ic_0 (pc2 := 97) rfl ?_
  refine k_putI (t := 317) hc fl_X9_55 hi rfl (by decide +kernel) (q_lt (q_St_n (n := 108) (by decide +kernel)) (by decide)) rfl (by decide) (by decide +kernel) (t2 := 318) rfl dX9_init_97 (pc2 := 100) rfl ?_
  refine k_rl (k := 0) hc dX9_init_100 rfl (pc2 := 101) rfl ?_
  refine j_iconst hc dX9_init_101 ic_0 (pc2 := 102) rfl ?_
  refine k_putI (t := 318) hc fl_X9_58 hi rfl (by decide +kernel) (q_lt (q_St_n (n := 108) (by decide +kernel)) (by decide)) rfl (by decide) (by decide +kernel) (t2 := 319) rfl dX9_init_102 (pc2 := 105) rfl ?_
  refine k_rl (k := 0) hc dX9_init_105 rfl (pc2 := 106) rfl ?_
  refine j_iconst hc dX9_init_106 ic_0 (pc2 := 107) rfl ?_
  refine k_putI (t := 319) hc fl_X9_61 hi rfl (by decide +kernel) (q_lt (q_St_n (n := 108) (by decide +kernel)) (by decide)) rfl (by decide) (by decide +kernel) (t2 := 320) rfl dX9_init_107 (pc2 := 110) rfl ?_
  refine k_rl (k := 0) hc dX9_init_110 rfl (pc2 := 111) rfl ?_
  refine j_iconst hc dX9_init_111 ic_0 (pc2 := 112) rfl ?_
  refine k_putI (t := 320) hc fl_X9_64 hi rfl (by decide +kernel) (q_lt (q_St_n (n := 108) (by decide +kernel)) (by decide)) rfl (by decide) (by decide +kernel) (t2 := 321) rfl dX9_init_112 (pc2 := 115) rfl ?_
  refine k_rl (k := 0) hc dX9_init_115 rfl (pc2 := 116) rfl ?_
  refine k_getR (x := 103) (t := 321) hc fl_X9_21 rfl (by decide +kernel) (q_lt (q_St_n (n := 108) (by decide +kernel)) (by decide)) (by decide +kernel) dX9_init_116 (pc2 := 119) rfl ?_
  refine j_iconst hc dX9_init_119 ic_m1 (pc2 := 120) rfl ?_
  refine k_fill (len := 12) (t := 321) hc (by decide +kernel) (q_lt (q_St_n (n := 108) (by decide +kernel)) (by decide)) (by decide) (by decide +kernel) (t2 := 322) rfl ln_X9_67 ⟨by decide, by decide⟩ ⟨by decide, by decide⟩ (Nat.le_of_ble_eq_true rfl) dX9_init_120 (pc2 := 123) rfl ?_
  refine k_rl (k := 0) hc dX9_init_123 rfl (pc2 := 124) rfl ?_
  refine k_getR (x := 107) (t := 322) hc fl_X9_33 rfl (by decide +kernel) (q_lt (q_St_n (n := 108) (by decide +kernel)) (by decide)) (by decide +kernel) dX9_init_124 (pc2 := 127) rfl ?_
  refine j_bipush hc dX9_init_127 bp_30 (pc2 := 129) rfl ?_
  refine k_fill (len := 60) (t := 322) hc (by decide +kernel) (q_lt (q_St_n (n := 108) (by decide +kernel)) (by decide)) (by decide) (by decide +kernel) (t2 := 323) rfl ln_X9_67 ⟨by decide, by decide⟩ ⟨by decide, by decide⟩ (Nat.le_of_ble_eq_true rfl) dX9_init_129 (pc2 := 132) rfl ?_
  exact j_vret hc dX9_init_132
set_option maxRecDepth 100000 in
set_option maxHeartbeats 4000000 in
theorem I_X9_init_325 {l : Launch} {w : q_Wd} (hop : w.2.2.2.2.2.1 = none) : q_M l w yX9_init cX9_init 1 none { frames := 1, cells := 8, slots := 123, locals := 23 } 8 123 [q_rf w 108] (q_St 325) 0 (q_St 353) := q_MofJ [some (q_rf w 108)] (by decide +kernel) rfl rfl (Nat.le_of_ble_eq_true rfl) fun cx hl hAs hnm hc => by
  have hc : q_ok w cx RX9 cX9_init 1 none { frames := 1, cells := 8, slots := 123, locals := 23 } := hc
  have hi : q_inm cx RX9 9 := ⟨hnm, _, rfl⟩
  refine k_rl (k := 0) hc dX9_init_0 rfl (pc2 := 1) rfl ?_
  refine k_obj hc ob_X9_3 ob_w ⟨by decide, by decide⟩ (Nat.le_of_ble_eq_true rfl) dX9_init_1 (pc2 := 4) rfl ?_
  refine k_rl (k := 0) hc dX9_init_4 rfl (pc2 := 5) rfl ?_
  refine j_bipush hc dX9_init_5 bp_12 (pc2 := 7) rfl ?_
  refine k_newa (n := 109) (len := 12) (t := 325) hc hop (by decide +kernel) (q_St_n (by decide +kernel)) (by decide +kernel) (by decide) (by decide +kernel) (by decide) (by decide +kernel) (t2 := 326) rfl (c2 := 1) rfl (s2 := 12) rfl ⟨by decide, by decide⟩ nw_arr dX9_init_7 (pc2 := 9) rfl ?_
  refine k_putR (t := 326) hc fl_X9_9 hi rfl (by decide +kernel) (q_lt (q_St_n (n := 110) (by decide +kernel)) (by decide)) rfl rfl (by decide +kernel) (t2 := 327) rfl dX9_init_9 (pc2 := 12) rfl ?_
  refine k_rl (k := 0) hc dX9_init_12 rfl (pc2 := 13) rfl ?_
  refine j_bipush hc dX9_init_13 bp_12 (pc2 := 15) rfl ?_
  refine k_newa (n := 110) (len := 12) (t := 327) hc hop (by decide +kernel) (q_St_n (by decide +kernel)) (by decide +kernel) (by decide) (by decide +kernel) (by decide) (by decide +kernel) (t2 := 328) rfl (c2 := 2) rfl (s2 := 24) rfl ⟨by decide, by decide⟩ nw_arr dX9_init_15 (pc2 := 17) rfl ?_
  refine k_putR (t := 328) hc fl_X9_15 hi rfl (by decide +kernel) (q_lt (q_St_n (n := 111) (by decide +kernel)) (by decide)) rfl rfl (by decide +kernel) (t2 := 329) rfl dX9_init_17 (pc2 := 20) rfl ?_
  refine k_rl (k := 0) hc dX9_init_20 rfl (pc2 := 21) rfl ?_
  refine j_bipush hc dX9_init_21 bp_12 (pc2 := 23) rfl ?_
  refine k_newa (n := 111) (len := 12) (t := 329) hc hop (by decide +kernel) (q_St_n (by decide +kernel)) (by decide +kernel) (by decide) (by decide +kernel) (by decide) (by decide +kernel) (t2 := 330) rfl (c2 := 3) rfl (s2 := 36) rfl ⟨by decide, by decide⟩ nw_arr dX9_init_23 (pc2 := 25) rfl ?_
  refine k_putR (t := 330) hc fl_X9_18 hi rfl (by decide +kernel) (q_lt (q_St_n (n := 112) (by decide +kernel)) (by decide)) rfl rfl (by decide +kernel) (t2 := 331) rfl dX9_init_25 (pc2 := 28) rfl ?_
  refine k_rl (k := 0) hc dX9_init_28 rfl (pc2 := 29) rfl ?_
  refine j_bipush hc dX9_init_29 bp_12 (pc2 := 31) rfl ?_
  refine k_newa (n := 112) (len := 12) (t := 331) hc hop (by decide +kernel) (q_St_n (by decide +kernel)) (by decide +kernel) (by decide) (by decide +kernel) (by decide) (by decide +kernel) (t2 := 332) rfl (c2 := 4) rfl (s2 := 48) rfl ⟨by decide, by decide⟩ nw_arr dX9_init_31 (pc2 := 33) rfl ?_
  refine k_putR (t := 332) hc fl_X9_21 hi rfl (by decide +kernel) (q_lt (q_St_n (n := 113) (by decide +kernel)) (by decide)) rfl rfl (by decide +kernel) (t2 := 333) rfl dX9_init_33 (pc2 := 36) rfl ?_
  refine k_rl (k := 0) hc dX9_init_36 rfl (pc2 := 37) rfl ?_
  refine j_iconst hc dX9_init_37 ic_5 (pc2 := 38) rfl ?_
  refine k_newa (n := 113) (len := 5) (t := 333) hc hop (by decide +kernel) (q_St_n (by decide +kernel)) (by decide +kernel) (by decide) (by decide +kernel) (by decide) (by decide +kernel) (t2 := 334) rfl (c2 := 5) rfl (s2 := 53) rfl ⟨by decide, by decide⟩ nw_arr dX9_init_38 (pc2 := 40) rfl ?_
  refine k_putR (t := 334) hc fl_X9_24 hi rfl (by decide +kernel) (q_lt (q_St_n (n := 114) (by decide +kernel)) (by decide)) rfl rfl (by decide +kernel) (t2 := 335) rfl dX9_init_40 (pc2 := 43) rfl ?_
  refine k_rl (k := 0) hc dX9_init_43 rfl (pc2 := 44) rfl ?_
  refine j_iconst hc dX9_init_44 ic_5 (pc2 := 45) rfl ?_
  refine k_newa (n := 114) (len := 5) (t := 335) hc hop (by decide +kernel) (q_St_n (by decide +kernel)) (by decide +kernel) (by decide) (by decide +kernel) (by decide) (by decide +kernel) (t2 := 336) rfl (c2 := 6) rfl (s2 := 58) rfl ⟨by decide, by decide⟩ nw_arr dX9_init_45 (pc2 := 47) rfl ?_
  refine k_putR (t := 336) hc fl_X9_27 hi rfl (by decide +kernel) (q_lt (q_St_n (n := 115) (by decide +kernel)) (by decide)) rfl rfl (by decide +kernel) (t2 := 337) rfl dX9_init_47 (pc2 := 50) rfl ?_
  refine k_rl (k := 0) hc dX9_init_50 rfl (pc2 := 51) rfl ?_
  refine j_iconst hc dX9_init_51 ic_5 (pc2 := 52) rfl ?_
  refine k_newa (n := 115) (len := 5) (t := 337) hc hop (by decide +kernel) (q_St_n (by decide +kernel)) (by decide +kernel) (by decide) (by decide +kernel) (by decide) (by decide +kernel) (t2 := 338) rfl (c2 := 7) rfl (s2 := 63) rfl ⟨by decide, by decide⟩ nw_arr dX9_init_52 (pc2 := 54) rfl ?_
  refine k_putR (t := 338) hc fl_X9_30 hi rfl (by decide +kernel) (q_lt (q_St_n (n := 116) (by decide +kernel)) (by decide)) rfl rfl (by decide +kernel) (t2 := 339) rfl dX9_init_54 (pc2 := 57) rfl ?_
  refine k_rl (k := 0) hc dX9_init_57 rfl (pc2 := 58) rfl ?_
  refine j_bipush hc dX9_init_58 bp_60 (pc2 := 60) rfl ?_
  refine k_newa (n := 116) (len := 60) (t := 339) hc hop (by decide +kernel) (q_St_n (by decide +kernel)) (by decide +kernel) (by decide) (by decide +kernel) (by decide) (by decide +kernel) (t2 := 340) rfl (c2 := 8) rfl (s2 := 123) rfl ⟨by decide, by decide⟩ nw_arr dX9_init_60 (pc2 := 62) rfl ?_
  refine k_putR (t := 340) hc fl_X9_33 hi rfl (by decide +kernel) (q_lt (q_St_n (n := 117) (by decide +kernel)) (by decide)) rfl rfl (by decide +kernel) (t2 := 341) rfl dX9_init_62 (pc2 := 65) rfl ?_
  refine k_rl (k := 0) hc dX9_init_65 rfl (pc2 := 66) rfl ?_
  refine j_iconst hc dX9_init_66 ic_0 (pc2 := 67) rfl ?_
  refine k_putI (t := 341) hc fl_X9_36 hi rfl (by decide +kernel) (q_lt (q_St_n (n := 117) (by decide +kernel)) (by decide)) rfl (by decide) (by decide +kernel) (t2 := 342) rfl dX9_init_67 (pc2 := 70) rfl ?_
  refine k_rl (k := 0) hc dX9_init_70 rfl (pc2 := 71) rfl ?_
  refine j_iconst hc dX9_init_71 ic_0 (pc2 := 72) rfl ?_
  refine k_putI (t := 342) hc fl_X9_40 hi rfl (by decide +kernel) (q_lt (q_St_n (n := 117) (by decide +kernel)) (by decide)) rfl (by decide) (by decide +kernel) (t2 := 343) rfl dX9_init_72 (pc2 := 75) rfl ?_
  refine k_rl (k := 0) hc dX9_init_75 rfl (pc2 := 76) rfl ?_
  refine j_iconst hc dX9_init_76 ic_0 (pc2 := 77) rfl ?_
  refine k_putI (t := 343) hc fl_X9_43 hi rfl (by decide +kernel) (q_lt (q_St_n (n := 117) (by decide +kernel)) (by decide)) rfl (by decide) (by decide +kernel) (t2 := 344) rfl dX9_init_77 (pc2 := 80) rfl ?_
  refine k_rl (k := 0) hc dX9_init_80 rfl (pc2 := 81) rfl ?_
  refine j_iconst hc dX9_init_81 ic_0 (pc2 := 82) rfl ?_
  refine k_putI (t := 344) hc fl_X9_46 hi rfl (by decide +kernel) (q_lt (q_St_n (n := 117) (by decide +kernel)) (by decide)) rfl (by decide) (by decide +kernel) (t2 := 345) rfl dX9_init_82 (pc2 := 85) rfl ?_
  refine k_rl (k := 0) hc dX9_init_85 rfl (pc2 := 86) rfl ?_
  refine j_iconst hc dX9_init_86 ic_0 (pc2 := 87) rfl ?_
  refine k_putI (t := 345) hc fl_X9_49 hi rfl (by decide +kernel) (q_lt (q_St_n (n := 117) (by decide +kernel)) (by decide)) rfl (by decide) (by decide +kernel) (t2 := 346) rfl dX9_init_87 (pc2 := 90) rfl ?_
  refine k_rl (k := 0) hc dX9_init_90 rfl (pc2 := 91) rfl ?_
  refine j_iconst hc dX9_init_91 ic_m1 (pc2 := 92) rfl ?_
  refine k_putI (t := 346) hc fl_X9_52 hi rfl (by decide +kernel) (q_lt (q_St_n (n := 117) (by decide +kernel)) (by decide)) rfl (by decide) (by decide +kernel) (t2 := 347) rfl dX9_init_92 (pc2 := 95) rfl ?_
  refine k_rl (k := 0) hc dX9_init_95 rfl (pc2 := 96) rfl ?_
  refine j_iconst hc dX9_init_96 ic_0 (pc2 := 97) rfl ?_
  refine k_putI (t := 347) hc fl_X9_55 hi rfl (by decide +kernel) (q_lt (q_St_n (n := 117) (by decide +kernel)) (by decide)) rfl (by decide) (by decide +kernel) (t2 := 348) rfl dX9_init_97 (pc2 := 100) rfl ?_
  refine k_rl (k := 0) hc dX9_init_100 rfl (pc2 := 101) rfl ?_
  refine j_iconst hc dX9_init_101 ic_0 (pc2 := 102) rfl ?_
  refine k_putI (t := 348) hc fl_X9_58 hi rfl (by decide +kernel) (q_lt (q_St_n (n := 117) (by decide +kernel)) (by decide)) rfl (by decide) (by decide +kernel) (t2 := 349) rfl dX9_init_102 (pc2 := 105) rfl ?_
  refine k_rl (k := 0) hc dX9_init_105 rfl (pc2 := 106) rfl ?_
  refine j_iconst hc dX9_init_106 ic_0 (pc2 := 107) rfl ?_
  refine k_putI (t := 349) hc fl_X9_61 hi rfl (by decide +kernel) (q_lt (q_St_n (n := 117) (by decide +kernel)) (by decide)) rfl (by decide) (by decide +kernel) (t2 := 350) rfl dX9_init_107 (pc2 := 110) rfl ?_
  refine k_rl (k := 0) hc dX9_init_110 rfl (pc2 := 111) rfl ?_
  refine j_iconst hc dX9_init_111 ic_0 (pc2 := 112) rfl ?_
  refine k_putI (t := 350) hc fl_X9_64 hi rfl (by decide +kernel) (q_lt (q_St_n (n := 117) (by decide +kernel)) (by decide)) rfl (by decide) (by decide +kernel) (t2 := 351) rfl dX9_init_112 (pc2 := 115) rfl ?_
  refine k_rl (k := 0) hc dX9_init_115 rfl (pc2 := 116) rfl ?_
  refine k_getR (x := 112) (t := 351) hc fl_X9_21 rfl (by decide +kernel) (q_lt (q_St_n (n := 117) (by decide +kernel)) (by decide)) (by decide +kernel) dX9_init_116 (pc2 := 119) rfl ?_
  refine j_iconst hc dX9_init_119 ic_m1 (pc2 := 120) rfl ?_
  refine k_fill (len := 12) (t := 351) hc (by decide +kernel) (q_lt (q_St_n (n := 117) (by decide +kernel)) (by decide)) (by decide) (by decide +kernel) (t2 := 352) rfl ln_X9_67 ⟨by decide, by decide⟩ ⟨by decide, by decide⟩ (Nat.le_of_ble_eq_true rfl) dX9_init_120 (pc2 := 123) rfl ?_
  refine k_rl (k := 0) hc dX9_init_123 rfl (pc2 := 124) rfl ?_
  refine k_getR (x := 116) (t := 352) hc fl_X9_33 rfl (by decide +kernel) (q_lt (q_St_n (n := 117) (by decide +kernel)) (by decide)) (by decide +kernel) dX9_init_124 (pc2 := 127) rfl ?_
  refine j_bipush hc dX9_init_127 bp_30 (pc2 := 129) rfl ?_
  refine k_fill (len := 60) (t := 352) hc (by decide +kernel) (q_lt (q_St_n (n := 117) (by decide +kernel)) (by decide)) (by decide) (by decide +kernel) (t2 := 353) rfl ln_X9_67 ⟨by decide, by decide⟩ ⟨by decide, by decide⟩ (Nat.le_of_ble_eq_true rfl) dX9_init_129 (pc2 := 132) rfl ?_
  exact j_vret hc dX9_init_132
set_option maxRecDepth 100000 in
set_option maxHeartbeats 4000000 in
theorem I_X1_init_171 {l : Launch} {w : q_Wd} (hop : w.2.2.2.2.2.1 = none) : q_M l w yX1_init cX1_init 2 none { frames := 2, cells := 55, slots := 852, locals := 43 } 55 852 [q_rf w 61] (q_St 171) 0 (q_St 354) := q_MofJ [some (q_rf w 61), none] (by decide +kernel) rfl rfl (Nat.le_of_ble_eq_true rfl) fun cx hl hAs hnm hc => by
  have hc : q_ok w cx RX1 cX1_init 2 none { frames := 2, cells := 55, slots := 852, locals := 43 } := hc
  have hi : q_inm cx RX1 1 := ⟨hnm, _, rfl⟩
  refine k_rl (k := 0) hc dX1_init_0 rfl (pc2 := 1) rfl ?_
  refine k_obj hc ob_X1_3 ob_w ⟨by decide, by decide⟩ (Nat.le_of_ble_eq_true rfl) dX1_init_1 (pc2 := 4) rfl ?_
  refine k_rl (k := 0) hc dX1_init_4 rfl (pc2 := 5) rfl ?_
  refine j_bipush hc dX1_init_5 bp_6 (pc2 := 7) rfl ?_
  refine k_newq (n := 62) (len := 6) (t := 171) hc hop nw_q (by decide +kernel) (q_St_n (by decide +kernel)) (by decide +kernel) (by decide) (by decide +kernel) (by decide) (by decide +kernel) (t2 := 172) rfl (c2 := 1) rfl (s2 := 6) rfl ⟨by decide, by decide⟩ dX1_init_7 (pc2 := 10) rfl ?_
  refine k_putR (t := 172) hc fl_X1_11 hi rfl (by decide +kernel) (q_lt (q_St_n (n := 63) (by decide +kernel)) (by decide)) rfl rfl (by decide +kernel) (t2 := 173) rfl dX1_init_10 (pc2 := 13) rfl ?_
  refine k_rl (k := 0) hc dX1_init_13 rfl (pc2 := 14) rfl ?_
  refine j_iconst hc dX1_init_14 ic_0 (pc2 := 15) rfl ?_
  refine k_putI (t := 173) hc fl_X1_17 hi rfl (by decide +kernel) (q_lt (q_St_n (n := 63) (by decide +kernel)) (by decide)) rfl (by decide) (by decide +kernel) (t2 := 174) rfl dX1_init_15 (pc2 := 18) rfl ?_
  refine j_iconst hc dX1_init_18 ic_0 (pc2 := 19) rfl ?_
  refine j_istore_n (i := 1) hc dX1_init_19 (by decide) (L2 := [some (q_rf w 61), some (.int 0)]) rfl (pc2 := 20) rfl ?_
  refine j_iload_n (k := 1) hc dX1_init_20 rfl (pc2 := 21) rfl ?_
  refine j_bipush hc dX1_init_21 bp_6 (pc2 := 23) rfl ?_
  refine j_icmp_ge hc dX1_init_23 (pc1 := 26) (pc2 := 45) rfl rfl (fun _ => ?_) (fun z => absurd (by decide) z)
  refine k_rl (k := 0) hc dX1_init_26 rfl (pc2 := 27) rfl ?_
  refine k_getR (x := 62) (t := 174) hc fl_X1_11 rfl (by decide +kernel) (q_lt (q_St_n (n := 63) (by decide +kernel)) (by decide)) (by decide +kernel) dX1_init_27 (pc2 := 30) rfl ?_
  refine j_iload_n (k := 1) hc dX1_init_30 rfl (pc2 := 31) rfl ?_
  refine k_new (n := 63) (t := 174) hc hop cl_9 (nw_X1_9) df_9 (by decide +kernel) (q_St_n (by decide +kernel)) (by decide +kernel) (by decide +kernel) (t2 := 175) rfl (c2 := 2) rfl (s2 := 24) rfl ⟨by decide, by decide⟩ dX1_init_31 (pc2 := 34) rfl ?_
  refine j_dup hc dX1_init_34 rfl (pc2 := 35) rfl ?_
  refine k_init (As := []) hc (I_X9_init_175 hop) mi_X9_init rfl ln_X1_21 rfl rfl ⟨by decide, by decide⟩ (c2 := 10) rfl (s2 := 147) rfl ⟨by decide, by decide⟩ (Nat.le_of_ble_eq_true rfl) dX1_init_35 (pc2 := 38) rfl ?_
  refine k_aast (len := 6) (t := 203) hc (by decide +kernel) (q_lt (q_St_n (n := 72) (by decide +kernel)) (by decide)) (by decide +kernel) (q_lt (q_St_n (n := 72) (by decide +kernel)) (by decide)) (by decide) ⟨by decide, by decide⟩ (by decide +kernel) (t2 := 204) rfl dX1_init_38 (pc2 := 39) rfl ?_
  refine j_iinc (v := 1) hc dX1_init_39 rfl (by decide) (by decide) (L2 := [some (q_rf w 61), some (.int 1)]) rfl (pc2 := 42) rfl ?_
  refine j_goto hc dX1_init_42 (pc2 := 20) rfl ?_
  refine j_iload_n (k := 1) hc dX1_init_20 rfl (pc2 := 21) rfl ?_
  refine j_bipush hc dX1_init_21 bp_6 (pc2 := 23) rfl ?_
  refine j_icmp_ge hc dX1_init_23 (pc1 := 26) (pc2 := 45) rfl rfl (fun _ => ?_) (fun z => absurd (by decide) z)
  refine k_rl (k := 0) hc dX1_init_26 rfl (pc2 := 27) rfl ?_
  refine k_getR (x := 62) (t := 204) hc fl_X1_11 rfl (by decide +kernel) (q_lt (q_St_n (n := 72) (by decide +kernel)) (by decide)) (by decide +kernel) dX1_init_27 (pc2 := 30) rfl ?_
  refine j_iload_n (k := 1) hc dX1_init_30 rfl (pc2 := 31) rfl ?_
  refine k_new (n := 72) (t := 204) hc hop cl_9 (nw_X1_9) df_9 (by decide +kernel) (q_St_n (by decide +kernel)) (by decide +kernel) (by decide +kernel) (t2 := 205) rfl (c2 := 11) rfl (s2 := 165) rfl ⟨by decide, by decide⟩ dX1_init_31 (pc2 := 34) rfl ?_
  refine j_dup hc dX1_init_34 rfl (pc2 := 35) rfl ?_
  refine k_init (As := []) hc (I_X9_init_205 hop) mi_X9_init rfl ln_X1_21 rfl rfl ⟨by decide, by decide⟩ (c2 := 19) rfl (s2 := 288) rfl ⟨by decide, by decide⟩ (Nat.le_of_ble_eq_true rfl) dX1_init_35 (pc2 := 38) rfl ?_
  refine k_aast (len := 6) (t := 233) hc (by decide +kernel) (q_lt (q_St_n (n := 81) (by decide +kernel)) (by decide)) (by decide +kernel) (q_lt (q_St_n (n := 81) (by decide +kernel)) (by decide)) (by decide) ⟨by decide, by decide⟩ (by decide +kernel) (t2 := 234) rfl dX1_init_38 (pc2 := 39) rfl ?_
  refine j_iinc (v := 2) hc dX1_init_39 rfl (by decide) (by decide) (L2 := [some (q_rf w 61), some (.int 2)]) rfl (pc2 := 42) rfl ?_
  refine j_goto hc dX1_init_42 (pc2 := 20) rfl ?_
  refine j_iload_n (k := 1) hc dX1_init_20 rfl (pc2 := 21) rfl ?_
  refine j_bipush hc dX1_init_21 bp_6 (pc2 := 23) rfl ?_
  refine j_icmp_ge hc dX1_init_23 (pc1 := 26) (pc2 := 45) rfl rfl (fun _ => ?_) (fun z => absurd (by decide) z)
  refine k_rl (k := 0) hc dX1_init_26 rfl (pc2 := 27) rfl ?_
  refine k_getR (x := 62) (t := 234) hc fl_X1_11 rfl (by decide +kernel) (q_lt (q_St_n (n := 81) (by decide +kernel)) (by decide)) (by decide +kernel) dX1_init_27 (pc2 := 30) rfl ?_
  refine j_iload_n (k := 1) hc dX1_init_30 rfl (pc2 := 31) rfl ?_
  refine k_new (n := 81) (t := 234) hc hop cl_9 (nw_X1_9) df_9 (by decide +kernel) (q_St_n (by decide +kernel)) (by decide +kernel) (by decide +kernel) (t2 := 235) rfl (c2 := 20) rfl (s2 := 306) rfl ⟨by decide, by decide⟩ dX1_init_31 (pc2 := 34) rfl ?_
  refine j_dup hc dX1_init_34 rfl (pc2 := 35) rfl ?_
  refine k_init (As := []) hc (I_X9_init_235 hop) mi_X9_init rfl ln_X1_21 rfl rfl ⟨by decide, by decide⟩ (c2 := 28) rfl (s2 := 429) rfl ⟨by decide, by decide⟩ (Nat.le_of_ble_eq_true rfl) dX1_init_35 (pc2 := 38) rfl ?_
  refine k_aast (len := 6) (t := 263) hc (by decide +kernel) (q_lt (q_St_n (n := 90) (by decide +kernel)) (by decide)) (by decide +kernel) (q_lt (q_St_n (n := 90) (by decide +kernel)) (by decide)) (by decide) ⟨by decide, by decide⟩ (by decide +kernel) (t2 := 264) rfl dX1_init_38 (pc2 := 39) rfl ?_
  refine j_iinc (v := 3) hc dX1_init_39 rfl (by decide) (by decide) (L2 := [some (q_rf w 61), some (.int 3)]) rfl (pc2 := 42) rfl ?_
  refine j_goto hc dX1_init_42 (pc2 := 20) rfl ?_
  refine j_iload_n (k := 1) hc dX1_init_20 rfl (pc2 := 21) rfl ?_
  refine j_bipush hc dX1_init_21 bp_6 (pc2 := 23) rfl ?_
  refine j_icmp_ge hc dX1_init_23 (pc1 := 26) (pc2 := 45) rfl rfl (fun _ => ?_) (fun z => absurd (by decide) z)
  refine k_rl (k := 0) hc dX1_init_26 rfl (pc2 := 27) rfl ?_
  refine k_getR (x := 62) (t := 264) hc fl_X1_11 rfl (by decide +kernel) (q_lt (q_St_n (n := 90) (by decide +kernel)) (by decide)) (by decide +kernel) dX1_init_27 (pc2 := 30) rfl ?_
  refine j_iload_n (k := 1) hc dX1_init_30 rfl (pc2 := 31) rfl ?_
  refine k_new (n := 90) (t := 264) hc hop cl_9 (nw_X1_9) df_9 (by decide +kernel) (q_St_n (by decide +kernel)) (by decide +kernel) (by decide +kernel) (t2 := 265) rfl (c2 := 29) rfl (s2 := 447) rfl ⟨by decide, by decide⟩ dX1_init_31 (pc2 := 34) rfl ?_
  refine j_dup hc dX1_init_34 rfl (pc2 := 35) rfl ?_
  refine k_init (As := []) hc (I_X9_init_265 hop) mi_X9_init rfl ln_X1_21 rfl rfl ⟨by decide, by decide⟩ (c2 := 37) rfl (s2 := 570) rfl ⟨by decide, by decide⟩ (Nat.le_of_ble_eq_true rfl) dX1_init_35 (pc2 := 38) rfl ?_
  refine k_aast (len := 6) (t := 293) hc (by decide +kernel) (q_lt (q_St_n (n := 99) (by decide +kernel)) (by decide)) (by decide +kernel) (q_lt (q_St_n (n := 99) (by decide +kernel)) (by decide)) (by decide) ⟨by decide, by decide⟩ (by decide +kernel) (t2 := 294) rfl dX1_init_38 (pc2 := 39) rfl ?_
  refine j_iinc (v := 4) hc dX1_init_39 rfl (by decide) (by decide) (L2 := [some (q_rf w 61), some (.int 4)]) rfl (pc2 := 42) rfl ?_
  refine j_goto hc dX1_init_42 (pc2 := 20) rfl ?_
  refine j_iload_n (k := 1) hc dX1_init_20 rfl (pc2 := 21) rfl ?_
  refine j_bipush hc dX1_init_21 bp_6 (pc2 := 23) rfl ?_
  refine j_icmp_ge hc dX1_init_23 (pc1 := 26) (pc2 := 45) rfl rfl (fun _ => ?_) (fun z => absurd (by decide) z)
  refine k_rl (k := 0) hc dX1_init_26 rfl (pc2 := 27) rfl ?_
  refine k_getR (x := 62) (t := 294) hc fl_X1_11 rfl (by decide +kernel) (q_lt (q_St_n (n := 99) (by decide +kernel)) (by decide)) (by decide +kernel) dX1_init_27 (pc2 := 30) rfl ?_
  refine j_iload_n (k := 1) hc dX1_init_30 rfl (pc2 := 31) rfl ?_
  refine k_new (n := 99) (t := 294) hc hop cl_9 (nw_X1_9) df_9 (by decide +kernel) (q_St_n (by decide +kernel)) (by decide +kernel) (by decide +kernel) (t2 := 295) rfl (c2 := 38) rfl (s2 := 588) rfl ⟨by decide, by decide⟩ dX1_init_31 (pc2 := 34) rfl ?_
  refine j_dup hc dX1_init_34 rfl (pc2 := 35) rfl ?_
  refine k_init (As := []) hc (I_X9_init_295 hop) mi_X9_init rfl ln_X1_21 rfl rfl ⟨by decide, by decide⟩ (c2 := 46) rfl (s2 := 711) rfl ⟨by decide, by decide⟩ (Nat.le_of_ble_eq_true rfl) dX1_init_35 (pc2 := 38) rfl ?_
  refine k_aast (len := 6) (t := 323) hc (by decide +kernel) (q_lt (q_St_n (n := 108) (by decide +kernel)) (by decide)) (by decide +kernel) (q_lt (q_St_n (n := 108) (by decide +kernel)) (by decide)) (by decide) ⟨by decide, by decide⟩ (by decide +kernel) (t2 := 324) rfl dX1_init_38 (pc2 := 39) rfl ?_
  refine j_iinc (v := 5) hc dX1_init_39 rfl (by decide) (by decide) (L2 := [some (q_rf w 61), some (.int 5)]) rfl (pc2 := 42) rfl ?_
  refine j_goto hc dX1_init_42 (pc2 := 20) rfl ?_
  refine j_iload_n (k := 1) hc dX1_init_20 rfl (pc2 := 21) rfl ?_
  refine j_bipush hc dX1_init_21 bp_6 (pc2 := 23) rfl ?_
  refine j_icmp_ge hc dX1_init_23 (pc1 := 26) (pc2 := 45) rfl rfl (fun _ => ?_) (fun z => absurd (by decide) z)
  refine k_rl (k := 0) hc dX1_init_26 rfl (pc2 := 27) rfl ?_
  refine k_getR (x := 62) (t := 324) hc fl_X1_11 rfl (by decide +kernel) (q_lt (q_St_n (n := 108) (by decide +kernel)) (by decide)) (by decide +kernel) dX1_init_27 (pc2 := 30) rfl ?_
  refine j_iload_n (k := 1) hc dX1_init_30 rfl (pc2 := 31) rfl ?_
  refine k_new (n := 108) (t := 324) hc hop cl_9 (nw_X1_9) df_9 (by decide +kernel) (q_St_n (by decide +kernel)) (by decide +kernel) (by decide +kernel) (t2 := 325) rfl (c2 := 47) rfl (s2 := 729) rfl ⟨by decide, by decide⟩ dX1_init_31 (pc2 := 34) rfl ?_
  refine j_dup hc dX1_init_34 rfl (pc2 := 35) rfl ?_
  refine k_init (As := []) hc (I_X9_init_325 hop) mi_X9_init rfl ln_X1_21 rfl rfl ⟨by decide, by decide⟩ (c2 := 55) rfl (s2 := 852) rfl ⟨by decide, by decide⟩ (Nat.le_of_ble_eq_true rfl) dX1_init_35 (pc2 := 38) rfl ?_
  refine k_aast (len := 6) (t := 353) hc (by decide +kernel) (q_lt (q_St_n (n := 117) (by decide +kernel)) (by decide)) (by decide +kernel) (q_lt (q_St_n (n := 117) (by decide +kernel)) (by decide)) (by decide) ⟨by decide, by decide⟩ (by decide +kernel) (t2 := 354) rfl dX1_init_38 (pc2 := 39) rfl ?_
  refine j_iinc (v := 6) hc dX1_init_39 rfl (by decide) (by decide) (L2 := [some (q_rf w 61), some (.int 6)]) rfl (pc2 := 42) rfl ?_
  refine j_goto hc dX1_init_42 (pc2 := 20) rfl ?_
  refine j_iload_n (k := 1) hc dX1_init_20 rfl (pc2 := 21) rfl ?_
  refine j_bipush hc dX1_init_21 bp_6 (pc2 := 23) rfl ?_
  refine j_icmp_ge hc dX1_init_23 (pc1 := 26) (pc2 := 45) rfl rfl (fun z => absurd z (by decide)) (fun _ => ?_)
  exact j_vret hc dX1_init_45
set_option maxRecDepth 100000 in
set_option maxHeartbeats 4000000 in
theorem I_X9_init_356 {l : Launch} {w : q_Wd} (hop : w.2.2.2.2.2.1 = none) : q_M l w yX9_init cX9_init 1 none { frames := 1, cells := 8, slots := 123, locals := 23 } 8 123 [q_rf w 117] (q_St 356) 0 (q_St 384) := q_MofJ [some (q_rf w 117)] (by decide +kernel) rfl rfl (Nat.le_of_ble_eq_true rfl) fun cx hl hAs hnm hc => by
  have hc : q_ok w cx RX9 cX9_init 1 none { frames := 1, cells := 8, slots := 123, locals := 23 } := hc
  have hi : q_inm cx RX9 9 := ⟨hnm, _, rfl⟩
  refine k_rl (k := 0) hc dX9_init_0 rfl (pc2 := 1) rfl ?_
  refine k_obj hc ob_X9_3 ob_w ⟨by decide, by decide⟩ (Nat.le_of_ble_eq_true rfl) dX9_init_1 (pc2 := 4) rfl ?_
  refine k_rl (k := 0) hc dX9_init_4 rfl (pc2 := 5) rfl ?_
  refine j_bipush hc dX9_init_5 bp_12 (pc2 := 7) rfl ?_
  refine k_newa (n := 118) (len := 12) (t := 356) hc hop (by decide +kernel) (q_St_n (by decide +kernel)) (by decide +kernel) (by decide) (by decide +kernel) (by decide) (by decide +kernel) (t2 := 357) rfl (c2 := 1) rfl (s2 := 12) rfl ⟨by decide, by decide⟩ nw_arr dX9_init_7 (pc2 := 9) rfl ?_
  refine k_putR (t := 357) hc fl_X9_9 hi rfl (by decide +kernel) (q_lt (q_St_n (n := 119) (by decide +kernel)) (by decide)) rfl rfl (by decide +kernel) (t2 := 358) rfl dX9_init_9 (pc2 := 12) rfl ?_
  refine k_rl (k := 0) hc dX9_init_12 rfl (pc2 := 13) rfl ?_
  refine j_bipush hc dX9_init_13 bp_12 (pc2 := 15) rfl ?_
  refine k_newa (n := 119) (len := 12) (t := 358) hc hop (by decide +kernel) (q_St_n (by decide +kernel)) (by decide +kernel) (by decide) (by decide +kernel) (by decide) (by decide +kernel) (t2 := 359) rfl (c2 := 2) rfl (s2 := 24) rfl ⟨by decide, by decide⟩ nw_arr dX9_init_15 (pc2 := 17) rfl ?_
  refine k_putR (t := 359) hc fl_X9_15 hi rfl (by decide +kernel) (q_lt (q_St_n (n := 120) (by decide +kernel)) (by decide)) rfl rfl (by decide +kernel) (t2 := 360) rfl dX9_init_17 (pc2 := 20) rfl ?_
  refine k_rl (k := 0) hc dX9_init_20 rfl (pc2 := 21) rfl ?_
  refine j_bipush hc dX9_init_21 bp_12 (pc2 := 23) rfl ?_
  refine k_newa (n := 120) (len := 12) (t := 360) hc hop (by decide +kernel) (q_St_n (by decide +kernel)) (by decide +kernel) (by decide) (by decide +kernel) (by decide) (by decide +kernel) (t2 := 361) rfl (c2 := 3) rfl (s2 := 36) rfl ⟨by decide, by decide⟩ nw_arr dX9_init_23 (pc2 := 25) rfl ?_
  refine k_putR (t := 361) hc fl_X9_18 hi rfl (by decide +kernel) (q_lt (q_St_n (n := 121) (by decide +kernel)) (by decide)) rfl rfl (by decide +kernel) (t2 := 362) rfl dX9_init_25 (pc2 := 28) rfl ?_
  refine k_rl (k := 0) hc dX9_init_28 rfl (pc2 := 29) rfl ?_
  refine j_bipush hc dX9_init_29 bp_12 (pc2 := 31) rfl ?_
  refine k_newa (n := 121) (len := 12) (t := 362) hc hop (by decide +kernel) (q_St_n (by decide +kernel)) (by decide +kernel) (by decide) (by decide +kernel) (by decide) (by decide +kernel) (t2 := 363) rfl (c2 := 4) rfl (s2 := 48) rfl ⟨by decide, by decide⟩ nw_arr dX9_init_31 (pc2 := 33) rfl ?_
  refine k_putR (t := 363) hc fl_X9_21 hi rfl (by decide +kernel) (q_lt (q_St_n (n := 122) (by decide +kernel)) (by decide)) rfl rfl (by decide +kernel) (t2 := 364) rfl dX9_init_33 (pc2 := 36) rfl ?_
  refine k_rl (k := 0) hc dX9_init_36 rfl (pc2 := 37) rfl ?_
  refine j_iconst hc dX9_init_37 ic_5 (pc2 := 38) rfl ?_
  refine k_newa (n := 122) (len := 5) (t := 364) hc hop (by decide +kernel) (q_St_n (by decide +kernel)) (by decide +kernel) (by decide) (by decide +kernel) (by decide) (by decide +kernel) (t2 := 365) rfl (c2 := 5) rfl (s2 := 53) rfl ⟨by decide, by decide⟩ nw_arr dX9_init_38 (pc2 := 40) rfl ?_
  refine k_putR (t := 365) hc fl_X9_24 hi rfl (by decide +kernel) (q_lt (q_St_n (n := 123) (by decide +kernel)) (by decide)) rfl rfl (by decide +kernel) (t2 := 366) rfl dX9_init_40 (pc2 := 43) rfl ?_
  refine k_rl (k := 0) hc dX9_init_43 rfl (pc2 := 44) rfl ?_
  refine j_iconst hc dX9_init_44 ic_5 (pc2 := 45) rfl ?_
  refine k_newa (n := 123) (len := 5) (t := 366) hc hop (by decide +kernel) (q_St_n (by decide +kernel)) (by decide +kernel) (by decide) (by decide +kernel) (by decide) (by decide +kernel) (t2 := 367) rfl (c2 := 6) rfl (s2 := 58) rfl ⟨by decide, by decide⟩ nw_arr dX9_init_45 (pc2 := 47) rfl ?_
  refine k_putR (t := 367) hc fl_X9_27 hi rfl (by decide +kernel) (q_lt (q_St_n (n := 124) (by decide +kernel)) (by decide)) rfl rfl (by decide +kernel) (t2 := 368) rfl dX9_init_47 (pc2 := 50) rfl ?_
  refine k_rl (k := 0) hc dX9_init_50 rfl (pc2 := 51) rfl ?_
  refine j_iconst hc dX9_init_51 ic_5 (pc2 := 52) rfl ?_
  refine k_newa (n := 124) (len := 5) (t := 368) hc hop (by decide +kernel) (q_St_n (by decide +kernel)) (by decide +kernel) (by decide) (by decide +kernel) (by decide) (by decide +kernel) (t2 := 369) rfl (c2 := 7) rfl (s2 := 63) rfl ⟨by decide, by decide⟩ nw_arr dX9_init_52 (pc2 := 54) rfl ?_
  refine k_putR (t := 369) hc fl_X9_30 hi rfl (by decide +kernel) (q_lt (q_St_n (n := 125) (by decide +kernel)) (by decide)) rfl rfl (by decide +kernel) (t2 := 370) rfl dX9_init_54 (pc2 := 57) rfl ?_
  refine k_rl (k := 0) hc dX9_init_57 rfl (pc2 := 58) rfl ?_
  refine j_bipush hc dX9_init_58 bp_60 (pc2 := 60) rfl ?_
  refine k_newa (n := 125) (len := 60) (t := 370) hc hop (by decide +kernel) (q_St_n (by decide +kernel)) (by decide +kernel) (by decide) (by decide +kernel) (by decide) (by decide +kernel) (t2 := 371) rfl (c2 := 8) rfl (s2 := 123) rfl ⟨by decide, by decide⟩ nw_arr dX9_init_60 (pc2 := 62) rfl ?_
  refine k_putR (t := 371) hc fl_X9_33 hi rfl (by decide +kernel) (q_lt (q_St_n (n := 126) (by decide +kernel)) (by decide)) rfl rfl (by decide +kernel) (t2 := 372) rfl dX9_init_62 (pc2 := 65) rfl ?_
  refine k_rl (k := 0) hc dX9_init_65 rfl (pc2 := 66) rfl ?_
  refine j_iconst hc dX9_init_66 ic_0 (pc2 := 67) rfl ?_
  refine k_putI (t := 372) hc fl_X9_36 hi rfl (by decide +kernel) (q_lt (q_St_n (n := 126) (by decide +kernel)) (by decide)) rfl (by decide) (by decide +kernel) (t2 := 373) rfl dX9_init_67 (pc2 := 70) rfl ?_
  refine k_rl (k := 0) hc dX9_init_70 rfl (pc2 := 71) rfl ?_
  refine j_iconst hc dX9_init_71 ic_0 (pc2 := 72) rfl ?_
  refine k_putI (t := 373) hc fl_X9_40 hi rfl (by decide +kernel) (q_lt (q_St_n (n := 126) (by decide +kernel)) (by decide)) rfl (by decide) (by decide +kernel) (t2 := 374) rfl dX9_init_72 (pc2 := 75) rfl ?_
  refine k_rl (k := 0) hc dX9_init_75 rfl (pc2 := 76) rfl ?_
  refine j_iconst hc dX9_init_76 ic_0 (pc2 := 77) rfl ?_
  refine k_putI (t := 374) hc fl_X9_43 hi rfl (by decide +kernel) (q_lt (q_St_n (n := 126) (by decide +kernel)) (by decide)) rfl (by decide) (by decide +kernel) (t2 := 375) rfl dX9_init_77 (pc2 := 80) rfl ?_
  refine k_rl (k := 0) hc dX9_init_80 rfl (pc2 := 81) rfl ?_
  refine j_iconst hc dX9_init_81 ic_0 (pc2 := 82) rfl ?_
  refine k_putI (t := 375) hc fl_X9_46 hi rfl (by decide +kernel) (q_lt (q_St_n (n := 126) (by decide +kernel)) (by decide)) rfl (by decide) (by decide +kernel) (t2 := 376) rfl dX9_init_82 (pc2 := 85) rfl ?_
  refine k_rl (k := 0) hc dX9_init_85 rfl (pc2 := 86) rfl ?_
  refine j_iconst hc dX9_init_86 ic_0 (pc2 := 87) rfl ?_
  refine k_putI (t := 376) hc fl_X9_49 hi rfl (by decide +kernel) (q_lt (q_St_n (n := 126) (by decide +kernel)) (by decide)) rfl (by decide) (by decide +kernel) (t2 := 377) rfl dX9_init_87 (pc2 := 90) rfl ?_
  refine k_rl (k := 0) hc dX9_init_90 rfl (pc2 := 91) rfl ?_
  refine j_iconst hc dX9_init_91 ic_m1 (pc2 := 92) rfl ?_
  refine k_putI (t := 377) hc fl_X9_52 hi rfl (by decide +kernel) (q_lt (q_St_n (n := 126) (by decide +kernel)) (by decide)) rfl (by decide) (by decide +kernel) (t2 := 378) rfl dX9_init_92 (pc2 := 95) rfl ?_
  refine k_rl (k := 0) hc dX9_init_95 rfl (pc2 := 96) rfl ?_
  refine j_iconst hc dX9_init_96 ic_0 (pc2 := 97) rfl ?_
  refine k_putI (t := 378) hc fl_X9_55 hi rfl (by decide +kernel) (q_lt (q_St_n (n := 126) (by decide +kernel)) (by decide)) rfl (by decide) (by decide +kernel) (t2 := 379) rfl dX9_init_97 (pc2 := 100) rfl ?_
  refine k_rl (k := 0) hc dX9_init_100 rfl (pc2 := 101) rfl ?_
  refine j_iconst hc dX9_init_101 ic_0 (pc2 := 102) rfl ?_
  refine k_putI (t := 379) hc fl_X9_58 hi rfl (by decide +kernel) (q_lt (q_St_n (n := 126) (by decide +kernel)) (by decide)) rfl (by decide) (by decide +kernel) (t2 := 380) rfl dX9_init_102 (pc2 := 105) rfl ?_
  refine k_rl (k := 0) hc dX9_init_105 rfl (pc2 := 106) rfl ?_
  refine j_iconst hc dX9_init_106 ic_0 (pc2 := 107) rfl ?_
  refine k_putI (t := 380) hc fl_X9_61 hi rfl (by decide +kernel) (q_lt (q_St_n (n := 126) (by decide +kernel)) (by decide)) rfl (by decide) (by decide +kernel) (t2 := 381) rfl dX9_init_107 (pc2 := 110) rfl ?_
  refine k_rl (k := 0) hc dX9_init_110 rfl (pc2 := 111) rfl ?_
  refine j_iconst hc dX9_init_111 ic_0 (pc2 := 112) rfl ?_
  refine k_putI (t := 381) hc fl_X9_64 hi rfl (by decide +kernel) (q_lt (q_St_n (n := 126) (by decide +kernel)) (by decide)) rfl (by decide) (by decide +kernel) (t2 := 382) rfl dX9_init_112 (pc2 := 115) rfl ?_
  refine k_rl (k := 0) hc dX9_init_115 rfl (pc2 := 116) rfl ?_
  refine k_getR (x := 121) (t := 382) hc fl_X9_21 rfl (by decide +kernel) (q_lt (q_St_n (n := 126) (by decide +kernel)) (by decide)) (by decide +kernel) dX9_init_116 (pc2 := 119) rfl ?_
  refine j_iconst hc dX9_init_119 ic_m1 (pc2 := 120) rfl ?_
  refine k_fill (len := 12) (t := 382) hc (by decide +kernel) (q_lt (q_St_n (n := 126) (by decide +kernel)) (by decide)) (by decide) (by decide +kernel) (t2 := 383) rfl ln_X9_67 ⟨by decide, by decide⟩ ⟨by decide, by decide⟩ (Nat.le_of_ble_eq_true rfl) dX9_init_120 (pc2 := 123) rfl ?_
  refine k_rl (k := 0) hc dX9_init_123 rfl (pc2 := 124) rfl ?_
  refine k_getR (x := 125) (t := 383) hc fl_X9_33 rfl (by decide +kernel) (q_lt (q_St_n (n := 126) (by decide +kernel)) (by decide)) (by decide +kernel) dX9_init_124 (pc2 := 127) rfl ?_
  refine j_bipush hc dX9_init_127 bp_30 (pc2 := 129) rfl ?_
  refine k_fill (len := 60) (t := 383) hc (by decide +kernel) (q_lt (q_St_n (n := 126) (by decide +kernel)) (by decide)) (by decide) (by decide +kernel) (t2 := 384) rfl ln_X9_67 ⟨by decide, by decide⟩ ⟨by decide, by decide⟩ (Nat.le_of_ble_eq_true rfl) dX9_init_129 (pc2 := 132) rfl ?_
  exact j_vret hc dX9_init_132
set_option maxRecDepth 100000 in
set_option maxHeartbeats 4000000 in
theorem I_X0_init_386 {l : Launch} {w : q_Wd} (hop : w.2.2.2.2.2.1 = none) : q_M l w yX0_init cX0_init 1 none { frames := 1, cells := 5, slots := 893, locals := 20 } 5 893 [q_rf w 126] (q_St 386) 0 (q_St 400) := q_MofJ [some (q_rf w 126)] (by decide +kernel) rfl rfl (Nat.le_of_ble_eq_true rfl) fun cx hl hAs hnm hc => by
  have hc : q_ok w cx RX0 cX0_init 1 none { frames := 1, cells := 5, slots := 893, locals := 20 } := hc
  have hi : q_inm cx RX0 0 := ⟨hnm, _, rfl⟩
  refine k_rl (k := 0) hc dX0_init_0 rfl (pc2 := 1) rfl ?_
  refine k_obj hc ob_X0_3 ob_w ⟨by decide, by decide⟩ (Nat.le_of_ble_eq_true rfl) dX0_init_1 (pc2 := 4) rfl ?_
  refine k_rl (k := 0) hc dX0_init_4 rfl (pc2 := 5) rfl ?_
  refine j_bipush hc dX0_init_5 bp_12 (pc2 := 7) rfl ?_
  refine k_newa (n := 127) (len := 12) (t := 386) hc hop (by decide +kernel) (q_St_n (by decide +kernel)) (by decide +kernel) (by decide) (by decide +kernel) (by decide) (by decide +kernel) (t2 := 387) rfl (c2 := 1) rfl (s2 := 12) rfl ⟨by decide, by decide⟩ nw_arr dX0_init_7 (pc2 := 9) rfl ?_
  refine k_putR (t := 387) hc fl_X0_9 hi rfl (by decide +kernel) (q_lt (q_St_n (n := 128) (by decide +kernel)) (by decide)) rfl rfl (by decide +kernel) (t2 := 388) rfl dX0_init_9 (pc2 := 12) rfl ?_
  refine k_rl (k := 0) hc dX0_init_12 rfl (pc2 := 13) rfl ?_
  refine j_bipush hc dX0_init_13 bp_12 (pc2 := 15) rfl ?_
  refine k_newa (n := 128) (len := 12) (t := 388) hc hop (by decide +kernel) (q_St_n (by decide +kernel)) (by decide +kernel) (by decide) (by decide +kernel) (by decide) (by decide +kernel) (t2 := 389) rfl (c2 := 2) rfl (s2 := 24) rfl ⟨by decide, by decide⟩ nw_arr dX0_init_15 (pc2 := 17) rfl ?_
  refine k_putR (t := 389) hc fl_X0_15 hi rfl (by decide +kernel) (q_lt (q_St_n (n := 129) (by decide +kernel)) (by decide)) rfl rfl (by decide +kernel) (t2 := 390) rfl dX0_init_17 (pc2 := 20) rfl ?_
  refine k_rl (k := 0) hc dX0_init_20 rfl (pc2 := 21) rfl ?_
  refine j_sipush hc dX0_init_21 sp_720 (pc2 := 24) rfl ?_
  refine k_newa (n := 129) (len := 720) (t := 390) hc hop (by decide +kernel) (q_St_n (by decide +kernel)) (by decide +kernel) (by decide) (by decide +kernel) (by decide) (by decide +kernel) (t2 := 391) rfl (c2 := 3) rfl (s2 := 744) rfl ⟨by decide, by decide⟩ nw_arr dX0_init_24 (pc2 := 26) rfl ?_
  refine k_putR (t := 391) hc fl_X0_18 hi rfl (by decide +kernel) (q_lt (q_St_n (n := 130) (by decide +kernel)) (by decide)) rfl rfl (by decide +kernel) (t2 := 392) rfl dX0_init_26 (pc2 := 29) rfl ?_
  refine k_rl (k := 0) hc dX0_init_29 rfl (pc2 := 30) rfl ?_
  refine j_sipush hc dX0_init_30 sp_144 (pc2 := 33) rfl ?_
  refine k_newa (n := 130) (len := 144) (t := 392) hc hop (by decide +kernel) (q_St_n (by decide +kernel)) (by decide +kernel) (by decide) (by decide +kernel) (by decide) (by decide +kernel) (t2 := 393) rfl (c2 := 4) rfl (s2 := 888) rfl ⟨by decide, by decide⟩ nw_arr dX0_init_33 (pc2 := 35) rfl ?_
  refine k_putR (t := 393) hc fl_X0_21 hi rfl (by decide +kernel) (q_lt (q_St_n (n := 131) (by decide +kernel)) (by decide)) rfl rfl (by decide +kernel) (t2 := 394) rfl dX0_init_35 (pc2 := 38) rfl ?_
  refine k_rl (k := 0) hc dX0_init_38 rfl (pc2 := 39) rfl ?_
  refine j_iconst hc dX0_init_39 ic_5 (pc2 := 40) rfl ?_
  refine k_newa (n := 131) (len := 5) (t := 394) hc hop (by decide +kernel) (q_St_n (by decide +kernel)) (by decide +kernel) (by decide) (by decide +kernel) (by decide) (by decide +kernel) (t2 := 395) rfl (c2 := 5) rfl (s2 := 893) rfl ⟨by decide, by decide⟩ nw_arr dX0_init_40 (pc2 := 42) rfl ?_
  refine k_putR (t := 395) hc fl_X0_24 hi rfl (by decide +kernel) (q_lt (q_St_n (n := 132) (by decide +kernel)) (by decide)) rfl rfl (by decide +kernel) (t2 := 396) rfl dX0_init_42 (pc2 := 45) rfl ?_
  refine k_rl (k := 0) hc dX0_init_45 rfl (pc2 := 46) rfl ?_
  refine j_iconst hc dX0_init_46 ic_0 (pc2 := 47) rfl ?_
  refine k_putI (t := 396) hc fl_X0_27 hi rfl (by decide +kernel) (q_lt (q_St_n (n := 132) (by decide +kernel)) (by decide)) rfl (by decide) (by decide +kernel) (t2 := 397) rfl dX0_init_47 (pc2 := 50) rfl ?_
  refine k_rl (k := 0) hc dX0_init_50 rfl (pc2 := 51) rfl ?_
  refine j_iconst hc dX0_init_51 ic_0 (pc2 := 52) rfl ?_
  refine k_putI (t := 397) hc fl_X0_31 hi rfl (by decide +kernel) (q_lt (q_St_n (n := 132) (by decide +kernel)) (by decide)) rfl (by decide) (by decide +kernel) (t2 := 398) rfl dX0_init_52 (pc2 := 55) rfl ?_
  refine k_rl (k := 0) hc dX0_init_55 rfl (pc2 := 56) rfl ?_
  refine j_iconst hc dX0_init_56 ic_0 (pc2 := 57) rfl ?_
  refine k_putI (t := 398) hc fl_X0_34 hi rfl (by decide +kernel) (q_lt (q_St_n (n := 132) (by decide +kernel)) (by decide)) rfl (by decide) (by decide +kernel) (t2 := 399) rfl dX0_init_57 (pc2 := 60) rfl ?_
  refine k_rl (k := 0) hc dX0_init_60 rfl (pc2 := 61) rfl ?_
  refine j_iconst hc dX0_init_61 ic_m1 (pc2 := 62) rfl ?_
  refine k_putI (t := 399) hc fl_X0_37 hi rfl (by decide +kernel) (q_lt (q_St_n (n := 132) (by decide +kernel)) (by decide)) rfl (by decide) (by decide +kernel) (t2 := 400) rfl dX0_init_62 (pc2 := 65) rfl ?_
  exact j_vret hc dX0_init_65
set_option maxRecDepth 100000 in
set_option maxHeartbeats 4000000 in
theorem I_X5_init_402 {l : Launch} {w : q_Wd} (hop : w.2.2.2.2.2.1 = none) : q_M l w yX5_init cX5_init 1 none { frames := 1, cells := 2, slots := 110, locals := 20 } 2 110 [q_rf w 132] (q_St 402) 0 (q_St 406) := q_MofJ [some (q_rf w 132)] (by decide +kernel) rfl rfl (Nat.le_of_ble_eq_true rfl) fun cx hl hAs hnm hc => by
  have hc : q_ok w cx RX5 cX5_init 1 none { frames := 1, cells := 2, slots := 110, locals := 20 } := hc
  have hi : q_inm cx RX5 5 := ⟨hnm, _, rfl⟩
  refine k_rl (k := 0) hc dX5_init_0 rfl (pc2 := 1) rfl ?_
  refine k_obj hc ob_X5_3 ob_w ⟨by decide, by decide⟩ (Nat.le_of_ble_eq_true rfl) dX5_init_1 (pc2 := 4) rfl ?_
  refine k_rl (k := 0) hc dX5_init_4 rfl (pc2 := 5) rfl ?_
  refine j_bipush hc dX5_init_5 bp_100 (pc2 := 7) rfl ?_
  refine k_newa (n := 133) (len := 100) (t := 402) hc hop (by decide +kernel) (q_St_n (by decide +kernel)) (by decide +kernel) (by decide) (by decide +kernel) (by decide) (by decide +kernel) (t2 := 403) rfl (c2 := 1) rfl (s2 := 100) rfl ⟨by decide, by decide⟩ nw_arr dX5_init_7 (pc2 := 9) rfl ?_
  refine k_putR (t := 403) hc fl_X5_9 hi rfl (by decide +kernel) (q_lt (q_St_n (n := 134) (by decide +kernel)) (by decide)) rfl rfl (by decide +kernel) (t2 := 404) rfl dX5_init_9 (pc2 := 12) rfl ?_
  refine k_rl (k := 0) hc dX5_init_12 rfl (pc2 := 13) rfl ?_
  refine j_bipush hc dX5_init_13 bp_10 (pc2 := 15) rfl ?_
  refine k_newa (n := 134) (len := 10) (t := 404) hc hop (by decide +kernel) (q_St_n (by decide +kernel)) (by decide +kernel) (by decide) (by decide +kernel) (by decide) (by decide +kernel) (t2 := 405) rfl (c2 := 2) rfl (s2 := 110) rfl ⟨by decide, by decide⟩ nw_arr dX5_init_15 (pc2 := 17) rfl ?_
  refine k_putR (t := 405) hc fl_X5_15 hi rfl (by decide +kernel) (q_lt (q_St_n (n := 135) (by decide +kernel)) (by decide)) rfl rfl (by decide +kernel) (t2 := 406) rfl dX5_init_17 (pc2 := 20) rfl ?_
  exact j_vret hc dX5_init_20
set_option maxRecDepth 100000 in
set_option maxHeartbeats 4000000 in
theorem I_X4_init_408 {l : Launch} {w : q_Wd} (hop : w.2.2.2.2.2.1 = none) : q_M l w yX4_init cX4_init 1 none { frames := 1, cells := 6, slots := 4820, locals := 20 } 6 4820 [q_rf w 135] (q_St 408) 0 (q_St 420) := q_MofJ [some (q_rf w 135)] (by decide +kernel) rfl rfl (Nat.le_of_ble_eq_true rfl) fun cx hl hAs hnm hc => by
  have hc : q_ok w cx RX4 cX4_init 1 none { frames := 1, cells := 6, slots := 4820, locals := 20 } := hc
  have hi : q_inm cx RX4 4 := ⟨hnm, _, rfl⟩
  refine k_rl (k := 0) hc dX4_init_0 rfl (pc2 := 1) rfl ?_
  refine k_obj hc ob_X4_3 ob_w ⟨by decide, by decide⟩ (Nat.le_of_ble_eq_true rfl) dX4_init_1 (pc2 := 4) rfl ?_
  refine k_rl (k := 0) hc dX4_init_4 rfl (pc2 := 5) rfl ?_
  refine j_sipush hc dX4_init_5 sp_256 (pc2 := 8) rfl ?_
  refine k_newa (n := 136) (len := 256) (t := 408) hc hop (by decide +kernel) (q_St_n (by decide +kernel)) (by decide +kernel) (by decide) (by decide +kernel) (by decide) (by decide +kernel) (t2 := 409) rfl (c2 := 1) rfl (s2 := 256) rfl ⟨by decide, by decide⟩ nw_arr dX4_init_8 (pc2 := 10) rfl ?_
  refine k_putR (t := 409) hc fl_X4_11 hi rfl (by decide +kernel) (q_lt (q_St_n (n := 137) (by decide +kernel)) (by decide)) rfl rfl (by decide +kernel) (t2 := 410) rfl dX4_init_10 (pc2 := 13) rfl ?_
  refine k_rl (k := 0) hc dX4_init_13 rfl (pc2 := 14) rfl ?_
  refine j_sipush hc dX4_init_14 sp_256 (pc2 := 17) rfl ?_
  refine k_newa (n := 137) (len := 256) (t := 410) hc hop (by decide +kernel) (q_St_n (by decide +kernel)) (by decide +kernel) (by decide) (by decide +kernel) (by decide) (by decide +kernel) (t2 := 411) rfl (c2 := 2) rfl (s2 := 512) rfl ⟨by decide, by decide⟩ nw_arr dX4_init_17 (pc2 := 19) rfl ?_
  refine k_putR (t := 411) hc fl_X4_15 hi rfl (by decide +kernel) (q_lt (q_St_n (n := 138) (by decide +kernel)) (by decide)) rfl rfl (by decide +kernel) (t2 := 412) rfl dX4_init_19 (pc2 := 22) rfl ?_
  refine k_rl (k := 0) hc dX4_init_22 rfl (pc2 := 23) rfl ?_
  refine j_sipush hc dX4_init_23 sp_4096 (pc2 := 26) rfl ?_
  refine k_newa (n := 138) (len := 4096) (t := 412) hc hop (by decide +kernel) (q_St_n (by decide +kernel)) (by decide +kernel) (by decide) (by decide +kernel) (by decide) (by decide +kernel) (t2 := 413) rfl (c2 := 3) rfl (s2 := 4608) rfl ⟨by decide, by decide⟩ nw_arr dX4_init_26 (pc2 := 28) rfl ?_
  refine k_putR (t := 413) hc fl_X4_18 hi rfl (by decide +kernel) (q_lt (q_St_n (n := 139) (by decide +kernel)) (by decide)) rfl rfl (by decide +kernel) (t2 := 414) rfl dX4_init_28 (pc2 := 31) rfl ?_
  refine k_rl (k := 0) hc dX4_init_31 rfl (pc2 := 32) rfl ?_
  refine j_bipush hc dX4_init_32 bp_100 (pc2 := 34) rfl ?_
  refine k_newa (n := 139) (len := 100) (t := 414) hc hop (by decide +kernel) (q_St_n (by decide +kernel)) (by decide +kernel) (by decide) (by decide +kernel) (by decide) (by decide +kernel) (t2 := 415) rfl (c2 := 4) rfl (s2 := 4708) rfl ⟨by decide, by decide⟩ nw_arr dX4_init_34 (pc2 := 36) rfl ?_
  refine k_putR (t := 415) hc fl_X4_21 hi rfl (by decide +kernel) (q_lt (q_St_n (n := 140) (by decide +kernel)) (by decide)) rfl rfl (by decide +kernel) (t2 := 416) rfl dX4_init_36 (pc2 := 39) rfl ?_
  refine k_rl (k := 0) hc dX4_init_39 rfl (pc2 := 40) rfl ?_
  refine j_bipush hc dX4_init_40 bp_100 (pc2 := 42) rfl ?_
  refine k_newa (n := 140) (len := 100) (t := 416) hc hop (by decide +kernel) (q_St_n (by decide +kernel)) (by decide +kernel) (by decide) (by decide +kernel) (by decide) (by decide +kernel) (t2 := 417) rfl (c2 := 5) rfl (s2 := 4808) rfl ⟨by decide, by decide⟩ nw_arr dX4_init_42 (pc2 := 44) rfl ?_
  refine k_putR (t := 417) hc fl_X4_24 hi rfl (by decide +kernel) (q_lt (q_St_n (n := 141) (by decide +kernel)) (by decide)) rfl rfl (by decide +kernel) (t2 := 418) rfl dX4_init_44 (pc2 := 47) rfl ?_
  refine k_rl (k := 0) hc dX4_init_47 rfl (pc2 := 48) rfl ?_
  refine j_bipush hc dX4_init_48 bp_12 (pc2 := 50) rfl ?_
  refine k_newa (n := 141) (len := 12) (t := 418) hc hop (by decide +kernel) (q_St_n (by decide +kernel)) (by decide +kernel) (by decide) (by decide +kernel) (by decide) (by decide +kernel) (t2 := 419) rfl (c2 := 6) rfl (s2 := 4820) rfl ⟨by decide, by decide⟩ nw_arr dX4_init_50 (pc2 := 52) rfl ?_
  refine k_putR (t := 419) hc fl_X4_27 hi rfl (by decide +kernel) (q_lt (q_St_n (n := 142) (by decide +kernel)) (by decide)) rfl rfl (by decide +kernel) (t2 := 420) rfl dX4_init_52 (pc2 := 55) rfl ?_
  exact j_vret hc dX4_init_55
set_option maxRecDepth 100000 in
set_option maxHeartbeats 4000000 in
theorem I_X8_init_422 {l : Launch} {w : q_Wd} (hop : w.2.2.2.2.2.1 = none) : q_M l w yX8_init cX8_init 1 none { frames := 1, cells := 1, slots := 400, locals := 20 } 1 400 [q_rf w 142] (q_St 422) 0 (q_St 431) := q_MofJ [some (q_rf w 142)] (by decide +kernel) rfl rfl (Nat.le_of_ble_eq_true rfl) fun cx hl hAs hnm hc => by
  have hc : q_ok w cx RX8 cX8_init 1 none { frames := 1, cells := 1, slots := 400, locals := 20 } := hc
  have hi : q_inm cx RX8 8 := ⟨hnm, _, rfl⟩
  refine k_rl (k := 0) hc dX8_init_0 rfl (pc2 := 1) rfl ?_
  refine k_obj hc ob_X8_3 ob_w ⟨by decide, by decide⟩ (Nat.le_of_ble_eq_true rfl) dX8_init_1 (pc2 := 4) rfl ?_
  refine k_rl (k := 0) hc dX8_init_4 rfl (pc2 := 5) rfl ?_
  refine j_sipush hc dX8_init_5 sp_400 (pc2 := 8) rfl ?_
  refine k_newa (n := 143) (len := 400) (t := 422) hc hop (by decide +kernel) (q_St_n (by decide +kernel)) (by decide +kernel) (by decide) (by decide +kernel) (by decide) (by decide +kernel) (t2 := 423) rfl (c2 := 1) rfl (s2 := 400) rfl ⟨by decide, by decide⟩ nw_arr dX8_init_8 (pc2 := 10) rfl ?_
  refine k_putR (t := 423) hc fl_X8_9 hi rfl (by decide +kernel) (q_lt (q_St_n (n := 144) (by decide +kernel)) (by decide)) rfl rfl (by decide +kernel) (t2 := 424) rfl dX8_init_10 (pc2 := 13) rfl ?_
  refine k_rl (k := 0) hc dX8_init_13 rfl (pc2 := 14) rfl ?_
  refine j_iconst hc dX8_init_14 ic_0 (pc2 := 15) rfl ?_
  refine k_putI (t := 424) hc fl_X8_15 hi rfl (by decide +kernel) (q_lt (q_St_n (n := 144) (by decide +kernel)) (by decide)) rfl (by decide) (by decide +kernel) (t2 := 425) rfl dX8_init_15 (pc2 := 18) rfl ?_
  refine k_rl (k := 0) hc dX8_init_18 rfl (pc2 := 19) rfl ?_
  refine j_iconst hc dX8_init_19 ic_0 (pc2 := 20) rfl ?_
  refine k_putI (t := 425) hc fl_X8_19 hi rfl (by decide +kernel) (q_lt (q_St_n (n := 144) (by decide +kernel)) (by decide)) rfl (by decide) (by decide +kernel) (t2 := 426) rfl dX8_init_20 (pc2 := 23) rfl ?_
  refine k_rl (k := 0) hc dX8_init_23 rfl (pc2 := 24) rfl ?_
  refine j_iconst hc dX8_init_24 ic_0 (pc2 := 25) rfl ?_
  refine k_putI (t := 426) hc fl_X8_22 hi rfl (by decide +kernel) (q_lt (q_St_n (n := 144) (by decide +kernel)) (by decide)) rfl (by decide) (by decide +kernel) (t2 := 427) rfl dX8_init_25 (pc2 := 28) rfl ?_
  refine k_rl (k := 0) hc dX8_init_28 rfl (pc2 := 29) rfl ?_
  refine j_iconst hc dX8_init_29 ic_0 (pc2 := 30) rfl ?_
  refine k_putI (t := 427) hc fl_X8_25 hi rfl (by decide +kernel) (q_lt (q_St_n (n := 144) (by decide +kernel)) (by decide)) rfl (by decide) (by decide +kernel) (t2 := 428) rfl dX8_init_30 (pc2 := 33) rfl ?_
  refine k_rl (k := 0) hc dX8_init_33 rfl (pc2 := 34) rfl ?_
  refine j_iconst hc dX8_init_34 ic_0 (pc2 := 35) rfl ?_
  refine k_putI (t := 428) hc fl_X8_28 hi rfl (by decide +kernel) (q_lt (q_St_n (n := 144) (by decide +kernel)) (by decide)) rfl (by decide) (by decide +kernel) (t2 := 429) rfl dX8_init_35 (pc2 := 38) rfl ?_
  refine k_rl (k := 0) hc dX8_init_38 rfl (pc2 := 39) rfl ?_
  refine j_iconst hc dX8_init_39 ic_0 (pc2 := 40) rfl ?_
  refine k_putI (t := 429) hc fl_X8_31 hi rfl (by decide +kernel) (q_lt (q_St_n (n := 144) (by decide +kernel)) (by decide)) rfl (by decide) (by decide +kernel) (t2 := 430) rfl dX8_init_40 (pc2 := 43) rfl ?_
  refine k_rl (k := 0) hc dX8_init_43 rfl (pc2 := 44) rfl ?_
  refine j_iconst hc dX8_init_44 ic_m1 (pc2 := 45) rfl ?_
  refine k_putI (t := 430) hc fl_X8_34 hi rfl (by decide +kernel) (q_lt (q_St_n (n := 144) (by decide +kernel)) (by decide)) rfl (by decide) (by decide +kernel) (t2 := 431) rfl dX8_init_45 (pc2 := 48) rfl ?_
  exact j_vret hc dX8_init_48
set_option maxRecDepth 100000 in
set_option maxHeartbeats 4000000 in
theorem I_X2_init_434 {l : Launch} {w : q_Wd} (hop : w.2.2.2.2.2.1 = none) : q_M l w yX2_init cX2_init 1 none { frames := 1, cells := 7, slots := 1264, locals := 20 } 7 1264 [q_rf w 145] (q_St 434) 0 (q_St 450) := q_MofJ [some (q_rf w 145)] (by decide +kernel) rfl rfl (Nat.le_of_ble_eq_true rfl) fun cx hl hAs hnm hc => by
  have hc : q_ok w cx RX2 cX2_init 1 none { frames := 1, cells := 7, slots := 1264, locals := 20 } := hc
  have hi : q_inm cx RX2 2 := ⟨hnm, _, rfl⟩
  refine k_rl (k := 0) hc dX2_init_0 rfl (pc2 := 1) rfl ?_
  refine k_obj hc ob_X2_3 ob_w ⟨by decide, by decide⟩ (Nat.le_of_ble_eq_true rfl) dX2_init_1 (pc2 := 4) rfl ?_
  refine k_rl (k := 0) hc dX2_init_4 rfl (pc2 := 5) rfl ?_
  refine j_bipush hc dX2_init_5 bp_16 (pc2 := 7) rfl ?_
  refine k_newa (n := 146) (len := 16) (t := 434) hc hop (by decide +kernel) (q_St_n (by decide +kernel)) (by decide +kernel) (by decide) (by decide +kernel) (by decide) (by decide +kernel) (t2 := 435) rfl (c2 := 1) rfl (s2 := 16) rfl ⟨by decide, by decide⟩ nw_arr dX2_init_7 (pc2 := 9) rfl ?_
  refine k_putR (t := 435) hc fl_X2_9 hi rfl (by decide +kernel) (q_lt (q_St_n (n := 147) (by decide +kernel)) (by decide)) rfl rfl (by decide +kernel) (t2 := 436) rfl dX2_init_9 (pc2 := 12) rfl ?_
  refine k_rl (k := 0) hc dX2_init_12 rfl (pc2 := 13) rfl ?_
  refine j_bipush hc dX2_init_13 bp_16 (pc2 := 15) rfl ?_
  refine k_newa (n := 147) (len := 16) (t := 436) hc hop (by decide +kernel) (q_St_n (by decide +kernel)) (by decide +kernel) (by decide) (by decide +kernel) (by decide) (by decide +kernel) (t2 := 437) rfl (c2 := 2) rfl (s2 := 32) rfl ⟨by decide, by decide⟩ nw_arr dX2_init_15 (pc2 := 17) rfl ?_
  refine k_putR (t := 437) hc fl_X2_15 hi rfl (by decide +kernel) (q_lt (q_St_n (n := 148) (by decide +kernel)) (by decide)) rfl rfl (by decide +kernel) (t2 := 438) rfl dX2_init_17 (pc2 := 20) rfl ?_
  refine k_rl (k := 0) hc dX2_init_20 rfl (pc2 := 21) rfl ?_
  refine j_bipush hc dX2_init_21 bp_16 (pc2 := 23) rfl ?_
  refine k_newa (n := 148) (len := 16) (t := 438) hc hop (by decide +kernel) (q_St_n (by decide +kernel)) (by decide +kernel) (by decide) (by decide +kernel) (by decide) (by decide +kernel) (t2 := 439) rfl (c2 := 3) rfl (s2 := 48) rfl ⟨by decide, by decide⟩ nw_arr dX2_init_23 (pc2 := 25) rfl ?_
  refine k_putR (t := 439) hc fl_X2_18 hi rfl (by decide +kernel) (q_lt (q_St_n (n := 149) (by decide +kernel)) (by decide)) rfl rfl (by decide +kernel) (t2 := 440) rfl dX2_init_25 (pc2 := 28) rfl ?_
  refine k_rl (k := 0) hc dX2_init_28 rfl (pc2 := 29) rfl ?_
  refine j_bipush hc dX2_init_29 bp_16 (pc2 := 31) rfl ?_
  refine k_newa (n := 149) (len := 16) (t := 440) hc hop (by decide +kernel) (q_St_n (by decide +kernel)) (by decide +kernel) (by decide) (by decide +kernel) (by decide) (by decide +kernel) (t2 := 441) rfl (c2 := 4) rfl (s2 := 64) rfl ⟨by decide, by decide⟩ nw_arr dX2_init_31 (pc2 := 33) rfl ?_
  refine k_putR (t := 441) hc fl_X2_21 hi rfl (by decide +kernel) (q_lt (q_St_n (n := 150) (by decide +kernel)) (by decide)) rfl rfl (by decide +kernel) (t2 := 442) rfl dX2_init_33 (pc2 := 36) rfl ?_
  refine k_rl (k := 0) hc dX2_init_36 rfl (pc2 := 37) rfl ?_
  refine j_sipush hc dX2_init_37 sp_400 (pc2 := 40) rfl ?_
  refine k_newa (n := 150) (len := 400) (t := 442) hc hop (by decide +kernel) (q_St_n (by decide +kernel)) (by decide +kernel) (by decide) (by decide +kernel) (by decide) (by decide +kernel) (t2 := 443) rfl (c2 := 5) rfl (s2 := 464) rfl ⟨by decide, by decide⟩ nw_arr dX2_init_40 (pc2 := 42) rfl ?_
  refine k_putR (t := 443) hc fl_X2_24 hi rfl (by decide +kernel) (q_lt (q_St_n (n := 151) (by decide +kernel)) (by decide)) rfl rfl (by decide +kernel) (t2 := 444) rfl dX2_init_42 (pc2 := 45) rfl ?_
  refine k_rl (k := 0) hc dX2_init_45 rfl (pc2 := 46) rfl ?_
  refine j_sipush hc dX2_init_46 sp_400 (pc2 := 49) rfl ?_
  refine k_newa (n := 151) (len := 400) (t := 444) hc hop (by decide +kernel) (q_St_n (by decide +kernel)) (by decide +kernel) (by decide) (by decide +kernel) (by decide) (by decide +kernel) (t2 := 445) rfl (c2 := 6) rfl (s2 := 864) rfl ⟨by decide, by decide⟩ nw_arr dX2_init_49 (pc2 := 51) rfl ?_
  refine k_putR (t := 445) hc fl_X2_27 hi rfl (by decide +kernel) (q_lt (q_St_n (n := 152) (by decide +kernel)) (by decide)) rfl rfl (by decide +kernel) (t2 := 446) rfl dX2_init_51 (pc2 := 54) rfl ?_
  refine k_rl (k := 0) hc dX2_init_54 rfl (pc2 := 55) rfl ?_
  refine j_sipush hc dX2_init_55 sp_400 (pc2 := 58) rfl ?_
  refine k_newa (n := 152) (len := 400) (t := 446) hc hop (by decide +kernel) (q_St_n (by decide +kernel)) (by decide +kernel) (by decide) (by decide +kernel) (by decide) (by decide +kernel) (t2 := 447) rfl (c2 := 7) rfl (s2 := 1264) rfl ⟨by decide, by decide⟩ nw_arr dX2_init_58 (pc2 := 60) rfl ?_
  refine k_putR (t := 447) hc fl_X2_30 hi rfl (by decide +kernel) (q_lt (q_St_n (n := 153) (by decide +kernel)) (by decide)) rfl rfl (by decide +kernel) (t2 := 448) rfl dX2_init_60 (pc2 := 63) rfl ?_
  refine k_rl (k := 0) hc dX2_init_63 rfl (pc2 := 64) rfl ?_
  refine j_iconst hc dX2_init_64 ic_0 (pc2 := 65) rfl ?_
  refine k_putI (t := 448) hc fl_X2_33 hi rfl (by decide +kernel) (q_lt (q_St_n (n := 153) (by decide +kernel)) (by decide)) rfl (by decide) (by decide +kernel) (t2 := 449) rfl dX2_init_65 (pc2 := 68) rfl ?_
  refine k_rl (k := 0) hc dX2_init_68 rfl (pc2 := 69) rfl ?_
  refine j_iconst hc dX2_init_69 ic_0 (pc2 := 70) rfl ?_
  refine k_putI (t := 449) hc fl_X2_37 hi rfl (by decide +kernel) (q_lt (q_St_n (n := 153) (by decide +kernel)) (by decide)) rfl (by decide) (by decide +kernel) (t2 := 450) rfl dX2_init_70 (pc2 := 73) rfl ?_
  exact j_vret hc dX2_init_73
set_option maxRecDepth 100000 in
set_option maxHeartbeats 4000000 in
theorem I_X3_init_433 {l : Launch} {w : q_Wd} (hop : w.2.2.2.2.2.1 = none) : q_M l w yX3_init cX3_init 2 none { frames := 2, cells := 9, slots := 1673, locals := 40 } 9 1673 [q_rf w 144, q_rf w 142] (q_St 433) 0 (q_St 460) := q_MofJ [some (q_rf w 144), some (q_rf w 142)] (by decide +kernel) rfl rfl (Nat.le_of_ble_eq_true rfl) fun cx hl hAs hnm hc => by
  have hc : q_ok w cx RX3 cX3_init 2 none { frames := 2, cells := 9, slots := 1673, locals := 40 } := hc
  have hi : q_inm cx RX3 3 := ⟨hnm, _, rfl⟩
  refine k_rl (k := 0) hc dX3_init_0 rfl (pc2 := 1) rfl ?_
  refine k_obj hc ob_X3_3 ob_w ⟨by decide, by decide⟩ (Nat.le_of_ble_eq_true rfl) dX3_init_1 (pc2 := 4) rfl ?_
  refine k_rl (k := 0) hc dX3_init_4 rfl (pc2 := 5) rfl ?_
  refine k_new (n := 145) (t := 433) hc hop cl_2 (nw_X3_9) df_2 (by decide +kernel) (q_St_n (by decide +kernel)) (by decide +kernel) (by decide +kernel) (t2 := 434) rfl (c2 := 1) rfl (s2 := 9) rfl ⟨by decide, by decide⟩ dX3_init_5 (pc2 := 8) rfl ?_
  refine j_dup hc dX3_init_8 rfl (pc2 := 9) rfl ?_
  refine k_initN (As := []) (host := "MuleVote") hc (I_X2_init_434 hop) mi_X2_init rfl (by decide +kernel) rfl rfl ⟨by decide, by decide⟩ (c2 := 8) rfl (s2 := 1273) rfl ⟨by decide, by decide⟩ (Nat.le_of_ble_eq_true rfl) dX3_init_9 (pc2 := 12) rfl ?_
  refine k_putR (t := 450) hc fl_X3_12 hi rfl (by decide +kernel) (q_lt (q_St_n (n := 153) (by decide +kernel)) (by decide)) rfl rfl (by decide +kernel) (t2 := 451) rfl dX3_init_12 (pc2 := 15) rfl ?_
  refine k_rl (k := 0) hc dX3_init_15 rfl (pc2 := 16) rfl ?_
  refine j_sipush hc dX3_init_16 sp_400 (pc2 := 19) rfl ?_
  refine k_newa (n := 153) (len := 400) (t := 451) hc hop (by decide +kernel) (q_St_n (by decide +kernel)) (by decide +kernel) (by decide) (by decide +kernel) (by decide) (by decide +kernel) (t2 := 452) rfl (c2 := 9) rfl (s2 := 1673) rfl ⟨by decide, by decide⟩ nw_arr dX3_init_19 (pc2 := 21) rfl ?_
  refine k_putR (t := 452) hc fl_X3_18 hi rfl (by decide +kernel) (q_lt (q_St_n (n := 154) (by decide +kernel)) (by decide)) rfl rfl (by decide +kernel) (t2 := 453) rfl dX3_init_21 (pc2 := 24) rfl ?_
  refine k_rl (k := 0) hc dX3_init_24 rfl (pc2 := 25) rfl ?_
  refine j_iconst hc dX3_init_25 ic_0 (pc2 := 26) rfl ?_
  refine k_putI (t := 453) hc fl_X3_22 hi rfl (by decide +kernel) (q_lt (q_St_n (n := 154) (by decide +kernel)) (by decide)) rfl (by decide) (by decide +kernel) (t2 := 454) rfl dX3_init_26 (pc2 := 29) rfl ?_
  refine k_rl (k := 0) hc dX3_init_29 rfl (pc2 := 30) rfl ?_
  refine j_iconst hc dX3_init_30 ic_0 (pc2 := 31) rfl ?_
  refine k_putI (t := 454) hc fl_X3_26 hi rfl (by decide +kernel) (q_lt (q_St_n (n := 154) (by decide +kernel)) (by decide)) rfl (by decide) (by decide +kernel) (t2 := 455) rfl dX3_init_31 (pc2 := 34) rfl ?_
  refine k_rl (k := 0) hc dX3_init_34 rfl (pc2 := 35) rfl ?_
  refine j_iconst hc dX3_init_35 ic_0 (pc2 := 36) rfl ?_
  refine k_putI (t := 455) hc fl_X3_29 hi rfl (by decide +kernel) (q_lt (q_St_n (n := 154) (by decide +kernel)) (by decide)) rfl (by decide) (by decide +kernel) (t2 := 456) rfl dX3_init_36 (pc2 := 39) rfl ?_
  refine k_rl (k := 0) hc dX3_init_39 rfl (pc2 := 40) rfl ?_
  refine j_iconst hc dX3_init_40 ic_0 (pc2 := 41) rfl ?_
  refine k_putI (t := 456) hc fl_X3_32 hi rfl (by decide +kernel) (q_lt (q_St_n (n := 154) (by decide +kernel)) (by decide)) rfl (by decide) (by decide +kernel) (t2 := 457) rfl dX3_init_41 (pc2 := 44) rfl ?_
  refine k_rl (k := 0) hc dX3_init_44 rfl (pc2 := 45) rfl ?_
  refine j_iconst hc dX3_init_45 ic_0 (pc2 := 46) rfl ?_
  refine k_putI (t := 457) hc fl_X3_35 hi rfl (by decide +kernel) (q_lt (q_St_n (n := 154) (by decide +kernel)) (by decide)) rfl (by decide) (by decide +kernel) (t2 := 458) rfl dX3_init_46 (pc2 := 49) rfl ?_
  refine k_rl (k := 0) hc dX3_init_49 rfl (pc2 := 50) rfl ?_
  refine j_iconst hc dX3_init_50 ic_0 (pc2 := 51) rfl ?_
  refine k_putI (t := 458) hc fl_X3_39 hi rfl (by decide +kernel) (q_lt (q_St_n (n := 154) (by decide +kernel)) (by decide)) rfl (by decide) (by decide +kernel) (t2 := 459) rfl dX3_init_51 (pc2 := 54) rfl ?_
  refine k_rl (k := 0) hc dX3_init_54 rfl (pc2 := 55) rfl ?_
  refine k_rl (k := 1) hc dX3_init_55 rfl (pc2 := 56) rfl ?_
  refine k_putR (t := 459) hc fl_X3_42 hi rfl (by decide +kernel) (q_lt (q_St_n (n := 154) (by decide +kernel)) (by decide)) rfl rfl (by decide +kernel) (t2 := 460) rfl dX3_init_56 (pc2 := 59) rfl ?_
  exact j_vret hc dX3_init_59
set_option maxRecDepth 100000 in
set_option maxHeartbeats 4000000 in
theorem I_X6_init_463 {l : Launch} {w : q_Wd} (hop : w.2.2.2.2.2.1 = none) : q_M l w yX6_init cX6_init 2 none { frames := 1, cells := 1, slots := 64, locals := 21 } 1 64 [q_rf w 155, .int 16] (q_St 463) 0 (q_St 467) := q_MofJ [some (q_rf w 155), some (.int 16)] (by decide +kernel) rfl rfl (Nat.le_of_ble_eq_true rfl) fun cx hl hAs hnm hc => by
  have hc : q_ok w cx RX6 cX6_init 2 none { frames := 1, cells := 1, slots := 64, locals := 21 } := hc
  have hi : q_inm cx RX6 6 := ⟨hnm, _, rfl⟩
  refine k_rl (k := 0) hc dX6_init_0 rfl (pc2 := 1) rfl ?_
  refine k_obj hc ob_X6_3 ob_w ⟨by decide, by decide⟩ (Nat.le_of_ble_eq_true rfl) dX6_init_1 (pc2 := 4) rfl ?_
  refine k_rl (k := 0) hc dX6_init_4 rfl (pc2 := 5) rfl ?_
  refine j_bipush hc dX6_init_5 bp_64 (pc2 := 7) rfl ?_
  refine k_newa (n := 156) (len := 64) (t := 463) hc hop (by decide +kernel) (q_St_n (by decide +kernel)) (by decide +kernel) (by decide) (by decide +kernel) (by decide) (by decide +kernel) (t2 := 464) rfl (c2 := 1) rfl (s2 := 64) rfl ⟨by decide, by decide⟩ nw_arr dX6_init_7 (pc2 := 9) rfl ?_
  refine k_putR (t := 464) hc fl_X6_11 hi rfl (by decide +kernel) (q_lt (q_St_n (n := 157) (by decide +kernel)) (by decide)) rfl rfl (by decide +kernel) (t2 := 465) rfl dX6_init_9 (pc2 := 12) rfl ?_
  refine k_rl (k := 0) hc dX6_init_12 rfl (pc2 := 13) rfl ?_
  refine j_iconst hc dX6_init_13 ic_0 (pc2 := 14) rfl ?_
  refine k_putI (t := 465) hc fl_X6_15 hi rfl (by decide +kernel) (q_lt (q_St_n (n := 157) (by decide +kernel)) (by decide)) rfl (by decide) (by decide +kernel) (t2 := 466) rfl dX6_init_14 (pc2 := 17) rfl ?_
  refine k_rl (k := 0) hc dX6_init_17 rfl (pc2 := 18) rfl ?_
  refine j_iconst hc dX6_init_18 ic_0 (pc2 := 19) rfl ?_
  refine j_bipush hc dX6_init_19 bp_16 (pc2 := 21) rfl ?_
  refine j_iload_n (k := 1) hc dX6_init_21 rfl (pc2 := 22) rfl ?_
  refine j_min hc ln_X6_19 ⟨by decide, by decide⟩ ⟨by decide, by decide⟩ (Nat.le_of_ble_eq_true rfl) dX6_init_22 (pc2 := 25) rfl ?_
  rw [show q_mn 16 16 = 16 from by decide +kernel]
  refine j_max hc ln_X6_25 ⟨by decide, by decide⟩ ⟨by decide, by decide⟩ (Nat.le_of_ble_eq_true rfl) dX6_init_25 (pc2 := 28) rfl ?_
  rw [show q_mx 0 16 = 16 from by decide +kernel]
  refine k_putI (t := 466) hc fl_X6_28 hi rfl (by decide +kernel) (q_lt (q_St_n (n := 157) (by decide +kernel)) (by decide)) rfl (by decide) (by decide +kernel) (t2 := 467) rfl dX6_init_28 (pc2 := 31) rfl ?_
  exact j_vret hc dX6_init_31
set_option maxRecDepth 100000 in
set_option maxHeartbeats 4000000 in
theorem I_X7_init_462 {l : Launch} {w : q_Wd} (hop : w.2.2.2.2.2.1 = none) : q_M l w yX7_init cX7_init 2 none { frames := 2, cells := 2, slots := 67, locals := 42 } 2 67 [q_rf w 154, q_rf w 142] (q_St 462) 0 (q_St 469) := q_MofJ [some (q_rf w 154), some (q_rf w 142)] (by decide +kernel) rfl rfl (Nat.le_of_ble_eq_true rfl) fun cx hl hAs hnm hc => by
  have hc : q_ok w cx RX7 cX7_init 2 none { frames := 2, cells := 2, slots := 67, locals := 42 } := hc
  have hi : q_inm cx RX7 7 := ⟨hnm, _, rfl⟩
  refine k_rl (k := 0) hc dX7_init_0 rfl (pc2 := 1) rfl ?_
  refine k_obj hc ob_X7_3 ob_w ⟨by decide, by decide⟩ (Nat.le_of_ble_eq_true rfl) dX7_init_1 (pc2 := 4) rfl ?_
  refine k_rl (k := 0) hc dX7_init_4 rfl (pc2 := 5) rfl ?_
  refine k_new (n := 155) (t := 462) hc hop cl_6 (nw_X7_9) df_6 (by decide +kernel) (q_St_n (by decide +kernel)) (by decide +kernel) (by decide +kernel) (t2 := 463) rfl (c2 := 1) rfl (s2 := 3) rfl ⟨by decide, by decide⟩ dX7_init_5 (pc2 := 8) rfl ?_
  refine j_dup hc dX7_init_8 rfl (pc2 := 9) rfl ?_
  refine j_bipush hc dX7_init_9 bp_16 (pc2 := 11) rfl ?_
  refine k_init (As := [.int 16]) hc (I_X6_init_463 hop) mi_X6_init rfl ln_X7_11 rfl rfl ⟨by decide, by decide⟩ (c2 := 2) rfl (s2 := 67) rfl ⟨by decide, by decide⟩ (Nat.le_of_ble_eq_true rfl) dX7_init_11 (pc2 := 14) rfl ?_
  refine k_putR (t := 467) hc fl_X7_14 hi rfl (by decide +kernel) (q_lt (q_St_n (n := 157) (by decide +kernel)) (by decide)) rfl rfl (by decide +kernel) (t2 := 468) rfl dX7_init_14 (pc2 := 17) rfl ?_
  refine k_rl (k := 0) hc dX7_init_17 rfl (pc2 := 18) rfl ?_
  refine k_rl (k := 1) hc dX7_init_18 rfl (pc2 := 19) rfl ?_
  refine k_putR (t := 468) hc fl_X7_20 hi rfl (by decide +kernel) (q_lt (q_St_n (n := 157) (by decide +kernel)) (by decide)) rfl rfl (by decide +kernel) (t2 := 469) rfl dX7_init_19 (pc2 := 22) rfl ?_
  exact j_vret hc dX7_init_22
set_option maxRecDepth 100000 in
set_option maxHeartbeats 4000000 in
theorem I_X11_init_1 {l : Launch} {w : q_Wd} (hop : w.2.2.2.2.2.1 = none) : q_M l w yX11_init cX11_init 1 none { frames := 3, cells := 156, slots := 13730, locals := 64 } 156 13730 [q_rf w 0] (q_St 1) 0 (q_St 470) := q_MofJ [some (q_rf w 0)] (by decide +kernel) rfl rfl (Nat.le_of_ble_eq_true rfl) fun cx hl hAs hnm hc => by
  have hc : q_ok w cx RX11 cX11_init 1 none { frames := 3, cells := 156, slots := 13730, locals := 64 } := hc
  have hi : q_inm cx RX11 11 := ⟨hnm, _, rfl⟩
  refine k_rl (k := 0) hc dX11_init_0 rfl (pc2 := 1) rfl ?_
  refine k_obj hc ob_X11_3 ob_w ⟨by decide, by decide⟩ (Nat.le_of_ble_eq_true rfl) dX11_init_1 (pc2 := 4) rfl ?_
  refine k_rl (k := 0) hc dX11_init_4 rfl (pc2 := 5) rfl ?_
  refine k_new (n := 1) (t := 1) hc hop cl_10 (nw_X11_9) df_10 (by decide +kernel) (q_St_n (by decide +kernel)) (by decide +kernel) (by decide +kernel) (t2 := 2) rfl (c2 := 1) rfl (s2 := 9) rfl ⟨by decide, by decide⟩ dX11_init_5 (pc2 := 8) rfl ?_
  refine j_dup hc dX11_init_8 rfl (pc2 := 9) rfl ?_
  refine k_initN (As := []) (host := "MuleVote") hc (I_X10_init_2 hop) mi_X10_init rfl (by decide +kernel) rfl rfl ⟨by decide, by decide⟩ (c2 := 30) rfl (s2 := 2368) rfl ⟨by decide, by decide⟩ (Nat.le_of_ble_eq_true rfl) dX11_init_9 (pc2 := 12) rfl ?_
  refine k_putR (t := 84) hc fl_X11_12 hi rfl (by decide +kernel) (q_lt (q_St_n (n := 31) (by decide +kernel)) (by decide)) rfl rfl (by decide +kernel) (t2 := 85) rfl dX11_init_12 (pc2 := 15) rfl ?_
  refine k_rl (k := 0) hc dX11_init_15 rfl (pc2 := 16) rfl ?_
  refine k_new (n := 31) (t := 85) hc hop cl_10 (nw_X11_9) df_10 (by decide +kernel) (q_St_n (by decide +kernel)) (by decide +kernel) (by decide +kernel) (t2 := 86) rfl (c2 := 31) rfl (s2 := 2377) rfl ⟨by decide, by decide⟩ dX11_init_16 (pc2 := 19) rfl ?_
  refine j_dup hc dX11_init_19 rfl (pc2 := 20) rfl ?_
  refine k_initN (As := []) (host := "MuleVote") hc (I_X10_init_86 hop) mi_X10_init rfl (by decide +kernel) rfl rfl ⟨by decide, by decide⟩ (c2 := 60) rfl (s2 := 4736) rfl ⟨by decide, by decide⟩ (Nat.le_of_ble_eq_true rfl) dX11_init_20 (pc2 := 23) rfl ?_
  refine k_putR (t := 168) hc fl_X11_16 hi rfl (by decide +kernel) (q_lt (q_St_n (n := 61) (by decide +kernel)) (by decide)) rfl rfl (by decide +kernel) (t2 := 169) rfl dX11_init_23 (pc2 := 26) rfl ?_
  refine k_rl (k := 0) hc dX11_init_26 rfl (pc2 := 27) rfl ?_
  refine j_iconst hc dX11_init_27 ic_0 (pc2 := 28) rfl ?_
  refine k_putI (t := 169) hc fl_X11_19 hi rfl (by decide +kernel) (q_lt (q_St_n (n := 61) (by decide +kernel)) (by decide)) rfl (by decide) (by decide +kernel) (t2 := 170) rfl dX11_init_28 (pc2 := 31) rfl ?_
  refine k_rl (k := 0) hc dX11_init_31 rfl (pc2 := 32) rfl ?_
  refine k_new (n := 61) (t := 170) hc hop cl_1 (nw_X11_23) df_1 (by decide +kernel) (q_St_n (by decide +kernel)) (by decide +kernel) (by decide +kernel) (t2 := 171) rfl (c2 := 61) rfl (s2 := 4738) rfl ⟨by decide, by decide⟩ dX11_init_32 (pc2 := 35) rfl ?_
  refine j_dup hc dX11_init_35 rfl (pc2 := 36) rfl ?_
  refine k_init (As := []) hc (I_X1_init_171 hop) mi_X1_init rfl ln_X11_25 rfl rfl ⟨by decide, by decide⟩ (c2 := 116) rfl (s2 := 5590) rfl ⟨by decide, by decide⟩ (Nat.le_of_ble_eq_true rfl) dX11_init_36 (pc2 := 39) rfl ?_
  refine k_putR (t := 354) hc fl_X11_26 hi rfl (by decide +kernel) (q_lt (q_St_n (n := 117) (by decide +kernel)) (by decide)) rfl rfl (by decide +kernel) (t2 := 355) rfl dX11_init_39 (pc2 := 42) rfl ?_
  refine k_rl (k := 0) hc dX11_init_42 rfl (pc2 := 43) rfl ?_
  refine k_new (n := 117) (t := 355) hc hop cl_9 (nw_X11_30) df_9 (by decide +kernel) (q_St_n (by decide +kernel)) (by decide +kernel) (by decide +kernel) (t2 := 356) rfl (c2 := 117) rfl (s2 := 5608) rfl ⟨by decide, by decide⟩ dX11_init_43 (pc2 := 46) rfl ?_
  refine j_dup hc dX11_init_46 rfl (pc2 := 47) rfl ?_
  refine k_init (As := []) hc (I_X9_init_356 hop) mi_X9_init rfl ln_X11_32 rfl rfl ⟨by decide, by decide⟩ (c2 := 125) rfl (s2 := 5731) rfl ⟨by decide, by decide⟩ (Nat.le_of_ble_eq_true rfl) dX11_init_47 (pc2 := 50) rfl ?_
  refine k_putR (t := 384) hc fl_X11_33 hi rfl (by decide +kernel) (q_lt (q_St_n (n := 126) (by decide +kernel)) (by decide)) rfl rfl (by decide +kernel) (t2 := 385) rfl dX11_init_50 (pc2 := 53) rfl ?_
  refine k_rl (k := 0) hc dX11_init_53 rfl (pc2 := 54) rfl ?_
  refine k_new (n := 126) (t := 385) hc hop cl_0 (nw_X11_37) df_0 (by decide +kernel) (q_St_n (by decide +kernel)) (by decide +kernel) (by decide +kernel) (t2 := 386) rfl (c2 := 126) rfl (s2 := 5740) rfl ⟨by decide, by decide⟩ dX11_init_54 (pc2 := 57) rfl ?_
  refine j_dup hc dX11_init_57 rfl (pc2 := 58) rfl ?_
  refine k_initN (As := []) (host := "MuleVote") hc (I_X0_init_386 hop) mi_X0_init rfl (by decide +kernel) rfl rfl ⟨by decide, by decide⟩ (c2 := 131) rfl (s2 := 6633) rfl ⟨by decide, by decide⟩ (Nat.le_of_ble_eq_true rfl) dX11_init_58 (pc2 := 61) rfl ?_
  refine k_putR (t := 400) hc fl_X11_40 hi rfl (by decide +kernel) (q_lt (q_St_n (n := 132) (by decide +kernel)) (by decide)) rfl rfl (by decide +kernel) (t2 := 401) rfl dX11_init_61 (pc2 := 64) rfl ?_
  refine k_rl (k := 0) hc dX11_init_64 rfl (pc2 := 65) rfl ?_
  refine k_new (n := 132) (t := 401) hc hop cl_5 (nw_X11_44) df_5 (by decide +kernel) (q_St_n (by decide +kernel)) (by decide +kernel) (by decide +kernel) (t2 := 402) rfl (c2 := 132) rfl (s2 := 6635) rfl ⟨by decide, by decide⟩ dX11_init_65 (pc2 := 68) rfl ?_
  refine j_dup hc dX11_init_68 rfl (pc2 := 69) rfl ?_
  refine k_initN (As := []) (host := "MuleVote") hc (I_X5_init_402 hop) mi_X5_init rfl (by decide +kernel) rfl rfl ⟨by decide, by decide⟩ (c2 := 134) rfl (s2 := 6745) rfl ⟨by decide, by decide⟩ (Nat.le_of_ble_eq_true rfl) dX11_init_69 (pc2 := 72) rfl ?_
  refine k_putR (t := 406) hc fl_X11_47 hi rfl (by decide +kernel) (q_lt (q_St_n (n := 135) (by decide +kernel)) (by decide)) rfl rfl (by decide +kernel) (t2 := 407) rfl dX11_init_72 (pc2 := 75) rfl ?_
  refine k_rl (k := 0) hc dX11_init_75 rfl (pc2 := 76) rfl ?_
  refine k_new (n := 135) (t := 407) hc hop cl_4 (nw_X11_51) df_4 (by decide +kernel) (q_St_n (by decide +kernel)) (by decide +kernel) (by decide +kernel) (t2 := 408) rfl (c2 := 135) rfl (s2 := 6751) rfl ⟨by decide, by decide⟩ dX11_init_76 (pc2 := 79) rfl ?_
  refine j_dup hc dX11_init_79 rfl (pc2 := 80) rfl ?_
  refine k_initN (As := []) (host := "MuleVote") hc (I_X4_init_408 hop) mi_X4_init rfl (by decide +kernel) rfl rfl ⟨by decide, by decide⟩ (c2 := 141) rfl (s2 := 11571) rfl ⟨by decide, by decide⟩ (Nat.le_of_ble_eq_true rfl) dX11_init_80 (pc2 := 83) rfl ?_
  refine k_putR (t := 420) hc fl_X11_54 hi rfl (by decide +kernel) (q_lt (q_St_n (n := 142) (by decide +kernel)) (by decide)) rfl rfl (by decide +kernel) (t2 := 421) rfl dX11_init_83 (pc2 := 86) rfl ?_
  refine k_rl (k := 0) hc dX11_init_86 rfl (pc2 := 87) rfl ?_
  refine k_new (n := 142) (t := 421) hc hop cl_8 (nw_X11_58) df_8 (by decide +kernel) (q_St_n (by decide +kernel)) (by decide +kernel) (by decide +kernel) (t2 := 422) rfl (c2 := 142) rfl (s2 := 11579) rfl ⟨by decide, by decide⟩ dX11_init_87 (pc2 := 90) rfl ?_
  refine j_dup hc dX11_init_90 rfl (pc2 := 91) rfl ?_
  refine k_initN (As := []) (host := "MuleVote") hc (I_X8_init_422 hop) mi_X8_init rfl (by decide +kernel) rfl rfl ⟨by decide, by decide⟩ (c2 := 143) rfl (s2 := 11979) rfl ⟨by decide, by decide⟩ (Nat.le_of_ble_eq_true rfl) dX11_init_91 (pc2 := 94) rfl ?_
  refine k_putR (t := 431) hc fl_X11_61 hi rfl (by decide +kernel) (q_lt (q_St_n (n := 144) (by decide +kernel)) (by decide)) rfl rfl (by decide +kernel) (t2 := 432) rfl dX11_init_94 (pc2 := 97) rfl ?_
  refine k_rl (k := 0) hc dX11_init_97 rfl (pc2 := 98) rfl ?_
  refine k_new (n := 144) (t := 432) hc hop cl_3 (nw_X11_65) df_3 (by decide +kernel) (q_St_n (by decide +kernel)) (by decide +kernel) (by decide +kernel) (t2 := 433) rfl (c2 := 144) rfl (s2 := 11988) rfl ⟨by decide, by decide⟩ dX11_init_98 (pc2 := 101) rfl ?_
  refine j_dup hc dX11_init_101 rfl (pc2 := 102) rfl ?_
  refine k_rl (k := 0) hc dX11_init_102 rfl (pc2 := 103) rfl ?_
  refine k_getR (x := 142) (t := 433) hc fl_X11_61 rfl (by decide +kernel) (q_lt (q_St_n (n := 145) (by decide +kernel)) (by decide)) (by decide +kernel) dX11_init_103 (pc2 := 106) rfl ?_
  refine k_init (As := [q_rf w 142]) hc (I_X3_init_433 hop) mi_X3_init rfl ln_X11_67 rfl rfl ⟨by decide, by decide⟩ (c2 := 153) rfl (s2 := 13661) rfl ⟨by decide, by decide⟩ (Nat.le_of_ble_eq_true rfl) dX11_init_106 (pc2 := 109) rfl ?_
  refine k_putR (t := 460) hc fl_X11_70 hi rfl (by decide +kernel) (q_lt (q_St_n (n := 154) (by decide +kernel)) (by decide)) rfl rfl (by decide +kernel) (t2 := 461) rfl dX11_init_109 (pc2 := 112) rfl ?_
  refine k_rl (k := 0) hc dX11_init_112 rfl (pc2 := 113) rfl ?_
  refine k_new (n := 154) (t := 461) hc hop cl_7 (nw_X11_74) df_7 (by decide +kernel) (q_St_n (by decide +kernel)) (by decide +kernel) (by decide +kernel) (t2 := 462) rfl (c2 := 154) rfl (s2 := 13663) rfl ⟨by decide, by decide⟩ dX11_init_113 (pc2 := 116) rfl ?_
  refine j_dup hc dX11_init_116 rfl (pc2 := 117) rfl ?_
  refine k_rl (k := 0) hc dX11_init_117 rfl (pc2 := 118) rfl ?_
  refine k_getR (x := 142) (t := 462) hc fl_X11_61 rfl (by decide +kernel) (q_lt (q_St_n (n := 155) (by decide +kernel)) (by decide)) (by decide +kernel) dX11_init_118 (pc2 := 121) rfl ?_
  refine k_init (As := [q_rf w 142]) hc (I_X7_init_462 hop) mi_X7_init rfl ln_X11_76 rfl rfl ⟨by decide, by decide⟩ (c2 := 156) rfl (s2 := 13730) rfl ⟨by decide, by decide⟩ (Nat.le_of_ble_eq_true rfl) dX11_init_121 (pc2 := 124) rfl ?_
  refine k_putR (t := 469) hc fl_X11_77 hi rfl (by decide +kernel) (q_lt (q_St_n (n := 157) (by decide +kernel)) (by decide)) rfl rfl (by decide +kernel) (t2 := 470) rfl dX11_init_124 (pc2 := 127) rfl ?_
  exact j_vret hc dX11_init_127
