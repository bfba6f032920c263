set_option maxRecDepth 100000 in
set_option maxHeartbeats 4000000 in
def f_X12_look (n : Nat) (t : Nat) (a0 : Int32) (s0 : q_Sto) : Option (Int32 × q_Sto) :=
  if a0 = 0 then (
  q_ld s0 (q_RF t 0) 86 1790 fun v2 =>
  some (v2, s0))
  else
  if a0 = 1 then (
  q_ld s0 (q_RF t 0) 87 1790 fun v4 =>
  some (v4, s0))
  else
  if a0 = 2 then (
  q_ld s0 (q_RF t 0) 0 1790 fun v6 =>
  some (v6, s0))
  else
  if a0 = 3 then (
  q_ld s0 (q_RF t 0) 88 1790 fun v8 =>
  some (v8, s0))
  else
  if a0 = 4 then (
  q_ld s0 (q_RF t 0) 1 1790 fun v10 =>
  some (v10, s0))
  else
  if a0 = 5 then (
  q_ld s0 (q_RF t 0) 2 1790 fun v12 =>
  some (v12, s0))
  else
  if a0 = 6 then (
  q_ld s0 (q_RF t 0) 3 1790 fun v14 =>
  some (v14, s0))
  else
  if a0 = 7 then (
  q_ld s0 (q_RF t 0) 4 1790 fun v16 =>
  some (v16, s0))
  else
  if a0 = 8 then (
  q_ld s0 (q_RF t 0) 7 1790 fun v18 =>
  some (v18, s0))
  else
  if a0 = 9 then (
  q_ld s0 (q_RF t 0) 6 1790 fun v20 =>
  some (v20, s0))
  else
  if a0 = 10 then (
  q_ld s0 (q_RF t 0) 5 1790 fun v22 =>
  some (v22, s0))
  else
  if a0 = 11 then (
  q_ld s0 (q_RF t 0) 89 1790 fun v24 =>
  some (v24, s0))
  else
  if a0 = 12 then (
  q_ld s0 (q_RF t 0) 90 1790 fun v26 =>
  some (v26, s0))
  else
  if a0 = 13 then (
  q_ld s0 (q_RF t 0) 91 1790 fun v28 =>
  some (v28, s0))
  else
  if a0 = 14 then (
  q_ld s0 (q_RF t 0) 92 1790 fun v30 =>
  some (v30, s0))
  else
  if a0 = 15 then (
  q_ld s0 (q_RF t 0) 93 1790 fun v32 =>
  some (v32, s0))
  else
  if a0 = 16 then (
  q_ld s0 (q_RF t 0) 94 1790 fun v34 =>
  some (v34, s0))
  else
  if a0 = 17 then (
  some ((s0 t 4), s0))
  else
  (some ((-1), s0))
set_option maxRecDepth 100000 in
set_option maxHeartbeats 4000000 in
theorem C_X12_look {l : Launch} {w : q_Wd} {n : Nat} {t : Nat} {a0 : Int32} (ht : q_KD t = .inl 12) {s0 : q_Sto} : q_C l w yX12_look cX12_look 2 (some .int) (q_rm 0 0) [q_rf w t, .int a0] s0 (f_X12_look n t a0 s0) := q_CofG [some (q_rf w t), some (.int a0)] (by decide +kernel) rfl rfl (Nat.le_of_ble_eq_true rfl) fun cx hl hc => by
  have hc : q_ok w cx RX12 cX12_look 2 (some .int) (q_rm 0 0) := hc
  rw [f_X12_look]
  refine g_il1 hc dX12_look_0 rfl (pc2 := 1) rfl ?_
  refine g_swc (pc2 := 0) hc dX12_look_1 (c := 0) (by decide) (by decide) rfl (pc1 := 88) rfl (fun _ => ?_) (fun c1 => ?_)
  · refine g_rl0 hc dX12_look_88 rfl (pc2 := 89) rfl ?_
    refine g_getR hc fl_X12_7 rfl ht dX12_look_89 (pc2 := 92) rfl ?_
    refine g_bipush hc dX12_look_92 bp_86 (pc2 := 94) rfl ?_
    refine g_iald hc (kf_12_0 ht) (kl_12_0 ht) dX12_look_94 (pc2 := 95) rfl (fun v2 => ?_)
    exact g_iret hc dX12_look_95
  refine g_swc (pc2 := 0) hc dX12_look_1 (c := 1) (by decide) (by decide) rfl (pc1 := 96) rfl (fun _ => ?_) (fun c3 => ?_)
  · refine g_rl0 hc dX12_look_96 rfl (pc2 := 97) rfl ?_
    refine g_getR hc fl_X12_7 rfl ht dX12_look_97 (pc2 := 100) rfl ?_
    refine g_bipush hc dX12_look_100 bp_87 (pc2 := 102) rfl ?_
    refine g_iald hc (kf_12_0 ht) (kl_12_0 ht) dX12_look_102 (pc2 := 103) rfl (fun v4 => ?_)
    exact g_iret hc dX12_look_103
  refine g_swc (pc2 := 0) hc dX12_look_1 (c := 2) (by decide) (by decide) rfl (pc1 := 104) rfl (fun _ => ?_) (fun c5 => ?_)
  · refine g_rl0 hc dX12_look_104 rfl (pc2 := 105) rfl ?_
    refine g_getR hc fl_X12_7 rfl ht dX12_look_105 (pc2 := 108) rfl ?_
    refine g_iconst hc dX12_look_108 ic_0 (pc2 := 109) rfl ?_
    refine g_iald hc (kf_12_0 ht) (kl_12_0 ht) dX12_look_109 (pc2 := 110) rfl (fun v6 => ?_)
    exact g_iret hc dX12_look_110
  refine g_swc (pc2 := 0) hc dX12_look_1 (c := 3) (by decide) (by decide) rfl (pc1 := 111) rfl (fun _ => ?_) (fun c7 => ?_)
  · refine g_rl0 hc dX12_look_111 rfl (pc2 := 112) rfl ?_
    refine g_getR hc fl_X12_7 rfl ht dX12_look_112 (pc2 := 115) rfl ?_
    refine g_bipush hc dX12_look_115 bp_88 (pc2 := 117) rfl ?_
    refine g_iald hc (kf_12_0 ht) (kl_12_0 ht) dX12_look_117 (pc2 := 118) rfl (fun v8 => ?_)
    exact g_iret hc dX12_look_118
  refine g_swc (pc2 := 0) hc dX12_look_1 (c := 4) (by decide) (by decide) rfl (pc1 := 119) rfl (fun _ => ?_) (fun c9 => ?_)
  · refine g_rl0 hc dX12_look_119 rfl (pc2 := 120) rfl ?_
    refine g_getR hc fl_X12_7 rfl ht dX12_look_120 (pc2 := 123) rfl ?_
    refine g_iconst hc dX12_look_123 ic_1 (pc2 := 124) rfl ?_
    refine g_iald hc (kf_12_0 ht) (kl_12_0 ht) dX12_look_124 (pc2 := 125) rfl (fun v10 => ?_)
    exact g_iret hc dX12_look_125
  refine g_swc (pc2 := 0) hc dX12_look_1 (c := 5) (by decide) (by decide) rfl (pc1 := 126) rfl (fun _ => ?_) (fun c11 => ?_)
  · refine g_rl0 hc dX12_look_126 rfl (pc2 := 127) rfl ?_
    refine g_getR hc fl_X12_7 rfl ht dX12_look_127 (pc2 := 130) rfl ?_
    refine g_iconst hc dX12_look_130 ic_2 (pc2 := 131) rfl ?_
    refine g_iald hc (kf_12_0 ht) (kl_12_0 ht) dX12_look_131 (pc2 := 132) rfl (fun v12 => ?_)
    exact g_iret hc dX12_look_132
  refine g_swc (pc2 := 0) hc dX12_look_1 (c := 6) (by decide) (by decide) rfl (pc1 := 133) rfl (fun _ => ?_) (fun c13 => ?_)
  · refine g_rl0 hc dX12_look_133 rfl (pc2 := 134) rfl ?_
    refine g_getR hc fl_X12_7 rfl ht dX12_look_134 (pc2 := 137) rfl ?_
    refine g_iconst hc dX12_look_137 ic_3 (pc2 := 138) rfl ?_
    refine g_iald hc (kf_12_0 ht) (kl_12_0 ht) dX12_look_138 (pc2 := 139) rfl (fun v14 => ?_)
    exact g_iret hc dX12_look_139
  refine g_swc (pc2 := 0) hc dX12_look_1 (c := 7) (by decide) (by decide) rfl (pc1 := 140) rfl (fun _ => ?_) (fun c15 => ?_)
  · refine g_rl0 hc dX12_look_140 rfl (pc2 := 141) rfl ?_
    refine g_getR hc fl_X12_7 rfl ht dX12_look_141 (pc2 := 144) rfl ?_
    refine g_iconst hc dX12_look_144 ic_4 (pc2 := 145) rfl ?_
    refine g_iald hc (kf_12_0 ht) (kl_12_0 ht) dX12_look_145 (pc2 := 146) rfl (fun v16 => ?_)
    exact g_iret hc dX12_look_146
  refine g_swc (pc2 := 0) hc dX12_look_1 (c := 8) (by decide) (by decide) rfl (pc1 := 147) rfl (fun _ => ?_) (fun c17 => ?_)
  · refine g_rl0 hc dX12_look_147 rfl (pc2 := 148) rfl ?_
    refine g_getR hc fl_X12_7 rfl ht dX12_look_148 (pc2 := 151) rfl ?_
    refine g_bipush hc dX12_look_151 bp_7 (pc2 := 153) rfl ?_
    refine g_iald hc (kf_12_0 ht) (kl_12_0 ht) dX12_look_153 (pc2 := 154) rfl (fun v18 => ?_)
    exact g_iret hc dX12_look_154
  refine g_swc (pc2 := 0) hc dX12_look_1 (c := 9) (by decide) (by decide) rfl (pc1 := 155) rfl (fun _ => ?_) (fun c19 => ?_)
  · refine g_rl0 hc dX12_look_155 rfl (pc2 := 156) rfl ?_
    refine g_getR hc fl_X12_7 rfl ht dX12_look_156 (pc2 := 159) rfl ?_
    refine g_bipush hc dX12_look_159 bp_6 (pc2 := 161) rfl ?_
    refine g_iald hc (kf_12_0 ht) (kl_12_0 ht) dX12_look_161 (pc2 := 162) rfl (fun v20 => ?_)
    exact g_iret hc dX12_look_162
  refine g_swc (pc2 := 0) hc dX12_look_1 (c := 10) (by decide) (by decide) rfl (pc1 := 163) rfl (fun _ => ?_) (fun c21 => ?_)
  · refine g_rl0 hc dX12_look_163 rfl (pc2 := 164) rfl ?_
    refine g_getR hc fl_X12_7 rfl ht dX12_look_164 (pc2 := 167) rfl ?_
    refine g_iconst hc dX12_look_167 ic_5 (pc2 := 168) rfl ?_
    refine g_iald hc (kf_12_0 ht) (kl_12_0 ht) dX12_look_168 (pc2 := 169) rfl (fun v22 => ?_)
    exact g_iret hc dX12_look_169
  refine g_swc (pc2 := 0) hc dX12_look_1 (c := 11) (by decide) (by decide) rfl (pc1 := 170) rfl (fun _ => ?_) (fun c23 => ?_)
  · refine g_rl0 hc dX12_look_170 rfl (pc2 := 171) rfl ?_
    refine g_getR hc fl_X12_7 rfl ht dX12_look_171 (pc2 := 174) rfl ?_
    refine g_bipush hc dX12_look_174 bp_89 (pc2 := 176) rfl ?_
    refine g_iald hc (kf_12_0 ht) (kl_12_0 ht) dX12_look_176 (pc2 := 177) rfl (fun v24 => ?_)
    exact g_iret hc dX12_look_177
  refine g_swc (pc2 := 0) hc dX12_look_1 (c := 12) (by decide) (by decide) rfl (pc1 := 178) rfl (fun _ => ?_) (fun c25 => ?_)
  · refine g_rl0 hc dX12_look_178 rfl (pc2 := 179) rfl ?_
    refine g_getR hc fl_X12_7 rfl ht dX12_look_179 (pc2 := 182) rfl ?_
    refine g_bipush hc dX12_look_182 bp_90 (pc2 := 184) rfl ?_
    refine g_iald hc (kf_12_0 ht) (kl_12_0 ht) dX12_look_184 (pc2 := 185) rfl (fun v26 => ?_)
    exact g_iret hc dX12_look_185
  refine g_swc (pc2 := 0) hc dX12_look_1 (c := 13) (by decide) (by decide) rfl (pc1 := 186) rfl (fun _ => ?_) (fun c27 => ?_)
  · refine g_rl0 hc dX12_look_186 rfl (pc2 := 187) rfl ?_
    refine g_getR hc fl_X12_7 rfl ht dX12_look_187 (pc2 := 190) rfl ?_
    refine g_bipush hc dX12_look_190 bp_91 (pc2 := 192) rfl ?_
    refine g_iald hc (kf_12_0 ht) (kl_12_0 ht) dX12_look_192 (pc2 := 193) rfl (fun v28 => ?_)
    exact g_iret hc dX12_look_193
  refine g_swc (pc2 := 0) hc dX12_look_1 (c := 14) (by decide) (by decide) rfl (pc1 := 194) rfl (fun _ => ?_) (fun c29 => ?_)
  · refine g_rl0 hc dX12_look_194 rfl (pc2 := 195) rfl ?_
    refine g_getR hc fl_X12_7 rfl ht dX12_look_195 (pc2 := 198) rfl ?_
    refine g_bipush hc dX12_look_198 bp_92 (pc2 := 200) rfl ?_
    refine g_iald hc (kf_12_0 ht) (kl_12_0 ht) dX12_look_200 (pc2 := 201) rfl (fun v30 => ?_)
    exact g_iret hc dX12_look_201
  refine g_swc (pc2 := 0) hc dX12_look_1 (c := 15) (by decide) (by decide) rfl (pc1 := 202) rfl (fun _ => ?_) (fun c31 => ?_)
  · refine g_rl0 hc dX12_look_202 rfl (pc2 := 203) rfl ?_
    refine g_getR hc fl_X12_7 rfl ht dX12_look_203 (pc2 := 206) rfl ?_
    refine g_bipush hc dX12_look_206 bp_93 (pc2 := 208) rfl ?_
    refine g_iald hc (kf_12_0 ht) (kl_12_0 ht) dX12_look_208 (pc2 := 209) rfl (fun v32 => ?_)
    exact g_iret hc dX12_look_209
  refine g_swc (pc2 := 0) hc dX12_look_1 (c := 16) (by decide) (by decide) rfl (pc1 := 210) rfl (fun _ => ?_) (fun c33 => ?_)
  · refine g_rl0 hc dX12_look_210 rfl (pc2 := 211) rfl ?_
    refine g_getR hc fl_X12_7 rfl ht dX12_look_211 (pc2 := 214) rfl ?_
    refine g_bipush hc dX12_look_214 bp_94 (pc2 := 216) rfl ?_
    refine g_iald hc (kf_12_0 ht) (kl_12_0 ht) dX12_look_216 (pc2 := 217) rfl (fun v34 => ?_)
    exact g_iret hc dX12_look_217
  refine g_swc (pc2 := 0) hc dX12_look_1 (c := 17) (by decide) (by decide) rfl (pc1 := 218) rfl (fun _ => ?_) (fun c35 => ?_)
  · refine g_rl0 hc dX12_look_218 rfl (pc2 := 219) rfl ?_
    refine g_getI hc fl_X12_60 rfl ht dX12_look_219 (pc2 := 222) rfl ?_
    exact g_iret hc dX12_look_222
  refine g_swd (pc2 := 0) hc dX12_look_1 (fun i a b e => ?_) (pc1 := 223) rfl ?_
  · rcases (show i = 0 ∨ i = 1 ∨ i = 2 ∨ i = 3 ∨ i = 4 ∨ i = 5 ∨ i = 6 ∨ i = 7 ∨ i = 8 ∨ i = 9 ∨ i = 10 ∨ i = 11 ∨ i = 12 ∨ i = 13 ∨ i = 14 ∨ i = 15 ∨ i = 16 ∨ i = 17 by omega) with rfl | rfl | rfl | rfl | rfl | rfl | rfl | rfl | rfl | rfl | rfl | rfl | rfl | rfl | rfl | rfl | rfl | rfl
    · exact q_swx (c := 0) (by decide) c1 e
    · exact q_swx (c := 1) (by decide) c3 e
    · exact q_swx (c := 2) (by decide) c5 e
    · exact q_swx (c := 3) (by decide) c7 e
    · exact q_swx (c := 4) (by decide) c9 e
    · exact q_swx (c := 5) (by decide) c11 e
    · exact q_swx (c := 6) (by decide) c13 e
    · exact q_swx (c := 7) (by decide) c15 e
    · exact q_swx (c := 8) (by decide) c17 e
    · exact q_swx (c := 9) (by decide) c19 e
    · exact q_swx (c := 10) (by decide) c21 e
    · exact q_swx (c := 11) (by decide) c23 e
    · exact q_swx (c := 12) (by decide) c25 e
    · exact q_swx (c := 13) (by decide) c27 e
    · exact q_swx (c := 14) (by decide) c29 e
    · exact q_swx (c := 15) (by decide) c31 e
    · exact q_swx (c := 16) (by decide) c33 e
    · exact q_swx (c := 17) (by decide) c35 e
  · refine g_iconst hc dX12_look_223 ic_m1 (pc2 := 224) rfl ?_
    exact g_iret hc dX12_look_224
