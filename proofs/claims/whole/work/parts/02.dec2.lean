theorem dX11_look_166 : decode cX11_look 166 = .ok (.getfield 212, 3) := by decide +kernel
theorem dX11_look_169 : decode cX11_look 169 = .ok (.getfield 233, 3) := by decide +kernel
theorem dX11_look_172 : decode cX11_look 172 = .ok (.ireturn, 1) := by decide +kernel
theorem dX11_look_173 : decode cX11_look 173 = .ok (.aload_n 0, 1) := by decide +kernel
theorem dX11_look_174 : decode cX11_look 174 = .ok (.getfield 12, 3) := by decide +kernel
theorem dX11_look_177 : decode cX11_look 177 = .ok (.getfield 216, 3) := by decide +kernel
theorem dX11_look_180 : decode cX11_look 180 = .ok (.getfield 233, 3) := by decide +kernel
theorem dX11_look_183 : decode cX11_look 183 = .ok (.ireturn, 1) := by decide +kernel
theorem dX11_look_184 : decode cX11_look 184 = .ok (.aload_n 0, 1) := by decide +kernel
theorem dX11_look_185 : decode cX11_look 185 = .ok (.getfield 12, 3) := by decide +kernel
theorem dX11_look_188 : decode cX11_look 188 = .ok (.getfield 219, 3) := by decide +kernel
theorem dX11_look_191 : decode cX11_look 191 = .ok (.getfield 233, 3) := by decide +kernel
theorem dX11_look_194 : decode cX11_look 194 = .ok (.ireturn, 1) := by decide +kernel
theorem dX11_look_195 : decode cX11_look 195 = .ok (.aload_n 0, 1) := by decide +kernel
theorem dX11_look_196 : decode cX11_look 196 = .ok (.getfield 12, 3) := by decide +kernel
theorem dX11_look_199 : decode cX11_look 199 = .ok (.getfield 222, 3) := by decide +kernel
theorem dX11_look_202 : decode cX11_look 202 = .ok (.getfield 233, 3) := by decide +kernel
theorem dX11_look_205 : decode cX11_look 205 = .ok (.ireturn, 1) := by decide +kernel
theorem dX11_look_206 : decode cX11_look 206 = .ok (.aload_n 0, 1) := by decide +kernel
theorem dX11_look_207 : decode cX11_look 207 = .ok (.getfield 12, 3) := by decide +kernel
theorem dX11_look_210 : decode cX11_look 210 = .ok (.getfield 334, 3) := by decide +kernel
theorem dX11_look_213 : decode cX11_look 213 = .ok (.getfield 233, 3) := by decide +kernel
theorem dX11_look_216 : decode cX11_look 216 = .ok (.ireturn, 1) := by decide +kernel
theorem dX11_look_217 : decode cX11_look 217 = .ok (.aload_n 0, 1) := by decide +kernel
theorem dX11_look_218 : decode cX11_look 218 = .ok (.getfield 26, 3) := by decide +kernel
theorem dX11_look_221 : decode cX11_look 221 = .ok (.getfield 382, 3) := by decide +kernel
theorem dX11_look_224 : decode cX11_look 224 = .ok (.ireturn, 1) := by decide +kernel
theorem dX11_look_225 : decode cX11_look 225 = .ok (.iconst (-1), 1) := by decide +kernel
theorem dX11_look_226 : decode cX11_look 226 = .ok (.ireturn, 1) := by decide +kernel
theorem dX11_isWithin_0 : decode cX11_isWithin 0 = .ok (.iload_n 0, 1) := by decide +kernel
theorem dX11_isWithin_1 : decode cX11_isWithin 1 = .ok (.iload_n 1, 1) := by decide +kernel
theorem dX11_isWithin_2 : decode cX11_isWithin 2 = .ok (.if_icmp .lt 12, 3) := by decide +kernel
theorem dX11_isWithin_5 : decode cX11_isWithin 5 = .ok (.iload_n 0, 1) := by decide +kernel
theorem dX11_isWithin_6 : decode cX11_isWithin 6 = .ok (.iload_n 2, 1) := by decide +kernel
theorem dX11_isWithin_7 : decode cX11_isWithin 7 = .ok (.if_icmp .gt 7, 3) := by decide +kernel
theorem dX11_isWithin_10 : decode cX11_isWithin 10 = .ok (.iconst 1, 1) := by decide +kernel
theorem dX11_isWithin_11 : decode cX11_isWithin 11 = .ok (.goto 4, 3) := by decide +kernel
theorem dX11_isWithin_14 : decode cX11_isWithin 14 = .ok (.iconst 0, 1) := by decide +kernel
theorem dX11_isWithin_15 : decode cX11_isWithin 15 = .ok (.ireturn, 1) := by decide +kernel
theorem dX11_isCamp_0 : decode cX11_isCamp 0 = .ok (.iload_n 0, 1) := by decide +kernel
theorem dX11_isCamp_1 : decode cX11_isCamp 1 = .ok (.ifCond .lt 13, 3) := by decide +kernel
theorem dX11_isCamp_4 : decode cX11_isCamp 4 = .ok (.iload_n 0, 1) := by decide +kernel
theorem dX11_isCamp_5 : decode cX11_isCamp 5 = .ok (.bipush 10, 2) := by decide +kernel
theorem dX11_isCamp_7 : decode cX11_isCamp 7 = .ok (.if_icmp .ge 7, 3) := by decide +kernel
theorem dX11_isCamp_10 : decode cX11_isCamp 10 = .ok (.iconst 1, 1) := by decide +kernel
theorem dX11_isCamp_11 : decode cX11_isCamp 11 = .ok (.goto 4, 3) := by decide +kernel
theorem dX11_isCamp_14 : decode cX11_isCamp 14 = .ok (.iconst 0, 1) := by decide +kernel
theorem dX11_isCamp_15 : decode cX11_isCamp 15 = .ok (.ireturn, 1) := by decide +kernel
theorem dX11_isIn_0 : decode cX11_isIn 0 = .ok (.iload_n 0, 1) := by decide +kernel
theorem dX11_isIn_1 : decode cX11_isIn 1 = .ok (.iload_n 1, 1) := by decide +kernel
theorem dX11_isIn_2 : decode cX11_isIn 2 = .ok (.ishr, 1) := by decide +kernel
theorem dX11_isIn_3 : decode cX11_isIn 3 = .ok (.iconst 1, 1) := by decide +kernel
theorem dX11_isIn_4 : decode cX11_isIn 4 = .ok (.iand, 1) := by decide +kernel
theorem dX11_isIn_5 : decode cX11_isIn 5 = .ok (.ifCond .eq 7, 3) := by decide +kernel
theorem dX11_isIn_8 : decode cX11_isIn 8 = .ok (.iconst 1, 1) := by decide +kernel
theorem dX11_isIn_9 : decode cX11_isIn 9 = .ok (.goto 4, 3) := by decide +kernel
theorem dX11_isIn_12 : decode cX11_isIn 12 = .ok (.iconst 0, 1) := by decide +kernel
theorem dX11_isIn_13 : decode cX11_isIn 13 = .ok (.ireturn, 1) := by decide +kernel
theorem dX11_copyRow_0 : decode cX11_copyRow 0 = .ok (.aload_n 0, 1) := by decide +kernel
theorem dX11_copyRow_1 : decode cX11_copyRow 1 = .ok (.iconst 0, 1) := by decide +kernel
theorem dX11_copyRow_2 : decode cX11_copyRow 2 = .ok (.aload_n 1, 1) := by decide +kernel
theorem dX11_copyRow_3 : decode cX11_copyRow 3 = .ok (.iconst 0, 1) := by decide +kernel
theorem dX11_copyRow_4 : decode cX11_copyRow 4 = .ok (.aload_n 0, 1) := by decide +kernel
theorem dX11_copyRow_5 : decode cX11_copyRow 5 = .ok (.arraylength, 1) := by decide +kernel
theorem dX11_copyRow_6 : decode cX11_copyRow 6 = .ok (.aload_n 1, 1) := by decide +kernel
theorem dX11_copyRow_7 : decode cX11_copyRow 7 = .ok (.arraylength, 1) := by decide +kernel
theorem dX11_copyRow_8 : decode cX11_copyRow 8 = .ok (.invokestatic 383, 3) := by decide +kernel
theorem dX11_copyRow_11 : decode cX11_copyRow 11 = .ok (.invokestatic 388, 3) := by decide +kernel
theorem dX11_copyRow_14 : decode cX11_copyRow 14 = .ok (.return_, 1) := by decide +kernel
theorem dX12_init_0 : decode cX12_init 0 = .ok (.aload_n 0, 1) := by decide +kernel
theorem dX12_init_1 : decode cX12_init 1 = .ok (.invokespecial 1, 3) := by decide +kernel
theorem dX12_init_4 : decode cX12_init 4 = .ok (.aload_n 0, 1) := by decide +kernel
theorem dX12_init_5 : decode cX12_init 5 = .ok (.sipush 1790, 3) := by decide +kernel
theorem dX12_init_8 : decode cX12_init 8 = .ok (.newarray .int, 2) := by decide +kernel
theorem dX12_init_10 : decode cX12_init 10 = .ok (.putfield 7, 3) := by decide +kernel
theorem dX12_init_13 : decode cX12_init 13 = .ok (.aload_n 0, 1) := by decide +kernel
theorem dX12_init_14 : decode cX12_init 14 = .ok (.sipush 1790, 3) := by decide +kernel
theorem dX12_init_17 : decode cX12_init 17 = .ok (.newarray .int, 2) := by decide +kernel
theorem dX12_init_19 : decode cX12_init 19 = .ok (.putfield 13, 3) := by decide +kernel
theorem dX12_init_22 : decode cX12_init 22 = .ok (.aload_n 0, 1) := by decide +kernel
theorem dX12_init_23 : decode cX12_init 23 = .ok (.sipush 516, 3) := by decide +kernel
theorem dX12_init_26 : decode cX12_init 26 = .ok (.newarray .int, 2) := by decide +kernel
theorem dX12_init_28 : decode cX12_init 28 = .ok (.putfield 16, 3) := by decide +kernel
theorem dX12_init_31 : decode cX12_init 31 = .ok (.aload_n 0, 1) := by decide +kernel
theorem dX12_init_32 : decode cX12_init 32 = .ok (.bipush 86, 2) := by decide +kernel
theorem dX12_init_34 : decode cX12_init 34 = .ok (.newarray .int, 2) := by decide +kernel
theorem dX12_init_36 : decode cX12_init 36 = .ok (.putfield 19, 3) := by decide +kernel
theorem dX12_init_39 : decode cX12_init 39 = .ok (.aload_n 0, 1) := by decide +kernel
theorem dX12_init_40 : decode cX12_init 40 = .ok (.bipush 64, 2) := by decide +kernel
theorem dX12_init_42 : decode cX12_init 42 = .ok (.newarray .int, 2) := by decide +kernel
theorem dX12_init_44 : decode cX12_init 44 = .ok (.putfield 22, 3) := by decide +kernel
theorem dX12_init_47 : decode cX12_init 47 = .ok (.aload_n 0, 1) := by decide +kernel
theorem dX12_init_48 : decode cX12_init 48 = .ok (.sipush 820, 3) := by decide +kernel
theorem dX12_init_51 : decode cX12_init 51 = .ok (.newarray .int, 2) := by decide +kernel
theorem dX12_init_53 : decode cX12_init 53 = .ok (.putfield 25, 3) := by decide +kernel
theorem dX12_init_56 : decode cX12_init 56 = .ok (.aload_n 0, 1) := by decide +kernel
theorem dX12_init_57 : decode cX12_init 57 = .ok (.bipush 64, 2) := by decide +kernel
theorem dX12_init_59 : decode cX12_init 59 = .ok (.newarray .int, 2) := by decide +kernel
theorem dX12_init_61 : decode cX12_init 61 = .ok (.putfield 28, 3) := by decide +kernel
theorem dX12_init_64 : decode cX12_init 64 = .ok (.aload_n 0, 1) := by decide +kernel
theorem dX12_init_65 : decode cX12_init 65 = .ok (.sipush 400, 3) := by decide +kernel
theorem dX12_init_68 : decode cX12_init 68 = .ok (.newarray .int, 2) := by decide +kernel
theorem dX12_init_70 : decode cX12_init 70 = .ok (.putfield 31, 3) := by decide +kernel
theorem dX12_init_73 : decode cX12_init 73 = .ok (.aload_n 0, 1) := by decide +kernel
theorem dX12_init_74 : decode cX12_init 74 = .ok (.sipush 420, 3) := by decide +kernel
theorem dX12_init_77 : decode cX12_init 77 = .ok (.newarray .int, 2) := by decide +kernel
theorem dX12_init_79 : decode cX12_init 79 = .ok (.putfield 34, 3) := by decide +kernel
theorem dX12_init_82 : decode cX12_init 82 = .ok (.aload_n 0, 1) := by decide +kernel
theorem dX12_init_83 : decode cX12_init 83 = .ok (.bipush 11, 2) := by decide +kernel
theorem dX12_init_85 : decode cX12_init 85 = .ok (.newarray .int, 2) := by decide +kernel
theorem dX12_init_87 : decode cX12_init 87 = .ok (.putfield 37, 3) := by decide +kernel
theorem dX12_init_90 : decode cX12_init 90 = .ok (.aload_n 0, 1) := by decide +kernel
theorem dX12_init_91 : decode cX12_init 91 = .ok (.iconst (-1), 1) := by decide +kernel
theorem dX12_init_92 : decode cX12_init 92 = .ok (.putfield 40, 3) := by decide +kernel
theorem dX12_init_95 : decode cX12_init 95 = .ok (.aload_n 0, 1) := by decide +kernel
theorem dX12_init_96 : decode cX12_init 96 = .ok (.bipush 10, 2) := by decide +kernel
theorem dX12_init_98 : decode cX12_init 98 = .ok (.newarray .int, 2) := by decide +kernel
theorem dX12_init_100 : decode cX12_init 100 = .ok (.putfield 44, 3) := by decide +kernel
theorem dX12_init_103 : decode cX12_init 103 = .ok (.aload_n 0, 1) := by decide +kernel
theorem dX12_init_104 : decode cX12_init 104 = .ok (.sipush 256, 3) := by decide +kernel
theorem dX12_init_107 : decode cX12_init 107 = .ok (.newarray .int, 2) := by decide +kernel
theorem dX12_init_109 : decode cX12_init 109 = .ok (.putfield 47, 3) := by decide +kernel
theorem dX12_init_112 : decode cX12_init 112 = .ok (.aload_n 0, 1) := by decide +kernel
theorem dX12_init_113 : decode cX12_init 113 = .ok (.sipush 4096, 3) := by decide +kernel
theorem dX12_init_116 : decode cX12_init 116 = .ok (.newarray .int, 2) := by decide +kernel
theorem dX12_init_118 : decode cX12_init 118 = .ok (.putfield 50, 3) := by decide +kernel
theorem dX12_init_121 : decode cX12_init 121 = .ok (.aload_n 0, 1) := by decide +kernel
theorem dX12_init_122 : decode cX12_init 122 = .ok (.bipush 100, 2) := by decide +kernel
theorem dX12_init_124 : decode cX12_init 124 = .ok (.newarray .int, 2) := by decide +kernel
theorem dX12_init_126 : decode cX12_init 126 = .ok (.putfield 53, 3) := by decide +kernel
theorem dX12_init_129 : decode cX12_init 129 = .ok (.aload_n 0, 1) := by decide +kernel
theorem dX12_init_130 : decode cX12_init 130 = .ok (.getfield 7, 3) := by decide +kernel
theorem dX12_init_133 : decode cX12_init 133 = .ok (.iconst 2, 1) := by decide +kernel
theorem dX12_init_134 : decode cX12_init 134 = .ok (.iconst (-1), 1) := by decide +kernel
theorem dX12_init_135 : decode cX12_init 135 = .ok (.iastore, 1) := by decide +kernel
theorem dX12_init_136 : decode cX12_init 136 = .ok (.return_, 1) := by decide +kernel
theorem dX12_isIn_0 : decode cX12_isIn 0 = .ok (.iload_n 0, 1) := by decide +kernel
theorem dX12_isIn_1 : decode cX12_isIn 1 = .ok (.iload_n 1, 1) := by decide +kernel
theorem dX12_isIn_2 : decode cX12_isIn 2 = .ok (.if_icmp .lt 12, 3) := by decide +kernel
theorem dX12_isIn_5 : decode cX12_isIn 5 = .ok (.iload_n 0, 1) := by decide +kernel
theorem dX12_isIn_6 : decode cX12_isIn 6 = .ok (.iload_n 2, 1) := by decide +kernel
theorem dX12_isIn_7 : decode cX12_isIn 7 = .ok (.if_icmp .gt 7, 3) := by decide +kernel
theorem dX12_isIn_10 : decode cX12_isIn 10 = .ok (.iconst 1, 1) := by decide +kernel
theorem dX12_isIn_11 : decode cX12_isIn 11 = .ok (.goto 4, 3) := by decide +kernel
theorem dX12_isIn_14 : decode cX12_isIn 14 = .ok (.iconst 0, 1) := by decide +kernel
theorem dX12_isIn_15 : decode cX12_isIn 15 = .ok (.ireturn, 1) := by decide +kernel
theorem dX12_lesser_0 : decode cX12_lesser 0 = .ok (.iload_n 0, 1) := by decide +kernel
theorem dX12_lesser_1 : decode cX12_lesser 1 = .ok (.iload_n 1, 1) := by decide +kernel
theorem dX12_lesser_2 : decode cX12_lesser 2 = .ok (.if_icmp .ge 7, 3) := by decide +kernel
theorem dX12_lesser_5 : decode cX12_lesser 5 = .ok (.iload_n 0, 1) := by decide +kernel
theorem dX12_lesser_6 : decode cX12_lesser 6 = .ok (.goto 4, 3) := by decide +kernel
theorem dX12_lesser_9 : decode cX12_lesser 9 = .ok (.iload_n 1, 1) := by decide +kernel
theorem dX12_lesser_10 : decode cX12_lesser 10 = .ok (.ireturn, 1) := by decide +kernel
theorem dX12_greater_0 : decode cX12_greater 0 = .ok (.iload_n 0, 1) := by decide +kernel
theorem dX12_greater_1 : decode cX12_greater 1 = .ok (.iload_n 1, 1) := by decide +kernel
theorem dX12_greater_2 : decode cX12_greater 2 = .ok (.if_icmp .le 7, 3) := by decide +kernel
theorem dX12_greater_5 : decode cX12_greater 5 = .ok (.iload_n 0, 1) := by decide +kernel
theorem dX12_greater_6 : decode cX12_greater 6 = .ok (.goto 4, 3) := by decide +kernel
theorem dX12_greater_9 : decode cX12_greater 9 = .ok (.iload_n 1, 1) := by decide +kernel
theorem dX12_greater_10 : decode cX12_greater 10 = .ok (.ireturn, 1) := by decide +kernel
theorem dX12_isMule_0 : decode cX12_isMule 0 = .ok (.iload_n 1, 1) := by decide +kernel
theorem dX12_isMule_1 : decode cX12_isMule 1 = .ok (.iconst 0, 1) := by decide +kernel
theorem dX12_isMule_2 : decode cX12_isMule 2 = .ok (.aload_n 0, 1) := by decide +kernel
theorem dX12_isMule_3 : decode cX12_isMule 3 = .ok (.getfield 7, 3) := by decide +kernel
theorem dX12_isMule_6 : decode cX12_isMule 6 = .ok (.bipush 86, 2) := by decide +kernel
theorem dX12_isMule_8 : decode cX12_isMule 8 = .ok (.iaload, 1) := by decide +kernel
theorem dX12_isMule_9 : decode cX12_isMule 9 = .ok (.iconst 1, 1) := by decide +kernel
theorem dX12_isMule_10 : decode cX12_isMule 10 = .ok (.isub, 1) := by decide +kernel
theorem dX12_isMule_11 : decode cX12_isMule 11 = .ok (.invokestatic 56, 3) := by decide +kernel
theorem dX12_isMule_14 : decode cX12_isMule 14 = .ok (.ireturn, 1) := by decide +kernel
theorem dX12_isMan_0 : decode cX12_isMan 0 = .ok (.iload_n 1, 1) := by decide +kernel
theorem dX12_isMan_1 : decode cX12_isMan 1 = .ok (.iconst 0, 1) := by decide +kernel
theorem dX12_isMan_2 : decode cX12_isMan 2 = .ok (.aload_n 0, 1) := by decide +kernel
theorem dX12_isMan_3 : decode cX12_isMan 3 = .ok (.getfield 7, 3) := by decide +kernel
theorem dX12_isMan_6 : decode cX12_isMan 6 = .ok (.bipush 87, 2) := by decide +kernel
theorem dX12_isMan_8 : decode cX12_isMan 8 = .ok (.iaload, 1) := by decide +kernel
theorem dX12_isMan_9 : decode cX12_isMan 9 = .ok (.iconst 1, 1) := by decide +kernel
theorem dX12_isMan_10 : decode cX12_isMan 10 = .ok (.isub, 1) := by decide +kernel
theorem dX12_isMan_11 : decode cX12_isMan 11 = .ok (.invokestatic 56, 3) := by decide +kernel
theorem dX12_isMan_14 : decode cX12_isMan 14 = .ok (.ireturn, 1) := by decide +kernel
theorem dX12_isCamp_0 : decode cX12_isCamp 0 = .ok (.iload_n 0, 1) := by decide +kernel
theorem dX12_isCamp_1 : decode cX12_isCamp 1 = .ok (.iconst 0, 1) := by decide +kernel
theorem dX12_isCamp_2 : decode cX12_isCamp 2 = .ok (.bipush 9, 2) := by decide +kernel
theorem dX12_isCamp_4 : decode cX12_isCamp 4 = .ok (.invokestatic 56, 3) := by decide +kernel
theorem dX12_isCamp_7 : decode cX12_isCamp 7 = .ok (.ireturn, 1) := by decide +kernel
theorem dX12_isLame_0 : decode cX12_isLame 0 = .ok (.aload_n 0, 1) := by decide +kernel
theorem dX12_isLame_1 : decode cX12_isLame 1 = .ok (.getfield 7, 3) := by decide +kernel
theorem dX12_isLame_4 : decode cX12_isLame 4 = .ok (.bipush 7, 2) := by decide +kernel
theorem dX12_isLame_6 : decode cX12_isLame 6 = .ok (.iaload, 1) := by decide +kernel
theorem dX12_isLame_7 : decode cX12_isLame 7 = .ok (.iload_n 1, 1) := by decide +kernel
theorem dX12_isLame_8 : decode cX12_isLame 8 = .ok (.ishr, 1) := by decide +kernel
theorem dX12_isLame_9 : decode cX12_isLame 9 = .ok (.iconst 1, 1) := by decide +kernel
theorem dX12_isLame_10 : decode cX12_isLame 10 = .ok (.iand, 1) := by decide +kernel
theorem dX12_isLame_11 : decode cX12_isLame 11 = .ok (.iconst 1, 1) := by decide +kernel
theorem dX12_isLame_12 : decode cX12_isLame 12 = .ok (.if_icmp .ne 7, 3) := by decide +kernel
theorem dX12_isLame_15 : decode cX12_isLame 15 = .ok (.iconst 1, 1) := by decide +kernel
theorem dX12_isLame_16 : decode cX12_isLame 16 = .ok (.goto 4, 3) := by decide +kernel
theorem dX12_isLame_19 : decode cX12_isLame 19 = .ok (.iconst 0, 1) := by decide +kernel
theorem dX12_isLame_20 : decode cX12_isLame 20 = .ok (.ireturn, 1) := by decide +kernel
theorem dX12_likingOf_0 : decode cX12_likingOf 0 = .ok (.aload_n 0, 1) := by decide +kernel
theorem dX12_likingOf_1 : decode cX12_likingOf 1 = .ok (.getfield 7, 3) := by decide +kernel
theorem dX12_likingOf_4 : decode cX12_likingOf 4 = .ok (.bipush 20, 2) := by decide +kernel
theorem dX12_likingOf_6 : decode cX12_likingOf 6 = .ok (.iconst 5, 1) := by decide +kernel
theorem dX12_likingOf_7 : decode cX12_likingOf 7 = .ok (.iload_n 1, 1) := by decide +kernel
theorem dX12_likingOf_8 : decode cX12_likingOf 8 = .ok (.imul, 1) := by decide +kernel
theorem dX12_likingOf_9 : decode cX12_likingOf 9 = .ok (.iadd, 1) := by decide +kernel
theorem dX12_likingOf_10 : decode cX12_likingOf 10 = .ok (.iload_n 2, 1) := by decide +kernel
theorem dX12_likingOf_11 : decode cX12_likingOf 11 = .ok (.iadd, 1) := by decide +kernel
theorem dX12_likingOf_12 : decode cX12_likingOf 12 = .ok (.iaload, 1) := by decide +kernel
theorem dX12_likingOf_13 : decode cX12_likingOf 13 = .ok (.ireturn, 1) := by decide +kernel
theorem dX12_count_0 : decode cX12_count 0 = .ok (.iconst 0, 1) := by decide +kernel
theorem dX12_count_1 : decode cX12_count 1 = .ok (.istore_n 1, 1) := by decide +kernel
theorem dX12_count_2 : decode cX12_count 2 = .ok (.iconst 0, 1) := by decide +kernel
theorem dX12_count_3 : decode cX12_count 3 = .ok (.istore_n 2, 1) := by decide +kernel
theorem dX12_count_4 : decode cX12_count 4 = .ok (.iload_n 2, 1) := by decide +kernel
theorem dX12_count_5 : decode cX12_count 5 = .ok (.bipush 12, 2) := by decide +kernel
theorem dX12_count_7 : decode cX12_count 7 = .ok (.if_icmp .ge 17, 3) := by decide +kernel
theorem dX12_count_10 : decode cX12_count 10 = .ok (.iload_n 1, 1) := by decide +kernel
theorem dX12_count_11 : decode cX12_count 11 = .ok (.iload_n 0, 1) := by decide +kernel
theorem dX12_count_12 : decode cX12_count 12 = .ok (.iload_n 2, 1) := by decide +kernel
theorem dX12_count_13 : decode cX12_count 13 = .ok (.ishr, 1) := by decide +kernel
theorem dX12_count_14 : decode cX12_count 14 = .ok (.iconst 1, 1) := by decide +kernel
theorem dX12_count_15 : decode cX12_count 15 = .ok (.iand, 1) := by decide +kernel
theorem dX12_count_16 : decode cX12_count 16 = .ok (.iadd, 1) := by decide +kernel
theorem dX12_count_17 : decode cX12_count 17 = .ok (.istore_n 1, 1) := by decide +kernel
theorem dX12_count_18 : decode cX12_count 18 = .ok (.iinc 2 1, 3) := by decide +kernel
theorem dX12_count_21 : decode cX12_count 21 = .ok (.goto (-17), 3) := by decide +kernel
theorem dX12_count_24 : decode cX12_count 24 = .ok (.iload_n 1, 1) := by decide +kernel
theorem dX12_count_25 : decode cX12_count 25 = .ok (.ireturn, 1) := by decide +kernel
theorem dX12_behind_0 : decode cX12_behind 0 = .ok (.iconst 0, 1) := by decide +kernel
theorem dX12_behind_1 : decode cX12_behind 1 = .ok (.istore_n 2, 1) := by decide +kernel
theorem dX12_behind_2 : decode cX12_behind 2 = .ok (.iconst 0, 1) := by decide +kernel
theorem dX12_behind_3 : decode cX12_behind 3 = .ok (.istore_n 3, 1) := by decide +kernel
theorem dX12_behind_4 : decode cX12_behind 4 = .ok (.iload_n 3, 1) := by decide +kernel
theorem dX12_behind_5 : decode cX12_behind 5 = .ok (.aload_n 0, 1) := by decide +kernel
theorem dX12_behind_6 : decode cX12_behind 6 = .ok (.getfield 7, 3) := by decide +kernel
theorem dX12_behind_9 : decode cX12_behind 9 = .ok (.bipush 86, 2) := by decide +kernel
theorem dX12_behind_11 : decode cX12_behind 11 = .ok (.iaload, 1) := by decide +kernel
theorem dX12_behind_12 : decode cX12_behind 12 = .ok (.if_icmp .ge 32, 3) := by decide +kernel
theorem dX12_behind_15 : decode cX12_behind 15 = .ok (.iload_n 2, 1) := by decide +kernel
theorem dX12_behind_16 : decode cX12_behind 16 = .ok (.aload_n 0, 1) := by decide +kernel
theorem dX12_behind_17 : decode cX12_behind 17 = .ok (.getfield 7, 3) := by decide +kernel
theorem dX12_behind_20 : decode cX12_behind 20 = .ok (.bipush 8, 2) := by decide +kernel
theorem dX12_behind_22 : decode cX12_behind 22 = .ok (.iload_n 3, 1) := by decide +kernel
theorem dX12_behind_23 : decode cX12_behind 23 = .ok (.iadd, 1) := by decide +kernel
theorem dX12_behind_24 : decode cX12_behind 24 = .ok (.iaload, 1) := by decide +kernel
theorem dX12_behind_25 : decode cX12_behind 25 = .ok (.iload_n 1, 1) := by decide +kernel
theorem dX12_behind_26 : decode cX12_behind 26 = .ok (.if_icmp .ne 9, 3) := by decide +kernel
theorem dX12_behind_29 : decode cX12_behind 29 = .ok (.iconst 1, 1) := by decide +kernel
theorem dX12_behind_30 : decode cX12_behind 30 = .ok (.iload_n 3, 1) := by decide +kernel
theorem dX12_behind_31 : decode cX12_behind 31 = .ok (.ishl, 1) := by decide +kernel
theorem dX12_behind_32 : decode cX12_behind 32 = .ok (.goto 4, 3) := by decide +kernel
theorem dX12_behind_35 : decode cX12_behind 35 = .ok (.iconst 0, 1) := by decide +kernel
theorem dX12_behind_36 : decode cX12_behind 36 = .ok (.ior, 1) := by decide +kernel
theorem dX12_behind_37 : decode cX12_behind 37 = .ok (.istore_n 2, 1) := by decide +kernel
theorem dX12_behind_38 : decode cX12_behind 38 = .ok (.iinc 3 1, 3) := by decide +kernel
theorem dX12_behind_41 : decode cX12_behind 41 = .ok (.goto (-37), 3) := by decide +kernel
theorem dX12_behind_44 : decode cX12_behind 44 = .ok (.iload_n 2, 1) := by decide +kernel
theorem dX12_behind_45 : decode cX12_behind 45 = .ok (.ireturn, 1) := by decide +kernel
theorem dX12_forgets_0 : decode cX12_forgets 0 = .ok (.aload_n 0, 1) := by decide +kernel
theorem dX12_forgets_1 : decode cX12_forgets 1 = .ok (.iconst 0, 1) := by decide +kernel
theorem dX12_forgets_2 : decode cX12_forgets 2 = .ok (.putfield 60, 3) := by decide +kernel
theorem dX12_forgets_5 : decode cX12_forgets 5 = .ok (.return_, 1) := by decide +kernel
theorem dX12_state_0 : decode cX12_state 0 = .ok (.aload_n 0, 1) := by decide +kernel
theorem dX12_state_1 : decode cX12_state 1 = .ok (.getfield 7, 3) := by decide +kernel
theorem dX12_state_4 : decode cX12_state 4 = .ok (.iconst 5, 1) := by decide +kernel
theorem dX12_state_5 : decode cX12_state 5 = .ok (.iaload, 1) := by decide +kernel
theorem dX12_state_6 : decode cX12_state 6 = .ok (.istore_n 2, 1) := by decide +kernel
theorem dX12_state_7 : decode cX12_state 7 = .ok (.aload_n 0, 1) := by decide +kernel
theorem dX12_state_8 : decode cX12_state 8 = .ok (.getfield 7, 3) := by decide +kernel
theorem dX12_state_11 : decode cX12_state 11 = .ok (.iconst 5, 1) := by decide +kernel
theorem dX12_state_12 : decode cX12_state 12 = .ok (.iload_n 1, 1) := by decide +kernel
theorem dX12_state_13 : decode cX12_state 13 = .ok (.iastore, 1) := by decide +kernel
theorem dX12_state_14 : decode cX12_state 14 = .ok (.aload_n 0, 1) := by decide +kernel
theorem dX12_state_15 : decode cX12_state 15 = .ok (.invokevirtual 63, 3) := by decide +kernel
theorem dX12_state_18 : decode cX12_state 18 = .ok (.iload_n 2, 1) := by decide +kernel
theorem dX12_state_19 : decode cX12_state 19 = .ok (.ireturn, 1) := by decide +kernel
theorem dX12_draw_0 : decode cX12_draw 0 = .ok (.aload_n 0, 1) := by decide +kernel
theorem dX12_draw_1 : decode cX12_draw 1 = .ok (.getfield 7, 3) := by decide +kernel
theorem dX12_draw_4 : decode cX12_draw 4 = .ok (.iconst 5, 1) := by decide +kernel
theorem dX12_draw_5 : decode cX12_draw 5 = .ok (.ldc 66, 2) := by decide +kernel
theorem dX12_draw_7 : decode cX12_draw 7 = .ok (.aload_n 0, 1) := by decide +kernel
theorem dX12_draw_8 : decode cX12_draw 8 = .ok (.getfield 7, 3) := by decide +kernel
theorem dX12_draw_11 : decode cX12_draw 11 = .ok (.iconst 5, 1) := by decide +kernel
theorem dX12_draw_12 : decode cX12_draw 12 = .ok (.iaload, 1) := by decide +kernel
theorem dX12_draw_13 : decode cX12_draw 13 = .ok (.imul, 1) := by decide +kernel
theorem dX12_draw_14 : decode cX12_draw 14 = .ok (.ldc 67, 2) := by decide +kernel
theorem dX12_draw_16 : decode cX12_draw 16 = .ok (.iadd, 1) := by decide +kernel
theorem dX12_draw_17 : decode cX12_draw 17 = .ok (.iastore, 1) := by decide +kernel
theorem dX12_draw_18 : decode cX12_draw 18 = .ok (.aload_n 0, 1) := by decide +kernel
theorem dX12_draw_19 : decode cX12_draw 19 = .ok (.getfield 7, 3) := by decide +kernel
theorem dX12_draw_22 : decode cX12_draw 22 = .ok (.iconst 5, 1) := by decide +kernel
theorem dX12_draw_23 : decode cX12_draw 23 = .ok (.iaload, 1) := by decide +kernel
theorem dX12_draw_24 : decode cX12_draw 24 = .ok (.bipush 8, 2) := by decide +kernel
theorem dX12_draw_26 : decode cX12_draw 26 = .ok (.iushr, 1) := by decide +kernel
theorem dX12_draw_27 : decode cX12_draw 27 = .ok (.iload_n 1, 1) := by decide +kernel
theorem dX12_draw_28 : decode cX12_draw 28 = .ok (.irem, 1) := by decide +kernel
theorem dX12_draw_29 : decode cX12_draw 29 = .ok (.ireturn, 1) := by decide +kernel
theorem dX12_mule_0 : decode cX12_mule 0 = .ok (.iload_n 1, 1) := by decide +kernel
theorem dX12_mule_1 : decode cX12_mule 1 = .ok (.iconst 1, 1) := by decide +kernel
theorem dX12_mule_2 : decode cX12_mule 2 = .ok (.bipush 40, 2) := by decide +kernel
theorem dX12_mule_4 : decode cX12_mule 4 = .ok (.invokestatic 56, 3) := by decide +kernel
theorem dX12_mule_7 : decode cX12_mule 7 = .ok (.ifCond .eq 25, 3) := by decide +kernel
theorem dX12_mule_10 : decode cX12_mule 10 = .ok (.iload_n 2, 1) := by decide +kernel
theorem dX12_mule_11 : decode cX12_mule 11 = .ok (.iconst 0, 1) := by decide +kernel
theorem dX12_mule_12 : decode cX12_mule 12 = .ok (.bipush 40, 2) := by decide +kernel
theorem dX12_mule_14 : decode cX12_mule 14 = .ok (.invokestatic 56, 3) := by decide +kernel
theorem dX12_mule_17 : decode cX12_mule 17 = .ok (.ifCond .eq 15, 3) := by decide +kernel
theorem dX12_mule_20 : decode cX12_mule 20 = .ok (.aload_n 0, 1) := by decide +kernel
theorem dX12_mule_21 : decode cX12_mule 21 = .ok (.getfield 7, 3) := by decide +kernel
theorem dX12_mule_24 : decode cX12_mule 24 = .ok (.bipush 86, 2) := by decide +kernel
theorem dX12_mule_26 : decode cX12_mule 26 = .ok (.iaload, 1) := by decide +kernel
theorem dX12_mule_27 : decode cX12_mule 27 = .ok (.bipush 12, 2) := by decide +kernel
theorem dX12_mule_29 : decode cX12_mule 29 = .ok (.if_icmp .ne 5, 3) := by decide +kernel
theorem dX12_mule_32 : decode cX12_mule 32 = .ok (.iconst (-1), 1) := by decide +kernel
theorem dX12_mule_33 : decode cX12_mule 33 = .ok (.ireturn, 1) := by decide +kernel
theorem dX12_mule_34 : decode cX12_mule 34 = .ok (.aload_n 0, 1) := by decide +kernel
theorem dX12_mule_35 : decode cX12_mule 35 = .ok (.getfield 7, 3) := by decide +kernel
theorem dX12_mule_38 : decode cX12_mule 38 = .ok (.bipush 86, 2) := by decide +kernel
theorem dX12_mule_40 : decode cX12_mule 40 = .ok (.iaload, 1) := by decide +kernel
theorem dX12_mule_41 : decode cX12_mule 41 = .ok (.istore_n 3, 1) := by decide +kernel
theorem dX12_mule_42 : decode cX12_mule 42 = .ok (.aload_n 0, 1) := by decide +kernel
theorem dX12_mule_43 : decode cX12_mule 43 = .ok (.getfield 7, 3) := by decide +kernel
theorem dX12_mule_46 : decode cX12_mule 46 = .ok (.bipush 95, 2) := by decide +kernel
theorem dX12_mule_48 : decode cX12_mule 48 = .ok (.iload_n 3, 1) := by decide +kernel
theorem dX12_mule_49 : decode cX12_mule 49 = .ok (.iadd, 1) := by decide +kernel
theorem dX12_mule_50 : decode cX12_mule 50 = .ok (.iload_n 1, 1) := by decide +kernel
theorem dX12_mule_51 : decode cX12_mule 51 = .ok (.iastore, 1) := by decide +kernel
theorem dX12_mule_52 : decode cX12_mule 52 = .ok (.aload_n 0, 1) := by decide +kernel
theorem dX12_mule_53 : decode cX12_mule 53 = .ok (.getfield 7, 3) := by decide +kernel
theorem dX12_mule_56 : decode cX12_mule 56 = .ok (.bipush 107, 2) := by decide +kernel
theorem dX12_mule_58 : decode cX12_mule 58 = .ok (.iload_n 3, 1) := by decide +kernel
theorem dX12_mule_59 : decode cX12_mule 59 = .ok (.iadd, 1) := by decide +kernel
theorem dX12_mule_60 : decode cX12_mule 60 = .ok (.iload_n 2, 1) := by decide +kernel
theorem dX12_mule_61 : decode cX12_mule 61 = .ok (.iastore, 1) := by decide +kernel
theorem dX12_mule_62 : decode cX12_mule 62 = .ok (.aload_n 0, 1) := by decide +kernel
theorem dX12_mule_63 : decode cX12_mule 63 = .ok (.getfield 7, 3) := by decide +kernel
theorem dX12_mule_66 : decode cX12_mule 66 = .ok (.bipush 8, 2) := by decide +kernel
theorem dX12_mule_68 : decode cX12_mule 68 = .ok (.iload_n 3, 1) := by decide +kernel
theorem dX12_mule_69 : decode cX12_mule 69 = .ok (.iadd, 1) := by decide +kernel
theorem dX12_mule_70 : decode cX12_mule 70 = .ok (.iconst (-1), 1) := by decide +kernel
theorem dX12_mule_71 : decode cX12_mule 71 = .ok (.iastore, 1) := by decide +kernel
theorem dX12_mule_72 : decode cX12_mule 72 = .ok (.aload_n 0, 1) := by decide +kernel
theorem dX12_mule_73 : decode cX12_mule 73 = .ok (.getfield 7, 3) := by decide +kernel
theorem dX12_mule_76 : decode cX12_mule 76 = .ok (.sipush 129, 3) := by decide +kernel
theorem dX12_mule_79 : decode cX12_mule 79 = .ok (.iload_n 3, 1) := by decide +kernel
theorem dX12_mule_80 : decode cX12_mule 80 = .ok (.iadd, 1) := by decide +kernel
theorem dX12_mule_81 : decode cX12_mule 81 = .ok (.iconst 0, 1) := by decide +kernel
theorem dX12_mule_82 : decode cX12_mule 82 = .ok (.iastore, 1) := by decide +kernel
theorem dX12_mule_83 : decode cX12_mule 83 = .ok (.iconst 0, 1) := by decide +kernel
theorem dX12_mule_84 : decode cX12_mule 84 = .ok (.istore 4, 2) := by decide +kernel
theorem dX12_mule_86 : decode cX12_mule 86 = .ok (.iload 4, 2) := by decide +kernel
theorem dX12_mule_88 : decode cX12_mule 88 = .ok (.iconst 5, 1) := by decide +kernel
theorem dX12_mule_89 : decode cX12_mule 89 = .ok (.if_icmp .ge 25, 3) := by decide +kernel
theorem dX12_mule_92 : decode cX12_mule 92 = .ok (.aload_n 0, 1) := by decide +kernel
theorem dX12_mule_93 : decode cX12_mule 93 = .ok (.getfield 7, 3) := by decide +kernel
theorem dX12_mule_96 : decode cX12_mule 96 = .ok (.bipush 20, 2) := by decide +kernel
theorem dX12_mule_98 : decode cX12_mule 98 = .ok (.iconst 5, 1) := by decide +kernel
theorem dX12_mule_99 : decode cX12_mule 99 = .ok (.iload_n 3, 1) := by decide +kernel
theorem dX12_mule_100 : decode cX12_mule 100 = .ok (.imul, 1) := by decide +kernel
theorem dX12_mule_101 : decode cX12_mule 101 = .ok (.iadd, 1) := by decide +kernel
theorem dX12_mule_102 : decode cX12_mule 102 = .ok (.iload 4, 2) := by decide +kernel
theorem dX12_mule_104 : decode cX12_mule 104 = .ok (.iadd, 1) := by decide +kernel
theorem dX12_mule_105 : decode cX12_mule 105 = .ok (.bipush 30, 2) := by decide +kernel
theorem dX12_mule_107 : decode cX12_mule 107 = .ok (.iastore, 1) := by decide +kernel
theorem dX12_mule_108 : decode cX12_mule 108 = .ok (.iinc 4 1, 3) := by decide +kernel
theorem dX12_mule_111 : decode cX12_mule 111 = .ok (.goto (-25), 3) := by decide +kernel
theorem dX12_mule_114 : decode cX12_mule 114 = .ok (.aload_n 0, 1) := by decide +kernel
theorem dX12_mule_115 : decode cX12_mule 115 = .ok (.getfield 7, 3) := by decide +kernel
theorem dX12_mule_118 : decode cX12_mule 118 = .ok (.bipush 86, 2) := by decide +kernel
theorem dX12_mule_120 : decode cX12_mule 120 = .ok (.dup2, 1) := by decide +kernel
theorem dX12_mule_121 : decode cX12_mule 121 = .ok (.iaload, 1) := by decide +kernel
theorem dX12_mule_122 : decode cX12_mule 122 = .ok (.iconst 1, 1) := by decide +kernel
theorem dX12_mule_123 : decode cX12_mule 123 = .ok (.iadd, 1) := by decide +kernel
theorem dX12_mule_124 : decode cX12_mule 124 = .ok (.iastore, 1) := by decide +kernel
theorem dX12_mule_125 : decode cX12_mule 125 = .ok (.aload_n 0, 1) := by decide +kernel
theorem dX12_mule_126 : decode cX12_mule 126 = .ok (.invokevirtual 63, 3) := by decide +kernel
theorem dX12_mule_129 : decode cX12_mule 129 = .ok (.iload_n 3, 1) := by decide +kernel
theorem dX12_mule_130 : decode cX12_mule 130 = .ok (.ireturn, 1) := by decide +kernel
theorem dX12_man_0 : decode cX12_man 0 = .ok (.iload_n 1, 1) := by decide +kernel
theorem dX12_man_1 : decode cX12_man 1 = .ok (.iconst 0, 1) := by decide +kernel
theorem dX12_man_2 : decode cX12_man 2 = .ok (.bipush 99, 2) := by decide +kernel
theorem dX12_man_4 : decode cX12_man 4 = .ok (.invokestatic 56, 3) := by decide +kernel
theorem dX12_man_7 : decode cX12_man 7 = .ok (.ifCond .eq 34, 3) := by decide +kernel
theorem dX12_man_10 : decode cX12_man 10 = .ok (.iload_n 2, 1) := by decide +kernel
theorem dX12_man_11 : decode cX12_man 11 = .ok (.iconst 0, 1) := by decide +kernel
theorem dX12_man_12 : decode cX12_man 12 = .ok (.bipush 9, 2) := by decide +kernel
theorem dX12_man_14 : decode cX12_man 14 = .ok (.invokestatic 56, 3) := by decide +kernel
theorem dX12_man_17 : decode cX12_man 17 = .ok (.ifCond .eq 24, 3) := by decide +kernel
theorem dX12_man_20 : decode cX12_man 20 = .ok (.iload_n 3, 1) := by decide +kernel
theorem dX12_man_21 : decode cX12_man 21 = .ok (.iconst 0, 1) := by decide +kernel
theorem dX12_man_22 : decode cX12_man 22 = .ok (.bipush 9, 2) := by decide +kernel
theorem dX12_man_24 : decode cX12_man 24 = .ok (.invokestatic 56, 3) := by decide +kernel
theorem dX12_man_27 : decode cX12_man 27 = .ok (.ifCond .eq 14, 3) := by decide +kernel
theorem dX12_man_30 : decode cX12_man 30 = .ok (.aload_n 0, 1) := by decide +kernel
theorem dX12_man_31 : decode cX12_man 31 = .ok (.getfield 7, 3) := by decide +kernel
theorem dX12_man_34 : decode cX12_man 34 = .ok (.bipush 87, 2) := by decide +kernel
theorem dX12_man_36 : decode cX12_man 36 = .ok (.iaload, 1) := by decide +kernel
theorem dX12_man_37 : decode cX12_man 37 = .ok (.iconst 5, 1) := by decide +kernel
theorem dX12_man_38 : decode cX12_man 38 = .ok (.if_icmp .ne 5, 3) := by decide +kernel
theorem dX12_man_41 : decode cX12_man 41 = .ok (.iconst (-1), 1) := by decide +kernel
theorem dX12_man_42 : decode cX12_man 42 = .ok (.ireturn, 1) := by decide +kernel
theorem dX12_man_43 : decode cX12_man 43 = .ok (.aload_n 0, 1) := by decide +kernel
theorem dX12_man_44 : decode cX12_man 44 = .ok (.getfield 7, 3) := by decide +kernel
theorem dX12_man_47 : decode cX12_man 47 = .ok (.bipush 87, 2) := by decide +kernel
theorem dX12_man_49 : decode cX12_man 49 = .ok (.iaload, 1) := by decide +kernel
theorem dX12_man_50 : decode cX12_man 50 = .ok (.istore 4, 2) := by decide +kernel
theorem dX12_man_52 : decode cX12_man 52 = .ok (.aload_n 0, 1) := by decide +kernel
theorem dX12_man_53 : decode cX12_man 53 = .ok (.getfield 7, 3) := by decide +kernel
theorem dX12_man_56 : decode cX12_man 56 = .ok (.bipush 80, 2) := by decide +kernel
theorem dX12_man_58 : decode cX12_man 58 = .ok (.iload 4, 2) := by decide +kernel
theorem dX12_man_60 : decode cX12_man 60 = .ok (.iadd, 1) := by decide +kernel
theorem dX12_man_61 : decode cX12_man 61 = .ok (.iload_n 1, 1) := by decide +kernel
theorem dX12_man_62 : decode cX12_man 62 = .ok (.iastore, 1) := by decide +kernel
theorem dX12_man_63 : decode cX12_man 63 = .ok (.aload_n 0, 1) := by decide +kernel
theorem dX12_man_64 : decode cX12_man 64 = .ok (.getfield 7, 3) := by decide +kernel
theorem dX12_man_67 : decode cX12_man 67 = .ok (.bipush 119, 2) := by decide +kernel
theorem dX12_man_69 : decode cX12_man 69 = .ok (.iload 4, 2) := by decide +kernel
theorem dX12_man_71 : decode cX12_man 71 = .ok (.iadd, 1) := by decide +kernel
theorem dX12_man_72 : decode cX12_man 72 = .ok (.iload_n 2, 1) := by decide +kernel
theorem dX12_man_73 : decode cX12_man 73 = .ok (.iastore, 1) := by decide +kernel
theorem dX12_man_74 : decode cX12_man 74 = .ok (.aload_n 0, 1) := by decide +kernel
theorem dX12_man_75 : decode cX12_man 75 = .ok (.getfield 7, 3) := by decide +kernel
theorem dX12_man_78 : decode cX12_man 78 = .ok (.bipush 124, 2) := by decide +kernel
theorem dX12_man_80 : decode cX12_man 80 = .ok (.iload 4, 2) := by decide +kernel
theorem dX12_man_82 : decode cX12_man 82 = .ok (.iadd, 1) := by decide +kernel
theorem dX12_man_83 : decode cX12_man 83 = .ok (.iload_n 3, 1) := by decide +kernel
theorem dX12_man_84 : decode cX12_man 84 = .ok (.iastore, 1) := by decide +kernel
theorem dX12_man_85 : decode cX12_man 85 = .ok (.iconst 0, 1) := by decide +kernel
theorem dX12_man_86 : decode cX12_man 86 = .ok (.istore 5, 2) := by decide +kernel
theorem dX12_man_88 : decode cX12_man 88 = .ok (.iload 5, 2) := by decide +kernel
theorem dX12_man_90 : decode cX12_man 90 = .ok (.bipush 12, 2) := by decide +kernel
theorem dX12_man_92 : decode cX12_man 92 = .ok (.if_icmp .ge 26, 3) := by decide +kernel
theorem dX12_man_95 : decode cX12_man 95 = .ok (.aload_n 0, 1) := by decide +kernel
theorem dX12_man_96 : decode cX12_man 96 = .ok (.getfield 7, 3) := by decide +kernel
theorem dX12_man_99 : decode cX12_man 99 = .ok (.bipush 20, 2) := by decide +kernel
theorem dX12_man_101 : decode cX12_man 101 = .ok (.iconst 5, 1) := by decide +kernel
theorem dX12_man_102 : decode cX12_man 102 = .ok (.iload 5, 2) := by decide +kernel
theorem dX12_man_104 : decode cX12_man 104 = .ok (.imul, 1) := by decide +kernel
theorem dX12_man_105 : decode cX12_man 105 = .ok (.iadd, 1) := by decide +kernel
theorem dX12_man_106 : decode cX12_man 106 = .ok (.iload 4, 2) := by decide +kernel
theorem dX12_man_108 : decode cX12_man 108 = .ok (.iadd, 1) := by decide +kernel
theorem dX12_man_109 : decode cX12_man 109 = .ok (.bipush 30, 2) := by decide +kernel
theorem dX12_man_111 : decode cX12_man 111 = .ok (.iastore, 1) := by decide +kernel
theorem dX12_man_112 : decode cX12_man 112 = .ok (.iinc 5 1, 3) := by decide +kernel
theorem dX12_man_115 : decode cX12_man 115 = .ok (.goto (-27), 3) := by decide +kernel
theorem dX12_man_118 : decode cX12_man 118 = .ok (.aload_n 0, 1) := by decide +kernel
theorem dX12_man_119 : decode cX12_man 119 = .ok (.getfield 7, 3) := by decide +kernel
theorem dX12_man_122 : decode cX12_man 122 = .ok (.bipush 87, 2) := by decide +kernel
theorem dX12_man_124 : decode cX12_man 124 = .ok (.dup2, 1) := by decide +kernel
theorem dX12_man_125 : decode cX12_man 125 = .ok (.iaload, 1) := by decide +kernel
theorem dX12_man_126 : decode cX12_man 126 = .ok (.iconst 1, 1) := by decide +kernel
theorem dX12_man_127 : decode cX12_man 127 = .ok (.iadd, 1) := by decide +kernel
theorem dX12_man_128 : decode cX12_man 128 = .ok (.iastore, 1) := by decide +kernel
theorem dX12_man_129 : decode cX12_man 129 = .ok (.aload_n 0, 1) := by decide +kernel
theorem dX12_man_130 : decode cX12_man 130 = .ok (.invokevirtual 63, 3) := by decide +kernel
theorem dX12_man_133 : decode cX12_man 133 = .ok (.iload 4, 2) := by decide +kernel
theorem dX12_man_135 : decode cX12_man 135 = .ok (.ireturn, 1) := by decide +kernel
theorem dX12_canSet_0 : decode cX12_canSet 0 = .ok (.iload_n 1, 1) := by decide +kernel
theorem dX12_canSet_1 : decode cX12_canSet 1 = .ok (.tableswitch 123 0 5 #[39, 47, 52, 75, 99, 99], 39) := by decide +kernel
theorem dX12_canSet_40 : decode cX12_canSet 40 = .ok (.iload_n 3, 1) := by decide +kernel
theorem dX12_canSet_41 : decode cX12_canSet 41 = .ok (.iconst 0, 1) := by decide +kernel
theorem dX12_canSet_42 : decode cX12_canSet 42 = .ok (.bipush 9, 2) := by decide +kernel
theorem dX12_canSet_44 : decode cX12_canSet 44 = .ok (.invokestatic 56, 3) := by decide +kernel
theorem dX12_canSet_47 : decode cX12_canSet 47 = .ok (.ireturn, 1) := by decide +kernel
theorem dX12_canSet_48 : decode cX12_canSet 48 = .ok (.iload_n 3, 1) := by decide +kernel
theorem dX12_canSet_49 : decode cX12_canSet 49 = .ok (.invokestatic 68, 3) := by decide +kernel
theorem dX12_canSet_52 : decode cX12_canSet 52 = .ok (.ireturn, 1) := by decide +kernel
theorem dX12_canSet_53 : decode cX12_canSet 53 = .ok (.aload_n 0, 1) := by decide +kernel
theorem dX12_canSet_54 : decode cX12_canSet 54 = .ok (.iload_n 2, 1) := by decide +kernel
theorem dX12_canSet_55 : decode cX12_canSet 55 = .ok (.invokevirtual 72, 3) := by decide +kernel
theorem dX12_canSet_58 : decode cX12_canSet 58 = .ok (.ifCond .eq 16, 3) := by decide +kernel
theorem dX12_canSet_61 : decode cX12_canSet 61 = .ok (.iload_n 3, 1) := by decide +kernel
theorem dX12_canSet_62 : decode cX12_canSet 62 = .ok (.iconst 0, 1) := by decide +kernel
theorem dX12_canSet_63 : decode cX12_canSet 63 = .ok (.iconst 1, 1) := by decide +kernel
theorem dX12_canSet_64 : decode cX12_canSet 64 = .ok (.invokestatic 56, 3) := by decide +kernel
theorem dX12_canSet_67 : decode cX12_canSet 67 = .ok (.ifCond .eq 7, 3) := by decide +kernel
theorem dX12_canSet_70 : decode cX12_canSet 70 = .ok (.iconst 1, 1) := by decide +kernel
theorem dX12_canSet_71 : decode cX12_canSet 71 = .ok (.goto 4, 3) := by decide +kernel
theorem dX12_canSet_74 : decode cX12_canSet 74 = .ok (.iconst 0, 1) := by decide +kernel
theorem dX12_canSet_75 : decode cX12_canSet 75 = .ok (.ireturn, 1) := by decide +kernel
theorem dX12_canSet_76 : decode cX12_canSet 76 = .ok (.aload_n 0, 1) := by decide +kernel
theorem dX12_canSet_77 : decode cX12_canSet 77 = .ok (.iload_n 2, 1) := by decide +kernel
theorem dX12_canSet_78 : decode cX12_canSet 78 = .ok (.invokevirtual 75, 3) := by decide +kernel
theorem dX12_canSet_81 : decode cX12_canSet 81 = .ok (.ifCond .eq 17, 3) := by decide +kernel
theorem dX12_canSet_84 : decode cX12_canSet 84 = .ok (.iload_n 3, 1) := by decide +kernel
theorem dX12_canSet_85 : decode cX12_canSet 85 = .ok (.iconst 0, 1) := by decide +kernel
theorem dX12_canSet_86 : decode cX12_canSet 86 = .ok (.bipush 99, 2) := by decide +kernel
theorem dX12_canSet_88 : decode cX12_canSet 88 = .ok (.invokestatic 56, 3) := by decide +kernel
theorem dX12_canSet_91 : decode cX12_canSet 91 = .ok (.ifCond .eq 7, 3) := by decide +kernel
theorem dX12_canSet_94 : decode cX12_canSet 94 = .ok (.iconst 1, 1) := by decide +kernel
theorem dX12_canSet_95 : decode cX12_canSet 95 = .ok (.goto 4, 3) := by decide +kernel
theorem dX12_canSet_98 : decode cX12_canSet 98 = .ok (.iconst 0, 1) := by decide +kernel
theorem dX12_canSet_99 : decode cX12_canSet 99 = .ok (.ireturn, 1) := by decide +kernel
theorem dX12_canSet_100 : decode cX12_canSet 100 = .ok (.aload_n 0, 1) := by decide +kernel
theorem dX12_canSet_101 : decode cX12_canSet 101 = .ok (.iload_n 2, 1) := by decide +kernel
theorem dX12_canSet_102 : decode cX12_canSet 102 = .ok (.invokevirtual 75, 3) := by decide +kernel
theorem dX12_canSet_105 : decode cX12_canSet 105 = .ok (.ifCond .eq 17, 3) := by decide +kernel
theorem dX12_canSet_108 : decode cX12_canSet 108 = .ok (.iload_n 3, 1) := by decide +kernel
theorem dX12_canSet_109 : decode cX12_canSet 109 = .ok (.iconst 0, 1) := by decide +kernel
theorem dX12_canSet_110 : decode cX12_canSet 110 = .ok (.bipush 9, 2) := by decide +kernel
theorem dX12_canSet_112 : decode cX12_canSet 112 = .ok (.invokestatic 56, 3) := by decide +kernel
theorem dX12_canSet_115 : decode cX12_canSet 115 = .ok (.ifCond .eq 7, 3) := by decide +kernel
theorem dX12_canSet_118 : decode cX12_canSet 118 = .ok (.iconst 1, 1) := by decide +kernel
theorem dX12_canSet_119 : decode cX12_canSet 119 = .ok (.goto 4, 3) := by decide +kernel
theorem dX12_canSet_122 : decode cX12_canSet 122 = .ok (.iconst 0, 1) := by decide +kernel
theorem dX12_canSet_123 : decode cX12_canSet 123 = .ok (.ireturn, 1) := by decide +kernel
theorem dX12_canSet_124 : decode cX12_canSet 124 = .ok (.iconst 0, 1) := by decide +kernel
theorem dX12_canSet_125 : decode cX12_canSet 125 = .ok (.ireturn, 1) := by decide +kernel
theorem dX12_set_0 : decode cX12_set 0 = .ok (.aload_n 0, 1) := by decide +kernel
theorem dX12_set_1 : decode cX12_set 1 = .ok (.iload_n 1, 1) := by decide +kernel
theorem dX12_set_2 : decode cX12_set 2 = .ok (.iload_n 2, 1) := by decide +kernel
theorem dX12_set_3 : decode cX12_set 3 = .ok (.iload_n 3, 1) := by decide +kernel
theorem dX12_set_4 : decode cX12_set 4 = .ok (.invokevirtual 78, 3) := by decide +kernel
theorem dX12_set_7 : decode cX12_set 7 = .ok (.ifCond .ne 5, 3) := by decide +kernel
theorem dX12_set_10 : decode cX12_set 10 = .ok (.iconst 0, 1) := by decide +kernel
theorem dX12_set_11 : decode cX12_set 11 = .ok (.ireturn, 1) := by decide +kernel
theorem dX12_set_12 : decode cX12_set 12 = .ok (.iload_n 1, 1) := by decide +kernel
theorem dX12_set_13 : decode cX12_set 13 = .ok (.tableswitch 75 0 2 #[27, 38, 48], 27) := by decide +kernel
theorem dX12_set_40 : decode cX12_set 40 = .ok (.aload_n 0, 1) := by decide +kernel
theorem dX12_set_41 : decode cX12_set 41 = .ok (.getfield 7, 3) := by decide +kernel
theorem dX12_set_44 : decode cX12_set 44 = .ok (.bipush 88, 2) := by decide +kernel
theorem dX12_set_46 : decode cX12_set 46 = .ok (.iload_n 3, 1) := by decide +kernel
theorem dX12_set_47 : decode cX12_set 47 = .ok (.iastore, 1) := by decide +kernel
theorem dX12_set_48 : decode cX12_set 48 = .ok (.goto 70, 3) := by decide +kernel
theorem dX12_set_51 : decode cX12_set 51 = .ok (.aload_n 0, 1) := by decide +kernel
theorem dX12_set_52 : decode cX12_set 52 = .ok (.getfield 7, 3) := by decide +kernel
theorem dX12_set_55 : decode cX12_set 55 = .ok (.iconst 1, 1) := by decide +kernel
theorem dX12_set_56 : decode cX12_set 56 = .ok (.iload_n 3, 1) := by decide +kernel
theorem dX12_set_57 : decode cX12_set 57 = .ok (.iastore, 1) := by decide +kernel
theorem dX12_set_58 : decode cX12_set 58 = .ok (.goto 60, 3) := by decide +kernel
theorem dX12_set_61 : decode cX12_set 61 = .ok (.aload_n 0, 1) := by decide +kernel
theorem dX12_set_62 : decode cX12_set 62 = .ok (.getfield 7, 3) := by decide +kernel
theorem dX12_set_65 : decode cX12_set 65 = .ok (.bipush 7, 2) := by decide +kernel
theorem dX12_set_67 : decode cX12_set 67 = .ok (.aload_n 0, 1) := by decide +kernel
theorem dX12_set_68 : decode cX12_set 68 = .ok (.getfield 7, 3) := by decide +kernel
theorem dX12_set_71 : decode cX12_set 71 = .ok (.bipush 7, 2) := by decide +kernel
theorem dX12_set_73 : decode cX12_set 73 = .ok (.iaload, 1) := by decide +kernel
theorem dX12_set_74 : decode cX12_set 74 = .ok (.iconst 1, 1) := by decide +kernel
theorem dX12_set_75 : decode cX12_set 75 = .ok (.iload_n 2, 1) := by decide +kernel
theorem dX12_set_76 : decode cX12_set 76 = .ok (.ishl, 1) := by decide +kernel
theorem dX12_set_77 : decode cX12_set 77 = .ok (.iconst (-1), 1) := by decide +kernel
theorem dX12_set_78 : decode cX12_set 78 = .ok (.ixor, 1) := by decide +kernel
theorem dX12_set_79 : decode cX12_set 79 = .ok (.iand, 1) := by decide +kernel
theorem dX12_set_80 : decode cX12_set 80 = .ok (.iload_n 3, 1) := by decide +kernel
theorem dX12_set_81 : decode cX12_set 81 = .ok (.iload_n 2, 1) := by decide +kernel
theorem dX12_set_82 : decode cX12_set 82 = .ok (.ishl, 1) := by decide +kernel
theorem dX12_set_83 : decode cX12_set 83 = .ok (.ior, 1) := by decide +kernel
theorem dX12_set_84 : decode cX12_set 84 = .ok (.iastore, 1) := by decide +kernel
theorem dX12_set_85 : decode cX12_set 85 = .ok (.goto 33, 3) := by decide +kernel
theorem dX12_set_88 : decode cX12_set 88 = .ok (.aload_n 0, 1) := by decide +kernel
theorem dX12_set_89 : decode cX12_set 89 = .ok (.getfield 7, 3) := by decide +kernel
theorem dX12_set_92 : decode cX12_set 92 = .ok (.iload_n 1, 1) := by decide +kernel
theorem dX12_set_93 : decode cX12_set 93 = .ok (.iconst 3, 1) := by decide +kernel
theorem dX12_set_94 : decode cX12_set 94 = .ok (.if_icmp .ne 8, 3) := by decide +kernel
theorem dX12_set_97 : decode cX12_set 97 = .ok (.bipush 80, 2) := by decide +kernel
theorem dX12_set_99 : decode cX12_set 99 = .ok (.goto 15, 3) := by decide +kernel
theorem dX12_set_102 : decode cX12_set 102 = .ok (.iload_n 1, 1) := by decide +kernel
theorem dX12_set_103 : decode cX12_set 103 = .ok (.iconst 4, 1) := by decide +kernel
theorem dX12_set_104 : decode cX12_set 104 = .ok (.if_icmp .ne 8, 3) := by decide +kernel
theorem dX12_set_107 : decode cX12_set 107 = .ok (.bipush 119, 2) := by decide +kernel
theorem dX12_set_109 : decode cX12_set 109 = .ok (.goto 5, 3) := by decide +kernel
theorem dX12_set_112 : decode cX12_set 112 = .ok (.bipush 124, 2) := by decide +kernel
theorem dX12_set_114 : decode cX12_set 114 = .ok (.iload_n 2, 1) := by decide +kernel
theorem dX12_set_115 : decode cX12_set 115 = .ok (.iadd, 1) := by decide +kernel
theorem dX12_set_116 : decode cX12_set 116 = .ok (.iload_n 3, 1) := by decide +kernel
theorem dX12_set_117 : decode cX12_set 117 = .ok (.iastore, 1) := by decide +kernel
theorem dX12_set_118 : decode cX12_set 118 = .ok (.aload_n 0, 1) := by decide +kernel
theorem dX12_set_119 : decode cX12_set 119 = .ok (.invokevirtual 63, 3) := by decide +kernel
theorem dX12_set_122 : decode cX12_set 122 = .ok (.iconst 1, 1) := by decide +kernel
theorem dX12_set_123 : decode cX12_set 123 = .ok (.ireturn, 1) := by decide +kernel
theorem dX12_like_0 : decode cX12_like 0 = .ok (.aload_n 0, 1) := by decide +kernel
theorem dX12_like_1 : decode cX12_like 1 = .ok (.iload_n 1, 1) := by decide +kernel
theorem dX12_like_2 : decode cX12_like 2 = .ok (.invokevirtual 72, 3) := by decide +kernel
theorem dX12_like_5 : decode cX12_like 5 = .ok (.ifCond .eq 21, 3) := by decide +kernel
theorem dX12_like_8 : decode cX12_like 8 = .ok (.aload_n 0, 1) := by decide +kernel
theorem dX12_like_9 : decode cX12_like 9 = .ok (.iload_n 2, 1) := by decide +kernel
theorem dX12_like_10 : decode cX12_like 10 = .ok (.invokevirtual 75, 3) := by decide +kernel
theorem dX12_like_13 : decode cX12_like 13 = .ok (.ifCond .eq 13, 3) := by decide +kernel
theorem dX12_like_16 : decode cX12_like 16 = .ok (.iload_n 3, 1) := by decide +kernel
theorem dX12_like_17 : decode cX12_like 17 = .ok (.iconst 0, 1) := by decide +kernel
theorem dX12_like_18 : decode cX12_like 18 = .ok (.bipush 99, 2) := by decide +kernel
theorem dX12_like_20 : decode cX12_like 20 = .ok (.invokestatic 56, 3) := by decide +kernel
theorem dX12_like_23 : decode cX12_like 23 = .ok (.ifCond .ne 5, 3) := by decide +kernel
theorem dX12_like_26 : decode cX12_like 26 = .ok (.iconst 0, 1) := by decide +kernel
theorem dX12_like_27 : decode cX12_like 27 = .ok (.ireturn, 1) := by decide +kernel
theorem dX12_like_28 : decode cX12_like 28 = .ok (.aload_n 0, 1) := by decide +kernel
theorem dX12_like_29 : decode cX12_like 29 = .ok (.getfield 7, 3) := by decide +kernel
theorem dX12_like_32 : decode cX12_like 32 = .ok (.bipush 20, 2) := by decide +kernel
theorem dX12_like_34 : decode cX12_like 34 = .ok (.iconst 5, 1) := by decide +kernel
theorem dX12_like_35 : decode cX12_like 35 = .ok (.iload_n 1, 1) := by decide +kernel
theorem dX12_like_36 : decode cX12_like 36 = .ok (.imul, 1) := by decide +kernel
theorem dX12_like_37 : decode cX12_like 37 = .ok (.iadd, 1) := by decide +kernel
theorem dX12_like_38 : decode cX12_like 38 = .ok (.iload_n 2, 1) := by decide +kernel
theorem dX12_like_39 : decode cX12_like 39 = .ok (.iadd, 1) := by decide +kernel
theorem dX12_like_40 : decode cX12_like 40 = .ok (.iload_n 3, 1) := by decide +kernel
theorem dX12_like_41 : decode cX12_like 41 = .ok (.iastore, 1) := by decide +kernel
theorem dX12_like_42 : decode cX12_like 42 = .ok (.aload_n 0, 1) := by decide +kernel
theorem dX12_like_43 : decode cX12_like 43 = .ok (.invokevirtual 63, 3) := by decide +kernel
theorem dX12_like_46 : decode cX12_like 46 = .ok (.iconst 1, 1) := by decide +kernel
theorem dX12_like_47 : decode cX12_like 47 = .ok (.ireturn, 1) := by decide +kernel
theorem dX12_feed_0 : decode cX12_feed 0 = .ok (.aload_n 0, 1) := by decide +kernel
theorem dX12_feed_1 : decode cX12_feed 1 = .ok (.getfield 81, 3) := by decide +kernel
theorem dX12_feed_4 : decode cX12_feed 4 = .ok (.bipush 20, 2) := by decide +kernel
theorem dX12_feed_6 : decode cX12_feed 6 = .ok (.iadd, 1) := by decide +kernel
theorem dX12_feed_7 : decode cX12_feed 7 = .ok (.sipush 400, 3) := by decide +kernel
theorem dX12_feed_10 : decode cX12_feed 10 = .ok (.if_icmp .le 5, 3) := by decide +kernel
theorem dX12_feed_13 : decode cX12_feed 13 = .ok (.iconst (-1), 1) := by decide +kernel
theorem dX12_feed_14 : decode cX12_feed 14 = .ok (.ireturn, 1) := by decide +kernel
theorem dX12_feed_15 : decode cX12_feed 15 = .ok (.iconst 0, 1) := by decide +kernel
theorem dX12_feed_16 : decode cX12_feed 16 = .ok (.istore 6, 2) := by decide +kernel
theorem dX12_feed_18 : decode cX12_feed 18 = .ok (.iload 6, 2) := by decide +kernel
theorem dX12_feed_20 : decode cX12_feed 20 = .ok (.bipush 20, 2) := by decide +kernel
theorem dX12_feed_22 : decode cX12_feed 22 = .ok (.if_icmp .ge 93, 3) := by decide +kernel
theorem dX12_feed_25 : decode cX12_feed 25 = .ok (.iload 6, 2) := by decide +kernel
theorem dX12_feed_27 : decode cX12_feed 27 = .ok (.iconst 4, 1) := by decide +kernel
theorem dX12_feed_28 : decode cX12_feed 28 = .ok (.if_icmp .ge 7, 3) := by decide +kernel
theorem dX12_feed_31 : decode cX12_feed 31 = .ok (.iload_n 1, 1) := by decide +kernel
theorem dX12_feed_32 : decode cX12_feed 32 = .ok (.goto 39, 3) := by decide +kernel
theorem dX12_feed_35 : decode cX12_feed 35 = .ok (.iload 6, 2) := by decide +kernel
theorem dX12_feed_37 : decode cX12_feed 37 = .ok (.bipush 8, 2) := by decide +kernel
theorem dX12_feed_39 : decode cX12_feed 39 = .ok (.if_icmp .ge 7, 3) := by decide +kernel
theorem dX12_feed_42 : decode cX12_feed 42 = .ok (.iload_n 2, 1) := by decide +kernel
theorem dX12_feed_43 : decode cX12_feed 43 = .ok (.goto 28, 3) := by decide +kernel
theorem dX12_feed_46 : decode cX12_feed 46 = .ok (.iload 6, 2) := by decide +kernel
theorem dX12_feed_48 : decode cX12_feed 48 = .ok (.bipush 12, 2) := by decide +kernel
theorem dX12_feed_50 : decode cX12_feed 50 = .ok (.if_icmp .ge 7, 3) := by decide +kernel
theorem dX12_feed_53 : decode cX12_feed 53 = .ok (.iload_n 3, 1) := by decide +kernel
theorem dX12_feed_54 : decode cX12_feed 54 = .ok (.goto 17, 3) := by decide +kernel
theorem dX12_feed_57 : decode cX12_feed 57 = .ok (.iload 6, 2) := by decide +kernel
theorem dX12_feed_59 : decode cX12_feed 59 = .ok (.bipush 16, 2) := by decide +kernel
theorem dX12_feed_61 : decode cX12_feed 61 = .ok (.if_icmp .ge 8, 3) := by decide +kernel
theorem dX12_feed_64 : decode cX12_feed 64 = .ok (.iload 4, 2) := by decide +kernel
theorem dX12_feed_66 : decode cX12_feed 66 = .ok (.goto 5, 3) := by decide +kernel
theorem dX12_feed_69 : decode cX12_feed 69 = .ok (.iload 5, 2) := by decide +kernel
theorem dX12_feed_71 : decode cX12_feed 71 = .ok (.istore 7, 2) := by decide +kernel
theorem dX12_feed_73 : decode cX12_feed 73 = .ok (.aload_n 0, 1) := by decide +kernel
theorem dX12_feed_74 : decode cX12_feed 74 = .ok (.getfield 31, 3) := by decide +kernel
theorem dX12_feed_77 : decode cX12_feed 77 = .ok (.aload_n 0, 1) := by decide +kernel
theorem dX12_feed_78 : decode cX12_feed 78 = .ok (.getfield 81, 3) := by decide +kernel
theorem dX12_feed_81 : decode cX12_feed 81 = .ok (.iload 7, 2) := by decide +kernel
theorem dX12_feed_83 : decode cX12_feed 83 = .ok (.bipush 24, 2) := by decide +kernel
theorem dX12_feed_85 : decode cX12_feed 85 = .ok (.bipush 8, 2) := by decide +kernel
theorem dX12_feed_87 : decode cX12_feed 87 = .ok (.iload 6, 2) := by decide +kernel
theorem dX12_feed_89 : decode cX12_feed 89 = .ok (.iconst 4, 1) := by decide +kernel
theorem dX12_feed_90 : decode cX12_feed 90 = .ok (.irem, 1) := by decide +kernel
theorem dX12_feed_91 : decode cX12_feed 91 = .ok (.imul, 1) := by decide +kernel
theorem dX12_feed_92 : decode cX12_feed 92 = .ok (.isub, 1) := by decide +kernel
theorem dX12_feed_93 : decode cX12_feed 93 = .ok (.ishr, 1) := by decide +kernel
theorem dX12_feed_94 : decode cX12_feed 94 = .ok (.sipush 255, 3) := by decide +kernel
theorem dX12_feed_97 : decode cX12_feed 97 = .ok (.iand, 1) := by decide +kernel
theorem dX12_feed_98 : decode cX12_feed 98 = .ok (.iastore, 1) := by decide +kernel
theorem dX12_feed_99 : decode cX12_feed 99 = .ok (.aload_n 0, 1) := by decide +kernel
theorem dX12_feed_100 : decode cX12_feed 100 = .ok (.dup, 1) := by decide +kernel
theorem dX12_feed_101 : decode cX12_feed 101 = .ok (.getfield 81, 3) := by decide +kernel
theorem dX12_feed_104 : decode cX12_feed 104 = .ok (.iconst 1, 1) := by decide +kernel
theorem dX12_feed_105 : decode cX12_feed 105 = .ok (.iadd, 1) := by decide +kernel
theorem dX12_feed_106 : decode cX12_feed 106 = .ok (.putfield 81, 3) := by decide +kernel
theorem dX12_feed_109 : decode cX12_feed 109 = .ok (.iinc 6 1, 3) := by decide +kernel
theorem dX12_feed_112 : decode cX12_feed 112 = .ok (.goto (-94), 3) := by decide +kernel
theorem dX12_feed_115 : decode cX12_feed 115 = .ok (.aload_n 0, 1) := by decide +kernel
theorem dX12_feed_116 : decode cX12_feed 116 = .ok (.getfield 81, 3) := by decide +kernel
theorem dX12_feed_119 : decode cX12_feed 119 = .ok (.ireturn, 1) := by decide +kernel
theorem dX12_end_0 : decode cX12_end 0 = .ok (.iload_n 1, 1) := by decide +kernel
theorem dX12_end_1 : decode cX12_end 1 = .ok (.iconst 0, 1) := by decide +kernel
theorem dX12_end_2 : decode cX12_end 2 = .ok (.aload_n 0, 1) := by decide +kernel
theorem dX12_end_3 : decode cX12_end 3 = .ok (.getfield 81, 3) := by decide +kernel
theorem dX12_end_6 : decode cX12_end 6 = .ok (.invokestatic 56, 3) := by decide +kernel
theorem dX12_end_9 : decode cX12_end 9 = .ok (.ifCond .ne 5, 3) := by decide +kernel
theorem dX12_end_12 : decode cX12_end 12 = .ok (.iconst 0, 1) := by decide +kernel
theorem dX12_end_13 : decode cX12_end 13 = .ok (.ireturn, 1) := by decide +kernel
theorem dX12_end_14 : decode cX12_end 14 = .ok (.aload_n 0, 1) := by decide +kernel
theorem dX12_end_15 : decode cX12_end 15 = .ok (.iload_n 1, 1) := by decide +kernel
theorem dX12_end_16 : decode cX12_end 16 = .ok (.putfield 81, 3) := by decide +kernel
theorem dX12_end_19 : decode cX12_end 19 = .ok (.iconst 1, 1) := by decide +kernel
theorem dX12_end_20 : decode cX12_end 20 = .ok (.ireturn, 1) := by decide +kernel
theorem dX12_see_0 : decode cX12_see 0 = .ok (.iload_n 1, 1) := by decide +kernel
theorem dX12_see_1 : decode cX12_see 1 = .ok (.aload_n 0, 1) := by decide +kernel
theorem dX12_see_2 : decode cX12_see 2 = .ok (.getfield 81, 3) := by decide +kernel
theorem dX12_see_5 : decode cX12_see 5 = .ok (.if_icmp .ge 12, 3) := by decide +kernel
theorem dX12_see_8 : decode cX12_see 8 = .ok (.aload_n 0, 1) := by decide +kernel
theorem dX12_see_9 : decode cX12_see 9 = .ok (.getfield 31, 3) := by decide +kernel
theorem dX12_see_12 : decode cX12_see 12 = .ok (.iload_n 1, 1) := by decide +kernel
theorem dX12_see_13 : decode cX12_see 13 = .ok (.iaload, 1) := by decide +kernel
theorem dX12_see_14 : decode cX12_see 14 = .ok (.goto 4, 3) := by decide +kernel
theorem dX12_see_17 : decode cX12_see 17 = .ok (.iconst (-1), 1) := by decide +kernel
theorem dX12_see_18 : decode cX12_see 18 = .ok (.ireturn, 1) := by decide +kernel
theorem dX12_isLetter_0 : decode cX12_isLetter 0 = .ok (.iload_n 0, 1) := by decide +kernel
theorem dX12_isLetter_1 : decode cX12_isLetter 1 = .ok (.bipush 97, 2) := by decide +kernel
theorem dX12_isLetter_3 : decode cX12_isLetter 3 = .ok (.bipush 122, 2) := by decide +kernel
theorem dX12_isLetter_5 : decode cX12_isLetter 5 = .ok (.invokestatic 56, 3) := by decide +kernel
theorem dX12_isLetter_8 : decode cX12_isLetter 8 = .ok (.ifCond .ne 14, 3) := by decide +kernel
theorem dX12_isLetter_11 : decode cX12_isLetter 11 = .ok (.iload_n 0, 1) := by decide +kernel
theorem dX12_isLetter_12 : decode cX12_isLetter 12 = .ok (.bipush 65, 2) := by decide +kernel
theorem dX12_isLetter_14 : decode cX12_isLetter 14 = .ok (.bipush 90, 2) := by decide +kernel
theorem dX12_isLetter_16 : decode cX12_isLetter 16 = .ok (.invokestatic 56, 3) := by decide +kernel
theorem dX12_isLetter_19 : decode cX12_isLetter 19 = .ok (.ifCond .eq 7, 3) := by decide +kernel
theorem dX12_isLetter_22 : decode cX12_isLetter 22 = .ok (.iconst 1, 1) := by decide +kernel
theorem dX12_isLetter_23 : decode cX12_isLetter 23 = .ok (.goto 4, 3) := by decide +kernel
theorem dX12_isLetter_26 : decode cX12_isLetter 26 = .ok (.iconst 0, 1) := by decide +kernel
theorem dX12_isLetter_27 : decode cX12_isLetter 27 = .ok (.ireturn, 1) := by decide +kernel
theorem dX12_isDigit_0 : decode cX12_isDigit 0 = .ok (.iload_n 0, 1) := by decide +kernel
theorem dX12_isDigit_1 : decode cX12_isDigit 1 = .ok (.bipush 48, 2) := by decide +kernel
theorem dX12_isDigit_3 : decode cX12_isDigit 3 = .ok (.bipush 57, 2) := by decide +kernel
theorem dX12_isDigit_5 : decode cX12_isDigit 5 = .ok (.invokestatic 56, 3) := by decide +kernel
theorem dX12_isDigit_8 : decode cX12_isDigit 8 = .ok (.ireturn, 1) := by decide +kernel
theorem dX12_is_0 : decode cX12_is 0 = .ok (.aload_n 0, 1) := by decide +kernel
theorem dX12_is_1 : decode cX12_is 1 = .ok (.getfield 84, 3) := by decide +kernel
theorem dX12_is_4 : decode cX12_is 4 = .ok (.aload_n 0, 1) := by decide +kernel
theorem dX12_is_5 : decode cX12_is 5 = .ok (.getfield 87, 3) := by decide +kernel
theorem dX12_is_8 : decode cX12_is 8 = .ok (.isub, 1) := by decide +kernel
theorem dX12_is_9 : decode cX12_is 9 = .ok (.aload_n 1, 1) := by decide +kernel
theorem dX12_is_10 : decode cX12_is 10 = .ok (.invokevirtual 90, 3) := by decide +kernel
theorem dX12_is_13 : decode cX12_is 13 = .ok (.if_icmp .ne 7, 3) := by decide +kernel
theorem dX12_is_16 : decode cX12_is 16 = .ok (.iconst 1, 1) := by decide +kernel
theorem dX12_is_17 : decode cX12_is 17 = .ok (.goto 4, 3) := by decide +kernel
theorem dX12_is_20 : decode cX12_is 20 = .ok (.iconst 0, 1) := by decide +kernel
theorem dX12_is_21 : decode cX12_is 21 = .ok (.istore_n 2, 1) := by decide +kernel
theorem dX12_is_22 : decode cX12_is 22 = .ok (.iconst 0, 1) := by decide +kernel
theorem dX12_is_23 : decode cX12_is 23 = .ok (.istore_n 3, 1) := by decide +kernel
theorem dX12_is_24 : decode cX12_is 24 = .ok (.iload_n 3, 1) := by decide +kernel
theorem dX12_is_25 : decode cX12_is 25 = .ok (.aload_n 1, 1) := by decide +kernel
theorem dX12_is_26 : decode cX12_is 26 = .ok (.invokevirtual 90, 3) := by decide +kernel
theorem dX12_is_29 : decode cX12_is 29 = .ok (.if_icmp .ge 38, 3) := by decide +kernel
theorem dX12_is_32 : decode cX12_is 32 = .ok (.iload_n 2, 1) := by decide +kernel
theorem dX12_is_33 : decode cX12_is 33 = .ok (.ifCond .eq 34, 3) := by decide +kernel
theorem dX12_is_36 : decode cX12_is 36 = .ok (.aload_n 0, 1) := by decide +kernel
theorem dX12_is_37 : decode cX12_is 37 = .ok (.getfield 31, 3) := by decide +kernel
theorem dX12_is_40 : decode cX12_is 40 = .ok (.aload_n 0, 1) := by decide +kernel
theorem dX12_is_41 : decode cX12_is 41 = .ok (.getfield 87, 3) := by decide +kernel
theorem dX12_is_44 : decode cX12_is 44 = .ok (.iload_n 3, 1) := by decide +kernel
theorem dX12_is_45 : decode cX12_is 45 = .ok (.iadd, 1) := by decide +kernel
theorem dX12_is_46 : decode cX12_is 46 = .ok (.iaload, 1) := by decide +kernel
theorem dX12_is_47 : decode cX12_is 47 = .ok (.aload_n 1, 1) := by decide +kernel
theorem dX12_is_48 : decode cX12_is 48 = .ok (.iload_n 3, 1) := by decide +kernel
theorem dX12_is_49 : decode cX12_is 49 = .ok (.invokevirtual 96, 3) := by decide +kernel
theorem dX12_is_52 : decode cX12_is 52 = .ok (.if_icmp .ne 7, 3) := by decide +kernel
theorem dX12_is_55 : decode cX12_is 55 = .ok (.iconst 1, 1) := by decide +kernel
theorem dX12_is_56 : decode cX12_is 56 = .ok (.goto 4, 3) := by decide +kernel
theorem dX12_is_59 : decode cX12_is 59 = .ok (.iconst 0, 1) := by decide +kernel
theorem dX12_is_60 : decode cX12_is 60 = .ok (.istore_n 2, 1) := by decide +kernel
theorem dX12_is_61 : decode cX12_is 61 = .ok (.iinc 3 1, 3) := by decide +kernel
theorem dX12_is_64 : decode cX12_is 64 = .ok (.goto (-40), 3) := by decide +kernel
theorem dX12_is_67 : decode cX12_is 67 = .ok (.iload_n 2, 1) := by decide +kernel
theorem dX12_is_68 : decode cX12_is 68 = .ok (.ireturn, 1) := by decide +kernel
theorem dX12_asked_0 : decode cX12_asked 0 = .ok (.aload_n 0, 1) := by decide +kernel
theorem dX12_asked_1 : decode cX12_asked 1 = .ok (.ldc 100, 2) := by decide +kernel
theorem dX12_asked_3 : decode cX12_asked 3 = .ok (.invokevirtual 102, 3) := by decide +kernel
theorem dX12_asked_6 : decode cX12_asked 6 = .ok (.ifCond .eq 6, 3) := by decide +kernel
theorem dX12_asked_9 : decode cX12_asked 9 = .ok (.bipush 41, 2) := by decide +kernel
theorem dX12_asked_11 : decode cX12_asked 11 = .ok (.ireturn, 1) := by decide +kernel
theorem dX12_asked_12 : decode cX12_asked 12 = .ok (.aload_n 0, 1) := by decide +kernel
theorem dX12_asked_13 : decode cX12_asked 13 = .ok (.ldc 106, 2) := by decide +kernel
theorem dX12_asked_15 : decode cX12_asked 15 = .ok (.invokevirtual 102, 3) := by decide +kernel
theorem dX12_asked_18 : decode cX12_asked 18 = .ok (.ifCond .eq 6, 3) := by decide +kernel
theorem dX12_asked_21 : decode cX12_asked 21 = .ok (.bipush 42, 2) := by decide +kernel
theorem dX12_asked_23 : decode cX12_asked 23 = .ok (.ireturn, 1) := by decide +kernel
theorem dX12_asked_24 : decode cX12_asked 24 = .ok (.aload_n 0, 1) := by decide +kernel
theorem dX12_asked_25 : decode cX12_asked 25 = .ok (.ldc 108, 2) := by decide +kernel
theorem dX12_asked_27 : decode cX12_asked 27 = .ok (.invokevirtual 102, 3) := by decide +kernel
theorem dX12_asked_30 : decode cX12_asked 30 = .ok (.ifCond .eq 6, 3) := by decide +kernel
theorem dX12_asked_33 : decode cX12_asked 33 = .ok (.bipush 43, 2) := by decide +kernel
theorem dX12_asked_35 : decode cX12_asked 35 = .ok (.ireturn, 1) := by decide +kernel
theorem dX12_asked_36 : decode cX12_asked 36 = .ok (.aload_n 0, 1) := by decide +kernel
theorem dX12_asked_37 : decode cX12_asked 37 = .ok (.ldc 110, 2) := by decide +kernel
theorem dX12_asked_39 : decode cX12_asked 39 = .ok (.invokevirtual 102, 3) := by decide +kernel
theorem dX12_asked_42 : decode cX12_asked 42 = .ok (.ifCond .eq 6, 3) := by decide +kernel
theorem dX12_asked_45 : decode cX12_asked 45 = .ok (.bipush 44, 2) := by decide +kernel
theorem dX12_asked_47 : decode cX12_asked 47 = .ok (.ireturn, 1) := by decide +kernel
theorem dX12_asked_48 : decode cX12_asked 48 = .ok (.aload_n 0, 1) := by decide +kernel
theorem dX12_asked_49 : decode cX12_asked 49 = .ok (.ldc 112, 2) := by decide +kernel
theorem dX12_asked_51 : decode cX12_asked 51 = .ok (.invokevirtual 102, 3) := by decide +kernel
theorem dX12_asked_54 : decode cX12_asked 54 = .ok (.ifCond .eq 6, 3) := by decide +kernel
theorem dX12_asked_57 : decode cX12_asked 57 = .ok (.bipush 45, 2) := by decide +kernel
theorem dX12_asked_59 : decode cX12_asked 59 = .ok (.ireturn, 1) := by decide +kernel
theorem dX12_asked_60 : decode cX12_asked 60 = .ok (.aload_n 0, 1) := by decide +kernel
theorem dX12_asked_61 : decode cX12_asked 61 = .ok (.ldc 114, 2) := by decide +kernel
theorem dX12_asked_63 : decode cX12_asked 63 = .ok (.invokevirtual 102, 3) := by decide +kernel
theorem dX12_asked_66 : decode cX12_asked 66 = .ok (.ifCond .eq 6, 3) := by decide +kernel
theorem dX12_asked_69 : decode cX12_asked 69 = .ok (.bipush 46, 2) := by decide +kernel
theorem dX12_asked_71 : decode cX12_asked 71 = .ok (.ireturn, 1) := by decide +kernel
theorem dX12_asked_72 : decode cX12_asked 72 = .ok (.aload_n 0, 1) := by decide +kernel
theorem dX12_asked_73 : decode cX12_asked 73 = .ok (.ldc 116, 2) := by decide +kernel
theorem dX12_asked_75 : decode cX12_asked 75 = .ok (.invokevirtual 102, 3) := by decide +kernel
theorem dX12_asked_78 : decode cX12_asked 78 = .ok (.ifCond .eq 6, 3) := by decide +kernel
theorem dX12_asked_81 : decode cX12_asked 81 = .ok (.bipush 47, 2) := by decide +kernel
theorem dX12_asked_83 : decode cX12_asked 83 = .ok (.ireturn, 1) := by decide +kernel
theorem dX12_asked_84 : decode cX12_asked 84 = .ok (.aload_n 0, 1) := by decide +kernel
theorem dX12_asked_85 : decode cX12_asked 85 = .ok (.ldc 118, 2) := by decide +kernel
theorem dX12_asked_87 : decode cX12_asked 87 = .ok (.invokevirtual 102, 3) := by decide +kernel
theorem dX12_asked_90 : decode cX12_asked 90 = .ok (.ifCond .eq 6, 3) := by decide +kernel
theorem dX12_asked_93 : decode cX12_asked 93 = .ok (.bipush 48, 2) := by decide +kernel
theorem dX12_asked_95 : decode cX12_asked 95 = .ok (.ireturn, 1) := by decide +kernel
theorem dX12_asked_96 : decode cX12_asked 96 = .ok (.aload_n 0, 1) := by decide +kernel
theorem dX12_asked_97 : decode cX12_asked 97 = .ok (.ldc 120, 2) := by decide +kernel
theorem dX12_asked_99 : decode cX12_asked 99 = .ok (.invokevirtual 102, 3) := by decide +kernel
theorem dX12_asked_102 : decode cX12_asked 102 = .ok (.ifCond .eq 6, 3) := by decide +kernel
theorem dX12_asked_105 : decode cX12_asked 105 = .ok (.bipush 49, 2) := by decide +kernel
theorem dX12_asked_107 : decode cX12_asked 107 = .ok (.ireturn, 1) := by decide +kernel
theorem dX12_asked_108 : decode cX12_asked 108 = .ok (.aload_n 0, 1) := by decide +kernel
theorem dX12_asked_109 : decode cX12_asked 109 = .ok (.ldc 122, 2) := by decide +kernel
theorem dX12_asked_111 : decode cX12_asked 111 = .ok (.invokevirtual 102, 3) := by decide +kernel
theorem dX12_asked_114 : decode cX12_asked 114 = .ok (.ifCond .eq 8, 3) := by decide +kernel
theorem dX12_asked_117 : decode cX12_asked 117 = .ok (.bipush 50, 2) := by decide +kernel
theorem dX12_asked_119 : decode cX12_asked 119 = .ok (.goto 4, 3) := by decide +kernel
theorem dX12_asked_122 : decode cX12_asked 122 = .ok (.iconst 1, 1) := by decide +kernel
theorem dX12_asked_123 : decode cX12_asked 123 = .ok (.ireturn, 1) := by decide +kernel
theorem dX12_lawWord_0 : decode cX12_lawWord 0 = .ok (.aload_n 0, 1) := by decide +kernel
theorem dX12_lawWord_1 : decode cX12_lawWord 1 = .ok (.ldc 124, 2) := by decide +kernel
theorem dX12_lawWord_3 : decode cX12_lawWord 3 = .ok (.invokevirtual 102, 3) := by decide +kernel
theorem dX12_lawWord_6 : decode cX12_lawWord 6 = .ok (.ifCond .eq 5, 3) := by decide +kernel
theorem dX12_lawWord_9 : decode cX12_lawWord 9 = .ok (.iconst 3, 1) := by decide +kernel
theorem dX12_lawWord_10 : decode cX12_lawWord 10 = .ok (.ireturn, 1) := by decide +kernel
theorem dX12_lawWord_11 : decode cX12_lawWord 11 = .ok (.aload_n 0, 1) := by decide +kernel
theorem dX12_lawWord_12 : decode cX12_lawWord 12 = .ok (.ldc 126, 2) := by decide +kernel
theorem dX12_lawWord_14 : decode cX12_lawWord 14 = .ok (.invokevirtual 102, 3) := by decide +kernel
theorem dX12_lawWord_17 : decode cX12_lawWord 17 = .ok (.ifCond .eq 5, 3) := by decide +kernel
theorem dX12_lawWord_20 : decode cX12_lawWord 20 = .ok (.iconst 4, 1) := by decide +kernel
theorem dX12_lawWord_21 : decode cX12_lawWord 21 = .ok (.ireturn, 1) := by decide +kernel
theorem dX12_lawWord_22 : decode cX12_lawWord 22 = .ok (.aload_n 0, 1) := by decide +kernel
theorem dX12_lawWord_23 : decode cX12_lawWord 23 = .ok (.ldc 128, 2) := by decide +kernel
theorem dX12_lawWord_25 : decode cX12_lawWord 25 = .ok (.invokevirtual 102, 3) := by decide +kernel
theorem dX12_lawWord_28 : decode cX12_lawWord 28 = .ok (.ifCond .eq 5, 3) := by decide +kernel
theorem dX12_lawWord_31 : decode cX12_lawWord 31 = .ok (.iconst 5, 1) := by decide +kernel
theorem dX12_lawWord_32 : decode cX12_lawWord 32 = .ok (.ireturn, 1) := by decide +kernel
theorem dX12_lawWord_33 : decode cX12_lawWord 33 = .ok (.aload_n 0, 1) := by decide +kernel
theorem dX12_lawWord_34 : decode cX12_lawWord 34 = .ok (.ldc 130, 2) := by decide +kernel
theorem dX12_lawWord_36 : decode cX12_lawWord 36 = .ok (.invokevirtual 102, 3) := by decide +kernel
theorem dX12_lawWord_39 : decode cX12_lawWord 39 = .ok (.ifCond .eq 6, 3) := by decide +kernel
theorem dX12_lawWord_42 : decode cX12_lawWord 42 = .ok (.bipush 6, 2) := by decide +kernel
theorem dX12_lawWord_44 : decode cX12_lawWord 44 = .ok (.ireturn, 1) := by decide +kernel
theorem dX12_lawWord_45 : decode cX12_lawWord 45 = .ok (.aload_n 0, 1) := by decide +kernel
theorem dX12_lawWord_46 : decode cX12_lawWord 46 = .ok (.ldc 132, 2) := by decide +kernel
theorem dX12_lawWord_48 : decode cX12_lawWord 48 = .ok (.invokevirtual 102, 3) := by decide +kernel
theorem dX12_lawWord_51 : decode cX12_lawWord 51 = .ok (.ifCond .eq 6, 3) := by decide +kernel
theorem dX12_lawWord_54 : decode cX12_lawWord 54 = .ok (.bipush 20, 2) := by decide +kernel
theorem dX12_lawWord_56 : decode cX12_lawWord 56 = .ok (.ireturn, 1) := by decide +kernel
theorem dX12_lawWord_57 : decode cX12_lawWord 57 = .ok (.aload_n 0, 1) := by decide +kernel
theorem dX12_lawWord_58 : decode cX12_lawWord 58 = .ok (.ldc 134, 2) := by decide +kernel
theorem dX12_lawWord_60 : decode cX12_lawWord 60 = .ok (.invokevirtual 102, 3) := by decide +kernel
theorem dX12_lawWord_63 : decode cX12_lawWord 63 = .ok (.ifCond .eq 6, 3) := by decide +kernel
theorem dX12_lawWord_66 : decode cX12_lawWord 66 = .ok (.bipush 21, 2) := by decide +kernel
theorem dX12_lawWord_68 : decode cX12_lawWord 68 = .ok (.ireturn, 1) := by decide +kernel
theorem dX12_lawWord_69 : decode cX12_lawWord 69 = .ok (.aload_n 0, 1) := by decide +kernel
theorem dX12_lawWord_70 : decode cX12_lawWord 70 = .ok (.ldc 136, 2) := by decide +kernel
theorem dX12_lawWord_72 : decode cX12_lawWord 72 = .ok (.invokevirtual 102, 3) := by decide +kernel
theorem dX12_lawWord_75 : decode cX12_lawWord 75 = .ok (.ifCond .eq 8, 3) := by decide +kernel
theorem dX12_lawWord_78 : decode cX12_lawWord 78 = .ok (.bipush 22, 2) := by decide +kernel
theorem dX12_lawWord_80 : decode cX12_lawWord 80 = .ok (.goto 7, 3) := by decide +kernel
theorem dX12_lawWord_83 : decode cX12_lawWord 83 = .ok (.aload_n 0, 1) := by decide +kernel
theorem dX12_lawWord_84 : decode cX12_lawWord 84 = .ok (.invokevirtual 138, 3) := by decide +kernel
theorem dX12_lawWord_87 : decode cX12_lawWord 87 = .ok (.ireturn, 1) := by decide +kernel
theorem dX12_heedWord_0 : decode cX12_heedWord 0 = .ok (.aload_n 0, 1) := by decide +kernel
theorem dX12_heedWord_1 : decode cX12_heedWord 1 = .ok (.ldc 100, 2) := by decide +kernel
theorem dX12_heedWord_3 : decode cX12_heedWord 3 = .ok (.invokevirtual 102, 3) := by decide +kernel
theorem dX12_heedWord_6 : decode cX12_heedWord 6 = .ok (.ifCond .eq 6, 3) := by decide +kernel
theorem dX12_heedWord_9 : decode cX12_heedWord 9 = .ok (.bipush 7, 2) := by decide +kernel
theorem dX12_heedWord_11 : decode cX12_heedWord 11 = .ok (.ireturn, 1) := by decide +kernel
theorem dX12_heedWord_12 : decode cX12_heedWord 12 = .ok (.aload_n 0, 1) := by decide +kernel
theorem dX12_heedWord_13 : decode cX12_heedWord 13 = .ok (.ldc 141, 2) := by decide +kernel
theorem dX12_heedWord_15 : decode cX12_heedWord 15 = .ok (.invokevirtual 102, 3) := by decide +kernel
theorem dX12_heedWord_18 : decode cX12_heedWord 18 = .ok (.ifCond .eq 6, 3) := by decide +kernel
theorem dX12_heedWord_21 : decode cX12_heedWord 21 = .ok (.bipush 8, 2) := by decide +kernel
theorem dX12_heedWord_23 : decode cX12_heedWord 23 = .ok (.ireturn, 1) := by decide +kernel
theorem dX12_heedWord_24 : decode cX12_heedWord 24 = .ok (.aload_n 0, 1) := by decide +kernel
theorem dX12_heedWord_25 : decode cX12_heedWord 25 = .ok (.ldc 128, 2) := by decide +kernel
theorem dX12_heedWord_27 : decode cX12_heedWord 27 = .ok (.invokevirtual 102, 3) := by decide +kernel
theorem dX12_heedWord_30 : decode cX12_heedWord 30 = .ok (.ifCond .eq 7, 3) := by decide +kernel
theorem dX12_heedWord_33 : decode cX12_heedWord 33 = .ok (.iconst 5, 1) := by decide +kernel
theorem dX12_heedWord_34 : decode cX12_heedWord 34 = .ok (.goto 4, 3) := by decide +kernel
theorem dX12_heedWord_37 : decode cX12_heedWord 37 = .ok (.iconst 1, 1) := by decide +kernel
theorem dX12_heedWord_38 : decode cX12_heedWord 38 = .ok (.ireturn, 1) := by decide +kernel
theorem dX12_planWord_0 : decode cX12_planWord 0 = .ok (.aload_n 0, 1) := by decide +kernel
theorem dX12_planWord_1 : decode cX12_planWord 1 = .ok (.ldc 143, 2) := by decide +kernel
theorem dX12_planWord_3 : decode cX12_planWord 3 = .ok (.invokevirtual 102, 3) := by decide +kernel
theorem dX12_planWord_6 : decode cX12_planWord 6 = .ok (.ifCond .eq 6, 3) := by decide +kernel
theorem dX12_planWord_9 : decode cX12_planWord 9 = .ok (.bipush 9, 2) := by decide +kernel
theorem dX12_planWord_11 : decode cX12_planWord 11 = .ok (.ireturn, 1) := by decide +kernel
theorem dX12_planWord_12 : decode cX12_planWord 12 = .ok (.aload_n 0, 1) := by decide +kernel
theorem dX12_planWord_13 : decode cX12_planWord 13 = .ok (.ldc 145, 2) := by decide +kernel
theorem dX12_planWord_15 : decode cX12_planWord 15 = .ok (.invokevirtual 102, 3) := by decide +kernel
theorem dX12_planWord_18 : decode cX12_planWord 18 = .ok (.ifCond .eq 6, 3) := by decide +kernel
theorem dX12_planWord_21 : decode cX12_planWord 21 = .ok (.bipush 10, 2) := by decide +kernel
theorem dX12_planWord_23 : decode cX12_planWord 23 = .ok (.ireturn, 1) := by decide +kernel
theorem dX12_planWord_24 : decode cX12_planWord 24 = .ok (.aload_n 0, 1) := by decide +kernel
theorem dX12_planWord_25 : decode cX12_planWord 25 = .ok (.ldc 147, 2) := by decide +kernel
theorem dX12_planWord_27 : decode cX12_planWord 27 = .ok (.invokevirtual 102, 3) := by decide +kernel
theorem dX12_planWord_30 : decode cX12_planWord 30 = .ok (.ifCond .eq 6, 3) := by decide +kernel
theorem dX12_planWord_33 : decode cX12_planWord 33 = .ok (.bipush 11, 2) := by decide +kernel
theorem dX12_planWord_35 : decode cX12_planWord 35 = .ok (.ireturn, 1) := by decide +kernel
theorem dX12_planWord_36 : decode cX12_planWord 36 = .ok (.aload_n 0, 1) := by decide +kernel
theorem dX12_planWord_37 : decode cX12_planWord 37 = .ok (.ldc 149, 2) := by decide +kernel
theorem dX12_planWord_39 : decode cX12_planWord 39 = .ok (.invokevirtual 102, 3) := by decide +kernel
theorem dX12_planWord_42 : decode cX12_planWord 42 = .ok (.ifCond .eq 6, 3) := by decide +kernel
theorem dX12_planWord_45 : decode cX12_planWord 45 = .ok (.bipush 12, 2) := by decide +kernel
theorem dX12_planWord_47 : decode cX12_planWord 47 = .ok (.ireturn, 1) := by decide +kernel
theorem dX12_planWord_48 : decode cX12_planWord 48 = .ok (.aload_n 0, 1) := by decide +kernel
theorem dX12_planWord_49 : decode cX12_planWord 49 = .ok (.ldc 151, 2) := by decide +kernel
theorem dX12_planWord_51 : decode cX12_planWord 51 = .ok (.invokevirtual 102, 3) := by decide +kernel
theorem dX12_planWord_54 : decode cX12_planWord 54 = .ok (.ifCond .eq 6, 3) := by decide +kernel
theorem dX12_planWord_57 : decode cX12_planWord 57 = .ok (.bipush 13, 2) := by decide +kernel
theorem dX12_planWord_59 : decode cX12_planWord 59 = .ok (.ireturn, 1) := by decide +kernel
theorem dX12_planWord_60 : decode cX12_planWord 60 = .ok (.aload_n 0, 1) := by decide +kernel
theorem dX12_planWord_61 : decode cX12_planWord 61 = .ok (.ldc 153, 2) := by decide +kernel
theorem dX12_planWord_63 : decode cX12_planWord 63 = .ok (.invokevirtual 102, 3) := by decide +kernel
theorem dX12_planWord_66 : decode cX12_planWord 66 = .ok (.ifCond .eq 8, 3) := by decide +kernel
theorem dX12_planWord_69 : decode cX12_planWord 69 = .ok (.bipush 14, 2) := by decide +kernel
theorem dX12_planWord_71 : decode cX12_planWord 71 = .ok (.goto 4, 3) := by decide +kernel
theorem dX12_planWord_74 : decode cX12_planWord 74 = .ok (.iconst 1, 1) := by decide +kernel
theorem dX12_planWord_75 : decode cX12_planWord 75 = .ok (.ireturn, 1) := by decide +kernel
theorem dX12_word_0 : decode cX12_word 0 = .ok (.aload_n 0, 1) := by decide +kernel
theorem dX12_word_1 : decode cX12_word 1 = .ok (.getfield 155, 3) := by decide +kernel
theorem dX12_word_4 : decode cX12_word 4 = .ok (.tableswitch 77 0 3 #[32, 37, 42, 47], 32) := by decide +kernel
theorem dX12_word_36 : decode cX12_word 36 = .ok (.aload_n 0, 1) := by decide +kernel
theorem dX12_word_37 : decode cX12_word 37 = .ok (.invokevirtual 158, 3) := by decide +kernel
theorem dX12_word_40 : decode cX12_word 40 = .ok (.ireturn, 1) := by decide +kernel
theorem dX12_word_41 : decode cX12_word 41 = .ok (.aload_n 0, 1) := by decide +kernel
theorem dX12_word_42 : decode cX12_word 42 = .ok (.invokevirtual 161, 3) := by decide +kernel
theorem dX12_word_45 : decode cX12_word 45 = .ok (.ireturn, 1) := by decide +kernel
theorem dX12_word_46 : decode cX12_word 46 = .ok (.aload_n 0, 1) := by decide +kernel
theorem dX12_word_47 : decode cX12_word 47 = .ok (.invokevirtual 164, 3) := by decide +kernel
theorem dX12_word_50 : decode cX12_word 50 = .ok (.ireturn, 1) := by decide +kernel
theorem dX12_word_51 : decode cX12_word 51 = .ok (.aload_n 0, 1) := by decide +kernel
theorem dX12_word_52 : decode cX12_word 52 = .ok (.ldc 167, 2) := by decide +kernel
theorem dX12_word_54 : decode cX12_word 54 = .ok (.invokevirtual 102, 3) := by decide +kernel
theorem dX12_word_57 : decode cX12_word 57 = .ok (.ifCond .eq 8, 3) := by decide +kernel
theorem dX12_word_60 : decode cX12_word 60 = .ok (.bipush 15, 2) := by decide +kernel
theorem dX12_word_62 : decode cX12_word 62 = .ok (.goto 18, 3) := by decide +kernel
theorem dX12_word_65 : decode cX12_word 65 = .ok (.aload_n 0, 1) := by decide +kernel
theorem dX12_word_66 : decode cX12_word 66 = .ok (.ldc 120, 2) := by decide +kernel
theorem dX12_word_68 : decode cX12_word 68 = .ok (.invokevirtual 102, 3) := by decide +kernel
theorem dX12_word_71 : decode cX12_word 71 = .ok (.ifCond .eq 8, 3) := by decide +kernel
theorem dX12_word_74 : decode cX12_word 74 = .ok (.bipush 16, 2) := by decide +kernel
theorem dX12_word_76 : decode cX12_word 76 = .ok (.goto 4, 3) := by decide +kernel
theorem dX12_word_79 : decode cX12_word 79 = .ok (.iconst 1, 1) := by decide +kernel
theorem dX12_word_80 : decode cX12_word 80 = .ok (.ireturn, 1) := by decide +kernel
theorem dX12_word_81 : decode cX12_word 81 = .ok (.aload_n 0, 1) := by decide +kernel
theorem dX12_word_82 : decode cX12_word 82 = .ok (.ldc 169, 2) := by decide +kernel
theorem dX12_word_84 : decode cX12_word 84 = .ok (.invokevirtual 102, 3) := by decide +kernel
theorem dX12_word_87 : decode cX12_word 87 = .ok (.ifCond .eq 8, 3) := by decide +kernel
theorem dX12_word_90 : decode cX12_word 90 = .ok (.bipush 17, 2) := by decide +kernel
theorem dX12_word_92 : decode cX12_word 92 = .ok (.goto 18, 3) := by decide +kernel
theorem dX12_word_95 : decode cX12_word 95 = .ok (.aload_n 0, 1) := by decide +kernel
theorem dX12_word_96 : decode cX12_word 96 = .ok (.ldc 171, 2) := by decide +kernel
theorem dX12_word_98 : decode cX12_word 98 = .ok (.invokevirtual 102, 3) := by decide +kernel
theorem dX12_word_101 : decode cX12_word 101 = .ok (.ifCond .eq 8, 3) := by decide +kernel
theorem dX12_word_104 : decode cX12_word 104 = .ok (.bipush 18, 2) := by decide +kernel
theorem dX12_word_106 : decode cX12_word 106 = .ok (.goto 4, 3) := by decide +kernel
theorem dX12_word_109 : decode cX12_word 109 = .ok (.iconst 1, 1) := by decide +kernel
theorem dX12_word_110 : decode cX12_word 110 = .ok (.ireturn, 1) := by decide +kernel
theorem dX12_next0_0 : decode cX12_next0 0 = .ok (.aload_n 0, 1) := by decide +kernel
theorem dX12_next0_1 : decode cX12_next0 1 = .ok (.aload_n 0, 1) := by decide +kernel
theorem dX12_next0_2 : decode cX12_next0 2 = .ok (.getfield 84, 3) := by decide +kernel
theorem dX12_next0_5 : decode cX12_next0 5 = .ok (.invokevirtual 173, 3) := by decide +kernel
theorem dX12_next0_8 : decode cX12_next0 8 = .ok (.bipush 32, 2) := by decide +kernel
theorem dX12_next0_10 : decode cX12_next0 10 = .ok (.if_icmp .eq 16, 3) := by decide +kernel
theorem dX12_next0_13 : decode cX12_next0 13 = .ok (.aload_n 0, 1) := by decide +kernel
theorem dX12_next0_14 : decode cX12_next0 14 = .ok (.aload_n 0, 1) := by decide +kernel
theorem dX12_next0_15 : decode cX12_next0 15 = .ok (.getfield 84, 3) := by decide +kernel
theorem dX12_next0_18 : decode cX12_next0 18 = .ok (.invokevirtual 173, 3) := by decide +kernel
theorem dX12_next0_21 : decode cX12_next0 21 = .ok (.bipush 10, 2) := by decide +kernel
theorem dX12_next0_23 : decode cX12_next0 23 = .ok (.if_icmp .ne 16, 3) := by decide +kernel
theorem dX12_next0_26 : decode cX12_next0 26 = .ok (.aload_n 0, 1) := by decide +kernel
theorem dX12_next0_27 : decode cX12_next0 27 = .ok (.dup, 1) := by decide +kernel
theorem dX12_next0_28 : decode cX12_next0 28 = .ok (.getfield 84, 3) := by decide +kernel
theorem dX12_next0_31 : decode cX12_next0 31 = .ok (.iconst 1, 1) := by decide +kernel
theorem dX12_next0_32 : decode cX12_next0 32 = .ok (.iadd, 1) := by decide +kernel
theorem dX12_next0_33 : decode cX12_next0 33 = .ok (.putfield 84, 3) := by decide +kernel
theorem dX12_next0_36 : decode cX12_next0 36 = .ok (.goto (-36), 3) := by decide +kernel
theorem dX12_next0_39 : decode cX12_next0 39 = .ok (.aload_n 0, 1) := by decide +kernel
theorem dX12_next0_40 : decode cX12_next0 40 = .ok (.aload_n 0, 1) := by decide +kernel
theorem dX12_next0_41 : decode cX12_next0 41 = .ok (.getfield 84, 3) := by decide +kernel
theorem dX12_next0_44 : decode cX12_next0 44 = .ok (.putfield 87, 3) := by decide +kernel
theorem dX12_next0_47 : decode cX12_next0 47 = .ok (.aload_n 0, 1) := by decide +kernel
theorem dX12_next0_48 : decode cX12_next0 48 = .ok (.aload_n 0, 1) := by decide +kernel
theorem dX12_next0_49 : decode cX12_next0 49 = .ok (.getfield 84, 3) := by decide +kernel
theorem dX12_next0_52 : decode cX12_next0 52 = .ok (.invokevirtual 173, 3) := by decide +kernel
theorem dX12_next0_55 : decode cX12_next0 55 = .ok (.istore_n 1, 1) := by decide +kernel
theorem dX12_next0_56 : decode cX12_next0 56 = .ok (.iload_n 1, 1) := by decide +kernel
theorem dX12_next0_57 : decode cX12_next0 57 = .ok (.iconst (-1), 1) := by decide +kernel
theorem dX12_next0_58 : decode cX12_next0 58 = .ok (.if_icmp .ne 11, 3) := by decide +kernel
theorem dX12_next0_61 : decode cX12_next0 61 = .ok (.aload_n 0, 1) := by decide +kernel
theorem dX12_next0_62 : decode cX12_next0 62 = .ok (.iconst 0, 1) := by decide +kernel
theorem dX12_next0_63 : decode cX12_next0 63 = .ok (.putfield 177, 3) := by decide +kernel
theorem dX12_next0_66 : decode cX12_next0 66 = .ok (.goto 240, 3) := by decide +kernel
theorem dX12_next0_69 : decode cX12_next0 69 = .ok (.iload_n 1, 1) := by decide +kernel
theorem dX12_next0_70 : decode cX12_next0 70 = .ok (.invokestatic 180, 3) := by decide +kernel
theorem dX12_next0_73 : decode cX12_next0 73 = .ok (.ifCond .eq 41, 3) := by decide +kernel
theorem dX12_next0_76 : decode cX12_next0 76 = .ok (.aload_n 0, 1) := by decide +kernel
theorem dX12_next0_77 : decode cX12_next0 77 = .ok (.aload_n 0, 1) := by decide +kernel
theorem dX12_next0_78 : decode cX12_next0 78 = .ok (.getfield 84, 3) := by decide +kernel
theorem dX12_next0_81 : decode cX12_next0 81 = .ok (.invokevirtual 173, 3) := by decide +kernel
theorem dX12_next0_84 : decode cX12_next0 84 = .ok (.invokestatic 180, 3) := by decide +kernel
theorem dX12_next0_87 : decode cX12_next0 87 = .ok (.ifCond .eq 16, 3) := by decide +kernel
theorem dX12_next0_90 : decode cX12_next0 90 = .ok (.aload_n 0, 1) := by decide +kernel
theorem dX12_next0_91 : decode cX12_next0 91 = .ok (.dup, 1) := by decide +kernel
theorem dX12_next0_92 : decode cX12_next0 92 = .ok (.getfield 84, 3) := by decide +kernel
theorem dX12_next0_95 : decode cX12_next0 95 = .ok (.iconst 1, 1) := by decide +kernel
theorem dX12_next0_96 : decode cX12_next0 96 = .ok (.iadd, 1) := by decide +kernel
theorem dX12_next0_97 : decode cX12_next0 97 = .ok (.putfield 84, 3) := by decide +kernel
theorem dX12_next0_100 : decode cX12_next0 100 = .ok (.goto (-24), 3) := by decide +kernel
theorem dX12_next0_103 : decode cX12_next0 103 = .ok (.aload_n 0, 1) := by decide +kernel
theorem dX12_next0_104 : decode cX12_next0 104 = .ok (.aload_n 0, 1) := by decide +kernel
theorem dX12_next0_105 : decode cX12_next0 105 = .ok (.invokevirtual 183, 3) := by decide +kernel
theorem dX12_next0_108 : decode cX12_next0 108 = .ok (.putfield 177, 3) := by decide +kernel
theorem dX12_next0_111 : decode cX12_next0 111 = .ok (.goto 195, 3) := by decide +kernel
theorem dX12_next0_114 : decode cX12_next0 114 = .ok (.iload_n 1, 1) := by decide +kernel
theorem dX12_next0_115 : decode cX12_next0 115 = .ok (.invokestatic 186, 3) := by decide +kernel
theorem dX12_next0_118 : decode cX12_next0 118 = .ok (.ifCond .eq 96, 3) := by decide +kernel
theorem dX12_next0_121 : decode cX12_next0 121 = .ok (.aload_n 0, 1) := by decide +kernel
theorem dX12_next0_122 : decode cX12_next0 122 = .ok (.iconst 0, 1) := by decide +kernel
theorem dX12_next0_123 : decode cX12_next0 123 = .ok (.putfield 189, 3) := by decide +kernel
theorem dX12_next0_126 : decode cX12_next0 126 = .ok (.aload_n 0, 1) := by decide +kernel
theorem dX12_next0_127 : decode cX12_next0 127 = .ok (.aload_n 0, 1) := by decide +kernel
theorem dX12_next0_128 : decode cX12_next0 128 = .ok (.getfield 84, 3) := by decide +kernel
theorem dX12_next0_131 : decode cX12_next0 131 = .ok (.invokevirtual 173, 3) := by decide +kernel
theorem dX12_next0_134 : decode cX12_next0 134 = .ok (.invokestatic 186, 3) := by decide +kernel
theorem dX12_next0_137 : decode cX12_next0 137 = .ok (.ifCond .eq 52, 3) := by decide +kernel
theorem dX12_next0_140 : decode cX12_next0 140 = .ok (.aload_n 0, 1) := by decide +kernel
theorem dX12_next0_141 : decode cX12_next0 141 = .ok (.getfield 84, 3) := by decide +kernel
theorem dX12_next0_144 : decode cX12_next0 144 = .ok (.aload_n 0, 1) := by decide +kernel
theorem dX12_next0_145 : decode cX12_next0 145 = .ok (.getfield 87, 3) := by decide +kernel
theorem dX12_next0_148 : decode cX12_next0 148 = .ok (.iconst 4, 1) := by decide +kernel
theorem dX12_next0_149 : decode cX12_next0 149 = .ok (.iadd, 1) := by decide +kernel
theorem dX12_next0_150 : decode cX12_next0 150 = .ok (.if_icmp .ge 26, 3) := by decide +kernel
theorem dX12_next0_153 : decode cX12_next0 153 = .ok (.aload_n 0, 1) := by decide +kernel
theorem dX12_next0_154 : decode cX12_next0 154 = .ok (.bipush 10, 2) := by decide +kernel
theorem dX12_next0_156 : decode cX12_next0 156 = .ok (.aload_n 0, 1) := by decide +kernel
theorem dX12_next0_157 : decode cX12_next0 157 = .ok (.getfield 189, 3) := by decide +kernel
theorem dX12_next0_160 : decode cX12_next0 160 = .ok (.imul, 1) := by decide +kernel
theorem dX12_next0_161 : decode cX12_next0 161 = .ok (.aload_n 0, 1) := by decide +kernel
theorem dX12_next0_162 : decode cX12_next0 162 = .ok (.aload_n 0, 1) := by decide +kernel
theorem dX12_next0_163 : decode cX12_next0 163 = .ok (.getfield 84, 3) := by decide +kernel
theorem dX12_next0_166 : decode cX12_next0 166 = .ok (.invokevirtual 173, 3) := by decide +kernel
theorem dX12_next0_169 : decode cX12_next0 169 = .ok (.iadd, 1) := by decide +kernel
theorem dX12_next0_170 : decode cX12_next0 170 = .ok (.bipush 48, 2) := by decide +kernel
theorem dX12_next0_172 : decode cX12_next0 172 = .ok (.isub, 1) := by decide +kernel
theorem dX12_next0_173 : decode cX12_next0 173 = .ok (.putfield 189, 3) := by decide +kernel
theorem dX12_next0_176 : decode cX12_next0 176 = .ok (.aload_n 0, 1) := by decide +kernel
theorem dX12_next0_177 : decode cX12_next0 177 = .ok (.dup, 1) := by decide +kernel
theorem dX12_next0_178 : decode cX12_next0 178 = .ok (.getfield 84, 3) := by decide +kernel
theorem dX12_next0_181 : decode cX12_next0 181 = .ok (.iconst 1, 1) := by decide +kernel
theorem dX12_next0_182 : decode cX12_next0 182 = .ok (.iadd, 1) := by decide +kernel
theorem dX12_next0_183 : decode cX12_next0 183 = .ok (.putfield 84, 3) := by decide +kernel
theorem dX12_next0_186 : decode cX12_next0 186 = .ok (.goto (-60), 3) := by decide +kernel
theorem dX12_next0_189 : decode cX12_next0 189 = .ok (.aload_n 0, 1) := by decide +kernel
theorem dX12_next0_190 : decode cX12_next0 190 = .ok (.aload_n 0, 1) := by decide +kernel
theorem dX12_next0_191 : decode cX12_next0 191 = .ok (.getfield 84, 3) := by decide +kernel
theorem dX12_next0_194 : decode cX12_next0 194 = .ok (.aload_n 0, 1) := by decide +kernel
theorem dX12_next0_195 : decode cX12_next0 195 = .ok (.getfield 87, 3) := by decide +kernel
theorem dX12_next0_198 : decode cX12_next0 198 = .ok (.isub, 1) := by decide +kernel
theorem dX12_next0_199 : decode cX12_next0 199 = .ok (.iconst 5, 1) := by decide +kernel
theorem dX12_next0_200 : decode cX12_next0 200 = .ok (.if_icmp .ge 7, 3) := by decide +kernel
theorem dX12_next0_203 : decode cX12_next0 203 = .ok (.iconst 2, 1) := by decide +kernel
theorem dX12_next0_204 : decode cX12_next0 204 = .ok (.goto 4, 3) := by decide +kernel
theorem dX12_next0_207 : decode cX12_next0 207 = .ok (.iconst 1, 1) := by decide +kernel
theorem dX12_next0_208 : decode cX12_next0 208 = .ok (.putfield 177, 3) := by decide +kernel
theorem dX12_next0_211 : decode cX12_next0 211 = .ok (.goto 95, 3) := by decide +kernel
theorem dX12_next0_214 : decode cX12_next0 214 = .ok (.aload_n 0, 1) := by decide +kernel
theorem dX12_next0_215 : decode cX12_next0 215 = .ok (.dup, 1) := by decide +kernel
theorem dX12_next0_216 : decode cX12_next0 216 = .ok (.getfield 84, 3) := by decide +kernel
theorem dX12_next0_219 : decode cX12_next0 219 = .ok (.iconst 1, 1) := by decide +kernel
theorem dX12_next0_220 : decode cX12_next0 220 = .ok (.iadd, 1) := by decide +kernel
theorem dX12_next0_221 : decode cX12_next0 221 = .ok (.putfield 84, 3) := by decide +kernel
theorem dX12_next0_224 : decode cX12_next0 224 = .ok (.iload_n 1, 1) := by decide +kernel
theorem dX12_next0_225 : decode cX12_next0 225 = .ok (.bipush 59, 2) := by decide +kernel
theorem dX12_next0_227 : decode cX12_next0 227 = .ok (.if_icmp .eq 57, 3) := by decide +kernel
theorem dX12_next0_230 : decode cX12_next0 230 = .ok (.iload_n 1, 1) := by decide +kernel
theorem dX12_next0_231 : decode cX12_next0 231 = .ok (.bipush 43, 2) := by decide +kernel
theorem dX12_next0_233 : decode cX12_next0 233 = .ok (.if_icmp .eq 51, 3) := by decide +kernel
theorem dX12_next0_236 : decode cX12_next0 236 = .ok (.iload_n 1, 1) := by decide +kernel
theorem dX12_next0_237 : decode cX12_next0 237 = .ok (.bipush 45, 2) := by decide +kernel
theorem dX12_next0_239 : decode cX12_next0 239 = .ok (.if_icmp .eq 45, 3) := by decide +kernel
theorem dX12_next0_242 : decode cX12_next0 242 = .ok (.iload_n 1, 1) := by decide +kernel
theorem dX12_next0_243 : decode cX12_next0 243 = .ok (.bipush 42, 2) := by decide +kernel
theorem dX12_next0_245 : decode cX12_next0 245 = .ok (.if_icmp .eq 39, 3) := by decide +kernel
theorem dX12_next0_248 : decode cX12_next0 248 = .ok (.iload_n 1, 1) := by decide +kernel
theorem dX12_next0_249 : decode cX12_next0 249 = .ok (.bipush 47, 2) := by decide +kernel
theorem dX12_next0_251 : decode cX12_next0 251 = .ok (.if_icmp .eq 33, 3) := by decide +kernel
theorem dX12_next0_254 : decode cX12_next0 254 = .ok (.iload_n 1, 1) := by decide +kernel
theorem dX12_next0_255 : decode cX12_next0 255 = .ok (.bipush 40, 2) := by decide +kernel
theorem dX12_next0_257 : decode cX12_next0 257 = .ok (.if_icmp .eq 27, 3) := by decide +kernel
theorem dX12_next0_260 : decode cX12_next0 260 = .ok (.iload_n 1, 1) := by decide +kernel
theorem dX12_next0_261 : decode cX12_next0 261 = .ok (.bipush 41, 2) := by decide +kernel
theorem dX12_next0_263 : decode cX12_next0 263 = .ok (.if_icmp .eq 21, 3) := by decide +kernel
theorem dX12_next0_266 : decode cX12_next0 266 = .ok (.iload_n 1, 1) := by decide +kernel
theorem dX12_next0_267 : decode cX12_next0 267 = .ok (.bipush 60, 2) := by decide +kernel
theorem dX12_next0_269 : decode cX12_next0 269 = .ok (.if_icmp .eq 15, 3) := by decide +kernel
theorem dX12_next0_272 : decode cX12_next0 272 = .ok (.iload_n 1, 1) := by decide +kernel
theorem dX12_next0_273 : decode cX12_next0 273 = .ok (.bipush 61, 2) := by decide +kernel
theorem dX12_next0_275 : decode cX12_next0 275 = .ok (.if_icmp .eq 9, 3) := by decide +kernel
theorem dX12_next0_278 : decode cX12_next0 278 = .ok (.iload_n 1, 1) := by decide +kernel
theorem dX12_next0_279 : decode cX12_next0 279 = .ok (.bipush 62, 2) := by decide +kernel
theorem dX12_next0_281 : decode cX12_next0 281 = .ok (.if_icmp .ne 7, 3) := by decide +kernel
theorem dX12_next0_284 : decode cX12_next0 284 = .ok (.iconst 1, 1) := by decide +kernel
theorem dX12_next0_285 : decode cX12_next0 285 = .ok (.goto 4, 3) := by decide +kernel
theorem dX12_next0_288 : decode cX12_next0 288 = .ok (.iconst 0, 1) := by decide +kernel
theorem dX12_next0_289 : decode cX12_next0 289 = .ok (.istore_n 2, 1) := by decide +kernel
theorem dX12_next0_290 : decode cX12_next0 290 = .ok (.aload_n 0, 1) := by decide +kernel
theorem dX12_next0_291 : decode cX12_next0 291 = .ok (.iload_n 2, 1) := by decide +kernel
theorem dX12_next0_292 : decode cX12_next0 292 = .ok (.ifCond .eq 10, 3) := by decide +kernel
theorem dX12_next0_295 : decode cX12_next0 295 = .ok (.bipush 100, 2) := by decide +kernel
theorem dX12_next0_297 : decode cX12_next0 297 = .ok (.iload_n 1, 1) := by decide +kernel
theorem dX12_next0_298 : decode cX12_next0 298 = .ok (.iadd, 1) := by decide +kernel
theorem dX12_next0_299 : decode cX12_next0 299 = .ok (.goto 4, 3) := by decide +kernel
theorem dX12_next0_302 : decode cX12_next0 302 = .ok (.iconst 1, 1) := by decide +kernel
theorem dX12_next0_303 : decode cX12_next0 303 = .ok (.putfield 177, 3) := by decide +kernel
theorem dX12_next0_306 : decode cX12_next0 306 = .ok (.return_, 1) := by decide +kernel
theorem dX12_bad_0 : decode cX12_bad 0 = .ok (.aload_n 0, 1) := by decide +kernel
theorem dX12_bad_1 : decode cX12_bad 1 = .ok (.iload_n 1, 1) := by decide +kernel
theorem dX12_bad_2 : decode cX12_bad 2 = .ok (.putfield 192, 3) := by decide +kernel
theorem dX12_bad_5 : decode cX12_bad 5 = .ok (.aload_n 0, 1) := by decide +kernel
theorem dX12_bad_6 : decode cX12_bad 6 = .ok (.aload_n 0, 1) := by decide +kernel
theorem dX12_bad_7 : decode cX12_bad 7 = .ok (.getfield 87, 3) := by decide +kernel
theorem dX12_bad_10 : decode cX12_bad 10 = .ok (.putfield 195, 3) := by decide +kernel
theorem dX12_bad_13 : decode cX12_bad 13 = .ok (.iconst 0, 1) := by decide +kernel
theorem dX12_bad_14 : decode cX12_bad 14 = .ok (.ireturn, 1) := by decide +kernel
theorem dX12_need_0 : decode cX12_need 0 = .ok (.aload_n 0, 1) := by decide +kernel
theorem dX12_need_1 : decode cX12_need 1 = .ok (.getfield 177, 3) := by decide +kernel
theorem dX12_need_4 : decode cX12_need 4 = .ok (.iload_n 1, 1) := by decide +kernel
theorem dX12_need_5 : decode cX12_need 5 = .ok (.if_icmp .eq 9, 3) := by decide +kernel
theorem dX12_need_8 : decode cX12_need 8 = .ok (.aload_n 0, 1) := by decide +kernel
theorem dX12_need_9 : decode cX12_need 9 = .ok (.iconst 1, 1) := by decide +kernel
theorem dX12_need_10 : decode cX12_need 10 = .ok (.invokevirtual 198, 3) := by decide +kernel
theorem dX12_need_13 : decode cX12_need 13 = .ok (.ireturn, 1) := by decide +kernel
theorem dX12_need_14 : decode cX12_need 14 = .ok (.aload_n 0, 1) := by decide +kernel
theorem dX12_need_15 : decode cX12_need 15 = .ok (.invokevirtual 201, 3) := by decide +kernel
theorem dX12_need_18 : decode cX12_need 18 = .ok (.iconst 1, 1) := by decide +kernel
theorem dX12_need_19 : decode cX12_need 19 = .ok (.ireturn, 1) := by decide +kernel
theorem dX12_lay_0 : decode cX12_lay 0 = .ok (.aload_n 0, 1) := by decide +kernel
theorem dX12_lay_1 : decode cX12_lay 1 = .ok (.getfield 25, 3) := by decide +kernel
theorem dX12_lay_4 : decode cX12_lay 4 = .ok (.iconst 2, 1) := by decide +kernel
theorem dX12_lay_5 : decode cX12_lay 5 = .ok (.aload_n 0, 1) := by decide +kernel
theorem dX12_lay_6 : decode cX12_lay 6 = .ok (.getfield 204, 3) := by decide +kernel
theorem dX12_lay_9 : decode cX12_lay 9 = .ok (.imul, 1) := by decide +kernel
theorem dX12_lay_10 : decode cX12_lay 10 = .ok (.iload_n 1, 1) := by decide +kernel
theorem dX12_lay_11 : decode cX12_lay 11 = .ok (.iastore, 1) := by decide +kernel
theorem dX12_lay_12 : decode cX12_lay 12 = .ok (.aload_n 0, 1) := by decide +kernel
theorem dX12_lay_13 : decode cX12_lay 13 = .ok (.getfield 25, 3) := by decide +kernel
theorem dX12_lay_16 : decode cX12_lay 16 = .ok (.iconst 2, 1) := by decide +kernel
theorem dX12_lay_17 : decode cX12_lay 17 = .ok (.aload_n 0, 1) := by decide +kernel
theorem dX12_lay_18 : decode cX12_lay 18 = .ok (.getfield 204, 3) := by decide +kernel
theorem dX12_lay_21 : decode cX12_lay 21 = .ok (.imul, 1) := by decide +kernel
theorem dX12_lay_22 : decode cX12_lay 22 = .ok (.iconst 1, 1) := by decide +kernel
theorem dX12_lay_23 : decode cX12_lay 23 = .ok (.iadd, 1) := by decide +kernel
theorem dX12_lay_24 : decode cX12_lay 24 = .ok (.iload_n 2, 1) := by decide +kernel
theorem dX12_lay_25 : decode cX12_lay 25 = .ok (.iastore, 1) := by decide +kernel
theorem dX12_lay_26 : decode cX12_lay 26 = .ok (.aload_n 0, 1) := by decide +kernel
theorem dX12_lay_27 : decode cX12_lay 27 = .ok (.dup, 1) := by decide +kernel
theorem dX12_lay_28 : decode cX12_lay 28 = .ok (.getfield 204, 3) := by decide +kernel
theorem dX12_lay_31 : decode cX12_lay 31 = .ok (.iconst 1, 1) := by decide +kernel
theorem dX12_lay_32 : decode cX12_lay 32 = .ok (.iadd, 1) := by decide +kernel
theorem dX12_lay_33 : decode cX12_lay 33 = .ok (.putfield 204, 3) := by decide +kernel
theorem dX12_lay_36 : decode cX12_lay 36 = .ok (.return_, 1) := by decide +kernel
theorem dX12_opens_0 : decode cX12_opens 0 = .ok (.aload_n 0, 1) := by decide +kernel
theorem dX12_opens_1 : decode cX12_opens 1 = .ok (.getfield 207, 3) := by decide +kernel
theorem dX12_opens_4 : decode cX12_opens 4 = .ok (.bipush 8, 2) := by decide +kernel
theorem dX12_opens_6 : decode cX12_opens 6 = .ok (.if_icmp .ne 9, 3) := by decide +kernel
theorem dX12_opens_9 : decode cX12_opens 9 = .ok (.aload_n 0, 1) := by decide +kernel
theorem dX12_opens_10 : decode cX12_opens 10 = .ok (.iconst 3, 1) := by decide +kernel
theorem dX12_opens_11 : decode cX12_opens 11 = .ok (.invokevirtual 198, 3) := by decide +kernel
theorem dX12_opens_14 : decode cX12_opens 14 = .ok (.ireturn, 1) := by decide +kernel
theorem dX12_opens_15 : decode cX12_opens 15 = .ok (.aload_n 0, 1) := by decide +kernel
theorem dX12_opens_16 : decode cX12_opens 16 = .ok (.dup, 1) := by decide +kernel
theorem dX12_opens_17 : decode cX12_opens 17 = .ok (.getfield 207, 3) := by decide +kernel
theorem dX12_opens_20 : decode cX12_opens 20 = .ok (.iconst 1, 1) := by decide +kernel
theorem dX12_opens_21 : decode cX12_opens 21 = .ok (.iadd, 1) := by decide +kernel
theorem dX12_opens_22 : decode cX12_opens 22 = .ok (.putfield 207, 3) := by decide +kernel
theorem dX12_opens_25 : decode cX12_opens 25 = .ok (.aload_n 0, 1) := by decide +kernel
theorem dX12_opens_26 : decode cX12_opens 26 = .ok (.invokevirtual 201, 3) := by decide +kernel
theorem dX12_opens_29 : decode cX12_opens 29 = .ok (.iconst 1, 1) := by decide +kernel
theorem dX12_opens_30 : decode cX12_opens 30 = .ok (.ireturn, 1) := by decide +kernel
theorem dX12_sumUp_0 : decode cX12_sumUp 0 = .ok (.aload_n 0, 1) := by decide +kernel
theorem dX12_sumUp_1 : decode cX12_sumUp 1 = .ok (.invokevirtual 210, 3) := by decide +kernel
theorem dX12_sumUp_4 : decode cX12_sumUp 4 = .ok (.ifCond .ne 5, 3) := by decide +kernel
theorem dX12_sumUp_7 : decode cX12_sumUp 7 = .ok (.iconst 0, 1) := by decide +kernel
theorem dX12_sumUp_8 : decode cX12_sumUp 8 = .ok (.ireturn, 1) := by decide +kernel
theorem dX12_sumUp_9 : decode cX12_sumUp 9 = .ok (.aload_n 0, 1) := by decide +kernel
theorem dX12_sumUp_10 : decode cX12_sumUp 10 = .ok (.getfield 177, 3) := by decide +kernel
theorem dX12_sumUp_13 : decode cX12_sumUp 13 = .ok (.sipush 143, 3) := by decide +kernel
theorem dX12_sumUp_16 : decode cX12_sumUp 16 = .ok (.if_icmp .eq 13, 3) := by decide +kernel
theorem dX12_sumUp_19 : decode cX12_sumUp 19 = .ok (.aload_n 0, 1) := by decide +kernel
theorem dX12_sumUp_20 : decode cX12_sumUp 20 = .ok (.getfield 177, 3) := by decide +kernel
theorem dX12_sumUp_23 : decode cX12_sumUp 23 = .ok (.sipush 145, 3) := by decide +kernel
theorem dX12_sumUp_26 : decode cX12_sumUp 26 = .ok (.if_icmp .ne 43, 3) := by decide +kernel
theorem dX12_sumUp_29 : decode cX12_sumUp 29 = .ok (.aload_n 0, 1) := by decide +kernel
theorem dX12_sumUp_30 : decode cX12_sumUp 30 = .ok (.getfield 177, 3) := by decide +kernel
theorem dX12_sumUp_33 : decode cX12_sumUp 33 = .ok (.sipush 143, 3) := by decide +kernel
theorem dX12_sumUp_36 : decode cX12_sumUp 36 = .ok (.if_icmp .ne 8, 3) := by decide +kernel
theorem dX12_sumUp_39 : decode cX12_sumUp 39 = .ok (.bipush 23, 2) := by decide +kernel
theorem dX12_sumUp_41 : decode cX12_sumUp 41 = .ok (.goto 5, 3) := by decide +kernel
theorem dX12_sumUp_44 : decode cX12_sumUp 44 = .ok (.bipush 24, 2) := by decide +kernel
theorem dX12_sumUp_46 : decode cX12_sumUp 46 = .ok (.istore_n 1, 1) := by decide +kernel
theorem dX12_sumUp_47 : decode cX12_sumUp 47 = .ok (.aload_n 0, 1) := by decide +kernel
theorem dX12_sumUp_48 : decode cX12_sumUp 48 = .ok (.invokevirtual 201, 3) := by decide +kernel
theorem dX12_sumUp_51 : decode cX12_sumUp 51 = .ok (.aload_n 0, 1) := by decide +kernel
theorem dX12_sumUp_52 : decode cX12_sumUp 52 = .ok (.invokevirtual 210, 3) := by decide +kernel
theorem dX12_sumUp_55 : decode cX12_sumUp 55 = .ok (.ifCond .ne 5, 3) := by decide +kernel
theorem dX12_sumUp_58 : decode cX12_sumUp 58 = .ok (.iconst 0, 1) := by decide +kernel
theorem dX12_sumUp_59 : decode cX12_sumUp 59 = .ok (.ireturn, 1) := by decide +kernel
theorem dX12_sumUp_60 : decode cX12_sumUp 60 = .ok (.aload_n 0, 1) := by decide +kernel
theorem dX12_sumUp_61 : decode cX12_sumUp 61 = .ok (.iload_n 1, 1) := by decide +kernel
theorem dX12_sumUp_62 : decode cX12_sumUp 62 = .ok (.iconst 0, 1) := by decide +kernel
theorem dX12_sumUp_63 : decode cX12_sumUp 63 = .ok (.invokevirtual 214, 3) := by decide +kernel
theorem dX12_sumUp_66 : decode cX12_sumUp 66 = .ok (.goto (-57), 3) := by decide +kernel
theorem dX12_sumUp_69 : decode cX12_sumUp 69 = .ok (.iconst 1, 1) := by decide +kernel
theorem dX12_sumUp_70 : decode cX12_sumUp 70 = .ok (.ireturn, 1) := by decide +kernel
theorem dX12_product_0 : decode cX12_product 0 = .ok (.aload_n 0, 1) := by decide +kernel
theorem dX12_product_1 : decode cX12_product 1 = .ok (.invokevirtual 218, 3) := by decide +kernel
theorem dX12_product_4 : decode cX12_product 4 = .ok (.ifCond .ne 5, 3) := by decide +kernel
theorem dX12_product_7 : decode cX12_product 7 = .ok (.iconst 0, 1) := by decide +kernel
theorem dX12_product_8 : decode cX12_product 8 = .ok (.ireturn, 1) := by decide +kernel
theorem dX12_product_9 : decode cX12_product 9 = .ok (.aload_n 0, 1) := by decide +kernel
theorem dX12_product_10 : decode cX12_product 10 = .ok (.getfield 177, 3) := by decide +kernel
theorem dX12_product_13 : decode cX12_product 13 = .ok (.sipush 142, 3) := by decide +kernel
theorem dX12_product_16 : decode cX12_product 16 = .ok (.if_icmp .eq 13, 3) := by decide +kernel
theorem dX12_product_19 : decode cX12_product 19 = .ok (.aload_n 0, 1) := by decide +kernel
theorem dX12_product_20 : decode cX12_product 20 = .ok (.getfield 177, 3) := by decide +kernel
theorem dX12_product_23 : decode cX12_product 23 = .ok (.sipush 147, 3) := by decide +kernel
theorem dX12_product_26 : decode cX12_product 26 = .ok (.if_icmp .ne 89, 3) := by decide +kernel
theorem dX12_product_29 : decode cX12_product 29 = .ok (.aload_n 0, 1) := by decide +kernel
theorem dX12_product_30 : decode cX12_product 30 = .ok (.getfield 177, 3) := by decide +kernel
theorem dX12_product_33 : decode cX12_product 33 = .ok (.sipush 147, 3) := by decide +kernel
theorem dX12_product_36 : decode cX12_product 36 = .ok (.if_icmp .ne 7, 3) := by decide +kernel
theorem dX12_product_39 : decode cX12_product 39 = .ok (.iconst 1, 1) := by decide +kernel
theorem dX12_product_40 : decode cX12_product 40 = .ok (.goto 4, 3) := by decide +kernel
theorem dX12_product_43 : decode cX12_product 43 = .ok (.iconst 0, 1) := by decide +kernel
theorem dX12_product_44 : decode cX12_product 44 = .ok (.istore_n 1, 1) := by decide +kernel
theorem dX12_product_45 : decode cX12_product 45 = .ok (.aload_n 0, 1) := by decide +kernel
theorem dX12_product_46 : decode cX12_product 46 = .ok (.invokevirtual 201, 3) := by decide +kernel
theorem dX12_product_49 : decode cX12_product 49 = .ok (.iload_n 1, 1) := by decide +kernel
theorem dX12_product_50 : decode cX12_product 50 = .ok (.ifCond .eq 46, 3) := by decide +kernel
theorem dX12_product_53 : decode cX12_product 53 = .ok (.aload_n 0, 1) := by decide +kernel
theorem dX12_product_54 : decode cX12_product 54 = .ok (.getfield 189, 3) := by decide +kernel
theorem dX12_product_57 : decode cX12_product 57 = .ok (.istore_n 2, 1) := by decide +kernel
theorem dX12_product_58 : decode cX12_product 58 = .ok (.aload_n 0, 1) := by decide +kernel
theorem dX12_product_59 : decode cX12_product 59 = .ok (.getfield 177, 3) := by decide +kernel
theorem dX12_product_62 : decode cX12_product 62 = .ok (.iconst 2, 1) := by decide +kernel
theorem dX12_product_63 : decode cX12_product 63 = .ok (.if_icmp .eq 9, 3) := by decide +kernel
theorem dX12_product_66 : decode cX12_product 66 = .ok (.aload_n 0, 1) := by decide +kernel
theorem dX12_product_67 : decode cX12_product 67 = .ok (.iconst 1, 1) := by decide +kernel
theorem dX12_product_68 : decode cX12_product 68 = .ok (.invokevirtual 198, 3) := by decide +kernel
theorem dX12_product_71 : decode cX12_product 71 = .ok (.ireturn, 1) := by decide +kernel
theorem dX12_product_72 : decode cX12_product 72 = .ok (.iload_n 2, 1) := by decide +kernel
theorem dX12_product_73 : decode cX12_product 73 = .ok (.ifCond .ne 9, 3) := by decide +kernel
theorem dX12_product_76 : decode cX12_product 76 = .ok (.aload_n 0, 1) := by decide +kernel
theorem dX12_product_77 : decode cX12_product 77 = .ok (.iconst 2, 1) := by decide +kernel
theorem dX12_product_78 : decode cX12_product 78 = .ok (.invokevirtual 198, 3) := by decide +kernel
theorem dX12_product_81 : decode cX12_product 81 = .ok (.ireturn, 1) := by decide +kernel
theorem dX12_product_82 : decode cX12_product 82 = .ok (.aload_n 0, 1) := by decide +kernel
theorem dX12_product_83 : decode cX12_product 83 = .ok (.invokevirtual 201, 3) := by decide +kernel
theorem dX12_product_86 : decode cX12_product 86 = .ok (.aload_n 0, 1) := by decide +kernel
theorem dX12_product_87 : decode cX12_product 87 = .ok (.bipush 26, 2) := by decide +kernel
theorem dX12_product_89 : decode cX12_product 89 = .ok (.iload_n 2, 1) := by decide +kernel
theorem dX12_product_90 : decode cX12_product 90 = .ok (.invokevirtual 214, 3) := by decide +kernel
theorem dX12_product_93 : decode cX12_product 93 = .ok (.goto 19, 3) := by decide +kernel
theorem dX12_product_96 : decode cX12_product 96 = .ok (.aload_n 0, 1) := by decide +kernel
theorem dX12_product_97 : decode cX12_product 97 = .ok (.invokevirtual 218, 3) := by decide +kernel
theorem dX12_product_100 : decode cX12_product 100 = .ok (.ifCond .ne 5, 3) := by decide +kernel
theorem dX12_product_103 : decode cX12_product 103 = .ok (.iconst 0, 1) := by decide +kernel
theorem dX12_product_104 : decode cX12_product 104 = .ok (.ireturn, 1) := by decide +kernel
theorem dX12_product_105 : decode cX12_product 105 = .ok (.aload_n 0, 1) := by decide +kernel
theorem dX12_product_106 : decode cX12_product 106 = .ok (.bipush 25, 2) := by decide +kernel
theorem dX12_product_108 : decode cX12_product 108 = .ok (.iconst 0, 1) := by decide +kernel
theorem dX12_product_109 : decode cX12_product 109 = .ok (.invokevirtual 214, 3) := by decide +kernel
theorem dX12_product_112 : decode cX12_product 112 = .ok (.goto (-103), 3) := by decide +kernel
theorem dX12_product_115 : decode cX12_product 115 = .ok (.iconst 1, 1) := by decide +kernel
theorem dX12_product_116 : decode cX12_product 116 = .ok (.ireturn, 1) := by decide +kernel
theorem dX12_unit_0 : decode cX12_unit 0 = .ok (.aload_n 0, 1) := by decide +kernel
theorem dX12_unit_1 : decode cX12_unit 1 = .ok (.getfield 177, 3) := by decide +kernel
theorem dX12_unit_4 : decode cX12_unit 4 = .ok (.bipush 41, 2) := by decide +kernel
theorem dX12_unit_6 : decode cX12_unit 6 = .ok (.bipush 50, 2) := by decide +kernel
theorem dX12_unit_8 : decode cX12_unit 8 = .ok (.invokestatic 56, 3) := by decide +kernel
theorem dX12_unit_11 : decode cX12_unit 11 = .ok (.istore_n 1, 1) := by decide +kernel
theorem dX12_unit_12 : decode cX12_unit 12 = .ok (.aload_n 0, 1) := by decide +kernel
theorem dX12_unit_13 : decode cX12_unit 13 = .ok (.getfield 177, 3) := by decide +kernel
theorem dX12_unit_16 : decode cX12_unit 16 = .ok (.iconst 2, 1) := by decide +kernel
theorem dX12_unit_17 : decode cX12_unit 17 = .ok (.if_icmp .eq 13, 3) := by decide +kernel
theorem dX12_unit_20 : decode cX12_unit 20 = .ok (.iload_n 1, 1) := by decide +kernel
theorem dX12_unit_21 : decode cX12_unit 21 = .ok (.ifCond .ne 9, 3) := by decide +kernel
theorem dX12_unit_24 : decode cX12_unit 24 = .ok (.aload_n 0, 1) := by decide +kernel
theorem dX12_unit_25 : decode cX12_unit 25 = .ok (.iconst 1, 1) := by decide +kernel
theorem dX12_unit_26 : decode cX12_unit 26 = .ok (.invokevirtual 198, 3) := by decide +kernel
theorem dX12_unit_29 : decode cX12_unit 29 = .ok (.ireturn, 1) := by decide +kernel
theorem dX12_unit_30 : decode cX12_unit 30 = .ok (.aload_n 0, 1) := by decide +kernel
theorem dX12_unit_31 : decode cX12_unit 31 = .ok (.iload_n 1, 1) := by decide +kernel
theorem dX12_unit_32 : decode cX12_unit 32 = .ok (.ifCond .eq 13, 3) := by decide +kernel
theorem dX12_unit_35 : decode cX12_unit 35 = .ok (.aload_n 0, 1) := by decide +kernel
theorem dX12_unit_36 : decode cX12_unit 36 = .ok (.getfield 177, 3) := by decide +kernel
theorem dX12_unit_39 : decode cX12_unit 39 = .ok (.bipush 40, 2) := by decide +kernel
theorem dX12_unit_41 : decode cX12_unit 41 = .ok (.isub, 1) := by decide +kernel
theorem dX12_unit_42 : decode cX12_unit 42 = .ok (.goto 4, 3) := by decide +kernel
theorem dX12_unit_45 : decode cX12_unit 45 = .ok (.iconst 0, 1) := by decide +kernel
theorem dX12_unit_46 : decode cX12_unit 46 = .ok (.aload_n 0, 1) := by decide +kernel
theorem dX12_unit_47 : decode cX12_unit 47 = .ok (.getfield 189, 3) := by decide +kernel
theorem dX12_unit_50 : decode cX12_unit 50 = .ok (.invokevirtual 214, 3) := by decide +kernel
theorem dX12_unit_53 : decode cX12_unit 53 = .ok (.aload_n 0, 1) := by decide +kernel
theorem dX12_unit_54 : decode cX12_unit 54 = .ok (.invokevirtual 201, 3) := by decide +kernel
theorem dX12_unit_57 : decode cX12_unit 57 = .ok (.iconst 1, 1) := by decide +kernel
theorem dX12_unit_58 : decode cX12_unit 58 = .ok (.ireturn, 1) := by decide +kernel
theorem dX12_any_0 : decode cX12_any 0 = .ok (.aload_n 0, 1) := by decide +kernel
theorem dX12_any_1 : decode cX12_any 1 = .ok (.invokevirtual 221, 3) := by decide +kernel
theorem dX12_any_4 : decode cX12_any 4 = .ok (.ifCond .ne 5, 3) := by decide +kernel
theorem dX12_any_7 : decode cX12_any 7 = .ok (.iconst 0, 1) := by decide +kernel
theorem dX12_any_8 : decode cX12_any 8 = .ok (.ireturn, 1) := by decide +kernel
theorem dX12_any_9 : decode cX12_any 9 = .ok (.aload_n 0, 1) := by decide +kernel
theorem dX12_any_10 : decode cX12_any 10 = .ok (.getfield 177, 3) := by decide +kernel
theorem dX12_any_13 : decode cX12_any 13 = .ok (.iconst 4, 1) := by decide +kernel
theorem dX12_any_14 : decode cX12_any 14 = .ok (.if_icmp .ne 26, 3) := by decide +kernel
theorem dX12_any_17 : decode cX12_any 17 = .ok (.aload_n 0, 1) := by decide +kernel
theorem dX12_any_18 : decode cX12_any 18 = .ok (.invokevirtual 201, 3) := by decide +kernel
theorem dX12_any_21 : decode cX12_any 21 = .ok (.aload_n 0, 1) := by decide +kernel
theorem dX12_any_22 : decode cX12_any 22 = .ok (.invokevirtual 221, 3) := by decide +kernel
theorem dX12_any_25 : decode cX12_any 25 = .ok (.ifCond .ne 5, 3) := by decide +kernel
theorem dX12_any_28 : decode cX12_any 28 = .ok (.iconst 0, 1) := by decide +kernel
theorem dX12_any_29 : decode cX12_any 29 = .ok (.ireturn, 1) := by decide +kernel
theorem dX12_any_30 : decode cX12_any 30 = .ok (.aload_n 0, 1) := by decide +kernel
theorem dX12_any_31 : decode cX12_any 31 = .ok (.bipush 32, 2) := by decide +kernel
theorem dX12_any_33 : decode cX12_any 33 = .ok (.iconst 0, 1) := by decide +kernel
theorem dX12_any_34 : decode cX12_any 34 = .ok (.invokevirtual 214, 3) := by decide +kernel
theorem dX12_any_37 : decode cX12_any 37 = .ok (.goto (-28), 3) := by decide +kernel
theorem dX12_any_40 : decode cX12_any 40 = .ok (.iconst 1, 1) := by decide +kernel
theorem dX12_any_41 : decode cX12_any 41 = .ok (.ireturn, 1) := by decide +kernel
theorem dX12_every_0 : decode cX12_every 0 = .ok (.aload_n 0, 1) := by decide +kernel
theorem dX12_every_1 : decode cX12_every 1 = .ok (.invokevirtual 224, 3) := by decide +kernel
theorem dX12_every_4 : decode cX12_every 4 = .ok (.ifCond .ne 5, 3) := by decide +kernel
theorem dX12_every_7 : decode cX12_every 7 = .ok (.iconst 0, 1) := by decide +kernel
theorem dX12_every_8 : decode cX12_every 8 = .ok (.ireturn, 1) := by decide +kernel
theorem dX12_every_9 : decode cX12_every 9 = .ok (.aload_n 0, 1) := by decide +kernel
theorem dX12_every_10 : decode cX12_every 10 = .ok (.getfield 177, 3) := by decide +kernel
theorem dX12_every_13 : decode cX12_every 13 = .ok (.iconst 5, 1) := by decide +kernel
theorem dX12_every_14 : decode cX12_every 14 = .ok (.if_icmp .ne 26, 3) := by decide +kernel
theorem dX12_every_17 : decode cX12_every 17 = .ok (.aload_n 0, 1) := by decide +kernel
theorem dX12_every_18 : decode cX12_every 18 = .ok (.invokevirtual 201, 3) := by decide +kernel
theorem dX12_every_21 : decode cX12_every 21 = .ok (.aload_n 0, 1) := by decide +kernel
theorem dX12_every_22 : decode cX12_every 22 = .ok (.invokevirtual 224, 3) := by decide +kernel
theorem dX12_every_25 : decode cX12_every 25 = .ok (.ifCond .ne 5, 3) := by decide +kernel
theorem dX12_every_28 : decode cX12_every 28 = .ok (.iconst 0, 1) := by decide +kernel
theorem dX12_every_29 : decode cX12_every 29 = .ok (.ireturn, 1) := by decide +kernel
theorem dX12_every_30 : decode cX12_every 30 = .ok (.aload_n 0, 1) := by decide +kernel
theorem dX12_every_31 : decode cX12_every 31 = .ok (.bipush 31, 2) := by decide +kernel
theorem dX12_every_33 : decode cX12_every 33 = .ok (.iconst 0, 1) := by decide +kernel
theorem dX12_every_34 : decode cX12_every 34 = .ok (.invokevirtual 214, 3) := by decide +kernel
theorem dX12_every_37 : decode cX12_every 37 = .ok (.goto (-28), 3) := by decide +kernel
theorem dX12_every_40 : decode cX12_every 40 = .ok (.iconst 1, 1) := by decide +kernel
theorem dX12_every_41 : decode cX12_every 41 = .ok (.ireturn, 1) := by decide +kernel
theorem dX12_oneTest_0 : decode cX12_oneTest 0 = .ok (.aload_n 0, 1) := by decide +kernel
theorem dX12_oneTest_1 : decode cX12_oneTest 1 = .ok (.getfield 177, 3) := by decide +kernel
theorem dX12_oneTest_4 : decode cX12_oneTest 4 = .ok (.bipush 6, 2) := by decide +kernel
theorem dX12_oneTest_6 : decode cX12_oneTest 6 = .ok (.if_icmp .ne 38, 3) := by decide +kernel
theorem dX12_oneTest_9 : decode cX12_oneTest 9 = .ok (.aload_n 0, 1) := by decide +kernel
theorem dX12_oneTest_10 : decode cX12_oneTest 10 = .ok (.invokevirtual 227, 3) := by decide +kernel
theorem dX12_oneTest_13 : decode cX12_oneTest 13 = .ok (.ifCond .eq 10, 3) := by decide +kernel
theorem dX12_oneTest_16 : decode cX12_oneTest 16 = .ok (.aload_n 0, 1) := by decide +kernel
theorem dX12_oneTest_17 : decode cX12_oneTest 17 = .ok (.invokevirtual 224, 3) := by decide +kernel
theorem dX12_oneTest_20 : decode cX12_oneTest 20 = .ok (.ifCond .ne 5, 3) := by decide +kernel
theorem dX12_oneTest_23 : decode cX12_oneTest 23 = .ok (.iconst 0, 1) := by decide +kernel
theorem dX12_oneTest_24 : decode cX12_oneTest 24 = .ok (.ireturn, 1) := by decide +kernel
theorem dX12_oneTest_25 : decode cX12_oneTest 25 = .ok (.aload_n 0, 1) := by decide +kernel
theorem dX12_oneTest_26 : decode cX12_oneTest 26 = .ok (.dup, 1) := by decide +kernel
theorem dX12_oneTest_27 : decode cX12_oneTest 27 = .ok (.getfield 207, 3) := by decide +kernel
theorem dX12_oneTest_30 : decode cX12_oneTest 30 = .ok (.iconst 1, 1) := by decide +kernel
theorem dX12_oneTest_31 : decode cX12_oneTest 31 = .ok (.isub, 1) := by decide +kernel
theorem dX12_oneTest_32 : decode cX12_oneTest 32 = .ok (.putfield 207, 3) := by decide +kernel
theorem dX12_oneTest_35 : decode cX12_oneTest 35 = .ok (.aload_n 0, 1) := by decide +kernel
theorem dX12_oneTest_36 : decode cX12_oneTest 36 = .ok (.bipush 30, 2) := by decide +kernel
theorem dX12_oneTest_38 : decode cX12_oneTest 38 = .ok (.iconst 0, 1) := by decide +kernel
theorem dX12_oneTest_39 : decode cX12_oneTest 39 = .ok (.invokevirtual 214, 3) := by decide +kernel
theorem dX12_oneTest_42 : decode cX12_oneTest 42 = .ok (.iconst 1, 1) := by decide +kernel
theorem dX12_oneTest_43 : decode cX12_oneTest 43 = .ok (.ireturn, 1) := by decide +kernel
theorem dX12_oneTest_44 : decode cX12_oneTest 44 = .ok (.aload_n 0, 1) := by decide +kernel
theorem dX12_oneTest_45 : decode cX12_oneTest 45 = .ok (.getfield 177, 3) := by decide +kernel
theorem dX12_oneTest_48 : decode cX12_oneTest 48 = .ok (.sipush 140, 3) := by decide +kernel
theorem dX12_oneTest_51 : decode cX12_oneTest 51 = .ok (.if_icmp .ne 41, 3) := by decide +kernel
theorem dX12_oneTest_54 : decode cX12_oneTest 54 = .ok (.aload_n 0, 1) := by decide +kernel
theorem dX12_oneTest_55 : decode cX12_oneTest 55 = .ok (.invokevirtual 227, 3) := by decide +kernel
theorem dX12_oneTest_58 : decode cX12_oneTest 58 = .ok (.ifCond .eq 20, 3) := by decide +kernel
theorem dX12_oneTest_61 : decode cX12_oneTest 61 = .ok (.aload_n 0, 1) := by decide +kernel
theorem dX12_oneTest_62 : decode cX12_oneTest 62 = .ok (.invokevirtual 230, 3) := by decide +kernel
theorem dX12_oneTest_65 : decode cX12_oneTest 65 = .ok (.ifCond .eq 13, 3) := by decide +kernel
theorem dX12_oneTest_68 : decode cX12_oneTest 68 = .ok (.aload_n 0, 1) := by decide +kernel
theorem dX12_oneTest_69 : decode cX12_oneTest 69 = .ok (.sipush 141, 3) := by decide +kernel
theorem dX12_oneTest_72 : decode cX12_oneTest 72 = .ok (.invokevirtual 233, 3) := by decide +kernel
theorem dX12_oneTest_75 : decode cX12_oneTest 75 = .ok (.ifCond .ne 5, 3) := by decide +kernel
theorem dX12_oneTest_78 : decode cX12_oneTest 78 = .ok (.iconst 0, 1) := by decide +kernel
theorem dX12_oneTest_79 : decode cX12_oneTest 79 = .ok (.ireturn, 1) := by decide +kernel
theorem dX12_oneTest_80 : decode cX12_oneTest 80 = .ok (.aload_n 0, 1) := by decide +kernel
theorem dX12_oneTest_81 : decode cX12_oneTest 81 = .ok (.dup, 1) := by decide +kernel
theorem dX12_oneTest_82 : decode cX12_oneTest 82 = .ok (.getfield 207, 3) := by decide +kernel
theorem dX12_oneTest_85 : decode cX12_oneTest 85 = .ok (.iconst 1, 1) := by decide +kernel
theorem dX12_oneTest_86 : decode cX12_oneTest 86 = .ok (.isub, 1) := by decide +kernel
theorem dX12_oneTest_87 : decode cX12_oneTest 87 = .ok (.putfield 207, 3) := by decide +kernel
theorem dX12_oneTest_90 : decode cX12_oneTest 90 = .ok (.iconst 1, 1) := by decide +kernel
theorem dX12_oneTest_91 : decode cX12_oneTest 91 = .ok (.ireturn, 1) := by decide +kernel
theorem dX12_oneTest_92 : decode cX12_oneTest 92 = .ok (.aload_n 0, 1) := by decide +kernel
theorem dX12_oneTest_93 : decode cX12_oneTest 93 = .ok (.invokevirtual 235, 3) := by decide +kernel
theorem dX12_oneTest_96 : decode cX12_oneTest 96 = .ok (.ifCond .ne 5, 3) := by decide +kernel
theorem dX12_oneTest_99 : decode cX12_oneTest 99 = .ok (.iconst 0, 1) := by decide +kernel
theorem dX12_oneTest_100 : decode cX12_oneTest 100 = .ok (.ireturn, 1) := by decide +kernel
theorem dX12_oneTest_101 : decode cX12_oneTest 101 = .ok (.aload_n 0, 1) := by decide +kernel
theorem dX12_oneTest_102 : decode cX12_oneTest 102 = .ok (.getfield 177, 3) := by decide +kernel
theorem dX12_oneTest_105 : decode cX12_oneTest 105 = .ok (.sipush 160, 3) := by decide +kernel
theorem dX12_oneTest_108 : decode cX12_oneTest 108 = .ok (.if_icmp .ne 8, 3) := by decide +kernel
theorem dX12_oneTest_111 : decode cX12_oneTest 111 = .ok (.bipush 27, 2) := by decide +kernel
theorem dX12_oneTest_113 : decode cX12_oneTest 113 = .ok (.goto 34, 3) := by decide +kernel
theorem dX12_oneTest_116 : decode cX12_oneTest 116 = .ok (.aload_n 0, 1) := by decide +kernel
theorem dX12_oneTest_117 : decode cX12_oneTest 117 = .ok (.getfield 177, 3) := by decide +kernel
theorem dX12_oneTest_120 : decode cX12_oneTest 120 = .ok (.sipush 161, 3) := by decide +kernel
theorem dX12_oneTest_123 : decode cX12_oneTest 123 = .ok (.if_icmp .ne 8, 3) := by decide +kernel
theorem dX12_oneTest_126 : decode cX12_oneTest 126 = .ok (.bipush 28, 2) := by decide +kernel
theorem dX12_oneTest_128 : decode cX12_oneTest 128 = .ok (.goto 19, 3) := by decide +kernel
theorem dX12_oneTest_131 : decode cX12_oneTest 131 = .ok (.aload_n 0, 1) := by decide +kernel
theorem dX12_oneTest_132 : decode cX12_oneTest 132 = .ok (.getfield 177, 3) := by decide +kernel
theorem dX12_oneTest_135 : decode cX12_oneTest 135 = .ok (.sipush 162, 3) := by decide +kernel
theorem dX12_oneTest_138 : decode cX12_oneTest 138 = .ok (.if_icmp .ne 8, 3) := by decide +kernel
theorem dX12_oneTest_141 : decode cX12_oneTest 141 = .ok (.bipush 29, 2) := by decide +kernel
theorem dX12_oneTest_143 : decode cX12_oneTest 143 = .ok (.goto 4, 3) := by decide +kernel
theorem dX12_oneTest_146 : decode cX12_oneTest 146 = .ok (.iconst (-1), 1) := by decide +kernel
theorem dX12_oneTest_147 : decode cX12_oneTest 147 = .ok (.istore_n 1, 1) := by decide +kernel
theorem dX12_oneTest_148 : decode cX12_oneTest 148 = .ok (.iload_n 1, 1) := by decide +kernel
theorem dX12_oneTest_149 : decode cX12_oneTest 149 = .ok (.iconst (-1), 1) := by decide +kernel
theorem dX12_oneTest_150 : decode cX12_oneTest 150 = .ok (.if_icmp .ne 9, 3) := by decide +kernel
theorem dX12_oneTest_153 : decode cX12_oneTest 153 = .ok (.aload_n 0, 1) := by decide +kernel
theorem dX12_oneTest_154 : decode cX12_oneTest 154 = .ok (.iconst 1, 1) := by decide +kernel
theorem dX12_oneTest_155 : decode cX12_oneTest 155 = .ok (.invokevirtual 198, 3) := by decide +kernel
theorem dX12_oneTest_158 : decode cX12_oneTest 158 = .ok (.ireturn, 1) := by decide +kernel
theorem dX12_oneTest_159 : decode cX12_oneTest 159 = .ok (.aload_n 0, 1) := by decide +kernel
theorem dX12_oneTest_160 : decode cX12_oneTest 160 = .ok (.invokevirtual 201, 3) := by decide +kernel
theorem dX12_oneTest_163 : decode cX12_oneTest 163 = .ok (.aload_n 0, 1) := by decide +kernel
theorem dX12_oneTest_164 : decode cX12_oneTest 164 = .ok (.invokevirtual 235, 3) := by decide +kernel
theorem dX12_oneTest_167 : decode cX12_oneTest 167 = .ok (.ifCond .ne 5, 3) := by decide +kernel
theorem dX12_oneTest_170 : decode cX12_oneTest 170 = .ok (.iconst 0, 1) := by decide +kernel
theorem dX12_oneTest_171 : decode cX12_oneTest 171 = .ok (.ireturn, 1) := by decide +kernel
theorem dX12_oneTest_172 : decode cX12_oneTest 172 = .ok (.aload_n 0, 1) := by decide +kernel
theorem dX12_oneTest_173 : decode cX12_oneTest 173 = .ok (.iload_n 1, 1) := by decide +kernel
theorem dX12_oneTest_174 : decode cX12_oneTest 174 = .ok (.iconst 0, 1) := by decide +kernel
theorem dX12_oneTest_175 : decode cX12_oneTest 175 = .ok (.invokevirtual 214, 3) := by decide +kernel
theorem dX12_oneTest_178 : decode cX12_oneTest 178 = .ok (.iconst 1, 1) := by decide +kernel
theorem dX12_oneTest_179 : decode cX12_oneTest 179 = .ok (.ireturn, 1) := by decide +kernel
theorem dX12_aLine_0 : decode cX12_aLine 0 = .ok (.aload_n 0, 1) := by decide +kernel
theorem dX12_aLine_1 : decode cX12_aLine 1 = .ok (.getfield 177, 3) := by decide +kernel
theorem dX12_aLine_4 : decode cX12_aLine 4 = .ok (.bipush 20, 2) := by decide +kernel
theorem dX12_aLine_6 : decode cX12_aLine 6 = .ok (.bipush 22, 2) := by decide +kernel
theorem dX12_aLine_8 : decode cX12_aLine 8 = .ok (.invokestatic 56, 3) := by decide +kernel
theorem dX12_aLine_11 : decode cX12_aLine 11 = .ok (.ifCond .ne 9, 3) := by decide +kernel
theorem dX12_aLine_14 : decode cX12_aLine 14 = .ok (.aload_n 0, 1) := by decide +kernel
theorem dX12_aLine_15 : decode cX12_aLine 15 = .ok (.iconst 1, 1) := by decide +kernel
theorem dX12_aLine_16 : decode cX12_aLine 16 = .ok (.invokevirtual 198, 3) := by decide +kernel
theorem dX12_aLine_19 : decode cX12_aLine 19 = .ok (.ireturn, 1) := by decide +kernel
theorem dX12_aLine_20 : decode cX12_aLine 20 = .ok (.aload_n 0, 1) := by decide +kernel
theorem dX12_aLine_21 : decode cX12_aLine 21 = .ok (.getfield 238, 3) := by decide +kernel
theorem dX12_aLine_24 : decode cX12_aLine 24 = .ok (.bipush 16, 2) := by decide +kernel
theorem dX12_aLine_26 : decode cX12_aLine 26 = .ok (.if_icmp .ne 9, 3) := by decide +kernel
theorem dX12_aLine_29 : decode cX12_aLine 29 = .ok (.aload_n 0, 1) := by decide +kernel
theorem dX12_aLine_30 : decode cX12_aLine 30 = .ok (.iconst 3, 1) := by decide +kernel
theorem dX12_aLine_31 : decode cX12_aLine 31 = .ok (.invokevirtual 198, 3) := by decide +kernel
theorem dX12_aLine_34 : decode cX12_aLine 34 = .ok (.ireturn, 1) := by decide +kernel
theorem dX12_aLine_35 : decode cX12_aLine 35 = .ok (.aload_n 0, 1) := by decide +kernel
theorem dX12_aLine_36 : decode cX12_aLine 36 = .ok (.iconst 0, 1) := by decide +kernel
theorem dX12_aLine_37 : decode cX12_aLine 37 = .ok (.putfield 207, 3) := by decide +kernel
theorem dX12_aLine_40 : decode cX12_aLine 40 = .ok (.aload_n 0, 1) := by decide +kernel
theorem dX12_aLine_41 : decode cX12_aLine 41 = .ok (.getfield 22, 3) := by decide +kernel
theorem dX12_aLine_44 : decode cX12_aLine 44 = .ok (.iconst 4, 1) := by decide +kernel
theorem dX12_aLine_45 : decode cX12_aLine 45 = .ok (.aload_n 0, 1) := by decide +kernel
theorem dX12_aLine_46 : decode cX12_aLine 46 = .ok (.getfield 238, 3) := by decide +kernel
theorem dX12_aLine_49 : decode cX12_aLine 49 = .ok (.imul, 1) := by decide +kernel
theorem dX12_aLine_50 : decode cX12_aLine 50 = .ok (.iconst 3, 1) := by decide +kernel
theorem dX12_aLine_51 : decode cX12_aLine 51 = .ok (.iadd, 1) := by decide +kernel
theorem dX12_aLine_52 : decode cX12_aLine 52 = .ok (.aload_n 0, 1) := by decide +kernel
theorem dX12_aLine_53 : decode cX12_aLine 53 = .ok (.getfield 177, 3) := by decide +kernel
theorem dX12_aLine_56 : decode cX12_aLine 56 = .ok (.iastore, 1) := by decide +kernel
theorem dX12_aLine_57 : decode cX12_aLine 57 = .ok (.aload_n 0, 1) := by decide +kernel
theorem dX12_aLine_58 : decode cX12_aLine 58 = .ok (.invokevirtual 201, 3) := by decide +kernel
theorem dX12_aLine_61 : decode cX12_aLine 61 = .ok (.aload_n 0, 1) := by decide +kernel
theorem dX12_aLine_62 : decode cX12_aLine 62 = .ok (.getfield 22, 3) := by decide +kernel
theorem dX12_aLine_65 : decode cX12_aLine 65 = .ok (.iconst 4, 1) := by decide +kernel
theorem dX12_aLine_66 : decode cX12_aLine 66 = .ok (.aload_n 0, 1) := by decide +kernel
theorem dX12_aLine_67 : decode cX12_aLine 67 = .ok (.getfield 238, 3) := by decide +kernel
theorem dX12_aLine_70 : decode cX12_aLine 70 = .ok (.imul, 1) := by decide +kernel
theorem dX12_aLine_71 : decode cX12_aLine 71 = .ok (.aload_n 0, 1) := by decide +kernel
theorem dX12_aLine_72 : decode cX12_aLine 72 = .ok (.getfield 204, 3) := by decide +kernel
theorem dX12_aLine_75 : decode cX12_aLine 75 = .ok (.iastore, 1) := by decide +kernel
theorem dX12_aLine_76 : decode cX12_aLine 76 = .ok (.aload_n 0, 1) := by decide +kernel
theorem dX12_aLine_77 : decode cX12_aLine 77 = .ok (.invokevirtual 235, 3) := by decide +kernel
theorem dX12_aLine_80 : decode cX12_aLine 80 = .ok (.ifCond .ne 5, 3) := by decide +kernel
theorem dX12_aLine_83 : decode cX12_aLine 83 = .ok (.iconst 0, 1) := by decide +kernel
theorem dX12_aLine_84 : decode cX12_aLine 84 = .ok (.ireturn, 1) := by decide +kernel
theorem dX12_aLine_85 : decode cX12_aLine 85 = .ok (.aload_n 0, 1) := by decide +kernel
theorem dX12_aLine_86 : decode cX12_aLine 86 = .ok (.getfield 22, 3) := by decide +kernel
theorem dX12_aLine_89 : decode cX12_aLine 89 = .ok (.iconst 4, 1) := by decide +kernel
theorem dX12_aLine_90 : decode cX12_aLine 90 = .ok (.aload_n 0, 1) := by decide +kernel
theorem dX12_aLine_91 : decode cX12_aLine 91 = .ok (.getfield 238, 3) := by decide +kernel
theorem dX12_aLine_94 : decode cX12_aLine 94 = .ok (.imul, 1) := by decide +kernel
theorem dX12_aLine_95 : decode cX12_aLine 95 = .ok (.iconst 1, 1) := by decide +kernel
theorem dX12_aLine_96 : decode cX12_aLine 96 = .ok (.iadd, 1) := by decide +kernel
theorem dX12_aLine_97 : decode cX12_aLine 97 = .ok (.aload_n 0, 1) := by decide +kernel
theorem dX12_aLine_98 : decode cX12_aLine 98 = .ok (.getfield 204, 3) := by decide +kernel
theorem dX12_aLine_101 : decode cX12_aLine 101 = .ok (.iastore, 1) := by decide +kernel
theorem dX12_aLine_102 : decode cX12_aLine 102 = .ok (.aload_n 0, 1) := by decide +kernel
theorem dX12_aLine_103 : decode cX12_aLine 103 = .ok (.getfield 177, 3) := by decide +kernel
theorem dX12_aLine_106 : decode cX12_aLine 106 = .ok (.iconst 3, 1) := by decide +kernel
theorem dX12_aLine_107 : decode cX12_aLine 107 = .ok (.if_icmp .ne 16, 3) := by decide +kernel
theorem dX12_aLine_110 : decode cX12_aLine 110 = .ok (.aload_n 0, 1) := by decide +kernel
theorem dX12_aLine_111 : decode cX12_aLine 111 = .ok (.invokevirtual 201, 3) := by decide +kernel
theorem dX12_aLine_114 : decode cX12_aLine 114 = .ok (.aload_n 0, 1) := by decide +kernel
theorem dX12_aLine_115 : decode cX12_aLine 115 = .ok (.invokevirtual 230, 3) := by decide +kernel
theorem dX12_aLine_118 : decode cX12_aLine 118 = .ok (.ifCond .ne 5, 3) := by decide +kernel
theorem dX12_aLine_121 : decode cX12_aLine 121 = .ok (.iconst 0, 1) := by decide +kernel
theorem dX12_aLine_122 : decode cX12_aLine 122 = .ok (.ireturn, 1) := by decide +kernel
theorem dX12_aLine_123 : decode cX12_aLine 123 = .ok (.aload_n 0, 1) := by decide +kernel
theorem dX12_aLine_124 : decode cX12_aLine 124 = .ok (.getfield 22, 3) := by decide +kernel
theorem dX12_aLine_127 : decode cX12_aLine 127 = .ok (.iconst 4, 1) := by decide +kernel
theorem dX12_aLine_128 : decode cX12_aLine 128 = .ok (.aload_n 0, 1) := by decide +kernel
theorem dX12_aLine_129 : decode cX12_aLine 129 = .ok (.getfield 238, 3) := by decide +kernel
theorem dX12_aLine_132 : decode cX12_aLine 132 = .ok (.imul, 1) := by decide +kernel
theorem dX12_aLine_133 : decode cX12_aLine 133 = .ok (.iconst 2, 1) := by decide +kernel
theorem dX12_aLine_134 : decode cX12_aLine 134 = .ok (.iadd, 1) := by decide +kernel
theorem dX12_aLine_135 : decode cX12_aLine 135 = .ok (.aload_n 0, 1) := by decide +kernel
theorem dX12_aLine_136 : decode cX12_aLine 136 = .ok (.getfield 204, 3) := by decide +kernel
theorem dX12_aLine_139 : decode cX12_aLine 139 = .ok (.iastore, 1) := by decide +kernel
theorem dX12_aLine_140 : decode cX12_aLine 140 = .ok (.aload_n 0, 1) := by decide +kernel
theorem dX12_aLine_141 : decode cX12_aLine 141 = .ok (.sipush 159, 3) := by decide +kernel
theorem dX12_aLine_144 : decode cX12_aLine 144 = .ok (.invokevirtual 233, 3) := by decide +kernel
theorem dX12_aLine_147 : decode cX12_aLine 147 = .ok (.ireturn, 1) := by decide +kernel
theorem dX12_readsLaw_0 : decode cX12_readsLaw 0 = .ok (.aload_n 0, 1) := by decide +kernel
theorem dX12_readsLaw_1 : decode cX12_readsLaw 1 = .ok (.iconst 0, 1) := by decide +kernel
theorem dX12_readsLaw_2 : decode cX12_readsLaw 2 = .ok (.putfield 238, 3) := by decide +kernel
theorem dX12_readsLaw_5 : decode cX12_readsLaw 5 = .ok (.aload_n 0, 1) := by decide +kernel
theorem dX12_readsLaw_6 : decode cX12_readsLaw 6 = .ok (.iconst 0, 1) := by decide +kernel
theorem dX12_readsLaw_7 : decode cX12_readsLaw 7 = .ok (.putfield 204, 3) := by decide +kernel
theorem dX12_readsLaw_10 : decode cX12_readsLaw 10 = .ok (.iconst 1, 1) := by decide +kernel
theorem dX12_readsLaw_11 : decode cX12_readsLaw 11 = .ok (.istore_n 1, 1) := by decide +kernel
theorem dX12_readsLaw_12 : decode cX12_readsLaw 12 = .ok (.iload_n 1, 1) := by decide +kernel
theorem dX12_readsLaw_13 : decode cX12_readsLaw 13 = .ok (.ifCond .eq 36, 3) := by decide +kernel
theorem dX12_readsLaw_16 : decode cX12_readsLaw 16 = .ok (.aload_n 0, 1) := by decide +kernel
theorem dX12_readsLaw_17 : decode cX12_readsLaw 17 = .ok (.getfield 177, 3) := by decide +kernel
theorem dX12_readsLaw_20 : decode cX12_readsLaw 20 = .ok (.ifCond .eq 29, 3) := by decide +kernel
theorem dX12_readsLaw_23 : decode cX12_readsLaw 23 = .ok (.aload_n 0, 1) := by decide +kernel
theorem dX12_readsLaw_24 : decode cX12_readsLaw 24 = .ok (.invokevirtual 241, 3) := by decide +kernel
theorem dX12_readsLaw_27 : decode cX12_readsLaw 27 = .ok (.istore_n 1, 1) := by decide +kernel
theorem dX12_readsLaw_28 : decode cX12_readsLaw 28 = .ok (.aload_n 0, 1) := by decide +kernel
theorem dX12_readsLaw_29 : decode cX12_readsLaw 29 = .ok (.dup, 1) := by decide +kernel
theorem dX12_readsLaw_30 : decode cX12_readsLaw 30 = .ok (.getfield 238, 3) := by decide +kernel
theorem dX12_readsLaw_33 : decode cX12_readsLaw 33 = .ok (.iload_n 1, 1) := by decide +kernel
theorem dX12_readsLaw_34 : decode cX12_readsLaw 34 = .ok (.ifCond .eq 7, 3) := by decide +kernel
theorem dX12_readsLaw_37 : decode cX12_readsLaw 37 = .ok (.iconst 1, 1) := by decide +kernel
theorem dX12_readsLaw_38 : decode cX12_readsLaw 38 = .ok (.goto 4, 3) := by decide +kernel
theorem dX12_readsLaw_41 : decode cX12_readsLaw 41 = .ok (.iconst 0, 1) := by decide +kernel
theorem dX12_readsLaw_42 : decode cX12_readsLaw 42 = .ok (.iadd, 1) := by decide +kernel
theorem dX12_readsLaw_43 : decode cX12_readsLaw 43 = .ok (.putfield 238, 3) := by decide +kernel
theorem dX12_readsLaw_46 : decode cX12_readsLaw 46 = .ok (.goto (-34), 3) := by decide +kernel
theorem dX12_readsLaw_49 : decode cX12_readsLaw 49 = .ok (.iload_n 1, 1) := by decide +kernel
theorem dX12_readsLaw_50 : decode cX12_readsLaw 50 = .ok (.ireturn, 1) := by decide +kernel
theorem dX12_number_0 : decode cX12_number 0 = .ok (.aload_n 0, 1) := by decide +kernel
theorem dX12_number_1 : decode cX12_number 1 = .ok (.getfield 177, 3) := by decide +kernel
theorem dX12_number_4 : decode cX12_number 4 = .ok (.iconst 2, 1) := by decide +kernel
theorem dX12_number_5 : decode cX12_number 5 = .ok (.if_icmp .eq 9, 3) := by decide +kernel
theorem dX12_number_8 : decode cX12_number 8 = .ok (.aload_n 0, 1) := by decide +kernel
theorem dX12_number_9 : decode cX12_number 9 = .ok (.iconst 1, 1) := by decide +kernel
theorem dX12_number_10 : decode cX12_number 10 = .ok (.invokevirtual 198, 3) := by decide +kernel
theorem dX12_number_13 : decode cX12_number 13 = .ok (.ireturn, 1) := by decide +kernel
theorem dX12_number_14 : decode cX12_number 14 = .ok (.aload_n 0, 1) := by decide +kernel
theorem dX12_number_15 : decode cX12_number 15 = .ok (.getfield 189, 3) := by decide +kernel
theorem dX12_number_18 : decode cX12_number 18 = .ok (.iload_n 2, 1) := by decide +kernel
theorem dX12_number_19 : decode cX12_number 19 = .ok (.iload_n 3, 1) := by decide +kernel
theorem dX12_number_20 : decode cX12_number 20 = .ok (.invokestatic 56, 3) := by decide +kernel
theorem dX12_number_23 : decode cX12_number 23 = .ok (.ifCond .ne 9, 3) := by decide +kernel
theorem dX12_number_26 : decode cX12_number 26 = .ok (.aload_n 0, 1) := by decide +kernel
theorem dX12_number_27 : decode cX12_number 27 = .ok (.iconst 2, 1) := by decide +kernel
theorem dX12_number_28 : decode cX12_number 28 = .ok (.invokevirtual 198, 3) := by decide +kernel
theorem dX12_number_31 : decode cX12_number 31 = .ok (.ireturn, 1) := by decide +kernel
theorem dX12_number_32 : decode cX12_number 32 = .ok (.aload_n 0, 1) := by decide +kernel
theorem dX12_number_33 : decode cX12_number 33 = .ok (.getfield 28, 3) := by decide +kernel
theorem dX12_number_36 : decode cX12_number 36 = .ok (.iload_n 1, 1) := by decide +kernel
theorem dX12_number_37 : decode cX12_number 37 = .ok (.aload_n 0, 1) := by decide +kernel
theorem dX12_number_38 : decode cX12_number 38 = .ok (.getfield 189, 3) := by decide +kernel
theorem dX12_number_41 : decode cX12_number 41 = .ok (.iastore, 1) := by decide +kernel
theorem dX12_number_42 : decode cX12_number 42 = .ok (.aload_n 0, 1) := by decide +kernel
theorem dX12_number_43 : decode cX12_number 43 = .ok (.invokevirtual 201, 3) := by decide +kernel
theorem dX12_number_46 : decode cX12_number 46 = .ok (.iconst 1, 1) := by decide +kernel
theorem dX12_number_47 : decode cX12_number 47 = .ok (.ireturn, 1) := by decide +kernel
theorem dX12_told_0 : decode cX12_told 0 = .ok (.aload_n 0, 1) := by decide +kernel
theorem dX12_told_1 : decode cX12_told 1 = .ok (.iload_n 2, 1) := by decide +kernel
theorem dX12_told_2 : decode cX12_told 2 = .ok (.invokevirtual 233, 3) := by decide +kernel
theorem dX12_told_5 : decode cX12_told 5 = .ok (.ifCond .eq 18, 3) := by decide +kernel
theorem dX12_told_8 : decode cX12_told 8 = .ok (.aload_n 0, 1) := by decide +kernel
theorem dX12_told_9 : decode cX12_told 9 = .ok (.iload_n 1, 1) := by decide +kernel
theorem dX12_told_10 : decode cX12_told 10 = .ok (.iload_n 3, 1) := by decide +kernel
theorem dX12_told_11 : decode cX12_told 11 = .ok (.iload 4, 2) := by decide +kernel
theorem dX12_told_13 : decode cX12_told 13 = .ok (.invokevirtual 244, 3) := by decide +kernel
theorem dX12_told_16 : decode cX12_told 16 = .ok (.ifCond .eq 7, 3) := by decide +kernel
theorem dX12_told_19 : decode cX12_told 19 = .ok (.iconst 1, 1) := by decide +kernel
theorem dX12_told_20 : decode cX12_told 20 = .ok (.goto 4, 3) := by decide +kernel
theorem dX12_told_23 : decode cX12_told 23 = .ok (.iconst 0, 1) := by decide +kernel
theorem dX12_told_24 : decode cX12_told 24 = .ok (.ireturn, 1) := by decide +kernel
theorem dX12_another_0 : decode cX12_another 0 = .ok (.aload_n 0, 1) := by decide +kernel
theorem dX12_another_1 : decode cX12_another 1 = .ok (.getfield 177, 3) := by decide +kernel
theorem dX12_another_4 : decode cX12_another 4 = .ok (.iconst 2, 1) := by decide +kernel
theorem dX12_another_5 : decode cX12_another 5 = .ok (.if_icmp .ne 22, 3) := by decide +kernel
theorem dX12_another_8 : decode cX12_another 8 = .ok (.aload_n 0, 1) := by decide +kernel
theorem dX12_another_9 : decode cX12_another 9 = .ok (.getfield 189, 3) := by decide +kernel
theorem dX12_another_12 : decode cX12_another 12 = .ok (.aload_n 0, 1) := by decide +kernel
theorem dX12_another_13 : decode cX12_another 13 = .ok (.getfield 28, 3) := by decide +kernel
theorem dX12_another_16 : decode cX12_another 16 = .ok (.iload_n 1, 1) := by decide +kernel
theorem dX12_another_17 : decode cX12_another 17 = .ok (.iaload, 1) := by decide +kernel
theorem dX12_another_18 : decode cX12_another 18 = .ok (.if_icmp .ne 9, 3) := by decide +kernel
theorem dX12_another_21 : decode cX12_another 21 = .ok (.aload_n 0, 1) := by decide +kernel
theorem dX12_another_22 : decode cX12_another 22 = .ok (.iconst 2, 1) := by decide +kernel
theorem dX12_another_23 : decode cX12_another 23 = .ok (.invokevirtual 198, 3) := by decide +kernel
theorem dX12_another_26 : decode cX12_another 26 = .ok (.ireturn, 1) := by decide +kernel
theorem dX12_another_27 : decode cX12_another 27 = .ok (.aload_n 0, 1) := by decide +kernel
theorem dX12_another_28 : decode cX12_another 28 = .ok (.getfield 177, 3) := by decide +kernel
theorem dX12_another_31 : decode cX12_another 31 = .ok (.iconst 2, 1) := by decide +kernel
theorem dX12_another_32 : decode cX12_another 32 = .ok (.if_icmp .eq 9, 3) := by decide +kernel
theorem dX12_another_35 : decode cX12_another 35 = .ok (.aload_n 0, 1) := by decide +kernel
theorem dX12_another_36 : decode cX12_another 36 = .ok (.iconst 1, 1) := by decide +kernel
theorem dX12_another_37 : decode cX12_another 37 = .ok (.invokevirtual 198, 3) := by decide +kernel
theorem dX12_another_40 : decode cX12_another 40 = .ok (.ireturn, 1) := by decide +kernel
theorem dX12_another_41 : decode cX12_another 41 = .ok (.aload_n 0, 1) := by decide +kernel
theorem dX12_another_42 : decode cX12_another 42 = .ok (.aload_n 0, 1) := by decide +kernel
theorem dX12_another_43 : decode cX12_another 43 = .ok (.getfield 189, 3) := by decide +kernel
theorem dX12_another_46 : decode cX12_another 46 = .ok (.invokevirtual 72, 3) := by decide +kernel
theorem dX12_another_49 : decode cX12_another 49 = .ok (.ifCond .ne 9, 3) := by decide +kernel
theorem dX12_another_52 : decode cX12_another 52 = .ok (.aload_n 0, 1) := by decide +kernel
theorem dX12_another_53 : decode cX12_another 53 = .ok (.iconst 2, 1) := by decide +kernel
theorem dX12_another_54 : decode cX12_another 54 = .ok (.invokevirtual 198, 3) := by decide +kernel
theorem dX12_another_57 : decode cX12_another 57 = .ok (.ireturn, 1) := by decide +kernel
theorem dX12_another_58 : decode cX12_another 58 = .ok (.aload_n 0, 1) := by decide +kernel
theorem dX12_another_59 : decode cX12_another 59 = .ok (.getfield 28, 3) := by decide +kernel
theorem dX12_another_62 : decode cX12_another 62 = .ok (.iload_n 1, 1) := by decide +kernel
theorem dX12_another_63 : decode cX12_another 63 = .ok (.iconst 1, 1) := by decide +kernel
theorem dX12_another_64 : decode cX12_another 64 = .ok (.iadd, 1) := by decide +kernel
theorem dX12_another_65 : decode cX12_another 65 = .ok (.dup2, 1) := by decide +kernel
theorem dX12_another_66 : decode cX12_another 66 = .ok (.iaload, 1) := by decide +kernel
theorem dX12_another_67 : decode cX12_another 67 = .ok (.iconst 1, 1) := by decide +kernel
theorem dX12_another_68 : decode cX12_another 68 = .ok (.aload_n 0, 1) := by decide +kernel
theorem dX12_another_69 : decode cX12_another 69 = .ok (.getfield 189, 3) := by decide +kernel
theorem dX12_another_72 : decode cX12_another 72 = .ok (.ishl, 1) := by decide +kernel
theorem dX12_another_73 : decode cX12_another 73 = .ok (.ior, 1) := by decide +kernel
theorem dX12_another_74 : decode cX12_another 74 = .ok (.iastore, 1) := by decide +kernel
theorem dX12_another_75 : decode cX12_another 75 = .ok (.aload_n 0, 1) := by decide +kernel
theorem dX12_another_76 : decode cX12_another 76 = .ok (.invokevirtual 201, 3) := by decide +kernel
theorem dX12_another_79 : decode cX12_another 79 = .ok (.iconst 1, 1) := by decide +kernel
theorem dX12_another_80 : decode cX12_another 80 = .ok (.ireturn, 1) := by decide +kernel
theorem dX12_aHeed_0 : decode cX12_aHeed 0 = .ok (.iconst 2, 1) := by decide +kernel
theorem dX12_aHeed_1 : decode cX12_aHeed 1 = .ok (.aload_n 0, 1) := by decide +kernel
theorem dX12_aHeed_2 : decode cX12_aHeed 2 = .ok (.getfield 247, 3) := by decide +kernel
theorem dX12_aHeed_5 : decode cX12_aHeed 5 = .ok (.imul, 1) := by decide +kernel
theorem dX12_aHeed_6 : decode cX12_aHeed 6 = .ok (.istore_n 1, 1) := by decide +kernel
theorem dX12_aHeed_7 : decode cX12_aHeed 7 = .ok (.aload_n 0, 1) := by decide +kernel
theorem dX12_aHeed_8 : decode cX12_aHeed 8 = .ok (.iload_n 1, 1) := by decide +kernel
theorem dX12_aHeed_9 : decode cX12_aHeed 9 = .ok (.bipush 7, 2) := by decide +kernel
theorem dX12_aHeed_11 : decode cX12_aHeed 11 = .ok (.iconst 0, 1) := by decide +kernel
theorem dX12_aHeed_12 : decode cX12_aHeed 12 = .ok (.aload_n 0, 1) := by decide +kernel
theorem dX12_aHeed_13 : decode cX12_aHeed 13 = .ok (.getfield 7, 3) := by decide +kernel
theorem dX12_aHeed_16 : decode cX12_aHeed 16 = .ok (.bipush 86, 2) := by decide +kernel
theorem dX12_aHeed_18 : decode cX12_aHeed 18 = .ok (.iaload, 1) := by decide +kernel
theorem dX12_aHeed_19 : decode cX12_aHeed 19 = .ok (.iconst 1, 1) := by decide +kernel
theorem dX12_aHeed_20 : decode cX12_aHeed 20 = .ok (.isub, 1) := by decide +kernel
theorem dX12_aHeed_21 : decode cX12_aHeed 21 = .ok (.invokevirtual 250, 3) := by decide +kernel
theorem dX12_aHeed_24 : decode cX12_aHeed 24 = .ok (.ifCond .ne 5, 3) := by decide +kernel
theorem dX12_aHeed_27 : decode cX12_aHeed 27 = .ok (.iconst 0, 1) := by decide +kernel
theorem dX12_aHeed_28 : decode cX12_aHeed 28 = .ok (.ireturn, 1) := by decide +kernel
theorem dX12_aHeed_29 : decode cX12_aHeed 29 = .ok (.aload_n 0, 1) := by decide +kernel
theorem dX12_aHeed_30 : decode cX12_aHeed 30 = .ok (.getfield 28, 3) := by decide +kernel
theorem dX12_aHeed_33 : decode cX12_aHeed 33 = .ok (.iload_n 1, 1) := by decide +kernel
theorem dX12_aHeed_34 : decode cX12_aHeed 34 = .ok (.iconst 1, 1) := by decide +kernel
theorem dX12_aHeed_35 : decode cX12_aHeed 35 = .ok (.iadd, 1) := by decide +kernel
theorem dX12_aHeed_36 : decode cX12_aHeed 36 = .ok (.iconst 0, 1) := by decide +kernel
theorem dX12_aHeed_37 : decode cX12_aHeed 37 = .ok (.iastore, 1) := by decide +kernel
theorem dX12_aHeed_38 : decode cX12_aHeed 38 = .ok (.aload_n 0, 1) := by decide +kernel
theorem dX12_aHeed_39 : decode cX12_aHeed 39 = .ok (.bipush 8, 2) := by decide +kernel
theorem dX12_aHeed_41 : decode cX12_aHeed 41 = .ok (.invokevirtual 233, 3) := by decide +kernel
theorem dX12_aHeed_44 : decode cX12_aHeed 44 = .ok (.ifCond .eq 11, 3) := by decide +kernel
theorem dX12_aHeed_47 : decode cX12_aHeed 47 = .ok (.aload_n 0, 1) := by decide +kernel
theorem dX12_aHeed_48 : decode cX12_aHeed 48 = .ok (.iload_n 1, 1) := by decide +kernel
theorem dX12_aHeed_49 : decode cX12_aHeed 49 = .ok (.invokevirtual 254, 3) := by decide +kernel
theorem dX12_aHeed_52 : decode cX12_aHeed 52 = .ok (.ifCond .ne 5, 3) := by decide +kernel
theorem dX12_aHeed_55 : decode cX12_aHeed 55 = .ok (.iconst 0, 1) := by decide +kernel
theorem dX12_aHeed_56 : decode cX12_aHeed 56 = .ok (.ireturn, 1) := by decide +kernel
theorem dX12_aHeed_57 : decode cX12_aHeed 57 = .ok (.aload_n 0, 1) := by decide +kernel
theorem dX12_aHeed_58 : decode cX12_aHeed 58 = .ok (.getfield 177, 3) := by decide +kernel
theorem dX12_aHeed_61 : decode cX12_aHeed 61 = .ok (.iconst 5, 1) := by decide +kernel
theorem dX12_aHeed_62 : decode cX12_aHeed 62 = .ok (.if_icmp .ne 17, 3) := by decide +kernel
theorem dX12_aHeed_65 : decode cX12_aHeed 65 = .ok (.aload_n 0, 1) := by decide +kernel
theorem dX12_aHeed_66 : decode cX12_aHeed 66 = .ok (.invokevirtual 201, 3) := by decide +kernel
theorem dX12_aHeed_69 : decode cX12_aHeed 69 = .ok (.aload_n 0, 1) := by decide +kernel
theorem dX12_aHeed_70 : decode cX12_aHeed 70 = .ok (.iload_n 1, 1) := by decide +kernel
theorem dX12_aHeed_71 : decode cX12_aHeed 71 = .ok (.invokevirtual 254, 3) := by decide +kernel
theorem dX12_aHeed_74 : decode cX12_aHeed 74 = .ok (.ifCond .ne (-17), 3) := by decide +kernel
theorem dX12_aHeed_77 : decode cX12_aHeed 77 = .ok (.iconst 0, 1) := by decide +kernel
theorem dX12_aHeed_78 : decode cX12_aHeed 78 = .ok (.ireturn, 1) := by decide +kernel
theorem dX12_aHeed_79 : decode cX12_aHeed 79 = .ok (.iconst 1, 1) := by decide +kernel
theorem dX12_aHeed_80 : decode cX12_aHeed 80 = .ok (.ireturn, 1) := by decide +kernel
theorem dX12_aPlan_0 : decode cX12_aPlan 0 = .ok (.iconst 4, 1) := by decide +kernel
theorem dX12_aPlan_1 : decode cX12_aPlan 1 = .ok (.aload_n 0, 1) := by decide +kernel
theorem dX12_aPlan_2 : decode cX12_aPlan 2 = .ok (.getfield 247, 3) := by decide +kernel
theorem dX12_aPlan_5 : decode cX12_aPlan 5 = .ok (.imul, 1) := by decide +kernel
theorem dX12_aPlan_6 : decode cX12_aPlan 6 = .ok (.istore_n 1, 1) := by decide +kernel
theorem dX12_aPlan_7 : decode cX12_aPlan 7 = .ok (.aload_n 0, 1) := by decide +kernel
theorem dX12_aPlan_8 : decode cX12_aPlan 8 = .ok (.iload_n 1, 1) := by decide +kernel
theorem dX12_aPlan_9 : decode cX12_aPlan 9 = .ok (.bipush 9, 2) := by decide +kernel
theorem dX12_aPlan_11 : decode cX12_aPlan 11 = .ok (.iconst 0, 1) := by decide +kernel
theorem dX12_aPlan_12 : decode cX12_aPlan 12 = .ok (.sipush 999, 3) := by decide +kernel
theorem dX12_aPlan_15 : decode cX12_aPlan 15 = .ok (.invokevirtual 250, 3) := by decide +kernel
theorem dX12_aPlan_18 : decode cX12_aPlan 18 = .ok (.ifCond .ne 5, 3) := by decide +kernel
theorem dX12_aPlan_21 : decode cX12_aPlan 21 = .ok (.iconst 0, 1) := by decide +kernel
theorem dX12_aPlan_22 : decode cX12_aPlan 22 = .ok (.ireturn, 1) := by decide +kernel
theorem dX12_aPlan_23 : decode cX12_aPlan 23 = .ok (.aload_n 0, 1) := by decide +kernel
theorem dX12_aPlan_24 : decode cX12_aPlan 24 = .ok (.getfield 177, 3) := by decide +kernel
theorem dX12_aPlan_27 : decode cX12_aPlan 27 = .ok (.bipush 10, 2) := by decide +kernel
theorem dX12_aPlan_29 : decode cX12_aPlan 29 = .ok (.bipush 14, 2) := by decide +kernel
theorem dX12_aPlan_31 : decode cX12_aPlan 31 = .ok (.invokestatic 56, 3) := by decide +kernel
theorem dX12_aPlan_34 : decode cX12_aPlan 34 = .ok (.ifCond .ne 9, 3) := by decide +kernel
theorem dX12_aPlan_37 : decode cX12_aPlan 37 = .ok (.aload_n 0, 1) := by decide +kernel
theorem dX12_aPlan_38 : decode cX12_aPlan 38 = .ok (.iconst 1, 1) := by decide +kernel
theorem dX12_aPlan_39 : decode cX12_aPlan 39 = .ok (.invokevirtual 198, 3) := by decide +kernel
theorem dX12_aPlan_42 : decode cX12_aPlan 42 = .ok (.ireturn, 1) := by decide +kernel
theorem dX12_aPlan_43 : decode cX12_aPlan 43 = .ok (.aload_n 0, 1) := by decide +kernel
theorem dX12_aPlan_44 : decode cX12_aPlan 44 = .ok (.getfield 177, 3) := by decide +kernel
theorem dX12_aPlan_47 : decode cX12_aPlan 47 = .ok (.istore_n 2, 1) := by decide +kernel
theorem dX12_aPlan_48 : decode cX12_aPlan 48 = .ok (.aload_n 0, 1) := by decide +kernel
theorem dX12_aPlan_49 : decode cX12_aPlan 49 = .ok (.getfield 28, 3) := by decide +kernel
theorem dX12_aPlan_52 : decode cX12_aPlan 52 = .ok (.iload_n 1, 1) := by decide +kernel
theorem dX12_aPlan_53 : decode cX12_aPlan 53 = .ok (.iconst 1, 1) := by decide +kernel
theorem dX12_aPlan_54 : decode cX12_aPlan 54 = .ok (.iadd, 1) := by decide +kernel
theorem dX12_aPlan_55 : decode cX12_aPlan 55 = .ok (.iload_n 2, 1) := by decide +kernel
theorem dX12_aPlan_56 : decode cX12_aPlan 56 = .ok (.iastore, 1) := by decide +kernel
theorem dX12_aPlan_57 : decode cX12_aPlan 57 = .ok (.aload_n 0, 1) := by decide +kernel
theorem dX12_aPlan_58 : decode cX12_aPlan 58 = .ok (.getfield 28, 3) := by decide +kernel
theorem dX12_aPlan_61 : decode cX12_aPlan 61 = .ok (.iload_n 1, 1) := by decide +kernel
theorem dX12_aPlan_62 : decode cX12_aPlan 62 = .ok (.iconst 2, 1) := by decide +kernel
theorem dX12_aPlan_63 : decode cX12_aPlan 63 = .ok (.iadd, 1) := by decide +kernel
theorem dX12_aPlan_64 : decode cX12_aPlan 64 = .ok (.iconst 0, 1) := by decide +kernel
theorem dX12_aPlan_65 : decode cX12_aPlan 65 = .ok (.iastore, 1) := by decide +kernel
theorem dX12_aPlan_66 : decode cX12_aPlan 66 = .ok (.aload_n 0, 1) := by decide +kernel
theorem dX12_aPlan_67 : decode cX12_aPlan 67 = .ok (.getfield 28, 3) := by decide +kernel
theorem dX12_aPlan_70 : decode cX12_aPlan 70 = .ok (.iload_n 1, 1) := by decide +kernel
theorem dX12_aPlan_71 : decode cX12_aPlan 71 = .ok (.iconst 3, 1) := by decide +kernel
theorem dX12_aPlan_72 : decode cX12_aPlan 72 = .ok (.iadd, 1) := by decide +kernel
theorem dX12_aPlan_73 : decode cX12_aPlan 73 = .ok (.iconst 0, 1) := by decide +kernel
theorem dX12_aPlan_74 : decode cX12_aPlan 74 = .ok (.iastore, 1) := by decide +kernel
theorem dX12_aPlan_75 : decode cX12_aPlan 75 = .ok (.aload_n 0, 1) := by decide +kernel
theorem dX12_aPlan_76 : decode cX12_aPlan 76 = .ok (.invokevirtual 201, 3) := by decide +kernel
theorem dX12_aPlan_79 : decode cX12_aPlan 79 = .ok (.iload_n 2, 1) := by decide +kernel
theorem dX12_aPlan_80 : decode cX12_aPlan 80 = .ok (.bipush 13, 2) := by decide +kernel
theorem dX12_aPlan_82 : decode cX12_aPlan 82 = .ok (.if_icmp .ne 5, 3) := by decide +kernel
theorem dX12_aPlan_85 : decode cX12_aPlan 85 = .ok (.iconst 1, 1) := by decide +kernel
theorem dX12_aPlan_86 : decode cX12_aPlan 86 = .ok (.ireturn, 1) := by decide +kernel
theorem dX12_aPlan_87 : decode cX12_aPlan 87 = .ok (.aload_n 0, 1) := by decide +kernel
theorem dX12_aPlan_88 : decode cX12_aPlan 88 = .ok (.iload_n 1, 1) := by decide +kernel
theorem dX12_aPlan_89 : decode cX12_aPlan 89 = .ok (.iconst 2, 1) := by decide +kernel
theorem dX12_aPlan_90 : decode cX12_aPlan 90 = .ok (.iadd, 1) := by decide +kernel
theorem dX12_aPlan_91 : decode cX12_aPlan 91 = .ok (.iconst 0, 1) := by decide +kernel
theorem dX12_aPlan_92 : decode cX12_aPlan 92 = .ok (.iload_n 2, 1) := by decide +kernel
theorem dX12_aPlan_93 : decode cX12_aPlan 93 = .ok (.bipush 14, 2) := by decide +kernel
theorem dX12_aPlan_95 : decode cX12_aPlan 95 = .ok (.if_icmp .ne 8, 3) := by decide +kernel
theorem dX12_aPlan_98 : decode cX12_aPlan 98 = .ok (.bipush 9, 2) := by decide +kernel
theorem dX12_aPlan_100 : decode cX12_aPlan 100 = .ok (.goto 12, 3) := by decide +kernel
theorem dX12_aPlan_103 : decode cX12_aPlan 103 = .ok (.aload_n 0, 1) := by decide +kernel
theorem dX12_aPlan_104 : decode cX12_aPlan 104 = .ok (.getfield 7, 3) := by decide +kernel
theorem dX12_aPlan_107 : decode cX12_aPlan 107 = .ok (.bipush 87, 2) := by decide +kernel
theorem dX12_aPlan_109 : decode cX12_aPlan 109 = .ok (.iaload, 1) := by decide +kernel
theorem dX12_aPlan_110 : decode cX12_aPlan 110 = .ok (.iconst 1, 1) := by decide +kernel
theorem dX12_aPlan_111 : decode cX12_aPlan 111 = .ok (.isub, 1) := by decide +kernel
theorem dX12_aPlan_112 : decode cX12_aPlan 112 = .ok (.invokevirtual 244, 3) := by decide +kernel
theorem dX12_aPlan_115 : decode cX12_aPlan 115 = .ok (.ifCond .ne 5, 3) := by decide +kernel
theorem dX12_aPlan_118 : decode cX12_aPlan 118 = .ok (.iconst 0, 1) := by decide +kernel
theorem dX12_aPlan_119 : decode cX12_aPlan 119 = .ok (.ireturn, 1) := by decide +kernel
theorem dX12_aPlan_120 : decode cX12_aPlan 120 = .ok (.iload_n 2, 1) := by decide +kernel
theorem dX12_aPlan_121 : decode cX12_aPlan 121 = .ok (.bipush 14, 2) := by decide +kernel
theorem dX12_aPlan_123 : decode cX12_aPlan 123 = .ok (.if_icmp .eq 29, 3) := by decide +kernel
theorem dX12_aPlan_126 : decode cX12_aPlan 126 = .ok (.iload_n 2, 1) := by decide +kernel
theorem dX12_aPlan_127 : decode cX12_aPlan 127 = .ok (.bipush 11, 2) := by decide +kernel
theorem dX12_aPlan_129 : decode cX12_aPlan 129 = .ok (.if_icmp .eq 23, 3) := by decide +kernel
theorem dX12_aPlan_132 : decode cX12_aPlan 132 = .ok (.aload_n 0, 1) := by decide +kernel
theorem dX12_aPlan_133 : decode cX12_aPlan 133 = .ok (.iload_n 1, 1) := by decide +kernel
theorem dX12_aPlan_134 : decode cX12_aPlan 134 = .ok (.iconst 3, 1) := by decide +kernel
theorem dX12_aPlan_135 : decode cX12_aPlan 135 = .ok (.iadd, 1) := by decide +kernel
theorem dX12_aPlan_136 : decode cX12_aPlan 136 = .ok (.iconst 0, 1) := by decide +kernel
theorem dX12_aPlan_137 : decode cX12_aPlan 137 = .ok (.aload_n 0, 1) := by decide +kernel
theorem dX12_aPlan_138 : decode cX12_aPlan 138 = .ok (.getfield 7, 3) := by decide +kernel
theorem dX12_aPlan_141 : decode cX12_aPlan 141 = .ok (.bipush 86, 2) := by decide +kernel
theorem dX12_aPlan_143 : decode cX12_aPlan 143 = .ok (.iaload, 1) := by decide +kernel
theorem dX12_aPlan_144 : decode cX12_aPlan 144 = .ok (.iconst 1, 1) := by decide +kernel
theorem dX12_aPlan_145 : decode cX12_aPlan 145 = .ok (.isub, 1) := by decide +kernel
theorem dX12_aPlan_146 : decode cX12_aPlan 146 = .ok (.invokevirtual 244, 3) := by decide +kernel
theorem dX12_aPlan_149 : decode cX12_aPlan 149 = .ok (.ifCond .eq 7, 3) := by decide +kernel
theorem dX12_aPlan_152 : decode cX12_aPlan 152 = .ok (.iconst 1, 1) := by decide +kernel
theorem dX12_aPlan_153 : decode cX12_aPlan 153 = .ok (.goto 4, 3) := by decide +kernel
theorem dX12_aPlan_156 : decode cX12_aPlan 156 = .ok (.iconst 0, 1) := by decide +kernel
theorem dX12_aPlan_157 : decode cX12_aPlan 157 = .ok (.ireturn, 1) := by decide +kernel
theorem dX12_aPath_0 : decode cX12_aPath 0 = .ok (.iconst 3, 1) := by decide +kernel
theorem dX12_aPath_1 : decode cX12_aPath 1 = .ok (.aload_n 0, 1) := by decide +kernel
theorem dX12_aPath_2 : decode cX12_aPath 2 = .ok (.getfield 247, 3) := by decide +kernel
theorem dX12_aPath_5 : decode cX12_aPath 5 = .ok (.imul, 1) := by decide +kernel
theorem dX12_aPath_6 : decode cX12_aPath 6 = .ok (.istore_n 1, 1) := by decide +kernel
theorem dX12_aPath_7 : decode cX12_aPath 7 = .ok (.aload_n 0, 1) := by decide +kernel
theorem dX12_aPath_8 : decode cX12_aPath 8 = .ok (.iload_n 1, 1) := by decide +kernel
theorem dX12_aPath_9 : decode cX12_aPath 9 = .ok (.bipush 15, 2) := by decide +kernel
theorem dX12_aPath_11 : decode cX12_aPath 11 = .ok (.iconst 0, 1) := by decide +kernel
theorem dX12_aPath_12 : decode cX12_aPath 12 = .ok (.bipush 9, 2) := by decide +kernel
theorem dX12_aPath_14 : decode cX12_aPath 14 = .ok (.invokevirtual 250, 3) := by decide +kernel
theorem dX12_aPath_17 : decode cX12_aPath 17 = .ok (.ifCond .ne 5, 3) := by decide +kernel
theorem dX12_aPath_20 : decode cX12_aPath 20 = .ok (.iconst 0, 1) := by decide +kernel
theorem dX12_aPath_21 : decode cX12_aPath 21 = .ok (.ireturn, 1) := by decide +kernel
theorem dX12_aPath_22 : decode cX12_aPath 22 = .ok (.aload_n 0, 1) := by decide +kernel
theorem dX12_aPath_23 : decode cX12_aPath 23 = .ok (.getfield 177, 3) := by decide +kernel
theorem dX12_aPath_26 : decode cX12_aPath 26 = .ok (.iconst 2, 1) := by decide +kernel
theorem dX12_aPath_27 : decode cX12_aPath 27 = .ok (.if_icmp .ne 22, 3) := by decide +kernel
theorem dX12_aPath_30 : decode cX12_aPath 30 = .ok (.aload_n 0, 1) := by decide +kernel
theorem dX12_aPath_31 : decode cX12_aPath 31 = .ok (.getfield 189, 3) := by decide +kernel
theorem dX12_aPath_34 : decode cX12_aPath 34 = .ok (.aload_n 0, 1) := by decide +kernel
theorem dX12_aPath_35 : decode cX12_aPath 35 = .ok (.getfield 28, 3) := by decide +kernel
theorem dX12_aPath_38 : decode cX12_aPath 38 = .ok (.iload_n 1, 1) := by decide +kernel
theorem dX12_aPath_39 : decode cX12_aPath 39 = .ok (.iaload, 1) := by decide +kernel
theorem dX12_aPath_40 : decode cX12_aPath 40 = .ok (.if_icmp .ne 9, 3) := by decide +kernel
theorem dX12_aPath_43 : decode cX12_aPath 43 = .ok (.aload_n 0, 1) := by decide +kernel
theorem dX12_aPath_44 : decode cX12_aPath 44 = .ok (.iconst 2, 1) := by decide +kernel
theorem dX12_aPath_45 : decode cX12_aPath 45 = .ok (.invokevirtual 198, 3) := by decide +kernel
theorem dX12_aPath_48 : decode cX12_aPath 48 = .ok (.ireturn, 1) := by decide +kernel
theorem dX12_aPath_49 : decode cX12_aPath 49 = .ok (.aload_n 0, 1) := by decide +kernel
theorem dX12_aPath_50 : decode cX12_aPath 50 = .ok (.iload_n 1, 1) := by decide +kernel
theorem dX12_aPath_51 : decode cX12_aPath 51 = .ok (.iconst 1, 1) := by decide +kernel
theorem dX12_aPath_52 : decode cX12_aPath 52 = .ok (.iadd, 1) := by decide +kernel
theorem dX12_aPath_53 : decode cX12_aPath 53 = .ok (.iconst 0, 1) := by decide +kernel
theorem dX12_aPath_54 : decode cX12_aPath 54 = .ok (.bipush 9, 2) := by decide +kernel
theorem dX12_aPath_56 : decode cX12_aPath 56 = .ok (.invokevirtual 244, 3) := by decide +kernel
theorem dX12_aPath_59 : decode cX12_aPath 59 = .ok (.ifCond .eq 22, 3) := by decide +kernel
theorem dX12_aPath_62 : decode cX12_aPath 62 = .ok (.aload_n 0, 1) := by decide +kernel
theorem dX12_aPath_63 : decode cX12_aPath 63 = .ok (.iload_n 1, 1) := by decide +kernel
theorem dX12_aPath_64 : decode cX12_aPath 64 = .ok (.iconst 2, 1) := by decide +kernel
theorem dX12_aPath_65 : decode cX12_aPath 65 = .ok (.iadd, 1) := by decide +kernel
theorem dX12_aPath_66 : decode cX12_aPath 66 = .ok (.bipush 16, 2) := by decide +kernel
theorem dX12_aPath_68 : decode cX12_aPath 68 = .ok (.iconst 1, 1) := by decide +kernel
theorem dX12_aPath_69 : decode cX12_aPath 69 = .ok (.bipush 24, 2) := by decide +kernel
theorem dX12_aPath_71 : decode cX12_aPath 71 = .ok (.invokevirtual 250, 3) := by decide +kernel
theorem dX12_aPath_74 : decode cX12_aPath 74 = .ok (.ifCond .eq 7, 3) := by decide +kernel
theorem dX12_aPath_77 : decode cX12_aPath 77 = .ok (.iconst 1, 1) := by decide +kernel
theorem dX12_aPath_78 : decode cX12_aPath 78 = .ok (.goto 4, 3) := by decide +kernel
theorem dX12_aPath_81 : decode cX12_aPath 81 = .ok (.iconst 0, 1) := by decide +kernel
theorem dX12_aPath_82 : decode cX12_aPath 82 = .ok (.ireturn, 1) := by decide +kernel
theorem dX12_aLoad_0 : decode cX12_aLoad 0 = .ok (.aload_n 0, 1) := by decide +kernel
theorem dX12_aLoad_1 : decode cX12_aLoad 1 = .ok (.iconst 2, 1) := by decide +kernel
theorem dX12_aLoad_2 : decode cX12_aLoad 2 = .ok (.aload_n 0, 1) := by decide +kernel
theorem dX12_aLoad_3 : decode cX12_aLoad 3 = .ok (.getfield 247, 3) := by decide +kernel
theorem dX12_aLoad_6 : decode cX12_aLoad 6 = .ok (.imul, 1) := by decide +kernel
theorem dX12_aLoad_7 : decode cX12_aLoad 7 = .ok (.bipush 17, 2) := by decide +kernel
theorem dX12_aLoad_9 : decode cX12_aLoad 9 = .ok (.iconst 1, 1) := by decide +kernel
theorem dX12_aLoad_10 : decode cX12_aLoad 10 = .ok (.bipush 40, 2) := by decide +kernel
theorem dX12_aLoad_12 : decode cX12_aLoad 12 = .ok (.invokevirtual 250, 3) := by decide +kernel
theorem dX12_aLoad_15 : decode cX12_aLoad 15 = .ok (.ifCond .eq 27, 3) := by decide +kernel
theorem dX12_aLoad_18 : decode cX12_aLoad 18 = .ok (.aload_n 0, 1) := by decide +kernel
theorem dX12_aLoad_19 : decode cX12_aLoad 19 = .ok (.iconst 2, 1) := by decide +kernel
theorem dX12_aLoad_20 : decode cX12_aLoad 20 = .ok (.aload_n 0, 1) := by decide +kernel
theorem dX12_aLoad_21 : decode cX12_aLoad 21 = .ok (.getfield 247, 3) := by decide +kernel
theorem dX12_aLoad_24 : decode cX12_aLoad 24 = .ok (.imul, 1) := by decide +kernel
theorem dX12_aLoad_25 : decode cX12_aLoad 25 = .ok (.iconst 1, 1) := by decide +kernel
theorem dX12_aLoad_26 : decode cX12_aLoad 26 = .ok (.iadd, 1) := by decide +kernel
theorem dX12_aLoad_27 : decode cX12_aLoad 27 = .ok (.bipush 18, 2) := by decide +kernel
theorem dX12_aLoad_29 : decode cX12_aLoad 29 = .ok (.iconst 1, 1) := by decide +kernel
theorem dX12_aLoad_30 : decode cX12_aLoad 30 = .ok (.bipush 99, 2) := by decide +kernel
theorem dX12_aLoad_32 : decode cX12_aLoad 32 = .ok (.invokevirtual 250, 3) := by decide +kernel
theorem dX12_aLoad_35 : decode cX12_aLoad 35 = .ok (.ifCond .eq 7, 3) := by decide +kernel
theorem dX12_aLoad_38 : decode cX12_aLoad 38 = .ok (.iconst 1, 1) := by decide +kernel
theorem dX12_aLoad_39 : decode cX12_aLoad 39 = .ok (.goto 4, 3) := by decide +kernel
theorem dX12_aLoad_42 : decode cX12_aLoad 42 = .ok (.iconst 0, 1) := by decide +kernel
theorem dX12_aLoad_43 : decode cX12_aLoad 43 = .ok (.ireturn, 1) := by decide +kernel
theorem dX12_aRow_0 : decode cX12_aRow 0 = .ok (.aload_n 0, 1) := by decide +kernel
theorem dX12_aRow_1 : decode cX12_aRow 1 = .ok (.getfield 155, 3) := by decide +kernel
theorem dX12_aRow_4 : decode cX12_aRow 4 = .ok (.tableswitch 43 1 3 #[28, 33, 38], 28) := by decide +kernel
theorem dX12_aRow_32 : decode cX12_aRow 32 = .ok (.aload_n 0, 1) := by decide +kernel
theorem dX12_aRow_33 : decode cX12_aRow 33 = .ok (.invokevirtual 257, 3) := by decide +kernel
theorem dX12_aRow_36 : decode cX12_aRow 36 = .ok (.ireturn, 1) := by decide +kernel
theorem dX12_aRow_37 : decode cX12_aRow 37 = .ok (.aload_n 0, 1) := by decide +kernel
theorem dX12_aRow_38 : decode cX12_aRow 38 = .ok (.invokevirtual 260, 3) := by decide +kernel
theorem dX12_aRow_41 : decode cX12_aRow 41 = .ok (.ireturn, 1) := by decide +kernel
theorem dX12_aRow_42 : decode cX12_aRow 42 = .ok (.aload_n 0, 1) := by decide +kernel
theorem dX12_aRow_43 : decode cX12_aRow 43 = .ok (.invokevirtual 263, 3) := by decide +kernel
theorem dX12_aRow_46 : decode cX12_aRow 46 = .ok (.ireturn, 1) := by decide +kernel
theorem dX12_aRow_47 : decode cX12_aRow 47 = .ok (.aload_n 0, 1) := by decide +kernel
theorem dX12_aRow_48 : decode cX12_aRow 48 = .ok (.invokevirtual 266, 3) := by decide +kernel
theorem dX12_aRow_51 : decode cX12_aRow 51 = .ok (.ireturn, 1) := by decide +kernel
theorem dX12_readsRows_0 : decode cX12_readsRows 0 = .ok (.aload_n 0, 1) := by decide +kernel
theorem dX12_readsRows_1 : decode cX12_readsRows 1 = .ok (.iconst 0, 1) := by decide +kernel
theorem dX12_readsRows_2 : decode cX12_readsRows 2 = .ok (.putfield 247, 3) := by decide +kernel
theorem dX12_readsRows_5 : decode cX12_readsRows 5 = .ok (.aload_n 0, 1) := by decide +kernel
theorem dX12_readsRows_6 : decode cX12_readsRows 6 = .ok (.getfield 155, 3) := by decide +kernel
theorem dX12_readsRows_9 : decode cX12_readsRows 9 = .ok (.iconst 1, 1) := by decide +kernel
theorem dX12_readsRows_10 : decode cX12_readsRows 10 = .ok (.if_icmp .ne 8, 3) := by decide +kernel
theorem dX12_readsRows_13 : decode cX12_readsRows 13 = .ok (.bipush 7, 2) := by decide +kernel
theorem dX12_readsRows_15 : decode cX12_readsRows 15 = .ok (.goto 31, 3) := by decide +kernel
theorem dX12_readsRows_18 : decode cX12_readsRows 18 = .ok (.aload_n 0, 1) := by decide +kernel
theorem dX12_readsRows_19 : decode cX12_readsRows 19 = .ok (.getfield 155, 3) := by decide +kernel
theorem dX12_readsRows_22 : decode cX12_readsRows 22 = .ok (.iconst 2, 1) := by decide +kernel
theorem dX12_readsRows_23 : decode cX12_readsRows 23 = .ok (.if_icmp .ne 8, 3) := by decide +kernel
theorem dX12_readsRows_26 : decode cX12_readsRows 26 = .ok (.bipush 9, 2) := by decide +kernel
theorem dX12_readsRows_28 : decode cX12_readsRows 28 = .ok (.goto 18, 3) := by decide +kernel
theorem dX12_readsRows_31 : decode cX12_readsRows 31 = .ok (.aload_n 0, 1) := by decide +kernel
theorem dX12_readsRows_32 : decode cX12_readsRows 32 = .ok (.getfield 155, 3) := by decide +kernel
theorem dX12_readsRows_35 : decode cX12_readsRows 35 = .ok (.iconst 3, 1) := by decide +kernel
theorem dX12_readsRows_36 : decode cX12_readsRows 36 = .ok (.if_icmp .ne 8, 3) := by decide +kernel
theorem dX12_readsRows_39 : decode cX12_readsRows 39 = .ok (.bipush 15, 2) := by decide +kernel
theorem dX12_readsRows_41 : decode cX12_readsRows 41 = .ok (.goto 5, 3) := by decide +kernel
theorem dX12_readsRows_44 : decode cX12_readsRows 44 = .ok (.bipush 17, 2) := by decide +kernel
theorem dX12_readsRows_46 : decode cX12_readsRows 46 = .ok (.istore_n 1, 1) := by decide +kernel
theorem dX12_readsRows_47 : decode cX12_readsRows 47 = .ok (.iconst 1, 1) := by decide +kernel
theorem dX12_readsRows_48 : decode cX12_readsRows 48 = .ok (.istore_n 2, 1) := by decide +kernel
theorem dX12_readsRows_49 : decode cX12_readsRows 49 = .ok (.iload_n 2, 1) := by decide +kernel
theorem dX12_readsRows_50 : decode cX12_readsRows 50 = .ok (.ifCond .eq 96, 3) := by decide +kernel
theorem dX12_readsRows_53 : decode cX12_readsRows 53 = .ok (.aload_n 0, 1) := by decide +kernel
theorem dX12_readsRows_54 : decode cX12_readsRows 54 = .ok (.getfield 177, 3) := by decide +kernel
theorem dX12_readsRows_57 : decode cX12_readsRows 57 = .ok (.ifCond .eq 89, 3) := by decide +kernel
theorem dX12_readsRows_60 : decode cX12_readsRows 60 = .ok (.aload_n 0, 1) := by decide +kernel
theorem dX12_readsRows_61 : decode cX12_readsRows 61 = .ok (.getfield 177, 3) := by decide +kernel
theorem dX12_readsRows_64 : decode cX12_readsRows 64 = .ok (.iload_n 1, 1) := by decide +kernel
theorem dX12_readsRows_65 : decode cX12_readsRows 65 = .ok (.if_icmp .eq 9, 3) := by decide +kernel
theorem dX12_readsRows_68 : decode cX12_readsRows 68 = .ok (.aload_n 0, 1) := by decide +kernel
theorem dX12_readsRows_69 : decode cX12_readsRows 69 = .ok (.iconst 1, 1) := by decide +kernel
theorem dX12_readsRows_70 : decode cX12_readsRows 70 = .ok (.invokevirtual 198, 3) := by decide +kernel
theorem dX12_readsRows_73 : decode cX12_readsRows 73 = .ok (.ireturn, 1) := by decide +kernel
theorem dX12_readsRows_74 : decode cX12_readsRows 74 = .ok (.aload_n 0, 1) := by decide +kernel
theorem dX12_readsRows_75 : decode cX12_readsRows 75 = .ok (.getfield 247, 3) := by decide +kernel
theorem dX12_readsRows_78 : decode cX12_readsRows 78 = .ok (.aload_n 0, 1) := by decide +kernel
theorem dX12_readsRows_79 : decode cX12_readsRows 79 = .ok (.getfield 155, 3) := by decide +kernel
theorem dX12_readsRows_82 : decode cX12_readsRows 82 = .ok (.iconst 4, 1) := by decide +kernel
theorem dX12_readsRows_83 : decode cX12_readsRows 83 = .ok (.if_icmp .ne 8, 3) := by decide +kernel
theorem dX12_readsRows_86 : decode cX12_readsRows 86 = .ok (.bipush 8, 2) := by decide +kernel
theorem dX12_readsRows_88 : decode cX12_readsRows 88 = .ok (.goto 5, 3) := by decide +kernel
theorem dX12_readsRows_91 : decode cX12_readsRows 91 = .ok (.bipush 16, 2) := by decide +kernel
theorem dX12_readsRows_93 : decode cX12_readsRows 93 = .ok (.if_icmp .ne 9, 3) := by decide +kernel
theorem dX12_readsRows_96 : decode cX12_readsRows 96 = .ok (.aload_n 0, 1) := by decide +kernel
theorem dX12_readsRows_97 : decode cX12_readsRows 97 = .ok (.iconst 3, 1) := by decide +kernel
theorem dX12_readsRows_98 : decode cX12_readsRows 98 = .ok (.invokevirtual 198, 3) := by decide +kernel
theorem dX12_readsRows_101 : decode cX12_readsRows 101 = .ok (.ireturn, 1) := by decide +kernel
theorem dX12_readsRows_102 : decode cX12_readsRows 102 = .ok (.aload_n 0, 1) := by decide +kernel
theorem dX12_readsRows_103 : decode cX12_readsRows 103 = .ok (.invokevirtual 269, 3) := by decide +kernel
theorem dX12_readsRows_106 : decode cX12_readsRows 106 = .ok (.ifCond .eq 17, 3) := by decide +kernel
theorem dX12_readsRows_109 : decode cX12_readsRows 109 = .ok (.aload_n 0, 1) := by decide +kernel
theorem dX12_readsRows_110 : decode cX12_readsRows 110 = .ok (.sipush 159, 3) := by decide +kernel
theorem dX12_readsRows_113 : decode cX12_readsRows 113 = .ok (.invokevirtual 233, 3) := by decide +kernel
theorem dX12_readsRows_116 : decode cX12_readsRows 116 = .ok (.ifCond .eq 7, 3) := by decide +kernel
theorem dX12_readsRows_119 : decode cX12_readsRows 119 = .ok (.iconst 1, 1) := by decide +kernel
theorem dX12_readsRows_120 : decode cX12_readsRows 120 = .ok (.goto 4, 3) := by decide +kernel
theorem dX12_readsRows_123 : decode cX12_readsRows 123 = .ok (.iconst 0, 1) := by decide +kernel
theorem dX12_readsRows_124 : decode cX12_readsRows 124 = .ok (.istore_n 2, 1) := by decide +kernel
theorem dX12_readsRows_125 : decode cX12_readsRows 125 = .ok (.aload_n 0, 1) := by decide +kernel
theorem dX12_readsRows_126 : decode cX12_readsRows 126 = .ok (.dup, 1) := by decide +kernel
theorem dX12_readsRows_127 : decode cX12_readsRows 127 = .ok (.getfield 247, 3) := by decide +kernel
theorem dX12_readsRows_130 : decode cX12_readsRows 130 = .ok (.iload_n 2, 1) := by decide +kernel
theorem dX12_readsRows_131 : decode cX12_readsRows 131 = .ok (.ifCond .eq 7, 3) := by decide +kernel
theorem dX12_readsRows_134 : decode cX12_readsRows 134 = .ok (.iconst 1, 1) := by decide +kernel
theorem dX12_readsRows_135 : decode cX12_readsRows 135 = .ok (.goto 4, 3) := by decide +kernel
theorem dX12_readsRows_138 : decode cX12_readsRows 138 = .ok (.iconst 0, 1) := by decide +kernel
theorem dX12_readsRows_139 : decode cX12_readsRows 139 = .ok (.iadd, 1) := by decide +kernel
theorem dX12_readsRows_140 : decode cX12_readsRows 140 = .ok (.putfield 247, 3) := by decide +kernel
theorem dX12_readsRows_143 : decode cX12_readsRows 143 = .ok (.goto (-94), 3) := by decide +kernel
theorem dX12_readsRows_146 : decode cX12_readsRows 146 = .ok (.iload_n 2, 1) := by decide +kernel
theorem dX12_readsRows_147 : decode cX12_readsRows 147 = .ok (.ireturn, 1) := by decide +kernel
theorem dX12_putsLaw_0 : decode cX12_putsLaw 0 = .ok (.aload_n 0, 1) := by decide +kernel
theorem dX12_putsLaw_1 : decode cX12_putsLaw 1 = .ok (.getfield 7, 3) := by decide +kernel
theorem dX12_putsLaw_4 : decode cX12_putsLaw 4 = .ok (.bipush 89, 2) := by decide +kernel
theorem dX12_putsLaw_6 : decode cX12_putsLaw 6 = .ok (.aload_n 0, 1) := by decide +kernel
theorem dX12_putsLaw_7 : decode cX12_putsLaw 7 = .ok (.getfield 238, 3) := by decide +kernel
theorem dX12_putsLaw_10 : decode cX12_putsLaw 10 = .ok (.iastore, 1) := by decide +kernel
theorem dX12_putsLaw_11 : decode cX12_putsLaw 11 = .ok (.iconst 0, 1) := by decide +kernel
theorem dX12_putsLaw_12 : decode cX12_putsLaw 12 = .ok (.istore_n 1, 1) := by decide +kernel
theorem dX12_putsLaw_13 : decode cX12_putsLaw 13 = .ok (.iload_n 1, 1) := by decide +kernel
theorem dX12_putsLaw_14 : decode cX12_putsLaw 14 = .ok (.aload_n 0, 1) := by decide +kernel
theorem dX12_putsLaw_15 : decode cX12_putsLaw 15 = .ok (.getfield 238, 3) := by decide +kernel
theorem dX12_putsLaw_18 : decode cX12_putsLaw 18 = .ok (.if_icmp .ge 87, 3) := by decide +kernel
theorem dX12_putsLaw_21 : decode cX12_putsLaw 21 = .ok (.aload_n 0, 1) := by decide +kernel
theorem dX12_putsLaw_22 : decode cX12_putsLaw 22 = .ok (.getfield 7, 3) := by decide +kernel
theorem dX12_putsLaw_25 : decode cX12_putsLaw 25 = .ok (.sipush 905, 3) := by decide +kernel
theorem dX12_putsLaw_28 : decode cX12_putsLaw 28 = .ok (.iload_n 1, 1) := by decide +kernel
theorem dX12_putsLaw_29 : decode cX12_putsLaw 29 = .ok (.iadd, 1) := by decide +kernel
theorem dX12_putsLaw_30 : decode cX12_putsLaw 30 = .ok (.aload_n 0, 1) := by decide +kernel
theorem dX12_putsLaw_31 : decode cX12_putsLaw 31 = .ok (.getfield 22, 3) := by decide +kernel
theorem dX12_putsLaw_34 : decode cX12_putsLaw 34 = .ok (.iconst 4, 1) := by decide +kernel
theorem dX12_putsLaw_35 : decode cX12_putsLaw 35 = .ok (.iload_n 1, 1) := by decide +kernel
theorem dX12_putsLaw_36 : decode cX12_putsLaw 36 = .ok (.imul, 1) := by decide +kernel
theorem dX12_putsLaw_37 : decode cX12_putsLaw 37 = .ok (.iaload, 1) := by decide +kernel
theorem dX12_putsLaw_38 : decode cX12_putsLaw 38 = .ok (.iastore, 1) := by decide +kernel
theorem dX12_putsLaw_39 : decode cX12_putsLaw 39 = .ok (.aload_n 0, 1) := by decide +kernel
theorem dX12_putsLaw_40 : decode cX12_putsLaw 40 = .ok (.getfield 7, 3) := by decide +kernel
theorem dX12_putsLaw_43 : decode cX12_putsLaw 43 = .ok (.sipush 921, 3) := by decide +kernel
theorem dX12_putsLaw_46 : decode cX12_putsLaw 46 = .ok (.iload_n 1, 1) := by decide +kernel
theorem dX12_putsLaw_47 : decode cX12_putsLaw 47 = .ok (.iadd, 1) := by decide +kernel
theorem dX12_putsLaw_48 : decode cX12_putsLaw 48 = .ok (.aload_n 0, 1) := by decide +kernel
theorem dX12_putsLaw_49 : decode cX12_putsLaw 49 = .ok (.getfield 22, 3) := by decide +kernel
theorem dX12_putsLaw_52 : decode cX12_putsLaw 52 = .ok (.iconst 4, 1) := by decide +kernel
theorem dX12_putsLaw_53 : decode cX12_putsLaw 53 = .ok (.iload_n 1, 1) := by decide +kernel
theorem dX12_putsLaw_54 : decode cX12_putsLaw 54 = .ok (.imul, 1) := by decide +kernel
theorem dX12_putsLaw_55 : decode cX12_putsLaw 55 = .ok (.iconst 1, 1) := by decide +kernel
theorem dX12_putsLaw_56 : decode cX12_putsLaw 56 = .ok (.iadd, 1) := by decide +kernel
theorem dX12_putsLaw_57 : decode cX12_putsLaw 57 = .ok (.iaload, 1) := by decide +kernel
theorem dX12_putsLaw_58 : decode cX12_putsLaw 58 = .ok (.iastore, 1) := by decide +kernel
theorem dX12_putsLaw_59 : decode cX12_putsLaw 59 = .ok (.aload_n 0, 1) := by decide +kernel
theorem dX12_putsLaw_60 : decode cX12_putsLaw 60 = .ok (.getfield 7, 3) := by decide +kernel
theorem dX12_putsLaw_63 : decode cX12_putsLaw 63 = .ok (.sipush 937, 3) := by decide +kernel
theorem dX12_putsLaw_66 : decode cX12_putsLaw 66 = .ok (.iload_n 1, 1) := by decide +kernel
theorem dX12_putsLaw_67 : decode cX12_putsLaw 67 = .ok (.iadd, 1) := by decide +kernel
theorem dX12_putsLaw_68 : decode cX12_putsLaw 68 = .ok (.aload_n 0, 1) := by decide +kernel
theorem dX12_putsLaw_69 : decode cX12_putsLaw 69 = .ok (.getfield 22, 3) := by decide +kernel
theorem dX12_putsLaw_72 : decode cX12_putsLaw 72 = .ok (.iconst 4, 1) := by decide +kernel
theorem dX12_putsLaw_73 : decode cX12_putsLaw 73 = .ok (.iload_n 1, 1) := by decide +kernel
theorem dX12_putsLaw_74 : decode cX12_putsLaw 74 = .ok (.imul, 1) := by decide +kernel
theorem dX12_putsLaw_75 : decode cX12_putsLaw 75 = .ok (.iconst 2, 1) := by decide +kernel
theorem dX12_putsLaw_76 : decode cX12_putsLaw 76 = .ok (.iadd, 1) := by decide +kernel
theorem dX12_putsLaw_77 : decode cX12_putsLaw 77 = .ok (.iaload, 1) := by decide +kernel
theorem dX12_putsLaw_78 : decode cX12_putsLaw 78 = .ok (.iastore, 1) := by decide +kernel
theorem dX12_putsLaw_79 : decode cX12_putsLaw 79 = .ok (.aload_n 0, 1) := by decide +kernel
theorem dX12_putsLaw_80 : decode cX12_putsLaw 80 = .ok (.getfield 7, 3) := by decide +kernel
theorem dX12_putsLaw_83 : decode cX12_putsLaw 83 = .ok (.sipush 953, 3) := by decide +kernel
theorem dX12_putsLaw_86 : decode cX12_putsLaw 86 = .ok (.iload_n 1, 1) := by decide +kernel
theorem dX12_putsLaw_87 : decode cX12_putsLaw 87 = .ok (.iadd, 1) := by decide +kernel
theorem dX12_putsLaw_88 : decode cX12_putsLaw 88 = .ok (.aload_n 0, 1) := by decide +kernel
theorem dX12_putsLaw_89 : decode cX12_putsLaw 89 = .ok (.getfield 22, 3) := by decide +kernel
theorem dX12_putsLaw_92 : decode cX12_putsLaw 92 = .ok (.iconst 4, 1) := by decide +kernel
theorem dX12_putsLaw_93 : decode cX12_putsLaw 93 = .ok (.iload_n 1, 1) := by decide +kernel
theorem dX12_putsLaw_94 : decode cX12_putsLaw 94 = .ok (.imul, 1) := by decide +kernel
theorem dX12_putsLaw_95 : decode cX12_putsLaw 95 = .ok (.iconst 3, 1) := by decide +kernel
theorem dX12_putsLaw_96 : decode cX12_putsLaw 96 = .ok (.iadd, 1) := by decide +kernel
theorem dX12_putsLaw_97 : decode cX12_putsLaw 97 = .ok (.iaload, 1) := by decide +kernel
theorem dX12_putsLaw_98 : decode cX12_putsLaw 98 = .ok (.iastore, 1) := by decide +kernel
theorem dX12_putsLaw_99 : decode cX12_putsLaw 99 = .ok (.iinc 1 1, 3) := by decide +kernel
theorem dX12_putsLaw_102 : decode cX12_putsLaw 102 = .ok (.goto (-89), 3) := by decide +kernel
theorem dX12_putsLaw_105 : decode cX12_putsLaw 105 = .ok (.iconst 0, 1) := by decide +kernel
theorem dX12_putsLaw_106 : decode cX12_putsLaw 106 = .ok (.istore_n 1, 1) := by decide +kernel
theorem dX12_putsLaw_107 : decode cX12_putsLaw 107 = .ok (.iload_n 1, 1) := by decide +kernel
theorem dX12_putsLaw_108 : decode cX12_putsLaw 108 = .ok (.iconst 2, 1) := by decide +kernel
theorem dX12_putsLaw_109 : decode cX12_putsLaw 109 = .ok (.aload_n 0, 1) := by decide +kernel
theorem dX12_putsLaw_110 : decode cX12_putsLaw 110 = .ok (.getfield 204, 3) := by decide +kernel
theorem dX12_putsLaw_113 : decode cX12_putsLaw 113 = .ok (.imul, 1) := by decide +kernel
theorem dX12_putsLaw_114 : decode cX12_putsLaw 114 = .ok (.if_icmp .ge 25, 3) := by decide +kernel
theorem dX12_putsLaw_117 : decode cX12_putsLaw 117 = .ok (.aload_n 0, 1) := by decide +kernel
theorem dX12_putsLaw_118 : decode cX12_putsLaw 118 = .ok (.getfield 7, 3) := by decide +kernel
theorem dX12_putsLaw_121 : decode cX12_putsLaw 121 = .ok (.sipush 970, 3) := by decide +kernel
theorem dX12_putsLaw_124 : decode cX12_putsLaw 124 = .ok (.iload_n 1, 1) := by decide +kernel
theorem dX12_putsLaw_125 : decode cX12_putsLaw 125 = .ok (.iadd, 1) := by decide +kernel
theorem dX12_putsLaw_126 : decode cX12_putsLaw 126 = .ok (.aload_n 0, 1) := by decide +kernel
theorem dX12_putsLaw_127 : decode cX12_putsLaw 127 = .ok (.getfield 25, 3) := by decide +kernel
theorem dX12_putsLaw_130 : decode cX12_putsLaw 130 = .ok (.iload_n 1, 1) := by decide +kernel
theorem dX12_putsLaw_131 : decode cX12_putsLaw 131 = .ok (.iaload, 1) := by decide +kernel
theorem dX12_putsLaw_132 : decode cX12_putsLaw 132 = .ok (.iastore, 1) := by decide +kernel
theorem dX12_putsLaw_133 : decode cX12_putsLaw 133 = .ok (.iinc 1 1, 3) := by decide +kernel
theorem dX12_putsLaw_136 : decode cX12_putsLaw 136 = .ok (.goto (-29), 3) := by decide +kernel
theorem dX12_putsLaw_139 : decode cX12_putsLaw 139 = .ok (.aload_n 0, 1) := by decide +kernel
theorem dX12_putsLaw_140 : decode cX12_putsLaw 140 = .ok (.getfield 238, 3) := by decide +kernel
theorem dX12_putsLaw_143 : decode cX12_putsLaw 143 = .ok (.ireturn, 1) := by decide +kernel
theorem dX12_puts_0 : decode cX12_puts 0 = .ok (.aload_n 0, 1) := by decide +kernel
theorem dX12_puts_1 : decode cX12_puts 1 = .ok (.getfield 7, 3) := by decide +kernel
theorem dX12_puts_4 : decode cX12_puts 4 = .ok (.iload_n 1, 1) := by decide +kernel
theorem dX12_puts_5 : decode cX12_puts 5 = .ok (.aload_n 0, 1) := by decide +kernel
theorem dX12_puts_6 : decode cX12_puts 6 = .ok (.getfield 247, 3) := by decide +kernel
theorem dX12_puts_9 : decode cX12_puts 9 = .ok (.iastore, 1) := by decide +kernel
theorem dX12_puts_10 : decode cX12_puts 10 = .ok (.iconst 0, 1) := by decide +kernel
theorem dX12_puts_11 : decode cX12_puts 11 = .ok (.istore 4, 2) := by decide +kernel
theorem dX12_puts_13 : decode cX12_puts 13 = .ok (.iload 4, 2) := by decide +kernel
theorem dX12_puts_15 : decode cX12_puts 15 = .ok (.iload_n 3, 1) := by decide +kernel
theorem dX12_puts_16 : decode cX12_puts 16 = .ok (.aload_n 0, 1) := by decide +kernel
theorem dX12_puts_17 : decode cX12_puts 17 = .ok (.getfield 247, 3) := by decide +kernel
theorem dX12_puts_20 : decode cX12_puts 20 = .ok (.imul, 1) := by decide +kernel
theorem dX12_puts_21 : decode cX12_puts 21 = .ok (.if_icmp .ge 25, 3) := by decide +kernel
theorem dX12_puts_24 : decode cX12_puts 24 = .ok (.aload_n 0, 1) := by decide +kernel
theorem dX12_puts_25 : decode cX12_puts 25 = .ok (.getfield 7, 3) := by decide +kernel
theorem dX12_puts_28 : decode cX12_puts 28 = .ok (.iload_n 2, 1) := by decide +kernel
theorem dX12_puts_29 : decode cX12_puts 29 = .ok (.iload 4, 2) := by decide +kernel
theorem dX12_puts_31 : decode cX12_puts 31 = .ok (.iadd, 1) := by decide +kernel
theorem dX12_puts_32 : decode cX12_puts 32 = .ok (.aload_n 0, 1) := by decide +kernel
theorem dX12_puts_33 : decode cX12_puts 33 = .ok (.getfield 28, 3) := by decide +kernel
theorem dX12_puts_36 : decode cX12_puts 36 = .ok (.iload 4, 2) := by decide +kernel
theorem dX12_puts_38 : decode cX12_puts 38 = .ok (.iaload, 1) := by decide +kernel
theorem dX12_puts_39 : decode cX12_puts 39 = .ok (.iastore, 1) := by decide +kernel
theorem dX12_puts_40 : decode cX12_puts 40 = .ok (.iinc 4 1, 3) := by decide +kernel
theorem dX12_puts_43 : decode cX12_puts 43 = .ok (.goto (-30), 3) := by decide +kernel
theorem dX12_puts_46 : decode cX12_puts 46 = .ok (.aload_n 0, 1) := by decide +kernel
theorem dX12_puts_47 : decode cX12_puts 47 = .ok (.getfield 247, 3) := by decide +kernel
theorem dX12_puts_50 : decode cX12_puts 50 = .ok (.ireturn, 1) := by decide +kernel
theorem dX12_putsHeeds_0 : decode cX12_putsHeeds 0 = .ok (.aload_n 0, 1) := by decide +kernel
theorem dX12_putsHeeds_1 : decode cX12_putsHeeds 1 = .ok (.getfield 7, 3) := by decide +kernel
theorem dX12_putsHeeds_4 : decode cX12_putsHeeds 4 = .ok (.bipush 90, 2) := by decide +kernel
theorem dX12_putsHeeds_6 : decode cX12_putsHeeds 6 = .ok (.aload_n 0, 1) := by decide +kernel
theorem dX12_putsHeeds_7 : decode cX12_putsHeeds 7 = .ok (.getfield 247, 3) := by decide +kernel
theorem dX12_putsHeeds_10 : decode cX12_putsHeeds 10 = .ok (.iastore, 1) := by decide +kernel
theorem dX12_putsHeeds_11 : decode cX12_putsHeeds 11 = .ok (.iconst 0, 1) := by decide +kernel
theorem dX12_putsHeeds_12 : decode cX12_putsHeeds 12 = .ok (.istore_n 1, 1) := by decide +kernel
theorem dX12_putsHeeds_13 : decode cX12_putsHeeds 13 = .ok (.iload_n 1, 1) := by decide +kernel
theorem dX12_putsHeeds_14 : decode cX12_putsHeeds 14 = .ok (.bipush 12, 2) := by decide +kernel
theorem dX12_putsHeeds_16 : decode cX12_putsHeeds 16 = .ok (.if_icmp .ge 20, 3) := by decide +kernel
theorem dX12_putsHeeds_19 : decode cX12_putsHeeds 19 = .ok (.aload_n 0, 1) := by decide +kernel
theorem dX12_putsHeeds_20 : decode cX12_putsHeeds 20 = .ok (.getfield 7, 3) := by decide +kernel
theorem dX12_putsHeeds_23 : decode cX12_putsHeeds 23 = .ok (.sipush 129, 3) := by decide +kernel
theorem dX12_putsHeeds_26 : decode cX12_putsHeeds 26 = .ok (.iload_n 1, 1) := by decide +kernel
theorem dX12_putsHeeds_27 : decode cX12_putsHeeds 27 = .ok (.iadd, 1) := by decide +kernel
theorem dX12_putsHeeds_28 : decode cX12_putsHeeds 28 = .ok (.iconst 0, 1) := by decide +kernel
theorem dX12_putsHeeds_29 : decode cX12_putsHeeds 29 = .ok (.iastore, 1) := by decide +kernel
theorem dX12_putsHeeds_30 : decode cX12_putsHeeds 30 = .ok (.iinc 1 1, 3) := by decide +kernel
theorem dX12_putsHeeds_33 : decode cX12_putsHeeds 33 = .ok (.goto (-20), 3) := by decide +kernel
theorem dX12_putsHeeds_36 : decode cX12_putsHeeds 36 = .ok (.iconst 0, 1) := by decide +kernel
theorem dX12_putsHeeds_37 : decode cX12_putsHeeds 37 = .ok (.istore_n 1, 1) := by decide +kernel
theorem dX12_putsHeeds_38 : decode cX12_putsHeeds 38 = .ok (.iload_n 1, 1) := by decide +kernel
theorem dX12_putsHeeds_39 : decode cX12_putsHeeds 39 = .ok (.aload_n 0, 1) := by decide +kernel
theorem dX12_putsHeeds_40 : decode cX12_putsHeeds 40 = .ok (.getfield 247, 3) := by decide +kernel
theorem dX12_putsHeeds_43 : decode cX12_putsHeeds 43 = .ok (.if_icmp .ge 39, 3) := by decide +kernel
theorem dX12_putsHeeds_46 : decode cX12_putsHeeds 46 = .ok (.aload_n 0, 1) := by decide +kernel
theorem dX12_putsHeeds_47 : decode cX12_putsHeeds 47 = .ok (.getfield 7, 3) := by decide +kernel
theorem dX12_putsHeeds_50 : decode cX12_putsHeeds 50 = .ok (.sipush 129, 3) := by decide +kernel
theorem dX12_putsHeeds_53 : decode cX12_putsHeeds 53 = .ok (.aload_n 0, 1) := by decide +kernel
theorem dX12_putsHeeds_54 : decode cX12_putsHeeds 54 = .ok (.getfield 28, 3) := by decide +kernel
theorem dX12_putsHeeds_57 : decode cX12_putsHeeds 57 = .ok (.iconst 2, 1) := by decide +kernel
theorem dX12_putsHeeds_58 : decode cX12_putsHeeds 58 = .ok (.iload_n 1, 1) := by decide +kernel
theorem dX12_putsHeeds_59 : decode cX12_putsHeeds 59 = .ok (.imul, 1) := by decide +kernel
theorem dX12_putsHeeds_60 : decode cX12_putsHeeds 60 = .ok (.iaload, 1) := by decide +kernel
theorem dX12_putsHeeds_61 : decode cX12_putsHeeds 61 = .ok (.iadd, 1) := by decide +kernel
theorem dX12_putsHeeds_62 : decode cX12_putsHeeds 62 = .ok (.dup2, 1) := by decide +kernel
theorem dX12_putsHeeds_63 : decode cX12_putsHeeds 63 = .ok (.iaload, 1) := by decide +kernel
theorem dX12_putsHeeds_64 : decode cX12_putsHeeds 64 = .ok (.aload_n 0, 1) := by decide +kernel
theorem dX12_putsHeeds_65 : decode cX12_putsHeeds 65 = .ok (.getfield 28, 3) := by decide +kernel
theorem dX12_putsHeeds_68 : decode cX12_putsHeeds 68 = .ok (.iconst 2, 1) := by decide +kernel
theorem dX12_putsHeeds_69 : decode cX12_putsHeeds 69 = .ok (.iload_n 1, 1) := by decide +kernel
theorem dX12_putsHeeds_70 : decode cX12_putsHeeds 70 = .ok (.imul, 1) := by decide +kernel
theorem dX12_putsHeeds_71 : decode cX12_putsHeeds 71 = .ok (.iconst 1, 1) := by decide +kernel
theorem dX12_putsHeeds_72 : decode cX12_putsHeeds 72 = .ok (.iadd, 1) := by decide +kernel
theorem dX12_putsHeeds_73 : decode cX12_putsHeeds 73 = .ok (.iaload, 1) := by decide +kernel
theorem dX12_putsHeeds_74 : decode cX12_putsHeeds 74 = .ok (.ior, 1) := by decide +kernel
theorem dX12_putsHeeds_75 : decode cX12_putsHeeds 75 = .ok (.iastore, 1) := by decide +kernel
theorem dX12_putsHeeds_76 : decode cX12_putsHeeds 76 = .ok (.iinc 1 1, 3) := by decide +kernel
theorem dX12_putsHeeds_79 : decode cX12_putsHeeds 79 = .ok (.goto (-41), 3) := by decide +kernel
theorem dX12_putsHeeds_82 : decode cX12_putsHeeds 82 = .ok (.aload_n 0, 1) := by decide +kernel
theorem dX12_putsHeeds_83 : decode cX12_putsHeeds 83 = .ok (.getfield 247, 3) := by decide +kernel
theorem dX12_putsHeeds_86 : decode cX12_putsHeeds 86 = .ok (.ireturn, 1) := by decide +kernel
theorem dX12_putsText_0 : decode cX12_putsText 0 = .ok (.iload_n 1, 1) := by decide +kernel
theorem dX12_putsText_1 : decode cX12_putsText 1 = .ok (.ifCond .ne 8, 3) := by decide +kernel
theorem dX12_putsText_4 : decode cX12_putsText 4 = .ok (.aload_n 0, 1) := by decide +kernel
theorem dX12_putsText_5 : decode cX12_putsText 5 = .ok (.invokevirtual 272, 3) := by decide +kernel
theorem dX12_putsText_8 : decode cX12_putsText 8 = .ok (.ireturn, 1) := by decide +kernel
theorem dX12_putsText_9 : decode cX12_putsText 9 = .ok (.iload_n 1, 1) := by decide +kernel
theorem dX12_putsText_10 : decode cX12_putsText 10 = .ok (.iconst 4, 1) := by decide +kernel
theorem dX12_putsText_11 : decode cX12_putsText 11 = .ok (.if_icmp .ne 14, 3) := by decide +kernel
theorem dX12_putsText_14 : decode cX12_putsText 14 = .ok (.aload_n 0, 1) := by decide +kernel
theorem dX12_putsText_15 : decode cX12_putsText 15 = .ok (.bipush 93, 2) := by decide +kernel
theorem dX12_putsText_17 : decode cX12_putsText 17 = .ok (.sipush 253, 3) := by decide +kernel
theorem dX12_putsText_20 : decode cX12_putsText 20 = .ok (.iconst 2, 1) := by decide +kernel
theorem dX12_putsText_21 : decode cX12_putsText 21 = .ok (.invokevirtual 275, 3) := by decide +kernel
theorem dX12_putsText_24 : decode cX12_putsText 24 = .ok (.ireturn, 1) := by decide +kernel
theorem dX12_putsText_25 : decode cX12_putsText 25 = .ok (.aload_n 0, 1) := by decide +kernel
theorem dX12_putsText_26 : decode cX12_putsText 26 = .ok (.invokevirtual 63, 3) := by decide +kernel
theorem dX12_putsText_29 : decode cX12_putsText 29 = .ok (.iload_n 1, 1) := by decide +kernel
theorem dX12_putsText_30 : decode cX12_putsText 30 = .ok (.iconst 1, 1) := by decide +kernel
theorem dX12_putsText_31 : decode cX12_putsText 31 = .ok (.if_icmp .ne 10, 3) := by decide +kernel
theorem dX12_putsText_34 : decode cX12_putsText 34 = .ok (.aload_n 0, 1) := by decide +kernel
theorem dX12_putsText_35 : decode cX12_putsText 35 = .ok (.invokevirtual 279, 3) := by decide +kernel
theorem dX12_putsText_38 : decode cX12_putsText 38 = .ok (.goto 31, 3) := by decide +kernel
theorem dX12_putsText_41 : decode cX12_putsText 41 = .ok (.iload_n 1, 1) := by decide +kernel
theorem dX12_putsText_42 : decode cX12_putsText 42 = .ok (.iconst 2, 1) := by decide +kernel
theorem dX12_putsText_43 : decode cX12_putsText 43 = .ok (.if_icmp .ne 16, 3) := by decide +kernel
theorem dX12_putsText_46 : decode cX12_putsText 46 = .ok (.aload_n 0, 1) := by decide +kernel
theorem dX12_putsText_47 : decode cX12_putsText 47 = .ok (.bipush 91, 2) := by decide +kernel
theorem dX12_putsText_49 : decode cX12_putsText 49 = .ok (.sipush 141, 3) := by decide +kernel
theorem dX12_putsText_52 : decode cX12_putsText 52 = .ok (.iconst 4, 1) := by decide +kernel
theorem dX12_putsText_53 : decode cX12_putsText 53 = .ok (.invokevirtual 275, 3) := by decide +kernel
theorem dX12_putsText_56 : decode cX12_putsText 56 = .ok (.goto 13, 3) := by decide +kernel
theorem dX12_putsText_59 : decode cX12_putsText 59 = .ok (.aload_n 0, 1) := by decide +kernel
theorem dX12_putsText_60 : decode cX12_putsText 60 = .ok (.bipush 92, 2) := by decide +kernel
theorem dX12_putsText_62 : decode cX12_putsText 62 = .ok (.sipush 205, 3) := by decide +kernel
theorem dX12_putsText_65 : decode cX12_putsText 65 = .ok (.iconst 3, 1) := by decide +kernel
theorem dX12_putsText_66 : decode cX12_putsText 66 = .ok (.invokevirtual 275, 3) := by decide +kernel
theorem dX12_putsText_69 : decode cX12_putsText 69 = .ok (.ireturn, 1) := by decide +kernel
theorem dX12_text_0 : decode cX12_text 0 = .ok (.aload_n 0, 1) := by decide +kernel
theorem dX12_text_1 : decode cX12_text 1 = .ok (.iconst 0, 1) := by decide +kernel
theorem dX12_text_2 : decode cX12_text 2 = .ok (.putfield 282, 3) := by decide +kernel
theorem dX12_text_5 : decode cX12_text 5 = .ok (.aload_n 0, 1) := by decide +kernel
theorem dX12_text_6 : decode cX12_text 6 = .ok (.iconst (-1), 1) := by decide +kernel
theorem dX12_text_7 : decode cX12_text 7 = .ok (.putfield 40, 3) := by decide +kernel
theorem dX12_text_10 : decode cX12_text 10 = .ok (.iload_n 1, 1) := by decide +kernel
theorem dX12_text_11 : decode cX12_text 11 = .ok (.iconst 0, 1) := by decide +kernel
theorem dX12_text_12 : decode cX12_text 12 = .ok (.iconst 4, 1) := by decide +kernel
theorem dX12_text_13 : decode cX12_text 13 = .ok (.invokestatic 56, 3) := by decide +kernel
theorem dX12_text_16 : decode cX12_text 16 = .ok (.ifCond .ne 10, 3) := by decide +kernel
theorem dX12_text_19 : decode cX12_text 19 = .ok (.aload_n 0, 1) := by decide +kernel
theorem dX12_text_20 : decode cX12_text 20 = .ok (.iconst 0, 1) := by decide +kernel
theorem dX12_text_21 : decode cX12_text 21 = .ok (.putfield 81, 3) := by decide +kernel
theorem dX12_text_24 : decode cX12_text 24 = .ok (.iconst (-1), 1) := by decide +kernel
theorem dX12_text_25 : decode cX12_text 25 = .ok (.ireturn, 1) := by decide +kernel
theorem dX12_text_26 : decode cX12_text 26 = .ok (.aload_n 0, 1) := by decide +kernel
theorem dX12_text_27 : decode cX12_text 27 = .ok (.iconst 0, 1) := by decide +kernel
theorem dX12_text_28 : decode cX12_text 28 = .ok (.putfield 192, 3) := by decide +kernel
theorem dX12_text_31 : decode cX12_text 31 = .ok (.aload_n 0, 1) := by decide +kernel
theorem dX12_text_32 : decode cX12_text 32 = .ok (.iconst 0, 1) := by decide +kernel
theorem dX12_text_33 : decode cX12_text 33 = .ok (.putfield 84, 3) := by decide +kernel
theorem dX12_text_36 : decode cX12_text 36 = .ok (.aload_n 0, 1) := by decide +kernel
theorem dX12_text_37 : decode cX12_text 37 = .ok (.iload_n 1, 1) := by decide +kernel
theorem dX12_text_38 : decode cX12_text 38 = .ok (.putfield 155, 3) := by decide +kernel
theorem dX12_text_41 : decode cX12_text 41 = .ok (.aload_n 0, 1) := by decide +kernel
theorem dX12_text_42 : decode cX12_text 42 = .ok (.invokevirtual 201, 3) := by decide +kernel
theorem dX12_text_45 : decode cX12_text 45 = .ok (.iload_n 1, 1) := by decide +kernel
theorem dX12_text_46 : decode cX12_text 46 = .ok (.ifCond .ne 10, 3) := by decide +kernel
theorem dX12_text_49 : decode cX12_text 49 = .ok (.aload_n 0, 1) := by decide +kernel
theorem dX12_text_50 : decode cX12_text 50 = .ok (.invokevirtual 285, 3) := by decide +kernel
theorem dX12_text_53 : decode cX12_text 53 = .ok (.goto 7, 3) := by decide +kernel
theorem dX12_text_56 : decode cX12_text 56 = .ok (.aload_n 0, 1) := by decide +kernel
theorem dX12_text_57 : decode cX12_text 57 = .ok (.invokevirtual 288, 3) := by decide +kernel
theorem dX12_text_60 : decode cX12_text 60 = .ok (.istore_n 2, 1) := by decide +kernel
theorem dX12_text_61 : decode cX12_text 61 = .ok (.aload_n 0, 1) := by decide +kernel
theorem dX12_text_62 : decode cX12_text 62 = .ok (.iconst 0, 1) := by decide +kernel
theorem dX12_text_63 : decode cX12_text 63 = .ok (.putfield 81, 3) := by decide +kernel
theorem dX12_text_66 : decode cX12_text 66 = .ok (.iload_n 2, 1) := by decide +kernel
theorem dX12_text_67 : decode cX12_text 67 = .ok (.ifCond .eq 9, 3) := by decide +kernel
theorem dX12_text_70 : decode cX12_text 70 = .ok (.aload_n 0, 1) := by decide +kernel
theorem dX12_text_71 : decode cX12_text 71 = .ok (.iload_n 1, 1) := by decide +kernel
theorem dX12_text_72 : decode cX12_text 72 = .ok (.invokevirtual 291, 3) := by decide +kernel
theorem dX12_text_75 : decode cX12_text 75 = .ok (.ireturn, 1) := by decide +kernel
theorem dX12_text_76 : decode cX12_text 76 = .ok (.aload_n 0, 1) := by decide +kernel
theorem dX12_text_77 : decode cX12_text 77 = .ok (.aload_n 0, 1) := by decide +kernel
theorem dX12_text_78 : decode cX12_text 78 = .ok (.getfield 192, 3) := by decide +kernel
theorem dX12_text_81 : decode cX12_text 81 = .ok (.putfield 282, 3) := by decide +kernel
theorem dX12_text_84 : decode cX12_text 84 = .ok (.aload_n 0, 1) := by decide +kernel
theorem dX12_text_85 : decode cX12_text 85 = .ok (.aload_n 0, 1) := by decide +kernel
theorem dX12_text_86 : decode cX12_text 86 = .ok (.getfield 195, 3) := by decide +kernel
theorem dX12_text_89 : decode cX12_text 89 = .ok (.putfield 40, 3) := by decide +kernel
theorem dX12_text_92 : decode cX12_text 92 = .ok (.iconst (-1), 1) := by decide +kernel
theorem dX12_text_93 : decode cX12_text 93 = .ok (.ireturn, 1) := by decide +kernel
theorem dX12_fault_0 : decode cX12_fault 0 = .ok (.iload_n 1, 1) := by decide +kernel
theorem dX12_fault_1 : decode cX12_fault 1 = .ok (.ifCond .ne 10, 3) := by decide +kernel
theorem dX12_fault_4 : decode cX12_fault 4 = .ok (.aload_n 0, 1) := by decide +kernel
theorem dX12_fault_5 : decode cX12_fault 5 = .ok (.getfield 282, 3) := by decide +kernel
theorem dX12_fault_8 : decode cX12_fault 8 = .ok (.goto 16, 3) := by decide +kernel
theorem dX12_fault_11 : decode cX12_fault 11 = .ok (.iload_n 1, 1) := by decide +kernel
theorem dX12_fault_12 : decode cX12_fault 12 = .ok (.iconst 1, 1) := by decide +kernel
theorem dX12_fault_13 : decode cX12_fault 13 = .ok (.if_icmp .ne 10, 3) := by decide +kernel
theorem dX12_fault_16 : decode cX12_fault 16 = .ok (.aload_n 0, 1) := by decide +kernel
theorem dX12_fault_17 : decode cX12_fault 17 = .ok (.getfield 40, 3) := by decide +kernel
theorem dX12_fault_20 : decode cX12_fault 20 = .ok (.goto 4, 3) := by decide +kernel
theorem dX12_fault_23 : decode cX12_fault 23 = .ok (.iconst (-1), 1) := by decide +kernel
theorem dX12_fault_24 : decode cX12_fault 24 = .ok (.ireturn, 1) := by decide +kernel
theorem dX12_both_0 : decode cX12_both 0 = .ok (.iload_n 0, 1) := by decide +kernel
theorem dX12_both_1 : decode cX12_both 1 = .ok (.tableswitch 100 23 31 #[51, 55, 59, 100, 63, 74, 85, 100, 96], 51) := by decide +kernel
theorem dX12_both_52 : decode cX12_both 52 = .ok (.iload_n 1, 1) := by decide +kernel
theorem dX12_both_53 : decode cX12_both 53 = .ok (.iload_n 2, 1) := by decide +kernel
theorem dX12_both_54 : decode cX12_both 54 = .ok (.iadd, 1) := by decide +kernel
theorem dX12_both_55 : decode cX12_both 55 = .ok (.ireturn, 1) := by decide +kernel
theorem dX12_both_56 : decode cX12_both 56 = .ok (.iload_n 1, 1) := by decide +kernel
theorem dX12_both_57 : decode cX12_both 57 = .ok (.iload_n 2, 1) := by decide +kernel
theorem dX12_both_58 : decode cX12_both 58 = .ok (.isub, 1) := by decide +kernel
theorem dX12_both_59 : decode cX12_both 59 = .ok (.ireturn, 1) := by decide +kernel
theorem dX12_both_60 : decode cX12_both 60 = .ok (.iload_n 1, 1) := by decide +kernel
theorem dX12_both_61 : decode cX12_both 61 = .ok (.iload_n 2, 1) := by decide +kernel
theorem dX12_both_62 : decode cX12_both 62 = .ok (.imul, 1) := by decide +kernel
theorem dX12_both_63 : decode cX12_both 63 = .ok (.ireturn, 1) := by decide +kernel
theorem dX12_both_64 : decode cX12_both 64 = .ok (.iload_n 1, 1) := by decide +kernel
theorem dX12_both_65 : decode cX12_both 65 = .ok (.iload_n 2, 1) := by decide +kernel
theorem dX12_both_66 : decode cX12_both 66 = .ok (.if_icmp .ge 7, 3) := by decide +kernel
theorem dX12_both_69 : decode cX12_both 69 = .ok (.iconst 1, 1) := by decide +kernel
theorem dX12_both_70 : decode cX12_both 70 = .ok (.goto 4, 3) := by decide +kernel
theorem dX12_both_73 : decode cX12_both 73 = .ok (.iconst 0, 1) := by decide +kernel
theorem dX12_both_74 : decode cX12_both 74 = .ok (.ireturn, 1) := by decide +kernel
theorem dX12_both_75 : decode cX12_both 75 = .ok (.iload_n 1, 1) := by decide +kernel
theorem dX12_both_76 : decode cX12_both 76 = .ok (.iload_n 2, 1) := by decide +kernel
theorem dX12_both_77 : decode cX12_both 77 = .ok (.if_icmp .ne 7, 3) := by decide +kernel
theorem dX12_both_80 : decode cX12_both 80 = .ok (.iconst 1, 1) := by decide +kernel
theorem dX12_both_81 : decode cX12_both 81 = .ok (.goto 4, 3) := by decide +kernel
theorem dX12_both_84 : decode cX12_both 84 = .ok (.iconst 0, 1) := by decide +kernel
theorem dX12_both_85 : decode cX12_both 85 = .ok (.ireturn, 1) := by decide +kernel
theorem dX12_both_86 : decode cX12_both 86 = .ok (.iload_n 1, 1) := by decide +kernel
theorem dX12_both_87 : decode cX12_both 87 = .ok (.iload_n 2, 1) := by decide +kernel
theorem dX12_both_88 : decode cX12_both 88 = .ok (.if_icmp .le 7, 3) := by decide +kernel
theorem dX12_both_91 : decode cX12_both 91 = .ok (.iconst 1, 1) := by decide +kernel
theorem dX12_both_92 : decode cX12_both 92 = .ok (.goto 4, 3) := by decide +kernel
theorem dX12_both_95 : decode cX12_both 95 = .ok (.iconst 0, 1) := by decide +kernel
theorem dX12_both_96 : decode cX12_both 96 = .ok (.ireturn, 1) := by decide +kernel
theorem dX12_both_97 : decode cX12_both 97 = .ok (.iload_n 1, 1) := by decide +kernel
theorem dX12_both_98 : decode cX12_both 98 = .ok (.iload_n 2, 1) := by decide +kernel
theorem dX12_both_99 : decode cX12_both 99 = .ok (.iand, 1) := by decide +kernel
theorem dX12_both_100 : decode cX12_both 100 = .ok (.ireturn, 1) := by decide +kernel
theorem dX12_both_101 : decode cX12_both 101 = .ok (.iload_n 1, 1) := by decide +kernel
theorem dX12_both_102 : decode cX12_both 102 = .ok (.iload_n 2, 1) := by decide +kernel
theorem dX12_both_103 : decode cX12_both 103 = .ok (.ior, 1) := by decide +kernel
theorem dX12_both_104 : decode cX12_both 104 = .ok (.ireturn, 1) := by decide +kernel
theorem dX12_comesTo_0 : decode cX12_comesTo 0 = .ok (.iconst 0, 1) := by decide +kernel
theorem dX12_comesTo_1 : decode cX12_comesTo 1 = .ok (.istore 4, 2) := by decide +kernel
theorem dX12_comesTo_3 : decode cX12_comesTo 3 = .ok (.iload_n 2, 1) := by decide +kernel
theorem dX12_comesTo_4 : decode cX12_comesTo 4 = .ok (.istore 5, 2) := by decide +kernel
theorem dX12_comesTo_6 : decode cX12_comesTo 6 = .ok (.iload 5, 2) := by decide +kernel
theorem dX12_comesTo_8 : decode cX12_comesTo 8 = .ok (.iload_n 3, 1) := by decide +kernel
theorem dX12_comesTo_9 : decode cX12_comesTo 9 = .ok (.if_icmp .ge 177, 3) := by decide +kernel
theorem dX12_comesTo_12 : decode cX12_comesTo 12 = .ok (.aload_n 0, 1) := by decide +kernel
theorem dX12_comesTo_13 : decode cX12_comesTo 13 = .ok (.getfield 7, 3) := by decide +kernel
theorem dX12_comesTo_16 : decode cX12_comesTo 16 = .ok (.sipush 970, 3) := by decide +kernel
theorem dX12_comesTo_19 : decode cX12_comesTo 19 = .ok (.sipush 820, 3) := by decide +kernel
theorem dX12_comesTo_22 : decode cX12_comesTo 22 = .ok (.iload_n 1, 1) := by decide +kernel
theorem dX12_comesTo_23 : decode cX12_comesTo 23 = .ok (.imul, 1) := by decide +kernel
theorem dX12_comesTo_24 : decode cX12_comesTo 24 = .ok (.iadd, 1) := by decide +kernel
theorem dX12_comesTo_25 : decode cX12_comesTo 25 = .ok (.iconst 2, 1) := by decide +kernel
theorem dX12_comesTo_26 : decode cX12_comesTo 26 = .ok (.iload 5, 2) := by decide +kernel
theorem dX12_comesTo_28 : decode cX12_comesTo 28 = .ok (.imul, 1) := by decide +kernel
theorem dX12_comesTo_29 : decode cX12_comesTo 29 = .ok (.iadd, 1) := by decide +kernel
theorem dX12_comesTo_30 : decode cX12_comesTo 30 = .ok (.iaload, 1) := by decide +kernel
theorem dX12_comesTo_31 : decode cX12_comesTo 31 = .ok (.istore 6, 2) := by decide +kernel
theorem dX12_comesTo_33 : decode cX12_comesTo 33 = .ok (.aload_n 0, 1) := by decide +kernel
theorem dX12_comesTo_34 : decode cX12_comesTo 34 = .ok (.getfield 7, 3) := by decide +kernel
theorem dX12_comesTo_37 : decode cX12_comesTo 37 = .ok (.sipush 970, 3) := by decide +kernel
theorem dX12_comesTo_40 : decode cX12_comesTo 40 = .ok (.sipush 820, 3) := by decide +kernel
theorem dX12_comesTo_43 : decode cX12_comesTo 43 = .ok (.iload_n 1, 1) := by decide +kernel
theorem dX12_comesTo_44 : decode cX12_comesTo 44 = .ok (.imul, 1) := by decide +kernel
theorem dX12_comesTo_45 : decode cX12_comesTo 45 = .ok (.iadd, 1) := by decide +kernel
theorem dX12_comesTo_46 : decode cX12_comesTo 46 = .ok (.iconst 2, 1) := by decide +kernel
theorem dX12_comesTo_47 : decode cX12_comesTo 47 = .ok (.iload 5, 2) := by decide +kernel
theorem dX12_comesTo_49 : decode cX12_comesTo 49 = .ok (.imul, 1) := by decide +kernel
theorem dX12_comesTo_50 : decode cX12_comesTo 50 = .ok (.iadd, 1) := by decide +kernel
theorem dX12_comesTo_51 : decode cX12_comesTo 51 = .ok (.iconst 1, 1) := by decide +kernel
theorem dX12_comesTo_52 : decode cX12_comesTo 52 = .ok (.iadd, 1) := by decide +kernel
theorem dX12_comesTo_53 : decode cX12_comesTo 53 = .ok (.iaload, 1) := by decide +kernel
theorem dX12_comesTo_54 : decode cX12_comesTo 54 = .ok (.istore 7, 2) := by decide +kernel
theorem dX12_comesTo_56 : decode cX12_comesTo 56 = .ok (.iload 6, 2) := by decide +kernel
theorem dX12_comesTo_58 : decode cX12_comesTo 58 = .ok (.bipush 23, 2) := by decide +kernel
theorem dX12_comesTo_60 : decode cX12_comesTo 60 = .ok (.if_icmp .ge 33, 3) := by decide +kernel
theorem dX12_comesTo_63 : decode cX12_comesTo 63 = .ok (.aload_n 0, 1) := by decide +kernel
theorem dX12_comesTo_64 : decode cX12_comesTo 64 = .ok (.getfield 34, 3) := by decide +kernel
theorem dX12_comesTo_67 : decode cX12_comesTo 67 = .ok (.iload 4, 2) := by decide +kernel
theorem dX12_comesTo_69 : decode cX12_comesTo 69 = .ok (.iload 6, 2) := by decide +kernel
theorem dX12_comesTo_71 : decode cX12_comesTo 71 = .ok (.ifCond .ne 8, 3) := by decide +kernel
theorem dX12_comesTo_74 : decode cX12_comesTo 74 = .ok (.iload 7, 2) := by decide +kernel
theorem dX12_comesTo_76 : decode cX12_comesTo 76 = .ok (.goto 10, 3) := by decide +kernel
theorem dX12_comesTo_79 : decode cX12_comesTo 79 = .ok (.aload_n 0, 1) := by decide +kernel
theorem dX12_comesTo_80 : decode cX12_comesTo 80 = .ok (.getfield 37, 3) := by decide +kernel
theorem dX12_comesTo_83 : decode cX12_comesTo 83 = .ok (.iload 6, 2) := by decide +kernel
theorem dX12_comesTo_85 : decode cX12_comesTo 85 = .ok (.iaload, 1) := by decide +kernel
theorem dX12_comesTo_86 : decode cX12_comesTo 86 = .ok (.iastore, 1) := by decide +kernel
theorem dX12_comesTo_87 : decode cX12_comesTo 87 = .ok (.iinc 4 1, 3) := by decide +kernel
theorem dX12_comesTo_90 : decode cX12_comesTo 90 = .ok (.goto 90, 3) := by decide +kernel
theorem dX12_comesTo_93 : decode cX12_comesTo 93 = .ok (.iload 6, 2) := by decide +kernel
theorem dX12_comesTo_95 : decode cX12_comesTo 95 = .ok (.bipush 26, 2) := by decide +kernel
theorem dX12_comesTo_97 : decode cX12_comesTo 97 = .ok (.if_icmp .ne 20, 3) := by decide +kernel
theorem dX12_comesTo_100 : decode cX12_comesTo 100 = .ok (.aload_n 0, 1) := by decide +kernel
theorem dX12_comesTo_101 : decode cX12_comesTo 101 = .ok (.getfield 34, 3) := by decide +kernel
theorem dX12_comesTo_104 : decode cX12_comesTo 104 = .ok (.iload 4, 2) := by decide +kernel
theorem dX12_comesTo_106 : decode cX12_comesTo 106 = .ok (.iconst 1, 1) := by decide +kernel
theorem dX12_comesTo_107 : decode cX12_comesTo 107 = .ok (.isub, 1) := by decide +kernel
theorem dX12_comesTo_108 : decode cX12_comesTo 108 = .ok (.dup2, 1) := by decide +kernel
theorem dX12_comesTo_109 : decode cX12_comesTo 109 = .ok (.iaload, 1) := by decide +kernel
theorem dX12_comesTo_110 : decode cX12_comesTo 110 = .ok (.iload 7, 2) := by decide +kernel
theorem dX12_comesTo_112 : decode cX12_comesTo 112 = .ok (.idiv, 1) := by decide +kernel
theorem dX12_comesTo_113 : decode cX12_comesTo 113 = .ok (.iastore, 1) := by decide +kernel
theorem dX12_comesTo_114 : decode cX12_comesTo 114 = .ok (.goto 66, 3) := by decide +kernel
theorem dX12_comesTo_117 : decode cX12_comesTo 117 = .ok (.iload 6, 2) := by decide +kernel
theorem dX12_comesTo_119 : decode cX12_comesTo 119 = .ok (.bipush 30, 2) := by decide +kernel
theorem dX12_comesTo_121 : decode cX12_comesTo 121 = .ok (.if_icmp .ne 26, 3) := by decide +kernel
theorem dX12_comesTo_124 : decode cX12_comesTo 124 = .ok (.aload_n 0, 1) := by decide +kernel
theorem dX12_comesTo_125 : decode cX12_comesTo 125 = .ok (.getfield 34, 3) := by decide +kernel
theorem dX12_comesTo_128 : decode cX12_comesTo 128 = .ok (.iload 4, 2) := by decide +kernel
theorem dX12_comesTo_130 : decode cX12_comesTo 130 = .ok (.iconst 1, 1) := by decide +kernel
theorem dX12_comesTo_131 : decode cX12_comesTo 131 = .ok (.isub, 1) := by decide +kernel
theorem dX12_comesTo_132 : decode cX12_comesTo 132 = .ok (.iconst 1, 1) := by decide +kernel
theorem dX12_comesTo_133 : decode cX12_comesTo 133 = .ok (.aload_n 0, 1) := by decide +kernel
theorem dX12_comesTo_134 : decode cX12_comesTo 134 = .ok (.getfield 34, 3) := by decide +kernel
theorem dX12_comesTo_137 : decode cX12_comesTo 137 = .ok (.iload 4, 2) := by decide +kernel
theorem dX12_comesTo_139 : decode cX12_comesTo 139 = .ok (.iconst 1, 1) := by decide +kernel
theorem dX12_comesTo_140 : decode cX12_comesTo 140 = .ok (.isub, 1) := by decide +kernel
theorem dX12_comesTo_141 : decode cX12_comesTo 141 = .ok (.iaload, 1) := by decide +kernel
theorem dX12_comesTo_142 : decode cX12_comesTo 142 = .ok (.isub, 1) := by decide +kernel
theorem dX12_comesTo_143 : decode cX12_comesTo 143 = .ok (.iastore, 1) := by decide +kernel
theorem dX12_comesTo_144 : decode cX12_comesTo 144 = .ok (.goto 36, 3) := by decide +kernel
theorem dX12_comesTo_147 : decode cX12_comesTo 147 = .ok (.iinc 4 (-1), 3) := by decide +kernel
theorem dX12_comesTo_150 : decode cX12_comesTo 150 = .ok (.aload_n 0, 1) := by decide +kernel
theorem dX12_comesTo_151 : decode cX12_comesTo 151 = .ok (.getfield 34, 3) := by decide +kernel
theorem dX12_comesTo_154 : decode cX12_comesTo 154 = .ok (.iload 4, 2) := by decide +kernel
theorem dX12_comesTo_156 : decode cX12_comesTo 156 = .ok (.iconst 1, 1) := by decide +kernel
theorem dX12_comesTo_157 : decode cX12_comesTo 157 = .ok (.isub, 1) := by decide +kernel
theorem dX12_comesTo_158 : decode cX12_comesTo 158 = .ok (.iload 6, 2) := by decide +kernel
theorem dX12_comesTo_160 : decode cX12_comesTo 160 = .ok (.aload_n 0, 1) := by decide +kernel
theorem dX12_comesTo_161 : decode cX12_comesTo 161 = .ok (.getfield 34, 3) := by decide +kernel
theorem dX12_comesTo_164 : decode cX12_comesTo 164 = .ok (.iload 4, 2) := by decide +kernel
theorem dX12_comesTo_166 : decode cX12_comesTo 166 = .ok (.iconst 1, 1) := by decide +kernel
theorem dX12_comesTo_167 : decode cX12_comesTo 167 = .ok (.isub, 1) := by decide +kernel
theorem dX12_comesTo_168 : decode cX12_comesTo 168 = .ok (.iaload, 1) := by decide +kernel
theorem dX12_comesTo_169 : decode cX12_comesTo 169 = .ok (.aload_n 0, 1) := by decide +kernel
theorem dX12_comesTo_170 : decode cX12_comesTo 170 = .ok (.getfield 34, 3) := by decide +kernel
theorem dX12_comesTo_173 : decode cX12_comesTo 173 = .ok (.iload 4, 2) := by decide +kernel
theorem dX12_comesTo_175 : decode cX12_comesTo 175 = .ok (.iaload, 1) := by decide +kernel
theorem dX12_comesTo_176 : decode cX12_comesTo 176 = .ok (.invokestatic 294, 3) := by decide +kernel
theorem dX12_comesTo_179 : decode cX12_comesTo 179 = .ok (.iastore, 1) := by decide +kernel
theorem dX12_comesTo_180 : decode cX12_comesTo 180 = .ok (.iinc 5 1, 3) := by decide +kernel
theorem dX12_comesTo_183 : decode cX12_comesTo 183 = .ok (.goto (-177), 3) := by decide +kernel
theorem dX12_comesTo_186 : decode cX12_comesTo 186 = .ok (.aload_n 0, 1) := by decide +kernel
theorem dX12_comesTo_187 : decode cX12_comesTo 187 = .ok (.getfield 34, 3) := by decide +kernel
theorem dX12_comesTo_190 : decode cX12_comesTo 190 = .ok (.iconst 0, 1) := by decide +kernel
theorem dX12_comesTo_191 : decode cX12_comesTo 191 = .ok (.iaload, 1) := by decide +kernel
theorem dX12_comesTo_192 : decode cX12_comesTo 192 = .ok (.ireturn, 1) := by decide +kernel
theorem dX12_isSo_0 : decode cX12_isSo 0 = .ok (.aload_n 0, 1) := by decide +kernel
theorem dX12_isSo_1 : decode cX12_isSo 1 = .ok (.getfield 7, 3) := by decide +kernel
theorem dX12_isSo_4 : decode cX12_isSo 4 = .ok (.sipush 937, 3) := by decide +kernel
theorem dX12_isSo_7 : decode cX12_isSo 7 = .ok (.iload_n 1, 1) := by decide +kernel
theorem dX12_isSo_8 : decode cX12_isSo 8 = .ok (.iadd, 1) := by decide +kernel
theorem dX12_isSo_9 : decode cX12_isSo 9 = .ok (.iaload, 1) := by decide +kernel
theorem dX12_isSo_10 : decode cX12_isSo 10 = .ok (.aload_n 0, 1) := by decide +kernel
theorem dX12_isSo_11 : decode cX12_isSo 11 = .ok (.getfield 7, 3) := by decide +kernel
theorem dX12_isSo_14 : decode cX12_isSo 14 = .ok (.sipush 921, 3) := by decide +kernel
theorem dX12_isSo_17 : decode cX12_isSo 17 = .ok (.iload_n 1, 1) := by decide +kernel
theorem dX12_isSo_18 : decode cX12_isSo 18 = .ok (.iadd, 1) := by decide +kernel
theorem dX12_isSo_19 : decode cX12_isSo 19 = .ok (.iaload, 1) := by decide +kernel
theorem dX12_isSo_20 : decode cX12_isSo 20 = .ok (.if_icmp .eq 32, 3) := by decide +kernel
theorem dX12_isSo_23 : decode cX12_isSo 23 = .ok (.aload_n 0, 1) := by decide +kernel
theorem dX12_isSo_24 : decode cX12_isSo 24 = .ok (.iconst 0, 1) := by decide +kernel
theorem dX12_isSo_25 : decode cX12_isSo 25 = .ok (.aload_n 0, 1) := by decide +kernel
theorem dX12_isSo_26 : decode cX12_isSo 26 = .ok (.getfield 7, 3) := by decide +kernel
theorem dX12_isSo_29 : decode cX12_isSo 29 = .ok (.sipush 921, 3) := by decide +kernel
theorem dX12_isSo_32 : decode cX12_isSo 32 = .ok (.iload_n 1, 1) := by decide +kernel
theorem dX12_isSo_33 : decode cX12_isSo 33 = .ok (.iadd, 1) := by decide +kernel
theorem dX12_isSo_34 : decode cX12_isSo 34 = .ok (.iaload, 1) := by decide +kernel
theorem dX12_isSo_35 : decode cX12_isSo 35 = .ok (.aload_n 0, 1) := by decide +kernel
theorem dX12_isSo_36 : decode cX12_isSo 36 = .ok (.getfield 7, 3) := by decide +kernel
theorem dX12_isSo_39 : decode cX12_isSo 39 = .ok (.sipush 937, 3) := by decide +kernel
theorem dX12_isSo_42 : decode cX12_isSo 42 = .ok (.iload_n 1, 1) := by decide +kernel
theorem dX12_isSo_43 : decode cX12_isSo 43 = .ok (.iadd, 1) := by decide +kernel
theorem dX12_isSo_44 : decode cX12_isSo 44 = .ok (.iaload, 1) := by decide +kernel
theorem dX12_isSo_45 : decode cX12_isSo 45 = .ok (.invokevirtual 297, 3) := by decide +kernel
theorem dX12_isSo_48 : decode cX12_isSo 48 = .ok (.iconst 1, 1) := by decide +kernel
theorem dX12_isSo_49 : decode cX12_isSo 49 = .ok (.if_icmp .ne 7, 3) := by decide +kernel
theorem dX12_isSo_52 : decode cX12_isSo 52 = .ok (.iconst 1, 1) := by decide +kernel
theorem dX12_isSo_53 : decode cX12_isSo 53 = .ok (.goto 4, 3) := by decide +kernel
theorem dX12_isSo_56 : decode cX12_isSo 56 = .ok (.iconst 0, 1) := by decide +kernel
theorem dX12_isSo_57 : decode cX12_isSo 57 = .ok (.ireturn, 1) := by decide +kernel
theorem dX12_says_0 : decode cX12_says 0 = .ok (.iconst 0, 1) := by decide +kernel
theorem dX12_says_1 : decode cX12_says 1 = .ok (.istore 4, 2) := by decide +kernel
theorem dX12_says_3 : decode cX12_says 3 = .ok (.iload 4, 2) := by decide +kernel
theorem dX12_says_5 : decode cX12_says 5 = .ok (.aload_n 0, 1) := by decide +kernel
theorem dX12_says_6 : decode cX12_says 6 = .ok (.getfield 7, 3) := by decide +kernel
theorem dX12_says_9 : decode cX12_says 9 = .ok (.bipush 89, 2) := by decide +kernel
theorem dX12_says_11 : decode cX12_says 11 = .ok (.iaload, 1) := by decide +kernel
theorem dX12_says_12 : decode cX12_says 12 = .ok (.if_icmp .ge 69, 3) := by decide +kernel
theorem dX12_says_15 : decode cX12_says 15 = .ok (.aload_n 0, 1) := by decide +kernel
theorem dX12_says_16 : decode cX12_says 16 = .ok (.getfield 7, 3) := by decide +kernel
theorem dX12_says_19 : decode cX12_says 19 = .ok (.sipush 953, 3) := by decide +kernel
theorem dX12_says_22 : decode cX12_says 22 = .ok (.iload 4, 2) := by decide +kernel
theorem dX12_says_24 : decode cX12_says 24 = .ok (.iadd, 1) := by decide +kernel
theorem dX12_says_25 : decode cX12_says 25 = .ok (.iaload, 1) := by decide +kernel
theorem dX12_says_26 : decode cX12_says 26 = .ok (.iload_n 1, 1) := by decide +kernel
theorem dX12_says_27 : decode cX12_says 27 = .ok (.if_icmp .ne 48, 3) := by decide +kernel
theorem dX12_says_30 : decode cX12_says 30 = .ok (.aload_n 0, 1) := by decide +kernel
theorem dX12_says_31 : decode cX12_says 31 = .ok (.iload 4, 2) := by decide +kernel
theorem dX12_says_33 : decode cX12_says 33 = .ok (.invokevirtual 300, 3) := by decide +kernel
theorem dX12_says_36 : decode cX12_says 36 = .ok (.ifCond .eq 39, 3) := by decide +kernel
theorem dX12_says_39 : decode cX12_says 39 = .ok (.iconst 0, 1) := by decide +kernel
theorem dX12_says_40 : decode cX12_says 40 = .ok (.iload_n 3, 1) := by decide +kernel
theorem dX12_says_41 : decode cX12_says 41 = .ok (.aload_n 0, 1) := by decide +kernel
theorem dX12_says_42 : decode cX12_says 42 = .ok (.iconst 0, 1) := by decide +kernel
theorem dX12_says_43 : decode cX12_says 43 = .ok (.aload_n 0, 1) := by decide +kernel
theorem dX12_says_44 : decode cX12_says 44 = .ok (.getfield 7, 3) := by decide +kernel
theorem dX12_says_47 : decode cX12_says 47 = .ok (.sipush 905, 3) := by decide +kernel
theorem dX12_says_50 : decode cX12_says 50 = .ok (.iload 4, 2) := by decide +kernel
theorem dX12_says_52 : decode cX12_says 52 = .ok (.iadd, 1) := by decide +kernel
theorem dX12_says_53 : decode cX12_says 53 = .ok (.iaload, 1) := by decide +kernel
theorem dX12_says_54 : decode cX12_says 54 = .ok (.aload_n 0, 1) := by decide +kernel
theorem dX12_says_55 : decode cX12_says 55 = .ok (.getfield 7, 3) := by decide +kernel
theorem dX12_says_58 : decode cX12_says 58 = .ok (.sipush 921, 3) := by decide +kernel
theorem dX12_says_61 : decode cX12_says 61 = .ok (.iload 4, 2) := by decide +kernel
theorem dX12_says_63 : decode cX12_says 63 = .ok (.iadd, 1) := by decide +kernel
theorem dX12_says_64 : decode cX12_says 64 = .ok (.iaload, 1) := by decide +kernel
theorem dX12_says_65 : decode cX12_says 65 = .ok (.invokevirtual 297, 3) := by decide +kernel
theorem dX12_says_68 : decode cX12_says 68 = .ok (.invokestatic 303, 3) := by decide +kernel
theorem dX12_says_71 : decode cX12_says 71 = .ok (.invokestatic 307, 3) := by decide +kernel
theorem dX12_says_74 : decode cX12_says 74 = .ok (.ireturn, 1) := by decide +kernel
theorem dX12_says_75 : decode cX12_says 75 = .ok (.iinc 4 1, 3) := by decide +kernel
theorem dX12_says_78 : decode cX12_says 78 = .ok (.goto (-75), 3) := by decide +kernel
theorem dX12_says_81 : decode cX12_says 81 = .ok (.iconst 0, 1) := by decide +kernel
theorem dX12_says_82 : decode cX12_says 82 = .ok (.iload_n 3, 1) := by decide +kernel
theorem dX12_says_83 : decode cX12_says 83 = .ok (.iload_n 2, 1) := by decide +kernel
theorem dX12_says_84 : decode cX12_says 84 = .ok (.invokestatic 303, 3) := by decide +kernel
theorem dX12_says_87 : decode cX12_says 87 = .ok (.invokestatic 307, 3) := by decide +kernel
theorem dX12_says_90 : decode cX12_says 90 = .ok (.ireturn, 1) := by decide +kernel
theorem dX12_laysMule_0 : decode cX12_laysMule 0 = .ok (.iconst 0, 1) := by decide +kernel
theorem dX12_laysMule_1 : decode cX12_laysMule 1 = .ok (.istore_n 2, 1) := by decide +kernel
theorem dX12_laysMule_2 : decode cX12_laysMule 2 = .ok (.iload_n 2, 1) := by decide +kernel
theorem dX12_laysMule_3 : decode cX12_laysMule 3 = .ok (.aload_n 0, 1) := by decide +kernel
theorem dX12_laysMule_4 : decode cX12_laysMule 4 = .ok (.getfield 37, 3) := by decide +kernel
theorem dX12_laysMule_7 : decode cX12_laysMule 7 = .ok (.arraylength, 1) := by decide +kernel
theorem dX12_laysMule_8 : decode cX12_laysMule 8 = .ok (.if_icmp .ge 16, 3) := by decide +kernel
theorem dX12_laysMule_11 : decode cX12_laysMule 11 = .ok (.aload_n 0, 1) := by decide +kernel
theorem dX12_laysMule_12 : decode cX12_laysMule 12 = .ok (.getfield 37, 3) := by decide +kernel
theorem dX12_laysMule_15 : decode cX12_laysMule 15 = .ok (.iload_n 2, 1) := by decide +kernel
theorem dX12_laysMule_16 : decode cX12_laysMule 16 = .ok (.iconst 0, 1) := by decide +kernel
theorem dX12_laysMule_17 : decode cX12_laysMule 17 = .ok (.iastore, 1) := by decide +kernel
theorem dX12_laysMule_18 : decode cX12_laysMule 18 = .ok (.iinc 2 1, 3) := by decide +kernel
theorem dX12_laysMule_21 : decode cX12_laysMule 21 = .ok (.goto (-19), 3) := by decide +kernel
theorem dX12_laysMule_24 : decode cX12_laysMule 24 = .ok (.aload_n 0, 1) := by decide +kernel
theorem dX12_laysMule_25 : decode cX12_laysMule 25 = .ok (.getfield 37, 3) := by decide +kernel
theorem dX12_laysMule_28 : decode cX12_laysMule 28 = .ok (.iconst 1, 1) := by decide +kernel
theorem dX12_laysMule_29 : decode cX12_laysMule 29 = .ok (.iload_n 1, 1) := by decide +kernel
theorem dX12_laysMule_30 : decode cX12_laysMule 30 = .ok (.iastore, 1) := by decide +kernel
theorem dX12_laysMule_31 : decode cX12_laysMule 31 = .ok (.aload_n 0, 1) := by decide +kernel
theorem dX12_laysMule_32 : decode cX12_laysMule 32 = .ok (.getfield 37, 3) := by decide +kernel
theorem dX12_laysMule_35 : decode cX12_laysMule 35 = .ok (.iconst 2, 1) := by decide +kernel
theorem dX12_laysMule_36 : decode cX12_laysMule 36 = .ok (.aload_n 0, 1) := by decide +kernel
theorem dX12_laysMule_37 : decode cX12_laysMule 37 = .ok (.getfield 7, 3) := by decide +kernel
theorem dX12_laysMule_40 : decode cX12_laysMule 40 = .ok (.bipush 107, 2) := by decide +kernel
theorem dX12_laysMule_42 : decode cX12_laysMule 42 = .ok (.iload_n 1, 1) := by decide +kernel
theorem dX12_laysMule_43 : decode cX12_laysMule 43 = .ok (.iadd, 1) := by decide +kernel
theorem dX12_laysMule_44 : decode cX12_laysMule 44 = .ok (.iaload, 1) := by decide +kernel
theorem dX12_laysMule_45 : decode cX12_laysMule 45 = .ok (.iastore, 1) := by decide +kernel
theorem dX12_laysMule_46 : decode cX12_laysMule 46 = .ok (.aload_n 0, 1) := by decide +kernel
theorem dX12_laysMule_47 : decode cX12_laysMule 47 = .ok (.getfield 37, 3) := by decide +kernel
theorem dX12_laysMule_50 : decode cX12_laysMule 50 = .ok (.iconst 3, 1) := by decide +kernel
theorem dX12_laysMule_51 : decode cX12_laysMule 51 = .ok (.aload_n 0, 1) := by decide +kernel
theorem dX12_laysMule_52 : decode cX12_laysMule 52 = .ok (.getfield 7, 3) := by decide +kernel
theorem dX12_laysMule_55 : decode cX12_laysMule 55 = .ok (.bipush 95, 2) := by decide +kernel
theorem dX12_laysMule_57 : decode cX12_laysMule 57 = .ok (.iload_n 1, 1) := by decide +kernel
theorem dX12_laysMule_58 : decode cX12_laysMule 58 = .ok (.iadd, 1) := by decide +kernel
theorem dX12_laysMule_59 : decode cX12_laysMule 59 = .ok (.iaload, 1) := by decide +kernel
theorem dX12_laysMule_60 : decode cX12_laysMule 60 = .ok (.iastore, 1) := by decide +kernel
theorem dX12_laysMule_61 : decode cX12_laysMule 61 = .ok (.aload_n 0, 1) := by decide +kernel
theorem dX12_laysMule_62 : decode cX12_laysMule 62 = .ok (.getfield 37, 3) := by decide +kernel
theorem dX12_laysMule_65 : decode cX12_laysMule 65 = .ok (.bipush 8, 2) := by decide +kernel
theorem dX12_laysMule_67 : decode cX12_laysMule 67 = .ok (.aload_n 0, 1) := by decide +kernel
theorem dX12_laysMule_68 : decode cX12_laysMule 68 = .ok (.getfield 7, 3) := by decide +kernel
theorem dX12_laysMule_71 : decode cX12_laysMule 71 = .ok (.bipush 88, 2) := by decide +kernel
theorem dX12_laysMule_73 : decode cX12_laysMule 73 = .ok (.iaload, 1) := by decide +kernel
theorem dX12_laysMule_74 : decode cX12_laysMule 74 = .ok (.iastore, 1) := by decide +kernel
theorem dX12_laysMule_75 : decode cX12_laysMule 75 = .ok (.aload_n 0, 1) := by decide +kernel
theorem dX12_laysMule_76 : decode cX12_laysMule 76 = .ok (.getfield 37, 3) := by decide +kernel
theorem dX12_laysMule_79 : decode cX12_laysMule 79 = .ok (.bipush 10, 2) := by decide +kernel
theorem dX12_laysMule_81 : decode cX12_laysMule 81 = .ok (.aload_n 0, 1) := by decide +kernel
theorem dX12_laysMule_82 : decode cX12_laysMule 82 = .ok (.getfield 7, 3) := by decide +kernel
theorem dX12_laysMule_85 : decode cX12_laysMule 85 = .ok (.iconst 0, 1) := by decide +kernel
theorem dX12_laysMule_86 : decode cX12_laysMule 86 = .ok (.iaload, 1) := by decide +kernel
theorem dX12_laysMule_87 : decode cX12_laysMule 87 = .ok (.iastore, 1) := by decide +kernel
theorem dX12_laysMule_88 : decode cX12_laysMule 88 = .ok (.return_, 1) := by decide +kernel
theorem dX12_leanOf_0 : decode cX12_leanOf 0 = .ok (.aload_n 0, 1) := by decide +kernel
theorem dX12_leanOf_1 : decode cX12_leanOf 1 = .ok (.iload_n 1, 1) := by decide +kernel
theorem dX12_leanOf_2 : decode cX12_leanOf 2 = .ok (.invokevirtual 310, 3) := by decide +kernel
theorem dX12_leanOf_5 : decode cX12_leanOf 5 = .ok (.aload_n 0, 1) := by decide +kernel
theorem dX12_leanOf_6 : decode cX12_leanOf 6 = .ok (.getfield 37, 3) := by decide +kernel
theorem dX12_leanOf_9 : decode cX12_leanOf 9 = .ok (.iconst 4, 1) := by decide +kernel
theorem dX12_leanOf_10 : decode cX12_leanOf 10 = .ok (.aload_n 0, 1) := by decide +kernel
theorem dX12_leanOf_11 : decode cX12_leanOf 11 = .ok (.iload_n 1, 1) := by decide +kernel
theorem dX12_leanOf_12 : decode cX12_leanOf 12 = .ok (.iload_n 2, 1) := by decide +kernel
theorem dX12_leanOf_13 : decode cX12_leanOf 13 = .ok (.invokevirtual 314, 3) := by decide +kernel
theorem dX12_leanOf_16 : decode cX12_leanOf 16 = .ok (.iastore, 1) := by decide +kernel
theorem dX12_leanOf_17 : decode cX12_leanOf 17 = .ok (.aload_n 0, 1) := by decide +kernel
theorem dX12_leanOf_18 : decode cX12_leanOf 18 = .ok (.getfield 37, 3) := by decide +kernel
theorem dX12_leanOf_21 : decode cX12_leanOf 21 = .ok (.iconst 5, 1) := by decide +kernel
theorem dX12_leanOf_22 : decode cX12_leanOf 22 = .ok (.aload_n 0, 1) := by decide +kernel
theorem dX12_leanOf_23 : decode cX12_leanOf 23 = .ok (.getfield 7, 3) := by decide +kernel
theorem dX12_leanOf_26 : decode cX12_leanOf 26 = .ok (.sipush 129, 3) := by decide +kernel
theorem dX12_leanOf_29 : decode cX12_leanOf 29 = .ok (.iload_n 1, 1) := by decide +kernel
theorem dX12_leanOf_30 : decode cX12_leanOf 30 = .ok (.iadd, 1) := by decide +kernel
theorem dX12_leanOf_31 : decode cX12_leanOf 31 = .ok (.iaload, 1) := by decide +kernel
theorem dX12_leanOf_32 : decode cX12_leanOf 32 = .ok (.aload_n 0, 1) := by decide +kernel
theorem dX12_leanOf_33 : decode cX12_leanOf 33 = .ok (.iload_n 2, 1) := by decide +kernel
theorem dX12_leanOf_34 : decode cX12_leanOf 34 = .ok (.invokevirtual 317, 3) := by decide +kernel
theorem dX12_leanOf_37 : decode cX12_leanOf 37 = .ok (.iand, 1) := by decide +kernel
theorem dX12_leanOf_38 : decode cX12_leanOf 38 = .ok (.invokestatic 320, 3) := by decide +kernel
theorem dX12_leanOf_41 : decode cX12_leanOf 41 = .ok (.iastore, 1) := by decide +kernel
theorem dX12_leanOf_42 : decode cX12_leanOf 42 = .ok (.aload_n 0, 1) := by decide +kernel
theorem dX12_leanOf_43 : decode cX12_leanOf 43 = .ok (.getfield 37, 3) := by decide +kernel
theorem dX12_leanOf_46 : decode cX12_leanOf 46 = .ok (.bipush 6, 2) := by decide +kernel
theorem dX12_leanOf_48 : decode cX12_leanOf 48 = .ok (.aload_n 0, 1) := by decide +kernel
theorem dX12_leanOf_49 : decode cX12_leanOf 49 = .ok (.getfield 7, 3) := by decide +kernel
theorem dX12_leanOf_52 : decode cX12_leanOf 52 = .ok (.bipush 119, 2) := by decide +kernel
theorem dX12_leanOf_54 : decode cX12_leanOf 54 = .ok (.iload_n 2, 1) := by decide +kernel
theorem dX12_leanOf_55 : decode cX12_leanOf 55 = .ok (.iadd, 1) := by decide +kernel
theorem dX12_leanOf_56 : decode cX12_leanOf 56 = .ok (.iaload, 1) := by decide +kernel
theorem dX12_leanOf_57 : decode cX12_leanOf 57 = .ok (.iastore, 1) := by decide +kernel
theorem dX12_leanOf_58 : decode cX12_leanOf 58 = .ok (.aload_n 0, 1) := by decide +kernel
theorem dX12_leanOf_59 : decode cX12_leanOf 59 = .ok (.getfield 37, 3) := by decide +kernel
theorem dX12_leanOf_62 : decode cX12_leanOf 62 = .ok (.bipush 7, 2) := by decide +kernel
theorem dX12_leanOf_64 : decode cX12_leanOf 64 = .ok (.aload_n 0, 1) := by decide +kernel
theorem dX12_leanOf_65 : decode cX12_leanOf 65 = .ok (.getfield 7, 3) := by decide +kernel
theorem dX12_leanOf_68 : decode cX12_leanOf 68 = .ok (.bipush 124, 2) := by decide +kernel
theorem dX12_leanOf_70 : decode cX12_leanOf 70 = .ok (.iload_n 2, 1) := by decide +kernel
theorem dX12_leanOf_71 : decode cX12_leanOf 71 = .ok (.iadd, 1) := by decide +kernel
theorem dX12_leanOf_72 : decode cX12_leanOf 72 = .ok (.iaload, 1) := by decide +kernel
theorem dX12_leanOf_73 : decode cX12_leanOf 73 = .ok (.iastore, 1) := by decide +kernel
theorem dX12_leanOf_74 : decode cX12_leanOf 74 = .ok (.aload_n 0, 1) := by decide +kernel
theorem dX12_leanOf_75 : decode cX12_leanOf 75 = .ok (.bipush 20, 2) := by decide +kernel
theorem dX12_leanOf_77 : decode cX12_leanOf 77 = .ok (.aload_n 0, 1) := by decide +kernel
theorem dX12_leanOf_78 : decode cX12_leanOf 78 = .ok (.getfield 37, 3) := by decide +kernel
theorem dX12_leanOf_81 : decode cX12_leanOf 81 = .ok (.iconst 4, 1) := by decide +kernel
theorem dX12_leanOf_82 : decode cX12_leanOf 82 = .ok (.iaload, 1) := by decide +kernel
theorem dX12_leanOf_83 : decode cX12_leanOf 83 = .ok (.bipush 10, 2) := by decide +kernel
theorem dX12_leanOf_85 : decode cX12_leanOf 85 = .ok (.aload_n 0, 1) := by decide +kernel
theorem dX12_leanOf_86 : decode cX12_leanOf 86 = .ok (.getfield 37, 3) := by decide +kernel
theorem dX12_leanOf_89 : decode cX12_leanOf 89 = .ok (.iconst 5, 1) := by decide +kernel
theorem dX12_leanOf_90 : decode cX12_leanOf 90 = .ok (.iaload, 1) := by decide +kernel
theorem dX12_leanOf_91 : decode cX12_leanOf 91 = .ok (.imul, 1) := by decide +kernel
theorem dX12_leanOf_92 : decode cX12_leanOf 92 = .ok (.iadd, 1) := by decide +kernel
theorem dX12_leanOf_93 : decode cX12_leanOf 93 = .ok (.sipush 999, 3) := by decide +kernel
theorem dX12_leanOf_96 : decode cX12_leanOf 96 = .ok (.invokevirtual 323, 3) := by decide +kernel
theorem dX12_leanOf_99 : decode cX12_leanOf 99 = .ok (.ireturn, 1) := by decide +kernel
theorem dX12_needOf_0 : decode cX12_needOf 0 = .ok (.aload_n 0, 1) := by decide +kernel
theorem dX12_needOf_1 : decode cX12_needOf 1 = .ok (.iload_n 1, 1) := by decide +kernel
theorem dX12_needOf_2 : decode cX12_needOf 2 = .ok (.invokevirtual 310, 3) := by decide +kernel
theorem dX12_needOf_5 : decode cX12_needOf 5 = .ok (.aload_n 0, 1) := by decide +kernel
theorem dX12_needOf_6 : decode cX12_needOf 6 = .ok (.bipush 21, 2) := by decide +kernel
theorem dX12_needOf_8 : decode cX12_needOf 8 = .ok (.bipush 40, 2) := by decide +kernel
theorem dX12_needOf_10 : decode cX12_needOf 10 = .ok (.sipush 999, 3) := by decide +kernel
theorem dX12_needOf_13 : decode cX12_needOf 13 = .ok (.invokevirtual 323, 3) := by decide +kernel
theorem dX12_needOf_16 : decode cX12_needOf 16 = .ok (.ireturn, 1) := by decide +kernel
theorem dX12_riskOf_0 : decode cX12_riskOf 0 = .ok (.aload_n 0, 1) := by decide +kernel
theorem dX12_riskOf_1 : decode cX12_riskOf 1 = .ok (.iload_n 1, 1) := by decide +kernel
theorem dX12_riskOf_2 : decode cX12_riskOf 2 = .ok (.invokevirtual 310, 3) := by decide +kernel
theorem dX12_riskOf_5 : decode cX12_riskOf 5 = .ok (.aload_n 0, 1) := by decide +kernel
theorem dX12_riskOf_6 : decode cX12_riskOf 6 = .ok (.getfield 37, 3) := by decide +kernel
theorem dX12_riskOf_9 : decode cX12_riskOf 9 = .ok (.bipush 9, 2) := by decide +kernel
theorem dX12_riskOf_11 : decode cX12_riskOf 11 = .ok (.iload_n 2, 1) := by decide +kernel
theorem dX12_riskOf_12 : decode cX12_riskOf 12 = .ok (.iastore, 1) := by decide +kernel
theorem dX12_riskOf_13 : decode cX12_riskOf 13 = .ok (.aload_n 0, 1) := by decide +kernel
theorem dX12_riskOf_14 : decode cX12_riskOf 14 = .ok (.getfield 37, 3) := by decide +kernel
theorem dX12_riskOf_17 : decode cX12_riskOf 17 = .ok (.bipush 6, 2) := by decide +kernel
theorem dX12_riskOf_19 : decode cX12_riskOf 19 = .ok (.iload_n 3, 1) := by decide +kernel
theorem dX12_riskOf_20 : decode cX12_riskOf 20 = .ok (.iconst (-1), 1) := by decide +kernel
theorem dX12_riskOf_21 : decode cX12_riskOf 21 = .ok (.if_icmp .ne 7, 3) := by decide +kernel
theorem dX12_riskOf_24 : decode cX12_riskOf 24 = .ok (.iconst 0, 1) := by decide +kernel
theorem dX12_riskOf_25 : decode cX12_riskOf 25 = .ok (.goto 12, 3) := by decide +kernel
theorem dX12_riskOf_28 : decode cX12_riskOf 28 = .ok (.aload_n 0, 1) := by decide +kernel
theorem dX12_riskOf_29 : decode cX12_riskOf 29 = .ok (.getfield 7, 3) := by decide +kernel
theorem dX12_riskOf_32 : decode cX12_riskOf 32 = .ok (.bipush 119, 2) := by decide +kernel
theorem dX12_riskOf_34 : decode cX12_riskOf 34 = .ok (.iload_n 3, 1) := by decide +kernel
theorem dX12_riskOf_35 : decode cX12_riskOf 35 = .ok (.iadd, 1) := by decide +kernel
theorem dX12_riskOf_36 : decode cX12_riskOf 36 = .ok (.iaload, 1) := by decide +kernel
theorem dX12_riskOf_37 : decode cX12_riskOf 37 = .ok (.iastore, 1) := by decide +kernel
theorem dX12_riskOf_38 : decode cX12_riskOf 38 = .ok (.aload_n 0, 1) := by decide +kernel
theorem dX12_riskOf_39 : decode cX12_riskOf 39 = .ok (.getfield 37, 3) := by decide +kernel
theorem dX12_riskOf_42 : decode cX12_riskOf 42 = .ok (.bipush 7, 2) := by decide +kernel
theorem dX12_riskOf_44 : decode cX12_riskOf 44 = .ok (.iload_n 3, 1) := by decide +kernel
theorem dX12_riskOf_45 : decode cX12_riskOf 45 = .ok (.iconst (-1), 1) := by decide +kernel
theorem dX12_riskOf_46 : decode cX12_riskOf 46 = .ok (.if_icmp .ne 7, 3) := by decide +kernel
theorem dX12_riskOf_49 : decode cX12_riskOf 49 = .ok (.iconst 0, 1) := by decide +kernel
theorem dX12_riskOf_50 : decode cX12_riskOf 50 = .ok (.goto 12, 3) := by decide +kernel
theorem dX12_riskOf_53 : decode cX12_riskOf 53 = .ok (.aload_n 0, 1) := by decide +kernel
theorem dX12_riskOf_54 : decode cX12_riskOf 54 = .ok (.getfield 7, 3) := by decide +kernel
theorem dX12_riskOf_57 : decode cX12_riskOf 57 = .ok (.bipush 124, 2) := by decide +kernel
theorem dX12_riskOf_59 : decode cX12_riskOf 59 = .ok (.iload_n 3, 1) := by decide +kernel
theorem dX12_riskOf_60 : decode cX12_riskOf 60 = .ok (.iadd, 1) := by decide +kernel
theorem dX12_riskOf_61 : decode cX12_riskOf 61 = .ok (.iaload, 1) := by decide +kernel
theorem dX12_riskOf_62 : decode cX12_riskOf 62 = .ok (.iastore, 1) := by decide +kernel
theorem dX12_riskOf_63 : decode cX12_riskOf 63 = .ok (.aload_n 0, 1) := by decide +kernel
theorem dX12_riskOf_64 : decode cX12_riskOf 64 = .ok (.bipush 22, 2) := by decide +kernel
theorem dX12_riskOf_66 : decode cX12_riskOf 66 = .ok (.bipush 20, 2) := by decide +kernel
theorem dX12_riskOf_68 : decode cX12_riskOf 68 = .ok (.aload_n 0, 1) := by decide +kernel
theorem dX12_riskOf_69 : decode cX12_riskOf 69 = .ok (.getfield 7, 3) := by decide +kernel
theorem dX12_riskOf_72 : decode cX12_riskOf 72 = .ok (.bipush 88, 2) := by decide +kernel
theorem dX12_riskOf_74 : decode cX12_riskOf 74 = .ok (.iaload, 1) := by decide +kernel
theorem dX12_riskOf_75 : decode cX12_riskOf 75 = .ok (.imul, 1) := by decide +kernel
theorem dX12_riskOf_76 : decode cX12_riskOf 76 = .ok (.sipush 1000, 3) := by decide +kernel
theorem dX12_riskOf_79 : decode cX12_riskOf 79 = .ok (.invokevirtual 323, 3) := by decide +kernel
theorem dX12_riskOf_82 : decode cX12_riskOf 82 = .ok (.ireturn, 1) := by decide +kernel
theorem dX12_keeps_0 : decode cX12_keeps 0 = .ok (.aload_n 0, 1) := by decide +kernel
theorem dX12_keeps_1 : decode cX12_keeps 1 = .ok (.getfield 60, 3) := by decide +kernel
theorem dX12_keeps_4 : decode cX12_keeps 4 = .ok (.bipush 6, 2) := by decide +kernel
theorem dX12_keeps_6 : decode cX12_keeps 6 = .ok (.if_icmp .ne 43, 3) := by decide +kernel
theorem dX12_keeps_9 : decode cX12_keeps 9 = .ok (.iconst 0, 1) := by decide +kernel
theorem dX12_keeps_10 : decode cX12_keeps 10 = .ok (.istore_n 1, 1) := by decide +kernel
theorem dX12_keeps_11 : decode cX12_keeps 11 = .ok (.iload_n 1, 1) := by decide +kernel
theorem dX12_keeps_12 : decode cX12_keeps 12 = .ok (.sipush 430, 3) := by decide +kernel
theorem dX12_keeps_15 : decode cX12_keeps 15 = .ok (.if_icmp .ge 24, 3) := by decide +kernel
theorem dX12_keeps_18 : decode cX12_keeps 18 = .ok (.aload_n 0, 1) := by decide +kernel
theorem dX12_keeps_19 : decode cX12_keeps 19 = .ok (.getfield 16, 3) := by decide +kernel
theorem dX12_keeps_22 : decode cX12_keeps 22 = .ok (.iload_n 1, 1) := by decide +kernel
theorem dX12_keeps_23 : decode cX12_keeps 23 = .ok (.aload_n 0, 1) := by decide +kernel
theorem dX12_keeps_24 : decode cX12_keeps 24 = .ok (.getfield 16, 3) := by decide +kernel
theorem dX12_keeps_27 : decode cX12_keeps 27 = .ok (.iload_n 1, 1) := by decide +kernel
theorem dX12_keeps_28 : decode cX12_keeps 28 = .ok (.bipush 86, 2) := by decide +kernel
theorem dX12_keeps_30 : decode cX12_keeps 30 = .ok (.iadd, 1) := by decide +kernel
theorem dX12_keeps_31 : decode cX12_keeps 31 = .ok (.iaload, 1) := by decide +kernel
theorem dX12_keeps_32 : decode cX12_keeps 32 = .ok (.iastore, 1) := by decide +kernel
theorem dX12_keeps_33 : decode cX12_keeps 33 = .ok (.iinc 1 1, 3) := by decide +kernel
theorem dX12_keeps_36 : decode cX12_keeps 36 = .ok (.goto (-25), 3) := by decide +kernel
theorem dX12_keeps_39 : decode cX12_keeps 39 = .ok (.aload_n 0, 1) := by decide +kernel
theorem dX12_keeps_40 : decode cX12_keeps 40 = .ok (.dup, 1) := by decide +kernel
theorem dX12_keeps_41 : decode cX12_keeps 41 = .ok (.getfield 60, 3) := by decide +kernel
theorem dX12_keeps_44 : decode cX12_keeps 44 = .ok (.iconst 1, 1) := by decide +kernel
theorem dX12_keeps_45 : decode cX12_keeps 45 = .ok (.isub, 1) := by decide +kernel
theorem dX12_keeps_46 : decode cX12_keeps 46 = .ok (.putfield 60, 3) := by decide +kernel
theorem dX12_keeps_49 : decode cX12_keeps 49 = .ok (.iconst 0, 1) := by decide +kernel
theorem dX12_keeps_50 : decode cX12_keeps 50 = .ok (.istore_n 1, 1) := by decide +kernel
theorem dX12_keeps_51 : decode cX12_keeps 51 = .ok (.iload_n 1, 1) := by decide +kernel
theorem dX12_keeps_52 : decode cX12_keeps 52 = .ok (.bipush 86, 2) := by decide +kernel
theorem dX12_keeps_54 : decode cX12_keeps 54 = .ok (.if_icmp .ge 29, 3) := by decide +kernel
theorem dX12_keeps_57 : decode cX12_keeps 57 = .ok (.aload_n 0, 1) := by decide +kernel
theorem dX12_keeps_58 : decode cX12_keeps 58 = .ok (.getfield 16, 3) := by decide +kernel
theorem dX12_keeps_61 : decode cX12_keeps 61 = .ok (.bipush 86, 2) := by decide +kernel
theorem dX12_keeps_63 : decode cX12_keeps 63 = .ok (.aload_n 0, 1) := by decide +kernel
theorem dX12_keeps_64 : decode cX12_keeps 64 = .ok (.getfield 60, 3) := by decide +kernel
theorem dX12_keeps_67 : decode cX12_keeps 67 = .ok (.imul, 1) := by decide +kernel
theorem dX12_keeps_68 : decode cX12_keeps 68 = .ok (.iload_n 1, 1) := by decide +kernel
theorem dX12_keeps_69 : decode cX12_keeps 69 = .ok (.iadd, 1) := by decide +kernel
theorem dX12_keeps_70 : decode cX12_keeps 70 = .ok (.aload_n 0, 1) := by decide +kernel
theorem dX12_keeps_71 : decode cX12_keeps 71 = .ok (.getfield 7, 3) := by decide +kernel
theorem dX12_keeps_74 : decode cX12_keeps 74 = .ok (.iload_n 1, 1) := by decide +kernel
theorem dX12_keeps_75 : decode cX12_keeps 75 = .ok (.iaload, 1) := by decide +kernel
theorem dX12_keeps_76 : decode cX12_keeps 76 = .ok (.iastore, 1) := by decide +kernel
theorem dX12_keeps_77 : decode cX12_keeps 77 = .ok (.iinc 1 1, 3) := by decide +kernel
theorem dX12_keeps_80 : decode cX12_keeps 80 = .ok (.goto (-29), 3) := by decide +kernel
theorem dX12_keeps_83 : decode cX12_keeps 83 = .ok (.aload_n 0, 1) := by decide +kernel
theorem dX12_keeps_84 : decode cX12_keeps 84 = .ok (.dup, 1) := by decide +kernel
theorem dX12_keeps_85 : decode cX12_keeps 85 = .ok (.getfield 60, 3) := by decide +kernel
theorem dX12_keeps_88 : decode cX12_keeps 88 = .ok (.iconst 1, 1) := by decide +kernel
theorem dX12_keeps_89 : decode cX12_keeps 89 = .ok (.iadd, 1) := by decide +kernel
theorem dX12_keeps_90 : decode cX12_keeps 90 = .ok (.putfield 60, 3) := by decide +kernel
theorem dX12_keeps_93 : decode cX12_keeps 93 = .ok (.aload_n 0, 1) := by decide +kernel
theorem dX12_keeps_94 : decode cX12_keeps 94 = .ok (.iconst 1, 1) := by decide +kernel
theorem dX12_keeps_95 : decode cX12_keeps 95 = .ok (.putfield 326, 3) := by decide +kernel
theorem dX12_keeps_98 : decode cX12_keeps 98 = .ok (.return_, 1) := by decide +kernel
theorem dX12_undo_0 : decode cX12_undo 0 = .ok (.aload_n 0, 1) := by decide +kernel
theorem dX12_undo_1 : decode cX12_undo 1 = .ok (.getfield 60, 3) := by decide +kernel
theorem dX12_undo_4 : decode cX12_undo 4 = .ok (.ifCond .ne 5, 3) := by decide +kernel
theorem dX12_undo_7 : decode cX12_undo 7 = .ok (.iconst 0, 1) := by decide +kernel
theorem dX12_undo_8 : decode cX12_undo 8 = .ok (.ireturn, 1) := by decide +kernel
theorem dX12_undo_9 : decode cX12_undo 9 = .ok (.aload_n 0, 1) := by decide +kernel
theorem dX12_undo_10 : decode cX12_undo 10 = .ok (.dup, 1) := by decide +kernel
theorem dX12_undo_11 : decode cX12_undo 11 = .ok (.getfield 60, 3) := by decide +kernel
theorem dX12_undo_14 : decode cX12_undo 14 = .ok (.iconst 1, 1) := by decide +kernel
theorem dX12_undo_15 : decode cX12_undo 15 = .ok (.isub, 1) := by decide +kernel
theorem dX12_undo_16 : decode cX12_undo 16 = .ok (.putfield 60, 3) := by decide +kernel
theorem dX12_undo_19 : decode cX12_undo 19 = .ok (.iconst 0, 1) := by decide +kernel
theorem dX12_undo_20 : decode cX12_undo 20 = .ok (.istore_n 1, 1) := by decide +kernel
theorem dX12_undo_21 : decode cX12_undo 21 = .ok (.iload_n 1, 1) := by decide +kernel
theorem dX12_undo_22 : decode cX12_undo 22 = .ok (.bipush 86, 2) := by decide +kernel
theorem dX12_undo_24 : decode cX12_undo 24 = .ok (.if_icmp .ge 29, 3) := by decide +kernel
theorem dX12_undo_27 : decode cX12_undo 27 = .ok (.aload_n 0, 1) := by decide +kernel
theorem dX12_undo_28 : decode cX12_undo 28 = .ok (.getfield 7, 3) := by decide +kernel
theorem dX12_undo_31 : decode cX12_undo 31 = .ok (.iload_n 1, 1) := by decide +kernel
theorem dX12_undo_32 : decode cX12_undo 32 = .ok (.aload_n 0, 1) := by decide +kernel
theorem dX12_undo_33 : decode cX12_undo 33 = .ok (.getfield 16, 3) := by decide +kernel
theorem dX12_undo_36 : decode cX12_undo 36 = .ok (.bipush 86, 2) := by decide +kernel
theorem dX12_undo_38 : decode cX12_undo 38 = .ok (.aload_n 0, 1) := by decide +kernel
theorem dX12_undo_39 : decode cX12_undo 39 = .ok (.getfield 60, 3) := by decide +kernel
theorem dX12_undo_42 : decode cX12_undo 42 = .ok (.imul, 1) := by decide +kernel
theorem dX12_undo_43 : decode cX12_undo 43 = .ok (.iload_n 1, 1) := by decide +kernel
theorem dX12_undo_44 : decode cX12_undo 44 = .ok (.iadd, 1) := by decide +kernel
theorem dX12_undo_45 : decode cX12_undo 45 = .ok (.iaload, 1) := by decide +kernel
theorem dX12_undo_46 : decode cX12_undo 46 = .ok (.iastore, 1) := by decide +kernel
theorem dX12_undo_47 : decode cX12_undo 47 = .ok (.iinc 1 1, 3) := by decide +kernel
theorem dX12_undo_50 : decode cX12_undo 50 = .ok (.goto (-29), 3) := by decide +kernel
theorem dX12_undo_53 : decode cX12_undo 53 = .ok (.iconst 1, 1) := by decide +kernel
theorem dX12_undo_54 : decode cX12_undo 54 = .ok (.ireturn, 1) := by decide +kernel
theorem dX12_notes_0 : decode cX12_notes 0 = .ok (.aload_n 0, 1) := by decide +kernel
theorem dX12_notes_1 : decode cX12_notes 1 = .ok (.getfield 326, 3) := by decide +kernel
theorem dX12_notes_4 : decode cX12_notes 4 = .ok (.ifCond .eq 16, 3) := by decide +kernel
theorem dX12_notes_7 : decode cX12_notes 7 = .ok (.aload_n 0, 1) := by decide +kernel
theorem dX12_notes_8 : decode cX12_notes 8 = .ok (.getfield 7, 3) := by decide +kernel
theorem dX12_notes_11 : decode cX12_notes 11 = .ok (.bipush 6, 2) := by decide +kernel
theorem dX12_notes_13 : decode cX12_notes 13 = .ok (.iaload, 1) := by decide +kernel
theorem dX12_notes_14 : decode cX12_notes 14 = .ok (.sipush 150, 3) := by decide +kernel
theorem dX12_notes_17 : decode cX12_notes 17 = .ok (.if_icmp .ne 4, 3) := by decide +kernel
theorem dX12_notes_20 : decode cX12_notes 20 = .ok (.return_, 1) := by decide +kernel
theorem dX12_notes_21 : decode cX12_notes 21 = .ok (.sipush 305, 3) := by decide +kernel
theorem dX12_notes_24 : decode cX12_notes 24 = .ok (.iconst 4, 1) := by decide +kernel
theorem dX12_notes_25 : decode cX12_notes 25 = .ok (.aload_n 0, 1) := by decide +kernel
theorem dX12_notes_26 : decode cX12_notes 26 = .ok (.getfield 7, 3) := by decide +kernel
theorem dX12_notes_29 : decode cX12_notes 29 = .ok (.bipush 6, 2) := by decide +kernel
theorem dX12_notes_31 : decode cX12_notes 31 = .ok (.iaload, 1) := by decide +kernel
theorem dX12_notes_32 : decode cX12_notes 32 = .ok (.imul, 1) := by decide +kernel
theorem dX12_notes_33 : decode cX12_notes 33 = .ok (.iadd, 1) := by decide +kernel
theorem dX12_notes_34 : decode cX12_notes 34 = .ok (.istore 4, 2) := by decide +kernel
theorem dX12_notes_36 : decode cX12_notes 36 = .ok (.aload_n 0, 1) := by decide +kernel
theorem dX12_notes_37 : decode cX12_notes 37 = .ok (.getfield 7, 3) := by decide +kernel
theorem dX12_notes_40 : decode cX12_notes 40 = .ok (.iload 4, 2) := by decide +kernel
theorem dX12_notes_42 : decode cX12_notes 42 = .ok (.aload_n 0, 1) := by decide +kernel
theorem dX12_notes_43 : decode cX12_notes 43 = .ok (.getfield 7, 3) := by decide +kernel
theorem dX12_notes_46 : decode cX12_notes 46 = .ok (.iconst 0, 1) := by decide +kernel
theorem dX12_notes_47 : decode cX12_notes 47 = .ok (.iaload, 1) := by decide +kernel
theorem dX12_notes_48 : decode cX12_notes 48 = .ok (.iastore, 1) := by decide +kernel
theorem dX12_notes_49 : decode cX12_notes 49 = .ok (.aload_n 0, 1) := by decide +kernel
theorem dX12_notes_50 : decode cX12_notes 50 = .ok (.getfield 7, 3) := by decide +kernel
theorem dX12_notes_53 : decode cX12_notes 53 = .ok (.iload 4, 2) := by decide +kernel
theorem dX12_notes_55 : decode cX12_notes 55 = .ok (.iconst 1, 1) := by decide +kernel
theorem dX12_notes_56 : decode cX12_notes 56 = .ok (.iadd, 1) := by decide +kernel
theorem dX12_notes_57 : decode cX12_notes 57 = .ok (.iload_n 1, 1) := by decide +kernel
theorem dX12_notes_58 : decode cX12_notes 58 = .ok (.iastore, 1) := by decide +kernel
theorem dX12_notes_59 : decode cX12_notes 59 = .ok (.aload_n 0, 1) := by decide +kernel
theorem dX12_notes_60 : decode cX12_notes 60 = .ok (.getfield 7, 3) := by decide +kernel
theorem dX12_notes_63 : decode cX12_notes 63 = .ok (.iload 4, 2) := by decide +kernel
theorem dX12_notes_65 : decode cX12_notes 65 = .ok (.iconst 2, 1) := by decide +kernel
theorem dX12_notes_66 : decode cX12_notes 66 = .ok (.iadd, 1) := by decide +kernel
theorem dX12_notes_67 : decode cX12_notes 67 = .ok (.iload_n 2, 1) := by decide +kernel
theorem dX12_notes_68 : decode cX12_notes 68 = .ok (.iastore, 1) := by decide +kernel
theorem dX12_notes_69 : decode cX12_notes 69 = .ok (.aload_n 0, 1) := by decide +kernel
theorem dX12_notes_70 : decode cX12_notes 70 = .ok (.getfield 7, 3) := by decide +kernel
theorem dX12_notes_73 : decode cX12_notes 73 = .ok (.iload 4, 2) := by decide +kernel
theorem dX12_notes_75 : decode cX12_notes 75 = .ok (.iconst 3, 1) := by decide +kernel
theorem dX12_notes_76 : decode cX12_notes 76 = .ok (.iadd, 1) := by decide +kernel
theorem dX12_notes_77 : decode cX12_notes 77 = .ok (.iload_n 3, 1) := by decide +kernel
theorem dX12_notes_78 : decode cX12_notes 78 = .ok (.iastore, 1) := by decide +kernel
theorem dX12_notes_79 : decode cX12_notes 79 = .ok (.aload_n 0, 1) := by decide +kernel
theorem dX12_notes_80 : decode cX12_notes 80 = .ok (.getfield 7, 3) := by decide +kernel
theorem dX12_notes_83 : decode cX12_notes 83 = .ok (.bipush 6, 2) := by decide +kernel
theorem dX12_notes_85 : decode cX12_notes 85 = .ok (.dup2, 1) := by decide +kernel
theorem dX12_notes_86 : decode cX12_notes 86 = .ok (.iaload, 1) := by decide +kernel
theorem dX12_notes_87 : decode cX12_notes 87 = .ok (.iconst 1, 1) := by decide +kernel
theorem dX12_notes_88 : decode cX12_notes 88 = .ok (.iadd, 1) := by decide +kernel
theorem dX12_notes_89 : decode cX12_notes 89 = .ok (.iastore, 1) := by decide +kernel
theorem dX12_notes_90 : decode cX12_notes 90 = .ok (.return_, 1) := by decide +kernel
theorem dX12_leansTo_0 : decode cX12_leansTo 0 = .ok (.iconst (-1), 1) := by decide +kernel
theorem dX12_leansTo_1 : decode cX12_leansTo 1 = .ok (.istore_n 2, 1) := by decide +kernel
theorem dX12_leansTo_2 : decode cX12_leansTo 2 = .ok (.iconst 0, 1) := by decide +kernel
theorem dX12_leansTo_3 : decode cX12_leansTo 3 = .ok (.istore_n 3, 1) := by decide +kernel
theorem dX12_leansTo_4 : decode cX12_leansTo 4 = .ok (.iconst 0, 1) := by decide +kernel
theorem dX12_leansTo_5 : decode cX12_leansTo 5 = .ok (.istore 4, 2) := by decide +kernel
theorem dX12_leansTo_7 : decode cX12_leansTo 7 = .ok (.iload 4, 2) := by decide +kernel
theorem dX12_leansTo_9 : decode cX12_leansTo 9 = .ok (.aload_n 0, 1) := by decide +kernel
theorem dX12_leansTo_10 : decode cX12_leansTo 10 = .ok (.getfield 7, 3) := by decide +kernel
theorem dX12_leansTo_13 : decode cX12_leansTo 13 = .ok (.bipush 87, 2) := by decide +kernel
theorem dX12_leansTo_15 : decode cX12_leansTo 15 = .ok (.iaload, 1) := by decide +kernel
theorem dX12_leansTo_16 : decode cX12_leansTo 16 = .ok (.if_icmp .ge 38, 3) := by decide +kernel
theorem dX12_leansTo_19 : decode cX12_leansTo 19 = .ok (.aload_n 0, 1) := by decide +kernel
theorem dX12_leansTo_20 : decode cX12_leansTo 20 = .ok (.iload_n 1, 1) := by decide +kernel
theorem dX12_leansTo_21 : decode cX12_leansTo 21 = .ok (.iload 4, 2) := by decide +kernel
theorem dX12_leansTo_23 : decode cX12_leansTo 23 = .ok (.invokevirtual 330, 3) := by decide +kernel
theorem dX12_leansTo_26 : decode cX12_leansTo 26 = .ok (.istore 5, 2) := by decide +kernel
theorem dX12_leansTo_28 : decode cX12_leansTo 28 = .ok (.iload_n 2, 1) := by decide +kernel
theorem dX12_leansTo_29 : decode cX12_leansTo 29 = .ok (.iconst (-1), 1) := by decide +kernel
theorem dX12_leansTo_30 : decode cX12_leansTo 30 = .ok (.if_icmp .eq 12, 3) := by decide +kernel
theorem dX12_leansTo_33 : decode cX12_leansTo 33 = .ok (.iload 5, 2) := by decide +kernel
theorem dX12_leansTo_35 : decode cX12_leansTo 35 = .ok (.iload_n 3, 1) := by decide +kernel
theorem dX12_leansTo_36 : decode cX12_leansTo 36 = .ok (.if_icmp .gt 6, 3) := by decide +kernel
theorem dX12_leansTo_39 : decode cX12_leansTo 39 = .ok (.goto 9, 3) := by decide +kernel
theorem dX12_leansTo_42 : decode cX12_leansTo 42 = .ok (.iload 4, 2) := by decide +kernel
theorem dX12_leansTo_44 : decode cX12_leansTo 44 = .ok (.istore_n 2, 1) := by decide +kernel
theorem dX12_leansTo_45 : decode cX12_leansTo 45 = .ok (.iload 5, 2) := by decide +kernel
theorem dX12_leansTo_47 : decode cX12_leansTo 47 = .ok (.istore_n 3, 1) := by decide +kernel
theorem dX12_leansTo_48 : decode cX12_leansTo 48 = .ok (.iinc 4 1, 3) := by decide +kernel
theorem dX12_leansTo_51 : decode cX12_leansTo 51 = .ok (.goto (-44), 3) := by decide +kernel
theorem dX12_leansTo_54 : decode cX12_leansTo 54 = .ok (.iload_n 2, 1) := by decide +kernel
theorem dX12_leansTo_55 : decode cX12_leansTo 55 = .ok (.iconst (-1), 1) := by decide +kernel
theorem dX12_leansTo_56 : decode cX12_leansTo 56 = .ok (.if_icmp .eq 16, 3) := by decide +kernel
theorem dX12_leansTo_59 : decode cX12_leansTo 59 = .ok (.iload_n 3, 1) := by decide +kernel
theorem dX12_leansTo_60 : decode cX12_leansTo 60 = .ok (.aload_n 0, 1) := by decide +kernel
theorem dX12_leansTo_61 : decode cX12_leansTo 61 = .ok (.iload_n 1, 1) := by decide +kernel
theorem dX12_leansTo_62 : decode cX12_leansTo 62 = .ok (.invokevirtual 333, 3) := by decide +kernel
theorem dX12_leansTo_65 : decode cX12_leansTo 65 = .ok (.if_icmp .lt 7, 3) := by decide +kernel
theorem dX12_leansTo_68 : decode cX12_leansTo 68 = .ok (.iload_n 2, 1) := by decide +kernel
theorem dX12_leansTo_69 : decode cX12_leansTo 69 = .ok (.goto 4, 3) := by decide +kernel
theorem dX12_leansTo_72 : decode cX12_leansTo 72 = .ok (.iconst (-1), 1) := by decide +kernel
theorem dX12_leansTo_73 : decode cX12_leansTo 73 = .ok (.ireturn, 1) := by decide +kernel
theorem dX12_aRound_0 : decode cX12_aRound 0 = .ok (.iconst 0, 1) := by decide +kernel
theorem dX12_aRound_1 : decode cX12_aRound 1 = .ok (.istore_n 1, 1) := by decide +kernel
theorem dX12_aRound_2 : decode cX12_aRound 2 = .ok (.iconst 0, 1) := by decide +kernel
theorem dX12_aRound_3 : decode cX12_aRound 3 = .ok (.istore_n 2, 1) := by decide +kernel
theorem dX12_aRound_4 : decode cX12_aRound 4 = .ok (.iload_n 2, 1) := by decide +kernel
theorem dX12_aRound_5 : decode cX12_aRound 5 = .ok (.aload_n 0, 1) := by decide +kernel
theorem dX12_aRound_6 : decode cX12_aRound 6 = .ok (.getfield 7, 3) := by decide +kernel
theorem dX12_aRound_9 : decode cX12_aRound 9 = .ok (.bipush 86, 2) := by decide +kernel
theorem dX12_aRound_11 : decode cX12_aRound 11 = .ok (.iaload, 1) := by decide +kernel
theorem dX12_aRound_12 : decode cX12_aRound 12 = .ok (.if_icmp .ge 70, 3) := by decide +kernel
theorem dX12_aRound_15 : decode cX12_aRound 15 = .ok (.aload_n 0, 1) := by decide +kernel
theorem dX12_aRound_16 : decode cX12_aRound 16 = .ok (.iload_n 2, 1) := by decide +kernel
theorem dX12_aRound_17 : decode cX12_aRound 17 = .ok (.invokevirtual 336, 3) := by decide +kernel
theorem dX12_aRound_20 : decode cX12_aRound 20 = .ok (.ifCond .ne 56, 3) := by decide +kernel
theorem dX12_aRound_23 : decode cX12_aRound 23 = .ok (.aload_n 0, 1) := by decide +kernel
theorem dX12_aRound_24 : decode cX12_aRound 24 = .ok (.getfield 7, 3) := by decide +kernel
theorem dX12_aRound_27 : decode cX12_aRound 27 = .ok (.bipush 8, 2) := by decide +kernel
theorem dX12_aRound_29 : decode cX12_aRound 29 = .ok (.iload_n 2, 1) := by decide +kernel
theorem dX12_aRound_30 : decode cX12_aRound 30 = .ok (.iadd, 1) := by decide +kernel
theorem dX12_aRound_31 : decode cX12_aRound 31 = .ok (.iaload, 1) := by decide +kernel
theorem dX12_aRound_32 : decode cX12_aRound 32 = .ok (.iconst (-1), 1) := by decide +kernel
theorem dX12_aRound_33 : decode cX12_aRound 33 = .ok (.if_icmp .eq 6, 3) := by decide +kernel
theorem dX12_aRound_36 : decode cX12_aRound 36 = .ok (.goto 40, 3) := by decide +kernel
theorem dX12_aRound_39 : decode cX12_aRound 39 = .ok (.aload_n 0, 1) := by decide +kernel
theorem dX12_aRound_40 : decode cX12_aRound 40 = .ok (.getfield 7, 3) := by decide +kernel
theorem dX12_aRound_43 : decode cX12_aRound 43 = .ok (.bipush 8, 2) := by decide +kernel
theorem dX12_aRound_45 : decode cX12_aRound 45 = .ok (.iload_n 2, 1) := by decide +kernel
theorem dX12_aRound_46 : decode cX12_aRound 46 = .ok (.iadd, 1) := by decide +kernel
theorem dX12_aRound_47 : decode cX12_aRound 47 = .ok (.aload_n 0, 1) := by decide +kernel
theorem dX12_aRound_48 : decode cX12_aRound 48 = .ok (.iload_n 2, 1) := by decide +kernel
theorem dX12_aRound_49 : decode cX12_aRound 49 = .ok (.invokevirtual 339, 3) := by decide +kernel
theorem dX12_aRound_52 : decode cX12_aRound 52 = .ok (.iastore, 1) := by decide +kernel
theorem dX12_aRound_53 : decode cX12_aRound 53 = .ok (.iload_n 1, 1) := by decide +kernel
theorem dX12_aRound_54 : decode cX12_aRound 54 = .ok (.ifCond .ne 16, 3) := by decide +kernel
theorem dX12_aRound_57 : decode cX12_aRound 57 = .ok (.aload_n 0, 1) := by decide +kernel
theorem dX12_aRound_58 : decode cX12_aRound 58 = .ok (.getfield 7, 3) := by decide +kernel
theorem dX12_aRound_61 : decode cX12_aRound 61 = .ok (.bipush 8, 2) := by decide +kernel
theorem dX12_aRound_63 : decode cX12_aRound 63 = .ok (.iload_n 2, 1) := by decide +kernel
theorem dX12_aRound_64 : decode cX12_aRound 64 = .ok (.iadd, 1) := by decide +kernel
theorem dX12_aRound_65 : decode cX12_aRound 65 = .ok (.iaload, 1) := by decide +kernel
theorem dX12_aRound_66 : decode cX12_aRound 66 = .ok (.iconst (-1), 1) := by decide +kernel
theorem dX12_aRound_67 : decode cX12_aRound 67 = .ok (.if_icmp .eq 7, 3) := by decide +kernel
theorem dX12_aRound_70 : decode cX12_aRound 70 = .ok (.iconst 1, 1) := by decide +kernel
theorem dX12_aRound_71 : decode cX12_aRound 71 = .ok (.goto 4, 3) := by decide +kernel
theorem dX12_aRound_74 : decode cX12_aRound 74 = .ok (.iconst 0, 1) := by decide +kernel
theorem dX12_aRound_75 : decode cX12_aRound 75 = .ok (.istore_n 1, 1) := by decide +kernel
theorem dX12_aRound_76 : decode cX12_aRound 76 = .ok (.iinc 2 1, 3) := by decide +kernel
theorem dX12_aRound_79 : decode cX12_aRound 79 = .ok (.goto (-75), 3) := by decide +kernel
theorem dX12_aRound_82 : decode cX12_aRound 82 = .ok (.iload_n 1, 1) := by decide +kernel
theorem dX12_aRound_83 : decode cX12_aRound 83 = .ok (.ireturn, 1) := by decide +kernel
theorem dX12_mostFollowed_0 : decode cX12_mostFollowed 0 = .ok (.iconst (-1), 1) := by decide +kernel
theorem dX12_mostFollowed_1 : decode cX12_mostFollowed 1 = .ok (.istore_n 1, 1) := by decide +kernel
theorem dX12_mostFollowed_2 : decode cX12_mostFollowed 2 = .ok (.iconst 0, 1) := by decide +kernel
theorem dX12_mostFollowed_3 : decode cX12_mostFollowed 3 = .ok (.istore_n 2, 1) := by decide +kernel
theorem dX12_mostFollowed_4 : decode cX12_mostFollowed 4 = .ok (.iconst 0, 1) := by decide +kernel
theorem dX12_mostFollowed_5 : decode cX12_mostFollowed 5 = .ok (.istore_n 3, 1) := by decide +kernel
theorem dX12_mostFollowed_6 : decode cX12_mostFollowed 6 = .ok (.iload_n 3, 1) := by decide +kernel
theorem dX12_mostFollowed_7 : decode cX12_mostFollowed 7 = .ok (.aload_n 0, 1) := by decide +kernel
theorem dX12_mostFollowed_8 : decode cX12_mostFollowed 8 = .ok (.getfield 7, 3) := by decide +kernel
theorem dX12_mostFollowed_11 : decode cX12_mostFollowed 11 = .ok (.bipush 87, 2) := by decide +kernel
theorem dX12_mostFollowed_13 : decode cX12_mostFollowed 13 = .ok (.iaload, 1) := by decide +kernel
theorem dX12_mostFollowed_14 : decode cX12_mostFollowed 14 = .ok (.if_icmp .ge 48, 3) := by decide +kernel
theorem dX12_mostFollowed_17 : decode cX12_mostFollowed 17 = .ok (.aload_n 0, 1) := by decide +kernel
theorem dX12_mostFollowed_18 : decode cX12_mostFollowed 18 = .ok (.iload_n 3, 1) := by decide +kernel
theorem dX12_mostFollowed_19 : decode cX12_mostFollowed 19 = .ok (.invokevirtual 317, 3) := by decide +kernel
theorem dX12_mostFollowed_22 : decode cX12_mostFollowed 22 = .ok (.invokestatic 320, 3) := by decide +kernel
theorem dX12_mostFollowed_25 : decode cX12_mostFollowed 25 = .ok (.istore 4, 2) := by decide +kernel
theorem dX12_mostFollowed_27 : decode cX12_mostFollowed 27 = .ok (.iload 4, 2) := by decide +kernel
theorem dX12_mostFollowed_29 : decode cX12_mostFollowed 29 = .ok (.iload_n 2, 1) := by decide +kernel
theorem dX12_mostFollowed_30 : decode cX12_mostFollowed 30 = .ok (.if_icmp .lt 26, 3) := by decide +kernel
theorem dX12_mostFollowed_33 : decode cX12_mostFollowed 33 = .ok (.iload 4, 2) := by decide +kernel
theorem dX12_mostFollowed_35 : decode cX12_mostFollowed 35 = .ok (.ifCond .ne 6, 3) := by decide +kernel
theorem dX12_mostFollowed_38 : decode cX12_mostFollowed 38 = .ok (.goto 18, 3) := by decide +kernel
theorem dX12_mostFollowed_41 : decode cX12_mostFollowed 41 = .ok (.iload 4, 2) := by decide +kernel
theorem dX12_mostFollowed_43 : decode cX12_mostFollowed 43 = .ok (.iload_n 2, 1) := by decide +kernel
theorem dX12_mostFollowed_44 : decode cX12_mostFollowed 44 = .ok (.if_icmp .ne 7, 3) := by decide +kernel
theorem dX12_mostFollowed_47 : decode cX12_mostFollowed 47 = .ok (.iconst (-1), 1) := by decide +kernel
theorem dX12_mostFollowed_48 : decode cX12_mostFollowed 48 = .ok (.goto 4, 3) := by decide +kernel
theorem dX12_mostFollowed_51 : decode cX12_mostFollowed 51 = .ok (.iload_n 3, 1) := by decide +kernel
theorem dX12_mostFollowed_52 : decode cX12_mostFollowed 52 = .ok (.istore_n 1, 1) := by decide +kernel
theorem dX12_mostFollowed_53 : decode cX12_mostFollowed 53 = .ok (.iload 4, 2) := by decide +kernel
theorem dX12_mostFollowed_55 : decode cX12_mostFollowed 55 = .ok (.istore_n 2, 1) := by decide +kernel
theorem dX12_mostFollowed_56 : decode cX12_mostFollowed 56 = .ok (.iinc 3 1, 3) := by decide +kernel
theorem dX12_mostFollowed_59 : decode cX12_mostFollowed 59 = .ok (.goto (-53), 3) := by decide +kernel
theorem dX12_mostFollowed_62 : decode cX12_mostFollowed 62 = .ok (.iload_n 1, 1) := by decide +kernel
theorem dX12_mostFollowed_63 : decode cX12_mostFollowed 63 = .ok (.ireturn, 1) := by decide +kernel
theorem dX12_stand_0 : decode cX12_stand 0 = .ok (.iconst 0, 1) := by decide +kernel
theorem dX12_stand_1 : decode cX12_stand 1 = .ok (.istore_n 1, 1) := by decide +kernel
theorem dX12_stand_2 : decode cX12_stand 2 = .ok (.iload_n 1, 1) := by decide +kernel
theorem dX12_stand_3 : decode cX12_stand 3 = .ok (.bipush 12, 2) := by decide +kernel
theorem dX12_stand_5 : decode cX12_stand 5 = .ok (.if_icmp .ge 19, 3) := by decide +kernel
theorem dX12_stand_8 : decode cX12_stand 8 = .ok (.aload_n 0, 1) := by decide +kernel
theorem dX12_stand_9 : decode cX12_stand 9 = .ok (.getfield 7, 3) := by decide +kernel
theorem dX12_stand_12 : decode cX12_stand 12 = .ok (.bipush 8, 2) := by decide +kernel
theorem dX12_stand_14 : decode cX12_stand 14 = .ok (.iload_n 1, 1) := by decide +kernel
theorem dX12_stand_15 : decode cX12_stand 15 = .ok (.iadd, 1) := by decide +kernel
theorem dX12_stand_16 : decode cX12_stand 16 = .ok (.iconst (-1), 1) := by decide +kernel
theorem dX12_stand_17 : decode cX12_stand 17 = .ok (.iastore, 1) := by decide +kernel
theorem dX12_stand_18 : decode cX12_stand 18 = .ok (.iinc 1 1, 3) := by decide +kernel
theorem dX12_stand_21 : decode cX12_stand 21 = .ok (.goto (-19), 3) := by decide +kernel
theorem dX12_stand_24 : decode cX12_stand 24 = .ok (.iconst 0, 1) := by decide +kernel
theorem dX12_stand_25 : decode cX12_stand 25 = .ok (.istore_n 1, 1) := by decide +kernel
theorem dX12_stand_26 : decode cX12_stand 26 = .ok (.aload_n 0, 1) := by decide +kernel
theorem dX12_stand_27 : decode cX12_stand 27 = .ok (.invokevirtual 342, 3) := by decide +kernel
theorem dX12_stand_30 : decode cX12_stand 30 = .ok (.ifCond .eq 9, 3) := by decide +kernel
theorem dX12_stand_33 : decode cX12_stand 33 = .ok (.iinc 1 1, 3) := by decide +kernel
theorem dX12_stand_36 : decode cX12_stand 36 = .ok (.goto (-10), 3) := by decide +kernel
theorem dX12_stand_39 : decode cX12_stand 39 = .ok (.aload_n 0, 1) := by decide +kernel
theorem dX12_stand_40 : decode cX12_stand 40 = .ok (.getfield 7, 3) := by decide +kernel
theorem dX12_stand_43 : decode cX12_stand 43 = .ok (.iconst 2, 1) := by decide +kernel
theorem dX12_stand_44 : decode cX12_stand 44 = .ok (.aload_n 0, 1) := by decide +kernel
theorem dX12_stand_45 : decode cX12_stand 45 = .ok (.invokevirtual 345, 3) := by decide +kernel
theorem dX12_stand_48 : decode cX12_stand 48 = .ok (.iastore, 1) := by decide +kernel
theorem dX12_stand_49 : decode cX12_stand 49 = .ok (.iload_n 1, 1) := by decide +kernel
theorem dX12_stand_50 : decode cX12_stand 50 = .ok (.ireturn, 1) := by decide +kernel
theorem dX12_votes_0 : decode cX12_votes 0 = .ok (.aload_n 0, 1) := by decide +kernel
theorem dX12_votes_1 : decode cX12_votes 1 = .ok (.invokevirtual 348, 3) := by decide +kernel
theorem dX12_votes_4 : decode cX12_votes 4 = .ok (.pop, 1) := by decide +kernel
theorem dX12_votes_5 : decode cX12_votes 5 = .ok (.aload_n 0, 1) := by decide +kernel
theorem dX12_votes_6 : decode cX12_votes 6 = .ok (.getfield 7, 3) := by decide +kernel
theorem dX12_votes_9 : decode cX12_votes 9 = .ok (.iconst 3, 1) := by decide +kernel
theorem dX12_votes_10 : decode cX12_votes 10 = .ok (.dup2, 1) := by decide +kernel
theorem dX12_votes_11 : decode cX12_votes 11 = .ok (.iaload, 1) := by decide +kernel
theorem dX12_votes_12 : decode cX12_votes 12 = .ok (.aload_n 0, 1) := by decide +kernel
theorem dX12_votes_13 : decode cX12_votes 13 = .ok (.getfield 7, 3) := by decide +kernel
theorem dX12_votes_16 : decode cX12_votes 16 = .ok (.iconst 2, 1) := by decide +kernel
theorem dX12_votes_17 : decode cX12_votes 17 = .ok (.iaload, 1) := by decide +kernel
theorem dX12_votes_18 : decode cX12_votes 18 = .ok (.iconst (-1), 1) := by decide +kernel
theorem dX12_votes_19 : decode cX12_votes 19 = .ok (.if_icmp .ne 7, 3) := by decide +kernel
theorem dX12_votes_22 : decode cX12_votes 22 = .ok (.iconst 1, 1) := by decide +kernel
theorem dX12_votes_23 : decode cX12_votes 23 = .ok (.goto 4, 3) := by decide +kernel
theorem dX12_votes_26 : decode cX12_votes 26 = .ok (.iconst 0, 1) := by decide +kernel
theorem dX12_votes_27 : decode cX12_votes 27 = .ok (.iadd, 1) := by decide +kernel
theorem dX12_votes_28 : decode cX12_votes 28 = .ok (.iastore, 1) := by decide +kernel
theorem dX12_votes_29 : decode cX12_votes 29 = .ok (.aload_n 0, 1) := by decide +kernel
theorem dX12_votes_30 : decode cX12_votes 30 = .ok (.iconst 0, 1) := by decide +kernel
theorem dX12_votes_31 : decode cX12_votes 31 = .ok (.aload_n 0, 1) := by decide +kernel
theorem dX12_votes_32 : decode cX12_votes 32 = .ok (.getfield 7, 3) := by decide +kernel
theorem dX12_votes_35 : decode cX12_votes 35 = .ok (.iconst 2, 1) := by decide +kernel
theorem dX12_votes_36 : decode cX12_votes 36 = .ok (.iaload, 1) := by decide +kernel
theorem dX12_votes_37 : decode cX12_votes 37 = .ok (.aload_n 0, 1) := by decide +kernel
theorem dX12_votes_38 : decode cX12_votes 38 = .ok (.getfield 7, 3) := by decide +kernel
theorem dX12_votes_41 : decode cX12_votes 41 = .ok (.iconst 2, 1) := by decide +kernel
theorem dX12_votes_42 : decode cX12_votes 42 = .ok (.iaload, 1) := by decide +kernel
theorem dX12_votes_43 : decode cX12_votes 43 = .ok (.iconst (-1), 1) := by decide +kernel
theorem dX12_votes_44 : decode cX12_votes 44 = .ok (.if_icmp .ne 7, 3) := by decide +kernel
theorem dX12_votes_47 : decode cX12_votes 47 = .ok (.iconst 0, 1) := by decide +kernel
theorem dX12_votes_48 : decode cX12_votes 48 = .ok (.goto 16, 3) := by decide +kernel
theorem dX12_votes_51 : decode cX12_votes 51 = .ok (.aload_n 0, 1) := by decide +kernel
theorem dX12_votes_52 : decode cX12_votes 52 = .ok (.aload_n 0, 1) := by decide +kernel
theorem dX12_votes_53 : decode cX12_votes 53 = .ok (.getfield 7, 3) := by decide +kernel
theorem dX12_votes_56 : decode cX12_votes 56 = .ok (.iconst 2, 1) := by decide +kernel
theorem dX12_votes_57 : decode cX12_votes 57 = .ok (.iaload, 1) := by decide +kernel
theorem dX12_votes_58 : decode cX12_votes 58 = .ok (.invokevirtual 317, 3) := by decide +kernel
theorem dX12_votes_61 : decode cX12_votes 61 = .ok (.invokestatic 320, 3) := by decide +kernel
theorem dX12_votes_64 : decode cX12_votes 64 = .ok (.invokevirtual 351, 3) := by decide +kernel
theorem dX12_votes_67 : decode cX12_votes 67 = .ok (.return_, 1) := by decide +kernel
theorem dX12_vote_0 : decode cX12_vote 0 = .ok (.aload_n 0, 1) := by decide +kernel
theorem dX12_vote_1 : decode cX12_vote 1 = .ok (.invokevirtual 355, 3) := by decide +kernel
theorem dX12_vote_4 : decode cX12_vote 4 = .ok (.aload_n 0, 1) := by decide +kernel
theorem dX12_vote_5 : decode cX12_vote 5 = .ok (.invokevirtual 358, 3) := by decide +kernel
theorem dX12_vote_8 : decode cX12_vote 8 = .ok (.aload_n 0, 1) := by decide +kernel
theorem dX12_vote_9 : decode cX12_vote 9 = .ok (.getfield 7, 3) := by decide +kernel
theorem dX12_vote_12 : decode cX12_vote 12 = .ok (.iconst 2, 1) := by decide +kernel
theorem dX12_vote_13 : decode cX12_vote 13 = .ok (.iaload, 1) := by decide +kernel
theorem dX12_vote_14 : decode cX12_vote 14 = .ok (.ireturn, 1) := by decide +kernel
theorem dX12_likes_0 : decode cX12_likes 0 = .ok (.aload_n 0, 1) := by decide +kernel
theorem dX12_likes_1 : decode cX12_likes 1 = .ok (.getfield 7, 3) := by decide +kernel
theorem dX12_likes_4 : decode cX12_likes 4 = .ok (.bipush 20, 2) := by decide +kernel
theorem dX12_likes_6 : decode cX12_likes 6 = .ok (.iconst 5, 1) := by decide +kernel
theorem dX12_likes_7 : decode cX12_likes 7 = .ok (.iload_n 1, 1) := by decide +kernel
theorem dX12_likes_8 : decode cX12_likes 8 = .ok (.imul, 1) := by decide +kernel
theorem dX12_likes_9 : decode cX12_likes 9 = .ok (.iadd, 1) := by decide +kernel
theorem dX12_likes_10 : decode cX12_likes 10 = .ok (.iload_n 2, 1) := by decide +kernel
theorem dX12_likes_11 : decode cX12_likes 11 = .ok (.iadd, 1) := by decide +kernel
theorem dX12_likes_12 : decode cX12_likes 12 = .ok (.iconst 0, 1) := by decide +kernel
theorem dX12_likes_13 : decode cX12_likes 13 = .ok (.bipush 99, 2) := by decide +kernel
theorem dX12_likes_15 : decode cX12_likes 15 = .ok (.aload_n 0, 1) := by decide +kernel
theorem dX12_likes_16 : decode cX12_likes 16 = .ok (.iload_n 1, 1) := by decide +kernel
theorem dX12_likes_17 : decode cX12_likes 17 = .ok (.iload_n 2, 1) := by decide +kernel
theorem dX12_likes_18 : decode cX12_likes 18 = .ok (.invokevirtual 314, 3) := by decide +kernel
theorem dX12_likes_21 : decode cX12_likes 21 = .ok (.iload_n 3, 1) := by decide +kernel
theorem dX12_likes_22 : decode cX12_likes 22 = .ok (.iadd, 1) := by decide +kernel
theorem dX12_likes_23 : decode cX12_likes 23 = .ok (.invokestatic 303, 3) := by decide +kernel
theorem dX12_likes_26 : decode cX12_likes 26 = .ok (.invokestatic 307, 3) := by decide +kernel
theorem dX12_likes_29 : decode cX12_likes 29 = .ok (.iastore, 1) := by decide +kernel
theorem dX12_likes_30 : decode cX12_likes 30 = .ok (.return_, 1) := by decide +kernel
theorem dX12_gives_0 : decode cX12_gives 0 = .ok (.aload_n 0, 1) := by decide +kernel
theorem dX12_gives_1 : decode cX12_gives 1 = .ok (.getfield 7, 3) := by decide +kernel
theorem dX12_gives_4 : decode cX12_gives 4 = .ok (.bipush 80, 2) := by decide +kernel
theorem dX12_gives_6 : decode cX12_gives 6 = .ok (.iload_n 1, 1) := by decide +kernel
theorem dX12_gives_7 : decode cX12_gives 7 = .ok (.iadd, 1) := by decide +kernel
theorem dX12_gives_8 : decode cX12_gives 8 = .ok (.iaload, 1) := by decide +kernel
theorem dX12_gives_9 : decode cX12_gives 9 = .ok (.ifCond .ne 5, 3) := by decide +kernel
theorem dX12_gives_12 : decode cX12_gives 12 = .ok (.iconst 0, 1) := by decide +kernel
theorem dX12_gives_13 : decode cX12_gives 13 = .ok (.ireturn, 1) := by decide +kernel
theorem dX12_gives_14 : decode cX12_gives 14 = .ok (.aload_n 0, 1) := by decide +kernel
theorem dX12_gives_15 : decode cX12_gives 15 = .ok (.getfield 7, 3) := by decide +kernel
theorem dX12_gives_18 : decode cX12_gives 18 = .ok (.bipush 80, 2) := by decide +kernel
theorem dX12_gives_20 : decode cX12_gives 20 = .ok (.iload_n 1, 1) := by decide +kernel
theorem dX12_gives_21 : decode cX12_gives 21 = .ok (.iadd, 1) := by decide +kernel
theorem dX12_gives_22 : decode cX12_gives 22 = .ok (.dup2, 1) := by decide +kernel
theorem dX12_gives_23 : decode cX12_gives 23 = .ok (.iaload, 1) := by decide +kernel
theorem dX12_gives_24 : decode cX12_gives 24 = .ok (.iconst 1, 1) := by decide +kernel
theorem dX12_gives_25 : decode cX12_gives 25 = .ok (.isub, 1) := by decide +kernel
theorem dX12_gives_26 : decode cX12_gives 26 = .ok (.iastore, 1) := by decide +kernel
theorem dX12_gives_27 : decode cX12_gives 27 = .ok (.aload_n 0, 1) := by decide +kernel
theorem dX12_gives_28 : decode cX12_gives 28 = .ok (.iload_n 2, 1) := by decide +kernel
theorem dX12_gives_29 : decode cX12_gives 29 = .ok (.iload_n 1, 1) := by decide +kernel
theorem dX12_gives_30 : decode cX12_gives 30 = .ok (.bipush 15, 2) := by decide +kernel
theorem dX12_gives_32 : decode cX12_gives 32 = .ok (.invokevirtual 361, 3) := by decide +kernel
theorem dX12_gives_35 : decode cX12_gives 35 = .ok (.aload_n 0, 1) := by decide +kernel
theorem dX12_gives_36 : decode cX12_gives 36 = .ok (.iconst 1, 1) := by decide +kernel
theorem dX12_gives_37 : decode cX12_gives 37 = .ok (.iload_n 1, 1) := by decide +kernel
theorem dX12_gives_38 : decode cX12_gives 38 = .ok (.iload_n 2, 1) := by decide +kernel
theorem dX12_gives_39 : decode cX12_gives 39 = .ok (.invokevirtual 351, 3) := by decide +kernel
theorem dX12_gives_42 : decode cX12_gives 42 = .ok (.iconst 1, 1) := by decide +kernel
theorem dX12_gives_43 : decode cX12_gives 43 = .ok (.ireturn, 1) := by decide +kernel
theorem dX12_sings_0 : decode cX12_sings 0 = .ok (.iconst 0, 1) := by decide +kernel
theorem dX12_sings_1 : decode cX12_sings 1 = .ok (.istore_n 2, 1) := by decide +kernel
theorem dX12_sings_2 : decode cX12_sings 2 = .ok (.iload_n 2, 1) := by decide +kernel
theorem dX12_sings_3 : decode cX12_sings 3 = .ok (.aload_n 0, 1) := by decide +kernel
theorem dX12_sings_4 : decode cX12_sings 4 = .ok (.getfield 7, 3) := by decide +kernel
theorem dX12_sings_7 : decode cX12_sings 7 = .ok (.bipush 86, 2) := by decide +kernel
theorem dX12_sings_9 : decode cX12_sings 9 = .ok (.iaload, 1) := by decide +kernel
theorem dX12_sings_10 : decode cX12_sings 10 = .ok (.if_icmp .ge 24, 3) := by decide +kernel
theorem dX12_sings_13 : decode cX12_sings 13 = .ok (.aload_n 0, 1) := by decide +kernel
theorem dX12_sings_14 : decode cX12_sings 14 = .ok (.iload_n 2, 1) := by decide +kernel
theorem dX12_sings_15 : decode cX12_sings 15 = .ok (.iload_n 1, 1) := by decide +kernel
theorem dX12_sings_16 : decode cX12_sings 16 = .ok (.aload_n 0, 1) := by decide +kernel
theorem dX12_sings_17 : decode cX12_sings 17 = .ok (.getfield 7, 3) := by decide +kernel
theorem dX12_sings_20 : decode cX12_sings 20 = .ok (.bipush 124, 2) := by decide +kernel
theorem dX12_sings_22 : decode cX12_sings 22 = .ok (.iload_n 1, 1) := by decide +kernel
theorem dX12_sings_23 : decode cX12_sings 23 = .ok (.iadd, 1) := by decide +kernel
theorem dX12_sings_24 : decode cX12_sings 24 = .ok (.iaload, 1) := by decide +kernel
theorem dX12_sings_25 : decode cX12_sings 25 = .ok (.invokevirtual 361, 3) := by decide +kernel
theorem dX12_sings_28 : decode cX12_sings 28 = .ok (.iinc 2 1, 3) := by decide +kernel
theorem dX12_sings_31 : decode cX12_sings 31 = .ok (.goto (-29), 3) := by decide +kernel
theorem dX12_sings_34 : decode cX12_sings 34 = .ok (.aload_n 0, 1) := by decide +kernel
theorem dX12_sings_35 : decode cX12_sings 35 = .ok (.iconst 2, 1) := by decide +kernel
theorem dX12_sings_36 : decode cX12_sings 36 = .ok (.iload_n 1, 1) := by decide +kernel
theorem dX12_sings_37 : decode cX12_sings 37 = .ok (.iconst 0, 1) := by decide +kernel
theorem dX12_sings_38 : decode cX12_sings 38 = .ok (.invokevirtual 351, 3) := by decide +kernel
theorem dX12_sings_41 : decode cX12_sings 41 = .ok (.return_, 1) := by decide +kernel
theorem dX12_whips_0 : decode cX12_whips 0 = .ok (.iconst 0, 1) := by decide +kernel
theorem dX12_whips_1 : decode cX12_whips 1 = .ok (.istore_n 3, 1) := by decide +kernel
theorem dX12_whips_2 : decode cX12_whips 2 = .ok (.iload_n 3, 1) := by decide +kernel
theorem dX12_whips_3 : decode cX12_whips 3 = .ok (.aload_n 0, 1) := by decide +kernel
theorem dX12_whips_4 : decode cX12_whips 4 = .ok (.getfield 7, 3) := by decide +kernel
theorem dX12_whips_7 : decode cX12_whips 7 = .ok (.bipush 87, 2) := by decide +kernel
theorem dX12_whips_9 : decode cX12_whips 9 = .ok (.iaload, 1) := by decide +kernel
theorem dX12_whips_10 : decode cX12_whips 10 = .ok (.if_icmp .ge 26, 3) := by decide +kernel
theorem dX12_whips_13 : decode cX12_whips 13 = .ok (.aload_n 0, 1) := by decide +kernel
theorem dX12_whips_14 : decode cX12_whips 14 = .ok (.iload_n 2, 1) := by decide +kernel
theorem dX12_whips_15 : decode cX12_whips 15 = .ok (.iload_n 3, 1) := by decide +kernel
theorem dX12_whips_16 : decode cX12_whips 16 = .ok (.iload_n 3, 1) := by decide +kernel
theorem dX12_whips_17 : decode cX12_whips 17 = .ok (.iload_n 1, 1) := by decide +kernel
theorem dX12_whips_18 : decode cX12_whips 18 = .ok (.if_icmp .ne 8, 3) := by decide +kernel
theorem dX12_whips_21 : decode cX12_whips 21 = .ok (.bipush (-20), 2) := by decide +kernel
theorem dX12_whips_23 : decode cX12_whips 23 = .ok (.goto 4, 3) := by decide +kernel
theorem dX12_whips_26 : decode cX12_whips 26 = .ok (.iconst 5, 1) := by decide +kernel
theorem dX12_whips_27 : decode cX12_whips 27 = .ok (.invokevirtual 361, 3) := by decide +kernel
theorem dX12_whips_30 : decode cX12_whips 30 = .ok (.iinc 3 1, 3) := by decide +kernel
theorem dX12_whips_33 : decode cX12_whips 33 = .ok (.goto (-31), 3) := by decide +kernel
theorem dX12_whips_36 : decode cX12_whips 36 = .ok (.aload_n 0, 1) := by decide +kernel
theorem dX12_whips_37 : decode cX12_whips 37 = .ok (.iconst 3, 1) := by decide +kernel
theorem dX12_whips_38 : decode cX12_whips 38 = .ok (.iload_n 1, 1) := by decide +kernel
theorem dX12_whips_39 : decode cX12_whips 39 = .ok (.iload_n 2, 1) := by decide +kernel
theorem dX12_whips_40 : decode cX12_whips 40 = .ok (.invokevirtual 351, 3) := by decide +kernel
theorem dX12_whips_43 : decode cX12_whips 43 = .ok (.return_, 1) := by decide +kernel
theorem dX12_act_0 : decode cX12_act 0 = .ok (.iload_n 1, 1) := by decide +kernel
theorem dX12_act_1 : decode cX12_act 1 = .ok (.iconst 0, 1) := by decide +kernel
theorem dX12_act_2 : decode cX12_act 2 = .ok (.iconst 2, 1) := by decide +kernel
theorem dX12_act_3 : decode cX12_act 3 = .ok (.invokestatic 56, 3) := by decide +kernel
theorem dX12_act_6 : decode cX12_act 6 = .ok (.ifCond .eq 40, 3) := by decide +kernel
theorem dX12_act_9 : decode cX12_act 9 = .ok (.aload_n 0, 1) := by decide +kernel
theorem dX12_act_10 : decode cX12_act 10 = .ok (.iload_n 2, 1) := by decide +kernel
theorem dX12_act_11 : decode cX12_act 11 = .ok (.invokevirtual 75, 3) := by decide +kernel
theorem dX12_act_14 : decode cX12_act 14 = .ok (.ifCond .eq 32, 3) := by decide +kernel
theorem dX12_act_17 : decode cX12_act 17 = .ok (.iload_n 1, 1) := by decide +kernel
theorem dX12_act_18 : decode cX12_act 18 = .ok (.iconst 1, 1) := by decide +kernel
theorem dX12_act_19 : decode cX12_act 19 = .ok (.if_icmp .eq 11, 3) := by decide +kernel
theorem dX12_act_22 : decode cX12_act 22 = .ok (.aload_n 0, 1) := by decide +kernel
theorem dX12_act_23 : decode cX12_act 23 = .ok (.iload_n 3, 1) := by decide +kernel
theorem dX12_act_24 : decode cX12_act 24 = .ok (.invokevirtual 72, 3) := by decide +kernel
theorem dX12_act_27 : decode cX12_act 27 = .ok (.ifCond .eq 19, 3) := by decide +kernel
theorem dX12_act_30 : decode cX12_act 30 = .ok (.iload_n 1, 1) := by decide +kernel
theorem dX12_act_31 : decode cX12_act 31 = .ok (.ifCond .ne 17, 3) := by decide +kernel
theorem dX12_act_34 : decode cX12_act 34 = .ok (.aload_n 0, 1) := by decide +kernel
theorem dX12_act_35 : decode cX12_act 35 = .ok (.getfield 7, 3) := by decide +kernel
theorem dX12_act_38 : decode cX12_act 38 = .ok (.bipush 80, 2) := by decide +kernel
theorem dX12_act_40 : decode cX12_act 40 = .ok (.iload_n 2, 1) := by decide +kernel
theorem dX12_act_41 : decode cX12_act 41 = .ok (.iadd, 1) := by decide +kernel
theorem dX12_act_42 : decode cX12_act 42 = .ok (.iaload, 1) := by decide +kernel
theorem dX12_act_43 : decode cX12_act 43 = .ok (.ifCond .ne 5, 3) := by decide +kernel
theorem dX12_act_46 : decode cX12_act 46 = .ok (.iconst 0, 1) := by decide +kernel
theorem dX12_act_47 : decode cX12_act 47 = .ok (.ireturn, 1) := by decide +kernel
theorem dX12_act_48 : decode cX12_act 48 = .ok (.aload_n 0, 1) := by decide +kernel
theorem dX12_act_49 : decode cX12_act 49 = .ok (.invokevirtual 355, 3) := by decide +kernel
theorem dX12_act_52 : decode cX12_act 52 = .ok (.iload_n 1, 1) := by decide +kernel
theorem dX12_act_53 : decode cX12_act 53 = .ok (.iconst 1, 1) := by decide +kernel
theorem dX12_act_54 : decode cX12_act 54 = .ok (.if_icmp .ne 11, 3) := by decide +kernel
theorem dX12_act_57 : decode cX12_act 57 = .ok (.aload_n 0, 1) := by decide +kernel
theorem dX12_act_58 : decode cX12_act 58 = .ok (.iload_n 2, 1) := by decide +kernel
theorem dX12_act_59 : decode cX12_act 59 = .ok (.invokevirtual 364, 3) := by decide +kernel
theorem dX12_act_62 : decode cX12_act 62 = .ok (.goto 24, 3) := by decide +kernel
theorem dX12_act_65 : decode cX12_act 65 = .ok (.iload_n 1, 1) := by decide +kernel
theorem dX12_act_66 : decode cX12_act 66 = .ok (.iconst 2, 1) := by decide +kernel
theorem dX12_act_67 : decode cX12_act 67 = .ok (.if_icmp .ne 12, 3) := by decide +kernel
theorem dX12_act_70 : decode cX12_act 70 = .ok (.aload_n 0, 1) := by decide +kernel
theorem dX12_act_71 : decode cX12_act 71 = .ok (.iload_n 2, 1) := by decide +kernel
theorem dX12_act_72 : decode cX12_act 72 = .ok (.iload_n 3, 1) := by decide +kernel
theorem dX12_act_73 : decode cX12_act 73 = .ok (.invokevirtual 367, 3) := by decide +kernel
theorem dX12_act_76 : decode cX12_act 76 = .ok (.goto 10, 3) := by decide +kernel
theorem dX12_act_79 : decode cX12_act 79 = .ok (.aload_n 0, 1) := by decide +kernel
theorem dX12_act_80 : decode cX12_act 80 = .ok (.iload_n 2, 1) := by decide +kernel
theorem dX12_act_81 : decode cX12_act 81 = .ok (.iload_n 3, 1) := by decide +kernel
theorem dX12_act_82 : decode cX12_act 82 = .ok (.invokevirtual 370, 3) := by decide +kernel
theorem dX12_act_85 : decode cX12_act 85 = .ok (.ireturn, 1) := by decide +kernel
