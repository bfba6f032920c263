theorem dX7_readPath_82 : decode cX7_readPath 82 = .ok (.iconst 0, 1) := by decide +kernel
theorem dX7_readPath_83 : decode cX7_readPath 83 = .ok (.ireturn, 1) := by decide +kernel
theorem dX7_readLoad_0 : decode cX7_readLoad 0 = .ok (.aload_n 0, 1) := by decide +kernel
theorem dX7_readLoad_1 : decode cX7_readLoad 1 = .ok (.getfield 20, 3) := by decide +kernel
theorem dX7_readLoad_4 : decode cX7_readLoad 4 = .ok (.iconst 1, 1) := by decide +kernel
theorem dX7_readLoad_5 : decode cX7_readLoad 5 = .ok (.bipush 40, 2) := by decide +kernel
theorem dX7_readLoad_7 : decode cX7_readLoad 7 = .ok (.iconst (-1), 1) := by decide +kernel
theorem dX7_readLoad_8 : decode cX7_readLoad 8 = .ok (.invokevirtual 82, 3) := by decide +kernel
theorem dX7_readLoad_11 : decode cX7_readLoad 11 = .ok (.istore_n 1, 1) := by decide +kernel
theorem dX7_readLoad_12 : decode cX7_readLoad 12 = .ok (.iload_n 1, 1) := by decide +kernel
theorem dX7_readLoad_13 : decode cX7_readLoad 13 = .ok (.iconst (-1), 1) := by decide +kernel
theorem dX7_readLoad_14 : decode cX7_readLoad 14 = .ok (.if_icmp .eq 15, 3) := by decide +kernel
theorem dX7_readLoad_17 : decode cX7_readLoad 17 = .ok (.aload_n 0, 1) := by decide +kernel
theorem dX7_readLoad_18 : decode cX7_readLoad 18 = .ok (.getfield 20, 3) := by decide +kernel
theorem dX7_readLoad_21 : decode cX7_readLoad 21 = .ok (.ldc 115, 2) := by decide +kernel
theorem dX7_readLoad_23 : decode cX7_readLoad 23 = .ok (.invokevirtual 88, 3) := by decide +kernel
theorem dX7_readLoad_26 : decode cX7_readLoad 26 = .ok (.ifCond .ne 5, 3) := by decide +kernel
theorem dX7_readLoad_29 : decode cX7_readLoad 29 = .ok (.iconst 0, 1) := by decide +kernel
theorem dX7_readLoad_30 : decode cX7_readLoad 30 = .ok (.ireturn, 1) := by decide +kernel
theorem dX7_readLoad_31 : decode cX7_readLoad 31 = .ok (.aload_n 0, 1) := by decide +kernel
theorem dX7_readLoad_32 : decode cX7_readLoad 32 = .ok (.getfield 20, 3) := by decide +kernel
theorem dX7_readLoad_35 : decode cX7_readLoad 35 = .ok (.iconst 1, 1) := by decide +kernel
theorem dX7_readLoad_36 : decode cX7_readLoad 36 = .ok (.bipush 99, 2) := by decide +kernel
theorem dX7_readLoad_38 : decode cX7_readLoad 38 = .ok (.iconst (-1), 1) := by decide +kernel
theorem dX7_readLoad_39 : decode cX7_readLoad 39 = .ok (.invokevirtual 82, 3) := by decide +kernel
theorem dX7_readLoad_42 : decode cX7_readLoad 42 = .ok (.istore_n 2, 1) := by decide +kernel
theorem dX7_readLoad_43 : decode cX7_readLoad 43 = .ok (.aload_n 0, 1) := by decide +kernel
theorem dX7_readLoad_44 : decode cX7_readLoad 44 = .ok (.getfield 14, 3) := by decide +kernel
theorem dX7_readLoad_47 : decode cX7_readLoad 47 = .ok (.iload_n 1, 1) := by decide +kernel
theorem dX7_readLoad_48 : decode cX7_readLoad 48 = .ok (.iload_n 2, 1) := by decide +kernel
theorem dX7_readLoad_49 : decode cX7_readLoad 49 = .ok (.iconst 0, 1) := by decide +kernel
theorem dX7_readLoad_50 : decode cX7_readLoad 50 = .ok (.iconst 0, 1) := by decide +kernel
theorem dX7_readLoad_51 : decode cX7_readLoad 51 = .ok (.invokevirtual 96, 3) := by decide +kernel
theorem dX7_readLoad_54 : decode cX7_readLoad 54 = .ok (.iload_n 2, 1) := by decide +kernel
theorem dX7_readLoad_55 : decode cX7_readLoad 55 = .ok (.iconst (-1), 1) := by decide +kernel
theorem dX7_readLoad_56 : decode cX7_readLoad 56 = .ok (.if_icmp .eq 7, 3) := by decide +kernel
theorem dX7_readLoad_59 : decode cX7_readLoad 59 = .ok (.iconst 1, 1) := by decide +kernel
theorem dX7_readLoad_60 : decode cX7_readLoad 60 = .ok (.goto 4, 3) := by decide +kernel
theorem dX7_readLoad_63 : decode cX7_readLoad 63 = .ok (.iconst 0, 1) := by decide +kernel
theorem dX7_readLoad_64 : decode cX7_readLoad 64 = .ok (.ireturn, 1) := by decide +kernel
theorem dX8_init_0 : decode cX8_init 0 = .ok (.aload_n 0, 1) := by decide +kernel
theorem dX8_init_1 : decode cX8_init 1 = .ok (.invokespecial 3, 3) := by decide +kernel
theorem dX8_init_4 : decode cX8_init 4 = .ok (.aload_n 0, 1) := by decide +kernel
theorem dX8_init_5 : decode cX8_init 5 = .ok (.sipush 400, 3) := by decide +kernel
theorem dX8_init_8 : decode cX8_init 8 = .ok (.newarray .int, 2) := by decide +kernel
theorem dX8_init_10 : decode cX8_init 10 = .ok (.putfield 9, 3) := by decide +kernel
theorem dX8_init_13 : decode cX8_init 13 = .ok (.aload_n 0, 1) := by decide +kernel
theorem dX8_init_14 : decode cX8_init 14 = .ok (.iconst 0, 1) := by decide +kernel
theorem dX8_init_15 : decode cX8_init 15 = .ok (.putfield 15, 3) := by decide +kernel
theorem dX8_init_18 : decode cX8_init 18 = .ok (.aload_n 0, 1) := by decide +kernel
theorem dX8_init_19 : decode cX8_init 19 = .ok (.iconst 0, 1) := by decide +kernel
theorem dX8_init_20 : decode cX8_init 20 = .ok (.putfield 19, 3) := by decide +kernel
theorem dX8_init_23 : decode cX8_init 23 = .ok (.aload_n 0, 1) := by decide +kernel
theorem dX8_init_24 : decode cX8_init 24 = .ok (.iconst 0, 1) := by decide +kernel
theorem dX8_init_25 : decode cX8_init 25 = .ok (.putfield 22, 3) := by decide +kernel
theorem dX8_init_28 : decode cX8_init 28 = .ok (.aload_n 0, 1) := by decide +kernel
theorem dX8_init_29 : decode cX8_init 29 = .ok (.iconst 0, 1) := by decide +kernel
theorem dX8_init_30 : decode cX8_init 30 = .ok (.putfield 25, 3) := by decide +kernel
theorem dX8_init_33 : decode cX8_init 33 = .ok (.aload_n 0, 1) := by decide +kernel
theorem dX8_init_34 : decode cX8_init 34 = .ok (.iconst 0, 1) := by decide +kernel
theorem dX8_init_35 : decode cX8_init 35 = .ok (.putfield 28, 3) := by decide +kernel
theorem dX8_init_38 : decode cX8_init 38 = .ok (.aload_n 0, 1) := by decide +kernel
theorem dX8_init_39 : decode cX8_init 39 = .ok (.iconst 0, 1) := by decide +kernel
theorem dX8_init_40 : decode cX8_init 40 = .ok (.putfield 31, 3) := by decide +kernel
theorem dX8_init_43 : decode cX8_init 43 = .ok (.aload_n 0, 1) := by decide +kernel
theorem dX8_init_44 : decode cX8_init 44 = .ok (.iconst (-1), 1) := by decide +kernel
theorem dX8_init_45 : decode cX8_init 45 = .ok (.putfield 34, 3) := by decide +kernel
theorem dX8_init_48 : decode cX8_init 48 = .ok (.return_, 1) := by decide +kernel
theorem dX8_add_0 : decode cX8_add 0 = .ok (.bipush 24, 2) := by decide +kernel
theorem dX8_add_2 : decode cX8_add 2 = .ok (.istore_n 2, 1) := by decide +kernel
theorem dX8_add_3 : decode cX8_add 3 = .ok (.iload_n 2, 1) := by decide +kernel
theorem dX8_add_4 : decode cX8_add 4 = .ok (.ifCond .lt 52, 3) := by decide +kernel
theorem dX8_add_7 : decode cX8_add 7 = .ok (.aload_n 0, 1) := by decide +kernel
theorem dX8_add_8 : decode cX8_add 8 = .ok (.getfield 15, 3) := by decide +kernel
theorem dX8_add_11 : decode cX8_add 11 = .ok (.ifCond .lt 39, 3) := by decide +kernel
theorem dX8_add_14 : decode cX8_add 14 = .ok (.aload_n 0, 1) := by decide +kernel
theorem dX8_add_15 : decode cX8_add 15 = .ok (.getfield 15, 3) := by decide +kernel
theorem dX8_add_18 : decode cX8_add 18 = .ok (.sipush 400, 3) := by decide +kernel
theorem dX8_add_21 : decode cX8_add 21 = .ok (.if_icmp .ge 29, 3) := by decide +kernel
theorem dX8_add_24 : decode cX8_add 24 = .ok (.aload_n 0, 1) := by decide +kernel
theorem dX8_add_25 : decode cX8_add 25 = .ok (.getfield 9, 3) := by decide +kernel
theorem dX8_add_28 : decode cX8_add 28 = .ok (.aload_n 0, 1) := by decide +kernel
theorem dX8_add_29 : decode cX8_add 29 = .ok (.getfield 15, 3) := by decide +kernel
theorem dX8_add_32 : decode cX8_add 32 = .ok (.iload_n 1, 1) := by decide +kernel
theorem dX8_add_33 : decode cX8_add 33 = .ok (.iload_n 2, 1) := by decide +kernel
theorem dX8_add_34 : decode cX8_add 34 = .ok (.iushr, 1) := by decide +kernel
theorem dX8_add_35 : decode cX8_add 35 = .ok (.sipush 255, 3) := by decide +kernel
theorem dX8_add_38 : decode cX8_add 38 = .ok (.iand, 1) := by decide +kernel
theorem dX8_add_39 : decode cX8_add 39 = .ok (.iastore, 1) := by decide +kernel
theorem dX8_add_40 : decode cX8_add 40 = .ok (.aload_n 0, 1) := by decide +kernel
theorem dX8_add_41 : decode cX8_add 41 = .ok (.dup, 1) := by decide +kernel
theorem dX8_add_42 : decode cX8_add 42 = .ok (.getfield 15, 3) := by decide +kernel
theorem dX8_add_45 : decode cX8_add 45 = .ok (.iconst 1, 1) := by decide +kernel
theorem dX8_add_46 : decode cX8_add 46 = .ok (.iadd, 1) := by decide +kernel
theorem dX8_add_47 : decode cX8_add 47 = .ok (.putfield 15, 3) := by decide +kernel
theorem dX8_add_50 : decode cX8_add 50 = .ok (.iinc 2 (-8), 3) := by decide +kernel
theorem dX8_add_53 : decode cX8_add 53 = .ok (.goto (-50), 3) := by decide +kernel
theorem dX8_add_56 : decode cX8_add 56 = .ok (.return_, 1) := by decide +kernel
theorem dX8_begin_0 : decode cX8_begin 0 = .ok (.aload_n 0, 1) := by decide +kernel
theorem dX8_begin_1 : decode cX8_begin 1 = .ok (.iconst 0, 1) := by decide +kernel
theorem dX8_begin_2 : decode cX8_begin 2 = .ok (.putfield 31, 3) := by decide +kernel
theorem dX8_begin_5 : decode cX8_begin 5 = .ok (.aload_n 0, 1) := by decide +kernel
theorem dX8_begin_6 : decode cX8_begin 6 = .ok (.iconst (-1), 1) := by decide +kernel
theorem dX8_begin_7 : decode cX8_begin 7 = .ok (.putfield 34, 3) := by decide +kernel
theorem dX8_begin_10 : decode cX8_begin 10 = .ok (.aload_n 0, 1) := by decide +kernel
theorem dX8_begin_11 : decode cX8_begin 11 = .ok (.iconst 0, 1) := by decide +kernel
theorem dX8_begin_12 : decode cX8_begin 12 = .ok (.putfield 19, 3) := by decide +kernel
theorem dX8_begin_15 : decode cX8_begin 15 = .ok (.aload_n 0, 1) := by decide +kernel
theorem dX8_begin_16 : decode cX8_begin 16 = .ok (.invokevirtual 37, 3) := by decide +kernel
theorem dX8_begin_19 : decode cX8_begin 19 = .ok (.return_, 1) := by decide +kernel
theorem dX8_next_0 : decode cX8_next 0 = .ok (.aload_n 0, 1) := by decide +kernel
theorem dX8_next_1 : decode cX8_next 1 = .ok (.getfield 19, 3) := by decide +kernel
theorem dX8_next_4 : decode cX8_next 4 = .ok (.aload_n 0, 1) := by decide +kernel
theorem dX8_next_5 : decode cX8_next 5 = .ok (.getfield 15, 3) := by decide +kernel
theorem dX8_next_8 : decode cX8_next 8 = .ok (.if_icmp .ge 42, 3) := by decide +kernel
theorem dX8_next_11 : decode cX8_next 11 = .ok (.aload_n 0, 1) := by decide +kernel
theorem dX8_next_12 : decode cX8_next 12 = .ok (.aload_n 0, 1) := by decide +kernel
theorem dX8_next_13 : decode cX8_next 13 = .ok (.getfield 19, 3) := by decide +kernel
theorem dX8_next_16 : decode cX8_next 16 = .ok (.invokevirtual 40, 3) := by decide +kernel
theorem dX8_next_19 : decode cX8_next 19 = .ok (.bipush 32, 2) := by decide +kernel
theorem dX8_next_21 : decode cX8_next 21 = .ok (.if_icmp .eq 16, 3) := by decide +kernel
theorem dX8_next_24 : decode cX8_next 24 = .ok (.aload_n 0, 1) := by decide +kernel
theorem dX8_next_25 : decode cX8_next 25 = .ok (.aload_n 0, 1) := by decide +kernel
theorem dX8_next_26 : decode cX8_next 26 = .ok (.getfield 19, 3) := by decide +kernel
theorem dX8_next_29 : decode cX8_next 29 = .ok (.invokevirtual 40, 3) := by decide +kernel
theorem dX8_next_32 : decode cX8_next 32 = .ok (.bipush 10, 2) := by decide +kernel
theorem dX8_next_34 : decode cX8_next 34 = .ok (.if_icmp .ne 16, 3) := by decide +kernel
theorem dX8_next_37 : decode cX8_next 37 = .ok (.aload_n 0, 1) := by decide +kernel
theorem dX8_next_38 : decode cX8_next 38 = .ok (.dup, 1) := by decide +kernel
theorem dX8_next_39 : decode cX8_next 39 = .ok (.getfield 19, 3) := by decide +kernel
theorem dX8_next_42 : decode cX8_next 42 = .ok (.iconst 1, 1) := by decide +kernel
theorem dX8_next_43 : decode cX8_next 43 = .ok (.iadd, 1) := by decide +kernel
theorem dX8_next_44 : decode cX8_next 44 = .ok (.putfield 19, 3) := by decide +kernel
theorem dX8_next_47 : decode cX8_next 47 = .ok (.goto (-47), 3) := by decide +kernel
theorem dX8_next_50 : decode cX8_next 50 = .ok (.aload_n 0, 1) := by decide +kernel
theorem dX8_next_51 : decode cX8_next 51 = .ok (.aload_n 0, 1) := by decide +kernel
theorem dX8_next_52 : decode cX8_next 52 = .ok (.getfield 19, 3) := by decide +kernel
theorem dX8_next_55 : decode cX8_next 55 = .ok (.putfield 22, 3) := by decide +kernel
theorem dX8_next_58 : decode cX8_next 58 = .ok (.aload_n 0, 1) := by decide +kernel
theorem dX8_next_59 : decode cX8_next 59 = .ok (.aload_n 0, 1) := by decide +kernel
theorem dX8_next_60 : decode cX8_next 60 = .ok (.aload_n 0, 1) := by decide +kernel
theorem dX8_next_61 : decode cX8_next 61 = .ok (.getfield 19, 3) := by decide +kernel
theorem dX8_next_64 : decode cX8_next 64 = .ok (.invokevirtual 40, 3) := by decide +kernel
theorem dX8_next_67 : decode cX8_next 67 = .ok (.putfield 28, 3) := by decide +kernel
theorem dX8_next_70 : decode cX8_next 70 = .ok (.aload_n 0, 1) := by decide +kernel
theorem dX8_next_71 : decode cX8_next 71 = .ok (.getfield 19, 3) := by decide +kernel
theorem dX8_next_74 : decode cX8_next 74 = .ok (.aload_n 0, 1) := by decide +kernel
theorem dX8_next_75 : decode cX8_next 75 = .ok (.getfield 15, 3) := by decide +kernel
theorem dX8_next_78 : decode cX8_next 78 = .ok (.if_icmp .lt 11, 3) := by decide +kernel
theorem dX8_next_81 : decode cX8_next 81 = .ok (.aload_n 0, 1) := by decide +kernel
theorem dX8_next_82 : decode cX8_next 82 = .ok (.iconst 0, 1) := by decide +kernel
theorem dX8_next_83 : decode cX8_next 83 = .ok (.putfield 25, 3) := by decide +kernel
theorem dX8_next_86 : decode cX8_next 86 = .ok (.goto 152, 3) := by decide +kernel
theorem dX8_next_89 : decode cX8_next 89 = .ok (.aload_n 0, 1) := by decide +kernel
theorem dX8_next_90 : decode cX8_next 90 = .ok (.getfield 28, 3) := by decide +kernel
theorem dX8_next_93 : decode cX8_next 93 = .ok (.invokestatic 44, 3) := by decide +kernel
theorem dX8_next_96 : decode cX8_next 96 = .ok (.ifCond .eq 46, 3) := by decide +kernel
theorem dX8_next_99 : decode cX8_next 99 = .ok (.aload_n 0, 1) := by decide +kernel
theorem dX8_next_100 : decode cX8_next 100 = .ok (.iconst 1, 1) := by decide +kernel
theorem dX8_next_101 : decode cX8_next 101 = .ok (.putfield 25, 3) := by decide +kernel
theorem dX8_next_104 : decode cX8_next 104 = .ok (.aload_n 0, 1) := by decide +kernel
theorem dX8_next_105 : decode cX8_next 105 = .ok (.getfield 19, 3) := by decide +kernel
theorem dX8_next_108 : decode cX8_next 108 = .ok (.aload_n 0, 1) := by decide +kernel
theorem dX8_next_109 : decode cX8_next 109 = .ok (.getfield 15, 3) := by decide +kernel
theorem dX8_next_112 : decode cX8_next 112 = .ok (.if_icmp .ge 126, 3) := by decide +kernel
theorem dX8_next_115 : decode cX8_next 115 = .ok (.aload_n 0, 1) := by decide +kernel
theorem dX8_next_116 : decode cX8_next 116 = .ok (.aload_n 0, 1) := by decide +kernel
theorem dX8_next_117 : decode cX8_next 117 = .ok (.getfield 19, 3) := by decide +kernel
theorem dX8_next_120 : decode cX8_next 120 = .ok (.invokevirtual 40, 3) := by decide +kernel
theorem dX8_next_123 : decode cX8_next 123 = .ok (.invokestatic 44, 3) := by decide +kernel
theorem dX8_next_126 : decode cX8_next 126 = .ok (.ifCond .eq 112, 3) := by decide +kernel
theorem dX8_next_129 : decode cX8_next 129 = .ok (.aload_n 0, 1) := by decide +kernel
theorem dX8_next_130 : decode cX8_next 130 = .ok (.dup, 1) := by decide +kernel
theorem dX8_next_131 : decode cX8_next 131 = .ok (.getfield 19, 3) := by decide +kernel
theorem dX8_next_134 : decode cX8_next 134 = .ok (.iconst 1, 1) := by decide +kernel
theorem dX8_next_135 : decode cX8_next 135 = .ok (.iadd, 1) := by decide +kernel
theorem dX8_next_136 : decode cX8_next 136 = .ok (.putfield 19, 3) := by decide +kernel
theorem dX8_next_139 : decode cX8_next 139 = .ok (.goto (-35), 3) := by decide +kernel
theorem dX8_next_142 : decode cX8_next 142 = .ok (.aload_n 0, 1) := by decide +kernel
theorem dX8_next_143 : decode cX8_next 143 = .ok (.getfield 28, 3) := by decide +kernel
theorem dX8_next_146 : decode cX8_next 146 = .ok (.invokestatic 48, 3) := by decide +kernel
theorem dX8_next_149 : decode cX8_next 149 = .ok (.ifCond .eq 74, 3) := by decide +kernel
theorem dX8_next_152 : decode cX8_next 152 = .ok (.aload_n 0, 1) := by decide +kernel
theorem dX8_next_153 : decode cX8_next 153 = .ok (.iconst 2, 1) := by decide +kernel
theorem dX8_next_154 : decode cX8_next 154 = .ok (.putfield 25, 3) := by decide +kernel
theorem dX8_next_157 : decode cX8_next 157 = .ok (.aload_n 0, 1) := by decide +kernel
theorem dX8_next_158 : decode cX8_next 158 = .ok (.iconst 0, 1) := by decide +kernel
theorem dX8_next_159 : decode cX8_next 159 = .ok (.putfield 28, 3) := by decide +kernel
theorem dX8_next_162 : decode cX8_next 162 = .ok (.aload_n 0, 1) := by decide +kernel
theorem dX8_next_163 : decode cX8_next 163 = .ok (.getfield 19, 3) := by decide +kernel
theorem dX8_next_166 : decode cX8_next 166 = .ok (.aload_n 0, 1) := by decide +kernel
theorem dX8_next_167 : decode cX8_next 167 = .ok (.getfield 15, 3) := by decide +kernel
theorem dX8_next_170 : decode cX8_next 170 = .ok (.if_icmp .ge 68, 3) := by decide +kernel
theorem dX8_next_173 : decode cX8_next 173 = .ok (.aload_n 0, 1) := by decide +kernel
theorem dX8_next_174 : decode cX8_next 174 = .ok (.aload_n 0, 1) := by decide +kernel
theorem dX8_next_175 : decode cX8_next 175 = .ok (.getfield 19, 3) := by decide +kernel
theorem dX8_next_178 : decode cX8_next 178 = .ok (.invokevirtual 40, 3) := by decide +kernel
theorem dX8_next_181 : decode cX8_next 181 = .ok (.invokestatic 48, 3) := by decide +kernel
theorem dX8_next_184 : decode cX8_next 184 = .ok (.ifCond .eq 54, 3) := by decide +kernel
theorem dX8_next_187 : decode cX8_next 187 = .ok (.aload_n 0, 1) := by decide +kernel
theorem dX8_next_188 : decode cX8_next 188 = .ok (.aload_n 0, 1) := by decide +kernel
theorem dX8_next_189 : decode cX8_next 189 = .ok (.getfield 28, 3) := by decide +kernel
theorem dX8_next_192 : decode cX8_next 192 = .ok (.bipush 10, 2) := by decide +kernel
theorem dX8_next_194 : decode cX8_next 194 = .ok (.imul, 1) := by decide +kernel
theorem dX8_next_195 : decode cX8_next 195 = .ok (.aload_n 0, 1) := by decide +kernel
theorem dX8_next_196 : decode cX8_next 196 = .ok (.aload_n 0, 1) := by decide +kernel
theorem dX8_next_197 : decode cX8_next 197 = .ok (.getfield 19, 3) := by decide +kernel
theorem dX8_next_200 : decode cX8_next 200 = .ok (.invokevirtual 40, 3) := by decide +kernel
theorem dX8_next_203 : decode cX8_next 203 = .ok (.iadd, 1) := by decide +kernel
theorem dX8_next_204 : decode cX8_next 204 = .ok (.bipush 48, 2) := by decide +kernel
theorem dX8_next_206 : decode cX8_next 206 = .ok (.isub, 1) := by decide +kernel
theorem dX8_next_207 : decode cX8_next 207 = .ok (.putfield 28, 3) := by decide +kernel
theorem dX8_next_210 : decode cX8_next 210 = .ok (.aload_n 0, 1) := by decide +kernel
theorem dX8_next_211 : decode cX8_next 211 = .ok (.dup, 1) := by decide +kernel
theorem dX8_next_212 : decode cX8_next 212 = .ok (.getfield 19, 3) := by decide +kernel
theorem dX8_next_215 : decode cX8_next 215 = .ok (.iconst 1, 1) := by decide +kernel
theorem dX8_next_216 : decode cX8_next 216 = .ok (.iadd, 1) := by decide +kernel
theorem dX8_next_217 : decode cX8_next 217 = .ok (.putfield 19, 3) := by decide +kernel
theorem dX8_next_220 : decode cX8_next 220 = .ok (.goto (-58), 3) := by decide +kernel
theorem dX8_next_223 : decode cX8_next 223 = .ok (.aload_n 0, 1) := by decide +kernel
theorem dX8_next_224 : decode cX8_next 224 = .ok (.iconst 3, 1) := by decide +kernel
theorem dX8_next_225 : decode cX8_next 225 = .ok (.putfield 25, 3) := by decide +kernel
theorem dX8_next_228 : decode cX8_next 228 = .ok (.aload_n 0, 1) := by decide +kernel
theorem dX8_next_229 : decode cX8_next 229 = .ok (.dup, 1) := by decide +kernel
theorem dX8_next_230 : decode cX8_next 230 = .ok (.getfield 19, 3) := by decide +kernel
theorem dX8_next_233 : decode cX8_next 233 = .ok (.iconst 1, 1) := by decide +kernel
theorem dX8_next_234 : decode cX8_next 234 = .ok (.iadd, 1) := by decide +kernel
theorem dX8_next_235 : decode cX8_next 235 = .ok (.putfield 19, 3) := by decide +kernel
theorem dX8_next_238 : decode cX8_next 238 = .ok (.return_, 1) := by decide +kernel
theorem dX8_byteAt_0 : decode cX8_byteAt 0 = .ok (.iload_n 1, 1) := by decide +kernel
theorem dX8_byteAt_1 : decode cX8_byteAt 1 = .ok (.ifCond .lt 27, 3) := by decide +kernel
theorem dX8_byteAt_4 : decode cX8_byteAt 4 = .ok (.iload_n 1, 1) := by decide +kernel
theorem dX8_byteAt_5 : decode cX8_byteAt 5 = .ok (.aload_n 0, 1) := by decide +kernel
theorem dX8_byteAt_6 : decode cX8_byteAt 6 = .ok (.getfield 15, 3) := by decide +kernel
theorem dX8_byteAt_9 : decode cX8_byteAt 9 = .ok (.if_icmp .ge 19, 3) := by decide +kernel
theorem dX8_byteAt_12 : decode cX8_byteAt 12 = .ok (.iload_n 1, 1) := by decide +kernel
theorem dX8_byteAt_13 : decode cX8_byteAt 13 = .ok (.sipush 400, 3) := by decide +kernel
theorem dX8_byteAt_16 : decode cX8_byteAt 16 = .ok (.if_icmp .ge 12, 3) := by decide +kernel
theorem dX8_byteAt_19 : decode cX8_byteAt 19 = .ok (.aload_n 0, 1) := by decide +kernel
theorem dX8_byteAt_20 : decode cX8_byteAt 20 = .ok (.getfield 9, 3) := by decide +kernel
theorem dX8_byteAt_23 : decode cX8_byteAt 23 = .ok (.iload_n 1, 1) := by decide +kernel
theorem dX8_byteAt_24 : decode cX8_byteAt 24 = .ok (.iaload, 1) := by decide +kernel
theorem dX8_byteAt_25 : decode cX8_byteAt 25 = .ok (.goto 4, 3) := by decide +kernel
theorem dX8_byteAt_28 : decode cX8_byteAt 28 = .ok (.iconst (-1), 1) := by decide +kernel
theorem dX8_byteAt_29 : decode cX8_byteAt 29 = .ok (.ireturn, 1) := by decide +kernel
theorem dX8_isLetter_0 : decode cX8_isLetter 0 = .ok (.iload_n 0, 1) := by decide +kernel
theorem dX8_isLetter_1 : decode cX8_isLetter 1 = .ok (.bipush 97, 2) := by decide +kernel
theorem dX8_isLetter_3 : decode cX8_isLetter 3 = .ok (.if_icmp .lt 9, 3) := by decide +kernel
theorem dX8_isLetter_6 : decode cX8_isLetter 6 = .ok (.iload_n 0, 1) := by decide +kernel
theorem dX8_isLetter_7 : decode cX8_isLetter 7 = .ok (.bipush 122, 2) := by decide +kernel
theorem dX8_isLetter_9 : decode cX8_isLetter 9 = .ok (.if_icmp .le 15, 3) := by decide +kernel
theorem dX8_isLetter_12 : decode cX8_isLetter 12 = .ok (.iload_n 0, 1) := by decide +kernel
theorem dX8_isLetter_13 : decode cX8_isLetter 13 = .ok (.bipush 65, 2) := by decide +kernel
theorem dX8_isLetter_15 : decode cX8_isLetter 15 = .ok (.if_icmp .lt 13, 3) := by decide +kernel
theorem dX8_isLetter_18 : decode cX8_isLetter 18 = .ok (.iload_n 0, 1) := by decide +kernel
theorem dX8_isLetter_19 : decode cX8_isLetter 19 = .ok (.bipush 90, 2) := by decide +kernel
theorem dX8_isLetter_21 : decode cX8_isLetter 21 = .ok (.if_icmp .gt 7, 3) := by decide +kernel
theorem dX8_isLetter_24 : decode cX8_isLetter 24 = .ok (.iconst 1, 1) := by decide +kernel
theorem dX8_isLetter_25 : decode cX8_isLetter 25 = .ok (.goto 4, 3) := by decide +kernel
theorem dX8_isLetter_28 : decode cX8_isLetter 28 = .ok (.iconst 0, 1) := by decide +kernel
theorem dX8_isLetter_29 : decode cX8_isLetter 29 = .ok (.ireturn, 1) := by decide +kernel
theorem dX8_isDigit_0 : decode cX8_isDigit 0 = .ok (.iload_n 0, 1) := by decide +kernel
theorem dX8_isDigit_1 : decode cX8_isDigit 1 = .ok (.bipush 48, 2) := by decide +kernel
theorem dX8_isDigit_3 : decode cX8_isDigit 3 = .ok (.if_icmp .lt 13, 3) := by decide +kernel
theorem dX8_isDigit_6 : decode cX8_isDigit 6 = .ok (.iload_n 0, 1) := by decide +kernel
theorem dX8_isDigit_7 : decode cX8_isDigit 7 = .ok (.bipush 57, 2) := by decide +kernel
theorem dX8_isDigit_9 : decode cX8_isDigit 9 = .ok (.if_icmp .gt 7, 3) := by decide +kernel
theorem dX8_isDigit_12 : decode cX8_isDigit 12 = .ok (.iconst 1, 1) := by decide +kernel
theorem dX8_isDigit_13 : decode cX8_isDigit 13 = .ok (.goto 4, 3) := by decide +kernel
theorem dX8_isDigit_16 : decode cX8_isDigit 16 = .ok (.iconst 0, 1) := by decide +kernel
theorem dX8_isDigit_17 : decode cX8_isDigit 17 = .ok (.ireturn, 1) := by decide +kernel
theorem dX8_isEnd_0 : decode cX8_isEnd 0 = .ok (.aload_n 0, 1) := by decide +kernel
theorem dX8_isEnd_1 : decode cX8_isEnd 1 = .ok (.getfield 25, 3) := by decide +kernel
theorem dX8_isEnd_4 : decode cX8_isEnd 4 = .ok (.ifCond .ne 7, 3) := by decide +kernel
theorem dX8_isEnd_7 : decode cX8_isEnd 7 = .ok (.iconst 1, 1) := by decide +kernel
theorem dX8_isEnd_8 : decode cX8_isEnd 8 = .ok (.goto 4, 3) := by decide +kernel
theorem dX8_isEnd_11 : decode cX8_isEnd 11 = .ok (.iconst 0, 1) := by decide +kernel
theorem dX8_isEnd_12 : decode cX8_isEnd 12 = .ok (.ireturn, 1) := by decide +kernel
theorem dX8_isSign_0 : decode cX8_isSign 0 = .ok (.aload_n 0, 1) := by decide +kernel
theorem dX8_isSign_1 : decode cX8_isSign 1 = .ok (.getfield 25, 3) := by decide +kernel
theorem dX8_isSign_4 : decode cX8_isSign 4 = .ok (.iconst 3, 1) := by decide +kernel
theorem dX8_isSign_5 : decode cX8_isSign 5 = .ok (.if_icmp .ne 15, 3) := by decide +kernel
theorem dX8_isSign_8 : decode cX8_isSign 8 = .ok (.aload_n 0, 1) := by decide +kernel
theorem dX8_isSign_9 : decode cX8_isSign 9 = .ok (.getfield 28, 3) := by decide +kernel
theorem dX8_isSign_12 : decode cX8_isSign 12 = .ok (.iload_n 1, 1) := by decide +kernel
theorem dX8_isSign_13 : decode cX8_isSign 13 = .ok (.if_icmp .ne 7, 3) := by decide +kernel
theorem dX8_isSign_16 : decode cX8_isSign 16 = .ok (.iconst 1, 1) := by decide +kernel
theorem dX8_isSign_17 : decode cX8_isSign 17 = .ok (.goto 4, 3) := by decide +kernel
theorem dX8_isSign_20 : decode cX8_isSign 20 = .ok (.iconst 0, 1) := by decide +kernel
theorem dX8_isSign_21 : decode cX8_isSign 21 = .ok (.ireturn, 1) := by decide +kernel
theorem dX8_isNumber_0 : decode cX8_isNumber 0 = .ok (.aload_n 0, 1) := by decide +kernel
theorem dX8_isNumber_1 : decode cX8_isNumber 1 = .ok (.getfield 25, 3) := by decide +kernel
theorem dX8_isNumber_4 : decode cX8_isNumber 4 = .ok (.iconst 2, 1) := by decide +kernel
theorem dX8_isNumber_5 : decode cX8_isNumber 5 = .ok (.if_icmp .ne 20, 3) := by decide +kernel
theorem dX8_isNumber_8 : decode cX8_isNumber 8 = .ok (.aload_n 0, 1) := by decide +kernel
theorem dX8_isNumber_9 : decode cX8_isNumber 9 = .ok (.getfield 19, 3) := by decide +kernel
theorem dX8_isNumber_12 : decode cX8_isNumber 12 = .ok (.aload_n 0, 1) := by decide +kernel
theorem dX8_isNumber_13 : decode cX8_isNumber 13 = .ok (.getfield 22, 3) := by decide +kernel
theorem dX8_isNumber_16 : decode cX8_isNumber 16 = .ok (.isub, 1) := by decide +kernel
theorem dX8_isNumber_17 : decode cX8_isNumber 17 = .ok (.iconst 4, 1) := by decide +kernel
theorem dX8_isNumber_18 : decode cX8_isNumber 18 = .ok (.if_icmp .gt 7, 3) := by decide +kernel
theorem dX8_isNumber_21 : decode cX8_isNumber 21 = .ok (.iconst 1, 1) := by decide +kernel
theorem dX8_isNumber_22 : decode cX8_isNumber 22 = .ok (.goto 4, 3) := by decide +kernel
theorem dX8_isNumber_25 : decode cX8_isNumber 25 = .ok (.iconst 0, 1) := by decide +kernel
theorem dX8_isNumber_26 : decode cX8_isNumber 26 = .ok (.ireturn, 1) := by decide +kernel
theorem dX8_number_0 : decode cX8_number 0 = .ok (.aload_n 0, 1) := by decide +kernel
theorem dX8_number_1 : decode cX8_number 1 = .ok (.getfield 28, 3) := by decide +kernel
theorem dX8_number_4 : decode cX8_number 4 = .ok (.ireturn, 1) := by decide +kernel
theorem dX8_isWord_0 : decode cX8_isWord 0 = .ok (.aload_n 0, 1) := by decide +kernel
theorem dX8_isWord_1 : decode cX8_isWord 1 = .ok (.getfield 25, 3) := by decide +kernel
theorem dX8_isWord_4 : decode cX8_isWord 4 = .ok (.iconst 1, 1) := by decide +kernel
theorem dX8_isWord_5 : decode cX8_isWord 5 = .ok (.if_icmp .ne 19, 3) := by decide +kernel
theorem dX8_isWord_8 : decode cX8_isWord 8 = .ok (.aload_n 0, 1) := by decide +kernel
theorem dX8_isWord_9 : decode cX8_isWord 9 = .ok (.getfield 19, 3) := by decide +kernel
theorem dX8_isWord_12 : decode cX8_isWord 12 = .ok (.aload_n 0, 1) := by decide +kernel
theorem dX8_isWord_13 : decode cX8_isWord 13 = .ok (.getfield 22, 3) := by decide +kernel
theorem dX8_isWord_16 : decode cX8_isWord 16 = .ok (.isub, 1) := by decide +kernel
theorem dX8_isWord_17 : decode cX8_isWord 17 = .ok (.aload_n 1, 1) := by decide +kernel
theorem dX8_isWord_18 : decode cX8_isWord 18 = .ok (.invokevirtual 51, 3) := by decide +kernel
theorem dX8_isWord_21 : decode cX8_isWord 21 = .ok (.if_icmp .eq 5, 3) := by decide +kernel
theorem dX8_isWord_24 : decode cX8_isWord 24 = .ok (.iconst 0, 1) := by decide +kernel
theorem dX8_isWord_25 : decode cX8_isWord 25 = .ok (.ireturn, 1) := by decide +kernel
theorem dX8_isWord_26 : decode cX8_isWord 26 = .ok (.iconst 0, 1) := by decide +kernel
theorem dX8_isWord_27 : decode cX8_isWord 27 = .ok (.istore_n 2, 1) := by decide +kernel
theorem dX8_isWord_28 : decode cX8_isWord 28 = .ok (.iload_n 2, 1) := by decide +kernel
theorem dX8_isWord_29 : decode cX8_isWord 29 = .ok (.aload_n 1, 1) := by decide +kernel
theorem dX8_isWord_30 : decode cX8_isWord 30 = .ok (.invokevirtual 51, 3) := by decide +kernel
theorem dX8_isWord_33 : decode cX8_isWord 33 = .ok (.if_icmp .ge 29, 3) := by decide +kernel
theorem dX8_isWord_36 : decode cX8_isWord 36 = .ok (.aload_n 0, 1) := by decide +kernel
theorem dX8_isWord_37 : decode cX8_isWord 37 = .ok (.aload_n 0, 1) := by decide +kernel
theorem dX8_isWord_38 : decode cX8_isWord 38 = .ok (.getfield 22, 3) := by decide +kernel
theorem dX8_isWord_41 : decode cX8_isWord 41 = .ok (.iload_n 2, 1) := by decide +kernel
theorem dX8_isWord_42 : decode cX8_isWord 42 = .ok (.iadd, 1) := by decide +kernel
theorem dX8_isWord_43 : decode cX8_isWord 43 = .ok (.invokevirtual 40, 3) := by decide +kernel
theorem dX8_isWord_46 : decode cX8_isWord 46 = .ok (.aload_n 1, 1) := by decide +kernel
theorem dX8_isWord_47 : decode cX8_isWord 47 = .ok (.iload_n 2, 1) := by decide +kernel
theorem dX8_isWord_48 : decode cX8_isWord 48 = .ok (.invokevirtual 56, 3) := by decide +kernel
theorem dX8_isWord_51 : decode cX8_isWord 51 = .ok (.if_icmp .eq 5, 3) := by decide +kernel
theorem dX8_isWord_54 : decode cX8_isWord 54 = .ok (.iconst 0, 1) := by decide +kernel
theorem dX8_isWord_55 : decode cX8_isWord 55 = .ok (.ireturn, 1) := by decide +kernel
theorem dX8_isWord_56 : decode cX8_isWord 56 = .ok (.iinc 2 1, 3) := by decide +kernel
theorem dX8_isWord_59 : decode cX8_isWord 59 = .ok (.goto (-31), 3) := by decide +kernel
theorem dX8_isWord_62 : decode cX8_isWord 62 = .ok (.iconst 1, 1) := by decide +kernel
theorem dX8_isWord_63 : decode cX8_isWord 63 = .ok (.ireturn, 1) := by decide +kernel
theorem dX8_takeSign_0 : decode cX8_takeSign 0 = .ok (.aload_n 0, 1) := by decide +kernel
theorem dX8_takeSign_1 : decode cX8_takeSign 1 = .ok (.iload_n 1, 1) := by decide +kernel
theorem dX8_takeSign_2 : decode cX8_takeSign 2 = .ok (.invokevirtual 60, 3) := by decide +kernel
theorem dX8_takeSign_5 : decode cX8_takeSign 5 = .ok (.ifCond .ne 5, 3) := by decide +kernel
theorem dX8_takeSign_8 : decode cX8_takeSign 8 = .ok (.iconst 0, 1) := by decide +kernel
theorem dX8_takeSign_9 : decode cX8_takeSign 9 = .ok (.ireturn, 1) := by decide +kernel
theorem dX8_takeSign_10 : decode cX8_takeSign 10 = .ok (.aload_n 0, 1) := by decide +kernel
theorem dX8_takeSign_11 : decode cX8_takeSign 11 = .ok (.invokevirtual 37, 3) := by decide +kernel
theorem dX8_takeSign_14 : decode cX8_takeSign 14 = .ok (.iconst 1, 1) := by decide +kernel
theorem dX8_takeSign_15 : decode cX8_takeSign 15 = .ok (.ireturn, 1) := by decide +kernel
theorem dX8_takeWord_0 : decode cX8_takeWord 0 = .ok (.aload_n 0, 1) := by decide +kernel
theorem dX8_takeWord_1 : decode cX8_takeWord 1 = .ok (.aload_n 1, 1) := by decide +kernel
theorem dX8_takeWord_2 : decode cX8_takeWord 2 = .ok (.invokevirtual 64, 3) := by decide +kernel
theorem dX8_takeWord_5 : decode cX8_takeWord 5 = .ok (.ifCond .ne 5, 3) := by decide +kernel
theorem dX8_takeWord_8 : decode cX8_takeWord 8 = .ok (.iconst 0, 1) := by decide +kernel
theorem dX8_takeWord_9 : decode cX8_takeWord 9 = .ok (.ireturn, 1) := by decide +kernel
theorem dX8_takeWord_10 : decode cX8_takeWord 10 = .ok (.aload_n 0, 1) := by decide +kernel
theorem dX8_takeWord_11 : decode cX8_takeWord 11 = .ok (.invokevirtual 37, 3) := by decide +kernel
theorem dX8_takeWord_14 : decode cX8_takeWord 14 = .ok (.iconst 1, 1) := by decide +kernel
theorem dX8_takeWord_15 : decode cX8_takeWord 15 = .ok (.ireturn, 1) := by decide +kernel
theorem dX8_expectWord_0 : decode cX8_expectWord 0 = .ok (.aload_n 0, 1) := by decide +kernel
theorem dX8_expectWord_1 : decode cX8_expectWord 1 = .ok (.aload_n 1, 1) := by decide +kernel
theorem dX8_expectWord_2 : decode cX8_expectWord 2 = .ok (.invokevirtual 68, 3) := by decide +kernel
theorem dX8_expectWord_5 : decode cX8_expectWord 5 = .ok (.ifCond .ne 11, 3) := by decide +kernel
theorem dX8_expectWord_8 : decode cX8_expectWord 8 = .ok (.aload_n 0, 1) := by decide +kernel
theorem dX8_expectWord_9 : decode cX8_expectWord 9 = .ok (.iconst 1, 1) := by decide +kernel
theorem dX8_expectWord_10 : decode cX8_expectWord 10 = .ok (.invokevirtual 71, 3) := by decide +kernel
theorem dX8_expectWord_13 : decode cX8_expectWord 13 = .ok (.ifCond .eq 7, 3) := by decide +kernel
theorem dX8_expectWord_16 : decode cX8_expectWord 16 = .ok (.iconst 1, 1) := by decide +kernel
theorem dX8_expectWord_17 : decode cX8_expectWord 17 = .ok (.goto 4, 3) := by decide +kernel
theorem dX8_expectWord_20 : decode cX8_expectWord 20 = .ok (.iconst 0, 1) := by decide +kernel
theorem dX8_expectWord_21 : decode cX8_expectWord 21 = .ok (.ireturn, 1) := by decide +kernel
theorem dX8_expectSign_0 : decode cX8_expectSign 0 = .ok (.aload_n 0, 1) := by decide +kernel
theorem dX8_expectSign_1 : decode cX8_expectSign 1 = .ok (.iload_n 1, 1) := by decide +kernel
theorem dX8_expectSign_2 : decode cX8_expectSign 2 = .ok (.invokevirtual 74, 3) := by decide +kernel
theorem dX8_expectSign_5 : decode cX8_expectSign 5 = .ok (.ifCond .ne 11, 3) := by decide +kernel
theorem dX8_expectSign_8 : decode cX8_expectSign 8 = .ok (.aload_n 0, 1) := by decide +kernel
theorem dX8_expectSign_9 : decode cX8_expectSign 9 = .ok (.iconst 1, 1) := by decide +kernel
theorem dX8_expectSign_10 : decode cX8_expectSign 10 = .ok (.invokevirtual 71, 3) := by decide +kernel
theorem dX8_expectSign_13 : decode cX8_expectSign 13 = .ok (.ifCond .eq 7, 3) := by decide +kernel
theorem dX8_expectSign_16 : decode cX8_expectSign 16 = .ok (.iconst 1, 1) := by decide +kernel
theorem dX8_expectSign_17 : decode cX8_expectSign 17 = .ok (.goto 4, 3) := by decide +kernel
theorem dX8_expectSign_20 : decode cX8_expectSign 20 = .ok (.iconst 0, 1) := by decide +kernel
theorem dX8_expectSign_21 : decode cX8_expectSign 21 = .ok (.ireturn, 1) := by decide +kernel
theorem dX8_expectNumber_0 : decode cX8_expectNumber 0 = .ok (.aload_n 0, 1) := by decide +kernel
theorem dX8_expectNumber_1 : decode cX8_expectNumber 1 = .ok (.invokevirtual 77, 3) := by decide +kernel
theorem dX8_expectNumber_4 : decode cX8_expectNumber 4 = .ok (.ifCond .ne 11, 3) := by decide +kernel
theorem dX8_expectNumber_7 : decode cX8_expectNumber 7 = .ok (.aload_n 0, 1) := by decide +kernel
theorem dX8_expectNumber_8 : decode cX8_expectNumber 8 = .ok (.iconst 1, 1) := by decide +kernel
theorem dX8_expectNumber_9 : decode cX8_expectNumber 9 = .ok (.invokevirtual 71, 3) := by decide +kernel
theorem dX8_expectNumber_12 : decode cX8_expectNumber 12 = .ok (.pop, 1) := by decide +kernel
theorem dX8_expectNumber_13 : decode cX8_expectNumber 13 = .ok (.iconst (-1), 1) := by decide +kernel
theorem dX8_expectNumber_14 : decode cX8_expectNumber 14 = .ok (.ireturn, 1) := by decide +kernel
theorem dX8_expectNumber_15 : decode cX8_expectNumber 15 = .ok (.aload_n 0, 1) := by decide +kernel
theorem dX8_expectNumber_16 : decode cX8_expectNumber 16 = .ok (.getfield 28, 3) := by decide +kernel
theorem dX8_expectNumber_19 : decode cX8_expectNumber 19 = .ok (.istore 4, 2) := by decide +kernel
theorem dX8_expectNumber_21 : decode cX8_expectNumber 21 = .ok (.iload 4, 2) := by decide +kernel
theorem dX8_expectNumber_23 : decode cX8_expectNumber 23 = .ok (.iload_n 1, 1) := by decide +kernel
theorem dX8_expectNumber_24 : decode cX8_expectNumber 24 = .ok (.if_icmp .lt 15, 3) := by decide +kernel
theorem dX8_expectNumber_27 : decode cX8_expectNumber 27 = .ok (.iload 4, 2) := by decide +kernel
theorem dX8_expectNumber_29 : decode cX8_expectNumber 29 = .ok (.iload_n 2, 1) := by decide +kernel
theorem dX8_expectNumber_30 : decode cX8_expectNumber 30 = .ok (.if_icmp .gt 9, 3) := by decide +kernel
theorem dX8_expectNumber_33 : decode cX8_expectNumber 33 = .ok (.iload 4, 2) := by decide +kernel
theorem dX8_expectNumber_35 : decode cX8_expectNumber 35 = .ok (.iload_n 3, 1) := by decide +kernel
theorem dX8_expectNumber_36 : decode cX8_expectNumber 36 = .ok (.if_icmp .ne 11, 3) := by decide +kernel
theorem dX8_expectNumber_39 : decode cX8_expectNumber 39 = .ok (.aload_n 0, 1) := by decide +kernel
theorem dX8_expectNumber_40 : decode cX8_expectNumber 40 = .ok (.iconst 2, 1) := by decide +kernel
theorem dX8_expectNumber_41 : decode cX8_expectNumber 41 = .ok (.invokevirtual 71, 3) := by decide +kernel
theorem dX8_expectNumber_44 : decode cX8_expectNumber 44 = .ok (.pop, 1) := by decide +kernel
theorem dX8_expectNumber_45 : decode cX8_expectNumber 45 = .ok (.iconst (-1), 1) := by decide +kernel
theorem dX8_expectNumber_46 : decode cX8_expectNumber 46 = .ok (.ireturn, 1) := by decide +kernel
theorem dX8_expectNumber_47 : decode cX8_expectNumber 47 = .ok (.aload_n 0, 1) := by decide +kernel
theorem dX8_expectNumber_48 : decode cX8_expectNumber 48 = .ok (.invokevirtual 37, 3) := by decide +kernel
theorem dX8_expectNumber_51 : decode cX8_expectNumber 51 = .ok (.iload 4, 2) := by decide +kernel
theorem dX8_expectNumber_53 : decode cX8_expectNumber 53 = .ok (.ireturn, 1) := by decide +kernel
theorem dX8_fail_0 : decode cX8_fail 0 = .ok (.aload_n 0, 1) := by decide +kernel
theorem dX8_fail_1 : decode cX8_fail 1 = .ok (.iload_n 1, 1) := by decide +kernel
theorem dX8_fail_2 : decode cX8_fail 2 = .ok (.putfield 31, 3) := by decide +kernel
theorem dX8_fail_5 : decode cX8_fail 5 = .ok (.aload_n 0, 1) := by decide +kernel
theorem dX8_fail_6 : decode cX8_fail 6 = .ok (.aload_n 0, 1) := by decide +kernel
theorem dX8_fail_7 : decode cX8_fail 7 = .ok (.getfield 22, 3) := by decide +kernel
theorem dX8_fail_10 : decode cX8_fail 10 = .ok (.putfield 34, 3) := by decide +kernel
theorem dX8_fail_13 : decode cX8_fail 13 = .ok (.iconst 0, 1) := by decide +kernel
theorem dX8_fail_14 : decode cX8_fail 14 = .ok (.ireturn, 1) := by decide +kernel
theorem dX9_init_0 : decode cX9_init 0 = .ok (.aload_n 0, 1) := by decide +kernel
theorem dX9_init_1 : decode cX9_init 1 = .ok (.invokespecial 3, 3) := by decide +kernel
theorem dX9_init_4 : decode cX9_init 4 = .ok (.aload_n 0, 1) := by decide +kernel
theorem dX9_init_5 : decode cX9_init 5 = .ok (.bipush 12, 2) := by decide +kernel
theorem dX9_init_7 : decode cX9_init 7 = .ok (.newarray .int, 2) := by decide +kernel
theorem dX9_init_9 : decode cX9_init 9 = .ok (.putfield 9, 3) := by decide +kernel
theorem dX9_init_12 : decode cX9_init 12 = .ok (.aload_n 0, 1) := by decide +kernel
theorem dX9_init_13 : decode cX9_init 13 = .ok (.bipush 12, 2) := by decide +kernel
theorem dX9_init_15 : decode cX9_init 15 = .ok (.newarray .int, 2) := by decide +kernel
theorem dX9_init_17 : decode cX9_init 17 = .ok (.putfield 15, 3) := by decide +kernel
theorem dX9_init_20 : decode cX9_init 20 = .ok (.aload_n 0, 1) := by decide +kernel
theorem dX9_init_21 : decode cX9_init 21 = .ok (.bipush 12, 2) := by decide +kernel
theorem dX9_init_23 : decode cX9_init 23 = .ok (.newarray .int, 2) := by decide +kernel
theorem dX9_init_25 : decode cX9_init 25 = .ok (.putfield 18, 3) := by decide +kernel
theorem dX9_init_28 : decode cX9_init 28 = .ok (.aload_n 0, 1) := by decide +kernel
theorem dX9_init_29 : decode cX9_init 29 = .ok (.bipush 12, 2) := by decide +kernel
theorem dX9_init_31 : decode cX9_init 31 = .ok (.newarray .int, 2) := by decide +kernel
theorem dX9_init_33 : decode cX9_init 33 = .ok (.putfield 21, 3) := by decide +kernel
theorem dX9_init_36 : decode cX9_init 36 = .ok (.aload_n 0, 1) := by decide +kernel
theorem dX9_init_37 : decode cX9_init 37 = .ok (.iconst 5, 1) := by decide +kernel
theorem dX9_init_38 : decode cX9_init 38 = .ok (.newarray .int, 2) := by decide +kernel
theorem dX9_init_40 : decode cX9_init 40 = .ok (.putfield 24, 3) := by decide +kernel
theorem dX9_init_43 : decode cX9_init 43 = .ok (.aload_n 0, 1) := by decide +kernel
theorem dX9_init_44 : decode cX9_init 44 = .ok (.iconst 5, 1) := by decide +kernel
theorem dX9_init_45 : decode cX9_init 45 = .ok (.newarray .int, 2) := by decide +kernel
theorem dX9_init_47 : decode cX9_init 47 = .ok (.putfield 27, 3) := by decide +kernel
theorem dX9_init_50 : decode cX9_init 50 = .ok (.aload_n 0, 1) := by decide +kernel
theorem dX9_init_51 : decode cX9_init 51 = .ok (.iconst 5, 1) := by decide +kernel
theorem dX9_init_52 : decode cX9_init 52 = .ok (.newarray .int, 2) := by decide +kernel
theorem dX9_init_54 : decode cX9_init 54 = .ok (.putfield 30, 3) := by decide +kernel
theorem dX9_init_57 : decode cX9_init 57 = .ok (.aload_n 0, 1) := by decide +kernel
theorem dX9_init_58 : decode cX9_init 58 = .ok (.bipush 60, 2) := by decide +kernel
theorem dX9_init_60 : decode cX9_init 60 = .ok (.newarray .int, 2) := by decide +kernel
theorem dX9_init_62 : decode cX9_init 62 = .ok (.putfield 33, 3) := by decide +kernel
theorem dX9_init_65 : decode cX9_init 65 = .ok (.aload_n 0, 1) := by decide +kernel
theorem dX9_init_66 : decode cX9_init 66 = .ok (.iconst 0, 1) := by decide +kernel
theorem dX9_init_67 : decode cX9_init 67 = .ok (.putfield 36, 3) := by decide +kernel
theorem dX9_init_70 : decode cX9_init 70 = .ok (.aload_n 0, 1) := by decide +kernel
theorem dX9_init_71 : decode cX9_init 71 = .ok (.iconst 0, 1) := by decide +kernel
theorem dX9_init_72 : decode cX9_init 72 = .ok (.putfield 40, 3) := by decide +kernel
theorem dX9_init_75 : decode cX9_init 75 = .ok (.aload_n 0, 1) := by decide +kernel
theorem dX9_init_76 : decode cX9_init 76 = .ok (.iconst 0, 1) := by decide +kernel
theorem dX9_init_77 : decode cX9_init 77 = .ok (.putfield 43, 3) := by decide +kernel
theorem dX9_init_80 : decode cX9_init 80 = .ok (.aload_n 0, 1) := by decide +kernel
theorem dX9_init_81 : decode cX9_init 81 = .ok (.iconst 0, 1) := by decide +kernel
theorem dX9_init_82 : decode cX9_init 82 = .ok (.putfield 46, 3) := by decide +kernel
theorem dX9_init_85 : decode cX9_init 85 = .ok (.aload_n 0, 1) := by decide +kernel
theorem dX9_init_86 : decode cX9_init 86 = .ok (.iconst 0, 1) := by decide +kernel
theorem dX9_init_87 : decode cX9_init 87 = .ok (.putfield 49, 3) := by decide +kernel
theorem dX9_init_90 : decode cX9_init 90 = .ok (.aload_n 0, 1) := by decide +kernel
theorem dX9_init_91 : decode cX9_init 91 = .ok (.iconst (-1), 1) := by decide +kernel
theorem dX9_init_92 : decode cX9_init 92 = .ok (.putfield 52, 3) := by decide +kernel
theorem dX9_init_95 : decode cX9_init 95 = .ok (.aload_n 0, 1) := by decide +kernel
theorem dX9_init_96 : decode cX9_init 96 = .ok (.iconst 0, 1) := by decide +kernel
theorem dX9_init_97 : decode cX9_init 97 = .ok (.putfield 55, 3) := by decide +kernel
theorem dX9_init_100 : decode cX9_init 100 = .ok (.aload_n 0, 1) := by decide +kernel
theorem dX9_init_101 : decode cX9_init 101 = .ok (.iconst 0, 1) := by decide +kernel
theorem dX9_init_102 : decode cX9_init 102 = .ok (.putfield 58, 3) := by decide +kernel
theorem dX9_init_105 : decode cX9_init 105 = .ok (.aload_n 0, 1) := by decide +kernel
theorem dX9_init_106 : decode cX9_init 106 = .ok (.iconst 0, 1) := by decide +kernel
theorem dX9_init_107 : decode cX9_init 107 = .ok (.putfield 61, 3) := by decide +kernel
theorem dX9_init_110 : decode cX9_init 110 = .ok (.aload_n 0, 1) := by decide +kernel
theorem dX9_init_111 : decode cX9_init 111 = .ok (.iconst 0, 1) := by decide +kernel
theorem dX9_init_112 : decode cX9_init 112 = .ok (.putfield 64, 3) := by decide +kernel
theorem dX9_init_115 : decode cX9_init 115 = .ok (.aload_n 0, 1) := by decide +kernel
theorem dX9_init_116 : decode cX9_init 116 = .ok (.getfield 21, 3) := by decide +kernel
theorem dX9_init_119 : decode cX9_init 119 = .ok (.iconst (-1), 1) := by decide +kernel
theorem dX9_init_120 : decode cX9_init 120 = .ok (.invokestatic 67, 3) := by decide +kernel
theorem dX9_init_123 : decode cX9_init 123 = .ok (.aload_n 0, 1) := by decide +kernel
theorem dX9_init_124 : decode cX9_init 124 = .ok (.getfield 33, 3) := by decide +kernel
theorem dX9_init_127 : decode cX9_init 127 = .ok (.bipush 30, 2) := by decide +kernel
theorem dX9_init_129 : decode cX9_init 129 = .ok (.invokestatic 67, 3) := by decide +kernel
theorem dX9_init_132 : decode cX9_init 132 = .ok (.return_, 1) := by decide +kernel
theorem dX9_copyFrom_0 : decode cX9_copyFrom 0 = .ok (.aload_n 1, 1) := by decide +kernel
theorem dX9_copyFrom_1 : decode cX9_copyFrom 1 = .ok (.getfield 9, 3) := by decide +kernel
theorem dX9_copyFrom_4 : decode cX9_copyFrom 4 = .ok (.aload_n 0, 1) := by decide +kernel
theorem dX9_copyFrom_5 : decode cX9_copyFrom 5 = .ok (.getfield 9, 3) := by decide +kernel
theorem dX9_copyFrom_8 : decode cX9_copyFrom 8 = .ok (.invokestatic 73, 3) := by decide +kernel
theorem dX9_copyFrom_11 : decode cX9_copyFrom 11 = .ok (.aload_n 1, 1) := by decide +kernel
theorem dX9_copyFrom_12 : decode cX9_copyFrom 12 = .ok (.getfield 15, 3) := by decide +kernel
theorem dX9_copyFrom_15 : decode cX9_copyFrom 15 = .ok (.aload_n 0, 1) := by decide +kernel
theorem dX9_copyFrom_16 : decode cX9_copyFrom 16 = .ok (.getfield 15, 3) := by decide +kernel
theorem dX9_copyFrom_19 : decode cX9_copyFrom 19 = .ok (.invokestatic 73, 3) := by decide +kernel
theorem dX9_copyFrom_22 : decode cX9_copyFrom 22 = .ok (.aload_n 1, 1) := by decide +kernel
theorem dX9_copyFrom_23 : decode cX9_copyFrom 23 = .ok (.getfield 18, 3) := by decide +kernel
theorem dX9_copyFrom_26 : decode cX9_copyFrom 26 = .ok (.aload_n 0, 1) := by decide +kernel
theorem dX9_copyFrom_27 : decode cX9_copyFrom 27 = .ok (.getfield 18, 3) := by decide +kernel
theorem dX9_copyFrom_30 : decode cX9_copyFrom 30 = .ok (.invokestatic 73, 3) := by decide +kernel
theorem dX9_copyFrom_33 : decode cX9_copyFrom 33 = .ok (.aload_n 1, 1) := by decide +kernel
theorem dX9_copyFrom_34 : decode cX9_copyFrom 34 = .ok (.getfield 21, 3) := by decide +kernel
theorem dX9_copyFrom_37 : decode cX9_copyFrom 37 = .ok (.aload_n 0, 1) := by decide +kernel
theorem dX9_copyFrom_38 : decode cX9_copyFrom 38 = .ok (.getfield 21, 3) := by decide +kernel
theorem dX9_copyFrom_41 : decode cX9_copyFrom 41 = .ok (.invokestatic 73, 3) := by decide +kernel
theorem dX9_copyFrom_44 : decode cX9_copyFrom 44 = .ok (.aload_n 1, 1) := by decide +kernel
theorem dX9_copyFrom_45 : decode cX9_copyFrom 45 = .ok (.getfield 24, 3) := by decide +kernel
theorem dX9_copyFrom_48 : decode cX9_copyFrom 48 = .ok (.aload_n 0, 1) := by decide +kernel
theorem dX9_copyFrom_49 : decode cX9_copyFrom 49 = .ok (.getfield 24, 3) := by decide +kernel
theorem dX9_copyFrom_52 : decode cX9_copyFrom 52 = .ok (.invokestatic 73, 3) := by decide +kernel
theorem dX9_copyFrom_55 : decode cX9_copyFrom 55 = .ok (.aload_n 1, 1) := by decide +kernel
theorem dX9_copyFrom_56 : decode cX9_copyFrom 56 = .ok (.getfield 27, 3) := by decide +kernel
theorem dX9_copyFrom_59 : decode cX9_copyFrom 59 = .ok (.aload_n 0, 1) := by decide +kernel
theorem dX9_copyFrom_60 : decode cX9_copyFrom 60 = .ok (.getfield 27, 3) := by decide +kernel
theorem dX9_copyFrom_63 : decode cX9_copyFrom 63 = .ok (.invokestatic 73, 3) := by decide +kernel
theorem dX9_copyFrom_66 : decode cX9_copyFrom 66 = .ok (.aload_n 1, 1) := by decide +kernel
theorem dX9_copyFrom_67 : decode cX9_copyFrom 67 = .ok (.getfield 30, 3) := by decide +kernel
theorem dX9_copyFrom_70 : decode cX9_copyFrom 70 = .ok (.aload_n 0, 1) := by decide +kernel
theorem dX9_copyFrom_71 : decode cX9_copyFrom 71 = .ok (.getfield 30, 3) := by decide +kernel
theorem dX9_copyFrom_74 : decode cX9_copyFrom 74 = .ok (.invokestatic 73, 3) := by decide +kernel
theorem dX9_copyFrom_77 : decode cX9_copyFrom 77 = .ok (.aload_n 1, 1) := by decide +kernel
theorem dX9_copyFrom_78 : decode cX9_copyFrom 78 = .ok (.getfield 33, 3) := by decide +kernel
theorem dX9_copyFrom_81 : decode cX9_copyFrom 81 = .ok (.aload_n 0, 1) := by decide +kernel
theorem dX9_copyFrom_82 : decode cX9_copyFrom 82 = .ok (.getfield 33, 3) := by decide +kernel
theorem dX9_copyFrom_85 : decode cX9_copyFrom 85 = .ok (.invokestatic 73, 3) := by decide +kernel
theorem dX9_copyFrom_88 : decode cX9_copyFrom 88 = .ok (.aload_n 0, 1) := by decide +kernel
theorem dX9_copyFrom_89 : decode cX9_copyFrom 89 = .ok (.aload_n 1, 1) := by decide +kernel
theorem dX9_copyFrom_90 : decode cX9_copyFrom 90 = .ok (.getfield 36, 3) := by decide +kernel
theorem dX9_copyFrom_93 : decode cX9_copyFrom 93 = .ok (.putfield 36, 3) := by decide +kernel
theorem dX9_copyFrom_96 : decode cX9_copyFrom 96 = .ok (.aload_n 0, 1) := by decide +kernel
theorem dX9_copyFrom_97 : decode cX9_copyFrom 97 = .ok (.aload_n 1, 1) := by decide +kernel
theorem dX9_copyFrom_98 : decode cX9_copyFrom 98 = .ok (.getfield 40, 3) := by decide +kernel
theorem dX9_copyFrom_101 : decode cX9_copyFrom 101 = .ok (.putfield 40, 3) := by decide +kernel
theorem dX9_copyFrom_104 : decode cX9_copyFrom 104 = .ok (.aload_n 0, 1) := by decide +kernel
theorem dX9_copyFrom_105 : decode cX9_copyFrom 105 = .ok (.aload_n 1, 1) := by decide +kernel
theorem dX9_copyFrom_106 : decode cX9_copyFrom 106 = .ok (.getfield 43, 3) := by decide +kernel
theorem dX9_copyFrom_109 : decode cX9_copyFrom 109 = .ok (.putfield 43, 3) := by decide +kernel
theorem dX9_copyFrom_112 : decode cX9_copyFrom 112 = .ok (.aload_n 0, 1) := by decide +kernel
theorem dX9_copyFrom_113 : decode cX9_copyFrom 113 = .ok (.aload_n 1, 1) := by decide +kernel
theorem dX9_copyFrom_114 : decode cX9_copyFrom 114 = .ok (.getfield 46, 3) := by decide +kernel
theorem dX9_copyFrom_117 : decode cX9_copyFrom 117 = .ok (.putfield 46, 3) := by decide +kernel
theorem dX9_copyFrom_120 : decode cX9_copyFrom 120 = .ok (.aload_n 0, 1) := by decide +kernel
theorem dX9_copyFrom_121 : decode cX9_copyFrom 121 = .ok (.aload_n 1, 1) := by decide +kernel
theorem dX9_copyFrom_122 : decode cX9_copyFrom 122 = .ok (.getfield 49, 3) := by decide +kernel
theorem dX9_copyFrom_125 : decode cX9_copyFrom 125 = .ok (.putfield 49, 3) := by decide +kernel
theorem dX9_copyFrom_128 : decode cX9_copyFrom 128 = .ok (.aload_n 0, 1) := by decide +kernel
theorem dX9_copyFrom_129 : decode cX9_copyFrom 129 = .ok (.aload_n 1, 1) := by decide +kernel
theorem dX9_copyFrom_130 : decode cX9_copyFrom 130 = .ok (.getfield 52, 3) := by decide +kernel
theorem dX9_copyFrom_133 : decode cX9_copyFrom 133 = .ok (.putfield 52, 3) := by decide +kernel
theorem dX9_copyFrom_136 : decode cX9_copyFrom 136 = .ok (.aload_n 0, 1) := by decide +kernel
theorem dX9_copyFrom_137 : decode cX9_copyFrom 137 = .ok (.aload_n 1, 1) := by decide +kernel
theorem dX9_copyFrom_138 : decode cX9_copyFrom 138 = .ok (.getfield 55, 3) := by decide +kernel
theorem dX9_copyFrom_141 : decode cX9_copyFrom 141 = .ok (.putfield 55, 3) := by decide +kernel
theorem dX9_copyFrom_144 : decode cX9_copyFrom 144 = .ok (.aload_n 0, 1) := by decide +kernel
theorem dX9_copyFrom_145 : decode cX9_copyFrom 145 = .ok (.aload_n 1, 1) := by decide +kernel
theorem dX9_copyFrom_146 : decode cX9_copyFrom 146 = .ok (.getfield 58, 3) := by decide +kernel
theorem dX9_copyFrom_149 : decode cX9_copyFrom 149 = .ok (.putfield 58, 3) := by decide +kernel
theorem dX9_copyFrom_152 : decode cX9_copyFrom 152 = .ok (.aload_n 0, 1) := by decide +kernel
theorem dX9_copyFrom_153 : decode cX9_copyFrom 153 = .ok (.aload_n 1, 1) := by decide +kernel
theorem dX9_copyFrom_154 : decode cX9_copyFrom 154 = .ok (.getfield 61, 3) := by decide +kernel
theorem dX9_copyFrom_157 : decode cX9_copyFrom 157 = .ok (.putfield 61, 3) := by decide +kernel
theorem dX9_copyFrom_160 : decode cX9_copyFrom 160 = .ok (.aload_n 0, 1) := by decide +kernel
theorem dX9_copyFrom_161 : decode cX9_copyFrom 161 = .ok (.aload_n 1, 1) := by decide +kernel
theorem dX9_copyFrom_162 : decode cX9_copyFrom 162 = .ok (.getfield 64, 3) := by decide +kernel
theorem dX9_copyFrom_165 : decode cX9_copyFrom 165 = .ok (.putfield 64, 3) := by decide +kernel
theorem dX9_copyFrom_168 : decode cX9_copyFrom 168 = .ok (.return_, 1) := by decide +kernel
theorem dX9_hasMule_0 : decode cX9_hasMule 0 = .ok (.iload_n 1, 1) := by decide +kernel
theorem dX9_hasMule_1 : decode cX9_hasMule 1 = .ok (.ifCond .lt 21, 3) := by decide +kernel
theorem dX9_hasMule_4 : decode cX9_hasMule 4 = .ok (.iload_n 1, 1) := by decide +kernel
theorem dX9_hasMule_5 : decode cX9_hasMule 5 = .ok (.aload_n 0, 1) := by decide +kernel
theorem dX9_hasMule_6 : decode cX9_hasMule 6 = .ok (.getfield 36, 3) := by decide +kernel
theorem dX9_hasMule_9 : decode cX9_hasMule 9 = .ok (.if_icmp .ge 13, 3) := by decide +kernel
theorem dX9_hasMule_12 : decode cX9_hasMule 12 = .ok (.iload_n 1, 1) := by decide +kernel
theorem dX9_hasMule_13 : decode cX9_hasMule 13 = .ok (.bipush 12, 2) := by decide +kernel
theorem dX9_hasMule_15 : decode cX9_hasMule 15 = .ok (.if_icmp .ge 7, 3) := by decide +kernel
theorem dX9_hasMule_18 : decode cX9_hasMule 18 = .ok (.iconst 1, 1) := by decide +kernel
theorem dX9_hasMule_19 : decode cX9_hasMule 19 = .ok (.goto 4, 3) := by decide +kernel
theorem dX9_hasMule_22 : decode cX9_hasMule 22 = .ok (.iconst 0, 1) := by decide +kernel
theorem dX9_hasMule_23 : decode cX9_hasMule 23 = .ok (.ireturn, 1) := by decide +kernel
theorem dX9_hasMan_0 : decode cX9_hasMan 0 = .ok (.iload_n 1, 1) := by decide +kernel
theorem dX9_hasMan_1 : decode cX9_hasMan 1 = .ok (.ifCond .lt 20, 3) := by decide +kernel
theorem dX9_hasMan_4 : decode cX9_hasMan 4 = .ok (.iload_n 1, 1) := by decide +kernel
theorem dX9_hasMan_5 : decode cX9_hasMan 5 = .ok (.aload_n 0, 1) := by decide +kernel
theorem dX9_hasMan_6 : decode cX9_hasMan 6 = .ok (.getfield 40, 3) := by decide +kernel
theorem dX9_hasMan_9 : decode cX9_hasMan 9 = .ok (.if_icmp .ge 12, 3) := by decide +kernel
theorem dX9_hasMan_12 : decode cX9_hasMan 12 = .ok (.iload_n 1, 1) := by decide +kernel
theorem dX9_hasMan_13 : decode cX9_hasMan 13 = .ok (.iconst 5, 1) := by decide +kernel
theorem dX9_hasMan_14 : decode cX9_hasMan 14 = .ok (.if_icmp .ge 7, 3) := by decide +kernel
theorem dX9_hasMan_17 : decode cX9_hasMan 17 = .ok (.iconst 1, 1) := by decide +kernel
theorem dX9_hasMan_18 : decode cX9_hasMan 18 = .ok (.goto 4, 3) := by decide +kernel
theorem dX9_hasMan_21 : decode cX9_hasMan 21 = .ok (.iconst 0, 1) := by decide +kernel
theorem dX9_hasMan_22 : decode cX9_hasMan 22 = .ok (.ireturn, 1) := by decide +kernel
theorem dX9_addMule_0 : decode cX9_addMule 0 = .ok (.aload_n 0, 1) := by decide +kernel
theorem dX9_addMule_1 : decode cX9_addMule 1 = .ok (.getfield 36, 3) := by decide +kernel
theorem dX9_addMule_4 : decode cX9_addMule 4 = .ok (.ifCond .lt 12, 3) := by decide +kernel
theorem dX9_addMule_7 : decode cX9_addMule 7 = .ok (.aload_n 0, 1) := by decide +kernel
theorem dX9_addMule_8 : decode cX9_addMule 8 = .ok (.getfield 36, 3) := by decide +kernel
theorem dX9_addMule_11 : decode cX9_addMule 11 = .ok (.bipush 12, 2) := by decide +kernel
theorem dX9_addMule_13 : decode cX9_addMule 13 = .ok (.if_icmp .lt 5, 3) := by decide +kernel
theorem dX9_addMule_16 : decode cX9_addMule 16 = .ok (.iconst (-1), 1) := by decide +kernel
theorem dX9_addMule_17 : decode cX9_addMule 17 = .ok (.ireturn, 1) := by decide +kernel
theorem dX9_addMule_18 : decode cX9_addMule 18 = .ok (.aload_n 0, 1) := by decide +kernel
theorem dX9_addMule_19 : decode cX9_addMule 19 = .ok (.getfield 9, 3) := by decide +kernel
theorem dX9_addMule_22 : decode cX9_addMule 22 = .ok (.aload_n 0, 1) := by decide +kernel
theorem dX9_addMule_23 : decode cX9_addMule 23 = .ok (.getfield 36, 3) := by decide +kernel
theorem dX9_addMule_26 : decode cX9_addMule 26 = .ok (.iload_n 1, 1) := by decide +kernel
theorem dX9_addMule_27 : decode cX9_addMule 27 = .ok (.iastore, 1) := by decide +kernel
theorem dX9_addMule_28 : decode cX9_addMule 28 = .ok (.aload_n 0, 1) := by decide +kernel
theorem dX9_addMule_29 : decode cX9_addMule 29 = .ok (.getfield 15, 3) := by decide +kernel
theorem dX9_addMule_32 : decode cX9_addMule 32 = .ok (.aload_n 0, 1) := by decide +kernel
theorem dX9_addMule_33 : decode cX9_addMule 33 = .ok (.getfield 36, 3) := by decide +kernel
theorem dX9_addMule_36 : decode cX9_addMule 36 = .ok (.iload_n 2, 1) := by decide +kernel
theorem dX9_addMule_37 : decode cX9_addMule 37 = .ok (.iastore, 1) := by decide +kernel
theorem dX9_addMule_38 : decode cX9_addMule 38 = .ok (.aload_n 0, 1) := by decide +kernel
theorem dX9_addMule_39 : decode cX9_addMule 39 = .ok (.dup, 1) := by decide +kernel
theorem dX9_addMule_40 : decode cX9_addMule 40 = .ok (.getfield 36, 3) := by decide +kernel
theorem dX9_addMule_43 : decode cX9_addMule 43 = .ok (.iconst 1, 1) := by decide +kernel
theorem dX9_addMule_44 : decode cX9_addMule 44 = .ok (.iadd, 1) := by decide +kernel
theorem dX9_addMule_45 : decode cX9_addMule 45 = .ok (.putfield 36, 3) := by decide +kernel
theorem dX9_addMule_48 : decode cX9_addMule 48 = .ok (.aload_n 0, 1) := by decide +kernel
theorem dX9_addMule_49 : decode cX9_addMule 49 = .ok (.getfield 36, 3) := by decide +kernel
theorem dX9_addMule_52 : decode cX9_addMule 52 = .ok (.iconst 1, 1) := by decide +kernel
theorem dX9_addMule_53 : decode cX9_addMule 53 = .ok (.isub, 1) := by decide +kernel
theorem dX9_addMule_54 : decode cX9_addMule 54 = .ok (.ireturn, 1) := by decide +kernel
theorem dX9_addMan_0 : decode cX9_addMan 0 = .ok (.aload_n 0, 1) := by decide +kernel
theorem dX9_addMan_1 : decode cX9_addMan 1 = .ok (.getfield 40, 3) := by decide +kernel
theorem dX9_addMan_4 : decode cX9_addMan 4 = .ok (.ifCond .lt 11, 3) := by decide +kernel
theorem dX9_addMan_7 : decode cX9_addMan 7 = .ok (.aload_n 0, 1) := by decide +kernel
theorem dX9_addMan_8 : decode cX9_addMan 8 = .ok (.getfield 40, 3) := by decide +kernel
theorem dX9_addMan_11 : decode cX9_addMan 11 = .ok (.iconst 5, 1) := by decide +kernel
theorem dX9_addMan_12 : decode cX9_addMan 12 = .ok (.if_icmp .lt 5, 3) := by decide +kernel
theorem dX9_addMan_15 : decode cX9_addMan 15 = .ok (.iconst (-1), 1) := by decide +kernel
theorem dX9_addMan_16 : decode cX9_addMan 16 = .ok (.ireturn, 1) := by decide +kernel
theorem dX9_addMan_17 : decode cX9_addMan 17 = .ok (.aload_n 0, 1) := by decide +kernel
theorem dX9_addMan_18 : decode cX9_addMan 18 = .ok (.getfield 24, 3) := by decide +kernel
theorem dX9_addMan_21 : decode cX9_addMan 21 = .ok (.aload_n 0, 1) := by decide +kernel
theorem dX9_addMan_22 : decode cX9_addMan 22 = .ok (.getfield 40, 3) := by decide +kernel
theorem dX9_addMan_25 : decode cX9_addMan 25 = .ok (.iload_n 1, 1) := by decide +kernel
theorem dX9_addMan_26 : decode cX9_addMan 26 = .ok (.iastore, 1) := by decide +kernel
theorem dX9_addMan_27 : decode cX9_addMan 27 = .ok (.aload_n 0, 1) := by decide +kernel
theorem dX9_addMan_28 : decode cX9_addMan 28 = .ok (.getfield 27, 3) := by decide +kernel
theorem dX9_addMan_31 : decode cX9_addMan 31 = .ok (.aload_n 0, 1) := by decide +kernel
theorem dX9_addMan_32 : decode cX9_addMan 32 = .ok (.getfield 40, 3) := by decide +kernel
theorem dX9_addMan_35 : decode cX9_addMan 35 = .ok (.iload_n 2, 1) := by decide +kernel
theorem dX9_addMan_36 : decode cX9_addMan 36 = .ok (.iastore, 1) := by decide +kernel
theorem dX9_addMan_37 : decode cX9_addMan 37 = .ok (.aload_n 0, 1) := by decide +kernel
theorem dX9_addMan_38 : decode cX9_addMan 38 = .ok (.getfield 30, 3) := by decide +kernel
theorem dX9_addMan_41 : decode cX9_addMan 41 = .ok (.aload_n 0, 1) := by decide +kernel
theorem dX9_addMan_42 : decode cX9_addMan 42 = .ok (.getfield 40, 3) := by decide +kernel
theorem dX9_addMan_45 : decode cX9_addMan 45 = .ok (.iload_n 3, 1) := by decide +kernel
theorem dX9_addMan_46 : decode cX9_addMan 46 = .ok (.iastore, 1) := by decide +kernel
theorem dX9_addMan_47 : decode cX9_addMan 47 = .ok (.aload_n 0, 1) := by decide +kernel
theorem dX9_addMan_48 : decode cX9_addMan 48 = .ok (.dup, 1) := by decide +kernel
theorem dX9_addMan_49 : decode cX9_addMan 49 = .ok (.getfield 40, 3) := by decide +kernel
theorem dX9_addMan_52 : decode cX9_addMan 52 = .ok (.iconst 1, 1) := by decide +kernel
theorem dX9_addMan_53 : decode cX9_addMan 53 = .ok (.iadd, 1) := by decide +kernel
theorem dX9_addMan_54 : decode cX9_addMan 54 = .ok (.putfield 40, 3) := by decide +kernel
theorem dX9_addMan_57 : decode cX9_addMan 57 = .ok (.aload_n 0, 1) := by decide +kernel
theorem dX9_addMan_58 : decode cX9_addMan 58 = .ok (.getfield 40, 3) := by decide +kernel
theorem dX9_addMan_61 : decode cX9_addMan 61 = .ok (.iconst 1, 1) := by decide +kernel
theorem dX9_addMan_62 : decode cX9_addMan 62 = .ok (.isub, 1) := by decide +kernel
theorem dX9_addMan_63 : decode cX9_addMan 63 = .ok (.ireturn, 1) := by decide +kernel
theorem dX9_likingFor_0 : decode cX9_likingFor 0 = .ok (.aload_n 0, 1) := by decide +kernel
theorem dX9_likingFor_1 : decode cX9_likingFor 1 = .ok (.iload_n 1, 1) := by decide +kernel
theorem dX9_likingFor_2 : decode cX9_likingFor 2 = .ok (.invokevirtual 77, 3) := by decide +kernel
theorem dX9_likingFor_5 : decode cX9_likingFor 5 = .ok (.ifCond .eq 24, 3) := by decide +kernel
theorem dX9_likingFor_8 : decode cX9_likingFor 8 = .ok (.aload_n 0, 1) := by decide +kernel
theorem dX9_likingFor_9 : decode cX9_likingFor 9 = .ok (.iload_n 2, 1) := by decide +kernel
theorem dX9_likingFor_10 : decode cX9_likingFor 10 = .ok (.invokevirtual 81, 3) := by decide +kernel
theorem dX9_likingFor_13 : decode cX9_likingFor 13 = .ok (.ifCond .eq 16, 3) := by decide +kernel
theorem dX9_likingFor_16 : decode cX9_likingFor 16 = .ok (.aload_n 0, 1) := by decide +kernel
theorem dX9_likingFor_17 : decode cX9_likingFor 17 = .ok (.getfield 33, 3) := by decide +kernel
theorem dX9_likingFor_20 : decode cX9_likingFor 20 = .ok (.iload_n 1, 1) := by decide +kernel
theorem dX9_likingFor_21 : decode cX9_likingFor 21 = .ok (.iconst 5, 1) := by decide +kernel
theorem dX9_likingFor_22 : decode cX9_likingFor 22 = .ok (.imul, 1) := by decide +kernel
theorem dX9_likingFor_23 : decode cX9_likingFor 23 = .ok (.iload_n 2, 1) := by decide +kernel
theorem dX9_likingFor_24 : decode cX9_likingFor 24 = .ok (.iadd, 1) := by decide +kernel
theorem dX9_likingFor_25 : decode cX9_likingFor 25 = .ok (.iaload, 1) := by decide +kernel
theorem dX9_likingFor_26 : decode cX9_likingFor 26 = .ok (.goto 4, 3) := by decide +kernel
theorem dX9_likingFor_29 : decode cX9_likingFor 29 = .ok (.iconst 0, 1) := by decide +kernel
theorem dX9_likingFor_30 : decode cX9_likingFor 30 = .ok (.ireturn, 1) := by decide +kernel
theorem dX9_setLiking_0 : decode cX9_setLiking 0 = .ok (.aload_n 0, 1) := by decide +kernel
theorem dX9_setLiking_1 : decode cX9_setLiking 1 = .ok (.iload_n 1, 1) := by decide +kernel
theorem dX9_setLiking_2 : decode cX9_setLiking 2 = .ok (.invokevirtual 77, 3) := by decide +kernel
theorem dX9_setLiking_5 : decode cX9_setLiking 5 = .ok (.ifCond .eq 31, 3) := by decide +kernel
theorem dX9_setLiking_8 : decode cX9_setLiking 8 = .ok (.aload_n 0, 1) := by decide +kernel
theorem dX9_setLiking_9 : decode cX9_setLiking 9 = .ok (.iload_n 2, 1) := by decide +kernel
theorem dX9_setLiking_10 : decode cX9_setLiking 10 = .ok (.invokevirtual 81, 3) := by decide +kernel
theorem dX9_setLiking_13 : decode cX9_setLiking 13 = .ok (.ifCond .eq 23, 3) := by decide +kernel
theorem dX9_setLiking_16 : decode cX9_setLiking 16 = .ok (.aload_n 0, 1) := by decide +kernel
theorem dX9_setLiking_17 : decode cX9_setLiking 17 = .ok (.getfield 33, 3) := by decide +kernel
theorem dX9_setLiking_20 : decode cX9_setLiking 20 = .ok (.iload_n 1, 1) := by decide +kernel
theorem dX9_setLiking_21 : decode cX9_setLiking 21 = .ok (.iconst 5, 1) := by decide +kernel
theorem dX9_setLiking_22 : decode cX9_setLiking 22 = .ok (.imul, 1) := by decide +kernel
theorem dX9_setLiking_23 : decode cX9_setLiking 23 = .ok (.iload_n 2, 1) := by decide +kernel
theorem dX9_setLiking_24 : decode cX9_setLiking 24 = .ok (.iadd, 1) := by decide +kernel
theorem dX9_setLiking_25 : decode cX9_setLiking 25 = .ok (.iconst 0, 1) := by decide +kernel
theorem dX9_setLiking_26 : decode cX9_setLiking 26 = .ok (.bipush 99, 2) := by decide +kernel
theorem dX9_setLiking_28 : decode cX9_setLiking 28 = .ok (.iload_n 3, 1) := by decide +kernel
theorem dX9_setLiking_29 : decode cX9_setLiking 29 = .ok (.invokestatic 84, 3) := by decide +kernel
theorem dX9_setLiking_32 : decode cX9_setLiking 32 = .ok (.invokestatic 90, 3) := by decide +kernel
theorem dX9_setLiking_35 : decode cX9_setLiking 35 = .ok (.iastore, 1) := by decide +kernel
theorem dX9_setLiking_36 : decode cX9_setLiking 36 = .ok (.return_, 1) := by decide +kernel
theorem dX9_moveLiking_0 : decode cX9_moveLiking 0 = .ok (.aload_n 0, 1) := by decide +kernel
theorem dX9_moveLiking_1 : decode cX9_moveLiking 1 = .ok (.iload_n 1, 1) := by decide +kernel
theorem dX9_moveLiking_2 : decode cX9_moveLiking 2 = .ok (.iload_n 2, 1) := by decide +kernel
theorem dX9_moveLiking_3 : decode cX9_moveLiking 3 = .ok (.aload_n 0, 1) := by decide +kernel
theorem dX9_moveLiking_4 : decode cX9_moveLiking 4 = .ok (.iload_n 1, 1) := by decide +kernel
theorem dX9_moveLiking_5 : decode cX9_moveLiking 5 = .ok (.iload_n 2, 1) := by decide +kernel
theorem dX9_moveLiking_6 : decode cX9_moveLiking 6 = .ok (.invokevirtual 93, 3) := by decide +kernel
theorem dX9_moveLiking_9 : decode cX9_moveLiking 9 = .ok (.iload_n 3, 1) := by decide +kernel
theorem dX9_moveLiking_10 : decode cX9_moveLiking 10 = .ok (.iadd, 1) := by decide +kernel
theorem dX9_moveLiking_11 : decode cX9_moveLiking 11 = .ok (.invokevirtual 96, 3) := by decide +kernel
theorem dX9_moveLiking_14 : decode cX9_moveLiking 14 = .ok (.return_, 1) := by decide +kernel
theorem dX9_lameOnes_0 : decode cX9_lameOnes 0 = .ok (.iconst 0, 1) := by decide +kernel
theorem dX9_lameOnes_1 : decode cX9_lameOnes 1 = .ok (.istore_n 1, 1) := by decide +kernel
theorem dX9_lameOnes_2 : decode cX9_lameOnes 2 = .ok (.iconst 0, 1) := by decide +kernel
theorem dX9_lameOnes_3 : decode cX9_lameOnes 3 = .ok (.istore_n 2, 1) := by decide +kernel
theorem dX9_lameOnes_4 : decode cX9_lameOnes 4 = .ok (.iload_n 2, 1) := by decide +kernel
theorem dX9_lameOnes_5 : decode cX9_lameOnes 5 = .ok (.aload_n 0, 1) := by decide +kernel
theorem dX9_lameOnes_6 : decode cX9_lameOnes 6 = .ok (.getfield 36, 3) := by decide +kernel
theorem dX9_lameOnes_9 : decode cX9_lameOnes 9 = .ok (.if_icmp .ge 30, 3) := by decide +kernel
theorem dX9_lameOnes_12 : decode cX9_lameOnes 12 = .ok (.iload_n 2, 1) := by decide +kernel
theorem dX9_lameOnes_13 : decode cX9_lameOnes 13 = .ok (.bipush 12, 2) := by decide +kernel
theorem dX9_lameOnes_15 : decode cX9_lameOnes 15 = .ok (.if_icmp .ge 24, 3) := by decide +kernel
theorem dX9_lameOnes_18 : decode cX9_lameOnes 18 = .ok (.aload_n 0, 1) := by decide +kernel
theorem dX9_lameOnes_19 : decode cX9_lameOnes 19 = .ok (.getfield 18, 3) := by decide +kernel
theorem dX9_lameOnes_22 : decode cX9_lameOnes 22 = .ok (.iload_n 2, 1) := by decide +kernel
theorem dX9_lameOnes_23 : decode cX9_lameOnes 23 = .ok (.iaload, 1) := by decide +kernel
theorem dX9_lameOnes_24 : decode cX9_lameOnes 24 = .ok (.ifCond .eq 9, 3) := by decide +kernel
theorem dX9_lameOnes_27 : decode cX9_lameOnes 27 = .ok (.iload_n 1, 1) := by decide +kernel
theorem dX9_lameOnes_28 : decode cX9_lameOnes 28 = .ok (.iconst 1, 1) := by decide +kernel
theorem dX9_lameOnes_29 : decode cX9_lameOnes 29 = .ok (.iload_n 2, 1) := by decide +kernel
theorem dX9_lameOnes_30 : decode cX9_lameOnes 30 = .ok (.ishl, 1) := by decide +kernel
theorem dX9_lameOnes_31 : decode cX9_lameOnes 31 = .ok (.ior, 1) := by decide +kernel
theorem dX9_lameOnes_32 : decode cX9_lameOnes 32 = .ok (.istore_n 1, 1) := by decide +kernel
theorem dX9_lameOnes_33 : decode cX9_lameOnes 33 = .ok (.iinc 2 1, 3) := by decide +kernel
theorem dX9_lameOnes_36 : decode cX9_lameOnes 36 = .ok (.goto (-32), 3) := by decide +kernel
theorem dX9_lameOnes_39 : decode cX9_lameOnes 39 = .ok (.iload_n 1, 1) := by decide +kernel
theorem dX9_lameOnes_40 : decode cX9_lameOnes 40 = .ok (.ireturn, 1) := by decide +kernel
theorem dX9_behindOf_0 : decode cX9_behindOf 0 = .ok (.iconst 0, 1) := by decide +kernel
theorem dX9_behindOf_1 : decode cX9_behindOf 1 = .ok (.istore_n 2, 1) := by decide +kernel
theorem dX9_behindOf_2 : decode cX9_behindOf 2 = .ok (.iconst 0, 1) := by decide +kernel
theorem dX9_behindOf_3 : decode cX9_behindOf 3 = .ok (.istore_n 3, 1) := by decide +kernel
theorem dX9_behindOf_4 : decode cX9_behindOf 4 = .ok (.iload_n 3, 1) := by decide +kernel
theorem dX9_behindOf_5 : decode cX9_behindOf 5 = .ok (.aload_n 0, 1) := by decide +kernel
theorem dX9_behindOf_6 : decode cX9_behindOf 6 = .ok (.getfield 36, 3) := by decide +kernel
theorem dX9_behindOf_9 : decode cX9_behindOf 9 = .ok (.if_icmp .ge 31, 3) := by decide +kernel
theorem dX9_behindOf_12 : decode cX9_behindOf 12 = .ok (.iload_n 3, 1) := by decide +kernel
theorem dX9_behindOf_13 : decode cX9_behindOf 13 = .ok (.bipush 12, 2) := by decide +kernel
theorem dX9_behindOf_15 : decode cX9_behindOf 15 = .ok (.if_icmp .ge 25, 3) := by decide +kernel
theorem dX9_behindOf_18 : decode cX9_behindOf 18 = .ok (.aload_n 0, 1) := by decide +kernel
theorem dX9_behindOf_19 : decode cX9_behindOf 19 = .ok (.getfield 21, 3) := by decide +kernel
theorem dX9_behindOf_22 : decode cX9_behindOf 22 = .ok (.iload_n 3, 1) := by decide +kernel
theorem dX9_behindOf_23 : decode cX9_behindOf 23 = .ok (.iaload, 1) := by decide +kernel
theorem dX9_behindOf_24 : decode cX9_behindOf 24 = .ok (.iload_n 1, 1) := by decide +kernel
theorem dX9_behindOf_25 : decode cX9_behindOf 25 = .ok (.if_icmp .ne 9, 3) := by decide +kernel
theorem dX9_behindOf_28 : decode cX9_behindOf 28 = .ok (.iload_n 2, 1) := by decide +kernel
theorem dX9_behindOf_29 : decode cX9_behindOf 29 = .ok (.iconst 1, 1) := by decide +kernel
theorem dX9_behindOf_30 : decode cX9_behindOf 30 = .ok (.iload_n 3, 1) := by decide +kernel
theorem dX9_behindOf_31 : decode cX9_behindOf 31 = .ok (.ishl, 1) := by decide +kernel
theorem dX9_behindOf_32 : decode cX9_behindOf 32 = .ok (.ior, 1) := by decide +kernel
theorem dX9_behindOf_33 : decode cX9_behindOf 33 = .ok (.istore_n 2, 1) := by decide +kernel
theorem dX9_behindOf_34 : decode cX9_behindOf 34 = .ok (.iinc 3 1, 3) := by decide +kernel
theorem dX9_behindOf_37 : decode cX9_behindOf 37 = .ok (.goto (-33), 3) := by decide +kernel
theorem dX9_behindOf_40 : decode cX9_behindOf 40 = .ok (.iload_n 2, 1) := by decide +kernel
theorem dX9_behindOf_41 : decode cX9_behindOf 41 = .ok (.ireturn, 1) := by decide +kernel
theorem dX9_draw_0 : decode cX9_draw 0 = .ok (.aload_n 0, 1) := by decide +kernel
theorem dX9_draw_1 : decode cX9_draw 1 = .ok (.ldc 100, 2) := by decide +kernel
theorem dX9_draw_3 : decode cX9_draw 3 = .ok (.aload_n 0, 1) := by decide +kernel
theorem dX9_draw_4 : decode cX9_draw 4 = .ok (.getfield 43, 3) := by decide +kernel
theorem dX9_draw_7 : decode cX9_draw 7 = .ok (.imul, 1) := by decide +kernel
theorem dX9_draw_8 : decode cX9_draw 8 = .ok (.ldc 101, 2) := by decide +kernel
theorem dX9_draw_10 : decode cX9_draw 10 = .ok (.iadd, 1) := by decide +kernel
theorem dX9_draw_11 : decode cX9_draw 11 = .ok (.putfield 43, 3) := by decide +kernel
theorem dX9_draw_14 : decode cX9_draw 14 = .ok (.iload_n 1, 1) := by decide +kernel
theorem dX9_draw_15 : decode cX9_draw 15 = .ok (.ifCond .le 15, 3) := by decide +kernel
theorem dX9_draw_18 : decode cX9_draw 18 = .ok (.aload_n 0, 1) := by decide +kernel
theorem dX9_draw_19 : decode cX9_draw 19 = .ok (.getfield 43, 3) := by decide +kernel
theorem dX9_draw_22 : decode cX9_draw 22 = .ok (.bipush 8, 2) := by decide +kernel
theorem dX9_draw_24 : decode cX9_draw 24 = .ok (.iushr, 1) := by decide +kernel
theorem dX9_draw_25 : decode cX9_draw 25 = .ok (.iload_n 1, 1) := by decide +kernel
theorem dX9_draw_26 : decode cX9_draw 26 = .ok (.irem, 1) := by decide +kernel
theorem dX9_draw_27 : decode cX9_draw 27 = .ok (.goto 4, 3) := by decide +kernel
theorem dX9_draw_30 : decode cX9_draw 30 = .ok (.iconst 0, 1) := by decide +kernel
theorem dX9_draw_31 : decode cX9_draw 31 = .ok (.ireturn, 1) := by decide +kernel
theorem dX10_init_0 : decode cX10_init 0 = .ok (.aload_n 0, 1) := by decide +kernel
theorem dX10_init_1 : decode cX10_init 1 = .ok (.invokespecial 3, 3) := by decide +kernel
theorem dX10_init_4 : decode cX10_init 4 = .ok (.aload_n 0, 1) := by decide +kernel
theorem dX10_init_5 : decode cX10_init 5 = .ok (.new 9, 3) := by decide +kernel
theorem dX10_init_8 : decode cX10_init 8 = .ok (.dup, 1) := by decide +kernel
theorem dX10_init_9 : decode cX10_init 9 = .ok (.invokespecial 11, 3) := by decide +kernel
theorem dX10_init_12 : decode cX10_init 12 = .ok (.putfield 12, 3) := by decide +kernel
theorem dX10_init_15 : decode cX10_init 15 = .ok (.aload_n 0, 1) := by decide +kernel
theorem dX10_init_16 : decode cX10_init 16 = .ok (.new 18, 3) := by decide +kernel
theorem dX10_init_19 : decode cX10_init 19 = .ok (.dup, 1) := by decide +kernel
theorem dX10_init_20 : decode cX10_init 20 = .ok (.invokespecial 20, 3) := by decide +kernel
theorem dX10_init_23 : decode cX10_init 23 = .ok (.putfield 21, 3) := by decide +kernel
theorem dX10_init_26 : decode cX10_init 26 = .ok (.aload_n 0, 1) := by decide +kernel
theorem dX10_init_27 : decode cX10_init 27 = .ok (.new 25, 3) := by decide +kernel
theorem dX10_init_30 : decode cX10_init 30 = .ok (.dup, 1) := by decide +kernel
theorem dX10_init_31 : decode cX10_init 31 = .ok (.bipush 16, 2) := by decide +kernel
theorem dX10_init_33 : decode cX10_init 33 = .ok (.invokespecial 27, 3) := by decide +kernel
theorem dX10_init_36 : decode cX10_init 36 = .ok (.putfield 30, 3) := by decide +kernel
theorem dX10_init_39 : decode cX10_init 39 = .ok (.aload_n 0, 1) := by decide +kernel
theorem dX10_init_40 : decode cX10_init 40 = .ok (.new 25, 3) := by decide +kernel
theorem dX10_init_43 : decode cX10_init 43 = .ok (.dup, 1) := by decide +kernel
theorem dX10_init_44 : decode cX10_init 44 = .ok (.bipush 16, 2) := by decide +kernel
theorem dX10_init_46 : decode cX10_init 46 = .ok (.invokespecial 27, 3) := by decide +kernel
theorem dX10_init_49 : decode cX10_init 49 = .ok (.putfield 34, 3) := by decide +kernel
theorem dX10_init_52 : decode cX10_init 52 = .ok (.aload_n 0, 1) := by decide +kernel
theorem dX10_init_53 : decode cX10_init 53 = .ok (.new 25, 3) := by decide +kernel
theorem dX10_init_56 : decode cX10_init 56 = .ok (.dup, 1) := by decide +kernel
theorem dX10_init_57 : decode cX10_init 57 = .ok (.bipush 16, 2) := by decide +kernel
theorem dX10_init_59 : decode cX10_init 59 = .ok (.invokespecial 27, 3) := by decide +kernel
theorem dX10_init_62 : decode cX10_init 62 = .ok (.putfield 37, 3) := by decide +kernel
theorem dX10_init_65 : decode cX10_init 65 = .ok (.aload_n 0, 1) := by decide +kernel
theorem dX10_init_66 : decode cX10_init 66 = .ok (.new 25, 3) := by decide +kernel
theorem dX10_init_69 : decode cX10_init 69 = .ok (.dup, 1) := by decide +kernel
theorem dX10_init_70 : decode cX10_init 70 = .ok (.bipush 8, 2) := by decide +kernel
theorem dX10_init_72 : decode cX10_init 72 = .ok (.invokespecial 27, 3) := by decide +kernel
theorem dX10_init_75 : decode cX10_init 75 = .ok (.putfield 40, 3) := by decide +kernel
theorem dX10_init_78 : decode cX10_init 78 = .ok (.aload_n 0, 1) := by decide +kernel
theorem dX10_init_79 : decode cX10_init 79 = .ok (.new 25, 3) := by decide +kernel
theorem dX10_init_82 : decode cX10_init 82 = .ok (.dup, 1) := by decide +kernel
theorem dX10_init_83 : decode cX10_init 83 = .ok (.bipush 12, 2) := by decide +kernel
theorem dX10_init_85 : decode cX10_init 85 = .ok (.invokespecial 27, 3) := by decide +kernel
theorem dX10_init_88 : decode cX10_init 88 = .ok (.putfield 43, 3) := by decide +kernel
theorem dX10_init_91 : decode cX10_init 91 = .ok (.aload_n 0, 1) := by decide +kernel
theorem dX10_init_92 : decode cX10_init 92 = .ok (.sipush 600, 3) := by decide +kernel
theorem dX10_init_95 : decode cX10_init 95 = .ok (.newarray .int, 2) := by decide +kernel
theorem dX10_init_97 : decode cX10_init 97 = .ok (.putfield 46, 3) := by decide +kernel
theorem dX10_init_100 : decode cX10_init 100 = .ok (.aload_n 0, 1) := by decide +kernel
theorem dX10_init_101 : decode cX10_init 101 = .ok (.bipush 10, 2) := by decide +kernel
theorem dX10_init_103 : decode cX10_init 103 = .ok (.newarray .int, 2) := by decide +kernel
theorem dX10_init_105 : decode cX10_init 105 = .ok (.putfield 50, 3) := by decide +kernel
theorem dX10_init_108 : decode cX10_init 108 = .ok (.return_, 1) := by decide +kernel
theorem dX10_factsOf_0 : decode cX10_factsOf 0 = .ok (.aload_n 0, 1) := by decide +kernel
theorem dX10_factsOf_1 : decode cX10_factsOf 1 = .ok (.getfield 12, 3) := by decide +kernel
theorem dX10_factsOf_4 : decode cX10_factsOf 4 = .ok (.iload_n 1, 1) := by decide +kernel
theorem dX10_factsOf_5 : decode cX10_factsOf 5 = .ok (.invokevirtual 67, 3) := by decide +kernel
theorem dX10_factsOf_8 : decode cX10_factsOf 8 = .ok (.istore_n 3, 1) := by decide +kernel
theorem dX10_factsOf_9 : decode cX10_factsOf 9 = .ok (.aload_n 0, 1) := by decide +kernel
theorem dX10_factsOf_10 : decode cX10_factsOf 10 = .ok (.getfield 50, 3) := by decide +kernel
theorem dX10_factsOf_13 : decode cX10_factsOf 13 = .ok (.iconst 0, 1) := by decide +kernel
theorem dX10_factsOf_14 : decode cX10_factsOf 14 = .ok (.iload_n 1, 1) := by decide +kernel
theorem dX10_factsOf_15 : decode cX10_factsOf 15 = .ok (.iastore, 1) := by decide +kernel
theorem dX10_factsOf_16 : decode cX10_factsOf 16 = .ok (.aload_n 0, 1) := by decide +kernel
theorem dX10_factsOf_17 : decode cX10_factsOf 17 = .ok (.getfield 50, 3) := by decide +kernel
theorem dX10_factsOf_20 : decode cX10_factsOf 20 = .ok (.iconst 1, 1) := by decide +kernel
theorem dX10_factsOf_21 : decode cX10_factsOf 21 = .ok (.iload_n 3, 1) := by decide +kernel
theorem dX10_factsOf_22 : decode cX10_factsOf 22 = .ok (.ifCond .eq 15, 3) := by decide +kernel
theorem dX10_factsOf_25 : decode cX10_factsOf 25 = .ok (.aload_n 0, 1) := by decide +kernel
theorem dX10_factsOf_26 : decode cX10_factsOf 26 = .ok (.getfield 12, 3) := by decide +kernel
theorem dX10_factsOf_29 : decode cX10_factsOf 29 = .ok (.getfield 71, 3) := by decide +kernel
theorem dX10_factsOf_32 : decode cX10_factsOf 32 = .ok (.iload_n 1, 1) := by decide +kernel
theorem dX10_factsOf_33 : decode cX10_factsOf 33 = .ok (.iaload, 1) := by decide +kernel
theorem dX10_factsOf_34 : decode cX10_factsOf 34 = .ok (.goto 4, 3) := by decide +kernel
theorem dX10_factsOf_37 : decode cX10_factsOf 37 = .ok (.iconst 0, 1) := by decide +kernel
theorem dX10_factsOf_38 : decode cX10_factsOf 38 = .ok (.iastore, 1) := by decide +kernel
theorem dX10_factsOf_39 : decode cX10_factsOf 39 = .ok (.aload_n 0, 1) := by decide +kernel
theorem dX10_factsOf_40 : decode cX10_factsOf 40 = .ok (.getfield 50, 3) := by decide +kernel
theorem dX10_factsOf_43 : decode cX10_factsOf 43 = .ok (.iconst 2, 1) := by decide +kernel
theorem dX10_factsOf_44 : decode cX10_factsOf 44 = .ok (.iload_n 3, 1) := by decide +kernel
theorem dX10_factsOf_45 : decode cX10_factsOf 45 = .ok (.ifCond .eq 15, 3) := by decide +kernel
theorem dX10_factsOf_48 : decode cX10_factsOf 48 = .ok (.aload_n 0, 1) := by decide +kernel
theorem dX10_factsOf_49 : decode cX10_factsOf 49 = .ok (.getfield 12, 3) := by decide +kernel
theorem dX10_factsOf_52 : decode cX10_factsOf 52 = .ok (.getfield 74, 3) := by decide +kernel
theorem dX10_factsOf_55 : decode cX10_factsOf 55 = .ok (.iload_n 1, 1) := by decide +kernel
theorem dX10_factsOf_56 : decode cX10_factsOf 56 = .ok (.iaload, 1) := by decide +kernel
theorem dX10_factsOf_57 : decode cX10_factsOf 57 = .ok (.goto 4, 3) := by decide +kernel
theorem dX10_factsOf_60 : decode cX10_factsOf 60 = .ok (.iconst 0, 1) := by decide +kernel
theorem dX10_factsOf_61 : decode cX10_factsOf 61 = .ok (.iastore, 1) := by decide +kernel
theorem dX10_factsOf_62 : decode cX10_factsOf 62 = .ok (.aload_n 0, 1) := by decide +kernel
theorem dX10_factsOf_63 : decode cX10_factsOf 63 = .ok (.getfield 50, 3) := by decide +kernel
theorem dX10_factsOf_66 : decode cX10_factsOf 66 = .ok (.iconst 3, 1) := by decide +kernel
theorem dX10_factsOf_67 : decode cX10_factsOf 67 = .ok (.iconst 0, 1) := by decide +kernel
theorem dX10_factsOf_68 : decode cX10_factsOf 68 = .ok (.iastore, 1) := by decide +kernel
theorem dX10_factsOf_69 : decode cX10_factsOf 69 = .ok (.aload_n 0, 1) := by decide +kernel
theorem dX10_factsOf_70 : decode cX10_factsOf 70 = .ok (.getfield 50, 3) := by decide +kernel
theorem dX10_factsOf_73 : decode cX10_factsOf 73 = .ok (.iconst 4, 1) := by decide +kernel
theorem dX10_factsOf_74 : decode cX10_factsOf 74 = .ok (.iconst 0, 1) := by decide +kernel
theorem dX10_factsOf_75 : decode cX10_factsOf 75 = .ok (.iastore, 1) := by decide +kernel
theorem dX10_factsOf_76 : decode cX10_factsOf 76 = .ok (.aload_n 0, 1) := by decide +kernel
theorem dX10_factsOf_77 : decode cX10_factsOf 77 = .ok (.getfield 50, 3) := by decide +kernel
theorem dX10_factsOf_80 : decode cX10_factsOf 80 = .ok (.iconst 5, 1) := by decide +kernel
theorem dX10_factsOf_81 : decode cX10_factsOf 81 = .ok (.aload_n 0, 1) := by decide +kernel
theorem dX10_factsOf_82 : decode cX10_factsOf 82 = .ok (.getfield 12, 3) := by decide +kernel
theorem dX10_factsOf_85 : decode cX10_factsOf 85 = .ok (.iload_n 2, 1) := by decide +kernel
theorem dX10_factsOf_86 : decode cX10_factsOf 86 = .ok (.invokevirtual 77, 3) := by decide +kernel
theorem dX10_factsOf_89 : decode cX10_factsOf 89 = .ok (.ifCond .eq 15, 3) := by decide +kernel
theorem dX10_factsOf_92 : decode cX10_factsOf 92 = .ok (.aload_n 0, 1) := by decide +kernel
theorem dX10_factsOf_93 : decode cX10_factsOf 93 = .ok (.getfield 12, 3) := by decide +kernel
theorem dX10_factsOf_96 : decode cX10_factsOf 96 = .ok (.getfield 80, 3) := by decide +kernel
theorem dX10_factsOf_99 : decode cX10_factsOf 99 = .ok (.iload_n 2, 1) := by decide +kernel
theorem dX10_factsOf_100 : decode cX10_factsOf 100 = .ok (.iaload, 1) := by decide +kernel
theorem dX10_factsOf_101 : decode cX10_factsOf 101 = .ok (.goto 4, 3) := by decide +kernel
theorem dX10_factsOf_104 : decode cX10_factsOf 104 = .ok (.iconst 0, 1) := by decide +kernel
theorem dX10_factsOf_105 : decode cX10_factsOf 105 = .ok (.iastore, 1) := by decide +kernel
theorem dX10_factsOf_106 : decode cX10_factsOf 106 = .ok (.aload_n 0, 1) := by decide +kernel
theorem dX10_factsOf_107 : decode cX10_factsOf 107 = .ok (.getfield 50, 3) := by decide +kernel
theorem dX10_factsOf_110 : decode cX10_factsOf 110 = .ok (.bipush 6, 2) := by decide +kernel
theorem dX10_factsOf_112 : decode cX10_factsOf 112 = .ok (.aload_n 0, 1) := by decide +kernel
theorem dX10_factsOf_113 : decode cX10_factsOf 113 = .ok (.getfield 12, 3) := by decide +kernel
theorem dX10_factsOf_116 : decode cX10_factsOf 116 = .ok (.iload_n 2, 1) := by decide +kernel
theorem dX10_factsOf_117 : decode cX10_factsOf 117 = .ok (.invokevirtual 77, 3) := by decide +kernel
theorem dX10_factsOf_120 : decode cX10_factsOf 120 = .ok (.ifCond .eq 15, 3) := by decide +kernel
theorem dX10_factsOf_123 : decode cX10_factsOf 123 = .ok (.aload_n 0, 1) := by decide +kernel
theorem dX10_factsOf_124 : decode cX10_factsOf 124 = .ok (.getfield 12, 3) := by decide +kernel
theorem dX10_factsOf_127 : decode cX10_factsOf 127 = .ok (.getfield 83, 3) := by decide +kernel
theorem dX10_factsOf_130 : decode cX10_factsOf 130 = .ok (.iload_n 2, 1) := by decide +kernel
theorem dX10_factsOf_131 : decode cX10_factsOf 131 = .ok (.iaload, 1) := by decide +kernel
theorem dX10_factsOf_132 : decode cX10_factsOf 132 = .ok (.goto 4, 3) := by decide +kernel
theorem dX10_factsOf_135 : decode cX10_factsOf 135 = .ok (.iconst 0, 1) := by decide +kernel
theorem dX10_factsOf_136 : decode cX10_factsOf 136 = .ok (.iastore, 1) := by decide +kernel
theorem dX10_factsOf_137 : decode cX10_factsOf 137 = .ok (.aload_n 0, 1) := by decide +kernel
theorem dX10_factsOf_138 : decode cX10_factsOf 138 = .ok (.getfield 50, 3) := by decide +kernel
theorem dX10_factsOf_141 : decode cX10_factsOf 141 = .ok (.bipush 7, 2) := by decide +kernel
theorem dX10_factsOf_143 : decode cX10_factsOf 143 = .ok (.aload_n 0, 1) := by decide +kernel
theorem dX10_factsOf_144 : decode cX10_factsOf 144 = .ok (.getfield 12, 3) := by decide +kernel
theorem dX10_factsOf_147 : decode cX10_factsOf 147 = .ok (.getfield 86, 3) := by decide +kernel
theorem dX10_factsOf_150 : decode cX10_factsOf 150 = .ok (.iastore, 1) := by decide +kernel
theorem dX10_factsOf_151 : decode cX10_factsOf 151 = .ok (.aload_n 0, 1) := by decide +kernel
theorem dX10_factsOf_152 : decode cX10_factsOf 152 = .ok (.getfield 50, 3) := by decide +kernel
theorem dX10_factsOf_155 : decode cX10_factsOf 155 = .ok (.bipush 8, 2) := by decide +kernel
theorem dX10_factsOf_157 : decode cX10_factsOf 157 = .ok (.iconst 0, 1) := by decide +kernel
theorem dX10_factsOf_158 : decode cX10_factsOf 158 = .ok (.iastore, 1) := by decide +kernel
theorem dX10_factsOf_159 : decode cX10_factsOf 159 = .ok (.aload_n 0, 1) := by decide +kernel
theorem dX10_factsOf_160 : decode cX10_factsOf 160 = .ok (.getfield 50, 3) := by decide +kernel
theorem dX10_factsOf_163 : decode cX10_factsOf 163 = .ok (.bipush 9, 2) := by decide +kernel
theorem dX10_factsOf_165 : decode cX10_factsOf 165 = .ok (.aload_n 0, 1) := by decide +kernel
theorem dX10_factsOf_166 : decode cX10_factsOf 166 = .ok (.getfield 12, 3) := by decide +kernel
theorem dX10_factsOf_169 : decode cX10_factsOf 169 = .ok (.getfield 90, 3) := by decide +kernel
theorem dX10_factsOf_172 : decode cX10_factsOf 172 = .ok (.iastore, 1) := by decide +kernel
theorem dX10_factsOf_173 : decode cX10_factsOf 173 = .ok (.return_, 1) := by decide +kernel
theorem dX10_leanOf_0 : decode cX10_leanOf 0 = .ok (.aload_n 0, 1) := by decide +kernel
theorem dX10_leanOf_1 : decode cX10_leanOf 1 = .ok (.iload_n 1, 1) := by decide +kernel
theorem dX10_leanOf_2 : decode cX10_leanOf 2 = .ok (.iload_n 2, 1) := by decide +kernel
theorem dX10_leanOf_3 : decode cX10_leanOf 3 = .ok (.invokevirtual 93, 3) := by decide +kernel
theorem dX10_leanOf_6 : decode cX10_leanOf 6 = .ok (.aload_n 0, 1) := by decide +kernel
theorem dX10_leanOf_7 : decode cX10_leanOf 7 = .ok (.getfield 50, 3) := by decide +kernel
theorem dX10_leanOf_10 : decode cX10_leanOf 10 = .ok (.iconst 3, 1) := by decide +kernel
theorem dX10_leanOf_11 : decode cX10_leanOf 11 = .ok (.iload_n 3, 1) := by decide +kernel
theorem dX10_leanOf_12 : decode cX10_leanOf 12 = .ok (.iastore, 1) := by decide +kernel
theorem dX10_leanOf_13 : decode cX10_leanOf 13 = .ok (.aload_n 0, 1) := by decide +kernel
theorem dX10_leanOf_14 : decode cX10_leanOf 14 = .ok (.getfield 50, 3) := by decide +kernel
theorem dX10_leanOf_17 : decode cX10_leanOf 17 = .ok (.iconst 4, 1) := by decide +kernel
theorem dX10_leanOf_18 : decode cX10_leanOf 18 = .ok (.iload 4, 2) := by decide +kernel
theorem dX10_leanOf_20 : decode cX10_leanOf 20 = .ok (.iastore, 1) := by decide +kernel
theorem dX10_leanOf_21 : decode cX10_leanOf 21 = .ok (.aload_n 0, 1) := by decide +kernel
theorem dX10_leanOf_22 : decode cX10_leanOf 22 = .ok (.getfield 21, 3) := by decide +kernel
theorem dX10_leanOf_25 : decode cX10_leanOf 25 = .ok (.iconst 0, 1) := by decide +kernel
theorem dX10_leanOf_26 : decode cX10_leanOf 26 = .ok (.aload_n 0, 1) := by decide +kernel
theorem dX10_leanOf_27 : decode cX10_leanOf 27 = .ok (.getfield 50, 3) := by decide +kernel
theorem dX10_leanOf_30 : decode cX10_leanOf 30 = .ok (.iload_n 3, 1) := by decide +kernel
theorem dX10_leanOf_31 : decode cX10_leanOf 31 = .ok (.bipush 10, 2) := by decide +kernel
theorem dX10_leanOf_33 : decode cX10_leanOf 33 = .ok (.iload 4, 2) := by decide +kernel
theorem dX10_leanOf_35 : decode cX10_leanOf 35 = .ok (.imul, 1) := by decide +kernel
theorem dX10_leanOf_36 : decode cX10_leanOf 36 = .ok (.iadd, 1) := by decide +kernel
theorem dX10_leanOf_37 : decode cX10_leanOf 37 = .ok (.invokevirtual 97, 3) := by decide +kernel
theorem dX10_leanOf_40 : decode cX10_leanOf 40 = .ok (.istore 5, 2) := by decide +kernel
theorem dX10_leanOf_42 : decode cX10_leanOf 42 = .ok (.iconst 0, 1) := by decide +kernel
theorem dX10_leanOf_43 : decode cX10_leanOf 43 = .ok (.sipush 999, 3) := by decide +kernel
theorem dX10_leanOf_46 : decode cX10_leanOf 46 = .ok (.iload 5, 2) := by decide +kernel
theorem dX10_leanOf_48 : decode cX10_leanOf 48 = .ok (.invokestatic 101, 3) := by decide +kernel
theorem dX10_leanOf_51 : decode cX10_leanOf 51 = .ok (.invokestatic 107, 3) := by decide +kernel
theorem dX10_leanOf_54 : decode cX10_leanOf 54 = .ok (.ireturn, 1) := by decide +kernel
theorem dX10_leanNow_0 : decode cX10_leanNow 0 = .ok (.aload_n 0, 1) := by decide +kernel
theorem dX10_leanNow_1 : decode cX10_leanNow 1 = .ok (.iload_n 1, 1) := by decide +kernel
theorem dX10_leanNow_2 : decode cX10_leanNow 2 = .ok (.invokevirtual 110, 3) := by decide +kernel
theorem dX10_leanNow_5 : decode cX10_leanNow 5 = .ok (.aload_n 0, 1) := by decide +kernel
theorem dX10_leanNow_6 : decode cX10_leanNow 6 = .ok (.getfield 12, 3) := by decide +kernel
theorem dX10_leanNow_9 : decode cX10_leanNow 9 = .ok (.iload_n 2, 1) := by decide +kernel
theorem dX10_leanNow_10 : decode cX10_leanNow 10 = .ok (.invokevirtual 114, 3) := by decide +kernel
theorem dX10_leanNow_13 : decode cX10_leanNow 13 = .ok (.iand, 1) := by decide +kernel
theorem dX10_leanNow_14 : decode cX10_leanNow 14 = .ok (.invokestatic 117, 3) := by decide +kernel
theorem dX10_leanNow_17 : decode cX10_leanNow 17 = .ok (.istore_n 3, 1) := by decide +kernel
theorem dX10_leanNow_18 : decode cX10_leanNow 18 = .ok (.aload_n 0, 1) := by decide +kernel
theorem dX10_leanNow_19 : decode cX10_leanNow 19 = .ok (.iload_n 1, 1) := by decide +kernel
theorem dX10_leanNow_20 : decode cX10_leanNow 20 = .ok (.iload_n 2, 1) := by decide +kernel
theorem dX10_leanNow_21 : decode cX10_leanNow 21 = .ok (.aload_n 0, 1) := by decide +kernel
theorem dX10_leanNow_22 : decode cX10_leanNow 22 = .ok (.getfield 12, 3) := by decide +kernel
theorem dX10_leanNow_25 : decode cX10_leanNow 25 = .ok (.iload_n 1, 1) := by decide +kernel
theorem dX10_leanNow_26 : decode cX10_leanNow 26 = .ok (.iload_n 2, 1) := by decide +kernel
theorem dX10_leanNow_27 : decode cX10_leanNow 27 = .ok (.invokevirtual 122, 3) := by decide +kernel
theorem dX10_leanNow_30 : decode cX10_leanNow 30 = .ok (.iload_n 3, 1) := by decide +kernel
theorem dX10_leanNow_31 : decode cX10_leanNow 31 = .ok (.invokevirtual 125, 3) := by decide +kernel
theorem dX10_leanNow_34 : decode cX10_leanNow 34 = .ok (.ireturn, 1) := by decide +kernel
theorem dX10_needOf_0 : decode cX10_needOf 0 = .ok (.aload_n 0, 1) := by decide +kernel
theorem dX10_needOf_1 : decode cX10_needOf 1 = .ok (.iload_n 1, 1) := by decide +kernel
theorem dX10_needOf_2 : decode cX10_needOf 2 = .ok (.iconst (-1), 1) := by decide +kernel
theorem dX10_needOf_3 : decode cX10_needOf 3 = .ok (.invokevirtual 93, 3) := by decide +kernel
theorem dX10_needOf_6 : decode cX10_needOf 6 = .ok (.iconst 0, 1) := by decide +kernel
theorem dX10_needOf_7 : decode cX10_needOf 7 = .ok (.sipush 999, 3) := by decide +kernel
theorem dX10_needOf_10 : decode cX10_needOf 10 = .ok (.aload_n 0, 1) := by decide +kernel
theorem dX10_needOf_11 : decode cX10_needOf 11 = .ok (.getfield 21, 3) := by decide +kernel
theorem dX10_needOf_14 : decode cX10_needOf 14 = .ok (.iconst 1, 1) := by decide +kernel
theorem dX10_needOf_15 : decode cX10_needOf 15 = .ok (.aload_n 0, 1) := by decide +kernel
theorem dX10_needOf_16 : decode cX10_needOf 16 = .ok (.getfield 50, 3) := by decide +kernel
theorem dX10_needOf_19 : decode cX10_needOf 19 = .ok (.bipush 40, 2) := by decide +kernel
theorem dX10_needOf_21 : decode cX10_needOf 21 = .ok (.invokevirtual 97, 3) := by decide +kernel
theorem dX10_needOf_24 : decode cX10_needOf 24 = .ok (.invokestatic 101, 3) := by decide +kernel
theorem dX10_needOf_27 : decode cX10_needOf 27 = .ok (.invokestatic 107, 3) := by decide +kernel
theorem dX10_needOf_30 : decode cX10_needOf 30 = .ok (.ireturn, 1) := by decide +kernel
theorem dX10_riskOf_0 : decode cX10_riskOf 0 = .ok (.aload_n 0, 1) := by decide +kernel
theorem dX10_riskOf_1 : decode cX10_riskOf 1 = .ok (.iload_n 1, 1) := by decide +kernel
theorem dX10_riskOf_2 : decode cX10_riskOf 2 = .ok (.iload_n 3, 1) := by decide +kernel
theorem dX10_riskOf_3 : decode cX10_riskOf 3 = .ok (.invokevirtual 93, 3) := by decide +kernel
theorem dX10_riskOf_6 : decode cX10_riskOf 6 = .ok (.aload_n 0, 1) := by decide +kernel
theorem dX10_riskOf_7 : decode cX10_riskOf 7 = .ok (.getfield 50, 3) := by decide +kernel
theorem dX10_riskOf_10 : decode cX10_riskOf 10 = .ok (.bipush 8, 2) := by decide +kernel
theorem dX10_riskOf_12 : decode cX10_riskOf 12 = .ok (.iload_n 2, 1) := by decide +kernel
theorem dX10_riskOf_13 : decode cX10_riskOf 13 = .ok (.iastore, 1) := by decide +kernel
theorem dX10_riskOf_14 : decode cX10_riskOf 14 = .ok (.iconst 0, 1) := by decide +kernel
theorem dX10_riskOf_15 : decode cX10_riskOf 15 = .ok (.sipush 1000, 3) := by decide +kernel
theorem dX10_riskOf_18 : decode cX10_riskOf 18 = .ok (.aload_n 0, 1) := by decide +kernel
theorem dX10_riskOf_19 : decode cX10_riskOf 19 = .ok (.getfield 21, 3) := by decide +kernel
theorem dX10_riskOf_22 : decode cX10_riskOf 22 = .ok (.iconst 2, 1) := by decide +kernel
theorem dX10_riskOf_23 : decode cX10_riskOf 23 = .ok (.aload_n 0, 1) := by decide +kernel
theorem dX10_riskOf_24 : decode cX10_riskOf 24 = .ok (.getfield 50, 3) := by decide +kernel
theorem dX10_riskOf_27 : decode cX10_riskOf 27 = .ok (.bipush 20, 2) := by decide +kernel
theorem dX10_riskOf_29 : decode cX10_riskOf 29 = .ok (.aload_n 0, 1) := by decide +kernel
theorem dX10_riskOf_30 : decode cX10_riskOf 30 = .ok (.getfield 12, 3) := by decide +kernel
theorem dX10_riskOf_33 : decode cX10_riskOf 33 = .ok (.getfield 86, 3) := by decide +kernel
theorem dX10_riskOf_36 : decode cX10_riskOf 36 = .ok (.imul, 1) := by decide +kernel
theorem dX10_riskOf_37 : decode cX10_riskOf 37 = .ok (.invokevirtual 97, 3) := by decide +kernel
theorem dX10_riskOf_40 : decode cX10_riskOf 40 = .ok (.invokestatic 101, 3) := by decide +kernel
theorem dX10_riskOf_43 : decode cX10_riskOf 43 = .ok (.invokestatic 107, 3) := by decide +kernel
theorem dX10_riskOf_46 : decode cX10_riskOf 46 = .ok (.ireturn, 1) := by decide +kernel
theorem dX10_heededBy_0 : decode cX10_heededBy 0 = .ok (.iconst 0, 1) := by decide +kernel
theorem dX10_heededBy_1 : decode cX10_heededBy 1 = .ok (.istore_n 2, 1) := by decide +kernel
theorem dX10_heededBy_2 : decode cX10_heededBy 2 = .ok (.iconst 0, 1) := by decide +kernel
theorem dX10_heededBy_3 : decode cX10_heededBy 3 = .ok (.istore_n 3, 1) := by decide +kernel
theorem dX10_heededBy_4 : decode cX10_heededBy 4 = .ok (.iload_n 3, 1) := by decide +kernel
theorem dX10_heededBy_5 : decode cX10_heededBy 5 = .ok (.aload_n 0, 1) := by decide +kernel
theorem dX10_heededBy_6 : decode cX10_heededBy 6 = .ok (.getfield 30, 3) := by decide +kernel
theorem dX10_heededBy_9 : decode cX10_heededBy 9 = .ok (.getfield 148, 3) := by decide +kernel
theorem dX10_heededBy_12 : decode cX10_heededBy 12 = .ok (.if_icmp .ge 34, 3) := by decide +kernel
theorem dX10_heededBy_15 : decode cX10_heededBy 15 = .ok (.aload_n 0, 1) := by decide +kernel
theorem dX10_heededBy_16 : decode cX10_heededBy 16 = .ok (.getfield 30, 3) := by decide +kernel
theorem dX10_heededBy_19 : decode cX10_heededBy 19 = .ok (.iload_n 3, 1) := by decide +kernel
theorem dX10_heededBy_20 : decode cX10_heededBy 20 = .ok (.iconst 0, 1) := by decide +kernel
theorem dX10_heededBy_21 : decode cX10_heededBy 21 = .ok (.invokevirtual 151, 3) := by decide +kernel
theorem dX10_heededBy_24 : decode cX10_heededBy 24 = .ok (.iload_n 1, 1) := by decide +kernel
theorem dX10_heededBy_25 : decode cX10_heededBy 25 = .ok (.if_icmp .ne 15, 3) := by decide +kernel
theorem dX10_heededBy_28 : decode cX10_heededBy 28 = .ok (.iload_n 2, 1) := by decide +kernel
theorem dX10_heededBy_29 : decode cX10_heededBy 29 = .ok (.aload_n 0, 1) := by decide +kernel
theorem dX10_heededBy_30 : decode cX10_heededBy 30 = .ok (.getfield 30, 3) := by decide +kernel
theorem dX10_heededBy_33 : decode cX10_heededBy 33 = .ok (.iload_n 3, 1) := by decide +kernel
theorem dX10_heededBy_34 : decode cX10_heededBy 34 = .ok (.iconst 1, 1) := by decide +kernel
theorem dX10_heededBy_35 : decode cX10_heededBy 35 = .ok (.invokevirtual 151, 3) := by decide +kernel
theorem dX10_heededBy_38 : decode cX10_heededBy 38 = .ok (.ior, 1) := by decide +kernel
theorem dX10_heededBy_39 : decode cX10_heededBy 39 = .ok (.istore_n 2, 1) := by decide +kernel
theorem dX10_heededBy_40 : decode cX10_heededBy 40 = .ok (.iinc 3 1, 3) := by decide +kernel
theorem dX10_heededBy_43 : decode cX10_heededBy 43 = .ok (.goto (-39), 3) := by decide +kernel
theorem dX10_heededBy_46 : decode cX10_heededBy 46 = .ok (.iload_n 2, 1) := by decide +kernel
theorem dX10_heededBy_47 : decode cX10_heededBy 47 = .ok (.ireturn, 1) := by decide +kernel
theorem dX10_hoursBetween_0 : decode cX10_hoursBetween 0 = .ok (.iconst 0, 1) := by decide +kernel
theorem dX10_hoursBetween_1 : decode cX10_hoursBetween 1 = .ok (.istore_n 3, 1) := by decide +kernel
theorem dX10_hoursBetween_2 : decode cX10_hoursBetween 2 = .ok (.iload_n 3, 1) := by decide +kernel
theorem dX10_hoursBetween_3 : decode cX10_hoursBetween 3 = .ok (.aload_n 0, 1) := by decide +kernel
theorem dX10_hoursBetween_4 : decode cX10_hoursBetween 4 = .ok (.getfield 37, 3) := by decide +kernel
theorem dX10_hoursBetween_7 : decode cX10_hoursBetween 7 = .ok (.getfield 148, 3) := by decide +kernel
theorem dX10_hoursBetween_10 : decode cX10_hoursBetween 10 = .ok (.if_icmp .ge 45, 3) := by decide +kernel
theorem dX10_hoursBetween_13 : decode cX10_hoursBetween 13 = .ok (.aload_n 0, 1) := by decide +kernel
theorem dX10_hoursBetween_14 : decode cX10_hoursBetween 14 = .ok (.getfield 37, 3) := by decide +kernel
theorem dX10_hoursBetween_17 : decode cX10_hoursBetween 17 = .ok (.iload_n 3, 1) := by decide +kernel
theorem dX10_hoursBetween_18 : decode cX10_hoursBetween 18 = .ok (.iconst 0, 1) := by decide +kernel
theorem dX10_hoursBetween_19 : decode cX10_hoursBetween 19 = .ok (.invokevirtual 151, 3) := by decide +kernel
theorem dX10_hoursBetween_22 : decode cX10_hoursBetween 22 = .ok (.iload_n 1, 1) := by decide +kernel
theorem dX10_hoursBetween_23 : decode cX10_hoursBetween 23 = .ok (.if_icmp .ne 26, 3) := by decide +kernel
theorem dX10_hoursBetween_26 : decode cX10_hoursBetween 26 = .ok (.aload_n 0, 1) := by decide +kernel
theorem dX10_hoursBetween_27 : decode cX10_hoursBetween 27 = .ok (.getfield 37, 3) := by decide +kernel
theorem dX10_hoursBetween_30 : decode cX10_hoursBetween 30 = .ok (.iload_n 3, 1) := by decide +kernel
theorem dX10_hoursBetween_31 : decode cX10_hoursBetween 31 = .ok (.iconst 1, 1) := by decide +kernel
theorem dX10_hoursBetween_32 : decode cX10_hoursBetween 32 = .ok (.invokevirtual 151, 3) := by decide +kernel
theorem dX10_hoursBetween_35 : decode cX10_hoursBetween 35 = .ok (.iload_n 2, 1) := by decide +kernel
theorem dX10_hoursBetween_36 : decode cX10_hoursBetween 36 = .ok (.if_icmp .ne 13, 3) := by decide +kernel
theorem dX10_hoursBetween_39 : decode cX10_hoursBetween 39 = .ok (.aload_n 0, 1) := by decide +kernel
theorem dX10_hoursBetween_40 : decode cX10_hoursBetween 40 = .ok (.getfield 37, 3) := by decide +kernel
theorem dX10_hoursBetween_43 : decode cX10_hoursBetween 43 = .ok (.iload_n 3, 1) := by decide +kernel
theorem dX10_hoursBetween_44 : decode cX10_hoursBetween 44 = .ok (.iconst 2, 1) := by decide +kernel
theorem dX10_hoursBetween_45 : decode cX10_hoursBetween 45 = .ok (.invokevirtual 151, 3) := by decide +kernel
theorem dX10_hoursBetween_48 : decode cX10_hoursBetween 48 = .ok (.ireturn, 1) := by decide +kernel
theorem dX10_hoursBetween_49 : decode cX10_hoursBetween 49 = .ok (.iinc 3 1, 3) := by decide +kernel
theorem dX10_hoursBetween_52 : decode cX10_hoursBetween 52 = .ok (.goto (-50), 3) := by decide +kernel
theorem dX10_hoursBetween_55 : decode cX10_hoursBetween 55 = .ok (.iconst (-1), 1) := by decide +kernel
theorem dX10_hoursBetween_56 : decode cX10_hoursBetween 56 = .ok (.ireturn, 1) := by decide +kernel
theorem dX10_write_0 : decode cX10_write 0 = .ok (.aload_n 0, 1) := by decide +kernel
theorem dX10_write_1 : decode cX10_write 1 = .ok (.getfield 12, 3) := by decide +kernel
theorem dX10_write_4 : decode cX10_write 4 = .ok (.getfield 154, 3) := by decide +kernel
theorem dX10_write_7 : decode cX10_write 7 = .ok (.ifCond .lt 84, 3) := by decide +kernel
theorem dX10_write_10 : decode cX10_write 10 = .ok (.aload_n 0, 1) := by decide +kernel
theorem dX10_write_11 : decode cX10_write 11 = .ok (.getfield 12, 3) := by decide +kernel
theorem dX10_write_14 : decode cX10_write 14 = .ok (.getfield 154, 3) := by decide +kernel
theorem dX10_write_17 : decode cX10_write 17 = .ok (.sipush 150, 3) := by decide +kernel
theorem dX10_write_20 : decode cX10_write 20 = .ok (.if_icmp .ge 71, 3) := by decide +kernel
theorem dX10_write_23 : decode cX10_write 23 = .ok (.aload_n 0, 1) := by decide +kernel
theorem dX10_write_24 : decode cX10_write 24 = .ok (.getfield 12, 3) := by decide +kernel
theorem dX10_write_27 : decode cX10_write 27 = .ok (.getfield 154, 3) := by decide +kernel
theorem dX10_write_30 : decode cX10_write 30 = .ok (.iconst 4, 1) := by decide +kernel
theorem dX10_write_31 : decode cX10_write 31 = .ok (.imul, 1) := by decide +kernel
theorem dX10_write_32 : decode cX10_write 32 = .ok (.istore 4, 2) := by decide +kernel
theorem dX10_write_34 : decode cX10_write 34 = .ok (.aload_n 0, 1) := by decide +kernel
theorem dX10_write_35 : decode cX10_write 35 = .ok (.getfield 46, 3) := by decide +kernel
theorem dX10_write_38 : decode cX10_write 38 = .ok (.iload 4, 2) := by decide +kernel
theorem dX10_write_40 : decode cX10_write 40 = .ok (.aload_n 0, 1) := by decide +kernel
theorem dX10_write_41 : decode cX10_write 41 = .ok (.getfield 12, 3) := by decide +kernel
theorem dX10_write_44 : decode cX10_write 44 = .ok (.getfield 90, 3) := by decide +kernel
theorem dX10_write_47 : decode cX10_write 47 = .ok (.iastore, 1) := by decide +kernel
theorem dX10_write_48 : decode cX10_write 48 = .ok (.aload_n 0, 1) := by decide +kernel
theorem dX10_write_49 : decode cX10_write 49 = .ok (.getfield 46, 3) := by decide +kernel
theorem dX10_write_52 : decode cX10_write 52 = .ok (.iload 4, 2) := by decide +kernel
theorem dX10_write_54 : decode cX10_write 54 = .ok (.iconst 1, 1) := by decide +kernel
theorem dX10_write_55 : decode cX10_write 55 = .ok (.iadd, 1) := by decide +kernel
theorem dX10_write_56 : decode cX10_write 56 = .ok (.iload_n 1, 1) := by decide +kernel
theorem dX10_write_57 : decode cX10_write 57 = .ok (.iastore, 1) := by decide +kernel
theorem dX10_write_58 : decode cX10_write 58 = .ok (.aload_n 0, 1) := by decide +kernel
theorem dX10_write_59 : decode cX10_write 59 = .ok (.getfield 46, 3) := by decide +kernel
theorem dX10_write_62 : decode cX10_write 62 = .ok (.iload 4, 2) := by decide +kernel
theorem dX10_write_64 : decode cX10_write 64 = .ok (.iconst 2, 1) := by decide +kernel
theorem dX10_write_65 : decode cX10_write 65 = .ok (.iadd, 1) := by decide +kernel
theorem dX10_write_66 : decode cX10_write 66 = .ok (.iload_n 2, 1) := by decide +kernel
theorem dX10_write_67 : decode cX10_write 67 = .ok (.iastore, 1) := by decide +kernel
theorem dX10_write_68 : decode cX10_write 68 = .ok (.aload_n 0, 1) := by decide +kernel
theorem dX10_write_69 : decode cX10_write 69 = .ok (.getfield 46, 3) := by decide +kernel
theorem dX10_write_72 : decode cX10_write 72 = .ok (.iload 4, 2) := by decide +kernel
theorem dX10_write_74 : decode cX10_write 74 = .ok (.iconst 3, 1) := by decide +kernel
theorem dX10_write_75 : decode cX10_write 75 = .ok (.iadd, 1) := by decide +kernel
theorem dX10_write_76 : decode cX10_write 76 = .ok (.iload_n 3, 1) := by decide +kernel
theorem dX10_write_77 : decode cX10_write 77 = .ok (.iastore, 1) := by decide +kernel
theorem dX10_write_78 : decode cX10_write 78 = .ok (.aload_n 0, 1) := by decide +kernel
theorem dX10_write_79 : decode cX10_write 79 = .ok (.getfield 12, 3) := by decide +kernel
theorem dX10_write_82 : decode cX10_write 82 = .ok (.dup, 1) := by decide +kernel
theorem dX10_write_83 : decode cX10_write 83 = .ok (.getfield 154, 3) := by decide +kernel
theorem dX10_write_86 : decode cX10_write 86 = .ok (.iconst 1, 1) := by decide +kernel
theorem dX10_write_87 : decode cX10_write 87 = .ok (.iadd, 1) := by decide +kernel
theorem dX10_write_88 : decode cX10_write 88 = .ok (.putfield 154, 3) := by decide +kernel
theorem dX10_write_91 : decode cX10_write 91 = .ok (.return_, 1) := by decide +kernel
theorem dX10_read_0 : decode cX10_read 0 = .ok (.iload_n 1, 1) := by decide +kernel
theorem dX10_read_1 : decode cX10_read 1 = .ok (.ifCond .lt 19, 3) := by decide +kernel
theorem dX10_read_4 : decode cX10_read 4 = .ok (.iload_n 1, 1) := by decide +kernel
theorem dX10_read_5 : decode cX10_read 5 = .ok (.sipush 150, 3) := by decide +kernel
theorem dX10_read_8 : decode cX10_read 8 = .ok (.if_icmp .ge 12, 3) := by decide +kernel
theorem dX10_read_11 : decode cX10_read 11 = .ok (.iload_n 2, 1) := by decide +kernel
theorem dX10_read_12 : decode cX10_read 12 = .ok (.ifCond .lt 8, 3) := by decide +kernel
theorem dX10_read_15 : decode cX10_read 15 = .ok (.iload_n 2, 1) := by decide +kernel
theorem dX10_read_16 : decode cX10_read 16 = .ok (.iconst 4, 1) := by decide +kernel
theorem dX10_read_17 : decode cX10_read 17 = .ok (.if_icmp .lt 6, 3) := by decide +kernel
theorem dX10_read_20 : decode cX10_read 20 = .ok (.bipush (-2), 2) := by decide +kernel
theorem dX10_read_22 : decode cX10_read 22 = .ok (.ireturn, 1) := by decide +kernel
theorem dX10_read_23 : decode cX10_read 23 = .ok (.aload_n 0, 1) := by decide +kernel
theorem dX10_read_24 : decode cX10_read 24 = .ok (.getfield 46, 3) := by decide +kernel
theorem dX10_read_27 : decode cX10_read 27 = .ok (.iload_n 1, 1) := by decide +kernel
theorem dX10_read_28 : decode cX10_read 28 = .ok (.iconst 4, 1) := by decide +kernel
theorem dX10_read_29 : decode cX10_read 29 = .ok (.imul, 1) := by decide +kernel
theorem dX10_read_30 : decode cX10_read 30 = .ok (.iload_n 2, 1) := by decide +kernel
theorem dX10_read_31 : decode cX10_read 31 = .ok (.iadd, 1) := by decide +kernel
theorem dX10_read_32 : decode cX10_read 32 = .ok (.iaload, 1) := by decide +kernel
theorem dX10_read_33 : decode cX10_read 33 = .ok (.ireturn, 1) := by decide +kernel
theorem dX10_castVote_0 : decode cX10_castVote 0 = .ok (.aload_n 1, 1) := by decide +kernel
theorem dX10_castVote_1 : decode cX10_castVote 1 = .ok (.aload_n 0, 1) := by decide +kernel
theorem dX10_castVote_2 : decode cX10_castVote 2 = .ok (.invokevirtual 157, 3) := by decide +kernel
theorem dX10_castVote_5 : decode cX10_castVote 5 = .ok (.iconst 0, 1) := by decide +kernel
theorem dX10_castVote_6 : decode cX10_castVote 6 = .ok (.istore_n 2, 1) := by decide +kernel
theorem dX10_castVote_7 : decode cX10_castVote 7 = .ok (.iload_n 2, 1) := by decide +kernel
theorem dX10_castVote_8 : decode cX10_castVote 8 = .ok (.aload_n 0, 1) := by decide +kernel
theorem dX10_castVote_9 : decode cX10_castVote 9 = .ok (.getfield 12, 3) := by decide +kernel
theorem dX10_castVote_12 : decode cX10_castVote 12 = .ok (.getfield 133, 3) := by decide +kernel
theorem dX10_castVote_15 : decode cX10_castVote 15 = .ok (.if_icmp .ge 29, 3) := by decide +kernel
theorem dX10_castVote_18 : decode cX10_castVote 18 = .ok (.iload_n 2, 1) := by decide +kernel
theorem dX10_castVote_19 : decode cX10_castVote 19 = .ok (.bipush 12, 2) := by decide +kernel
theorem dX10_castVote_21 : decode cX10_castVote 21 = .ok (.if_icmp .ge 23, 3) := by decide +kernel
theorem dX10_castVote_24 : decode cX10_castVote 24 = .ok (.aload_n 0, 1) := by decide +kernel
theorem dX10_castVote_25 : decode cX10_castVote 25 = .ok (.getfield 12, 3) := by decide +kernel
theorem dX10_castVote_28 : decode cX10_castVote 28 = .ok (.getfield 163, 3) := by decide +kernel
theorem dX10_castVote_31 : decode cX10_castVote 31 = .ok (.iload_n 2, 1) := by decide +kernel
theorem dX10_castVote_32 : decode cX10_castVote 32 = .ok (.aload_n 1, 1) := by decide +kernel
theorem dX10_castVote_33 : decode cX10_castVote 33 = .ok (.iload_n 2, 1) := by decide +kernel
theorem dX10_castVote_34 : decode cX10_castVote 34 = .ok (.invokevirtual 166, 3) := by decide +kernel
theorem dX10_castVote_37 : decode cX10_castVote 37 = .ok (.iastore, 1) := by decide +kernel
theorem dX10_castVote_38 : decode cX10_castVote 38 = .ok (.iinc 2 1, 3) := by decide +kernel
theorem dX10_castVote_41 : decode cX10_castVote 41 = .ok (.goto (-34), 3) := by decide +kernel
theorem dX10_castVote_44 : decode cX10_castVote 44 = .ok (.aload_n 0, 1) := by decide +kernel
theorem dX10_castVote_45 : decode cX10_castVote 45 = .ok (.getfield 12, 3) := by decide +kernel
theorem dX10_castVote_48 : decode cX10_castVote 48 = .ok (.aload_n 1, 1) := by decide +kernel
theorem dX10_castVote_49 : decode cX10_castVote 49 = .ok (.getfield 169, 3) := by decide +kernel
theorem dX10_castVote_52 : decode cX10_castVote 52 = .ok (.putfield 140, 3) := by decide +kernel
theorem dX10_castVote_55 : decode cX10_castVote 55 = .ok (.aload_n 0, 1) := by decide +kernel
theorem dX10_castVote_56 : decode cX10_castVote 56 = .ok (.getfield 12, 3) := by decide +kernel
theorem dX10_castVote_59 : decode cX10_castVote 59 = .ok (.getfield 140, 3) := by decide +kernel
theorem dX10_castVote_62 : decode cX10_castVote 62 = .ok (.iconst (-1), 1) := by decide +kernel
theorem dX10_castVote_63 : decode cX10_castVote 63 = .ok (.if_icmp .ne 16, 3) := by decide +kernel
theorem dX10_castVote_66 : decode cX10_castVote 66 = .ok (.aload_n 0, 1) := by decide +kernel
theorem dX10_castVote_67 : decode cX10_castVote 67 = .ok (.getfield 12, 3) := by decide +kernel
theorem dX10_castVote_70 : decode cX10_castVote 70 = .ok (.dup, 1) := by decide +kernel
theorem dX10_castVote_71 : decode cX10_castVote 71 = .ok (.getfield 170, 3) := by decide +kernel
theorem dX10_castVote_74 : decode cX10_castVote 74 = .ok (.iconst 1, 1) := by decide +kernel
theorem dX10_castVote_75 : decode cX10_castVote 75 = .ok (.iadd, 1) := by decide +kernel
theorem dX10_castVote_76 : decode cX10_castVote 76 = .ok (.putfield 170, 3) := by decide +kernel
theorem dX10_castVote_79 : decode cX10_castVote 79 = .ok (.aload_n 0, 1) := by decide +kernel
theorem dX10_castVote_80 : decode cX10_castVote 80 = .ok (.iconst 0, 1) := by decide +kernel
theorem dX10_castVote_81 : decode cX10_castVote 81 = .ok (.aload_n 0, 1) := by decide +kernel
theorem dX10_castVote_82 : decode cX10_castVote 82 = .ok (.getfield 12, 3) := by decide +kernel
theorem dX10_castVote_85 : decode cX10_castVote 85 = .ok (.getfield 140, 3) := by decide +kernel
theorem dX10_castVote_88 : decode cX10_castVote 88 = .ok (.aload_n 0, 1) := by decide +kernel
theorem dX10_castVote_89 : decode cX10_castVote 89 = .ok (.getfield 12, 3) := by decide +kernel
theorem dX10_castVote_92 : decode cX10_castVote 92 = .ok (.getfield 140, 3) := by decide +kernel
theorem dX10_castVote_95 : decode cX10_castVote 95 = .ok (.iconst (-1), 1) := by decide +kernel
theorem dX10_castVote_96 : decode cX10_castVote 96 = .ok (.if_icmp .ne 7, 3) := by decide +kernel
theorem dX10_castVote_99 : decode cX10_castVote 99 = .ok (.iconst 0, 1) := by decide +kernel
theorem dX10_castVote_100 : decode cX10_castVote 100 = .ok (.goto 20, 3) := by decide +kernel
theorem dX10_castVote_103 : decode cX10_castVote 103 = .ok (.aload_n 0, 1) := by decide +kernel
theorem dX10_castVote_104 : decode cX10_castVote 104 = .ok (.getfield 12, 3) := by decide +kernel
theorem dX10_castVote_107 : decode cX10_castVote 107 = .ok (.aload_n 0, 1) := by decide +kernel
theorem dX10_castVote_108 : decode cX10_castVote 108 = .ok (.getfield 12, 3) := by decide +kernel
theorem dX10_castVote_111 : decode cX10_castVote 111 = .ok (.getfield 140, 3) := by decide +kernel
theorem dX10_castVote_114 : decode cX10_castVote 114 = .ok (.invokevirtual 114, 3) := by decide +kernel
theorem dX10_castVote_117 : decode cX10_castVote 117 = .ok (.invokestatic 117, 3) := by decide +kernel
theorem dX10_castVote_120 : decode cX10_castVote 120 = .ok (.invokevirtual 173, 3) := by decide +kernel
theorem dX10_castVote_123 : decode cX10_castVote 123 = .ok (.return_, 1) := by decide +kernel
theorem dX10_canTreat_0 : decode cX10_canTreat 0 = .ok (.aload_n 0, 1) := by decide +kernel
theorem dX10_canTreat_1 : decode cX10_canTreat 1 = .ok (.getfield 12, 3) := by decide +kernel
theorem dX10_canTreat_4 : decode cX10_canTreat 4 = .ok (.iload_n 2, 1) := by decide +kernel
theorem dX10_canTreat_5 : decode cX10_canTreat 5 = .ok (.invokevirtual 77, 3) := by decide +kernel
theorem dX10_canTreat_8 : decode cX10_canTreat 8 = .ok (.ifCond .ne 5, 3) := by decide +kernel
theorem dX10_canTreat_11 : decode cX10_canTreat 11 = .ok (.iconst 0, 1) := by decide +kernel
theorem dX10_canTreat_12 : decode cX10_canTreat 12 = .ok (.ireturn, 1) := by decide +kernel
theorem dX10_canTreat_13 : decode cX10_canTreat 13 = .ok (.iload_n 1, 1) := by decide +kernel
theorem dX10_canTreat_14 : decode cX10_canTreat 14 = .ok (.iconst 2, 1) := by decide +kernel
theorem dX10_canTreat_15 : decode cX10_canTreat 15 = .ok (.if_icmp .ne 5, 3) := by decide +kernel
theorem dX10_canTreat_18 : decode cX10_canTreat 18 = .ok (.iconst 1, 1) := by decide +kernel
theorem dX10_canTreat_19 : decode cX10_canTreat 19 = .ok (.ireturn, 1) := by decide +kernel
theorem dX10_canTreat_20 : decode cX10_canTreat 20 = .ok (.aload_n 0, 1) := by decide +kernel
theorem dX10_canTreat_21 : decode cX10_canTreat 21 = .ok (.getfield 12, 3) := by decide +kernel
theorem dX10_canTreat_24 : decode cX10_canTreat 24 = .ok (.iload_n 3, 1) := by decide +kernel
theorem dX10_canTreat_25 : decode cX10_canTreat 25 = .ok (.invokevirtual 67, 3) := by decide +kernel
theorem dX10_canTreat_28 : decode cX10_canTreat 28 = .ok (.ifCond .eq 24, 3) := by decide +kernel
theorem dX10_canTreat_31 : decode cX10_canTreat 31 = .ok (.iload_n 1, 1) := by decide +kernel
theorem dX10_canTreat_32 : decode cX10_canTreat 32 = .ok (.iconst 3, 1) := by decide +kernel
theorem dX10_canTreat_33 : decode cX10_canTreat 33 = .ok (.if_icmp .eq 15, 3) := by decide +kernel
theorem dX10_canTreat_36 : decode cX10_canTreat 36 = .ok (.aload_n 0, 1) := by decide +kernel
theorem dX10_canTreat_37 : decode cX10_canTreat 37 = .ok (.getfield 12, 3) := by decide +kernel
theorem dX10_canTreat_40 : decode cX10_canTreat 40 = .ok (.getfield 177, 3) := by decide +kernel
theorem dX10_canTreat_43 : decode cX10_canTreat 43 = .ok (.iload_n 2, 1) := by decide +kernel
theorem dX10_canTreat_44 : decode cX10_canTreat 44 = .ok (.iaload, 1) := by decide +kernel
theorem dX10_canTreat_45 : decode cX10_canTreat 45 = .ok (.ifCond .le 7, 3) := by decide +kernel
theorem dX10_canTreat_48 : decode cX10_canTreat 48 = .ok (.iconst 1, 1) := by decide +kernel
theorem dX10_canTreat_49 : decode cX10_canTreat 49 = .ok (.goto 4, 3) := by decide +kernel
theorem dX10_canTreat_52 : decode cX10_canTreat 52 = .ok (.iconst 0, 1) := by decide +kernel
theorem dX10_canTreat_53 : decode cX10_canTreat 53 = .ok (.ireturn, 1) := by decide +kernel
theorem dX10_treat_0 : decode cX10_treat 0 = .ok (.iload_n 1, 1) := by decide +kernel
theorem dX10_treat_1 : decode cX10_treat 1 = .ok (.iconst 1, 1) := by decide +kernel
theorem dX10_treat_2 : decode cX10_treat 2 = .ok (.if_icmp .ne 12, 3) := by decide +kernel
theorem dX10_treat_5 : decode cX10_treat 5 = .ok (.aload_n 0, 1) := by decide +kernel
theorem dX10_treat_6 : decode cX10_treat 6 = .ok (.iload_n 2, 1) := by decide +kernel
theorem dX10_treat_7 : decode cX10_treat 7 = .ok (.iload_n 3, 1) := by decide +kernel
theorem dX10_treat_8 : decode cX10_treat 8 = .ok (.invokevirtual 180, 3) := by decide +kernel
theorem dX10_treat_11 : decode cX10_treat 11 = .ok (.goto 22, 3) := by decide +kernel
theorem dX10_treat_14 : decode cX10_treat 14 = .ok (.iload_n 1, 1) := by decide +kernel
theorem dX10_treat_15 : decode cX10_treat 15 = .ok (.iconst 2, 1) := by decide +kernel
theorem dX10_treat_16 : decode cX10_treat 16 = .ok (.if_icmp .ne 11, 3) := by decide +kernel
theorem dX10_treat_19 : decode cX10_treat 19 = .ok (.aload_n 0, 1) := by decide +kernel
theorem dX10_treat_20 : decode cX10_treat 20 = .ok (.iload_n 2, 1) := by decide +kernel
theorem dX10_treat_21 : decode cX10_treat 21 = .ok (.invokevirtual 183, 3) := by decide +kernel
theorem dX10_treat_24 : decode cX10_treat 24 = .ok (.goto 9, 3) := by decide +kernel
theorem dX10_treat_27 : decode cX10_treat 27 = .ok (.aload_n 0, 1) := by decide +kernel
theorem dX10_treat_28 : decode cX10_treat 28 = .ok (.iload_n 2, 1) := by decide +kernel
theorem dX10_treat_29 : decode cX10_treat 29 = .ok (.iload_n 3, 1) := by decide +kernel
theorem dX10_treat_30 : decode cX10_treat 30 = .ok (.invokevirtual 186, 3) := by decide +kernel
theorem dX10_treat_33 : decode cX10_treat 33 = .ok (.return_, 1) := by decide +kernel
theorem dX10_giveSalt_0 : decode cX10_giveSalt 0 = .ok (.aload_n 0, 1) := by decide +kernel
theorem dX10_giveSalt_1 : decode cX10_giveSalt 1 = .ok (.getfield 12, 3) := by decide +kernel
theorem dX10_giveSalt_4 : decode cX10_giveSalt 4 = .ok (.iload_n 1, 1) := by decide +kernel
theorem dX10_giveSalt_5 : decode cX10_giveSalt 5 = .ok (.invokevirtual 77, 3) := by decide +kernel
theorem dX10_giveSalt_8 : decode cX10_giveSalt 8 = .ok (.ifCond .eq 34, 3) := by decide +kernel
theorem dX10_giveSalt_11 : decode cX10_giveSalt 11 = .ok (.aload_n 0, 1) := by decide +kernel
theorem dX10_giveSalt_12 : decode cX10_giveSalt 12 = .ok (.getfield 12, 3) := by decide +kernel
theorem dX10_giveSalt_15 : decode cX10_giveSalt 15 = .ok (.getfield 177, 3) := by decide +kernel
theorem dX10_giveSalt_18 : decode cX10_giveSalt 18 = .ok (.iload_n 1, 1) := by decide +kernel
theorem dX10_giveSalt_19 : decode cX10_giveSalt 19 = .ok (.dup2, 1) := by decide +kernel
theorem dX10_giveSalt_20 : decode cX10_giveSalt 20 = .ok (.iaload, 1) := by decide +kernel
theorem dX10_giveSalt_21 : decode cX10_giveSalt 21 = .ok (.iconst 1, 1) := by decide +kernel
theorem dX10_giveSalt_22 : decode cX10_giveSalt 22 = .ok (.isub, 1) := by decide +kernel
theorem dX10_giveSalt_23 : decode cX10_giveSalt 23 = .ok (.iastore, 1) := by decide +kernel
theorem dX10_giveSalt_24 : decode cX10_giveSalt 24 = .ok (.aload_n 0, 1) := by decide +kernel
theorem dX10_giveSalt_25 : decode cX10_giveSalt 25 = .ok (.getfield 12, 3) := by decide +kernel
theorem dX10_giveSalt_28 : decode cX10_giveSalt 28 = .ok (.iload_n 2, 1) := by decide +kernel
theorem dX10_giveSalt_29 : decode cX10_giveSalt 29 = .ok (.iload_n 1, 1) := by decide +kernel
theorem dX10_giveSalt_30 : decode cX10_giveSalt 30 = .ok (.bipush 15, 2) := by decide +kernel
theorem dX10_giveSalt_32 : decode cX10_giveSalt 32 = .ok (.invokevirtual 189, 3) := by decide +kernel
theorem dX10_giveSalt_35 : decode cX10_giveSalt 35 = .ok (.aload_n 0, 1) := by decide +kernel
theorem dX10_giveSalt_36 : decode cX10_giveSalt 36 = .ok (.iconst 1, 1) := by decide +kernel
theorem dX10_giveSalt_37 : decode cX10_giveSalt 37 = .ok (.iload_n 1, 1) := by decide +kernel
theorem dX10_giveSalt_38 : decode cX10_giveSalt 38 = .ok (.iload_n 2, 1) := by decide +kernel
theorem dX10_giveSalt_39 : decode cX10_giveSalt 39 = .ok (.invokevirtual 173, 3) := by decide +kernel
theorem dX10_giveSalt_42 : decode cX10_giveSalt 42 = .ok (.return_, 1) := by decide +kernel
theorem dX10_sing_0 : decode cX10_sing 0 = .ok (.aload_n 0, 1) := by decide +kernel
theorem dX10_sing_1 : decode cX10_sing 1 = .ok (.getfield 12, 3) := by decide +kernel
theorem dX10_sing_4 : decode cX10_sing 4 = .ok (.iload_n 1, 1) := by decide +kernel
theorem dX10_sing_5 : decode cX10_sing 5 = .ok (.invokevirtual 77, 3) := by decide +kernel
theorem dX10_sing_8 : decode cX10_sing 8 = .ok (.ifCond .eq 15, 3) := by decide +kernel
theorem dX10_sing_11 : decode cX10_sing 11 = .ok (.aload_n 0, 1) := by decide +kernel
theorem dX10_sing_12 : decode cX10_sing 12 = .ok (.getfield 12, 3) := by decide +kernel
theorem dX10_sing_15 : decode cX10_sing 15 = .ok (.getfield 83, 3) := by decide +kernel
theorem dX10_sing_18 : decode cX10_sing 18 = .ok (.iload_n 1, 1) := by decide +kernel
theorem dX10_sing_19 : decode cX10_sing 19 = .ok (.iaload, 1) := by decide +kernel
theorem dX10_sing_20 : decode cX10_sing 20 = .ok (.goto 4, 3) := by decide +kernel
theorem dX10_sing_23 : decode cX10_sing 23 = .ok (.iconst 0, 1) := by decide +kernel
theorem dX10_sing_24 : decode cX10_sing 24 = .ok (.istore_n 2, 1) := by decide +kernel
theorem dX10_sing_25 : decode cX10_sing 25 = .ok (.iconst 0, 1) := by decide +kernel
theorem dX10_sing_26 : decode cX10_sing 26 = .ok (.istore_n 3, 1) := by decide +kernel
theorem dX10_sing_27 : decode cX10_sing 27 = .ok (.iload_n 3, 1) := by decide +kernel
theorem dX10_sing_28 : decode cX10_sing 28 = .ok (.aload_n 0, 1) := by decide +kernel
theorem dX10_sing_29 : decode cX10_sing 29 = .ok (.getfield 12, 3) := by decide +kernel
theorem dX10_sing_32 : decode cX10_sing 32 = .ok (.getfield 133, 3) := by decide +kernel
theorem dX10_sing_35 : decode cX10_sing 35 = .ok (.if_icmp .ge 19, 3) := by decide +kernel
theorem dX10_sing_38 : decode cX10_sing 38 = .ok (.aload_n 0, 1) := by decide +kernel
theorem dX10_sing_39 : decode cX10_sing 39 = .ok (.getfield 12, 3) := by decide +kernel
theorem dX10_sing_42 : decode cX10_sing 42 = .ok (.iload_n 3, 1) := by decide +kernel
theorem dX10_sing_43 : decode cX10_sing 43 = .ok (.iload_n 1, 1) := by decide +kernel
theorem dX10_sing_44 : decode cX10_sing 44 = .ok (.iload_n 2, 1) := by decide +kernel
theorem dX10_sing_45 : decode cX10_sing 45 = .ok (.invokevirtual 189, 3) := by decide +kernel
theorem dX10_sing_48 : decode cX10_sing 48 = .ok (.iinc 3 1, 3) := by decide +kernel
theorem dX10_sing_51 : decode cX10_sing 51 = .ok (.goto (-24), 3) := by decide +kernel
theorem dX10_sing_54 : decode cX10_sing 54 = .ok (.aload_n 0, 1) := by decide +kernel
theorem dX10_sing_55 : decode cX10_sing 55 = .ok (.iconst 2, 1) := by decide +kernel
theorem dX10_sing_56 : decode cX10_sing 56 = .ok (.iload_n 1, 1) := by decide +kernel
theorem dX10_sing_57 : decode cX10_sing 57 = .ok (.iconst 0, 1) := by decide +kernel
theorem dX10_sing_58 : decode cX10_sing 58 = .ok (.invokevirtual 173, 3) := by decide +kernel
theorem dX10_sing_61 : decode cX10_sing 61 = .ok (.return_, 1) := by decide +kernel
theorem dX10_whip_0 : decode cX10_whip 0 = .ok (.iconst 0, 1) := by decide +kernel
theorem dX10_whip_1 : decode cX10_whip 1 = .ok (.istore_n 3, 1) := by decide +kernel
theorem dX10_whip_2 : decode cX10_whip 2 = .ok (.iload_n 3, 1) := by decide +kernel
theorem dX10_whip_3 : decode cX10_whip 3 = .ok (.aload_n 0, 1) := by decide +kernel
theorem dX10_whip_4 : decode cX10_whip 4 = .ok (.getfield 12, 3) := by decide +kernel
theorem dX10_whip_7 : decode cX10_whip 7 = .ok (.getfield 192, 3) := by decide +kernel
theorem dX10_whip_10 : decode cX10_whip 10 = .ok (.if_icmp .ge 29, 3) := by decide +kernel
theorem dX10_whip_13 : decode cX10_whip 13 = .ok (.aload_n 0, 1) := by decide +kernel
theorem dX10_whip_14 : decode cX10_whip 14 = .ok (.getfield 12, 3) := by decide +kernel
theorem dX10_whip_17 : decode cX10_whip 17 = .ok (.iload_n 2, 1) := by decide +kernel
theorem dX10_whip_18 : decode cX10_whip 18 = .ok (.iload_n 3, 1) := by decide +kernel
theorem dX10_whip_19 : decode cX10_whip 19 = .ok (.iload_n 3, 1) := by decide +kernel
theorem dX10_whip_20 : decode cX10_whip 20 = .ok (.iload_n 1, 1) := by decide +kernel
theorem dX10_whip_21 : decode cX10_whip 21 = .ok (.if_icmp .ne 8, 3) := by decide +kernel
theorem dX10_whip_24 : decode cX10_whip 24 = .ok (.bipush (-20), 2) := by decide +kernel
theorem dX10_whip_26 : decode cX10_whip 26 = .ok (.goto 4, 3) := by decide +kernel
theorem dX10_whip_29 : decode cX10_whip 29 = .ok (.iconst 5, 1) := by decide +kernel
theorem dX10_whip_30 : decode cX10_whip 30 = .ok (.invokevirtual 189, 3) := by decide +kernel
theorem dX10_whip_33 : decode cX10_whip 33 = .ok (.iinc 3 1, 3) := by decide +kernel
theorem dX10_whip_36 : decode cX10_whip 36 = .ok (.goto (-34), 3) := by decide +kernel
theorem dX10_whip_39 : decode cX10_whip 39 = .ok (.aload_n 0, 1) := by decide +kernel
theorem dX10_whip_40 : decode cX10_whip 40 = .ok (.iconst 3, 1) := by decide +kernel
theorem dX10_whip_41 : decode cX10_whip 41 = .ok (.iload_n 1, 1) := by decide +kernel
theorem dX10_whip_42 : decode cX10_whip 42 = .ok (.iload_n 2, 1) := by decide +kernel
theorem dX10_whip_43 : decode cX10_whip 43 = .ok (.invokevirtual 173, 3) := by decide +kernel
theorem dX10_whip_46 : decode cX10_whip 46 = .ok (.return_, 1) := by decide +kernel
theorem dX10_hoursOfGoing_0 : decode cX10_hoursOfGoing 0 = .ok (.aload_n 0, 1) := by decide +kernel
theorem dX10_hoursOfGoing_1 : decode cX10_hoursOfGoing 1 = .ok (.getfield 12, 3) := by decide +kernel
theorem dX10_hoursOfGoing_4 : decode cX10_hoursOfGoing 4 = .ok (.getfield 140, 3) := by decide +kernel
theorem dX10_hoursOfGoing_7 : decode cX10_hoursOfGoing 7 = .ok (.iconst (-1), 1) := by decide +kernel
theorem dX10_hoursOfGoing_8 : decode cX10_hoursOfGoing 8 = .ok (.if_icmp .ne 7, 3) := by decide +kernel
theorem dX10_hoursOfGoing_11 : decode cX10_hoursOfGoing 11 = .ok (.iconst (-1), 1) := by decide +kernel
theorem dX10_hoursOfGoing_12 : decode cX10_hoursOfGoing 12 = .ok (.goto 15, 3) := by decide +kernel
theorem dX10_hoursOfGoing_15 : decode cX10_hoursOfGoing 15 = .ok (.aload_n 0, 1) := by decide +kernel
theorem dX10_hoursOfGoing_16 : decode cX10_hoursOfGoing 16 = .ok (.aload_n 0, 1) := by decide +kernel
theorem dX10_hoursOfGoing_17 : decode cX10_hoursOfGoing 17 = .ok (.getfield 12, 3) := by decide +kernel
theorem dX10_hoursOfGoing_20 : decode cX10_hoursOfGoing 20 = .ok (.getfield 195, 3) := by decide +kernel
theorem dX10_hoursOfGoing_23 : decode cX10_hoursOfGoing 23 = .ok (.iload_n 1, 1) := by decide +kernel
theorem dX10_hoursOfGoing_24 : decode cX10_hoursOfGoing 24 = .ok (.invokevirtual 198, 3) := by decide +kernel
theorem dX10_hoursOfGoing_27 : decode cX10_hoursOfGoing 27 = .ok (.ireturn, 1) := by decide +kernel
theorem dX10_travel_0 : decode cX10_travel 0 = .ok (.iconst 0, 1) := by decide +kernel
theorem dX10_travel_1 : decode cX10_travel 1 = .ok (.istore 4, 2) := by decide +kernel
theorem dX10_travel_3 : decode cX10_travel 3 = .ok (.aload_n 0, 1) := by decide +kernel
theorem dX10_travel_4 : decode cX10_travel 4 = .ok (.getfield 12, 3) := by decide +kernel
theorem dX10_travel_7 : decode cX10_travel 7 = .ok (.dup, 1) := by decide +kernel
theorem dX10_travel_8 : decode cX10_travel 8 = .ok (.getfield 201, 3) := by decide +kernel
theorem dX10_travel_11 : decode cX10_travel 11 = .ok (.iload_n 2, 1) := by decide +kernel
theorem dX10_travel_12 : decode cX10_travel 12 = .ok (.iadd, 1) := by decide +kernel
theorem dX10_travel_13 : decode cX10_travel 13 = .ok (.putfield 201, 3) := by decide +kernel
theorem dX10_travel_16 : decode cX10_travel 16 = .ok (.aload_n 0, 1) := by decide +kernel
theorem dX10_travel_17 : decode cX10_travel 17 = .ok (.iconst 4, 1) := by decide +kernel
theorem dX10_travel_18 : decode cX10_travel 18 = .ok (.iload_n 1, 1) := by decide +kernel
theorem dX10_travel_19 : decode cX10_travel 19 = .ok (.iload_n 2, 1) := by decide +kernel
theorem dX10_travel_20 : decode cX10_travel 20 = .ok (.invokevirtual 173, 3) := by decide +kernel
theorem dX10_travel_23 : decode cX10_travel 23 = .ok (.iconst 0, 1) := by decide +kernel
theorem dX10_travel_24 : decode cX10_travel 24 = .ok (.istore 5, 2) := by decide +kernel
theorem dX10_travel_26 : decode cX10_travel 26 = .ok (.iload 5, 2) := by decide +kernel
theorem dX10_travel_28 : decode cX10_travel 28 = .ok (.aload_n 0, 1) := by decide +kernel
theorem dX10_travel_29 : decode cX10_travel 29 = .ok (.getfield 12, 3) := by decide +kernel
theorem dX10_travel_32 : decode cX10_travel 32 = .ok (.getfield 133, 3) := by decide +kernel
theorem dX10_travel_35 : decode cX10_travel 35 = .ok (.if_icmp .ge 95, 3) := by decide +kernel
theorem dX10_travel_38 : decode cX10_travel 38 = .ok (.iload 5, 2) := by decide +kernel
theorem dX10_travel_40 : decode cX10_travel 40 = .ok (.bipush 12, 2) := by decide +kernel
theorem dX10_travel_42 : decode cX10_travel 42 = .ok (.if_icmp .ge 88, 3) := by decide +kernel
theorem dX10_travel_45 : decode cX10_travel 45 = .ok (.iload_n 3, 1) := by decide +kernel
theorem dX10_travel_46 : decode cX10_travel 46 = .ok (.ifCond .eq 84, 3) := by decide +kernel
theorem dX10_travel_49 : decode cX10_travel 49 = .ok (.aload_n 0, 1) := by decide +kernel
theorem dX10_travel_50 : decode cX10_travel 50 = .ok (.getfield 12, 3) := by decide +kernel
theorem dX10_travel_53 : decode cX10_travel 53 = .ok (.getfield 204, 3) := by decide +kernel
theorem dX10_travel_56 : decode cX10_travel 56 = .ok (.iload 5, 2) := by decide +kernel
theorem dX10_travel_58 : decode cX10_travel 58 = .ok (.iaload, 1) := by decide +kernel
theorem dX10_travel_59 : decode cX10_travel 59 = .ok (.ifCond .ne 20, 3) := by decide +kernel
theorem dX10_travel_62 : decode cX10_travel 62 = .ok (.aload_n 0, 1) := by decide +kernel
theorem dX10_travel_63 : decode cX10_travel 63 = .ok (.iload 5, 2) := by decide +kernel
theorem dX10_travel_65 : decode cX10_travel 65 = .ok (.iload_n 2, 1) := by decide +kernel
theorem dX10_travel_66 : decode cX10_travel 66 = .ok (.aload_n 0, 1) := by decide +kernel
theorem dX10_travel_67 : decode cX10_travel 67 = .ok (.getfield 12, 3) := by decide +kernel
theorem dX10_travel_70 : decode cX10_travel 70 = .ok (.getfield 140, 3) := by decide +kernel
theorem dX10_travel_73 : decode cX10_travel 73 = .ok (.invokevirtual 143, 3) := by decide +kernel
theorem dX10_travel_76 : decode cX10_travel 76 = .ok (.goto 4, 3) := by decide +kernel
theorem dX10_travel_79 : decode cX10_travel 79 = .ok (.iconst 0, 1) := by decide +kernel
theorem dX10_travel_80 : decode cX10_travel 80 = .ok (.istore 6, 2) := by decide +kernel
theorem dX10_travel_82 : decode cX10_travel 82 = .ok (.iload 6, 2) := by decide +kernel
theorem dX10_travel_84 : decode cX10_travel 84 = .ok (.ifCond .le 40, 3) := by decide +kernel
theorem dX10_travel_87 : decode cX10_travel 87 = .ok (.aload_n 0, 1) := by decide +kernel
theorem dX10_travel_88 : decode cX10_travel 88 = .ok (.getfield 12, 3) := by decide +kernel
theorem dX10_travel_91 : decode cX10_travel 91 = .ok (.sipush 1000, 3) := by decide +kernel
theorem dX10_travel_94 : decode cX10_travel 94 = .ok (.invokevirtual 207, 3) := by decide +kernel
theorem dX10_travel_97 : decode cX10_travel 97 = .ok (.iload 6, 2) := by decide +kernel
theorem dX10_travel_99 : decode cX10_travel 99 = .ok (.if_icmp .ge 25, 3) := by decide +kernel
theorem dX10_travel_102 : decode cX10_travel 102 = .ok (.aload_n 0, 1) := by decide +kernel
theorem dX10_travel_103 : decode cX10_travel 103 = .ok (.getfield 12, 3) := by decide +kernel
theorem dX10_travel_106 : decode cX10_travel 106 = .ok (.getfield 204, 3) := by decide +kernel
theorem dX10_travel_109 : decode cX10_travel 109 = .ok (.iload 5, 2) := by decide +kernel
theorem dX10_travel_111 : decode cX10_travel 111 = .ok (.iconst 1, 1) := by decide +kernel
theorem dX10_travel_112 : decode cX10_travel 112 = .ok (.iastore, 1) := by decide +kernel
theorem dX10_travel_113 : decode cX10_travel 113 = .ok (.iinc 4 1, 3) := by decide +kernel
theorem dX10_travel_116 : decode cX10_travel 116 = .ok (.aload_n 0, 1) := by decide +kernel
theorem dX10_travel_117 : decode cX10_travel 117 = .ok (.iconst 5, 1) := by decide +kernel
theorem dX10_travel_118 : decode cX10_travel 118 = .ok (.iload 5, 2) := by decide +kernel
theorem dX10_travel_120 : decode cX10_travel 120 = .ok (.iconst 0, 1) := by decide +kernel
theorem dX10_travel_121 : decode cX10_travel 121 = .ok (.invokevirtual 173, 3) := by decide +kernel
theorem dX10_travel_124 : decode cX10_travel 124 = .ok (.iinc 5 1, 3) := by decide +kernel
theorem dX10_travel_127 : decode cX10_travel 127 = .ok (.goto (-101), 3) := by decide +kernel
theorem dX10_travel_130 : decode cX10_travel 130 = .ok (.aload_n 0, 1) := by decide +kernel
theorem dX10_travel_131 : decode cX10_travel 131 = .ok (.getfield 12, 3) := by decide +kernel
theorem dX10_travel_134 : decode cX10_travel 134 = .ok (.iload_n 1, 1) := by decide +kernel
theorem dX10_travel_135 : decode cX10_travel 135 = .ok (.putfield 195, 3) := by decide +kernel
theorem dX10_travel_138 : decode cX10_travel 138 = .ok (.iload 4, 2) := by decide +kernel
theorem dX10_travel_140 : decode cX10_travel 140 = .ok (.ireturn, 1) := by decide +kernel
theorem dX10_restAll_0 : decode cX10_restAll 0 = .ok (.aload_n 0, 1) := by decide +kernel
theorem dX10_restAll_1 : decode cX10_restAll 1 = .ok (.getfield 12, 3) := by decide +kernel
theorem dX10_restAll_4 : decode cX10_restAll 4 = .ok (.invokevirtual 129, 3) := by decide +kernel
theorem dX10_restAll_7 : decode cX10_restAll 7 = .ok (.invokestatic 117, 3) := by decide +kernel
theorem dX10_restAll_10 : decode cX10_restAll 10 = .ok (.istore_n 1, 1) := by decide +kernel
theorem dX10_restAll_11 : decode cX10_restAll 11 = .ok (.aload_n 0, 1) := by decide +kernel
theorem dX10_restAll_12 : decode cX10_restAll 12 = .ok (.getfield 12, 3) := by decide +kernel
theorem dX10_restAll_15 : decode cX10_restAll 15 = .ok (.getfield 204, 3) := by decide +kernel
theorem dX10_restAll_18 : decode cX10_restAll 18 = .ok (.iconst 0, 1) := by decide +kernel
theorem dX10_restAll_19 : decode cX10_restAll 19 = .ok (.invokestatic 210, 3) := by decide +kernel
theorem dX10_restAll_22 : decode cX10_restAll 22 = .ok (.aload_n 0, 1) := by decide +kernel
theorem dX10_restAll_23 : decode cX10_restAll 23 = .ok (.bipush 6, 2) := by decide +kernel
theorem dX10_restAll_25 : decode cX10_restAll 25 = .ok (.iconst (-1), 1) := by decide +kernel
theorem dX10_restAll_26 : decode cX10_restAll 26 = .ok (.iconst 0, 1) := by decide +kernel
theorem dX10_restAll_27 : decode cX10_restAll 27 = .ok (.invokevirtual 173, 3) := by decide +kernel
theorem dX10_restAll_30 : decode cX10_restAll 30 = .ok (.iload_n 1, 1) := by decide +kernel
theorem dX10_restAll_31 : decode cX10_restAll 31 = .ok (.ireturn, 1) := by decide +kernel
theorem dX10_passDay_0 : decode cX10_passDay 0 = .ok (.iconst 0, 1) := by decide +kernel
theorem dX10_passDay_1 : decode cX10_passDay 1 = .ok (.istore_n 3, 1) := by decide +kernel
theorem dX10_passDay_2 : decode cX10_passDay 2 = .ok (.iconst 0, 1) := by decide +kernel
theorem dX10_passDay_3 : decode cX10_passDay 3 = .ok (.istore 4, 2) := by decide +kernel
theorem dX10_passDay_5 : decode cX10_passDay 5 = .ok (.iload 4, 2) := by decide +kernel
theorem dX10_passDay_7 : decode cX10_passDay 7 = .ok (.aload_n 0, 1) := by decide +kernel
theorem dX10_passDay_8 : decode cX10_passDay 8 = .ok (.getfield 34, 3) := by decide +kernel
theorem dX10_passDay_11 : decode cX10_passDay 11 = .ok (.getfield 148, 3) := by decide +kernel
theorem dX10_passDay_14 : decode cX10_passDay 14 = .ok (.if_icmp .ge 43, 3) := by decide +kernel
theorem dX10_passDay_17 : decode cX10_passDay 17 = .ok (.aload_n 0, 1) := by decide +kernel
theorem dX10_passDay_18 : decode cX10_passDay 18 = .ok (.getfield 34, 3) := by decide +kernel
theorem dX10_passDay_21 : decode cX10_passDay 21 = .ok (.iload 4, 2) := by decide +kernel
theorem dX10_passDay_23 : decode cX10_passDay 23 = .ok (.iconst 0, 1) := by decide +kernel
theorem dX10_passDay_24 : decode cX10_passDay 24 = .ok (.invokevirtual 151, 3) := by decide +kernel
theorem dX10_passDay_27 : decode cX10_passDay 27 = .ok (.aload_n 0, 1) := by decide +kernel
theorem dX10_passDay_28 : decode cX10_passDay 28 = .ok (.getfield 12, 3) := by decide +kernel
theorem dX10_passDay_31 : decode cX10_passDay 31 = .ok (.getfield 90, 3) := by decide +kernel
theorem dX10_passDay_34 : decode cX10_passDay 34 = .ok (.if_icmp .ne 17, 3) := by decide +kernel
theorem dX10_passDay_37 : decode cX10_passDay 37 = .ok (.aload_n 0, 1) := by decide +kernel
theorem dX10_passDay_38 : decode cX10_passDay 38 = .ok (.iload 4, 2) := by decide +kernel
theorem dX10_passDay_40 : decode cX10_passDay 40 = .ok (.aload_n 1, 1) := by decide +kernel
theorem dX10_passDay_41 : decode cX10_passDay 41 = .ok (.iload_n 2, 1) := by decide +kernel
theorem dX10_passDay_42 : decode cX10_passDay 42 = .ok (.invokevirtual 216, 3) := by decide +kernel
theorem dX10_passDay_45 : decode cX10_passDay 45 = .ok (.ifCond .eq 6, 3) := by decide +kernel
theorem dX10_passDay_48 : decode cX10_passDay 48 = .ok (.iinc 3 1, 3) := by decide +kernel
theorem dX10_passDay_51 : decode cX10_passDay 51 = .ok (.iinc 4 1, 3) := by decide +kernel
theorem dX10_passDay_54 : decode cX10_passDay 54 = .ok (.goto (-49), 3) := by decide +kernel
theorem dX10_passDay_57 : decode cX10_passDay 57 = .ok (.iconst 0, 1) := by decide +kernel
theorem dX10_passDay_58 : decode cX10_passDay 58 = .ok (.istore 4, 2) := by decide +kernel
theorem dX10_passDay_60 : decode cX10_passDay 60 = .ok (.iload 4, 2) := by decide +kernel
theorem dX10_passDay_62 : decode cX10_passDay 62 = .ok (.aload_n 0, 1) := by decide +kernel
theorem dX10_passDay_63 : decode cX10_passDay 63 = .ok (.getfield 12, 3) := by decide +kernel
theorem dX10_passDay_66 : decode cX10_passDay 66 = .ok (.getfield 133, 3) := by decide +kernel
theorem dX10_passDay_69 : decode cX10_passDay 69 = .ok (.if_icmp .ge 36, 3) := by decide +kernel
theorem dX10_passDay_72 : decode cX10_passDay 72 = .ok (.iload 4, 2) := by decide +kernel
theorem dX10_passDay_74 : decode cX10_passDay 74 = .ok (.bipush 12, 2) := by decide +kernel
theorem dX10_passDay_76 : decode cX10_passDay 76 = .ok (.if_icmp .ge 29, 3) := by decide +kernel
theorem dX10_passDay_79 : decode cX10_passDay 79 = .ok (.aload_n 0, 1) := by decide +kernel
theorem dX10_passDay_80 : decode cX10_passDay 80 = .ok (.getfield 12, 3) := by decide +kernel
theorem dX10_passDay_83 : decode cX10_passDay 83 = .ok (.iload 4, 2) := by decide +kernel
theorem dX10_passDay_85 : decode cX10_passDay 85 = .ok (.aload_n 0, 1) := by decide +kernel
theorem dX10_passDay_86 : decode cX10_passDay 86 = .ok (.getfield 12, 3) := by decide +kernel
theorem dX10_passDay_89 : decode cX10_passDay 89 = .ok (.getfield 163, 3) := by decide +kernel
theorem dX10_passDay_92 : decode cX10_passDay 92 = .ok (.iload 4, 2) := by decide +kernel
theorem dX10_passDay_94 : decode cX10_passDay 94 = .ok (.iaload, 1) := by decide +kernel
theorem dX10_passDay_95 : decode cX10_passDay 95 = .ok (.iconst (-1), 1) := by decide +kernel
theorem dX10_passDay_96 : decode cX10_passDay 96 = .ok (.invokevirtual 189, 3) := by decide +kernel
theorem dX10_passDay_99 : decode cX10_passDay 99 = .ok (.iinc 4 1, 3) := by decide +kernel
theorem dX10_passDay_102 : decode cX10_passDay 102 = .ok (.goto (-42), 3) := by decide +kernel
theorem dX10_passDay_105 : decode cX10_passDay 105 = .ok (.aload_n 0, 1) := by decide +kernel
theorem dX10_passDay_106 : decode cX10_passDay 106 = .ok (.getfield 12, 3) := by decide +kernel
theorem dX10_passDay_109 : decode cX10_passDay 109 = .ok (.dup, 1) := by decide +kernel
theorem dX10_passDay_110 : decode cX10_passDay 110 = .ok (.getfield 90, 3) := by decide +kernel
theorem dX10_passDay_113 : decode cX10_passDay 113 = .ok (.iconst 1, 1) := by decide +kernel
theorem dX10_passDay_114 : decode cX10_passDay 114 = .ok (.iadd, 1) := by decide +kernel
theorem dX10_passDay_115 : decode cX10_passDay 115 = .ok (.putfield 90, 3) := by decide +kernel
theorem dX10_passDay_118 : decode cX10_passDay 118 = .ok (.iload_n 3, 1) := by decide +kernel
theorem dX10_passDay_119 : decode cX10_passDay 119 = .ok (.ireturn, 1) := by decide +kernel
theorem dX10_doPlan_0 : decode cX10_doPlan 0 = .ok (.aload_n 0, 1) := by decide +kernel
theorem dX10_doPlan_1 : decode cX10_doPlan 1 = .ok (.getfield 34, 3) := by decide +kernel
theorem dX10_doPlan_4 : decode cX10_doPlan 4 = .ok (.iload_n 1, 1) := by decide +kernel
theorem dX10_doPlan_5 : decode cX10_doPlan 5 = .ok (.iconst 1, 1) := by decide +kernel
theorem dX10_doPlan_6 : decode cX10_doPlan 6 = .ok (.invokevirtual 151, 3) := by decide +kernel
theorem dX10_doPlan_9 : decode cX10_doPlan 9 = .ok (.istore 4, 2) := by decide +kernel
theorem dX10_doPlan_11 : decode cX10_doPlan 11 = .ok (.aload_n 0, 1) := by decide +kernel
theorem dX10_doPlan_12 : decode cX10_doPlan 12 = .ok (.getfield 34, 3) := by decide +kernel
theorem dX10_doPlan_15 : decode cX10_doPlan 15 = .ok (.iload_n 1, 1) := by decide +kernel
theorem dX10_doPlan_16 : decode cX10_doPlan 16 = .ok (.iconst 2, 1) := by decide +kernel
theorem dX10_doPlan_17 : decode cX10_doPlan 17 = .ok (.invokevirtual 151, 3) := by decide +kernel
theorem dX10_doPlan_20 : decode cX10_doPlan 20 = .ok (.istore 5, 2) := by decide +kernel
theorem dX10_doPlan_22 : decode cX10_doPlan 22 = .ok (.iload 4, 2) := by decide +kernel
theorem dX10_doPlan_24 : decode cX10_doPlan 24 = .ok (.ifCond .ne 10, 3) := by decide +kernel
theorem dX10_doPlan_27 : decode cX10_doPlan 27 = .ok (.aload_n 0, 1) := by decide +kernel
theorem dX10_doPlan_28 : decode cX10_doPlan 28 = .ok (.aload_n 2, 1) := by decide +kernel
theorem dX10_doPlan_29 : decode cX10_doPlan 29 = .ok (.invokevirtual 220, 3) := by decide +kernel
theorem dX10_doPlan_32 : decode cX10_doPlan 32 = .ok (.iconst 1, 1) := by decide +kernel
theorem dX10_doPlan_33 : decode cX10_doPlan 33 = .ok (.ireturn, 1) := by decide +kernel
theorem dX10_doPlan_34 : decode cX10_doPlan 34 = .ok (.iload 4, 2) := by decide +kernel
theorem dX10_doPlan_36 : decode cX10_doPlan 36 = .ok (.iconst 4, 1) := by decide +kernel
theorem dX10_doPlan_37 : decode cX10_doPlan 37 = .ok (.if_icmp .ne 39, 3) := by decide +kernel
theorem dX10_doPlan_40 : decode cX10_doPlan 40 = .ok (.aload_n 0, 1) := by decide +kernel
theorem dX10_doPlan_41 : decode cX10_doPlan 41 = .ok (.iload 5, 2) := by decide +kernel
theorem dX10_doPlan_43 : decode cX10_doPlan 43 = .ok (.invokevirtual 224, 3) := by decide +kernel
theorem dX10_doPlan_46 : decode cX10_doPlan 46 = .ok (.istore 6, 2) := by decide +kernel
theorem dX10_doPlan_48 : decode cX10_doPlan 48 = .ok (.iload 6, 2) := by decide +kernel
theorem dX10_doPlan_50 : decode cX10_doPlan 50 = .ok (.iconst (-1), 1) := by decide +kernel
theorem dX10_doPlan_51 : decode cX10_doPlan 51 = .ok (.if_icmp .eq 13, 3) := by decide +kernel
theorem dX10_doPlan_54 : decode cX10_doPlan 54 = .ok (.aload_n 0, 1) := by decide +kernel
theorem dX10_doPlan_55 : decode cX10_doPlan 55 = .ok (.iload 5, 2) := by decide +kernel
theorem dX10_doPlan_57 : decode cX10_doPlan 57 = .ok (.iload 6, 2) := by decide +kernel
theorem dX10_doPlan_59 : decode cX10_doPlan 59 = .ok (.iload_n 3, 1) := by decide +kernel
theorem dX10_doPlan_60 : decode cX10_doPlan 60 = .ok (.invokevirtual 227, 3) := by decide +kernel
theorem dX10_doPlan_63 : decode cX10_doPlan 63 = .ok (.pop, 1) := by decide +kernel
theorem dX10_doPlan_64 : decode cX10_doPlan 64 = .ok (.iload 6, 2) := by decide +kernel
theorem dX10_doPlan_66 : decode cX10_doPlan 66 = .ok (.iconst (-1), 1) := by decide +kernel
theorem dX10_doPlan_67 : decode cX10_doPlan 67 = .ok (.if_icmp .eq 7, 3) := by decide +kernel
theorem dX10_doPlan_70 : decode cX10_doPlan 70 = .ok (.iconst 1, 1) := by decide +kernel
theorem dX10_doPlan_71 : decode cX10_doPlan 71 = .ok (.goto 4, 3) := by decide +kernel
theorem dX10_doPlan_74 : decode cX10_doPlan 74 = .ok (.iconst 0, 1) := by decide +kernel
theorem dX10_doPlan_75 : decode cX10_doPlan 75 = .ok (.ireturn, 1) := by decide +kernel
theorem dX10_doPlan_76 : decode cX10_doPlan 76 = .ok (.aload_n 0, 1) := by decide +kernel
theorem dX10_doPlan_77 : decode cX10_doPlan 77 = .ok (.getfield 34, 3) := by decide +kernel
theorem dX10_doPlan_80 : decode cX10_doPlan 80 = .ok (.iload_n 1, 1) := by decide +kernel
theorem dX10_doPlan_81 : decode cX10_doPlan 81 = .ok (.iconst 3, 1) := by decide +kernel
theorem dX10_doPlan_82 : decode cX10_doPlan 82 = .ok (.invokevirtual 151, 3) := by decide +kernel
theorem dX10_doPlan_85 : decode cX10_doPlan 85 = .ok (.istore 6, 2) := by decide +kernel
theorem dX10_doPlan_87 : decode cX10_doPlan 87 = .ok (.aload_n 0, 1) := by decide +kernel
theorem dX10_doPlan_88 : decode cX10_doPlan 88 = .ok (.iload 4, 2) := by decide +kernel
theorem dX10_doPlan_90 : decode cX10_doPlan 90 = .ok (.iload 5, 2) := by decide +kernel
theorem dX10_doPlan_92 : decode cX10_doPlan 92 = .ok (.iload 6, 2) := by decide +kernel
theorem dX10_doPlan_94 : decode cX10_doPlan 94 = .ok (.invokevirtual 231, 3) := by decide +kernel
theorem dX10_doPlan_97 : decode cX10_doPlan 97 = .ok (.istore 7, 2) := by decide +kernel
theorem dX10_doPlan_99 : decode cX10_doPlan 99 = .ok (.iload 7, 2) := by decide +kernel
theorem dX10_doPlan_101 : decode cX10_doPlan 101 = .ok (.ifCond .eq 13, 3) := by decide +kernel
theorem dX10_doPlan_104 : decode cX10_doPlan 104 = .ok (.aload_n 0, 1) := by decide +kernel
theorem dX10_doPlan_105 : decode cX10_doPlan 105 = .ok (.iload 4, 2) := by decide +kernel
theorem dX10_doPlan_107 : decode cX10_doPlan 107 = .ok (.iload 5, 2) := by decide +kernel
theorem dX10_doPlan_109 : decode cX10_doPlan 109 = .ok (.iload 6, 2) := by decide +kernel
theorem dX10_doPlan_111 : decode cX10_doPlan 111 = .ok (.invokevirtual 235, 3) := by decide +kernel
theorem dX10_doPlan_114 : decode cX10_doPlan 114 = .ok (.iload 7, 2) := by decide +kernel
theorem dX10_doPlan_116 : decode cX10_doPlan 116 = .ok (.ireturn, 1) := by decide +kernel
theorem dX11_init_0 : decode cX11_init 0 = .ok (.aload_n 0, 1) := by decide +kernel
theorem dX11_init_1 : decode cX11_init 1 = .ok (.invokespecial 3, 3) := by decide +kernel
theorem dX11_init_4 : decode cX11_init 4 = .ok (.aload_n 0, 1) := by decide +kernel
theorem dX11_init_5 : decode cX11_init 5 = .ok (.new 9, 3) := by decide +kernel
theorem dX11_init_8 : decode cX11_init 8 = .ok (.dup, 1) := by decide +kernel
theorem dX11_init_9 : decode cX11_init 9 = .ok (.invokespecial 11, 3) := by decide +kernel
theorem dX11_init_12 : decode cX11_init 12 = .ok (.putfield 12, 3) := by decide +kernel
theorem dX11_init_15 : decode cX11_init 15 = .ok (.aload_n 0, 1) := by decide +kernel
theorem dX11_init_16 : decode cX11_init 16 = .ok (.new 9, 3) := by decide +kernel
theorem dX11_init_19 : decode cX11_init 19 = .ok (.dup, 1) := by decide +kernel
theorem dX11_init_20 : decode cX11_init 20 = .ok (.invokespecial 11, 3) := by decide +kernel
theorem dX11_init_23 : decode cX11_init 23 = .ok (.putfield 16, 3) := by decide +kernel
theorem dX11_init_26 : decode cX11_init 26 = .ok (.aload_n 0, 1) := by decide +kernel
theorem dX11_init_27 : decode cX11_init 27 = .ok (.iconst 0, 1) := by decide +kernel
theorem dX11_init_28 : decode cX11_init 28 = .ok (.putfield 19, 3) := by decide +kernel
theorem dX11_init_31 : decode cX11_init 31 = .ok (.aload_n 0, 1) := by decide +kernel
theorem dX11_init_32 : decode cX11_init 32 = .ok (.new 23, 3) := by decide +kernel
theorem dX11_init_35 : decode cX11_init 35 = .ok (.dup, 1) := by decide +kernel
theorem dX11_init_36 : decode cX11_init 36 = .ok (.invokespecial 25, 3) := by decide +kernel
theorem dX11_init_39 : decode cX11_init 39 = .ok (.putfield 26, 3) := by decide +kernel
theorem dX11_init_42 : decode cX11_init 42 = .ok (.aload_n 0, 1) := by decide +kernel
theorem dX11_init_43 : decode cX11_init 43 = .ok (.new 30, 3) := by decide +kernel
theorem dX11_init_46 : decode cX11_init 46 = .ok (.dup, 1) := by decide +kernel
theorem dX11_init_47 : decode cX11_init 47 = .ok (.invokespecial 32, 3) := by decide +kernel
theorem dX11_init_50 : decode cX11_init 50 = .ok (.putfield 33, 3) := by decide +kernel
theorem dX11_init_53 : decode cX11_init 53 = .ok (.aload_n 0, 1) := by decide +kernel
theorem dX11_init_54 : decode cX11_init 54 = .ok (.new 37, 3) := by decide +kernel
theorem dX11_init_57 : decode cX11_init 57 = .ok (.dup, 1) := by decide +kernel
theorem dX11_init_58 : decode cX11_init 58 = .ok (.invokespecial 39, 3) := by decide +kernel
theorem dX11_init_61 : decode cX11_init 61 = .ok (.putfield 40, 3) := by decide +kernel
theorem dX11_init_64 : decode cX11_init 64 = .ok (.aload_n 0, 1) := by decide +kernel
theorem dX11_init_65 : decode cX11_init 65 = .ok (.new 44, 3) := by decide +kernel
theorem dX11_init_68 : decode cX11_init 68 = .ok (.dup, 1) := by decide +kernel
theorem dX11_init_69 : decode cX11_init 69 = .ok (.invokespecial 46, 3) := by decide +kernel
theorem dX11_init_72 : decode cX11_init 72 = .ok (.putfield 47, 3) := by decide +kernel
theorem dX11_init_75 : decode cX11_init 75 = .ok (.aload_n 0, 1) := by decide +kernel
theorem dX11_init_76 : decode cX11_init 76 = .ok (.new 51, 3) := by decide +kernel
theorem dX11_init_79 : decode cX11_init 79 = .ok (.dup, 1) := by decide +kernel
theorem dX11_init_80 : decode cX11_init 80 = .ok (.invokespecial 53, 3) := by decide +kernel
theorem dX11_init_83 : decode cX11_init 83 = .ok (.putfield 54, 3) := by decide +kernel
theorem dX11_init_86 : decode cX11_init 86 = .ok (.aload_n 0, 1) := by decide +kernel
theorem dX11_init_87 : decode cX11_init 87 = .ok (.new 58, 3) := by decide +kernel
theorem dX11_init_90 : decode cX11_init 90 = .ok (.dup, 1) := by decide +kernel
theorem dX11_init_91 : decode cX11_init 91 = .ok (.invokespecial 60, 3) := by decide +kernel
theorem dX11_init_94 : decode cX11_init 94 = .ok (.putfield 61, 3) := by decide +kernel
theorem dX11_init_97 : decode cX11_init 97 = .ok (.aload_n 0, 1) := by decide +kernel
theorem dX11_init_98 : decode cX11_init 98 = .ok (.new 65, 3) := by decide +kernel
theorem dX11_init_101 : decode cX11_init 101 = .ok (.dup, 1) := by decide +kernel
theorem dX11_init_102 : decode cX11_init 102 = .ok (.aload_n 0, 1) := by decide +kernel
theorem dX11_init_103 : decode cX11_init 103 = .ok (.getfield 61, 3) := by decide +kernel
theorem dX11_init_106 : decode cX11_init 106 = .ok (.invokespecial 67, 3) := by decide +kernel
theorem dX11_init_109 : decode cX11_init 109 = .ok (.putfield 70, 3) := by decide +kernel
theorem dX11_init_112 : decode cX11_init 112 = .ok (.aload_n 0, 1) := by decide +kernel
theorem dX11_init_113 : decode cX11_init 113 = .ok (.new 74, 3) := by decide +kernel
theorem dX11_init_116 : decode cX11_init 116 = .ok (.dup, 1) := by decide +kernel
theorem dX11_init_117 : decode cX11_init 117 = .ok (.aload_n 0, 1) := by decide +kernel
theorem dX11_init_118 : decode cX11_init 118 = .ok (.getfield 61, 3) := by decide +kernel
theorem dX11_init_121 : decode cX11_init 121 = .ok (.invokespecial 76, 3) := by decide +kernel
theorem dX11_init_124 : decode cX11_init 124 = .ok (.putfield 77, 3) := by decide +kernel
theorem dX11_init_127 : decode cX11_init 127 = .ok (.return_, 1) := by decide +kernel
theorem dX11_state_0 : decode cX11_state 0 = .ok (.aload_n 0, 1) := by decide +kernel
theorem dX11_state_1 : decode cX11_state 1 = .ok (.getfield 12, 3) := by decide +kernel
theorem dX11_state_4 : decode cX11_state 4 = .ok (.getfield 81, 3) := by decide +kernel
theorem dX11_state_7 : decode cX11_state 7 = .ok (.getfield 84, 3) := by decide +kernel
theorem dX11_state_10 : decode cX11_state 10 = .ok (.istore_n 2, 1) := by decide +kernel
theorem dX11_state_11 : decode cX11_state 11 = .ok (.aload_n 0, 1) := by decide +kernel
theorem dX11_state_12 : decode cX11_state 12 = .ok (.getfield 12, 3) := by decide +kernel
theorem dX11_state_15 : decode cX11_state 15 = .ok (.getfield 81, 3) := by decide +kernel
theorem dX11_state_18 : decode cX11_state 18 = .ok (.iload_n 1, 1) := by decide +kernel
theorem dX11_state_19 : decode cX11_state 19 = .ok (.putfield 84, 3) := by decide +kernel
theorem dX11_state_22 : decode cX11_state 22 = .ok (.aload_n 0, 1) := by decide +kernel
theorem dX11_state_23 : decode cX11_state 23 = .ok (.getfield 26, 3) := by decide +kernel
theorem dX11_state_26 : decode cX11_state 26 = .ok (.invokevirtual 88, 3) := by decide +kernel
theorem dX11_state_29 : decode cX11_state 29 = .ok (.iload_n 2, 1) := by decide +kernel
theorem dX11_state_30 : decode cX11_state 30 = .ok (.ireturn, 1) := by decide +kernel
theorem dX11_mule_0 : decode cX11_mule 0 = .ok (.iload_n 1, 1) := by decide +kernel
theorem dX11_mule_1 : decode cX11_mule 1 = .ok (.iconst 1, 1) := by decide +kernel
theorem dX11_mule_2 : decode cX11_mule 2 = .ok (.bipush 40, 2) := by decide +kernel
theorem dX11_mule_4 : decode cX11_mule 4 = .ok (.invokestatic 91, 3) := by decide +kernel
theorem dX11_mule_7 : decode cX11_mule 7 = .ok (.ifCond .eq 13, 3) := by decide +kernel
theorem dX11_mule_10 : decode cX11_mule 10 = .ok (.iload_n 2, 1) := by decide +kernel
theorem dX11_mule_11 : decode cX11_mule 11 = .ok (.iconst 0, 1) := by decide +kernel
theorem dX11_mule_12 : decode cX11_mule 12 = .ok (.bipush 40, 2) := by decide +kernel
theorem dX11_mule_14 : decode cX11_mule 14 = .ok (.invokestatic 91, 3) := by decide +kernel
theorem dX11_mule_17 : decode cX11_mule 17 = .ok (.ifCond .ne 5, 3) := by decide +kernel
theorem dX11_mule_20 : decode cX11_mule 20 = .ok (.iconst (-1), 1) := by decide +kernel
theorem dX11_mule_21 : decode cX11_mule 21 = .ok (.ireturn, 1) := by decide +kernel
theorem dX11_mule_22 : decode cX11_mule 22 = .ok (.aload_n 0, 1) := by decide +kernel
theorem dX11_mule_23 : decode cX11_mule 23 = .ok (.getfield 12, 3) := by decide +kernel
theorem dX11_mule_26 : decode cX11_mule 26 = .ok (.getfield 81, 3) := by decide +kernel
theorem dX11_mule_29 : decode cX11_mule 29 = .ok (.iload_n 1, 1) := by decide +kernel
theorem dX11_mule_30 : decode cX11_mule 30 = .ok (.iload_n 2, 1) := by decide +kernel
theorem dX11_mule_31 : decode cX11_mule 31 = .ok (.invokevirtual 95, 3) := by decide +kernel
theorem dX11_mule_34 : decode cX11_mule 34 = .ok (.istore_n 3, 1) := by decide +kernel
theorem dX11_mule_35 : decode cX11_mule 35 = .ok (.iload_n 3, 1) := by decide +kernel
theorem dX11_mule_36 : decode cX11_mule 36 = .ok (.iconst (-1), 1) := by decide +kernel
theorem dX11_mule_37 : decode cX11_mule 37 = .ok (.if_icmp .eq 10, 3) := by decide +kernel
theorem dX11_mule_40 : decode cX11_mule 40 = .ok (.aload_n 0, 1) := by decide +kernel
theorem dX11_mule_41 : decode cX11_mule 41 = .ok (.getfield 26, 3) := by decide +kernel
theorem dX11_mule_44 : decode cX11_mule 44 = .ok (.invokevirtual 88, 3) := by decide +kernel
theorem dX11_mule_47 : decode cX11_mule 47 = .ok (.iload_n 3, 1) := by decide +kernel
theorem dX11_mule_48 : decode cX11_mule 48 = .ok (.ireturn, 1) := by decide +kernel
theorem dX11_man_0 : decode cX11_man 0 = .ok (.iload_n 1, 1) := by decide +kernel
theorem dX11_man_1 : decode cX11_man 1 = .ok (.iconst 0, 1) := by decide +kernel
theorem dX11_man_2 : decode cX11_man 2 = .ok (.bipush 99, 2) := by decide +kernel
theorem dX11_man_4 : decode cX11_man 4 = .ok (.invokestatic 91, 3) := by decide +kernel
theorem dX11_man_7 : decode cX11_man 7 = .ok (.ifCond .eq 23, 3) := by decide +kernel
theorem dX11_man_10 : decode cX11_man 10 = .ok (.iload_n 2, 1) := by decide +kernel
theorem dX11_man_11 : decode cX11_man 11 = .ok (.iconst 0, 1) := by decide +kernel
theorem dX11_man_12 : decode cX11_man 12 = .ok (.bipush 9, 2) := by decide +kernel
theorem dX11_man_14 : decode cX11_man 14 = .ok (.invokestatic 91, 3) := by decide +kernel
theorem dX11_man_17 : decode cX11_man 17 = .ok (.ifCond .eq 13, 3) := by decide +kernel
theorem dX11_man_20 : decode cX11_man 20 = .ok (.iload_n 3, 1) := by decide +kernel
theorem dX11_man_21 : decode cX11_man 21 = .ok (.iconst 0, 1) := by decide +kernel
theorem dX11_man_22 : decode cX11_man 22 = .ok (.bipush 9, 2) := by decide +kernel
theorem dX11_man_24 : decode cX11_man 24 = .ok (.invokestatic 91, 3) := by decide +kernel
theorem dX11_man_27 : decode cX11_man 27 = .ok (.ifCond .ne 5, 3) := by decide +kernel
theorem dX11_man_30 : decode cX11_man 30 = .ok (.iconst (-1), 1) := by decide +kernel
theorem dX11_man_31 : decode cX11_man 31 = .ok (.ireturn, 1) := by decide +kernel
theorem dX11_man_32 : decode cX11_man 32 = .ok (.aload_n 0, 1) := by decide +kernel
theorem dX11_man_33 : decode cX11_man 33 = .ok (.getfield 12, 3) := by decide +kernel
theorem dX11_man_36 : decode cX11_man 36 = .ok (.getfield 81, 3) := by decide +kernel
theorem dX11_man_39 : decode cX11_man 39 = .ok (.iload_n 1, 1) := by decide +kernel
theorem dX11_man_40 : decode cX11_man 40 = .ok (.iload_n 2, 1) := by decide +kernel
theorem dX11_man_41 : decode cX11_man 41 = .ok (.iload_n 3, 1) := by decide +kernel
theorem dX11_man_42 : decode cX11_man 42 = .ok (.invokevirtual 99, 3) := by decide +kernel
theorem dX11_man_45 : decode cX11_man 45 = .ok (.istore 4, 2) := by decide +kernel
theorem dX11_man_47 : decode cX11_man 47 = .ok (.iload 4, 2) := by decide +kernel
theorem dX11_man_49 : decode cX11_man 49 = .ok (.iconst (-1), 1) := by decide +kernel
theorem dX11_man_50 : decode cX11_man 50 = .ok (.if_icmp .eq 10, 3) := by decide +kernel
theorem dX11_man_53 : decode cX11_man 53 = .ok (.aload_n 0, 1) := by decide +kernel
theorem dX11_man_54 : decode cX11_man 54 = .ok (.getfield 26, 3) := by decide +kernel
theorem dX11_man_57 : decode cX11_man 57 = .ok (.invokevirtual 88, 3) := by decide +kernel
theorem dX11_man_60 : decode cX11_man 60 = .ok (.iload 4, 2) := by decide +kernel
theorem dX11_man_62 : decode cX11_man 62 = .ok (.ireturn, 1) := by decide +kernel
theorem dX11_set_0 : decode cX11_set 0 = .ok (.iload_n 1, 1) := by decide +kernel
theorem dX11_set_1 : decode cX11_set 1 = .ok (.iconst 3, 1) := by decide +kernel
theorem dX11_set_2 : decode cX11_set 2 = .ok (.if_icmp .lt 13, 3) := by decide +kernel
theorem dX11_set_5 : decode cX11_set 5 = .ok (.aload_n 0, 1) := by decide +kernel
theorem dX11_set_6 : decode cX11_set 6 = .ok (.iload_n 1, 1) := by decide +kernel
theorem dX11_set_7 : decode cX11_set 7 = .ok (.iload_n 2, 1) := by decide +kernel
theorem dX11_set_8 : decode cX11_set 8 = .ok (.iload_n 3, 1) := by decide +kernel
theorem dX11_set_9 : decode cX11_set 9 = .ok (.invokevirtual 103, 3) := by decide +kernel
theorem dX11_set_12 : decode cX11_set 12 = .ok (.goto 10, 3) := by decide +kernel
theorem dX11_set_15 : decode cX11_set 15 = .ok (.aload_n 0, 1) := by decide +kernel
theorem dX11_set_16 : decode cX11_set 16 = .ok (.iload_n 1, 1) := by decide +kernel
theorem dX11_set_17 : decode cX11_set 17 = .ok (.iload_n 2, 1) := by decide +kernel
theorem dX11_set_18 : decode cX11_set 18 = .ok (.iload_n 3, 1) := by decide +kernel
theorem dX11_set_19 : decode cX11_set 19 = .ok (.invokevirtual 106, 3) := by decide +kernel
theorem dX11_set_22 : decode cX11_set 22 = .ok (.istore 4, 2) := by decide +kernel
theorem dX11_set_24 : decode cX11_set 24 = .ok (.iload 4, 2) := by decide +kernel
theorem dX11_set_26 : decode cX11_set 26 = .ok (.ifCond .eq 10, 3) := by decide +kernel
theorem dX11_set_29 : decode cX11_set 29 = .ok (.aload_n 0, 1) := by decide +kernel
theorem dX11_set_30 : decode cX11_set 30 = .ok (.getfield 26, 3) := by decide +kernel
theorem dX11_set_33 : decode cX11_set 33 = .ok (.invokevirtual 88, 3) := by decide +kernel
theorem dX11_set_36 : decode cX11_set 36 = .ok (.iload 4, 2) := by decide +kernel
theorem dX11_set_38 : decode cX11_set 38 = .ok (.ireturn, 1) := by decide +kernel
theorem dX11_tellOfTrain_0 : decode cX11_tellOfTrain 0 = .ok (.aload_n 0, 1) := by decide +kernel
theorem dX11_tellOfTrain_1 : decode cX11_tellOfTrain 1 = .ok (.getfield 12, 3) := by decide +kernel
theorem dX11_tellOfTrain_4 : decode cX11_tellOfTrain 4 = .ok (.getfield 81, 3) := by decide +kernel
theorem dX11_tellOfTrain_7 : decode cX11_tellOfTrain 7 = .ok (.astore 4, 2) := by decide +kernel
theorem dX11_tellOfTrain_9 : decode cX11_tellOfTrain 9 = .ok (.iload_n 1, 1) := by decide +kernel
theorem dX11_tellOfTrain_10 : decode cX11_tellOfTrain 10 = .ok (.ifCond .ne 21, 3) := by decide +kernel
theorem dX11_tellOfTrain_13 : decode cX11_tellOfTrain 13 = .ok (.iload_n 3, 1) := by decide +kernel
theorem dX11_tellOfTrain_14 : decode cX11_tellOfTrain 14 = .ok (.iconst 0, 1) := by decide +kernel
theorem dX11_tellOfTrain_15 : decode cX11_tellOfTrain 15 = .ok (.bipush 9, 2) := by decide +kernel
theorem dX11_tellOfTrain_17 : decode cX11_tellOfTrain 17 = .ok (.invokestatic 91, 3) := by decide +kernel
theorem dX11_tellOfTrain_20 : decode cX11_tellOfTrain 20 = .ok (.ifCond .eq 11, 3) := by decide +kernel
theorem dX11_tellOfTrain_23 : decode cX11_tellOfTrain 23 = .ok (.aload 4, 2) := by decide +kernel
theorem dX11_tellOfTrain_25 : decode cX11_tellOfTrain 25 = .ok (.iload_n 3, 1) := by decide +kernel
theorem dX11_tellOfTrain_26 : decode cX11_tellOfTrain 26 = .ok (.putfield 109, 3) := by decide +kernel
theorem dX11_tellOfTrain_29 : decode cX11_tellOfTrain 29 = .ok (.iconst 1, 1) := by decide +kernel
theorem dX11_tellOfTrain_30 : decode cX11_tellOfTrain 30 = .ok (.ireturn, 1) := by decide +kernel
theorem dX11_tellOfTrain_31 : decode cX11_tellOfTrain 31 = .ok (.iload_n 1, 1) := by decide +kernel
theorem dX11_tellOfTrain_32 : decode cX11_tellOfTrain 32 = .ok (.iconst 1, 1) := by decide +kernel
theorem dX11_tellOfTrain_33 : decode cX11_tellOfTrain 33 = .ok (.if_icmp .ne 18, 3) := by decide +kernel
theorem dX11_tellOfTrain_36 : decode cX11_tellOfTrain 36 = .ok (.iload_n 3, 1) := by decide +kernel
theorem dX11_tellOfTrain_37 : decode cX11_tellOfTrain 37 = .ok (.invokestatic 112, 3) := by decide +kernel
theorem dX11_tellOfTrain_40 : decode cX11_tellOfTrain 40 = .ok (.ifCond .eq 11, 3) := by decide +kernel
theorem dX11_tellOfTrain_43 : decode cX11_tellOfTrain 43 = .ok (.aload 4, 2) := by decide +kernel
theorem dX11_tellOfTrain_45 : decode cX11_tellOfTrain 45 = .ok (.iload_n 3, 1) := by decide +kernel
theorem dX11_tellOfTrain_46 : decode cX11_tellOfTrain 46 = .ok (.putfield 116, 3) := by decide +kernel
theorem dX11_tellOfTrain_49 : decode cX11_tellOfTrain 49 = .ok (.iconst 1, 1) := by decide +kernel
theorem dX11_tellOfTrain_50 : decode cX11_tellOfTrain 50 = .ok (.ireturn, 1) := by decide +kernel
theorem dX11_tellOfTrain_51 : decode cX11_tellOfTrain 51 = .ok (.iload_n 1, 1) := by decide +kernel
theorem dX11_tellOfTrain_52 : decode cX11_tellOfTrain 52 = .ok (.iconst 2, 1) := by decide +kernel
theorem dX11_tellOfTrain_53 : decode cX11_tellOfTrain 53 = .ok (.if_icmp .ne 31, 3) := by decide +kernel
theorem dX11_tellOfTrain_56 : decode cX11_tellOfTrain 56 = .ok (.aload 4, 2) := by decide +kernel
theorem dX11_tellOfTrain_58 : decode cX11_tellOfTrain 58 = .ok (.iload_n 2, 1) := by decide +kernel
theorem dX11_tellOfTrain_59 : decode cX11_tellOfTrain 59 = .ok (.invokevirtual 119, 3) := by decide +kernel
theorem dX11_tellOfTrain_62 : decode cX11_tellOfTrain 62 = .ok (.ifCond .eq 22, 3) := by decide +kernel
theorem dX11_tellOfTrain_65 : decode cX11_tellOfTrain 65 = .ok (.iload_n 3, 1) := by decide +kernel
theorem dX11_tellOfTrain_66 : decode cX11_tellOfTrain 66 = .ok (.iconst 0, 1) := by decide +kernel
theorem dX11_tellOfTrain_67 : decode cX11_tellOfTrain 67 = .ok (.iconst 1, 1) := by decide +kernel
theorem dX11_tellOfTrain_68 : decode cX11_tellOfTrain 68 = .ok (.invokestatic 91, 3) := by decide +kernel
theorem dX11_tellOfTrain_71 : decode cX11_tellOfTrain 71 = .ok (.ifCond .eq 13, 3) := by decide +kernel
theorem dX11_tellOfTrain_74 : decode cX11_tellOfTrain 74 = .ok (.aload 4, 2) := by decide +kernel
theorem dX11_tellOfTrain_76 : decode cX11_tellOfTrain 76 = .ok (.getfield 122, 3) := by decide +kernel
theorem dX11_tellOfTrain_79 : decode cX11_tellOfTrain 79 = .ok (.iload_n 2, 1) := by decide +kernel
theorem dX11_tellOfTrain_80 : decode cX11_tellOfTrain 80 = .ok (.iload_n 3, 1) := by decide +kernel
theorem dX11_tellOfTrain_81 : decode cX11_tellOfTrain 81 = .ok (.iastore, 1) := by decide +kernel
theorem dX11_tellOfTrain_82 : decode cX11_tellOfTrain 82 = .ok (.iconst 1, 1) := by decide +kernel
theorem dX11_tellOfTrain_83 : decode cX11_tellOfTrain 83 = .ok (.ireturn, 1) := by decide +kernel
theorem dX11_tellOfTrain_84 : decode cX11_tellOfTrain 84 = .ok (.iconst 0, 1) := by decide +kernel
theorem dX11_tellOfTrain_85 : decode cX11_tellOfTrain 85 = .ok (.ireturn, 1) := by decide +kernel
theorem dX11_tellOfMan_0 : decode cX11_tellOfMan 0 = .ok (.aload_n 0, 1) := by decide +kernel
theorem dX11_tellOfMan_1 : decode cX11_tellOfMan 1 = .ok (.getfield 12, 3) := by decide +kernel
theorem dX11_tellOfMan_4 : decode cX11_tellOfMan 4 = .ok (.getfield 81, 3) := by decide +kernel
theorem dX11_tellOfMan_7 : decode cX11_tellOfMan 7 = .ok (.astore 4, 2) := by decide +kernel
theorem dX11_tellOfMan_9 : decode cX11_tellOfMan 9 = .ok (.aload 4, 2) := by decide +kernel
theorem dX11_tellOfMan_11 : decode cX11_tellOfMan 11 = .ok (.iload_n 2, 1) := by decide +kernel
theorem dX11_tellOfMan_12 : decode cX11_tellOfMan 12 = .ok (.invokevirtual 126, 3) := by decide +kernel
theorem dX11_tellOfMan_15 : decode cX11_tellOfMan 15 = .ok (.ifCond .ne 5, 3) := by decide +kernel
theorem dX11_tellOfMan_18 : decode cX11_tellOfMan 18 = .ok (.iconst 0, 1) := by decide +kernel
theorem dX11_tellOfMan_19 : decode cX11_tellOfMan 19 = .ok (.ireturn, 1) := by decide +kernel
theorem dX11_tellOfMan_20 : decode cX11_tellOfMan 20 = .ok (.iload_n 1, 1) := by decide +kernel
theorem dX11_tellOfMan_21 : decode cX11_tellOfMan 21 = .ok (.iconst 3, 1) := by decide +kernel
theorem dX11_tellOfMan_22 : decode cX11_tellOfMan 22 = .ok (.if_icmp .ne 23, 3) := by decide +kernel
theorem dX11_tellOfMan_25 : decode cX11_tellOfMan 25 = .ok (.iload_n 3, 1) := by decide +kernel
theorem dX11_tellOfMan_26 : decode cX11_tellOfMan 26 = .ok (.iconst 0, 1) := by decide +kernel
theorem dX11_tellOfMan_27 : decode cX11_tellOfMan 27 = .ok (.bipush 99, 2) := by decide +kernel
theorem dX11_tellOfMan_29 : decode cX11_tellOfMan 29 = .ok (.invokestatic 91, 3) := by decide +kernel
theorem dX11_tellOfMan_32 : decode cX11_tellOfMan 32 = .ok (.ifCond .eq 13, 3) := by decide +kernel
theorem dX11_tellOfMan_35 : decode cX11_tellOfMan 35 = .ok (.aload 4, 2) := by decide +kernel
theorem dX11_tellOfMan_37 : decode cX11_tellOfMan 37 = .ok (.getfield 129, 3) := by decide +kernel
theorem dX11_tellOfMan_40 : decode cX11_tellOfMan 40 = .ok (.iload_n 2, 1) := by decide +kernel
theorem dX11_tellOfMan_41 : decode cX11_tellOfMan 41 = .ok (.iload_n 3, 1) := by decide +kernel
theorem dX11_tellOfMan_42 : decode cX11_tellOfMan 42 = .ok (.iastore, 1) := by decide +kernel
theorem dX11_tellOfMan_43 : decode cX11_tellOfMan 43 = .ok (.iconst 1, 1) := by decide +kernel
theorem dX11_tellOfMan_44 : decode cX11_tellOfMan 44 = .ok (.ireturn, 1) := by decide +kernel
theorem dX11_tellOfMan_45 : decode cX11_tellOfMan 45 = .ok (.iload_n 1, 1) := by decide +kernel
theorem dX11_tellOfMan_46 : decode cX11_tellOfMan 46 = .ok (.iconst 4, 1) := by decide +kernel
theorem dX11_tellOfMan_47 : decode cX11_tellOfMan 47 = .ok (.if_icmp .ne 23, 3) := by decide +kernel
theorem dX11_tellOfMan_50 : decode cX11_tellOfMan 50 = .ok (.iload_n 3, 1) := by decide +kernel
theorem dX11_tellOfMan_51 : decode cX11_tellOfMan 51 = .ok (.iconst 0, 1) := by decide +kernel
theorem dX11_tellOfMan_52 : decode cX11_tellOfMan 52 = .ok (.bipush 9, 2) := by decide +kernel
theorem dX11_tellOfMan_54 : decode cX11_tellOfMan 54 = .ok (.invokestatic 91, 3) := by decide +kernel
theorem dX11_tellOfMan_57 : decode cX11_tellOfMan 57 = .ok (.ifCond .eq 13, 3) := by decide +kernel
theorem dX11_tellOfMan_60 : decode cX11_tellOfMan 60 = .ok (.aload 4, 2) := by decide +kernel
theorem dX11_tellOfMan_62 : decode cX11_tellOfMan 62 = .ok (.getfield 132, 3) := by decide +kernel
theorem dX11_tellOfMan_65 : decode cX11_tellOfMan 65 = .ok (.iload_n 2, 1) := by decide +kernel
theorem dX11_tellOfMan_66 : decode cX11_tellOfMan 66 = .ok (.iload_n 3, 1) := by decide +kernel
theorem dX11_tellOfMan_67 : decode cX11_tellOfMan 67 = .ok (.iastore, 1) := by decide +kernel
theorem dX11_tellOfMan_68 : decode cX11_tellOfMan 68 = .ok (.iconst 1, 1) := by decide +kernel
theorem dX11_tellOfMan_69 : decode cX11_tellOfMan 69 = .ok (.ireturn, 1) := by decide +kernel
theorem dX11_tellOfMan_70 : decode cX11_tellOfMan 70 = .ok (.iload_n 1, 1) := by decide +kernel
theorem dX11_tellOfMan_71 : decode cX11_tellOfMan 71 = .ok (.iconst 5, 1) := by decide +kernel
theorem dX11_tellOfMan_72 : decode cX11_tellOfMan 72 = .ok (.if_icmp .ne 23, 3) := by decide +kernel
theorem dX11_tellOfMan_75 : decode cX11_tellOfMan 75 = .ok (.iload_n 3, 1) := by decide +kernel
theorem dX11_tellOfMan_76 : decode cX11_tellOfMan 76 = .ok (.iconst 0, 1) := by decide +kernel
theorem dX11_tellOfMan_77 : decode cX11_tellOfMan 77 = .ok (.bipush 9, 2) := by decide +kernel
theorem dX11_tellOfMan_79 : decode cX11_tellOfMan 79 = .ok (.invokestatic 91, 3) := by decide +kernel
theorem dX11_tellOfMan_82 : decode cX11_tellOfMan 82 = .ok (.ifCond .eq 13, 3) := by decide +kernel
theorem dX11_tellOfMan_85 : decode cX11_tellOfMan 85 = .ok (.aload 4, 2) := by decide +kernel
theorem dX11_tellOfMan_87 : decode cX11_tellOfMan 87 = .ok (.getfield 135, 3) := by decide +kernel
theorem dX11_tellOfMan_90 : decode cX11_tellOfMan 90 = .ok (.iload_n 2, 1) := by decide +kernel
theorem dX11_tellOfMan_91 : decode cX11_tellOfMan 91 = .ok (.iload_n 3, 1) := by decide +kernel
theorem dX11_tellOfMan_92 : decode cX11_tellOfMan 92 = .ok (.iastore, 1) := by decide +kernel
theorem dX11_tellOfMan_93 : decode cX11_tellOfMan 93 = .ok (.iconst 1, 1) := by decide +kernel
theorem dX11_tellOfMan_94 : decode cX11_tellOfMan 94 = .ok (.ireturn, 1) := by decide +kernel
theorem dX11_tellOfMan_95 : decode cX11_tellOfMan 95 = .ok (.iconst 0, 1) := by decide +kernel
theorem dX11_tellOfMan_96 : decode cX11_tellOfMan 96 = .ok (.ireturn, 1) := by decide +kernel
theorem dX11_like_0 : decode cX11_like 0 = .ok (.aload_n 0, 1) := by decide +kernel
theorem dX11_like_1 : decode cX11_like 1 = .ok (.getfield 12, 3) := by decide +kernel
theorem dX11_like_4 : decode cX11_like 4 = .ok (.getfield 81, 3) := by decide +kernel
theorem dX11_like_7 : decode cX11_like 7 = .ok (.astore 4, 2) := by decide +kernel
theorem dX11_like_9 : decode cX11_like 9 = .ok (.aload 4, 2) := by decide +kernel
theorem dX11_like_11 : decode cX11_like 11 = .ok (.iload_n 1, 1) := by decide +kernel
theorem dX11_like_12 : decode cX11_like 12 = .ok (.invokevirtual 119, 3) := by decide +kernel
theorem dX11_like_15 : decode cX11_like 15 = .ok (.ifCond .eq 22, 3) := by decide +kernel
theorem dX11_like_18 : decode cX11_like 18 = .ok (.aload 4, 2) := by decide +kernel
theorem dX11_like_20 : decode cX11_like 20 = .ok (.iload_n 2, 1) := by decide +kernel
theorem dX11_like_21 : decode cX11_like 21 = .ok (.invokevirtual 126, 3) := by decide +kernel
theorem dX11_like_24 : decode cX11_like 24 = .ok (.ifCond .eq 13, 3) := by decide +kernel
theorem dX11_like_27 : decode cX11_like 27 = .ok (.iload_n 3, 1) := by decide +kernel
theorem dX11_like_28 : decode cX11_like 28 = .ok (.iconst 0, 1) := by decide +kernel
theorem dX11_like_29 : decode cX11_like 29 = .ok (.bipush 99, 2) := by decide +kernel
theorem dX11_like_31 : decode cX11_like 31 = .ok (.invokestatic 91, 3) := by decide +kernel
theorem dX11_like_34 : decode cX11_like 34 = .ok (.ifCond .ne 5, 3) := by decide +kernel
theorem dX11_like_37 : decode cX11_like 37 = .ok (.iconst 0, 1) := by decide +kernel
theorem dX11_like_38 : decode cX11_like 38 = .ok (.ireturn, 1) := by decide +kernel
theorem dX11_like_39 : decode cX11_like 39 = .ok (.aload 4, 2) := by decide +kernel
theorem dX11_like_41 : decode cX11_like 41 = .ok (.iload_n 1, 1) := by decide +kernel
theorem dX11_like_42 : decode cX11_like 42 = .ok (.iload_n 2, 1) := by decide +kernel
theorem dX11_like_43 : decode cX11_like 43 = .ok (.iload_n 3, 1) := by decide +kernel
theorem dX11_like_44 : decode cX11_like 44 = .ok (.invokevirtual 138, 3) := by decide +kernel
theorem dX11_like_47 : decode cX11_like 47 = .ok (.aload_n 0, 1) := by decide +kernel
theorem dX11_like_48 : decode cX11_like 48 = .ok (.getfield 26, 3) := by decide +kernel
theorem dX11_like_51 : decode cX11_like 51 = .ok (.invokevirtual 88, 3) := by decide +kernel
theorem dX11_like_54 : decode cX11_like 54 = .ok (.iconst 1, 1) := by decide +kernel
theorem dX11_like_55 : decode cX11_like 55 = .ok (.ireturn, 1) := by decide +kernel
theorem dX11_vote_0 : decode cX11_vote 0 = .ok (.aload_n 0, 1) := by decide +kernel
theorem dX11_vote_1 : decode cX11_vote 1 = .ok (.getfield 26, 3) := by decide +kernel
theorem dX11_vote_4 : decode cX11_vote 4 = .ok (.aload_n 0, 1) := by decide +kernel
theorem dX11_vote_5 : decode cX11_vote 5 = .ok (.getfield 12, 3) := by decide +kernel
theorem dX11_vote_8 : decode cX11_vote 8 = .ok (.getfield 81, 3) := by decide +kernel
theorem dX11_vote_11 : decode cX11_vote 11 = .ok (.invokevirtual 142, 3) := by decide +kernel
theorem dX11_vote_14 : decode cX11_vote 14 = .ok (.aload_n 0, 1) := by decide +kernel
theorem dX11_vote_15 : decode cX11_vote 15 = .ok (.getfield 12, 3) := by decide +kernel
theorem dX11_vote_18 : decode cX11_vote 18 = .ok (.aload_n 0, 1) := by decide +kernel
theorem dX11_vote_19 : decode cX11_vote 19 = .ok (.getfield 40, 3) := by decide +kernel
theorem dX11_vote_22 : decode cX11_vote 22 = .ok (.invokevirtual 146, 3) := by decide +kernel
theorem dX11_vote_25 : decode cX11_vote 25 = .ok (.aload_n 0, 1) := by decide +kernel
theorem dX11_vote_26 : decode cX11_vote 26 = .ok (.getfield 12, 3) := by decide +kernel
theorem dX11_vote_29 : decode cX11_vote 29 = .ok (.getfield 81, 3) := by decide +kernel
theorem dX11_vote_32 : decode cX11_vote 32 = .ok (.getfield 150, 3) := by decide +kernel
theorem dX11_vote_35 : decode cX11_vote 35 = .ok (.ireturn, 1) := by decide +kernel
theorem dX11_act_0 : decode cX11_act 0 = .ok (.iload_n 1, 1) := by decide +kernel
theorem dX11_act_1 : decode cX11_act 1 = .ok (.iconst 0, 1) := by decide +kernel
theorem dX11_act_2 : decode cX11_act 2 = .ok (.iconst 2, 1) := by decide +kernel
theorem dX11_act_3 : decode cX11_act 3 = .ok (.invokestatic 91, 3) := by decide +kernel
theorem dX11_act_6 : decode cX11_act 6 = .ok (.ifCond .eq 18, 3) := by decide +kernel
theorem dX11_act_9 : decode cX11_act 9 = .ok (.aload_n 0, 1) := by decide +kernel
theorem dX11_act_10 : decode cX11_act 10 = .ok (.getfield 12, 3) := by decide +kernel
theorem dX11_act_13 : decode cX11_act 13 = .ok (.iload_n 1, 1) := by decide +kernel
theorem dX11_act_14 : decode cX11_act 14 = .ok (.iconst 1, 1) := by decide +kernel
theorem dX11_act_15 : decode cX11_act 15 = .ok (.iadd, 1) := by decide +kernel
theorem dX11_act_16 : decode cX11_act 16 = .ok (.iload_n 2, 1) := by decide +kernel
theorem dX11_act_17 : decode cX11_act 17 = .ok (.iload_n 3, 1) := by decide +kernel
theorem dX11_act_18 : decode cX11_act 18 = .ok (.invokevirtual 153, 3) := by decide +kernel
theorem dX11_act_21 : decode cX11_act 21 = .ok (.ifCond .ne 5, 3) := by decide +kernel
theorem dX11_act_24 : decode cX11_act 24 = .ok (.iconst 0, 1) := by decide +kernel
theorem dX11_act_25 : decode cX11_act 25 = .ok (.ireturn, 1) := by decide +kernel
theorem dX11_act_26 : decode cX11_act 26 = .ok (.aload_n 0, 1) := by decide +kernel
theorem dX11_act_27 : decode cX11_act 27 = .ok (.getfield 26, 3) := by decide +kernel
theorem dX11_act_30 : decode cX11_act 30 = .ok (.aload_n 0, 1) := by decide +kernel
theorem dX11_act_31 : decode cX11_act 31 = .ok (.getfield 12, 3) := by decide +kernel
theorem dX11_act_34 : decode cX11_act 34 = .ok (.getfield 81, 3) := by decide +kernel
theorem dX11_act_37 : decode cX11_act 37 = .ok (.invokevirtual 142, 3) := by decide +kernel
theorem dX11_act_40 : decode cX11_act 40 = .ok (.aload_n 0, 1) := by decide +kernel
theorem dX11_act_41 : decode cX11_act 41 = .ok (.getfield 12, 3) := by decide +kernel
theorem dX11_act_44 : decode cX11_act 44 = .ok (.iload_n 1, 1) := by decide +kernel
theorem dX11_act_45 : decode cX11_act 45 = .ok (.iconst 1, 1) := by decide +kernel
theorem dX11_act_46 : decode cX11_act 46 = .ok (.iadd, 1) := by decide +kernel
theorem dX11_act_47 : decode cX11_act 47 = .ok (.iload_n 2, 1) := by decide +kernel
theorem dX11_act_48 : decode cX11_act 48 = .ok (.iload_n 3, 1) := by decide +kernel
theorem dX11_act_49 : decode cX11_act 49 = .ok (.invokevirtual 156, 3) := by decide +kernel
theorem dX11_act_52 : decode cX11_act 52 = .ok (.iconst 1, 1) := by decide +kernel
theorem dX11_act_53 : decode cX11_act 53 = .ok (.ireturn, 1) := by decide +kernel
theorem dX11_go_0 : decode cX11_go 0 = .ok (.aload_n 0, 1) := by decide +kernel
theorem dX11_go_1 : decode cX11_go 1 = .ok (.getfield 12, 3) := by decide +kernel
theorem dX11_go_4 : decode cX11_go 4 = .ok (.iload_n 1, 1) := by decide +kernel
theorem dX11_go_5 : decode cX11_go 5 = .ok (.invokevirtual 159, 3) := by decide +kernel
theorem dX11_go_8 : decode cX11_go 8 = .ok (.istore_n 2, 1) := by decide +kernel
theorem dX11_go_9 : decode cX11_go 9 = .ok (.iload_n 2, 1) := by decide +kernel
theorem dX11_go_10 : decode cX11_go 10 = .ok (.iconst (-1), 1) := by decide +kernel
theorem dX11_go_11 : decode cX11_go 11 = .ok (.if_icmp .ne 5, 3) := by decide +kernel
theorem dX11_go_14 : decode cX11_go 14 = .ok (.iconst (-1), 1) := by decide +kernel
theorem dX11_go_15 : decode cX11_go 15 = .ok (.ireturn, 1) := by decide +kernel
theorem dX11_go_16 : decode cX11_go 16 = .ok (.aload_n 0, 1) := by decide +kernel
theorem dX11_go_17 : decode cX11_go 17 = .ok (.getfield 26, 3) := by decide +kernel
theorem dX11_go_20 : decode cX11_go 20 = .ok (.aload_n 0, 1) := by decide +kernel
theorem dX11_go_21 : decode cX11_go 21 = .ok (.getfield 12, 3) := by decide +kernel
theorem dX11_go_24 : decode cX11_go 24 = .ok (.getfield 81, 3) := by decide +kernel
theorem dX11_go_27 : decode cX11_go 27 = .ok (.invokevirtual 142, 3) := by decide +kernel
theorem dX11_go_30 : decode cX11_go 30 = .ok (.aload_n 0, 1) := by decide +kernel
theorem dX11_go_31 : decode cX11_go 31 = .ok (.getfield 12, 3) := by decide +kernel
theorem dX11_go_34 : decode cX11_go 34 = .ok (.iload_n 1, 1) := by decide +kernel
theorem dX11_go_35 : decode cX11_go 35 = .ok (.iload_n 2, 1) := by decide +kernel
theorem dX11_go_36 : decode cX11_go 36 = .ok (.iconst 1, 1) := by decide +kernel
theorem dX11_go_37 : decode cX11_go 37 = .ok (.invokevirtual 163, 3) := by decide +kernel
theorem dX11_go_40 : decode cX11_go 40 = .ok (.ireturn, 1) := by decide +kernel
theorem dX11_rest_0 : decode cX11_rest 0 = .ok (.aload_n 0, 1) := by decide +kernel
theorem dX11_rest_1 : decode cX11_rest 1 = .ok (.getfield 26, 3) := by decide +kernel
theorem dX11_rest_4 : decode cX11_rest 4 = .ok (.aload_n 0, 1) := by decide +kernel
theorem dX11_rest_5 : decode cX11_rest 5 = .ok (.getfield 12, 3) := by decide +kernel
theorem dX11_rest_8 : decode cX11_rest 8 = .ok (.getfield 81, 3) := by decide +kernel
theorem dX11_rest_11 : decode cX11_rest 11 = .ok (.invokevirtual 142, 3) := by decide +kernel
theorem dX11_rest_14 : decode cX11_rest 14 = .ok (.aload_n 0, 1) := by decide +kernel
theorem dX11_rest_15 : decode cX11_rest 15 = .ok (.getfield 12, 3) := by decide +kernel
theorem dX11_rest_18 : decode cX11_rest 18 = .ok (.invokevirtual 167, 3) := by decide +kernel
theorem dX11_rest_21 : decode cX11_rest 21 = .ok (.ireturn, 1) := by decide +kernel
theorem dX11_days_0 : decode cX11_days 0 = .ok (.iload_n 1, 1) := by decide +kernel
theorem dX11_days_1 : decode cX11_days 1 = .ok (.iconst 1, 1) := by decide +kernel
theorem dX11_days_2 : decode cX11_days 2 = .ok (.bipush 60, 2) := by decide +kernel
theorem dX11_days_4 : decode cX11_days 4 = .ok (.invokestatic 91, 3) := by decide +kernel
theorem dX11_days_7 : decode cX11_days 7 = .ok (.ifCond .eq 21, 3) := by decide +kernel
theorem dX11_days_10 : decode cX11_days 10 = .ok (.aload_n 0, 1) := by decide +kernel
theorem dX11_days_11 : decode cX11_days 11 = .ok (.getfield 12, 3) := by decide +kernel
theorem dX11_days_14 : decode cX11_days 14 = .ok (.getfield 81, 3) := by decide +kernel
theorem dX11_days_17 : decode cX11_days 17 = .ok (.getfield 171, 3) := by decide +kernel
theorem dX11_days_20 : decode cX11_days 20 = .ok (.sipush 9999, 3) := by decide +kernel
theorem dX11_days_23 : decode cX11_days 23 = .ok (.iload_n 1, 1) := by decide +kernel
theorem dX11_days_24 : decode cX11_days 24 = .ok (.isub, 1) := by decide +kernel
theorem dX11_days_25 : decode cX11_days 25 = .ok (.if_icmp .le 5, 3) := by decide +kernel
theorem dX11_days_28 : decode cX11_days 28 = .ok (.iconst (-1), 1) := by decide +kernel
theorem dX11_days_29 : decode cX11_days 29 = .ok (.ireturn, 1) := by decide +kernel
theorem dX11_days_30 : decode cX11_days 30 = .ok (.iconst 0, 1) := by decide +kernel
theorem dX11_days_31 : decode cX11_days 31 = .ok (.istore_n 2, 1) := by decide +kernel
theorem dX11_days_32 : decode cX11_days 32 = .ok (.iconst 0, 1) := by decide +kernel
theorem dX11_days_33 : decode cX11_days 33 = .ok (.istore_n 3, 1) := by decide +kernel
theorem dX11_days_34 : decode cX11_days 34 = .ok (.iload_n 3, 1) := by decide +kernel
theorem dX11_days_35 : decode cX11_days 35 = .ok (.iload_n 1, 1) := by decide +kernel
theorem dX11_days_36 : decode cX11_days 36 = .ok (.if_icmp .ge 38, 3) := by decide +kernel
theorem dX11_days_39 : decode cX11_days 39 = .ok (.aload_n 0, 1) := by decide +kernel
theorem dX11_days_40 : decode cX11_days 40 = .ok (.getfield 26, 3) := by decide +kernel
theorem dX11_days_43 : decode cX11_days 43 = .ok (.aload_n 0, 1) := by decide +kernel
theorem dX11_days_44 : decode cX11_days 44 = .ok (.getfield 12, 3) := by decide +kernel
theorem dX11_days_47 : decode cX11_days 47 = .ok (.getfield 81, 3) := by decide +kernel
theorem dX11_days_50 : decode cX11_days 50 = .ok (.invokevirtual 142, 3) := by decide +kernel
theorem dX11_days_53 : decode cX11_days 53 = .ok (.iload_n 2, 1) := by decide +kernel
theorem dX11_days_54 : decode cX11_days 54 = .ok (.aload_n 0, 1) := by decide +kernel
theorem dX11_days_55 : decode cX11_days 55 = .ok (.getfield 12, 3) := by decide +kernel
theorem dX11_days_58 : decode cX11_days 58 = .ok (.aload_n 0, 1) := by decide +kernel
theorem dX11_days_59 : decode cX11_days 59 = .ok (.getfield 40, 3) := by decide +kernel
theorem dX11_days_62 : decode cX11_days 62 = .ok (.iconst 1, 1) := by decide +kernel
theorem dX11_days_63 : decode cX11_days 63 = .ok (.invokevirtual 174, 3) := by decide +kernel
theorem dX11_days_66 : decode cX11_days 66 = .ok (.iadd, 1) := by decide +kernel
theorem dX11_days_67 : decode cX11_days 67 = .ok (.istore_n 2, 1) := by decide +kernel
theorem dX11_days_68 : decode cX11_days 68 = .ok (.iinc 3 1, 3) := by decide +kernel
theorem dX11_days_71 : decode cX11_days 71 = .ok (.goto (-37), 3) := by decide +kernel
theorem dX11_days_74 : decode cX11_days 74 = .ok (.iload_n 2, 1) := by decide +kernel
theorem dX11_days_75 : decode cX11_days 75 = .ok (.ireturn, 1) := by decide +kernel
theorem dX11_feed_0 : decode cX11_feed 0 = .ok (.aload_n 0, 1) := by decide +kernel
theorem dX11_feed_1 : decode cX11_feed 1 = .ok (.getfield 61, 3) := by decide +kernel
theorem dX11_feed_4 : decode cX11_feed 4 = .ok (.getfield 178, 3) := by decide +kernel
theorem dX11_feed_7 : decode cX11_feed 7 = .ok (.sipush 380, 3) := by decide +kernel
theorem dX11_feed_10 : decode cX11_feed 10 = .ok (.if_icmp .le 5, 3) := by decide +kernel
theorem dX11_feed_13 : decode cX11_feed 13 = .ok (.iconst (-1), 1) := by decide +kernel
theorem dX11_feed_14 : decode cX11_feed 14 = .ok (.ireturn, 1) := by decide +kernel
theorem dX11_feed_15 : decode cX11_feed 15 = .ok (.aload_n 0, 1) := by decide +kernel
theorem dX11_feed_16 : decode cX11_feed 16 = .ok (.getfield 61, 3) := by decide +kernel
theorem dX11_feed_19 : decode cX11_feed 19 = .ok (.iload_n 1, 1) := by decide +kernel
theorem dX11_feed_20 : decode cX11_feed 20 = .ok (.invokevirtual 181, 3) := by decide +kernel
theorem dX11_feed_23 : decode cX11_feed 23 = .ok (.aload_n 0, 1) := by decide +kernel
theorem dX11_feed_24 : decode cX11_feed 24 = .ok (.getfield 61, 3) := by decide +kernel
theorem dX11_feed_27 : decode cX11_feed 27 = .ok (.iload_n 2, 1) := by decide +kernel
theorem dX11_feed_28 : decode cX11_feed 28 = .ok (.invokevirtual 181, 3) := by decide +kernel
theorem dX11_feed_31 : decode cX11_feed 31 = .ok (.aload_n 0, 1) := by decide +kernel
theorem dX11_feed_32 : decode cX11_feed 32 = .ok (.getfield 61, 3) := by decide +kernel
theorem dX11_feed_35 : decode cX11_feed 35 = .ok (.iload_n 3, 1) := by decide +kernel
theorem dX11_feed_36 : decode cX11_feed 36 = .ok (.invokevirtual 181, 3) := by decide +kernel
theorem dX11_feed_39 : decode cX11_feed 39 = .ok (.aload_n 0, 1) := by decide +kernel
theorem dX11_feed_40 : decode cX11_feed 40 = .ok (.getfield 61, 3) := by decide +kernel
theorem dX11_feed_43 : decode cX11_feed 43 = .ok (.iload 4, 2) := by decide +kernel
theorem dX11_feed_45 : decode cX11_feed 45 = .ok (.invokevirtual 181, 3) := by decide +kernel
theorem dX11_feed_48 : decode cX11_feed 48 = .ok (.aload_n 0, 1) := by decide +kernel
theorem dX11_feed_49 : decode cX11_feed 49 = .ok (.getfield 61, 3) := by decide +kernel
theorem dX11_feed_52 : decode cX11_feed 52 = .ok (.iload 5, 2) := by decide +kernel
theorem dX11_feed_54 : decode cX11_feed 54 = .ok (.invokevirtual 181, 3) := by decide +kernel
theorem dX11_feed_57 : decode cX11_feed 57 = .ok (.aload_n 0, 1) := by decide +kernel
theorem dX11_feed_58 : decode cX11_feed 58 = .ok (.getfield 61, 3) := by decide +kernel
theorem dX11_feed_61 : decode cX11_feed 61 = .ok (.getfield 178, 3) := by decide +kernel
theorem dX11_feed_64 : decode cX11_feed 64 = .ok (.ireturn, 1) := by decide +kernel
theorem dX11_end_0 : decode cX11_end 0 = .ok (.iload_n 1, 1) := by decide +kernel
theorem dX11_end_1 : decode cX11_end 1 = .ok (.ifCond .lt 14, 3) := by decide +kernel
theorem dX11_end_4 : decode cX11_end 4 = .ok (.iload_n 1, 1) := by decide +kernel
theorem dX11_end_5 : decode cX11_end 5 = .ok (.aload_n 0, 1) := by decide +kernel
theorem dX11_end_6 : decode cX11_end 6 = .ok (.getfield 61, 3) := by decide +kernel
theorem dX11_end_9 : decode cX11_end 9 = .ok (.getfield 178, 3) := by decide +kernel
theorem dX11_end_12 : decode cX11_end 12 = .ok (.if_icmp .le 5, 3) := by decide +kernel
theorem dX11_end_15 : decode cX11_end 15 = .ok (.iconst 0, 1) := by decide +kernel
theorem dX11_end_16 : decode cX11_end 16 = .ok (.ireturn, 1) := by decide +kernel
theorem dX11_end_17 : decode cX11_end 17 = .ok (.aload_n 0, 1) := by decide +kernel
theorem dX11_end_18 : decode cX11_end 18 = .ok (.getfield 61, 3) := by decide +kernel
theorem dX11_end_21 : decode cX11_end 21 = .ok (.iload_n 1, 1) := by decide +kernel
theorem dX11_end_22 : decode cX11_end 22 = .ok (.putfield 178, 3) := by decide +kernel
theorem dX11_end_25 : decode cX11_end 25 = .ok (.iconst 1, 1) := by decide +kernel
theorem dX11_end_26 : decode cX11_end 26 = .ok (.ireturn, 1) := by decide +kernel
theorem dX11_text_0 : decode cX11_text 0 = .ok (.iconst (-1), 1) := by decide +kernel
theorem dX11_text_1 : decode cX11_text 1 = .ok (.istore_n 2, 1) := by decide +kernel
theorem dX11_text_2 : decode cX11_text 2 = .ok (.aload_n 0, 1) := by decide +kernel
theorem dX11_text_3 : decode cX11_text 3 = .ok (.getfield 61, 3) := by decide +kernel
theorem dX11_text_6 : decode cX11_text 6 = .ok (.invokevirtual 185, 3) := by decide +kernel
theorem dX11_text_9 : decode cX11_text 9 = .ok (.iload_n 1, 1) := by decide +kernel
theorem dX11_text_10 : decode cX11_text 10 = .ok (.ifCond .ne 44, 3) := by decide +kernel
theorem dX11_text_13 : decode cX11_text 13 = .ok (.aload_n 0, 1) := by decide +kernel
theorem dX11_text_14 : decode cX11_text 14 = .ok (.getfield 70, 3) := by decide +kernel
theorem dX11_text_17 : decode cX11_text 17 = .ok (.invokevirtual 188, 3) := by decide +kernel
theorem dX11_text_20 : decode cX11_text 20 = .ok (.ifCond .eq 34, 3) := by decide +kernel
