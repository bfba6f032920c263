theorem dX11_text_23 : decode cX11_text 23 = .ok (.aload_n 0, 1) := by decide +kernel
theorem dX11_text_24 : decode cX11_text 24 = .ok (.getfield 12, 3) := by decide +kernel
theorem dX11_text_27 : decode cX11_text 27 = .ok (.getfield 192, 3) := by decide +kernel
theorem dX11_text_30 : decode cX11_text 30 = .ok (.aload_n 0, 1) := by decide +kernel
theorem dX11_text_31 : decode cX11_text 31 = .ok (.getfield 70, 3) := by decide +kernel
theorem dX11_text_34 : decode cX11_text 34 = .ok (.getfield 196, 3) := by decide +kernel
theorem dX11_text_37 : decode cX11_text 37 = .ok (.invokevirtual 197, 3) := by decide +kernel
theorem dX11_text_40 : decode cX11_text 40 = .ok (.aload_n 0, 1) := by decide +kernel
theorem dX11_text_41 : decode cX11_text 41 = .ok (.getfield 12, 3) := by decide +kernel
theorem dX11_text_44 : decode cX11_text 44 = .ok (.getfield 192, 3) := by decide +kernel
theorem dX11_text_47 : decode cX11_text 47 = .ok (.getfield 203, 3) := by decide +kernel
theorem dX11_text_50 : decode cX11_text 50 = .ok (.istore_n 2, 1) := by decide +kernel
theorem dX11_text_51 : decode cX11_text 51 = .ok (.goto 36, 3) := by decide +kernel
theorem dX11_text_54 : decode cX11_text 54 = .ok (.iload_n 1, 1) := by decide +kernel
theorem dX11_text_55 : decode cX11_text 55 = .ok (.iconst 1, 1) := by decide +kernel
theorem dX11_text_56 : decode cX11_text 56 = .ok (.iconst 4, 1) := by decide +kernel
theorem dX11_text_57 : decode cX11_text 57 = .ok (.invokestatic 91, 3) := by decide +kernel
theorem dX11_text_60 : decode cX11_text 60 = .ok (.ifCond .eq 27, 3) := by decide +kernel
theorem dX11_text_63 : decode cX11_text 63 = .ok (.aload_n 0, 1) := by decide +kernel
theorem dX11_text_64 : decode cX11_text 64 = .ok (.getfield 77, 3) := by decide +kernel
theorem dX11_text_67 : decode cX11_text 67 = .ok (.iload_n 1, 1) := by decide +kernel
theorem dX11_text_68 : decode cX11_text 68 = .ok (.aload_n 0, 1) := by decide +kernel
theorem dX11_text_69 : decode cX11_text 69 = .ok (.getfield 12, 3) := by decide +kernel
theorem dX11_text_72 : decode cX11_text 72 = .ok (.getfield 81, 3) := by decide +kernel
theorem dX11_text_75 : decode cX11_text 75 = .ok (.invokevirtual 206, 3) := by decide +kernel
theorem dX11_text_78 : decode cX11_text 78 = .ok (.ifCond .eq 9, 3) := by decide +kernel
theorem dX11_text_81 : decode cX11_text 81 = .ok (.aload_n 0, 1) := by decide +kernel
theorem dX11_text_82 : decode cX11_text 82 = .ok (.iload_n 1, 1) := by decide +kernel
theorem dX11_text_83 : decode cX11_text 83 = .ok (.invokevirtual 209, 3) := by decide +kernel
theorem dX11_text_86 : decode cX11_text 86 = .ok (.istore_n 2, 1) := by decide +kernel
theorem dX11_text_87 : decode cX11_text 87 = .ok (.aload_n 0, 1) := by decide +kernel
theorem dX11_text_88 : decode cX11_text 88 = .ok (.getfield 61, 3) := by decide +kernel
theorem dX11_text_91 : decode cX11_text 91 = .ok (.iconst 0, 1) := by decide +kernel
theorem dX11_text_92 : decode cX11_text 92 = .ok (.putfield 178, 3) := by decide +kernel
theorem dX11_text_95 : decode cX11_text 95 = .ok (.iload_n 2, 1) := by decide +kernel
theorem dX11_text_96 : decode cX11_text 96 = .ok (.ireturn, 1) := by decide +kernel
theorem dX11_takeRows_0 : decode cX11_takeRows 0 = .ok (.iload_n 1, 1) := by decide +kernel
theorem dX11_takeRows_1 : decode cX11_takeRows 1 = .ok (.iconst 1, 1) := by decide +kernel
theorem dX11_takeRows_2 : decode cX11_takeRows 2 = .ok (.if_icmp .ne 13, 3) := by decide +kernel
theorem dX11_takeRows_5 : decode cX11_takeRows 5 = .ok (.aload_n 0, 1) := by decide +kernel
theorem dX11_takeRows_6 : decode cX11_takeRows 6 = .ok (.getfield 12, 3) := by decide +kernel
theorem dX11_takeRows_9 : decode cX11_takeRows 9 = .ok (.getfield 212, 3) := by decide +kernel
theorem dX11_takeRows_12 : decode cX11_takeRows 12 = .ok (.goto 40, 3) := by decide +kernel
theorem dX11_takeRows_15 : decode cX11_takeRows 15 = .ok (.iload_n 1, 1) := by decide +kernel
theorem dX11_takeRows_16 : decode cX11_takeRows 16 = .ok (.iconst 2, 1) := by decide +kernel
theorem dX11_takeRows_17 : decode cX11_takeRows 17 = .ok (.if_icmp .ne 13, 3) := by decide +kernel
theorem dX11_takeRows_20 : decode cX11_takeRows 20 = .ok (.aload_n 0, 1) := by decide +kernel
theorem dX11_takeRows_21 : decode cX11_takeRows 21 = .ok (.getfield 12, 3) := by decide +kernel
theorem dX11_takeRows_24 : decode cX11_takeRows 24 = .ok (.getfield 216, 3) := by decide +kernel
theorem dX11_takeRows_27 : decode cX11_takeRows 27 = .ok (.goto 25, 3) := by decide +kernel
theorem dX11_takeRows_30 : decode cX11_takeRows 30 = .ok (.iload_n 1, 1) := by decide +kernel
theorem dX11_takeRows_31 : decode cX11_takeRows 31 = .ok (.iconst 3, 1) := by decide +kernel
theorem dX11_takeRows_32 : decode cX11_takeRows 32 = .ok (.if_icmp .ne 13, 3) := by decide +kernel
theorem dX11_takeRows_35 : decode cX11_takeRows 35 = .ok (.aload_n 0, 1) := by decide +kernel
theorem dX11_takeRows_36 : decode cX11_takeRows 36 = .ok (.getfield 12, 3) := by decide +kernel
theorem dX11_takeRows_39 : decode cX11_takeRows 39 = .ok (.getfield 219, 3) := by decide +kernel
theorem dX11_takeRows_42 : decode cX11_takeRows 42 = .ok (.goto 10, 3) := by decide +kernel
theorem dX11_takeRows_45 : decode cX11_takeRows 45 = .ok (.aload_n 0, 1) := by decide +kernel
theorem dX11_takeRows_46 : decode cX11_takeRows 46 = .ok (.getfield 12, 3) := by decide +kernel
theorem dX11_takeRows_49 : decode cX11_takeRows 49 = .ok (.getfield 222, 3) := by decide +kernel
theorem dX11_takeRows_52 : decode cX11_takeRows 52 = .ok (.astore_n 2, 1) := by decide +kernel
theorem dX11_takeRows_53 : decode cX11_takeRows 53 = .ok (.aload_n 2, 1) := by decide +kernel
theorem dX11_takeRows_54 : decode cX11_takeRows 54 = .ok (.aload_n 0, 1) := by decide +kernel
theorem dX11_takeRows_55 : decode cX11_takeRows 55 = .ok (.getfield 77, 3) := by decide +kernel
theorem dX11_takeRows_58 : decode cX11_takeRows 58 = .ok (.getfield 225, 3) := by decide +kernel
theorem dX11_takeRows_61 : decode cX11_takeRows 61 = .ok (.invokevirtual 228, 3) := by decide +kernel
theorem dX11_takeRows_64 : decode cX11_takeRows 64 = .ok (.iload_n 1, 1) := by decide +kernel
theorem dX11_takeRows_65 : decode cX11_takeRows 65 = .ok (.iconst 4, 1) := by decide +kernel
theorem dX11_takeRows_66 : decode cX11_takeRows 66 = .ok (.if_icmp .eq 10, 3) := by decide +kernel
theorem dX11_takeRows_69 : decode cX11_takeRows 69 = .ok (.aload_n 0, 1) := by decide +kernel
theorem dX11_takeRows_70 : decode cX11_takeRows 70 = .ok (.getfield 26, 3) := by decide +kernel
theorem dX11_takeRows_73 : decode cX11_takeRows 73 = .ok (.invokevirtual 88, 3) := by decide +kernel
theorem dX11_takeRows_76 : decode cX11_takeRows 76 = .ok (.aload_n 2, 1) := by decide +kernel
theorem dX11_takeRows_77 : decode cX11_takeRows 77 = .ok (.getfield 233, 3) := by decide +kernel
theorem dX11_takeRows_80 : decode cX11_takeRows 80 = .ok (.ireturn, 1) := by decide +kernel
theorem dX11_of_0 : decode cX11_of 0 = .ok (.aload_n 0, 1) := by decide +kernel
theorem dX11_of_1 : decode cX11_of 1 = .ok (.getfield 12, 3) := by decide +kernel
theorem dX11_of_4 : decode cX11_of 4 = .ok (.getfield 81, 3) := by decide +kernel
theorem dX11_of_7 : decode cX11_of 7 = .ok (.astore_n 3, 1) := by decide +kernel
theorem dX11_of_8 : decode cX11_of 8 = .ok (.aload_n 3, 1) := by decide +kernel
theorem dX11_of_9 : decode cX11_of 9 = .ok (.iload_n 1, 1) := by decide +kernel
theorem dX11_of_10 : decode cX11_of 10 = .ok (.invokevirtual 119, 3) := by decide +kernel
theorem dX11_of_13 : decode cX11_of 13 = .ok (.ifCond .ne 6, 3) := by decide +kernel
theorem dX11_of_16 : decode cX11_of 16 = .ok (.bipush (-2), 2) := by decide +kernel
theorem dX11_of_18 : decode cX11_of 18 = .ok (.ireturn, 1) := by decide +kernel
theorem dX11_of_19 : decode cX11_of 19 = .ok (.iload_n 2, 1) := by decide +kernel
theorem dX11_of_20 : decode cX11_of 20 = .ok (.bipush 30, 2) := by decide +kernel
theorem dX11_of_22 : decode cX11_of 22 = .ok (.if_icmp .le 31, 3) := by decide +kernel
theorem dX11_of_25 : decode cX11_of 25 = .ok (.iload_n 2, 1) := by decide +kernel
theorem dX11_of_26 : decode cX11_of 26 = .ok (.bipush 54, 2) := by decide +kernel
theorem dX11_of_28 : decode cX11_of 28 = .ok (.if_icmp .gt 22, 3) := by decide +kernel
theorem dX11_of_31 : decode cX11_of 31 = .ok (.aload_n 0, 1) := by decide +kernel
theorem dX11_of_32 : decode cX11_of 32 = .ok (.getfield 12, 3) := by decide +kernel
theorem dX11_of_35 : decode cX11_of 35 = .ok (.iload_n 1, 1) := by decide +kernel
theorem dX11_of_36 : decode cX11_of 36 = .ok (.iload_n 2, 1) := by decide +kernel
theorem dX11_of_37 : decode cX11_of 37 = .ok (.bipush 30, 2) := by decide +kernel
theorem dX11_of_39 : decode cX11_of 39 = .ok (.isub, 1) := by decide +kernel
theorem dX11_of_40 : decode cX11_of 40 = .ok (.aload_n 3, 1) := by decide +kernel
theorem dX11_of_41 : decode cX11_of 41 = .ok (.getfield 150, 3) := by decide +kernel
theorem dX11_of_44 : decode cX11_of 44 = .ok (.invokevirtual 242, 3) := by decide +kernel
theorem dX11_of_47 : decode cX11_of 47 = .ok (.goto 5, 3) := by decide +kernel
theorem dX11_of_50 : decode cX11_of 50 = .ok (.bipush (-2), 2) := by decide +kernel
theorem dX11_of_52 : decode cX11_of 52 = .ok (.ireturn, 1) := by decide +kernel
theorem dX11_of_53 : decode cX11_of 53 = .ok (.iload_n 2, 1) := by decide +kernel
theorem dX11_of_54 : decode cX11_of 54 = .ok (.bipush 20, 2) := by decide +kernel
theorem dX11_of_56 : decode cX11_of 56 = .ok (.if_icmp .lt 32, 3) := by decide +kernel
theorem dX11_of_59 : decode cX11_of 59 = .ok (.aload_n 3, 1) := by decide +kernel
theorem dX11_of_60 : decode cX11_of 60 = .ok (.iload_n 2, 1) := by decide +kernel
theorem dX11_of_61 : decode cX11_of 61 = .ok (.bipush 20, 2) := by decide +kernel
theorem dX11_of_63 : decode cX11_of 63 = .ok (.isub, 1) := by decide +kernel
theorem dX11_of_64 : decode cX11_of 64 = .ok (.invokevirtual 126, 3) := by decide +kernel
theorem dX11_of_67 : decode cX11_of 67 = .ok (.ifCond .eq 18, 3) := by decide +kernel
theorem dX11_of_70 : decode cX11_of 70 = .ok (.aload_n 0, 1) := by decide +kernel
theorem dX11_of_71 : decode cX11_of 71 = .ok (.getfield 12, 3) := by decide +kernel
theorem dX11_of_74 : decode cX11_of 74 = .ok (.iload_n 1, 1) := by decide +kernel
theorem dX11_of_75 : decode cX11_of 75 = .ok (.iload_n 2, 1) := by decide +kernel
theorem dX11_of_76 : decode cX11_of 76 = .ok (.bipush 20, 2) := by decide +kernel
theorem dX11_of_78 : decode cX11_of 78 = .ok (.isub, 1) := by decide +kernel
theorem dX11_of_79 : decode cX11_of 79 = .ok (.invokevirtual 245, 3) := by decide +kernel
theorem dX11_of_82 : decode cX11_of 82 = .ok (.goto 5, 3) := by decide +kernel
theorem dX11_of_85 : decode cX11_of 85 = .ok (.bipush (-2), 2) := by decide +kernel
theorem dX11_of_87 : decode cX11_of 87 = .ok (.ireturn, 1) := by decide +kernel
theorem dX11_of_88 : decode cX11_of 88 = .ok (.iload_n 2, 1) := by decide +kernel
theorem dX11_of_89 : decode cX11_of 89 = .ok (.bipush 10, 2) := by decide +kernel
theorem dX11_of_91 : decode cX11_of 91 = .ok (.if_icmp .lt 29, 3) := by decide +kernel
theorem dX11_of_94 : decode cX11_of 94 = .ok (.aload_n 3, 1) := by decide +kernel
theorem dX11_of_95 : decode cX11_of 95 = .ok (.iload_n 2, 1) := by decide +kernel
theorem dX11_of_96 : decode cX11_of 96 = .ok (.bipush 10, 2) := by decide +kernel
theorem dX11_of_98 : decode cX11_of 98 = .ok (.isub, 1) := by decide +kernel
theorem dX11_of_99 : decode cX11_of 99 = .ok (.invokevirtual 126, 3) := by decide +kernel
theorem dX11_of_102 : decode cX11_of 102 = .ok (.ifCond .eq 15, 3) := by decide +kernel
theorem dX11_of_105 : decode cX11_of 105 = .ok (.aload_n 3, 1) := by decide +kernel
theorem dX11_of_106 : decode cX11_of 106 = .ok (.iload_n 1, 1) := by decide +kernel
theorem dX11_of_107 : decode cX11_of 107 = .ok (.iload_n 2, 1) := by decide +kernel
theorem dX11_of_108 : decode cX11_of 108 = .ok (.bipush 10, 2) := by decide +kernel
theorem dX11_of_110 : decode cX11_of 110 = .ok (.isub, 1) := by decide +kernel
theorem dX11_of_111 : decode cX11_of 111 = .ok (.invokevirtual 248, 3) := by decide +kernel
theorem dX11_of_114 : decode cX11_of 114 = .ok (.goto 5, 3) := by decide +kernel
theorem dX11_of_117 : decode cX11_of 117 = .ok (.bipush (-2), 2) := by decide +kernel
theorem dX11_of_119 : decode cX11_of 119 = .ok (.ireturn, 1) := by decide +kernel
theorem dX11_of_120 : decode cX11_of 120 = .ok (.iload_n 2, 1) := by decide +kernel
theorem dX11_of_121 : decode cX11_of 121 = .ok (.tableswitch 85 0 5 #[39, 46, 53, 60, 67, 76], 39) := by decide +kernel
theorem dX11_of_160 : decode cX11_of 160 = .ok (.aload_n 3, 1) := by decide +kernel
theorem dX11_of_161 : decode cX11_of 161 = .ok (.getfield 251, 3) := by decide +kernel
theorem dX11_of_164 : decode cX11_of 164 = .ok (.iload_n 1, 1) := by decide +kernel
theorem dX11_of_165 : decode cX11_of 165 = .ok (.iaload, 1) := by decide +kernel
theorem dX11_of_166 : decode cX11_of 166 = .ok (.ireturn, 1) := by decide +kernel
theorem dX11_of_167 : decode cX11_of 167 = .ok (.aload_n 3, 1) := by decide +kernel
theorem dX11_of_168 : decode cX11_of 168 = .ok (.getfield 254, 3) := by decide +kernel
theorem dX11_of_171 : decode cX11_of 171 = .ok (.iload_n 1, 1) := by decide +kernel
theorem dX11_of_172 : decode cX11_of 172 = .ok (.iaload, 1) := by decide +kernel
theorem dX11_of_173 : decode cX11_of 173 = .ok (.ireturn, 1) := by decide +kernel
theorem dX11_of_174 : decode cX11_of 174 = .ok (.aload_n 3, 1) := by decide +kernel
theorem dX11_of_175 : decode cX11_of 175 = .ok (.getfield 122, 3) := by decide +kernel
theorem dX11_of_178 : decode cX11_of 178 = .ok (.iload_n 1, 1) := by decide +kernel
theorem dX11_of_179 : decode cX11_of 179 = .ok (.iaload, 1) := by decide +kernel
theorem dX11_of_180 : decode cX11_of 180 = .ok (.ireturn, 1) := by decide +kernel
theorem dX11_of_181 : decode cX11_of 181 = .ok (.aload_n 3, 1) := by decide +kernel
theorem dX11_of_182 : decode cX11_of 182 = .ok (.getfield 257, 3) := by decide +kernel
theorem dX11_of_185 : decode cX11_of 185 = .ok (.iload_n 1, 1) := by decide +kernel
theorem dX11_of_186 : decode cX11_of 186 = .ok (.iaload, 1) := by decide +kernel
theorem dX11_of_187 : decode cX11_of 187 = .ok (.ireturn, 1) := by decide +kernel
theorem dX11_of_188 : decode cX11_of 188 = .ok (.aload_n 0, 1) := by decide +kernel
theorem dX11_of_189 : decode cX11_of 189 = .ok (.getfield 12, 3) := by decide +kernel
theorem dX11_of_192 : decode cX11_of 192 = .ok (.iload_n 1, 1) := by decide +kernel
theorem dX11_of_193 : decode cX11_of 193 = .ok (.invokevirtual 260, 3) := by decide +kernel
theorem dX11_of_196 : decode cX11_of 196 = .ok (.ireturn, 1) := by decide +kernel
theorem dX11_of_197 : decode cX11_of 197 = .ok (.aload_n 0, 1) := by decide +kernel
theorem dX11_of_198 : decode cX11_of 198 = .ok (.getfield 12, 3) := by decide +kernel
theorem dX11_of_201 : decode cX11_of 201 = .ok (.iload_n 1, 1) := by decide +kernel
theorem dX11_of_202 : decode cX11_of 202 = .ok (.invokevirtual 263, 3) := by decide +kernel
theorem dX11_of_205 : decode cX11_of 205 = .ok (.ireturn, 1) := by decide +kernel
theorem dX11_of_206 : decode cX11_of 206 = .ok (.bipush (-2), 2) := by decide +kernel
theorem dX11_of_208 : decode cX11_of 208 = .ok (.ireturn, 1) := by decide +kernel
theorem dX11_manOf_0 : decode cX11_manOf 0 = .ok (.aload_n 0, 1) := by decide +kernel
theorem dX11_manOf_1 : decode cX11_manOf 1 = .ok (.getfield 12, 3) := by decide +kernel
theorem dX11_manOf_4 : decode cX11_manOf 4 = .ok (.getfield 81, 3) := by decide +kernel
theorem dX11_manOf_7 : decode cX11_manOf 7 = .ok (.astore_n 3, 1) := by decide +kernel
theorem dX11_manOf_8 : decode cX11_manOf 8 = .ok (.aload_n 3, 1) := by decide +kernel
theorem dX11_manOf_9 : decode cX11_manOf 9 = .ok (.iload_n 1, 1) := by decide +kernel
theorem dX11_manOf_10 : decode cX11_manOf 10 = .ok (.invokevirtual 126, 3) := by decide +kernel
theorem dX11_manOf_13 : decode cX11_manOf 13 = .ok (.ifCond .ne 5, 3) := by decide +kernel
theorem dX11_manOf_16 : decode cX11_manOf 16 = .ok (.iconst (-1), 1) := by decide +kernel
theorem dX11_manOf_17 : decode cX11_manOf 17 = .ok (.ireturn, 1) := by decide +kernel
theorem dX11_manOf_18 : decode cX11_manOf 18 = .ok (.iload_n 2, 1) := by decide +kernel
theorem dX11_manOf_19 : decode cX11_manOf 19 = .ok (.tableswitch 56 0 3 #[29, 36, 43, 50], 29) := by decide +kernel
theorem dX11_manOf_48 : decode cX11_manOf 48 = .ok (.aload_n 3, 1) := by decide +kernel
theorem dX11_manOf_49 : decode cX11_manOf 49 = .ok (.getfield 129, 3) := by decide +kernel
theorem dX11_manOf_52 : decode cX11_manOf 52 = .ok (.iload_n 1, 1) := by decide +kernel
theorem dX11_manOf_53 : decode cX11_manOf 53 = .ok (.iaload, 1) := by decide +kernel
theorem dX11_manOf_54 : decode cX11_manOf 54 = .ok (.ireturn, 1) := by decide +kernel
theorem dX11_manOf_55 : decode cX11_manOf 55 = .ok (.aload_n 3, 1) := by decide +kernel
theorem dX11_manOf_56 : decode cX11_manOf 56 = .ok (.getfield 132, 3) := by decide +kernel
theorem dX11_manOf_59 : decode cX11_manOf 59 = .ok (.iload_n 1, 1) := by decide +kernel
theorem dX11_manOf_60 : decode cX11_manOf 60 = .ok (.iaload, 1) := by decide +kernel
theorem dX11_manOf_61 : decode cX11_manOf 61 = .ok (.ireturn, 1) := by decide +kernel
theorem dX11_manOf_62 : decode cX11_manOf 62 = .ok (.aload_n 3, 1) := by decide +kernel
theorem dX11_manOf_63 : decode cX11_manOf 63 = .ok (.getfield 135, 3) := by decide +kernel
theorem dX11_manOf_66 : decode cX11_manOf 66 = .ok (.iload_n 1, 1) := by decide +kernel
theorem dX11_manOf_67 : decode cX11_manOf 67 = .ok (.iaload, 1) := by decide +kernel
theorem dX11_manOf_68 : decode cX11_manOf 68 = .ok (.ireturn, 1) := by decide +kernel
theorem dX11_manOf_69 : decode cX11_manOf 69 = .ok (.aload_n 3, 1) := by decide +kernel
theorem dX11_manOf_70 : decode cX11_manOf 70 = .ok (.iload_n 1, 1) := by decide +kernel
theorem dX11_manOf_71 : decode cX11_manOf 71 = .ok (.invokevirtual 266, 3) := by decide +kernel
theorem dX11_manOf_74 : decode cX11_manOf 74 = .ok (.ireturn, 1) := by decide +kernel
theorem dX11_manOf_75 : decode cX11_manOf 75 = .ok (.iconst (-1), 1) := by decide +kernel
theorem dX11_manOf_76 : decode cX11_manOf 76 = .ok (.ireturn, 1) := by decide +kernel
theorem dX11_path_0 : decode cX11_path 0 = .ok (.aload_n 0, 1) := by decide +kernel
theorem dX11_path_1 : decode cX11_path 1 = .ok (.getfield 12, 3) := by decide +kernel
theorem dX11_path_4 : decode cX11_path 4 = .ok (.iload_n 1, 1) := by decide +kernel
theorem dX11_path_5 : decode cX11_path 5 = .ok (.iload_n 2, 1) := by decide +kernel
theorem dX11_path_6 : decode cX11_path 6 = .ok (.invokevirtual 269, 3) := by decide +kernel
theorem dX11_path_9 : decode cX11_path 9 = .ok (.ireturn, 1) := by decide +kernel
theorem dX11_book_0 : decode cX11_book 0 = .ok (.iload_n 1, 1) := by decide +kernel
theorem dX11_book_1 : decode cX11_book 1 = .ok (.ifCond .lt 26, 3) := by decide +kernel
theorem dX11_book_4 : decode cX11_book 4 = .ok (.iload_n 1, 1) := by decide +kernel
theorem dX11_book_5 : decode cX11_book 5 = .ok (.aload_n 0, 1) := by decide +kernel
theorem dX11_book_6 : decode cX11_book 6 = .ok (.getfield 12, 3) := by decide +kernel
theorem dX11_book_9 : decode cX11_book 9 = .ok (.getfield 81, 3) := by decide +kernel
theorem dX11_book_12 : decode cX11_book 12 = .ok (.getfield 272, 3) := by decide +kernel
theorem dX11_book_15 : decode cX11_book 15 = .ok (.if_icmp .ge 12, 3) := by decide +kernel
theorem dX11_book_18 : decode cX11_book 18 = .ok (.iload_n 2, 1) := by decide +kernel
theorem dX11_book_19 : decode cX11_book 19 = .ok (.iconst 0, 1) := by decide +kernel
theorem dX11_book_20 : decode cX11_book 20 = .ok (.iconst 3, 1) := by decide +kernel
theorem dX11_book_21 : decode cX11_book 21 = .ok (.invokestatic 91, 3) := by decide +kernel
theorem dX11_book_24 : decode cX11_book 24 = .ok (.ifCond .ne 6, 3) := by decide +kernel
theorem dX11_book_27 : decode cX11_book 27 = .ok (.bipush (-2), 2) := by decide +kernel
theorem dX11_book_29 : decode cX11_book 29 = .ok (.ireturn, 1) := by decide +kernel
theorem dX11_book_30 : decode cX11_book 30 = .ok (.aload_n 0, 1) := by decide +kernel
theorem dX11_book_31 : decode cX11_book 31 = .ok (.getfield 12, 3) := by decide +kernel
theorem dX11_book_34 : decode cX11_book 34 = .ok (.iload_n 1, 1) := by decide +kernel
theorem dX11_book_35 : decode cX11_book 35 = .ok (.iload_n 2, 1) := by decide +kernel
theorem dX11_book_36 : decode cX11_book 36 = .ok (.invokevirtual 275, 3) := by decide +kernel
theorem dX11_book_39 : decode cX11_book 39 = .ok (.ireturn, 1) := by decide +kernel
theorem dX11_undo_0 : decode cX11_undo 0 = .ok (.aload_n 0, 1) := by decide +kernel
theorem dX11_undo_1 : decode cX11_undo 1 = .ok (.getfield 26, 3) := by decide +kernel
theorem dX11_undo_4 : decode cX11_undo 4 = .ok (.aload_n 0, 1) := by decide +kernel
theorem dX11_undo_5 : decode cX11_undo 5 = .ok (.getfield 12, 3) := by decide +kernel
theorem dX11_undo_8 : decode cX11_undo 8 = .ok (.getfield 81, 3) := by decide +kernel
theorem dX11_undo_11 : decode cX11_undo 11 = .ok (.invokevirtual 376, 3) := by decide +kernel
theorem dX11_undo_14 : decode cX11_undo 14 = .ok (.ireturn, 1) := by decide +kernel
theorem dX11_look_0 : decode cX11_look 0 = .ok (.aload_n 0, 1) := by decide +kernel
theorem dX11_look_1 : decode cX11_look 1 = .ok (.getfield 12, 3) := by decide +kernel
theorem dX11_look_4 : decode cX11_look 4 = .ok (.getfield 81, 3) := by decide +kernel
theorem dX11_look_7 : decode cX11_look 7 = .ok (.astore_n 2, 1) := by decide +kernel
theorem dX11_look_8 : decode cX11_look 8 = .ok (.iload_n 1, 1) := by decide +kernel
theorem dX11_look_9 : decode cX11_look 9 = .ok (.tableswitch 216 0 17 #[87, 92, 97, 102, 107, 112, 117, 122, 127, 132, 137, 142, 153, 164, 175, 186, 197, 208], 87) := by decide +kernel
theorem dX11_look_96 : decode cX11_look 96 = .ok (.aload_n 2, 1) := by decide +kernel
theorem dX11_look_97 : decode cX11_look 97 = .ok (.getfield 356, 3) := by decide +kernel
theorem dX11_look_100 : decode cX11_look 100 = .ok (.ireturn, 1) := by decide +kernel
theorem dX11_look_101 : decode cX11_look 101 = .ok (.aload_n 2, 1) := by decide +kernel
theorem dX11_look_102 : decode cX11_look 102 = .ok (.getfield 359, 3) := by decide +kernel
theorem dX11_look_105 : decode cX11_look 105 = .ok (.ireturn, 1) := by decide +kernel
theorem dX11_look_106 : decode cX11_look 106 = .ok (.aload_n 2, 1) := by decide +kernel
theorem dX11_look_107 : decode cX11_look 107 = .ok (.getfield 171, 3) := by decide +kernel
theorem dX11_look_110 : decode cX11_look 110 = .ok (.ireturn, 1) := by decide +kernel
theorem dX11_look_111 : decode cX11_look 111 = .ok (.aload_n 2, 1) := by decide +kernel
theorem dX11_look_112 : decode cX11_look 112 = .ok (.getfield 109, 3) := by decide +kernel
theorem dX11_look_115 : decode cX11_look 115 = .ok (.ireturn, 1) := by decide +kernel
theorem dX11_look_116 : decode cX11_look 116 = .ok (.aload_n 2, 1) := by decide +kernel
theorem dX11_look_117 : decode cX11_look 117 = .ok (.getfield 116, 3) := by decide +kernel
theorem dX11_look_120 : decode cX11_look 120 = .ok (.ireturn, 1) := by decide +kernel
theorem dX11_look_121 : decode cX11_look 121 = .ok (.aload_n 2, 1) := by decide +kernel
theorem dX11_look_122 : decode cX11_look 122 = .ok (.getfield 150, 3) := by decide +kernel
theorem dX11_look_125 : decode cX11_look 125 = .ok (.ireturn, 1) := by decide +kernel
theorem dX11_look_126 : decode cX11_look 126 = .ok (.aload_n 2, 1) := by decide +kernel
theorem dX11_look_127 : decode cX11_look 127 = .ok (.getfield 293, 3) := by decide +kernel
theorem dX11_look_130 : decode cX11_look 130 = .ok (.ireturn, 1) := by decide +kernel
theorem dX11_look_131 : decode cX11_look 131 = .ok (.aload_n 2, 1) := by decide +kernel
theorem dX11_look_132 : decode cX11_look 132 = .ok (.getfield 290, 3) := by decide +kernel
theorem dX11_look_135 : decode cX11_look 135 = .ok (.ireturn, 1) := by decide +kernel
theorem dX11_look_136 : decode cX11_look 136 = .ok (.aload_n 2, 1) := by decide +kernel
theorem dX11_look_137 : decode cX11_look 137 = .ok (.invokevirtual 305, 3) := by decide +kernel
theorem dX11_look_140 : decode cX11_look 140 = .ok (.ireturn, 1) := by decide +kernel
theorem dX11_look_141 : decode cX11_look 141 = .ok (.aload_n 2, 1) := by decide +kernel
theorem dX11_look_142 : decode cX11_look 142 = .ok (.getfield 272, 3) := by decide +kernel
theorem dX11_look_145 : decode cX11_look 145 = .ok (.ireturn, 1) := by decide +kernel
theorem dX11_look_146 : decode cX11_look 146 = .ok (.aload_n 2, 1) := by decide +kernel
theorem dX11_look_147 : decode cX11_look 147 = .ok (.getfield 84, 3) := by decide +kernel
theorem dX11_look_150 : decode cX11_look 150 = .ok (.ireturn, 1) := by decide +kernel
theorem dX11_look_151 : decode cX11_look 151 = .ok (.aload_n 0, 1) := by decide +kernel
theorem dX11_look_152 : decode cX11_look 152 = .ok (.getfield 12, 3) := by decide +kernel
theorem dX11_look_155 : decode cX11_look 155 = .ok (.getfield 192, 3) := by decide +kernel
theorem dX11_look_158 : decode cX11_look 158 = .ok (.getfield 203, 3) := by decide +kernel
theorem dX11_look_161 : decode cX11_look 161 = .ok (.ireturn, 1) := by decide +kernel
theorem dX11_look_162 : decode cX11_look 162 = .ok (.aload_n 0, 1) := by decide +kernel
theorem dX11_look_163 : decode cX11_look 163 = .ok (.getfield 12, 3) := by decide +kernel
theorem dX11_look_166 : decode cX11_look 166 = .ok (.getfield 212, 3) := by decide +kernel
theorem dX11_look_169 : decode cX11_look 169 = .ok (.getfield 233, 3) := by decide +kernel
theorem dX11_look_172 : decode cX11_look 172 = .ok (.ireturn, 1) := by decide +kernel
theorem dX11_look_173 : decode cX11_look 173 = .ok (.aload_n 0, 1) := by decide +kernel
theorem dX11_look_174 : decode cX11_look 174 = .ok (.getfield 12, 3) := by decide +kernel
theorem dX11_look_177 : decode cX11_look 177 = .ok (.getfield 216, 3) := by decide +kernel
theorem dX11_look_180 : decode cX11_look 180 = .ok (.getfield 233, 3) := by decide +kernel
theorem dX11_look_183 : decode cX11_look 183 = .ok (.ireturn, 1) := by decide +kernel
theorem dX11_look_184 : decode cX11_look 184 = .ok (.aload_n 0, 1) := by decide +kernel
theorem dX11_look_185 : decode cX11_look 185 = .ok (.getfield 12, 3) := by decide +kernel
theorem dX11_look_188 : decode cX11_look 188 = .ok (.getfield 219, 3) := by decide +kernel
theorem dX11_look_191 : decode cX11_look 191 = .ok (.getfield 233, 3) := by decide +kernel
theorem dX11_look_194 : decode cX11_look 194 = .ok (.ireturn, 1) := by decide +kernel
theorem dX11_look_195 : decode cX11_look 195 = .ok (.aload_n 0, 1) := by decide +kernel
theorem dX11_look_196 : decode cX11_look 196 = .ok (.getfield 12, 3) := by decide +kernel
theorem dX11_look_199 : decode cX11_look 199 = .ok (.getfield 222, 3) := by decide +kernel
theorem dX11_look_202 : decode cX11_look 202 = .ok (.getfield 233, 3) := by decide +kernel
theorem dX11_look_205 : decode cX11_look 205 = .ok (.ireturn, 1) := by decide +kernel
theorem dX11_look_206 : decode cX11_look 206 = .ok (.aload_n 0, 1) := by decide +kernel
theorem dX11_look_207 : decode cX11_look 207 = .ok (.getfield 12, 3) := by decide +kernel
theorem dX11_look_210 : decode cX11_look 210 = .ok (.getfield 334, 3) := by decide +kernel
theorem dX11_look_213 : decode cX11_look 213 = .ok (.getfield 233, 3) := by decide +kernel
theorem dX11_look_216 : decode cX11_look 216 = .ok (.ireturn, 1) := by decide +kernel
theorem dX11_look_217 : decode cX11_look 217 = .ok (.aload_n 0, 1) := by decide +kernel
theorem dX11_look_218 : decode cX11_look 218 = .ok (.getfield 26, 3) := by decide +kernel
theorem dX11_look_221 : decode cX11_look 221 = .ok (.getfield 382, 3) := by decide +kernel
theorem dX11_look_224 : decode cX11_look 224 = .ok (.ireturn, 1) := by decide +kernel
theorem dX11_look_225 : decode cX11_look 225 = .ok (.iconst (-1), 1) := by decide +kernel
theorem dX11_look_226 : decode cX11_look 226 = .ok (.ireturn, 1) := by decide +kernel
theorem dX11_isWithin_0 : decode cX11_isWithin 0 = .ok (.iload_n 0, 1) := by decide +kernel
theorem dX11_isWithin_1 : decode cX11_isWithin 1 = .ok (.iload_n 1, 1) := by decide +kernel
theorem dX11_isWithin_2 : decode cX11_isWithin 2 = .ok (.if_icmp .lt 12, 3) := by decide +kernel
theorem dX11_isWithin_5 : decode cX11_isWithin 5 = .ok (.iload_n 0, 1) := by decide +kernel
theorem dX11_isWithin_6 : decode cX11_isWithin 6 = .ok (.iload_n 2, 1) := by decide +kernel
theorem dX11_isWithin_7 : decode cX11_isWithin 7 = .ok (.if_icmp .gt 7, 3) := by decide +kernel
theorem dX11_isWithin_10 : decode cX11_isWithin 10 = .ok (.iconst 1, 1) := by decide +kernel
theorem dX11_isWithin_11 : decode cX11_isWithin 11 = .ok (.goto 4, 3) := by decide +kernel
theorem dX11_isWithin_14 : decode cX11_isWithin 14 = .ok (.iconst 0, 1) := by decide +kernel
theorem dX11_isWithin_15 : decode cX11_isWithin 15 = .ok (.ireturn, 1) := by decide +kernel
theorem dX11_isCamp_0 : decode cX11_isCamp 0 = .ok (.iload_n 0, 1) := by decide +kernel
theorem dX11_isCamp_1 : decode cX11_isCamp 1 = .ok (.ifCond .lt 13, 3) := by decide +kernel
theorem dX11_isCamp_4 : decode cX11_isCamp 4 = .ok (.iload_n 0, 1) := by decide +kernel
theorem dX11_isCamp_5 : decode cX11_isCamp 5 = .ok (.bipush 10, 2) := by decide +kernel
theorem dX11_isCamp_7 : decode cX11_isCamp 7 = .ok (.if_icmp .ge 7, 3) := by decide +kernel
theorem dX11_isCamp_10 : decode cX11_isCamp 10 = .ok (.iconst 1, 1) := by decide +kernel
theorem dX11_isCamp_11 : decode cX11_isCamp 11 = .ok (.goto 4, 3) := by decide +kernel
theorem dX11_isCamp_14 : decode cX11_isCamp 14 = .ok (.iconst 0, 1) := by decide +kernel
theorem dX11_isCamp_15 : decode cX11_isCamp 15 = .ok (.ireturn, 1) := by decide +kernel
theorem dX11_isIn_0 : decode cX11_isIn 0 = .ok (.iload_n 0, 1) := by decide +kernel
theorem dX11_isIn_1 : decode cX11_isIn 1 = .ok (.iload_n 1, 1) := by decide +kernel
theorem dX11_isIn_2 : decode cX11_isIn 2 = .ok (.ishr, 1) := by decide +kernel
theorem dX11_isIn_3 : decode cX11_isIn 3 = .ok (.iconst 1, 1) := by decide +kernel
theorem dX11_isIn_4 : decode cX11_isIn 4 = .ok (.iand, 1) := by decide +kernel
theorem dX11_isIn_5 : decode cX11_isIn 5 = .ok (.ifCond .eq 7, 3) := by decide +kernel
theorem dX11_isIn_8 : decode cX11_isIn 8 = .ok (.iconst 1, 1) := by decide +kernel
theorem dX11_isIn_9 : decode cX11_isIn 9 = .ok (.goto 4, 3) := by decide +kernel
theorem dX11_isIn_12 : decode cX11_isIn 12 = .ok (.iconst 0, 1) := by decide +kernel
theorem dX11_isIn_13 : decode cX11_isIn 13 = .ok (.ireturn, 1) := by decide +kernel
theorem dX11_copyRow_0 : decode cX11_copyRow 0 = .ok (.aload_n 0, 1) := by decide +kernel
theorem dX11_copyRow_1 : decode cX11_copyRow 1 = .ok (.iconst 0, 1) := by decide +kernel
theorem dX11_copyRow_2 : decode cX11_copyRow 2 = .ok (.aload_n 1, 1) := by decide +kernel
theorem dX11_copyRow_3 : decode cX11_copyRow 3 = .ok (.iconst 0, 1) := by decide +kernel
theorem dX11_copyRow_4 : decode cX11_copyRow 4 = .ok (.aload_n 0, 1) := by decide +kernel
theorem dX11_copyRow_5 : decode cX11_copyRow 5 = .ok (.arraylength, 1) := by decide +kernel
theorem dX11_copyRow_6 : decode cX11_copyRow 6 = .ok (.aload_n 1, 1) := by decide +kernel
theorem dX11_copyRow_7 : decode cX11_copyRow 7 = .ok (.arraylength, 1) := by decide +kernel
theorem dX11_copyRow_8 : decode cX11_copyRow 8 = .ok (.invokestatic 383, 3) := by decide +kernel
theorem dX11_copyRow_11 : decode cX11_copyRow 11 = .ok (.invokestatic 388, 3) := by decide +kernel
theorem dX11_copyRow_14 : decode cX11_copyRow 14 = .ok (.return_, 1) := by decide +kernel
theorem dX12_init_0 : decode cX12_init 0 = .ok (.aload_n 0, 1) := by decide +kernel
theorem dX12_init_1 : decode cX12_init 1 = .ok (.invokespecial 1, 3) := by decide +kernel
theorem dX12_init_4 : decode cX12_init 4 = .ok (.aload_n 0, 1) := by decide +kernel
theorem dX12_init_5 : decode cX12_init 5 = .ok (.iconst (-1), 1) := by decide +kernel
theorem dX12_init_6 : decode cX12_init 6 = .ok (.putfield 7, 3) := by decide +kernel
theorem dX12_init_9 : decode cX12_init 9 = .ok (.aload_n 0, 1) := by decide +kernel
theorem dX12_init_10 : decode cX12_init 10 = .ok (.bipush 12, 2) := by decide +kernel
theorem dX12_init_12 : decode cX12_init 12 = .ok (.anewarray 13, 3) := by decide +kernel
theorem dX12_init_15 : decode cX12_init 15 = .ok (.putfield 15, 3) := by decide +kernel
theorem dX12_init_18 : decode cX12_init 18 = .ok (.aload_n 0, 1) := by decide +kernel
theorem dX12_init_19 : decode cX12_init 19 = .ok (.iconst 5, 1) := by decide +kernel
theorem dX12_init_20 : decode cX12_init 20 = .ok (.anewarray 13, 3) := by decide +kernel
theorem dX12_init_23 : decode cX12_init 23 = .ok (.putfield 19, 3) := by decide +kernel
theorem dX12_init_26 : decode cX12_init 26 = .ok (.aload_n 0, 1) := by decide +kernel
theorem dX12_init_27 : decode cX12_init 27 = .ok (.iconst 0, 1) := by decide +kernel
theorem dX12_init_28 : decode cX12_init 28 = .ok (.anewarray 13, 3) := by decide +kernel
theorem dX12_init_31 : decode cX12_init 31 = .ok (.putfield 22, 3) := by decide +kernel
theorem dX12_init_34 : decode cX12_init 34 = .ok (.aload_n 0, 1) := by decide +kernel
theorem dX12_init_35 : decode cX12_init 35 = .ok (.iconst 0, 1) := by decide +kernel
theorem dX12_init_36 : decode cX12_init 36 = .ok (.anewarray 13, 3) := by decide +kernel
theorem dX12_init_39 : decode cX12_init 39 = .ok (.putfield 25, 3) := by decide +kernel
theorem dX12_init_42 : decode cX12_init 42 = .ok (.aload_n 0, 1) := by decide +kernel
theorem dX12_init_43 : decode cX12_init 43 = .ok (.sipush 150, 3) := by decide +kernel
theorem dX12_init_46 : decode cX12_init 46 = .ok (.anewarray 13, 3) := by decide +kernel
theorem dX12_init_49 : decode cX12_init 49 = .ok (.putfield 28, 3) := by decide +kernel
theorem dX12_init_52 : decode cX12_init 52 = .ok (.return_, 1) := by decide +kernel
theorem dX12_copy_0 : decode cX12_copy 0 = .ok (.new 8, 3) := by decide +kernel
theorem dX12_copy_3 : decode cX12_copy 3 = .ok (.dup, 1) := by decide +kernel
theorem dX12_copy_4 : decode cX12_copy 4 = .ok (.invokespecial 31, 3) := by decide +kernel
theorem dX12_copy_7 : decode cX12_copy 7 = .ok (.astore_n 1, 1) := by decide +kernel
theorem dX12_copy_8 : decode cX12_copy 8 = .ok (.aload_n 1, 1) := by decide +kernel
theorem dX12_copy_9 : decode cX12_copy 9 = .ok (.aload_n 0, 1) := by decide +kernel
theorem dX12_copy_10 : decode cX12_copy 10 = .ok (.getfield 32, 3) := by decide +kernel
theorem dX12_copy_13 : decode cX12_copy 13 = .ok (.putfield 32, 3) := by decide +kernel
theorem dX12_copy_16 : decode cX12_copy 16 = .ok (.aload_n 1, 1) := by decide +kernel
theorem dX12_copy_17 : decode cX12_copy 17 = .ok (.aload_n 0, 1) := by decide +kernel
theorem dX12_copy_18 : decode cX12_copy 18 = .ok (.getfield 35, 3) := by decide +kernel
theorem dX12_copy_21 : decode cX12_copy 21 = .ok (.putfield 35, 3) := by decide +kernel
theorem dX12_copy_24 : decode cX12_copy 24 = .ok (.aload_n 1, 1) := by decide +kernel
theorem dX12_copy_25 : decode cX12_copy 25 = .ok (.aload_n 0, 1) := by decide +kernel
theorem dX12_copy_26 : decode cX12_copy 26 = .ok (.getfield 38, 3) := by decide +kernel
theorem dX12_copy_29 : decode cX12_copy 29 = .ok (.putfield 38, 3) := by decide +kernel
theorem dX12_copy_32 : decode cX12_copy 32 = .ok (.aload_n 1, 1) := by decide +kernel
theorem dX12_copy_33 : decode cX12_copy 33 = .ok (.aload_n 0, 1) := by decide +kernel
theorem dX12_copy_34 : decode cX12_copy 34 = .ok (.getfield 7, 3) := by decide +kernel
theorem dX12_copy_37 : decode cX12_copy 37 = .ok (.putfield 7, 3) := by decide +kernel
theorem dX12_copy_40 : decode cX12_copy 40 = .ok (.aload_n 1, 1) := by decide +kernel
theorem dX12_copy_41 : decode cX12_copy 41 = .ok (.aload_n 0, 1) := by decide +kernel
theorem dX12_copy_42 : decode cX12_copy 42 = .ok (.getfield 41, 3) := by decide +kernel
theorem dX12_copy_45 : decode cX12_copy 45 = .ok (.putfield 41, 3) := by decide +kernel
theorem dX12_copy_48 : decode cX12_copy 48 = .ok (.aload_n 1, 1) := by decide +kernel
theorem dX12_copy_49 : decode cX12_copy 49 = .ok (.aload_n 0, 1) := by decide +kernel
theorem dX12_copy_50 : decode cX12_copy 50 = .ok (.getfield 44, 3) := by decide +kernel
theorem dX12_copy_53 : decode cX12_copy 53 = .ok (.putfield 44, 3) := by decide +kernel
theorem dX12_copy_56 : decode cX12_copy 56 = .ok (.aload_n 1, 1) := by decide +kernel
theorem dX12_copy_57 : decode cX12_copy 57 = .ok (.aload_n 0, 1) := by decide +kernel
theorem dX12_copy_58 : decode cX12_copy 58 = .ok (.getfield 47, 3) := by decide +kernel
theorem dX12_copy_61 : decode cX12_copy 61 = .ok (.putfield 47, 3) := by decide +kernel
theorem dX12_copy_64 : decode cX12_copy 64 = .ok (.aload_n 1, 1) := by decide +kernel
theorem dX12_copy_65 : decode cX12_copy 65 = .ok (.aload_n 0, 1) := by decide +kernel
theorem dX12_copy_66 : decode cX12_copy 66 = .ok (.getfield 50, 3) := by decide +kernel
theorem dX12_copy_69 : decode cX12_copy 69 = .ok (.putfield 50, 3) := by decide +kernel
theorem dX12_copy_72 : decode cX12_copy 72 = .ok (.aload_n 1, 1) := by decide +kernel
theorem dX12_copy_73 : decode cX12_copy 73 = .ok (.aload_n 0, 1) := by decide +kernel
theorem dX12_copy_74 : decode cX12_copy 74 = .ok (.getfield 53, 3) := by decide +kernel
theorem dX12_copy_77 : decode cX12_copy 77 = .ok (.putfield 53, 3) := by decide +kernel
theorem dX12_copy_80 : decode cX12_copy 80 = .ok (.aload_n 1, 1) := by decide +kernel
theorem dX12_copy_81 : decode cX12_copy 81 = .ok (.aload_n 0, 1) := by decide +kernel
theorem dX12_copy_82 : decode cX12_copy 82 = .ok (.getfield 56, 3) := by decide +kernel
theorem dX12_copy_85 : decode cX12_copy 85 = .ok (.putfield 56, 3) := by decide +kernel
theorem dX12_copy_88 : decode cX12_copy 88 = .ok (.aload_n 1, 1) := by decide +kernel
theorem dX12_copy_89 : decode cX12_copy 89 = .ok (.aload_n 0, 1) := by decide +kernel
theorem dX12_copy_90 : decode cX12_copy 90 = .ok (.getfield 59, 3) := by decide +kernel
theorem dX12_copy_93 : decode cX12_copy 93 = .ok (.putfield 59, 3) := by decide +kernel
theorem dX12_copy_96 : decode cX12_copy 96 = .ok (.aload_n 1, 1) := by decide +kernel
theorem dX12_copy_97 : decode cX12_copy 97 = .ok (.aload_n 0, 1) := by decide +kernel
theorem dX12_copy_98 : decode cX12_copy 98 = .ok (.getfield 22, 3) := by decide +kernel
theorem dX12_copy_101 : decode cX12_copy 101 = .ok (.putfield 22, 3) := by decide +kernel
theorem dX12_copy_104 : decode cX12_copy 104 = .ok (.aload_n 1, 1) := by decide +kernel
theorem dX12_copy_105 : decode cX12_copy 105 = .ok (.aload_n 0, 1) := by decide +kernel
theorem dX12_copy_106 : decode cX12_copy 106 = .ok (.getfield 25, 3) := by decide +kernel
theorem dX12_copy_109 : decode cX12_copy 109 = .ok (.putfield 25, 3) := by decide +kernel
theorem dX12_copy_112 : decode cX12_copy 112 = .ok (.aload_n 1, 1) := by decide +kernel
theorem dX12_copy_113 : decode cX12_copy 113 = .ok (.aload_n 0, 1) := by decide +kernel
theorem dX12_copy_114 : decode cX12_copy 114 = .ok (.getfield 62, 3) := by decide +kernel
theorem dX12_copy_117 : decode cX12_copy 117 = .ok (.putfield 62, 3) := by decide +kernel
theorem dX12_copy_120 : decode cX12_copy 120 = .ok (.iconst 0, 1) := by decide +kernel
theorem dX12_copy_121 : decode cX12_copy 121 = .ok (.istore_n 2, 1) := by decide +kernel
theorem dX12_copy_122 : decode cX12_copy 122 = .ok (.iload_n 2, 1) := by decide +kernel
theorem dX12_copy_123 : decode cX12_copy 123 = .ok (.aload_n 0, 1) := by decide +kernel
theorem dX12_copy_124 : decode cX12_copy 124 = .ok (.getfield 50, 3) := by decide +kernel
theorem dX12_copy_127 : decode cX12_copy 127 = .ok (.if_icmp .ge 27, 3) := by decide +kernel
theorem dX12_copy_130 : decode cX12_copy 130 = .ok (.aload_n 1, 1) := by decide +kernel
theorem dX12_copy_131 : decode cX12_copy 131 = .ok (.getfield 15, 3) := by decide +kernel
theorem dX12_copy_134 : decode cX12_copy 134 = .ok (.iload_n 2, 1) := by decide +kernel
theorem dX12_copy_135 : decode cX12_copy 135 = .ok (.aload_n 0, 1) := by decide +kernel
theorem dX12_copy_136 : decode cX12_copy 136 = .ok (.getfield 15, 3) := by decide +kernel
theorem dX12_copy_139 : decode cX12_copy 139 = .ok (.iload_n 2, 1) := by decide +kernel
theorem dX12_copy_140 : decode cX12_copy 140 = .ok (.aaload, 1) := by decide +kernel
theorem dX12_copy_141 : decode cX12_copy 141 = .ok (.invokevirtual 65, 3) := by decide +kernel
theorem dX12_copy_144 : decode cX12_copy 144 = .ok (.checkcast 13, 3) := by decide +kernel
theorem dX12_copy_147 : decode cX12_copy 147 = .ok (.aastore, 1) := by decide +kernel
theorem dX12_copy_148 : decode cX12_copy 148 = .ok (.iinc 2 1, 3) := by decide +kernel
theorem dX12_copy_151 : decode cX12_copy 151 = .ok (.goto (-29), 3) := by decide +kernel
theorem dX12_copy_154 : decode cX12_copy 154 = .ok (.iconst 0, 1) := by decide +kernel
theorem dX12_copy_155 : decode cX12_copy 155 = .ok (.istore_n 2, 1) := by decide +kernel
theorem dX12_copy_156 : decode cX12_copy 156 = .ok (.iload_n 2, 1) := by decide +kernel
theorem dX12_copy_157 : decode cX12_copy 157 = .ok (.aload_n 0, 1) := by decide +kernel
theorem dX12_copy_158 : decode cX12_copy 158 = .ok (.getfield 53, 3) := by decide +kernel
theorem dX12_copy_161 : decode cX12_copy 161 = .ok (.if_icmp .ge 27, 3) := by decide +kernel
theorem dX12_copy_164 : decode cX12_copy 164 = .ok (.aload_n 1, 1) := by decide +kernel
theorem dX12_copy_165 : decode cX12_copy 165 = .ok (.getfield 19, 3) := by decide +kernel
theorem dX12_copy_168 : decode cX12_copy 168 = .ok (.iload_n 2, 1) := by decide +kernel
theorem dX12_copy_169 : decode cX12_copy 169 = .ok (.aload_n 0, 1) := by decide +kernel
theorem dX12_copy_170 : decode cX12_copy 170 = .ok (.getfield 19, 3) := by decide +kernel
theorem dX12_copy_173 : decode cX12_copy 173 = .ok (.iload_n 2, 1) := by decide +kernel
theorem dX12_copy_174 : decode cX12_copy 174 = .ok (.aaload, 1) := by decide +kernel
theorem dX12_copy_175 : decode cX12_copy 175 = .ok (.invokevirtual 65, 3) := by decide +kernel
theorem dX12_copy_178 : decode cX12_copy 178 = .ok (.checkcast 13, 3) := by decide +kernel
theorem dX12_copy_181 : decode cX12_copy 181 = .ok (.aastore, 1) := by decide +kernel
theorem dX12_copy_182 : decode cX12_copy 182 = .ok (.iinc 2 1, 3) := by decide +kernel
theorem dX12_copy_185 : decode cX12_copy 185 = .ok (.goto (-29), 3) := by decide +kernel
theorem dX12_copy_188 : decode cX12_copy 188 = .ok (.iconst 0, 1) := by decide +kernel
theorem dX12_copy_189 : decode cX12_copy 189 = .ok (.istore_n 2, 1) := by decide +kernel
theorem dX12_copy_190 : decode cX12_copy 190 = .ok (.iload_n 2, 1) := by decide +kernel
theorem dX12_copy_191 : decode cX12_copy 191 = .ok (.aload_n 0, 1) := by decide +kernel
theorem dX12_copy_192 : decode cX12_copy 192 = .ok (.getfield 56, 3) := by decide +kernel
theorem dX12_copy_195 : decode cX12_copy 195 = .ok (.if_icmp .ge 21, 3) := by decide +kernel
theorem dX12_copy_198 : decode cX12_copy 198 = .ok (.aload_n 1, 1) := by decide +kernel
theorem dX12_copy_199 : decode cX12_copy 199 = .ok (.getfield 28, 3) := by decide +kernel
theorem dX12_copy_202 : decode cX12_copy 202 = .ok (.iload_n 2, 1) := by decide +kernel
theorem dX12_copy_203 : decode cX12_copy 203 = .ok (.aload_n 0, 1) := by decide +kernel
theorem dX12_copy_204 : decode cX12_copy 204 = .ok (.getfield 28, 3) := by decide +kernel
theorem dX12_copy_207 : decode cX12_copy 207 = .ok (.iload_n 2, 1) := by decide +kernel
theorem dX12_copy_208 : decode cX12_copy 208 = .ok (.aaload, 1) := by decide +kernel
theorem dX12_copy_209 : decode cX12_copy 209 = .ok (.aastore, 1) := by decide +kernel
theorem dX12_copy_210 : decode cX12_copy 210 = .ok (.iinc 2 1, 3) := by decide +kernel
theorem dX12_copy_213 : decode cX12_copy 213 = .ok (.goto (-23), 3) := by decide +kernel
theorem dX12_copy_216 : decode cX12_copy 216 = .ok (.aload_n 1, 1) := by decide +kernel
theorem dX12_copy_217 : decode cX12_copy 217 = .ok (.areturn, 1) := by decide +kernel
theorem dX12_draw_0 : decode cX12_draw 0 = .ok (.aload_n 0, 1) := by decide +kernel
theorem dX12_draw_1 : decode cX12_draw 1 = .ok (.ldc 69, 2) := by decide +kernel
theorem dX12_draw_3 : decode cX12_draw 3 = .ok (.aload_n 0, 1) := by decide +kernel
theorem dX12_draw_4 : decode cX12_draw 4 = .ok (.getfield 32, 3) := by decide +kernel
theorem dX12_draw_7 : decode cX12_draw 7 = .ok (.imul, 1) := by decide +kernel
theorem dX12_draw_8 : decode cX12_draw 8 = .ok (.ldc 70, 2) := by decide +kernel
theorem dX12_draw_10 : decode cX12_draw 10 = .ok (.iadd, 1) := by decide +kernel
theorem dX12_draw_11 : decode cX12_draw 11 = .ok (.putfield 32, 3) := by decide +kernel
theorem dX12_draw_14 : decode cX12_draw 14 = .ok (.aload_n 0, 1) := by decide +kernel
theorem dX12_draw_15 : decode cX12_draw 15 = .ok (.getfield 32, 3) := by decide +kernel
theorem dX12_draw_18 : decode cX12_draw 18 = .ok (.bipush 8, 2) := by decide +kernel
theorem dX12_draw_20 : decode cX12_draw 20 = .ok (.iushr, 1) := by decide +kernel
theorem dX12_draw_21 : decode cX12_draw 21 = .ok (.iload_n 1, 1) := by decide +kernel
theorem dX12_draw_22 : decode cX12_draw 22 = .ok (.irem, 1) := by decide +kernel
theorem dX12_draw_23 : decode cX12_draw 23 = .ok (.ireturn, 1) := by decide +kernel
theorem dX12_behind_0 : decode cX12_behind 0 = .ok (.iconst 0, 1) := by decide +kernel
theorem dX12_behind_1 : decode cX12_behind 1 = .ok (.istore_n 2, 1) := by decide +kernel
theorem dX12_behind_2 : decode cX12_behind 2 = .ok (.iconst 0, 1) := by decide +kernel
theorem dX12_behind_3 : decode cX12_behind 3 = .ok (.istore_n 3, 1) := by decide +kernel
theorem dX12_behind_4 : decode cX12_behind 4 = .ok (.iload_n 3, 1) := by decide +kernel
theorem dX12_behind_5 : decode cX12_behind 5 = .ok (.aload_n 0, 1) := by decide +kernel
theorem dX12_behind_6 : decode cX12_behind 6 = .ok (.getfield 50, 3) := by decide +kernel
theorem dX12_behind_9 : decode cX12_behind 9 = .ok (.if_icmp .ge 27, 3) := by decide +kernel
theorem dX12_behind_12 : decode cX12_behind 12 = .ok (.aload_n 0, 1) := by decide +kernel
theorem dX12_behind_13 : decode cX12_behind 13 = .ok (.getfield 15, 3) := by decide +kernel
theorem dX12_behind_16 : decode cX12_behind 16 = .ok (.iload_n 3, 1) := by decide +kernel
theorem dX12_behind_17 : decode cX12_behind 17 = .ok (.aaload, 1) := by decide +kernel
theorem dX12_behind_18 : decode cX12_behind 18 = .ok (.iconst 3, 1) := by decide +kernel
theorem dX12_behind_19 : decode cX12_behind 19 = .ok (.iaload, 1) := by decide +kernel
theorem dX12_behind_20 : decode cX12_behind 20 = .ok (.iload_n 1, 1) := by decide +kernel
theorem dX12_behind_21 : decode cX12_behind 21 = .ok (.if_icmp .ne 9, 3) := by decide +kernel
theorem dX12_behind_24 : decode cX12_behind 24 = .ok (.iload_n 2, 1) := by decide +kernel
theorem dX12_behind_25 : decode cX12_behind 25 = .ok (.iconst 1, 1) := by decide +kernel
theorem dX12_behind_26 : decode cX12_behind 26 = .ok (.iload_n 3, 1) := by decide +kernel
theorem dX12_behind_27 : decode cX12_behind 27 = .ok (.ishl, 1) := by decide +kernel
theorem dX12_behind_28 : decode cX12_behind 28 = .ok (.ior, 1) := by decide +kernel
theorem dX12_behind_29 : decode cX12_behind 29 = .ok (.istore_n 2, 1) := by decide +kernel
theorem dX12_behind_30 : decode cX12_behind 30 = .ok (.iinc 3 1, 3) := by decide +kernel
theorem dX12_behind_33 : decode cX12_behind 33 = .ok (.goto (-29), 3) := by decide +kernel
theorem dX12_behind_36 : decode cX12_behind 36 = .ok (.iload_n 2, 1) := by decide +kernel
theorem dX12_behind_37 : decode cX12_behind 37 = .ok (.ireturn, 1) := by decide +kernel
theorem dX12_lean_0 : decode cX12_lean 0 = .ok (.aload_n 0, 1) := by decide +kernel
theorem dX12_lean_1 : decode cX12_lean 1 = .ok (.getfield 15, 3) := by decide +kernel
theorem dX12_lean_4 : decode cX12_lean 4 = .ok (.iload_n 1, 1) := by decide +kernel
theorem dX12_lean_5 : decode cX12_lean 5 = .ok (.aaload, 1) := by decide +kernel
theorem dX12_lean_6 : decode cX12_lean 6 = .ok (.astore_n 3, 1) := by decide +kernel
theorem dX12_lean_7 : decode cX12_lean 7 = .ok (.aload_n 0, 1) := by decide +kernel
theorem dX12_lean_8 : decode cX12_lean 8 = .ok (.getfield 62, 3) := by decide +kernel
theorem dX12_lean_11 : decode cX12_lean 11 = .ok (.astore 4, 2) := by decide +kernel
theorem dX12_lean_13 : decode cX12_lean 13 = .ok (.aload_n 3, 1) := by decide +kernel
theorem dX12_lean_14 : decode cX12_lean 14 = .ok (.iconst 4, 1) := by decide +kernel
theorem dX12_lean_15 : decode cX12_lean 15 = .ok (.iaload, 1) := by decide +kernel
theorem dX12_lean_16 : decode cX12_lean 16 = .ok (.aload_n 0, 1) := by decide +kernel
theorem dX12_lean_17 : decode cX12_lean 17 = .ok (.iload_n 2, 1) := by decide +kernel
theorem dX12_lean_18 : decode cX12_lean 18 = .ok (.invokevirtual 71, 3) := by decide +kernel
theorem dX12_lean_21 : decode cX12_lean 21 = .ok (.iand, 1) := by decide +kernel
theorem dX12_lean_22 : decode cX12_lean 22 = .ok (.invokestatic 75, 3) := by decide +kernel
theorem dX12_lean_25 : decode cX12_lean 25 = .ok (.istore 5, 2) := by decide +kernel
theorem dX12_lean_27 : decode cX12_lean 27 = .ok (.aload_n 3, 1) := by decide +kernel
theorem dX12_lean_28 : decode cX12_lean 28 = .ok (.iconst 5, 1) := by decide +kernel
theorem dX12_lean_29 : decode cX12_lean 29 = .ok (.iload_n 2, 1) := by decide +kernel
theorem dX12_lean_30 : decode cX12_lean 30 = .ok (.iadd, 1) := by decide +kernel
theorem dX12_lean_31 : decode cX12_lean 31 = .ok (.iaload, 1) := by decide +kernel
theorem dX12_lean_32 : decode cX12_lean 32 = .ok (.istore 6, 2) := by decide +kernel
theorem dX12_lean_34 : decode cX12_lean 34 = .ok (.aload 4, 2) := by decide +kernel
theorem dX12_lean_36 : decode cX12_lean 36 = .ok (.ifnonnull 19, 3) := by decide +kernel
theorem dX12_lean_39 : decode cX12_lean 39 = .ok (.iload 6, 2) := by decide +kernel
theorem dX12_lean_41 : decode cX12_lean 41 = .ok (.bipush 10, 2) := by decide +kernel
theorem dX12_lean_43 : decode cX12_lean 43 = .ok (.iload 5, 2) := by decide +kernel
theorem dX12_lean_45 : decode cX12_lean 45 = .ok (.imul, 1) := by decide +kernel
theorem dX12_lean_46 : decode cX12_lean 46 = .ok (.iadd, 1) := by decide +kernel
theorem dX12_lean_47 : decode cX12_lean 47 = .ok (.iconst 0, 1) := by decide +kernel
theorem dX12_lean_48 : decode cX12_lean 48 = .ok (.sipush 999, 3) := by decide +kernel
theorem dX12_lean_51 : decode cX12_lean 51 = .ok (.invokestatic 80, 3) := by decide +kernel
theorem dX12_lean_54 : decode cX12_lean 54 = .ok (.ireturn, 1) := by decide +kernel
theorem dX12_lean_55 : decode cX12_lean 55 = .ok (.aload_n 3, 1) := by decide +kernel
theorem dX12_lean_56 : decode cX12_lean 56 = .ok (.iconst 1, 1) := by decide +kernel
theorem dX12_lean_57 : decode cX12_lean 57 = .ok (.iaload, 1) := by decide +kernel
theorem dX12_lean_58 : decode cX12_lean 58 = .ok (.aload 4, 2) := by decide +kernel
theorem dX12_lean_60 : decode cX12_lean 60 = .ok (.iconst 0, 1) := by decide +kernel
theorem dX12_lean_61 : decode cX12_lean 61 = .ok (.iaload, 1) := by decide +kernel
theorem dX12_lean_62 : decode cX12_lean 62 = .ok (.if_icmp .le 59, 3) := by decide +kernel
theorem dX12_lean_65 : decode cX12_lean 65 = .ok (.iload 5, 2) := by decide +kernel
theorem dX12_lean_67 : decode cX12_lean 67 = .ok (.iconst 1, 1) := by decide +kernel
theorem dX12_lean_68 : decode cX12_lean 68 = .ok (.if_icmp .gt 53, 3) := by decide +kernel
theorem dX12_lean_71 : decode cX12_lean 71 = .ok (.aload_n 0, 1) := by decide +kernel
theorem dX12_lean_72 : decode cX12_lean 72 = .ok (.getfield 19, 3) := by decide +kernel
theorem dX12_lean_75 : decode cX12_lean 75 = .ok (.iload_n 2, 1) := by decide +kernel
theorem dX12_lean_76 : decode cX12_lean 76 = .ok (.aaload, 1) := by decide +kernel
theorem dX12_lean_77 : decode cX12_lean 77 = .ok (.iconst 1, 1) := by decide +kernel
theorem dX12_lean_78 : decode cX12_lean 78 = .ok (.iaload, 1) := by decide +kernel
theorem dX12_lean_79 : decode cX12_lean 79 = .ok (.aload 4, 2) := by decide +kernel
theorem dX12_lean_81 : decode cX12_lean 81 = .ok (.iconst 1, 1) := by decide +kernel
theorem dX12_lean_82 : decode cX12_lean 82 = .ok (.iaload, 1) := by decide +kernel
theorem dX12_lean_83 : decode cX12_lean 83 = .ok (.if_icmp .eq 38, 3) := by decide +kernel
theorem dX12_lean_86 : decode cX12_lean 86 = .ok (.iload 6, 2) := by decide +kernel
theorem dX12_lean_88 : decode cX12_lean 88 = .ok (.aload_n 0, 1) := by decide +kernel
theorem dX12_lean_89 : decode cX12_lean 89 = .ok (.getfield 19, 3) := by decide +kernel
theorem dX12_lean_92 : decode cX12_lean 92 = .ok (.iload_n 2, 1) := by decide +kernel
theorem dX12_lean_93 : decode cX12_lean 93 = .ok (.aaload, 1) := by decide +kernel
theorem dX12_lean_94 : decode cX12_lean 94 = .ok (.iconst 2, 1) := by decide +kernel
theorem dX12_lean_95 : decode cX12_lean 95 = .ok (.iaload, 1) := by decide +kernel
theorem dX12_lean_96 : decode cX12_lean 96 = .ok (.aload 4, 2) := by decide +kernel
theorem dX12_lean_98 : decode cX12_lean 98 = .ok (.iconst 2, 1) := by decide +kernel
theorem dX12_lean_99 : decode cX12_lean 99 = .ok (.iaload, 1) := by decide +kernel
theorem dX12_lean_100 : decode cX12_lean 100 = .ok (.imul, 1) := by decide +kernel
theorem dX12_lean_101 : decode cX12_lean 101 = .ok (.iadd, 1) := by decide +kernel
theorem dX12_lean_102 : decode cX12_lean 102 = .ok (.aload_n 0, 1) := by decide +kernel
theorem dX12_lean_103 : decode cX12_lean 103 = .ok (.getfield 19, 3) := by decide +kernel
theorem dX12_lean_106 : decode cX12_lean 106 = .ok (.iload_n 2, 1) := by decide +kernel
theorem dX12_lean_107 : decode cX12_lean 107 = .ok (.aaload, 1) := by decide +kernel
theorem dX12_lean_108 : decode cX12_lean 108 = .ok (.iconst 1, 1) := by decide +kernel
theorem dX12_lean_109 : decode cX12_lean 109 = .ok (.iaload, 1) := by decide +kernel
theorem dX12_lean_110 : decode cX12_lean 110 = .ok (.isub, 1) := by decide +kernel
theorem dX12_lean_111 : decode cX12_lean 111 = .ok (.iconst 0, 1) := by decide +kernel
theorem dX12_lean_112 : decode cX12_lean 112 = .ok (.sipush 999, 3) := by decide +kernel
theorem dX12_lean_115 : decode cX12_lean 115 = .ok (.invokestatic 80, 3) := by decide +kernel
theorem dX12_lean_118 : decode cX12_lean 118 = .ok (.goto 22, 3) := by decide +kernel
theorem dX12_lean_121 : decode cX12_lean 121 = .ok (.iload 6, 2) := by decide +kernel
theorem dX12_lean_123 : decode cX12_lean 123 = .ok (.iconst 2, 1) := by decide +kernel
theorem dX12_lean_124 : decode cX12_lean 124 = .ok (.idiv, 1) := by decide +kernel
theorem dX12_lean_125 : decode cX12_lean 125 = .ok (.iload 5, 2) := by decide +kernel
theorem dX12_lean_127 : decode cX12_lean 127 = .ok (.aload 4, 2) := by decide +kernel
theorem dX12_lean_129 : decode cX12_lean 129 = .ok (.iconst 3, 1) := by decide +kernel
theorem dX12_lean_130 : decode cX12_lean 130 = .ok (.iaload, 1) := by decide +kernel
theorem dX12_lean_131 : decode cX12_lean 131 = .ok (.imul, 1) := by decide +kernel
theorem dX12_lean_132 : decode cX12_lean 132 = .ok (.iadd, 1) := by decide +kernel
theorem dX12_lean_133 : decode cX12_lean 133 = .ok (.iconst 0, 1) := by decide +kernel
theorem dX12_lean_134 : decode cX12_lean 134 = .ok (.sipush 999, 3) := by decide +kernel
theorem dX12_lean_137 : decode cX12_lean 137 = .ok (.invokestatic 80, 3) := by decide +kernel
theorem dX12_lean_140 : decode cX12_lean 140 = .ok (.ireturn, 1) := by decide +kernel
theorem dX12_need_0 : decode cX12_need 0 = .ok (.aload_n 0, 1) := by decide +kernel
theorem dX12_need_1 : decode cX12_need 1 = .ok (.getfield 62, 3) := by decide +kernel
theorem dX12_need_4 : decode cX12_need 4 = .ok (.ifnonnull 8, 3) := by decide +kernel
theorem dX12_need_7 : decode cX12_need 7 = .ok (.bipush 40, 2) := by decide +kernel
theorem dX12_need_9 : decode cX12_need 9 = .ok (.goto 33, 3) := by decide +kernel
theorem dX12_need_12 : decode cX12_need 12 = .ok (.aload_n 0, 1) := by decide +kernel
theorem dX12_need_13 : decode cX12_need 13 = .ok (.getfield 62, 3) := by decide +kernel
theorem dX12_need_16 : decode cX12_need 16 = .ok (.iconst 4, 1) := by decide +kernel
theorem dX12_need_17 : decode cX12_need 17 = .ok (.iaload, 1) := by decide +kernel
theorem dX12_need_18 : decode cX12_need 18 = .ok (.aload_n 0, 1) := by decide +kernel
theorem dX12_need_19 : decode cX12_need 19 = .ok (.getfield 15, 3) := by decide +kernel
theorem dX12_need_22 : decode cX12_need 22 = .ok (.iload_n 1, 1) := by decide +kernel
theorem dX12_need_23 : decode cX12_need 23 = .ok (.aaload, 1) := by decide +kernel
theorem dX12_need_24 : decode cX12_need 24 = .ok (.iconst 0, 1) := by decide +kernel
theorem dX12_need_25 : decode cX12_need 25 = .ok (.iaload, 1) := by decide +kernel
theorem dX12_need_26 : decode cX12_need 26 = .ok (.bipush 9, 2) := by decide +kernel
theorem dX12_need_28 : decode cX12_need 28 = .ok (.idiv, 1) := by decide +kernel
theorem dX12_need_29 : decode cX12_need 29 = .ok (.iadd, 1) := by decide +kernel
theorem dX12_need_30 : decode cX12_need 30 = .ok (.aload_n 0, 1) := by decide +kernel
theorem dX12_need_31 : decode cX12_need 31 = .ok (.getfield 47, 3) := by decide +kernel
theorem dX12_need_34 : decode cX12_need 34 = .ok (.isub, 1) := by decide +kernel
theorem dX12_need_35 : decode cX12_need 35 = .ok (.iconst 0, 1) := by decide +kernel
theorem dX12_need_36 : decode cX12_need 36 = .ok (.sipush 999, 3) := by decide +kernel
theorem dX12_need_39 : decode cX12_need 39 = .ok (.invokestatic 80, 3) := by decide +kernel
theorem dX12_need_42 : decode cX12_need 42 = .ok (.ireturn, 1) := by decide +kernel
theorem dX12_risk_0 : decode cX12_risk 0 = .ok (.aload_n 0, 1) := by decide +kernel
theorem dX12_risk_1 : decode cX12_risk 1 = .ok (.getfield 62, 3) := by decide +kernel
theorem dX12_risk_4 : decode cX12_risk 4 = .ok (.astore 4, 2) := by decide +kernel
theorem dX12_risk_6 : decode cX12_risk 6 = .ok (.aload 4, 2) := by decide +kernel
theorem dX12_risk_8 : decode cX12_risk 8 = .ok (.ifnonnull 18, 3) := by decide +kernel
theorem dX12_risk_11 : decode cX12_risk 11 = .ok (.bipush 20, 2) := by decide +kernel
theorem dX12_risk_13 : decode cX12_risk 13 = .ok (.aload_n 0, 1) := by decide +kernel
theorem dX12_risk_14 : decode cX12_risk 14 = .ok (.getfield 47, 3) := by decide +kernel
theorem dX12_risk_17 : decode cX12_risk 17 = .ok (.imul, 1) := by decide +kernel
theorem dX12_risk_18 : decode cX12_risk 18 = .ok (.iconst 0, 1) := by decide +kernel
theorem dX12_risk_19 : decode cX12_risk 19 = .ok (.sipush 1000, 3) := by decide +kernel
theorem dX12_risk_22 : decode cX12_risk 22 = .ok (.invokestatic 80, 3) := by decide +kernel
theorem dX12_risk_25 : decode cX12_risk 25 = .ok (.ireturn, 1) := by decide +kernel
theorem dX12_risk_26 : decode cX12_risk 26 = .ok (.iload_n 2, 1) := by decide +kernel
theorem dX12_risk_27 : decode cX12_risk 27 = .ok (.aload 4, 2) := by decide +kernel
theorem dX12_risk_29 : decode cX12_risk 29 = .ok (.iconst 5, 1) := by decide +kernel
theorem dX12_risk_30 : decode cX12_risk 30 = .ok (.iaload, 1) := by decide +kernel
theorem dX12_risk_31 : decode cX12_risk 31 = .ok (.if_icmp .gt 12, 3) := by decide +kernel
theorem dX12_risk_34 : decode cX12_risk 34 = .ok (.iload_n 1, 1) := by decide +kernel
theorem dX12_risk_35 : decode cX12_risk 35 = .ok (.aload 4, 2) := by decide +kernel
theorem dX12_risk_37 : decode cX12_risk 37 = .ok (.bipush 6, 2) := by decide +kernel
theorem dX12_risk_39 : decode cX12_risk 39 = .ok (.iaload, 1) := by decide +kernel
theorem dX12_risk_40 : decode cX12_risk 40 = .ok (.if_icmp .ne 51, 3) := by decide +kernel
theorem dX12_risk_43 : decode cX12_risk 43 = .ok (.aload_n 0, 1) := by decide +kernel
theorem dX12_risk_44 : decode cX12_risk 44 = .ok (.getfield 47, 3) := by decide +kernel
theorem dX12_risk_47 : decode cX12_risk 47 = .ok (.bipush 60, 2) := by decide +kernel
theorem dX12_risk_49 : decode cX12_risk 49 = .ok (.imul, 1) := by decide +kernel
theorem dX12_risk_50 : decode cX12_risk 50 = .ok (.aload_n 0, 1) := by decide +kernel
theorem dX12_risk_51 : decode cX12_risk 51 = .ok (.getfield 15, 3) := by decide +kernel
theorem dX12_risk_54 : decode cX12_risk 54 = .ok (.iload_n 1, 1) := by decide +kernel
theorem dX12_risk_55 : decode cX12_risk 55 = .ok (.aaload, 1) := by decide +kernel
theorem dX12_risk_56 : decode cX12_risk 56 = .ok (.iconst 1, 1) := by decide +kernel
theorem dX12_risk_57 : decode cX12_risk 57 = .ok (.iaload, 1) := by decide +kernel
theorem dX12_risk_58 : decode cX12_risk 58 = .ok (.iconst 3, 1) := by decide +kernel
theorem dX12_risk_59 : decode cX12_risk 59 = .ok (.imul, 1) := by decide +kernel
theorem dX12_risk_60 : decode cX12_risk 60 = .ok (.iadd, 1) := by decide +kernel
theorem dX12_risk_61 : decode cX12_risk 61 = .ok (.iload_n 3, 1) := by decide +kernel
theorem dX12_risk_62 : decode cX12_risk 62 = .ok (.ifCond .ge 7, 3) := by decide +kernel
theorem dX12_risk_65 : decode cX12_risk 65 = .ok (.iconst 0, 1) := by decide +kernel
theorem dX12_risk_66 : decode cX12_risk 66 = .ok (.goto 11, 3) := by decide +kernel
theorem dX12_risk_69 : decode cX12_risk 69 = .ok (.aload_n 0, 1) := by decide +kernel
theorem dX12_risk_70 : decode cX12_risk 70 = .ok (.getfield 19, 3) := by decide +kernel
theorem dX12_risk_73 : decode cX12_risk 73 = .ok (.iload_n 3, 1) := by decide +kernel
theorem dX12_risk_74 : decode cX12_risk 74 = .ok (.aaload, 1) := by decide +kernel
theorem dX12_risk_75 : decode cX12_risk 75 = .ok (.iconst 1, 1) := by decide +kernel
theorem dX12_risk_76 : decode cX12_risk 76 = .ok (.iaload, 1) := by decide +kernel
theorem dX12_risk_77 : decode cX12_risk 77 = .ok (.bipush 9, 2) := by decide +kernel
theorem dX12_risk_79 : decode cX12_risk 79 = .ok (.imul, 1) := by decide +kernel
theorem dX12_risk_80 : decode cX12_risk 80 = .ok (.isub, 1) := by decide +kernel
theorem dX12_risk_81 : decode cX12_risk 81 = .ok (.iconst 0, 1) := by decide +kernel
theorem dX12_risk_82 : decode cX12_risk 82 = .ok (.sipush 1000, 3) := by decide +kernel
theorem dX12_risk_85 : decode cX12_risk 85 = .ok (.invokestatic 80, 3) := by decide +kernel
theorem dX12_risk_88 : decode cX12_risk 88 = .ok (.goto 34, 3) := by decide +kernel
theorem dX12_risk_91 : decode cX12_risk 91 = .ok (.iload_n 2, 1) := by decide +kernel
theorem dX12_risk_92 : decode cX12_risk 92 = .ok (.aload 4, 2) := by decide +kernel
theorem dX12_risk_94 : decode cX12_risk 94 = .ok (.bipush 7, 2) := by decide +kernel
theorem dX12_risk_96 : decode cX12_risk 96 = .ok (.iaload, 1) := by decide +kernel
theorem dX12_risk_97 : decode cX12_risk 97 = .ok (.imul, 1) := by decide +kernel
theorem dX12_risk_98 : decode cX12_risk 98 = .ok (.iload_n 3, 1) := by decide +kernel
theorem dX12_risk_99 : decode cX12_risk 99 = .ok (.ifCond .ge 7, 3) := by decide +kernel
theorem dX12_risk_102 : decode cX12_risk 102 = .ok (.iconst 0, 1) := by decide +kernel
theorem dX12_risk_103 : decode cX12_risk 103 = .ok (.goto 11, 3) := by decide +kernel
theorem dX12_risk_106 : decode cX12_risk 106 = .ok (.aload_n 0, 1) := by decide +kernel
theorem dX12_risk_107 : decode cX12_risk 107 = .ok (.getfield 19, 3) := by decide +kernel
theorem dX12_risk_110 : decode cX12_risk 110 = .ok (.iload_n 3, 1) := by decide +kernel
theorem dX12_risk_111 : decode cX12_risk 111 = .ok (.aaload, 1) := by decide +kernel
theorem dX12_risk_112 : decode cX12_risk 112 = .ok (.iconst 2, 1) := by decide +kernel
theorem dX12_risk_113 : decode cX12_risk 113 = .ok (.iaload, 1) := by decide +kernel
theorem dX12_risk_114 : decode cX12_risk 114 = .ok (.isub, 1) := by decide +kernel
theorem dX12_risk_115 : decode cX12_risk 115 = .ok (.iconst 0, 1) := by decide +kernel
theorem dX12_risk_116 : decode cX12_risk 116 = .ok (.sipush 1000, 3) := by decide +kernel
theorem dX12_risk_119 : decode cX12_risk 119 = .ok (.invokestatic 80, 3) := by decide +kernel
theorem dX12_risk_122 : decode cX12_risk 122 = .ok (.ireturn, 1) := by decide +kernel
theorem dX12_notes_0 : decode cX12_notes 0 = .ok (.iload 4, 2) := by decide +kernel
theorem dX12_notes_2 : decode cX12_notes 2 = .ok (.ifCond .eq 51, 3) := by decide +kernel
theorem dX12_notes_5 : decode cX12_notes 5 = .ok (.aload_n 0, 1) := by decide +kernel
theorem dX12_notes_6 : decode cX12_notes 6 = .ok (.getfield 56, 3) := by decide +kernel
theorem dX12_notes_9 : decode cX12_notes 9 = .ok (.sipush 150, 3) := by decide +kernel
theorem dX12_notes_12 : decode cX12_notes 12 = .ok (.if_icmp .ge 41, 3) := by decide +kernel
theorem dX12_notes_15 : decode cX12_notes 15 = .ok (.aload_n 0, 1) := by decide +kernel
theorem dX12_notes_16 : decode cX12_notes 16 = .ok (.getfield 28, 3) := by decide +kernel
theorem dX12_notes_19 : decode cX12_notes 19 = .ok (.aload_n 0, 1) := by decide +kernel
theorem dX12_notes_20 : decode cX12_notes 20 = .ok (.dup, 1) := by decide +kernel
theorem dX12_notes_21 : decode cX12_notes 21 = .ok (.getfield 56, 3) := by decide +kernel
theorem dX12_notes_24 : decode cX12_notes 24 = .ok (.dup_x1, 1) := by decide +kernel
theorem dX12_notes_25 : decode cX12_notes 25 = .ok (.iconst 1, 1) := by decide +kernel
theorem dX12_notes_26 : decode cX12_notes 26 = .ok (.iadd, 1) := by decide +kernel
theorem dX12_notes_27 : decode cX12_notes 27 = .ok (.putfield 56, 3) := by decide +kernel
theorem dX12_notes_30 : decode cX12_notes 30 = .ok (.iconst 4, 1) := by decide +kernel
theorem dX12_notes_31 : decode cX12_notes 31 = .ok (.newarray .int, 2) := by decide +kernel
theorem dX12_notes_33 : decode cX12_notes 33 = .ok (.dup, 1) := by decide +kernel
theorem dX12_notes_34 : decode cX12_notes 34 = .ok (.iconst 0, 1) := by decide +kernel
theorem dX12_notes_35 : decode cX12_notes 35 = .ok (.aload_n 0, 1) := by decide +kernel
theorem dX12_notes_36 : decode cX12_notes 36 = .ok (.getfield 35, 3) := by decide +kernel
theorem dX12_notes_39 : decode cX12_notes 39 = .ok (.iastore, 1) := by decide +kernel
theorem dX12_notes_40 : decode cX12_notes 40 = .ok (.dup, 1) := by decide +kernel
theorem dX12_notes_41 : decode cX12_notes 41 = .ok (.iconst 1, 1) := by decide +kernel
theorem dX12_notes_42 : decode cX12_notes 42 = .ok (.iload_n 1, 1) := by decide +kernel
theorem dX12_notes_43 : decode cX12_notes 43 = .ok (.iastore, 1) := by decide +kernel
theorem dX12_notes_44 : decode cX12_notes 44 = .ok (.dup, 1) := by decide +kernel
theorem dX12_notes_45 : decode cX12_notes 45 = .ok (.iconst 2, 1) := by decide +kernel
theorem dX12_notes_46 : decode cX12_notes 46 = .ok (.iload_n 2, 1) := by decide +kernel
theorem dX12_notes_47 : decode cX12_notes 47 = .ok (.iastore, 1) := by decide +kernel
theorem dX12_notes_48 : decode cX12_notes 48 = .ok (.dup, 1) := by decide +kernel
theorem dX12_notes_49 : decode cX12_notes 49 = .ok (.iconst 3, 1) := by decide +kernel
theorem dX12_notes_50 : decode cX12_notes 50 = .ok (.iload_n 3, 1) := by decide +kernel
theorem dX12_notes_51 : decode cX12_notes 51 = .ok (.iastore, 1) := by decide +kernel
theorem dX12_notes_52 : decode cX12_notes 52 = .ok (.aastore, 1) := by decide +kernel
theorem dX12_notes_53 : decode cX12_notes 53 = .ok (.return_, 1) := by decide +kernel
theorem dX12_stand_0 : decode cX12_stand 0 = .ok (.iconst 0, 1) := by decide +kernel
theorem dX12_stand_1 : decode cX12_stand 1 = .ok (.istore_n 2, 1) := by decide +kernel
theorem dX12_stand_2 : decode cX12_stand 2 = .ok (.iload_n 2, 1) := by decide +kernel
theorem dX12_stand_3 : decode cX12_stand 3 = .ok (.aload_n 0, 1) := by decide +kernel
theorem dX12_stand_4 : decode cX12_stand 4 = .ok (.getfield 50, 3) := by decide +kernel
theorem dX12_stand_7 : decode cX12_stand 7 = .ok (.if_icmp .ge 18, 3) := by decide +kernel
theorem dX12_stand_10 : decode cX12_stand 10 = .ok (.aload_n 0, 1) := by decide +kernel
theorem dX12_stand_11 : decode cX12_stand 11 = .ok (.getfield 15, 3) := by decide +kernel
theorem dX12_stand_14 : decode cX12_stand 14 = .ok (.iload_n 2, 1) := by decide +kernel
theorem dX12_stand_15 : decode cX12_stand 15 = .ok (.aaload, 1) := by decide +kernel
theorem dX12_stand_16 : decode cX12_stand 16 = .ok (.iconst 3, 1) := by decide +kernel
theorem dX12_stand_17 : decode cX12_stand 17 = .ok (.iconst (-1), 1) := by decide +kernel
theorem dX12_stand_18 : decode cX12_stand 18 = .ok (.iastore, 1) := by decide +kernel
theorem dX12_stand_19 : decode cX12_stand 19 = .ok (.iinc 2 1, 3) := by decide +kernel
theorem dX12_stand_22 : decode cX12_stand 22 = .ok (.goto (-20), 3) := by decide +kernel
theorem dX12_stand_25 : decode cX12_stand 25 = .ok (.aload_n 0, 1) := by decide +kernel
theorem dX12_stand_26 : decode cX12_stand 26 = .ok (.iconst 0, 1) := by decide +kernel
theorem dX12_stand_27 : decode cX12_stand 27 = .ok (.putfield 86, 3) := by decide +kernel
theorem dX12_stand_30 : decode cX12_stand 30 = .ok (.iconst 1, 1) := by decide +kernel
theorem dX12_stand_31 : decode cX12_stand 31 = .ok (.istore_n 2, 1) := by decide +kernel
theorem dX12_stand_32 : decode cX12_stand 32 = .ok (.iload_n 2, 1) := by decide +kernel
theorem dX12_stand_33 : decode cX12_stand 33 = .ok (.ifCond .eq 152, 3) := by decide +kernel
theorem dX12_stand_36 : decode cX12_stand 36 = .ok (.iconst 0, 1) := by decide +kernel
theorem dX12_stand_37 : decode cX12_stand 37 = .ok (.istore_n 2, 1) := by decide +kernel
theorem dX12_stand_38 : decode cX12_stand 38 = .ok (.iconst 0, 1) := by decide +kernel
theorem dX12_stand_39 : decode cX12_stand 39 = .ok (.istore_n 3, 1) := by decide +kernel
theorem dX12_stand_40 : decode cX12_stand 40 = .ok (.iload_n 3, 1) := by decide +kernel
theorem dX12_stand_41 : decode cX12_stand 41 = .ok (.aload_n 0, 1) := by decide +kernel
theorem dX12_stand_42 : decode cX12_stand 42 = .ok (.getfield 50, 3) := by decide +kernel
theorem dX12_stand_45 : decode cX12_stand 45 = .ok (.if_icmp .ge 123, 3) := by decide +kernel
theorem dX12_stand_48 : decode cX12_stand 48 = .ok (.aload_n 0, 1) := by decide +kernel
theorem dX12_stand_49 : decode cX12_stand 49 = .ok (.getfield 15, 3) := by decide +kernel
theorem dX12_stand_52 : decode cX12_stand 52 = .ok (.iload_n 3, 1) := by decide +kernel
theorem dX12_stand_53 : decode cX12_stand 53 = .ok (.aaload, 1) := by decide +kernel
theorem dX12_stand_54 : decode cX12_stand 54 = .ok (.iconst 2, 1) := by decide +kernel
theorem dX12_stand_55 : decode cX12_stand 55 = .ok (.iaload, 1) := by decide +kernel
theorem dX12_stand_56 : decode cX12_stand 56 = .ok (.iconst 1, 1) := by decide +kernel
theorem dX12_stand_57 : decode cX12_stand 57 = .ok (.if_icmp .eq 105, 3) := by decide +kernel
theorem dX12_stand_60 : decode cX12_stand 60 = .ok (.iload_n 3, 1) := by decide +kernel
theorem dX12_stand_61 : decode cX12_stand 61 = .ok (.iload_n 1, 1) := by decide +kernel
theorem dX12_stand_62 : decode cX12_stand 62 = .ok (.if_icmp .eq 100, 3) := by decide +kernel
theorem dX12_stand_65 : decode cX12_stand 65 = .ok (.aload_n 0, 1) := by decide +kernel
theorem dX12_stand_66 : decode cX12_stand 66 = .ok (.getfield 15, 3) := by decide +kernel
theorem dX12_stand_69 : decode cX12_stand 69 = .ok (.iload_n 3, 1) := by decide +kernel
theorem dX12_stand_70 : decode cX12_stand 70 = .ok (.aaload, 1) := by decide +kernel
theorem dX12_stand_71 : decode cX12_stand 71 = .ok (.iconst 3, 1) := by decide +kernel
theorem dX12_stand_72 : decode cX12_stand 72 = .ok (.iaload, 1) := by decide +kernel
theorem dX12_stand_73 : decode cX12_stand 73 = .ok (.ifCond .lt 6, 3) := by decide +kernel
theorem dX12_stand_76 : decode cX12_stand 76 = .ok (.goto 86, 3) := by decide +kernel
theorem dX12_stand_79 : decode cX12_stand 79 = .ok (.iconst (-1), 1) := by decide +kernel
theorem dX12_stand_80 : decode cX12_stand 80 = .ok (.istore 4, 2) := by decide +kernel
theorem dX12_stand_82 : decode cX12_stand 82 = .ok (.aload_n 0, 1) := by decide +kernel
theorem dX12_stand_83 : decode cX12_stand 83 = .ok (.getfield 53, 3) := by decide +kernel
theorem dX12_stand_86 : decode cX12_stand 86 = .ok (.iconst 1, 1) := by decide +kernel
theorem dX12_stand_87 : decode cX12_stand 87 = .ok (.isub, 1) := by decide +kernel
theorem dX12_stand_88 : decode cX12_stand 88 = .ok (.istore 5, 2) := by decide +kernel
theorem dX12_stand_90 : decode cX12_stand 90 = .ok (.iload 5, 2) := by decide +kernel
theorem dX12_stand_92 : decode cX12_stand 92 = .ok (.ifCond .lt 35, 3) := by decide +kernel
theorem dX12_stand_95 : decode cX12_stand 95 = .ok (.iload 4, 2) := by decide +kernel
theorem dX12_stand_97 : decode cX12_stand 97 = .ok (.ifCond .lt 20, 3) := by decide +kernel
theorem dX12_stand_100 : decode cX12_stand 100 = .ok (.aload_n 0, 1) := by decide +kernel
theorem dX12_stand_101 : decode cX12_stand 101 = .ok (.iload_n 3, 1) := by decide +kernel
theorem dX12_stand_102 : decode cX12_stand 102 = .ok (.iload 5, 2) := by decide +kernel
theorem dX12_stand_104 : decode cX12_stand 104 = .ok (.invokevirtual 89, 3) := by decide +kernel
theorem dX12_stand_107 : decode cX12_stand 107 = .ok (.aload_n 0, 1) := by decide +kernel
theorem dX12_stand_108 : decode cX12_stand 108 = .ok (.iload_n 3, 1) := by decide +kernel
theorem dX12_stand_109 : decode cX12_stand 109 = .ok (.iload 4, 2) := by decide +kernel
theorem dX12_stand_111 : decode cX12_stand 111 = .ok (.invokevirtual 89, 3) := by decide +kernel
theorem dX12_stand_114 : decode cX12_stand 114 = .ok (.if_icmp .lt 7, 3) := by decide +kernel
theorem dX12_stand_117 : decode cX12_stand 117 = .ok (.iload 5, 2) := by decide +kernel
theorem dX12_stand_119 : decode cX12_stand 119 = .ok (.istore 4, 2) := by decide +kernel
theorem dX12_stand_121 : decode cX12_stand 121 = .ok (.iinc 5 (-1), 3) := by decide +kernel
theorem dX12_stand_124 : decode cX12_stand 124 = .ok (.goto (-34), 3) := by decide +kernel
theorem dX12_stand_127 : decode cX12_stand 127 = .ok (.iload 4, 2) := by decide +kernel
theorem dX12_stand_129 : decode cX12_stand 129 = .ok (.ifCond .lt 33, 3) := by decide +kernel
theorem dX12_stand_132 : decode cX12_stand 132 = .ok (.aload_n 0, 1) := by decide +kernel
theorem dX12_stand_133 : decode cX12_stand 133 = .ok (.iload_n 3, 1) := by decide +kernel
theorem dX12_stand_134 : decode cX12_stand 134 = .ok (.iload 4, 2) := by decide +kernel
theorem dX12_stand_136 : decode cX12_stand 136 = .ok (.invokevirtual 89, 3) := by decide +kernel
theorem dX12_stand_139 : decode cX12_stand 139 = .ok (.aload_n 0, 1) := by decide +kernel
theorem dX12_stand_140 : decode cX12_stand 140 = .ok (.iload_n 3, 1) := by decide +kernel
theorem dX12_stand_141 : decode cX12_stand 141 = .ok (.invokevirtual 93, 3) := by decide +kernel
theorem dX12_stand_144 : decode cX12_stand 144 = .ok (.if_icmp .ge 6, 3) := by decide +kernel
theorem dX12_stand_147 : decode cX12_stand 147 = .ok (.goto 15, 3) := by decide +kernel
theorem dX12_stand_150 : decode cX12_stand 150 = .ok (.aload_n 0, 1) := by decide +kernel
theorem dX12_stand_151 : decode cX12_stand 151 = .ok (.getfield 15, 3) := by decide +kernel
theorem dX12_stand_154 : decode cX12_stand 154 = .ok (.iload_n 3, 1) := by decide +kernel
theorem dX12_stand_155 : decode cX12_stand 155 = .ok (.aaload, 1) := by decide +kernel
theorem dX12_stand_156 : decode cX12_stand 156 = .ok (.iconst 3, 1) := by decide +kernel
theorem dX12_stand_157 : decode cX12_stand 157 = .ok (.iload 4, 2) := by decide +kernel
theorem dX12_stand_159 : decode cX12_stand 159 = .ok (.iastore, 1) := by decide +kernel
theorem dX12_stand_160 : decode cX12_stand 160 = .ok (.iconst 1, 1) := by decide +kernel
theorem dX12_stand_161 : decode cX12_stand 161 = .ok (.istore_n 2, 1) := by decide +kernel
theorem dX12_stand_162 : decode cX12_stand 162 = .ok (.iinc 3 1, 3) := by decide +kernel
theorem dX12_stand_165 : decode cX12_stand 165 = .ok (.goto (-125), 3) := by decide +kernel
theorem dX12_stand_168 : decode cX12_stand 168 = .ok (.iload_n 2, 1) := by decide +kernel
theorem dX12_stand_169 : decode cX12_stand 169 = .ok (.ifCond .eq (-137), 3) := by decide +kernel
theorem dX12_stand_172 : decode cX12_stand 172 = .ok (.aload_n 0, 1) := by decide +kernel
theorem dX12_stand_173 : decode cX12_stand 173 = .ok (.dup, 1) := by decide +kernel
theorem dX12_stand_174 : decode cX12_stand 174 = .ok (.getfield 86, 3) := by decide +kernel
theorem dX12_stand_177 : decode cX12_stand 177 = .ok (.iconst 1, 1) := by decide +kernel
theorem dX12_stand_178 : decode cX12_stand 178 = .ok (.iadd, 1) := by decide +kernel
theorem dX12_stand_179 : decode cX12_stand 179 = .ok (.putfield 86, 3) := by decide +kernel
theorem dX12_stand_182 : decode cX12_stand 182 = .ok (.goto (-150), 3) := by decide +kernel
theorem dX12_stand_185 : decode cX12_stand 185 = .ok (.aload_n 0, 1) := by decide +kernel
theorem dX12_stand_186 : decode cX12_stand 186 = .ok (.iconst (-1), 1) := by decide +kernel
theorem dX12_stand_187 : decode cX12_stand 187 = .ok (.putfield 7, 3) := by decide +kernel
theorem dX12_stand_190 : decode cX12_stand 190 = .ok (.iconst 0, 1) := by decide +kernel
theorem dX12_stand_191 : decode cX12_stand 191 = .ok (.istore_n 3, 1) := by decide +kernel
theorem dX12_stand_192 : decode cX12_stand 192 = .ok (.iload_n 3, 1) := by decide +kernel
theorem dX12_stand_193 : decode cX12_stand 193 = .ok (.aload_n 0, 1) := by decide +kernel
theorem dX12_stand_194 : decode cX12_stand 194 = .ok (.getfield 53, 3) := by decide +kernel
theorem dX12_stand_197 : decode cX12_stand 197 = .ok (.if_icmp .ge 81, 3) := by decide +kernel
theorem dX12_stand_200 : decode cX12_stand 200 = .ok (.aload_n 0, 1) := by decide +kernel
theorem dX12_stand_201 : decode cX12_stand 201 = .ok (.iload_n 3, 1) := by decide +kernel
theorem dX12_stand_202 : decode cX12_stand 202 = .ok (.invokevirtual 71, 3) := by decide +kernel
theorem dX12_stand_205 : decode cX12_stand 205 = .ok (.ifCond .eq 7, 3) := by decide +kernel
theorem dX12_stand_208 : decode cX12_stand 208 = .ok (.iconst 1, 1) := by decide +kernel
theorem dX12_stand_209 : decode cX12_stand 209 = .ok (.goto 4, 3) := by decide +kernel
theorem dX12_stand_212 : decode cX12_stand 212 = .ok (.iconst 0, 1) := by decide +kernel
theorem dX12_stand_213 : decode cX12_stand 213 = .ok (.istore 4, 2) := by decide +kernel
theorem dX12_stand_215 : decode cX12_stand 215 = .ok (.iconst 0, 1) := by decide +kernel
theorem dX12_stand_216 : decode cX12_stand 216 = .ok (.istore 5, 2) := by decide +kernel
theorem dX12_stand_218 : decode cX12_stand 218 = .ok (.iload 5, 2) := by decide +kernel
theorem dX12_stand_220 : decode cX12_stand 220 = .ok (.aload_n 0, 1) := by decide +kernel
theorem dX12_stand_221 : decode cX12_stand 221 = .ok (.getfield 53, 3) := by decide +kernel
theorem dX12_stand_224 : decode cX12_stand 224 = .ok (.if_icmp .ge 38, 3) := by decide +kernel
theorem dX12_stand_227 : decode cX12_stand 227 = .ok (.iload 5, 2) := by decide +kernel
theorem dX12_stand_229 : decode cX12_stand 229 = .ok (.iload_n 3, 1) := by decide +kernel
theorem dX12_stand_230 : decode cX12_stand 230 = .ok (.if_icmp .eq 26, 3) := by decide +kernel
theorem dX12_stand_233 : decode cX12_stand 233 = .ok (.aload_n 0, 1) := by decide +kernel
theorem dX12_stand_234 : decode cX12_stand 234 = .ok (.iload 5, 2) := by decide +kernel
theorem dX12_stand_236 : decode cX12_stand 236 = .ok (.invokevirtual 71, 3) := by decide +kernel
theorem dX12_stand_239 : decode cX12_stand 239 = .ok (.invokestatic 75, 3) := by decide +kernel
theorem dX12_stand_242 : decode cX12_stand 242 = .ok (.aload_n 0, 1) := by decide +kernel
theorem dX12_stand_243 : decode cX12_stand 243 = .ok (.iload_n 3, 1) := by decide +kernel
theorem dX12_stand_244 : decode cX12_stand 244 = .ok (.invokevirtual 71, 3) := by decide +kernel
theorem dX12_stand_247 : decode cX12_stand 247 = .ok (.invokestatic 75, 3) := by decide +kernel
theorem dX12_stand_250 : decode cX12_stand 250 = .ok (.if_icmp .lt 6, 3) := by decide +kernel
theorem dX12_stand_253 : decode cX12_stand 253 = .ok (.iconst 0, 1) := by decide +kernel
theorem dX12_stand_254 : decode cX12_stand 254 = .ok (.istore 4, 2) := by decide +kernel
theorem dX12_stand_256 : decode cX12_stand 256 = .ok (.iinc 5 1, 3) := by decide +kernel
theorem dX12_stand_259 : decode cX12_stand 259 = .ok (.goto (-41), 3) := by decide +kernel
theorem dX12_stand_262 : decode cX12_stand 262 = .ok (.iload 4, 2) := by decide +kernel
theorem dX12_stand_264 : decode cX12_stand 264 = .ok (.ifCond .eq 8, 3) := by decide +kernel
theorem dX12_stand_267 : decode cX12_stand 267 = .ok (.aload_n 0, 1) := by decide +kernel
theorem dX12_stand_268 : decode cX12_stand 268 = .ok (.iload_n 3, 1) := by decide +kernel
theorem dX12_stand_269 : decode cX12_stand 269 = .ok (.putfield 7, 3) := by decide +kernel
theorem dX12_stand_272 : decode cX12_stand 272 = .ok (.iinc 3 1, 3) := by decide +kernel
theorem dX12_stand_275 : decode cX12_stand 275 = .ok (.goto (-83), 3) := by decide +kernel
theorem dX12_stand_278 : decode cX12_stand 278 = .ok (.return_, 1) := by decide +kernel
theorem dX12_votes_0 : decode cX12_votes 0 = .ok (.aload_n 0, 1) := by decide +kernel
theorem dX12_votes_1 : decode cX12_votes 1 = .ok (.iconst (-1), 1) := by decide +kernel
theorem dX12_votes_2 : decode cX12_votes 2 = .ok (.invokevirtual 96, 3) := by decide +kernel
theorem dX12_votes_5 : decode cX12_votes 5 = .ok (.aload_n 0, 1) := by decide +kernel
theorem dX12_votes_6 : decode cX12_votes 6 = .ok (.getfield 7, 3) := by decide +kernel
theorem dX12_votes_9 : decode cX12_votes 9 = .ok (.ifCond .ge 13, 3) := by decide +kernel
theorem dX12_votes_12 : decode cX12_votes 12 = .ok (.aload_n 0, 1) := by decide +kernel
theorem dX12_votes_13 : decode cX12_votes 13 = .ok (.dup, 1) := by decide +kernel
theorem dX12_votes_14 : decode cX12_votes 14 = .ok (.getfield 41, 3) := by decide +kernel
theorem dX12_votes_17 : decode cX12_votes 17 = .ok (.iconst 1, 1) := by decide +kernel
theorem dX12_votes_18 : decode cX12_votes 18 = .ok (.iadd, 1) := by decide +kernel
theorem dX12_votes_19 : decode cX12_votes 19 = .ok (.putfield 41, 3) := by decide +kernel
theorem dX12_votes_22 : decode cX12_votes 22 = .ok (.aload_n 0, 1) := by decide +kernel
theorem dX12_votes_23 : decode cX12_votes 23 = .ok (.iconst 0, 1) := by decide +kernel
theorem dX12_votes_24 : decode cX12_votes 24 = .ok (.aload_n 0, 1) := by decide +kernel
theorem dX12_votes_25 : decode cX12_votes 25 = .ok (.getfield 7, 3) := by decide +kernel
theorem dX12_votes_28 : decode cX12_votes 28 = .ok (.aload_n 0, 1) := by decide +kernel
theorem dX12_votes_29 : decode cX12_votes 29 = .ok (.getfield 7, 3) := by decide +kernel
theorem dX12_votes_32 : decode cX12_votes 32 = .ok (.ifCond .ge 7, 3) := by decide +kernel
theorem dX12_votes_35 : decode cX12_votes 35 = .ok (.iconst 0, 1) := by decide +kernel
theorem dX12_votes_36 : decode cX12_votes 36 = .ok (.goto 14, 3) := by decide +kernel
theorem dX12_votes_39 : decode cX12_votes 39 = .ok (.aload_n 0, 1) := by decide +kernel
theorem dX12_votes_40 : decode cX12_votes 40 = .ok (.aload_n 0, 1) := by decide +kernel
theorem dX12_votes_41 : decode cX12_votes 41 = .ok (.getfield 7, 3) := by decide +kernel
theorem dX12_votes_44 : decode cX12_votes 44 = .ok (.invokevirtual 71, 3) := by decide +kernel
theorem dX12_votes_47 : decode cX12_votes 47 = .ok (.invokestatic 75, 3) := by decide +kernel
theorem dX12_votes_50 : decode cX12_votes 50 = .ok (.iload_n 1, 1) := by decide +kernel
theorem dX12_votes_51 : decode cX12_votes 51 = .ok (.invokevirtual 100, 3) := by decide +kernel
theorem dX12_votes_54 : decode cX12_votes 54 = .ok (.return_, 1) := by decide +kernel
theorem dX12_likes_0 : decode cX12_likes 0 = .ok (.aload_n 0, 1) := by decide +kernel
theorem dX12_likes_1 : decode cX12_likes 1 = .ok (.getfield 15, 3) := by decide +kernel
theorem dX12_likes_4 : decode cX12_likes 4 = .ok (.iload_n 1, 1) := by decide +kernel
theorem dX12_likes_5 : decode cX12_likes 5 = .ok (.aaload, 1) := by decide +kernel
theorem dX12_likes_6 : decode cX12_likes 6 = .ok (.iconst 5, 1) := by decide +kernel
theorem dX12_likes_7 : decode cX12_likes 7 = .ok (.iload_n 2, 1) := by decide +kernel
theorem dX12_likes_8 : decode cX12_likes 8 = .ok (.iadd, 1) := by decide +kernel
theorem dX12_likes_9 : decode cX12_likes 9 = .ok (.aload_n 0, 1) := by decide +kernel
theorem dX12_likes_10 : decode cX12_likes 10 = .ok (.getfield 15, 3) := by decide +kernel
theorem dX12_likes_13 : decode cX12_likes 13 = .ok (.iload_n 1, 1) := by decide +kernel
theorem dX12_likes_14 : decode cX12_likes 14 = .ok (.aaload, 1) := by decide +kernel
theorem dX12_likes_15 : decode cX12_likes 15 = .ok (.iconst 5, 1) := by decide +kernel
theorem dX12_likes_16 : decode cX12_likes 16 = .ok (.iload_n 2, 1) := by decide +kernel
theorem dX12_likes_17 : decode cX12_likes 17 = .ok (.iadd, 1) := by decide +kernel
theorem dX12_likes_18 : decode cX12_likes 18 = .ok (.iaload, 1) := by decide +kernel
theorem dX12_likes_19 : decode cX12_likes 19 = .ok (.iload_n 3, 1) := by decide +kernel
theorem dX12_likes_20 : decode cX12_likes 20 = .ok (.iadd, 1) := by decide +kernel
theorem dX12_likes_21 : decode cX12_likes 21 = .ok (.iconst 0, 1) := by decide +kernel
theorem dX12_likes_22 : decode cX12_likes 22 = .ok (.bipush 99, 2) := by decide +kernel
theorem dX12_likes_24 : decode cX12_likes 24 = .ok (.invokestatic 80, 3) := by decide +kernel
theorem dX12_likes_27 : decode cX12_likes 27 = .ok (.iastore, 1) := by decide +kernel
theorem dX12_likes_28 : decode cX12_likes 28 = .ok (.return_, 1) := by decide +kernel
theorem dX12_path_0 : decode cX12_path 0 = .ok (.aload_n 0, 1) := by decide +kernel
theorem dX12_path_1 : decode cX12_path 1 = .ok (.getfield 25, 3) := by decide +kernel
theorem dX12_path_4 : decode cX12_path 4 = .ok (.astore_n 3, 1) := by decide +kernel
theorem dX12_path_5 : decode cX12_path 5 = .ok (.aload_n 3, 1) := by decide +kernel
theorem dX12_path_6 : decode cX12_path 6 = .ok (.arraylength, 1) := by decide +kernel
theorem dX12_path_7 : decode cX12_path 7 = .ok (.istore 4, 2) := by decide +kernel
theorem dX12_path_9 : decode cX12_path 9 = .ok (.iconst 0, 1) := by decide +kernel
theorem dX12_path_10 : decode cX12_path 10 = .ok (.istore 5, 2) := by decide +kernel
theorem dX12_path_12 : decode cX12_path 12 = .ok (.iload 5, 2) := by decide +kernel
theorem dX12_path_14 : decode cX12_path 14 = .ok (.iload 4, 2) := by decide +kernel
theorem dX12_path_16 : decode cX12_path 16 = .ok (.if_icmp .ge 36, 3) := by decide +kernel
theorem dX12_path_19 : decode cX12_path 19 = .ok (.aload_n 3, 1) := by decide +kernel
theorem dX12_path_20 : decode cX12_path 20 = .ok (.iload 5, 2) := by decide +kernel
theorem dX12_path_22 : decode cX12_path 22 = .ok (.aaload, 1) := by decide +kernel
theorem dX12_path_23 : decode cX12_path 23 = .ok (.astore 6, 2) := by decide +kernel
theorem dX12_path_25 : decode cX12_path 25 = .ok (.aload 6, 2) := by decide +kernel
theorem dX12_path_27 : decode cX12_path 27 = .ok (.iconst 0, 1) := by decide +kernel
theorem dX12_path_28 : decode cX12_path 28 = .ok (.iaload, 1) := by decide +kernel
theorem dX12_path_29 : decode cX12_path 29 = .ok (.iload_n 1, 1) := by decide +kernel
theorem dX12_path_30 : decode cX12_path 30 = .ok (.if_icmp .ne 16, 3) := by decide +kernel
theorem dX12_path_33 : decode cX12_path 33 = .ok (.aload 6, 2) := by decide +kernel
theorem dX12_path_35 : decode cX12_path 35 = .ok (.iconst 1, 1) := by decide +kernel
theorem dX12_path_36 : decode cX12_path 36 = .ok (.iaload, 1) := by decide +kernel
theorem dX12_path_37 : decode cX12_path 37 = .ok (.iload_n 2, 1) := by decide +kernel
theorem dX12_path_38 : decode cX12_path 38 = .ok (.if_icmp .ne 8, 3) := by decide +kernel
theorem dX12_path_41 : decode cX12_path 41 = .ok (.aload 6, 2) := by decide +kernel
theorem dX12_path_43 : decode cX12_path 43 = .ok (.iconst 2, 1) := by decide +kernel
theorem dX12_path_44 : decode cX12_path 44 = .ok (.iaload, 1) := by decide +kernel
theorem dX12_path_45 : decode cX12_path 45 = .ok (.ireturn, 1) := by decide +kernel
theorem dX12_path_46 : decode cX12_path 46 = .ok (.iinc 5 1, 3) := by decide +kernel
theorem dX12_path_49 : decode cX12_path 49 = .ok (.goto (-37), 3) := by decide +kernel
theorem dX12_path_52 : decode cX12_path 52 = .ok (.iconst (-1), 1) := by decide +kernel
theorem dX12_path_53 : decode cX12_path 53 = .ok (.ireturn, 1) := by decide +kernel
theorem dX12_does_0 : decode cX12_does 0 = .ok (.iload_n 1, 1) := by decide +kernel
theorem dX12_does_1 : decode cX12_does 1 = .ok (.ifCond .ne 45, 3) := by decide +kernel
theorem dX12_does_4 : decode cX12_does 4 = .ok (.aload_n 0, 1) := by decide +kernel
theorem dX12_does_5 : decode cX12_does 5 = .ok (.getfield 19, 3) := by decide +kernel
theorem dX12_does_8 : decode cX12_does 8 = .ok (.iload_n 2, 1) := by decide +kernel
theorem dX12_does_9 : decode cX12_does 9 = .ok (.aaload, 1) := by decide +kernel
theorem dX12_does_10 : decode cX12_does 10 = .ok (.iconst 0, 1) := by decide +kernel
theorem dX12_does_11 : decode cX12_does 11 = .ok (.iaload, 1) := by decide +kernel
theorem dX12_does_12 : decode cX12_does 12 = .ok (.ifCond .ne 5, 3) := by decide +kernel
theorem dX12_does_15 : decode cX12_does 15 = .ok (.iconst 0, 1) := by decide +kernel
theorem dX12_does_16 : decode cX12_does 16 = .ok (.ireturn, 1) := by decide +kernel
theorem dX12_does_17 : decode cX12_does 17 = .ok (.aload_n 0, 1) := by decide +kernel
theorem dX12_does_18 : decode cX12_does 18 = .ok (.getfield 19, 3) := by decide +kernel
theorem dX12_does_21 : decode cX12_does 21 = .ok (.iload_n 2, 1) := by decide +kernel
theorem dX12_does_22 : decode cX12_does 22 = .ok (.aaload, 1) := by decide +kernel
theorem dX12_does_23 : decode cX12_does 23 = .ok (.iconst 0, 1) := by decide +kernel
theorem dX12_does_24 : decode cX12_does 24 = .ok (.dup2, 1) := by decide +kernel
theorem dX12_does_25 : decode cX12_does 25 = .ok (.iaload, 1) := by decide +kernel
theorem dX12_does_26 : decode cX12_does 26 = .ok (.iconst 1, 1) := by decide +kernel
theorem dX12_does_27 : decode cX12_does 27 = .ok (.isub, 1) := by decide +kernel
theorem dX12_does_28 : decode cX12_does 28 = .ok (.iastore, 1) := by decide +kernel
theorem dX12_does_29 : decode cX12_does 29 = .ok (.aload_n 0, 1) := by decide +kernel
theorem dX12_does_30 : decode cX12_does 30 = .ok (.iload_n 3, 1) := by decide +kernel
theorem dX12_does_31 : decode cX12_does 31 = .ok (.iload_n 2, 1) := by decide +kernel
theorem dX12_does_32 : decode cX12_does 32 = .ok (.bipush 15, 2) := by decide +kernel
theorem dX12_does_34 : decode cX12_does 34 = .ok (.invokevirtual 104, 3) := by decide +kernel
theorem dX12_does_37 : decode cX12_does 37 = .ok (.aload_n 0, 1) := by decide +kernel
theorem dX12_does_38 : decode cX12_does 38 = .ok (.iconst 1, 1) := by decide +kernel
theorem dX12_does_39 : decode cX12_does 39 = .ok (.iload_n 2, 1) := by decide +kernel
theorem dX12_does_40 : decode cX12_does 40 = .ok (.iload_n 3, 1) := by decide +kernel
theorem dX12_does_41 : decode cX12_does 41 = .ok (.iload 4, 2) := by decide +kernel
theorem dX12_does_43 : decode cX12_does 43 = .ok (.invokevirtual 100, 3) := by decide +kernel
theorem dX12_does_46 : decode cX12_does 46 = .ok (.iload_n 1, 1) := by decide +kernel
theorem dX12_does_47 : decode cX12_does 47 = .ok (.iconst 1, 1) := by decide +kernel
theorem dX12_does_48 : decode cX12_does 48 = .ok (.if_icmp .ne 45, 3) := by decide +kernel
theorem dX12_does_51 : decode cX12_does 51 = .ok (.iconst 0, 1) := by decide +kernel
theorem dX12_does_52 : decode cX12_does 52 = .ok (.istore 5, 2) := by decide +kernel
theorem dX12_does_54 : decode cX12_does 54 = .ok (.iload 5, 2) := by decide +kernel
theorem dX12_does_56 : decode cX12_does 56 = .ok (.aload_n 0, 1) := by decide +kernel
theorem dX12_does_57 : decode cX12_does 57 = .ok (.getfield 50, 3) := by decide +kernel
theorem dX12_does_60 : decode cX12_does 60 = .ok (.if_icmp .ge 24, 3) := by decide +kernel
theorem dX12_does_63 : decode cX12_does 63 = .ok (.aload_n 0, 1) := by decide +kernel
theorem dX12_does_64 : decode cX12_does 64 = .ok (.iload 5, 2) := by decide +kernel
theorem dX12_does_66 : decode cX12_does 66 = .ok (.iload_n 2, 1) := by decide +kernel
theorem dX12_does_67 : decode cX12_does 67 = .ok (.aload_n 0, 1) := by decide +kernel
theorem dX12_does_68 : decode cX12_does 68 = .ok (.getfield 19, 3) := by decide +kernel
theorem dX12_does_71 : decode cX12_does 71 = .ok (.iload_n 2, 1) := by decide +kernel
theorem dX12_does_72 : decode cX12_does 72 = .ok (.aaload, 1) := by decide +kernel
theorem dX12_does_73 : decode cX12_does 73 = .ok (.iconst 2, 1) := by decide +kernel
theorem dX12_does_74 : decode cX12_does 74 = .ok (.iaload, 1) := by decide +kernel
theorem dX12_does_75 : decode cX12_does 75 = .ok (.invokevirtual 104, 3) := by decide +kernel
theorem dX12_does_78 : decode cX12_does 78 = .ok (.iinc 5 1, 3) := by decide +kernel
theorem dX12_does_81 : decode cX12_does 81 = .ok (.goto (-27), 3) := by decide +kernel
theorem dX12_does_84 : decode cX12_does 84 = .ok (.aload_n 0, 1) := by decide +kernel
theorem dX12_does_85 : decode cX12_does 85 = .ok (.iconst 2, 1) := by decide +kernel
theorem dX12_does_86 : decode cX12_does 86 = .ok (.iload_n 2, 1) := by decide +kernel
theorem dX12_does_87 : decode cX12_does 87 = .ok (.iconst 0, 1) := by decide +kernel
theorem dX12_does_88 : decode cX12_does 88 = .ok (.iload 4, 2) := by decide +kernel
theorem dX12_does_90 : decode cX12_does 90 = .ok (.invokevirtual 100, 3) := by decide +kernel
theorem dX12_does_93 : decode cX12_does 93 = .ok (.iload_n 1, 1) := by decide +kernel
theorem dX12_does_94 : decode cX12_does 94 = .ok (.iconst 2, 1) := by decide +kernel
theorem dX12_does_95 : decode cX12_does 95 = .ok (.if_icmp .ne 49, 3) := by decide +kernel
theorem dX12_does_98 : decode cX12_does 98 = .ok (.iconst 0, 1) := by decide +kernel
theorem dX12_does_99 : decode cX12_does 99 = .ok (.istore 5, 2) := by decide +kernel
theorem dX12_does_101 : decode cX12_does 101 = .ok (.iload 5, 2) := by decide +kernel
theorem dX12_does_103 : decode cX12_does 103 = .ok (.aload_n 0, 1) := by decide +kernel
theorem dX12_does_104 : decode cX12_does 104 = .ok (.getfield 53, 3) := by decide +kernel
theorem dX12_does_107 : decode cX12_does 107 = .ok (.if_icmp .ge 28, 3) := by decide +kernel
theorem dX12_does_110 : decode cX12_does 110 = .ok (.aload_n 0, 1) := by decide +kernel
theorem dX12_does_111 : decode cX12_does 111 = .ok (.iload_n 3, 1) := by decide +kernel
theorem dX12_does_112 : decode cX12_does 112 = .ok (.iload 5, 2) := by decide +kernel
theorem dX12_does_114 : decode cX12_does 114 = .ok (.iload 5, 2) := by decide +kernel
theorem dX12_does_116 : decode cX12_does 116 = .ok (.iload_n 2, 1) := by decide +kernel
theorem dX12_does_117 : decode cX12_does 117 = .ok (.if_icmp .ne 8, 3) := by decide +kernel
theorem dX12_does_120 : decode cX12_does 120 = .ok (.bipush (-20), 2) := by decide +kernel
theorem dX12_does_122 : decode cX12_does 122 = .ok (.goto 4, 3) := by decide +kernel
theorem dX12_does_125 : decode cX12_does 125 = .ok (.iconst 5, 1) := by decide +kernel
theorem dX12_does_126 : decode cX12_does 126 = .ok (.invokevirtual 104, 3) := by decide +kernel
theorem dX12_does_129 : decode cX12_does 129 = .ok (.iinc 5 1, 3) := by decide +kernel
theorem dX12_does_132 : decode cX12_does 132 = .ok (.goto (-31), 3) := by decide +kernel
theorem dX12_does_135 : decode cX12_does 135 = .ok (.aload_n 0, 1) := by decide +kernel
theorem dX12_does_136 : decode cX12_does 136 = .ok (.iconst 3, 1) := by decide +kernel
theorem dX12_does_137 : decode cX12_does 137 = .ok (.iload_n 2, 1) := by decide +kernel
theorem dX12_does_138 : decode cX12_does 138 = .ok (.iload_n 3, 1) := by decide +kernel
theorem dX12_does_139 : decode cX12_does 139 = .ok (.iload 4, 2) := by decide +kernel
theorem dX12_does_141 : decode cX12_does 141 = .ok (.invokevirtual 100, 3) := by decide +kernel
theorem dX12_does_144 : decode cX12_does 144 = .ok (.iload_n 1, 1) := by decide +kernel
theorem dX12_does_145 : decode cX12_does 145 = .ok (.iconst 3, 1) := by decide +kernel
theorem dX12_does_146 : decode cX12_does 146 = .ok (.if_icmp .ne 9, 3) := by decide +kernel
theorem dX12_does_149 : decode cX12_does 149 = .ok (.aload_n 0, 1) := by decide +kernel
theorem dX12_does_150 : decode cX12_does 150 = .ok (.iload 4, 2) := by decide +kernel
theorem dX12_does_152 : decode cX12_does 152 = .ok (.invokevirtual 108, 3) := by decide +kernel
theorem dX12_does_155 : decode cX12_does 155 = .ok (.iload_n 1, 1) := by decide +kernel
theorem dX12_does_156 : decode cX12_does 156 = .ok (.iconst 4, 1) := by decide +kernel
theorem dX12_does_157 : decode cX12_does 157 = .ok (.if_icmp .lt 13, 3) := by decide +kernel
theorem dX12_does_160 : decode cX12_does 160 = .ok (.aload_n 0, 1) := by decide +kernel
theorem dX12_does_161 : decode cX12_does 161 = .ok (.iload_n 2, 1) := by decide +kernel
theorem dX12_does_162 : decode cX12_does 162 = .ok (.iload 4, 2) := by decide +kernel
theorem dX12_does_164 : decode cX12_does 164 = .ok (.invokevirtual 112, 3) := by decide +kernel
theorem dX12_does_167 : decode cX12_does 167 = .ok (.ifCond .lt 7, 3) := by decide +kernel
theorem dX12_does_170 : decode cX12_does 170 = .ok (.iconst 1, 1) := by decide +kernel
theorem dX12_does_171 : decode cX12_does 171 = .ok (.goto 4, 3) := by decide +kernel
theorem dX12_does_174 : decode cX12_does 174 = .ok (.iconst 0, 1) := by decide +kernel
theorem dX12_does_175 : decode cX12_does 175 = .ok (.ireturn, 1) := by decide +kernel
theorem dX12_goes_0 : decode cX12_goes 0 = .ok (.aload_n 0, 1) := by decide +kernel
theorem dX12_goes_1 : decode cX12_goes 1 = .ok (.aload_n 0, 1) := by decide +kernel
theorem dX12_goes_2 : decode cX12_goes 2 = .ok (.getfield 38, 3) := by decide +kernel
theorem dX12_goes_5 : decode cX12_goes 5 = .ok (.iload_n 1, 1) := by decide +kernel
theorem dX12_goes_6 : decode cX12_goes 6 = .ok (.invokevirtual 116, 3) := by decide +kernel
theorem dX12_goes_9 : decode cX12_goes 9 = .ok (.istore_n 3, 1) := by decide +kernel
theorem dX12_goes_10 : decode cX12_goes 10 = .ok (.aload_n 0, 1) := by decide +kernel
theorem dX12_goes_11 : decode cX12_goes 11 = .ok (.getfield 7, 3) := by decide +kernel
theorem dX12_goes_14 : decode cX12_goes 14 = .ok (.ifCond .lt 7, 3) := by decide +kernel
theorem dX12_goes_17 : decode cX12_goes 17 = .ok (.iload_n 3, 1) := by decide +kernel
theorem dX12_goes_18 : decode cX12_goes 18 = .ok (.ifCond .ge 5, 3) := by decide +kernel
theorem dX12_goes_21 : decode cX12_goes 21 = .ok (.iconst (-1), 1) := by decide +kernel
theorem dX12_goes_22 : decode cX12_goes 22 = .ok (.ireturn, 1) := by decide +kernel
theorem dX12_goes_23 : decode cX12_goes 23 = .ok (.aload_n 0, 1) := by decide +kernel
theorem dX12_goes_24 : decode cX12_goes 24 = .ok (.dup, 1) := by decide +kernel
theorem dX12_goes_25 : decode cX12_goes 25 = .ok (.getfield 44, 3) := by decide +kernel
theorem dX12_goes_28 : decode cX12_goes 28 = .ok (.iload_n 3, 1) := by decide +kernel
theorem dX12_goes_29 : decode cX12_goes 29 = .ok (.iadd, 1) := by decide +kernel
theorem dX12_goes_30 : decode cX12_goes 30 = .ok (.putfield 44, 3) := by decide +kernel
theorem dX12_goes_33 : decode cX12_goes 33 = .ok (.aload_n 0, 1) := by decide +kernel
theorem dX12_goes_34 : decode cX12_goes 34 = .ok (.iconst 4, 1) := by decide +kernel
theorem dX12_goes_35 : decode cX12_goes 35 = .ok (.iload_n 1, 1) := by decide +kernel
theorem dX12_goes_36 : decode cX12_goes 36 = .ok (.iload_n 3, 1) := by decide +kernel
theorem dX12_goes_37 : decode cX12_goes 37 = .ok (.iload_n 2, 1) := by decide +kernel
theorem dX12_goes_38 : decode cX12_goes 38 = .ok (.invokevirtual 100, 3) := by decide +kernel
theorem dX12_goes_41 : decode cX12_goes 41 = .ok (.iconst 0, 1) := by decide +kernel
theorem dX12_goes_42 : decode cX12_goes 42 = .ok (.istore 4, 2) := by decide +kernel
theorem dX12_goes_44 : decode cX12_goes 44 = .ok (.iconst 0, 1) := by decide +kernel
theorem dX12_goes_45 : decode cX12_goes 45 = .ok (.istore 5, 2) := by decide +kernel
theorem dX12_goes_47 : decode cX12_goes 47 = .ok (.iload 5, 2) := by decide +kernel
theorem dX12_goes_49 : decode cX12_goes 49 = .ok (.aload_n 0, 1) := by decide +kernel
theorem dX12_goes_50 : decode cX12_goes 50 = .ok (.getfield 50, 3) := by decide +kernel
theorem dX12_goes_53 : decode cX12_goes 53 = .ok (.if_icmp .ge 86, 3) := by decide +kernel
theorem dX12_goes_56 : decode cX12_goes 56 = .ok (.iload_n 2, 1) := by decide +kernel
theorem dX12_goes_57 : decode cX12_goes 57 = .ok (.ifCond .eq 82, 3) := by decide +kernel
theorem dX12_goes_60 : decode cX12_goes 60 = .ok (.aload_n 0, 1) := by decide +kernel
theorem dX12_goes_61 : decode cX12_goes 61 = .ok (.getfield 15, 3) := by decide +kernel
theorem dX12_goes_64 : decode cX12_goes 64 = .ok (.iload 5, 2) := by decide +kernel
theorem dX12_goes_66 : decode cX12_goes 66 = .ok (.aaload, 1) := by decide +kernel
theorem dX12_goes_67 : decode cX12_goes 67 = .ok (.iconst 2, 1) := by decide +kernel
theorem dX12_goes_68 : decode cX12_goes 68 = .ok (.iaload, 1) := by decide +kernel
theorem dX12_goes_69 : decode cX12_goes 69 = .ok (.iconst 1, 1) := by decide +kernel
theorem dX12_goes_70 : decode cX12_goes 70 = .ok (.if_icmp .eq 63, 3) := by decide +kernel
theorem dX12_goes_73 : decode cX12_goes 73 = .ok (.aload_n 0, 1) := by decide +kernel
theorem dX12_goes_74 : decode cX12_goes 74 = .ok (.iload 5, 2) := by decide +kernel
theorem dX12_goes_76 : decode cX12_goes 76 = .ok (.iload_n 3, 1) := by decide +kernel
theorem dX12_goes_77 : decode cX12_goes 77 = .ok (.aload_n 0, 1) := by decide +kernel
theorem dX12_goes_78 : decode cX12_goes 78 = .ok (.getfield 7, 3) := by decide +kernel
theorem dX12_goes_81 : decode cX12_goes 81 = .ok (.invokevirtual 118, 3) := by decide +kernel
theorem dX12_goes_84 : decode cX12_goes 84 = .ok (.ifCond .eq 49, 3) := by decide +kernel
theorem dX12_goes_87 : decode cX12_goes 87 = .ok (.aload_n 0, 1) := by decide +kernel
theorem dX12_goes_88 : decode cX12_goes 88 = .ok (.sipush 1000, 3) := by decide +kernel
theorem dX12_goes_91 : decode cX12_goes 91 = .ok (.invokevirtual 121, 3) := by decide +kernel
theorem dX12_goes_94 : decode cX12_goes 94 = .ok (.aload_n 0, 1) := by decide +kernel
theorem dX12_goes_95 : decode cX12_goes 95 = .ok (.iload 5, 2) := by decide +kernel
theorem dX12_goes_97 : decode cX12_goes 97 = .ok (.iload_n 3, 1) := by decide +kernel
theorem dX12_goes_98 : decode cX12_goes 98 = .ok (.aload_n 0, 1) := by decide +kernel
theorem dX12_goes_99 : decode cX12_goes 99 = .ok (.getfield 7, 3) := by decide +kernel
theorem dX12_goes_102 : decode cX12_goes 102 = .ok (.invokevirtual 118, 3) := by decide +kernel
theorem dX12_goes_105 : decode cX12_goes 105 = .ok (.if_icmp .lt 6, 3) := by decide +kernel
theorem dX12_goes_108 : decode cX12_goes 108 = .ok (.goto 25, 3) := by decide +kernel
theorem dX12_goes_111 : decode cX12_goes 111 = .ok (.aload_n 0, 1) := by decide +kernel
theorem dX12_goes_112 : decode cX12_goes 112 = .ok (.getfield 15, 3) := by decide +kernel
theorem dX12_goes_115 : decode cX12_goes 115 = .ok (.iload 5, 2) := by decide +kernel
theorem dX12_goes_117 : decode cX12_goes 117 = .ok (.aaload, 1) := by decide +kernel
theorem dX12_goes_118 : decode cX12_goes 118 = .ok (.iconst 2, 1) := by decide +kernel
theorem dX12_goes_119 : decode cX12_goes 119 = .ok (.iconst 1, 1) := by decide +kernel
theorem dX12_goes_120 : decode cX12_goes 120 = .ok (.iastore, 1) := by decide +kernel
theorem dX12_goes_121 : decode cX12_goes 121 = .ok (.aload_n 0, 1) := by decide +kernel
theorem dX12_goes_122 : decode cX12_goes 122 = .ok (.iconst 5, 1) := by decide +kernel
theorem dX12_goes_123 : decode cX12_goes 123 = .ok (.iload 5, 2) := by decide +kernel
theorem dX12_goes_125 : decode cX12_goes 125 = .ok (.iconst 0, 1) := by decide +kernel
theorem dX12_goes_126 : decode cX12_goes 126 = .ok (.iconst 1, 1) := by decide +kernel
theorem dX12_goes_127 : decode cX12_goes 127 = .ok (.invokevirtual 100, 3) := by decide +kernel
theorem dX12_goes_130 : decode cX12_goes 130 = .ok (.iinc 4 1, 3) := by decide +kernel
theorem dX12_goes_133 : decode cX12_goes 133 = .ok (.iinc 5 1, 3) := by decide +kernel
theorem dX12_goes_136 : decode cX12_goes 136 = .ok (.goto (-89), 3) := by decide +kernel
theorem dX12_goes_139 : decode cX12_goes 139 = .ok (.aload_n 0, 1) := by decide +kernel
theorem dX12_goes_140 : decode cX12_goes 140 = .ok (.iload_n 1, 1) := by decide +kernel
theorem dX12_goes_141 : decode cX12_goes 141 = .ok (.putfield 38, 3) := by decide +kernel
theorem dX12_goes_144 : decode cX12_goes 144 = .ok (.iload 4, 2) := by decide +kernel
theorem dX12_goes_146 : decode cX12_goes 146 = .ok (.ireturn, 1) := by decide +kernel
theorem dX12_passes_0 : decode cX12_passes 0 = .ok (.iconst 0, 1) := by decide +kernel
theorem dX12_passes_1 : decode cX12_passes 1 = .ok (.istore_n 2, 1) := by decide +kernel
theorem dX12_passes_2 : decode cX12_passes 2 = .ok (.aload_n 0, 1) := by decide +kernel
theorem dX12_passes_3 : decode cX12_passes 3 = .ok (.getfield 22, 3) := by decide +kernel
theorem dX12_passes_6 : decode cX12_passes 6 = .ok (.astore_n 3, 1) := by decide +kernel
theorem dX12_passes_7 : decode cX12_passes 7 = .ok (.aload_n 3, 1) := by decide +kernel
theorem dX12_passes_8 : decode cX12_passes 8 = .ok (.arraylength, 1) := by decide +kernel
theorem dX12_passes_9 : decode cX12_passes 9 = .ok (.istore 4, 2) := by decide +kernel
theorem dX12_passes_11 : decode cX12_passes 11 = .ok (.iconst 0, 1) := by decide +kernel
theorem dX12_passes_12 : decode cX12_passes 12 = .ok (.istore 5, 2) := by decide +kernel
theorem dX12_passes_14 : decode cX12_passes 14 = .ok (.iload 5, 2) := by decide +kernel
theorem dX12_passes_16 : decode cX12_passes 16 = .ok (.iload 4, 2) := by decide +kernel
theorem dX12_passes_18 : decode cX12_passes 18 = .ok (.if_icmp .ge 49, 3) := by decide +kernel
theorem dX12_passes_21 : decode cX12_passes 21 = .ok (.aload_n 3, 1) := by decide +kernel
theorem dX12_passes_22 : decode cX12_passes 22 = .ok (.iload 5, 2) := by decide +kernel
theorem dX12_passes_24 : decode cX12_passes 24 = .ok (.aaload, 1) := by decide +kernel
theorem dX12_passes_25 : decode cX12_passes 25 = .ok (.astore 6, 2) := by decide +kernel
theorem dX12_passes_27 : decode cX12_passes 27 = .ok (.aload 6, 2) := by decide +kernel
theorem dX12_passes_29 : decode cX12_passes 29 = .ok (.iconst 0, 1) := by decide +kernel
theorem dX12_passes_30 : decode cX12_passes 30 = .ok (.iaload, 1) := by decide +kernel
theorem dX12_passes_31 : decode cX12_passes 31 = .ok (.aload_n 0, 1) := by decide +kernel
theorem dX12_passes_32 : decode cX12_passes 32 = .ok (.getfield 35, 3) := by decide +kernel
theorem dX12_passes_35 : decode cX12_passes 35 = .ok (.if_icmp .ne 26, 3) := by decide +kernel
theorem dX12_passes_38 : decode cX12_passes 38 = .ok (.aload_n 0, 1) := by decide +kernel
theorem dX12_passes_39 : decode cX12_passes 39 = .ok (.aload 6, 2) := by decide +kernel
theorem dX12_passes_41 : decode cX12_passes 41 = .ok (.iconst 1, 1) := by decide +kernel
theorem dX12_passes_42 : decode cX12_passes 42 = .ok (.iaload, 1) := by decide +kernel
theorem dX12_passes_43 : decode cX12_passes 43 = .ok (.aload 6, 2) := by decide +kernel
theorem dX12_passes_45 : decode cX12_passes 45 = .ok (.iconst 2, 1) := by decide +kernel
theorem dX12_passes_46 : decode cX12_passes 46 = .ok (.iaload, 1) := by decide +kernel
theorem dX12_passes_47 : decode cX12_passes 47 = .ok (.aload 6, 2) := by decide +kernel
theorem dX12_passes_49 : decode cX12_passes 49 = .ok (.iconst 3, 1) := by decide +kernel
theorem dX12_passes_50 : decode cX12_passes 50 = .ok (.iaload, 1) := by decide +kernel
theorem dX12_passes_51 : decode cX12_passes 51 = .ok (.iload_n 1, 1) := by decide +kernel
theorem dX12_passes_52 : decode cX12_passes 52 = .ok (.invokevirtual 124, 3) := by decide +kernel
theorem dX12_passes_55 : decode cX12_passes 55 = .ok (.ifCond .eq 6, 3) := by decide +kernel
theorem dX12_passes_58 : decode cX12_passes 58 = .ok (.iinc 2 1, 3) := by decide +kernel
theorem dX12_passes_61 : decode cX12_passes 61 = .ok (.iinc 5 1, 3) := by decide +kernel
theorem dX12_passes_64 : decode cX12_passes 64 = .ok (.goto (-50), 3) := by decide +kernel
theorem dX12_passes_67 : decode cX12_passes 67 = .ok (.iconst 0, 1) := by decide +kernel
theorem dX12_passes_68 : decode cX12_passes 68 = .ok (.istore_n 3, 1) := by decide +kernel
theorem dX12_passes_69 : decode cX12_passes 69 = .ok (.iload_n 3, 1) := by decide +kernel
theorem dX12_passes_70 : decode cX12_passes 70 = .ok (.aload_n 0, 1) := by decide +kernel
theorem dX12_passes_71 : decode cX12_passes 71 = .ok (.getfield 50, 3) := by decide +kernel
theorem dX12_passes_74 : decode cX12_passes 74 = .ok (.if_icmp .ge 34, 3) := by decide +kernel
theorem dX12_passes_77 : decode cX12_passes 77 = .ok (.aload_n 0, 1) := by decide +kernel
theorem dX12_passes_78 : decode cX12_passes 78 = .ok (.getfield 15, 3) := by decide +kernel
theorem dX12_passes_81 : decode cX12_passes 81 = .ok (.iload_n 3, 1) := by decide +kernel
theorem dX12_passes_82 : decode cX12_passes 82 = .ok (.aaload, 1) := by decide +kernel
theorem dX12_passes_83 : decode cX12_passes 83 = .ok (.iconst 3, 1) := by decide +kernel
theorem dX12_passes_84 : decode cX12_passes 84 = .ok (.iaload, 1) := by decide +kernel
theorem dX12_passes_85 : decode cX12_passes 85 = .ok (.ifCond .lt 17, 3) := by decide +kernel
theorem dX12_passes_88 : decode cX12_passes 88 = .ok (.aload_n 0, 1) := by decide +kernel
theorem dX12_passes_89 : decode cX12_passes 89 = .ok (.iload_n 3, 1) := by decide +kernel
theorem dX12_passes_90 : decode cX12_passes 90 = .ok (.aload_n 0, 1) := by decide +kernel
theorem dX12_passes_91 : decode cX12_passes 91 = .ok (.getfield 15, 3) := by decide +kernel
theorem dX12_passes_94 : decode cX12_passes 94 = .ok (.iload_n 3, 1) := by decide +kernel
theorem dX12_passes_95 : decode cX12_passes 95 = .ok (.aaload, 1) := by decide +kernel
theorem dX12_passes_96 : decode cX12_passes 96 = .ok (.iconst 3, 1) := by decide +kernel
theorem dX12_passes_97 : decode cX12_passes 97 = .ok (.iaload, 1) := by decide +kernel
theorem dX12_passes_98 : decode cX12_passes 98 = .ok (.iconst (-1), 1) := by decide +kernel
theorem dX12_passes_99 : decode cX12_passes 99 = .ok (.invokevirtual 104, 3) := by decide +kernel
theorem dX12_passes_102 : decode cX12_passes 102 = .ok (.iinc 3 1, 3) := by decide +kernel
theorem dX12_passes_105 : decode cX12_passes 105 = .ok (.goto (-36), 3) := by decide +kernel
theorem dX12_passes_108 : decode cX12_passes 108 = .ok (.aload_n 0, 1) := by decide +kernel
theorem dX12_passes_109 : decode cX12_passes 109 = .ok (.dup, 1) := by decide +kernel
theorem dX12_passes_110 : decode cX12_passes 110 = .ok (.getfield 35, 3) := by decide +kernel
theorem dX12_passes_113 : decode cX12_passes 113 = .ok (.iconst 1, 1) := by decide +kernel
theorem dX12_passes_114 : decode cX12_passes 114 = .ok (.iadd, 1) := by decide +kernel
theorem dX12_passes_115 : decode cX12_passes 115 = .ok (.putfield 35, 3) := by decide +kernel
theorem dX12_passes_118 : decode cX12_passes 118 = .ok (.iload_n 2, 1) := by decide +kernel
theorem dX12_passes_119 : decode cX12_passes 119 = .ok (.ireturn, 1) := by decide +kernel
theorem dX12_lame_0 : decode cX12_lame 0 = .ok (.iconst 0, 1) := by decide +kernel
theorem dX12_lame_1 : decode cX12_lame 1 = .ok (.istore_n 1, 1) := by decide +kernel
theorem dX12_lame_2 : decode cX12_lame 2 = .ok (.iconst 0, 1) := by decide +kernel
theorem dX12_lame_3 : decode cX12_lame 3 = .ok (.istore_n 2, 1) := by decide +kernel
theorem dX12_lame_4 : decode cX12_lame 4 = .ok (.iload_n 2, 1) := by decide +kernel
theorem dX12_lame_5 : decode cX12_lame 5 = .ok (.aload_n 0, 1) := by decide +kernel
theorem dX12_lame_6 : decode cX12_lame 6 = .ok (.getfield 50, 3) := by decide +kernel
theorem dX12_lame_9 : decode cX12_lame 9 = .ok (.if_icmp .ge 22, 3) := by decide +kernel
theorem dX12_lame_12 : decode cX12_lame 12 = .ok (.iload_n 1, 1) := by decide +kernel
theorem dX12_lame_13 : decode cX12_lame 13 = .ok (.aload_n 0, 1) := by decide +kernel
theorem dX12_lame_14 : decode cX12_lame 14 = .ok (.getfield 15, 3) := by decide +kernel
theorem dX12_lame_17 : decode cX12_lame 17 = .ok (.iload_n 2, 1) := by decide +kernel
theorem dX12_lame_18 : decode cX12_lame 18 = .ok (.aaload, 1) := by decide +kernel
theorem dX12_lame_19 : decode cX12_lame 19 = .ok (.iconst 2, 1) := by decide +kernel
theorem dX12_lame_20 : decode cX12_lame 20 = .ok (.iaload, 1) := by decide +kernel
theorem dX12_lame_21 : decode cX12_lame 21 = .ok (.iload_n 2, 1) := by decide +kernel
theorem dX12_lame_22 : decode cX12_lame 22 = .ok (.ishl, 1) := by decide +kernel
theorem dX12_lame_23 : decode cX12_lame 23 = .ok (.ior, 1) := by decide +kernel
theorem dX12_lame_24 : decode cX12_lame 24 = .ok (.istore_n 1, 1) := by decide +kernel
theorem dX12_lame_25 : decode cX12_lame 25 = .ok (.iinc 2 1, 3) := by decide +kernel
theorem dX12_lame_28 : decode cX12_lame 28 = .ok (.goto (-24), 3) := by decide +kernel
theorem dX12_lame_31 : decode cX12_lame 31 = .ok (.iload_n 1, 1) := by decide +kernel
theorem dX12_lame_32 : decode cX12_lame 32 = .ok (.ireturn, 1) := by decide +kernel
theorem dX12_isSame_0 : decode cX12_isSame 0 = .ok (.iconst 0, 1) := by decide +kernel
theorem dX12_isSame_1 : decode cX12_isSame 1 = .ok (.istore_n 2, 1) := by decide +kernel
theorem dX12_isSame_2 : decode cX12_isSame 2 = .ok (.iload_n 2, 1) := by decide +kernel
theorem dX12_isSame_3 : decode cX12_isSame 3 = .ok (.aload_n 0, 1) := by decide +kernel
theorem dX12_isSame_4 : decode cX12_isSame 4 = .ok (.getfield 50, 3) := by decide +kernel
theorem dX12_isSame_7 : decode cX12_isSame 7 = .ok (.if_icmp .ge 198, 3) := by decide +kernel
theorem dX12_isSame_10 : decode cX12_isSame 10 = .ok (.iconst 0, 1) := by decide +kernel
theorem dX12_isSame_11 : decode cX12_isSame 11 = .ok (.istore_n 3, 1) := by decide +kernel
theorem dX12_isSame_12 : decode cX12_isSame 12 = .ok (.iload_n 3, 1) := by decide +kernel
theorem dX12_isSame_13 : decode cX12_isSame 13 = .ok (.iconst 5, 1) := by decide +kernel
theorem dX12_isSame_14 : decode cX12_isSame 14 = .ok (.if_icmp .ge 28, 3) := by decide +kernel
theorem dX12_isSame_17 : decode cX12_isSame 17 = .ok (.aload_n 1, 1) := by decide +kernel
theorem dX12_isSame_18 : decode cX12_isSame 18 = .ok (.iload_n 2, 1) := by decide +kernel
theorem dX12_isSame_19 : decode cX12_isSame 19 = .ok (.iload_n 3, 1) := by decide +kernel
theorem dX12_isSame_20 : decode cX12_isSame 20 = .ok (.invokevirtual 128, 3) := by decide +kernel
theorem dX12_isSame_23 : decode cX12_isSame 23 = .ok (.aload_n 0, 1) := by decide +kernel
theorem dX12_isSame_24 : decode cX12_isSame 24 = .ok (.getfield 15, 3) := by decide +kernel
theorem dX12_isSame_27 : decode cX12_isSame 27 = .ok (.iload_n 2, 1) := by decide +kernel
theorem dX12_isSame_28 : decode cX12_isSame 28 = .ok (.aaload, 1) := by decide +kernel
theorem dX12_isSame_29 : decode cX12_isSame 29 = .ok (.iload_n 3, 1) := by decide +kernel
theorem dX12_isSame_30 : decode cX12_isSame 30 = .ok (.iaload, 1) := by decide +kernel
theorem dX12_isSame_31 : decode cX12_isSame 31 = .ok (.if_icmp .eq 5, 3) := by decide +kernel
theorem dX12_isSame_34 : decode cX12_isSame 34 = .ok (.iconst 0, 1) := by decide +kernel
theorem dX12_isSame_35 : decode cX12_isSame 35 = .ok (.ireturn, 1) := by decide +kernel
theorem dX12_isSame_36 : decode cX12_isSame 36 = .ok (.iinc 3 1, 3) := by decide +kernel
theorem dX12_isSame_39 : decode cX12_isSame 39 = .ok (.goto (-27), 3) := by decide +kernel
theorem dX12_isSame_42 : decode cX12_isSame 42 = .ok (.aload_n 1, 1) := by decide +kernel
theorem dX12_isSame_43 : decode cX12_isSame 43 = .ok (.iload_n 2, 1) := by decide +kernel
theorem dX12_isSame_44 : decode cX12_isSame 44 = .ok (.iconst 5, 1) := by decide +kernel
theorem dX12_isSame_45 : decode cX12_isSame 45 = .ok (.invokevirtual 128, 3) := by decide +kernel
theorem dX12_isSame_48 : decode cX12_isSame 48 = .ok (.aload_n 0, 1) := by decide +kernel
theorem dX12_isSame_49 : decode cX12_isSame 49 = .ok (.iload_n 2, 1) := by decide +kernel
theorem dX12_isSame_50 : decode cX12_isSame 50 = .ok (.invokevirtual 93, 3) := by decide +kernel
theorem dX12_isSame_53 : decode cX12_isSame 53 = .ok (.if_icmp .ne 44, 3) := by decide +kernel
theorem dX12_isSame_56 : decode cX12_isSame 56 = .ok (.aload_n 1, 1) := by decide +kernel
theorem dX12_isSame_57 : decode cX12_isSame 57 = .ok (.iload_n 2, 1) := by decide +kernel
theorem dX12_isSame_58 : decode cX12_isSame 58 = .ok (.bipush 6, 2) := by decide +kernel
theorem dX12_isSame_60 : decode cX12_isSame 60 = .ok (.invokevirtual 128, 3) := by decide +kernel
theorem dX12_isSame_63 : decode cX12_isSame 63 = .ok (.bipush (-2), 2) := by decide +kernel
theorem dX12_isSame_65 : decode cX12_isSame 65 = .ok (.if_icmp .ne 32, 3) := by decide +kernel
theorem dX12_isSame_68 : decode cX12_isSame 68 = .ok (.aload_n 1, 1) := by decide +kernel
theorem dX12_isSame_69 : decode cX12_isSame 69 = .ok (.iload_n 2, 1) := by decide +kernel
theorem dX12_isSame_70 : decode cX12_isSame 70 = .ok (.bipush 10, 2) := by decide +kernel
theorem dX12_isSame_72 : decode cX12_isSame 72 = .ok (.aload_n 0, 1) := by decide +kernel
theorem dX12_isSame_73 : decode cX12_isSame 73 = .ok (.getfield 53, 3) := by decide +kernel
theorem dX12_isSame_76 : decode cX12_isSame 76 = .ok (.iadd, 1) := by decide +kernel
theorem dX12_isSame_77 : decode cX12_isSame 77 = .ok (.invokevirtual 128, 3) := by decide +kernel
theorem dX12_isSame_80 : decode cX12_isSame 80 = .ok (.bipush (-2), 2) := by decide +kernel
theorem dX12_isSame_82 : decode cX12_isSame 82 = .ok (.if_icmp .ne 15, 3) := by decide +kernel
theorem dX12_isSame_85 : decode cX12_isSame 85 = .ok (.aload_n 1, 1) := by decide +kernel
theorem dX12_isSame_86 : decode cX12_isSame 86 = .ok (.iload_n 2, 1) := by decide +kernel
theorem dX12_isSame_87 : decode cX12_isSame 87 = .ok (.bipush 30, 2) := by decide +kernel
theorem dX12_isSame_89 : decode cX12_isSame 89 = .ok (.invokevirtual 128, 3) := by decide +kernel
theorem dX12_isSame_92 : decode cX12_isSame 92 = .ok (.bipush (-2), 2) := by decide +kernel
theorem dX12_isSame_94 : decode cX12_isSame 94 = .ok (.if_icmp .eq 5, 3) := by decide +kernel
theorem dX12_isSame_97 : decode cX12_isSame 97 = .ok (.iconst 0, 1) := by decide +kernel
theorem dX12_isSame_98 : decode cX12_isSame 98 = .ok (.ireturn, 1) := by decide +kernel
theorem dX12_isSame_99 : decode cX12_isSame 99 = .ok (.iconst 0, 1) := by decide +kernel
theorem dX12_isSame_100 : decode cX12_isSame 100 = .ok (.istore_n 3, 1) := by decide +kernel
theorem dX12_isSame_101 : decode cX12_isSame 101 = .ok (.iload_n 3, 1) := by decide +kernel
theorem dX12_isSame_102 : decode cX12_isSame 102 = .ok (.aload_n 0, 1) := by decide +kernel
theorem dX12_isSame_103 : decode cX12_isSame 103 = .ok (.getfield 53, 3) := by decide +kernel
theorem dX12_isSame_106 : decode cX12_isSame 106 = .ok (.if_icmp .ge 51, 3) := by decide +kernel
theorem dX12_isSame_109 : decode cX12_isSame 109 = .ok (.aload_n 1, 1) := by decide +kernel
theorem dX12_isSame_110 : decode cX12_isSame 110 = .ok (.iload_n 2, 1) := by decide +kernel
theorem dX12_isSame_111 : decode cX12_isSame 111 = .ok (.bipush 10, 2) := by decide +kernel
theorem dX12_isSame_113 : decode cX12_isSame 113 = .ok (.iload_n 3, 1) := by decide +kernel
theorem dX12_isSame_114 : decode cX12_isSame 114 = .ok (.iadd, 1) := by decide +kernel
theorem dX12_isSame_115 : decode cX12_isSame 115 = .ok (.invokevirtual 128, 3) := by decide +kernel
theorem dX12_isSame_118 : decode cX12_isSame 118 = .ok (.aload_n 0, 1) := by decide +kernel
theorem dX12_isSame_119 : decode cX12_isSame 119 = .ok (.getfield 15, 3) := by decide +kernel
theorem dX12_isSame_122 : decode cX12_isSame 122 = .ok (.iload_n 2, 1) := by decide +kernel
theorem dX12_isSame_123 : decode cX12_isSame 123 = .ok (.aaload, 1) := by decide +kernel
theorem dX12_isSame_124 : decode cX12_isSame 124 = .ok (.iconst 5, 1) := by decide +kernel
theorem dX12_isSame_125 : decode cX12_isSame 125 = .ok (.iload_n 3, 1) := by decide +kernel
theorem dX12_isSame_126 : decode cX12_isSame 126 = .ok (.iadd, 1) := by decide +kernel
theorem dX12_isSame_127 : decode cX12_isSame 127 = .ok (.iaload, 1) := by decide +kernel
theorem dX12_isSame_128 : decode cX12_isSame 128 = .ok (.if_icmp .ne 21, 3) := by decide +kernel
theorem dX12_isSame_131 : decode cX12_isSame 131 = .ok (.aload_n 1, 1) := by decide +kernel
theorem dX12_isSame_132 : decode cX12_isSame 132 = .ok (.iload_n 2, 1) := by decide +kernel
theorem dX12_isSame_133 : decode cX12_isSame 133 = .ok (.bipush 20, 2) := by decide +kernel
theorem dX12_isSame_135 : decode cX12_isSame 135 = .ok (.iload_n 3, 1) := by decide +kernel
theorem dX12_isSame_136 : decode cX12_isSame 136 = .ok (.iadd, 1) := by decide +kernel
theorem dX12_isSame_137 : decode cX12_isSame 137 = .ok (.invokevirtual 128, 3) := by decide +kernel
theorem dX12_isSame_140 : decode cX12_isSame 140 = .ok (.aload_n 0, 1) := by decide +kernel
theorem dX12_isSame_141 : decode cX12_isSame 141 = .ok (.iload_n 2, 1) := by decide +kernel
theorem dX12_isSame_142 : decode cX12_isSame 142 = .ok (.iload_n 3, 1) := by decide +kernel
theorem dX12_isSame_143 : decode cX12_isSame 143 = .ok (.invokevirtual 89, 3) := by decide +kernel
theorem dX12_isSame_146 : decode cX12_isSame 146 = .ok (.if_icmp .eq 5, 3) := by decide +kernel
theorem dX12_isSame_149 : decode cX12_isSame 149 = .ok (.iconst 0, 1) := by decide +kernel
theorem dX12_isSame_150 : decode cX12_isSame 150 = .ok (.ireturn, 1) := by decide +kernel
theorem dX12_isSame_151 : decode cX12_isSame 151 = .ok (.iinc 3 1, 3) := by decide +kernel
theorem dX12_isSame_154 : decode cX12_isSame 154 = .ok (.goto (-53), 3) := by decide +kernel
theorem dX12_isSame_157 : decode cX12_isSame 157 = .ok (.iconst 1, 1) := by decide +kernel
theorem dX12_isSame_158 : decode cX12_isSame 158 = .ok (.iload_n 2, 1) := by decide +kernel
theorem dX12_isSame_159 : decode cX12_isSame 159 = .ok (.iconst 3, 1) := by decide +kernel
theorem dX12_isSame_160 : decode cX12_isSame 160 = .ok (.irem, 1) := by decide +kernel
theorem dX12_isSame_161 : decode cX12_isSame 161 = .ok (.iadd, 1) := by decide +kernel
theorem dX12_isSame_162 : decode cX12_isSame 162 = .ok (.istore_n 3, 1) := by decide +kernel
theorem dX12_isSame_163 : decode cX12_isSame 163 = .ok (.iload_n 3, 1) := by decide +kernel
theorem dX12_isSame_164 : decode cX12_isSame 164 = .ok (.bipush 25, 2) := by decide +kernel
theorem dX12_isSame_166 : decode cX12_isSame 166 = .ok (.if_icmp .ge 33, 3) := by decide +kernel
theorem dX12_isSame_169 : decode cX12_isSame 169 = .ok (.aload_n 1, 1) := by decide +kernel
theorem dX12_isSame_170 : decode cX12_isSame 170 = .ok (.iload_n 2, 1) := by decide +kernel
theorem dX12_isSame_171 : decode cX12_isSame 171 = .ok (.bipush 30, 2) := by decide +kernel
theorem dX12_isSame_173 : decode cX12_isSame 173 = .ok (.iload_n 3, 1) := by decide +kernel
theorem dX12_isSame_174 : decode cX12_isSame 174 = .ok (.iadd, 1) := by decide +kernel
theorem dX12_isSame_175 : decode cX12_isSame 175 = .ok (.invokevirtual 128, 3) := by decide +kernel
theorem dX12_isSame_178 : decode cX12_isSame 178 = .ok (.aload_n 0, 1) := by decide +kernel
theorem dX12_isSame_179 : decode cX12_isSame 179 = .ok (.iload_n 2, 1) := by decide +kernel
theorem dX12_isSame_180 : decode cX12_isSame 180 = .ok (.iload_n 3, 1) := by decide +kernel
theorem dX12_isSame_181 : decode cX12_isSame 181 = .ok (.aload_n 0, 1) := by decide +kernel
theorem dX12_isSame_182 : decode cX12_isSame 182 = .ok (.getfield 7, 3) := by decide +kernel
theorem dX12_isSame_185 : decode cX12_isSame 185 = .ok (.invokevirtual 118, 3) := by decide +kernel
theorem dX12_isSame_188 : decode cX12_isSame 188 = .ok (.if_icmp .eq 5, 3) := by decide +kernel
theorem dX12_isSame_191 : decode cX12_isSame 191 = .ok (.iconst 0, 1) := by decide +kernel
theorem dX12_isSame_192 : decode cX12_isSame 192 = .ok (.ireturn, 1) := by decide +kernel
theorem dX12_isSame_193 : decode cX12_isSame 193 = .ok (.iinc 3 4, 3) := by decide +kernel
theorem dX12_isSame_196 : decode cX12_isSame 196 = .ok (.goto (-33), 3) := by decide +kernel
theorem dX12_isSame_199 : decode cX12_isSame 199 = .ok (.iinc 2 1, 3) := by decide +kernel
theorem dX12_isSame_202 : decode cX12_isSame 202 = .ok (.goto (-200), 3) := by decide +kernel
theorem dX12_isSame_205 : decode cX12_isSame 205 = .ok (.iconst 0, 1) := by decide +kernel
theorem dX12_isSame_206 : decode cX12_isSame 206 = .ok (.istore_n 2, 1) := by decide +kernel
theorem dX12_isSame_207 : decode cX12_isSame 207 = .ok (.iload_n 2, 1) := by decide +kernel
theorem dX12_isSame_208 : decode cX12_isSame 208 = .ok (.aload_n 0, 1) := by decide +kernel
theorem dX12_isSame_209 : decode cX12_isSame 209 = .ok (.getfield 53, 3) := by decide +kernel
theorem dX12_isSame_212 : decode cX12_isSame 212 = .ok (.if_icmp .ge 57, 3) := by decide +kernel
theorem dX12_isSame_215 : decode cX12_isSame 215 = .ok (.iconst 0, 1) := by decide +kernel
theorem dX12_isSame_216 : decode cX12_isSame 216 = .ok (.istore_n 3, 1) := by decide +kernel
theorem dX12_isSame_217 : decode cX12_isSame 217 = .ok (.iload_n 3, 1) := by decide +kernel
theorem dX12_isSame_218 : decode cX12_isSame 218 = .ok (.iconst 3, 1) := by decide +kernel
theorem dX12_isSame_219 : decode cX12_isSame 219 = .ok (.if_icmp .ge 28, 3) := by decide +kernel
theorem dX12_isSame_222 : decode cX12_isSame 222 = .ok (.aload_n 1, 1) := by decide +kernel
theorem dX12_isSame_223 : decode cX12_isSame 223 = .ok (.iload_n 2, 1) := by decide +kernel
theorem dX12_isSame_224 : decode cX12_isSame 224 = .ok (.iload_n 3, 1) := by decide +kernel
theorem dX12_isSame_225 : decode cX12_isSame 225 = .ok (.invokevirtual 133, 3) := by decide +kernel
theorem dX12_isSame_228 : decode cX12_isSame 228 = .ok (.aload_n 0, 1) := by decide +kernel
theorem dX12_isSame_229 : decode cX12_isSame 229 = .ok (.getfield 19, 3) := by decide +kernel
theorem dX12_isSame_232 : decode cX12_isSame 232 = .ok (.iload_n 2, 1) := by decide +kernel
theorem dX12_isSame_233 : decode cX12_isSame 233 = .ok (.aaload, 1) := by decide +kernel
theorem dX12_isSame_234 : decode cX12_isSame 234 = .ok (.iload_n 3, 1) := by decide +kernel
theorem dX12_isSame_235 : decode cX12_isSame 235 = .ok (.iaload, 1) := by decide +kernel
theorem dX12_isSame_236 : decode cX12_isSame 236 = .ok (.if_icmp .eq 5, 3) := by decide +kernel
theorem dX12_isSame_239 : decode cX12_isSame 239 = .ok (.iconst 0, 1) := by decide +kernel
theorem dX12_isSame_240 : decode cX12_isSame 240 = .ok (.ireturn, 1) := by decide +kernel
theorem dX12_isSame_241 : decode cX12_isSame 241 = .ok (.iinc 3 1, 3) := by decide +kernel
theorem dX12_isSame_244 : decode cX12_isSame 244 = .ok (.goto (-27), 3) := by decide +kernel
theorem dX12_isSame_247 : decode cX12_isSame 247 = .ok (.aload_n 1, 1) := by decide +kernel
theorem dX12_isSame_248 : decode cX12_isSame 248 = .ok (.iload_n 2, 1) := by decide +kernel
theorem dX12_isSame_249 : decode cX12_isSame 249 = .ok (.iconst 3, 1) := by decide +kernel
theorem dX12_isSame_250 : decode cX12_isSame 250 = .ok (.invokevirtual 133, 3) := by decide +kernel
theorem dX12_isSame_253 : decode cX12_isSame 253 = .ok (.aload_n 0, 1) := by decide +kernel
theorem dX12_isSame_254 : decode cX12_isSame 254 = .ok (.iload_n 2, 1) := by decide +kernel
theorem dX12_isSame_255 : decode cX12_isSame 255 = .ok (.invokevirtual 71, 3) := by decide +kernel
theorem dX12_isSame_258 : decode cX12_isSame 258 = .ok (.if_icmp .eq 5, 3) := by decide +kernel
theorem dX12_isSame_261 : decode cX12_isSame 261 = .ok (.iconst 0, 1) := by decide +kernel
theorem dX12_isSame_262 : decode cX12_isSame 262 = .ok (.ireturn, 1) := by decide +kernel
theorem dX12_isSame_263 : decode cX12_isSame 263 = .ok (.iinc 2 1, 3) := by decide +kernel
theorem dX12_isSame_266 : decode cX12_isSame 266 = .ok (.goto (-59), 3) := by decide +kernel
theorem dX12_isSame_269 : decode cX12_isSame 269 = .ok (.iconst 0, 1) := by decide +kernel
theorem dX12_isSame_270 : decode cX12_isSame 270 = .ok (.istore_n 2, 1) := by decide +kernel
theorem dX12_isSame_271 : decode cX12_isSame 271 = .ok (.iload_n 2, 1) := by decide +kernel
theorem dX12_isSame_272 : decode cX12_isSame 272 = .ok (.aload_n 0, 1) := by decide +kernel
theorem dX12_isSame_273 : decode cX12_isSame 273 = .ok (.getfield 56, 3) := by decide +kernel
theorem dX12_isSame_276 : decode cX12_isSame 276 = .ok (.if_icmp .ge 41, 3) := by decide +kernel
theorem dX12_isSame_279 : decode cX12_isSame 279 = .ok (.iconst 0, 1) := by decide +kernel
theorem dX12_isSame_280 : decode cX12_isSame 280 = .ok (.istore_n 3, 1) := by decide +kernel
theorem dX12_isSame_281 : decode cX12_isSame 281 = .ok (.iload_n 3, 1) := by decide +kernel
theorem dX12_isSame_282 : decode cX12_isSame 282 = .ok (.iconst 4, 1) := by decide +kernel
theorem dX12_isSame_283 : decode cX12_isSame 283 = .ok (.if_icmp .ge 28, 3) := by decide +kernel
theorem dX12_isSame_286 : decode cX12_isSame 286 = .ok (.aload_n 1, 1) := by decide +kernel
theorem dX12_isSame_287 : decode cX12_isSame 287 = .ok (.iload_n 2, 1) := by decide +kernel
theorem dX12_isSame_288 : decode cX12_isSame 288 = .ok (.iload_n 3, 1) := by decide +kernel
theorem dX12_isSame_289 : decode cX12_isSame 289 = .ok (.invokevirtual 136, 3) := by decide +kernel
theorem dX12_isSame_292 : decode cX12_isSame 292 = .ok (.aload_n 0, 1) := by decide +kernel
theorem dX12_isSame_293 : decode cX12_isSame 293 = .ok (.getfield 28, 3) := by decide +kernel
theorem dX12_isSame_296 : decode cX12_isSame 296 = .ok (.iload_n 2, 1) := by decide +kernel
theorem dX12_isSame_297 : decode cX12_isSame 297 = .ok (.aaload, 1) := by decide +kernel
theorem dX12_isSame_298 : decode cX12_isSame 298 = .ok (.iload_n 3, 1) := by decide +kernel
theorem dX12_isSame_299 : decode cX12_isSame 299 = .ok (.iaload, 1) := by decide +kernel
theorem dX12_isSame_300 : decode cX12_isSame 300 = .ok (.if_icmp .eq 5, 3) := by decide +kernel
theorem dX12_isSame_303 : decode cX12_isSame 303 = .ok (.iconst 0, 1) := by decide +kernel
theorem dX12_isSame_304 : decode cX12_isSame 304 = .ok (.ireturn, 1) := by decide +kernel
theorem dX12_isSame_305 : decode cX12_isSame 305 = .ok (.iinc 3 1, 3) := by decide +kernel
theorem dX12_isSame_308 : decode cX12_isSame 308 = .ok (.goto (-27), 3) := by decide +kernel
theorem dX12_isSame_311 : decode cX12_isSame 311 = .ok (.iinc 2 1, 3) := by decide +kernel
theorem dX12_isSame_314 : decode cX12_isSame 314 = .ok (.goto (-43), 3) := by decide +kernel
theorem dX12_isSame_317 : decode cX12_isSame 317 = .ok (.bipush 11, 2) := by decide +kernel
theorem dX12_isSame_319 : decode cX12_isSame 319 = .ok (.newarray .int, 2) := by decide +kernel
theorem dX12_isSame_321 : decode cX12_isSame 321 = .ok (.dup, 1) := by decide +kernel
theorem dX12_isSame_322 : decode cX12_isSame 322 = .ok (.iconst 0, 1) := by decide +kernel
theorem dX12_isSame_323 : decode cX12_isSame 323 = .ok (.aload_n 0, 1) := by decide +kernel
theorem dX12_isSame_324 : decode cX12_isSame 324 = .ok (.getfield 50, 3) := by decide +kernel
theorem dX12_isSame_327 : decode cX12_isSame 327 = .ok (.iastore, 1) := by decide +kernel
theorem dX12_isSame_328 : decode cX12_isSame 328 = .ok (.dup, 1) := by decide +kernel
theorem dX12_isSame_329 : decode cX12_isSame 329 = .ok (.iconst 1, 1) := by decide +kernel
theorem dX12_isSame_330 : decode cX12_isSame 330 = .ok (.aload_n 0, 1) := by decide +kernel
theorem dX12_isSame_331 : decode cX12_isSame 331 = .ok (.getfield 53, 3) := by decide +kernel
theorem dX12_isSame_334 : decode cX12_isSame 334 = .ok (.iastore, 1) := by decide +kernel
theorem dX12_isSame_335 : decode cX12_isSame 335 = .ok (.dup, 1) := by decide +kernel
theorem dX12_isSame_336 : decode cX12_isSame 336 = .ok (.iconst 2, 1) := by decide +kernel
theorem dX12_isSame_337 : decode cX12_isSame 337 = .ok (.aload_n 0, 1) := by decide +kernel
theorem dX12_isSame_338 : decode cX12_isSame 338 = .ok (.getfield 35, 3) := by decide +kernel
theorem dX12_isSame_341 : decode cX12_isSame 341 = .ok (.iastore, 1) := by decide +kernel
theorem dX12_isSame_342 : decode cX12_isSame 342 = .ok (.dup, 1) := by decide +kernel
theorem dX12_isSame_343 : decode cX12_isSame 343 = .ok (.iconst 3, 1) := by decide +kernel
theorem dX12_isSame_344 : decode cX12_isSame 344 = .ok (.aload_n 0, 1) := by decide +kernel
theorem dX12_isSame_345 : decode cX12_isSame 345 = .ok (.getfield 47, 3) := by decide +kernel
theorem dX12_isSame_348 : decode cX12_isSame 348 = .ok (.iastore, 1) := by decide +kernel
theorem dX12_isSame_349 : decode cX12_isSame 349 = .ok (.dup, 1) := by decide +kernel
theorem dX12_isSame_350 : decode cX12_isSame 350 = .ok (.iconst 4, 1) := by decide +kernel
theorem dX12_isSame_351 : decode cX12_isSame 351 = .ok (.aload_n 0, 1) := by decide +kernel
theorem dX12_isSame_352 : decode cX12_isSame 352 = .ok (.getfield 38, 3) := by decide +kernel
theorem dX12_isSame_355 : decode cX12_isSame 355 = .ok (.iastore, 1) := by decide +kernel
theorem dX12_isSame_356 : decode cX12_isSame 356 = .ok (.dup, 1) := by decide +kernel
theorem dX12_isSame_357 : decode cX12_isSame 357 = .ok (.iconst 5, 1) := by decide +kernel
theorem dX12_isSame_358 : decode cX12_isSame 358 = .ok (.aload_n 0, 1) := by decide +kernel
theorem dX12_isSame_359 : decode cX12_isSame 359 = .ok (.getfield 7, 3) := by decide +kernel
theorem dX12_isSame_362 : decode cX12_isSame 362 = .ok (.iastore, 1) := by decide +kernel
theorem dX12_isSame_363 : decode cX12_isSame 363 = .ok (.dup, 1) := by decide +kernel
theorem dX12_isSame_364 : decode cX12_isSame 364 = .ok (.bipush 6, 2) := by decide +kernel
theorem dX12_isSame_366 : decode cX12_isSame 366 = .ok (.aload_n 0, 1) := by decide +kernel
theorem dX12_isSame_367 : decode cX12_isSame 367 = .ok (.getfield 41, 3) := by decide +kernel
theorem dX12_isSame_370 : decode cX12_isSame 370 = .ok (.iastore, 1) := by decide +kernel
theorem dX12_isSame_371 : decode cX12_isSame 371 = .ok (.dup, 1) := by decide +kernel
theorem dX12_isSame_372 : decode cX12_isSame 372 = .ok (.bipush 7, 2) := by decide +kernel
theorem dX12_isSame_374 : decode cX12_isSame 374 = .ok (.aload_n 0, 1) := by decide +kernel
theorem dX12_isSame_375 : decode cX12_isSame 375 = .ok (.getfield 44, 3) := by decide +kernel
theorem dX12_isSame_378 : decode cX12_isSame 378 = .ok (.iastore, 1) := by decide +kernel
theorem dX12_isSame_379 : decode cX12_isSame 379 = .ok (.dup, 1) := by decide +kernel
theorem dX12_isSame_380 : decode cX12_isSame 380 = .ok (.bipush 8, 2) := by decide +kernel
theorem dX12_isSame_382 : decode cX12_isSame 382 = .ok (.aload_n 0, 1) := by decide +kernel
theorem dX12_isSame_383 : decode cX12_isSame 383 = .ok (.invokevirtual 139, 3) := by decide +kernel
theorem dX12_isSame_386 : decode cX12_isSame 386 = .ok (.iastore, 1) := by decide +kernel
theorem dX12_isSame_387 : decode cX12_isSame 387 = .ok (.dup, 1) := by decide +kernel
theorem dX12_isSame_388 : decode cX12_isSame 388 = .ok (.bipush 9, 2) := by decide +kernel
theorem dX12_isSame_390 : decode cX12_isSame 390 = .ok (.aload_n 0, 1) := by decide +kernel
theorem dX12_isSame_391 : decode cX12_isSame 391 = .ok (.getfield 56, 3) := by decide +kernel
theorem dX12_isSame_394 : decode cX12_isSame 394 = .ok (.iastore, 1) := by decide +kernel
theorem dX12_isSame_395 : decode cX12_isSame 395 = .ok (.dup, 1) := by decide +kernel
theorem dX12_isSame_396 : decode cX12_isSame 396 = .ok (.bipush 10, 2) := by decide +kernel
theorem dX12_isSame_398 : decode cX12_isSame 398 = .ok (.aload_n 0, 1) := by decide +kernel
theorem dX12_isSame_399 : decode cX12_isSame 399 = .ok (.getfield 32, 3) := by decide +kernel
theorem dX12_isSame_402 : decode cX12_isSame 402 = .ok (.iastore, 1) := by decide +kernel
theorem dX12_isSame_403 : decode cX12_isSame 403 = .ok (.astore_n 2, 1) := by decide +kernel
theorem dX12_isSame_404 : decode cX12_isSame 404 = .ok (.iconst 0, 1) := by decide +kernel
theorem dX12_isSame_405 : decode cX12_isSame 405 = .ok (.istore_n 3, 1) := by decide +kernel
theorem dX12_isSame_406 : decode cX12_isSame 406 = .ok (.iload_n 3, 1) := by decide +kernel
theorem dX12_isSame_407 : decode cX12_isSame 407 = .ok (.bipush 11, 2) := by decide +kernel
theorem dX12_isSame_409 : decode cX12_isSame 409 = .ok (.if_icmp .ge 22, 3) := by decide +kernel
theorem dX12_isSame_412 : decode cX12_isSame 412 = .ok (.aload_n 1, 1) := by decide +kernel
theorem dX12_isSame_413 : decode cX12_isSame 413 = .ok (.iload_n 3, 1) := by decide +kernel
theorem dX12_isSame_414 : decode cX12_isSame 414 = .ok (.invokevirtual 143, 3) := by decide +kernel
theorem dX12_isSame_417 : decode cX12_isSame 417 = .ok (.aload_n 2, 1) := by decide +kernel
theorem dX12_isSame_418 : decode cX12_isSame 418 = .ok (.iload_n 3, 1) := by decide +kernel
theorem dX12_isSame_419 : decode cX12_isSame 419 = .ok (.iaload, 1) := by decide +kernel
theorem dX12_isSame_420 : decode cX12_isSame 420 = .ok (.if_icmp .eq 5, 3) := by decide +kernel
theorem dX12_isSame_423 : decode cX12_isSame 423 = .ok (.iconst 0, 1) := by decide +kernel
theorem dX12_isSame_424 : decode cX12_isSame 424 = .ok (.ireturn, 1) := by decide +kernel
theorem dX12_isSame_425 : decode cX12_isSame 425 = .ok (.iinc 3 1, 3) := by decide +kernel
theorem dX12_isSame_428 : decode cX12_isSame 428 = .ok (.goto (-22), 3) := by decide +kernel
theorem dX12_isSame_431 : decode cX12_isSame 431 = .ok (.aload_n 1, 1) := by decide +kernel
theorem dX12_isSame_432 : decode cX12_isSame 432 = .ok (.aload_n 0, 1) := by decide +kernel
theorem dX12_isSame_433 : decode cX12_isSame 433 = .ok (.getfield 50, 3) := by decide +kernel
theorem dX12_isSame_436 : decode cX12_isSame 436 = .ok (.iconst 0, 1) := by decide +kernel
theorem dX12_isSame_437 : decode cX12_isSame 437 = .ok (.invokevirtual 128, 3) := by decide +kernel
theorem dX12_isSame_440 : decode cX12_isSame 440 = .ok (.bipush (-2), 2) := by decide +kernel
theorem dX12_isSame_442 : decode cX12_isSame 442 = .ok (.if_icmp .ne 75, 3) := by decide +kernel
theorem dX12_isSame_445 : decode cX12_isSame 445 = .ok (.aload_n 1, 1) := by decide +kernel
theorem dX12_isSame_446 : decode cX12_isSame 446 = .ok (.aload_n 0, 1) := by decide +kernel
theorem dX12_isSame_447 : decode cX12_isSame 447 = .ok (.getfield 53, 3) := by decide +kernel
theorem dX12_isSame_450 : decode cX12_isSame 450 = .ok (.iconst 0, 1) := by decide +kernel
theorem dX12_isSame_451 : decode cX12_isSame 451 = .ok (.invokevirtual 133, 3) := by decide +kernel
theorem dX12_isSame_454 : decode cX12_isSame 454 = .ok (.iconst (-1), 1) := by decide +kernel
theorem dX12_isSame_455 : decode cX12_isSame 455 = .ok (.if_icmp .ne 62, 3) := by decide +kernel
theorem dX12_isSame_458 : decode cX12_isSame 458 = .ok (.aload_n 1, 1) := by decide +kernel
theorem dX12_isSame_459 : decode cX12_isSame 459 = .ok (.aload_n 0, 1) := by decide +kernel
theorem dX12_isSame_460 : decode cX12_isSame 460 = .ok (.getfield 56, 3) := by decide +kernel
theorem dX12_isSame_463 : decode cX12_isSame 463 = .ok (.iconst 0, 1) := by decide +kernel
theorem dX12_isSame_464 : decode cX12_isSame 464 = .ok (.invokevirtual 136, 3) := by decide +kernel
theorem dX12_isSame_467 : decode cX12_isSame 467 = .ok (.bipush (-2), 2) := by decide +kernel
theorem dX12_isSame_469 : decode cX12_isSame 469 = .ok (.if_icmp .ne 48, 3) := by decide +kernel
theorem dX12_isSame_472 : decode cX12_isSame 472 = .ok (.aload_n 1, 1) := by decide +kernel
theorem dX12_isSame_473 : decode cX12_isSame 473 = .ok (.bipush 12, 2) := by decide +kernel
theorem dX12_isSame_475 : decode cX12_isSame 475 = .ok (.invokevirtual 143, 3) := by decide +kernel
theorem dX12_isSame_478 : decode cX12_isSame 478 = .ok (.aload_n 0, 1) := by decide +kernel
theorem dX12_isSame_479 : decode cX12_isSame 479 = .ok (.getfield 59, 3) := by decide +kernel
theorem dX12_isSame_482 : decode cX12_isSame 482 = .ok (.if_icmp .ne 35, 3) := by decide +kernel
theorem dX12_isSame_485 : decode cX12_isSame 485 = .ok (.aload_n 1, 1) := by decide +kernel
theorem dX12_isSame_486 : decode cX12_isSame 486 = .ok (.bipush 13, 2) := by decide +kernel
theorem dX12_isSame_488 : decode cX12_isSame 488 = .ok (.invokevirtual 143, 3) := by decide +kernel
theorem dX12_isSame_491 : decode cX12_isSame 491 = .ok (.aload_n 0, 1) := by decide +kernel
theorem dX12_isSame_492 : decode cX12_isSame 492 = .ok (.getfield 22, 3) := by decide +kernel
theorem dX12_isSame_495 : decode cX12_isSame 495 = .ok (.arraylength, 1) := by decide +kernel
theorem dX12_isSame_496 : decode cX12_isSame 496 = .ok (.if_icmp .ne 21, 3) := by decide +kernel
theorem dX12_isSame_499 : decode cX12_isSame 499 = .ok (.aload_n 1, 1) := by decide +kernel
theorem dX12_isSame_500 : decode cX12_isSame 500 = .ok (.bipush 14, 2) := by decide +kernel
theorem dX12_isSame_502 : decode cX12_isSame 502 = .ok (.invokevirtual 143, 3) := by decide +kernel
theorem dX12_isSame_505 : decode cX12_isSame 505 = .ok (.aload_n 0, 1) := by decide +kernel
theorem dX12_isSame_506 : decode cX12_isSame 506 = .ok (.getfield 25, 3) := by decide +kernel
theorem dX12_isSame_509 : decode cX12_isSame 509 = .ok (.arraylength, 1) := by decide +kernel
theorem dX12_isSame_510 : decode cX12_isSame 510 = .ok (.if_icmp .ne 7, 3) := by decide +kernel
theorem dX12_isSame_513 : decode cX12_isSame 513 = .ok (.iconst 1, 1) := by decide +kernel
theorem dX12_isSame_514 : decode cX12_isSame 514 = .ok (.goto 4, 3) := by decide +kernel
theorem dX12_isSame_517 : decode cX12_isSame 517 = .ok (.iconst 0, 1) := by decide +kernel
theorem dX12_isSame_518 : decode cX12_isSame 518 = .ok (.ireturn, 1) := by decide +kernel
theorem dJ5_init_d00df_0 : decode cJ5_init_d00df 0 = .ok (.aload_n 0, 1) := by decide +kernel
theorem dJ5_init_d00df_1 : decode cJ5_init_d00df 1 = .ok (.invokespecial 3, 3) := by decide +kernel
theorem dJ5_init_d00df_4 : decode cJ5_init_d00df 4 = .ok (.getstatic 18, 3) := by decide +kernel
theorem dJ5_init_d00df_7 : decode cJ5_init_d00df 7 = .ok (.ifCond .eq 18, 3) := by decide +kernel
theorem dJ5_init_d00df_10 : decode cJ5_init_d00df 10 = .ok (.aload_n 0, 1) := by decide +kernel
theorem dJ5_init_d00df_11 : decode cJ5_init_d00df 11 = .ok (.iload_n 1, 1) := by decide +kernel
theorem dJ5_init_d00df_12 : decode cJ5_init_d00df 12 = .ok (.newarray .byte, 2) := by decide +kernel
theorem dJ5_init_d00df_14 : decode cJ5_init_d00df 14 = .ok (.putfield 15, 3) := by decide +kernel
theorem dJ5_init_d00df_17 : decode cJ5_init_d00df 17 = .ok (.aload_n 0, 1) := by decide +kernel
theorem dJ5_init_d00df_18 : decode cJ5_init_d00df 18 = .ok (.iconst 0, 1) := by decide +kernel
theorem dJ5_init_d00df_19 : decode cJ5_init_d00df 19 = .ok (.putfield 22, 3) := by decide +kernel
theorem dJ5_init_d00df_22 : decode cJ5_init_d00df 22 = .ok (.goto 16, 3) := by decide +kernel
theorem dJ5_init_d00df_25 : decode cJ5_init_d00df 25 = .ok (.aload_n 0, 1) := by decide +kernel
theorem dJ5_init_d00df_26 : decode cJ5_init_d00df 26 = .ok (.iload_n 1, 1) := by decide +kernel
theorem dJ5_init_d00df_27 : decode cJ5_init_d00df 27 = .ok (.invokestatic 26, 3) := by decide +kernel
theorem dJ5_init_d00df_30 : decode cJ5_init_d00df 30 = .ok (.putfield 15, 3) := by decide +kernel
theorem dJ5_init_d00df_33 : decode cJ5_init_d00df 33 = .ok (.aload_n 0, 1) := by decide +kernel
theorem dJ5_init_d00df_34 : decode cJ5_init_d00df 34 = .ok (.iconst 1, 1) := by decide +kernel
theorem dJ5_init_d00df_35 : decode cJ5_init_d00df 35 = .ok (.putfield 22, 3) := by decide +kernel
theorem dJ5_init_d00df_38 : decode cJ5_init_d00df 38 = .ok (.return_, 1) := by decide +kernel
theorem dJ5_length_8abf5_0 : decode cJ5_length_8abf5 0 = .ok (.aload_n 0, 1) := by decide +kernel
theorem dJ5_length_8abf5_1 : decode cJ5_length_8abf5 1 = .ok (.getfield 79, 3) := by decide +kernel
theorem dJ5_length_8abf5_4 : decode cJ5_length_8abf5 4 = .ok (.ireturn, 1) := by decide +kernel
theorem dJ5_ensureCapacityInternal_d00df_0 : decode cJ5_ensureCapacityInternal_d00df 0 = .ok (.aload_n 0, 1) := by decide +kernel
theorem dJ5_ensureCapacityInternal_d00df_1 : decode cJ5_ensureCapacityInternal_d00df 1 = .ok (.getfield 15, 3) := by decide +kernel
theorem dJ5_ensureCapacityInternal_d00df_4 : decode cJ5_ensureCapacityInternal_d00df 4 = .ok (.arraylength, 1) := by decide +kernel
theorem dJ5_ensureCapacityInternal_d00df_5 : decode cJ5_ensureCapacityInternal_d00df 5 = .ok (.aload_n 0, 1) := by decide +kernel
theorem dJ5_ensureCapacityInternal_d00df_6 : decode cJ5_ensureCapacityInternal_d00df 6 = .ok (.getfield 22, 3) := by decide +kernel
theorem dJ5_ensureCapacityInternal_d00df_9 : decode cJ5_ensureCapacityInternal_d00df 9 = .ok (.ishr, 1) := by decide +kernel
theorem dJ5_ensureCapacityInternal_d00df_10 : decode cJ5_ensureCapacityInternal_d00df 10 = .ok (.istore_n 2, 1) := by decide +kernel
theorem dJ5_ensureCapacityInternal_d00df_11 : decode cJ5_ensureCapacityInternal_d00df 11 = .ok (.iload_n 1, 1) := by decide +kernel
theorem dJ5_ensureCapacityInternal_d00df_12 : decode cJ5_ensureCapacityInternal_d00df 12 = .ok (.iload_n 2, 1) := by decide +kernel
theorem dJ5_ensureCapacityInternal_d00df_13 : decode cJ5_ensureCapacityInternal_d00df 13 = .ok (.isub, 1) := by decide +kernel
theorem dJ5_ensureCapacityInternal_d00df_14 : decode cJ5_ensureCapacityInternal_d00df 14 = .ok (.ifCond .le 24, 3) := by decide +kernel
theorem dJ5_ensureCapacityInternal_d00df_17 : decode cJ5_ensureCapacityInternal_d00df 17 = .ok (.aload_n 0, 1) := by decide +kernel
theorem dJ5_ensureCapacityInternal_d00df_18 : decode cJ5_ensureCapacityInternal_d00df 18 = .ok (.aload_n 0, 1) := by decide +kernel
theorem dJ5_ensureCapacityInternal_d00df_19 : decode cJ5_ensureCapacityInternal_d00df 19 = .ok (.getfield 15, 3) := by decide +kernel
theorem dJ5_ensureCapacityInternal_d00df_22 : decode cJ5_ensureCapacityInternal_d00df 22 = .ok (.aload_n 0, 1) := by decide +kernel
theorem dJ5_ensureCapacityInternal_d00df_23 : decode cJ5_ensureCapacityInternal_d00df 23 = .ok (.iload_n 1, 1) := by decide +kernel
theorem dJ5_ensureCapacityInternal_d00df_24 : decode cJ5_ensureCapacityInternal_d00df 24 = .ok (.invokevirtual 104, 3) := by decide +kernel
theorem dJ5_ensureCapacityInternal_d00df_27 : decode cJ5_ensureCapacityInternal_d00df 27 = .ok (.aload_n 0, 1) := by decide +kernel
theorem dJ5_ensureCapacityInternal_d00df_28 : decode cJ5_ensureCapacityInternal_d00df 28 = .ok (.getfield 22, 3) := by decide +kernel
theorem dJ5_ensureCapacityInternal_d00df_31 : decode cJ5_ensureCapacityInternal_d00df 31 = .ok (.ishl, 1) := by decide +kernel
theorem dJ5_ensureCapacityInternal_d00df_32 : decode cJ5_ensureCapacityInternal_d00df 32 = .ok (.invokestatic 108, 3) := by decide +kernel
theorem dJ5_ensureCapacityInternal_d00df_35 : decode cJ5_ensureCapacityInternal_d00df 35 = .ok (.putfield 15, 3) := by decide +kernel
theorem dJ5_ensureCapacityInternal_d00df_38 : decode cJ5_ensureCapacityInternal_d00df 38 = .ok (.return_, 1) := by decide +kernel
theorem dJ5_newCapacity_0f7a4_0 : decode cJ5_newCapacity_0f7a4 0 = .ok (.aload_n 0, 1) := by decide +kernel
theorem dJ5_newCapacity_0f7a4_1 : decode cJ5_newCapacity_0f7a4 1 = .ok (.getfield 15, 3) := by decide +kernel
theorem dJ5_newCapacity_0f7a4_4 : decode cJ5_newCapacity_0f7a4 4 = .ok (.arraylength, 1) := by decide +kernel
theorem dJ5_newCapacity_0f7a4_5 : decode cJ5_newCapacity_0f7a4 5 = .ok (.istore_n 2, 1) := by decide +kernel
theorem dJ5_newCapacity_0f7a4_6 : decode cJ5_newCapacity_0f7a4 6 = .ok (.iload_n 1, 1) := by decide +kernel
theorem dJ5_newCapacity_0f7a4_7 : decode cJ5_newCapacity_0f7a4 7 = .ok (.aload_n 0, 1) := by decide +kernel
theorem dJ5_newCapacity_0f7a4_8 : decode cJ5_newCapacity_0f7a4 8 = .ok (.getfield 22, 3) := by decide +kernel
theorem dJ5_newCapacity_0f7a4_11 : decode cJ5_newCapacity_0f7a4 11 = .ok (.ishl, 1) := by decide +kernel
theorem dJ5_newCapacity_0f7a4_12 : decode cJ5_newCapacity_0f7a4 12 = .ok (.istore_n 3, 1) := by decide +kernel
theorem dJ5_newCapacity_0f7a4_13 : decode cJ5_newCapacity_0f7a4 13 = .ok (.iload_n 3, 1) := by decide +kernel
theorem dJ5_newCapacity_0f7a4_14 : decode cJ5_newCapacity_0f7a4 14 = .ok (.iload_n 2, 1) := by decide +kernel
theorem dJ5_newCapacity_0f7a4_15 : decode cJ5_newCapacity_0f7a4 15 = .ok (.isub, 1) := by decide +kernel
theorem dJ5_newCapacity_0f7a4_16 : decode cJ5_newCapacity_0f7a4 16 = .ok (.istore 4, 2) := by decide +kernel
theorem dJ5_newCapacity_0f7a4_18 : decode cJ5_newCapacity_0f7a4 18 = .ok (.iload_n 2, 1) := by decide +kernel
theorem dJ5_newCapacity_0f7a4_19 : decode cJ5_newCapacity_0f7a4 19 = .ok (.iload 4, 2) := by decide +kernel
theorem dJ5_newCapacity_0f7a4_21 : decode cJ5_newCapacity_0f7a4 21 = .ok (.iload_n 2, 1) := by decide +kernel
theorem dJ5_newCapacity_0f7a4_22 : decode cJ5_newCapacity_0f7a4 22 = .ok (.iconst 2, 1) := by decide +kernel
theorem dJ5_newCapacity_0f7a4_23 : decode cJ5_newCapacity_0f7a4 23 = .ok (.aload_n 0, 1) := by decide +kernel
theorem dJ5_newCapacity_0f7a4_24 : decode cJ5_newCapacity_0f7a4 24 = .ok (.getfield 22, 3) := by decide +kernel
theorem dJ5_newCapacity_0f7a4_27 : decode cJ5_newCapacity_0f7a4 27 = .ok (.ishl, 1) := by decide +kernel
theorem dJ5_newCapacity_0f7a4_28 : decode cJ5_newCapacity_0f7a4 28 = .ok (.iadd, 1) := by decide +kernel
theorem dJ5_newCapacity_0f7a4_29 : decode cJ5_newCapacity_0f7a4 29 = .ok (.invokestatic 114, 3) := by decide +kernel
theorem dJ5_newCapacity_0f7a4_32 : decode cJ5_newCapacity_0f7a4 32 = .ok (.istore 5, 2) := by decide +kernel
theorem dJ5_newCapacity_0f7a4_34 : decode cJ5_newCapacity_0f7a4 34 = .ok (.iload 5, 2) := by decide +kernel
theorem dJ5_newCapacity_0f7a4_36 : decode cJ5_newCapacity_0f7a4 36 = .ok (.ldc 39, 2) := by decide +kernel
theorem dJ5_newCapacity_0f7a4_38 : decode cJ5_newCapacity_0f7a4 38 = .ok (.if_icmp .ne 13, 3) := by decide +kernel
theorem dJ5_newCapacity_0f7a4_41 : decode cJ5_newCapacity_0f7a4 41 = .ok (.new 120, 3) := by decide +kernel
theorem dJ5_newCapacity_0f7a4_44 : decode cJ5_newCapacity_0f7a4 44 = .ok (.dup, 1) := by decide +kernel
theorem dJ5_newCapacity_0f7a4_45 : decode cJ5_newCapacity_0f7a4 45 = .ok (.ldc 122, 2) := by decide +kernel
theorem dJ5_newCapacity_0f7a4_47 : decode cJ5_newCapacity_0f7a4 47 = .ok (.invokespecial 124, 3) := by decide +kernel
theorem dJ5_newCapacity_0f7a4_50 : decode cJ5_newCapacity_0f7a4 50 = .ok (.athrow, 1) := by decide +kernel
theorem dJ5_newCapacity_0f7a4_51 : decode cJ5_newCapacity_0f7a4 51 = .ok (.iload 5, 2) := by decide +kernel
theorem dJ5_newCapacity_0f7a4_53 : decode cJ5_newCapacity_0f7a4 53 = .ok (.aload_n 0, 1) := by decide +kernel
theorem dJ5_newCapacity_0f7a4_54 : decode cJ5_newCapacity_0f7a4 54 = .ok (.getfield 22, 3) := by decide +kernel
theorem dJ5_newCapacity_0f7a4_57 : decode cJ5_newCapacity_0f7a4 57 = .ok (.ishr, 1) := by decide +kernel
theorem dJ5_newCapacity_0f7a4_58 : decode cJ5_newCapacity_0f7a4 58 = .ok (.ireturn, 1) := by decide +kernel
theorem dJ5_inflate_da8c8_0 : decode cJ5_inflate_da8c8 0 = .ok (.aload_n 0, 1) := by decide +kernel
theorem dJ5_inflate_da8c8_1 : decode cJ5_inflate_da8c8 1 = .ok (.invokevirtual 83, 3) := by decide +kernel
theorem dJ5_inflate_da8c8_4 : decode cJ5_inflate_da8c8 4 = .ok (.ifCond .ne 4, 3) := by decide +kernel
theorem dJ5_inflate_da8c8_7 : decode cJ5_inflate_da8c8 7 = .ok (.return_, 1) := by decide +kernel
theorem dJ5_inflate_da8c8_8 : decode cJ5_inflate_da8c8 8 = .ok (.aload_n 0, 1) := by decide +kernel
theorem dJ5_inflate_da8c8_9 : decode cJ5_inflate_da8c8 9 = .ok (.getfield 15, 3) := by decide +kernel
theorem dJ5_inflate_da8c8_12 : decode cJ5_inflate_da8c8 12 = .ok (.arraylength, 1) := by decide +kernel
theorem dJ5_inflate_da8c8_13 : decode cJ5_inflate_da8c8 13 = .ok (.invokestatic 26, 3) := by decide +kernel
theorem dJ5_inflate_da8c8_16 : decode cJ5_inflate_da8c8 16 = .ok (.astore_n 1, 1) := by decide +kernel
theorem dJ5_inflate_da8c8_17 : decode cJ5_inflate_da8c8 17 = .ok (.aload_n 0, 1) := by decide +kernel
theorem dJ5_inflate_da8c8_18 : decode cJ5_inflate_da8c8 18 = .ok (.getfield 15, 3) := by decide +kernel
theorem dJ5_inflate_da8c8_21 : decode cJ5_inflate_da8c8 21 = .ok (.iconst 0, 1) := by decide +kernel
theorem dJ5_inflate_da8c8_22 : decode cJ5_inflate_da8c8 22 = .ok (.aload_n 1, 1) := by decide +kernel
theorem dJ5_inflate_da8c8_23 : decode cJ5_inflate_da8c8 23 = .ok (.iconst 0, 1) := by decide +kernel
theorem dJ5_inflate_da8c8_24 : decode cJ5_inflate_da8c8 24 = .ok (.aload_n 0, 1) := by decide +kernel
theorem dJ5_inflate_da8c8_25 : decode cJ5_inflate_da8c8 25 = .ok (.getfield 79, 3) := by decide +kernel
theorem dJ5_inflate_da8c8_28 : decode cJ5_inflate_da8c8 28 = .ok (.invokestatic 125, 3) := by decide +kernel
theorem dJ5_inflate_da8c8_31 : decode cJ5_inflate_da8c8 31 = .ok (.aload_n 0, 1) := by decide +kernel
theorem dJ5_inflate_da8c8_32 : decode cJ5_inflate_da8c8 32 = .ok (.aload_n 1, 1) := by decide +kernel
theorem dJ5_inflate_da8c8_33 : decode cJ5_inflate_da8c8 33 = .ok (.putfield 15, 3) := by decide +kernel
theorem dJ5_inflate_da8c8_36 : decode cJ5_inflate_da8c8 36 = .ok (.aload_n 0, 1) := by decide +kernel
theorem dJ5_inflate_da8c8_37 : decode cJ5_inflate_da8c8 37 = .ok (.iconst 1, 1) := by decide +kernel
theorem dJ5_inflate_da8c8_38 : decode cJ5_inflate_da8c8 38 = .ok (.putfield 22, 3) := by decide +kernel
theorem dJ5_inflate_da8c8_41 : decode cJ5_inflate_da8c8 41 = .ok (.return_, 1) := by decide +kernel
theorem dJ5_append_cf1ce_0 : decode cJ5_append_cf1ce 0 = .ok (.aload_n 1, 1) := by decide +kernel
theorem dJ5_append_cf1ce_1 : decode cJ5_append_cf1ce 1 = .ok (.ifnonnull 8, 3) := by decide +kernel
theorem dJ5_append_cf1ce_4 : decode cJ5_append_cf1ce 4 = .ok (.aload_n 0, 1) := by decide +kernel
theorem dJ5_append_cf1ce_5 : decode cJ5_append_cf1ce 5 = .ok (.invokevirtual 204, 3) := by decide +kernel
theorem dJ5_append_cf1ce_8 : decode cJ5_append_cf1ce 8 = .ok (.areturn, 1) := by decide +kernel
theorem dJ5_append_cf1ce_9 : decode cJ5_append_cf1ce 9 = .ok (.aload_n 1, 1) := by decide +kernel
theorem dJ5_append_cf1ce_10 : decode cJ5_append_cf1ce 10 = .ok (.invokevirtual 32, 3) := by decide +kernel
theorem dJ5_append_cf1ce_13 : decode cJ5_append_cf1ce 13 = .ok (.istore_n 2, 1) := by decide +kernel
theorem dJ5_append_cf1ce_14 : decode cJ5_append_cf1ce 14 = .ok (.aload_n 0, 1) := by decide +kernel
theorem dJ5_append_cf1ce_15 : decode cJ5_append_cf1ce 15 = .ok (.aload_n 0, 1) := by decide +kernel
theorem dJ5_append_cf1ce_16 : decode cJ5_append_cf1ce 16 = .ok (.getfield 79, 3) := by decide +kernel
theorem dJ5_append_cf1ce_19 : decode cJ5_append_cf1ce 19 = .ok (.iload_n 2, 1) := by decide +kernel
theorem dJ5_append_cf1ce_20 : decode cJ5_append_cf1ce 20 = .ok (.iadd, 1) := by decide +kernel
theorem dJ5_append_cf1ce_21 : decode cJ5_append_cf1ce 21 = .ok (.invokevirtual 100, 3) := by decide +kernel
theorem dJ5_append_cf1ce_24 : decode cJ5_append_cf1ce 24 = .ok (.aload_n 0, 1) := by decide +kernel
theorem dJ5_append_cf1ce_25 : decode cJ5_append_cf1ce 25 = .ok (.aload_n 0, 1) := by decide +kernel
theorem dJ5_append_cf1ce_26 : decode cJ5_append_cf1ce 26 = .ok (.getfield 79, 3) := by decide +kernel
theorem dJ5_append_cf1ce_29 : decode cJ5_append_cf1ce 29 = .ok (.aload_n 1, 1) := by decide +kernel
theorem dJ5_append_cf1ce_30 : decode cJ5_append_cf1ce 30 = .ok (.invokevirtual 208, 3) := by decide +kernel
theorem dJ5_append_cf1ce_33 : decode cJ5_append_cf1ce 33 = .ok (.aload_n 0, 1) := by decide +kernel
theorem dJ5_append_cf1ce_34 : decode cJ5_append_cf1ce 34 = .ok (.dup, 1) := by decide +kernel
theorem dJ5_append_cf1ce_35 : decode cJ5_append_cf1ce 35 = .ok (.getfield 79, 3) := by decide +kernel
theorem dJ5_append_cf1ce_38 : decode cJ5_append_cf1ce 38 = .ok (.iload_n 2, 1) := by decide +kernel
theorem dJ5_append_cf1ce_39 : decode cJ5_append_cf1ce 39 = .ok (.iadd, 1) := by decide +kernel
theorem dJ5_append_cf1ce_40 : decode cJ5_append_cf1ce 40 = .ok (.putfield 79, 3) := by decide +kernel
theorem dJ5_append_cf1ce_43 : decode cJ5_append_cf1ce 43 = .ok (.aload_n 0, 1) := by decide +kernel
theorem dJ5_append_cf1ce_44 : decode cJ5_append_cf1ce 44 = .ok (.areturn, 1) := by decide +kernel
theorem dJ5_appendNull_278bc_0 : decode cJ5_appendNull_278bc 0 = .ok (.aload_n 0, 1) := by decide +kernel
theorem dJ5_appendNull_278bc_1 : decode cJ5_appendNull_278bc 1 = .ok (.aload_n 0, 1) := by decide +kernel
theorem dJ5_appendNull_278bc_2 : decode cJ5_appendNull_278bc 2 = .ok (.getfield 79, 3) := by decide +kernel
theorem dJ5_appendNull_278bc_5 : decode cJ5_appendNull_278bc 5 = .ok (.iconst 4, 1) := by decide +kernel
theorem dJ5_appendNull_278bc_6 : decode cJ5_appendNull_278bc 6 = .ok (.iadd, 1) := by decide +kernel
theorem dJ5_appendNull_278bc_7 : decode cJ5_appendNull_278bc 7 = .ok (.invokevirtual 100, 3) := by decide +kernel
theorem dJ5_appendNull_278bc_10 : decode cJ5_appendNull_278bc 10 = .ok (.aload_n 0, 1) := by decide +kernel
theorem dJ5_appendNull_278bc_11 : decode cJ5_appendNull_278bc 11 = .ok (.getfield 79, 3) := by decide +kernel
theorem dJ5_appendNull_278bc_14 : decode cJ5_appendNull_278bc 14 = .ok (.istore_n 1, 1) := by decide +kernel
theorem dJ5_appendNull_278bc_15 : decode cJ5_appendNull_278bc 15 = .ok (.aload_n 0, 1) := by decide +kernel
theorem dJ5_appendNull_278bc_16 : decode cJ5_appendNull_278bc 16 = .ok (.getfield 15, 3) := by decide +kernel
theorem dJ5_appendNull_278bc_19 : decode cJ5_appendNull_278bc 19 = .ok (.astore_n 2, 1) := by decide +kernel
theorem dJ5_appendNull_278bc_20 : decode cJ5_appendNull_278bc 20 = .ok (.aload_n 0, 1) := by decide +kernel
theorem dJ5_appendNull_278bc_21 : decode cJ5_appendNull_278bc 21 = .ok (.invokevirtual 83, 3) := by decide +kernel
theorem dJ5_appendNull_278bc_24 : decode cJ5_appendNull_278bc 24 = .ok (.ifCond .eq 38, 3) := by decide +kernel
theorem dJ5_appendNull_278bc_27 : decode cJ5_appendNull_278bc 27 = .ok (.aload_n 2, 1) := by decide +kernel
theorem dJ5_appendNull_278bc_28 : decode cJ5_appendNull_278bc 28 = .ok (.iload_n 1, 1) := by decide +kernel
theorem dJ5_appendNull_278bc_29 : decode cJ5_appendNull_278bc 29 = .ok (.iinc 1 1, 3) := by decide +kernel
theorem dJ5_appendNull_278bc_32 : decode cJ5_appendNull_278bc 32 = .ok (.bipush 110, 2) := by decide +kernel
theorem dJ5_appendNull_278bc_34 : decode cJ5_appendNull_278bc 34 = .ok (.bastore, 1) := by decide +kernel
theorem dJ5_appendNull_278bc_35 : decode cJ5_appendNull_278bc 35 = .ok (.aload_n 2, 1) := by decide +kernel
theorem dJ5_appendNull_278bc_36 : decode cJ5_appendNull_278bc 36 = .ok (.iload_n 1, 1) := by decide +kernel
theorem dJ5_appendNull_278bc_37 : decode cJ5_appendNull_278bc 37 = .ok (.iinc 1 1, 3) := by decide +kernel
theorem dJ5_appendNull_278bc_40 : decode cJ5_appendNull_278bc 40 = .ok (.bipush 117, 2) := by decide +kernel
theorem dJ5_appendNull_278bc_42 : decode cJ5_appendNull_278bc 42 = .ok (.bastore, 1) := by decide +kernel
theorem dJ5_appendNull_278bc_43 : decode cJ5_appendNull_278bc 43 = .ok (.aload_n 2, 1) := by decide +kernel
theorem dJ5_appendNull_278bc_44 : decode cJ5_appendNull_278bc 44 = .ok (.iload_n 1, 1) := by decide +kernel
theorem dJ5_appendNull_278bc_45 : decode cJ5_appendNull_278bc 45 = .ok (.iinc 1 1, 3) := by decide +kernel
theorem dJ5_appendNull_278bc_48 : decode cJ5_appendNull_278bc 48 = .ok (.bipush 108, 2) := by decide +kernel
theorem dJ5_appendNull_278bc_50 : decode cJ5_appendNull_278bc 50 = .ok (.bastore, 1) := by decide +kernel
theorem dJ5_appendNull_278bc_51 : decode cJ5_appendNull_278bc 51 = .ok (.aload_n 2, 1) := by decide +kernel
theorem dJ5_appendNull_278bc_52 : decode cJ5_appendNull_278bc 52 = .ok (.iload_n 1, 1) := by decide +kernel
theorem dJ5_appendNull_278bc_53 : decode cJ5_appendNull_278bc 53 = .ok (.iinc 1 1, 3) := by decide +kernel
theorem dJ5_appendNull_278bc_56 : decode cJ5_appendNull_278bc 56 = .ok (.bipush 108, 2) := by decide +kernel
theorem dJ5_appendNull_278bc_58 : decode cJ5_appendNull_278bc 58 = .ok (.bastore, 1) := by decide +kernel
theorem dJ5_appendNull_278bc_59 : decode cJ5_appendNull_278bc 59 = .ok (.goto 17, 3) := by decide +kernel
theorem dJ5_appendNull_278bc_62 : decode cJ5_appendNull_278bc 62 = .ok (.aload_n 2, 1) := by decide +kernel
theorem dJ5_appendNull_278bc_63 : decode cJ5_appendNull_278bc 63 = .ok (.iload_n 1, 1) := by decide +kernel
theorem dJ5_appendNull_278bc_64 : decode cJ5_appendNull_278bc 64 = .ok (.bipush 110, 2) := by decide +kernel
theorem dJ5_appendNull_278bc_66 : decode cJ5_appendNull_278bc 66 = .ok (.bipush 117, 2) := by decide +kernel
theorem dJ5_appendNull_278bc_68 : decode cJ5_appendNull_278bc 68 = .ok (.bipush 108, 2) := by decide +kernel
theorem dJ5_appendNull_278bc_70 : decode cJ5_appendNull_278bc 70 = .ok (.bipush 108, 2) := by decide +kernel
theorem dJ5_appendNull_278bc_72 : decode cJ5_appendNull_278bc 72 = .ok (.invokestatic 226, 3) := by decide +kernel
theorem dJ5_appendNull_278bc_75 : decode cJ5_appendNull_278bc 75 = .ok (.istore_n 1, 1) := by decide +kernel
theorem dJ5_appendNull_278bc_76 : decode cJ5_appendNull_278bc 76 = .ok (.aload_n 0, 1) := by decide +kernel
theorem dJ5_appendNull_278bc_77 : decode cJ5_appendNull_278bc 77 = .ok (.iload_n 1, 1) := by decide +kernel
theorem dJ5_appendNull_278bc_78 : decode cJ5_appendNull_278bc 78 = .ok (.putfield 79, 3) := by decide +kernel
theorem dJ5_appendNull_278bc_81 : decode cJ5_appendNull_278bc 81 = .ok (.aload_n 0, 1) := by decide +kernel
theorem dJ5_appendNull_278bc_82 : decode cJ5_appendNull_278bc 82 = .ok (.areturn, 1) := by decide +kernel
theorem dJ5_append_c97b9_0 : decode cJ5_append_c97b9 0 = .ok (.aload_n 0, 1) := by decide +kernel
theorem dJ5_append_c97b9_1 : decode cJ5_append_c97b9 1 = .ok (.getfield 79, 3) := by decide +kernel
theorem dJ5_append_c97b9_4 : decode cJ5_append_c97b9 4 = .ok (.istore_n 2, 1) := by decide +kernel
theorem dJ5_append_c97b9_5 : decode cJ5_append_c97b9 5 = .ok (.iload_n 2, 1) := by decide +kernel
theorem dJ5_append_c97b9_6 : decode cJ5_append_c97b9 6 = .ok (.iload_n 1, 1) := by decide +kernel
theorem dJ5_append_c97b9_7 : decode cJ5_append_c97b9 7 = .ok (.invokestatic 245, 3) := by decide +kernel
theorem dJ5_append_c97b9_10 : decode cJ5_append_c97b9 10 = .ok (.iadd, 1) := by decide +kernel
theorem dJ5_append_c97b9_11 : decode cJ5_append_c97b9 11 = .ok (.istore_n 3, 1) := by decide +kernel
theorem dJ5_append_c97b9_12 : decode cJ5_append_c97b9 12 = .ok (.aload_n 0, 1) := by decide +kernel
theorem dJ5_append_c97b9_13 : decode cJ5_append_c97b9 13 = .ok (.iload_n 3, 1) := by decide +kernel
theorem dJ5_append_c97b9_14 : decode cJ5_append_c97b9 14 = .ok (.invokevirtual 100, 3) := by decide +kernel
theorem dJ5_append_c97b9_17 : decode cJ5_append_c97b9 17 = .ok (.aload_n 0, 1) := by decide +kernel
theorem dJ5_append_c97b9_18 : decode cJ5_append_c97b9 18 = .ok (.invokevirtual 83, 3) := by decide +kernel
theorem dJ5_append_c97b9_21 : decode cJ5_append_c97b9 21 = .ok (.ifCond .eq 16, 3) := by decide +kernel
theorem dJ5_append_c97b9_24 : decode cJ5_append_c97b9 24 = .ok (.iload_n 1, 1) := by decide +kernel
theorem dJ5_append_c97b9_25 : decode cJ5_append_c97b9 25 = .ok (.iload_n 3, 1) := by decide +kernel
theorem dJ5_append_c97b9_26 : decode cJ5_append_c97b9 26 = .ok (.aload_n 0, 1) := by decide +kernel
theorem dJ5_append_c97b9_27 : decode cJ5_append_c97b9 27 = .ok (.getfield 15, 3) := by decide +kernel
theorem dJ5_append_c97b9_30 : decode cJ5_append_c97b9 30 = .ok (.invokestatic 248, 3) := by decide +kernel
theorem dJ5_append_c97b9_33 : decode cJ5_append_c97b9 33 = .ok (.pop, 1) := by decide +kernel
theorem dJ5_append_c97b9_34 : decode cJ5_append_c97b9 34 = .ok (.goto 14, 3) := by decide +kernel
theorem dJ5_append_c97b9_37 : decode cJ5_append_c97b9 37 = .ok (.iload_n 1, 1) := by decide +kernel
theorem dJ5_append_c97b9_38 : decode cJ5_append_c97b9 38 = .ok (.iload_n 2, 1) := by decide +kernel
theorem dJ5_append_c97b9_39 : decode cJ5_append_c97b9 39 = .ok (.iload_n 3, 1) := by decide +kernel
theorem dJ5_append_c97b9_40 : decode cJ5_append_c97b9 40 = .ok (.aload_n 0, 1) := by decide +kernel
theorem dJ5_append_c97b9_41 : decode cJ5_append_c97b9 41 = .ok (.getfield 15, 3) := by decide +kernel
theorem dJ5_append_c97b9_44 : decode cJ5_append_c97b9 44 = .ok (.invokestatic 251, 3) := by decide +kernel
theorem dJ5_append_c97b9_47 : decode cJ5_append_c97b9 47 = .ok (.pop, 1) := by decide +kernel
theorem dJ5_append_c97b9_48 : decode cJ5_append_c97b9 48 = .ok (.aload_n 0, 1) := by decide +kernel
theorem dJ5_append_c97b9_49 : decode cJ5_append_c97b9 49 = .ok (.iload_n 3, 1) := by decide +kernel
theorem dJ5_append_c97b9_50 : decode cJ5_append_c97b9 50 = .ok (.putfield 79, 3) := by decide +kernel
theorem dJ5_append_c97b9_53 : decode cJ5_append_c97b9 53 = .ok (.aload_n 0, 1) := by decide +kernel
theorem dJ5_append_c97b9_54 : decode cJ5_append_c97b9 54 = .ok (.areturn, 1) := by decide +kernel
theorem dJ5_getValue_6d5f1_0 : decode cJ5_getValue_6d5f1 0 = .ok (.aload_n 0, 1) := by decide +kernel
theorem dJ5_getValue_6d5f1_1 : decode cJ5_getValue_6d5f1 1 = .ok (.getfield 15, 3) := by decide +kernel
theorem dJ5_getValue_6d5f1_4 : decode cJ5_getValue_6d5f1 4 = .ok (.areturn, 1) := by decide +kernel
theorem dJ5_isLatin1_aae02_0 : decode cJ5_isLatin1_aae02 0 = .ok (.getstatic 18, 3) := by decide +kernel
theorem dJ5_isLatin1_aae02_3 : decode cJ5_isLatin1_aae02 3 = .ok (.ifCond .eq 14, 3) := by decide +kernel
theorem dJ5_isLatin1_aae02_6 : decode cJ5_isLatin1_aae02 6 = .ok (.aload_n 0, 1) := by decide +kernel
theorem dJ5_isLatin1_aae02_7 : decode cJ5_isLatin1_aae02 7 = .ok (.getfield 22, 3) := by decide +kernel
theorem dJ5_isLatin1_aae02_10 : decode cJ5_isLatin1_aae02 10 = .ok (.ifCond .ne 7, 3) := by decide +kernel
theorem dJ5_isLatin1_aae02_13 : decode cJ5_isLatin1_aae02 13 = .ok (.iconst 1, 1) := by decide +kernel
theorem dJ5_isLatin1_aae02_14 : decode cJ5_isLatin1_aae02 14 = .ok (.goto 4, 3) := by decide +kernel
theorem dJ5_isLatin1_aae02_17 : decode cJ5_isLatin1_aae02 17 = .ok (.iconst 0, 1) := by decide +kernel
theorem dJ5_isLatin1_aae02_18 : decode cJ5_isLatin1_aae02 18 = .ok (.ireturn, 1) := by decide +kernel
theorem dJ5_inflateIfNeededFor_a7421_0 : decode cJ5_inflateIfNeededFor_a7421 0 = .ok (.getstatic 18, 3) := by decide +kernel
theorem dJ5_inflateIfNeededFor_a7421_3 : decode cJ5_inflateIfNeededFor_a7421 3 = .ok (.ifCond .eq 18, 3) := by decide +kernel
theorem dJ5_inflateIfNeededFor_a7421_6 : decode cJ5_inflateIfNeededFor_a7421 6 = .ok (.aload_n 0, 1) := by decide +kernel
theorem dJ5_inflateIfNeededFor_a7421_7 : decode cJ5_inflateIfNeededFor_a7421 7 = .ok (.getfield 22, 3) := by decide +kernel
theorem dJ5_inflateIfNeededFor_a7421_10 : decode cJ5_inflateIfNeededFor_a7421 10 = .ok (.aload_n 1, 1) := by decide +kernel
theorem dJ5_inflateIfNeededFor_a7421_11 : decode cJ5_inflateIfNeededFor_a7421 11 = .ok (.invokevirtual 40, 3) := by decide +kernel
theorem dJ5_inflateIfNeededFor_a7421_14 : decode cJ5_inflateIfNeededFor_a7421 14 = .ok (.if_icmp .eq 7, 3) := by decide +kernel
theorem dJ5_inflateIfNeededFor_a7421_17 : decode cJ5_inflateIfNeededFor_a7421 17 = .ok (.aload_n 0, 1) := by decide +kernel
theorem dJ5_inflateIfNeededFor_a7421_18 : decode cJ5_inflateIfNeededFor_a7421 18 = .ok (.invokevirtual 195, 3) := by decide +kernel
theorem dJ5_inflateIfNeededFor_a7421_21 : decode cJ5_inflateIfNeededFor_a7421 21 = .ok (.return_, 1) := by decide +kernel
theorem dJ5_putStringAt_47b60_0 : decode cJ5_putStringAt_47b60 0 = .ok (.aload_n 0, 1) := by decide +kernel
theorem dJ5_putStringAt_47b60_1 : decode cJ5_putStringAt_47b60 1 = .ok (.aload_n 2, 1) := by decide +kernel
theorem dJ5_putStringAt_47b60_2 : decode cJ5_putStringAt_47b60 2 = .ok (.invokevirtual 397, 3) := by decide +kernel
theorem dJ5_putStringAt_47b60_5 : decode cJ5_putStringAt_47b60 5 = .ok (.aload_n 2, 1) := by decide +kernel
theorem dJ5_putStringAt_47b60_6 : decode cJ5_putStringAt_47b60 6 = .ok (.aload_n 0, 1) := by decide +kernel
theorem dJ5_putStringAt_47b60_7 : decode cJ5_putStringAt_47b60 7 = .ok (.getfield 15, 3) := by decide +kernel
theorem dJ5_putStringAt_47b60_10 : decode cJ5_putStringAt_47b60 10 = .ok (.iload_n 1, 1) := by decide +kernel
theorem dJ5_putStringAt_47b60_11 : decode cJ5_putStringAt_47b60 11 = .ok (.aload_n 0, 1) := by decide +kernel
theorem dJ5_putStringAt_47b60_12 : decode cJ5_putStringAt_47b60 12 = .ok (.getfield 22, 3) := by decide +kernel
theorem dJ5_putStringAt_47b60_15 : decode cJ5_putStringAt_47b60 15 = .ok (.invokevirtual 399, 3) := by decide +kernel
theorem dJ5_putStringAt_47b60_18 : decode cJ5_putStringAt_47b60 18 = .ok (.return_, 1) := by decide +kernel
theorem dJ6_getChars_ba4f3_0 : decode cJ6_getChars_ba4f3 0 = .ok (.iload_n 1, 1) := by decide +kernel
theorem dJ6_getChars_ba4f3_1 : decode cJ6_getChars_ba4f3 1 = .ok (.istore 5, 2) := by decide +kernel
theorem dJ6_getChars_ba4f3_3 : decode cJ6_getChars_ba4f3 3 = .ok (.iload_n 0, 1) := by decide +kernel
theorem dJ6_getChars_ba4f3_4 : decode cJ6_getChars_ba4f3 4 = .ok (.ifCond .ge 7, 3) := by decide +kernel
theorem dJ6_getChars_ba4f3_7 : decode cJ6_getChars_ba4f3 7 = .ok (.iconst 1, 1) := by decide +kernel
theorem dJ6_getChars_ba4f3_8 : decode cJ6_getChars_ba4f3 8 = .ok (.goto 4, 3) := by decide +kernel
theorem dJ6_getChars_ba4f3_11 : decode cJ6_getChars_ba4f3 11 = .ok (.iconst 0, 1) := by decide +kernel
theorem dJ6_getChars_ba4f3_12 : decode cJ6_getChars_ba4f3 12 = .ok (.istore 6, 2) := by decide +kernel
theorem dJ6_getChars_ba4f3_14 : decode cJ6_getChars_ba4f3 14 = .ok (.iload 6, 2) := by decide +kernel
theorem dJ6_getChars_ba4f3_16 : decode cJ6_getChars_ba4f3 16 = .ok (.ifCond .ne 6, 3) := by decide +kernel
theorem dJ6_getChars_ba4f3_19 : decode cJ6_getChars_ba4f3 19 = .ok (.iload_n 0, 1) := by decide +kernel
theorem dJ6_getChars_ba4f3_20 : decode cJ6_getChars_ba4f3 20 = .ok (.ineg, 1) := by decide +kernel
theorem dJ6_getChars_ba4f3_21 : decode cJ6_getChars_ba4f3 21 = .ok (.istore_n 0, 1) := by decide +kernel
theorem dJ6_getChars_ba4f3_22 : decode cJ6_getChars_ba4f3 22 = .ok (.iload_n 0, 1) := by decide +kernel
theorem dJ6_getChars_ba4f3_23 : decode cJ6_getChars_ba4f3 23 = .ok (.bipush (-100), 2) := by decide +kernel
theorem dJ6_getChars_ba4f3_25 : decode cJ6_getChars_ba4f3 25 = .ok (.if_icmp .gt 47, 3) := by decide +kernel
theorem dJ6_getChars_ba4f3_28 : decode cJ6_getChars_ba4f3 28 = .ok (.iload_n 0, 1) := by decide +kernel
theorem dJ6_getChars_ba4f3_29 : decode cJ6_getChars_ba4f3 29 = .ok (.bipush 100, 2) := by decide +kernel
theorem dJ6_getChars_ba4f3_31 : decode cJ6_getChars_ba4f3 31 = .ok (.idiv, 1) := by decide +kernel
theorem dJ6_getChars_ba4f3_32 : decode cJ6_getChars_ba4f3 32 = .ok (.istore_n 3, 1) := by decide +kernel
theorem dJ6_getChars_ba4f3_33 : decode cJ6_getChars_ba4f3 33 = .ok (.iload_n 3, 1) := by decide +kernel
theorem dJ6_getChars_ba4f3_34 : decode cJ6_getChars_ba4f3 34 = .ok (.bipush 100, 2) := by decide +kernel
theorem dJ6_getChars_ba4f3_36 : decode cJ6_getChars_ba4f3 36 = .ok (.imul, 1) := by decide +kernel
theorem dJ6_getChars_ba4f3_37 : decode cJ6_getChars_ba4f3 37 = .ok (.iload_n 0, 1) := by decide +kernel
theorem dJ6_getChars_ba4f3_38 : decode cJ6_getChars_ba4f3 38 = .ok (.isub, 1) := by decide +kernel
theorem dJ6_getChars_ba4f3_39 : decode cJ6_getChars_ba4f3 39 = .ok (.istore 4, 2) := by decide +kernel
theorem dJ6_getChars_ba4f3_41 : decode cJ6_getChars_ba4f3 41 = .ok (.iload_n 3, 1) := by decide +kernel
theorem dJ6_getChars_ba4f3_42 : decode cJ6_getChars_ba4f3 42 = .ok (.istore_n 0, 1) := by decide +kernel
theorem dJ6_getChars_ba4f3_43 : decode cJ6_getChars_ba4f3 43 = .ok (.aload_n 2, 1) := by decide +kernel
theorem dJ6_getChars_ba4f3_44 : decode cJ6_getChars_ba4f3 44 = .ok (.iinc 5 (-1), 3) := by decide +kernel
theorem dJ6_getChars_ba4f3_47 : decode cJ6_getChars_ba4f3 47 = .ok (.iload 5, 2) := by decide +kernel
theorem dJ6_getChars_ba4f3_49 : decode cJ6_getChars_ba4f3 49 = .ok (.getstatic 83, 3) := by decide +kernel
theorem dJ6_getChars_ba4f3_52 : decode cJ6_getChars_ba4f3 52 = .ok (.iload 4, 2) := by decide +kernel
theorem dJ6_getChars_ba4f3_54 : decode cJ6_getChars_ba4f3 54 = .ok (.baload, 1) := by decide +kernel
theorem dJ6_getChars_ba4f3_55 : decode cJ6_getChars_ba4f3 55 = .ok (.bastore, 1) := by decide +kernel
theorem dJ6_getChars_ba4f3_56 : decode cJ6_getChars_ba4f3 56 = .ok (.aload_n 2, 1) := by decide +kernel
theorem dJ6_getChars_ba4f3_57 : decode cJ6_getChars_ba4f3 57 = .ok (.iinc 5 (-1), 3) := by decide +kernel
theorem dJ6_getChars_ba4f3_60 : decode cJ6_getChars_ba4f3 60 = .ok (.iload 5, 2) := by decide +kernel
theorem dJ6_getChars_ba4f3_62 : decode cJ6_getChars_ba4f3 62 = .ok (.getstatic 87, 3) := by decide +kernel
theorem dJ6_getChars_ba4f3_65 : decode cJ6_getChars_ba4f3 65 = .ok (.iload 4, 2) := by decide +kernel
theorem dJ6_getChars_ba4f3_67 : decode cJ6_getChars_ba4f3 67 = .ok (.baload, 1) := by decide +kernel
theorem dJ6_getChars_ba4f3_68 : decode cJ6_getChars_ba4f3 68 = .ok (.bastore, 1) := by decide +kernel
theorem dJ6_getChars_ba4f3_69 : decode cJ6_getChars_ba4f3 69 = .ok (.goto (-47), 3) := by decide +kernel
theorem dJ6_getChars_ba4f3_72 : decode cJ6_getChars_ba4f3 72 = .ok (.aload_n 2, 1) := by decide +kernel
theorem dJ6_getChars_ba4f3_73 : decode cJ6_getChars_ba4f3 73 = .ok (.iinc 5 (-1), 3) := by decide +kernel
theorem dJ6_getChars_ba4f3_76 : decode cJ6_getChars_ba4f3 76 = .ok (.iload 5, 2) := by decide +kernel
theorem dJ6_getChars_ba4f3_78 : decode cJ6_getChars_ba4f3 78 = .ok (.getstatic 83, 3) := by decide +kernel
theorem dJ6_getChars_ba4f3_81 : decode cJ6_getChars_ba4f3 81 = .ok (.iload_n 0, 1) := by decide +kernel
theorem dJ6_getChars_ba4f3_82 : decode cJ6_getChars_ba4f3 82 = .ok (.ineg, 1) := by decide +kernel
theorem dJ6_getChars_ba4f3_83 : decode cJ6_getChars_ba4f3 83 = .ok (.baload, 1) := by decide +kernel
theorem dJ6_getChars_ba4f3_84 : decode cJ6_getChars_ba4f3 84 = .ok (.bastore, 1) := by decide +kernel
theorem dJ6_getChars_ba4f3_85 : decode cJ6_getChars_ba4f3 85 = .ok (.iload_n 0, 1) := by decide +kernel
theorem dJ6_getChars_ba4f3_86 : decode cJ6_getChars_ba4f3 86 = .ok (.bipush (-9), 2) := by decide +kernel
theorem dJ6_getChars_ba4f3_88 : decode cJ6_getChars_ba4f3 88 = .ok (.if_icmp .ge 16, 3) := by decide +kernel
theorem dJ6_getChars_ba4f3_91 : decode cJ6_getChars_ba4f3 91 = .ok (.aload_n 2, 1) := by decide +kernel
theorem dJ6_getChars_ba4f3_92 : decode cJ6_getChars_ba4f3 92 = .ok (.iinc 5 (-1), 3) := by decide +kernel
theorem dJ6_getChars_ba4f3_95 : decode cJ6_getChars_ba4f3 95 = .ok (.iload 5, 2) := by decide +kernel
theorem dJ6_getChars_ba4f3_97 : decode cJ6_getChars_ba4f3 97 = .ok (.getstatic 87, 3) := by decide +kernel
theorem dJ6_getChars_ba4f3_100 : decode cJ6_getChars_ba4f3 100 = .ok (.iload_n 0, 1) := by decide +kernel
theorem dJ6_getChars_ba4f3_101 : decode cJ6_getChars_ba4f3 101 = .ok (.ineg, 1) := by decide +kernel
theorem dJ6_getChars_ba4f3_102 : decode cJ6_getChars_ba4f3 102 = .ok (.baload, 1) := by decide +kernel
theorem dJ6_getChars_ba4f3_103 : decode cJ6_getChars_ba4f3 103 = .ok (.bastore, 1) := by decide +kernel
theorem dJ6_getChars_ba4f3_104 : decode cJ6_getChars_ba4f3 104 = .ok (.iload 6, 2) := by decide +kernel
theorem dJ6_getChars_ba4f3_106 : decode cJ6_getChars_ba4f3 106 = .ok (.ifCond .eq 12, 3) := by decide +kernel
theorem dJ6_getChars_ba4f3_109 : decode cJ6_getChars_ba4f3 109 = .ok (.aload_n 2, 1) := by decide +kernel
theorem dJ6_getChars_ba4f3_110 : decode cJ6_getChars_ba4f3 110 = .ok (.iinc 5 (-1), 3) := by decide +kernel
theorem dJ6_getChars_ba4f3_113 : decode cJ6_getChars_ba4f3 113 = .ok (.iload 5, 2) := by decide +kernel
theorem dJ6_getChars_ba4f3_115 : decode cJ6_getChars_ba4f3 115 = .ok (.bipush 45, 2) := by decide +kernel
theorem dJ6_getChars_ba4f3_117 : decode cJ6_getChars_ba4f3 117 = .ok (.bastore, 1) := by decide +kernel
theorem dJ6_getChars_ba4f3_118 : decode cJ6_getChars_ba4f3 118 = .ok (.iload 5, 2) := by decide +kernel
theorem dJ6_getChars_ba4f3_120 : decode cJ6_getChars_ba4f3 120 = .ok (.ireturn, 1) := by decide +kernel
theorem dJ6_stringSize_0f7a4_0 : decode cJ6_stringSize_0f7a4 0 = .ok (.iconst 1, 1) := by decide +kernel
theorem dJ6_stringSize_0f7a4_1 : decode cJ6_stringSize_0f7a4 1 = .ok (.istore_n 1, 1) := by decide +kernel
theorem dJ6_stringSize_0f7a4_2 : decode cJ6_stringSize_0f7a4 2 = .ok (.iload_n 0, 1) := by decide +kernel
theorem dJ6_stringSize_0f7a4_3 : decode cJ6_stringSize_0f7a4 3 = .ok (.ifCond .lt 8, 3) := by decide +kernel
theorem dJ6_stringSize_0f7a4_6 : decode cJ6_stringSize_0f7a4 6 = .ok (.iconst 0, 1) := by decide +kernel
theorem dJ6_stringSize_0f7a4_7 : decode cJ6_stringSize_0f7a4 7 = .ok (.istore_n 1, 1) := by decide +kernel
theorem dJ6_stringSize_0f7a4_8 : decode cJ6_stringSize_0f7a4 8 = .ok (.iload_n 0, 1) := by decide +kernel
theorem dJ6_stringSize_0f7a4_9 : decode cJ6_stringSize_0f7a4 9 = .ok (.ineg, 1) := by decide +kernel
theorem dJ6_stringSize_0f7a4_10 : decode cJ6_stringSize_0f7a4 10 = .ok (.istore_n 0, 1) := by decide +kernel
theorem dJ6_stringSize_0f7a4_11 : decode cJ6_stringSize_0f7a4 11 = .ok (.bipush (-10), 2) := by decide +kernel
theorem dJ6_stringSize_0f7a4_13 : decode cJ6_stringSize_0f7a4 13 = .ok (.istore_n 2, 1) := by decide +kernel
theorem dJ6_stringSize_0f7a4_14 : decode cJ6_stringSize_0f7a4 14 = .ok (.iconst 1, 1) := by decide +kernel
theorem dJ6_stringSize_0f7a4_15 : decode cJ6_stringSize_0f7a4 15 = .ok (.istore_n 3, 1) := by decide +kernel
theorem dJ6_stringSize_0f7a4_16 : decode cJ6_stringSize_0f7a4 16 = .ok (.iload_n 3, 1) := by decide +kernel
theorem dJ6_stringSize_0f7a4_17 : decode cJ6_stringSize_0f7a4 17 = .ok (.bipush 10, 2) := by decide +kernel
theorem dJ6_stringSize_0f7a4_19 : decode cJ6_stringSize_0f7a4 19 = .ok (.if_icmp .ge 23, 3) := by decide +kernel
theorem dJ6_stringSize_0f7a4_22 : decode cJ6_stringSize_0f7a4 22 = .ok (.iload_n 0, 1) := by decide +kernel
theorem dJ6_stringSize_0f7a4_23 : decode cJ6_stringSize_0f7a4 23 = .ok (.iload_n 2, 1) := by decide +kernel
theorem dJ6_stringSize_0f7a4_24 : decode cJ6_stringSize_0f7a4 24 = .ok (.if_icmp .le 7, 3) := by decide +kernel
theorem dJ6_stringSize_0f7a4_27 : decode cJ6_stringSize_0f7a4 27 = .ok (.iload_n 3, 1) := by decide +kernel
theorem dJ6_stringSize_0f7a4_28 : decode cJ6_stringSize_0f7a4 28 = .ok (.iload_n 1, 1) := by decide +kernel
theorem dJ6_stringSize_0f7a4_29 : decode cJ6_stringSize_0f7a4 29 = .ok (.iadd, 1) := by decide +kernel
theorem dJ6_stringSize_0f7a4_30 : decode cJ6_stringSize_0f7a4 30 = .ok (.ireturn, 1) := by decide +kernel
theorem dJ6_stringSize_0f7a4_31 : decode cJ6_stringSize_0f7a4 31 = .ok (.bipush 10, 2) := by decide +kernel
theorem dJ6_stringSize_0f7a4_33 : decode cJ6_stringSize_0f7a4 33 = .ok (.iload_n 2, 1) := by decide +kernel
theorem dJ6_stringSize_0f7a4_34 : decode cJ6_stringSize_0f7a4 34 = .ok (.imul, 1) := by decide +kernel
theorem dJ6_stringSize_0f7a4_35 : decode cJ6_stringSize_0f7a4 35 = .ok (.istore_n 2, 1) := by decide +kernel
theorem dJ6_stringSize_0f7a4_36 : decode cJ6_stringSize_0f7a4 36 = .ok (.iinc 3 1, 3) := by decide +kernel
theorem dJ6_stringSize_0f7a4_39 : decode cJ6_stringSize_0f7a4 39 = .ok (.goto (-23), 3) := by decide +kernel
theorem dJ6_stringSize_0f7a4_42 : decode cJ6_stringSize_0f7a4 42 = .ok (.bipush 10, 2) := by decide +kernel
theorem dJ6_stringSize_0f7a4_44 : decode cJ6_stringSize_0f7a4 44 = .ok (.iload_n 1, 1) := by decide +kernel
theorem dJ6_stringSize_0f7a4_45 : decode cJ6_stringSize_0f7a4 45 = .ok (.iadd, 1) := by decide +kernel
theorem dJ6_stringSize_0f7a4_46 : decode cJ6_stringSize_0f7a4 46 = .ok (.ireturn, 1) := by decide +kernel
theorem dJ6_bitCount_0f7a4_0 : decode cJ6_bitCount_0f7a4 0 = .ok (.iload_n 0, 1) := by decide +kernel
theorem dJ6_bitCount_0f7a4_1 : decode cJ6_bitCount_0f7a4 1 = .ok (.iload_n 0, 1) := by decide +kernel
theorem dJ6_bitCount_0f7a4_2 : decode cJ6_bitCount_0f7a4 2 = .ok (.iconst 1, 1) := by decide +kernel
theorem dJ6_bitCount_0f7a4_3 : decode cJ6_bitCount_0f7a4 3 = .ok (.iushr, 1) := by decide +kernel
theorem dJ6_bitCount_0f7a4_4 : decode cJ6_bitCount_0f7a4 4 = .ok (.ldc_w 265, 3) := by decide +kernel
theorem dJ6_bitCount_0f7a4_7 : decode cJ6_bitCount_0f7a4 7 = .ok (.iand, 1) := by decide +kernel
theorem dJ6_bitCount_0f7a4_8 : decode cJ6_bitCount_0f7a4 8 = .ok (.isub, 1) := by decide +kernel
theorem dJ6_bitCount_0f7a4_9 : decode cJ6_bitCount_0f7a4 9 = .ok (.istore_n 0, 1) := by decide +kernel
theorem dJ6_bitCount_0f7a4_10 : decode cJ6_bitCount_0f7a4 10 = .ok (.iload_n 0, 1) := by decide +kernel
theorem dJ6_bitCount_0f7a4_11 : decode cJ6_bitCount_0f7a4 11 = .ok (.ldc_w 266, 3) := by decide +kernel
theorem dJ6_bitCount_0f7a4_14 : decode cJ6_bitCount_0f7a4 14 = .ok (.iand, 1) := by decide +kernel
theorem dJ6_bitCount_0f7a4_15 : decode cJ6_bitCount_0f7a4 15 = .ok (.iload_n 0, 1) := by decide +kernel
theorem dJ6_bitCount_0f7a4_16 : decode cJ6_bitCount_0f7a4 16 = .ok (.iconst 2, 1) := by decide +kernel
theorem dJ6_bitCount_0f7a4_17 : decode cJ6_bitCount_0f7a4 17 = .ok (.iushr, 1) := by decide +kernel
theorem dJ6_bitCount_0f7a4_18 : decode cJ6_bitCount_0f7a4 18 = .ok (.ldc_w 266, 3) := by decide +kernel
theorem dJ6_bitCount_0f7a4_21 : decode cJ6_bitCount_0f7a4 21 = .ok (.iand, 1) := by decide +kernel
theorem dJ6_bitCount_0f7a4_22 : decode cJ6_bitCount_0f7a4 22 = .ok (.iadd, 1) := by decide +kernel
theorem dJ6_bitCount_0f7a4_23 : decode cJ6_bitCount_0f7a4 23 = .ok (.istore_n 0, 1) := by decide +kernel
theorem dJ6_bitCount_0f7a4_24 : decode cJ6_bitCount_0f7a4 24 = .ok (.iload_n 0, 1) := by decide +kernel
theorem dJ6_bitCount_0f7a4_25 : decode cJ6_bitCount_0f7a4 25 = .ok (.iload_n 0, 1) := by decide +kernel
theorem dJ6_bitCount_0f7a4_26 : decode cJ6_bitCount_0f7a4 26 = .ok (.iconst 4, 1) := by decide +kernel
theorem dJ6_bitCount_0f7a4_27 : decode cJ6_bitCount_0f7a4 27 = .ok (.iushr, 1) := by decide +kernel
theorem dJ6_bitCount_0f7a4_28 : decode cJ6_bitCount_0f7a4 28 = .ok (.iadd, 1) := by decide +kernel
theorem dJ6_bitCount_0f7a4_29 : decode cJ6_bitCount_0f7a4 29 = .ok (.ldc_w 267, 3) := by decide +kernel
theorem dJ6_bitCount_0f7a4_32 : decode cJ6_bitCount_0f7a4 32 = .ok (.iand, 1) := by decide +kernel
theorem dJ6_bitCount_0f7a4_33 : decode cJ6_bitCount_0f7a4 33 = .ok (.istore_n 0, 1) := by decide +kernel
theorem dJ6_bitCount_0f7a4_34 : decode cJ6_bitCount_0f7a4 34 = .ok (.iload_n 0, 1) := by decide +kernel
theorem dJ6_bitCount_0f7a4_35 : decode cJ6_bitCount_0f7a4 35 = .ok (.iload_n 0, 1) := by decide +kernel
theorem dJ6_bitCount_0f7a4_36 : decode cJ6_bitCount_0f7a4 36 = .ok (.bipush 8, 2) := by decide +kernel
theorem dJ6_bitCount_0f7a4_38 : decode cJ6_bitCount_0f7a4 38 = .ok (.iushr, 1) := by decide +kernel
theorem dJ6_bitCount_0f7a4_39 : decode cJ6_bitCount_0f7a4 39 = .ok (.iadd, 1) := by decide +kernel
theorem dJ6_bitCount_0f7a4_40 : decode cJ6_bitCount_0f7a4 40 = .ok (.istore_n 0, 1) := by decide +kernel
theorem dJ6_bitCount_0f7a4_41 : decode cJ6_bitCount_0f7a4 41 = .ok (.iload_n 0, 1) := by decide +kernel
theorem dJ6_bitCount_0f7a4_42 : decode cJ6_bitCount_0f7a4 42 = .ok (.iload_n 0, 1) := by decide +kernel
theorem dJ6_bitCount_0f7a4_43 : decode cJ6_bitCount_0f7a4 43 = .ok (.bipush 16, 2) := by decide +kernel
theorem dJ6_bitCount_0f7a4_45 : decode cJ6_bitCount_0f7a4 45 = .ok (.iushr, 1) := by decide +kernel
theorem dJ6_bitCount_0f7a4_46 : decode cJ6_bitCount_0f7a4 46 = .ok (.iadd, 1) := by decide +kernel
theorem dJ6_bitCount_0f7a4_47 : decode cJ6_bitCount_0f7a4 47 = .ok (.istore_n 0, 1) := by decide +kernel
theorem dJ6_bitCount_0f7a4_48 : decode cJ6_bitCount_0f7a4 48 = .ok (.iload_n 0, 1) := by decide +kernel
theorem dJ6_bitCount_0f7a4_49 : decode cJ6_bitCount_0f7a4 49 = .ok (.bipush 63, 2) := by decide +kernel
theorem dJ6_bitCount_0f7a4_51 : decode cJ6_bitCount_0f7a4 51 = .ok (.iand, 1) := by decide +kernel
theorem dJ6_bitCount_0f7a4_52 : decode cJ6_bitCount_0f7a4 52 = .ok (.ireturn, 1) := by decide +kernel
theorem dJ9_max_7cf53_0 : decode cJ9_max_7cf53 0 = .ok (.iload_n 0, 1) := by decide +kernel
theorem dJ9_max_7cf53_1 : decode cJ9_max_7cf53 1 = .ok (.iload_n 1, 1) := by decide +kernel
theorem dJ9_max_7cf53_2 : decode cJ9_max_7cf53 2 = .ok (.if_icmp .lt 7, 3) := by decide +kernel
theorem dJ9_max_7cf53_5 : decode cJ9_max_7cf53 5 = .ok (.iload_n 0, 1) := by decide +kernel
theorem dJ9_max_7cf53_6 : decode cJ9_max_7cf53 6 = .ok (.goto 4, 3) := by decide +kernel
theorem dJ9_max_7cf53_9 : decode cJ9_max_7cf53 9 = .ok (.iload_n 1, 1) := by decide +kernel
theorem dJ9_max_7cf53_10 : decode cJ9_max_7cf53 10 = .ok (.ireturn, 1) := by decide +kernel
theorem dJ9_min_7cf53_0 : decode cJ9_min_7cf53 0 = .ok (.iload_n 0, 1) := by decide +kernel
theorem dJ9_min_7cf53_1 : decode cJ9_min_7cf53 1 = .ok (.iload_n 1, 1) := by decide +kernel
theorem dJ9_min_7cf53_2 : decode cJ9_min_7cf53 2 = .ok (.if_icmp .gt 7, 3) := by decide +kernel
theorem dJ9_min_7cf53_5 : decode cJ9_min_7cf53 5 = .ok (.iload_n 0, 1) := by decide +kernel
theorem dJ9_min_7cf53_6 : decode cJ9_min_7cf53 6 = .ok (.goto 4, 3) := by decide +kernel
theorem dJ9_min_7cf53_9 : decode cJ9_min_7cf53 9 = .ok (.iload_n 1, 1) := by decide +kernel
theorem dJ9_min_7cf53_10 : decode cJ9_min_7cf53 10 = .ok (.ireturn, 1) := by decide +kernel
theorem dJ0_init_81219_0 : decode cJ0_init_81219 0 = .ok (.aload_n 0, 1) := by decide +kernel
theorem dJ0_init_81219_1 : decode cJ0_init_81219 1 = .ok (.aload_n 1, 1) := by decide +kernel
theorem dJ0_init_81219_2 : decode cJ0_init_81219 2 = .ok (.aconst_null, 1) := by decide +kernel
theorem dJ0_init_81219_3 : decode cJ0_init_81219 3 = .ok (.invokespecial 489, 3) := by decide +kernel
theorem dJ0_init_81219_6 : decode cJ0_init_81219 6 = .ok (.return_, 1) := by decide +kernel
theorem dJ0_length_8abf5_0 : decode cJ0_length_8abf5 0 = .ok (.aload_n 0, 1) := by decide +kernel
theorem dJ0_length_8abf5_1 : decode cJ0_length_8abf5 1 = .ok (.getfield 9, 3) := by decide +kernel
theorem dJ0_length_8abf5_4 : decode cJ0_length_8abf5 4 = .ok (.arraylength, 1) := by decide +kernel
theorem dJ0_length_8abf5_5 : decode cJ0_length_8abf5 5 = .ok (.aload_n 0, 1) := by decide +kernel
theorem dJ0_length_8abf5_6 : decode cJ0_length_8abf5 6 = .ok (.invokevirtual 335, 3) := by decide +kernel
theorem dJ0_length_8abf5_9 : decode cJ0_length_8abf5 9 = .ok (.ishr, 1) := by decide +kernel
theorem dJ0_length_8abf5_10 : decode cJ0_length_8abf5 10 = .ok (.ireturn, 1) := by decide +kernel
theorem dJ0_charAt_5068e_0 : decode cJ0_charAt_5068e 0 = .ok (.aload_n 0, 1) := by decide +kernel
theorem dJ0_charAt_5068e_1 : decode cJ0_charAt_5068e 1 = .ok (.invokevirtual 492, 3) := by decide +kernel
theorem dJ0_charAt_5068e_4 : decode cJ0_charAt_5068e 4 = .ok (.ifCond .eq 12, 3) := by decide +kernel
theorem dJ0_charAt_5068e_7 : decode cJ0_charAt_5068e 7 = .ok (.aload_n 0, 1) := by decide +kernel
theorem dJ0_charAt_5068e_8 : decode cJ0_charAt_5068e 8 = .ok (.getfield 9, 3) := by decide +kernel
theorem dJ0_charAt_5068e_11 : decode cJ0_charAt_5068e 11 = .ok (.iload_n 1, 1) := by decide +kernel
theorem dJ0_charAt_5068e_12 : decode cJ0_charAt_5068e 12 = .ok (.invokestatic 495, 3) := by decide +kernel
theorem dJ0_charAt_5068e_15 : decode cJ0_charAt_5068e 15 = .ok (.ireturn, 1) := by decide +kernel
theorem dJ0_charAt_5068e_16 : decode cJ0_charAt_5068e 16 = .ok (.aload_n 0, 1) := by decide +kernel
theorem dJ0_charAt_5068e_17 : decode cJ0_charAt_5068e 17 = .ok (.getfield 9, 3) := by decide +kernel
theorem dJ0_charAt_5068e_20 : decode cJ0_charAt_5068e 20 = .ok (.iload_n 1, 1) := by decide +kernel
theorem dJ0_charAt_5068e_21 : decode cJ0_charAt_5068e 21 = .ok (.invokestatic 498, 3) := by decide +kernel
theorem dJ0_charAt_5068e_24 : decode cJ0_charAt_5068e 24 = .ok (.ireturn, 1) := by decide +kernel
theorem dJ0_getBytes_840e7_0 : decode cJ0_getBytes_840e7 0 = .ok (.aload_n 0, 1) := by decide +kernel
theorem dJ0_getBytes_840e7_1 : decode cJ0_getBytes_840e7 1 = .ok (.invokevirtual 335, 3) := by decide +kernel
theorem dJ0_getBytes_840e7_4 : decode cJ0_getBytes_840e7 4 = .ok (.iload_n 3, 1) := by decide +kernel
theorem dJ0_getBytes_840e7_5 : decode cJ0_getBytes_840e7 5 = .ok (.if_icmp .ne 23, 3) := by decide +kernel
theorem dJ0_getBytes_840e7_8 : decode cJ0_getBytes_840e7 8 = .ok (.aload_n 0, 1) := by decide +kernel
theorem dJ0_getBytes_840e7_9 : decode cJ0_getBytes_840e7 9 = .ok (.getfield 9, 3) := by decide +kernel
theorem dJ0_getBytes_840e7_12 : decode cJ0_getBytes_840e7 12 = .ok (.iconst 0, 1) := by decide +kernel
theorem dJ0_getBytes_840e7_13 : decode cJ0_getBytes_840e7 13 = .ok (.aload_n 1, 1) := by decide +kernel
theorem dJ0_getBytes_840e7_14 : decode cJ0_getBytes_840e7 14 = .ok (.iload_n 2, 1) := by decide +kernel
theorem dJ0_getBytes_840e7_15 : decode cJ0_getBytes_840e7 15 = .ok (.iload_n 3, 1) := by decide +kernel
theorem dJ0_getBytes_840e7_16 : decode cJ0_getBytes_840e7 16 = .ok (.ishl, 1) := by decide +kernel
theorem dJ0_getBytes_840e7_17 : decode cJ0_getBytes_840e7 17 = .ok (.aload_n 0, 1) := by decide +kernel
theorem dJ0_getBytes_840e7_18 : decode cJ0_getBytes_840e7 18 = .ok (.getfield 9, 3) := by decide +kernel
theorem dJ0_getBytes_840e7_21 : decode cJ0_getBytes_840e7 21 = .ok (.arraylength, 1) := by decide +kernel
theorem dJ0_getBytes_840e7_22 : decode cJ0_getBytes_840e7 22 = .ok (.invokestatic 212, 3) := by decide +kernel
theorem dJ0_getBytes_840e7_25 : decode cJ0_getBytes_840e7 25 = .ok (.goto 18, 3) := by decide +kernel
theorem dJ0_getBytes_840e7_28 : decode cJ0_getBytes_840e7 28 = .ok (.aload_n 0, 1) := by decide +kernel
theorem dJ0_getBytes_840e7_29 : decode cJ0_getBytes_840e7 29 = .ok (.getfield 9, 3) := by decide +kernel
theorem dJ0_getBytes_840e7_32 : decode cJ0_getBytes_840e7 32 = .ok (.iconst 0, 1) := by decide +kernel
theorem dJ0_getBytes_840e7_33 : decode cJ0_getBytes_840e7 33 = .ok (.aload_n 1, 1) := by decide +kernel
theorem dJ0_getBytes_840e7_34 : decode cJ0_getBytes_840e7 34 = .ok (.iload_n 2, 1) := by decide +kernel
theorem dJ0_getBytes_840e7_35 : decode cJ0_getBytes_840e7 35 = .ok (.aload_n 0, 1) := by decide +kernel
theorem dJ0_getBytes_840e7_36 : decode cJ0_getBytes_840e7 36 = .ok (.getfield 9, 3) := by decide +kernel
theorem dJ0_getBytes_840e7_39 : decode cJ0_getBytes_840e7 39 = .ok (.arraylength, 1) := by decide +kernel
theorem dJ0_getBytes_840e7_40 : decode cJ0_getBytes_840e7 40 = .ok (.invokestatic 106, 3) := by decide +kernel
theorem dJ0_getBytes_840e7_43 : decode cJ0_getBytes_840e7 43 = .ok (.return_, 1) := by decide +kernel
theorem dJ0_init_db425_0 : decode cJ0_init_db425 0 = .ok (.aload_n 0, 1) := by decide +kernel
theorem dJ0_init_db425_1 : decode cJ0_init_db425 1 = .ok (.invokespecial 1, 3) := by decide +kernel
theorem dJ0_init_db425_4 : decode cJ0_init_db425 4 = .ok (.aload_n 1, 1) := by decide +kernel
theorem dJ0_init_db425_5 : decode cJ0_init_db425 5 = .ok (.invokevirtual 552, 3) := by decide +kernel
theorem dJ0_init_db425_8 : decode cJ0_init_db425 8 = .ok (.astore_n 3, 1) := by decide +kernel
theorem dJ0_init_db425_9 : decode cJ0_init_db425 9 = .ok (.aload_n 1, 1) := by decide +kernel
theorem dJ0_init_db425_10 : decode cJ0_init_db425 10 = .ok (.invokevirtual 549, 3) := by decide +kernel
theorem dJ0_init_db425_13 : decode cJ0_init_db425 13 = .ok (.istore 4, 2) := by decide +kernel
theorem dJ0_init_db425_15 : decode cJ0_init_db425 15 = .ok (.aload_n 1, 1) := by decide +kernel
theorem dJ0_init_db425_16 : decode cJ0_init_db425 16 = .ok (.invokevirtual 1047, 3) := by decide +kernel
theorem dJ0_init_db425_19 : decode cJ0_init_db425 19 = .ok (.ifCond .eq 22, 3) := by decide +kernel
theorem dJ0_init_db425_22 : decode cJ0_init_db425 22 = .ok (.aload_n 0, 1) := by decide +kernel
theorem dJ0_init_db425_23 : decode cJ0_init_db425 23 = .ok (.iconst 0, 1) := by decide +kernel
theorem dJ0_init_db425_24 : decode cJ0_init_db425 24 = .ok (.putfield 15, 3) := by decide +kernel
theorem dJ0_init_db425_27 : decode cJ0_init_db425 27 = .ok (.aload_n 0, 1) := by decide +kernel
theorem dJ0_init_db425_28 : decode cJ0_init_db425 28 = .ok (.aload_n 3, 1) := by decide +kernel
theorem dJ0_init_db425_29 : decode cJ0_init_db425 29 = .ok (.iconst 0, 1) := by decide +kernel
theorem dJ0_init_db425_30 : decode cJ0_init_db425 30 = .ok (.iload 4, 2) := by decide +kernel
theorem dJ0_init_db425_32 : decode cJ0_init_db425 32 = .ok (.invokestatic 54, 3) := by decide +kernel
theorem dJ0_init_db425_35 : decode cJ0_init_db425 35 = .ok (.putfield 9, 3) := by decide +kernel
theorem dJ0_init_db425_38 : decode cJ0_init_db425 38 = .ok (.goto 59, 3) := by decide +kernel
theorem dJ0_init_db425_41 : decode cJ0_init_db425 41 = .ok (.getstatic 38, 3) := by decide +kernel
theorem dJ0_init_db425_44 : decode cJ0_init_db425 44 = .ok (.ifCond .eq 35, 3) := by decide +kernel
