theorem dX0_init_0 : decode cX0_init 0 = .ok (.aload_n 0, 1) := by decide +kernel
theorem dX0_init_1 : decode cX0_init 1 = .ok (.invokespecial 3, 3) := by decide +kernel
theorem dX0_init_4 : decode cX0_init 4 = .ok (.aload_n 0, 1) := by decide +kernel
theorem dX0_init_5 : decode cX0_init 5 = .ok (.bipush 12, 2) := by decide +kernel
theorem dX0_init_7 : decode cX0_init 7 = .ok (.newarray .int, 2) := by decide +kernel
theorem dX0_init_9 : decode cX0_init 9 = .ok (.putfield 9, 3) := by decide +kernel
theorem dX0_init_12 : decode cX0_init 12 = .ok (.aload_n 0, 1) := by decide +kernel
theorem dX0_init_13 : decode cX0_init 13 = .ok (.bipush 12, 2) := by decide +kernel
theorem dX0_init_15 : decode cX0_init 15 = .ok (.newarray .int, 2) := by decide +kernel
theorem dX0_init_17 : decode cX0_init 17 = .ok (.putfield 15, 3) := by decide +kernel
theorem dX0_init_20 : decode cX0_init 20 = .ok (.aload_n 0, 1) := by decide +kernel
theorem dX0_init_21 : decode cX0_init 21 = .ok (.sipush 720, 3) := by decide +kernel
theorem dX0_init_24 : decode cX0_init 24 = .ok (.newarray .int, 2) := by decide +kernel
theorem dX0_init_26 : decode cX0_init 26 = .ok (.putfield 18, 3) := by decide +kernel
theorem dX0_init_29 : decode cX0_init 29 = .ok (.aload_n 0, 1) := by decide +kernel
theorem dX0_init_30 : decode cX0_init 30 = .ok (.sipush 144, 3) := by decide +kernel
theorem dX0_init_33 : decode cX0_init 33 = .ok (.newarray .int, 2) := by decide +kernel
theorem dX0_init_35 : decode cX0_init 35 = .ok (.putfield 21, 3) := by decide +kernel
theorem dX0_init_38 : decode cX0_init 38 = .ok (.aload_n 0, 1) := by decide +kernel
theorem dX0_init_39 : decode cX0_init 39 = .ok (.iconst 5, 1) := by decide +kernel
theorem dX0_init_40 : decode cX0_init 40 = .ok (.newarray .int, 2) := by decide +kernel
theorem dX0_init_42 : decode cX0_init 42 = .ok (.putfield 24, 3) := by decide +kernel
theorem dX0_init_45 : decode cX0_init 45 = .ok (.aload_n 0, 1) := by decide +kernel
theorem dX0_init_46 : decode cX0_init 46 = .ok (.iconst 0, 1) := by decide +kernel
theorem dX0_init_47 : decode cX0_init 47 = .ok (.putfield 27, 3) := by decide +kernel
theorem dX0_init_50 : decode cX0_init 50 = .ok (.aload_n 0, 1) := by decide +kernel
theorem dX0_init_51 : decode cX0_init 51 = .ok (.iconst 0, 1) := by decide +kernel
theorem dX0_init_52 : decode cX0_init 52 = .ok (.putfield 31, 3) := by decide +kernel
theorem dX0_init_55 : decode cX0_init 55 = .ok (.aload_n 0, 1) := by decide +kernel
theorem dX0_init_56 : decode cX0_init 56 = .ok (.iconst 0, 1) := by decide +kernel
theorem dX0_init_57 : decode cX0_init 57 = .ok (.putfield 34, 3) := by decide +kernel
theorem dX0_init_60 : decode cX0_init 60 = .ok (.aload_n 0, 1) := by decide +kernel
theorem dX0_init_61 : decode cX0_init 61 = .ok (.iconst (-1), 1) := by decide +kernel
theorem dX0_init_62 : decode cX0_init 62 = .ok (.putfield 37, 3) := by decide +kernel
theorem dX0_init_65 : decode cX0_init 65 = .ok (.return_, 1) := by decide +kernel
theorem dX0_standNow_0 : decode cX0_standNow 0 = .ok (.aload_n 1, 1) := by decide +kernel
theorem dX0_standNow_1 : decode cX0_standNow 1 = .ok (.getfield 40, 3) := by decide +kernel
theorem dX0_standNow_4 : decode cX0_standNow 4 = .ok (.astore_n 2, 1) := by decide +kernel
theorem dX0_standNow_5 : decode cX0_standNow 5 = .ok (.aload_n 0, 1) := by decide +kernel
theorem dX0_standNow_6 : decode cX0_standNow 6 = .ok (.bipush 12, 2) := by decide +kernel
theorem dX0_standNow_8 : decode cX0_standNow 8 = .ok (.aload_n 2, 1) := by decide +kernel
theorem dX0_standNow_9 : decode cX0_standNow 9 = .ok (.getfield 46, 3) := by decide +kernel
theorem dX0_standNow_12 : decode cX0_standNow 12 = .ok (.invokestatic 49, 3) := by decide +kernel
theorem dX0_standNow_15 : decode cX0_standNow 15 = .ok (.putfield 27, 3) := by decide +kernel
theorem dX0_standNow_18 : decode cX0_standNow 18 = .ok (.aload_n 0, 1) := by decide +kernel
theorem dX0_standNow_19 : decode cX0_standNow 19 = .ok (.iconst 5, 1) := by decide +kernel
theorem dX0_standNow_20 : decode cX0_standNow 20 = .ok (.aload_n 2, 1) := by decide +kernel
theorem dX0_standNow_21 : decode cX0_standNow 21 = .ok (.getfield 55, 3) := by decide +kernel
theorem dX0_standNow_24 : decode cX0_standNow 24 = .ok (.invokestatic 49, 3) := by decide +kernel
theorem dX0_standNow_27 : decode cX0_standNow 27 = .ok (.putfield 31, 3) := by decide +kernel
theorem dX0_standNow_30 : decode cX0_standNow 30 = .ok (.iconst 0, 1) := by decide +kernel
theorem dX0_standNow_31 : decode cX0_standNow 31 = .ok (.istore_n 3, 1) := by decide +kernel
theorem dX0_standNow_32 : decode cX0_standNow 32 = .ok (.iload_n 3, 1) := by decide +kernel
theorem dX0_standNow_33 : decode cX0_standNow 33 = .ok (.aload_n 0, 1) := by decide +kernel
theorem dX0_standNow_34 : decode cX0_standNow 34 = .ok (.getfield 27, 3) := by decide +kernel
theorem dX0_standNow_37 : decode cX0_standNow 37 = .ok (.if_icmp .ge 120, 3) := by decide +kernel
theorem dX0_standNow_40 : decode cX0_standNow 40 = .ok (.aload_n 0, 1) := by decide +kernel
theorem dX0_standNow_41 : decode cX0_standNow 41 = .ok (.getfield 9, 3) := by decide +kernel
theorem dX0_standNow_44 : decode cX0_standNow 44 = .ok (.iload_n 3, 1) := by decide +kernel
theorem dX0_standNow_45 : decode cX0_standNow 45 = .ok (.aload_n 1, 1) := by decide +kernel
theorem dX0_standNow_46 : decode cX0_standNow 46 = .ok (.iload_n 3, 1) := by decide +kernel
theorem dX0_standNow_47 : decode cX0_standNow 47 = .ok (.invokevirtual 56, 3) := by decide +kernel
theorem dX0_standNow_50 : decode cX0_standNow 50 = .ok (.iastore, 1) := by decide +kernel
theorem dX0_standNow_51 : decode cX0_standNow 51 = .ok (.aload_n 0, 1) := by decide +kernel
theorem dX0_standNow_52 : decode cX0_standNow 52 = .ok (.getfield 15, 3) := by decide +kernel
theorem dX0_standNow_55 : decode cX0_standNow 55 = .ok (.iload_n 3, 1) := by decide +kernel
theorem dX0_standNow_56 : decode cX0_standNow 56 = .ok (.aload_n 1, 1) := by decide +kernel
theorem dX0_standNow_57 : decode cX0_standNow 57 = .ok (.iload_n 3, 1) := by decide +kernel
theorem dX0_standNow_58 : decode cX0_standNow 58 = .ok (.invokevirtual 60, 3) := by decide +kernel
theorem dX0_standNow_61 : decode cX0_standNow 61 = .ok (.iastore, 1) := by decide +kernel
theorem dX0_standNow_62 : decode cX0_standNow 62 = .ok (.aload_n 0, 1) := by decide +kernel
theorem dX0_standNow_63 : decode cX0_standNow 63 = .ok (.getfield 15, 3) := by decide +kernel
theorem dX0_standNow_66 : decode cX0_standNow 66 = .ok (.iload_n 3, 1) := by decide +kernel
theorem dX0_standNow_67 : decode cX0_standNow 67 = .ok (.iaload, 1) := by decide +kernel
theorem dX0_standNow_68 : decode cX0_standNow 68 = .ok (.invokestatic 63, 3) := by decide +kernel
theorem dX0_standNow_71 : decode cX0_standNow 71 = .ok (.istore 4, 2) := by decide +kernel
theorem dX0_standNow_73 : decode cX0_standNow 73 = .ok (.iconst 0, 1) := by decide +kernel
theorem dX0_standNow_74 : decode cX0_standNow 74 = .ok (.istore 5, 2) := by decide +kernel
theorem dX0_standNow_76 : decode cX0_standNow 76 = .ok (.iload 5, 2) := by decide +kernel
theorem dX0_standNow_78 : decode cX0_standNow 78 = .ok (.aload_n 0, 1) := by decide +kernel
theorem dX0_standNow_79 : decode cX0_standNow 79 = .ok (.getfield 31, 3) := by decide +kernel
theorem dX0_standNow_82 : decode cX0_standNow 82 = .ok (.if_icmp .ge 69, 3) := by decide +kernel
theorem dX0_standNow_85 : decode cX0_standNow 85 = .ok (.aload_n 2, 1) := by decide +kernel
theorem dX0_standNow_86 : decode cX0_standNow 86 = .ok (.iload_n 3, 1) := by decide +kernel
theorem dX0_standNow_87 : decode cX0_standNow 87 = .ok (.iload 5, 2) := by decide +kernel
theorem dX0_standNow_89 : decode cX0_standNow 89 = .ok (.invokevirtual 68, 3) := by decide +kernel
theorem dX0_standNow_92 : decode cX0_standNow 92 = .ok (.istore 6, 2) := by decide +kernel
theorem dX0_standNow_94 : decode cX0_standNow 94 = .ok (.iconst 0, 1) := by decide +kernel
theorem dX0_standNow_95 : decode cX0_standNow 95 = .ok (.istore 7, 2) := by decide +kernel
theorem dX0_standNow_97 : decode cX0_standNow 97 = .ok (.iload 7, 2) := by decide +kernel
theorem dX0_standNow_99 : decode cX0_standNow 99 = .ok (.iload 4, 2) := by decide +kernel
theorem dX0_standNow_101 : decode cX0_standNow 101 = .ok (.if_icmp .gt 44, 3) := by decide +kernel
theorem dX0_standNow_104 : decode cX0_standNow 104 = .ok (.iload 7, 2) := by decide +kernel
theorem dX0_standNow_106 : decode cX0_standNow 106 = .ok (.bipush 12, 2) := by decide +kernel
theorem dX0_standNow_108 : decode cX0_standNow 108 = .ok (.if_icmp .ge 37, 3) := by decide +kernel
theorem dX0_standNow_111 : decode cX0_standNow 111 = .ok (.aload_n 0, 1) := by decide +kernel
theorem dX0_standNow_112 : decode cX0_standNow 112 = .ok (.getfield 18, 3) := by decide +kernel
theorem dX0_standNow_115 : decode cX0_standNow 115 = .ok (.iload_n 3, 1) := by decide +kernel
theorem dX0_standNow_116 : decode cX0_standNow 116 = .ok (.iconst 5, 1) := by decide +kernel
theorem dX0_standNow_117 : decode cX0_standNow 117 = .ok (.imul, 1) := by decide +kernel
theorem dX0_standNow_118 : decode cX0_standNow 118 = .ok (.iload 5, 2) := by decide +kernel
theorem dX0_standNow_120 : decode cX0_standNow 120 = .ok (.iadd, 1) := by decide +kernel
theorem dX0_standNow_121 : decode cX0_standNow 121 = .ok (.bipush 12, 2) := by decide +kernel
theorem dX0_standNow_123 : decode cX0_standNow 123 = .ok (.imul, 1) := by decide +kernel
theorem dX0_standNow_124 : decode cX0_standNow 124 = .ok (.iload 7, 2) := by decide +kernel
theorem dX0_standNow_126 : decode cX0_standNow 126 = .ok (.iadd, 1) := by decide +kernel
theorem dX0_standNow_127 : decode cX0_standNow 127 = .ok (.aload_n 1, 1) := by decide +kernel
theorem dX0_standNow_128 : decode cX0_standNow 128 = .ok (.iload_n 3, 1) := by decide +kernel
theorem dX0_standNow_129 : decode cX0_standNow 129 = .ok (.iload 5, 2) := by decide +kernel
theorem dX0_standNow_131 : decode cX0_standNow 131 = .ok (.iload 6, 2) := by decide +kernel
theorem dX0_standNow_133 : decode cX0_standNow 133 = .ok (.iload 7, 2) := by decide +kernel
theorem dX0_standNow_135 : decode cX0_standNow 135 = .ok (.invokevirtual 71, 3) := by decide +kernel
theorem dX0_standNow_138 : decode cX0_standNow 138 = .ok (.iastore, 1) := by decide +kernel
theorem dX0_standNow_139 : decode cX0_standNow 139 = .ok (.iinc 7 1, 3) := by decide +kernel
theorem dX0_standNow_142 : decode cX0_standNow 142 = .ok (.goto (-45), 3) := by decide +kernel
theorem dX0_standNow_145 : decode cX0_standNow 145 = .ok (.iinc 5 1, 3) := by decide +kernel
theorem dX0_standNow_148 : decode cX0_standNow 148 = .ok (.goto (-72), 3) := by decide +kernel
theorem dX0_standNow_151 : decode cX0_standNow 151 = .ok (.iinc 3 1, 3) := by decide +kernel
theorem dX0_standNow_154 : decode cX0_standNow 154 = .ok (.goto (-122), 3) := by decide +kernel
theorem dX0_standNow_157 : decode cX0_standNow 157 = .ok (.aload_n 0, 1) := by decide +kernel
theorem dX0_standNow_158 : decode cX0_standNow 158 = .ok (.aload_n 2, 1) := by decide +kernel
theorem dX0_standNow_159 : decode cX0_standNow 159 = .ok (.invokevirtual 75, 3) := by decide +kernel
theorem dX0_standNow_162 : decode cX0_standNow 162 = .ok (.iconst 0, 1) := by decide +kernel
theorem dX0_standNow_163 : decode cX0_standNow 163 = .ok (.iconst (-1), 1) := by decide +kernel
theorem dX0_standNow_164 : decode cX0_standNow 164 = .ok (.invokevirtual 79, 3) := by decide +kernel
theorem dX0_standNow_167 : decode cX0_standNow 167 = .ok (.return_, 1) := by decide +kernel
theorem dX0_settle_0 : decode cX0_settle 0 = .ok (.aload_n 0, 1) := by decide +kernel
theorem dX0_settle_1 : decode cX0_settle 1 = .ok (.getfield 24, 3) := by decide +kernel
theorem dX0_settle_4 : decode cX0_settle 4 = .ok (.iconst 0, 1) := by decide +kernel
theorem dX0_settle_5 : decode cX0_settle 5 = .ok (.invokestatic 90, 3) := by decide +kernel
theorem dX0_settle_8 : decode cX0_settle 8 = .ok (.iconst 1, 1) := by decide +kernel
theorem dX0_settle_9 : decode cX0_settle 9 = .ok (.aload_n 0, 1) := by decide +kernel
theorem dX0_settle_10 : decode cX0_settle 10 = .ok (.getfield 27, 3) := by decide +kernel
theorem dX0_settle_13 : decode cX0_settle 13 = .ok (.ishl, 1) := by decide +kernel
theorem dX0_settle_14 : decode cX0_settle 14 = .ok (.iconst 1, 1) := by decide +kernel
theorem dX0_settle_15 : decode cX0_settle 15 = .ok (.isub, 1) := by decide +kernel
theorem dX0_settle_16 : decode cX0_settle 16 = .ok (.iload_n 1, 1) := by decide +kernel
theorem dX0_settle_17 : decode cX0_settle 17 = .ok (.iconst (-1), 1) := by decide +kernel
theorem dX0_settle_18 : decode cX0_settle 18 = .ok (.ixor, 1) := by decide +kernel
theorem dX0_settle_19 : decode cX0_settle 19 = .ok (.iand, 1) := by decide +kernel
theorem dX0_settle_20 : decode cX0_settle 20 = .ok (.istore 4, 2) := by decide +kernel
theorem dX0_settle_22 : decode cX0_settle 22 = .ok (.aload_n 0, 1) := by decide +kernel
theorem dX0_settle_23 : decode cX0_settle 23 = .ok (.iconst 0, 1) := by decide +kernel
theorem dX0_settle_24 : decode cX0_settle 24 = .ok (.putfield 34, 3) := by decide +kernel
theorem dX0_settle_27 : decode cX0_settle 27 = .ok (.iconst (-1), 1) := by decide +kernel
theorem dX0_settle_28 : decode cX0_settle 28 = .ok (.istore 5, 2) := by decide +kernel
theorem dX0_settle_30 : decode cX0_settle 30 = .ok (.iconst 0, 1) := by decide +kernel
theorem dX0_settle_31 : decode cX0_settle 31 = .ok (.istore 6, 2) := by decide +kernel
theorem dX0_settle_33 : decode cX0_settle 33 = .ok (.iload 6, 2) := by decide +kernel
theorem dX0_settle_35 : decode cX0_settle 35 = .ok (.bipush 12, 2) := by decide +kernel
theorem dX0_settle_37 : decode cX0_settle 37 = .ok (.if_icmp .gt 127, 3) := by decide +kernel
theorem dX0_settle_40 : decode cX0_settle 40 = .ok (.iload 5, 2) := by decide +kernel
theorem dX0_settle_42 : decode cX0_settle 42 = .ok (.iload 4, 2) := by decide +kernel
theorem dX0_settle_44 : decode cX0_settle 44 = .ok (.if_icmp .eq 120, 3) := by decide +kernel
theorem dX0_settle_47 : decode cX0_settle 47 = .ok (.iload 4, 2) := by decide +kernel
theorem dX0_settle_49 : decode cX0_settle 49 = .ok (.istore 5, 2) := by decide +kernel
theorem dX0_settle_51 : decode cX0_settle 51 = .ok (.iconst 0, 1) := by decide +kernel
theorem dX0_settle_52 : decode cX0_settle 52 = .ok (.istore 7, 2) := by decide +kernel
theorem dX0_settle_54 : decode cX0_settle 54 = .ok (.iload 7, 2) := by decide +kernel
theorem dX0_settle_56 : decode cX0_settle 56 = .ok (.aload_n 0, 1) := by decide +kernel
theorem dX0_settle_57 : decode cX0_settle 57 = .ok (.getfield 27, 3) := by decide +kernel
theorem dX0_settle_60 : decode cX0_settle 60 = .ok (.if_icmp .ge 81, 3) := by decide +kernel
theorem dX0_settle_63 : decode cX0_settle 63 = .ok (.iload 4, 2) := by decide +kernel
theorem dX0_settle_65 : decode cX0_settle 65 = .ok (.iload 7, 2) := by decide +kernel
theorem dX0_settle_67 : decode cX0_settle 67 = .ok (.invokestatic 96, 3) := by decide +kernel
theorem dX0_settle_70 : decode cX0_settle 70 = .ok (.ifCond .eq 26, 3) := by decide +kernel
theorem dX0_settle_73 : decode cX0_settle 73 = .ok (.aload_n 0, 1) := by decide +kernel
theorem dX0_settle_74 : decode cX0_settle 74 = .ok (.iload 7, 2) := by decide +kernel
theorem dX0_settle_76 : decode cX0_settle 76 = .ok (.iload_n 2, 1) := by decide +kernel
theorem dX0_settle_77 : decode cX0_settle 77 = .ok (.iload 7, 2) := by decide +kernel
theorem dX0_settle_79 : decode cX0_settle 79 = .ok (.invokestatic 96, 3) := by decide +kernel
theorem dX0_settle_82 : decode cX0_settle 82 = .ok (.ifCond .eq 7, 3) := by decide +kernel
theorem dX0_settle_85 : decode cX0_settle 85 = .ok (.iload_n 3, 1) := by decide +kernel
theorem dX0_settle_86 : decode cX0_settle 86 = .ok (.goto 4, 3) := by decide +kernel
theorem dX0_settle_89 : decode cX0_settle 89 = .ok (.iconst (-1), 1) := by decide +kernel
theorem dX0_settle_90 : decode cX0_settle 90 = .ok (.invokevirtual 100, 3) := by decide +kernel
theorem dX0_settle_93 : decode cX0_settle 93 = .ok (.goto 4, 3) := by decide +kernel
theorem dX0_settle_96 : decode cX0_settle 96 = .ok (.iconst (-1), 1) := by decide +kernel
theorem dX0_settle_97 : decode cX0_settle 97 = .ok (.istore 8, 2) := by decide +kernel
theorem dX0_settle_99 : decode cX0_settle 99 = .ok (.iload 8, 2) := by decide +kernel
theorem dX0_settle_101 : decode cX0_settle 101 = .ok (.ifCond .lt 34, 3) := by decide +kernel
theorem dX0_settle_104 : decode cX0_settle 104 = .ok (.iload 8, 2) := by decide +kernel
theorem dX0_settle_106 : decode cX0_settle 106 = .ok (.iconst 5, 1) := by decide +kernel
theorem dX0_settle_107 : decode cX0_settle 107 = .ok (.if_icmp .ge 28, 3) := by decide +kernel
theorem dX0_settle_110 : decode cX0_settle 110 = .ok (.aload_n 0, 1) := by decide +kernel
theorem dX0_settle_111 : decode cX0_settle 111 = .ok (.getfield 24, 3) := by decide +kernel
theorem dX0_settle_114 : decode cX0_settle 114 = .ok (.iload 8, 2) := by decide +kernel
theorem dX0_settle_116 : decode cX0_settle 116 = .ok (.dup2, 1) := by decide +kernel
theorem dX0_settle_117 : decode cX0_settle 117 = .ok (.iaload, 1) := by decide +kernel
theorem dX0_settle_118 : decode cX0_settle 118 = .ok (.iconst 1, 1) := by decide +kernel
theorem dX0_settle_119 : decode cX0_settle 119 = .ok (.iload 7, 2) := by decide +kernel
theorem dX0_settle_121 : decode cX0_settle 121 = .ok (.ishl, 1) := by decide +kernel
theorem dX0_settle_122 : decode cX0_settle 122 = .ok (.ior, 1) := by decide +kernel
theorem dX0_settle_123 : decode cX0_settle 123 = .ok (.iastore, 1) := by decide +kernel
theorem dX0_settle_124 : decode cX0_settle 124 = .ok (.iload 4, 2) := by decide +kernel
theorem dX0_settle_126 : decode cX0_settle 126 = .ok (.iconst 1, 1) := by decide +kernel
theorem dX0_settle_127 : decode cX0_settle 127 = .ok (.iload 7, 2) := by decide +kernel
theorem dX0_settle_129 : decode cX0_settle 129 = .ok (.ishl, 1) := by decide +kernel
theorem dX0_settle_130 : decode cX0_settle 130 = .ok (.iconst (-1), 1) := by decide +kernel
theorem dX0_settle_131 : decode cX0_settle 131 = .ok (.ixor, 1) := by decide +kernel
theorem dX0_settle_132 : decode cX0_settle 132 = .ok (.iand, 1) := by decide +kernel
theorem dX0_settle_133 : decode cX0_settle 133 = .ok (.istore 4, 2) := by decide +kernel
theorem dX0_settle_135 : decode cX0_settle 135 = .ok (.iinc 7 1, 3) := by decide +kernel
theorem dX0_settle_138 : decode cX0_settle 138 = .ok (.goto (-84), 3) := by decide +kernel
theorem dX0_settle_141 : decode cX0_settle 141 = .ok (.iload 5, 2) := by decide +kernel
theorem dX0_settle_143 : decode cX0_settle 143 = .ok (.iload 4, 2) := by decide +kernel
theorem dX0_settle_145 : decode cX0_settle 145 = .ok (.if_icmp .eq 13, 3) := by decide +kernel
theorem dX0_settle_148 : decode cX0_settle 148 = .ok (.aload_n 0, 1) := by decide +kernel
theorem dX0_settle_149 : decode cX0_settle 149 = .ok (.dup, 1) := by decide +kernel
theorem dX0_settle_150 : decode cX0_settle 150 = .ok (.getfield 34, 3) := by decide +kernel
theorem dX0_settle_153 : decode cX0_settle 153 = .ok (.iconst 1, 1) := by decide +kernel
theorem dX0_settle_154 : decode cX0_settle 154 = .ok (.iadd, 1) := by decide +kernel
theorem dX0_settle_155 : decode cX0_settle 155 = .ok (.putfield 34, 3) := by decide +kernel
theorem dX0_settle_158 : decode cX0_settle 158 = .ok (.iinc 6 1, 3) := by decide +kernel
theorem dX0_settle_161 : decode cX0_settle 161 = .ok (.goto (-128), 3) := by decide +kernel
theorem dX0_settle_164 : decode cX0_settle 164 = .ok (.aload_n 0, 1) := by decide +kernel
theorem dX0_settle_165 : decode cX0_settle 165 = .ok (.aload_n 0, 1) := by decide +kernel
theorem dX0_settle_166 : decode cX0_settle 166 = .ok (.invokevirtual 103, 3) := by decide +kernel
theorem dX0_settle_169 : decode cX0_settle 169 = .ok (.putfield 37, 3) := by decide +kernel
theorem dX0_settle_172 : decode cX0_settle 172 = .ok (.return_, 1) := by decide +kernel
theorem dX0_choose_0 : decode cX0_choose 0 = .ok (.iload_n 1, 1) := by decide +kernel
theorem dX0_choose_1 : decode cX0_choose 1 = .ok (.ifCond .lt 9, 3) := by decide +kernel
theorem dX0_choose_4 : decode cX0_choose 4 = .ok (.iload_n 1, 1) := by decide +kernel
theorem dX0_choose_5 : decode cX0_choose 5 = .ok (.bipush 12, 2) := by decide +kernel
theorem dX0_choose_7 : decode cX0_choose 7 = .ok (.if_icmp .lt 5, 3) := by decide +kernel
theorem dX0_choose_10 : decode cX0_choose 10 = .ok (.iconst (-1), 1) := by decide +kernel
theorem dX0_choose_11 : decode cX0_choose 11 = .ok (.ireturn, 1) := by decide +kernel
theorem dX0_choose_12 : decode cX0_choose 12 = .ok (.iconst (-1), 1) := by decide +kernel
theorem dX0_choose_13 : decode cX0_choose 13 = .ok (.istore_n 3, 1) := by decide +kernel
theorem dX0_choose_14 : decode cX0_choose 14 = .ok (.iconst (-1), 1) := by decide +kernel
theorem dX0_choose_15 : decode cX0_choose 15 = .ok (.istore 4, 2) := by decide +kernel
theorem dX0_choose_17 : decode cX0_choose 17 = .ok (.iconst 0, 1) := by decide +kernel
theorem dX0_choose_18 : decode cX0_choose 18 = .ok (.istore 5, 2) := by decide +kernel
theorem dX0_choose_20 : decode cX0_choose 20 = .ok (.iload 5, 2) := by decide +kernel
theorem dX0_choose_22 : decode cX0_choose 22 = .ok (.aload_n 0, 1) := by decide +kernel
theorem dX0_choose_23 : decode cX0_choose 23 = .ok (.getfield 31, 3) := by decide +kernel
theorem dX0_choose_26 : decode cX0_choose 26 = .ok (.if_icmp .ge 98, 3) := by decide +kernel
theorem dX0_choose_29 : decode cX0_choose 29 = .ok (.iload 5, 2) := by decide +kernel
theorem dX0_choose_31 : decode cX0_choose 31 = .ok (.iconst 5, 1) := by decide +kernel
theorem dX0_choose_32 : decode cX0_choose 32 = .ok (.if_icmp .ge 92, 3) := by decide +kernel
theorem dX0_choose_35 : decode cX0_choose 35 = .ok (.aload_n 0, 1) := by decide +kernel
theorem dX0_choose_36 : decode cX0_choose 36 = .ok (.getfield 15, 3) := by decide +kernel
theorem dX0_choose_39 : decode cX0_choose 39 = .ok (.iload_n 1, 1) := by decide +kernel
theorem dX0_choose_40 : decode cX0_choose 40 = .ok (.iaload, 1) := by decide +kernel
theorem dX0_choose_41 : decode cX0_choose 41 = .ok (.aload_n 0, 1) := by decide +kernel
theorem dX0_choose_42 : decode cX0_choose 42 = .ok (.getfield 24, 3) := by decide +kernel
theorem dX0_choose_45 : decode cX0_choose 45 = .ok (.iload 5, 2) := by decide +kernel
theorem dX0_choose_47 : decode cX0_choose 47 = .ok (.iaload, 1) := by decide +kernel
theorem dX0_choose_48 : decode cX0_choose 48 = .ok (.iand, 1) := by decide +kernel
theorem dX0_choose_49 : decode cX0_choose 49 = .ok (.invokestatic 63, 3) := by decide +kernel
theorem dX0_choose_52 : decode cX0_choose 52 = .ok (.istore 6, 2) := by decide +kernel
theorem dX0_choose_54 : decode cX0_choose 54 = .ok (.iconst 0, 1) := by decide +kernel
theorem dX0_choose_55 : decode cX0_choose 55 = .ok (.istore 7, 2) := by decide +kernel
theorem dX0_choose_57 : decode cX0_choose 57 = .ok (.iload 6, 2) := by decide +kernel
theorem dX0_choose_59 : decode cX0_choose 59 = .ok (.bipush 12, 2) := by decide +kernel
theorem dX0_choose_61 : decode cX0_choose 61 = .ok (.if_icmp .ge 43, 3) := by decide +kernel
theorem dX0_choose_64 : decode cX0_choose 64 = .ok (.iload 5, 2) := by decide +kernel
theorem dX0_choose_66 : decode cX0_choose 66 = .ok (.iload_n 2, 1) := by decide +kernel
theorem dX0_choose_67 : decode cX0_choose 67 = .ok (.if_icmp .ne 18, 3) := by decide +kernel
theorem dX0_choose_70 : decode cX0_choose 70 = .ok (.aload_n 0, 1) := by decide +kernel
theorem dX0_choose_71 : decode cX0_choose 71 = .ok (.getfield 21, 3) := by decide +kernel
theorem dX0_choose_74 : decode cX0_choose 74 = .ok (.iload_n 1, 1) := by decide +kernel
theorem dX0_choose_75 : decode cX0_choose 75 = .ok (.bipush 12, 2) := by decide +kernel
theorem dX0_choose_77 : decode cX0_choose 77 = .ok (.imul, 1) := by decide +kernel
theorem dX0_choose_78 : decode cX0_choose 78 = .ok (.iload 6, 2) := by decide +kernel
theorem dX0_choose_80 : decode cX0_choose 80 = .ok (.iadd, 1) := by decide +kernel
theorem dX0_choose_81 : decode cX0_choose 81 = .ok (.iaload, 1) := by decide +kernel
theorem dX0_choose_82 : decode cX0_choose 82 = .ok (.goto 20, 3) := by decide +kernel
theorem dX0_choose_85 : decode cX0_choose 85 = .ok (.aload_n 0, 1) := by decide +kernel
theorem dX0_choose_86 : decode cX0_choose 86 = .ok (.getfield 18, 3) := by decide +kernel
theorem dX0_choose_89 : decode cX0_choose 89 = .ok (.iload_n 1, 1) := by decide +kernel
theorem dX0_choose_90 : decode cX0_choose 90 = .ok (.iconst 5, 1) := by decide +kernel
theorem dX0_choose_91 : decode cX0_choose 91 = .ok (.imul, 1) := by decide +kernel
theorem dX0_choose_92 : decode cX0_choose 92 = .ok (.iload 5, 2) := by decide +kernel
theorem dX0_choose_94 : decode cX0_choose 94 = .ok (.iadd, 1) := by decide +kernel
theorem dX0_choose_95 : decode cX0_choose 95 = .ok (.bipush 12, 2) := by decide +kernel
theorem dX0_choose_97 : decode cX0_choose 97 = .ok (.imul, 1) := by decide +kernel
theorem dX0_choose_98 : decode cX0_choose 98 = .ok (.iload 6, 2) := by decide +kernel
theorem dX0_choose_100 : decode cX0_choose 100 = .ok (.iadd, 1) := by decide +kernel
theorem dX0_choose_101 : decode cX0_choose 101 = .ok (.iaload, 1) := by decide +kernel
theorem dX0_choose_102 : decode cX0_choose 102 = .ok (.istore 7, 2) := by decide +kernel
theorem dX0_choose_104 : decode cX0_choose 104 = .ok (.iload 7, 2) := by decide +kernel
theorem dX0_choose_106 : decode cX0_choose 106 = .ok (.iload 4, 2) := by decide +kernel
theorem dX0_choose_108 : decode cX0_choose 108 = .ok (.if_icmp .le 10, 3) := by decide +kernel
theorem dX0_choose_111 : decode cX0_choose 111 = .ok (.iload 7, 2) := by decide +kernel
theorem dX0_choose_113 : decode cX0_choose 113 = .ok (.istore 4, 2) := by decide +kernel
theorem dX0_choose_115 : decode cX0_choose 115 = .ok (.iload 5, 2) := by decide +kernel
theorem dX0_choose_117 : decode cX0_choose 117 = .ok (.istore_n 3, 1) := by decide +kernel
theorem dX0_choose_118 : decode cX0_choose 118 = .ok (.iinc 5 1, 3) := by decide +kernel
theorem dX0_choose_121 : decode cX0_choose 121 = .ok (.goto (-101), 3) := by decide +kernel
theorem dX0_choose_124 : decode cX0_choose 124 = .ok (.iload 4, 2) := by decide +kernel
theorem dX0_choose_126 : decode cX0_choose 126 = .ok (.aload_n 0, 1) := by decide +kernel
theorem dX0_choose_127 : decode cX0_choose 127 = .ok (.getfield 9, 3) := by decide +kernel
theorem dX0_choose_130 : decode cX0_choose 130 = .ok (.iload_n 1, 1) := by decide +kernel
theorem dX0_choose_131 : decode cX0_choose 131 = .ok (.iaload, 1) := by decide +kernel
theorem dX0_choose_132 : decode cX0_choose 132 = .ok (.if_icmp .lt 7, 3) := by decide +kernel
theorem dX0_choose_135 : decode cX0_choose 135 = .ok (.iload_n 3, 1) := by decide +kernel
theorem dX0_choose_136 : decode cX0_choose 136 = .ok (.goto 4, 3) := by decide +kernel
theorem dX0_choose_139 : decode cX0_choose 139 = .ok (.iconst (-1), 1) := by decide +kernel
theorem dX0_choose_140 : decode cX0_choose 140 = .ok (.ireturn, 1) := by decide +kernel
theorem dX0_leader_0 : decode cX0_leader 0 = .ok (.iconst (-1), 1) := by decide +kernel
theorem dX0_leader_1 : decode cX0_leader 1 = .ok (.istore_n 1, 1) := by decide +kernel
theorem dX0_leader_2 : decode cX0_leader 2 = .ok (.iconst 0, 1) := by decide +kernel
theorem dX0_leader_3 : decode cX0_leader 3 = .ok (.istore_n 2, 1) := by decide +kernel
theorem dX0_leader_4 : decode cX0_leader 4 = .ok (.iconst 0, 1) := by decide +kernel
theorem dX0_leader_5 : decode cX0_leader 5 = .ok (.istore_n 3, 1) := by decide +kernel
theorem dX0_leader_6 : decode cX0_leader 6 = .ok (.iload_n 3, 1) := by decide +kernel
theorem dX0_leader_7 : decode cX0_leader 7 = .ok (.aload_n 0, 1) := by decide +kernel
theorem dX0_leader_8 : decode cX0_leader 8 = .ok (.getfield 31, 3) := by decide +kernel
theorem dX0_leader_11 : decode cX0_leader 11 = .ok (.if_icmp .ge 47, 3) := by decide +kernel
theorem dX0_leader_14 : decode cX0_leader 14 = .ok (.iload_n 3, 1) := by decide +kernel
theorem dX0_leader_15 : decode cX0_leader 15 = .ok (.iconst 5, 1) := by decide +kernel
theorem dX0_leader_16 : decode cX0_leader 16 = .ok (.if_icmp .ge 42, 3) := by decide +kernel
theorem dX0_leader_19 : decode cX0_leader 19 = .ok (.aload_n 0, 1) := by decide +kernel
theorem dX0_leader_20 : decode cX0_leader 20 = .ok (.getfield 24, 3) := by decide +kernel
theorem dX0_leader_23 : decode cX0_leader 23 = .ok (.iload_n 3, 1) := by decide +kernel
theorem dX0_leader_24 : decode cX0_leader 24 = .ok (.iaload, 1) := by decide +kernel
theorem dX0_leader_25 : decode cX0_leader 25 = .ok (.invokestatic 63, 3) := by decide +kernel
theorem dX0_leader_28 : decode cX0_leader 28 = .ok (.istore 4, 2) := by decide +kernel
theorem dX0_leader_30 : decode cX0_leader 30 = .ok (.iload 4, 2) := by decide +kernel
theorem dX0_leader_32 : decode cX0_leader 32 = .ok (.iload_n 2, 1) := by decide +kernel
theorem dX0_leader_33 : decode cX0_leader 33 = .ok (.if_icmp .le 11, 3) := by decide +kernel
theorem dX0_leader_36 : decode cX0_leader 36 = .ok (.iload 4, 2) := by decide +kernel
theorem dX0_leader_38 : decode cX0_leader 38 = .ok (.istore_n 2, 1) := by decide +kernel
theorem dX0_leader_39 : decode cX0_leader 39 = .ok (.iload_n 3, 1) := by decide +kernel
theorem dX0_leader_40 : decode cX0_leader 40 = .ok (.istore_n 1, 1) := by decide +kernel
theorem dX0_leader_41 : decode cX0_leader 41 = .ok (.goto 11, 3) := by decide +kernel
theorem dX0_leader_44 : decode cX0_leader 44 = .ok (.iload 4, 2) := by decide +kernel
theorem dX0_leader_46 : decode cX0_leader 46 = .ok (.iload_n 2, 1) := by decide +kernel
theorem dX0_leader_47 : decode cX0_leader 47 = .ok (.if_icmp .ne 5, 3) := by decide +kernel
theorem dX0_leader_50 : decode cX0_leader 50 = .ok (.iconst (-1), 1) := by decide +kernel
theorem dX0_leader_51 : decode cX0_leader 51 = .ok (.istore_n 1, 1) := by decide +kernel
theorem dX0_leader_52 : decode cX0_leader 52 = .ok (.iinc 3 1, 3) := by decide +kernel
theorem dX0_leader_55 : decode cX0_leader 55 = .ok (.goto (-49), 3) := by decide +kernel
theorem dX0_leader_58 : decode cX0_leader 58 = .ok (.iload_n 1, 1) := by decide +kernel
theorem dX0_leader_59 : decode cX0_leader 59 = .ok (.ireturn, 1) := by decide +kernel
theorem dX0_choiceOf_0 : decode cX0_choiceOf 0 = .ok (.iconst 0, 1) := by decide +kernel
theorem dX0_choiceOf_1 : decode cX0_choiceOf 1 = .ok (.istore_n 2, 1) := by decide +kernel
theorem dX0_choiceOf_2 : decode cX0_choiceOf 2 = .ok (.iload_n 2, 1) := by decide +kernel
theorem dX0_choiceOf_3 : decode cX0_choiceOf 3 = .ok (.aload_n 0, 1) := by decide +kernel
theorem dX0_choiceOf_4 : decode cX0_choiceOf 4 = .ok (.getfield 31, 3) := by decide +kernel
theorem dX0_choiceOf_7 : decode cX0_choiceOf 7 = .ok (.if_icmp .ge 29, 3) := by decide +kernel
theorem dX0_choiceOf_10 : decode cX0_choiceOf 10 = .ok (.iload_n 2, 1) := by decide +kernel
theorem dX0_choiceOf_11 : decode cX0_choiceOf 11 = .ok (.iconst 5, 1) := by decide +kernel
theorem dX0_choiceOf_12 : decode cX0_choiceOf 12 = .ok (.if_icmp .ge 24, 3) := by decide +kernel
theorem dX0_choiceOf_15 : decode cX0_choiceOf 15 = .ok (.aload_n 0, 1) := by decide +kernel
theorem dX0_choiceOf_16 : decode cX0_choiceOf 16 = .ok (.getfield 24, 3) := by decide +kernel
theorem dX0_choiceOf_19 : decode cX0_choiceOf 19 = .ok (.iload_n 2, 1) := by decide +kernel
theorem dX0_choiceOf_20 : decode cX0_choiceOf 20 = .ok (.iaload, 1) := by decide +kernel
theorem dX0_choiceOf_21 : decode cX0_choiceOf 21 = .ok (.iload_n 1, 1) := by decide +kernel
theorem dX0_choiceOf_22 : decode cX0_choiceOf 22 = .ok (.invokestatic 96, 3) := by decide +kernel
theorem dX0_choiceOf_25 : decode cX0_choiceOf 25 = .ok (.ifCond .eq 5, 3) := by decide +kernel
theorem dX0_choiceOf_28 : decode cX0_choiceOf 28 = .ok (.iload_n 2, 1) := by decide +kernel
theorem dX0_choiceOf_29 : decode cX0_choiceOf 29 = .ok (.ireturn, 1) := by decide +kernel
theorem dX0_choiceOf_30 : decode cX0_choiceOf 30 = .ok (.iinc 2 1, 3) := by decide +kernel
theorem dX0_choiceOf_33 : decode cX0_choiceOf 33 = .ok (.goto (-31), 3) := by decide +kernel
theorem dX0_choiceOf_36 : decode cX0_choiceOf 36 = .ok (.iconst (-1), 1) := by decide +kernel
theorem dX0_choiceOf_37 : decode cX0_choiceOf 37 = .ok (.ireturn, 1) := by decide +kernel
theorem dX1_init_0 : decode cX1_init 0 = .ok (.aload_n 0, 1) := by decide +kernel
theorem dX1_init_1 : decode cX1_init 1 = .ok (.invokespecial 3, 3) := by decide +kernel
theorem dX1_init_4 : decode cX1_init 4 = .ok (.aload_n 0, 1) := by decide +kernel
theorem dX1_init_5 : decode cX1_init 5 = .ok (.bipush 6, 2) := by decide +kernel
theorem dX1_init_7 : decode cX1_init 7 = .ok (.anewarray 9, 3) := by decide +kernel
theorem dX1_init_10 : decode cX1_init 10 = .ok (.putfield 11, 3) := by decide +kernel
theorem dX1_init_13 : decode cX1_init 13 = .ok (.aload_n 0, 1) := by decide +kernel
theorem dX1_init_14 : decode cX1_init 14 = .ok (.iconst 0, 1) := by decide +kernel
theorem dX1_init_15 : decode cX1_init 15 = .ok (.putfield 17, 3) := by decide +kernel
theorem dX1_init_18 : decode cX1_init 18 = .ok (.iconst 0, 1) := by decide +kernel
theorem dX1_init_19 : decode cX1_init 19 = .ok (.istore_n 1, 1) := by decide +kernel
theorem dX1_init_20 : decode cX1_init 20 = .ok (.iload_n 1, 1) := by decide +kernel
theorem dX1_init_21 : decode cX1_init 21 = .ok (.bipush 6, 2) := by decide +kernel
theorem dX1_init_23 : decode cX1_init 23 = .ok (.if_icmp .ge 22, 3) := by decide +kernel
theorem dX1_init_26 : decode cX1_init 26 = .ok (.aload_n 0, 1) := by decide +kernel
theorem dX1_init_27 : decode cX1_init 27 = .ok (.getfield 11, 3) := by decide +kernel
theorem dX1_init_30 : decode cX1_init 30 = .ok (.iload_n 1, 1) := by decide +kernel
theorem dX1_init_31 : decode cX1_init 31 = .ok (.new 9, 3) := by decide +kernel
theorem dX1_init_34 : decode cX1_init 34 = .ok (.dup, 1) := by decide +kernel
theorem dX1_init_35 : decode cX1_init 35 = .ok (.invokespecial 21, 3) := by decide +kernel
theorem dX1_init_38 : decode cX1_init 38 = .ok (.aastore, 1) := by decide +kernel
theorem dX1_init_39 : decode cX1_init 39 = .ok (.iinc 1 1, 3) := by decide +kernel
theorem dX1_init_42 : decode cX1_init 42 = .ok (.goto (-22), 3) := by decide +kernel
theorem dX1_init_45 : decode cX1_init 45 = .ok (.return_, 1) := by decide +kernel
theorem dX1_forget_0 : decode cX1_forget 0 = .ok (.aload_n 0, 1) := by decide +kernel
theorem dX1_forget_1 : decode cX1_forget 1 = .ok (.iconst 0, 1) := by decide +kernel
theorem dX1_forget_2 : decode cX1_forget 2 = .ok (.putfield 17, 3) := by decide +kernel
theorem dX1_forget_5 : decode cX1_forget 5 = .ok (.return_, 1) := by decide +kernel
theorem dX1_keep_0 : decode cX1_keep 0 = .ok (.aload_n 0, 1) := by decide +kernel
theorem dX1_keep_1 : decode cX1_keep 1 = .ok (.getfield 17, 3) := by decide +kernel
theorem dX1_keep_4 : decode cX1_keep 4 = .ok (.bipush 6, 2) := by decide +kernel
theorem dX1_keep_6 : decode cX1_keep 6 = .ok (.if_icmp .lt 7, 3) := by decide +kernel
theorem dX1_keep_9 : decode cX1_keep 9 = .ok (.aload_n 0, 1) := by decide +kernel
theorem dX1_keep_10 : decode cX1_keep 10 = .ok (.invokevirtual 22, 3) := by decide +kernel
theorem dX1_keep_13 : decode cX1_keep 13 = .ok (.aload_n 0, 1) := by decide +kernel
theorem dX1_keep_14 : decode cX1_keep 14 = .ok (.getfield 17, 3) := by decide +kernel
theorem dX1_keep_17 : decode cX1_keep 17 = .ok (.ifCond .lt 24, 3) := by decide +kernel
theorem dX1_keep_20 : decode cX1_keep 20 = .ok (.aload_n 0, 1) := by decide +kernel
theorem dX1_keep_21 : decode cX1_keep 21 = .ok (.getfield 17, 3) := by decide +kernel
theorem dX1_keep_24 : decode cX1_keep 24 = .ok (.bipush 6, 2) := by decide +kernel
theorem dX1_keep_26 : decode cX1_keep 26 = .ok (.if_icmp .ge 15, 3) := by decide +kernel
theorem dX1_keep_29 : decode cX1_keep 29 = .ok (.aload_n 0, 1) := by decide +kernel
theorem dX1_keep_30 : decode cX1_keep 30 = .ok (.getfield 11, 3) := by decide +kernel
theorem dX1_keep_33 : decode cX1_keep 33 = .ok (.aload_n 0, 1) := by decide +kernel
theorem dX1_keep_34 : decode cX1_keep 34 = .ok (.getfield 17, 3) := by decide +kernel
theorem dX1_keep_37 : decode cX1_keep 37 = .ok (.aaload, 1) := by decide +kernel
theorem dX1_keep_38 : decode cX1_keep 38 = .ok (.goto 4, 3) := by decide +kernel
theorem dX1_keep_41 : decode cX1_keep 41 = .ok (.aconst_null, 1) := by decide +kernel
theorem dX1_keep_42 : decode cX1_keep 42 = .ok (.astore_n 2, 1) := by decide +kernel
theorem dX1_keep_43 : decode cX1_keep 43 = .ok (.aload_n 2, 1) := by decide +kernel
theorem dX1_keep_44 : decode cX1_keep 44 = .ok (.ifnull 18, 3) := by decide +kernel
theorem dX1_keep_47 : decode cX1_keep 47 = .ok (.aload_n 2, 1) := by decide +kernel
theorem dX1_keep_48 : decode cX1_keep 48 = .ok (.aload_n 1, 1) := by decide +kernel
theorem dX1_keep_49 : decode cX1_keep 49 = .ok (.invokevirtual 25, 3) := by decide +kernel
theorem dX1_keep_52 : decode cX1_keep 52 = .ok (.aload_n 0, 1) := by decide +kernel
theorem dX1_keep_53 : decode cX1_keep 53 = .ok (.dup, 1) := by decide +kernel
theorem dX1_keep_54 : decode cX1_keep 54 = .ok (.getfield 17, 3) := by decide +kernel
theorem dX1_keep_57 : decode cX1_keep 57 = .ok (.iconst 1, 1) := by decide +kernel
theorem dX1_keep_58 : decode cX1_keep 58 = .ok (.iadd, 1) := by decide +kernel
theorem dX1_keep_59 : decode cX1_keep 59 = .ok (.putfield 17, 3) := by decide +kernel
theorem dX1_keep_62 : decode cX1_keep 62 = .ok (.return_, 1) := by decide +kernel
theorem dX1_dropOldest_0 : decode cX1_dropOldest 0 = .ok (.aload_n 0, 1) := by decide +kernel
theorem dX1_dropOldest_1 : decode cX1_dropOldest 1 = .ok (.getfield 11, 3) := by decide +kernel
theorem dX1_dropOldest_4 : decode cX1_dropOldest 4 = .ok (.iconst 0, 1) := by decide +kernel
theorem dX1_dropOldest_5 : decode cX1_dropOldest 5 = .ok (.aaload, 1) := by decide +kernel
theorem dX1_dropOldest_6 : decode cX1_dropOldest 6 = .ok (.astore_n 1, 1) := by decide +kernel
theorem dX1_dropOldest_7 : decode cX1_dropOldest 7 = .ok (.iconst 1, 1) := by decide +kernel
theorem dX1_dropOldest_8 : decode cX1_dropOldest 8 = .ok (.istore_n 2, 1) := by decide +kernel
theorem dX1_dropOldest_9 : decode cX1_dropOldest 9 = .ok (.iload_n 2, 1) := by decide +kernel
theorem dX1_dropOldest_10 : decode cX1_dropOldest 10 = .ok (.bipush 6, 2) := by decide +kernel
theorem dX1_dropOldest_12 : decode cX1_dropOldest 12 = .ok (.if_icmp .ge 23, 3) := by decide +kernel
theorem dX1_dropOldest_15 : decode cX1_dropOldest 15 = .ok (.aload_n 0, 1) := by decide +kernel
theorem dX1_dropOldest_16 : decode cX1_dropOldest 16 = .ok (.getfield 11, 3) := by decide +kernel
theorem dX1_dropOldest_19 : decode cX1_dropOldest 19 = .ok (.iload_n 2, 1) := by decide +kernel
theorem dX1_dropOldest_20 : decode cX1_dropOldest 20 = .ok (.iconst 1, 1) := by decide +kernel
theorem dX1_dropOldest_21 : decode cX1_dropOldest 21 = .ok (.isub, 1) := by decide +kernel
theorem dX1_dropOldest_22 : decode cX1_dropOldest 22 = .ok (.aload_n 0, 1) := by decide +kernel
theorem dX1_dropOldest_23 : decode cX1_dropOldest 23 = .ok (.getfield 11, 3) := by decide +kernel
theorem dX1_dropOldest_26 : decode cX1_dropOldest 26 = .ok (.iload_n 2, 1) := by decide +kernel
theorem dX1_dropOldest_27 : decode cX1_dropOldest 27 = .ok (.aaload, 1) := by decide +kernel
theorem dX1_dropOldest_28 : decode cX1_dropOldest 28 = .ok (.aastore, 1) := by decide +kernel
theorem dX1_dropOldest_29 : decode cX1_dropOldest 29 = .ok (.iinc 2 1, 3) := by decide +kernel
theorem dX1_dropOldest_32 : decode cX1_dropOldest 32 = .ok (.goto (-23), 3) := by decide +kernel
theorem dX1_dropOldest_35 : decode cX1_dropOldest 35 = .ok (.aload_n 0, 1) := by decide +kernel
theorem dX1_dropOldest_36 : decode cX1_dropOldest 36 = .ok (.getfield 11, 3) := by decide +kernel
theorem dX1_dropOldest_39 : decode cX1_dropOldest 39 = .ok (.iconst 5, 1) := by decide +kernel
theorem dX1_dropOldest_40 : decode cX1_dropOldest 40 = .ok (.aload_n 1, 1) := by decide +kernel
theorem dX1_dropOldest_41 : decode cX1_dropOldest 41 = .ok (.aastore, 1) := by decide +kernel
theorem dX1_dropOldest_42 : decode cX1_dropOldest 42 = .ok (.aload_n 0, 1) := by decide +kernel
theorem dX1_dropOldest_43 : decode cX1_dropOldest 43 = .ok (.iconst 5, 1) := by decide +kernel
theorem dX1_dropOldest_44 : decode cX1_dropOldest 44 = .ok (.putfield 17, 3) := by decide +kernel
theorem dX1_dropOldest_47 : decode cX1_dropOldest 47 = .ok (.return_, 1) := by decide +kernel
theorem dX1_giveBack_0 : decode cX1_giveBack 0 = .ok (.aload_n 0, 1) := by decide +kernel
theorem dX1_giveBack_1 : decode cX1_giveBack 1 = .ok (.getfield 17, 3) := by decide +kernel
theorem dX1_giveBack_4 : decode cX1_giveBack 4 = .ok (.ifCond .le 26, 3) := by decide +kernel
theorem dX1_giveBack_7 : decode cX1_giveBack 7 = .ok (.aload_n 0, 1) := by decide +kernel
theorem dX1_giveBack_8 : decode cX1_giveBack 8 = .ok (.getfield 17, 3) := by decide +kernel
theorem dX1_giveBack_11 : decode cX1_giveBack 11 = .ok (.bipush 6, 2) := by decide +kernel
theorem dX1_giveBack_13 : decode cX1_giveBack 13 = .ok (.if_icmp .gt 17, 3) := by decide +kernel
theorem dX1_giveBack_16 : decode cX1_giveBack 16 = .ok (.aload_n 0, 1) := by decide +kernel
theorem dX1_giveBack_17 : decode cX1_giveBack 17 = .ok (.getfield 11, 3) := by decide +kernel
theorem dX1_giveBack_20 : decode cX1_giveBack 20 = .ok (.aload_n 0, 1) := by decide +kernel
theorem dX1_giveBack_21 : decode cX1_giveBack 21 = .ok (.getfield 17, 3) := by decide +kernel
theorem dX1_giveBack_24 : decode cX1_giveBack 24 = .ok (.iconst 1, 1) := by decide +kernel
theorem dX1_giveBack_25 : decode cX1_giveBack 25 = .ok (.isub, 1) := by decide +kernel
theorem dX1_giveBack_26 : decode cX1_giveBack 26 = .ok (.aaload, 1) := by decide +kernel
theorem dX1_giveBack_27 : decode cX1_giveBack 27 = .ok (.goto 4, 3) := by decide +kernel
theorem dX1_giveBack_30 : decode cX1_giveBack 30 = .ok (.aconst_null, 1) := by decide +kernel
theorem dX1_giveBack_31 : decode cX1_giveBack 31 = .ok (.astore_n 2, 1) := by decide +kernel
theorem dX1_giveBack_32 : decode cX1_giveBack 32 = .ok (.aload_n 2, 1) := by decide +kernel
theorem dX1_giveBack_33 : decode cX1_giveBack 33 = .ok (.ifnonnull 5, 3) := by decide +kernel
theorem dX1_giveBack_36 : decode cX1_giveBack 36 = .ok (.iconst 0, 1) := by decide +kernel
theorem dX1_giveBack_37 : decode cX1_giveBack 37 = .ok (.ireturn, 1) := by decide +kernel
theorem dX1_giveBack_38 : decode cX1_giveBack 38 = .ok (.aload_n 1, 1) := by decide +kernel
theorem dX1_giveBack_39 : decode cX1_giveBack 39 = .ok (.aload_n 2, 1) := by decide +kernel
theorem dX1_giveBack_40 : decode cX1_giveBack 40 = .ok (.invokevirtual 25, 3) := by decide +kernel
theorem dX1_giveBack_43 : decode cX1_giveBack 43 = .ok (.aload_n 0, 1) := by decide +kernel
theorem dX1_giveBack_44 : decode cX1_giveBack 44 = .ok (.dup, 1) := by decide +kernel
theorem dX1_giveBack_45 : decode cX1_giveBack 45 = .ok (.getfield 17, 3) := by decide +kernel
theorem dX1_giveBack_48 : decode cX1_giveBack 48 = .ok (.iconst 1, 1) := by decide +kernel
theorem dX1_giveBack_49 : decode cX1_giveBack 49 = .ok (.isub, 1) := by decide +kernel
theorem dX1_giveBack_50 : decode cX1_giveBack 50 = .ok (.putfield 17, 3) := by decide +kernel
theorem dX1_giveBack_53 : decode cX1_giveBack 53 = .ok (.iconst 1, 1) := by decide +kernel
theorem dX1_giveBack_54 : decode cX1_giveBack 54 = .ok (.ireturn, 1) := by decide +kernel
theorem dX2_init_0 : decode cX2_init 0 = .ok (.aload_n 0, 1) := by decide +kernel
theorem dX2_init_1 : decode cX2_init 1 = .ok (.invokespecial 3, 3) := by decide +kernel
theorem dX2_init_4 : decode cX2_init 4 = .ok (.aload_n 0, 1) := by decide +kernel
theorem dX2_init_5 : decode cX2_init 5 = .ok (.bipush 16, 2) := by decide +kernel
theorem dX2_init_7 : decode cX2_init 7 = .ok (.newarray .int, 2) := by decide +kernel
theorem dX2_init_9 : decode cX2_init 9 = .ok (.putfield 9, 3) := by decide +kernel
theorem dX2_init_12 : decode cX2_init 12 = .ok (.aload_n 0, 1) := by decide +kernel
theorem dX2_init_13 : decode cX2_init 13 = .ok (.bipush 16, 2) := by decide +kernel
theorem dX2_init_15 : decode cX2_init 15 = .ok (.newarray .int, 2) := by decide +kernel
theorem dX2_init_17 : decode cX2_init 17 = .ok (.putfield 15, 3) := by decide +kernel
theorem dX2_init_20 : decode cX2_init 20 = .ok (.aload_n 0, 1) := by decide +kernel
theorem dX2_init_21 : decode cX2_init 21 = .ok (.bipush 16, 2) := by decide +kernel
theorem dX2_init_23 : decode cX2_init 23 = .ok (.newarray .int, 2) := by decide +kernel
theorem dX2_init_25 : decode cX2_init 25 = .ok (.putfield 18, 3) := by decide +kernel
theorem dX2_init_28 : decode cX2_init 28 = .ok (.aload_n 0, 1) := by decide +kernel
theorem dX2_init_29 : decode cX2_init 29 = .ok (.bipush 16, 2) := by decide +kernel
theorem dX2_init_31 : decode cX2_init 31 = .ok (.newarray .int, 2) := by decide +kernel
theorem dX2_init_33 : decode cX2_init 33 = .ok (.putfield 21, 3) := by decide +kernel
theorem dX2_init_36 : decode cX2_init 36 = .ok (.aload_n 0, 1) := by decide +kernel
theorem dX2_init_37 : decode cX2_init 37 = .ok (.sipush 400, 3) := by decide +kernel
theorem dX2_init_40 : decode cX2_init 40 = .ok (.newarray .int, 2) := by decide +kernel
theorem dX2_init_42 : decode cX2_init 42 = .ok (.putfield 24, 3) := by decide +kernel
theorem dX2_init_45 : decode cX2_init 45 = .ok (.aload_n 0, 1) := by decide +kernel
theorem dX2_init_46 : decode cX2_init 46 = .ok (.sipush 400, 3) := by decide +kernel
theorem dX2_init_49 : decode cX2_init 49 = .ok (.newarray .int, 2) := by decide +kernel
theorem dX2_init_51 : decode cX2_init 51 = .ok (.putfield 27, 3) := by decide +kernel
theorem dX2_init_54 : decode cX2_init 54 = .ok (.aload_n 0, 1) := by decide +kernel
theorem dX2_init_55 : decode cX2_init 55 = .ok (.sipush 400, 3) := by decide +kernel
theorem dX2_init_58 : decode cX2_init 58 = .ok (.newarray .int, 2) := by decide +kernel
theorem dX2_init_60 : decode cX2_init 60 = .ok (.putfield 30, 3) := by decide +kernel
theorem dX2_init_63 : decode cX2_init 63 = .ok (.aload_n 0, 1) := by decide +kernel
theorem dX2_init_64 : decode cX2_init 64 = .ok (.iconst 0, 1) := by decide +kernel
theorem dX2_init_65 : decode cX2_init 65 = .ok (.putfield 33, 3) := by decide +kernel
theorem dX2_init_68 : decode cX2_init 68 = .ok (.aload_n 0, 1) := by decide +kernel
theorem dX2_init_69 : decode cX2_init 69 = .ok (.iconst 0, 1) := by decide +kernel
theorem dX2_init_70 : decode cX2_init 70 = .ok (.putfield 37, 3) := by decide +kernel
theorem dX2_init_73 : decode cX2_init 73 = .ok (.return_, 1) := by decide +kernel
theorem dX2_clear_0 : decode cX2_clear 0 = .ok (.aload_n 0, 1) := by decide +kernel
theorem dX2_clear_1 : decode cX2_clear 1 = .ok (.iconst 0, 1) := by decide +kernel
theorem dX2_clear_2 : decode cX2_clear 2 = .ok (.putfield 33, 3) := by decide +kernel
theorem dX2_clear_5 : decode cX2_clear 5 = .ok (.aload_n 0, 1) := by decide +kernel
theorem dX2_clear_6 : decode cX2_clear 6 = .ok (.iconst 0, 1) := by decide +kernel
theorem dX2_clear_7 : decode cX2_clear 7 = .ok (.putfield 37, 3) := by decide +kernel
theorem dX2_clear_10 : decode cX2_clear 10 = .ok (.return_, 1) := by decide +kernel
theorem dX2_copyFrom_0 : decode cX2_copyFrom 0 = .ok (.aload_n 1, 1) := by decide +kernel
theorem dX2_copyFrom_1 : decode cX2_copyFrom 1 = .ok (.getfield 9, 3) := by decide +kernel
theorem dX2_copyFrom_4 : decode cX2_copyFrom 4 = .ok (.aload_n 0, 1) := by decide +kernel
theorem dX2_copyFrom_5 : decode cX2_copyFrom 5 = .ok (.getfield 9, 3) := by decide +kernel
theorem dX2_copyFrom_8 : decode cX2_copyFrom 8 = .ok (.invokestatic 40, 3) := by decide +kernel
theorem dX2_copyFrom_11 : decode cX2_copyFrom 11 = .ok (.aload_n 1, 1) := by decide +kernel
theorem dX2_copyFrom_12 : decode cX2_copyFrom 12 = .ok (.getfield 15, 3) := by decide +kernel
theorem dX2_copyFrom_15 : decode cX2_copyFrom 15 = .ok (.aload_n 0, 1) := by decide +kernel
theorem dX2_copyFrom_16 : decode cX2_copyFrom 16 = .ok (.getfield 15, 3) := by decide +kernel
theorem dX2_copyFrom_19 : decode cX2_copyFrom 19 = .ok (.invokestatic 40, 3) := by decide +kernel
theorem dX2_copyFrom_22 : decode cX2_copyFrom 22 = .ok (.aload_n 1, 1) := by decide +kernel
theorem dX2_copyFrom_23 : decode cX2_copyFrom 23 = .ok (.getfield 18, 3) := by decide +kernel
theorem dX2_copyFrom_26 : decode cX2_copyFrom 26 = .ok (.aload_n 0, 1) := by decide +kernel
theorem dX2_copyFrom_27 : decode cX2_copyFrom 27 = .ok (.getfield 18, 3) := by decide +kernel
theorem dX2_copyFrom_30 : decode cX2_copyFrom 30 = .ok (.invokestatic 40, 3) := by decide +kernel
theorem dX2_copyFrom_33 : decode cX2_copyFrom 33 = .ok (.aload_n 1, 1) := by decide +kernel
theorem dX2_copyFrom_34 : decode cX2_copyFrom 34 = .ok (.getfield 21, 3) := by decide +kernel
theorem dX2_copyFrom_37 : decode cX2_copyFrom 37 = .ok (.aload_n 0, 1) := by decide +kernel
theorem dX2_copyFrom_38 : decode cX2_copyFrom 38 = .ok (.getfield 21, 3) := by decide +kernel
theorem dX2_copyFrom_41 : decode cX2_copyFrom 41 = .ok (.invokestatic 40, 3) := by decide +kernel
theorem dX2_copyFrom_44 : decode cX2_copyFrom 44 = .ok (.aload_n 1, 1) := by decide +kernel
theorem dX2_copyFrom_45 : decode cX2_copyFrom 45 = .ok (.getfield 24, 3) := by decide +kernel
theorem dX2_copyFrom_48 : decode cX2_copyFrom 48 = .ok (.aload_n 0, 1) := by decide +kernel
theorem dX2_copyFrom_49 : decode cX2_copyFrom 49 = .ok (.getfield 24, 3) := by decide +kernel
theorem dX2_copyFrom_52 : decode cX2_copyFrom 52 = .ok (.invokestatic 40, 3) := by decide +kernel
theorem dX2_copyFrom_55 : decode cX2_copyFrom 55 = .ok (.aload_n 1, 1) := by decide +kernel
theorem dX2_copyFrom_56 : decode cX2_copyFrom 56 = .ok (.getfield 27, 3) := by decide +kernel
theorem dX2_copyFrom_59 : decode cX2_copyFrom 59 = .ok (.aload_n 0, 1) := by decide +kernel
theorem dX2_copyFrom_60 : decode cX2_copyFrom 60 = .ok (.getfield 27, 3) := by decide +kernel
theorem dX2_copyFrom_63 : decode cX2_copyFrom 63 = .ok (.invokestatic 40, 3) := by decide +kernel
theorem dX2_copyFrom_66 : decode cX2_copyFrom 66 = .ok (.aload_n 0, 1) := by decide +kernel
theorem dX2_copyFrom_67 : decode cX2_copyFrom 67 = .ok (.aload_n 1, 1) := by decide +kernel
theorem dX2_copyFrom_68 : decode cX2_copyFrom 68 = .ok (.getfield 33, 3) := by decide +kernel
theorem dX2_copyFrom_71 : decode cX2_copyFrom 71 = .ok (.putfield 33, 3) := by decide +kernel
theorem dX2_copyFrom_74 : decode cX2_copyFrom 74 = .ok (.aload_n 0, 1) := by decide +kernel
theorem dX2_copyFrom_75 : decode cX2_copyFrom 75 = .ok (.aload_n 1, 1) := by decide +kernel
theorem dX2_copyFrom_76 : decode cX2_copyFrom 76 = .ok (.getfield 37, 3) := by decide +kernel
theorem dX2_copyFrom_79 : decode cX2_copyFrom 79 = .ok (.putfield 37, 3) := by decide +kernel
theorem dX2_copyFrom_82 : decode cX2_copyFrom 82 = .ok (.return_, 1) := by decide +kernel
theorem dX2_isFull_0 : decode cX2_isFull 0 = .ok (.aload_n 0, 1) := by decide +kernel
theorem dX2_isFull_1 : decode cX2_isFull 1 = .ok (.getfield 37, 3) := by decide +kernel
theorem dX2_isFull_4 : decode cX2_isFull 4 = .ok (.bipush 16, 2) := by decide +kernel
theorem dX2_isFull_6 : decode cX2_isFull 6 = .ok (.if_icmp .lt 7, 3) := by decide +kernel
theorem dX2_isFull_9 : decode cX2_isFull 9 = .ok (.iconst 1, 1) := by decide +kernel
theorem dX2_isFull_10 : decode cX2_isFull 10 = .ok (.goto 4, 3) := by decide +kernel
theorem dX2_isFull_13 : decode cX2_isFull 13 = .ok (.iconst 0, 1) := by decide +kernel
theorem dX2_isFull_14 : decode cX2_isFull 14 = .ok (.ireturn, 1) := by decide +kernel
theorem dX2_beginLine_0 : decode cX2_beginLine 0 = .ok (.aload_n 0, 1) := by decide +kernel
theorem dX2_beginLine_1 : decode cX2_beginLine 1 = .ok (.getfield 37, 3) := by decide +kernel
theorem dX2_beginLine_4 : decode cX2_beginLine 4 = .ok (.ifCond .lt 45, 3) := by decide +kernel
theorem dX2_beginLine_7 : decode cX2_beginLine 7 = .ok (.aload_n 0, 1) := by decide +kernel
theorem dX2_beginLine_8 : decode cX2_beginLine 8 = .ok (.getfield 37, 3) := by decide +kernel
theorem dX2_beginLine_11 : decode cX2_beginLine 11 = .ok (.bipush 16, 2) := by decide +kernel
theorem dX2_beginLine_13 : decode cX2_beginLine 13 = .ok (.if_icmp .ge 36, 3) := by decide +kernel
theorem dX2_beginLine_16 : decode cX2_beginLine 16 = .ok (.aload_n 0, 1) := by decide +kernel
theorem dX2_beginLine_17 : decode cX2_beginLine 17 = .ok (.getfield 9, 3) := by decide +kernel
theorem dX2_beginLine_20 : decode cX2_beginLine 20 = .ok (.aload_n 0, 1) := by decide +kernel
theorem dX2_beginLine_21 : decode cX2_beginLine 21 = .ok (.getfield 37, 3) := by decide +kernel
theorem dX2_beginLine_24 : decode cX2_beginLine 24 = .ok (.iload_n 1, 1) := by decide +kernel
theorem dX2_beginLine_25 : decode cX2_beginLine 25 = .ok (.iastore, 1) := by decide +kernel
theorem dX2_beginLine_26 : decode cX2_beginLine 26 = .ok (.aload_n 0, 1) := by decide +kernel
theorem dX2_beginLine_27 : decode cX2_beginLine 27 = .ok (.getfield 15, 3) := by decide +kernel
theorem dX2_beginLine_30 : decode cX2_beginLine 30 = .ok (.aload_n 0, 1) := by decide +kernel
theorem dX2_beginLine_31 : decode cX2_beginLine 31 = .ok (.getfield 37, 3) := by decide +kernel
theorem dX2_beginLine_34 : decode cX2_beginLine 34 = .ok (.aload_n 0, 1) := by decide +kernel
theorem dX2_beginLine_35 : decode cX2_beginLine 35 = .ok (.getfield 33, 3) := by decide +kernel
theorem dX2_beginLine_38 : decode cX2_beginLine 38 = .ok (.iastore, 1) := by decide +kernel
theorem dX2_beginLine_39 : decode cX2_beginLine 39 = .ok (.aload_n 0, 1) := by decide +kernel
theorem dX2_beginLine_40 : decode cX2_beginLine 40 = .ok (.getfield 18, 3) := by decide +kernel
theorem dX2_beginLine_43 : decode cX2_beginLine 43 = .ok (.aload_n 0, 1) := by decide +kernel
theorem dX2_beginLine_44 : decode cX2_beginLine 44 = .ok (.getfield 37, 3) := by decide +kernel
theorem dX2_beginLine_47 : decode cX2_beginLine 47 = .ok (.iconst (-1), 1) := by decide +kernel
theorem dX2_beginLine_48 : decode cX2_beginLine 48 = .ok (.iastore, 1) := by decide +kernel
theorem dX2_beginLine_49 : decode cX2_beginLine 49 = .ok (.return_, 1) := by decide +kernel
theorem dX2_beginWhen_0 : decode cX2_beginWhen 0 = .ok (.aload_n 0, 1) := by decide +kernel
theorem dX2_beginWhen_1 : decode cX2_beginWhen 1 = .ok (.getfield 37, 3) := by decide +kernel
theorem dX2_beginWhen_4 : decode cX2_beginWhen 4 = .ok (.ifCond .lt 25, 3) := by decide +kernel
theorem dX2_beginWhen_7 : decode cX2_beginWhen 7 = .ok (.aload_n 0, 1) := by decide +kernel
theorem dX2_beginWhen_8 : decode cX2_beginWhen 8 = .ok (.getfield 37, 3) := by decide +kernel
theorem dX2_beginWhen_11 : decode cX2_beginWhen 11 = .ok (.bipush 16, 2) := by decide +kernel
theorem dX2_beginWhen_13 : decode cX2_beginWhen 13 = .ok (.if_icmp .ge 16, 3) := by decide +kernel
theorem dX2_beginWhen_16 : decode cX2_beginWhen 16 = .ok (.aload_n 0, 1) := by decide +kernel
theorem dX2_beginWhen_17 : decode cX2_beginWhen 17 = .ok (.getfield 18, 3) := by decide +kernel
theorem dX2_beginWhen_20 : decode cX2_beginWhen 20 = .ok (.aload_n 0, 1) := by decide +kernel
theorem dX2_beginWhen_21 : decode cX2_beginWhen 21 = .ok (.getfield 37, 3) := by decide +kernel
theorem dX2_beginWhen_24 : decode cX2_beginWhen 24 = .ok (.aload_n 0, 1) := by decide +kernel
theorem dX2_beginWhen_25 : decode cX2_beginWhen 25 = .ok (.getfield 33, 3) := by decide +kernel
theorem dX2_beginWhen_28 : decode cX2_beginWhen 28 = .ok (.iastore, 1) := by decide +kernel
theorem dX2_beginWhen_29 : decode cX2_beginWhen 29 = .ok (.return_, 1) := by decide +kernel
theorem dX2_endLine_0 : decode cX2_endLine 0 = .ok (.aload_n 0, 1) := by decide +kernel
theorem dX2_endLine_1 : decode cX2_endLine 1 = .ok (.getfield 37, 3) := by decide +kernel
theorem dX2_endLine_4 : decode cX2_endLine 4 = .ok (.ifCond .lt 35, 3) := by decide +kernel
theorem dX2_endLine_7 : decode cX2_endLine 7 = .ok (.aload_n 0, 1) := by decide +kernel
theorem dX2_endLine_8 : decode cX2_endLine 8 = .ok (.getfield 37, 3) := by decide +kernel
theorem dX2_endLine_11 : decode cX2_endLine 11 = .ok (.bipush 16, 2) := by decide +kernel
theorem dX2_endLine_13 : decode cX2_endLine 13 = .ok (.if_icmp .ge 26, 3) := by decide +kernel
theorem dX2_endLine_16 : decode cX2_endLine 16 = .ok (.aload_n 0, 1) := by decide +kernel
theorem dX2_endLine_17 : decode cX2_endLine 17 = .ok (.getfield 21, 3) := by decide +kernel
theorem dX2_endLine_20 : decode cX2_endLine 20 = .ok (.aload_n 0, 1) := by decide +kernel
theorem dX2_endLine_21 : decode cX2_endLine 21 = .ok (.getfield 37, 3) := by decide +kernel
theorem dX2_endLine_24 : decode cX2_endLine 24 = .ok (.aload_n 0, 1) := by decide +kernel
theorem dX2_endLine_25 : decode cX2_endLine 25 = .ok (.getfield 33, 3) := by decide +kernel
theorem dX2_endLine_28 : decode cX2_endLine 28 = .ok (.iastore, 1) := by decide +kernel
theorem dX2_endLine_29 : decode cX2_endLine 29 = .ok (.aload_n 0, 1) := by decide +kernel
theorem dX2_endLine_30 : decode cX2_endLine 30 = .ok (.dup, 1) := by decide +kernel
theorem dX2_endLine_31 : decode cX2_endLine 31 = .ok (.getfield 37, 3) := by decide +kernel
theorem dX2_endLine_34 : decode cX2_endLine 34 = .ok (.iconst 1, 1) := by decide +kernel
theorem dX2_endLine_35 : decode cX2_endLine 35 = .ok (.iadd, 1) := by decide +kernel
theorem dX2_endLine_36 : decode cX2_endLine 36 = .ok (.putfield 37, 3) := by decide +kernel
theorem dX2_endLine_39 : decode cX2_endLine 39 = .ok (.return_, 1) := by decide +kernel
theorem dX2_emit_0 : decode cX2_emit 0 = .ok (.aload_n 0, 1) := by decide +kernel
theorem dX2_emit_1 : decode cX2_emit 1 = .ok (.getfield 33, 3) := by decide +kernel
theorem dX2_emit_4 : decode cX2_emit 4 = .ok (.ifCond .lt 43, 3) := by decide +kernel
theorem dX2_emit_7 : decode cX2_emit 7 = .ok (.aload_n 0, 1) := by decide +kernel
theorem dX2_emit_8 : decode cX2_emit 8 = .ok (.getfield 33, 3) := by decide +kernel
theorem dX2_emit_11 : decode cX2_emit 11 = .ok (.sipush 400, 3) := by decide +kernel
theorem dX2_emit_14 : decode cX2_emit 14 = .ok (.if_icmp .ge 33, 3) := by decide +kernel
theorem dX2_emit_17 : decode cX2_emit 17 = .ok (.aload_n 0, 1) := by decide +kernel
theorem dX2_emit_18 : decode cX2_emit 18 = .ok (.getfield 24, 3) := by decide +kernel
theorem dX2_emit_21 : decode cX2_emit 21 = .ok (.aload_n 0, 1) := by decide +kernel
theorem dX2_emit_22 : decode cX2_emit 22 = .ok (.getfield 33, 3) := by decide +kernel
theorem dX2_emit_25 : decode cX2_emit 25 = .ok (.iload_n 1, 1) := by decide +kernel
theorem dX2_emit_26 : decode cX2_emit 26 = .ok (.iastore, 1) := by decide +kernel
theorem dX2_emit_27 : decode cX2_emit 27 = .ok (.aload_n 0, 1) := by decide +kernel
theorem dX2_emit_28 : decode cX2_emit 28 = .ok (.getfield 27, 3) := by decide +kernel
theorem dX2_emit_31 : decode cX2_emit 31 = .ok (.aload_n 0, 1) := by decide +kernel
theorem dX2_emit_32 : decode cX2_emit 32 = .ok (.getfield 33, 3) := by decide +kernel
theorem dX2_emit_35 : decode cX2_emit 35 = .ok (.iload_n 2, 1) := by decide +kernel
theorem dX2_emit_36 : decode cX2_emit 36 = .ok (.iastore, 1) := by decide +kernel
theorem dX2_emit_37 : decode cX2_emit 37 = .ok (.aload_n 0, 1) := by decide +kernel
theorem dX2_emit_38 : decode cX2_emit 38 = .ok (.dup, 1) := by decide +kernel
theorem dX2_emit_39 : decode cX2_emit 39 = .ok (.getfield 33, 3) := by decide +kernel
theorem dX2_emit_42 : decode cX2_emit 42 = .ok (.iconst 1, 1) := by decide +kernel
theorem dX2_emit_43 : decode cX2_emit 43 = .ok (.iadd, 1) := by decide +kernel
theorem dX2_emit_44 : decode cX2_emit 44 = .ok (.putfield 33, 3) := by decide +kernel
theorem dX2_emit_47 : decode cX2_emit 47 = .ok (.return_, 1) := by decide +kernel
theorem dX2_tells_0 : decode cX2_tells 0 = .ok (.iconst 0, 1) := by decide +kernel
theorem dX2_tells_1 : decode cX2_tells 1 = .ok (.istore 4, 2) := by decide +kernel
theorem dX2_tells_3 : decode cX2_tells 3 = .ok (.iload 4, 2) := by decide +kernel
theorem dX2_tells_5 : decode cX2_tells 5 = .ok (.aload_n 0, 1) := by decide +kernel
theorem dX2_tells_6 : decode cX2_tells 6 = .ok (.getfield 37, 3) := by decide +kernel
theorem dX2_tells_9 : decode cX2_tells 9 = .ok (.if_icmp .ge 100, 3) := by decide +kernel
theorem dX2_tells_12 : decode cX2_tells 12 = .ok (.iload 4, 2) := by decide +kernel
theorem dX2_tells_14 : decode cX2_tells 14 = .ok (.bipush 16, 2) := by decide +kernel
theorem dX2_tells_16 : decode cX2_tells 16 = .ok (.if_icmp .ge 93, 3) := by decide +kernel
theorem dX2_tells_19 : decode cX2_tells 19 = .ok (.aload_n 0, 1) := by decide +kernel
theorem dX2_tells_20 : decode cX2_tells 20 = .ok (.getfield 9, 3) := by decide +kernel
theorem dX2_tells_23 : decode cX2_tells 23 = .ok (.iload 4, 2) := by decide +kernel
theorem dX2_tells_25 : decode cX2_tells 25 = .ok (.iaload, 1) := by decide +kernel
theorem dX2_tells_26 : decode cX2_tells 26 = .ok (.iload_n 1, 1) := by decide +kernel
theorem dX2_tells_27 : decode cX2_tells 27 = .ok (.if_icmp .ne 76, 3) := by decide +kernel
theorem dX2_tells_30 : decode cX2_tells 30 = .ok (.aload_n 0, 1) := by decide +kernel
theorem dX2_tells_31 : decode cX2_tells 31 = .ok (.getfield 18, 3) := by decide +kernel
theorem dX2_tells_34 : decode cX2_tells 34 = .ok (.iload 4, 2) := by decide +kernel
theorem dX2_tells_36 : decode cX2_tells 36 = .ok (.iaload, 1) := by decide +kernel
theorem dX2_tells_37 : decode cX2_tells 37 = .ok (.iconst (-1), 1) := by decide +kernel
theorem dX2_tells_38 : decode cX2_tells 38 = .ok (.if_icmp .ne 23, 3) := by decide +kernel
theorem dX2_tells_41 : decode cX2_tells 41 = .ok (.aload_n 0, 1) := by decide +kernel
theorem dX2_tells_42 : decode cX2_tells 42 = .ok (.aload_n 0, 1) := by decide +kernel
theorem dX2_tells_43 : decode cX2_tells 43 = .ok (.getfield 15, 3) := by decide +kernel
theorem dX2_tells_46 : decode cX2_tells 46 = .ok (.iload 4, 2) := by decide +kernel
theorem dX2_tells_48 : decode cX2_tells 48 = .ok (.iaload, 1) := by decide +kernel
theorem dX2_tells_49 : decode cX2_tells 49 = .ok (.aload_n 0, 1) := by decide +kernel
theorem dX2_tells_50 : decode cX2_tells 50 = .ok (.getfield 21, 3) := by decide +kernel
theorem dX2_tells_53 : decode cX2_tells 53 = .ok (.iload 4, 2) := by decide +kernel
theorem dX2_tells_55 : decode cX2_tells 55 = .ok (.iaload, 1) := by decide +kernel
theorem dX2_tells_56 : decode cX2_tells 56 = .ok (.aload_n 2, 1) := by decide +kernel
theorem dX2_tells_57 : decode cX2_tells 57 = .ok (.invokevirtual 44, 3) := by decide +kernel
theorem dX2_tells_60 : decode cX2_tells 60 = .ok (.ireturn, 1) := by decide +kernel
theorem dX2_tells_61 : decode cX2_tells 61 = .ok (.aload_n 0, 1) := by decide +kernel
theorem dX2_tells_62 : decode cX2_tells 62 = .ok (.aload_n 0, 1) := by decide +kernel
theorem dX2_tells_63 : decode cX2_tells 63 = .ok (.getfield 18, 3) := by decide +kernel
theorem dX2_tells_66 : decode cX2_tells 66 = .ok (.iload 4, 2) := by decide +kernel
theorem dX2_tells_68 : decode cX2_tells 68 = .ok (.iaload, 1) := by decide +kernel
theorem dX2_tells_69 : decode cX2_tells 69 = .ok (.aload_n 0, 1) := by decide +kernel
theorem dX2_tells_70 : decode cX2_tells 70 = .ok (.getfield 21, 3) := by decide +kernel
theorem dX2_tells_73 : decode cX2_tells 73 = .ok (.iload 4, 2) := by decide +kernel
theorem dX2_tells_75 : decode cX2_tells 75 = .ok (.iaload, 1) := by decide +kernel
theorem dX2_tells_76 : decode cX2_tells 76 = .ok (.aload_n 2, 1) := by decide +kernel
theorem dX2_tells_77 : decode cX2_tells 77 = .ok (.invokevirtual 44, 3) := by decide +kernel
theorem dX2_tells_80 : decode cX2_tells 80 = .ok (.ifCond .eq 23, 3) := by decide +kernel
theorem dX2_tells_83 : decode cX2_tells 83 = .ok (.aload_n 0, 1) := by decide +kernel
theorem dX2_tells_84 : decode cX2_tells 84 = .ok (.aload_n 0, 1) := by decide +kernel
theorem dX2_tells_85 : decode cX2_tells 85 = .ok (.getfield 15, 3) := by decide +kernel
theorem dX2_tells_88 : decode cX2_tells 88 = .ok (.iload 4, 2) := by decide +kernel
theorem dX2_tells_90 : decode cX2_tells 90 = .ok (.iaload, 1) := by decide +kernel
theorem dX2_tells_91 : decode cX2_tells 91 = .ok (.aload_n 0, 1) := by decide +kernel
theorem dX2_tells_92 : decode cX2_tells 92 = .ok (.getfield 18, 3) := by decide +kernel
theorem dX2_tells_95 : decode cX2_tells 95 = .ok (.iload 4, 2) := by decide +kernel
theorem dX2_tells_97 : decode cX2_tells 97 = .ok (.iaload, 1) := by decide +kernel
theorem dX2_tells_98 : decode cX2_tells 98 = .ok (.aload_n 2, 1) := by decide +kernel
theorem dX2_tells_99 : decode cX2_tells 99 = .ok (.invokevirtual 44, 3) := by decide +kernel
theorem dX2_tells_102 : decode cX2_tells 102 = .ok (.ireturn, 1) := by decide +kernel
theorem dX2_tells_103 : decode cX2_tells 103 = .ok (.iinc 4 1, 3) := by decide +kernel
theorem dX2_tells_106 : decode cX2_tells 106 = .ok (.goto (-103), 3) := by decide +kernel
theorem dX2_tells_109 : decode cX2_tells 109 = .ok (.iload_n 3, 1) := by decide +kernel
theorem dX2_tells_110 : decode cX2_tells 110 = .ok (.ireturn, 1) := by decide +kernel
theorem dX2_run_0 : decode cX2_run 0 = .ok (.iconst (-1), 1) := by decide +kernel
theorem dX2_run_1 : decode cX2_run 1 = .ok (.istore 4, 2) := by decide +kernel
theorem dX2_run_3 : decode cX2_run 3 = .ok (.iload_n 1, 1) := by decide +kernel
theorem dX2_run_4 : decode cX2_run 4 = .ok (.istore 5, 2) := by decide +kernel
theorem dX2_run_6 : decode cX2_run 6 = .ok (.iload 5, 2) := by decide +kernel
theorem dX2_run_8 : decode cX2_run 8 = .ok (.ifCond .lt 434, 3) := by decide +kernel
theorem dX2_run_11 : decode cX2_run 11 = .ok (.iload 5, 2) := by decide +kernel
theorem dX2_run_13 : decode cX2_run 13 = .ok (.iload_n 2, 1) := by decide +kernel
theorem dX2_run_14 : decode cX2_run 14 = .ok (.if_icmp .ge 428, 3) := by decide +kernel
theorem dX2_run_17 : decode cX2_run 17 = .ok (.iload 5, 2) := by decide +kernel
theorem dX2_run_19 : decode cX2_run 19 = .ok (.sipush 400, 3) := by decide +kernel
theorem dX2_run_22 : decode cX2_run 22 = .ok (.if_icmp .ge 420, 3) := by decide +kernel
theorem dX2_run_25 : decode cX2_run 25 = .ok (.aload_n 0, 1) := by decide +kernel
theorem dX2_run_26 : decode cX2_run 26 = .ok (.getfield 27, 3) := by decide +kernel
theorem dX2_run_29 : decode cX2_run 29 = .ok (.iload 5, 2) := by decide +kernel
theorem dX2_run_31 : decode cX2_run 31 = .ok (.iaload, 1) := by decide +kernel
theorem dX2_run_32 : decode cX2_run 32 = .ok (.istore 6, 2) := by decide +kernel
theorem dX2_run_34 : decode cX2_run 34 = .ok (.aload_n 0, 1) := by decide +kernel
theorem dX2_run_35 : decode cX2_run 35 = .ok (.getfield 24, 3) := by decide +kernel
theorem dX2_run_38 : decode cX2_run 38 = .ok (.iload 5, 2) := by decide +kernel
theorem dX2_run_40 : decode cX2_run 40 = .ok (.iaload, 1) := by decide +kernel
theorem dX2_run_41 : decode cX2_run 41 = .ok (.ifCond .eq 14, 3) := by decide +kernel
theorem dX2_run_44 : decode cX2_run 44 = .ok (.aload_n 0, 1) := by decide +kernel
theorem dX2_run_45 : decode cX2_run 45 = .ok (.getfield 24, 3) := by decide +kernel
theorem dX2_run_48 : decode cX2_run 48 = .ok (.iload 5, 2) := by decide +kernel
theorem dX2_run_50 : decode cX2_run 50 = .ok (.iaload, 1) := by decide +kernel
theorem dX2_run_51 : decode cX2_run 51 = .ok (.iconst 1, 1) := by decide +kernel
theorem dX2_run_52 : decode cX2_run 52 = .ok (.if_icmp .ne 71, 3) := by decide +kernel
theorem dX2_run_55 : decode cX2_run 55 = .ok (.iload 4, 2) := by decide +kernel
theorem dX2_run_57 : decode cX2_run 57 = .ok (.sipush 399, 3) := by decide +kernel
theorem dX2_run_60 : decode cX2_run 60 = .ok (.if_icmp .ge 376, 3) := by decide +kernel
theorem dX2_run_63 : decode cX2_run 63 = .ok (.iinc 4 1, 3) := by decide +kernel
theorem dX2_run_66 : decode cX2_run 66 = .ok (.iload 6, 2) := by decide +kernel
theorem dX2_run_68 : decode cX2_run 68 = .ok (.ifCond .lt 14, 3) := by decide +kernel
theorem dX2_run_71 : decode cX2_run 71 = .ok (.iload 6, 2) := by decide +kernel
theorem dX2_run_73 : decode cX2_run 73 = .ok (.aload_n 3, 1) := by decide +kernel
theorem dX2_run_74 : decode cX2_run 74 = .ok (.arraylength, 1) := by decide +kernel
theorem dX2_run_75 : decode cX2_run 75 = .ok (.if_icmp .ge 7, 3) := by decide +kernel
theorem dX2_run_78 : decode cX2_run 78 = .ok (.iconst 1, 1) := by decide +kernel
theorem dX2_run_79 : decode cX2_run 79 = .ok (.goto 4, 3) := by decide +kernel
theorem dX2_run_82 : decode cX2_run 82 = .ok (.iconst 0, 1) := by decide +kernel
theorem dX2_run_83 : decode cX2_run 83 = .ok (.istore 7, 2) := by decide +kernel
theorem dX2_run_85 : decode cX2_run 85 = .ok (.aload_n 0, 1) := by decide +kernel
theorem dX2_run_86 : decode cX2_run 86 = .ok (.getfield 30, 3) := by decide +kernel
theorem dX2_run_89 : decode cX2_run 89 = .ok (.iload 4, 2) := by decide +kernel
theorem dX2_run_91 : decode cX2_run 91 = .ok (.aload_n 0, 1) := by decide +kernel
theorem dX2_run_92 : decode cX2_run 92 = .ok (.getfield 24, 3) := by decide +kernel
theorem dX2_run_95 : decode cX2_run 95 = .ok (.iload 5, 2) := by decide +kernel
theorem dX2_run_97 : decode cX2_run 97 = .ok (.iaload, 1) := by decide +kernel
theorem dX2_run_98 : decode cX2_run 98 = .ok (.ifCond .ne 8, 3) := by decide +kernel
theorem dX2_run_101 : decode cX2_run 101 = .ok (.iload 6, 2) := by decide +kernel
theorem dX2_run_103 : decode cX2_run 103 = .ok (.goto 16, 3) := by decide +kernel
theorem dX2_run_106 : decode cX2_run 106 = .ok (.iload 7, 2) := by decide +kernel
theorem dX2_run_108 : decode cX2_run 108 = .ok (.ifCond .eq 10, 3) := by decide +kernel
theorem dX2_run_111 : decode cX2_run 111 = .ok (.aload_n 3, 1) := by decide +kernel
theorem dX2_run_112 : decode cX2_run 112 = .ok (.iload 6, 2) := by decide +kernel
theorem dX2_run_114 : decode cX2_run 114 = .ok (.iaload, 1) := by decide +kernel
theorem dX2_run_115 : decode cX2_run 115 = .ok (.goto 4, 3) := by decide +kernel
theorem dX2_run_118 : decode cX2_run 118 = .ok (.iconst 0, 1) := by decide +kernel
theorem dX2_run_119 : decode cX2_run 119 = .ok (.iastore, 1) := by decide +kernel
theorem dX2_run_120 : decode cX2_run 120 = .ok (.goto 316, 3) := by decide +kernel
theorem dX2_run_123 : decode cX2_run 123 = .ok (.aload_n 0, 1) := by decide +kernel
theorem dX2_run_124 : decode cX2_run 124 = .ok (.getfield 24, 3) := by decide +kernel
theorem dX2_run_127 : decode cX2_run 127 = .ok (.iload 5, 2) := by decide +kernel
theorem dX2_run_129 : decode cX2_run 129 = .ok (.iaload, 1) := by decide +kernel
theorem dX2_run_130 : decode cX2_run 130 = .ok (.iconst 2, 1) := by decide +kernel
theorem dX2_run_131 : decode cX2_run 131 = .ok (.if_icmp .eq 15, 3) := by decide +kernel
theorem dX2_run_134 : decode cX2_run 134 = .ok (.aload_n 0, 1) := by decide +kernel
theorem dX2_run_135 : decode cX2_run 135 = .ok (.getfield 24, 3) := by decide +kernel
theorem dX2_run_138 : decode cX2_run 138 = .ok (.iload 5, 2) := by decide +kernel
theorem dX2_run_140 : decode cX2_run 140 = .ok (.iaload, 1) := by decide +kernel
theorem dX2_run_141 : decode cX2_run 141 = .ok (.bipush 9, 2) := by decide +kernel
theorem dX2_run_143 : decode cX2_run 143 = .ok (.if_icmp .ne 7, 3) := by decide +kernel
theorem dX2_run_146 : decode cX2_run 146 = .ok (.iconst 1, 1) := by decide +kernel
theorem dX2_run_147 : decode cX2_run 147 = .ok (.goto 4, 3) := by decide +kernel
theorem dX2_run_150 : decode cX2_run 150 = .ok (.iconst 0, 1) := by decide +kernel
theorem dX2_run_151 : decode cX2_run 151 = .ok (.istore 7, 2) := by decide +kernel
theorem dX2_run_153 : decode cX2_run 153 = .ok (.iload 4, 2) := by decide +kernel
theorem dX2_run_155 : decode cX2_run 155 = .ok (.iload 7, 2) := by decide +kernel
theorem dX2_run_157 : decode cX2_run 157 = .ok (.ifCond .eq 7, 3) := by decide +kernel
theorem dX2_run_160 : decode cX2_run 160 = .ok (.iconst 0, 1) := by decide +kernel
theorem dX2_run_161 : decode cX2_run 161 = .ok (.goto 4, 3) := by decide +kernel
theorem dX2_run_164 : decode cX2_run 164 = .ok (.iconst 1, 1) := by decide +kernel
theorem dX2_run_165 : decode cX2_run 165 = .ok (.if_icmp .ge 6, 3) := by decide +kernel
theorem dX2_run_168 : decode cX2_run 168 = .ok (.goto 268, 3) := by decide +kernel
theorem dX2_run_171 : decode cX2_run 171 = .ok (.aload_n 0, 1) := by decide +kernel
theorem dX2_run_172 : decode cX2_run 172 = .ok (.getfield 30, 3) := by decide +kernel
theorem dX2_run_175 : decode cX2_run 175 = .ok (.iload 4, 2) := by decide +kernel
theorem dX2_run_177 : decode cX2_run 177 = .ok (.iaload, 1) := by decide +kernel
theorem dX2_run_178 : decode cX2_run 178 = .ok (.istore 8, 2) := by decide +kernel
theorem dX2_run_180 : decode cX2_run 180 = .ok (.iload 4, 2) := by decide +kernel
theorem dX2_run_182 : decode cX2_run 182 = .ok (.iload 7, 2) := by decide +kernel
theorem dX2_run_184 : decode cX2_run 184 = .ok (.ifCond .eq 7, 3) := by decide +kernel
theorem dX2_run_187 : decode cX2_run 187 = .ok (.iconst 0, 1) := by decide +kernel
theorem dX2_run_188 : decode cX2_run 188 = .ok (.goto 4, 3) := by decide +kernel
theorem dX2_run_191 : decode cX2_run 191 = .ok (.iconst 1, 1) := by decide +kernel
theorem dX2_run_192 : decode cX2_run 192 = .ok (.isub, 1) := by decide +kernel
theorem dX2_run_193 : decode cX2_run 193 = .ok (.istore 4, 2) := by decide +kernel
theorem dX2_run_195 : decode cX2_run 195 = .ok (.aload_n 0, 1) := by decide +kernel
theorem dX2_run_196 : decode cX2_run 196 = .ok (.getfield 30, 3) := by decide +kernel
theorem dX2_run_199 : decode cX2_run 199 = .ok (.iload 4, 2) := by decide +kernel
theorem dX2_run_201 : decode cX2_run 201 = .ok (.iaload, 1) := by decide +kernel
theorem dX2_run_202 : decode cX2_run 202 = .ok (.istore 9, 2) := by decide +kernel
theorem dX2_run_204 : decode cX2_run 204 = .ok (.aload_n 0, 1) := by decide +kernel
theorem dX2_run_205 : decode cX2_run 205 = .ok (.getfield 24, 3) := by decide +kernel
theorem dX2_run_208 : decode cX2_run 208 = .ok (.iload 5, 2) := by decide +kernel
theorem dX2_run_210 : decode cX2_run 210 = .ok (.iaload, 1) := by decide +kernel
theorem dX2_run_211 : decode cX2_run 211 = .ok (.tableswitch 213 2 10 #[49, 73, 88, 103, 118, 140, 162, 184, 198], 49) := by decide +kernel
theorem dX2_run_260 : decode cX2_run 260 = .ok (.aload_n 0, 1) := by decide +kernel
theorem dX2_run_261 : decode cX2_run 261 = .ok (.getfield 30, 3) := by decide +kernel
theorem dX2_run_264 : decode cX2_run 264 = .ok (.iload 4, 2) := by decide +kernel
theorem dX2_run_266 : decode cX2_run 266 = .ok (.iload 6, 2) := by decide +kernel
theorem dX2_run_268 : decode cX2_run 268 = .ok (.ifCond .ne 7, 3) := by decide +kernel
theorem dX2_run_271 : decode cX2_run 271 = .ok (.iconst 0, 1) := by decide +kernel
theorem dX2_run_272 : decode cX2_run 272 = .ok (.goto 8, 3) := by decide +kernel
theorem dX2_run_275 : decode cX2_run 275 = .ok (.iload 9, 2) := by decide +kernel
theorem dX2_run_277 : decode cX2_run 277 = .ok (.iload 6, 2) := by decide +kernel
theorem dX2_run_279 : decode cX2_run 279 = .ok (.idiv, 1) := by decide +kernel
theorem dX2_run_280 : decode cX2_run 280 = .ok (.iastore, 1) := by decide +kernel
theorem dX2_run_281 : decode cX2_run 281 = .ok (.goto 155, 3) := by decide +kernel
theorem dX2_run_284 : decode cX2_run 284 = .ok (.aload_n 0, 1) := by decide +kernel
theorem dX2_run_285 : decode cX2_run 285 = .ok (.getfield 30, 3) := by decide +kernel
theorem dX2_run_288 : decode cX2_run 288 = .ok (.iload 4, 2) := by decide +kernel
theorem dX2_run_290 : decode cX2_run 290 = .ok (.iload 9, 2) := by decide +kernel
theorem dX2_run_292 : decode cX2_run 292 = .ok (.iload 8, 2) := by decide +kernel
theorem dX2_run_294 : decode cX2_run 294 = .ok (.imul, 1) := by decide +kernel
theorem dX2_run_295 : decode cX2_run 295 = .ok (.iastore, 1) := by decide +kernel
theorem dX2_run_296 : decode cX2_run 296 = .ok (.goto 140, 3) := by decide +kernel
theorem dX2_run_299 : decode cX2_run 299 = .ok (.aload_n 0, 1) := by decide +kernel
theorem dX2_run_300 : decode cX2_run 300 = .ok (.getfield 30, 3) := by decide +kernel
theorem dX2_run_303 : decode cX2_run 303 = .ok (.iload 4, 2) := by decide +kernel
theorem dX2_run_305 : decode cX2_run 305 = .ok (.iload 9, 2) := by decide +kernel
theorem dX2_run_307 : decode cX2_run 307 = .ok (.iload 8, 2) := by decide +kernel
theorem dX2_run_309 : decode cX2_run 309 = .ok (.iadd, 1) := by decide +kernel
theorem dX2_run_310 : decode cX2_run 310 = .ok (.iastore, 1) := by decide +kernel
theorem dX2_run_311 : decode cX2_run 311 = .ok (.goto 125, 3) := by decide +kernel
theorem dX2_run_314 : decode cX2_run 314 = .ok (.aload_n 0, 1) := by decide +kernel
theorem dX2_run_315 : decode cX2_run 315 = .ok (.getfield 30, 3) := by decide +kernel
theorem dX2_run_318 : decode cX2_run 318 = .ok (.iload 4, 2) := by decide +kernel
theorem dX2_run_320 : decode cX2_run 320 = .ok (.iload 9, 2) := by decide +kernel
theorem dX2_run_322 : decode cX2_run 322 = .ok (.iload 8, 2) := by decide +kernel
theorem dX2_run_324 : decode cX2_run 324 = .ok (.isub, 1) := by decide +kernel
theorem dX2_run_325 : decode cX2_run 325 = .ok (.iastore, 1) := by decide +kernel
theorem dX2_run_326 : decode cX2_run 326 = .ok (.goto 110, 3) := by decide +kernel
theorem dX2_run_329 : decode cX2_run 329 = .ok (.aload_n 0, 1) := by decide +kernel
theorem dX2_run_330 : decode cX2_run 330 = .ok (.getfield 30, 3) := by decide +kernel
theorem dX2_run_333 : decode cX2_run 333 = .ok (.iload 4, 2) := by decide +kernel
theorem dX2_run_335 : decode cX2_run 335 = .ok (.iload 9, 2) := by decide +kernel
theorem dX2_run_337 : decode cX2_run 337 = .ok (.iload 8, 2) := by decide +kernel
theorem dX2_run_339 : decode cX2_run 339 = .ok (.if_icmp .ge 7, 3) := by decide +kernel
theorem dX2_run_342 : decode cX2_run 342 = .ok (.iconst 1, 1) := by decide +kernel
theorem dX2_run_343 : decode cX2_run 343 = .ok (.goto 4, 3) := by decide +kernel
theorem dX2_run_346 : decode cX2_run 346 = .ok (.iconst 0, 1) := by decide +kernel
theorem dX2_run_347 : decode cX2_run 347 = .ok (.iastore, 1) := by decide +kernel
theorem dX2_run_348 : decode cX2_run 348 = .ok (.goto 88, 3) := by decide +kernel
theorem dX2_run_351 : decode cX2_run 351 = .ok (.aload_n 0, 1) := by decide +kernel
theorem dX2_run_352 : decode cX2_run 352 = .ok (.getfield 30, 3) := by decide +kernel
theorem dX2_run_355 : decode cX2_run 355 = .ok (.iload 4, 2) := by decide +kernel
theorem dX2_run_357 : decode cX2_run 357 = .ok (.iload 9, 2) := by decide +kernel
theorem dX2_run_359 : decode cX2_run 359 = .ok (.iload 8, 2) := by decide +kernel
theorem dX2_run_361 : decode cX2_run 361 = .ok (.if_icmp .ne 7, 3) := by decide +kernel
theorem dX2_run_364 : decode cX2_run 364 = .ok (.iconst 1, 1) := by decide +kernel
theorem dX2_run_365 : decode cX2_run 365 = .ok (.goto 4, 3) := by decide +kernel
theorem dX2_run_368 : decode cX2_run 368 = .ok (.iconst 0, 1) := by decide +kernel
theorem dX2_run_369 : decode cX2_run 369 = .ok (.iastore, 1) := by decide +kernel
theorem dX2_run_370 : decode cX2_run 370 = .ok (.goto 66, 3) := by decide +kernel
theorem dX2_run_373 : decode cX2_run 373 = .ok (.aload_n 0, 1) := by decide +kernel
theorem dX2_run_374 : decode cX2_run 374 = .ok (.getfield 30, 3) := by decide +kernel
theorem dX2_run_377 : decode cX2_run 377 = .ok (.iload 4, 2) := by decide +kernel
theorem dX2_run_379 : decode cX2_run 379 = .ok (.iload 9, 2) := by decide +kernel
theorem dX2_run_381 : decode cX2_run 381 = .ok (.iload 8, 2) := by decide +kernel
theorem dX2_run_383 : decode cX2_run 383 = .ok (.if_icmp .le 7, 3) := by decide +kernel
theorem dX2_run_386 : decode cX2_run 386 = .ok (.iconst 1, 1) := by decide +kernel
theorem dX2_run_387 : decode cX2_run 387 = .ok (.goto 4, 3) := by decide +kernel
theorem dX2_run_390 : decode cX2_run 390 = .ok (.iconst 0, 1) := by decide +kernel
theorem dX2_run_391 : decode cX2_run 391 = .ok (.iastore, 1) := by decide +kernel
theorem dX2_run_392 : decode cX2_run 392 = .ok (.goto 44, 3) := by decide +kernel
theorem dX2_run_395 : decode cX2_run 395 = .ok (.aload_n 0, 1) := by decide +kernel
theorem dX2_run_396 : decode cX2_run 396 = .ok (.getfield 30, 3) := by decide +kernel
theorem dX2_run_399 : decode cX2_run 399 = .ok (.iload 4, 2) := by decide +kernel
theorem dX2_run_401 : decode cX2_run 401 = .ok (.iconst 1, 1) := by decide +kernel
theorem dX2_run_402 : decode cX2_run 402 = .ok (.iload 9, 2) := by decide +kernel
theorem dX2_run_404 : decode cX2_run 404 = .ok (.isub, 1) := by decide +kernel
theorem dX2_run_405 : decode cX2_run 405 = .ok (.iastore, 1) := by decide +kernel
theorem dX2_run_406 : decode cX2_run 406 = .ok (.goto 30, 3) := by decide +kernel
theorem dX2_run_409 : decode cX2_run 409 = .ok (.aload_n 0, 1) := by decide +kernel
theorem dX2_run_410 : decode cX2_run 410 = .ok (.getfield 30, 3) := by decide +kernel
theorem dX2_run_413 : decode cX2_run 413 = .ok (.iload 4, 2) := by decide +kernel
theorem dX2_run_415 : decode cX2_run 415 = .ok (.iload 9, 2) := by decide +kernel
theorem dX2_run_417 : decode cX2_run 417 = .ok (.iload 8, 2) := by decide +kernel
theorem dX2_run_419 : decode cX2_run 419 = .ok (.iand, 1) := by decide +kernel
theorem dX2_run_420 : decode cX2_run 420 = .ok (.iastore, 1) := by decide +kernel
theorem dX2_run_421 : decode cX2_run 421 = .ok (.goto 15, 3) := by decide +kernel
theorem dX2_run_424 : decode cX2_run 424 = .ok (.aload_n 0, 1) := by decide +kernel
theorem dX2_run_425 : decode cX2_run 425 = .ok (.getfield 30, 3) := by decide +kernel
theorem dX2_run_428 : decode cX2_run 428 = .ok (.iload 4, 2) := by decide +kernel
theorem dX2_run_430 : decode cX2_run 430 = .ok (.iload 9, 2) := by decide +kernel
theorem dX2_run_432 : decode cX2_run 432 = .ok (.iload 8, 2) := by decide +kernel
theorem dX2_run_434 : decode cX2_run 434 = .ok (.ior, 1) := by decide +kernel
theorem dX2_run_435 : decode cX2_run 435 = .ok (.iastore, 1) := by decide +kernel
theorem dX2_run_436 : decode cX2_run 436 = .ok (.iinc 5 1, 3) := by decide +kernel
theorem dX2_run_439 : decode cX2_run 439 = .ok (.goto (-433), 3) := by decide +kernel
theorem dX2_run_442 : decode cX2_run 442 = .ok (.iload 4, 2) := by decide +kernel
theorem dX2_run_444 : decode cX2_run 444 = .ok (.ifCond .lt 13, 3) := by decide +kernel
theorem dX2_run_447 : decode cX2_run 447 = .ok (.aload_n 0, 1) := by decide +kernel
theorem dX2_run_448 : decode cX2_run 448 = .ok (.getfield 30, 3) := by decide +kernel
theorem dX2_run_451 : decode cX2_run 451 = .ok (.iload 4, 2) := by decide +kernel
theorem dX2_run_453 : decode cX2_run 453 = .ok (.iaload, 1) := by decide +kernel
theorem dX2_run_454 : decode cX2_run 454 = .ok (.goto 4, 3) := by decide +kernel
theorem dX2_run_457 : decode cX2_run 457 = .ok (.iconst 0, 1) := by decide +kernel
theorem dX2_run_458 : decode cX2_run 458 = .ok (.ireturn, 1) := by decide +kernel
theorem dX3_init_0 : decode cX3_init 0 = .ok (.aload_n 0, 1) := by decide +kernel
theorem dX3_init_1 : decode cX3_init 1 = .ok (.invokespecial 3, 3) := by decide +kernel
theorem dX3_init_4 : decode cX3_init 4 = .ok (.aload_n 0, 1) := by decide +kernel
theorem dX3_init_5 : decode cX3_init 5 = .ok (.new 9, 3) := by decide +kernel
theorem dX3_init_8 : decode cX3_init 8 = .ok (.dup, 1) := by decide +kernel
theorem dX3_init_9 : decode cX3_init 9 = .ok (.invokespecial 11, 3) := by decide +kernel
theorem dX3_init_12 : decode cX3_init 12 = .ok (.putfield 12, 3) := by decide +kernel
theorem dX3_init_15 : decode cX3_init 15 = .ok (.aload_n 0, 1) := by decide +kernel
theorem dX3_init_16 : decode cX3_init 16 = .ok (.sipush 400, 3) := by decide +kernel
theorem dX3_init_19 : decode cX3_init 19 = .ok (.newarray .int, 2) := by decide +kernel
theorem dX3_init_21 : decode cX3_init 21 = .ok (.putfield 18, 3) := by decide +kernel
theorem dX3_init_24 : decode cX3_init 24 = .ok (.aload_n 0, 1) := by decide +kernel
theorem dX3_init_25 : decode cX3_init 25 = .ok (.iconst 0, 1) := by decide +kernel
theorem dX3_init_26 : decode cX3_init 26 = .ok (.putfield 22, 3) := by decide +kernel
theorem dX3_init_29 : decode cX3_init 29 = .ok (.aload_n 0, 1) := by decide +kernel
theorem dX3_init_30 : decode cX3_init 30 = .ok (.iconst 0, 1) := by decide +kernel
theorem dX3_init_31 : decode cX3_init 31 = .ok (.putfield 26, 3) := by decide +kernel
theorem dX3_init_34 : decode cX3_init 34 = .ok (.aload_n 0, 1) := by decide +kernel
theorem dX3_init_35 : decode cX3_init 35 = .ok (.iconst 0, 1) := by decide +kernel
theorem dX3_init_36 : decode cX3_init 36 = .ok (.putfield 29, 3) := by decide +kernel
theorem dX3_init_39 : decode cX3_init 39 = .ok (.aload_n 0, 1) := by decide +kernel
theorem dX3_init_40 : decode cX3_init 40 = .ok (.iconst 0, 1) := by decide +kernel
theorem dX3_init_41 : decode cX3_init 41 = .ok (.putfield 32, 3) := by decide +kernel
theorem dX3_init_44 : decode cX3_init 44 = .ok (.aload_n 0, 1) := by decide +kernel
theorem dX3_init_45 : decode cX3_init 45 = .ok (.iconst 0, 1) := by decide +kernel
theorem dX3_init_46 : decode cX3_init 46 = .ok (.putfield 35, 3) := by decide +kernel
theorem dX3_init_49 : decode cX3_init 49 = .ok (.aload_n 0, 1) := by decide +kernel
theorem dX3_init_50 : decode cX3_init 50 = .ok (.iconst 0, 1) := by decide +kernel
theorem dX3_init_51 : decode cX3_init 51 = .ok (.putfield 39, 3) := by decide +kernel
theorem dX3_init_54 : decode cX3_init 54 = .ok (.aload_n 0, 1) := by decide +kernel
theorem dX3_init_55 : decode cX3_init 55 = .ok (.aload_n 1, 1) := by decide +kernel
theorem dX3_init_56 : decode cX3_init 56 = .ok (.putfield 42, 3) := by decide +kernel
theorem dX3_init_59 : decode cX3_init 59 = .ok (.return_, 1) := by decide +kernel
theorem dX3_read_0 : decode cX3_read 0 = .ok (.aload_n 0, 1) := by decide +kernel
theorem dX3_read_1 : decode cX3_read 1 = .ok (.getfield 12, 3) := by decide +kernel
theorem dX3_read_4 : decode cX3_read 4 = .ok (.invokevirtual 46, 3) := by decide +kernel
theorem dX3_read_7 : decode cX3_read 7 = .ok (.iconst 0, 1) := by decide +kernel
theorem dX3_read_8 : decode cX3_read 8 = .ok (.istore_n 1, 1) := by decide +kernel
theorem dX3_read_9 : decode cX3_read 9 = .ok (.iload_n 1, 1) := by decide +kernel
theorem dX3_read_10 : decode cX3_read 10 = .ok (.sipush 400, 3) := by decide +kernel
theorem dX3_read_13 : decode cX3_read 13 = .ok (.if_icmp .gt 28, 3) := by decide +kernel
theorem dX3_read_16 : decode cX3_read 16 = .ok (.aload_n 0, 1) := by decide +kernel
theorem dX3_read_17 : decode cX3_read 17 = .ok (.getfield 42, 3) := by decide +kernel
theorem dX3_read_20 : decode cX3_read 20 = .ok (.invokevirtual 49, 3) := by decide +kernel
theorem dX3_read_23 : decode cX3_read 23 = .ok (.ifCond .ne 18, 3) := by decide +kernel
theorem dX3_read_26 : decode cX3_read 26 = .ok (.aload_n 0, 1) := by decide +kernel
theorem dX3_read_27 : decode cX3_read 27 = .ok (.invokevirtual 55, 3) := by decide +kernel
theorem dX3_read_30 : decode cX3_read 30 = .ok (.ifCond .ne 5, 3) := by decide +kernel
theorem dX3_read_33 : decode cX3_read 33 = .ok (.iconst 0, 1) := by decide +kernel
theorem dX3_read_34 : decode cX3_read 34 = .ok (.ireturn, 1) := by decide +kernel
theorem dX3_read_35 : decode cX3_read 35 = .ok (.iinc 1 1, 3) := by decide +kernel
theorem dX3_read_38 : decode cX3_read 38 = .ok (.goto (-29), 3) := by decide +kernel
theorem dX3_read_41 : decode cX3_read 41 = .ok (.iconst 1, 1) := by decide +kernel
theorem dX3_read_42 : decode cX3_read 42 = .ok (.ireturn, 1) := by decide +kernel
theorem dX3_readLine_0 : decode cX3_readLine 0 = .ok (.aload_n 0, 1) := by decide +kernel
theorem dX3_readLine_1 : decode cX3_readLine 1 = .ok (.getfield 42, 3) := by decide +kernel
theorem dX3_readLine_4 : decode cX3_readLine 4 = .ok (.ldc 58, 2) := by decide +kernel
theorem dX3_readLine_6 : decode cX3_readLine 6 = .ok (.invokevirtual 60, 3) := by decide +kernel
theorem dX3_readLine_9 : decode cX3_readLine 9 = .ok (.ifCond .eq 7, 3) := by decide +kernel
theorem dX3_readLine_12 : decode cX3_readLine 12 = .ok (.iconst 0, 1) := by decide +kernel
theorem dX3_readLine_13 : decode cX3_readLine 13 = .ok (.goto 36, 3) := by decide +kernel
theorem dX3_readLine_16 : decode cX3_readLine 16 = .ok (.aload_n 0, 1) := by decide +kernel
theorem dX3_readLine_17 : decode cX3_readLine 17 = .ok (.getfield 42, 3) := by decide +kernel
theorem dX3_readLine_20 : decode cX3_readLine 20 = .ok (.ldc 64, 2) := by decide +kernel
theorem dX3_readLine_22 : decode cX3_readLine 22 = .ok (.invokevirtual 60, 3) := by decide +kernel
theorem dX3_readLine_25 : decode cX3_readLine 25 = .ok (.ifCond .eq 7, 3) := by decide +kernel
theorem dX3_readLine_28 : decode cX3_readLine 28 = .ok (.iconst 1, 1) := by decide +kernel
theorem dX3_readLine_29 : decode cX3_readLine 29 = .ok (.goto 20, 3) := by decide +kernel
theorem dX3_readLine_32 : decode cX3_readLine 32 = .ok (.aload_n 0, 1) := by decide +kernel
theorem dX3_readLine_33 : decode cX3_readLine 33 = .ok (.getfield 42, 3) := by decide +kernel
theorem dX3_readLine_36 : decode cX3_readLine 36 = .ok (.ldc 66, 2) := by decide +kernel
theorem dX3_readLine_38 : decode cX3_readLine 38 = .ok (.invokevirtual 60, 3) := by decide +kernel
theorem dX3_readLine_41 : decode cX3_readLine 41 = .ok (.ifCond .eq 7, 3) := by decide +kernel
theorem dX3_readLine_44 : decode cX3_readLine 44 = .ok (.iconst 2, 1) := by decide +kernel
theorem dX3_readLine_45 : decode cX3_readLine 45 = .ok (.goto 4, 3) := by decide +kernel
theorem dX3_readLine_48 : decode cX3_readLine 48 = .ok (.iconst (-1), 1) := by decide +kernel
theorem dX3_readLine_49 : decode cX3_readLine 49 = .ok (.istore_n 1, 1) := by decide +kernel
theorem dX3_readLine_50 : decode cX3_readLine 50 = .ok (.iload_n 1, 1) := by decide +kernel
theorem dX3_readLine_51 : decode cX3_readLine 51 = .ok (.iconst (-1), 1) := by decide +kernel
theorem dX3_readLine_52 : decode cX3_readLine 52 = .ok (.if_icmp .ne 12, 3) := by decide +kernel
theorem dX3_readLine_55 : decode cX3_readLine 55 = .ok (.aload_n 0, 1) := by decide +kernel
theorem dX3_readLine_56 : decode cX3_readLine 56 = .ok (.getfield 42, 3) := by decide +kernel
theorem dX3_readLine_59 : decode cX3_readLine 59 = .ok (.iconst 1, 1) := by decide +kernel
theorem dX3_readLine_60 : decode cX3_readLine 60 = .ok (.invokevirtual 68, 3) := by decide +kernel
theorem dX3_readLine_63 : decode cX3_readLine 63 = .ok (.ireturn, 1) := by decide +kernel
theorem dX3_readLine_64 : decode cX3_readLine 64 = .ok (.aload_n 0, 1) := by decide +kernel
theorem dX3_readLine_65 : decode cX3_readLine 65 = .ok (.getfield 12, 3) := by decide +kernel
theorem dX3_readLine_68 : decode cX3_readLine 68 = .ok (.invokevirtual 72, 3) := by decide +kernel
theorem dX3_readLine_71 : decode cX3_readLine 71 = .ok (.ifCond .eq 12, 3) := by decide +kernel
theorem dX3_readLine_74 : decode cX3_readLine 74 = .ok (.aload_n 0, 1) := by decide +kernel
theorem dX3_readLine_75 : decode cX3_readLine 75 = .ok (.getfield 42, 3) := by decide +kernel
theorem dX3_readLine_78 : decode cX3_readLine 78 = .ok (.iconst 3, 1) := by decide +kernel
theorem dX3_readLine_79 : decode cX3_readLine 79 = .ok (.invokevirtual 68, 3) := by decide +kernel
theorem dX3_readLine_82 : decode cX3_readLine 82 = .ok (.ireturn, 1) := by decide +kernel
theorem dX3_readLine_83 : decode cX3_readLine 83 = .ok (.aload_n 0, 1) := by decide +kernel
theorem dX3_readLine_84 : decode cX3_readLine 84 = .ok (.getfield 42, 3) := by decide +kernel
theorem dX3_readLine_87 : decode cX3_readLine 87 = .ok (.invokevirtual 75, 3) := by decide +kernel
theorem dX3_readLine_90 : decode cX3_readLine 90 = .ok (.aload_n 0, 1) := by decide +kernel
theorem dX3_readLine_91 : decode cX3_readLine 91 = .ok (.getfield 12, 3) := by decide +kernel
theorem dX3_readLine_94 : decode cX3_readLine 94 = .ok (.iload_n 1, 1) := by decide +kernel
theorem dX3_readLine_95 : decode cX3_readLine 95 = .ok (.invokevirtual 78, 3) := by decide +kernel
theorem dX3_readLine_98 : decode cX3_readLine 98 = .ok (.aload_n 0, 1) := by decide +kernel
theorem dX3_readLine_99 : decode cX3_readLine 99 = .ok (.iconst 0, 1) := by decide +kernel
theorem dX3_readLine_100 : decode cX3_readLine 100 = .ok (.putfield 22, 3) := by decide +kernel
theorem dX3_readLine_103 : decode cX3_readLine 103 = .ok (.aload_n 0, 1) := by decide +kernel
theorem dX3_readLine_104 : decode cX3_readLine 104 = .ok (.iconst 0, 1) := by decide +kernel
theorem dX3_readLine_105 : decode cX3_readLine 105 = .ok (.putfield 26, 3) := by decide +kernel
theorem dX3_readLine_108 : decode cX3_readLine 108 = .ok (.aload_n 0, 1) := by decide +kernel
theorem dX3_readLine_109 : decode cX3_readLine 109 = .ok (.iconst 0, 1) := by decide +kernel
theorem dX3_readLine_110 : decode cX3_readLine 110 = .ok (.putfield 29, 3) := by decide +kernel
theorem dX3_readLine_113 : decode cX3_readLine 113 = .ok (.aload_n 0, 1) := by decide +kernel
theorem dX3_readLine_114 : decode cX3_readLine 114 = .ok (.iconst 0, 1) := by decide +kernel
theorem dX3_readLine_115 : decode cX3_readLine 115 = .ok (.putfield 35, 3) := by decide +kernel
theorem dX3_readLine_118 : decode cX3_readLine 118 = .ok (.aload_n 0, 1) := by decide +kernel
theorem dX3_readLine_119 : decode cX3_readLine 119 = .ok (.iconst 0, 1) := by decide +kernel
theorem dX3_readLine_120 : decode cX3_readLine 120 = .ok (.putfield 32, 3) := by decide +kernel
theorem dX3_readLine_123 : decode cX3_readLine 123 = .ok (.iconst 1, 1) := by decide +kernel
theorem dX3_readLine_124 : decode cX3_readLine 124 = .ok (.istore_n 2, 1) := by decide +kernel
theorem dX3_readLine_125 : decode cX3_readLine 125 = .ok (.iconst 0, 1) := by decide +kernel
theorem dX3_readLine_126 : decode cX3_readLine 126 = .ok (.istore_n 3, 1) := by decide +kernel
theorem dX3_readLine_127 : decode cX3_readLine 127 = .ok (.iload_n 3, 1) := by decide +kernel
theorem dX3_readLine_128 : decode cX3_readLine 128 = .ok (.sipush 400, 3) := by decide +kernel
theorem dX3_readLine_131 : decode cX3_readLine 131 = .ok (.if_icmp .gt 40, 3) := by decide +kernel
theorem dX3_readLine_134 : decode cX3_readLine 134 = .ok (.iload_n 2, 1) := by decide +kernel
theorem dX3_readLine_135 : decode cX3_readLine 135 = .ok (.ifCond .eq 36, 3) := by decide +kernel
theorem dX3_readLine_138 : decode cX3_readLine 138 = .ok (.aload_n 0, 1) := by decide +kernel
theorem dX3_readLine_139 : decode cX3_readLine 139 = .ok (.getfield 32, 3) := by decide +kernel
theorem dX3_readLine_142 : decode cX3_readLine 142 = .ok (.ifCond .eq 11, 3) := by decide +kernel
theorem dX3_readLine_145 : decode cX3_readLine 145 = .ok (.aload_n 0, 1) := by decide +kernel
theorem dX3_readLine_146 : decode cX3_readLine 146 = .ok (.getfield 32, 3) := by decide +kernel
theorem dX3_readLine_149 : decode cX3_readLine 149 = .ok (.iconst 1, 1) := by decide +kernel
theorem dX3_readLine_150 : decode cX3_readLine 150 = .ok (.if_icmp .ne 10, 3) := by decide +kernel
theorem dX3_readLine_153 : decode cX3_readLine 153 = .ok (.aload_n 0, 1) := by decide +kernel
theorem dX3_readLine_154 : decode cX3_readLine 154 = .ok (.invokevirtual 82, 3) := by decide +kernel
theorem dX3_readLine_157 : decode cX3_readLine 157 = .ok (.goto 7, 3) := by decide +kernel
theorem dX3_readLine_160 : decode cX3_readLine 160 = .ok (.aload_n 0, 1) := by decide +kernel
theorem dX3_readLine_161 : decode cX3_readLine 161 = .ok (.invokevirtual 85, 3) := by decide +kernel
theorem dX3_readLine_164 : decode cX3_readLine 164 = .ok (.istore_n 2, 1) := by decide +kernel
theorem dX3_readLine_165 : decode cX3_readLine 165 = .ok (.iinc 3 1, 3) := by decide +kernel
theorem dX3_readLine_168 : decode cX3_readLine 168 = .ok (.goto (-41), 3) := by decide +kernel
theorem dX3_readLine_171 : decode cX3_readLine 171 = .ok (.aload_n 0, 1) := by decide +kernel
theorem dX3_readLine_172 : decode cX3_readLine 172 = .ok (.getfield 42, 3) := by decide +kernel
theorem dX3_readLine_175 : decode cX3_readLine 175 = .ok (.getfield 88, 3) := by decide +kernel
theorem dX3_readLine_178 : decode cX3_readLine 178 = .ok (.ifCond .ne 7, 3) := by decide +kernel
theorem dX3_readLine_181 : decode cX3_readLine 181 = .ok (.iconst 1, 1) := by decide +kernel
theorem dX3_readLine_182 : decode cX3_readLine 182 = .ok (.goto 4, 3) := by decide +kernel
theorem dX3_readLine_185 : decode cX3_readLine 185 = .ok (.iconst 0, 1) := by decide +kernel
theorem dX3_readLine_186 : decode cX3_readLine 186 = .ok (.ireturn, 1) := by decide +kernel
theorem dX3_readOperand_0 : decode cX3_readOperand 0 = .ok (.aload_n 0, 1) := by decide +kernel
theorem dX3_readOperand_1 : decode cX3_readOperand 1 = .ok (.getfield 32, 3) := by decide +kernel
theorem dX3_readOperand_4 : decode cX3_readOperand 4 = .ok (.iconst 1, 1) := by decide +kernel
theorem dX3_readOperand_5 : decode cX3_readOperand 5 = .ok (.if_icmp .ne 46, 3) := by decide +kernel
theorem dX3_readOperand_8 : decode cX3_readOperand 8 = .ok (.aload_n 0, 1) := by decide +kernel
theorem dX3_readOperand_9 : decode cX3_readOperand 9 = .ok (.iconst 0, 1) := by decide +kernel
theorem dX3_readOperand_10 : decode cX3_readOperand 10 = .ok (.putfield 39, 3) := by decide +kernel
theorem dX3_readOperand_13 : decode cX3_readOperand 13 = .ok (.aload_n 0, 1) := by decide +kernel
theorem dX3_readOperand_14 : decode cX3_readOperand 14 = .ok (.getfield 42, 3) := by decide +kernel
theorem dX3_readOperand_17 : decode cX3_readOperand 17 = .ok (.ldc 91, 2) := by decide +kernel
theorem dX3_readOperand_19 : decode cX3_readOperand 19 = .ok (.invokevirtual 60, 3) := by decide +kernel
theorem dX3_readOperand_22 : decode cX3_readOperand 22 = .ok (.ifCond .eq 10, 3) := by decide +kernel
theorem dX3_readOperand_25 : decode cX3_readOperand 25 = .ok (.aload_n 0, 1) := by decide +kernel
theorem dX3_readOperand_26 : decode cX3_readOperand 26 = .ok (.bipush 9, 2) := by decide +kernel
theorem dX3_readOperand_28 : decode cX3_readOperand 28 = .ok (.invokevirtual 93, 3) := by decide +kernel
theorem dX3_readOperand_31 : decode cX3_readOperand 31 = .ok (.ireturn, 1) := by decide +kernel
theorem dX3_readOperand_32 : decode cX3_readOperand 32 = .ok (.aload_n 0, 1) := by decide +kernel
theorem dX3_readOperand_33 : decode cX3_readOperand 33 = .ok (.getfield 42, 3) := by decide +kernel
theorem dX3_readOperand_36 : decode cX3_readOperand 36 = .ok (.bipush 40, 2) := by decide +kernel
theorem dX3_readOperand_38 : decode cX3_readOperand 38 = .ok (.invokevirtual 96, 3) := by decide +kernel
theorem dX3_readOperand_41 : decode cX3_readOperand 41 = .ok (.ifCond .eq 10, 3) := by decide +kernel
theorem dX3_readOperand_44 : decode cX3_readOperand 44 = .ok (.aload_n 0, 1) := by decide +kernel
theorem dX3_readOperand_45 : decode cX3_readOperand 45 = .ok (.bipush 12, 2) := by decide +kernel
theorem dX3_readOperand_47 : decode cX3_readOperand 47 = .ok (.invokevirtual 93, 3) := by decide +kernel
theorem dX3_readOperand_50 : decode cX3_readOperand 50 = .ok (.ireturn, 1) := by decide +kernel
theorem dX3_readOperand_51 : decode cX3_readOperand 51 = .ok (.aload_n 0, 1) := by decide +kernel
theorem dX3_readOperand_52 : decode cX3_readOperand 52 = .ok (.getfield 42, 3) := by decide +kernel
theorem dX3_readOperand_55 : decode cX3_readOperand 55 = .ok (.invokevirtual 100, 3) := by decide +kernel
theorem dX3_readOperand_58 : decode cX3_readOperand 58 = .ok (.ifCond .eq 21, 3) := by decide +kernel
theorem dX3_readOperand_61 : decode cX3_readOperand 61 = .ok (.aload_n 0, 1) := by decide +kernel
theorem dX3_readOperand_62 : decode cX3_readOperand 62 = .ok (.getfield 12, 3) := by decide +kernel
theorem dX3_readOperand_65 : decode cX3_readOperand 65 = .ok (.iconst 0, 1) := by decide +kernel
theorem dX3_readOperand_66 : decode cX3_readOperand 66 = .ok (.aload_n 0, 1) := by decide +kernel
theorem dX3_readOperand_67 : decode cX3_readOperand 67 = .ok (.getfield 42, 3) := by decide +kernel
theorem dX3_readOperand_70 : decode cX3_readOperand 70 = .ok (.invokevirtual 103, 3) := by decide +kernel
theorem dX3_readOperand_73 : decode cX3_readOperand 73 = .ok (.invokevirtual 107, 3) := by decide +kernel
theorem dX3_readOperand_76 : decode cX3_readOperand 76 = .ok (.goto 31, 3) := by decide +kernel
theorem dX3_readOperand_79 : decode cX3_readOperand 79 = .ok (.aload_n 0, 1) := by decide +kernel
theorem dX3_readOperand_80 : decode cX3_readOperand 80 = .ok (.invokevirtual 111, 3) := by decide +kernel
theorem dX3_readOperand_83 : decode cX3_readOperand 83 = .ok (.istore_n 1, 1) := by decide +kernel
theorem dX3_readOperand_84 : decode cX3_readOperand 84 = .ok (.iload_n 1, 1) := by decide +kernel
theorem dX3_readOperand_85 : decode cX3_readOperand 85 = .ok (.iconst (-1), 1) := by decide +kernel
theorem dX3_readOperand_86 : decode cX3_readOperand 86 = .ok (.if_icmp .ne 12, 3) := by decide +kernel
theorem dX3_readOperand_89 : decode cX3_readOperand 89 = .ok (.aload_n 0, 1) := by decide +kernel
theorem dX3_readOperand_90 : decode cX3_readOperand 90 = .ok (.getfield 42, 3) := by decide +kernel
theorem dX3_readOperand_93 : decode cX3_readOperand 93 = .ok (.iconst 1, 1) := by decide +kernel
theorem dX3_readOperand_94 : decode cX3_readOperand 94 = .ok (.invokevirtual 68, 3) := by decide +kernel
theorem dX3_readOperand_97 : decode cX3_readOperand 97 = .ok (.ireturn, 1) := by decide +kernel
theorem dX3_readOperand_98 : decode cX3_readOperand 98 = .ok (.aload_n 0, 1) := by decide +kernel
theorem dX3_readOperand_99 : decode cX3_readOperand 99 = .ok (.getfield 12, 3) := by decide +kernel
theorem dX3_readOperand_102 : decode cX3_readOperand 102 = .ok (.iconst 1, 1) := by decide +kernel
theorem dX3_readOperand_103 : decode cX3_readOperand 103 = .ok (.iload_n 1, 1) := by decide +kernel
theorem dX3_readOperand_104 : decode cX3_readOperand 104 = .ok (.invokevirtual 107, 3) := by decide +kernel
theorem dX3_readOperand_107 : decode cX3_readOperand 107 = .ok (.aload_n 0, 1) := by decide +kernel
theorem dX3_readOperand_108 : decode cX3_readOperand 108 = .ok (.getfield 42, 3) := by decide +kernel
theorem dX3_readOperand_111 : decode cX3_readOperand 111 = .ok (.invokevirtual 75, 3) := by decide +kernel
theorem dX3_readOperand_114 : decode cX3_readOperand 114 = .ok (.aload_n 0, 1) := by decide +kernel
theorem dX3_readOperand_115 : decode cX3_readOperand 115 = .ok (.iconst 2, 1) := by decide +kernel
theorem dX3_readOperand_116 : decode cX3_readOperand 116 = .ok (.putfield 32, 3) := by decide +kernel
theorem dX3_readOperand_119 : decode cX3_readOperand 119 = .ok (.iconst 1, 1) := by decide +kernel
theorem dX3_readOperand_120 : decode cX3_readOperand 120 = .ok (.ireturn, 1) := by decide +kernel
theorem dX3_readOpening_0 : decode cX3_readOpening 0 = .ok (.aload_n 0, 1) := by decide +kernel
theorem dX3_readOpening_1 : decode cX3_readOpening 1 = .ok (.getfield 29, 3) := by decide +kernel
theorem dX3_readOpening_4 : decode cX3_readOpening 4 = .ok (.bipush 8, 2) := by decide +kernel
theorem dX3_readOpening_6 : decode cX3_readOpening 6 = .ok (.if_icmp .lt 12, 3) := by decide +kernel
theorem dX3_readOpening_9 : decode cX3_readOpening 9 = .ok (.aload_n 0, 1) := by decide +kernel
theorem dX3_readOpening_10 : decode cX3_readOpening 10 = .ok (.getfield 42, 3) := by decide +kernel
theorem dX3_readOpening_13 : decode cX3_readOpening 13 = .ok (.iconst 3, 1) := by decide +kernel
theorem dX3_readOpening_14 : decode cX3_readOpening 14 = .ok (.invokevirtual 68, 3) := by decide +kernel
theorem dX3_readOpening_17 : decode cX3_readOpening 17 = .ok (.ireturn, 1) := by decide +kernel
theorem dX3_readOpening_18 : decode cX3_readOpening 18 = .ok (.aload_n 0, 1) := by decide +kernel
theorem dX3_readOpening_19 : decode cX3_readOpening 19 = .ok (.dup, 1) := by decide +kernel
theorem dX3_readOpening_20 : decode cX3_readOpening 20 = .ok (.getfield 29, 3) := by decide +kernel
theorem dX3_readOpening_23 : decode cX3_readOpening 23 = .ok (.iconst 1, 1) := by decide +kernel
theorem dX3_readOpening_24 : decode cX3_readOpening 24 = .ok (.iadd, 1) := by decide +kernel
theorem dX3_readOpening_25 : decode cX3_readOpening 25 = .ok (.putfield 29, 3) := by decide +kernel
theorem dX3_readOpening_28 : decode cX3_readOpening 28 = .ok (.iload_n 1, 1) := by decide +kernel
theorem dX3_readOpening_29 : decode cX3_readOpening 29 = .ok (.bipush 12, 2) := by decide +kernel
theorem dX3_readOpening_31 : decode cX3_readOpening 31 = .ok (.if_icmp .ne 13, 3) := by decide +kernel
theorem dX3_readOpening_34 : decode cX3_readOpening 34 = .ok (.aload_n 0, 1) := by decide +kernel
theorem dX3_readOpening_35 : decode cX3_readOpening 35 = .ok (.dup, 1) := by decide +kernel
theorem dX3_readOpening_36 : decode cX3_readOpening 36 = .ok (.getfield 26, 3) := by decide +kernel
theorem dX3_readOpening_39 : decode cX3_readOpening 39 = .ok (.iconst 1, 1) := by decide +kernel
theorem dX3_readOpening_40 : decode cX3_readOpening 40 = .ok (.iadd, 1) := by decide +kernel
theorem dX3_readOpening_41 : decode cX3_readOpening 41 = .ok (.putfield 26, 3) := by decide +kernel
theorem dX3_readOpening_44 : decode cX3_readOpening 44 = .ok (.aload_n 0, 1) := by decide +kernel
theorem dX3_readOpening_45 : decode cX3_readOpening 45 = .ok (.iload_n 1, 1) := by decide +kernel
theorem dX3_readOpening_46 : decode cX3_readOpening 46 = .ok (.invokevirtual 114, 3) := by decide +kernel
theorem dX3_readOpening_49 : decode cX3_readOpening 49 = .ok (.aload_n 0, 1) := by decide +kernel
theorem dX3_readOpening_50 : decode cX3_readOpening 50 = .ok (.getfield 42, 3) := by decide +kernel
theorem dX3_readOpening_53 : decode cX3_readOpening 53 = .ok (.invokevirtual 75, 3) := by decide +kernel
theorem dX3_readOpening_56 : decode cX3_readOpening 56 = .ok (.iconst 1, 1) := by decide +kernel
theorem dX3_readOpening_57 : decode cX3_readOpening 57 = .ok (.ireturn, 1) := by decide +kernel
theorem dX3_readSign_0 : decode cX3_readSign 0 = .ok (.aload_n 0, 1) := by decide +kernel
theorem dX3_readSign_1 : decode cX3_readSign 1 = .ok (.getfield 32, 3) := by decide +kernel
theorem dX3_readSign_4 : decode cX3_readSign 4 = .ok (.iconst 2, 1) := by decide +kernel
theorem dX3_readSign_5 : decode cX3_readSign 5 = .ok (.if_icmp .ne 106, 3) := by decide +kernel
theorem dX3_readSign_8 : decode cX3_readSign 8 = .ok (.aload_n 0, 1) := by decide +kernel
theorem dX3_readSign_9 : decode cX3_readSign 9 = .ok (.getfield 42, 3) := by decide +kernel
theorem dX3_readSign_12 : decode cX3_readSign 12 = .ok (.bipush 47, 2) := by decide +kernel
theorem dX3_readSign_14 : decode cX3_readSign 14 = .ok (.invokevirtual 96, 3) := by decide +kernel
theorem dX3_readSign_17 : decode cX3_readSign 17 = .ok (.ifCond .eq 8, 3) := by decide +kernel
theorem dX3_readSign_20 : decode cX3_readSign 20 = .ok (.aload_n 0, 1) := by decide +kernel
theorem dX3_readSign_21 : decode cX3_readSign 21 = .ok (.invokevirtual 117, 3) := by decide +kernel
theorem dX3_readSign_24 : decode cX3_readSign 24 = .ok (.ireturn, 1) := by decide +kernel
theorem dX3_readSign_25 : decode cX3_readSign 25 = .ok (.aload_n 0, 1) := by decide +kernel
theorem dX3_readSign_26 : decode cX3_readSign 26 = .ok (.getfield 42, 3) := by decide +kernel
theorem dX3_readSign_29 : decode cX3_readSign 29 = .ok (.bipush 42, 2) := by decide +kernel
theorem dX3_readSign_31 : decode cX3_readSign 31 = .ok (.invokevirtual 96, 3) := by decide +kernel
theorem dX3_readSign_34 : decode cX3_readSign 34 = .ok (.ifCond .eq 7, 3) := by decide +kernel
theorem dX3_readSign_37 : decode cX3_readSign 37 = .ok (.iconst 3, 1) := by decide +kernel
theorem dX3_readSign_38 : decode cX3_readSign 38 = .ok (.goto 36, 3) := by decide +kernel
theorem dX3_readSign_41 : decode cX3_readSign 41 = .ok (.aload_n 0, 1) := by decide +kernel
theorem dX3_readSign_42 : decode cX3_readSign 42 = .ok (.getfield 42, 3) := by decide +kernel
theorem dX3_readSign_45 : decode cX3_readSign 45 = .ok (.bipush 43, 2) := by decide +kernel
theorem dX3_readSign_47 : decode cX3_readSign 47 = .ok (.invokevirtual 96, 3) := by decide +kernel
theorem dX3_readSign_50 : decode cX3_readSign 50 = .ok (.ifCond .eq 7, 3) := by decide +kernel
theorem dX3_readSign_53 : decode cX3_readSign 53 = .ok (.iconst 4, 1) := by decide +kernel
theorem dX3_readSign_54 : decode cX3_readSign 54 = .ok (.goto 20, 3) := by decide +kernel
theorem dX3_readSign_57 : decode cX3_readSign 57 = .ok (.aload_n 0, 1) := by decide +kernel
theorem dX3_readSign_58 : decode cX3_readSign 58 = .ok (.getfield 42, 3) := by decide +kernel
theorem dX3_readSign_61 : decode cX3_readSign 61 = .ok (.bipush 45, 2) := by decide +kernel
theorem dX3_readSign_63 : decode cX3_readSign 63 = .ok (.invokevirtual 96, 3) := by decide +kernel
theorem dX3_readSign_66 : decode cX3_readSign 66 = .ok (.ifCond .eq 7, 3) := by decide +kernel
theorem dX3_readSign_69 : decode cX3_readSign 69 = .ok (.iconst 5, 1) := by decide +kernel
theorem dX3_readSign_70 : decode cX3_readSign 70 = .ok (.goto 4, 3) := by decide +kernel
theorem dX3_readSign_73 : decode cX3_readSign 73 = .ok (.iconst (-1), 1) := by decide +kernel
theorem dX3_readSign_74 : decode cX3_readSign 74 = .ok (.istore_n 1, 1) := by decide +kernel
theorem dX3_readSign_75 : decode cX3_readSign 75 = .ok (.iload_n 1, 1) := by decide +kernel
theorem dX3_readSign_76 : decode cX3_readSign 76 = .ok (.iconst (-1), 1) := by decide +kernel
theorem dX3_readSign_77 : decode cX3_readSign 77 = .ok (.if_icmp .eq 10, 3) := by decide +kernel
theorem dX3_readSign_80 : decode cX3_readSign 80 = .ok (.aload_n 0, 1) := by decide +kernel
theorem dX3_readSign_81 : decode cX3_readSign 81 = .ok (.iload_n 1, 1) := by decide +kernel
theorem dX3_readSign_82 : decode cX3_readSign 82 = .ok (.iconst 0, 1) := by decide +kernel
theorem dX3_readSign_83 : decode cX3_readSign 83 = .ok (.invokevirtual 120, 3) := by decide +kernel
theorem dX3_readSign_86 : decode cX3_readSign 86 = .ok (.ireturn, 1) := by decide +kernel
theorem dX3_readSign_87 : decode cX3_readSign 87 = .ok (.aload_n 0, 1) := by decide +kernel
theorem dX3_readSign_88 : decode cX3_readSign 88 = .ok (.getfield 35, 3) := by decide +kernel
theorem dX3_readSign_91 : decode cX3_readSign 91 = .ok (.ifCond .ne 8, 3) := by decide +kernel
theorem dX3_readSign_94 : decode cX3_readSign 94 = .ok (.aload_n 0, 1) := by decide +kernel
theorem dX3_readSign_95 : decode cX3_readSign 95 = .ok (.invokevirtual 124, 3) := by decide +kernel
theorem dX3_readSign_98 : decode cX3_readSign 98 = .ok (.ireturn, 1) := by decide +kernel
theorem dX3_readSign_99 : decode cX3_readSign 99 = .ok (.aload_n 0, 1) := by decide +kernel
theorem dX3_readSign_100 : decode cX3_readSign 100 = .ok (.getfield 39, 3) := by decide +kernel
theorem dX3_readSign_103 : decode cX3_readSign 103 = .ok (.ifCond .ne 8, 3) := by decide +kernel
theorem dX3_readSign_106 : decode cX3_readSign 106 = .ok (.aload_n 0, 1) := by decide +kernel
theorem dX3_readSign_107 : decode cX3_readSign 107 = .ok (.invokevirtual 127, 3) := by decide +kernel
theorem dX3_readSign_110 : decode cX3_readSign 110 = .ok (.ireturn, 1) := by decide +kernel
theorem dX3_readSign_111 : decode cX3_readSign 111 = .ok (.aload_n 0, 1) := by decide +kernel
theorem dX3_readSign_112 : decode cX3_readSign 112 = .ok (.getfield 42, 3) := by decide +kernel
theorem dX3_readSign_115 : decode cX3_readSign 115 = .ok (.ldc 130, 2) := by decide +kernel
theorem dX3_readSign_117 : decode cX3_readSign 117 = .ok (.invokevirtual 60, 3) := by decide +kernel
theorem dX3_readSign_120 : decode cX3_readSign 120 = .ok (.ifCond .eq 11, 3) := by decide +kernel
theorem dX3_readSign_123 : decode cX3_readSign 123 = .ok (.aload_n 0, 1) := by decide +kernel
theorem dX3_readSign_124 : decode cX3_readSign 124 = .ok (.bipush 10, 2) := by decide +kernel
theorem dX3_readSign_126 : decode cX3_readSign 126 = .ok (.iconst 1, 1) := by decide +kernel
theorem dX3_readSign_127 : decode cX3_readSign 127 = .ok (.invokevirtual 120, 3) := by decide +kernel
theorem dX3_readSign_130 : decode cX3_readSign 130 = .ok (.ireturn, 1) := by decide +kernel
theorem dX3_readSign_131 : decode cX3_readSign 131 = .ok (.aload_n 0, 1) := by decide +kernel
theorem dX3_readSign_132 : decode cX3_readSign 132 = .ok (.getfield 42, 3) := by decide +kernel
theorem dX3_readSign_135 : decode cX3_readSign 135 = .ok (.ldc 132, 2) := by decide +kernel
theorem dX3_readSign_137 : decode cX3_readSign 137 = .ok (.invokevirtual 60, 3) := by decide +kernel
theorem dX3_readSign_140 : decode cX3_readSign 140 = .ok (.ifCond .eq 11, 3) := by decide +kernel
theorem dX3_readSign_143 : decode cX3_readSign 143 = .ok (.aload_n 0, 1) := by decide +kernel
theorem dX3_readSign_144 : decode cX3_readSign 144 = .ok (.bipush 11, 2) := by decide +kernel
theorem dX3_readSign_146 : decode cX3_readSign 146 = .ok (.iconst 1, 1) := by decide +kernel
theorem dX3_readSign_147 : decode cX3_readSign 147 = .ok (.invokevirtual 120, 3) := by decide +kernel
theorem dX3_readSign_150 : decode cX3_readSign 150 = .ok (.ireturn, 1) := by decide +kernel
theorem dX3_readSign_151 : decode cX3_readSign 151 = .ok (.aload_n 0, 1) := by decide +kernel
theorem dX3_readSign_152 : decode cX3_readSign 152 = .ok (.getfield 26, 3) := by decide +kernel
theorem dX3_readSign_155 : decode cX3_readSign 155 = .ok (.ifCond .le 8, 3) := by decide +kernel
theorem dX3_readSign_158 : decode cX3_readSign 158 = .ok (.aload_n 0, 1) := by decide +kernel
theorem dX3_readSign_159 : decode cX3_readSign 159 = .ok (.invokevirtual 134, 3) := by decide +kernel
theorem dX3_readSign_162 : decode cX3_readSign 162 = .ok (.ireturn, 1) := by decide +kernel
theorem dX3_readSign_163 : decode cX3_readSign 163 = .ok (.aload_n 0, 1) := by decide +kernel
theorem dX3_readSign_164 : decode cX3_readSign 164 = .ok (.invokevirtual 137, 3) := by decide +kernel
theorem dX3_readSign_167 : decode cX3_readSign 167 = .ok (.ireturn, 1) := by decide +kernel
theorem dX3_readPart_0 : decode cX3_readPart 0 = .ok (.aload_n 0, 1) := by decide +kernel
theorem dX3_readPart_1 : decode cX3_readPart 1 = .ok (.iconst 2, 1) := by decide +kernel
theorem dX3_readPart_2 : decode cX3_readPart 2 = .ok (.invokestatic 140, 3) := by decide +kernel
theorem dX3_readPart_5 : decode cX3_readPart 5 = .ok (.invokevirtual 144, 3) := by decide +kernel
theorem dX3_readPart_8 : decode cX3_readPart 8 = .ok (.aload_n 0, 1) := by decide +kernel
theorem dX3_readPart_9 : decode cX3_readPart 9 = .ok (.getfield 42, 3) := by decide +kernel
theorem dX3_readPart_12 : decode cX3_readPart 12 = .ok (.invokevirtual 75, 3) := by decide +kernel
theorem dX3_readPart_15 : decode cX3_readPart 15 = .ok (.aload_n 0, 1) := by decide +kernel
theorem dX3_readPart_16 : decode cX3_readPart 16 = .ok (.getfield 42, 3) := by decide +kernel
theorem dX3_readPart_19 : decode cX3_readPart 19 = .ok (.iconst 1, 1) := by decide +kernel
theorem dX3_readPart_20 : decode cX3_readPart 20 = .ok (.sipush 9999, 3) := by decide +kernel
theorem dX3_readPart_23 : decode cX3_readPart 23 = .ok (.iconst (-1), 1) := by decide +kernel
theorem dX3_readPart_24 : decode cX3_readPart 24 = .ok (.invokevirtual 147, 3) := by decide +kernel
theorem dX3_readPart_27 : decode cX3_readPart 27 = .ok (.istore_n 1, 1) := by decide +kernel
theorem dX3_readPart_28 : decode cX3_readPart 28 = .ok (.iload_n 1, 1) := by decide +kernel
theorem dX3_readPart_29 : decode cX3_readPart 29 = .ok (.iconst (-1), 1) := by decide +kernel
theorem dX3_readPart_30 : decode cX3_readPart 30 = .ok (.if_icmp .ne 5, 3) := by decide +kernel
theorem dX3_readPart_33 : decode cX3_readPart 33 = .ok (.iconst 0, 1) := by decide +kernel
theorem dX3_readPart_34 : decode cX3_readPart 34 = .ok (.ireturn, 1) := by decide +kernel
theorem dX3_readPart_35 : decode cX3_readPart 35 = .ok (.aload_n 0, 1) := by decide +kernel
theorem dX3_readPart_36 : decode cX3_readPart 36 = .ok (.getfield 12, 3) := by decide +kernel
theorem dX3_readPart_39 : decode cX3_readPart 39 = .ok (.iconst 2, 1) := by decide +kernel
theorem dX3_readPart_40 : decode cX3_readPart 40 = .ok (.iload_n 1, 1) := by decide +kernel
theorem dX3_readPart_41 : decode cX3_readPart 41 = .ok (.invokevirtual 107, 3) := by decide +kernel
theorem dX3_readPart_44 : decode cX3_readPart 44 = .ok (.iconst 1, 1) := by decide +kernel
theorem dX3_readPart_45 : decode cX3_readPart 45 = .ok (.ireturn, 1) := by decide +kernel
theorem dX3_readWhen_0 : decode cX3_readWhen 0 = .ok (.aload_n 0, 1) := by decide +kernel
theorem dX3_readWhen_1 : decode cX3_readWhen 1 = .ok (.getfield 42, 3) := by decide +kernel
theorem dX3_readWhen_4 : decode cX3_readWhen 4 = .ok (.ldc 151, 2) := by decide +kernel
theorem dX3_readWhen_6 : decode cX3_readWhen 6 = .ok (.invokevirtual 60, 3) := by decide +kernel
theorem dX3_readWhen_9 : decode cX3_readWhen 9 = .ok (.ifCond .ne 8, 3) := by decide +kernel
theorem dX3_readWhen_12 : decode cX3_readWhen 12 = .ok (.aload_n 0, 1) := by decide +kernel
theorem dX3_readWhen_13 : decode cX3_readWhen 13 = .ok (.invokevirtual 137, 3) := by decide +kernel
theorem dX3_readWhen_16 : decode cX3_readWhen 16 = .ok (.ireturn, 1) := by decide +kernel
theorem dX3_readWhen_17 : decode cX3_readWhen 17 = .ok (.aload_n 0, 1) := by decide +kernel
theorem dX3_readWhen_18 : decode cX3_readWhen 18 = .ok (.iconst 1, 1) := by decide +kernel
theorem dX3_readWhen_19 : decode cX3_readWhen 19 = .ok (.invokevirtual 144, 3) := by decide +kernel
theorem dX3_readWhen_22 : decode cX3_readWhen 22 = .ok (.aload_n 0, 1) := by decide +kernel
theorem dX3_readWhen_23 : decode cX3_readWhen 23 = .ok (.getfield 12, 3) := by decide +kernel
theorem dX3_readWhen_26 : decode cX3_readWhen 26 = .ok (.invokevirtual 153, 3) := by decide +kernel
theorem dX3_readWhen_29 : decode cX3_readWhen 29 = .ok (.aload_n 0, 1) := by decide +kernel
theorem dX3_readWhen_30 : decode cX3_readWhen 30 = .ok (.getfield 42, 3) := by decide +kernel
theorem dX3_readWhen_33 : decode cX3_readWhen 33 = .ok (.invokevirtual 75, 3) := by decide +kernel
theorem dX3_readWhen_36 : decode cX3_readWhen 36 = .ok (.aload_n 0, 1) := by decide +kernel
theorem dX3_readWhen_37 : decode cX3_readWhen 37 = .ok (.iconst 1, 1) := by decide +kernel
theorem dX3_readWhen_38 : decode cX3_readWhen 38 = .ok (.putfield 35, 3) := by decide +kernel
theorem dX3_readWhen_41 : decode cX3_readWhen 41 = .ok (.aload_n 0, 1) := by decide +kernel
theorem dX3_readWhen_42 : decode cX3_readWhen 42 = .ok (.iconst 1, 1) := by decide +kernel
theorem dX3_readWhen_43 : decode cX3_readWhen 43 = .ok (.putfield 32, 3) := by decide +kernel
theorem dX3_readWhen_46 : decode cX3_readWhen 46 = .ok (.iconst 1, 1) := by decide +kernel
theorem dX3_readWhen_47 : decode cX3_readWhen 47 = .ok (.ireturn, 1) := by decide +kernel
theorem dX3_readComparison_0 : decode cX3_readComparison 0 = .ok (.aload_n 0, 1) := by decide +kernel
theorem dX3_readComparison_1 : decode cX3_readComparison 1 = .ok (.getfield 42, 3) := by decide +kernel
theorem dX3_readComparison_4 : decode cX3_readComparison 4 = .ok (.bipush 60, 2) := by decide +kernel
theorem dX3_readComparison_6 : decode cX3_readComparison 6 = .ok (.invokevirtual 96, 3) := by decide +kernel
theorem dX3_readComparison_9 : decode cX3_readComparison 9 = .ok (.ifCond .eq 8, 3) := by decide +kernel
theorem dX3_readComparison_12 : decode cX3_readComparison 12 = .ok (.bipush 6, 2) := by decide +kernel
theorem dX3_readComparison_14 : decode cX3_readComparison 14 = .ok (.goto 38, 3) := by decide +kernel
theorem dX3_readComparison_17 : decode cX3_readComparison 17 = .ok (.aload_n 0, 1) := by decide +kernel
theorem dX3_readComparison_18 : decode cX3_readComparison 18 = .ok (.getfield 42, 3) := by decide +kernel
theorem dX3_readComparison_21 : decode cX3_readComparison 21 = .ok (.bipush 61, 2) := by decide +kernel
theorem dX3_readComparison_23 : decode cX3_readComparison 23 = .ok (.invokevirtual 96, 3) := by decide +kernel
theorem dX3_readComparison_26 : decode cX3_readComparison 26 = .ok (.ifCond .eq 8, 3) := by decide +kernel
theorem dX3_readComparison_29 : decode cX3_readComparison 29 = .ok (.bipush 7, 2) := by decide +kernel
theorem dX3_readComparison_31 : decode cX3_readComparison 31 = .ok (.goto 21, 3) := by decide +kernel
theorem dX3_readComparison_34 : decode cX3_readComparison 34 = .ok (.aload_n 0, 1) := by decide +kernel
theorem dX3_readComparison_35 : decode cX3_readComparison 35 = .ok (.getfield 42, 3) := by decide +kernel
theorem dX3_readComparison_38 : decode cX3_readComparison 38 = .ok (.bipush 62, 2) := by decide +kernel
theorem dX3_readComparison_40 : decode cX3_readComparison 40 = .ok (.invokevirtual 96, 3) := by decide +kernel
theorem dX3_readComparison_43 : decode cX3_readComparison 43 = .ok (.ifCond .eq 8, 3) := by decide +kernel
theorem dX3_readComparison_46 : decode cX3_readComparison 46 = .ok (.bipush 8, 2) := by decide +kernel
theorem dX3_readComparison_48 : decode cX3_readComparison 48 = .ok (.goto 4, 3) := by decide +kernel
theorem dX3_readComparison_51 : decode cX3_readComparison 51 = .ok (.iconst (-1), 1) := by decide +kernel
theorem dX3_readComparison_52 : decode cX3_readComparison 52 = .ok (.istore_n 1, 1) := by decide +kernel
theorem dX3_readComparison_53 : decode cX3_readComparison 53 = .ok (.iload_n 1, 1) := by decide +kernel
theorem dX3_readComparison_54 : decode cX3_readComparison 54 = .ok (.iconst (-1), 1) := by decide +kernel
theorem dX3_readComparison_55 : decode cX3_readComparison 55 = .ok (.if_icmp .ne 12, 3) := by decide +kernel
theorem dX3_readComparison_58 : decode cX3_readComparison 58 = .ok (.aload_n 0, 1) := by decide +kernel
theorem dX3_readComparison_59 : decode cX3_readComparison 59 = .ok (.getfield 42, 3) := by decide +kernel
theorem dX3_readComparison_62 : decode cX3_readComparison 62 = .ok (.iconst 1, 1) := by decide +kernel
theorem dX3_readComparison_63 : decode cX3_readComparison 63 = .ok (.invokevirtual 68, 3) := by decide +kernel
theorem dX3_readComparison_66 : decode cX3_readComparison 66 = .ok (.ireturn, 1) := by decide +kernel
theorem dX3_readComparison_67 : decode cX3_readComparison 67 = .ok (.aload_n 0, 1) := by decide +kernel
theorem dX3_readComparison_68 : decode cX3_readComparison 68 = .ok (.iconst 1, 1) := by decide +kernel
theorem dX3_readComparison_69 : decode cX3_readComparison 69 = .ok (.putfield 39, 3) := by decide +kernel
theorem dX3_readComparison_72 : decode cX3_readComparison 72 = .ok (.aload_n 0, 1) := by decide +kernel
theorem dX3_readComparison_73 : decode cX3_readComparison 73 = .ok (.iload_n 1, 1) := by decide +kernel
theorem dX3_readComparison_74 : decode cX3_readComparison 74 = .ok (.iconst 0, 1) := by decide +kernel
theorem dX3_readComparison_75 : decode cX3_readComparison 75 = .ok (.invokevirtual 120, 3) := by decide +kernel
theorem dX3_readComparison_78 : decode cX3_readComparison 78 = .ok (.ireturn, 1) := by decide +kernel
theorem dX3_readClosing_0 : decode cX3_readClosing 0 = .ok (.aload_n 0, 1) := by decide +kernel
theorem dX3_readClosing_1 : decode cX3_readClosing 1 = .ok (.getfield 42, 3) := by decide +kernel
theorem dX3_readClosing_4 : decode cX3_readClosing 4 = .ok (.bipush 41, 2) := by decide +kernel
theorem dX3_readClosing_6 : decode cX3_readClosing 6 = .ok (.invokevirtual 96, 3) := by decide +kernel
theorem dX3_readClosing_9 : decode cX3_readClosing 9 = .ok (.ifCond .ne 12, 3) := by decide +kernel
theorem dX3_readClosing_12 : decode cX3_readClosing 12 = .ok (.aload_n 0, 1) := by decide +kernel
theorem dX3_readClosing_13 : decode cX3_readClosing 13 = .ok (.getfield 42, 3) := by decide +kernel
theorem dX3_readClosing_16 : decode cX3_readClosing 16 = .ok (.iconst 1, 1) := by decide +kernel
theorem dX3_readClosing_17 : decode cX3_readClosing 17 = .ok (.invokevirtual 68, 3) := by decide +kernel
theorem dX3_readClosing_20 : decode cX3_readClosing 20 = .ok (.ireturn, 1) := by decide +kernel
theorem dX3_readClosing_21 : decode cX3_readClosing 21 = .ok (.aload_n 0, 1) := by decide +kernel
theorem dX3_readClosing_22 : decode cX3_readClosing 22 = .ok (.iconst 1, 1) := by decide +kernel
theorem dX3_readClosing_23 : decode cX3_readClosing 23 = .ok (.invokevirtual 144, 3) := by decide +kernel
theorem dX3_readClosing_26 : decode cX3_readClosing 26 = .ok (.aload_n 0, 1) := by decide +kernel
theorem dX3_readClosing_27 : decode cX3_readClosing 27 = .ok (.iconst 0, 1) := by decide +kernel
theorem dX3_readClosing_28 : decode cX3_readClosing 28 = .ok (.aload_n 0, 1) := by decide +kernel
theorem dX3_readClosing_29 : decode cX3_readClosing 29 = .ok (.getfield 22, 3) := by decide +kernel
theorem dX3_readClosing_32 : decode cX3_readClosing 32 = .ok (.iconst 1, 1) := by decide +kernel
theorem dX3_readClosing_33 : decode cX3_readClosing 33 = .ok (.isub, 1) := by decide +kernel
theorem dX3_readClosing_34 : decode cX3_readClosing 34 = .ok (.invokestatic 156, 3) := by decide +kernel
theorem dX3_readClosing_37 : decode cX3_readClosing 37 = .ok (.putfield 22, 3) := by decide +kernel
theorem dX3_readClosing_40 : decode cX3_readClosing 40 = .ok (.aload_n 0, 1) := by decide +kernel
theorem dX3_readClosing_41 : decode cX3_readClosing 41 = .ok (.dup, 1) := by decide +kernel
theorem dX3_readClosing_42 : decode cX3_readClosing 42 = .ok (.getfield 26, 3) := by decide +kernel
theorem dX3_readClosing_45 : decode cX3_readClosing 45 = .ok (.iconst 1, 1) := by decide +kernel
theorem dX3_readClosing_46 : decode cX3_readClosing 46 = .ok (.isub, 1) := by decide +kernel
theorem dX3_readClosing_47 : decode cX3_readClosing 47 = .ok (.putfield 26, 3) := by decide +kernel
theorem dX3_readClosing_50 : decode cX3_readClosing 50 = .ok (.aload_n 0, 1) := by decide +kernel
theorem dX3_readClosing_51 : decode cX3_readClosing 51 = .ok (.dup, 1) := by decide +kernel
theorem dX3_readClosing_52 : decode cX3_readClosing 52 = .ok (.getfield 29, 3) := by decide +kernel
theorem dX3_readClosing_55 : decode cX3_readClosing 55 = .ok (.iconst 1, 1) := by decide +kernel
theorem dX3_readClosing_56 : decode cX3_readClosing 56 = .ok (.isub, 1) := by decide +kernel
theorem dX3_readClosing_57 : decode cX3_readClosing 57 = .ok (.putfield 29, 3) := by decide +kernel
theorem dX3_readClosing_60 : decode cX3_readClosing 60 = .ok (.aload_n 0, 1) := by decide +kernel
theorem dX3_readClosing_61 : decode cX3_readClosing 61 = .ok (.getfield 42, 3) := by decide +kernel
theorem dX3_readClosing_64 : decode cX3_readClosing 64 = .ok (.invokevirtual 75, 3) := by decide +kernel
theorem dX3_readClosing_67 : decode cX3_readClosing 67 = .ok (.aload_n 0, 1) := by decide +kernel
theorem dX3_readClosing_68 : decode cX3_readClosing 68 = .ok (.iconst 3, 1) := by decide +kernel
theorem dX3_readClosing_69 : decode cX3_readClosing 69 = .ok (.putfield 32, 3) := by decide +kernel
theorem dX3_readClosing_72 : decode cX3_readClosing 72 = .ok (.iconst 1, 1) := by decide +kernel
theorem dX3_readClosing_73 : decode cX3_readClosing 73 = .ok (.ireturn, 1) := by decide +kernel
theorem dX3_endLine_0 : decode cX3_endLine 0 = .ok (.aload_n 0, 1) := by decide +kernel
theorem dX3_endLine_1 : decode cX3_endLine 1 = .ok (.getfield 42, 3) := by decide +kernel
theorem dX3_endLine_4 : decode cX3_endLine 4 = .ok (.bipush 59, 2) := by decide +kernel
theorem dX3_endLine_6 : decode cX3_endLine 6 = .ok (.invokevirtual 96, 3) := by decide +kernel
theorem dX3_endLine_9 : decode cX3_endLine 9 = .ok (.ifCond .ne 12, 3) := by decide +kernel
theorem dX3_endLine_12 : decode cX3_endLine 12 = .ok (.aload_n 0, 1) := by decide +kernel
theorem dX3_endLine_13 : decode cX3_endLine 13 = .ok (.getfield 42, 3) := by decide +kernel
theorem dX3_endLine_16 : decode cX3_endLine 16 = .ok (.iconst 1, 1) := by decide +kernel
theorem dX3_endLine_17 : decode cX3_endLine 17 = .ok (.invokevirtual 68, 3) := by decide +kernel
theorem dX3_endLine_20 : decode cX3_endLine 20 = .ok (.ireturn, 1) := by decide +kernel
theorem dX3_endLine_21 : decode cX3_endLine 21 = .ok (.aload_n 0, 1) := by decide +kernel
theorem dX3_endLine_22 : decode cX3_endLine 22 = .ok (.iconst 1, 1) := by decide +kernel
theorem dX3_endLine_23 : decode cX3_endLine 23 = .ok (.invokevirtual 144, 3) := by decide +kernel
theorem dX3_endLine_26 : decode cX3_endLine 26 = .ok (.aload_n 0, 1) := by decide +kernel
theorem dX3_endLine_27 : decode cX3_endLine 27 = .ok (.getfield 12, 3) := by decide +kernel
theorem dX3_endLine_30 : decode cX3_endLine 30 = .ok (.invokevirtual 162, 3) := by decide +kernel
theorem dX3_endLine_33 : decode cX3_endLine 33 = .ok (.aload_n 0, 1) := by decide +kernel
theorem dX3_endLine_34 : decode cX3_endLine 34 = .ok (.getfield 42, 3) := by decide +kernel
theorem dX3_endLine_37 : decode cX3_endLine 37 = .ok (.invokevirtual 75, 3) := by decide +kernel
theorem dX3_endLine_40 : decode cX3_endLine 40 = .ok (.iconst 0, 1) := by decide +kernel
theorem dX3_endLine_41 : decode cX3_endLine 41 = .ok (.ireturn, 1) := by decide +kernel
theorem dX3_join_0 : decode cX3_join 0 = .ok (.aload_n 0, 1) := by decide +kernel
theorem dX3_join_1 : decode cX3_join 1 = .ok (.iload_n 1, 1) := by decide +kernel
theorem dX3_join_2 : decode cX3_join 2 = .ok (.invokestatic 140, 3) := by decide +kernel
theorem dX3_join_5 : decode cX3_join 5 = .ok (.invokevirtual 144, 3) := by decide +kernel
theorem dX3_join_8 : decode cX3_join 8 = .ok (.aload_n 0, 1) := by decide +kernel
theorem dX3_join_9 : decode cX3_join 9 = .ok (.iload_n 1, 1) := by decide +kernel
theorem dX3_join_10 : decode cX3_join 10 = .ok (.invokevirtual 114, 3) := by decide +kernel
theorem dX3_join_13 : decode cX3_join 13 = .ok (.aload_n 0, 1) := by decide +kernel
theorem dX3_join_14 : decode cX3_join 14 = .ok (.getfield 42, 3) := by decide +kernel
theorem dX3_join_17 : decode cX3_join 17 = .ok (.invokevirtual 75, 3) := by decide +kernel
theorem dX3_join_20 : decode cX3_join 20 = .ok (.aload_n 0, 1) := by decide +kernel
theorem dX3_join_21 : decode cX3_join 21 = .ok (.iload_n 2, 1) := by decide +kernel
theorem dX3_join_22 : decode cX3_join 22 = .ok (.putfield 32, 3) := by decide +kernel
theorem dX3_join_25 : decode cX3_join 25 = .ok (.iconst 1, 1) := by decide +kernel
theorem dX3_join_26 : decode cX3_join 26 = .ok (.ireturn, 1) := by decide +kernel
theorem dX3_push_0 : decode cX3_push 0 = .ok (.aload_n 0, 1) := by decide +kernel
theorem dX3_push_1 : decode cX3_push 1 = .ok (.getfield 22, 3) := by decide +kernel
theorem dX3_push_4 : decode cX3_push 4 = .ok (.ifCond .lt 35, 3) := by decide +kernel
theorem dX3_push_7 : decode cX3_push 7 = .ok (.aload_n 0, 1) := by decide +kernel
theorem dX3_push_8 : decode cX3_push 8 = .ok (.getfield 22, 3) := by decide +kernel
theorem dX3_push_11 : decode cX3_push 11 = .ok (.aload_n 0, 1) := by decide +kernel
theorem dX3_push_12 : decode cX3_push 12 = .ok (.getfield 18, 3) := by decide +kernel
theorem dX3_push_15 : decode cX3_push 15 = .ok (.arraylength, 1) := by decide +kernel
theorem dX3_push_16 : decode cX3_push 16 = .ok (.if_icmp .ge 23, 3) := by decide +kernel
theorem dX3_push_19 : decode cX3_push 19 = .ok (.aload_n 0, 1) := by decide +kernel
theorem dX3_push_20 : decode cX3_push 20 = .ok (.getfield 18, 3) := by decide +kernel
theorem dX3_push_23 : decode cX3_push 23 = .ok (.aload_n 0, 1) := by decide +kernel
theorem dX3_push_24 : decode cX3_push 24 = .ok (.getfield 22, 3) := by decide +kernel
theorem dX3_push_27 : decode cX3_push 27 = .ok (.iload_n 1, 1) := by decide +kernel
theorem dX3_push_28 : decode cX3_push 28 = .ok (.iastore, 1) := by decide +kernel
theorem dX3_push_29 : decode cX3_push 29 = .ok (.aload_n 0, 1) := by decide +kernel
theorem dX3_push_30 : decode cX3_push 30 = .ok (.dup, 1) := by decide +kernel
theorem dX3_push_31 : decode cX3_push 31 = .ok (.getfield 22, 3) := by decide +kernel
theorem dX3_push_34 : decode cX3_push 34 = .ok (.iconst 1, 1) := by decide +kernel
theorem dX3_push_35 : decode cX3_push 35 = .ok (.iadd, 1) := by decide +kernel
theorem dX3_push_36 : decode cX3_push 36 = .ok (.putfield 22, 3) := by decide +kernel
theorem dX3_push_39 : decode cX3_push 39 = .ok (.return_, 1) := by decide +kernel
theorem dX3_release_0 : decode cX3_release 0 = .ok (.aload_n 0, 1) := by decide +kernel
theorem dX3_release_1 : decode cX3_release 1 = .ok (.getfield 22, 3) := by decide +kernel
theorem dX3_release_4 : decode cX3_release 4 = .ok (.ifCond .le 87, 3) := by decide +kernel
theorem dX3_release_7 : decode cX3_release 7 = .ok (.aload_n 0, 1) := by decide +kernel
theorem dX3_release_8 : decode cX3_release 8 = .ok (.getfield 22, 3) := by decide +kernel
theorem dX3_release_11 : decode cX3_release 11 = .ok (.aload_n 0, 1) := by decide +kernel
theorem dX3_release_12 : decode cX3_release 12 = .ok (.getfield 18, 3) := by decide +kernel
theorem dX3_release_15 : decode cX3_release 15 = .ok (.arraylength, 1) := by decide +kernel
theorem dX3_release_16 : decode cX3_release 16 = .ok (.if_icmp .gt 75, 3) := by decide +kernel
theorem dX3_release_19 : decode cX3_release 19 = .ok (.aload_n 0, 1) := by decide +kernel
theorem dX3_release_20 : decode cX3_release 20 = .ok (.getfield 18, 3) := by decide +kernel
theorem dX3_release_23 : decode cX3_release 23 = .ok (.aload_n 0, 1) := by decide +kernel
theorem dX3_release_24 : decode cX3_release 24 = .ok (.getfield 22, 3) := by decide +kernel
theorem dX3_release_27 : decode cX3_release 27 = .ok (.iconst 1, 1) := by decide +kernel
theorem dX3_release_28 : decode cX3_release 28 = .ok (.isub, 1) := by decide +kernel
theorem dX3_release_29 : decode cX3_release 29 = .ok (.iaload, 1) := by decide +kernel
theorem dX3_release_30 : decode cX3_release 30 = .ok (.invokestatic 140, 3) := by decide +kernel
theorem dX3_release_33 : decode cX3_release 33 = .ok (.iload_n 1, 1) := by decide +kernel
theorem dX3_release_34 : decode cX3_release 34 = .ok (.if_icmp .lt 57, 3) := by decide +kernel
theorem dX3_release_37 : decode cX3_release 37 = .ok (.aload_n 0, 1) := by decide +kernel
theorem dX3_release_38 : decode cX3_release 38 = .ok (.dup, 1) := by decide +kernel
theorem dX3_release_39 : decode cX3_release 39 = .ok (.getfield 22, 3) := by decide +kernel
theorem dX3_release_42 : decode cX3_release 42 = .ok (.iconst 1, 1) := by decide +kernel
theorem dX3_release_43 : decode cX3_release 43 = .ok (.isub, 1) := by decide +kernel
theorem dX3_release_44 : decode cX3_release 44 = .ok (.putfield 22, 3) := by decide +kernel
theorem dX3_release_47 : decode cX3_release 47 = .ok (.aload_n 0, 1) := by decide +kernel
theorem dX3_release_48 : decode cX3_release 48 = .ok (.getfield 12, 3) := by decide +kernel
theorem dX3_release_51 : decode cX3_release 51 = .ok (.aload_n 0, 1) := by decide +kernel
theorem dX3_release_52 : decode cX3_release 52 = .ok (.getfield 18, 3) := by decide +kernel
theorem dX3_release_55 : decode cX3_release 55 = .ok (.aload_n 0, 1) := by decide +kernel
theorem dX3_release_56 : decode cX3_release 56 = .ok (.getfield 22, 3) := by decide +kernel
theorem dX3_release_59 : decode cX3_release 59 = .ok (.iaload, 1) := by decide +kernel
theorem dX3_release_60 : decode cX3_release 60 = .ok (.iconst 0, 1) := by decide +kernel
theorem dX3_release_61 : decode cX3_release 61 = .ok (.invokevirtual 107, 3) := by decide +kernel
theorem dX3_release_64 : decode cX3_release 64 = .ok (.aload_n 0, 1) := by decide +kernel
theorem dX3_release_65 : decode cX3_release 65 = .ok (.getfield 18, 3) := by decide +kernel
theorem dX3_release_68 : decode cX3_release 68 = .ok (.aload_n 0, 1) := by decide +kernel
theorem dX3_release_69 : decode cX3_release 69 = .ok (.getfield 22, 3) := by decide +kernel
theorem dX3_release_72 : decode cX3_release 72 = .ok (.iaload, 1) := by decide +kernel
theorem dX3_release_73 : decode cX3_release 73 = .ok (.bipush 9, 2) := by decide +kernel
theorem dX3_release_75 : decode cX3_release 75 = .ok (.if_icmp .ne (-75), 3) := by decide +kernel
theorem dX3_release_78 : decode cX3_release 78 = .ok (.aload_n 0, 1) := by decide +kernel
theorem dX3_release_79 : decode cX3_release 79 = .ok (.dup, 1) := by decide +kernel
theorem dX3_release_80 : decode cX3_release 80 = .ok (.getfield 29, 3) := by decide +kernel
theorem dX3_release_83 : decode cX3_release 83 = .ok (.iconst 1, 1) := by decide +kernel
theorem dX3_release_84 : decode cX3_release 84 = .ok (.isub, 1) := by decide +kernel
theorem dX3_release_85 : decode cX3_release 85 = .ok (.putfield 29, 3) := by decide +kernel
theorem dX3_release_88 : decode cX3_release 88 = .ok (.goto (-88), 3) := by decide +kernel
theorem dX3_release_91 : decode cX3_release 91 = .ok (.return_, 1) := by decide +kernel
theorem dX3_rank_0 : decode cX3_rank 0 = .ok (.iload_n 0, 1) := by decide +kernel
theorem dX3_rank_1 : decode cX3_rank 1 = .ok (.tableswitch 72 2 12 #[69, 69, 67, 67, 72, 72, 72, 65, 63, 61, 59], 59) := by decide +kernel
theorem dX3_rank_60 : decode cX3_rank 60 = .ok (.iconst 0, 1) := by decide +kernel
theorem dX3_rank_61 : decode cX3_rank 61 = .ok (.ireturn, 1) := by decide +kernel
theorem dX3_rank_62 : decode cX3_rank 62 = .ok (.iconst 1, 1) := by decide +kernel
theorem dX3_rank_63 : decode cX3_rank 63 = .ok (.ireturn, 1) := by decide +kernel
theorem dX3_rank_64 : decode cX3_rank 64 = .ok (.iconst 2, 1) := by decide +kernel
theorem dX3_rank_65 : decode cX3_rank 65 = .ok (.ireturn, 1) := by decide +kernel
theorem dX3_rank_66 : decode cX3_rank 66 = .ok (.iconst 3, 1) := by decide +kernel
theorem dX3_rank_67 : decode cX3_rank 67 = .ok (.ireturn, 1) := by decide +kernel
theorem dX3_rank_68 : decode cX3_rank 68 = .ok (.iconst 5, 1) := by decide +kernel
theorem dX3_rank_69 : decode cX3_rank 69 = .ok (.ireturn, 1) := by decide +kernel
theorem dX3_rank_70 : decode cX3_rank 70 = .ok (.bipush 6, 2) := by decide +kernel
theorem dX3_rank_72 : decode cX3_rank 72 = .ok (.ireturn, 1) := by decide +kernel
theorem dX3_rank_73 : decode cX3_rank 73 = .ok (.iconst 4, 1) := by decide +kernel
theorem dX3_rank_74 : decode cX3_rank 74 = .ok (.ireturn, 1) := by decide +kernel
theorem dX3_factAtHand_0 : decode cX3_factAtHand 0 = .ok (.aload_n 0, 1) := by decide +kernel
theorem dX3_factAtHand_1 : decode cX3_factAtHand 1 = .ok (.getfield 42, 3) := by decide +kernel
theorem dX3_factAtHand_4 : decode cX3_factAtHand 4 = .ok (.ldc 164, 2) := by decide +kernel
theorem dX3_factAtHand_6 : decode cX3_factAtHand 6 = .ok (.invokevirtual 60, 3) := by decide +kernel
theorem dX3_factAtHand_9 : decode cX3_factAtHand 9 = .ok (.ifCond .eq 7, 3) := by decide +kernel
theorem dX3_factAtHand_12 : decode cX3_factAtHand 12 = .ok (.iconst 0, 1) := by decide +kernel
theorem dX3_factAtHand_13 : decode cX3_factAtHand 13 = .ok (.goto 152, 3) := by decide +kernel
theorem dX3_factAtHand_16 : decode cX3_factAtHand 16 = .ok (.aload_n 0, 1) := by decide +kernel
theorem dX3_factAtHand_17 : decode cX3_factAtHand 17 = .ok (.getfield 42, 3) := by decide +kernel
theorem dX3_factAtHand_20 : decode cX3_factAtHand 20 = .ok (.ldc 168, 2) := by decide +kernel
theorem dX3_factAtHand_22 : decode cX3_factAtHand 22 = .ok (.invokevirtual 60, 3) := by decide +kernel
theorem dX3_factAtHand_25 : decode cX3_factAtHand 25 = .ok (.ifCond .eq 7, 3) := by decide +kernel
theorem dX3_factAtHand_28 : decode cX3_factAtHand 28 = .ok (.iconst 1, 1) := by decide +kernel
theorem dX3_factAtHand_29 : decode cX3_factAtHand 29 = .ok (.goto 136, 3) := by decide +kernel
theorem dX3_factAtHand_32 : decode cX3_factAtHand 32 = .ok (.aload_n 0, 1) := by decide +kernel
theorem dX3_factAtHand_33 : decode cX3_factAtHand 33 = .ok (.getfield 42, 3) := by decide +kernel
theorem dX3_factAtHand_36 : decode cX3_factAtHand 36 = .ok (.ldc 170, 2) := by decide +kernel
theorem dX3_factAtHand_38 : decode cX3_factAtHand 38 = .ok (.invokevirtual 60, 3) := by decide +kernel
theorem dX3_factAtHand_41 : decode cX3_factAtHand 41 = .ok (.ifCond .eq 7, 3) := by decide +kernel
theorem dX3_factAtHand_44 : decode cX3_factAtHand 44 = .ok (.iconst 2, 1) := by decide +kernel
theorem dX3_factAtHand_45 : decode cX3_factAtHand 45 = .ok (.goto 120, 3) := by decide +kernel
theorem dX3_factAtHand_48 : decode cX3_factAtHand 48 = .ok (.aload_n 0, 1) := by decide +kernel
theorem dX3_factAtHand_49 : decode cX3_factAtHand 49 = .ok (.getfield 42, 3) := by decide +kernel
theorem dX3_factAtHand_52 : decode cX3_factAtHand 52 = .ok (.ldc 172, 2) := by decide +kernel
theorem dX3_factAtHand_54 : decode cX3_factAtHand 54 = .ok (.invokevirtual 60, 3) := by decide +kernel
theorem dX3_factAtHand_57 : decode cX3_factAtHand 57 = .ok (.ifCond .eq 7, 3) := by decide +kernel
theorem dX3_factAtHand_60 : decode cX3_factAtHand 60 = .ok (.iconst 3, 1) := by decide +kernel
theorem dX3_factAtHand_61 : decode cX3_factAtHand 61 = .ok (.goto 104, 3) := by decide +kernel
theorem dX3_factAtHand_64 : decode cX3_factAtHand 64 = .ok (.aload_n 0, 1) := by decide +kernel
theorem dX3_factAtHand_65 : decode cX3_factAtHand 65 = .ok (.getfield 42, 3) := by decide +kernel
theorem dX3_factAtHand_68 : decode cX3_factAtHand 68 = .ok (.ldc 174, 2) := by decide +kernel
theorem dX3_factAtHand_70 : decode cX3_factAtHand 70 = .ok (.invokevirtual 60, 3) := by decide +kernel
theorem dX3_factAtHand_73 : decode cX3_factAtHand 73 = .ok (.ifCond .eq 7, 3) := by decide +kernel
theorem dX3_factAtHand_76 : decode cX3_factAtHand 76 = .ok (.iconst 4, 1) := by decide +kernel
theorem dX3_factAtHand_77 : decode cX3_factAtHand 77 = .ok (.goto 88, 3) := by decide +kernel
theorem dX3_factAtHand_80 : decode cX3_factAtHand 80 = .ok (.aload_n 0, 1) := by decide +kernel
theorem dX3_factAtHand_81 : decode cX3_factAtHand 81 = .ok (.getfield 42, 3) := by decide +kernel
theorem dX3_factAtHand_84 : decode cX3_factAtHand 84 = .ok (.ldc 176, 2) := by decide +kernel
theorem dX3_factAtHand_86 : decode cX3_factAtHand 86 = .ok (.invokevirtual 60, 3) := by decide +kernel
theorem dX3_factAtHand_89 : decode cX3_factAtHand 89 = .ok (.ifCond .eq 7, 3) := by decide +kernel
theorem dX3_factAtHand_92 : decode cX3_factAtHand 92 = .ok (.iconst 5, 1) := by decide +kernel
theorem dX3_factAtHand_93 : decode cX3_factAtHand 93 = .ok (.goto 72, 3) := by decide +kernel
theorem dX3_factAtHand_96 : decode cX3_factAtHand 96 = .ok (.aload_n 0, 1) := by decide +kernel
theorem dX3_factAtHand_97 : decode cX3_factAtHand 97 = .ok (.getfield 42, 3) := by decide +kernel
theorem dX3_factAtHand_100 : decode cX3_factAtHand 100 = .ok (.ldc 178, 2) := by decide +kernel
theorem dX3_factAtHand_102 : decode cX3_factAtHand 102 = .ok (.invokevirtual 60, 3) := by decide +kernel
theorem dX3_factAtHand_105 : decode cX3_factAtHand 105 = .ok (.ifCond .eq 8, 3) := by decide +kernel
theorem dX3_factAtHand_108 : decode cX3_factAtHand 108 = .ok (.bipush 6, 2) := by decide +kernel
theorem dX3_factAtHand_110 : decode cX3_factAtHand 110 = .ok (.goto 55, 3) := by decide +kernel
theorem dX3_factAtHand_113 : decode cX3_factAtHand 113 = .ok (.aload_n 0, 1) := by decide +kernel
theorem dX3_factAtHand_114 : decode cX3_factAtHand 114 = .ok (.getfield 42, 3) := by decide +kernel
theorem dX3_factAtHand_117 : decode cX3_factAtHand 117 = .ok (.ldc 180, 2) := by decide +kernel
theorem dX3_factAtHand_119 : decode cX3_factAtHand 119 = .ok (.invokevirtual 60, 3) := by decide +kernel
theorem dX3_factAtHand_122 : decode cX3_factAtHand 122 = .ok (.ifCond .eq 8, 3) := by decide +kernel
theorem dX3_factAtHand_125 : decode cX3_factAtHand 125 = .ok (.bipush 7, 2) := by decide +kernel
theorem dX3_factAtHand_127 : decode cX3_factAtHand 127 = .ok (.goto 38, 3) := by decide +kernel
theorem dX3_factAtHand_130 : decode cX3_factAtHand 130 = .ok (.aload_n 0, 1) := by decide +kernel
theorem dX3_factAtHand_131 : decode cX3_factAtHand 131 = .ok (.getfield 42, 3) := by decide +kernel
theorem dX3_factAtHand_134 : decode cX3_factAtHand 134 = .ok (.ldc 182, 2) := by decide +kernel
theorem dX3_factAtHand_136 : decode cX3_factAtHand 136 = .ok (.invokevirtual 60, 3) := by decide +kernel
theorem dX3_factAtHand_139 : decode cX3_factAtHand 139 = .ok (.ifCond .eq 8, 3) := by decide +kernel
theorem dX3_factAtHand_142 : decode cX3_factAtHand 142 = .ok (.bipush 8, 2) := by decide +kernel
theorem dX3_factAtHand_144 : decode cX3_factAtHand 144 = .ok (.goto 21, 3) := by decide +kernel
theorem dX3_factAtHand_147 : decode cX3_factAtHand 147 = .ok (.aload_n 0, 1) := by decide +kernel
theorem dX3_factAtHand_148 : decode cX3_factAtHand 148 = .ok (.getfield 42, 3) := by decide +kernel
theorem dX3_factAtHand_151 : decode cX3_factAtHand 151 = .ok (.ldc 184, 2) := by decide +kernel
theorem dX3_factAtHand_153 : decode cX3_factAtHand 153 = .ok (.invokevirtual 60, 3) := by decide +kernel
theorem dX3_factAtHand_156 : decode cX3_factAtHand 156 = .ok (.ifCond .eq 8, 3) := by decide +kernel
theorem dX3_factAtHand_159 : decode cX3_factAtHand 159 = .ok (.bipush 9, 2) := by decide +kernel
theorem dX3_factAtHand_161 : decode cX3_factAtHand 161 = .ok (.goto 4, 3) := by decide +kernel
theorem dX3_factAtHand_164 : decode cX3_factAtHand 164 = .ok (.iconst (-1), 1) := by decide +kernel
theorem dX3_factAtHand_165 : decode cX3_factAtHand 165 = .ok (.ireturn, 1) := by decide +kernel
theorem dX4_init_0 : decode cX4_init 0 = .ok (.aload_n 0, 1) := by decide +kernel
theorem dX4_init_1 : decode cX4_init 1 = .ok (.invokespecial 3, 3) := by decide +kernel
theorem dX4_init_4 : decode cX4_init 4 = .ok (.aload_n 0, 1) := by decide +kernel
theorem dX4_init_5 : decode cX4_init 5 = .ok (.sipush 256, 3) := by decide +kernel
theorem dX4_init_8 : decode cX4_init 8 = .ok (.newarray .int, 2) := by decide +kernel
theorem dX4_init_10 : decode cX4_init 10 = .ok (.putfield 11, 3) := by decide +kernel
theorem dX4_init_13 : decode cX4_init 13 = .ok (.aload_n 0, 1) := by decide +kernel
theorem dX4_init_14 : decode cX4_init 14 = .ok (.sipush 256, 3) := by decide +kernel
theorem dX4_init_17 : decode cX4_init 17 = .ok (.newarray .int, 2) := by decide +kernel
theorem dX4_init_19 : decode cX4_init 19 = .ok (.putfield 15, 3) := by decide +kernel
theorem dX4_init_22 : decode cX4_init 22 = .ok (.aload_n 0, 1) := by decide +kernel
theorem dX4_init_23 : decode cX4_init 23 = .ok (.sipush 4096, 3) := by decide +kernel
theorem dX4_init_26 : decode cX4_init 26 = .ok (.newarray .int, 2) := by decide +kernel
theorem dX4_init_28 : decode cX4_init 28 = .ok (.putfield 18, 3) := by decide +kernel
theorem dX4_init_31 : decode cX4_init 31 = .ok (.aload_n 0, 1) := by decide +kernel
theorem dX4_init_32 : decode cX4_init 32 = .ok (.bipush 100, 2) := by decide +kernel
theorem dX4_init_34 : decode cX4_init 34 = .ok (.newarray .int, 2) := by decide +kernel
theorem dX4_init_36 : decode cX4_init 36 = .ok (.putfield 21, 3) := by decide +kernel
theorem dX4_init_39 : decode cX4_init 39 = .ok (.aload_n 0, 1) := by decide +kernel
theorem dX4_init_40 : decode cX4_init 40 = .ok (.bipush 100, 2) := by decide +kernel
theorem dX4_init_42 : decode cX4_init 42 = .ok (.newarray .int, 2) := by decide +kernel
theorem dX4_init_44 : decode cX4_init 44 = .ok (.putfield 24, 3) := by decide +kernel
theorem dX4_init_47 : decode cX4_init 47 = .ok (.aload_n 0, 1) := by decide +kernel
theorem dX4_init_48 : decode cX4_init 48 = .ok (.bipush 12, 2) := by decide +kernel
theorem dX4_init_50 : decode cX4_init 50 = .ok (.newarray .int, 2) := by decide +kernel
theorem dX4_init_52 : decode cX4_init 52 = .ok (.putfield 27, 3) := by decide +kernel
theorem dX4_init_55 : decode cX4_init 55 = .ok (.return_, 1) := by decide +kernel
theorem dX5_init_0 : decode cX5_init 0 = .ok (.aload_n 0, 1) := by decide +kernel
theorem dX5_init_1 : decode cX5_init 1 = .ok (.invokespecial 3, 3) := by decide +kernel
theorem dX5_init_4 : decode cX5_init 4 = .ok (.aload_n 0, 1) := by decide +kernel
theorem dX5_init_5 : decode cX5_init 5 = .ok (.bipush 100, 2) := by decide +kernel
theorem dX5_init_7 : decode cX5_init 7 = .ok (.newarray .int, 2) := by decide +kernel
theorem dX5_init_9 : decode cX5_init 9 = .ok (.putfield 9, 3) := by decide +kernel
theorem dX5_init_12 : decode cX5_init 12 = .ok (.aload_n 0, 1) := by decide +kernel
theorem dX5_init_13 : decode cX5_init 13 = .ok (.bipush 10, 2) := by decide +kernel
theorem dX5_init_15 : decode cX5_init 15 = .ok (.newarray .int, 2) := by decide +kernel
theorem dX5_init_17 : decode cX5_init 17 = .ok (.putfield 15, 3) := by decide +kernel
theorem dX5_init_20 : decode cX5_init 20 = .ok (.return_, 1) := by decide +kernel
theorem dX6_init_0 : decode cX6_init 0 = .ok (.aload_n 0, 1) := by decide +kernel
theorem dX6_init_1 : decode cX6_init 1 = .ok (.invokespecial 3, 3) := by decide +kernel
theorem dX6_init_4 : decode cX6_init 4 = .ok (.aload_n 0, 1) := by decide +kernel
theorem dX6_init_5 : decode cX6_init 5 = .ok (.bipush 64, 2) := by decide +kernel
theorem dX6_init_7 : decode cX6_init 7 = .ok (.newarray .int, 2) := by decide +kernel
theorem dX6_init_9 : decode cX6_init 9 = .ok (.putfield 11, 3) := by decide +kernel
theorem dX6_init_12 : decode cX6_init 12 = .ok (.aload_n 0, 1) := by decide +kernel
theorem dX6_init_13 : decode cX6_init 13 = .ok (.iconst 0, 1) := by decide +kernel
theorem dX6_init_14 : decode cX6_init 14 = .ok (.putfield 15, 3) := by decide +kernel
theorem dX6_init_17 : decode cX6_init 17 = .ok (.aload_n 0, 1) := by decide +kernel
theorem dX6_init_18 : decode cX6_init 18 = .ok (.iconst 0, 1) := by decide +kernel
theorem dX6_init_19 : decode cX6_init 19 = .ok (.bipush 16, 2) := by decide +kernel
theorem dX6_init_21 : decode cX6_init 21 = .ok (.iload_n 1, 1) := by decide +kernel
theorem dX6_init_22 : decode cX6_init 22 = .ok (.invokestatic 19, 3) := by decide +kernel
theorem dX6_init_25 : decode cX6_init 25 = .ok (.invokestatic 25, 3) := by decide +kernel
theorem dX6_init_28 : decode cX6_init 28 = .ok (.putfield 28, 3) := by decide +kernel
theorem dX6_init_31 : decode cX6_init 31 = .ok (.return_, 1) := by decide +kernel
theorem dX6_clear_0 : decode cX6_clear 0 = .ok (.aload_n 0, 1) := by decide +kernel
theorem dX6_clear_1 : decode cX6_clear 1 = .ok (.iconst 0, 1) := by decide +kernel
theorem dX6_clear_2 : decode cX6_clear 2 = .ok (.putfield 15, 3) := by decide +kernel
theorem dX6_clear_5 : decode cX6_clear 5 = .ok (.return_, 1) := by decide +kernel
theorem dX6_add_0 : decode cX6_add 0 = .ok (.aload_n 0, 1) := by decide +kernel
theorem dX6_add_1 : decode cX6_add 1 = .ok (.getfield 15, 3) := by decide +kernel
theorem dX6_add_4 : decode cX6_add 4 = .ok (.ifCond .lt 71, 3) := by decide +kernel
theorem dX6_add_7 : decode cX6_add 7 = .ok (.aload_n 0, 1) := by decide +kernel
theorem dX6_add_8 : decode cX6_add 8 = .ok (.getfield 15, 3) := by decide +kernel
theorem dX6_add_11 : decode cX6_add 11 = .ok (.aload_n 0, 1) := by decide +kernel
theorem dX6_add_12 : decode cX6_add 12 = .ok (.getfield 28, 3) := by decide +kernel
theorem dX6_add_15 : decode cX6_add 15 = .ok (.if_icmp .ge 60, 3) := by decide +kernel
theorem dX6_add_18 : decode cX6_add 18 = .ok (.aload_n 0, 1) := by decide +kernel
theorem dX6_add_19 : decode cX6_add 19 = .ok (.getfield 15, 3) := by decide +kernel
theorem dX6_add_22 : decode cX6_add 22 = .ok (.iconst 4, 1) := by decide +kernel
theorem dX6_add_23 : decode cX6_add 23 = .ok (.imul, 1) := by decide +kernel
theorem dX6_add_24 : decode cX6_add 24 = .ok (.istore 5, 2) := by decide +kernel
theorem dX6_add_26 : decode cX6_add 26 = .ok (.aload_n 0, 1) := by decide +kernel
theorem dX6_add_27 : decode cX6_add 27 = .ok (.getfield 11, 3) := by decide +kernel
theorem dX6_add_30 : decode cX6_add 30 = .ok (.iload 5, 2) := by decide +kernel
theorem dX6_add_32 : decode cX6_add 32 = .ok (.iload_n 1, 1) := by decide +kernel
theorem dX6_add_33 : decode cX6_add 33 = .ok (.iastore, 1) := by decide +kernel
theorem dX6_add_34 : decode cX6_add 34 = .ok (.aload_n 0, 1) := by decide +kernel
theorem dX6_add_35 : decode cX6_add 35 = .ok (.getfield 11, 3) := by decide +kernel
theorem dX6_add_38 : decode cX6_add 38 = .ok (.iload 5, 2) := by decide +kernel
theorem dX6_add_40 : decode cX6_add 40 = .ok (.iconst 1, 1) := by decide +kernel
theorem dX6_add_41 : decode cX6_add 41 = .ok (.iadd, 1) := by decide +kernel
theorem dX6_add_42 : decode cX6_add 42 = .ok (.iload_n 2, 1) := by decide +kernel
theorem dX6_add_43 : decode cX6_add 43 = .ok (.iastore, 1) := by decide +kernel
theorem dX6_add_44 : decode cX6_add 44 = .ok (.aload_n 0, 1) := by decide +kernel
theorem dX6_add_45 : decode cX6_add 45 = .ok (.getfield 11, 3) := by decide +kernel
theorem dX6_add_48 : decode cX6_add 48 = .ok (.iload 5, 2) := by decide +kernel
theorem dX6_add_50 : decode cX6_add 50 = .ok (.iconst 2, 1) := by decide +kernel
theorem dX6_add_51 : decode cX6_add 51 = .ok (.iadd, 1) := by decide +kernel
theorem dX6_add_52 : decode cX6_add 52 = .ok (.iload_n 3, 1) := by decide +kernel
theorem dX6_add_53 : decode cX6_add 53 = .ok (.iastore, 1) := by decide +kernel
theorem dX6_add_54 : decode cX6_add 54 = .ok (.aload_n 0, 1) := by decide +kernel
theorem dX6_add_55 : decode cX6_add 55 = .ok (.getfield 11, 3) := by decide +kernel
theorem dX6_add_58 : decode cX6_add 58 = .ok (.iload 5, 2) := by decide +kernel
theorem dX6_add_60 : decode cX6_add 60 = .ok (.iconst 3, 1) := by decide +kernel
theorem dX6_add_61 : decode cX6_add 61 = .ok (.iadd, 1) := by decide +kernel
theorem dX6_add_62 : decode cX6_add 62 = .ok (.iload 4, 2) := by decide +kernel
theorem dX6_add_64 : decode cX6_add 64 = .ok (.iastore, 1) := by decide +kernel
theorem dX6_add_65 : decode cX6_add 65 = .ok (.aload_n 0, 1) := by decide +kernel
theorem dX6_add_66 : decode cX6_add 66 = .ok (.dup, 1) := by decide +kernel
theorem dX6_add_67 : decode cX6_add 67 = .ok (.getfield 15, 3) := by decide +kernel
theorem dX6_add_70 : decode cX6_add 70 = .ok (.iconst 1, 1) := by decide +kernel
theorem dX6_add_71 : decode cX6_add 71 = .ok (.iadd, 1) := by decide +kernel
theorem dX6_add_72 : decode cX6_add 72 = .ok (.putfield 15, 3) := by decide +kernel
theorem dX6_add_75 : decode cX6_add 75 = .ok (.return_, 1) := by decide +kernel
theorem dX6_cell_0 : decode cX6_cell 0 = .ok (.iload_n 1, 1) := by decide +kernel
theorem dX6_cell_1 : decode cX6_cell 1 = .ok (.ifCond .lt 29, 3) := by decide +kernel
theorem dX6_cell_4 : decode cX6_cell 4 = .ok (.iload_n 1, 1) := by decide +kernel
theorem dX6_cell_5 : decode cX6_cell 5 = .ok (.aload_n 0, 1) := by decide +kernel
theorem dX6_cell_6 : decode cX6_cell 6 = .ok (.getfield 15, 3) := by decide +kernel
theorem dX6_cell_9 : decode cX6_cell 9 = .ok (.if_icmp .ge 21, 3) := by decide +kernel
theorem dX6_cell_12 : decode cX6_cell 12 = .ok (.aload_n 0, 1) := by decide +kernel
theorem dX6_cell_13 : decode cX6_cell 13 = .ok (.getfield 15, 3) := by decide +kernel
theorem dX6_cell_16 : decode cX6_cell 16 = .ok (.bipush 16, 2) := by decide +kernel
theorem dX6_cell_18 : decode cX6_cell 18 = .ok (.if_icmp .gt 12, 3) := by decide +kernel
theorem dX6_cell_21 : decode cX6_cell 21 = .ok (.iload_n 2, 1) := by decide +kernel
theorem dX6_cell_22 : decode cX6_cell 22 = .ok (.ifCond .lt 8, 3) := by decide +kernel
theorem dX6_cell_25 : decode cX6_cell 25 = .ok (.iload_n 2, 1) := by decide +kernel
theorem dX6_cell_26 : decode cX6_cell 26 = .ok (.iconst 4, 1) := by decide +kernel
theorem dX6_cell_27 : decode cX6_cell 27 = .ok (.if_icmp .lt 5, 3) := by decide +kernel
theorem dX6_cell_30 : decode cX6_cell 30 = .ok (.iconst 0, 1) := by decide +kernel
theorem dX6_cell_31 : decode cX6_cell 31 = .ok (.ireturn, 1) := by decide +kernel
theorem dX6_cell_32 : decode cX6_cell 32 = .ok (.aload_n 0, 1) := by decide +kernel
theorem dX6_cell_33 : decode cX6_cell 33 = .ok (.getfield 11, 3) := by decide +kernel
theorem dX6_cell_36 : decode cX6_cell 36 = .ok (.iload_n 1, 1) := by decide +kernel
theorem dX6_cell_37 : decode cX6_cell 37 = .ok (.iconst 4, 1) := by decide +kernel
theorem dX6_cell_38 : decode cX6_cell 38 = .ok (.imul, 1) := by decide +kernel
theorem dX6_cell_39 : decode cX6_cell 39 = .ok (.iload_n 2, 1) := by decide +kernel
theorem dX6_cell_40 : decode cX6_cell 40 = .ok (.iadd, 1) := by decide +kernel
theorem dX6_cell_41 : decode cX6_cell 41 = .ok (.iaload, 1) := by decide +kernel
theorem dX6_cell_42 : decode cX6_cell 42 = .ok (.ireturn, 1) := by decide +kernel
theorem dX6_copyFrom_0 : decode cX6_copyFrom 0 = .ok (.aload_n 1, 1) := by decide +kernel
theorem dX6_copyFrom_1 : decode cX6_copyFrom 1 = .ok (.getfield 11, 3) := by decide +kernel
theorem dX6_copyFrom_4 : decode cX6_copyFrom 4 = .ok (.aload_n 0, 1) := by decide +kernel
theorem dX6_copyFrom_5 : decode cX6_copyFrom 5 = .ok (.getfield 11, 3) := by decide +kernel
theorem dX6_copyFrom_8 : decode cX6_copyFrom 8 = .ok (.invokestatic 31, 3) := by decide +kernel
theorem dX6_copyFrom_11 : decode cX6_copyFrom 11 = .ok (.aload_n 0, 1) := by decide +kernel
theorem dX6_copyFrom_12 : decode cX6_copyFrom 12 = .ok (.aload_n 1, 1) := by decide +kernel
theorem dX6_copyFrom_13 : decode cX6_copyFrom 13 = .ok (.getfield 15, 3) := by decide +kernel
theorem dX6_copyFrom_16 : decode cX6_copyFrom 16 = .ok (.aload_n 0, 1) := by decide +kernel
theorem dX6_copyFrom_17 : decode cX6_copyFrom 17 = .ok (.getfield 28, 3) := by decide +kernel
theorem dX6_copyFrom_20 : decode cX6_copyFrom 20 = .ok (.invokestatic 19, 3) := by decide +kernel
theorem dX6_copyFrom_23 : decode cX6_copyFrom 23 = .ok (.putfield 15, 3) := by decide +kernel
theorem dX6_copyFrom_26 : decode cX6_copyFrom 26 = .ok (.return_, 1) := by decide +kernel
theorem dX7_init_0 : decode cX7_init 0 = .ok (.aload_n 0, 1) := by decide +kernel
theorem dX7_init_1 : decode cX7_init 1 = .ok (.invokespecial 3, 3) := by decide +kernel
theorem dX7_init_4 : decode cX7_init 4 = .ok (.aload_n 0, 1) := by decide +kernel
theorem dX7_init_5 : decode cX7_init 5 = .ok (.new 9, 3) := by decide +kernel
theorem dX7_init_8 : decode cX7_init 8 = .ok (.dup, 1) := by decide +kernel
theorem dX7_init_9 : decode cX7_init 9 = .ok (.bipush 16, 2) := by decide +kernel
theorem dX7_init_11 : decode cX7_init 11 = .ok (.invokespecial 11, 3) := by decide +kernel
theorem dX7_init_14 : decode cX7_init 14 = .ok (.putfield 14, 3) := by decide +kernel
theorem dX7_init_17 : decode cX7_init 17 = .ok (.aload_n 0, 1) := by decide +kernel
theorem dX7_init_18 : decode cX7_init 18 = .ok (.aload_n 1, 1) := by decide +kernel
theorem dX7_init_19 : decode cX7_init 19 = .ok (.putfield 20, 3) := by decide +kernel
theorem dX7_init_22 : decode cX7_init 22 = .ok (.return_, 1) := by decide +kernel
theorem dX7_read_0 : decode cX7_read 0 = .ok (.aload_n 0, 1) := by decide +kernel
theorem dX7_read_1 : decode cX7_read 1 = .ok (.getfield 14, 3) := by decide +kernel
theorem dX7_read_4 : decode cX7_read 4 = .ok (.invokevirtual 24, 3) := by decide +kernel
theorem dX7_read_7 : decode cX7_read 7 = .ok (.iconst 0, 1) := by decide +kernel
theorem dX7_read_8 : decode cX7_read 8 = .ok (.istore_n 3, 1) := by decide +kernel
theorem dX7_read_9 : decode cX7_read 9 = .ok (.iload_n 3, 1) := by decide +kernel
theorem dX7_read_10 : decode cX7_read 10 = .ok (.sipush 400, 3) := by decide +kernel
theorem dX7_read_13 : decode cX7_read 13 = .ok (.if_icmp .gt 42, 3) := by decide +kernel
theorem dX7_read_16 : decode cX7_read 16 = .ok (.aload_n 0, 1) := by decide +kernel
theorem dX7_read_17 : decode cX7_read 17 = .ok (.getfield 20, 3) := by decide +kernel
theorem dX7_read_20 : decode cX7_read 20 = .ok (.invokevirtual 27, 3) := by decide +kernel
theorem dX7_read_23 : decode cX7_read 23 = .ok (.ifCond .ne 32, 3) := by decide +kernel
theorem dX7_read_26 : decode cX7_read 26 = .ok (.aload_n 0, 1) := by decide +kernel
theorem dX7_read_27 : decode cX7_read 27 = .ok (.iload_n 1, 1) := by decide +kernel
theorem dX7_read_28 : decode cX7_read 28 = .ok (.aload_n 2, 1) := by decide +kernel
theorem dX7_read_29 : decode cX7_read 29 = .ok (.invokevirtual 33, 3) := by decide +kernel
theorem dX7_read_32 : decode cX7_read 32 = .ok (.ifCond .eq 15, 3) := by decide +kernel
theorem dX7_read_35 : decode cX7_read 35 = .ok (.aload_n 0, 1) := by decide +kernel
theorem dX7_read_36 : decode cX7_read 36 = .ok (.getfield 20, 3) := by decide +kernel
theorem dX7_read_39 : decode cX7_read 39 = .ok (.bipush 59, 2) := by decide +kernel
theorem dX7_read_41 : decode cX7_read 41 = .ok (.invokevirtual 37, 3) := by decide +kernel
theorem dX7_read_44 : decode cX7_read 44 = .ok (.ifCond .ne 5, 3) := by decide +kernel
theorem dX7_read_47 : decode cX7_read 47 = .ok (.iconst 0, 1) := by decide +kernel
theorem dX7_read_48 : decode cX7_read 48 = .ok (.ireturn, 1) := by decide +kernel
theorem dX7_read_49 : decode cX7_read 49 = .ok (.iinc 3 1, 3) := by decide +kernel
theorem dX7_read_52 : decode cX7_read 52 = .ok (.goto (-43), 3) := by decide +kernel
theorem dX7_read_55 : decode cX7_read 55 = .ok (.iconst 1, 1) := by decide +kernel
theorem dX7_read_56 : decode cX7_read 56 = .ok (.ireturn, 1) := by decide +kernel
theorem dX7_readLine_0 : decode cX7_readLine 0 = .ok (.iload_n 1, 1) := by decide +kernel
theorem dX7_readLine_1 : decode cX7_readLine 1 = .ok (.iconst 1, 1) := by decide +kernel
theorem dX7_readLine_2 : decode cX7_readLine 2 = .ok (.if_icmp .ne 8, 3) := by decide +kernel
theorem dX7_readLine_5 : decode cX7_readLine 5 = .ok (.ldc 41, 2) := by decide +kernel
theorem dX7_readLine_7 : decode cX7_readLine 7 = .ok (.goto 25, 3) := by decide +kernel
theorem dX7_readLine_10 : decode cX7_readLine 10 = .ok (.iload_n 1, 1) := by decide +kernel
theorem dX7_readLine_11 : decode cX7_readLine 11 = .ok (.iconst 2, 1) := by decide +kernel
theorem dX7_readLine_12 : decode cX7_readLine 12 = .ok (.if_icmp .ne 8, 3) := by decide +kernel
theorem dX7_readLine_15 : decode cX7_readLine 15 = .ok (.ldc 43, 2) := by decide +kernel
theorem dX7_readLine_17 : decode cX7_readLine 17 = .ok (.goto 15, 3) := by decide +kernel
theorem dX7_readLine_20 : decode cX7_readLine 20 = .ok (.iload_n 1, 1) := by decide +kernel
theorem dX7_readLine_21 : decode cX7_readLine 21 = .ok (.iconst 3, 1) := by decide +kernel
theorem dX7_readLine_22 : decode cX7_readLine 22 = .ok (.if_icmp .ne 8, 3) := by decide +kernel
theorem dX7_readLine_25 : decode cX7_readLine 25 = .ok (.ldc 45, 2) := by decide +kernel
theorem dX7_readLine_27 : decode cX7_readLine 27 = .ok (.goto 5, 3) := by decide +kernel
theorem dX7_readLine_30 : decode cX7_readLine 30 = .ok (.ldc 47, 2) := by decide +kernel
theorem dX7_readLine_32 : decode cX7_readLine 32 = .ok (.astore_n 3, 1) := by decide +kernel
theorem dX7_readLine_33 : decode cX7_readLine 33 = .ok (.aload_n 0, 1) := by decide +kernel
theorem dX7_readLine_34 : decode cX7_readLine 34 = .ok (.getfield 20, 3) := by decide +kernel
theorem dX7_readLine_37 : decode cX7_readLine 37 = .ok (.aload_n 3, 1) := by decide +kernel
theorem dX7_readLine_38 : decode cX7_readLine 38 = .ok (.invokevirtual 49, 3) := by decide +kernel
theorem dX7_readLine_41 : decode cX7_readLine 41 = .ok (.ifCond .ne 12, 3) := by decide +kernel
theorem dX7_readLine_44 : decode cX7_readLine 44 = .ok (.aload_n 0, 1) := by decide +kernel
theorem dX7_readLine_45 : decode cX7_readLine 45 = .ok (.getfield 20, 3) := by decide +kernel
theorem dX7_readLine_48 : decode cX7_readLine 48 = .ok (.iconst 1, 1) := by decide +kernel
theorem dX7_readLine_49 : decode cX7_readLine 49 = .ok (.invokevirtual 53, 3) := by decide +kernel
theorem dX7_readLine_52 : decode cX7_readLine 52 = .ok (.ireturn, 1) := by decide +kernel
theorem dX7_readLine_53 : decode cX7_readLine 53 = .ok (.aload_n 0, 1) := by decide +kernel
theorem dX7_readLine_54 : decode cX7_readLine 54 = .ok (.getfield 14, 3) := by decide +kernel
theorem dX7_readLine_57 : decode cX7_readLine 57 = .ok (.getfield 57, 3) := by decide +kernel
theorem dX7_readLine_60 : decode cX7_readLine 60 = .ok (.iload_n 1, 1) := by decide +kernel
theorem dX7_readLine_61 : decode cX7_readLine 61 = .ok (.iconst 4, 1) := by decide +kernel
theorem dX7_readLine_62 : decode cX7_readLine 62 = .ok (.if_icmp .ne 8, 3) := by decide +kernel
theorem dX7_readLine_65 : decode cX7_readLine 65 = .ok (.bipush 8, 2) := by decide +kernel
theorem dX7_readLine_67 : decode cX7_readLine 67 = .ok (.goto 5, 3) := by decide +kernel
theorem dX7_readLine_70 : decode cX7_readLine 70 = .ok (.bipush 16, 2) := by decide +kernel
theorem dX7_readLine_72 : decode cX7_readLine 72 = .ok (.if_icmp .lt 12, 3) := by decide +kernel
theorem dX7_readLine_75 : decode cX7_readLine 75 = .ok (.aload_n 0, 1) := by decide +kernel
theorem dX7_readLine_76 : decode cX7_readLine 76 = .ok (.getfield 20, 3) := by decide +kernel
theorem dX7_readLine_79 : decode cX7_readLine 79 = .ok (.iconst 3, 1) := by decide +kernel
theorem dX7_readLine_80 : decode cX7_readLine 80 = .ok (.invokevirtual 53, 3) := by decide +kernel
theorem dX7_readLine_83 : decode cX7_readLine 83 = .ok (.ireturn, 1) := by decide +kernel
theorem dX7_readLine_84 : decode cX7_readLine 84 = .ok (.aload_n 0, 1) := by decide +kernel
theorem dX7_readLine_85 : decode cX7_readLine 85 = .ok (.getfield 20, 3) := by decide +kernel
theorem dX7_readLine_88 : decode cX7_readLine 88 = .ok (.invokevirtual 61, 3) := by decide +kernel
theorem dX7_readLine_91 : decode cX7_readLine 91 = .ok (.iload_n 1, 1) := by decide +kernel
theorem dX7_readLine_92 : decode cX7_readLine 92 = .ok (.tableswitch 45 1 3 #[28, 34, 40], 28) := by decide +kernel
theorem dX7_readLine_120 : decode cX7_readLine 120 = .ok (.aload_n 0, 1) := by decide +kernel
theorem dX7_readLine_121 : decode cX7_readLine 121 = .ok (.aload_n 2, 1) := by decide +kernel
theorem dX7_readLine_122 : decode cX7_readLine 122 = .ok (.invokevirtual 64, 3) := by decide +kernel
theorem dX7_readLine_125 : decode cX7_readLine 125 = .ok (.ireturn, 1) := by decide +kernel
theorem dX7_readLine_126 : decode cX7_readLine 126 = .ok (.aload_n 0, 1) := by decide +kernel
theorem dX7_readLine_127 : decode cX7_readLine 127 = .ok (.aload_n 2, 1) := by decide +kernel
theorem dX7_readLine_128 : decode cX7_readLine 128 = .ok (.invokevirtual 68, 3) := by decide +kernel
theorem dX7_readLine_131 : decode cX7_readLine 131 = .ok (.ireturn, 1) := by decide +kernel
theorem dX7_readLine_132 : decode cX7_readLine 132 = .ok (.aload_n 0, 1) := by decide +kernel
theorem dX7_readLine_133 : decode cX7_readLine 133 = .ok (.invokevirtual 71, 3) := by decide +kernel
theorem dX7_readLine_136 : decode cX7_readLine 136 = .ok (.ireturn, 1) := by decide +kernel
theorem dX7_readLine_137 : decode cX7_readLine 137 = .ok (.aload_n 0, 1) := by decide +kernel
theorem dX7_readLine_138 : decode cX7_readLine 138 = .ok (.invokevirtual 74, 3) := by decide +kernel
theorem dX7_readLine_141 : decode cX7_readLine 141 = .ok (.ireturn, 1) := by decide +kernel
theorem dX7_readHeed_0 : decode cX7_readHeed 0 = .ok (.aload_n 0, 1) := by decide +kernel
theorem dX7_readHeed_1 : decode cX7_readHeed 1 = .ok (.getfield 20, 3) := by decide +kernel
theorem dX7_readHeed_4 : decode cX7_readHeed 4 = .ok (.iconst 0, 1) := by decide +kernel
theorem dX7_readHeed_5 : decode cX7_readHeed 5 = .ok (.aload_n 1, 1) := by decide +kernel
theorem dX7_readHeed_6 : decode cX7_readHeed 6 = .ok (.getfield 77, 3) := by decide +kernel
theorem dX7_readHeed_9 : decode cX7_readHeed 9 = .ok (.iconst 1, 1) := by decide +kernel
theorem dX7_readHeed_10 : decode cX7_readHeed 10 = .ok (.isub, 1) := by decide +kernel
theorem dX7_readHeed_11 : decode cX7_readHeed 11 = .ok (.iconst (-1), 1) := by decide +kernel
theorem dX7_readHeed_12 : decode cX7_readHeed 12 = .ok (.invokevirtual 82, 3) := by decide +kernel
theorem dX7_readHeed_15 : decode cX7_readHeed 15 = .ok (.istore_n 2, 1) := by decide +kernel
theorem dX7_readHeed_16 : decode cX7_readHeed 16 = .ok (.iload_n 2, 1) := by decide +kernel
theorem dX7_readHeed_17 : decode cX7_readHeed 17 = .ok (.iconst (-1), 1) := by decide +kernel
theorem dX7_readHeed_18 : decode cX7_readHeed 18 = .ok (.if_icmp .eq 15, 3) := by decide +kernel
theorem dX7_readHeed_21 : decode cX7_readHeed 21 = .ok (.aload_n 0, 1) := by decide +kernel
theorem dX7_readHeed_22 : decode cX7_readHeed 22 = .ok (.getfield 20, 3) := by decide +kernel
theorem dX7_readHeed_25 : decode cX7_readHeed 25 = .ok (.ldc 86, 2) := by decide +kernel
theorem dX7_readHeed_27 : decode cX7_readHeed 27 = .ok (.invokevirtual 88, 3) := by decide +kernel
theorem dX7_readHeed_30 : decode cX7_readHeed 30 = .ok (.ifCond .ne 5, 3) := by decide +kernel
theorem dX7_readHeed_33 : decode cX7_readHeed 33 = .ok (.iconst 0, 1) := by decide +kernel
theorem dX7_readHeed_34 : decode cX7_readHeed 34 = .ok (.ireturn, 1) := by decide +kernel
theorem dX7_readHeed_35 : decode cX7_readHeed 35 = .ok (.iconst 0, 1) := by decide +kernel
theorem dX7_readHeed_36 : decode cX7_readHeed 36 = .ok (.istore_n 3, 1) := by decide +kernel
theorem dX7_readHeed_37 : decode cX7_readHeed 37 = .ok (.iconst 1, 1) := by decide +kernel
theorem dX7_readHeed_38 : decode cX7_readHeed 38 = .ok (.istore 4, 2) := by decide +kernel
theorem dX7_readHeed_40 : decode cX7_readHeed 40 = .ok (.iconst 0, 1) := by decide +kernel
theorem dX7_readHeed_41 : decode cX7_readHeed 41 = .ok (.istore 5, 2) := by decide +kernel
theorem dX7_readHeed_43 : decode cX7_readHeed 43 = .ok (.iload 5, 2) := by decide +kernel
theorem dX7_readHeed_45 : decode cX7_readHeed 45 = .ok (.sipush 400, 3) := by decide +kernel
theorem dX7_readHeed_48 : decode cX7_readHeed 48 = .ok (.if_icmp .gt 57, 3) := by decide +kernel
theorem dX7_readHeed_51 : decode cX7_readHeed 51 = .ok (.iload 4, 2) := by decide +kernel
theorem dX7_readHeed_53 : decode cX7_readHeed 53 = .ok (.ifCond .eq 52, 3) := by decide +kernel
theorem dX7_readHeed_56 : decode cX7_readHeed 56 = .ok (.aload_n 0, 1) := by decide +kernel
theorem dX7_readHeed_57 : decode cX7_readHeed 57 = .ok (.getfield 20, 3) := by decide +kernel
theorem dX7_readHeed_60 : decode cX7_readHeed 60 = .ok (.iconst 0, 1) := by decide +kernel
theorem dX7_readHeed_61 : decode cX7_readHeed 61 = .ok (.aload_n 1, 1) := by decide +kernel
theorem dX7_readHeed_62 : decode cX7_readHeed 62 = .ok (.getfield 77, 3) := by decide +kernel
theorem dX7_readHeed_65 : decode cX7_readHeed 65 = .ok (.iconst 1, 1) := by decide +kernel
theorem dX7_readHeed_66 : decode cX7_readHeed 66 = .ok (.isub, 1) := by decide +kernel
theorem dX7_readHeed_67 : decode cX7_readHeed 67 = .ok (.iload_n 2, 1) := by decide +kernel
theorem dX7_readHeed_68 : decode cX7_readHeed 68 = .ok (.invokevirtual 82, 3) := by decide +kernel
theorem dX7_readHeed_71 : decode cX7_readHeed 71 = .ok (.istore 6, 2) := by decide +kernel
theorem dX7_readHeed_73 : decode cX7_readHeed 73 = .ok (.iload 6, 2) := by decide +kernel
theorem dX7_readHeed_75 : decode cX7_readHeed 75 = .ok (.iconst (-1), 1) := by decide +kernel
theorem dX7_readHeed_76 : decode cX7_readHeed 76 = .ok (.if_icmp .ne 5, 3) := by decide +kernel
theorem dX7_readHeed_79 : decode cX7_readHeed 79 = .ok (.iconst 0, 1) := by decide +kernel
theorem dX7_readHeed_80 : decode cX7_readHeed 80 = .ok (.ireturn, 1) := by decide +kernel
theorem dX7_readHeed_81 : decode cX7_readHeed 81 = .ok (.iload_n 3, 1) := by decide +kernel
theorem dX7_readHeed_82 : decode cX7_readHeed 82 = .ok (.iconst 1, 1) := by decide +kernel
theorem dX7_readHeed_83 : decode cX7_readHeed 83 = .ok (.iload 6, 2) := by decide +kernel
theorem dX7_readHeed_85 : decode cX7_readHeed 85 = .ok (.ishl, 1) := by decide +kernel
theorem dX7_readHeed_86 : decode cX7_readHeed 86 = .ok (.ior, 1) := by decide +kernel
theorem dX7_readHeed_87 : decode cX7_readHeed 87 = .ok (.istore_n 3, 1) := by decide +kernel
theorem dX7_readHeed_88 : decode cX7_readHeed 88 = .ok (.aload_n 0, 1) := by decide +kernel
theorem dX7_readHeed_89 : decode cX7_readHeed 89 = .ok (.getfield 20, 3) := by decide +kernel
theorem dX7_readHeed_92 : decode cX7_readHeed 92 = .ok (.ldc 91, 2) := by decide +kernel
theorem dX7_readHeed_94 : decode cX7_readHeed 94 = .ok (.invokevirtual 93, 3) := by decide +kernel
theorem dX7_readHeed_97 : decode cX7_readHeed 97 = .ok (.istore 4, 2) := by decide +kernel
theorem dX7_readHeed_99 : decode cX7_readHeed 99 = .ok (.iinc 5 1, 3) := by decide +kernel
theorem dX7_readHeed_102 : decode cX7_readHeed 102 = .ok (.goto (-59), 3) := by decide +kernel
theorem dX7_readHeed_105 : decode cX7_readHeed 105 = .ok (.aload_n 0, 1) := by decide +kernel
theorem dX7_readHeed_106 : decode cX7_readHeed 106 = .ok (.getfield 14, 3) := by decide +kernel
theorem dX7_readHeed_109 : decode cX7_readHeed 109 = .ok (.iload_n 2, 1) := by decide +kernel
theorem dX7_readHeed_110 : decode cX7_readHeed 110 = .ok (.iload_n 3, 1) := by decide +kernel
theorem dX7_readHeed_111 : decode cX7_readHeed 111 = .ok (.iconst 0, 1) := by decide +kernel
theorem dX7_readHeed_112 : decode cX7_readHeed 112 = .ok (.iconst 0, 1) := by decide +kernel
theorem dX7_readHeed_113 : decode cX7_readHeed 113 = .ok (.invokevirtual 96, 3) := by decide +kernel
theorem dX7_readHeed_116 : decode cX7_readHeed 116 = .ok (.iconst 1, 1) := by decide +kernel
theorem dX7_readHeed_117 : decode cX7_readHeed 117 = .ok (.ireturn, 1) := by decide +kernel
theorem dX7_readPlan_0 : decode cX7_readPlan 0 = .ok (.aload_n 0, 1) := by decide +kernel
theorem dX7_readPlan_1 : decode cX7_readPlan 1 = .ok (.getfield 20, 3) := by decide +kernel
theorem dX7_readPlan_4 : decode cX7_readPlan 4 = .ok (.iconst 0, 1) := by decide +kernel
theorem dX7_readPlan_5 : decode cX7_readPlan 5 = .ok (.sipush 999, 3) := by decide +kernel
theorem dX7_readPlan_8 : decode cX7_readPlan 8 = .ok (.iconst (-1), 1) := by decide +kernel
theorem dX7_readPlan_9 : decode cX7_readPlan 9 = .ok (.invokevirtual 82, 3) := by decide +kernel
theorem dX7_readPlan_12 : decode cX7_readPlan 12 = .ok (.istore_n 2, 1) := by decide +kernel
theorem dX7_readPlan_13 : decode cX7_readPlan 13 = .ok (.iload_n 2, 1) := by decide +kernel
theorem dX7_readPlan_14 : decode cX7_readPlan 14 = .ok (.iconst (-1), 1) := by decide +kernel
theorem dX7_readPlan_15 : decode cX7_readPlan 15 = .ok (.if_icmp .ne 5, 3) := by decide +kernel
theorem dX7_readPlan_18 : decode cX7_readPlan 18 = .ok (.iconst 0, 1) := by decide +kernel
theorem dX7_readPlan_19 : decode cX7_readPlan 19 = .ok (.ireturn, 1) := by decide +kernel
theorem dX7_readPlan_20 : decode cX7_readPlan 20 = .ok (.aload_n 0, 1) := by decide +kernel
theorem dX7_readPlan_21 : decode cX7_readPlan 21 = .ok (.getfield 20, 3) := by decide +kernel
theorem dX7_readPlan_24 : decode cX7_readPlan 24 = .ok (.ldc 100, 2) := by decide +kernel
theorem dX7_readPlan_26 : decode cX7_readPlan 26 = .ok (.invokevirtual 93, 3) := by decide +kernel
theorem dX7_readPlan_29 : decode cX7_readPlan 29 = .ok (.ifCond .eq 16, 3) := by decide +kernel
theorem dX7_readPlan_32 : decode cX7_readPlan 32 = .ok (.aload_n 0, 1) := by decide +kernel
theorem dX7_readPlan_33 : decode cX7_readPlan 33 = .ok (.getfield 14, 3) := by decide +kernel
theorem dX7_readPlan_36 : decode cX7_readPlan 36 = .ok (.iload_n 2, 1) := by decide +kernel
theorem dX7_readPlan_37 : decode cX7_readPlan 37 = .ok (.iconst 0, 1) := by decide +kernel
theorem dX7_readPlan_38 : decode cX7_readPlan 38 = .ok (.iconst 0, 1) := by decide +kernel
theorem dX7_readPlan_39 : decode cX7_readPlan 39 = .ok (.iconst 0, 1) := by decide +kernel
theorem dX7_readPlan_40 : decode cX7_readPlan 40 = .ok (.invokevirtual 96, 3) := by decide +kernel
theorem dX7_readPlan_43 : decode cX7_readPlan 43 = .ok (.iconst 1, 1) := by decide +kernel
theorem dX7_readPlan_44 : decode cX7_readPlan 44 = .ok (.ireturn, 1) := by decide +kernel
theorem dX7_readPlan_45 : decode cX7_readPlan 45 = .ok (.aload_n 0, 1) := by decide +kernel
theorem dX7_readPlan_46 : decode cX7_readPlan 46 = .ok (.getfield 20, 3) := by decide +kernel
theorem dX7_readPlan_49 : decode cX7_readPlan 49 = .ok (.ldc 102, 2) := by decide +kernel
theorem dX7_readPlan_51 : decode cX7_readPlan 51 = .ok (.invokevirtual 49, 3) := by decide +kernel
theorem dX7_readPlan_54 : decode cX7_readPlan 54 = .ok (.ifCond .eq 7, 3) := by decide +kernel
theorem dX7_readPlan_57 : decode cX7_readPlan 57 = .ok (.iconst 1, 1) := by decide +kernel
theorem dX7_readPlan_58 : decode cX7_readPlan 58 = .ok (.goto 52, 3) := by decide +kernel
theorem dX7_readPlan_61 : decode cX7_readPlan 61 = .ok (.aload_n 0, 1) := by decide +kernel
theorem dX7_readPlan_62 : decode cX7_readPlan 62 = .ok (.getfield 20, 3) := by decide +kernel
theorem dX7_readPlan_65 : decode cX7_readPlan 65 = .ok (.ldc 104, 2) := by decide +kernel
theorem dX7_readPlan_67 : decode cX7_readPlan 67 = .ok (.invokevirtual 49, 3) := by decide +kernel
theorem dX7_readPlan_70 : decode cX7_readPlan 70 = .ok (.ifCond .eq 7, 3) := by decide +kernel
theorem dX7_readPlan_73 : decode cX7_readPlan 73 = .ok (.iconst 2, 1) := by decide +kernel
theorem dX7_readPlan_74 : decode cX7_readPlan 74 = .ok (.goto 36, 3) := by decide +kernel
theorem dX7_readPlan_77 : decode cX7_readPlan 77 = .ok (.aload_n 0, 1) := by decide +kernel
theorem dX7_readPlan_78 : decode cX7_readPlan 78 = .ok (.getfield 20, 3) := by decide +kernel
theorem dX7_readPlan_81 : decode cX7_readPlan 81 = .ok (.ldc 106, 2) := by decide +kernel
theorem dX7_readPlan_83 : decode cX7_readPlan 83 = .ok (.invokevirtual 49, 3) := by decide +kernel
theorem dX7_readPlan_86 : decode cX7_readPlan 86 = .ok (.ifCond .eq 7, 3) := by decide +kernel
theorem dX7_readPlan_89 : decode cX7_readPlan 89 = .ok (.iconst 3, 1) := by decide +kernel
theorem dX7_readPlan_90 : decode cX7_readPlan 90 = .ok (.goto 20, 3) := by decide +kernel
theorem dX7_readPlan_93 : decode cX7_readPlan 93 = .ok (.aload_n 0, 1) := by decide +kernel
theorem dX7_readPlan_94 : decode cX7_readPlan 94 = .ok (.getfield 20, 3) := by decide +kernel
theorem dX7_readPlan_97 : decode cX7_readPlan 97 = .ok (.ldc 108, 2) := by decide +kernel
theorem dX7_readPlan_99 : decode cX7_readPlan 99 = .ok (.invokevirtual 49, 3) := by decide +kernel
theorem dX7_readPlan_102 : decode cX7_readPlan 102 = .ok (.ifCond .eq 7, 3) := by decide +kernel
theorem dX7_readPlan_105 : decode cX7_readPlan 105 = .ok (.iconst 4, 1) := by decide +kernel
theorem dX7_readPlan_106 : decode cX7_readPlan 106 = .ok (.goto 4, 3) := by decide +kernel
theorem dX7_readPlan_109 : decode cX7_readPlan 109 = .ok (.iconst (-1), 1) := by decide +kernel
theorem dX7_readPlan_110 : decode cX7_readPlan 110 = .ok (.istore_n 3, 1) := by decide +kernel
theorem dX7_readPlan_111 : decode cX7_readPlan 111 = .ok (.iload_n 3, 1) := by decide +kernel
theorem dX7_readPlan_112 : decode cX7_readPlan 112 = .ok (.iconst (-1), 1) := by decide +kernel
theorem dX7_readPlan_113 : decode cX7_readPlan 113 = .ok (.if_icmp .ne 12, 3) := by decide +kernel
theorem dX7_readPlan_116 : decode cX7_readPlan 116 = .ok (.aload_n 0, 1) := by decide +kernel
theorem dX7_readPlan_117 : decode cX7_readPlan 117 = .ok (.getfield 20, 3) := by decide +kernel
theorem dX7_readPlan_120 : decode cX7_readPlan 120 = .ok (.iconst 1, 1) := by decide +kernel
theorem dX7_readPlan_121 : decode cX7_readPlan 121 = .ok (.invokevirtual 53, 3) := by decide +kernel
theorem dX7_readPlan_124 : decode cX7_readPlan 124 = .ok (.ireturn, 1) := by decide +kernel
theorem dX7_readPlan_125 : decode cX7_readPlan 125 = .ok (.aload_n 0, 1) := by decide +kernel
theorem dX7_readPlan_126 : decode cX7_readPlan 126 = .ok (.getfield 20, 3) := by decide +kernel
theorem dX7_readPlan_129 : decode cX7_readPlan 129 = .ok (.invokevirtual 61, 3) := by decide +kernel
theorem dX7_readPlan_132 : decode cX7_readPlan 132 = .ok (.aload_n 0, 1) := by decide +kernel
theorem dX7_readPlan_133 : decode cX7_readPlan 133 = .ok (.getfield 20, 3) := by decide +kernel
theorem dX7_readPlan_136 : decode cX7_readPlan 136 = .ok (.iconst 0, 1) := by decide +kernel
theorem dX7_readPlan_137 : decode cX7_readPlan 137 = .ok (.iload_n 3, 1) := by decide +kernel
theorem dX7_readPlan_138 : decode cX7_readPlan 138 = .ok (.iconst 4, 1) := by decide +kernel
theorem dX7_readPlan_139 : decode cX7_readPlan 139 = .ok (.if_icmp .ne 8, 3) := by decide +kernel
theorem dX7_readPlan_142 : decode cX7_readPlan 142 = .ok (.bipush 9, 2) := by decide +kernel
theorem dX7_readPlan_144 : decode cX7_readPlan 144 = .ok (.goto 9, 3) := by decide +kernel
theorem dX7_readPlan_147 : decode cX7_readPlan 147 = .ok (.aload_n 1, 1) := by decide +kernel
theorem dX7_readPlan_148 : decode cX7_readPlan 148 = .ok (.getfield 110, 3) := by decide +kernel
theorem dX7_readPlan_151 : decode cX7_readPlan 151 = .ok (.iconst 1, 1) := by decide +kernel
theorem dX7_readPlan_152 : decode cX7_readPlan 152 = .ok (.isub, 1) := by decide +kernel
theorem dX7_readPlan_153 : decode cX7_readPlan 153 = .ok (.iconst (-1), 1) := by decide +kernel
theorem dX7_readPlan_154 : decode cX7_readPlan 154 = .ok (.invokevirtual 82, 3) := by decide +kernel
theorem dX7_readPlan_157 : decode cX7_readPlan 157 = .ok (.istore 4, 2) := by decide +kernel
theorem dX7_readPlan_159 : decode cX7_readPlan 159 = .ok (.iload 4, 2) := by decide +kernel
theorem dX7_readPlan_161 : decode cX7_readPlan 161 = .ok (.iconst (-1), 1) := by decide +kernel
theorem dX7_readPlan_162 : decode cX7_readPlan 162 = .ok (.if_icmp .ne 5, 3) := by decide +kernel
theorem dX7_readPlan_165 : decode cX7_readPlan 165 = .ok (.iconst 0, 1) := by decide +kernel
theorem dX7_readPlan_166 : decode cX7_readPlan 166 = .ok (.ireturn, 1) := by decide +kernel
theorem dX7_readPlan_167 : decode cX7_readPlan 167 = .ok (.iconst 0, 1) := by decide +kernel
theorem dX7_readPlan_168 : decode cX7_readPlan 168 = .ok (.istore 5, 2) := by decide +kernel
theorem dX7_readPlan_170 : decode cX7_readPlan 170 = .ok (.iload_n 3, 1) := by decide +kernel
theorem dX7_readPlan_171 : decode cX7_readPlan 171 = .ok (.iconst 1, 1) := by decide +kernel
theorem dX7_readPlan_172 : decode cX7_readPlan 172 = .ok (.if_icmp .eq 8, 3) := by decide +kernel
theorem dX7_readPlan_175 : decode cX7_readPlan 175 = .ok (.iload_n 3, 1) := by decide +kernel
theorem dX7_readPlan_176 : decode cX7_readPlan 176 = .ok (.iconst 3, 1) := by decide +kernel
theorem dX7_readPlan_177 : decode cX7_readPlan 177 = .ok (.if_icmp .ne 20, 3) := by decide +kernel
theorem dX7_readPlan_180 : decode cX7_readPlan 180 = .ok (.aload_n 0, 1) := by decide +kernel
theorem dX7_readPlan_181 : decode cX7_readPlan 181 = .ok (.getfield 20, 3) := by decide +kernel
theorem dX7_readPlan_184 : decode cX7_readPlan 184 = .ok (.iconst 0, 1) := by decide +kernel
theorem dX7_readPlan_185 : decode cX7_readPlan 185 = .ok (.aload_n 1, 1) := by decide +kernel
theorem dX7_readPlan_186 : decode cX7_readPlan 186 = .ok (.getfield 77, 3) := by decide +kernel
theorem dX7_readPlan_189 : decode cX7_readPlan 189 = .ok (.iconst 1, 1) := by decide +kernel
theorem dX7_readPlan_190 : decode cX7_readPlan 190 = .ok (.isub, 1) := by decide +kernel
theorem dX7_readPlan_191 : decode cX7_readPlan 191 = .ok (.iconst (-1), 1) := by decide +kernel
theorem dX7_readPlan_192 : decode cX7_readPlan 192 = .ok (.invokevirtual 82, 3) := by decide +kernel
theorem dX7_readPlan_195 : decode cX7_readPlan 195 = .ok (.istore 5, 2) := by decide +kernel
theorem dX7_readPlan_197 : decode cX7_readPlan 197 = .ok (.aload_n 0, 1) := by decide +kernel
theorem dX7_readPlan_198 : decode cX7_readPlan 198 = .ok (.getfield 14, 3) := by decide +kernel
theorem dX7_readPlan_201 : decode cX7_readPlan 201 = .ok (.iload_n 2, 1) := by decide +kernel
theorem dX7_readPlan_202 : decode cX7_readPlan 202 = .ok (.iload_n 3, 1) := by decide +kernel
theorem dX7_readPlan_203 : decode cX7_readPlan 203 = .ok (.iload 4, 2) := by decide +kernel
theorem dX7_readPlan_205 : decode cX7_readPlan 205 = .ok (.iload 5, 2) := by decide +kernel
theorem dX7_readPlan_207 : decode cX7_readPlan 207 = .ok (.invokevirtual 96, 3) := by decide +kernel
theorem dX7_readPlan_210 : decode cX7_readPlan 210 = .ok (.iload 5, 2) := by decide +kernel
theorem dX7_readPlan_212 : decode cX7_readPlan 212 = .ok (.iconst (-1), 1) := by decide +kernel
theorem dX7_readPlan_213 : decode cX7_readPlan 213 = .ok (.if_icmp .eq 7, 3) := by decide +kernel
theorem dX7_readPlan_216 : decode cX7_readPlan 216 = .ok (.iconst 1, 1) := by decide +kernel
theorem dX7_readPlan_217 : decode cX7_readPlan 217 = .ok (.goto 4, 3) := by decide +kernel
theorem dX7_readPlan_220 : decode cX7_readPlan 220 = .ok (.iconst 0, 1) := by decide +kernel
theorem dX7_readPlan_221 : decode cX7_readPlan 221 = .ok (.ireturn, 1) := by decide +kernel
theorem dX7_readPath_0 : decode cX7_readPath 0 = .ok (.aload_n 0, 1) := by decide +kernel
theorem dX7_readPath_1 : decode cX7_readPath 1 = .ok (.getfield 20, 3) := by decide +kernel
theorem dX7_readPath_4 : decode cX7_readPath 4 = .ok (.iconst 0, 1) := by decide +kernel
theorem dX7_readPath_5 : decode cX7_readPath 5 = .ok (.bipush 9, 2) := by decide +kernel
theorem dX7_readPath_7 : decode cX7_readPath 7 = .ok (.iconst (-1), 1) := by decide +kernel
theorem dX7_readPath_8 : decode cX7_readPath 8 = .ok (.invokevirtual 82, 3) := by decide +kernel
theorem dX7_readPath_11 : decode cX7_readPath 11 = .ok (.istore_n 1, 1) := by decide +kernel
theorem dX7_readPath_12 : decode cX7_readPath 12 = .ok (.iload_n 1, 1) := by decide +kernel
theorem dX7_readPath_13 : decode cX7_readPath 13 = .ok (.iconst (-1), 1) := by decide +kernel
theorem dX7_readPath_14 : decode cX7_readPath 14 = .ok (.if_icmp .ne 5, 3) := by decide +kernel
theorem dX7_readPath_17 : decode cX7_readPath 17 = .ok (.iconst 0, 1) := by decide +kernel
theorem dX7_readPath_18 : decode cX7_readPath 18 = .ok (.ireturn, 1) := by decide +kernel
theorem dX7_readPath_19 : decode cX7_readPath 19 = .ok (.aload_n 0, 1) := by decide +kernel
theorem dX7_readPath_20 : decode cX7_readPath 20 = .ok (.getfield 20, 3) := by decide +kernel
theorem dX7_readPath_23 : decode cX7_readPath 23 = .ok (.iconst 0, 1) := by decide +kernel
theorem dX7_readPath_24 : decode cX7_readPath 24 = .ok (.bipush 9, 2) := by decide +kernel
theorem dX7_readPath_26 : decode cX7_readPath 26 = .ok (.iload_n 1, 1) := by decide +kernel
theorem dX7_readPath_27 : decode cX7_readPath 27 = .ok (.invokevirtual 82, 3) := by decide +kernel
theorem dX7_readPath_30 : decode cX7_readPath 30 = .ok (.istore_n 2, 1) := by decide +kernel
theorem dX7_readPath_31 : decode cX7_readPath 31 = .ok (.iload_n 2, 1) := by decide +kernel
theorem dX7_readPath_32 : decode cX7_readPath 32 = .ok (.iconst (-1), 1) := by decide +kernel
theorem dX7_readPath_33 : decode cX7_readPath 33 = .ok (.if_icmp .eq 15, 3) := by decide +kernel
theorem dX7_readPath_36 : decode cX7_readPath 36 = .ok (.aload_n 0, 1) := by decide +kernel
theorem dX7_readPath_37 : decode cX7_readPath 37 = .ok (.getfield 20, 3) := by decide +kernel
theorem dX7_readPath_40 : decode cX7_readPath 40 = .ok (.ldc 113, 2) := by decide +kernel
theorem dX7_readPath_42 : decode cX7_readPath 42 = .ok (.invokevirtual 88, 3) := by decide +kernel
theorem dX7_readPath_45 : decode cX7_readPath 45 = .ok (.ifCond .ne 5, 3) := by decide +kernel
theorem dX7_readPath_48 : decode cX7_readPath 48 = .ok (.iconst 0, 1) := by decide +kernel
theorem dX7_readPath_49 : decode cX7_readPath 49 = .ok (.ireturn, 1) := by decide +kernel
theorem dX7_readPath_50 : decode cX7_readPath 50 = .ok (.aload_n 0, 1) := by decide +kernel
theorem dX7_readPath_51 : decode cX7_readPath 51 = .ok (.getfield 20, 3) := by decide +kernel
theorem dX7_readPath_54 : decode cX7_readPath 54 = .ok (.iconst 1, 1) := by decide +kernel
theorem dX7_readPath_55 : decode cX7_readPath 55 = .ok (.bipush 24, 2) := by decide +kernel
theorem dX7_readPath_57 : decode cX7_readPath 57 = .ok (.iconst (-1), 1) := by decide +kernel
theorem dX7_readPath_58 : decode cX7_readPath 58 = .ok (.invokevirtual 82, 3) := by decide +kernel
theorem dX7_readPath_61 : decode cX7_readPath 61 = .ok (.istore_n 3, 1) := by decide +kernel
theorem dX7_readPath_62 : decode cX7_readPath 62 = .ok (.aload_n 0, 1) := by decide +kernel
theorem dX7_readPath_63 : decode cX7_readPath 63 = .ok (.getfield 14, 3) := by decide +kernel
theorem dX7_readPath_66 : decode cX7_readPath 66 = .ok (.iload_n 1, 1) := by decide +kernel
theorem dX7_readPath_67 : decode cX7_readPath 67 = .ok (.iload_n 2, 1) := by decide +kernel
theorem dX7_readPath_68 : decode cX7_readPath 68 = .ok (.iload_n 3, 1) := by decide +kernel
theorem dX7_readPath_69 : decode cX7_readPath 69 = .ok (.iconst 0, 1) := by decide +kernel
theorem dX7_readPath_70 : decode cX7_readPath 70 = .ok (.invokevirtual 96, 3) := by decide +kernel
theorem dX7_readPath_73 : decode cX7_readPath 73 = .ok (.iload_n 3, 1) := by decide +kernel
theorem dX7_readPath_74 : decode cX7_readPath 74 = .ok (.iconst (-1), 1) := by decide +kernel
theorem dX7_readPath_75 : decode cX7_readPath 75 = .ok (.if_icmp .eq 7, 3) := by decide +kernel
theorem dX7_readPath_78 : decode cX7_readPath 78 = .ok (.iconst 1, 1) := by decide +kernel
theorem dX7_readPath_79 : decode cX7_readPath 79 = .ok (.goto 4, 3) := by decide +kernel
