theorem dX12_act_86 : decode cX12_act 86 = .ok (.iconst 1, 1) := by decide +kernel
theorem dX12_act_87 : decode cX12_act 87 = .ok (.ireturn, 1) := by decide +kernel
theorem dX12_pathOf_0 : decode cX12_pathOf 0 = .ok (.iconst 0, 1) := by decide +kernel
theorem dX12_pathOf_1 : decode cX12_pathOf 1 = .ok (.istore_n 3, 1) := by decide +kernel
theorem dX12_pathOf_2 : decode cX12_pathOf 2 = .ok (.iload_n 3, 1) := by decide +kernel
theorem dX12_pathOf_3 : decode cX12_pathOf 3 = .ok (.aload_n 0, 1) := by decide +kernel
theorem dX12_pathOf_4 : decode cX12_pathOf 4 = .ok (.getfield 7, 3) := by decide +kernel
theorem dX12_pathOf_7 : decode cX12_pathOf 7 = .ok (.bipush 92, 2) := by decide +kernel
theorem dX12_pathOf_9 : decode cX12_pathOf 9 = .ok (.iaload, 1) := by decide +kernel
theorem dX12_pathOf_10 : decode cX12_pathOf 10 = .ok (.if_icmp .ge 58, 3) := by decide +kernel
theorem dX12_pathOf_13 : decode cX12_pathOf 13 = .ok (.aload_n 0, 1) := by decide +kernel
theorem dX12_pathOf_14 : decode cX12_pathOf 14 = .ok (.getfield 7, 3) := by decide +kernel
theorem dX12_pathOf_17 : decode cX12_pathOf 17 = .ok (.sipush 205, 3) := by decide +kernel
theorem dX12_pathOf_20 : decode cX12_pathOf 20 = .ok (.iconst 3, 1) := by decide +kernel
theorem dX12_pathOf_21 : decode cX12_pathOf 21 = .ok (.iload_n 3, 1) := by decide +kernel
theorem dX12_pathOf_22 : decode cX12_pathOf 22 = .ok (.imul, 1) := by decide +kernel
theorem dX12_pathOf_23 : decode cX12_pathOf 23 = .ok (.iadd, 1) := by decide +kernel
theorem dX12_pathOf_24 : decode cX12_pathOf 24 = .ok (.iaload, 1) := by decide +kernel
theorem dX12_pathOf_25 : decode cX12_pathOf 25 = .ok (.iload_n 1, 1) := by decide +kernel
theorem dX12_pathOf_26 : decode cX12_pathOf 26 = .ok (.if_icmp .ne 36, 3) := by decide +kernel
theorem dX12_pathOf_29 : decode cX12_pathOf 29 = .ok (.aload_n 0, 1) := by decide +kernel
theorem dX12_pathOf_30 : decode cX12_pathOf 30 = .ok (.getfield 7, 3) := by decide +kernel
theorem dX12_pathOf_33 : decode cX12_pathOf 33 = .ok (.sipush 205, 3) := by decide +kernel
theorem dX12_pathOf_36 : decode cX12_pathOf 36 = .ok (.iconst 3, 1) := by decide +kernel
theorem dX12_pathOf_37 : decode cX12_pathOf 37 = .ok (.iload_n 3, 1) := by decide +kernel
theorem dX12_pathOf_38 : decode cX12_pathOf 38 = .ok (.imul, 1) := by decide +kernel
theorem dX12_pathOf_39 : decode cX12_pathOf 39 = .ok (.iadd, 1) := by decide +kernel
theorem dX12_pathOf_40 : decode cX12_pathOf 40 = .ok (.iconst 1, 1) := by decide +kernel
theorem dX12_pathOf_41 : decode cX12_pathOf 41 = .ok (.iadd, 1) := by decide +kernel
theorem dX12_pathOf_42 : decode cX12_pathOf 42 = .ok (.iaload, 1) := by decide +kernel
theorem dX12_pathOf_43 : decode cX12_pathOf 43 = .ok (.iload_n 2, 1) := by decide +kernel
theorem dX12_pathOf_44 : decode cX12_pathOf 44 = .ok (.if_icmp .ne 18, 3) := by decide +kernel
theorem dX12_pathOf_47 : decode cX12_pathOf 47 = .ok (.aload_n 0, 1) := by decide +kernel
theorem dX12_pathOf_48 : decode cX12_pathOf 48 = .ok (.getfield 7, 3) := by decide +kernel
theorem dX12_pathOf_51 : decode cX12_pathOf 51 = .ok (.sipush 205, 3) := by decide +kernel
theorem dX12_pathOf_54 : decode cX12_pathOf 54 = .ok (.iconst 3, 1) := by decide +kernel
theorem dX12_pathOf_55 : decode cX12_pathOf 55 = .ok (.iload_n 3, 1) := by decide +kernel
theorem dX12_pathOf_56 : decode cX12_pathOf 56 = .ok (.imul, 1) := by decide +kernel
theorem dX12_pathOf_57 : decode cX12_pathOf 57 = .ok (.iadd, 1) := by decide +kernel
theorem dX12_pathOf_58 : decode cX12_pathOf 58 = .ok (.iconst 2, 1) := by decide +kernel
theorem dX12_pathOf_59 : decode cX12_pathOf 59 = .ok (.iadd, 1) := by decide +kernel
theorem dX12_pathOf_60 : decode cX12_pathOf 60 = .ok (.iaload, 1) := by decide +kernel
theorem dX12_pathOf_61 : decode cX12_pathOf 61 = .ok (.ireturn, 1) := by decide +kernel
theorem dX12_pathOf_62 : decode cX12_pathOf 62 = .ok (.iinc 3 1, 3) := by decide +kernel
theorem dX12_pathOf_65 : decode cX12_pathOf 65 = .ok (.goto (-63), 3) := by decide +kernel
theorem dX12_pathOf_68 : decode cX12_pathOf 68 = .ok (.iconst (-1), 1) := by decide +kernel
theorem dX12_pathOf_69 : decode cX12_pathOf 69 = .ok (.ireturn, 1) := by decide +kernel
theorem dX12_canGo_0 : decode cX12_canGo 0 = .ok (.aload_n 0, 1) := by decide +kernel
theorem dX12_canGo_1 : decode cX12_canGo 1 = .ok (.getfield 7, 3) := by decide +kernel
theorem dX12_canGo_4 : decode cX12_canGo 4 = .ok (.iconst 2, 1) := by decide +kernel
theorem dX12_canGo_5 : decode cX12_canGo 5 = .ok (.iaload, 1) := by decide +kernel
theorem dX12_canGo_6 : decode cX12_canGo 6 = .ok (.iconst (-1), 1) := by decide +kernel
theorem dX12_canGo_7 : decode cX12_canGo 7 = .ok (.if_icmp .eq 22, 3) := by decide +kernel
theorem dX12_canGo_10 : decode cX12_canGo 10 = .ok (.aload_n 0, 1) := by decide +kernel
theorem dX12_canGo_11 : decode cX12_canGo 11 = .ok (.aload_n 0, 1) := by decide +kernel
theorem dX12_canGo_12 : decode cX12_canGo 12 = .ok (.getfield 7, 3) := by decide +kernel
theorem dX12_canGo_15 : decode cX12_canGo 15 = .ok (.iconst 1, 1) := by decide +kernel
theorem dX12_canGo_16 : decode cX12_canGo 16 = .ok (.iaload, 1) := by decide +kernel
theorem dX12_canGo_17 : decode cX12_canGo 17 = .ok (.iload_n 1, 1) := by decide +kernel
theorem dX12_canGo_18 : decode cX12_canGo 18 = .ok (.invokevirtual 374, 3) := by decide +kernel
theorem dX12_canGo_21 : decode cX12_canGo 21 = .ok (.iconst (-1), 1) := by decide +kernel
theorem dX12_canGo_22 : decode cX12_canGo 22 = .ok (.if_icmp .eq 7, 3) := by decide +kernel
theorem dX12_canGo_25 : decode cX12_canGo 25 = .ok (.iconst 1, 1) := by decide +kernel
theorem dX12_canGo_26 : decode cX12_canGo 26 = .ok (.goto 4, 3) := by decide +kernel
theorem dX12_canGo_29 : decode cX12_canGo 29 = .ok (.iconst 0, 1) := by decide +kernel
theorem dX12_canGo_30 : decode cX12_canGo 30 = .ok (.ireturn, 1) := by decide +kernel
theorem dX12_goesTo_0 : decode cX12_goesTo 0 = .ok (.aload_n 0, 1) := by decide +kernel
theorem dX12_goesTo_1 : decode cX12_goesTo 1 = .ok (.aload_n 0, 1) := by decide +kernel
theorem dX12_goesTo_2 : decode cX12_goesTo 2 = .ok (.getfield 7, 3) := by decide +kernel
theorem dX12_goesTo_5 : decode cX12_goesTo 5 = .ok (.iconst 1, 1) := by decide +kernel
theorem dX12_goesTo_6 : decode cX12_goesTo 6 = .ok (.iaload, 1) := by decide +kernel
theorem dX12_goesTo_7 : decode cX12_goesTo 7 = .ok (.iload_n 1, 1) := by decide +kernel
theorem dX12_goesTo_8 : decode cX12_goesTo 8 = .ok (.invokevirtual 374, 3) := by decide +kernel
theorem dX12_goesTo_11 : decode cX12_goesTo 11 = .ok (.istore_n 2, 1) := by decide +kernel
theorem dX12_goesTo_12 : decode cX12_goesTo 12 = .ok (.aload_n 0, 1) := by decide +kernel
theorem dX12_goesTo_13 : decode cX12_goesTo 13 = .ok (.getfield 7, 3) := by decide +kernel
theorem dX12_goesTo_16 : decode cX12_goesTo 16 = .ok (.iconst 4, 1) := by decide +kernel
theorem dX12_goesTo_17 : decode cX12_goesTo 17 = .ok (.dup2, 1) := by decide +kernel
theorem dX12_goesTo_18 : decode cX12_goesTo 18 = .ok (.iaload, 1) := by decide +kernel
theorem dX12_goesTo_19 : decode cX12_goesTo 19 = .ok (.iload_n 2, 1) := by decide +kernel
theorem dX12_goesTo_20 : decode cX12_goesTo 20 = .ok (.iadd, 1) := by decide +kernel
theorem dX12_goesTo_21 : decode cX12_goesTo 21 = .ok (.iastore, 1) := by decide +kernel
theorem dX12_goesTo_22 : decode cX12_goesTo 22 = .ok (.aload_n 0, 1) := by decide +kernel
theorem dX12_goesTo_23 : decode cX12_goesTo 23 = .ok (.iconst 4, 1) := by decide +kernel
theorem dX12_goesTo_24 : decode cX12_goesTo 24 = .ok (.iload_n 1, 1) := by decide +kernel
theorem dX12_goesTo_25 : decode cX12_goesTo 25 = .ok (.iload_n 2, 1) := by decide +kernel
theorem dX12_goesTo_26 : decode cX12_goesTo 26 = .ok (.invokevirtual 351, 3) := by decide +kernel
theorem dX12_goesTo_29 : decode cX12_goesTo 29 = .ok (.iconst 0, 1) := by decide +kernel
theorem dX12_goesTo_30 : decode cX12_goesTo 30 = .ok (.istore_n 3, 1) := by decide +kernel
theorem dX12_goesTo_31 : decode cX12_goesTo 31 = .ok (.iconst 0, 1) := by decide +kernel
theorem dX12_goesTo_32 : decode cX12_goesTo 32 = .ok (.istore 4, 2) := by decide +kernel
theorem dX12_goesTo_34 : decode cX12_goesTo 34 = .ok (.iload 4, 2) := by decide +kernel
theorem dX12_goesTo_36 : decode cX12_goesTo 36 = .ok (.aload_n 0, 1) := by decide +kernel
theorem dX12_goesTo_37 : decode cX12_goesTo 37 = .ok (.getfield 7, 3) := by decide +kernel
theorem dX12_goesTo_40 : decode cX12_goesTo 40 = .ok (.bipush 86, 2) := by decide +kernel
theorem dX12_goesTo_42 : decode cX12_goesTo 42 = .ok (.iaload, 1) := by decide +kernel
theorem dX12_goesTo_43 : decode cX12_goesTo 43 = .ok (.if_icmp .ge 89, 3) := by decide +kernel
theorem dX12_goesTo_46 : decode cX12_goesTo 46 = .ok (.aload_n 0, 1) := by decide +kernel
theorem dX12_goesTo_47 : decode cX12_goesTo 47 = .ok (.getfield 326, 3) := by decide +kernel
theorem dX12_goesTo_50 : decode cX12_goesTo 50 = .ok (.ifCond .eq 82, 3) := by decide +kernel
theorem dX12_goesTo_53 : decode cX12_goesTo 53 = .ok (.aload_n 0, 1) := by decide +kernel
theorem dX12_goesTo_54 : decode cX12_goesTo 54 = .ok (.iload 4, 2) := by decide +kernel
theorem dX12_goesTo_56 : decode cX12_goesTo 56 = .ok (.invokevirtual 336, 3) := by decide +kernel
theorem dX12_goesTo_59 : decode cX12_goesTo 59 = .ok (.ifCond .eq 7, 3) := by decide +kernel
theorem dX12_goesTo_62 : decode cX12_goesTo 62 = .ok (.iconst 0, 1) := by decide +kernel
theorem dX12_goesTo_63 : decode cX12_goesTo 63 = .ok (.goto 16, 3) := by decide +kernel
theorem dX12_goesTo_66 : decode cX12_goesTo 66 = .ok (.aload_n 0, 1) := by decide +kernel
theorem dX12_goesTo_67 : decode cX12_goesTo 67 = .ok (.iload 4, 2) := by decide +kernel
theorem dX12_goesTo_69 : decode cX12_goesTo 69 = .ok (.iload_n 2, 1) := by decide +kernel
theorem dX12_goesTo_70 : decode cX12_goesTo 70 = .ok (.aload_n 0, 1) := by decide +kernel
theorem dX12_goesTo_71 : decode cX12_goesTo 71 = .ok (.getfield 7, 3) := by decide +kernel
theorem dX12_goesTo_74 : decode cX12_goesTo 74 = .ok (.iconst 2, 1) := by decide +kernel
theorem dX12_goesTo_75 : decode cX12_goesTo 75 = .ok (.iaload, 1) := by decide +kernel
theorem dX12_goesTo_76 : decode cX12_goesTo 76 = .ok (.invokevirtual 377, 3) := by decide +kernel
theorem dX12_goesTo_79 : decode cX12_goesTo 79 = .ok (.istore 5, 2) := by decide +kernel
theorem dX12_goesTo_81 : decode cX12_goesTo 81 = .ok (.iload 5, 2) := by decide +kernel
theorem dX12_goesTo_83 : decode cX12_goesTo 83 = .ok (.ifCond .eq 43, 3) := by decide +kernel
theorem dX12_goesTo_86 : decode cX12_goesTo 86 = .ok (.aload_n 0, 1) := by decide +kernel
theorem dX12_goesTo_87 : decode cX12_goesTo 87 = .ok (.sipush 1000, 3) := by decide +kernel
theorem dX12_goesTo_90 : decode cX12_goesTo 90 = .ok (.invokevirtual 380, 3) := by decide +kernel
theorem dX12_goesTo_93 : decode cX12_goesTo 93 = .ok (.iload 5, 2) := by decide +kernel
theorem dX12_goesTo_95 : decode cX12_goesTo 95 = .ok (.if_icmp .lt 6, 3) := by decide +kernel
theorem dX12_goesTo_98 : decode cX12_goesTo 98 = .ok (.goto 28, 3) := by decide +kernel
theorem dX12_goesTo_101 : decode cX12_goesTo 101 = .ok (.aload_n 0, 1) := by decide +kernel
theorem dX12_goesTo_102 : decode cX12_goesTo 102 = .ok (.getfield 7, 3) := by decide +kernel
theorem dX12_goesTo_105 : decode cX12_goesTo 105 = .ok (.bipush 7, 2) := by decide +kernel
theorem dX12_goesTo_107 : decode cX12_goesTo 107 = .ok (.dup2, 1) := by decide +kernel
theorem dX12_goesTo_108 : decode cX12_goesTo 108 = .ok (.iaload, 1) := by decide +kernel
theorem dX12_goesTo_109 : decode cX12_goesTo 109 = .ok (.iconst 1, 1) := by decide +kernel
theorem dX12_goesTo_110 : decode cX12_goesTo 110 = .ok (.iload 4, 2) := by decide +kernel
theorem dX12_goesTo_112 : decode cX12_goesTo 112 = .ok (.ishl, 1) := by decide +kernel
theorem dX12_goesTo_113 : decode cX12_goesTo 113 = .ok (.ior, 1) := by decide +kernel
theorem dX12_goesTo_114 : decode cX12_goesTo 114 = .ok (.iastore, 1) := by decide +kernel
theorem dX12_goesTo_115 : decode cX12_goesTo 115 = .ok (.aload_n 0, 1) := by decide +kernel
theorem dX12_goesTo_116 : decode cX12_goesTo 116 = .ok (.iconst 5, 1) := by decide +kernel
theorem dX12_goesTo_117 : decode cX12_goesTo 117 = .ok (.iload 4, 2) := by decide +kernel
theorem dX12_goesTo_119 : decode cX12_goesTo 119 = .ok (.iconst 0, 1) := by decide +kernel
theorem dX12_goesTo_120 : decode cX12_goesTo 120 = .ok (.invokevirtual 351, 3) := by decide +kernel
theorem dX12_goesTo_123 : decode cX12_goesTo 123 = .ok (.iinc 3 1, 3) := by decide +kernel
theorem dX12_goesTo_126 : decode cX12_goesTo 126 = .ok (.iinc 4 1, 3) := by decide +kernel
theorem dX12_goesTo_129 : decode cX12_goesTo 129 = .ok (.goto (-95), 3) := by decide +kernel
theorem dX12_goesTo_132 : decode cX12_goesTo 132 = .ok (.aload_n 0, 1) := by decide +kernel
theorem dX12_goesTo_133 : decode cX12_goesTo 133 = .ok (.getfield 7, 3) := by decide +kernel
theorem dX12_goesTo_136 : decode cX12_goesTo 136 = .ok (.iconst 1, 1) := by decide +kernel
theorem dX12_goesTo_137 : decode cX12_goesTo 137 = .ok (.iload_n 1, 1) := by decide +kernel
theorem dX12_goesTo_138 : decode cX12_goesTo 138 = .ok (.iastore, 1) := by decide +kernel
theorem dX12_goesTo_139 : decode cX12_goesTo 139 = .ok (.iload_n 3, 1) := by decide +kernel
theorem dX12_goesTo_140 : decode cX12_goesTo 140 = .ok (.ireturn, 1) := by decide +kernel
theorem dX12_go_0 : decode cX12_go 0 = .ok (.iload_n 1, 1) := by decide +kernel
theorem dX12_go_1 : decode cX12_go 1 = .ok (.invokestatic 68, 3) := by decide +kernel
theorem dX12_go_4 : decode cX12_go 4 = .ok (.ifCond .eq 11, 3) := by decide +kernel
theorem dX12_go_7 : decode cX12_go 7 = .ok (.aload_n 0, 1) := by decide +kernel
theorem dX12_go_8 : decode cX12_go 8 = .ok (.iload_n 1, 1) := by decide +kernel
theorem dX12_go_9 : decode cX12_go 9 = .ok (.invokevirtual 383, 3) := by decide +kernel
theorem dX12_go_12 : decode cX12_go 12 = .ok (.ifCond .ne 5, 3) := by decide +kernel
theorem dX12_go_15 : decode cX12_go 15 = .ok (.iconst (-1), 1) := by decide +kernel
theorem dX12_go_16 : decode cX12_go 16 = .ok (.ireturn, 1) := by decide +kernel
theorem dX12_go_17 : decode cX12_go 17 = .ok (.aload_n 0, 1) := by decide +kernel
theorem dX12_go_18 : decode cX12_go 18 = .ok (.invokevirtual 355, 3) := by decide +kernel
theorem dX12_go_21 : decode cX12_go 21 = .ok (.aload_n 0, 1) := by decide +kernel
theorem dX12_go_22 : decode cX12_go 22 = .ok (.iload_n 1, 1) := by decide +kernel
theorem dX12_go_23 : decode cX12_go 23 = .ok (.invokevirtual 386, 3) := by decide +kernel
theorem dX12_go_26 : decode cX12_go 26 = .ok (.ireturn, 1) := by decide +kernel
theorem dX12_rest_0 : decode cX12_rest 0 = .ok (.aload_n 0, 1) := by decide +kernel
theorem dX12_rest_1 : decode cX12_rest 1 = .ok (.invokevirtual 355, 3) := by decide +kernel
theorem dX12_rest_4 : decode cX12_rest 4 = .ok (.aload_n 0, 1) := by decide +kernel
theorem dX12_rest_5 : decode cX12_rest 5 = .ok (.getfield 7, 3) := by decide +kernel
theorem dX12_rest_8 : decode cX12_rest 8 = .ok (.bipush 7, 2) := by decide +kernel
theorem dX12_rest_10 : decode cX12_rest 10 = .ok (.iaload, 1) := by decide +kernel
theorem dX12_rest_11 : decode cX12_rest 11 = .ok (.invokestatic 320, 3) := by decide +kernel
theorem dX12_rest_14 : decode cX12_rest 14 = .ok (.istore_n 1, 1) := by decide +kernel
theorem dX12_rest_15 : decode cX12_rest 15 = .ok (.aload_n 0, 1) := by decide +kernel
theorem dX12_rest_16 : decode cX12_rest 16 = .ok (.getfield 7, 3) := by decide +kernel
theorem dX12_rest_19 : decode cX12_rest 19 = .ok (.bipush 7, 2) := by decide +kernel
theorem dX12_rest_21 : decode cX12_rest 21 = .ok (.iconst 0, 1) := by decide +kernel
theorem dX12_rest_22 : decode cX12_rest 22 = .ok (.iastore, 1) := by decide +kernel
theorem dX12_rest_23 : decode cX12_rest 23 = .ok (.aload_n 0, 1) := by decide +kernel
theorem dX12_rest_24 : decode cX12_rest 24 = .ok (.bipush 6, 2) := by decide +kernel
theorem dX12_rest_26 : decode cX12_rest 26 = .ok (.iconst (-1), 1) := by decide +kernel
theorem dX12_rest_27 : decode cX12_rest 27 = .ok (.iconst 0, 1) := by decide +kernel
theorem dX12_rest_28 : decode cX12_rest 28 = .ok (.invokevirtual 351, 3) := by decide +kernel
theorem dX12_rest_31 : decode cX12_rest 31 = .ok (.iload_n 1, 1) := by decide +kernel
theorem dX12_rest_32 : decode cX12_rest 32 = .ok (.ireturn, 1) := by decide +kernel
theorem dX12_does_0 : decode cX12_does 0 = .ok (.aload_n 0, 1) := by decide +kernel
theorem dX12_does_1 : decode cX12_does 1 = .ok (.getfield 7, 3) := by decide +kernel
theorem dX12_does_4 : decode cX12_does 4 = .ok (.iload_n 1, 1) := by decide +kernel
theorem dX12_does_5 : decode cX12_does 5 = .ok (.iconst 2, 1) := by decide +kernel
theorem dX12_does_6 : decode cX12_does 6 = .ok (.iadd, 1) := by decide +kernel
theorem dX12_does_7 : decode cX12_does 7 = .ok (.iaload, 1) := by decide +kernel
theorem dX12_does_8 : decode cX12_does 8 = .ok (.istore_n 2, 1) := by decide +kernel
theorem dX12_does_9 : decode cX12_does 9 = .ok (.aload_n 0, 1) := by decide +kernel
theorem dX12_does_10 : decode cX12_does 10 = .ok (.getfield 7, 3) := by decide +kernel
theorem dX12_does_13 : decode cX12_does 13 = .ok (.iload_n 1, 1) := by decide +kernel
theorem dX12_does_14 : decode cX12_does 14 = .ok (.iconst 1, 1) := by decide +kernel
theorem dX12_does_15 : decode cX12_does 15 = .ok (.iadd, 1) := by decide +kernel
theorem dX12_does_16 : decode cX12_does 16 = .ok (.iaload, 1) := by decide +kernel
theorem dX12_does_17 : decode cX12_does 17 = .ok (.tableswitch 73 10 13 #[31, 45, 52, 67], 31) := by decide +kernel
theorem dX12_does_48 : decode cX12_does 48 = .ok (.aload_n 0, 1) := by decide +kernel
theorem dX12_does_49 : decode cX12_does 49 = .ok (.iload_n 2, 1) := by decide +kernel
theorem dX12_does_50 : decode cX12_does 50 = .ok (.aload_n 0, 1) := by decide +kernel
theorem dX12_does_51 : decode cX12_does 51 = .ok (.getfield 7, 3) := by decide +kernel
theorem dX12_does_54 : decode cX12_does 54 = .ok (.iload_n 1, 1) := by decide +kernel
theorem dX12_does_55 : decode cX12_does 55 = .ok (.iconst 3, 1) := by decide +kernel
theorem dX12_does_56 : decode cX12_does 56 = .ok (.iadd, 1) := by decide +kernel
theorem dX12_does_57 : decode cX12_does 57 = .ok (.iaload, 1) := by decide +kernel
theorem dX12_does_58 : decode cX12_does 58 = .ok (.invokevirtual 370, 3) := by decide +kernel
theorem dX12_does_61 : decode cX12_does 61 = .ok (.ireturn, 1) := by decide +kernel
theorem dX12_does_62 : decode cX12_does 62 = .ok (.aload_n 0, 1) := by decide +kernel
theorem dX12_does_63 : decode cX12_does 63 = .ok (.iload_n 2, 1) := by decide +kernel
theorem dX12_does_64 : decode cX12_does 64 = .ok (.invokevirtual 364, 3) := by decide +kernel
theorem dX12_does_67 : decode cX12_does 67 = .ok (.iconst 1, 1) := by decide +kernel
theorem dX12_does_68 : decode cX12_does 68 = .ok (.ireturn, 1) := by decide +kernel
theorem dX12_does_69 : decode cX12_does 69 = .ok (.aload_n 0, 1) := by decide +kernel
theorem dX12_does_70 : decode cX12_does 70 = .ok (.iload_n 2, 1) := by decide +kernel
theorem dX12_does_71 : decode cX12_does 71 = .ok (.aload_n 0, 1) := by decide +kernel
theorem dX12_does_72 : decode cX12_does 72 = .ok (.getfield 7, 3) := by decide +kernel
theorem dX12_does_75 : decode cX12_does 75 = .ok (.iload_n 1, 1) := by decide +kernel
theorem dX12_does_76 : decode cX12_does 76 = .ok (.iconst 3, 1) := by decide +kernel
theorem dX12_does_77 : decode cX12_does 77 = .ok (.iadd, 1) := by decide +kernel
theorem dX12_does_78 : decode cX12_does 78 = .ok (.iaload, 1) := by decide +kernel
theorem dX12_does_79 : decode cX12_does 79 = .ok (.invokevirtual 367, 3) := by decide +kernel
theorem dX12_does_82 : decode cX12_does 82 = .ok (.iconst 1, 1) := by decide +kernel
theorem dX12_does_83 : decode cX12_does 83 = .ok (.ireturn, 1) := by decide +kernel
theorem dX12_does_84 : decode cX12_does 84 = .ok (.aload_n 0, 1) := by decide +kernel
theorem dX12_does_85 : decode cX12_does 85 = .ok (.invokevirtual 358, 3) := by decide +kernel
theorem dX12_does_88 : decode cX12_does 88 = .ok (.iconst 1, 1) := by decide +kernel
theorem dX12_does_89 : decode cX12_does 89 = .ok (.ireturn, 1) := by decide +kernel
theorem dX12_does_90 : decode cX12_does 90 = .ok (.aload_n 0, 1) := by decide +kernel
theorem dX12_does_91 : decode cX12_does 91 = .ok (.iload_n 2, 1) := by decide +kernel
theorem dX12_does_92 : decode cX12_does 92 = .ok (.invokevirtual 383, 3) := by decide +kernel
theorem dX12_does_95 : decode cX12_does 95 = .ok (.ifCond .ne 5, 3) := by decide +kernel
theorem dX12_does_98 : decode cX12_does 98 = .ok (.iconst 0, 1) := by decide +kernel
theorem dX12_does_99 : decode cX12_does 99 = .ok (.ireturn, 1) := by decide +kernel
theorem dX12_does_100 : decode cX12_does 100 = .ok (.aload_n 0, 1) := by decide +kernel
theorem dX12_does_101 : decode cX12_does 101 = .ok (.iload_n 2, 1) := by decide +kernel
theorem dX12_does_102 : decode cX12_does 102 = .ok (.invokevirtual 386, 3) := by decide +kernel
theorem dX12_does_105 : decode cX12_does 105 = .ok (.pop, 1) := by decide +kernel
theorem dX12_does_106 : decode cX12_does 106 = .ok (.iconst 1, 1) := by decide +kernel
theorem dX12_does_107 : decode cX12_does 107 = .ok (.ireturn, 1) := by decide +kernel
theorem dX12_aDay_0 : decode cX12_aDay 0 = .ok (.iconst 0, 1) := by decide +kernel
theorem dX12_aDay_1 : decode cX12_aDay 1 = .ok (.istore_n 1, 1) := by decide +kernel
theorem dX12_aDay_2 : decode cX12_aDay 2 = .ok (.iconst 0, 1) := by decide +kernel
theorem dX12_aDay_3 : decode cX12_aDay 3 = .ok (.istore_n 2, 1) := by decide +kernel
theorem dX12_aDay_4 : decode cX12_aDay 4 = .ok (.iload_n 2, 1) := by decide +kernel
theorem dX12_aDay_5 : decode cX12_aDay 5 = .ok (.aload_n 0, 1) := by decide +kernel
theorem dX12_aDay_6 : decode cX12_aDay 6 = .ok (.getfield 7, 3) := by decide +kernel
theorem dX12_aDay_9 : decode cX12_aDay 9 = .ok (.bipush 91, 2) := by decide +kernel
theorem dX12_aDay_11 : decode cX12_aDay 11 = .ok (.iaload, 1) := by decide +kernel
theorem dX12_aDay_12 : decode cX12_aDay 12 = .ok (.if_icmp .ge 52, 3) := by decide +kernel
theorem dX12_aDay_15 : decode cX12_aDay 15 = .ok (.iload_n 1, 1) := by decide +kernel
theorem dX12_aDay_16 : decode cX12_aDay 16 = .ok (.aload_n 0, 1) := by decide +kernel
theorem dX12_aDay_17 : decode cX12_aDay 17 = .ok (.getfield 7, 3) := by decide +kernel
theorem dX12_aDay_20 : decode cX12_aDay 20 = .ok (.sipush 141, 3) := by decide +kernel
theorem dX12_aDay_23 : decode cX12_aDay 23 = .ok (.iconst 4, 1) := by decide +kernel
theorem dX12_aDay_24 : decode cX12_aDay 24 = .ok (.iload_n 2, 1) := by decide +kernel
theorem dX12_aDay_25 : decode cX12_aDay 25 = .ok (.imul, 1) := by decide +kernel
theorem dX12_aDay_26 : decode cX12_aDay 26 = .ok (.iadd, 1) := by decide +kernel
theorem dX12_aDay_27 : decode cX12_aDay 27 = .ok (.iaload, 1) := by decide +kernel
theorem dX12_aDay_28 : decode cX12_aDay 28 = .ok (.aload_n 0, 1) := by decide +kernel
theorem dX12_aDay_29 : decode cX12_aDay 29 = .ok (.getfield 7, 3) := by decide +kernel
theorem dX12_aDay_32 : decode cX12_aDay 32 = .ok (.iconst 0, 1) := by decide +kernel
theorem dX12_aDay_33 : decode cX12_aDay 33 = .ok (.iaload, 1) := by decide +kernel
theorem dX12_aDay_34 : decode cX12_aDay 34 = .ok (.if_icmp .ne 21, 3) := by decide +kernel
theorem dX12_aDay_37 : decode cX12_aDay 37 = .ok (.aload_n 0, 1) := by decide +kernel
theorem dX12_aDay_38 : decode cX12_aDay 38 = .ok (.sipush 141, 3) := by decide +kernel
theorem dX12_aDay_41 : decode cX12_aDay 41 = .ok (.iconst 4, 1) := by decide +kernel
theorem dX12_aDay_42 : decode cX12_aDay 42 = .ok (.iload_n 2, 1) := by decide +kernel
theorem dX12_aDay_43 : decode cX12_aDay 43 = .ok (.imul, 1) := by decide +kernel
theorem dX12_aDay_44 : decode cX12_aDay 44 = .ok (.iadd, 1) := by decide +kernel
theorem dX12_aDay_45 : decode cX12_aDay 45 = .ok (.invokevirtual 389, 3) := by decide +kernel
theorem dX12_aDay_48 : decode cX12_aDay 48 = .ok (.ifCond .eq 7, 3) := by decide +kernel
theorem dX12_aDay_51 : decode cX12_aDay 51 = .ok (.iconst 1, 1) := by decide +kernel
theorem dX12_aDay_52 : decode cX12_aDay 52 = .ok (.goto 4, 3) := by decide +kernel
theorem dX12_aDay_55 : decode cX12_aDay 55 = .ok (.iconst 0, 1) := by decide +kernel
theorem dX12_aDay_56 : decode cX12_aDay 56 = .ok (.iadd, 1) := by decide +kernel
theorem dX12_aDay_57 : decode cX12_aDay 57 = .ok (.istore_n 1, 1) := by decide +kernel
theorem dX12_aDay_58 : decode cX12_aDay 58 = .ok (.iinc 2 1, 3) := by decide +kernel
theorem dX12_aDay_61 : decode cX12_aDay 61 = .ok (.goto (-57), 3) := by decide +kernel
theorem dX12_aDay_64 : decode cX12_aDay 64 = .ok (.iconst 0, 1) := by decide +kernel
theorem dX12_aDay_65 : decode cX12_aDay 65 = .ok (.istore_n 2, 1) := by decide +kernel
theorem dX12_aDay_66 : decode cX12_aDay 66 = .ok (.iload_n 2, 1) := by decide +kernel
theorem dX12_aDay_67 : decode cX12_aDay 67 = .ok (.aload_n 0, 1) := by decide +kernel
theorem dX12_aDay_68 : decode cX12_aDay 68 = .ok (.getfield 7, 3) := by decide +kernel
theorem dX12_aDay_71 : decode cX12_aDay 71 = .ok (.bipush 86, 2) := by decide +kernel
theorem dX12_aDay_73 : decode cX12_aDay 73 = .ok (.iaload, 1) := by decide +kernel
theorem dX12_aDay_74 : decode cX12_aDay 74 = .ok (.if_icmp .ge 37, 3) := by decide +kernel
theorem dX12_aDay_77 : decode cX12_aDay 77 = .ok (.aload_n 0, 1) := by decide +kernel
theorem dX12_aDay_78 : decode cX12_aDay 78 = .ok (.getfield 7, 3) := by decide +kernel
theorem dX12_aDay_81 : decode cX12_aDay 81 = .ok (.bipush 8, 2) := by decide +kernel
theorem dX12_aDay_83 : decode cX12_aDay 83 = .ok (.iload_n 2, 1) := by decide +kernel
theorem dX12_aDay_84 : decode cX12_aDay 84 = .ok (.iadd, 1) := by decide +kernel
theorem dX12_aDay_85 : decode cX12_aDay 85 = .ok (.iaload, 1) := by decide +kernel
theorem dX12_aDay_86 : decode cX12_aDay 86 = .ok (.iconst (-1), 1) := by decide +kernel
theorem dX12_aDay_87 : decode cX12_aDay 87 = .ok (.if_icmp .eq 18, 3) := by decide +kernel
theorem dX12_aDay_90 : decode cX12_aDay 90 = .ok (.aload_n 0, 1) := by decide +kernel
theorem dX12_aDay_91 : decode cX12_aDay 91 = .ok (.iload_n 2, 1) := by decide +kernel
theorem dX12_aDay_92 : decode cX12_aDay 92 = .ok (.aload_n 0, 1) := by decide +kernel
theorem dX12_aDay_93 : decode cX12_aDay 93 = .ok (.getfield 7, 3) := by decide +kernel
theorem dX12_aDay_96 : decode cX12_aDay 96 = .ok (.bipush 8, 2) := by decide +kernel
theorem dX12_aDay_98 : decode cX12_aDay 98 = .ok (.iload_n 2, 1) := by decide +kernel
theorem dX12_aDay_99 : decode cX12_aDay 99 = .ok (.iadd, 1) := by decide +kernel
theorem dX12_aDay_100 : decode cX12_aDay 100 = .ok (.iaload, 1) := by decide +kernel
theorem dX12_aDay_101 : decode cX12_aDay 101 = .ok (.iconst (-1), 1) := by decide +kernel
theorem dX12_aDay_102 : decode cX12_aDay 102 = .ok (.invokevirtual 361, 3) := by decide +kernel
theorem dX12_aDay_105 : decode cX12_aDay 105 = .ok (.iinc 2 1, 3) := by decide +kernel
theorem dX12_aDay_108 : decode cX12_aDay 108 = .ok (.goto (-42), 3) := by decide +kernel
theorem dX12_aDay_111 : decode cX12_aDay 111 = .ok (.aload_n 0, 1) := by decide +kernel
theorem dX12_aDay_112 : decode cX12_aDay 112 = .ok (.getfield 7, 3) := by decide +kernel
theorem dX12_aDay_115 : decode cX12_aDay 115 = .ok (.iconst 0, 1) := by decide +kernel
theorem dX12_aDay_116 : decode cX12_aDay 116 = .ok (.dup2, 1) := by decide +kernel
theorem dX12_aDay_117 : decode cX12_aDay 117 = .ok (.iaload, 1) := by decide +kernel
theorem dX12_aDay_118 : decode cX12_aDay 118 = .ok (.iconst 1, 1) := by decide +kernel
theorem dX12_aDay_119 : decode cX12_aDay 119 = .ok (.iadd, 1) := by decide +kernel
theorem dX12_aDay_120 : decode cX12_aDay 120 = .ok (.iastore, 1) := by decide +kernel
theorem dX12_aDay_121 : decode cX12_aDay 121 = .ok (.iload_n 1, 1) := by decide +kernel
theorem dX12_aDay_122 : decode cX12_aDay 122 = .ok (.ireturn, 1) := by decide +kernel
theorem dX12_days_0 : decode cX12_days 0 = .ok (.iload_n 1, 1) := by decide +kernel
theorem dX12_days_1 : decode cX12_days 1 = .ok (.iconst 1, 1) := by decide +kernel
theorem dX12_days_2 : decode cX12_days 2 = .ok (.bipush 60, 2) := by decide +kernel
theorem dX12_days_4 : decode cX12_days 4 = .ok (.invokestatic 56, 3) := by decide +kernel
theorem dX12_days_7 : decode cX12_days 7 = .ok (.ifCond .eq 17, 3) := by decide +kernel
theorem dX12_days_10 : decode cX12_days 10 = .ok (.aload_n 0, 1) := by decide +kernel
theorem dX12_days_11 : decode cX12_days 11 = .ok (.getfield 7, 3) := by decide +kernel
theorem dX12_days_14 : decode cX12_days 14 = .ok (.iconst 0, 1) := by decide +kernel
theorem dX12_days_15 : decode cX12_days 15 = .ok (.iaload, 1) := by decide +kernel
theorem dX12_days_16 : decode cX12_days 16 = .ok (.iload_n 1, 1) := by decide +kernel
theorem dX12_days_17 : decode cX12_days 17 = .ok (.iadd, 1) := by decide +kernel
theorem dX12_days_18 : decode cX12_days 18 = .ok (.sipush 9999, 3) := by decide +kernel
theorem dX12_days_21 : decode cX12_days 21 = .ok (.if_icmp .le 5, 3) := by decide +kernel
theorem dX12_days_24 : decode cX12_days 24 = .ok (.iconst (-1), 1) := by decide +kernel
theorem dX12_days_25 : decode cX12_days 25 = .ok (.ireturn, 1) := by decide +kernel
theorem dX12_days_26 : decode cX12_days 26 = .ok (.iconst 0, 1) := by decide +kernel
theorem dX12_days_27 : decode cX12_days 27 = .ok (.istore_n 2, 1) := by decide +kernel
theorem dX12_days_28 : decode cX12_days 28 = .ok (.iconst 0, 1) := by decide +kernel
theorem dX12_days_29 : decode cX12_days 29 = .ok (.istore_n 3, 1) := by decide +kernel
theorem dX12_days_30 : decode cX12_days 30 = .ok (.iload_n 3, 1) := by decide +kernel
theorem dX12_days_31 : decode cX12_days 31 = .ok (.iload_n 1, 1) := by decide +kernel
theorem dX12_days_32 : decode cX12_days 32 = .ok (.if_icmp .ge 20, 3) := by decide +kernel
theorem dX12_days_35 : decode cX12_days 35 = .ok (.aload_n 0, 1) := by decide +kernel
theorem dX12_days_36 : decode cX12_days 36 = .ok (.invokevirtual 355, 3) := by decide +kernel
theorem dX12_days_39 : decode cX12_days 39 = .ok (.iload_n 2, 1) := by decide +kernel
theorem dX12_days_40 : decode cX12_days 40 = .ok (.aload_n 0, 1) := by decide +kernel
theorem dX12_days_41 : decode cX12_days 41 = .ok (.invokevirtual 392, 3) := by decide +kernel
theorem dX12_days_44 : decode cX12_days 44 = .ok (.iadd, 1) := by decide +kernel
theorem dX12_days_45 : decode cX12_days 45 = .ok (.istore_n 2, 1) := by decide +kernel
theorem dX12_days_46 : decode cX12_days 46 = .ok (.iinc 3 1, 3) := by decide +kernel
theorem dX12_days_49 : decode cX12_days 49 = .ok (.goto (-19), 3) := by decide +kernel
theorem dX12_days_52 : decode cX12_days 52 = .ok (.iload_n 2, 1) := by decide +kernel
theorem dX12_days_53 : decode cX12_days 53 = .ok (.ireturn, 1) := by decide +kernel
theorem dX12_of_0 : decode cX12_of 0 = .ok (.aload_n 0, 1) := by decide +kernel
theorem dX12_of_1 : decode cX12_of 1 = .ok (.iload_n 1, 1) := by decide +kernel
theorem dX12_of_2 : decode cX12_of 2 = .ok (.invokevirtual 72, 3) := by decide +kernel
theorem dX12_of_5 : decode cX12_of 5 = .ok (.ifCond .ne 6, 3) := by decide +kernel
theorem dX12_of_8 : decode cX12_of 8 = .ok (.bipush (-2), 2) := by decide +kernel
theorem dX12_of_10 : decode cX12_of 10 = .ok (.ireturn, 1) := by decide +kernel
theorem dX12_of_11 : decode cX12_of 11 = .ok (.iload_n 2, 1) := by decide +kernel
theorem dX12_of_12 : decode cX12_of 12 = .ok (.tableswitch 101 0 5 #[40, 50, 60, 74, 84, 95], 40) := by decide +kernel
theorem dX12_of_52 : decode cX12_of 52 = .ok (.aload_n 0, 1) := by decide +kernel
theorem dX12_of_53 : decode cX12_of 53 = .ok (.getfield 7, 3) := by decide +kernel
theorem dX12_of_56 : decode cX12_of 56 = .ok (.bipush 95, 2) := by decide +kernel
theorem dX12_of_58 : decode cX12_of 58 = .ok (.iload_n 1, 1) := by decide +kernel
theorem dX12_of_59 : decode cX12_of 59 = .ok (.iadd, 1) := by decide +kernel
theorem dX12_of_60 : decode cX12_of 60 = .ok (.iaload, 1) := by decide +kernel
theorem dX12_of_61 : decode cX12_of 61 = .ok (.ireturn, 1) := by decide +kernel
theorem dX12_of_62 : decode cX12_of 62 = .ok (.aload_n 0, 1) := by decide +kernel
theorem dX12_of_63 : decode cX12_of 63 = .ok (.getfield 7, 3) := by decide +kernel
theorem dX12_of_66 : decode cX12_of 66 = .ok (.bipush 107, 2) := by decide +kernel
theorem dX12_of_68 : decode cX12_of 68 = .ok (.iload_n 1, 1) := by decide +kernel
theorem dX12_of_69 : decode cX12_of 69 = .ok (.iadd, 1) := by decide +kernel
theorem dX12_of_70 : decode cX12_of 70 = .ok (.iaload, 1) := by decide +kernel
theorem dX12_of_71 : decode cX12_of 71 = .ok (.ireturn, 1) := by decide +kernel
theorem dX12_of_72 : decode cX12_of 72 = .ok (.aload_n 0, 1) := by decide +kernel
theorem dX12_of_73 : decode cX12_of 73 = .ok (.iload_n 1, 1) := by decide +kernel
theorem dX12_of_74 : decode cX12_of 74 = .ok (.invokevirtual 336, 3) := by decide +kernel
theorem dX12_of_77 : decode cX12_of 77 = .ok (.ifCond .eq 7, 3) := by decide +kernel
theorem dX12_of_80 : decode cX12_of 80 = .ok (.iconst 1, 1) := by decide +kernel
theorem dX12_of_81 : decode cX12_of 81 = .ok (.goto 4, 3) := by decide +kernel
theorem dX12_of_84 : decode cX12_of 84 = .ok (.iconst 0, 1) := by decide +kernel
theorem dX12_of_85 : decode cX12_of 85 = .ok (.ireturn, 1) := by decide +kernel
theorem dX12_of_86 : decode cX12_of 86 = .ok (.aload_n 0, 1) := by decide +kernel
theorem dX12_of_87 : decode cX12_of 87 = .ok (.getfield 7, 3) := by decide +kernel
theorem dX12_of_90 : decode cX12_of 90 = .ok (.bipush 8, 2) := by decide +kernel
theorem dX12_of_92 : decode cX12_of 92 = .ok (.iload_n 1, 1) := by decide +kernel
theorem dX12_of_93 : decode cX12_of 93 = .ok (.iadd, 1) := by decide +kernel
theorem dX12_of_94 : decode cX12_of 94 = .ok (.iaload, 1) := by decide +kernel
theorem dX12_of_95 : decode cX12_of 95 = .ok (.ireturn, 1) := by decide +kernel
theorem dX12_of_96 : decode cX12_of 96 = .ok (.aload_n 0, 1) := by decide +kernel
theorem dX12_of_97 : decode cX12_of 97 = .ok (.getfield 7, 3) := by decide +kernel
theorem dX12_of_100 : decode cX12_of 100 = .ok (.sipush 129, 3) := by decide +kernel
theorem dX12_of_103 : decode cX12_of 103 = .ok (.iload_n 1, 1) := by decide +kernel
theorem dX12_of_104 : decode cX12_of 104 = .ok (.iadd, 1) := by decide +kernel
theorem dX12_of_105 : decode cX12_of 105 = .ok (.iaload, 1) := by decide +kernel
theorem dX12_of_106 : decode cX12_of 106 = .ok (.ireturn, 1) := by decide +kernel
theorem dX12_of_107 : decode cX12_of 107 = .ok (.aload_n 0, 1) := by decide +kernel
theorem dX12_of_108 : decode cX12_of 108 = .ok (.iload_n 1, 1) := by decide +kernel
theorem dX12_of_109 : decode cX12_of 109 = .ok (.invokevirtual 333, 3) := by decide +kernel
theorem dX12_of_112 : decode cX12_of 112 = .ok (.ireturn, 1) := by decide +kernel
theorem dX12_of_113 : decode cX12_of 113 = .ok (.iload_n 2, 1) := by decide +kernel
theorem dX12_of_114 : decode cX12_of 114 = .ok (.bipush 10, 2) := by decide +kernel
theorem dX12_of_116 : decode cX12_of 116 = .ok (.bipush 9, 2) := by decide +kernel
theorem dX12_of_118 : decode cX12_of 118 = .ok (.aload_n 0, 1) := by decide +kernel
theorem dX12_of_119 : decode cX12_of 119 = .ok (.getfield 7, 3) := by decide +kernel
theorem dX12_of_122 : decode cX12_of 122 = .ok (.bipush 87, 2) := by decide +kernel
theorem dX12_of_124 : decode cX12_of 124 = .ok (.iaload, 1) := by decide +kernel
theorem dX12_of_125 : decode cX12_of 125 = .ok (.iadd, 1) := by decide +kernel
theorem dX12_of_126 : decode cX12_of 126 = .ok (.invokestatic 56, 3) := by decide +kernel
theorem dX12_of_129 : decode cX12_of 129 = .ok (.ifCond .eq 13, 3) := by decide +kernel
theorem dX12_of_132 : decode cX12_of 132 = .ok (.aload_n 0, 1) := by decide +kernel
theorem dX12_of_133 : decode cX12_of 133 = .ok (.iload_n 1, 1) := by decide +kernel
theorem dX12_of_134 : decode cX12_of 134 = .ok (.iload_n 2, 1) := by decide +kernel
theorem dX12_of_135 : decode cX12_of 135 = .ok (.bipush 10, 2) := by decide +kernel
theorem dX12_of_137 : decode cX12_of 137 = .ok (.isub, 1) := by decide +kernel
theorem dX12_of_138 : decode cX12_of 138 = .ok (.invokevirtual 314, 3) := by decide +kernel
theorem dX12_of_141 : decode cX12_of 141 = .ok (.ireturn, 1) := by decide +kernel
theorem dX12_of_142 : decode cX12_of 142 = .ok (.iload_n 2, 1) := by decide +kernel
theorem dX12_of_143 : decode cX12_of 143 = .ok (.bipush 20, 2) := by decide +kernel
theorem dX12_of_145 : decode cX12_of 145 = .ok (.bipush 19, 2) := by decide +kernel
theorem dX12_of_147 : decode cX12_of 147 = .ok (.aload_n 0, 1) := by decide +kernel
theorem dX12_of_148 : decode cX12_of 148 = .ok (.getfield 7, 3) := by decide +kernel
theorem dX12_of_151 : decode cX12_of 151 = .ok (.bipush 87, 2) := by decide +kernel
theorem dX12_of_153 : decode cX12_of 153 = .ok (.iaload, 1) := by decide +kernel
theorem dX12_of_154 : decode cX12_of 154 = .ok (.iadd, 1) := by decide +kernel
theorem dX12_of_155 : decode cX12_of 155 = .ok (.invokestatic 56, 3) := by decide +kernel
theorem dX12_of_158 : decode cX12_of 158 = .ok (.ifCond .eq 13, 3) := by decide +kernel
theorem dX12_of_161 : decode cX12_of 161 = .ok (.aload_n 0, 1) := by decide +kernel
theorem dX12_of_162 : decode cX12_of 162 = .ok (.iload_n 1, 1) := by decide +kernel
theorem dX12_of_163 : decode cX12_of 163 = .ok (.iload_n 2, 1) := by decide +kernel
theorem dX12_of_164 : decode cX12_of 164 = .ok (.bipush 20, 2) := by decide +kernel
theorem dX12_of_166 : decode cX12_of 166 = .ok (.isub, 1) := by decide +kernel
theorem dX12_of_167 : decode cX12_of 167 = .ok (.invokevirtual 330, 3) := by decide +kernel
theorem dX12_of_170 : decode cX12_of 170 = .ok (.ireturn, 1) := by decide +kernel
theorem dX12_of_171 : decode cX12_of 171 = .ok (.iload_n 2, 1) := by decide +kernel
theorem dX12_of_172 : decode cX12_of 172 = .ok (.bipush 31, 2) := by decide +kernel
theorem dX12_of_174 : decode cX12_of 174 = .ok (.bipush 54, 2) := by decide +kernel
theorem dX12_of_176 : decode cX12_of 176 = .ok (.invokestatic 56, 3) := by decide +kernel
theorem dX12_of_179 : decode cX12_of 179 = .ok (.ifCond .eq 21, 3) := by decide +kernel
theorem dX12_of_182 : decode cX12_of 182 = .ok (.aload_n 0, 1) := by decide +kernel
theorem dX12_of_183 : decode cX12_of 183 = .ok (.iload_n 1, 1) := by decide +kernel
theorem dX12_of_184 : decode cX12_of 184 = .ok (.iload_n 2, 1) := by decide +kernel
theorem dX12_of_185 : decode cX12_of 185 = .ok (.bipush 30, 2) := by decide +kernel
theorem dX12_of_187 : decode cX12_of 187 = .ok (.isub, 1) := by decide +kernel
theorem dX12_of_188 : decode cX12_of 188 = .ok (.aload_n 0, 1) := by decide +kernel
theorem dX12_of_189 : decode cX12_of 189 = .ok (.getfield 7, 3) := by decide +kernel
theorem dX12_of_192 : decode cX12_of 192 = .ok (.iconst 2, 1) := by decide +kernel
theorem dX12_of_193 : decode cX12_of 193 = .ok (.iaload, 1) := by decide +kernel
theorem dX12_of_194 : decode cX12_of 194 = .ok (.invokevirtual 377, 3) := by decide +kernel
theorem dX12_of_197 : decode cX12_of 197 = .ok (.goto 5, 3) := by decide +kernel
theorem dX12_of_200 : decode cX12_of 200 = .ok (.bipush (-2), 2) := by decide +kernel
theorem dX12_of_202 : decode cX12_of 202 = .ok (.ireturn, 1) := by decide +kernel
theorem dX12_manOf_0 : decode cX12_manOf 0 = .ok (.aload_n 0, 1) := by decide +kernel
theorem dX12_manOf_1 : decode cX12_manOf 1 = .ok (.iload_n 1, 1) := by decide +kernel
theorem dX12_manOf_2 : decode cX12_manOf 2 = .ok (.invokevirtual 75, 3) := by decide +kernel
theorem dX12_manOf_5 : decode cX12_manOf 5 = .ok (.ifCond .ne 5, 3) := by decide +kernel
theorem dX12_manOf_8 : decode cX12_manOf 8 = .ok (.iconst (-1), 1) := by decide +kernel
theorem dX12_manOf_9 : decode cX12_manOf 9 = .ok (.ireturn, 1) := by decide +kernel
theorem dX12_manOf_10 : decode cX12_manOf 10 = .ok (.iload_n 2, 1) := by decide +kernel
theorem dX12_manOf_11 : decode cX12_manOf 11 = .ok (.ifCond .ne 15, 3) := by decide +kernel
theorem dX12_manOf_14 : decode cX12_manOf 14 = .ok (.aload_n 0, 1) := by decide +kernel
theorem dX12_manOf_15 : decode cX12_manOf 15 = .ok (.getfield 7, 3) := by decide +kernel
theorem dX12_manOf_18 : decode cX12_manOf 18 = .ok (.bipush 80, 2) := by decide +kernel
theorem dX12_manOf_20 : decode cX12_manOf 20 = .ok (.iload_n 1, 1) := by decide +kernel
theorem dX12_manOf_21 : decode cX12_manOf 21 = .ok (.iadd, 1) := by decide +kernel
theorem dX12_manOf_22 : decode cX12_manOf 22 = .ok (.iaload, 1) := by decide +kernel
theorem dX12_manOf_23 : decode cX12_manOf 23 = .ok (.goto 51, 3) := by decide +kernel
theorem dX12_manOf_26 : decode cX12_manOf 26 = .ok (.iload_n 2, 1) := by decide +kernel
theorem dX12_manOf_27 : decode cX12_manOf 27 = .ok (.iconst 1, 1) := by decide +kernel
theorem dX12_manOf_28 : decode cX12_manOf 28 = .ok (.if_icmp .ne 15, 3) := by decide +kernel
theorem dX12_manOf_31 : decode cX12_manOf 31 = .ok (.aload_n 0, 1) := by decide +kernel
theorem dX12_manOf_32 : decode cX12_manOf 32 = .ok (.getfield 7, 3) := by decide +kernel
theorem dX12_manOf_35 : decode cX12_manOf 35 = .ok (.bipush 119, 2) := by decide +kernel
theorem dX12_manOf_37 : decode cX12_manOf 37 = .ok (.iload_n 1, 1) := by decide +kernel
theorem dX12_manOf_38 : decode cX12_manOf 38 = .ok (.iadd, 1) := by decide +kernel
theorem dX12_manOf_39 : decode cX12_manOf 39 = .ok (.iaload, 1) := by decide +kernel
theorem dX12_manOf_40 : decode cX12_manOf 40 = .ok (.goto 34, 3) := by decide +kernel
theorem dX12_manOf_43 : decode cX12_manOf 43 = .ok (.iload_n 2, 1) := by decide +kernel
theorem dX12_manOf_44 : decode cX12_manOf 44 = .ok (.iconst 2, 1) := by decide +kernel
theorem dX12_manOf_45 : decode cX12_manOf 45 = .ok (.if_icmp .ne 15, 3) := by decide +kernel
theorem dX12_manOf_48 : decode cX12_manOf 48 = .ok (.aload_n 0, 1) := by decide +kernel
theorem dX12_manOf_49 : decode cX12_manOf 49 = .ok (.getfield 7, 3) := by decide +kernel
theorem dX12_manOf_52 : decode cX12_manOf 52 = .ok (.bipush 124, 2) := by decide +kernel
theorem dX12_manOf_54 : decode cX12_manOf 54 = .ok (.iload_n 1, 1) := by decide +kernel
theorem dX12_manOf_55 : decode cX12_manOf 55 = .ok (.iadd, 1) := by decide +kernel
theorem dX12_manOf_56 : decode cX12_manOf 56 = .ok (.iaload, 1) := by decide +kernel
theorem dX12_manOf_57 : decode cX12_manOf 57 = .ok (.goto 17, 3) := by decide +kernel
theorem dX12_manOf_60 : decode cX12_manOf 60 = .ok (.iload_n 2, 1) := by decide +kernel
theorem dX12_manOf_61 : decode cX12_manOf 61 = .ok (.iconst 3, 1) := by decide +kernel
theorem dX12_manOf_62 : decode cX12_manOf 62 = .ok (.if_icmp .ne 11, 3) := by decide +kernel
theorem dX12_manOf_65 : decode cX12_manOf 65 = .ok (.aload_n 0, 1) := by decide +kernel
theorem dX12_manOf_66 : decode cX12_manOf 66 = .ok (.iload_n 1, 1) := by decide +kernel
theorem dX12_manOf_67 : decode cX12_manOf 67 = .ok (.invokevirtual 317, 3) := by decide +kernel
theorem dX12_manOf_70 : decode cX12_manOf 70 = .ok (.goto 4, 3) := by decide +kernel
theorem dX12_manOf_73 : decode cX12_manOf 73 = .ok (.iconst (-1), 1) := by decide +kernel
theorem dX12_manOf_74 : decode cX12_manOf 74 = .ok (.ireturn, 1) := by decide +kernel
theorem dX12_path_0 : decode cX12_path 0 = .ok (.iload_n 1, 1) := by decide +kernel
theorem dX12_path_1 : decode cX12_path 1 = .ok (.invokestatic 68, 3) := by decide +kernel
theorem dX12_path_4 : decode cX12_path 4 = .ok (.ifCond .eq 19, 3) := by decide +kernel
theorem dX12_path_7 : decode cX12_path 7 = .ok (.iload_n 2, 1) := by decide +kernel
theorem dX12_path_8 : decode cX12_path 8 = .ok (.invokestatic 68, 3) := by decide +kernel
theorem dX12_path_11 : decode cX12_path 11 = .ok (.ifCond .eq 12, 3) := by decide +kernel
theorem dX12_path_14 : decode cX12_path 14 = .ok (.aload_n 0, 1) := by decide +kernel
theorem dX12_path_15 : decode cX12_path 15 = .ok (.iload_n 1, 1) := by decide +kernel
theorem dX12_path_16 : decode cX12_path 16 = .ok (.iload_n 2, 1) := by decide +kernel
theorem dX12_path_17 : decode cX12_path 17 = .ok (.invokevirtual 374, 3) := by decide +kernel
theorem dX12_path_20 : decode cX12_path 20 = .ok (.goto 4, 3) := by decide +kernel
theorem dX12_path_23 : decode cX12_path 23 = .ok (.iconst (-1), 1) := by decide +kernel
theorem dX12_path_24 : decode cX12_path 24 = .ok (.ireturn, 1) := by decide +kernel
theorem dX12_book_0 : decode cX12_book 0 = .ok (.iload_n 1, 1) := by decide +kernel
theorem dX12_book_1 : decode cX12_book 1 = .ok (.iconst 0, 1) := by decide +kernel
theorem dX12_book_2 : decode cX12_book 2 = .ok (.aload_n 0, 1) := by decide +kernel
theorem dX12_book_3 : decode cX12_book 3 = .ok (.getfield 7, 3) := by decide +kernel
theorem dX12_book_6 : decode cX12_book 6 = .ok (.bipush 6, 2) := by decide +kernel
theorem dX12_book_8 : decode cX12_book 8 = .ok (.iaload, 1) := by decide +kernel
theorem dX12_book_9 : decode cX12_book 9 = .ok (.iconst 1, 1) := by decide +kernel
theorem dX12_book_10 : decode cX12_book 10 = .ok (.isub, 1) := by decide +kernel
theorem dX12_book_11 : decode cX12_book 11 = .ok (.invokestatic 56, 3) := by decide +kernel
theorem dX12_book_14 : decode cX12_book 14 = .ok (.ifCond .eq 29, 3) := by decide +kernel
theorem dX12_book_17 : decode cX12_book 17 = .ok (.iload_n 2, 1) := by decide +kernel
theorem dX12_book_18 : decode cX12_book 18 = .ok (.iconst 0, 1) := by decide +kernel
theorem dX12_book_19 : decode cX12_book 19 = .ok (.iconst 3, 1) := by decide +kernel
theorem dX12_book_20 : decode cX12_book 20 = .ok (.invokestatic 56, 3) := by decide +kernel
theorem dX12_book_23 : decode cX12_book 23 = .ok (.ifCond .eq 20, 3) := by decide +kernel
theorem dX12_book_26 : decode cX12_book 26 = .ok (.aload_n 0, 1) := by decide +kernel
theorem dX12_book_27 : decode cX12_book 27 = .ok (.getfield 7, 3) := by decide +kernel
theorem dX12_book_30 : decode cX12_book 30 = .ok (.sipush 305, 3) := by decide +kernel
theorem dX12_book_33 : decode cX12_book 33 = .ok (.iconst 4, 1) := by decide +kernel
theorem dX12_book_34 : decode cX12_book 34 = .ok (.iload_n 1, 1) := by decide +kernel
theorem dX12_book_35 : decode cX12_book 35 = .ok (.imul, 1) := by decide +kernel
theorem dX12_book_36 : decode cX12_book 36 = .ok (.iadd, 1) := by decide +kernel
theorem dX12_book_37 : decode cX12_book 37 = .ok (.iload_n 2, 1) := by decide +kernel
theorem dX12_book_38 : decode cX12_book 38 = .ok (.iadd, 1) := by decide +kernel
theorem dX12_book_39 : decode cX12_book 39 = .ok (.iaload, 1) := by decide +kernel
theorem dX12_book_40 : decode cX12_book 40 = .ok (.goto 5, 3) := by decide +kernel
theorem dX12_book_43 : decode cX12_book 43 = .ok (.bipush (-2), 2) := by decide +kernel
theorem dX12_book_45 : decode cX12_book 45 = .ok (.ireturn, 1) := by decide +kernel
theorem dX12_lays_0 : decode cX12_lays 0 = .ok (.iconst 0, 1) := by decide +kernel
theorem dX12_lays_1 : decode cX12_lays 1 = .ok (.istore_n 1, 1) := by decide +kernel
theorem dX12_lays_2 : decode cX12_lays 2 = .ok (.iload_n 1, 1) := by decide +kernel
theorem dX12_lays_3 : decode cX12_lays 3 = .ok (.bipush 86, 2) := by decide +kernel
theorem dX12_lays_5 : decode cX12_lays 5 = .ok (.if_icmp .ge 21, 3) := by decide +kernel
theorem dX12_lays_8 : decode cX12_lays 8 = .ok (.aload_n 0, 1) := by decide +kernel
theorem dX12_lays_9 : decode cX12_lays 9 = .ok (.getfield 19, 3) := by decide +kernel
theorem dX12_lays_12 : decode cX12_lays 12 = .ok (.iload_n 1, 1) := by decide +kernel
theorem dX12_lays_13 : decode cX12_lays 13 = .ok (.aload_n 0, 1) := by decide +kernel
theorem dX12_lays_14 : decode cX12_lays 14 = .ok (.getfield 7, 3) := by decide +kernel
theorem dX12_lays_17 : decode cX12_lays 17 = .ok (.iload_n 1, 1) := by decide +kernel
theorem dX12_lays_18 : decode cX12_lays 18 = .ok (.iaload, 1) := by decide +kernel
theorem dX12_lays_19 : decode cX12_lays 19 = .ok (.iastore, 1) := by decide +kernel
theorem dX12_lays_20 : decode cX12_lays 20 = .ok (.iinc 1 1, 3) := by decide +kernel
theorem dX12_lays_23 : decode cX12_lays 23 = .ok (.goto (-21), 3) := by decide +kernel
theorem dX12_lays_26 : decode cX12_lays 26 = .ok (.aload_n 0, 1) := by decide +kernel
theorem dX12_lays_27 : decode cX12_lays 27 = .ok (.iconst 0, 1) := by decide +kernel
theorem dX12_lays_28 : decode cX12_lays 28 = .ok (.putfield 326, 3) := by decide +kernel
theorem dX12_lays_31 : decode cX12_lays 31 = .ok (.return_, 1) := by decide +kernel
theorem dX12_putsBack_0 : decode cX12_putsBack 0 = .ok (.iconst 0, 1) := by decide +kernel
theorem dX12_putsBack_1 : decode cX12_putsBack 1 = .ok (.istore_n 1, 1) := by decide +kernel
theorem dX12_putsBack_2 : decode cX12_putsBack 2 = .ok (.iload_n 1, 1) := by decide +kernel
theorem dX12_putsBack_3 : decode cX12_putsBack 3 = .ok (.bipush 86, 2) := by decide +kernel
theorem dX12_putsBack_5 : decode cX12_putsBack 5 = .ok (.if_icmp .ge 21, 3) := by decide +kernel
theorem dX12_putsBack_8 : decode cX12_putsBack 8 = .ok (.aload_n 0, 1) := by decide +kernel
theorem dX12_putsBack_9 : decode cX12_putsBack 9 = .ok (.getfield 7, 3) := by decide +kernel
theorem dX12_putsBack_12 : decode cX12_putsBack 12 = .ok (.iload_n 1, 1) := by decide +kernel
theorem dX12_putsBack_13 : decode cX12_putsBack 13 = .ok (.aload_n 0, 1) := by decide +kernel
theorem dX12_putsBack_14 : decode cX12_putsBack 14 = .ok (.getfield 19, 3) := by decide +kernel
theorem dX12_putsBack_17 : decode cX12_putsBack 17 = .ok (.iload_n 1, 1) := by decide +kernel
theorem dX12_putsBack_18 : decode cX12_putsBack 18 = .ok (.iaload, 1) := by decide +kernel
theorem dX12_putsBack_19 : decode cX12_putsBack 19 = .ok (.iastore, 1) := by decide +kernel
theorem dX12_putsBack_20 : decode cX12_putsBack 20 = .ok (.iinc 1 1, 3) := by decide +kernel
theorem dX12_putsBack_23 : decode cX12_putsBack 23 = .ok (.goto (-21), 3) := by decide +kernel
theorem dX12_putsBack_26 : decode cX12_putsBack 26 = .ok (.return_, 1) := by decide +kernel
theorem dX12_stands_0 : decode cX12_stands 0 = .ok (.aload_n 0, 1) := by decide +kernel
theorem dX12_stands_1 : decode cX12_stands 1 = .ok (.iload_n 1, 1) := by decide +kernel
theorem dX12_stands_2 : decode cX12_stands 2 = .ok (.invokevirtual 72, 3) := by decide +kernel
theorem dX12_stands_5 : decode cX12_stands 5 = .ok (.ifCond .ne 6, 3) := by decide +kernel
theorem dX12_stands_8 : decode cX12_stands 8 = .ok (.bipush (-2), 2) := by decide +kernel
theorem dX12_stands_10 : decode cX12_stands 10 = .ok (.ireturn, 1) := by decide +kernel
theorem dX12_stands_11 : decode cX12_stands 11 = .ok (.aload_n 0, 1) := by decide +kernel
theorem dX12_stands_12 : decode cX12_stands 12 = .ok (.invokevirtual 395, 3) := by decide +kernel
theorem dX12_stands_15 : decode cX12_stands 15 = .ok (.aload_n 0, 1) := by decide +kernel
theorem dX12_stands_16 : decode cX12_stands 16 = .ok (.invokevirtual 348, 3) := by decide +kernel
theorem dX12_stands_19 : decode cX12_stands 19 = .ok (.pop, 1) := by decide +kernel
theorem dX12_stands_20 : decode cX12_stands 20 = .ok (.aload_n 0, 1) := by decide +kernel
theorem dX12_stands_21 : decode cX12_stands 21 = .ok (.getfield 7, 3) := by decide +kernel
theorem dX12_stands_24 : decode cX12_stands 24 = .ok (.bipush 8, 2) := by decide +kernel
theorem dX12_stands_26 : decode cX12_stands 26 = .ok (.iload_n 1, 1) := by decide +kernel
theorem dX12_stands_27 : decode cX12_stands 27 = .ok (.iadd, 1) := by decide +kernel
theorem dX12_stands_28 : decode cX12_stands 28 = .ok (.iaload, 1) := by decide +kernel
theorem dX12_stands_29 : decode cX12_stands 29 = .ok (.istore_n 2, 1) := by decide +kernel
theorem dX12_stands_30 : decode cX12_stands 30 = .ok (.aload_n 0, 1) := by decide +kernel
theorem dX12_stands_31 : decode cX12_stands 31 = .ok (.invokevirtual 398, 3) := by decide +kernel
theorem dX12_stands_34 : decode cX12_stands 34 = .ok (.iload_n 2, 1) := by decide +kernel
theorem dX12_stands_35 : decode cX12_stands 35 = .ok (.ireturn, 1) := by decide +kernel
theorem dX12_settles_0 : decode cX12_settles 0 = .ok (.iload_n 1, 1) := by decide +kernel
theorem dX12_settles_1 : decode cX12_settles 1 = .ok (.iconst 0, 1) := by decide +kernel
theorem dX12_settles_2 : decode cX12_settles 2 = .ok (.iconst 1, 1) := by decide +kernel
theorem dX12_settles_3 : decode cX12_settles 3 = .ok (.invokestatic 56, 3) := by decide +kernel
theorem dX12_settles_6 : decode cX12_settles 6 = .ok (.ifCond .ne 6, 3) := by decide +kernel
theorem dX12_settles_9 : decode cX12_settles 9 = .ok (.bipush (-2), 2) := by decide +kernel
theorem dX12_settles_11 : decode cX12_settles 11 = .ok (.ireturn, 1) := by decide +kernel
theorem dX12_settles_12 : decode cX12_settles 12 = .ok (.aload_n 0, 1) := by decide +kernel
theorem dX12_settles_13 : decode cX12_settles 13 = .ok (.invokevirtual 395, 3) := by decide +kernel
theorem dX12_settles_16 : decode cX12_settles 16 = .ok (.aload_n 0, 1) := by decide +kernel
theorem dX12_settles_17 : decode cX12_settles 17 = .ok (.invokevirtual 348, 3) := by decide +kernel
theorem dX12_settles_20 : decode cX12_settles 20 = .ok (.istore_n 2, 1) := by decide +kernel
theorem dX12_settles_21 : decode cX12_settles 21 = .ok (.aload_n 0, 1) := by decide +kernel
theorem dX12_settles_22 : decode cX12_settles 22 = .ok (.getfield 7, 3) := by decide +kernel
theorem dX12_settles_25 : decode cX12_settles 25 = .ok (.iconst 2, 1) := by decide +kernel
theorem dX12_settles_26 : decode cX12_settles 26 = .ok (.iaload, 1) := by decide +kernel
theorem dX12_settles_27 : decode cX12_settles 27 = .ok (.istore_n 3, 1) := by decide +kernel
theorem dX12_settles_28 : decode cX12_settles 28 = .ok (.aload_n 0, 1) := by decide +kernel
theorem dX12_settles_29 : decode cX12_settles 29 = .ok (.invokevirtual 398, 3) := by decide +kernel
theorem dX12_settles_32 : decode cX12_settles 32 = .ok (.iload_n 1, 1) := by decide +kernel
theorem dX12_settles_33 : decode cX12_settles 33 = .ok (.ifCond .ne 7, 3) := by decide +kernel
theorem dX12_settles_36 : decode cX12_settles 36 = .ok (.iload_n 2, 1) := by decide +kernel
theorem dX12_settles_37 : decode cX12_settles 37 = .ok (.goto 4, 3) := by decide +kernel
theorem dX12_settles_40 : decode cX12_settles 40 = .ok (.iload_n 3, 1) := by decide +kernel
theorem dX12_settles_41 : decode cX12_settles 41 = .ok (.ireturn, 1) := by decide +kernel
theorem dX12_goes_0 : decode cX12_goes 0 = .ok (.iload_n 1, 1) := by decide +kernel
theorem dX12_goes_1 : decode cX12_goes 1 = .ok (.iconst 1, 1) := by decide +kernel
theorem dX12_goes_2 : decode cX12_goes 2 = .ok (.bipush 60, 2) := by decide +kernel
theorem dX12_goes_4 : decode cX12_goes 4 = .ok (.invokestatic 56, 3) := by decide +kernel
theorem dX12_goes_7 : decode cX12_goes 7 = .ok (.ifCond .eq 12, 3) := by decide +kernel
theorem dX12_goes_10 : decode cX12_goes 10 = .ok (.iload_n 2, 1) := by decide +kernel
theorem dX12_goes_11 : decode cX12_goes 11 = .ok (.iconst 0, 1) := by decide +kernel
theorem dX12_goes_12 : decode cX12_goes 12 = .ok (.iconst 3, 1) := by decide +kernel
theorem dX12_goes_13 : decode cX12_goes 13 = .ok (.invokestatic 56, 3) := by decide +kernel
theorem dX12_goes_16 : decode cX12_goes 16 = .ok (.ifCond .ne 6, 3) := by decide +kernel
theorem dX12_goes_19 : decode cX12_goes 19 = .ok (.bipush (-2), 2) := by decide +kernel
theorem dX12_goes_21 : decode cX12_goes 21 = .ok (.ireturn, 1) := by decide +kernel
theorem dX12_goes_22 : decode cX12_goes 22 = .ok (.aload_n 0, 1) := by decide +kernel
theorem dX12_goes_23 : decode cX12_goes 23 = .ok (.invokevirtual 395, 3) := by decide +kernel
theorem dX12_goes_26 : decode cX12_goes 26 = .ok (.iconst 0, 1) := by decide +kernel
theorem dX12_goes_27 : decode cX12_goes 27 = .ok (.istore_n 3, 1) := by decide +kernel
theorem dX12_goes_28 : decode cX12_goes 28 = .ok (.iload_n 3, 1) := by decide +kernel
theorem dX12_goes_29 : decode cX12_goes 29 = .ok (.iload_n 1, 1) := by decide +kernel
theorem dX12_goes_30 : decode cX12_goes 30 = .ok (.if_icmp .ge 14, 3) := by decide +kernel
theorem dX12_goes_33 : decode cX12_goes 33 = .ok (.aload_n 0, 1) := by decide +kernel
theorem dX12_goes_34 : decode cX12_goes 34 = .ok (.invokevirtual 392, 3) := by decide +kernel
theorem dX12_goes_37 : decode cX12_goes 37 = .ok (.pop, 1) := by decide +kernel
theorem dX12_goes_38 : decode cX12_goes 38 = .ok (.iinc 3 1, 3) := by decide +kernel
theorem dX12_goes_41 : decode cX12_goes 41 = .ok (.goto (-13), 3) := by decide +kernel
theorem dX12_goes_44 : decode cX12_goes 44 = .ok (.iload_n 2, 1) := by decide +kernel
theorem dX12_goes_45 : decode cX12_goes 45 = .ok (.ifCond .ne 12, 3) := by decide +kernel
theorem dX12_goes_48 : decode cX12_goes 48 = .ok (.aload_n 0, 1) := by decide +kernel
theorem dX12_goes_49 : decode cX12_goes 49 = .ok (.getfield 7, 3) := by decide +kernel
theorem dX12_goes_52 : decode cX12_goes 52 = .ok (.iconst 2, 1) := by decide +kernel
theorem dX12_goes_53 : decode cX12_goes 53 = .ok (.iaload, 1) := by decide +kernel
theorem dX12_goes_54 : decode cX12_goes 54 = .ok (.goto 37, 3) := by decide +kernel
theorem dX12_goes_57 : decode cX12_goes 57 = .ok (.iload_n 2, 1) := by decide +kernel
theorem dX12_goes_58 : decode cX12_goes 58 = .ok (.iconst 1, 1) := by decide +kernel
theorem dX12_goes_59 : decode cX12_goes 59 = .ok (.if_icmp .ne 12, 3) := by decide +kernel
theorem dX12_goes_62 : decode cX12_goes 62 = .ok (.aload_n 0, 1) := by decide +kernel
theorem dX12_goes_63 : decode cX12_goes 63 = .ok (.getfield 7, 3) := by decide +kernel
theorem dX12_goes_66 : decode cX12_goes 66 = .ok (.iconst 1, 1) := by decide +kernel
theorem dX12_goes_67 : decode cX12_goes 67 = .ok (.iaload, 1) := by decide +kernel
theorem dX12_goes_68 : decode cX12_goes 68 = .ok (.goto 23, 3) := by decide +kernel
theorem dX12_goes_71 : decode cX12_goes 71 = .ok (.iload_n 2, 1) := by decide +kernel
theorem dX12_goes_72 : decode cX12_goes 72 = .ok (.iconst 2, 1) := by decide +kernel
theorem dX12_goes_73 : decode cX12_goes 73 = .ok (.if_icmp .ne 12, 3) := by decide +kernel
theorem dX12_goes_76 : decode cX12_goes 76 = .ok (.aload_n 0, 1) := by decide +kernel
theorem dX12_goes_77 : decode cX12_goes 77 = .ok (.getfield 7, 3) := by decide +kernel
theorem dX12_goes_80 : decode cX12_goes 80 = .ok (.iconst 4, 1) := by decide +kernel
theorem dX12_goes_81 : decode cX12_goes 81 = .ok (.iaload, 1) := by decide +kernel
theorem dX12_goes_82 : decode cX12_goes 82 = .ok (.goto 9, 3) := by decide +kernel
theorem dX12_goes_85 : decode cX12_goes 85 = .ok (.aload_n 0, 1) := by decide +kernel
theorem dX12_goes_86 : decode cX12_goes 86 = .ok (.getfield 7, 3) := by decide +kernel
theorem dX12_goes_89 : decode cX12_goes 89 = .ok (.iconst 3, 1) := by decide +kernel
theorem dX12_goes_90 : decode cX12_goes 90 = .ok (.iaload, 1) := by decide +kernel
theorem dX12_goes_91 : decode cX12_goes 91 = .ok (.istore_n 3, 1) := by decide +kernel
theorem dX12_goes_92 : decode cX12_goes 92 = .ok (.aload_n 0, 1) := by decide +kernel
theorem dX12_goes_93 : decode cX12_goes 93 = .ok (.invokevirtual 398, 3) := by decide +kernel
theorem dX12_goes_96 : decode cX12_goes 96 = .ok (.iload_n 3, 1) := by decide +kernel
theorem dX12_goes_97 : decode cX12_goes 97 = .ok (.ireturn, 1) := by decide +kernel
theorem dX12_winsBy_0 : decode cX12_winsBy 0 = .ok (.aload_n 0, 1) := by decide +kernel
theorem dX12_winsBy_1 : decode cX12_winsBy 1 = .ok (.invokevirtual 395, 3) := by decide +kernel
theorem dX12_winsBy_4 : decode cX12_winsBy 4 = .ok (.iconst 0, 1) := by decide +kernel
theorem dX12_winsBy_5 : decode cX12_winsBy 5 = .ok (.istore_n 3, 1) := by decide +kernel
theorem dX12_winsBy_6 : decode cX12_winsBy 6 = .ok (.iload_n 3, 1) := by decide +kernel
theorem dX12_winsBy_7 : decode cX12_winsBy 7 = .ok (.aload_n 0, 1) := by decide +kernel
theorem dX12_winsBy_8 : decode cX12_winsBy 8 = .ok (.getfield 7, 3) := by decide +kernel
theorem dX12_winsBy_11 : decode cX12_winsBy 11 = .ok (.bipush 86, 2) := by decide +kernel
theorem dX12_winsBy_13 : decode cX12_winsBy 13 = .ok (.iaload, 1) := by decide +kernel
theorem dX12_winsBy_14 : decode cX12_winsBy 14 = .ok (.if_icmp .ge 26, 3) := by decide +kernel
theorem dX12_winsBy_17 : decode cX12_winsBy 17 = .ok (.iload_n 2, 1) := by decide +kernel
theorem dX12_winsBy_18 : decode cX12_winsBy 18 = .ok (.iload_n 3, 1) := by decide +kernel
theorem dX12_winsBy_19 : decode cX12_winsBy 19 = .ok (.ishr, 1) := by decide +kernel
theorem dX12_winsBy_20 : decode cX12_winsBy 20 = .ok (.iconst 1, 1) := by decide +kernel
theorem dX12_winsBy_21 : decode cX12_winsBy 21 = .ok (.iand, 1) := by decide +kernel
theorem dX12_winsBy_22 : decode cX12_winsBy 22 = .ok (.iconst 1, 1) := by decide +kernel
theorem dX12_winsBy_23 : decode cX12_winsBy 23 = .ok (.if_icmp .ne 11, 3) := by decide +kernel
theorem dX12_winsBy_26 : decode cX12_winsBy 26 = .ok (.aload_n 0, 1) := by decide +kernel
theorem dX12_winsBy_27 : decode cX12_winsBy 27 = .ok (.iload_n 3, 1) := by decide +kernel
theorem dX12_winsBy_28 : decode cX12_winsBy 28 = .ok (.iload_n 1, 1) := by decide +kernel
theorem dX12_winsBy_29 : decode cX12_winsBy 29 = .ok (.bipush 15, 2) := by decide +kernel
theorem dX12_winsBy_31 : decode cX12_winsBy 31 = .ok (.invokevirtual 361, 3) := by decide +kernel
theorem dX12_winsBy_34 : decode cX12_winsBy 34 = .ok (.iinc 3 1, 3) := by decide +kernel
theorem dX12_winsBy_37 : decode cX12_winsBy 37 = .ok (.goto (-31), 3) := by decide +kernel
theorem dX12_winsBy_40 : decode cX12_winsBy 40 = .ok (.aload_n 0, 1) := by decide +kernel
theorem dX12_winsBy_41 : decode cX12_winsBy 41 = .ok (.invokevirtual 348, 3) := by decide +kernel
theorem dX12_winsBy_44 : decode cX12_winsBy 44 = .ok (.pop, 1) := by decide +kernel
theorem dX12_winsBy_45 : decode cX12_winsBy 45 = .ok (.aload_n 0, 1) := by decide +kernel
theorem dX12_winsBy_46 : decode cX12_winsBy 46 = .ok (.getfield 7, 3) := by decide +kernel
theorem dX12_winsBy_49 : decode cX12_winsBy 49 = .ok (.iconst 2, 1) := by decide +kernel
theorem dX12_winsBy_50 : decode cX12_winsBy 50 = .ok (.iaload, 1) := by decide +kernel
theorem dX12_winsBy_51 : decode cX12_winsBy 51 = .ok (.iload_n 1, 1) := by decide +kernel
theorem dX12_winsBy_52 : decode cX12_winsBy 52 = .ok (.if_icmp .ne 7, 3) := by decide +kernel
theorem dX12_winsBy_55 : decode cX12_winsBy 55 = .ok (.iconst 1, 1) := by decide +kernel
theorem dX12_winsBy_56 : decode cX12_winsBy 56 = .ok (.goto 4, 3) := by decide +kernel
theorem dX12_winsBy_59 : decode cX12_winsBy 59 = .ok (.iconst 0, 1) := by decide +kernel
theorem dX12_winsBy_60 : decode cX12_winsBy 60 = .ok (.istore_n 3, 1) := by decide +kernel
theorem dX12_winsBy_61 : decode cX12_winsBy 61 = .ok (.aload_n 0, 1) := by decide +kernel
theorem dX12_winsBy_62 : decode cX12_winsBy 62 = .ok (.invokevirtual 398, 3) := by decide +kernel
theorem dX12_winsBy_65 : decode cX12_winsBy 65 = .ok (.iload_n 3, 1) := by decide +kernel
theorem dX12_winsBy_66 : decode cX12_winsBy 66 = .ok (.ireturn, 1) := by decide +kernel
theorem dX12_wins_0 : decode cX12_wins 0 = .ok (.aload_n 0, 1) := by decide +kernel
theorem dX12_wins_1 : decode cX12_wins 1 = .ok (.iload_n 1, 1) := by decide +kernel
theorem dX12_wins_2 : decode cX12_wins 2 = .ok (.invokevirtual 75, 3) := by decide +kernel
theorem dX12_wins_5 : decode cX12_wins 5 = .ok (.ifCond .eq 12, 3) := by decide +kernel
theorem dX12_wins_8 : decode cX12_wins 8 = .ok (.iload_n 2, 1) := by decide +kernel
theorem dX12_wins_9 : decode cX12_wins 9 = .ok (.iconst 0, 1) := by decide +kernel
theorem dX12_wins_10 : decode cX12_wins 10 = .ok (.iconst 1, 1) := by decide +kernel
theorem dX12_wins_11 : decode cX12_wins 11 = .ok (.invokestatic 56, 3) := by decide +kernel
theorem dX12_wins_14 : decode cX12_wins 14 = .ok (.ifCond .ne 5, 3) := by decide +kernel
theorem dX12_wins_17 : decode cX12_wins 17 = .ok (.iconst (-1), 1) := by decide +kernel
theorem dX12_wins_18 : decode cX12_wins 18 = .ok (.ireturn, 1) := by decide +kernel
theorem dX12_wins_19 : decode cX12_wins 19 = .ok (.iconst (-1), 1) := by decide +kernel
theorem dX12_wins_20 : decode cX12_wins 20 = .ok (.istore_n 3, 1) := by decide +kernel
theorem dX12_wins_21 : decode cX12_wins 21 = .ok (.iconst 0, 1) := by decide +kernel
theorem dX12_wins_22 : decode cX12_wins 22 = .ok (.istore 4, 2) := by decide +kernel
theorem dX12_wins_24 : decode cX12_wins 24 = .ok (.iload 4, 2) := by decide +kernel
theorem dX12_wins_26 : decode cX12_wins 26 = .ok (.iconst 1, 1) := by decide +kernel
theorem dX12_wins_27 : decode cX12_wins 27 = .ok (.aload_n 0, 1) := by decide +kernel
theorem dX12_wins_28 : decode cX12_wins 28 = .ok (.getfield 7, 3) := by decide +kernel
theorem dX12_wins_31 : decode cX12_wins 31 = .ok (.bipush 86, 2) := by decide +kernel
theorem dX12_wins_33 : decode cX12_wins 33 = .ok (.iaload, 1) := by decide +kernel
theorem dX12_wins_34 : decode cX12_wins 34 = .ok (.ishl, 1) := by decide +kernel
theorem dX12_wins_35 : decode cX12_wins 35 = .ok (.if_icmp .ge 39, 3) := by decide +kernel
theorem dX12_wins_38 : decode cX12_wins 38 = .ok (.iload_n 3, 1) := by decide +kernel
theorem dX12_wins_39 : decode cX12_wins 39 = .ok (.iconst (-1), 1) := by decide +kernel
theorem dX12_wins_40 : decode cX12_wins 40 = .ok (.if_icmp .eq 15, 3) := by decide +kernel
theorem dX12_wins_43 : decode cX12_wins 43 = .ok (.iload 4, 2) := by decide +kernel
theorem dX12_wins_45 : decode cX12_wins 45 = .ok (.invokestatic 320, 3) := by decide +kernel
theorem dX12_wins_48 : decode cX12_wins 48 = .ok (.iload_n 3, 1) := by decide +kernel
theorem dX12_wins_49 : decode cX12_wins 49 = .ok (.invokestatic 320, 3) := by decide +kernel
theorem dX12_wins_52 : decode cX12_wins 52 = .ok (.if_icmp .ge 16, 3) := by decide +kernel
theorem dX12_wins_55 : decode cX12_wins 55 = .ok (.aload_n 0, 1) := by decide +kernel
theorem dX12_wins_56 : decode cX12_wins 56 = .ok (.iload_n 1, 1) := by decide +kernel
theorem dX12_wins_57 : decode cX12_wins 57 = .ok (.iload 4, 2) := by decide +kernel
theorem dX12_wins_59 : decode cX12_wins 59 = .ok (.invokevirtual 401, 3) := by decide +kernel
theorem dX12_wins_62 : decode cX12_wins 62 = .ok (.ifCond .eq 6, 3) := by decide +kernel
theorem dX12_wins_65 : decode cX12_wins 65 = .ok (.iload 4, 2) := by decide +kernel
theorem dX12_wins_67 : decode cX12_wins 67 = .ok (.istore_n 3, 1) := by decide +kernel
theorem dX12_wins_68 : decode cX12_wins 68 = .ok (.iinc 4 1, 3) := by decide +kernel
theorem dX12_wins_71 : decode cX12_wins 71 = .ok (.goto (-47), 3) := by decide +kernel
theorem dX12_wins_74 : decode cX12_wins 74 = .ok (.iload_n 3, 1) := by decide +kernel
theorem dX12_wins_75 : decode cX12_wins 75 = .ok (.iconst (-1), 1) := by decide +kernel
theorem dX12_wins_76 : decode cX12_wins 76 = .ok (.if_icmp .eq 8, 3) := by decide +kernel
theorem dX12_wins_79 : decode cX12_wins 79 = .ok (.iload_n 2, 1) := by decide +kernel
theorem dX12_wins_80 : decode cX12_wins 80 = .ok (.iconst 1, 1) := by decide +kernel
theorem dX12_wins_81 : decode cX12_wins 81 = .ok (.if_icmp .ne 7, 3) := by decide +kernel
theorem dX12_wins_84 : decode cX12_wins 84 = .ok (.iload_n 3, 1) := by decide +kernel
theorem dX12_wins_85 : decode cX12_wins 85 = .ok (.goto 7, 3) := by decide +kernel
theorem dX12_wins_88 : decode cX12_wins 88 = .ok (.iload_n 3, 1) := by decide +kernel
theorem dX12_wins_89 : decode cX12_wins 89 = .ok (.invokestatic 320, 3) := by decide +kernel
theorem dX12_wins_92 : decode cX12_wins 92 = .ok (.ireturn, 1) := by decide +kernel
theorem dX12_turnsBy_0 : decode cX12_turnsBy 0 = .ok (.aload_n 0, 1) := by decide +kernel
theorem dX12_turnsBy_1 : decode cX12_turnsBy 1 = .ok (.iload_n 1, 1) := by decide +kernel
theorem dX12_turnsBy_2 : decode cX12_turnsBy 2 = .ok (.invokevirtual 72, 3) := by decide +kernel
theorem dX12_turnsBy_5 : decode cX12_turnsBy 5 = .ok (.ifCond .ne 5, 3) := by decide +kernel
theorem dX12_turnsBy_8 : decode cX12_turnsBy 8 = .ok (.iconst (-1), 1) := by decide +kernel
theorem dX12_turnsBy_9 : decode cX12_turnsBy 9 = .ok (.ireturn, 1) := by decide +kernel
theorem dX12_turnsBy_10 : decode cX12_turnsBy 10 = .ok (.aload_n 0, 1) := by decide +kernel
theorem dX12_turnsBy_11 : decode cX12_turnsBy 11 = .ok (.invokevirtual 395, 3) := by decide +kernel
theorem dX12_turnsBy_14 : decode cX12_turnsBy 14 = .ok (.aload_n 0, 1) := by decide +kernel
theorem dX12_turnsBy_15 : decode cX12_turnsBy 15 = .ok (.invokevirtual 348, 3) := by decide +kernel
theorem dX12_turnsBy_18 : decode cX12_turnsBy 18 = .ok (.pop, 1) := by decide +kernel
theorem dX12_turnsBy_19 : decode cX12_turnsBy 19 = .ok (.aload_n 0, 1) := by decide +kernel
theorem dX12_turnsBy_20 : decode cX12_turnsBy 20 = .ok (.getfield 7, 3) := by decide +kernel
theorem dX12_turnsBy_23 : decode cX12_turnsBy 23 = .ok (.iconst 2, 1) := by decide +kernel
theorem dX12_turnsBy_24 : decode cX12_turnsBy 24 = .ok (.iaload, 1) := by decide +kernel
theorem dX12_turnsBy_25 : decode cX12_turnsBy 25 = .ok (.istore_n 2, 1) := by decide +kernel
theorem dX12_turnsBy_26 : decode cX12_turnsBy 26 = .ok (.aload_n 0, 1) := by decide +kernel
theorem dX12_turnsBy_27 : decode cX12_turnsBy 27 = .ok (.getfield 7, 3) := by decide +kernel
theorem dX12_turnsBy_30 : decode cX12_turnsBy 30 = .ok (.bipush 7, 2) := by decide +kernel
theorem dX12_turnsBy_32 : decode cX12_turnsBy 32 = .ok (.dup2, 1) := by decide +kernel
theorem dX12_turnsBy_33 : decode cX12_turnsBy 33 = .ok (.iaload, 1) := by decide +kernel
theorem dX12_turnsBy_34 : decode cX12_turnsBy 34 = .ok (.iconst 1, 1) := by decide +kernel
theorem dX12_turnsBy_35 : decode cX12_turnsBy 35 = .ok (.iload_n 1, 1) := by decide +kernel
theorem dX12_turnsBy_36 : decode cX12_turnsBy 36 = .ok (.ishl, 1) := by decide +kernel
theorem dX12_turnsBy_37 : decode cX12_turnsBy 37 = .ok (.ior, 1) := by decide +kernel
theorem dX12_turnsBy_38 : decode cX12_turnsBy 38 = .ok (.iastore, 1) := by decide +kernel
theorem dX12_turnsBy_39 : decode cX12_turnsBy 39 = .ok (.aload_n 0, 1) := by decide +kernel
theorem dX12_turnsBy_40 : decode cX12_turnsBy 40 = .ok (.invokevirtual 348, 3) := by decide +kernel
theorem dX12_turnsBy_43 : decode cX12_turnsBy 43 = .ok (.pop, 1) := by decide +kernel
theorem dX12_turnsBy_44 : decode cX12_turnsBy 44 = .ok (.aload_n 0, 1) := by decide +kernel
theorem dX12_turnsBy_45 : decode cX12_turnsBy 45 = .ok (.getfield 7, 3) := by decide +kernel
theorem dX12_turnsBy_48 : decode cX12_turnsBy 48 = .ok (.iconst 2, 1) := by decide +kernel
theorem dX12_turnsBy_49 : decode cX12_turnsBy 49 = .ok (.iaload, 1) := by decide +kernel
theorem dX12_turnsBy_50 : decode cX12_turnsBy 50 = .ok (.istore_n 3, 1) := by decide +kernel
theorem dX12_turnsBy_51 : decode cX12_turnsBy 51 = .ok (.aload_n 0, 1) := by decide +kernel
theorem dX12_turnsBy_52 : decode cX12_turnsBy 52 = .ok (.invokevirtual 398, 3) := by decide +kernel
theorem dX12_turnsBy_55 : decode cX12_turnsBy 55 = .ok (.iload_n 2, 1) := by decide +kernel
theorem dX12_turnsBy_56 : decode cX12_turnsBy 56 = .ok (.iload_n 3, 1) := by decide +kernel
theorem dX12_turnsBy_57 : decode cX12_turnsBy 57 = .ok (.if_icmp .eq 7, 3) := by decide +kernel
theorem dX12_turnsBy_60 : decode cX12_turnsBy 60 = .ok (.iconst 1, 1) := by decide +kernel
theorem dX12_turnsBy_61 : decode cX12_turnsBy 61 = .ok (.goto 4, 3) := by decide +kernel
theorem dX12_turnsBy_64 : decode cX12_turnsBy 64 = .ok (.iconst 0, 1) := by decide +kernel
theorem dX12_turnsBy_65 : decode cX12_turnsBy 65 = .ok (.ireturn, 1) := by decide +kernel
theorem dX12_greatestRisk_0 : decode cX12_greatestRisk 0 = .ok (.iconst 0, 1) := by decide +kernel
theorem dX12_greatestRisk_1 : decode cX12_greatestRisk 1 = .ok (.istore_n 2, 1) := by decide +kernel
theorem dX12_greatestRisk_2 : decode cX12_greatestRisk 2 = .ok (.iconst 0, 1) := by decide +kernel
theorem dX12_greatestRisk_3 : decode cX12_greatestRisk 3 = .ok (.istore_n 3, 1) := by decide +kernel
theorem dX12_greatestRisk_4 : decode cX12_greatestRisk 4 = .ok (.iload_n 3, 1) := by decide +kernel
theorem dX12_greatestRisk_5 : decode cX12_greatestRisk 5 = .ok (.aload_n 0, 1) := by decide +kernel
theorem dX12_greatestRisk_6 : decode cX12_greatestRisk 6 = .ok (.getfield 7, 3) := by decide +kernel
theorem dX12_greatestRisk_9 : decode cX12_greatestRisk 9 = .ok (.bipush 86, 2) := by decide +kernel
theorem dX12_greatestRisk_11 : decode cX12_greatestRisk 11 = .ok (.iaload, 1) := by decide +kernel
theorem dX12_greatestRisk_12 : decode cX12_greatestRisk 12 = .ok (.if_icmp .ge 38, 3) := by decide +kernel
theorem dX12_greatestRisk_15 : decode cX12_greatestRisk 15 = .ok (.aload_n 0, 1) := by decide +kernel
theorem dX12_greatestRisk_16 : decode cX12_greatestRisk 16 = .ok (.iload_n 3, 1) := by decide +kernel
theorem dX12_greatestRisk_17 : decode cX12_greatestRisk 17 = .ok (.invokevirtual 336, 3) := by decide +kernel
theorem dX12_greatestRisk_20 : decode cX12_greatestRisk 20 = .ok (.ifCond .eq 7, 3) := by decide +kernel
theorem dX12_greatestRisk_23 : decode cX12_greatestRisk 23 = .ok (.iload_n 2, 1) := by decide +kernel
theorem dX12_greatestRisk_24 : decode cX12_greatestRisk 24 = .ok (.goto 19, 3) := by decide +kernel
theorem dX12_greatestRisk_27 : decode cX12_greatestRisk 27 = .ok (.iload_n 2, 1) := by decide +kernel
theorem dX12_greatestRisk_28 : decode cX12_greatestRisk 28 = .ok (.aload_n 0, 1) := by decide +kernel
theorem dX12_greatestRisk_29 : decode cX12_greatestRisk 29 = .ok (.iload_n 3, 1) := by decide +kernel
theorem dX12_greatestRisk_30 : decode cX12_greatestRisk 30 = .ok (.iload_n 1, 1) := by decide +kernel
theorem dX12_greatestRisk_31 : decode cX12_greatestRisk 31 = .ok (.aload_n 0, 1) := by decide +kernel
theorem dX12_greatestRisk_32 : decode cX12_greatestRisk 32 = .ok (.getfield 7, 3) := by decide +kernel
theorem dX12_greatestRisk_35 : decode cX12_greatestRisk 35 = .ok (.iconst 2, 1) := by decide +kernel
theorem dX12_greatestRisk_36 : decode cX12_greatestRisk 36 = .ok (.iaload, 1) := by decide +kernel
theorem dX12_greatestRisk_37 : decode cX12_greatestRisk 37 = .ok (.invokevirtual 377, 3) := by decide +kernel
theorem dX12_greatestRisk_40 : decode cX12_greatestRisk 40 = .ok (.invokestatic 307, 3) := by decide +kernel
theorem dX12_greatestRisk_43 : decode cX12_greatestRisk 43 = .ok (.istore_n 2, 1) := by decide +kernel
theorem dX12_greatestRisk_44 : decode cX12_greatestRisk 44 = .ok (.iinc 3 1, 3) := by decide +kernel
theorem dX12_greatestRisk_47 : decode cX12_greatestRisk 47 = .ok (.goto (-43), 3) := by decide +kernel
theorem dX12_greatestRisk_50 : decode cX12_greatestRisk 50 = .ok (.iload_n 2, 1) := by decide +kernel
theorem dX12_greatestRisk_51 : decode cX12_greatestRisk 51 = .ok (.ireturn, 1) := by decide +kernel
theorem dX12_priceOf_0 : decode cX12_priceOf 0 = .ok (.aload_n 0, 1) := by decide +kernel
theorem dX12_priceOf_1 : decode cX12_priceOf 1 = .ok (.iload_n 1, 1) := by decide +kernel
theorem dX12_priceOf_2 : decode cX12_priceOf 2 = .ok (.iload_n 2, 1) := by decide +kernel
theorem dX12_priceOf_3 : decode cX12_priceOf 3 = .ok (.invokevirtual 374, 3) := by decide +kernel
theorem dX12_priceOf_6 : decode cX12_priceOf 6 = .ok (.istore 4, 2) := by decide +kernel
theorem dX12_priceOf_8 : decode cX12_priceOf 8 = .ok (.iload 4, 2) := by decide +kernel
theorem dX12_priceOf_10 : decode cX12_priceOf 10 = .ok (.iconst (-1), 1) := by decide +kernel
theorem dX12_priceOf_11 : decode cX12_priceOf 11 = .ok (.if_icmp .eq 7, 3) := by decide +kernel
theorem dX12_priceOf_14 : decode cX12_priceOf 14 = .ok (.iload_n 3, 1) := by decide +kernel
theorem dX12_priceOf_15 : decode cX12_priceOf 15 = .ok (.ifCond .ne 8, 3) := by decide +kernel
theorem dX12_priceOf_18 : decode cX12_priceOf 18 = .ok (.iload 4, 2) := by decide +kernel
theorem dX12_priceOf_20 : decode cX12_priceOf 20 = .ok (.goto 9, 3) := by decide +kernel
theorem dX12_priceOf_23 : decode cX12_priceOf 23 = .ok (.aload_n 0, 1) := by decide +kernel
theorem dX12_priceOf_24 : decode cX12_priceOf 24 = .ok (.iload 4, 2) := by decide +kernel
theorem dX12_priceOf_26 : decode cX12_priceOf 26 = .ok (.invokevirtual 404, 3) := by decide +kernel
theorem dX12_priceOf_29 : decode cX12_priceOf 29 = .ok (.ireturn, 1) := by decide +kernel
theorem dX12_laysWays_0 : decode cX12_laysWays 0 = .ok (.iconst 0, 1) := by decide +kernel
theorem dX12_laysWays_1 : decode cX12_laysWays 1 = .ok (.istore_n 3, 1) := by decide +kernel
theorem dX12_laysWays_2 : decode cX12_laysWays 2 = .ok (.iload_n 3, 1) := by decide +kernel
theorem dX12_laysWays_3 : decode cX12_laysWays 3 = .ok (.bipush 10, 2) := by decide +kernel
theorem dX12_laysWays_5 : decode cX12_laysWays 5 = .ok (.if_icmp .ge 27, 3) := by decide +kernel
theorem dX12_laysWays_8 : decode cX12_laysWays 8 = .ok (.aload_n 0, 1) := by decide +kernel
theorem dX12_laysWays_9 : decode cX12_laysWays 9 = .ok (.getfield 44, 3) := by decide +kernel
theorem dX12_laysWays_12 : decode cX12_laysWays 12 = .ok (.iload_n 3, 1) := by decide +kernel
theorem dX12_laysWays_13 : decode cX12_laysWays 13 = .ok (.iload_n 3, 1) := by decide +kernel
theorem dX12_laysWays_14 : decode cX12_laysWays 14 = .ok (.iload_n 1, 1) := by decide +kernel
theorem dX12_laysWays_15 : decode cX12_laysWays 15 = .ok (.if_icmp .ne 7, 3) := by decide +kernel
theorem dX12_laysWays_18 : decode cX12_laysWays 18 = .ok (.iconst 0, 1) := by decide +kernel
theorem dX12_laysWays_19 : decode cX12_laysWays 19 = .ok (.goto 6, 3) := by decide +kernel
theorem dX12_laysWays_22 : decode cX12_laysWays 22 = .ok (.ldc_w 407, 3) := by decide +kernel
theorem dX12_laysWays_25 : decode cX12_laysWays 25 = .ok (.iastore, 1) := by decide +kernel
theorem dX12_laysWays_26 : decode cX12_laysWays 26 = .ok (.iinc 3 1, 3) := by decide +kernel
theorem dX12_laysWays_29 : decode cX12_laysWays 29 = .ok (.goto (-27), 3) := by decide +kernel
theorem dX12_laysWays_32 : decode cX12_laysWays 32 = .ok (.iconst 0, 1) := by decide +kernel
theorem dX12_laysWays_33 : decode cX12_laysWays 33 = .ok (.istore_n 3, 1) := by decide +kernel
theorem dX12_laysWays_34 : decode cX12_laysWays 34 = .ok (.iload_n 3, 1) := by decide +kernel
theorem dX12_laysWays_35 : decode cX12_laysWays 35 = .ok (.bipush 10, 2) := by decide +kernel
theorem dX12_laysWays_37 : decode cX12_laysWays 37 = .ok (.if_icmp .ge 102, 3) := by decide +kernel
theorem dX12_laysWays_40 : decode cX12_laysWays 40 = .ok (.iconst 0, 1) := by decide +kernel
theorem dX12_laysWays_41 : decode cX12_laysWays 41 = .ok (.istore 4, 2) := by decide +kernel
theorem dX12_laysWays_43 : decode cX12_laysWays 43 = .ok (.iload 4, 2) := by decide +kernel
theorem dX12_laysWays_45 : decode cX12_laysWays 45 = .ok (.bipush 10, 2) := by decide +kernel
theorem dX12_laysWays_47 : decode cX12_laysWays 47 = .ok (.if_icmp .ge 86, 3) := by decide +kernel
theorem dX12_laysWays_50 : decode cX12_laysWays 50 = .ok (.iconst 0, 1) := by decide +kernel
theorem dX12_laysWays_51 : decode cX12_laysWays 51 = .ok (.istore 5, 2) := by decide +kernel
theorem dX12_laysWays_53 : decode cX12_laysWays 53 = .ok (.iload 5, 2) := by decide +kernel
theorem dX12_laysWays_55 : decode cX12_laysWays 55 = .ok (.bipush 10, 2) := by decide +kernel
theorem dX12_laysWays_57 : decode cX12_laysWays 57 = .ok (.if_icmp .ge 70, 3) := by decide +kernel
theorem dX12_laysWays_60 : decode cX12_laysWays 60 = .ok (.aload_n 0, 1) := by decide +kernel
theorem dX12_laysWays_61 : decode cX12_laysWays 61 = .ok (.getfield 44, 3) := by decide +kernel
theorem dX12_laysWays_64 : decode cX12_laysWays 64 = .ok (.iload 5, 2) := by decide +kernel
theorem dX12_laysWays_66 : decode cX12_laysWays 66 = .ok (.iaload, 1) := by decide +kernel
theorem dX12_laysWays_67 : decode cX12_laysWays 67 = .ok (.ldc_w 407, 3) := by decide +kernel
theorem dX12_laysWays_70 : decode cX12_laysWays 70 = .ok (.if_icmp .ne 7, 3) := by decide +kernel
theorem dX12_laysWays_73 : decode cX12_laysWays 73 = .ok (.iconst (-1), 1) := by decide +kernel
theorem dX12_laysWays_74 : decode cX12_laysWays 74 = .ok (.goto 12, 3) := by decide +kernel
theorem dX12_laysWays_77 : decode cX12_laysWays 77 = .ok (.aload_n 0, 1) := by decide +kernel
theorem dX12_laysWays_78 : decode cX12_laysWays 78 = .ok (.iload 4, 2) := by decide +kernel
theorem dX12_laysWays_80 : decode cX12_laysWays 80 = .ok (.iload 5, 2) := by decide +kernel
theorem dX12_laysWays_82 : decode cX12_laysWays 82 = .ok (.iload_n 2, 1) := by decide +kernel
theorem dX12_laysWays_83 : decode cX12_laysWays 83 = .ok (.invokevirtual 408, 3) := by decide +kernel
theorem dX12_laysWays_86 : decode cX12_laysWays 86 = .ok (.istore 6, 2) := by decide +kernel
theorem dX12_laysWays_88 : decode cX12_laysWays 88 = .ok (.iload 6, 2) := by decide +kernel
theorem dX12_laysWays_90 : decode cX12_laysWays 90 = .ok (.iconst (-1), 1) := by decide +kernel
theorem dX12_laysWays_91 : decode cX12_laysWays 91 = .ok (.if_icmp .eq 30, 3) := by decide +kernel
theorem dX12_laysWays_94 : decode cX12_laysWays 94 = .ok (.aload_n 0, 1) := by decide +kernel
theorem dX12_laysWays_95 : decode cX12_laysWays 95 = .ok (.getfield 44, 3) := by decide +kernel
theorem dX12_laysWays_98 : decode cX12_laysWays 98 = .ok (.iload 4, 2) := by decide +kernel
theorem dX12_laysWays_100 : decode cX12_laysWays 100 = .ok (.aload_n 0, 1) := by decide +kernel
theorem dX12_laysWays_101 : decode cX12_laysWays 101 = .ok (.getfield 44, 3) := by decide +kernel
theorem dX12_laysWays_104 : decode cX12_laysWays 104 = .ok (.iload 4, 2) := by decide +kernel
theorem dX12_laysWays_106 : decode cX12_laysWays 106 = .ok (.iaload, 1) := by decide +kernel
theorem dX12_laysWays_107 : decode cX12_laysWays 107 = .ok (.iload 6, 2) := by decide +kernel
theorem dX12_laysWays_109 : decode cX12_laysWays 109 = .ok (.aload_n 0, 1) := by decide +kernel
theorem dX12_laysWays_110 : decode cX12_laysWays 110 = .ok (.getfield 44, 3) := by decide +kernel
theorem dX12_laysWays_113 : decode cX12_laysWays 113 = .ok (.iload 5, 2) := by decide +kernel
theorem dX12_laysWays_115 : decode cX12_laysWays 115 = .ok (.iaload, 1) := by decide +kernel
theorem dX12_laysWays_116 : decode cX12_laysWays 116 = .ok (.iadd, 1) := by decide +kernel
theorem dX12_laysWays_117 : decode cX12_laysWays 117 = .ok (.invokestatic 303, 3) := by decide +kernel
theorem dX12_laysWays_120 : decode cX12_laysWays 120 = .ok (.iastore, 1) := by decide +kernel
theorem dX12_laysWays_121 : decode cX12_laysWays 121 = .ok (.iinc 5 1, 3) := by decide +kernel
theorem dX12_laysWays_124 : decode cX12_laysWays 124 = .ok (.goto (-71), 3) := by decide +kernel
theorem dX12_laysWays_127 : decode cX12_laysWays 127 = .ok (.iinc 4 1, 3) := by decide +kernel
theorem dX12_laysWays_130 : decode cX12_laysWays 130 = .ok (.goto (-87), 3) := by decide +kernel
theorem dX12_laysWays_133 : decode cX12_laysWays 133 = .ok (.iinc 3 1, 3) := by decide +kernel
theorem dX12_laysWays_136 : decode cX12_laysWays 136 = .ok (.goto (-102), 3) := by decide +kernel
theorem dX12_laysWays_139 : decode cX12_laysWays 139 = .ok (.return_, 1) := by decide +kernel
theorem dX12_way_0 : decode cX12_way 0 = .ok (.iload_n 1, 1) := by decide +kernel
theorem dX12_way_1 : decode cX12_way 1 = .ok (.invokestatic 68, 3) := by decide +kernel
theorem dX12_way_4 : decode cX12_way 4 = .ok (.ifCond .eq 19, 3) := by decide +kernel
theorem dX12_way_7 : decode cX12_way 7 = .ok (.iload_n 2, 1) := by decide +kernel
theorem dX12_way_8 : decode cX12_way 8 = .ok (.invokestatic 68, 3) := by decide +kernel
theorem dX12_way_11 : decode cX12_way 11 = .ok (.ifCond .eq 12, 3) := by decide +kernel
theorem dX12_way_14 : decode cX12_way 14 = .ok (.iload_n 3, 1) := by decide +kernel
theorem dX12_way_15 : decode cX12_way 15 = .ok (.iconst 0, 1) := by decide +kernel
theorem dX12_way_16 : decode cX12_way 16 = .ok (.iconst 2, 1) := by decide +kernel
theorem dX12_way_17 : decode cX12_way 17 = .ok (.invokestatic 56, 3) := by decide +kernel
theorem dX12_way_20 : decode cX12_way 20 = .ok (.ifCond .ne 5, 3) := by decide +kernel
theorem dX12_way_23 : decode cX12_way 23 = .ok (.iconst (-1), 1) := by decide +kernel
theorem dX12_way_24 : decode cX12_way 24 = .ok (.ireturn, 1) := by decide +kernel
theorem dX12_way_25 : decode cX12_way 25 = .ok (.aload_n 0, 1) := by decide +kernel
theorem dX12_way_26 : decode cX12_way 26 = .ok (.iload_n 2, 1) := by decide +kernel
theorem dX12_way_27 : decode cX12_way 27 = .ok (.iload_n 3, 1) := by decide +kernel
theorem dX12_way_28 : decode cX12_way 28 = .ok (.iconst 2, 1) := by decide +kernel
theorem dX12_way_29 : decode cX12_way 29 = .ok (.if_icmp .ne 7, 3) := by decide +kernel
theorem dX12_way_32 : decode cX12_way 32 = .ok (.iconst 1, 1) := by decide +kernel
theorem dX12_way_33 : decode cX12_way 33 = .ok (.goto 4, 3) := by decide +kernel
theorem dX12_way_36 : decode cX12_way 36 = .ok (.iconst 0, 1) := by decide +kernel
theorem dX12_way_37 : decode cX12_way 37 = .ok (.invokevirtual 412, 3) := by decide +kernel
theorem dX12_way_40 : decode cX12_way 40 = .ok (.aload_n 0, 1) := by decide +kernel
theorem dX12_way_41 : decode cX12_way 41 = .ok (.getfield 44, 3) := by decide +kernel
theorem dX12_way_44 : decode cX12_way 44 = .ok (.iload_n 1, 1) := by decide +kernel
theorem dX12_way_45 : decode cX12_way 45 = .ok (.iaload, 1) := by decide +kernel
theorem dX12_way_46 : decode cX12_way 46 = .ok (.ldc_w 407, 3) := by decide +kernel
theorem dX12_way_49 : decode cX12_way 49 = .ok (.if_icmp .ne 5, 3) := by decide +kernel
theorem dX12_way_52 : decode cX12_way 52 = .ok (.iconst (-1), 1) := by decide +kernel
theorem dX12_way_53 : decode cX12_way 53 = .ok (.ireturn, 1) := by decide +kernel
theorem dX12_way_54 : decode cX12_way 54 = .ok (.iload_n 3, 1) := by decide +kernel
theorem dX12_way_55 : decode cX12_way 55 = .ok (.iconst 1, 1) := by decide +kernel
theorem dX12_way_56 : decode cX12_way 56 = .ok (.if_icmp .eq 10, 3) := by decide +kernel
theorem dX12_way_59 : decode cX12_way 59 = .ok (.aload_n 0, 1) := by decide +kernel
theorem dX12_way_60 : decode cX12_way 60 = .ok (.getfield 44, 3) := by decide +kernel
theorem dX12_way_63 : decode cX12_way 63 = .ok (.iload_n 1, 1) := by decide +kernel
theorem dX12_way_64 : decode cX12_way 64 = .ok (.iaload, 1) := by decide +kernel
theorem dX12_way_65 : decode cX12_way 65 = .ok (.ireturn, 1) := by decide +kernel
theorem dX12_way_66 : decode cX12_way 66 = .ok (.iconst 0, 1) := by decide +kernel
theorem dX12_way_67 : decode cX12_way 67 = .ok (.istore 4, 2) := by decide +kernel
theorem dX12_way_69 : decode cX12_way 69 = .ok (.iload 4, 2) := by decide +kernel
theorem dX12_way_71 : decode cX12_way 71 = .ok (.bipush 10, 2) := by decide +kernel
theorem dX12_way_73 : decode cX12_way 73 = .ok (.if_icmp .ge 52, 3) := by decide +kernel
theorem dX12_way_76 : decode cX12_way 76 = .ok (.iload_n 1, 1) := by decide +kernel
theorem dX12_way_77 : decode cX12_way 77 = .ok (.iload_n 2, 1) := by decide +kernel
theorem dX12_way_78 : decode cX12_way 78 = .ok (.if_icmp .eq 47, 3) := by decide +kernel
theorem dX12_way_81 : decode cX12_way 81 = .ok (.aload_n 0, 1) := by decide +kernel
theorem dX12_way_82 : decode cX12_way 82 = .ok (.iload_n 1, 1) := by decide +kernel
theorem dX12_way_83 : decode cX12_way 83 = .ok (.iload 4, 2) := by decide +kernel
theorem dX12_way_85 : decode cX12_way 85 = .ok (.invokevirtual 374, 3) := by decide +kernel
theorem dX12_way_88 : decode cX12_way 88 = .ok (.iconst (-1), 1) := by decide +kernel
theorem dX12_way_89 : decode cX12_way 89 = .ok (.if_icmp .eq 30, 3) := by decide +kernel
theorem dX12_way_92 : decode cX12_way 92 = .ok (.aload_n 0, 1) := by decide +kernel
theorem dX12_way_93 : decode cX12_way 93 = .ok (.iload_n 1, 1) := by decide +kernel
theorem dX12_way_94 : decode cX12_way 94 = .ok (.iload 4, 2) := by decide +kernel
theorem dX12_way_96 : decode cX12_way 96 = .ok (.invokevirtual 374, 3) := by decide +kernel
theorem dX12_way_99 : decode cX12_way 99 = .ok (.aload_n 0, 1) := by decide +kernel
theorem dX12_way_100 : decode cX12_way 100 = .ok (.getfield 44, 3) := by decide +kernel
theorem dX12_way_103 : decode cX12_way 103 = .ok (.iload 4, 2) := by decide +kernel
theorem dX12_way_105 : decode cX12_way 105 = .ok (.iaload, 1) := by decide +kernel
theorem dX12_way_106 : decode cX12_way 106 = .ok (.iadd, 1) := by decide +kernel
theorem dX12_way_107 : decode cX12_way 107 = .ok (.aload_n 0, 1) := by decide +kernel
theorem dX12_way_108 : decode cX12_way 108 = .ok (.getfield 44, 3) := by decide +kernel
theorem dX12_way_111 : decode cX12_way 111 = .ok (.iload_n 1, 1) := by decide +kernel
theorem dX12_way_112 : decode cX12_way 112 = .ok (.iaload, 1) := by decide +kernel
theorem dX12_way_113 : decode cX12_way 113 = .ok (.if_icmp .ne 6, 3) := by decide +kernel
theorem dX12_way_116 : decode cX12_way 116 = .ok (.iload 4, 2) := by decide +kernel
theorem dX12_way_118 : decode cX12_way 118 = .ok (.ireturn, 1) := by decide +kernel
theorem dX12_way_119 : decode cX12_way 119 = .ok (.iinc 4 1, 3) := by decide +kernel
theorem dX12_way_122 : decode cX12_way 122 = .ok (.goto (-53), 3) := by decide +kernel
theorem dX12_way_125 : decode cX12_way 125 = .ok (.iconst (-1), 1) := by decide +kernel
theorem dX12_way_126 : decode cX12_way 126 = .ok (.ireturn, 1) := by decide +kernel
theorem dX12_weightOf_0 : decode cX12_weightOf 0 = .ok (.iconst 0, 1) := by decide +kernel
theorem dX12_weightOf_1 : decode cX12_weightOf 1 = .ok (.istore_n 2, 1) := by decide +kernel
theorem dX12_weightOf_2 : decode cX12_weightOf 2 = .ok (.iconst 0, 1) := by decide +kernel
theorem dX12_weightOf_3 : decode cX12_weightOf 3 = .ok (.istore_n 3, 1) := by decide +kernel
theorem dX12_weightOf_4 : decode cX12_weightOf 4 = .ok (.iload_n 3, 1) := by decide +kernel
theorem dX12_weightOf_5 : decode cX12_weightOf 5 = .ok (.aload_n 0, 1) := by decide +kernel
theorem dX12_weightOf_6 : decode cX12_weightOf 6 = .ok (.getfield 7, 3) := by decide +kernel
theorem dX12_weightOf_9 : decode cX12_weightOf 9 = .ok (.bipush 93, 2) := by decide +kernel
theorem dX12_weightOf_11 : decode cX12_weightOf 11 = .ok (.iaload, 1) := by decide +kernel
theorem dX12_weightOf_12 : decode cX12_weightOf 12 = .ok (.if_icmp .ge 37, 3) := by decide +kernel
theorem dX12_weightOf_15 : decode cX12_weightOf 15 = .ok (.iload_n 2, 1) := by decide +kernel
theorem dX12_weightOf_16 : decode cX12_weightOf 16 = .ok (.iload_n 1, 1) := by decide +kernel
theorem dX12_weightOf_17 : decode cX12_weightOf 17 = .ok (.iload_n 3, 1) := by decide +kernel
theorem dX12_weightOf_18 : decode cX12_weightOf 18 = .ok (.ishr, 1) := by decide +kernel
theorem dX12_weightOf_19 : decode cX12_weightOf 19 = .ok (.iconst 1, 1) := by decide +kernel
theorem dX12_weightOf_20 : decode cX12_weightOf 20 = .ok (.iand, 1) := by decide +kernel
theorem dX12_weightOf_21 : decode cX12_weightOf 21 = .ok (.iconst 1, 1) := by decide +kernel
theorem dX12_weightOf_22 : decode cX12_weightOf 22 = .ok (.if_icmp .ne 18, 3) := by decide +kernel
theorem dX12_weightOf_25 : decode cX12_weightOf 25 = .ok (.aload_n 0, 1) := by decide +kernel
theorem dX12_weightOf_26 : decode cX12_weightOf 26 = .ok (.getfield 7, 3) := by decide +kernel
theorem dX12_weightOf_29 : decode cX12_weightOf 29 = .ok (.sipush 253, 3) := by decide +kernel
theorem dX12_weightOf_32 : decode cX12_weightOf 32 = .ok (.iconst 2, 1) := by decide +kernel
theorem dX12_weightOf_33 : decode cX12_weightOf 33 = .ok (.iload_n 3, 1) := by decide +kernel
theorem dX12_weightOf_34 : decode cX12_weightOf 34 = .ok (.imul, 1) := by decide +kernel
theorem dX12_weightOf_35 : decode cX12_weightOf 35 = .ok (.iadd, 1) := by decide +kernel
theorem dX12_weightOf_36 : decode cX12_weightOf 36 = .ok (.iaload, 1) := by decide +kernel
theorem dX12_weightOf_37 : decode cX12_weightOf 37 = .ok (.goto 4, 3) := by decide +kernel
theorem dX12_weightOf_40 : decode cX12_weightOf 40 = .ok (.iconst 0, 1) := by decide +kernel
theorem dX12_weightOf_41 : decode cX12_weightOf 41 = .ok (.iadd, 1) := by decide +kernel
theorem dX12_weightOf_42 : decode cX12_weightOf 42 = .ok (.istore_n 2, 1) := by decide +kernel
theorem dX12_weightOf_43 : decode cX12_weightOf 43 = .ok (.iinc 3 1, 3) := by decide +kernel
theorem dX12_weightOf_46 : decode cX12_weightOf 46 = .ok (.goto (-42), 3) := by decide +kernel
theorem dX12_weightOf_49 : decode cX12_weightOf 49 = .ok (.iload_n 2, 1) := by decide +kernel
theorem dX12_weightOf_50 : decode cX12_weightOf 50 = .ok (.ireturn, 1) := by decide +kernel
theorem dX12_worthOf_0 : decode cX12_worthOf 0 = .ok (.iconst 0, 1) := by decide +kernel
theorem dX12_worthOf_1 : decode cX12_worthOf 1 = .ok (.istore_n 2, 1) := by decide +kernel
theorem dX12_worthOf_2 : decode cX12_worthOf 2 = .ok (.iconst 0, 1) := by decide +kernel
theorem dX12_worthOf_3 : decode cX12_worthOf 3 = .ok (.istore_n 3, 1) := by decide +kernel
theorem dX12_worthOf_4 : decode cX12_worthOf 4 = .ok (.iload_n 3, 1) := by decide +kernel
theorem dX12_worthOf_5 : decode cX12_worthOf 5 = .ok (.aload_n 0, 1) := by decide +kernel
theorem dX12_worthOf_6 : decode cX12_worthOf 6 = .ok (.getfield 7, 3) := by decide +kernel
theorem dX12_worthOf_9 : decode cX12_worthOf 9 = .ok (.bipush 93, 2) := by decide +kernel
theorem dX12_worthOf_11 : decode cX12_worthOf 11 = .ok (.iaload, 1) := by decide +kernel
theorem dX12_worthOf_12 : decode cX12_worthOf 12 = .ok (.if_icmp .ge 39, 3) := by decide +kernel
theorem dX12_worthOf_15 : decode cX12_worthOf 15 = .ok (.iload_n 2, 1) := by decide +kernel
theorem dX12_worthOf_16 : decode cX12_worthOf 16 = .ok (.iload_n 1, 1) := by decide +kernel
theorem dX12_worthOf_17 : decode cX12_worthOf 17 = .ok (.iload_n 3, 1) := by decide +kernel
theorem dX12_worthOf_18 : decode cX12_worthOf 18 = .ok (.ishr, 1) := by decide +kernel
theorem dX12_worthOf_19 : decode cX12_worthOf 19 = .ok (.iconst 1, 1) := by decide +kernel
theorem dX12_worthOf_20 : decode cX12_worthOf 20 = .ok (.iand, 1) := by decide +kernel
theorem dX12_worthOf_21 : decode cX12_worthOf 21 = .ok (.iconst 1, 1) := by decide +kernel
theorem dX12_worthOf_22 : decode cX12_worthOf 22 = .ok (.if_icmp .ne 20, 3) := by decide +kernel
theorem dX12_worthOf_25 : decode cX12_worthOf 25 = .ok (.aload_n 0, 1) := by decide +kernel
theorem dX12_worthOf_26 : decode cX12_worthOf 26 = .ok (.getfield 7, 3) := by decide +kernel
theorem dX12_worthOf_29 : decode cX12_worthOf 29 = .ok (.sipush 253, 3) := by decide +kernel
theorem dX12_worthOf_32 : decode cX12_worthOf 32 = .ok (.iconst 2, 1) := by decide +kernel
theorem dX12_worthOf_33 : decode cX12_worthOf 33 = .ok (.iload_n 3, 1) := by decide +kernel
theorem dX12_worthOf_34 : decode cX12_worthOf 34 = .ok (.imul, 1) := by decide +kernel
theorem dX12_worthOf_35 : decode cX12_worthOf 35 = .ok (.iadd, 1) := by decide +kernel
theorem dX12_worthOf_36 : decode cX12_worthOf 36 = .ok (.iconst 1, 1) := by decide +kernel
theorem dX12_worthOf_37 : decode cX12_worthOf 37 = .ok (.iadd, 1) := by decide +kernel
theorem dX12_worthOf_38 : decode cX12_worthOf 38 = .ok (.iaload, 1) := by decide +kernel
theorem dX12_worthOf_39 : decode cX12_worthOf 39 = .ok (.goto 4, 3) := by decide +kernel
theorem dX12_worthOf_42 : decode cX12_worthOf 42 = .ok (.iconst 0, 1) := by decide +kernel
theorem dX12_worthOf_43 : decode cX12_worthOf 43 = .ok (.iadd, 1) := by decide +kernel
theorem dX12_worthOf_44 : decode cX12_worthOf 44 = .ok (.istore_n 2, 1) := by decide +kernel
theorem dX12_worthOf_45 : decode cX12_worthOf 45 = .ok (.iinc 3 1, 3) := by decide +kernel
theorem dX12_worthOf_48 : decode cX12_worthOf 48 = .ok (.goto (-44), 3) := by decide +kernel
theorem dX12_worthOf_51 : decode cX12_worthOf 51 = .ok (.iload_n 2, 1) := by decide +kernel
theorem dX12_worthOf_52 : decode cX12_worthOf 52 = .ok (.ireturn, 1) := by decide +kernel
theorem dX12_laysLoads_0 : decode cX12_laysLoads 0 = .ok (.iconst 1, 1) := by decide +kernel
theorem dX12_laysLoads_1 : decode cX12_laysLoads 1 = .ok (.aload_n 0, 1) := by decide +kernel
theorem dX12_laysLoads_2 : decode cX12_laysLoads 2 = .ok (.getfield 7, 3) := by decide +kernel
theorem dX12_laysLoads_5 : decode cX12_laysLoads 5 = .ok (.bipush 93, 2) := by decide +kernel
theorem dX12_laysLoads_7 : decode cX12_laysLoads 7 = .ok (.iaload, 1) := by decide +kernel
theorem dX12_laysLoads_8 : decode cX12_laysLoads 8 = .ok (.ishl, 1) := by decide +kernel
theorem dX12_laysLoads_9 : decode cX12_laysLoads 9 = .ok (.istore_n 1, 1) := by decide +kernel
theorem dX12_laysLoads_10 : decode cX12_laysLoads 10 = .ok (.iconst 0, 1) := by decide +kernel
theorem dX12_laysLoads_11 : decode cX12_laysLoads 11 = .ok (.istore_n 2, 1) := by decide +kernel
theorem dX12_laysLoads_12 : decode cX12_laysLoads 12 = .ok (.iload_n 2, 1) := by decide +kernel
theorem dX12_laysLoads_13 : decode cX12_laysLoads 13 = .ok (.iload_n 1, 1) := by decide +kernel
theorem dX12_laysLoads_14 : decode cX12_laysLoads 14 = .ok (.if_icmp .ge 24, 3) := by decide +kernel
theorem dX12_laysLoads_17 : decode cX12_laysLoads 17 = .ok (.aload_n 0, 1) := by decide +kernel
theorem dX12_laysLoads_18 : decode cX12_laysLoads 18 = .ok (.getfield 47, 3) := by decide +kernel
theorem dX12_laysLoads_21 : decode cX12_laysLoads 21 = .ok (.iload_n 2, 1) := by decide +kernel
theorem dX12_laysLoads_22 : decode cX12_laysLoads 22 = .ok (.iload_n 2, 1) := by decide +kernel
theorem dX12_laysLoads_23 : decode cX12_laysLoads 23 = .ok (.ifCond .ne 7, 3) := by decide +kernel
theorem dX12_laysLoads_26 : decode cX12_laysLoads 26 = .ok (.iconst 1, 1) := by decide +kernel
theorem dX12_laysLoads_27 : decode cX12_laysLoads 27 = .ok (.goto 4, 3) := by decide +kernel
theorem dX12_laysLoads_30 : decode cX12_laysLoads 30 = .ok (.iconst 0, 1) := by decide +kernel
theorem dX12_laysLoads_31 : decode cX12_laysLoads 31 = .ok (.iastore, 1) := by decide +kernel
theorem dX12_laysLoads_32 : decode cX12_laysLoads 32 = .ok (.iinc 2 1, 3) := by decide +kernel
theorem dX12_laysLoads_35 : decode cX12_laysLoads 35 = .ok (.goto (-23), 3) := by decide +kernel
theorem dX12_laysLoads_38 : decode cX12_laysLoads 38 = .ok (.iconst 0, 1) := by decide +kernel
theorem dX12_laysLoads_39 : decode cX12_laysLoads 39 = .ok (.istore_n 2, 1) := by decide +kernel
theorem dX12_laysLoads_40 : decode cX12_laysLoads 40 = .ok (.iload_n 2, 1) := by decide +kernel
theorem dX12_laysLoads_41 : decode cX12_laysLoads 41 = .ok (.aload_n 0, 1) := by decide +kernel
theorem dX12_laysLoads_42 : decode cX12_laysLoads 42 = .ok (.getfield 7, 3) := by decide +kernel
theorem dX12_laysLoads_45 : decode cX12_laysLoads 45 = .ok (.bipush 86, 2) := by decide +kernel
theorem dX12_laysLoads_47 : decode cX12_laysLoads 47 = .ok (.iaload, 1) := by decide +kernel
theorem dX12_laysLoads_48 : decode cX12_laysLoads 48 = .ok (.if_icmp .ge 106, 3) := by decide +kernel
theorem dX12_laysLoads_51 : decode cX12_laysLoads 51 = .ok (.aload_n 0, 1) := by decide +kernel
theorem dX12_laysLoads_52 : decode cX12_laysLoads 52 = .ok (.iload_n 2, 1) := by decide +kernel
theorem dX12_laysLoads_53 : decode cX12_laysLoads 53 = .ok (.invokevirtual 336, 3) := by decide +kernel
theorem dX12_laysLoads_56 : decode cX12_laysLoads 56 = .ok (.ifCond .eq 6, 3) := by decide +kernel
theorem dX12_laysLoads_59 : decode cX12_laysLoads 59 = .ok (.goto 89, 3) := by decide +kernel
theorem dX12_laysLoads_62 : decode cX12_laysLoads 62 = .ok (.iload_n 1, 1) := by decide +kernel
theorem dX12_laysLoads_63 : decode cX12_laysLoads 63 = .ok (.iconst 1, 1) := by decide +kernel
theorem dX12_laysLoads_64 : decode cX12_laysLoads 64 = .ok (.isub, 1) := by decide +kernel
theorem dX12_laysLoads_65 : decode cX12_laysLoads 65 = .ok (.istore_n 3, 1) := by decide +kernel
theorem dX12_laysLoads_66 : decode cX12_laysLoads 66 = .ok (.iload_n 3, 1) := by decide +kernel
theorem dX12_laysLoads_67 : decode cX12_laysLoads 67 = .ok (.ifCond .le 81, 3) := by decide +kernel
theorem dX12_laysLoads_70 : decode cX12_laysLoads 70 = .ok (.iload_n 3, 1) := by decide +kernel
theorem dX12_laysLoads_71 : decode cX12_laysLoads 71 = .ok (.istore 4, 2) := by decide +kernel
theorem dX12_laysLoads_73 : decode cX12_laysLoads 73 = .ok (.iload 4, 2) := by decide +kernel
theorem dX12_laysLoads_75 : decode cX12_laysLoads 75 = .ok (.ifCond .le 67, 3) := by decide +kernel
theorem dX12_laysLoads_78 : decode cX12_laysLoads 78 = .ok (.aload_n 0, 1) := by decide +kernel
theorem dX12_laysLoads_79 : decode cX12_laysLoads 79 = .ok (.getfield 47, 3) := by decide +kernel
theorem dX12_laysLoads_82 : decode cX12_laysLoads 82 = .ok (.iload_n 3, 1) := by decide +kernel
theorem dX12_laysLoads_83 : decode cX12_laysLoads 83 = .ok (.iaload, 1) := by decide +kernel
theorem dX12_laysLoads_84 : decode cX12_laysLoads 84 = .ok (.ifCond .ne 58, 3) := by decide +kernel
theorem dX12_laysLoads_87 : decode cX12_laysLoads 87 = .ok (.aload_n 0, 1) := by decide +kernel
theorem dX12_laysLoads_88 : decode cX12_laysLoads 88 = .ok (.getfield 47, 3) := by decide +kernel
theorem dX12_laysLoads_91 : decode cX12_laysLoads 91 = .ok (.iload_n 3, 1) := by decide +kernel
theorem dX12_laysLoads_92 : decode cX12_laysLoads 92 = .ok (.aload_n 0, 1) := by decide +kernel
theorem dX12_laysLoads_93 : decode cX12_laysLoads 93 = .ok (.getfield 47, 3) := by decide +kernel
theorem dX12_laysLoads_96 : decode cX12_laysLoads 96 = .ok (.iload_n 3, 1) := by decide +kernel
theorem dX12_laysLoads_97 : decode cX12_laysLoads 97 = .ok (.iload 4, 2) := by decide +kernel
theorem dX12_laysLoads_99 : decode cX12_laysLoads 99 = .ok (.iconst (-1), 1) := by decide +kernel
theorem dX12_laysLoads_100 : decode cX12_laysLoads 100 = .ok (.ixor, 1) := by decide +kernel
theorem dX12_laysLoads_101 : decode cX12_laysLoads 101 = .ok (.iand, 1) := by decide +kernel
theorem dX12_laysLoads_102 : decode cX12_laysLoads 102 = .ok (.iaload, 1) := by decide +kernel
theorem dX12_laysLoads_103 : decode cX12_laysLoads 103 = .ok (.iconst 1, 1) := by decide +kernel
theorem dX12_laysLoads_104 : decode cX12_laysLoads 104 = .ok (.if_icmp .ne 25, 3) := by decide +kernel
theorem dX12_laysLoads_107 : decode cX12_laysLoads 107 = .ok (.aload_n 0, 1) := by decide +kernel
theorem dX12_laysLoads_108 : decode cX12_laysLoads 108 = .ok (.iload 4, 2) := by decide +kernel
theorem dX12_laysLoads_110 : decode cX12_laysLoads 110 = .ok (.invokevirtual 416, 3) := by decide +kernel
theorem dX12_laysLoads_113 : decode cX12_laysLoads 113 = .ok (.aload_n 0, 1) := by decide +kernel
theorem dX12_laysLoads_114 : decode cX12_laysLoads 114 = .ok (.getfield 7, 3) := by decide +kernel
theorem dX12_laysLoads_117 : decode cX12_laysLoads 117 = .ok (.bipush 95, 2) := by decide +kernel
theorem dX12_laysLoads_119 : decode cX12_laysLoads 119 = .ok (.iload_n 2, 1) := by decide +kernel
theorem dX12_laysLoads_120 : decode cX12_laysLoads 120 = .ok (.iadd, 1) := by decide +kernel
theorem dX12_laysLoads_121 : decode cX12_laysLoads 121 = .ok (.iaload, 1) := by decide +kernel
theorem dX12_laysLoads_122 : decode cX12_laysLoads 122 = .ok (.if_icmp .gt 7, 3) := by decide +kernel
theorem dX12_laysLoads_125 : decode cX12_laysLoads 125 = .ok (.iconst 1, 1) := by decide +kernel
theorem dX12_laysLoads_126 : decode cX12_laysLoads 126 = .ok (.goto 4, 3) := by decide +kernel
theorem dX12_laysLoads_129 : decode cX12_laysLoads 129 = .ok (.iconst 0, 1) := by decide +kernel
theorem dX12_laysLoads_130 : decode cX12_laysLoads 130 = .ok (.iastore, 1) := by decide +kernel
theorem dX12_laysLoads_131 : decode cX12_laysLoads 131 = .ok (.iload 4, 2) := by decide +kernel
theorem dX12_laysLoads_133 : decode cX12_laysLoads 133 = .ok (.iconst 1, 1) := by decide +kernel
theorem dX12_laysLoads_134 : decode cX12_laysLoads 134 = .ok (.isub, 1) := by decide +kernel
theorem dX12_laysLoads_135 : decode cX12_laysLoads 135 = .ok (.iload_n 3, 1) := by decide +kernel
theorem dX12_laysLoads_136 : decode cX12_laysLoads 136 = .ok (.iand, 1) := by decide +kernel
theorem dX12_laysLoads_137 : decode cX12_laysLoads 137 = .ok (.istore 4, 2) := by decide +kernel
theorem dX12_laysLoads_139 : decode cX12_laysLoads 139 = .ok (.goto (-66), 3) := by decide +kernel
theorem dX12_laysLoads_142 : decode cX12_laysLoads 142 = .ok (.iinc 3 (-1), 3) := by decide +kernel
theorem dX12_laysLoads_145 : decode cX12_laysLoads 145 = .ok (.goto (-79), 3) := by decide +kernel
theorem dX12_laysLoads_148 : decode cX12_laysLoads 148 = .ok (.iinc 2 1, 3) := by decide +kernel
theorem dX12_laysLoads_151 : decode cX12_laysLoads 151 = .ok (.goto (-111), 3) := by decide +kernel
theorem dX12_laysLoads_154 : decode cX12_laysLoads 154 = .ok (.return_, 1) := by decide +kernel
theorem dX12_packs_0 : decode cX12_packs 0 = .ok (.iload_n 1, 1) := by decide +kernel
theorem dX12_packs_1 : decode cX12_packs 1 = .ok (.iconst 0, 1) := by decide +kernel
theorem dX12_packs_2 : decode cX12_packs 2 = .ok (.iconst 1, 1) := by decide +kernel
theorem dX12_packs_3 : decode cX12_packs 3 = .ok (.invokestatic 56, 3) := by decide +kernel
theorem dX12_packs_6 : decode cX12_packs 6 = .ok (.ifCond .ne 5, 3) := by decide +kernel
theorem dX12_packs_9 : decode cX12_packs 9 = .ok (.iconst (-1), 1) := by decide +kernel
theorem dX12_packs_10 : decode cX12_packs 10 = .ok (.ireturn, 1) := by decide +kernel
theorem dX12_packs_11 : decode cX12_packs 11 = .ok (.aload_n 0, 1) := by decide +kernel
theorem dX12_packs_12 : decode cX12_packs 12 = .ok (.invokevirtual 419, 3) := by decide +kernel
theorem dX12_packs_15 : decode cX12_packs 15 = .ok (.iconst 0, 1) := by decide +kernel
theorem dX12_packs_16 : decode cX12_packs 16 = .ok (.istore_n 2, 1) := by decide +kernel
theorem dX12_packs_17 : decode cX12_packs 17 = .ok (.iconst 1, 1) := by decide +kernel
theorem dX12_packs_18 : decode cX12_packs 18 = .ok (.istore_n 3, 1) := by decide +kernel
theorem dX12_packs_19 : decode cX12_packs 19 = .ok (.iload_n 3, 1) := by decide +kernel
theorem dX12_packs_20 : decode cX12_packs 20 = .ok (.iconst 1, 1) := by decide +kernel
theorem dX12_packs_21 : decode cX12_packs 21 = .ok (.aload_n 0, 1) := by decide +kernel
theorem dX12_packs_22 : decode cX12_packs 22 = .ok (.getfield 7, 3) := by decide +kernel
theorem dX12_packs_25 : decode cX12_packs 25 = .ok (.bipush 93, 2) := by decide +kernel
theorem dX12_packs_27 : decode cX12_packs 27 = .ok (.iaload, 1) := by decide +kernel
theorem dX12_packs_28 : decode cX12_packs 28 = .ok (.ishl, 1) := by decide +kernel
theorem dX12_packs_29 : decode cX12_packs 29 = .ok (.if_icmp .ge 34, 3) := by decide +kernel
theorem dX12_packs_32 : decode cX12_packs 32 = .ok (.aload_n 0, 1) := by decide +kernel
theorem dX12_packs_33 : decode cX12_packs 33 = .ok (.getfield 47, 3) := by decide +kernel
theorem dX12_packs_36 : decode cX12_packs 36 = .ok (.iload_n 3, 1) := by decide +kernel
theorem dX12_packs_37 : decode cX12_packs 37 = .ok (.iaload, 1) := by decide +kernel
theorem dX12_packs_38 : decode cX12_packs 38 = .ok (.iconst 1, 1) := by decide +kernel
theorem dX12_packs_39 : decode cX12_packs 39 = .ok (.if_icmp .ne 18, 3) := by decide +kernel
theorem dX12_packs_42 : decode cX12_packs 42 = .ok (.aload_n 0, 1) := by decide +kernel
theorem dX12_packs_43 : decode cX12_packs 43 = .ok (.iload_n 3, 1) := by decide +kernel
theorem dX12_packs_44 : decode cX12_packs 44 = .ok (.invokevirtual 422, 3) := by decide +kernel
theorem dX12_packs_47 : decode cX12_packs 47 = .ok (.aload_n 0, 1) := by decide +kernel
theorem dX12_packs_48 : decode cX12_packs 48 = .ok (.iload_n 2, 1) := by decide +kernel
theorem dX12_packs_49 : decode cX12_packs 49 = .ok (.invokevirtual 422, 3) := by decide +kernel
theorem dX12_packs_52 : decode cX12_packs 52 = .ok (.if_icmp .le 5, 3) := by decide +kernel
theorem dX12_packs_55 : decode cX12_packs 55 = .ok (.iload_n 3, 1) := by decide +kernel
theorem dX12_packs_56 : decode cX12_packs 56 = .ok (.istore_n 2, 1) := by decide +kernel
theorem dX12_packs_57 : decode cX12_packs 57 = .ok (.iinc 3 1, 3) := by decide +kernel
theorem dX12_packs_60 : decode cX12_packs 60 = .ok (.goto (-41), 3) := by decide +kernel
theorem dX12_packs_63 : decode cX12_packs 63 = .ok (.iload_n 1, 1) := by decide +kernel
theorem dX12_packs_64 : decode cX12_packs 64 = .ok (.ifCond .ne 11, 3) := by decide +kernel
theorem dX12_packs_67 : decode cX12_packs 67 = .ok (.aload_n 0, 1) := by decide +kernel
theorem dX12_packs_68 : decode cX12_packs 68 = .ok (.iload_n 2, 1) := by decide +kernel
theorem dX12_packs_69 : decode cX12_packs 69 = .ok (.invokevirtual 422, 3) := by decide +kernel
theorem dX12_packs_72 : decode cX12_packs 72 = .ok (.goto 4, 3) := by decide +kernel
theorem dX12_packs_75 : decode cX12_packs 75 = .ok (.iload_n 2, 1) := by decide +kernel
theorem dX12_packs_76 : decode cX12_packs 76 = .ok (.ireturn, 1) := by decide +kernel
theorem dX12_row_0 : decode cX12_row 0 = .ok (.aload_n 0, 1) := by decide +kernel
theorem dX12_row_1 : decode cX12_row 1 = .ok (.getfield 7, 3) := by decide +kernel
theorem dX12_row_4 : decode cX12_row 4 = .ok (.bipush 86, 2) := by decide +kernel
theorem dX12_row_6 : decode cX12_row 6 = .ok (.iaload, 1) := by decide +kernel
theorem dX12_row_7 : decode cX12_row 7 = .ok (.istore_n 1, 1) := by decide +kernel
theorem dX12_row_8 : decode cX12_row 8 = .ok (.iconst 0, 1) := by decide +kernel
theorem dX12_row_9 : decode cX12_row 9 = .ok (.istore_n 2, 1) := by decide +kernel
theorem dX12_row_10 : decode cX12_row 10 = .ok (.aload_n 0, 1) := by decide +kernel
theorem dX12_row_11 : decode cX12_row 11 = .ok (.getfield 50, 3) := by decide +kernel
theorem dX12_row_14 : decode cX12_row 14 = .ok (.iconst 0, 1) := by decide +kernel
theorem dX12_row_15 : decode cX12_row 15 = .ok (.iconst 0, 1) := by decide +kernel
theorem dX12_row_16 : decode cX12_row 16 = .ok (.iastore, 1) := by decide +kernel
theorem dX12_row_17 : decode cX12_row 17 = .ok (.iconst 1, 1) := by decide +kernel
theorem dX12_row_18 : decode cX12_row 18 = .ok (.istore_n 3, 1) := by decide +kernel
theorem dX12_row_19 : decode cX12_row 19 = .ok (.iload_n 3, 1) := by decide +kernel
theorem dX12_row_20 : decode cX12_row 20 = .ok (.iconst 1, 1) := by decide +kernel
theorem dX12_row_21 : decode cX12_row 21 = .ok (.iload_n 1, 1) := by decide +kernel
theorem dX12_row_22 : decode cX12_row 22 = .ok (.ishl, 1) := by decide +kernel
theorem dX12_row_23 : decode cX12_row 23 = .ok (.if_icmp .ge 163, 3) := by decide +kernel
theorem dX12_row_26 : decode cX12_row 26 = .ok (.iconst 0, 1) := by decide +kernel
theorem dX12_row_27 : decode cX12_row 27 = .ok (.istore 4, 2) := by decide +kernel
theorem dX12_row_29 : decode cX12_row 29 = .ok (.iconst 0, 1) := by decide +kernel
theorem dX12_row_30 : decode cX12_row 30 = .ok (.istore 5, 2) := by decide +kernel
theorem dX12_row_32 : decode cX12_row 32 = .ok (.iload 5, 2) := by decide +kernel
theorem dX12_row_34 : decode cX12_row 34 = .ok (.iload_n 1, 1) := by decide +kernel
theorem dX12_row_35 : decode cX12_row 35 = .ok (.if_icmp .ge 119, 3) := by decide +kernel
theorem dX12_row_38 : decode cX12_row 38 = .ok (.iload_n 3, 1) := by decide +kernel
theorem dX12_row_39 : decode cX12_row 39 = .ok (.iload 5, 2) := by decide +kernel
theorem dX12_row_41 : decode cX12_row 41 = .ok (.ishr, 1) := by decide +kernel
theorem dX12_row_42 : decode cX12_row 42 = .ok (.iconst 1, 1) := by decide +kernel
theorem dX12_row_43 : decode cX12_row 43 = .ok (.iand, 1) := by decide +kernel
theorem dX12_row_44 : decode cX12_row 44 = .ok (.ifCond .ne 6, 3) := by decide +kernel
theorem dX12_row_47 : decode cX12_row 47 = .ok (.goto 101, 3) := by decide +kernel
theorem dX12_row_50 : decode cX12_row 50 = .ok (.iload_n 3, 1) := by decide +kernel
theorem dX12_row_51 : decode cX12_row 51 = .ok (.iconst 1, 1) := by decide +kernel
theorem dX12_row_52 : decode cX12_row 52 = .ok (.iload 5, 2) := by decide +kernel
theorem dX12_row_54 : decode cX12_row 54 = .ok (.ishl, 1) := by decide +kernel
theorem dX12_row_55 : decode cX12_row 55 = .ok (.iconst (-1), 1) := by decide +kernel
theorem dX12_row_56 : decode cX12_row 56 = .ok (.ixor, 1) := by decide +kernel
theorem dX12_row_57 : decode cX12_row 57 = .ok (.iand, 1) := by decide +kernel
theorem dX12_row_58 : decode cX12_row 58 = .ok (.istore 6, 2) := by decide +kernel
theorem dX12_row_60 : decode cX12_row 60 = .ok (.iload 6, 2) := by decide +kernel
theorem dX12_row_62 : decode cX12_row 62 = .ok (.ifCond .ne 7, 3) := by decide +kernel
theorem dX12_row_65 : decode cX12_row 65 = .ok (.iconst 1, 1) := by decide +kernel
theorem dX12_row_66 : decode cX12_row 66 = .ok (.goto 4, 3) := by decide +kernel
theorem dX12_row_69 : decode cX12_row 69 = .ok (.iconst 0, 1) := by decide +kernel
theorem dX12_row_70 : decode cX12_row 70 = .ok (.istore 7, 2) := by decide +kernel
theorem dX12_row_72 : decode cX12_row 72 = .ok (.iconst 0, 1) := by decide +kernel
theorem dX12_row_73 : decode cX12_row 73 = .ok (.istore 8, 2) := by decide +kernel
theorem dX12_row_75 : decode cX12_row 75 = .ok (.iload 8, 2) := by decide +kernel
theorem dX12_row_77 : decode cX12_row 77 = .ok (.iload_n 1, 1) := by decide +kernel
theorem dX12_row_78 : decode cX12_row 78 = .ok (.if_icmp .ge 52, 3) := by decide +kernel
theorem dX12_row_81 : decode cX12_row 81 = .ok (.iload 7, 2) := by decide +kernel
theorem dX12_row_83 : decode cX12_row 83 = .ok (.ifCond .ne 34, 3) := by decide +kernel
theorem dX12_row_86 : decode cX12_row 86 = .ok (.aload_n 0, 1) := by decide +kernel
theorem dX12_row_87 : decode cX12_row 87 = .ok (.getfield 50, 3) := by decide +kernel
theorem dX12_row_90 : decode cX12_row 90 = .ok (.iload 6, 2) := by decide +kernel
theorem dX12_row_92 : decode cX12_row 92 = .ok (.iaload, 1) := by decide +kernel
theorem dX12_row_93 : decode cX12_row 93 = .ok (.iload 8, 2) := by decide +kernel
theorem dX12_row_95 : decode cX12_row 95 = .ok (.ishr, 1) := by decide +kernel
theorem dX12_row_96 : decode cX12_row 96 = .ok (.aload_n 0, 1) := by decide +kernel
theorem dX12_row_97 : decode cX12_row 97 = .ok (.getfield 7, 3) := by decide +kernel
theorem dX12_row_100 : decode cX12_row 100 = .ok (.sipush 129, 3) := by decide +kernel
theorem dX12_row_103 : decode cX12_row 103 = .ok (.iload 8, 2) := by decide +kernel
theorem dX12_row_105 : decode cX12_row 105 = .ok (.iadd, 1) := by decide +kernel
theorem dX12_row_106 : decode cX12_row 106 = .ok (.iaload, 1) := by decide +kernel
theorem dX12_row_107 : decode cX12_row 107 = .ok (.iload 5, 2) := by decide +kernel
theorem dX12_row_109 : decode cX12_row 109 = .ok (.ishr, 1) := by decide +kernel
theorem dX12_row_110 : decode cX12_row 110 = .ok (.iand, 1) := by decide +kernel
theorem dX12_row_111 : decode cX12_row 111 = .ok (.iconst 1, 1) := by decide +kernel
theorem dX12_row_112 : decode cX12_row 112 = .ok (.iand, 1) := by decide +kernel
theorem dX12_row_113 : decode cX12_row 113 = .ok (.iconst 1, 1) := by decide +kernel
theorem dX12_row_114 : decode cX12_row 114 = .ok (.if_icmp .ne 7, 3) := by decide +kernel
theorem dX12_row_117 : decode cX12_row 117 = .ok (.iconst 1, 1) := by decide +kernel
theorem dX12_row_118 : decode cX12_row 118 = .ok (.goto 4, 3) := by decide +kernel
theorem dX12_row_121 : decode cX12_row 121 = .ok (.iconst 0, 1) := by decide +kernel
theorem dX12_row_122 : decode cX12_row 122 = .ok (.istore 7, 2) := by decide +kernel
theorem dX12_row_124 : decode cX12_row 124 = .ok (.iinc 8 1, 3) := by decide +kernel
theorem dX12_row_127 : decode cX12_row 127 = .ok (.goto (-52), 3) := by decide +kernel
theorem dX12_row_130 : decode cX12_row 130 = .ok (.iload 4, 2) := by decide +kernel
theorem dX12_row_132 : decode cX12_row 132 = .ok (.iload 7, 2) := by decide +kernel
theorem dX12_row_134 : decode cX12_row 134 = .ok (.ifCond .eq 10, 3) := by decide +kernel
theorem dX12_row_137 : decode cX12_row 137 = .ok (.iconst 1, 1) := by decide +kernel
theorem dX12_row_138 : decode cX12_row 138 = .ok (.iload 5, 2) := by decide +kernel
theorem dX12_row_140 : decode cX12_row 140 = .ok (.ishl, 1) := by decide +kernel
theorem dX12_row_141 : decode cX12_row 141 = .ok (.goto 4, 3) := by decide +kernel
theorem dX12_row_144 : decode cX12_row 144 = .ok (.iconst 0, 1) := by decide +kernel
theorem dX12_row_145 : decode cX12_row 145 = .ok (.ior, 1) := by decide +kernel
theorem dX12_row_146 : decode cX12_row 146 = .ok (.istore 4, 2) := by decide +kernel
theorem dX12_row_148 : decode cX12_row 148 = .ok (.iinc 5 1, 3) := by decide +kernel
theorem dX12_row_151 : decode cX12_row 151 = .ok (.goto (-119), 3) := by decide +kernel
theorem dX12_row_154 : decode cX12_row 154 = .ok (.aload_n 0, 1) := by decide +kernel
theorem dX12_row_155 : decode cX12_row 155 = .ok (.getfield 50, 3) := by decide +kernel
theorem dX12_row_158 : decode cX12_row 158 = .ok (.iload_n 3, 1) := by decide +kernel
theorem dX12_row_159 : decode cX12_row 159 = .ok (.iload 4, 2) := by decide +kernel
theorem dX12_row_161 : decode cX12_row 161 = .ok (.iastore, 1) := by decide +kernel
theorem dX12_row_162 : decode cX12_row 162 = .ok (.iload 4, 2) := by decide +kernel
theorem dX12_row_164 : decode cX12_row 164 = .ok (.ifCond .ne 7, 3) := by decide +kernel
theorem dX12_row_167 : decode cX12_row 167 = .ok (.iload_n 2, 1) := by decide +kernel
theorem dX12_row_168 : decode cX12_row 168 = .ok (.goto 11, 3) := by decide +kernel
theorem dX12_row_171 : decode cX12_row 171 = .ok (.iload_n 2, 1) := by decide +kernel
theorem dX12_row_172 : decode cX12_row 172 = .ok (.iload_n 3, 1) := by decide +kernel
theorem dX12_row_173 : decode cX12_row 173 = .ok (.invokestatic 320, 3) := by decide +kernel
theorem dX12_row_176 : decode cX12_row 176 = .ok (.invokestatic 307, 3) := by decide +kernel
theorem dX12_row_179 : decode cX12_row 179 = .ok (.istore_n 2, 1) := by decide +kernel
theorem dX12_row_180 : decode cX12_row 180 = .ok (.iinc 3 1, 3) := by decide +kernel
theorem dX12_row_183 : decode cX12_row 183 = .ok (.goto (-164), 3) := by decide +kernel
theorem dX12_row_186 : decode cX12_row 186 = .ok (.iload_n 2, 1) := by decide +kernel
theorem dX12_row_187 : decode cX12_row 187 = .ok (.ireturn, 1) := by decide +kernel
theorem dX12_seen_0 : decode cX12_seen 0 = .ok (.iload_n 1, 1) := by decide +kernel
theorem dX12_seen_1 : decode cX12_seen 1 = .ok (.iconst (-1), 1) := by decide +kernel
theorem dX12_seen_2 : decode cX12_seen 2 = .ok (.if_icmp .ne 13, 3) := by decide +kernel
theorem dX12_seen_5 : decode cX12_seen 5 = .ok (.aload_n 0, 1) := by decide +kernel
theorem dX12_seen_6 : decode cX12_seen 6 = .ok (.getfield 7, 3) := by decide +kernel
theorem dX12_seen_9 : decode cX12_seen 9 = .ok (.bipush 94, 2) := by decide +kernel
theorem dX12_seen_11 : decode cX12_seen 11 = .ok (.iconst 0, 1) := by decide +kernel
theorem dX12_seen_12 : decode cX12_seen 12 = .ok (.iastore, 1) := by decide +kernel
theorem dX12_seen_13 : decode cX12_seen 13 = .ok (.iconst 0, 1) := by decide +kernel
theorem dX12_seen_14 : decode cX12_seen 14 = .ok (.ireturn, 1) := by decide +kernel
theorem dX12_seen_15 : decode cX12_seen 15 = .ok (.aload_n 0, 1) := by decide +kernel
theorem dX12_seen_16 : decode cX12_seen 16 = .ok (.iload_n 1, 1) := by decide +kernel
theorem dX12_seen_17 : decode cX12_seen 17 = .ok (.invokevirtual 72, 3) := by decide +kernel
theorem dX12_seen_20 : decode cX12_seen 20 = .ok (.ifCond .eq 23, 3) := by decide +kernel
theorem dX12_seen_23 : decode cX12_seen 23 = .ok (.aload_n 0, 1) := by decide +kernel
theorem dX12_seen_24 : decode cX12_seen 24 = .ok (.iload_n 2, 1) := by decide +kernel
theorem dX12_seen_25 : decode cX12_seen 25 = .ok (.invokevirtual 75, 3) := by decide +kernel
theorem dX12_seen_28 : decode cX12_seen 28 = .ok (.ifCond .eq 15, 3) := by decide +kernel
theorem dX12_seen_31 : decode cX12_seen 31 = .ok (.aload_n 0, 1) := by decide +kernel
theorem dX12_seen_32 : decode cX12_seen 32 = .ok (.getfield 7, 3) := by decide +kernel
theorem dX12_seen_35 : decode cX12_seen 35 = .ok (.bipush 94, 2) := by decide +kernel
theorem dX12_seen_37 : decode cX12_seen 37 = .ok (.iaload, 1) := by decide +kernel
theorem dX12_seen_38 : decode cX12_seen 38 = .ok (.bipush 12, 2) := by decide +kernel
theorem dX12_seen_40 : decode cX12_seen 40 = .ok (.if_icmp .ne 5, 3) := by decide +kernel
theorem dX12_seen_43 : decode cX12_seen 43 = .ok (.iconst (-1), 1) := by decide +kernel
theorem dX12_seen_44 : decode cX12_seen 44 = .ok (.ireturn, 1) := by decide +kernel
theorem dX12_seen_45 : decode cX12_seen 45 = .ok (.sipush 269, 3) := by decide +kernel
theorem dX12_seen_48 : decode cX12_seen 48 = .ok (.iconst 3, 1) := by decide +kernel
theorem dX12_seen_49 : decode cX12_seen 49 = .ok (.aload_n 0, 1) := by decide +kernel
theorem dX12_seen_50 : decode cX12_seen 50 = .ok (.getfield 7, 3) := by decide +kernel
theorem dX12_seen_53 : decode cX12_seen 53 = .ok (.bipush 94, 2) := by decide +kernel
theorem dX12_seen_55 : decode cX12_seen 55 = .ok (.iaload, 1) := by decide +kernel
theorem dX12_seen_56 : decode cX12_seen 56 = .ok (.imul, 1) := by decide +kernel
theorem dX12_seen_57 : decode cX12_seen 57 = .ok (.iadd, 1) := by decide +kernel
theorem dX12_seen_58 : decode cX12_seen 58 = .ok (.istore 4, 2) := by decide +kernel
theorem dX12_seen_60 : decode cX12_seen 60 = .ok (.aload_n 0, 1) := by decide +kernel
theorem dX12_seen_61 : decode cX12_seen 61 = .ok (.getfield 7, 3) := by decide +kernel
theorem dX12_seen_64 : decode cX12_seen 64 = .ok (.iload 4, 2) := by decide +kernel
theorem dX12_seen_66 : decode cX12_seen 66 = .ok (.iload_n 1, 1) := by decide +kernel
theorem dX12_seen_67 : decode cX12_seen 67 = .ok (.iastore, 1) := by decide +kernel
theorem dX12_seen_68 : decode cX12_seen 68 = .ok (.aload_n 0, 1) := by decide +kernel
theorem dX12_seen_69 : decode cX12_seen 69 = .ok (.getfield 7, 3) := by decide +kernel
theorem dX12_seen_72 : decode cX12_seen 72 = .ok (.iload 4, 2) := by decide +kernel
theorem dX12_seen_74 : decode cX12_seen 74 = .ok (.iconst 1, 1) := by decide +kernel
theorem dX12_seen_75 : decode cX12_seen 75 = .ok (.iadd, 1) := by decide +kernel
theorem dX12_seen_76 : decode cX12_seen 76 = .ok (.iload_n 2, 1) := by decide +kernel
theorem dX12_seen_77 : decode cX12_seen 77 = .ok (.iastore, 1) := by decide +kernel
theorem dX12_seen_78 : decode cX12_seen 78 = .ok (.aload_n 0, 1) := by decide +kernel
theorem dX12_seen_79 : decode cX12_seen 79 = .ok (.getfield 7, 3) := by decide +kernel
theorem dX12_seen_82 : decode cX12_seen 82 = .ok (.iload 4, 2) := by decide +kernel
theorem dX12_seen_84 : decode cX12_seen 84 = .ok (.iconst 2, 1) := by decide +kernel
theorem dX12_seen_85 : decode cX12_seen 85 = .ok (.iadd, 1) := by decide +kernel
theorem dX12_seen_86 : decode cX12_seen 86 = .ok (.iload_n 3, 1) := by decide +kernel
theorem dX12_seen_87 : decode cX12_seen 87 = .ok (.ifCond .eq 7, 3) := by decide +kernel
theorem dX12_seen_90 : decode cX12_seen 90 = .ok (.iconst 1, 1) := by decide +kernel
theorem dX12_seen_91 : decode cX12_seen 91 = .ok (.goto 4, 3) := by decide +kernel
theorem dX12_seen_94 : decode cX12_seen 94 = .ok (.iconst 0, 1) := by decide +kernel
theorem dX12_seen_95 : decode cX12_seen 95 = .ok (.iastore, 1) := by decide +kernel
theorem dX12_seen_96 : decode cX12_seen 96 = .ok (.aload_n 0, 1) := by decide +kernel
theorem dX12_seen_97 : decode cX12_seen 97 = .ok (.getfield 7, 3) := by decide +kernel
theorem dX12_seen_100 : decode cX12_seen 100 = .ok (.bipush 94, 2) := by decide +kernel
theorem dX12_seen_102 : decode cX12_seen 102 = .ok (.dup2, 1) := by decide +kernel
theorem dX12_seen_103 : decode cX12_seen 103 = .ok (.iaload, 1) := by decide +kernel
theorem dX12_seen_104 : decode cX12_seen 104 = .ok (.iconst 1, 1) := by decide +kernel
theorem dX12_seen_105 : decode cX12_seen 105 = .ok (.iadd, 1) := by decide +kernel
theorem dX12_seen_106 : decode cX12_seen 106 = .ok (.iastore, 1) := by decide +kernel
theorem dX12_seen_107 : decode cX12_seen 107 = .ok (.aload_n 0, 1) := by decide +kernel
theorem dX12_seen_108 : decode cX12_seen 108 = .ok (.getfield 7, 3) := by decide +kernel
theorem dX12_seen_111 : decode cX12_seen 111 = .ok (.bipush 94, 2) := by decide +kernel
theorem dX12_seen_113 : decode cX12_seen 113 = .ok (.iaload, 1) := by decide +kernel
theorem dX12_seen_114 : decode cX12_seen 114 = .ok (.ireturn, 1) := by decide +kernel
theorem dX12_isFitting_0 : decode cX12_isFitting 0 = .ok (.iconst 0, 1) := by decide +kernel
theorem dX12_isFitting_1 : decode cX12_isFitting 1 = .ok (.istore_n 2, 1) := by decide +kernel
theorem dX12_isFitting_2 : decode cX12_isFitting 2 = .ok (.iload_n 2, 1) := by decide +kernel
theorem dX12_isFitting_3 : decode cX12_isFitting 3 = .ok (.aload_n 0, 1) := by decide +kernel
theorem dX12_isFitting_4 : decode cX12_isFitting 4 = .ok (.getfield 7, 3) := by decide +kernel
theorem dX12_isFitting_7 : decode cX12_isFitting 7 = .ok (.bipush 94, 2) := by decide +kernel
theorem dX12_isFitting_9 : decode cX12_isFitting 9 = .ok (.iaload, 1) := by decide +kernel
theorem dX12_isFitting_10 : decode cX12_isFitting 10 = .ok (.if_icmp .ge 57, 3) := by decide +kernel
theorem dX12_isFitting_13 : decode cX12_isFitting 13 = .ok (.sipush 269, 3) := by decide +kernel
theorem dX12_isFitting_16 : decode cX12_isFitting 16 = .ok (.iconst 3, 1) := by decide +kernel
theorem dX12_isFitting_17 : decode cX12_isFitting 17 = .ok (.iload_n 2, 1) := by decide +kernel
theorem dX12_isFitting_18 : decode cX12_isFitting 18 = .ok (.imul, 1) := by decide +kernel
theorem dX12_isFitting_19 : decode cX12_isFitting 19 = .ok (.iadd, 1) := by decide +kernel
theorem dX12_isFitting_20 : decode cX12_isFitting 20 = .ok (.istore_n 3, 1) := by decide +kernel
theorem dX12_isFitting_21 : decode cX12_isFitting 21 = .ok (.aload_n 0, 1) := by decide +kernel
theorem dX12_isFitting_22 : decode cX12_isFitting 22 = .ok (.aload_n 0, 1) := by decide +kernel
theorem dX12_isFitting_23 : decode cX12_isFitting 23 = .ok (.getfield 7, 3) := by decide +kernel
theorem dX12_isFitting_26 : decode cX12_isFitting 26 = .ok (.iload_n 3, 1) := by decide +kernel
theorem dX12_isFitting_27 : decode cX12_isFitting 27 = .ok (.iaload, 1) := by decide +kernel
theorem dX12_isFitting_28 : decode cX12_isFitting 28 = .ok (.aload_n 0, 1) := by decide +kernel
theorem dX12_isFitting_29 : decode cX12_isFitting 29 = .ok (.getfield 7, 3) := by decide +kernel
theorem dX12_isFitting_32 : decode cX12_isFitting 32 = .ok (.iload_n 3, 1) := by decide +kernel
theorem dX12_isFitting_33 : decode cX12_isFitting 33 = .ok (.iconst 1, 1) := by decide +kernel
theorem dX12_isFitting_34 : decode cX12_isFitting 34 = .ok (.iadd, 1) := by decide +kernel
theorem dX12_isFitting_35 : decode cX12_isFitting 35 = .ok (.iaload, 1) := by decide +kernel
theorem dX12_isFitting_36 : decode cX12_isFitting 36 = .ok (.invokevirtual 314, 3) := by decide +kernel
theorem dX12_isFitting_39 : decode cX12_isFitting 39 = .ok (.iload_n 1, 1) := by decide +kernel
theorem dX12_isFitting_40 : decode cX12_isFitting 40 = .ok (.if_icmp .lt 7, 3) := by decide +kernel
theorem dX12_isFitting_43 : decode cX12_isFitting 43 = .ok (.iconst 1, 1) := by decide +kernel
theorem dX12_isFitting_44 : decode cX12_isFitting 44 = .ok (.goto 4, 3) := by decide +kernel
theorem dX12_isFitting_47 : decode cX12_isFitting 47 = .ok (.iconst 0, 1) := by decide +kernel
theorem dX12_isFitting_48 : decode cX12_isFitting 48 = .ok (.aload_n 0, 1) := by decide +kernel
theorem dX12_isFitting_49 : decode cX12_isFitting 49 = .ok (.getfield 7, 3) := by decide +kernel
theorem dX12_isFitting_52 : decode cX12_isFitting 52 = .ok (.iload_n 3, 1) := by decide +kernel
theorem dX12_isFitting_53 : decode cX12_isFitting 53 = .ok (.iconst 2, 1) := by decide +kernel
theorem dX12_isFitting_54 : decode cX12_isFitting 54 = .ok (.iadd, 1) := by decide +kernel
theorem dX12_isFitting_55 : decode cX12_isFitting 55 = .ok (.iaload, 1) := by decide +kernel
theorem dX12_isFitting_56 : decode cX12_isFitting 56 = .ok (.if_icmp .eq 5, 3) := by decide +kernel
theorem dX12_isFitting_59 : decode cX12_isFitting 59 = .ok (.iconst 0, 1) := by decide +kernel
theorem dX12_isFitting_60 : decode cX12_isFitting 60 = .ok (.ireturn, 1) := by decide +kernel
theorem dX12_isFitting_61 : decode cX12_isFitting 61 = .ok (.iinc 2 1, 3) := by decide +kernel
theorem dX12_isFitting_64 : decode cX12_isFitting 64 = .ok (.goto (-62), 3) := by decide +kernel
theorem dX12_isFitting_67 : decode cX12_isFitting 67 = .ok (.iconst 1, 1) := by decide +kernel
theorem dX12_isFitting_68 : decode cX12_isFitting 68 = .ok (.ireturn, 1) := by decide +kernel
theorem dX12_fitting_0 : decode cX12_fitting 0 = .ok (.iconst 0, 1) := by decide +kernel
theorem dX12_fitting_1 : decode cX12_fitting 1 = .ok (.istore_n 2, 1) := by decide +kernel
theorem dX12_fitting_2 : decode cX12_fitting 2 = .ok (.iconst 0, 1) := by decide +kernel
theorem dX12_fitting_3 : decode cX12_fitting 3 = .ok (.istore_n 3, 1) := by decide +kernel
theorem dX12_fitting_4 : decode cX12_fitting 4 = .ok (.iload_n 3, 1) := by decide +kernel
theorem dX12_fitting_5 : decode cX12_fitting 5 = .ok (.iload_n 1, 1) := by decide +kernel
theorem dX12_fitting_6 : decode cX12_fitting 6 = .ok (.if_icmp .gt 25, 3) := by decide +kernel
theorem dX12_fitting_9 : decode cX12_fitting 9 = .ok (.iload_n 2, 1) := by decide +kernel
theorem dX12_fitting_10 : decode cX12_fitting 10 = .ok (.aload_n 0, 1) := by decide +kernel
theorem dX12_fitting_11 : decode cX12_fitting 11 = .ok (.iload_n 3, 1) := by decide +kernel
theorem dX12_fitting_12 : decode cX12_fitting 12 = .ok (.invokevirtual 425, 3) := by decide +kernel
theorem dX12_fitting_15 : decode cX12_fitting 15 = .ok (.ifCond .eq 7, 3) := by decide +kernel
theorem dX12_fitting_18 : decode cX12_fitting 18 = .ok (.iconst 1, 1) := by decide +kernel
theorem dX12_fitting_19 : decode cX12_fitting 19 = .ok (.goto 4, 3) := by decide +kernel
theorem dX12_fitting_22 : decode cX12_fitting 22 = .ok (.iconst 0, 1) := by decide +kernel
theorem dX12_fitting_23 : decode cX12_fitting 23 = .ok (.iadd, 1) := by decide +kernel
theorem dX12_fitting_24 : decode cX12_fitting 24 = .ok (.istore_n 2, 1) := by decide +kernel
theorem dX12_fitting_25 : decode cX12_fitting 25 = .ok (.iinc 3 1, 3) := by decide +kernel
theorem dX12_fitting_28 : decode cX12_fitting 28 = .ok (.goto (-24), 3) := by decide +kernel
theorem dX12_fitting_31 : decode cX12_fitting 31 = .ok (.iload_n 2, 1) := by decide +kernel
theorem dX12_fitting_32 : decode cX12_fitting 32 = .ok (.ireturn, 1) := by decide +kernel
theorem dX12_leastFitting_0 : decode cX12_leastFitting 0 = .ok (.iconst 0, 1) := by decide +kernel
theorem dX12_leastFitting_1 : decode cX12_leastFitting 1 = .ok (.istore_n 1, 1) := by decide +kernel
theorem dX12_leastFitting_2 : decode cX12_leastFitting 2 = .ok (.iload_n 1, 1) := by decide +kernel
theorem dX12_leastFitting_3 : decode cX12_leastFitting 3 = .ok (.bipush 99, 2) := by decide +kernel
theorem dX12_leastFitting_5 : decode cX12_leastFitting 5 = .ok (.if_icmp .gt 19, 3) := by decide +kernel
theorem dX12_leastFitting_8 : decode cX12_leastFitting 8 = .ok (.aload_n 0, 1) := by decide +kernel
theorem dX12_leastFitting_9 : decode cX12_leastFitting 9 = .ok (.iload_n 1, 1) := by decide +kernel
theorem dX12_leastFitting_10 : decode cX12_leastFitting 10 = .ok (.invokevirtual 425, 3) := by decide +kernel
theorem dX12_leastFitting_13 : decode cX12_leastFitting 13 = .ok (.ifCond .eq 5, 3) := by decide +kernel
theorem dX12_leastFitting_16 : decode cX12_leastFitting 16 = .ok (.iload_n 1, 1) := by decide +kernel
theorem dX12_leastFitting_17 : decode cX12_leastFitting 17 = .ok (.ireturn, 1) := by decide +kernel
theorem dX12_leastFitting_18 : decode cX12_leastFitting 18 = .ok (.iinc 1 1, 3) := by decide +kernel
theorem dX12_leastFitting_21 : decode cX12_leastFitting 21 = .ok (.goto (-19), 3) := by decide +kernel
theorem dX12_leastFitting_24 : decode cX12_leastFitting 24 = .ok (.iconst (-1), 1) := by decide +kernel
theorem dX12_leastFitting_25 : decode cX12_leastFitting 25 = .ok (.ireturn, 1) := by decide +kernel
theorem dX12_fits_0 : decode cX12_fits 0 = .ok (.iload_n 1, 1) := by decide +kernel
theorem dX12_fits_1 : decode cX12_fits 1 = .ok (.iconst 0, 1) := by decide +kernel
theorem dX12_fits_2 : decode cX12_fits 2 = .ok (.iconst 3, 1) := by decide +kernel
theorem dX12_fits_3 : decode cX12_fits 3 = .ok (.invokestatic 56, 3) := by decide +kernel
theorem dX12_fits_6 : decode cX12_fits 6 = .ok (.ifCond .ne 5, 3) := by decide +kernel
theorem dX12_fits_9 : decode cX12_fits 9 = .ok (.iconst (-1), 1) := by decide +kernel
theorem dX12_fits_10 : decode cX12_fits 10 = .ok (.ireturn, 1) := by decide +kernel
theorem dX12_fits_11 : decode cX12_fits 11 = .ok (.aload_n 0, 1) := by decide +kernel
theorem dX12_fits_12 : decode cX12_fits 12 = .ok (.bipush 99, 2) := by decide +kernel
theorem dX12_fits_14 : decode cX12_fits 14 = .ok (.invokevirtual 428, 3) := by decide +kernel
theorem dX12_fits_17 : decode cX12_fits 17 = .ok (.istore_n 2, 1) := by decide +kernel
theorem dX12_fits_18 : decode cX12_fits 18 = .ok (.iload_n 1, 1) := by decide +kernel
theorem dX12_fits_19 : decode cX12_fits 19 = .ok (.iconst 2, 1) := by decide +kernel
theorem dX12_fits_20 : decode cX12_fits 20 = .ok (.if_icmp .ge 16, 3) := by decide +kernel
theorem dX12_fits_23 : decode cX12_fits 23 = .ok (.iload_n 1, 1) := by decide +kernel
theorem dX12_fits_24 : decode cX12_fits 24 = .ok (.ifCond .ne 7, 3) := by decide +kernel
theorem dX12_fits_27 : decode cX12_fits 27 = .ok (.iload_n 2, 1) := by decide +kernel
theorem dX12_fits_28 : decode cX12_fits 28 = .ok (.goto 7, 3) := by decide +kernel
theorem dX12_fits_31 : decode cX12_fits 31 = .ok (.aload_n 0, 1) := by decide +kernel
theorem dX12_fits_32 : decode cX12_fits 32 = .ok (.invokevirtual 431, 3) := by decide +kernel
theorem dX12_fits_35 : decode cX12_fits 35 = .ok (.ireturn, 1) := by decide +kernel
theorem dX12_fits_36 : decode cX12_fits 36 = .ok (.iconst (-1), 1) := by decide +kernel
theorem dX12_fits_37 : decode cX12_fits 37 = .ok (.istore_n 3, 1) := by decide +kernel
theorem dX12_fits_38 : decode cX12_fits 38 = .ok (.ldc_w 407, 3) := by decide +kernel
theorem dX12_fits_41 : decode cX12_fits 41 = .ok (.istore 4, 2) := by decide +kernel
theorem dX12_fits_43 : decode cX12_fits 43 = .ok (.iconst 0, 1) := by decide +kernel
theorem dX12_fits_44 : decode cX12_fits 44 = .ok (.istore 5, 2) := by decide +kernel
theorem dX12_fits_46 : decode cX12_fits 46 = .ok (.iload 5, 2) := by decide +kernel
theorem dX12_fits_48 : decode cX12_fits 48 = .ok (.aload_n 0, 1) := by decide +kernel
theorem dX12_fits_49 : decode cX12_fits 49 = .ok (.getfield 7, 3) := by decide +kernel
theorem dX12_fits_52 : decode cX12_fits 52 = .ok (.bipush 86, 2) := by decide +kernel
theorem dX12_fits_54 : decode cX12_fits 54 = .ok (.iaload, 1) := by decide +kernel
theorem dX12_fits_55 : decode cX12_fits 55 = .ok (.if_icmp .ge 85, 3) := by decide +kernel
theorem dX12_fits_58 : decode cX12_fits 58 = .ok (.iload_n 2, 1) := by decide +kernel
theorem dX12_fits_59 : decode cX12_fits 59 = .ok (.iconst 1, 1) := by decide +kernel
theorem dX12_fits_60 : decode cX12_fits 60 = .ok (.if_icmp .le 80, 3) := by decide +kernel
theorem dX12_fits_63 : decode cX12_fits 63 = .ok (.iconst 0, 1) := by decide +kernel
theorem dX12_fits_64 : decode cX12_fits 64 = .ok (.istore 6, 2) := by decide +kernel
theorem dX12_fits_66 : decode cX12_fits 66 = .ok (.iload 6, 2) := by decide +kernel
theorem dX12_fits_68 : decode cX12_fits 68 = .ok (.aload_n 0, 1) := by decide +kernel
theorem dX12_fits_69 : decode cX12_fits 69 = .ok (.getfield 7, 3) := by decide +kernel
theorem dX12_fits_72 : decode cX12_fits 72 = .ok (.bipush 87, 2) := by decide +kernel
theorem dX12_fits_74 : decode cX12_fits 74 = .ok (.iaload, 1) := by decide +kernel
theorem dX12_fits_75 : decode cX12_fits 75 = .ok (.if_icmp .ge 59, 3) := by decide +kernel
theorem dX12_fits_78 : decode cX12_fits 78 = .ok (.aload_n 0, 1) := by decide +kernel
theorem dX12_fits_79 : decode cX12_fits 79 = .ok (.aload_n 0, 1) := by decide +kernel
theorem dX12_fits_80 : decode cX12_fits 80 = .ok (.iload 5, 2) := by decide +kernel
theorem dX12_fits_82 : decode cX12_fits 82 = .ok (.iload 6, 2) := by decide +kernel
theorem dX12_fits_84 : decode cX12_fits 84 = .ok (.invokevirtual 314, 3) := by decide +kernel
theorem dX12_fits_87 : decode cX12_fits 87 = .ok (.invokevirtual 428, 3) := by decide +kernel
theorem dX12_fits_90 : decode cX12_fits 90 = .ok (.istore 7, 2) := by decide +kernel
theorem dX12_fits_92 : decode cX12_fits 92 = .ok (.iload 7, 2) := by decide +kernel
theorem dX12_fits_94 : decode cX12_fits 94 = .ok (.iload_n 2, 1) := by decide +kernel
theorem dX12_fits_95 : decode cX12_fits 95 = .ok (.iload 7, 2) := by decide +kernel
theorem dX12_fits_97 : decode cX12_fits 97 = .ok (.isub, 1) := by decide +kernel
theorem dX12_fits_98 : decode cX12_fits 98 = .ok (.invokestatic 307, 3) := by decide +kernel
theorem dX12_fits_101 : decode cX12_fits 101 = .ok (.iload 4, 2) := by decide +kernel
theorem dX12_fits_103 : decode cX12_fits 103 = .ok (.if_icmp .lt 6, 3) := by decide +kernel
theorem dX12_fits_106 : decode cX12_fits 106 = .ok (.goto 22, 3) := by decide +kernel
theorem dX12_fits_109 : decode cX12_fits 109 = .ok (.iload 7, 2) := by decide +kernel
theorem dX12_fits_111 : decode cX12_fits 111 = .ok (.iload_n 2, 1) := by decide +kernel
theorem dX12_fits_112 : decode cX12_fits 112 = .ok (.iload 7, 2) := by decide +kernel
theorem dX12_fits_114 : decode cX12_fits 114 = .ok (.isub, 1) := by decide +kernel
theorem dX12_fits_115 : decode cX12_fits 115 = .ok (.invokestatic 307, 3) := by decide +kernel
theorem dX12_fits_118 : decode cX12_fits 118 = .ok (.istore 4, 2) := by decide +kernel
theorem dX12_fits_120 : decode cX12_fits 120 = .ok (.iconst 5, 1) := by decide +kernel
theorem dX12_fits_121 : decode cX12_fits 121 = .ok (.iload 5, 2) := by decide +kernel
theorem dX12_fits_123 : decode cX12_fits 123 = .ok (.imul, 1) := by decide +kernel
theorem dX12_fits_124 : decode cX12_fits 124 = .ok (.iload 6, 2) := by decide +kernel
theorem dX12_fits_126 : decode cX12_fits 126 = .ok (.iadd, 1) := by decide +kernel
theorem dX12_fits_127 : decode cX12_fits 127 = .ok (.istore_n 3, 1) := by decide +kernel
theorem dX12_fits_128 : decode cX12_fits 128 = .ok (.iinc 6 1, 3) := by decide +kernel
theorem dX12_fits_131 : decode cX12_fits 131 = .ok (.goto (-65), 3) := by decide +kernel
theorem dX12_fits_134 : decode cX12_fits 134 = .ok (.iinc 5 1, 3) := by decide +kernel
theorem dX12_fits_137 : decode cX12_fits 137 = .ok (.goto (-91), 3) := by decide +kernel
theorem dX12_fits_140 : decode cX12_fits 140 = .ok (.iload_n 3, 1) := by decide +kernel
theorem dX12_fits_141 : decode cX12_fits 141 = .ok (.iconst (-1), 1) := by decide +kernel
theorem dX12_fits_142 : decode cX12_fits 142 = .ok (.if_icmp .ne 7, 3) := by decide +kernel
theorem dX12_fits_145 : decode cX12_fits 145 = .ok (.iconst (-1), 1) := by decide +kernel
theorem dX12_fits_146 : decode cX12_fits 146 = .ok (.goto 17, 3) := by decide +kernel
theorem dX12_fits_149 : decode cX12_fits 149 = .ok (.iload_n 1, 1) := by decide +kernel
theorem dX12_fits_150 : decode cX12_fits 150 = .ok (.iconst 2, 1) := by decide +kernel
theorem dX12_fits_151 : decode cX12_fits 151 = .ok (.if_icmp .ne 9, 3) := by decide +kernel
theorem dX12_fits_154 : decode cX12_fits 154 = .ok (.iload_n 3, 1) := by decide +kernel
theorem dX12_fits_155 : decode cX12_fits 155 = .ok (.iconst 5, 1) := by decide +kernel
theorem dX12_fits_156 : decode cX12_fits 156 = .ok (.idiv, 1) := by decide +kernel
theorem dX12_fits_157 : decode cX12_fits 157 = .ok (.goto 6, 3) := by decide +kernel
theorem dX12_fits_160 : decode cX12_fits 160 = .ok (.iload_n 3, 1) := by decide +kernel
theorem dX12_fits_161 : decode cX12_fits 161 = .ok (.iconst 5, 1) := by decide +kernel
theorem dX12_fits_162 : decode cX12_fits 162 = .ok (.irem, 1) := by decide +kernel
theorem dX12_fits_163 : decode cX12_fits 163 = .ok (.ireturn, 1) := by decide +kernel
theorem dX12_ledBy_0 : decode cX12_ledBy 0 = .ok (.ldc_w 407, 3) := by decide +kernel
theorem dX12_ledBy_3 : decode cX12_ledBy 3 = .ok (.istore 4, 2) := by decide +kernel
theorem dX12_ledBy_5 : decode cX12_ledBy 5 = .ok (.iconst 0, 1) := by decide +kernel
theorem dX12_ledBy_6 : decode cX12_ledBy 6 = .ok (.istore 5, 2) := by decide +kernel
theorem dX12_ledBy_8 : decode cX12_ledBy 8 = .ok (.iload 5, 2) := by decide +kernel
theorem dX12_ledBy_10 : decode cX12_ledBy 10 = .ok (.aload_n 0, 1) := by decide +kernel
theorem dX12_ledBy_11 : decode cX12_ledBy 11 = .ok (.getfield 7, 3) := by decide +kernel
theorem dX12_ledBy_14 : decode cX12_ledBy 14 = .ok (.bipush 86, 2) := by decide +kernel
theorem dX12_ledBy_16 : decode cX12_ledBy 16 = .ok (.iaload, 1) := by decide +kernel
theorem dX12_ledBy_17 : decode cX12_ledBy 17 = .ok (.if_icmp .ge 67, 3) := by decide +kernel
theorem dX12_ledBy_20 : decode cX12_ledBy 20 = .ok (.aload_n 0, 1) := by decide +kernel
theorem dX12_ledBy_21 : decode cX12_ledBy 21 = .ok (.iload 5, 2) := by decide +kernel
theorem dX12_ledBy_23 : decode cX12_ledBy 23 = .ok (.iload_n 3, 1) := by decide +kernel
theorem dX12_ledBy_24 : decode cX12_ledBy 24 = .ok (.iload_n 1, 1) := by decide +kernel
theorem dX12_ledBy_25 : decode cX12_ledBy 25 = .ok (.invokevirtual 377, 3) := by decide +kernel
theorem dX12_ledBy_28 : decode cX12_ledBy 28 = .ok (.istore 6, 2) := by decide +kernel
theorem dX12_ledBy_30 : decode cX12_ledBy 30 = .ok (.iload_n 2, 1) := by decide +kernel
theorem dX12_ledBy_31 : decode cX12_ledBy 31 = .ok (.iload 5, 2) := by decide +kernel
theorem dX12_ledBy_33 : decode cX12_ledBy 33 = .ok (.ishr, 1) := by decide +kernel
theorem dX12_ledBy_34 : decode cX12_ledBy 34 = .ok (.iconst 1, 1) := by decide +kernel
theorem dX12_ledBy_35 : decode cX12_ledBy 35 = .ok (.iand, 1) := by decide +kernel
theorem dX12_ledBy_36 : decode cX12_ledBy 36 = .ok (.iconst 1, 1) := by decide +kernel
theorem dX12_ledBy_37 : decode cX12_ledBy 37 = .ok (.if_icmp .ne 8, 3) := by decide +kernel
theorem dX12_ledBy_40 : decode cX12_ledBy 40 = .ok (.iload 6, 2) := by decide +kernel
theorem dX12_ledBy_42 : decode cX12_ledBy 42 = .ok (.goto 9, 3) := by decide +kernel
theorem dX12_ledBy_45 : decode cX12_ledBy 45 = .ok (.sipush 1000, 3) := by decide +kernel
theorem dX12_ledBy_48 : decode cX12_ledBy 48 = .ok (.iload 6, 2) := by decide +kernel
theorem dX12_ledBy_50 : decode cX12_ledBy 50 = .ok (.isub, 1) := by decide +kernel
theorem dX12_ledBy_51 : decode cX12_ledBy 51 = .ok (.istore 7, 2) := by decide +kernel
theorem dX12_ledBy_53 : decode cX12_ledBy 53 = .ok (.iload 4, 2) := by decide +kernel
theorem dX12_ledBy_55 : decode cX12_ledBy 55 = .ok (.sipush 1000, 3) := by decide +kernel
theorem dX12_ledBy_58 : decode cX12_ledBy 58 = .ok (.idiv, 1) := by decide +kernel
theorem dX12_ledBy_59 : decode cX12_ledBy 59 = .ok (.iload 7, 2) := by decide +kernel
theorem dX12_ledBy_61 : decode cX12_ledBy 61 = .ok (.imul, 1) := by decide +kernel
theorem dX12_ledBy_62 : decode cX12_ledBy 62 = .ok (.iload 4, 2) := by decide +kernel
theorem dX12_ledBy_64 : decode cX12_ledBy 64 = .ok (.sipush 1000, 3) := by decide +kernel
theorem dX12_ledBy_67 : decode cX12_ledBy 67 = .ok (.irem, 1) := by decide +kernel
theorem dX12_ledBy_68 : decode cX12_ledBy 68 = .ok (.iload 7, 2) := by decide +kernel
theorem dX12_ledBy_70 : decode cX12_ledBy 70 = .ok (.imul, 1) := by decide +kernel
theorem dX12_ledBy_71 : decode cX12_ledBy 71 = .ok (.sipush 1000, 3) := by decide +kernel
theorem dX12_ledBy_74 : decode cX12_ledBy 74 = .ok (.idiv, 1) := by decide +kernel
theorem dX12_ledBy_75 : decode cX12_ledBy 75 = .ok (.iadd, 1) := by decide +kernel
theorem dX12_ledBy_76 : decode cX12_ledBy 76 = .ok (.istore 4, 2) := by decide +kernel
theorem dX12_ledBy_78 : decode cX12_ledBy 78 = .ok (.iinc 5 1, 3) := by decide +kernel
theorem dX12_ledBy_81 : decode cX12_ledBy 81 = .ok (.goto (-73), 3) := by decide +kernel
theorem dX12_ledBy_84 : decode cX12_ledBy 84 = .ok (.iload 4, 2) := by decide +kernel
theorem dX12_ledBy_86 : decode cX12_ledBy 86 = .ok (.ireturn, 1) := by decide +kernel
theorem dX12_led_0 : decode cX12_led 0 = .ok (.iload_n 1, 1) := by decide +kernel
theorem dX12_led_1 : decode cX12_led 1 = .ok (.iconst 0, 1) := by decide +kernel
theorem dX12_led_2 : decode cX12_led 2 = .ok (.iconst 1, 1) := by decide +kernel
theorem dX12_led_3 : decode cX12_led 3 = .ok (.aload_n 0, 1) := by decide +kernel
theorem dX12_led_4 : decode cX12_led 4 = .ok (.getfield 7, 3) := by decide +kernel
theorem dX12_led_7 : decode cX12_led 7 = .ok (.bipush 86, 2) := by decide +kernel
theorem dX12_led_9 : decode cX12_led 9 = .ok (.iaload, 1) := by decide +kernel
theorem dX12_led_10 : decode cX12_led 10 = .ok (.ishl, 1) := by decide +kernel
theorem dX12_led_11 : decode cX12_led 11 = .ok (.iconst 1, 1) := by decide +kernel
theorem dX12_led_12 : decode cX12_led 12 = .ok (.isub, 1) := by decide +kernel
theorem dX12_led_13 : decode cX12_led 13 = .ok (.invokestatic 56, 3) := by decide +kernel
theorem dX12_led_16 : decode cX12_led 16 = .ok (.ifCond .eq 22, 3) := by decide +kernel
theorem dX12_led_19 : decode cX12_led 19 = .ok (.iload_n 2, 1) := by decide +kernel
theorem dX12_led_20 : decode cX12_led 20 = .ok (.iconst 1, 1) := by decide +kernel
theorem dX12_led_21 : decode cX12_led 21 = .ok (.bipush 24, 2) := by decide +kernel
theorem dX12_led_23 : decode cX12_led 23 = .ok (.invokestatic 56, 3) := by decide +kernel
theorem dX12_led_26 : decode cX12_led 26 = .ok (.ifCond .eq 12, 3) := by decide +kernel
theorem dX12_led_29 : decode cX12_led 29 = .ok (.iload_n 3, 1) := by decide +kernel
theorem dX12_led_30 : decode cX12_led 30 = .ok (.iconst 0, 1) := by decide +kernel
theorem dX12_led_31 : decode cX12_led 31 = .ok (.iconst 1, 1) := by decide +kernel
theorem dX12_led_32 : decode cX12_led 32 = .ok (.invokestatic 56, 3) := by decide +kernel
theorem dX12_led_35 : decode cX12_led 35 = .ok (.ifCond .ne 5, 3) := by decide +kernel
theorem dX12_led_38 : decode cX12_led 38 = .ok (.iconst (-1), 1) := by decide +kernel
theorem dX12_led_39 : decode cX12_led 39 = .ok (.ireturn, 1) := by decide +kernel
theorem dX12_led_40 : decode cX12_led 40 = .ok (.iconst (-1), 1) := by decide +kernel
theorem dX12_led_41 : decode cX12_led 41 = .ok (.istore 4, 2) := by decide +kernel
theorem dX12_led_43 : decode cX12_led 43 = .ok (.iconst (-1), 1) := by decide +kernel
theorem dX12_led_44 : decode cX12_led 44 = .ok (.istore 5, 2) := by decide +kernel
theorem dX12_led_46 : decode cX12_led 46 = .ok (.iconst 0, 1) := by decide +kernel
theorem dX12_led_47 : decode cX12_led 47 = .ok (.istore 6, 2) := by decide +kernel
theorem dX12_led_49 : decode cX12_led 49 = .ok (.iload 6, 2) := by decide +kernel
theorem dX12_led_51 : decode cX12_led 51 = .ok (.aload_n 0, 1) := by decide +kernel
theorem dX12_led_52 : decode cX12_led 52 = .ok (.getfield 7, 3) := by decide +kernel
theorem dX12_led_55 : decode cX12_led 55 = .ok (.bipush 87, 2) := by decide +kernel
theorem dX12_led_57 : decode cX12_led 57 = .ok (.iaload, 1) := by decide +kernel
theorem dX12_led_58 : decode cX12_led 58 = .ok (.if_icmp .ge 37, 3) := by decide +kernel
theorem dX12_led_61 : decode cX12_led 61 = .ok (.aload_n 0, 1) := by decide +kernel
theorem dX12_led_62 : decode cX12_led 62 = .ok (.iload 6, 2) := by decide +kernel
theorem dX12_led_64 : decode cX12_led 64 = .ok (.iload_n 1, 1) := by decide +kernel
theorem dX12_led_65 : decode cX12_led 65 = .ok (.iload_n 2, 1) := by decide +kernel
theorem dX12_led_66 : decode cX12_led 66 = .ok (.invokevirtual 434, 3) := by decide +kernel
theorem dX12_led_69 : decode cX12_led 69 = .ok (.istore 7, 2) := by decide +kernel
theorem dX12_led_71 : decode cX12_led 71 = .ok (.iload 7, 2) := by decide +kernel
theorem dX12_led_73 : decode cX12_led 73 = .ok (.iload 5, 2) := by decide +kernel
theorem dX12_led_75 : decode cX12_led 75 = .ok (.if_icmp .gt 6, 3) := by decide +kernel
theorem dX12_led_78 : decode cX12_led 78 = .ok (.goto 11, 3) := by decide +kernel
theorem dX12_led_81 : decode cX12_led 81 = .ok (.iload 7, 2) := by decide +kernel
theorem dX12_led_83 : decode cX12_led 83 = .ok (.istore 5, 2) := by decide +kernel
theorem dX12_led_85 : decode cX12_led 85 = .ok (.iload 6, 2) := by decide +kernel
theorem dX12_led_87 : decode cX12_led 87 = .ok (.istore 4, 2) := by decide +kernel
theorem dX12_led_89 : decode cX12_led 89 = .ok (.iinc 6 1, 3) := by decide +kernel
theorem dX12_led_92 : decode cX12_led 92 = .ok (.goto (-43), 3) := by decide +kernel
theorem dX12_led_95 : decode cX12_led 95 = .ok (.iload_n 3, 1) := by decide +kernel
theorem dX12_led_96 : decode cX12_led 96 = .ok (.ifCond .ne 8, 3) := by decide +kernel
theorem dX12_led_99 : decode cX12_led 99 = .ok (.iload 4, 2) := by decide +kernel
theorem dX12_led_101 : decode cX12_led 101 = .ok (.goto 5, 3) := by decide +kernel
theorem dX12_led_104 : decode cX12_led 104 = .ok (.iload 5, 2) := by decide +kernel
theorem dX12_led_106 : decode cX12_led 106 = .ok (.ireturn, 1) := by decide +kernel
theorem dX12_leastBut_0 : decode cX12_leastBut 0 = .ok (.iconst 0, 1) := by decide +kernel
theorem dX12_leastBut_1 : decode cX12_leastBut 1 = .ok (.istore_n 2, 1) := by decide +kernel
theorem dX12_leastBut_2 : decode cX12_leastBut 2 = .ok (.iload_n 2, 1) := by decide +kernel
theorem dX12_leastBut_3 : decode cX12_leastBut 3 = .ok (.iload_n 0, 1) := by decide +kernel
theorem dX12_leastBut_4 : decode cX12_leastBut 4 = .ok (.if_icmp .eq 8, 3) := by decide +kernel
theorem dX12_leastBut_7 : decode cX12_leastBut 7 = .ok (.iload_n 2, 1) := by decide +kernel
theorem dX12_leastBut_8 : decode cX12_leastBut 8 = .ok (.iload_n 1, 1) := by decide +kernel
theorem dX12_leastBut_9 : decode cX12_leastBut 9 = .ok (.if_icmp .ne 9, 3) := by decide +kernel
theorem dX12_leastBut_12 : decode cX12_leastBut 12 = .ok (.iinc 2 1, 3) := by decide +kernel
theorem dX12_leastBut_15 : decode cX12_leastBut 15 = .ok (.goto (-13), 3) := by decide +kernel
theorem dX12_leastBut_18 : decode cX12_leastBut 18 = .ok (.iload_n 2, 1) := by decide +kernel
theorem dX12_leastBut_19 : decode cX12_leastBut 19 = .ok (.ireturn, 1) := by decide +kernel
theorem dX12_game_0 : decode cX12_game 0 = .ok (.iload_n 1, 1) := by decide +kernel
theorem dX12_game_1 : decode cX12_game 1 = .ok (.iconst 0, 1) := by decide +kernel
theorem dX12_game_2 : decode cX12_game 2 = .ok (.iconst 1, 1) := by decide +kernel
theorem dX12_game_3 : decode cX12_game 3 = .ok (.invokestatic 56, 3) := by decide +kernel
theorem dX12_game_6 : decode cX12_game 6 = .ok (.ifCond .ne 5, 3) := by decide +kernel
theorem dX12_game_9 : decode cX12_game 9 = .ok (.iconst (-1), 1) := by decide +kernel
theorem dX12_game_10 : decode cX12_game 10 = .ok (.ireturn, 1) := by decide +kernel
theorem dX12_game_11 : decode cX12_game 11 = .ok (.aload_n 0, 1) := by decide +kernel
theorem dX12_game_12 : decode cX12_game 12 = .ok (.getfield 53, 3) := by decide +kernel
theorem dX12_game_15 : decode cX12_game 15 = .ok (.iconst 0, 1) := by decide +kernel
theorem dX12_game_16 : decode cX12_game 16 = .ok (.iconst 0, 1) := by decide +kernel
theorem dX12_game_17 : decode cX12_game 17 = .ok (.iastore, 1) := by decide +kernel
theorem dX12_game_18 : decode cX12_game 18 = .ok (.iconst 1, 1) := by decide +kernel
theorem dX12_game_19 : decode cX12_game 19 = .ok (.istore_n 2, 1) := by decide +kernel
theorem dX12_game_20 : decode cX12_game 20 = .ok (.iload_n 2, 1) := by decide +kernel
theorem dX12_game_21 : decode cX12_game 21 = .ok (.bipush 99, 2) := by decide +kernel
theorem dX12_game_23 : decode cX12_game 23 = .ok (.if_icmp .gt 34, 3) := by decide +kernel
theorem dX12_game_26 : decode cX12_game 26 = .ok (.aload_n 0, 1) := by decide +kernel
theorem dX12_game_27 : decode cX12_game 27 = .ok (.getfield 53, 3) := by decide +kernel
theorem dX12_game_30 : decode cX12_game 30 = .ok (.iload_n 2, 1) := by decide +kernel
theorem dX12_game_31 : decode cX12_game 31 = .ok (.aload_n 0, 1) := by decide +kernel
theorem dX12_game_32 : decode cX12_game 32 = .ok (.getfield 53, 3) := by decide +kernel
theorem dX12_game_35 : decode cX12_game 35 = .ok (.iload_n 2, 1) := by decide +kernel
theorem dX12_game_36 : decode cX12_game 36 = .ok (.iconst 1, 1) := by decide +kernel
theorem dX12_game_37 : decode cX12_game 37 = .ok (.isub, 1) := by decide +kernel
theorem dX12_game_38 : decode cX12_game 38 = .ok (.iaload, 1) := by decide +kernel
theorem dX12_game_39 : decode cX12_game 39 = .ok (.aload_n 0, 1) := by decide +kernel
theorem dX12_game_40 : decode cX12_game 40 = .ok (.getfield 53, 3) := by decide +kernel
theorem dX12_game_43 : decode cX12_game 43 = .ok (.iload_n 2, 1) := by decide +kernel
theorem dX12_game_44 : decode cX12_game 44 = .ok (.iconst 2, 1) := by decide +kernel
theorem dX12_game_45 : decode cX12_game 45 = .ok (.idiv, 1) := by decide +kernel
theorem dX12_game_46 : decode cX12_game 46 = .ok (.iaload, 1) := by decide +kernel
theorem dX12_game_47 : decode cX12_game 47 = .ok (.invokestatic 437, 3) := by decide +kernel
theorem dX12_game_50 : decode cX12_game 50 = .ok (.iastore, 1) := by decide +kernel
theorem dX12_game_51 : decode cX12_game 51 = .ok (.iinc 2 1, 3) := by decide +kernel
theorem dX12_game_54 : decode cX12_game 54 = .ok (.goto (-34), 3) := by decide +kernel
theorem dX12_game_57 : decode cX12_game 57 = .ok (.iconst 0, 1) := by decide +kernel
theorem dX12_game_58 : decode cX12_game 58 = .ok (.istore_n 2, 1) := by decide +kernel
theorem dX12_game_59 : decode cX12_game 59 = .ok (.iconst 0, 1) := by decide +kernel
theorem dX12_game_60 : decode cX12_game 60 = .ok (.istore_n 3, 1) := by decide +kernel
theorem dX12_game_61 : decode cX12_game 61 = .ok (.iload_n 3, 1) := by decide +kernel
theorem dX12_game_62 : decode cX12_game 62 = .ok (.aload_n 0, 1) := by decide +kernel
theorem dX12_game_63 : decode cX12_game 63 = .ok (.getfield 7, 3) := by decide +kernel
theorem dX12_game_66 : decode cX12_game 66 = .ok (.bipush 87, 2) := by decide +kernel
theorem dX12_game_68 : decode cX12_game 68 = .ok (.iaload, 1) := by decide +kernel
theorem dX12_game_69 : decode cX12_game 69 = .ok (.if_icmp .ge 26, 3) := by decide +kernel
theorem dX12_game_72 : decode cX12_game 72 = .ok (.iload_n 2, 1) := by decide +kernel
theorem dX12_game_73 : decode cX12_game 73 = .ok (.aload_n 0, 1) := by decide +kernel
theorem dX12_game_74 : decode cX12_game 74 = .ok (.getfield 53, 3) := by decide +kernel
theorem dX12_game_77 : decode cX12_game 77 = .ok (.aload_n 0, 1) := by decide +kernel
theorem dX12_game_78 : decode cX12_game 78 = .ok (.getfield 7, 3) := by decide +kernel
theorem dX12_game_81 : decode cX12_game 81 = .ok (.bipush 80, 2) := by decide +kernel
theorem dX12_game_83 : decode cX12_game 83 = .ok (.iload_n 3, 1) := by decide +kernel
theorem dX12_game_84 : decode cX12_game 84 = .ok (.iadd, 1) := by decide +kernel
theorem dX12_game_85 : decode cX12_game 85 = .ok (.iaload, 1) := by decide +kernel
theorem dX12_game_86 : decode cX12_game 86 = .ok (.iaload, 1) := by decide +kernel
theorem dX12_game_87 : decode cX12_game 87 = .ok (.ixor, 1) := by decide +kernel
theorem dX12_game_88 : decode cX12_game 88 = .ok (.istore_n 2, 1) := by decide +kernel
theorem dX12_game_89 : decode cX12_game 89 = .ok (.iinc 3 1, 3) := by decide +kernel
theorem dX12_game_92 : decode cX12_game 92 = .ok (.goto (-31), 3) := by decide +kernel
theorem dX12_game_95 : decode cX12_game 95 = .ok (.iconst 0, 1) := by decide +kernel
theorem dX12_game_96 : decode cX12_game 96 = .ok (.istore_n 3, 1) := by decide +kernel
theorem dX12_game_97 : decode cX12_game 97 = .ok (.iload_n 3, 1) := by decide +kernel
theorem dX12_game_98 : decode cX12_game 98 = .ok (.aload_n 0, 1) := by decide +kernel
theorem dX12_game_99 : decode cX12_game 99 = .ok (.getfield 7, 3) := by decide +kernel
theorem dX12_game_102 : decode cX12_game 102 = .ok (.bipush 87, 2) := by decide +kernel
theorem dX12_game_104 : decode cX12_game 104 = .ok (.iaload, 1) := by decide +kernel
theorem dX12_game_105 : decode cX12_game 105 = .ok (.if_icmp .ge 95, 3) := by decide +kernel
theorem dX12_game_108 : decode cX12_game 108 = .ok (.aload_n 0, 1) := by decide +kernel
theorem dX12_game_109 : decode cX12_game 109 = .ok (.getfield 7, 3) := by decide +kernel
theorem dX12_game_112 : decode cX12_game 112 = .ok (.bipush 80, 2) := by decide +kernel
theorem dX12_game_114 : decode cX12_game 114 = .ok (.iload_n 3, 1) := by decide +kernel
theorem dX12_game_115 : decode cX12_game 115 = .ok (.iadd, 1) := by decide +kernel
theorem dX12_game_116 : decode cX12_game 116 = .ok (.iaload, 1) := by decide +kernel
theorem dX12_game_117 : decode cX12_game 117 = .ok (.istore 4, 2) := by decide +kernel
theorem dX12_game_119 : decode cX12_game 119 = .ok (.iload_n 2, 1) := by decide +kernel
theorem dX12_game_120 : decode cX12_game 120 = .ok (.aload_n 0, 1) := by decide +kernel
theorem dX12_game_121 : decode cX12_game 121 = .ok (.getfield 53, 3) := by decide +kernel
theorem dX12_game_124 : decode cX12_game 124 = .ok (.iload 4, 2) := by decide +kernel
theorem dX12_game_126 : decode cX12_game 126 = .ok (.iaload, 1) := by decide +kernel
theorem dX12_game_127 : decode cX12_game 127 = .ok (.ixor, 1) := by decide +kernel
theorem dX12_game_128 : decode cX12_game 128 = .ok (.istore 5, 2) := by decide +kernel
theorem dX12_game_130 : decode cX12_game 130 = .ok (.iload 4, 2) := by decide +kernel
theorem dX12_game_132 : decode cX12_game 132 = .ok (.ifCond .le 30, 3) := by decide +kernel
theorem dX12_game_135 : decode cX12_game 135 = .ok (.aload_n 0, 1) := by decide +kernel
theorem dX12_game_136 : decode cX12_game 136 = .ok (.getfield 53, 3) := by decide +kernel
theorem dX12_game_139 : decode cX12_game 139 = .ok (.iload 4, 2) := by decide +kernel
theorem dX12_game_141 : decode cX12_game 141 = .ok (.iconst 2, 1) := by decide +kernel
theorem dX12_game_142 : decode cX12_game 142 = .ok (.idiv, 1) := by decide +kernel
theorem dX12_game_143 : decode cX12_game 143 = .ok (.iaload, 1) := by decide +kernel
theorem dX12_game_144 : decode cX12_game 144 = .ok (.iload 5, 2) := by decide +kernel
theorem dX12_game_146 : decode cX12_game 146 = .ok (.if_icmp .ne 16, 3) := by decide +kernel
theorem dX12_game_149 : decode cX12_game 149 = .ok (.iload_n 1, 1) := by decide +kernel
theorem dX12_game_150 : decode cX12_game 150 = .ok (.ifCond .ne 7, 3) := by decide +kernel
theorem dX12_game_153 : decode cX12_game 153 = .ok (.iload_n 3, 1) := by decide +kernel
theorem dX12_game_154 : decode cX12_game 154 = .ok (.goto 7, 3) := by decide +kernel
theorem dX12_game_157 : decode cX12_game 157 = .ok (.iload 4, 2) := by decide +kernel
theorem dX12_game_159 : decode cX12_game 159 = .ok (.iconst 2, 1) := by decide +kernel
theorem dX12_game_160 : decode cX12_game 160 = .ok (.idiv, 1) := by decide +kernel
theorem dX12_game_161 : decode cX12_game 161 = .ok (.ireturn, 1) := by decide +kernel
theorem dX12_game_162 : decode cX12_game 162 = .ok (.iload 4, 2) := by decide +kernel
theorem dX12_game_164 : decode cX12_game 164 = .ok (.ifCond .le 30, 3) := by decide +kernel
theorem dX12_game_167 : decode cX12_game 167 = .ok (.aload_n 0, 1) := by decide +kernel
theorem dX12_game_168 : decode cX12_game 168 = .ok (.getfield 53, 3) := by decide +kernel
theorem dX12_game_171 : decode cX12_game 171 = .ok (.iload 4, 2) := by decide +kernel
theorem dX12_game_173 : decode cX12_game 173 = .ok (.iconst 1, 1) := by decide +kernel
theorem dX12_game_174 : decode cX12_game 174 = .ok (.isub, 1) := by decide +kernel
theorem dX12_game_175 : decode cX12_game 175 = .ok (.iaload, 1) := by decide +kernel
theorem dX12_game_176 : decode cX12_game 176 = .ok (.iload 5, 2) := by decide +kernel
theorem dX12_game_178 : decode cX12_game 178 = .ok (.if_icmp .ne 16, 3) := by decide +kernel
theorem dX12_game_181 : decode cX12_game 181 = .ok (.iload_n 1, 1) := by decide +kernel
theorem dX12_game_182 : decode cX12_game 182 = .ok (.ifCond .ne 7, 3) := by decide +kernel
theorem dX12_game_185 : decode cX12_game 185 = .ok (.iload_n 3, 1) := by decide +kernel
theorem dX12_game_186 : decode cX12_game 186 = .ok (.goto 7, 3) := by decide +kernel
theorem dX12_game_189 : decode cX12_game 189 = .ok (.iload 4, 2) := by decide +kernel
theorem dX12_game_191 : decode cX12_game 191 = .ok (.iconst 1, 1) := by decide +kernel
theorem dX12_game_192 : decode cX12_game 192 = .ok (.isub, 1) := by decide +kernel
theorem dX12_game_193 : decode cX12_game 193 = .ok (.ireturn, 1) := by decide +kernel
theorem dX12_game_194 : decode cX12_game 194 = .ok (.iinc 3 1, 3) := by decide +kernel
theorem dX12_game_197 : decode cX12_game 197 = .ok (.goto (-100), 3) := by decide +kernel
theorem dX12_game_200 : decode cX12_game 200 = .ok (.iconst (-1), 1) := by decide +kernel
theorem dX12_game_201 : decode cX12_game 201 = .ok (.ireturn, 1) := by decide +kernel
theorem dX12_heedersOf_0 : decode cX12_heedersOf 0 = .ok (.iconst 0, 1) := by decide +kernel
theorem dX12_heedersOf_1 : decode cX12_heedersOf 1 = .ok (.istore_n 2, 1) := by decide +kernel
theorem dX12_heedersOf_2 : decode cX12_heedersOf 2 = .ok (.iconst 0, 1) := by decide +kernel
theorem dX12_heedersOf_3 : decode cX12_heedersOf 3 = .ok (.istore_n 3, 1) := by decide +kernel
theorem dX12_heedersOf_4 : decode cX12_heedersOf 4 = .ok (.iload_n 3, 1) := by decide +kernel
theorem dX12_heedersOf_5 : decode cX12_heedersOf 5 = .ok (.aload_n 0, 1) := by decide +kernel
theorem dX12_heedersOf_6 : decode cX12_heedersOf 6 = .ok (.getfield 7, 3) := by decide +kernel
theorem dX12_heedersOf_9 : decode cX12_heedersOf 9 = .ok (.bipush 86, 2) := by decide +kernel
theorem dX12_heedersOf_11 : decode cX12_heedersOf 11 = .ok (.iaload, 1) := by decide +kernel
theorem dX12_heedersOf_12 : decode cX12_heedersOf 12 = .ok (.if_icmp .ge 26, 3) := by decide +kernel
theorem dX12_heedersOf_15 : decode cX12_heedersOf 15 = .ok (.iload_n 2, 1) := by decide +kernel
theorem dX12_heedersOf_16 : decode cX12_heedersOf 16 = .ok (.aload_n 0, 1) := by decide +kernel
theorem dX12_heedersOf_17 : decode cX12_heedersOf 17 = .ok (.getfield 7, 3) := by decide +kernel
theorem dX12_heedersOf_20 : decode cX12_heedersOf 20 = .ok (.sipush 129, 3) := by decide +kernel
theorem dX12_heedersOf_23 : decode cX12_heedersOf 23 = .ok (.iload_n 3, 1) := by decide +kernel
theorem dX12_heedersOf_24 : decode cX12_heedersOf 24 = .ok (.iadd, 1) := by decide +kernel
theorem dX12_heedersOf_25 : decode cX12_heedersOf 25 = .ok (.iaload, 1) := by decide +kernel
theorem dX12_heedersOf_26 : decode cX12_heedersOf 26 = .ok (.iload_n 1, 1) := by decide +kernel
theorem dX12_heedersOf_27 : decode cX12_heedersOf 27 = .ok (.ishr, 1) := by decide +kernel
theorem dX12_heedersOf_28 : decode cX12_heedersOf 28 = .ok (.iconst 1, 1) := by decide +kernel
theorem dX12_heedersOf_29 : decode cX12_heedersOf 29 = .ok (.iand, 1) := by decide +kernel
theorem dX12_heedersOf_30 : decode cX12_heedersOf 30 = .ok (.iadd, 1) := by decide +kernel
theorem dX12_heedersOf_31 : decode cX12_heedersOf 31 = .ok (.istore_n 2, 1) := by decide +kernel
theorem dX12_heedersOf_32 : decode cX12_heedersOf 32 = .ok (.iinc 3 1, 3) := by decide +kernel
theorem dX12_heedersOf_35 : decode cX12_heedersOf 35 = .ok (.goto (-31), 3) := by decide +kernel
theorem dX12_heedersOf_38 : decode cX12_heedersOf 38 = .ok (.iload_n 2, 1) := by decide +kernel
theorem dX12_heedersOf_39 : decode cX12_heedersOf 39 = .ok (.ireturn, 1) := by decide +kernel
theorem dX12_share_0 : decode cX12_share 0 = .ok (.iload_n 1, 1) := by decide +kernel
theorem dX12_share_1 : decode cX12_share 1 = .ok (.iconst 0, 1) := by decide +kernel
theorem dX12_share_2 : decode cX12_share 2 = .ok (.sipush 9999, 3) := by decide +kernel
theorem dX12_share_5 : decode cX12_share 5 = .ok (.invokestatic 56, 3) := by decide +kernel
theorem dX12_share_8 : decode cX12_share 8 = .ok (.ifCond .eq 11, 3) := by decide +kernel
theorem dX12_share_11 : decode cX12_share 11 = .ok (.aload_n 0, 1) := by decide +kernel
theorem dX12_share_12 : decode cX12_share 12 = .ok (.iload_n 2, 1) := by decide +kernel
theorem dX12_share_13 : decode cX12_share 13 = .ok (.invokevirtual 72, 3) := by decide +kernel
theorem dX12_share_16 : decode cX12_share 16 = .ok (.ifCond .ne 5, 3) := by decide +kernel
theorem dX12_share_19 : decode cX12_share 19 = .ok (.iconst (-1), 1) := by decide +kernel
theorem dX12_share_20 : decode cX12_share 20 = .ok (.ireturn, 1) := by decide +kernel
theorem dX12_share_21 : decode cX12_share 21 = .ok (.iconst 0, 1) := by decide +kernel
theorem dX12_share_22 : decode cX12_share 22 = .ok (.istore_n 3, 1) := by decide +kernel
theorem dX12_share_23 : decode cX12_share 23 = .ok (.iconst 0, 1) := by decide +kernel
theorem dX12_share_24 : decode cX12_share 24 = .ok (.istore 4, 2) := by decide +kernel
theorem dX12_share_26 : decode cX12_share 26 = .ok (.iload 4, 2) := by decide +kernel
theorem dX12_share_28 : decode cX12_share 28 = .ok (.aload_n 0, 1) := by decide +kernel
theorem dX12_share_29 : decode cX12_share 29 = .ok (.getfield 7, 3) := by decide +kernel
theorem dX12_share_32 : decode cX12_share 32 = .ok (.bipush 86, 2) := by decide +kernel
theorem dX12_share_34 : decode cX12_share 34 = .ok (.iaload, 1) := by decide +kernel
theorem dX12_share_35 : decode cX12_share 35 = .ok (.if_icmp .ge 18, 3) := by decide +kernel
theorem dX12_share_38 : decode cX12_share 38 = .ok (.iload_n 3, 1) := by decide +kernel
theorem dX12_share_39 : decode cX12_share 39 = .ok (.aload_n 0, 1) := by decide +kernel
theorem dX12_share_40 : decode cX12_share 40 = .ok (.iload 4, 2) := by decide +kernel
theorem dX12_share_42 : decode cX12_share 42 = .ok (.invokevirtual 440, 3) := by decide +kernel
theorem dX12_share_45 : decode cX12_share 45 = .ok (.iadd, 1) := by decide +kernel
theorem dX12_share_46 : decode cX12_share 46 = .ok (.istore_n 3, 1) := by decide +kernel
theorem dX12_share_47 : decode cX12_share 47 = .ok (.iinc 4 1, 3) := by decide +kernel
theorem dX12_share_50 : decode cX12_share 50 = .ok (.goto (-24), 3) := by decide +kernel
theorem dX12_share_53 : decode cX12_share 53 = .ok (.iload_n 3, 1) := by decide +kernel
theorem dX12_share_54 : decode cX12_share 54 = .ok (.ifCond .eq 11, 3) := by decide +kernel
theorem dX12_share_57 : decode cX12_share 57 = .ok (.aload_n 0, 1) := by decide +kernel
theorem dX12_share_58 : decode cX12_share 58 = .ok (.iload_n 2, 1) := by decide +kernel
theorem dX12_share_59 : decode cX12_share 59 = .ok (.invokevirtual 440, 3) := by decide +kernel
theorem dX12_share_62 : decode cX12_share 62 = .ok (.ifCond .ne 5, 3) := by decide +kernel
theorem dX12_share_65 : decode cX12_share 65 = .ok (.iconst 0, 1) := by decide +kernel
theorem dX12_share_66 : decode cX12_share 66 = .ok (.ireturn, 1) := by decide +kernel
theorem dX12_share_67 : decode cX12_share 67 = .ok (.iload_n 1, 1) := by decide +kernel
theorem dX12_share_68 : decode cX12_share 68 = .ok (.istore 4, 2) := by decide +kernel
theorem dX12_share_70 : decode cX12_share 70 = .ok (.iconst 0, 1) := by decide +kernel
theorem dX12_share_71 : decode cX12_share 71 = .ok (.istore 5, 2) := by decide +kernel
theorem dX12_share_73 : decode cX12_share 73 = .ok (.iconst 0, 1) := by decide +kernel
theorem dX12_share_74 : decode cX12_share 74 = .ok (.istore 6, 2) := by decide +kernel
theorem dX12_share_76 : decode cX12_share 76 = .ok (.iload 6, 2) := by decide +kernel
theorem dX12_share_78 : decode cX12_share 78 = .ok (.aload_n 0, 1) := by decide +kernel
theorem dX12_share_79 : decode cX12_share 79 = .ok (.getfield 7, 3) := by decide +kernel
theorem dX12_share_82 : decode cX12_share 82 = .ok (.bipush 86, 2) := by decide +kernel
theorem dX12_share_84 : decode cX12_share 84 = .ok (.iaload, 1) := by decide +kernel
theorem dX12_share_85 : decode cX12_share 85 = .ok (.if_icmp .ge 49, 3) := by decide +kernel
theorem dX12_share_88 : decode cX12_share 88 = .ok (.iload 4, 2) := by decide +kernel
theorem dX12_share_90 : decode cX12_share 90 = .ok (.iload_n 1, 1) := by decide +kernel
theorem dX12_share_91 : decode cX12_share 91 = .ok (.aload_n 0, 1) := by decide +kernel
theorem dX12_share_92 : decode cX12_share 92 = .ok (.iload 6, 2) := by decide +kernel
theorem dX12_share_94 : decode cX12_share 94 = .ok (.invokevirtual 440, 3) := by decide +kernel
theorem dX12_share_97 : decode cX12_share 97 = .ok (.imul, 1) := by decide +kernel
theorem dX12_share_98 : decode cX12_share 98 = .ok (.iload_n 3, 1) := by decide +kernel
theorem dX12_share_99 : decode cX12_share 99 = .ok (.idiv, 1) := by decide +kernel
theorem dX12_share_100 : decode cX12_share 100 = .ok (.isub, 1) := by decide +kernel
theorem dX12_share_101 : decode cX12_share 101 = .ok (.istore 4, 2) := by decide +kernel
theorem dX12_share_103 : decode cX12_share 103 = .ok (.iload 5, 2) := by decide +kernel
theorem dX12_share_105 : decode cX12_share 105 = .ok (.iload 6, 2) := by decide +kernel
theorem dX12_share_107 : decode cX12_share 107 = .ok (.iload_n 2, 1) := by decide +kernel
theorem dX12_share_108 : decode cX12_share 108 = .ok (.if_icmp .ge 16, 3) := by decide +kernel
theorem dX12_share_111 : decode cX12_share 111 = .ok (.aload_n 0, 1) := by decide +kernel
theorem dX12_share_112 : decode cX12_share 112 = .ok (.iload 6, 2) := by decide +kernel
theorem dX12_share_114 : decode cX12_share 114 = .ok (.invokevirtual 440, 3) := by decide +kernel
theorem dX12_share_117 : decode cX12_share 117 = .ok (.ifCond .le 7, 3) := by decide +kernel
theorem dX12_share_120 : decode cX12_share 120 = .ok (.iconst 1, 1) := by decide +kernel
theorem dX12_share_121 : decode cX12_share 121 = .ok (.goto 4, 3) := by decide +kernel
theorem dX12_share_124 : decode cX12_share 124 = .ok (.iconst 0, 1) := by decide +kernel
theorem dX12_share_125 : decode cX12_share 125 = .ok (.iadd, 1) := by decide +kernel
theorem dX12_share_126 : decode cX12_share 126 = .ok (.istore 5, 2) := by decide +kernel
theorem dX12_share_128 : decode cX12_share 128 = .ok (.iinc 6 1, 3) := by decide +kernel
theorem dX12_share_131 : decode cX12_share 131 = .ok (.goto (-55), 3) := by decide +kernel
theorem dX12_share_134 : decode cX12_share 134 = .ok (.iload_n 1, 1) := by decide +kernel
theorem dX12_share_135 : decode cX12_share 135 = .ok (.aload_n 0, 1) := by decide +kernel
theorem dX12_share_136 : decode cX12_share 136 = .ok (.iload_n 2, 1) := by decide +kernel
theorem dX12_share_137 : decode cX12_share 137 = .ok (.invokevirtual 440, 3) := by decide +kernel
theorem dX12_share_140 : decode cX12_share 140 = .ok (.imul, 1) := by decide +kernel
theorem dX12_share_141 : decode cX12_share 141 = .ok (.iload_n 3, 1) := by decide +kernel
theorem dX12_share_142 : decode cX12_share 142 = .ok (.idiv, 1) := by decide +kernel
theorem dX12_share_143 : decode cX12_share 143 = .ok (.iload 5, 2) := by decide +kernel
theorem dX12_share_145 : decode cX12_share 145 = .ok (.iload 4, 2) := by decide +kernel
theorem dX12_share_147 : decode cX12_share 147 = .ok (.if_icmp .ge 7, 3) := by decide +kernel
theorem dX12_share_150 : decode cX12_share 150 = .ok (.iconst 1, 1) := by decide +kernel
theorem dX12_share_151 : decode cX12_share 151 = .ok (.goto 4, 3) := by decide +kernel
theorem dX12_share_154 : decode cX12_share 154 = .ok (.iconst 0, 1) := by decide +kernel
theorem dX12_share_155 : decode cX12_share 155 = .ok (.iadd, 1) := by decide +kernel
theorem dX12_share_156 : decode cX12_share 156 = .ok (.ireturn, 1) := by decide +kernel
theorem dX12_lineFrom_0 : decode cX12_lineFrom 0 = .ok (.iconst 0, 1) := by decide +kernel
theorem dX12_lineFrom_1 : decode cX12_lineFrom 1 = .ok (.istore_n 2, 1) := by decide +kernel
theorem dX12_lineFrom_2 : decode cX12_lineFrom 2 = .ok (.iload_n 2, 1) := by decide +kernel
theorem dX12_lineFrom_3 : decode cX12_lineFrom 3 = .ok (.aload_n 0, 1) := by decide +kernel
theorem dX12_lineFrom_4 : decode cX12_lineFrom 4 = .ok (.getfield 7, 3) := by decide +kernel
theorem dX12_lineFrom_7 : decode cX12_lineFrom 7 = .ok (.bipush 92, 2) := by decide +kernel
theorem dX12_lineFrom_9 : decode cX12_lineFrom 9 = .ok (.iaload, 1) := by decide +kernel
theorem dX12_lineFrom_10 : decode cX12_lineFrom 10 = .ok (.if_icmp .ge 33, 3) := by decide +kernel
theorem dX12_lineFrom_13 : decode cX12_lineFrom 13 = .ok (.aload_n 0, 1) := by decide +kernel
theorem dX12_lineFrom_14 : decode cX12_lineFrom 14 = .ok (.getfield 7, 3) := by decide +kernel
theorem dX12_lineFrom_17 : decode cX12_lineFrom 17 = .ok (.sipush 205, 3) := by decide +kernel
theorem dX12_lineFrom_20 : decode cX12_lineFrom 20 = .ok (.iconst 3, 1) := by decide +kernel
theorem dX12_lineFrom_21 : decode cX12_lineFrom 21 = .ok (.iload_n 2, 1) := by decide +kernel
theorem dX12_lineFrom_22 : decode cX12_lineFrom 22 = .ok (.imul, 1) := by decide +kernel
theorem dX12_lineFrom_23 : decode cX12_lineFrom 23 = .ok (.iadd, 1) := by decide +kernel
theorem dX12_lineFrom_24 : decode cX12_lineFrom 24 = .ok (.iaload, 1) := by decide +kernel
theorem dX12_lineFrom_25 : decode cX12_lineFrom 25 = .ok (.iload_n 1, 1) := by decide +kernel
theorem dX12_lineFrom_26 : decode cX12_lineFrom 26 = .ok (.if_icmp .ne 11, 3) := by decide +kernel
theorem dX12_lineFrom_29 : decode cX12_lineFrom 29 = .ok (.sipush 205, 3) := by decide +kernel
theorem dX12_lineFrom_32 : decode cX12_lineFrom 32 = .ok (.iconst 3, 1) := by decide +kernel
theorem dX12_lineFrom_33 : decode cX12_lineFrom 33 = .ok (.iload_n 2, 1) := by decide +kernel
theorem dX12_lineFrom_34 : decode cX12_lineFrom 34 = .ok (.imul, 1) := by decide +kernel
theorem dX12_lineFrom_35 : decode cX12_lineFrom 35 = .ok (.iadd, 1) := by decide +kernel
theorem dX12_lineFrom_36 : decode cX12_lineFrom 36 = .ok (.ireturn, 1) := by decide +kernel
theorem dX12_lineFrom_37 : decode cX12_lineFrom 37 = .ok (.iinc 2 1, 3) := by decide +kernel
theorem dX12_lineFrom_40 : decode cX12_lineFrom 40 = .ok (.goto (-38), 3) := by decide +kernel
theorem dX12_lineFrom_43 : decode cX12_lineFrom 43 = .ok (.iconst (-1), 1) := by decide +kernel
theorem dX12_lineFrom_44 : decode cX12_lineFrom 44 = .ok (.ireturn, 1) := by decide +kernel
theorem dX12_campAt_0 : decode cX12_campAt 0 = .ok (.iload_n 1, 1) := by decide +kernel
theorem dX12_campAt_1 : decode cX12_campAt 1 = .ok (.istore_n 3, 1) := by decide +kernel
theorem dX12_campAt_2 : decode cX12_campAt 2 = .ok (.iload_n 2, 1) := by decide +kernel
theorem dX12_campAt_3 : decode cX12_campAt 3 = .ok (.istore 4, 2) := by decide +kernel
theorem dX12_campAt_5 : decode cX12_campAt 5 = .ok (.aload_n 0, 1) := by decide +kernel
theorem dX12_campAt_6 : decode cX12_campAt 6 = .ok (.iload_n 3, 1) := by decide +kernel
theorem dX12_campAt_7 : decode cX12_campAt 7 = .ok (.invokevirtual 443, 3) := by decide +kernel
theorem dX12_campAt_10 : decode cX12_campAt 10 = .ok (.istore 5, 2) := by decide +kernel
theorem dX12_campAt_12 : decode cX12_campAt 12 = .ok (.iload 4, 2) := by decide +kernel
theorem dX12_campAt_14 : decode cX12_campAt 14 = .ok (.ifCond .le 59, 3) := by decide +kernel
theorem dX12_campAt_17 : decode cX12_campAt 17 = .ok (.iload 5, 2) := by decide +kernel
theorem dX12_campAt_19 : decode cX12_campAt 19 = .ok (.iconst (-1), 1) := by decide +kernel
theorem dX12_campAt_20 : decode cX12_campAt 20 = .ok (.if_icmp .eq 53, 3) := by decide +kernel
theorem dX12_campAt_23 : decode cX12_campAt 23 = .ok (.aload_n 0, 1) := by decide +kernel
theorem dX12_campAt_24 : decode cX12_campAt 24 = .ok (.getfield 7, 3) := by decide +kernel
theorem dX12_campAt_27 : decode cX12_campAt 27 = .ok (.iload 5, 2) := by decide +kernel
theorem dX12_campAt_29 : decode cX12_campAt 29 = .ok (.iconst 2, 1) := by decide +kernel
theorem dX12_campAt_30 : decode cX12_campAt 30 = .ok (.iadd, 1) := by decide +kernel
theorem dX12_campAt_31 : decode cX12_campAt 31 = .ok (.iaload, 1) := by decide +kernel
theorem dX12_campAt_32 : decode cX12_campAt 32 = .ok (.iload 4, 2) := by decide +kernel
theorem dX12_campAt_34 : decode cX12_campAt 34 = .ok (.if_icmp .le 5, 3) := by decide +kernel
theorem dX12_campAt_37 : decode cX12_campAt 37 = .ok (.iconst (-1), 1) := by decide +kernel
theorem dX12_campAt_38 : decode cX12_campAt 38 = .ok (.ireturn, 1) := by decide +kernel
theorem dX12_campAt_39 : decode cX12_campAt 39 = .ok (.iload 4, 2) := by decide +kernel
theorem dX12_campAt_41 : decode cX12_campAt 41 = .ok (.aload_n 0, 1) := by decide +kernel
theorem dX12_campAt_42 : decode cX12_campAt 42 = .ok (.getfield 7, 3) := by decide +kernel
theorem dX12_campAt_45 : decode cX12_campAt 45 = .ok (.iload 5, 2) := by decide +kernel
theorem dX12_campAt_47 : decode cX12_campAt 47 = .ok (.iconst 2, 1) := by decide +kernel
theorem dX12_campAt_48 : decode cX12_campAt 48 = .ok (.iadd, 1) := by decide +kernel
theorem dX12_campAt_49 : decode cX12_campAt 49 = .ok (.iaload, 1) := by decide +kernel
theorem dX12_campAt_50 : decode cX12_campAt 50 = .ok (.isub, 1) := by decide +kernel
theorem dX12_campAt_51 : decode cX12_campAt 51 = .ok (.istore 4, 2) := by decide +kernel
theorem dX12_campAt_53 : decode cX12_campAt 53 = .ok (.aload_n 0, 1) := by decide +kernel
theorem dX12_campAt_54 : decode cX12_campAt 54 = .ok (.getfield 7, 3) := by decide +kernel
theorem dX12_campAt_57 : decode cX12_campAt 57 = .ok (.iload 5, 2) := by decide +kernel
theorem dX12_campAt_59 : decode cX12_campAt 59 = .ok (.iconst 1, 1) := by decide +kernel
theorem dX12_campAt_60 : decode cX12_campAt 60 = .ok (.iadd, 1) := by decide +kernel
theorem dX12_campAt_61 : decode cX12_campAt 61 = .ok (.iaload, 1) := by decide +kernel
theorem dX12_campAt_62 : decode cX12_campAt 62 = .ok (.istore_n 3, 1) := by decide +kernel
theorem dX12_campAt_63 : decode cX12_campAt 63 = .ok (.aload_n 0, 1) := by decide +kernel
theorem dX12_campAt_64 : decode cX12_campAt 64 = .ok (.iload_n 3, 1) := by decide +kernel
theorem dX12_campAt_65 : decode cX12_campAt 65 = .ok (.invokevirtual 443, 3) := by decide +kernel
theorem dX12_campAt_68 : decode cX12_campAt 68 = .ok (.istore 5, 2) := by decide +kernel
theorem dX12_campAt_70 : decode cX12_campAt 70 = .ok (.goto (-58), 3) := by decide +kernel
theorem dX12_campAt_73 : decode cX12_campAt 73 = .ok (.iload_n 3, 1) := by decide +kernel
theorem dX12_campAt_74 : decode cX12_campAt 74 = .ok (.ireturn, 1) := by decide +kernel
theorem dX12_meets_0 : decode cX12_meets 0 = .ok (.iload_n 1, 1) := by decide +kernel
theorem dX12_meets_1 : decode cX12_meets 1 = .ok (.invokestatic 68, 3) := by decide +kernel
theorem dX12_meets_4 : decode cX12_meets 4 = .ok (.ifCond .eq 10, 3) := by decide +kernel
theorem dX12_meets_7 : decode cX12_meets 7 = .ok (.iload_n 2, 1) := by decide +kernel
theorem dX12_meets_8 : decode cX12_meets 8 = .ok (.invokestatic 68, 3) := by decide +kernel
theorem dX12_meets_11 : decode cX12_meets 11 = .ok (.ifCond .ne 5, 3) := by decide +kernel
theorem dX12_meets_14 : decode cX12_meets 14 = .ok (.iconst (-1), 1) := by decide +kernel
theorem dX12_meets_15 : decode cX12_meets 15 = .ok (.ireturn, 1) := by decide +kernel
theorem dX12_meets_16 : decode cX12_meets 16 = .ok (.iconst 0, 1) := by decide +kernel
theorem dX12_meets_17 : decode cX12_meets 17 = .ok (.istore_n 3, 1) := by decide +kernel
theorem dX12_meets_18 : decode cX12_meets 18 = .ok (.iload_n 3, 1) := by decide +kernel
theorem dX12_meets_19 : decode cX12_meets 19 = .ok (.bipush 100, 2) := by decide +kernel
theorem dX12_meets_21 : decode cX12_meets 21 = .ok (.if_icmp .ge 36, 3) := by decide +kernel
theorem dX12_meets_24 : decode cX12_meets 24 = .ok (.aload_n 0, 1) := by decide +kernel
theorem dX12_meets_25 : decode cX12_meets 25 = .ok (.iload_n 1, 1) := by decide +kernel
theorem dX12_meets_26 : decode cX12_meets 26 = .ok (.iload_n 3, 1) := by decide +kernel
theorem dX12_meets_27 : decode cX12_meets 27 = .ok (.invokevirtual 446, 3) := by decide +kernel
theorem dX12_meets_30 : decode cX12_meets 30 = .ok (.iconst (-1), 1) := by decide +kernel
theorem dX12_meets_31 : decode cX12_meets 31 = .ok (.if_icmp .eq 20, 3) := by decide +kernel
theorem dX12_meets_34 : decode cX12_meets 34 = .ok (.aload_n 0, 1) := by decide +kernel
theorem dX12_meets_35 : decode cX12_meets 35 = .ok (.iload_n 1, 1) := by decide +kernel
theorem dX12_meets_36 : decode cX12_meets 36 = .ok (.iload_n 3, 1) := by decide +kernel
theorem dX12_meets_37 : decode cX12_meets 37 = .ok (.invokevirtual 446, 3) := by decide +kernel
theorem dX12_meets_40 : decode cX12_meets 40 = .ok (.aload_n 0, 1) := by decide +kernel
theorem dX12_meets_41 : decode cX12_meets 41 = .ok (.iload_n 2, 1) := by decide +kernel
theorem dX12_meets_42 : decode cX12_meets 42 = .ok (.iload_n 3, 1) := by decide +kernel
theorem dX12_meets_43 : decode cX12_meets 43 = .ok (.invokevirtual 446, 3) := by decide +kernel
theorem dX12_meets_46 : decode cX12_meets 46 = .ok (.if_icmp .ne 5, 3) := by decide +kernel
theorem dX12_meets_49 : decode cX12_meets 49 = .ok (.iload_n 3, 1) := by decide +kernel
theorem dX12_meets_50 : decode cX12_meets 50 = .ok (.ireturn, 1) := by decide +kernel
theorem dX12_meets_51 : decode cX12_meets 51 = .ok (.iinc 3 1, 3) := by decide +kernel
theorem dX12_meets_54 : decode cX12_meets 54 = .ok (.goto (-36), 3) := by decide +kernel
theorem dX12_meets_57 : decode cX12_meets 57 = .ok (.iconst (-1), 1) := by decide +kernel
theorem dX12_meets_58 : decode cX12_meets 58 = .ok (.ireturn, 1) := by decide +kernel
theorem dX12_image_0 : decode cX12_image 0 = .ok (.iload_n 1, 1) := by decide +kernel
theorem dX12_image_1 : decode cX12_image 1 = .ok (.ifCond .ne 12, 3) := by decide +kernel
theorem dX12_image_4 : decode cX12_image 4 = .ok (.aload_n 0, 1) := by decide +kernel
theorem dX12_image_5 : decode cX12_image 5 = .ok (.getfield 449, 3) := by decide +kernel
theorem dX12_image_8 : decode cX12_image 8 = .ok (.ifCond .ne 5, 3) := by decide +kernel
theorem dX12_image_11 : decode cX12_image 11 = .ok (.iconst 0, 1) := by decide +kernel
theorem dX12_image_12 : decode cX12_image 12 = .ok (.ireturn, 1) := by decide +kernel
theorem dX12_image_13 : decode cX12_image 13 = .ok (.iconst 0, 1) := by decide +kernel
theorem dX12_image_14 : decode cX12_image 14 = .ok (.istore_n 2, 1) := by decide +kernel
theorem dX12_image_15 : decode cX12_image 15 = .ok (.iload_n 2, 1) := by decide +kernel
theorem dX12_image_16 : decode cX12_image 16 = .ok (.sipush 1790, 3) := by decide +kernel
theorem dX12_image_19 : decode cX12_image 19 = .ok (.if_icmp .ge 40, 3) := by decide +kernel
theorem dX12_image_22 : decode cX12_image 22 = .ok (.iload_n 1, 1) := by decide +kernel
theorem dX12_image_23 : decode cX12_image 23 = .ok (.ifCond .eq 18, 3) := by decide +kernel
theorem dX12_image_26 : decode cX12_image 26 = .ok (.aload_n 0, 1) := by decide +kernel
theorem dX12_image_27 : decode cX12_image 27 = .ok (.getfield 13, 3) := by decide +kernel
theorem dX12_image_30 : decode cX12_image 30 = .ok (.iload_n 2, 1) := by decide +kernel
theorem dX12_image_31 : decode cX12_image 31 = .ok (.aload_n 0, 1) := by decide +kernel
theorem dX12_image_32 : decode cX12_image 32 = .ok (.getfield 7, 3) := by decide +kernel
theorem dX12_image_35 : decode cX12_image 35 = .ok (.iload_n 2, 1) := by decide +kernel
theorem dX12_image_36 : decode cX12_image 36 = .ok (.iaload, 1) := by decide +kernel
theorem dX12_image_37 : decode cX12_image 37 = .ok (.iastore, 1) := by decide +kernel
theorem dX12_image_38 : decode cX12_image 38 = .ok (.goto 15, 3) := by decide +kernel
theorem dX12_image_41 : decode cX12_image 41 = .ok (.aload_n 0, 1) := by decide +kernel
theorem dX12_image_42 : decode cX12_image 42 = .ok (.getfield 7, 3) := by decide +kernel
theorem dX12_image_45 : decode cX12_image 45 = .ok (.iload_n 2, 1) := by decide +kernel
theorem dX12_image_46 : decode cX12_image 46 = .ok (.aload_n 0, 1) := by decide +kernel
theorem dX12_image_47 : decode cX12_image 47 = .ok (.getfield 13, 3) := by decide +kernel
theorem dX12_image_50 : decode cX12_image 50 = .ok (.iload_n 2, 1) := by decide +kernel
theorem dX12_image_51 : decode cX12_image 51 = .ok (.iaload, 1) := by decide +kernel
theorem dX12_image_52 : decode cX12_image 52 = .ok (.iastore, 1) := by decide +kernel
theorem dX12_image_53 : decode cX12_image 53 = .ok (.iinc 2 1, 3) := by decide +kernel
theorem dX12_image_56 : decode cX12_image 56 = .ok (.goto (-41), 3) := by decide +kernel
theorem dX12_image_59 : decode cX12_image 59 = .ok (.iload_n 1, 1) := by decide +kernel
theorem dX12_image_60 : decode cX12_image 60 = .ok (.ifCond .ne 7, 3) := by decide +kernel
theorem dX12_image_63 : decode cX12_image 63 = .ok (.aload_n 0, 1) := by decide +kernel
theorem dX12_image_64 : decode cX12_image 64 = .ok (.invokevirtual 63, 3) := by decide +kernel
theorem dX12_image_67 : decode cX12_image 67 = .ok (.aload_n 0, 1) := by decide +kernel
theorem dX12_image_68 : decode cX12_image 68 = .ok (.iconst 1, 1) := by decide +kernel
theorem dX12_image_69 : decode cX12_image 69 = .ok (.putfield 449, 3) := by decide +kernel
theorem dX12_image_72 : decode cX12_image 72 = .ok (.iconst 1, 1) := by decide +kernel
theorem dX12_image_73 : decode cX12_image 73 = .ok (.ireturn, 1) := by decide +kernel
theorem dX12_look_0 : decode cX12_look 0 = .ok (.iload_n 1, 1) := by decide +kernel
theorem dX12_look_1 : decode cX12_look 1 = .ok (.tableswitch 222 0 17 #[87, 95, 103, 110, 118, 125, 132, 139, 146, 154, 162, 169, 177, 185, 193, 201, 209, 217], 87) := by decide +kernel
theorem dX12_look_88 : decode cX12_look 88 = .ok (.aload_n 0, 1) := by decide +kernel
theorem dX12_look_89 : decode cX12_look 89 = .ok (.getfield 7, 3) := by decide +kernel
theorem dX12_look_92 : decode cX12_look 92 = .ok (.bipush 86, 2) := by decide +kernel
theorem dX12_look_94 : decode cX12_look 94 = .ok (.iaload, 1) := by decide +kernel
theorem dX12_look_95 : decode cX12_look 95 = .ok (.ireturn, 1) := by decide +kernel
theorem dX12_look_96 : decode cX12_look 96 = .ok (.aload_n 0, 1) := by decide +kernel
theorem dX12_look_97 : decode cX12_look 97 = .ok (.getfield 7, 3) := by decide +kernel
theorem dX12_look_100 : decode cX12_look 100 = .ok (.bipush 87, 2) := by decide +kernel
theorem dX12_look_102 : decode cX12_look 102 = .ok (.iaload, 1) := by decide +kernel
theorem dX12_look_103 : decode cX12_look 103 = .ok (.ireturn, 1) := by decide +kernel
theorem dX12_look_104 : decode cX12_look 104 = .ok (.aload_n 0, 1) := by decide +kernel
theorem dX12_look_105 : decode cX12_look 105 = .ok (.getfield 7, 3) := by decide +kernel
theorem dX12_look_108 : decode cX12_look 108 = .ok (.iconst 0, 1) := by decide +kernel
theorem dX12_look_109 : decode cX12_look 109 = .ok (.iaload, 1) := by decide +kernel
theorem dX12_look_110 : decode cX12_look 110 = .ok (.ireturn, 1) := by decide +kernel
theorem dX12_look_111 : decode cX12_look 111 = .ok (.aload_n 0, 1) := by decide +kernel
theorem dX12_look_112 : decode cX12_look 112 = .ok (.getfield 7, 3) := by decide +kernel
theorem dX12_look_115 : decode cX12_look 115 = .ok (.bipush 88, 2) := by decide +kernel
theorem dX12_look_117 : decode cX12_look 117 = .ok (.iaload, 1) := by decide +kernel
theorem dX12_look_118 : decode cX12_look 118 = .ok (.ireturn, 1) := by decide +kernel
theorem dX12_look_119 : decode cX12_look 119 = .ok (.aload_n 0, 1) := by decide +kernel
theorem dX12_look_120 : decode cX12_look 120 = .ok (.getfield 7, 3) := by decide +kernel
theorem dX12_look_123 : decode cX12_look 123 = .ok (.iconst 1, 1) := by decide +kernel
theorem dX12_look_124 : decode cX12_look 124 = .ok (.iaload, 1) := by decide +kernel
theorem dX12_look_125 : decode cX12_look 125 = .ok (.ireturn, 1) := by decide +kernel
theorem dX12_look_126 : decode cX12_look 126 = .ok (.aload_n 0, 1) := by decide +kernel
theorem dX12_look_127 : decode cX12_look 127 = .ok (.getfield 7, 3) := by decide +kernel
theorem dX12_look_130 : decode cX12_look 130 = .ok (.iconst 2, 1) := by decide +kernel
theorem dX12_look_131 : decode cX12_look 131 = .ok (.iaload, 1) := by decide +kernel
theorem dX12_look_132 : decode cX12_look 132 = .ok (.ireturn, 1) := by decide +kernel
theorem dX12_look_133 : decode cX12_look 133 = .ok (.aload_n 0, 1) := by decide +kernel
theorem dX12_look_134 : decode cX12_look 134 = .ok (.getfield 7, 3) := by decide +kernel
theorem dX12_look_137 : decode cX12_look 137 = .ok (.iconst 3, 1) := by decide +kernel
theorem dX12_look_138 : decode cX12_look 138 = .ok (.iaload, 1) := by decide +kernel
theorem dX12_look_139 : decode cX12_look 139 = .ok (.ireturn, 1) := by decide +kernel
theorem dX12_look_140 : decode cX12_look 140 = .ok (.aload_n 0, 1) := by decide +kernel
theorem dX12_look_141 : decode cX12_look 141 = .ok (.getfield 7, 3) := by decide +kernel
theorem dX12_look_144 : decode cX12_look 144 = .ok (.iconst 4, 1) := by decide +kernel
theorem dX12_look_145 : decode cX12_look 145 = .ok (.iaload, 1) := by decide +kernel
theorem dX12_look_146 : decode cX12_look 146 = .ok (.ireturn, 1) := by decide +kernel
theorem dX12_look_147 : decode cX12_look 147 = .ok (.aload_n 0, 1) := by decide +kernel
theorem dX12_look_148 : decode cX12_look 148 = .ok (.getfield 7, 3) := by decide +kernel
theorem dX12_look_151 : decode cX12_look 151 = .ok (.bipush 7, 2) := by decide +kernel
theorem dX12_look_153 : decode cX12_look 153 = .ok (.iaload, 1) := by decide +kernel
theorem dX12_look_154 : decode cX12_look 154 = .ok (.ireturn, 1) := by decide +kernel
theorem dX12_look_155 : decode cX12_look 155 = .ok (.aload_n 0, 1) := by decide +kernel
theorem dX12_look_156 : decode cX12_look 156 = .ok (.getfield 7, 3) := by decide +kernel
theorem dX12_look_159 : decode cX12_look 159 = .ok (.bipush 6, 2) := by decide +kernel
theorem dX12_look_161 : decode cX12_look 161 = .ok (.iaload, 1) := by decide +kernel
theorem dX12_look_162 : decode cX12_look 162 = .ok (.ireturn, 1) := by decide +kernel
theorem dX12_look_163 : decode cX12_look 163 = .ok (.aload_n 0, 1) := by decide +kernel
theorem dX12_look_164 : decode cX12_look 164 = .ok (.getfield 7, 3) := by decide +kernel
theorem dX12_look_167 : decode cX12_look 167 = .ok (.iconst 5, 1) := by decide +kernel
theorem dX12_look_168 : decode cX12_look 168 = .ok (.iaload, 1) := by decide +kernel
theorem dX12_look_169 : decode cX12_look 169 = .ok (.ireturn, 1) := by decide +kernel
theorem dX12_look_170 : decode cX12_look 170 = .ok (.aload_n 0, 1) := by decide +kernel
theorem dX12_look_171 : decode cX12_look 171 = .ok (.getfield 7, 3) := by decide +kernel
theorem dX12_look_174 : decode cX12_look 174 = .ok (.bipush 89, 2) := by decide +kernel
theorem dX12_look_176 : decode cX12_look 176 = .ok (.iaload, 1) := by decide +kernel
theorem dX12_look_177 : decode cX12_look 177 = .ok (.ireturn, 1) := by decide +kernel
theorem dX12_look_178 : decode cX12_look 178 = .ok (.aload_n 0, 1) := by decide +kernel
theorem dX12_look_179 : decode cX12_look 179 = .ok (.getfield 7, 3) := by decide +kernel
theorem dX12_look_182 : decode cX12_look 182 = .ok (.bipush 90, 2) := by decide +kernel
theorem dX12_look_184 : decode cX12_look 184 = .ok (.iaload, 1) := by decide +kernel
theorem dX12_look_185 : decode cX12_look 185 = .ok (.ireturn, 1) := by decide +kernel
theorem dX12_look_186 : decode cX12_look 186 = .ok (.aload_n 0, 1) := by decide +kernel
theorem dX12_look_187 : decode cX12_look 187 = .ok (.getfield 7, 3) := by decide +kernel
theorem dX12_look_190 : decode cX12_look 190 = .ok (.bipush 91, 2) := by decide +kernel
theorem dX12_look_192 : decode cX12_look 192 = .ok (.iaload, 1) := by decide +kernel
theorem dX12_look_193 : decode cX12_look 193 = .ok (.ireturn, 1) := by decide +kernel
theorem dX12_look_194 : decode cX12_look 194 = .ok (.aload_n 0, 1) := by decide +kernel
theorem dX12_look_195 : decode cX12_look 195 = .ok (.getfield 7, 3) := by decide +kernel
theorem dX12_look_198 : decode cX12_look 198 = .ok (.bipush 92, 2) := by decide +kernel
theorem dX12_look_200 : decode cX12_look 200 = .ok (.iaload, 1) := by decide +kernel
theorem dX12_look_201 : decode cX12_look 201 = .ok (.ireturn, 1) := by decide +kernel
theorem dX12_look_202 : decode cX12_look 202 = .ok (.aload_n 0, 1) := by decide +kernel
theorem dX12_look_203 : decode cX12_look 203 = .ok (.getfield 7, 3) := by decide +kernel
theorem dX12_look_206 : decode cX12_look 206 = .ok (.bipush 93, 2) := by decide +kernel
theorem dX12_look_208 : decode cX12_look 208 = .ok (.iaload, 1) := by decide +kernel
theorem dX12_look_209 : decode cX12_look 209 = .ok (.ireturn, 1) := by decide +kernel
theorem dX12_look_210 : decode cX12_look 210 = .ok (.aload_n 0, 1) := by decide +kernel
theorem dX12_look_211 : decode cX12_look 211 = .ok (.getfield 7, 3) := by decide +kernel
theorem dX12_look_214 : decode cX12_look 214 = .ok (.bipush 94, 2) := by decide +kernel
theorem dX12_look_216 : decode cX12_look 216 = .ok (.iaload, 1) := by decide +kernel
theorem dX12_look_217 : decode cX12_look 217 = .ok (.ireturn, 1) := by decide +kernel
theorem dX12_look_218 : decode cX12_look 218 = .ok (.aload_n 0, 1) := by decide +kernel
theorem dX12_look_219 : decode cX12_look 219 = .ok (.getfield 60, 3) := by decide +kernel
theorem dX12_look_222 : decode cX12_look 222 = .ok (.ireturn, 1) := by decide +kernel
theorem dX12_look_223 : decode cX12_look 223 = .ok (.iconst (-1), 1) := by decide +kernel
theorem dX12_look_224 : decode cX12_look 224 = .ok (.ireturn, 1) := by decide +kernel
theorem dJ6_bitCount_0f7a4_0 : decode cJ6_bitCount_0f7a4 0 = .ok (.iload_n 0, 1) := by decide +kernel
theorem dJ6_bitCount_0f7a4_1 : decode cJ6_bitCount_0f7a4 1 = .ok (.iload_n 0, 1) := by decide +kernel
theorem dJ6_bitCount_0f7a4_2 : decode cJ6_bitCount_0f7a4 2 = .ok (.iconst 1, 1) := by decide +kernel
theorem dJ6_bitCount_0f7a4_3 : decode cJ6_bitCount_0f7a4 3 = .ok (.iushr, 1) := by decide +kernel
theorem dJ6_bitCount_0f7a4_4 : decode cJ6_bitCount_0f7a4 4 = .ok (.ldc_w 265, 3) := by decide +kernel
theorem dJ6_bitCount_0f7a4_7 : decode cJ6_bitCount_0f7a4 7 = .ok (.iand, 1) := by decide +kernel
theorem dJ6_bitCount_0f7a4_8 : decode cJ6_bitCount_0f7a4 8 = .ok (.isub, 1) := by decide +kernel
theorem dJ6_bitCount_0f7a4_9 : decode cJ6_bitCount_0f7a4 9 = .ok (.istore_n 0, 1) := by decide +kernel
theorem dJ6_bitCount_0f7a4_10 : decode cJ6_bitCount_0f7a4 10 = .ok (.iload_n 0, 1) := by decide +kernel
theorem dJ6_bitCount_0f7a4_11 : decode cJ6_bitCount_0f7a4 11 = .ok (.ldc_w 266, 3) := by decide +kernel
theorem dJ6_bitCount_0f7a4_14 : decode cJ6_bitCount_0f7a4 14 = .ok (.iand, 1) := by decide +kernel
theorem dJ6_bitCount_0f7a4_15 : decode cJ6_bitCount_0f7a4 15 = .ok (.iload_n 0, 1) := by decide +kernel
theorem dJ6_bitCount_0f7a4_16 : decode cJ6_bitCount_0f7a4 16 = .ok (.iconst 2, 1) := by decide +kernel
theorem dJ6_bitCount_0f7a4_17 : decode cJ6_bitCount_0f7a4 17 = .ok (.iushr, 1) := by decide +kernel
theorem dJ6_bitCount_0f7a4_18 : decode cJ6_bitCount_0f7a4 18 = .ok (.ldc_w 266, 3) := by decide +kernel
theorem dJ6_bitCount_0f7a4_21 : decode cJ6_bitCount_0f7a4 21 = .ok (.iand, 1) := by decide +kernel
theorem dJ6_bitCount_0f7a4_22 : decode cJ6_bitCount_0f7a4 22 = .ok (.iadd, 1) := by decide +kernel
theorem dJ6_bitCount_0f7a4_23 : decode cJ6_bitCount_0f7a4 23 = .ok (.istore_n 0, 1) := by decide +kernel
theorem dJ6_bitCount_0f7a4_24 : decode cJ6_bitCount_0f7a4 24 = .ok (.iload_n 0, 1) := by decide +kernel
theorem dJ6_bitCount_0f7a4_25 : decode cJ6_bitCount_0f7a4 25 = .ok (.iload_n 0, 1) := by decide +kernel
theorem dJ6_bitCount_0f7a4_26 : decode cJ6_bitCount_0f7a4 26 = .ok (.iconst 4, 1) := by decide +kernel
theorem dJ6_bitCount_0f7a4_27 : decode cJ6_bitCount_0f7a4 27 = .ok (.iushr, 1) := by decide +kernel
theorem dJ6_bitCount_0f7a4_28 : decode cJ6_bitCount_0f7a4 28 = .ok (.iadd, 1) := by decide +kernel
theorem dJ6_bitCount_0f7a4_29 : decode cJ6_bitCount_0f7a4 29 = .ok (.ldc_w 267, 3) := by decide +kernel
theorem dJ6_bitCount_0f7a4_32 : decode cJ6_bitCount_0f7a4 32 = .ok (.iand, 1) := by decide +kernel
theorem dJ6_bitCount_0f7a4_33 : decode cJ6_bitCount_0f7a4 33 = .ok (.istore_n 0, 1) := by decide +kernel
theorem dJ6_bitCount_0f7a4_34 : decode cJ6_bitCount_0f7a4 34 = .ok (.iload_n 0, 1) := by decide +kernel
theorem dJ6_bitCount_0f7a4_35 : decode cJ6_bitCount_0f7a4 35 = .ok (.iload_n 0, 1) := by decide +kernel
theorem dJ6_bitCount_0f7a4_36 : decode cJ6_bitCount_0f7a4 36 = .ok (.bipush 8, 2) := by decide +kernel
theorem dJ6_bitCount_0f7a4_38 : decode cJ6_bitCount_0f7a4 38 = .ok (.iushr, 1) := by decide +kernel
theorem dJ6_bitCount_0f7a4_39 : decode cJ6_bitCount_0f7a4 39 = .ok (.iadd, 1) := by decide +kernel
theorem dJ6_bitCount_0f7a4_40 : decode cJ6_bitCount_0f7a4 40 = .ok (.istore_n 0, 1) := by decide +kernel
theorem dJ6_bitCount_0f7a4_41 : decode cJ6_bitCount_0f7a4 41 = .ok (.iload_n 0, 1) := by decide +kernel
theorem dJ6_bitCount_0f7a4_42 : decode cJ6_bitCount_0f7a4 42 = .ok (.iload_n 0, 1) := by decide +kernel
theorem dJ6_bitCount_0f7a4_43 : decode cJ6_bitCount_0f7a4 43 = .ok (.bipush 16, 2) := by decide +kernel
theorem dJ6_bitCount_0f7a4_45 : decode cJ6_bitCount_0f7a4 45 = .ok (.iushr, 1) := by decide +kernel
theorem dJ6_bitCount_0f7a4_46 : decode cJ6_bitCount_0f7a4 46 = .ok (.iadd, 1) := by decide +kernel
theorem dJ6_bitCount_0f7a4_47 : decode cJ6_bitCount_0f7a4 47 = .ok (.istore_n 0, 1) := by decide +kernel
theorem dJ6_bitCount_0f7a4_48 : decode cJ6_bitCount_0f7a4 48 = .ok (.iload_n 0, 1) := by decide +kernel
theorem dJ6_bitCount_0f7a4_49 : decode cJ6_bitCount_0f7a4 49 = .ok (.bipush 63, 2) := by decide +kernel
theorem dJ6_bitCount_0f7a4_51 : decode cJ6_bitCount_0f7a4 51 = .ok (.iand, 1) := by decide +kernel
theorem dJ6_bitCount_0f7a4_52 : decode cJ6_bitCount_0f7a4 52 = .ok (.ireturn, 1) := by decide +kernel
theorem dJ9_max_7cf53_0 : decode cJ9_max_7cf53 0 = .ok (.iload_n 0, 1) := by decide +kernel
theorem dJ9_max_7cf53_1 : decode cJ9_max_7cf53 1 = .ok (.iload_n 1, 1) := by decide +kernel
theorem dJ9_max_7cf53_2 : decode cJ9_max_7cf53 2 = .ok (.if_icmp .lt 7, 3) := by decide +kernel
theorem dJ9_max_7cf53_5 : decode cJ9_max_7cf53 5 = .ok (.iload_n 0, 1) := by decide +kernel
theorem dJ9_max_7cf53_6 : decode cJ9_max_7cf53 6 = .ok (.goto 4, 3) := by decide +kernel
theorem dJ9_max_7cf53_9 : decode cJ9_max_7cf53 9 = .ok (.iload_n 1, 1) := by decide +kernel
theorem dJ9_max_7cf53_10 : decode cJ9_max_7cf53 10 = .ok (.ireturn, 1) := by decide +kernel
theorem dJ9_min_7cf53_0 : decode cJ9_min_7cf53 0 = .ok (.iload_n 0, 1) := by decide +kernel
theorem dJ9_min_7cf53_1 : decode cJ9_min_7cf53 1 = .ok (.iload_n 1, 1) := by decide +kernel
theorem dJ9_min_7cf53_2 : decode cJ9_min_7cf53 2 = .ok (.if_icmp .gt 7, 3) := by decide +kernel
theorem dJ9_min_7cf53_5 : decode cJ9_min_7cf53 5 = .ok (.iload_n 0, 1) := by decide +kernel
theorem dJ9_min_7cf53_6 : decode cJ9_min_7cf53 6 = .ok (.goto 4, 3) := by decide +kernel
theorem dJ9_min_7cf53_9 : decode cJ9_min_7cf53 9 = .ok (.iload_n 1, 1) := by decide +kernel
theorem dJ9_min_7cf53_10 : decode cJ9_min_7cf53 10 = .ok (.ireturn, 1) := by decide +kernel
theorem dJ0_length_8abf5_0 : decode cJ0_length_8abf5 0 = .ok (.aload_n 0, 1) := by decide +kernel
theorem dJ0_length_8abf5_1 : decode cJ0_length_8abf5 1 = .ok (.getfield 9, 3) := by decide +kernel
theorem dJ0_length_8abf5_4 : decode cJ0_length_8abf5 4 = .ok (.arraylength, 1) := by decide +kernel
theorem dJ0_length_8abf5_5 : decode cJ0_length_8abf5 5 = .ok (.aload_n 0, 1) := by decide +kernel
theorem dJ0_length_8abf5_6 : decode cJ0_length_8abf5 6 = .ok (.invokevirtual 335, 3) := by decide +kernel
theorem dJ0_length_8abf5_9 : decode cJ0_length_8abf5 9 = .ok (.ishr, 1) := by decide +kernel
theorem dJ0_length_8abf5_10 : decode cJ0_length_8abf5 10 = .ok (.ireturn, 1) := by decide +kernel
theorem dJ0_charAt_5068e_0 : decode cJ0_charAt_5068e 0 = .ok (.aload_n 0, 1) := by decide +kernel
theorem dJ0_charAt_5068e_1 : decode cJ0_charAt_5068e 1 = .ok (.invokevirtual 492, 3) := by decide +kernel
theorem dJ0_charAt_5068e_4 : decode cJ0_charAt_5068e 4 = .ok (.ifCond .eq 12, 3) := by decide +kernel
theorem dJ0_charAt_5068e_7 : decode cJ0_charAt_5068e 7 = .ok (.aload_n 0, 1) := by decide +kernel
theorem dJ0_charAt_5068e_8 : decode cJ0_charAt_5068e 8 = .ok (.getfield 9, 3) := by decide +kernel
theorem dJ0_charAt_5068e_11 : decode cJ0_charAt_5068e 11 = .ok (.iload_n 1, 1) := by decide +kernel
theorem dJ0_charAt_5068e_12 : decode cJ0_charAt_5068e 12 = .ok (.invokestatic 495, 3) := by decide +kernel
theorem dJ0_charAt_5068e_15 : decode cJ0_charAt_5068e 15 = .ok (.ireturn, 1) := by decide +kernel
theorem dJ0_charAt_5068e_16 : decode cJ0_charAt_5068e 16 = .ok (.aload_n 0, 1) := by decide +kernel
theorem dJ0_charAt_5068e_17 : decode cJ0_charAt_5068e 17 = .ok (.getfield 9, 3) := by decide +kernel
theorem dJ0_charAt_5068e_20 : decode cJ0_charAt_5068e 20 = .ok (.iload_n 1, 1) := by decide +kernel
theorem dJ0_charAt_5068e_21 : decode cJ0_charAt_5068e 21 = .ok (.invokestatic 498, 3) := by decide +kernel
theorem dJ0_charAt_5068e_24 : decode cJ0_charAt_5068e 24 = .ok (.ireturn, 1) := by decide +kernel
theorem dJ0_coder_7d493_0 : decode cJ0_coder_7d493 0 = .ok (.getstatic 38, 3) := by decide +kernel
theorem dJ0_coder_7d493_3 : decode cJ0_coder_7d493 3 = .ok (.ifCond .eq 10, 3) := by decide +kernel
theorem dJ0_coder_7d493_6 : decode cJ0_coder_7d493 6 = .ok (.aload_n 0, 1) := by decide +kernel
theorem dJ0_coder_7d493_7 : decode cJ0_coder_7d493 7 = .ok (.getfield 15, 3) := by decide +kernel
theorem dJ0_coder_7d493_10 : decode cJ0_coder_7d493 10 = .ok (.goto 4, 3) := by decide +kernel
theorem dJ0_coder_7d493_13 : decode cJ0_coder_7d493 13 = .ok (.iconst 1, 1) := by decide +kernel
theorem dJ0_coder_7d493_14 : decode cJ0_coder_7d493 14 = .ok (.ireturn, 1) := by decide +kernel
theorem dJ0_isLatin1_aae02_0 : decode cJ0_isLatin1_aae02 0 = .ok (.getstatic 38, 3) := by decide +kernel
theorem dJ0_isLatin1_aae02_3 : decode cJ0_isLatin1_aae02 3 = .ok (.ifCond .eq 14, 3) := by decide +kernel
theorem dJ0_isLatin1_aae02_6 : decode cJ0_isLatin1_aae02 6 = .ok (.aload_n 0, 1) := by decide +kernel
theorem dJ0_isLatin1_aae02_7 : decode cJ0_isLatin1_aae02 7 = .ok (.getfield 15, 3) := by decide +kernel
theorem dJ0_isLatin1_aae02_10 : decode cJ0_isLatin1_aae02 10 = .ok (.ifCond .ne 7, 3) := by decide +kernel
theorem dJ0_isLatin1_aae02_13 : decode cJ0_isLatin1_aae02 13 = .ok (.iconst 1, 1) := by decide +kernel
theorem dJ0_isLatin1_aae02_14 : decode cJ0_isLatin1_aae02 14 = .ok (.goto 4, 3) := by decide +kernel
theorem dJ0_isLatin1_aae02_17 : decode cJ0_isLatin1_aae02 17 = .ok (.iconst 0, 1) := by decide +kernel
theorem dJ0_isLatin1_aae02_18 : decode cJ0_isLatin1_aae02 18 = .ok (.ireturn, 1) := by decide +kernel
theorem dJ0_checkIndex_df160_0 : decode cJ0_checkIndex_df160 0 = .ok (.iload_n 0, 1) := by decide +kernel
theorem dJ0_checkIndex_df160_1 : decode cJ0_checkIndex_df160 1 = .ok (.iload_n 1, 1) := by decide +kernel
theorem dJ0_checkIndex_df160_2 : decode cJ0_checkIndex_df160 2 = .ok (.getstatic 1053, 3) := by decide +kernel
theorem dJ0_checkIndex_df160_5 : decode cJ0_checkIndex_df160 5 = .ok (.invokestatic 1059, 3) := by decide +kernel
theorem dJ0_checkIndex_df160_8 : decode cJ0_checkIndex_df160 8 = .ok (.pop, 1) := by decide +kernel
theorem dJ0_checkIndex_df160_9 : decode cJ0_checkIndex_df160 9 = .ok (.return_, 1) := by decide +kernel
theorem dJ1_charAt_3b067_0 : decode cJ1_charAt_3b067 0 = .ok (.iload_n 1, 1) := by decide +kernel
theorem dJ1_charAt_3b067_1 : decode cJ1_charAt_3b067 1 = .ok (.aload_n 0, 1) := by decide +kernel
theorem dJ1_charAt_3b067_2 : decode cJ1_charAt_3b067 2 = .ok (.arraylength, 1) := by decide +kernel
theorem dJ1_charAt_3b067_3 : decode cJ1_charAt_3b067 3 = .ok (.invokestatic 9, 3) := by decide +kernel
theorem dJ1_charAt_3b067_6 : decode cJ1_charAt_3b067 6 = .ok (.aload_n 0, 1) := by decide +kernel
theorem dJ1_charAt_3b067_7 : decode cJ1_charAt_3b067 7 = .ok (.iload_n 1, 1) := by decide +kernel
theorem dJ1_charAt_3b067_8 : decode cJ1_charAt_3b067 8 = .ok (.baload, 1) := by decide +kernel
theorem dJ1_charAt_3b067_9 : decode cJ1_charAt_3b067 9 = .ok (.sipush 255, 3) := by decide +kernel
theorem dJ1_charAt_3b067_12 : decode cJ1_charAt_3b067 12 = .ok (.iand, 1) := by decide +kernel
theorem dJ1_charAt_3b067_13 : decode cJ1_charAt_3b067 13 = .ok (.i2c, 1) := by decide +kernel
theorem dJ1_charAt_3b067_14 : decode cJ1_charAt_3b067 14 = .ok (.ireturn, 1) := by decide +kernel
theorem dJ7_fill_53178_0 : decode cJ7_fill_53178 0 = .ok (.iconst 0, 1) := by decide +kernel
theorem dJ7_fill_53178_1 : decode cJ7_fill_53178 1 = .ok (.istore_n 2, 1) := by decide +kernel
theorem dJ7_fill_53178_2 : decode cJ7_fill_53178 2 = .ok (.aload_n 0, 1) := by decide +kernel
theorem dJ7_fill_53178_3 : decode cJ7_fill_53178 3 = .ok (.arraylength, 1) := by decide +kernel
theorem dJ7_fill_53178_4 : decode cJ7_fill_53178 4 = .ok (.istore_n 3, 1) := by decide +kernel
theorem dJ7_fill_53178_5 : decode cJ7_fill_53178 5 = .ok (.iload_n 2, 1) := by decide +kernel
theorem dJ7_fill_53178_6 : decode cJ7_fill_53178 6 = .ok (.iload_n 3, 1) := by decide +kernel
theorem dJ7_fill_53178_7 : decode cJ7_fill_53178 7 = .ok (.if_icmp .ge 13, 3) := by decide +kernel
theorem dJ7_fill_53178_10 : decode cJ7_fill_53178 10 = .ok (.aload_n 0, 1) := by decide +kernel
theorem dJ7_fill_53178_11 : decode cJ7_fill_53178 11 = .ok (.iload_n 2, 1) := by decide +kernel
theorem dJ7_fill_53178_12 : decode cJ7_fill_53178 12 = .ok (.iload_n 1, 1) := by decide +kernel
theorem dJ7_fill_53178_13 : decode cJ7_fill_53178 13 = .ok (.iastore, 1) := by decide +kernel
theorem dJ7_fill_53178_14 : decode cJ7_fill_53178 14 = .ok (.iinc 2 1, 3) := by decide +kernel
theorem dJ7_fill_53178_17 : decode cJ7_fill_53178 17 = .ok (.goto (-12), 3) := by decide +kernel
theorem dJ7_fill_53178_20 : decode cJ7_fill_53178 20 = .ok (.return_, 1) := by decide +kernel
theorem dJ3_checkIndex_8e157_0 : decode cJ3_checkIndex_8e157 0 = .ok (.iload_n 0, 1) := by decide +kernel
theorem dJ3_checkIndex_8e157_1 : decode cJ3_checkIndex_8e157 1 = .ok (.ifCond .lt 8, 3) := by decide +kernel
theorem dJ3_checkIndex_8e157_4 : decode cJ3_checkIndex_8e157 4 = .ok (.iload_n 0, 1) := by decide +kernel
theorem dJ3_checkIndex_8e157_5 : decode cJ3_checkIndex_8e157 5 = .ok (.iload_n 1, 1) := by decide +kernel
theorem dJ3_checkIndex_8e157_6 : decode cJ3_checkIndex_8e157 6 = .ok (.if_icmp .lt 10, 3) := by decide +kernel
theorem dJ3_checkIndex_8e157_9 : decode cJ3_checkIndex_8e157 9 = .ok (.aload_n 2, 1) := by decide +kernel
theorem dJ3_checkIndex_8e157_10 : decode cJ3_checkIndex_8e157 10 = .ok (.iload_n 0, 1) := by decide +kernel
theorem dJ3_checkIndex_8e157_11 : decode cJ3_checkIndex_8e157 11 = .ok (.iload_n 1, 1) := by decide +kernel
theorem dJ3_checkIndex_8e157_12 : decode cJ3_checkIndex_8e157 12 = .ok (.invokestatic 95, 3) := by decide +kernel
theorem dJ3_checkIndex_8e157_15 : decode cJ3_checkIndex_8e157 15 = .ok (.athrow, 1) := by decide +kernel
theorem dJ3_checkIndex_8e157_16 : decode cJ3_checkIndex_8e157 16 = .ok (.iload_n 0, 1) := by decide +kernel
theorem dJ3_checkIndex_8e157_17 : decode cJ3_checkIndex_8e157 17 = .ok (.ireturn, 1) := by decide +kernel
theorem dL_law_0 : decode cL_law 0 = .ok (.new 7, 3) := by decide +kernel
theorem dL_law_3 : decode cL_law 3 = .ok (.dup, 1) := by decide +kernel
theorem dL_law_4 : decode cL_law 4 = .ok (.invokespecial 9, 3) := by decide +kernel
theorem dL_law_7 : decode cL_law 7 = .ok (.astore_n 1, 1) := by decide +kernel
theorem dL_law_8 : decode cL_law 8 = .ok (.new 10, 3) := by decide +kernel
theorem dL_law_11 : decode cL_law 11 = .ok (.dup, 1) := by decide +kernel
theorem dL_law_12 : decode cL_law 12 = .ok (.invokespecial 12, 3) := by decide +kernel
theorem dL_law_15 : decode cL_law 15 = .ok (.astore_n 2, 1) := by decide +kernel
theorem dL_law_16 : decode cL_law 16 = .ok (.iconst 0, 1) := by decide +kernel
theorem dL_law_17 : decode cL_law 17 = .ok (.istore_n 3, 1) := by decide +kernel
theorem dL_law_18 : decode cL_law 18 = .ok (.iload_n 3, 1) := by decide +kernel
theorem dL_law_19 : decode cL_law 19 = .ok (.aload_n 0, 1) := by decide +kernel
theorem dL_law_20 : decode cL_law 20 = .ok (.arraylength, 1) := by decide +kernel
theorem dL_law_21 : decode cL_law 21 = .ok (.bipush 6, 2) := by decide +kernel
theorem dL_law_23 : decode cL_law 23 = .ok (.isub, 1) := by decide +kernel
theorem dL_law_24 : decode cL_law 24 = .ok (.if_icmp .gt 1237, 3) := by decide +kernel
theorem dL_law_27 : decode cL_law 27 = .ok (.aload_n 0, 1) := by decide +kernel
theorem dL_law_28 : decode cL_law 28 = .ok (.iload_n 3, 1) := by decide +kernel
theorem dL_law_29 : decode cL_law 29 = .ok (.iaload, 1) := by decide +kernel
theorem dL_law_30 : decode cL_law 30 = .ok (.bipush 63, 2) := by decide +kernel
theorem dL_law_32 : decode cL_law 32 = .ok (.iand, 1) := by decide +kernel
theorem dL_law_33 : decode cL_law 33 = .ok (.tableswitch 1222 0 34 #[155, 178, 211, 254, 297, 340, 353, 396, 419, 432, 455, 518, 541, 564, 587, 620, 653, 686, 719, 742, 765, 798, 831, 854, 897, 920, 933, 992, 1015, 1058, 1081, 1114, 1147, 1160, 1199], 155) := by decide +kernel
theorem dL_law_188 : decode cL_law 188 = .ok (.aload_n 1, 1) := by decide +kernel
theorem dL_law_189 : decode cL_law 189 = .ok (.aload_n 0, 1) := by decide +kernel
theorem dL_law_190 : decode cL_law 190 = .ok (.iload_n 3, 1) := by decide +kernel
theorem dL_law_191 : decode cL_law 191 = .ok (.iconst 1, 1) := by decide +kernel
theorem dL_law_192 : decode cL_law 192 = .ok (.iadd, 1) := by decide +kernel
theorem dL_law_193 : decode cL_law 193 = .ok (.iaload, 1) := by decide +kernel
theorem dL_law_194 : decode cL_law 194 = .ok (.invokevirtual 13, 3) := by decide +kernel
theorem dL_law_197 : decode cL_law 197 = .ok (.aload_n 2, 1) := by decide +kernel
theorem dL_law_198 : decode cL_law 198 = .ok (.aload_n 0, 1) := by decide +kernel
theorem dL_law_199 : decode cL_law 199 = .ok (.iload_n 3, 1) := by decide +kernel
theorem dL_law_200 : decode cL_law 200 = .ok (.iconst 1, 1) := by decide +kernel
theorem dL_law_201 : decode cL_law 201 = .ok (.iadd, 1) := by decide +kernel
theorem dL_law_202 : decode cL_law 202 = .ok (.iaload, 1) := by decide +kernel
theorem dL_law_203 : decode cL_law 203 = .ok (.invokevirtual 17, 3) := by decide +kernel
theorem dL_law_206 : decode cL_law 206 = .ok (.if_icmp .eq 1049, 3) := by decide +kernel
theorem dL_law_209 : decode cL_law 209 = .ok (.iconst 0, 1) := by decide +kernel
theorem dL_law_210 : decode cL_law 210 = .ok (.ireturn, 1) := by decide +kernel
theorem dL_law_211 : decode cL_law 211 = .ok (.aload_n 1, 1) := by decide +kernel
theorem dL_law_212 : decode cL_law 212 = .ok (.aload_n 0, 1) := by decide +kernel
theorem dL_law_213 : decode cL_law 213 = .ok (.iload_n 3, 1) := by decide +kernel
theorem dL_law_214 : decode cL_law 214 = .ok (.iconst 1, 1) := by decide +kernel
theorem dL_law_215 : decode cL_law 215 = .ok (.iadd, 1) := by decide +kernel
theorem dL_law_216 : decode cL_law 216 = .ok (.iaload, 1) := by decide +kernel
theorem dL_law_217 : decode cL_law 217 = .ok (.aload_n 0, 1) := by decide +kernel
theorem dL_law_218 : decode cL_law 218 = .ok (.iload_n 3, 1) := by decide +kernel
theorem dL_law_219 : decode cL_law 219 = .ok (.iconst 2, 1) := by decide +kernel
theorem dL_law_220 : decode cL_law 220 = .ok (.iadd, 1) := by decide +kernel
theorem dL_law_221 : decode cL_law 221 = .ok (.iaload, 1) := by decide +kernel
theorem dL_law_222 : decode cL_law 222 = .ok (.invokevirtual 18, 3) := by decide +kernel
theorem dL_law_225 : decode cL_law 225 = .ok (.aload_n 2, 1) := by decide +kernel
theorem dL_law_226 : decode cL_law 226 = .ok (.aload_n 0, 1) := by decide +kernel
theorem dL_law_227 : decode cL_law 227 = .ok (.iload_n 3, 1) := by decide +kernel
theorem dL_law_228 : decode cL_law 228 = .ok (.iconst 1, 1) := by decide +kernel
theorem dL_law_229 : decode cL_law 229 = .ok (.iadd, 1) := by decide +kernel
theorem dL_law_230 : decode cL_law 230 = .ok (.iaload, 1) := by decide +kernel
theorem dL_law_231 : decode cL_law 231 = .ok (.aload_n 0, 1) := by decide +kernel
theorem dL_law_232 : decode cL_law 232 = .ok (.iload_n 3, 1) := by decide +kernel
theorem dL_law_233 : decode cL_law 233 = .ok (.iconst 2, 1) := by decide +kernel
theorem dL_law_234 : decode cL_law 234 = .ok (.iadd, 1) := by decide +kernel
theorem dL_law_235 : decode cL_law 235 = .ok (.iaload, 1) := by decide +kernel
theorem dL_law_236 : decode cL_law 236 = .ok (.invokevirtual 22, 3) := by decide +kernel
theorem dL_law_239 : decode cL_law 239 = .ok (.if_icmp .eq 1016, 3) := by decide +kernel
theorem dL_law_242 : decode cL_law 242 = .ok (.iconst 0, 1) := by decide +kernel
theorem dL_law_243 : decode cL_law 243 = .ok (.ireturn, 1) := by decide +kernel
theorem dL_law_244 : decode cL_law 244 = .ok (.aload_n 1, 1) := by decide +kernel
theorem dL_law_245 : decode cL_law 245 = .ok (.aload_n 0, 1) := by decide +kernel
theorem dL_law_246 : decode cL_law 246 = .ok (.iload_n 3, 1) := by decide +kernel
theorem dL_law_247 : decode cL_law 247 = .ok (.iconst 1, 1) := by decide +kernel
theorem dL_law_248 : decode cL_law 248 = .ok (.iadd, 1) := by decide +kernel
theorem dL_law_249 : decode cL_law 249 = .ok (.iaload, 1) := by decide +kernel
theorem dL_law_250 : decode cL_law 250 = .ok (.aload_n 0, 1) := by decide +kernel
theorem dL_law_251 : decode cL_law 251 = .ok (.iload_n 3, 1) := by decide +kernel
theorem dL_law_252 : decode cL_law 252 = .ok (.iconst 2, 1) := by decide +kernel
theorem dL_law_253 : decode cL_law 253 = .ok (.iadd, 1) := by decide +kernel
theorem dL_law_254 : decode cL_law 254 = .ok (.iaload, 1) := by decide +kernel
theorem dL_law_255 : decode cL_law 255 = .ok (.aload_n 0, 1) := by decide +kernel
theorem dL_law_256 : decode cL_law 256 = .ok (.iload_n 3, 1) := by decide +kernel
theorem dL_law_257 : decode cL_law 257 = .ok (.iconst 3, 1) := by decide +kernel
theorem dL_law_258 : decode cL_law 258 = .ok (.iadd, 1) := by decide +kernel
theorem dL_law_259 : decode cL_law 259 = .ok (.iaload, 1) := by decide +kernel
theorem dL_law_260 : decode cL_law 260 = .ok (.invokevirtual 23, 3) := by decide +kernel
theorem dL_law_263 : decode cL_law 263 = .ok (.aload_n 2, 1) := by decide +kernel
theorem dL_law_264 : decode cL_law 264 = .ok (.aload_n 0, 1) := by decide +kernel
theorem dL_law_265 : decode cL_law 265 = .ok (.iload_n 3, 1) := by decide +kernel
theorem dL_law_266 : decode cL_law 266 = .ok (.iconst 1, 1) := by decide +kernel
theorem dL_law_267 : decode cL_law 267 = .ok (.iadd, 1) := by decide +kernel
theorem dL_law_268 : decode cL_law 268 = .ok (.iaload, 1) := by decide +kernel
theorem dL_law_269 : decode cL_law 269 = .ok (.aload_n 0, 1) := by decide +kernel
theorem dL_law_270 : decode cL_law 270 = .ok (.iload_n 3, 1) := by decide +kernel
theorem dL_law_271 : decode cL_law 271 = .ok (.iconst 2, 1) := by decide +kernel
theorem dL_law_272 : decode cL_law 272 = .ok (.iadd, 1) := by decide +kernel
theorem dL_law_273 : decode cL_law 273 = .ok (.iaload, 1) := by decide +kernel
theorem dL_law_274 : decode cL_law 274 = .ok (.aload_n 0, 1) := by decide +kernel
theorem dL_law_275 : decode cL_law 275 = .ok (.iload_n 3, 1) := by decide +kernel
theorem dL_law_276 : decode cL_law 276 = .ok (.iconst 3, 1) := by decide +kernel
theorem dL_law_277 : decode cL_law 277 = .ok (.iadd, 1) := by decide +kernel
theorem dL_law_278 : decode cL_law 278 = .ok (.iaload, 1) := by decide +kernel
theorem dL_law_279 : decode cL_law 279 = .ok (.invokevirtual 27, 3) := by decide +kernel
theorem dL_law_282 : decode cL_law 282 = .ok (.if_icmp .eq 973, 3) := by decide +kernel
theorem dL_law_285 : decode cL_law 285 = .ok (.iconst 0, 1) := by decide +kernel
theorem dL_law_286 : decode cL_law 286 = .ok (.ireturn, 1) := by decide +kernel
theorem dL_law_287 : decode cL_law 287 = .ok (.aload_n 1, 1) := by decide +kernel
theorem dL_law_288 : decode cL_law 288 = .ok (.aload_n 0, 1) := by decide +kernel
theorem dL_law_289 : decode cL_law 289 = .ok (.iload_n 3, 1) := by decide +kernel
theorem dL_law_290 : decode cL_law 290 = .ok (.iconst 1, 1) := by decide +kernel
theorem dL_law_291 : decode cL_law 291 = .ok (.iadd, 1) := by decide +kernel
theorem dL_law_292 : decode cL_law 292 = .ok (.iaload, 1) := by decide +kernel
theorem dL_law_293 : decode cL_law 293 = .ok (.aload_n 0, 1) := by decide +kernel
theorem dL_law_294 : decode cL_law 294 = .ok (.iload_n 3, 1) := by decide +kernel
theorem dL_law_295 : decode cL_law 295 = .ok (.iconst 2, 1) := by decide +kernel
theorem dL_law_296 : decode cL_law 296 = .ok (.iadd, 1) := by decide +kernel
theorem dL_law_297 : decode cL_law 297 = .ok (.iaload, 1) := by decide +kernel
theorem dL_law_298 : decode cL_law 298 = .ok (.aload_n 0, 1) := by decide +kernel
theorem dL_law_299 : decode cL_law 299 = .ok (.iload_n 3, 1) := by decide +kernel
theorem dL_law_300 : decode cL_law 300 = .ok (.iconst 3, 1) := by decide +kernel
theorem dL_law_301 : decode cL_law 301 = .ok (.iadd, 1) := by decide +kernel
theorem dL_law_302 : decode cL_law 302 = .ok (.iaload, 1) := by decide +kernel
theorem dL_law_303 : decode cL_law 303 = .ok (.invokevirtual 28, 3) := by decide +kernel
theorem dL_law_306 : decode cL_law 306 = .ok (.aload_n 2, 1) := by decide +kernel
theorem dL_law_307 : decode cL_law 307 = .ok (.aload_n 0, 1) := by decide +kernel
theorem dL_law_308 : decode cL_law 308 = .ok (.iload_n 3, 1) := by decide +kernel
theorem dL_law_309 : decode cL_law 309 = .ok (.iconst 1, 1) := by decide +kernel
theorem dL_law_310 : decode cL_law 310 = .ok (.iadd, 1) := by decide +kernel
theorem dL_law_311 : decode cL_law 311 = .ok (.iaload, 1) := by decide +kernel
theorem dL_law_312 : decode cL_law 312 = .ok (.aload_n 0, 1) := by decide +kernel
theorem dL_law_313 : decode cL_law 313 = .ok (.iload_n 3, 1) := by decide +kernel
theorem dL_law_314 : decode cL_law 314 = .ok (.iconst 2, 1) := by decide +kernel
theorem dL_law_315 : decode cL_law 315 = .ok (.iadd, 1) := by decide +kernel
theorem dL_law_316 : decode cL_law 316 = .ok (.iaload, 1) := by decide +kernel
theorem dL_law_317 : decode cL_law 317 = .ok (.aload_n 0, 1) := by decide +kernel
theorem dL_law_318 : decode cL_law 318 = .ok (.iload_n 3, 1) := by decide +kernel
theorem dL_law_319 : decode cL_law 319 = .ok (.iconst 3, 1) := by decide +kernel
theorem dL_law_320 : decode cL_law 320 = .ok (.iadd, 1) := by decide +kernel
theorem dL_law_321 : decode cL_law 321 = .ok (.iaload, 1) := by decide +kernel
theorem dL_law_322 : decode cL_law 322 = .ok (.invokevirtual 32, 3) := by decide +kernel
theorem dL_law_325 : decode cL_law 325 = .ok (.if_icmp .eq 930, 3) := by decide +kernel
theorem dL_law_328 : decode cL_law 328 = .ok (.iconst 0, 1) := by decide +kernel
theorem dL_law_329 : decode cL_law 329 = .ok (.ireturn, 1) := by decide +kernel
theorem dL_law_330 : decode cL_law 330 = .ok (.aload_n 1, 1) := by decide +kernel
theorem dL_law_331 : decode cL_law 331 = .ok (.aload_n 0, 1) := by decide +kernel
theorem dL_law_332 : decode cL_law 332 = .ok (.iload_n 3, 1) := by decide +kernel
theorem dL_law_333 : decode cL_law 333 = .ok (.iconst 1, 1) := by decide +kernel
theorem dL_law_334 : decode cL_law 334 = .ok (.iadd, 1) := by decide +kernel
theorem dL_law_335 : decode cL_law 335 = .ok (.iaload, 1) := by decide +kernel
theorem dL_law_336 : decode cL_law 336 = .ok (.aload_n 0, 1) := by decide +kernel
theorem dL_law_337 : decode cL_law 337 = .ok (.iload_n 3, 1) := by decide +kernel
theorem dL_law_338 : decode cL_law 338 = .ok (.iconst 2, 1) := by decide +kernel
theorem dL_law_339 : decode cL_law 339 = .ok (.iadd, 1) := by decide +kernel
theorem dL_law_340 : decode cL_law 340 = .ok (.iaload, 1) := by decide +kernel
theorem dL_law_341 : decode cL_law 341 = .ok (.aload_n 0, 1) := by decide +kernel
theorem dL_law_342 : decode cL_law 342 = .ok (.iload_n 3, 1) := by decide +kernel
theorem dL_law_343 : decode cL_law 343 = .ok (.iconst 3, 1) := by decide +kernel
theorem dL_law_344 : decode cL_law 344 = .ok (.iadd, 1) := by decide +kernel
theorem dL_law_345 : decode cL_law 345 = .ok (.iaload, 1) := by decide +kernel
theorem dL_law_346 : decode cL_law 346 = .ok (.invokevirtual 33, 3) := by decide +kernel
theorem dL_law_349 : decode cL_law 349 = .ok (.aload_n 2, 1) := by decide +kernel
theorem dL_law_350 : decode cL_law 350 = .ok (.aload_n 0, 1) := by decide +kernel
theorem dL_law_351 : decode cL_law 351 = .ok (.iload_n 3, 1) := by decide +kernel
theorem dL_law_352 : decode cL_law 352 = .ok (.iconst 1, 1) := by decide +kernel
theorem dL_law_353 : decode cL_law 353 = .ok (.iadd, 1) := by decide +kernel
theorem dL_law_354 : decode cL_law 354 = .ok (.iaload, 1) := by decide +kernel
theorem dL_law_355 : decode cL_law 355 = .ok (.aload_n 0, 1) := by decide +kernel
theorem dL_law_356 : decode cL_law 356 = .ok (.iload_n 3, 1) := by decide +kernel
theorem dL_law_357 : decode cL_law 357 = .ok (.iconst 2, 1) := by decide +kernel
theorem dL_law_358 : decode cL_law 358 = .ok (.iadd, 1) := by decide +kernel
theorem dL_law_359 : decode cL_law 359 = .ok (.iaload, 1) := by decide +kernel
theorem dL_law_360 : decode cL_law 360 = .ok (.aload_n 0, 1) := by decide +kernel
theorem dL_law_361 : decode cL_law 361 = .ok (.iload_n 3, 1) := by decide +kernel
theorem dL_law_362 : decode cL_law 362 = .ok (.iconst 3, 1) := by decide +kernel
theorem dL_law_363 : decode cL_law 363 = .ok (.iadd, 1) := by decide +kernel
theorem dL_law_364 : decode cL_law 364 = .ok (.iaload, 1) := by decide +kernel
theorem dL_law_365 : decode cL_law 365 = .ok (.invokevirtual 36, 3) := by decide +kernel
theorem dL_law_368 : decode cL_law 368 = .ok (.if_icmp .eq 887, 3) := by decide +kernel
theorem dL_law_371 : decode cL_law 371 = .ok (.iconst 0, 1) := by decide +kernel
theorem dL_law_372 : decode cL_law 372 = .ok (.ireturn, 1) := by decide +kernel
theorem dL_law_373 : decode cL_law 373 = .ok (.aload_n 1, 1) := by decide +kernel
theorem dL_law_374 : decode cL_law 374 = .ok (.invokevirtual 37, 3) := by decide +kernel
theorem dL_law_377 : decode cL_law 377 = .ok (.aload_n 2, 1) := by decide +kernel
theorem dL_law_378 : decode cL_law 378 = .ok (.invokevirtual 41, 3) := by decide +kernel
theorem dL_law_381 : decode cL_law 381 = .ok (.if_icmp .eq 874, 3) := by decide +kernel
theorem dL_law_384 : decode cL_law 384 = .ok (.iconst 0, 1) := by decide +kernel
theorem dL_law_385 : decode cL_law 385 = .ok (.ireturn, 1) := by decide +kernel
theorem dL_law_386 : decode cL_law 386 = .ok (.aload_n 1, 1) := by decide +kernel
theorem dL_law_387 : decode cL_law 387 = .ok (.aload_n 0, 1) := by decide +kernel
theorem dL_law_388 : decode cL_law 388 = .ok (.iload_n 3, 1) := by decide +kernel
theorem dL_law_389 : decode cL_law 389 = .ok (.iconst 1, 1) := by decide +kernel
theorem dL_law_390 : decode cL_law 390 = .ok (.iadd, 1) := by decide +kernel
theorem dL_law_391 : decode cL_law 391 = .ok (.iaload, 1) := by decide +kernel
theorem dL_law_392 : decode cL_law 392 = .ok (.aload_n 0, 1) := by decide +kernel
theorem dL_law_393 : decode cL_law 393 = .ok (.iload_n 3, 1) := by decide +kernel
theorem dL_law_394 : decode cL_law 394 = .ok (.iconst 2, 1) := by decide +kernel
theorem dL_law_395 : decode cL_law 395 = .ok (.iadd, 1) := by decide +kernel
theorem dL_law_396 : decode cL_law 396 = .ok (.iaload, 1) := by decide +kernel
theorem dL_law_397 : decode cL_law 397 = .ok (.aload_n 0, 1) := by decide +kernel
theorem dL_law_398 : decode cL_law 398 = .ok (.iload_n 3, 1) := by decide +kernel
theorem dL_law_399 : decode cL_law 399 = .ok (.iconst 3, 1) := by decide +kernel
theorem dL_law_400 : decode cL_law 400 = .ok (.iadd, 1) := by decide +kernel
theorem dL_law_401 : decode cL_law 401 = .ok (.iaload, 1) := by decide +kernel
theorem dL_law_402 : decode cL_law 402 = .ok (.invokevirtual 42, 3) := by decide +kernel
theorem dL_law_405 : decode cL_law 405 = .ok (.aload_n 2, 1) := by decide +kernel
theorem dL_law_406 : decode cL_law 406 = .ok (.aload_n 0, 1) := by decide +kernel
theorem dL_law_407 : decode cL_law 407 = .ok (.iload_n 3, 1) := by decide +kernel
theorem dL_law_408 : decode cL_law 408 = .ok (.iconst 1, 1) := by decide +kernel
theorem dL_law_409 : decode cL_law 409 = .ok (.iadd, 1) := by decide +kernel
theorem dL_law_410 : decode cL_law 410 = .ok (.iaload, 1) := by decide +kernel
theorem dL_law_411 : decode cL_law 411 = .ok (.aload_n 0, 1) := by decide +kernel
theorem dL_law_412 : decode cL_law 412 = .ok (.iload_n 3, 1) := by decide +kernel
theorem dL_law_413 : decode cL_law 413 = .ok (.iconst 2, 1) := by decide +kernel
theorem dL_law_414 : decode cL_law 414 = .ok (.iadd, 1) := by decide +kernel
theorem dL_law_415 : decode cL_law 415 = .ok (.iaload, 1) := by decide +kernel
theorem dL_law_416 : decode cL_law 416 = .ok (.aload_n 0, 1) := by decide +kernel
theorem dL_law_417 : decode cL_law 417 = .ok (.iload_n 3, 1) := by decide +kernel
theorem dL_law_418 : decode cL_law 418 = .ok (.iconst 3, 1) := by decide +kernel
theorem dL_law_419 : decode cL_law 419 = .ok (.iadd, 1) := by decide +kernel
theorem dL_law_420 : decode cL_law 420 = .ok (.iaload, 1) := by decide +kernel
theorem dL_law_421 : decode cL_law 421 = .ok (.invokevirtual 45, 3) := by decide +kernel
theorem dL_law_424 : decode cL_law 424 = .ok (.if_icmp .eq 831, 3) := by decide +kernel
theorem dL_law_427 : decode cL_law 427 = .ok (.iconst 0, 1) := by decide +kernel
theorem dL_law_428 : decode cL_law 428 = .ok (.ireturn, 1) := by decide +kernel
theorem dL_law_429 : decode cL_law 429 = .ok (.aload_n 1, 1) := by decide +kernel
theorem dL_law_430 : decode cL_law 430 = .ok (.aload_n 0, 1) := by decide +kernel
theorem dL_law_431 : decode cL_law 431 = .ok (.iload_n 3, 1) := by decide +kernel
theorem dL_law_432 : decode cL_law 432 = .ok (.iconst 1, 1) := by decide +kernel
theorem dL_law_433 : decode cL_law 433 = .ok (.iadd, 1) := by decide +kernel
theorem dL_law_434 : decode cL_law 434 = .ok (.iaload, 1) := by decide +kernel
theorem dL_law_435 : decode cL_law 435 = .ok (.invokevirtual 46, 3) := by decide +kernel
theorem dL_law_438 : decode cL_law 438 = .ok (.aload_n 2, 1) := by decide +kernel
theorem dL_law_439 : decode cL_law 439 = .ok (.aload_n 0, 1) := by decide +kernel
theorem dL_law_440 : decode cL_law 440 = .ok (.iload_n 3, 1) := by decide +kernel
theorem dL_law_441 : decode cL_law 441 = .ok (.iconst 1, 1) := by decide +kernel
theorem dL_law_442 : decode cL_law 442 = .ok (.iadd, 1) := by decide +kernel
theorem dL_law_443 : decode cL_law 443 = .ok (.iaload, 1) := by decide +kernel
theorem dL_law_444 : decode cL_law 444 = .ok (.invokevirtual 49, 3) := by decide +kernel
theorem dL_law_447 : decode cL_law 447 = .ok (.if_icmp .eq 808, 3) := by decide +kernel
theorem dL_law_450 : decode cL_law 450 = .ok (.iconst 0, 1) := by decide +kernel
theorem dL_law_451 : decode cL_law 451 = .ok (.ireturn, 1) := by decide +kernel
theorem dL_law_452 : decode cL_law 452 = .ok (.aload_n 1, 1) := by decide +kernel
theorem dL_law_453 : decode cL_law 453 = .ok (.invokevirtual 50, 3) := by decide +kernel
theorem dL_law_456 : decode cL_law 456 = .ok (.aload_n 2, 1) := by decide +kernel
theorem dL_law_457 : decode cL_law 457 = .ok (.invokevirtual 53, 3) := by decide +kernel
theorem dL_law_460 : decode cL_law 460 = .ok (.if_icmp .eq 795, 3) := by decide +kernel
theorem dL_law_463 : decode cL_law 463 = .ok (.iconst 0, 1) := by decide +kernel
theorem dL_law_464 : decode cL_law 464 = .ok (.ireturn, 1) := by decide +kernel
theorem dL_law_465 : decode cL_law 465 = .ok (.aload_n 1, 1) := by decide +kernel
theorem dL_law_466 : decode cL_law 466 = .ok (.aload_n 0, 1) := by decide +kernel
theorem dL_law_467 : decode cL_law 467 = .ok (.iload_n 3, 1) := by decide +kernel
theorem dL_law_468 : decode cL_law 468 = .ok (.iconst 1, 1) := by decide +kernel
theorem dL_law_469 : decode cL_law 469 = .ok (.iadd, 1) := by decide +kernel
theorem dL_law_470 : decode cL_law 470 = .ok (.iaload, 1) := by decide +kernel
theorem dL_law_471 : decode cL_law 471 = .ok (.invokevirtual 54, 3) := by decide +kernel
theorem dL_law_474 : decode cL_law 474 = .ok (.aload_n 2, 1) := by decide +kernel
theorem dL_law_475 : decode cL_law 475 = .ok (.aload_n 0, 1) := by decide +kernel
theorem dL_law_476 : decode cL_law 476 = .ok (.iload_n 3, 1) := by decide +kernel
theorem dL_law_477 : decode cL_law 477 = .ok (.iconst 1, 1) := by decide +kernel
theorem dL_law_478 : decode cL_law 478 = .ok (.iadd, 1) := by decide +kernel
theorem dL_law_479 : decode cL_law 479 = .ok (.iaload, 1) := by decide +kernel
theorem dL_law_480 : decode cL_law 480 = .ok (.invokevirtual 57, 3) := by decide +kernel
theorem dL_law_483 : decode cL_law 483 = .ok (.if_icmp .eq 772, 3) := by decide +kernel
theorem dL_law_486 : decode cL_law 486 = .ok (.iconst 0, 1) := by decide +kernel
theorem dL_law_487 : decode cL_law 487 = .ok (.ireturn, 1) := by decide +kernel
theorem dL_law_488 : decode cL_law 488 = .ok (.aload_n 1, 1) := by decide +kernel
theorem dL_law_489 : decode cL_law 489 = .ok (.aload_n 0, 1) := by decide +kernel
theorem dL_law_490 : decode cL_law 490 = .ok (.iload_n 3, 1) := by decide +kernel
theorem dL_law_491 : decode cL_law 491 = .ok (.iconst 1, 1) := by decide +kernel
theorem dL_law_492 : decode cL_law 492 = .ok (.iadd, 1) := by decide +kernel
theorem dL_law_493 : decode cL_law 493 = .ok (.iaload, 1) := by decide +kernel
theorem dL_law_494 : decode cL_law 494 = .ok (.aload_n 0, 1) := by decide +kernel
theorem dL_law_495 : decode cL_law 495 = .ok (.iload_n 3, 1) := by decide +kernel
theorem dL_law_496 : decode cL_law 496 = .ok (.iconst 2, 1) := by decide +kernel
theorem dL_law_497 : decode cL_law 497 = .ok (.iadd, 1) := by decide +kernel
theorem dL_law_498 : decode cL_law 498 = .ok (.iaload, 1) := by decide +kernel
theorem dL_law_499 : decode cL_law 499 = .ok (.aload_n 0, 1) := by decide +kernel
theorem dL_law_500 : decode cL_law 500 = .ok (.iload_n 3, 1) := by decide +kernel
theorem dL_law_501 : decode cL_law 501 = .ok (.iconst 3, 1) := by decide +kernel
theorem dL_law_502 : decode cL_law 502 = .ok (.iadd, 1) := by decide +kernel
theorem dL_law_503 : decode cL_law 503 = .ok (.iaload, 1) := by decide +kernel
theorem dL_law_504 : decode cL_law 504 = .ok (.aload_n 0, 1) := by decide +kernel
theorem dL_law_505 : decode cL_law 505 = .ok (.iload_n 3, 1) := by decide +kernel
theorem dL_law_506 : decode cL_law 506 = .ok (.iconst 4, 1) := by decide +kernel
theorem dL_law_507 : decode cL_law 507 = .ok (.iadd, 1) := by decide +kernel
theorem dL_law_508 : decode cL_law 508 = .ok (.iaload, 1) := by decide +kernel
theorem dL_law_509 : decode cL_law 509 = .ok (.aload_n 0, 1) := by decide +kernel
theorem dL_law_510 : decode cL_law 510 = .ok (.iload_n 3, 1) := by decide +kernel
theorem dL_law_511 : decode cL_law 511 = .ok (.iconst 5, 1) := by decide +kernel
theorem dL_law_512 : decode cL_law 512 = .ok (.iadd, 1) := by decide +kernel
theorem dL_law_513 : decode cL_law 513 = .ok (.iaload, 1) := by decide +kernel
theorem dL_law_514 : decode cL_law 514 = .ok (.invokevirtual 58, 3) := by decide +kernel
theorem dL_law_517 : decode cL_law 517 = .ok (.aload_n 2, 1) := by decide +kernel
theorem dL_law_518 : decode cL_law 518 = .ok (.aload_n 0, 1) := by decide +kernel
theorem dL_law_519 : decode cL_law 519 = .ok (.iload_n 3, 1) := by decide +kernel
theorem dL_law_520 : decode cL_law 520 = .ok (.iconst 1, 1) := by decide +kernel
theorem dL_law_521 : decode cL_law 521 = .ok (.iadd, 1) := by decide +kernel
theorem dL_law_522 : decode cL_law 522 = .ok (.iaload, 1) := by decide +kernel
theorem dL_law_523 : decode cL_law 523 = .ok (.aload_n 0, 1) := by decide +kernel
theorem dL_law_524 : decode cL_law 524 = .ok (.iload_n 3, 1) := by decide +kernel
theorem dL_law_525 : decode cL_law 525 = .ok (.iconst 2, 1) := by decide +kernel
theorem dL_law_526 : decode cL_law 526 = .ok (.iadd, 1) := by decide +kernel
theorem dL_law_527 : decode cL_law 527 = .ok (.iaload, 1) := by decide +kernel
theorem dL_law_528 : decode cL_law 528 = .ok (.aload_n 0, 1) := by decide +kernel
theorem dL_law_529 : decode cL_law 529 = .ok (.iload_n 3, 1) := by decide +kernel
theorem dL_law_530 : decode cL_law 530 = .ok (.iconst 3, 1) := by decide +kernel
theorem dL_law_531 : decode cL_law 531 = .ok (.iadd, 1) := by decide +kernel
theorem dL_law_532 : decode cL_law 532 = .ok (.iaload, 1) := by decide +kernel
theorem dL_law_533 : decode cL_law 533 = .ok (.aload_n 0, 1) := by decide +kernel
theorem dL_law_534 : decode cL_law 534 = .ok (.iload_n 3, 1) := by decide +kernel
theorem dL_law_535 : decode cL_law 535 = .ok (.iconst 4, 1) := by decide +kernel
theorem dL_law_536 : decode cL_law 536 = .ok (.iadd, 1) := by decide +kernel
theorem dL_law_537 : decode cL_law 537 = .ok (.iaload, 1) := by decide +kernel
theorem dL_law_538 : decode cL_law 538 = .ok (.aload_n 0, 1) := by decide +kernel
theorem dL_law_539 : decode cL_law 539 = .ok (.iload_n 3, 1) := by decide +kernel
theorem dL_law_540 : decode cL_law 540 = .ok (.iconst 5, 1) := by decide +kernel
theorem dL_law_541 : decode cL_law 541 = .ok (.iadd, 1) := by decide +kernel
theorem dL_law_542 : decode cL_law 542 = .ok (.iaload, 1) := by decide +kernel
theorem dL_law_543 : decode cL_law 543 = .ok (.invokevirtual 62, 3) := by decide +kernel
theorem dL_law_546 : decode cL_law 546 = .ok (.if_icmp .eq 709, 3) := by decide +kernel
theorem dL_law_549 : decode cL_law 549 = .ok (.iconst 0, 1) := by decide +kernel
theorem dL_law_550 : decode cL_law 550 = .ok (.ireturn, 1) := by decide +kernel
theorem dL_law_551 : decode cL_law 551 = .ok (.aload_n 1, 1) := by decide +kernel
theorem dL_law_552 : decode cL_law 552 = .ok (.aload_n 0, 1) := by decide +kernel
theorem dL_law_553 : decode cL_law 553 = .ok (.iload_n 3, 1) := by decide +kernel
theorem dL_law_554 : decode cL_law 554 = .ok (.iconst 1, 1) := by decide +kernel
theorem dL_law_555 : decode cL_law 555 = .ok (.iadd, 1) := by decide +kernel
theorem dL_law_556 : decode cL_law 556 = .ok (.iaload, 1) := by decide +kernel
theorem dL_law_557 : decode cL_law 557 = .ok (.invokevirtual 63, 3) := by decide +kernel
theorem dL_law_560 : decode cL_law 560 = .ok (.aload_n 2, 1) := by decide +kernel
theorem dL_law_561 : decode cL_law 561 = .ok (.aload_n 0, 1) := by decide +kernel
theorem dL_law_562 : decode cL_law 562 = .ok (.iload_n 3, 1) := by decide +kernel
theorem dL_law_563 : decode cL_law 563 = .ok (.iconst 1, 1) := by decide +kernel
theorem dL_law_564 : decode cL_law 564 = .ok (.iadd, 1) := by decide +kernel
theorem dL_law_565 : decode cL_law 565 = .ok (.iaload, 1) := by decide +kernel
theorem dL_law_566 : decode cL_law 566 = .ok (.invokevirtual 67, 3) := by decide +kernel
theorem dL_law_569 : decode cL_law 569 = .ok (.if_icmp .eq 686, 3) := by decide +kernel
theorem dL_law_572 : decode cL_law 572 = .ok (.iconst 0, 1) := by decide +kernel
theorem dL_law_573 : decode cL_law 573 = .ok (.ireturn, 1) := by decide +kernel
theorem dL_law_574 : decode cL_law 574 = .ok (.aload_n 1, 1) := by decide +kernel
theorem dL_law_575 : decode cL_law 575 = .ok (.aload_n 0, 1) := by decide +kernel
theorem dL_law_576 : decode cL_law 576 = .ok (.iload_n 3, 1) := by decide +kernel
theorem dL_law_577 : decode cL_law 577 = .ok (.iconst 1, 1) := by decide +kernel
theorem dL_law_578 : decode cL_law 578 = .ok (.iadd, 1) := by decide +kernel
theorem dL_law_579 : decode cL_law 579 = .ok (.iaload, 1) := by decide +kernel
theorem dL_law_580 : decode cL_law 580 = .ok (.invokevirtual 68, 3) := by decide +kernel
theorem dL_law_583 : decode cL_law 583 = .ok (.aload_n 2, 1) := by decide +kernel
theorem dL_law_584 : decode cL_law 584 = .ok (.aload_n 0, 1) := by decide +kernel
theorem dL_law_585 : decode cL_law 585 = .ok (.iload_n 3, 1) := by decide +kernel
theorem dL_law_586 : decode cL_law 586 = .ok (.iconst 1, 1) := by decide +kernel
theorem dL_law_587 : decode cL_law 587 = .ok (.iadd, 1) := by decide +kernel
theorem dL_law_588 : decode cL_law 588 = .ok (.iaload, 1) := by decide +kernel
theorem dL_law_589 : decode cL_law 589 = .ok (.invokevirtual 71, 3) := by decide +kernel
theorem dL_law_592 : decode cL_law 592 = .ok (.if_icmp .eq 663, 3) := by decide +kernel
theorem dL_law_595 : decode cL_law 595 = .ok (.iconst 0, 1) := by decide +kernel
theorem dL_law_596 : decode cL_law 596 = .ok (.ireturn, 1) := by decide +kernel
theorem dL_law_597 : decode cL_law 597 = .ok (.aload_n 1, 1) := by decide +kernel
theorem dL_law_598 : decode cL_law 598 = .ok (.aload_n 0, 1) := by decide +kernel
theorem dL_law_599 : decode cL_law 599 = .ok (.iload_n 3, 1) := by decide +kernel
theorem dL_law_600 : decode cL_law 600 = .ok (.iconst 1, 1) := by decide +kernel
theorem dL_law_601 : decode cL_law 601 = .ok (.iadd, 1) := by decide +kernel
theorem dL_law_602 : decode cL_law 602 = .ok (.iaload, 1) := by decide +kernel
theorem dL_law_603 : decode cL_law 603 = .ok (.invokevirtual 72, 3) := by decide +kernel
theorem dL_law_606 : decode cL_law 606 = .ok (.aload_n 2, 1) := by decide +kernel
theorem dL_law_607 : decode cL_law 607 = .ok (.aload_n 0, 1) := by decide +kernel
theorem dL_law_608 : decode cL_law 608 = .ok (.iload_n 3, 1) := by decide +kernel
theorem dL_law_609 : decode cL_law 609 = .ok (.iconst 1, 1) := by decide +kernel
theorem dL_law_610 : decode cL_law 610 = .ok (.iadd, 1) := by decide +kernel
theorem dL_law_611 : decode cL_law 611 = .ok (.iaload, 1) := by decide +kernel
theorem dL_law_612 : decode cL_law 612 = .ok (.invokevirtual 75, 3) := by decide +kernel
theorem dL_law_615 : decode cL_law 615 = .ok (.if_icmp .eq 640, 3) := by decide +kernel
theorem dL_law_618 : decode cL_law 618 = .ok (.iconst 0, 1) := by decide +kernel
theorem dL_law_619 : decode cL_law 619 = .ok (.ireturn, 1) := by decide +kernel
theorem dL_law_620 : decode cL_law 620 = .ok (.aload_n 1, 1) := by decide +kernel
theorem dL_law_621 : decode cL_law 621 = .ok (.aload_n 0, 1) := by decide +kernel
theorem dL_law_622 : decode cL_law 622 = .ok (.iload_n 3, 1) := by decide +kernel
theorem dL_law_623 : decode cL_law 623 = .ok (.iconst 1, 1) := by decide +kernel
theorem dL_law_624 : decode cL_law 624 = .ok (.iadd, 1) := by decide +kernel
theorem dL_law_625 : decode cL_law 625 = .ok (.iaload, 1) := by decide +kernel
theorem dL_law_626 : decode cL_law 626 = .ok (.aload_n 0, 1) := by decide +kernel
theorem dL_law_627 : decode cL_law 627 = .ok (.iload_n 3, 1) := by decide +kernel
theorem dL_law_628 : decode cL_law 628 = .ok (.iconst 2, 1) := by decide +kernel
theorem dL_law_629 : decode cL_law 629 = .ok (.iadd, 1) := by decide +kernel
theorem dL_law_630 : decode cL_law 630 = .ok (.iaload, 1) := by decide +kernel
theorem dL_law_631 : decode cL_law 631 = .ok (.invokevirtual 76, 3) := by decide +kernel
theorem dL_law_634 : decode cL_law 634 = .ok (.aload_n 2, 1) := by decide +kernel
theorem dL_law_635 : decode cL_law 635 = .ok (.aload_n 0, 1) := by decide +kernel
theorem dL_law_636 : decode cL_law 636 = .ok (.iload_n 3, 1) := by decide +kernel
theorem dL_law_637 : decode cL_law 637 = .ok (.iconst 1, 1) := by decide +kernel
theorem dL_law_638 : decode cL_law 638 = .ok (.iadd, 1) := by decide +kernel
theorem dL_law_639 : decode cL_law 639 = .ok (.iaload, 1) := by decide +kernel
theorem dL_law_640 : decode cL_law 640 = .ok (.aload_n 0, 1) := by decide +kernel
theorem dL_law_641 : decode cL_law 641 = .ok (.iload_n 3, 1) := by decide +kernel
theorem dL_law_642 : decode cL_law 642 = .ok (.iconst 2, 1) := by decide +kernel
theorem dL_law_643 : decode cL_law 643 = .ok (.iadd, 1) := by decide +kernel
theorem dL_law_644 : decode cL_law 644 = .ok (.iaload, 1) := by decide +kernel
theorem dL_law_645 : decode cL_law 645 = .ok (.invokevirtual 79, 3) := by decide +kernel
theorem dL_law_648 : decode cL_law 648 = .ok (.if_icmp .eq 607, 3) := by decide +kernel
theorem dL_law_651 : decode cL_law 651 = .ok (.iconst 0, 1) := by decide +kernel
theorem dL_law_652 : decode cL_law 652 = .ok (.ireturn, 1) := by decide +kernel
theorem dL_law_653 : decode cL_law 653 = .ok (.aload_n 1, 1) := by decide +kernel
theorem dL_law_654 : decode cL_law 654 = .ok (.aload_n 0, 1) := by decide +kernel
theorem dL_law_655 : decode cL_law 655 = .ok (.iload_n 3, 1) := by decide +kernel
theorem dL_law_656 : decode cL_law 656 = .ok (.iconst 1, 1) := by decide +kernel
theorem dL_law_657 : decode cL_law 657 = .ok (.iadd, 1) := by decide +kernel
theorem dL_law_658 : decode cL_law 658 = .ok (.iaload, 1) := by decide +kernel
theorem dL_law_659 : decode cL_law 659 = .ok (.aload_n 0, 1) := by decide +kernel
theorem dL_law_660 : decode cL_law 660 = .ok (.iload_n 3, 1) := by decide +kernel
theorem dL_law_661 : decode cL_law 661 = .ok (.iconst 2, 1) := by decide +kernel
theorem dL_law_662 : decode cL_law 662 = .ok (.iadd, 1) := by decide +kernel
theorem dL_law_663 : decode cL_law 663 = .ok (.iaload, 1) := by decide +kernel
theorem dL_law_664 : decode cL_law 664 = .ok (.invokevirtual 80, 3) := by decide +kernel
theorem dL_law_667 : decode cL_law 667 = .ok (.aload_n 2, 1) := by decide +kernel
theorem dL_law_668 : decode cL_law 668 = .ok (.aload_n 0, 1) := by decide +kernel
theorem dL_law_669 : decode cL_law 669 = .ok (.iload_n 3, 1) := by decide +kernel
theorem dL_law_670 : decode cL_law 670 = .ok (.iconst 1, 1) := by decide +kernel
theorem dL_law_671 : decode cL_law 671 = .ok (.iadd, 1) := by decide +kernel
theorem dL_law_672 : decode cL_law 672 = .ok (.iaload, 1) := by decide +kernel
theorem dL_law_673 : decode cL_law 673 = .ok (.aload_n 0, 1) := by decide +kernel
theorem dL_law_674 : decode cL_law 674 = .ok (.iload_n 3, 1) := by decide +kernel
theorem dL_law_675 : decode cL_law 675 = .ok (.iconst 2, 1) := by decide +kernel
theorem dL_law_676 : decode cL_law 676 = .ok (.iadd, 1) := by decide +kernel
theorem dL_law_677 : decode cL_law 677 = .ok (.iaload, 1) := by decide +kernel
theorem dL_law_678 : decode cL_law 678 = .ok (.invokevirtual 83, 3) := by decide +kernel
theorem dL_law_681 : decode cL_law 681 = .ok (.if_icmp .eq 574, 3) := by decide +kernel
theorem dL_law_684 : decode cL_law 684 = .ok (.iconst 0, 1) := by decide +kernel
theorem dL_law_685 : decode cL_law 685 = .ok (.ireturn, 1) := by decide +kernel
theorem dL_law_686 : decode cL_law 686 = .ok (.aload_n 1, 1) := by decide +kernel
theorem dL_law_687 : decode cL_law 687 = .ok (.aload_n 0, 1) := by decide +kernel
theorem dL_law_688 : decode cL_law 688 = .ok (.iload_n 3, 1) := by decide +kernel
theorem dL_law_689 : decode cL_law 689 = .ok (.iconst 1, 1) := by decide +kernel
theorem dL_law_690 : decode cL_law 690 = .ok (.iadd, 1) := by decide +kernel
theorem dL_law_691 : decode cL_law 691 = .ok (.iaload, 1) := by decide +kernel
theorem dL_law_692 : decode cL_law 692 = .ok (.aload_n 0, 1) := by decide +kernel
theorem dL_law_693 : decode cL_law 693 = .ok (.iload_n 3, 1) := by decide +kernel
theorem dL_law_694 : decode cL_law 694 = .ok (.iconst 2, 1) := by decide +kernel
theorem dL_law_695 : decode cL_law 695 = .ok (.iadd, 1) := by decide +kernel
theorem dL_law_696 : decode cL_law 696 = .ok (.iaload, 1) := by decide +kernel
theorem dL_law_697 : decode cL_law 697 = .ok (.invokevirtual 84, 3) := by decide +kernel
theorem dL_law_700 : decode cL_law 700 = .ok (.aload_n 2, 1) := by decide +kernel
theorem dL_law_701 : decode cL_law 701 = .ok (.aload_n 0, 1) := by decide +kernel
theorem dL_law_702 : decode cL_law 702 = .ok (.iload_n 3, 1) := by decide +kernel
theorem dL_law_703 : decode cL_law 703 = .ok (.iconst 1, 1) := by decide +kernel
theorem dL_law_704 : decode cL_law 704 = .ok (.iadd, 1) := by decide +kernel
theorem dL_law_705 : decode cL_law 705 = .ok (.iaload, 1) := by decide +kernel
theorem dL_law_706 : decode cL_law 706 = .ok (.aload_n 0, 1) := by decide +kernel
theorem dL_law_707 : decode cL_law 707 = .ok (.iload_n 3, 1) := by decide +kernel
theorem dL_law_708 : decode cL_law 708 = .ok (.iconst 2, 1) := by decide +kernel
theorem dL_law_709 : decode cL_law 709 = .ok (.iadd, 1) := by decide +kernel
theorem dL_law_710 : decode cL_law 710 = .ok (.iaload, 1) := by decide +kernel
theorem dL_law_711 : decode cL_law 711 = .ok (.invokevirtual 87, 3) := by decide +kernel
theorem dL_law_714 : decode cL_law 714 = .ok (.if_icmp .eq 541, 3) := by decide +kernel
theorem dL_law_717 : decode cL_law 717 = .ok (.iconst 0, 1) := by decide +kernel
theorem dL_law_718 : decode cL_law 718 = .ok (.ireturn, 1) := by decide +kernel
theorem dL_law_719 : decode cL_law 719 = .ok (.aload_n 1, 1) := by decide +kernel
theorem dL_law_720 : decode cL_law 720 = .ok (.aload_n 0, 1) := by decide +kernel
theorem dL_law_721 : decode cL_law 721 = .ok (.iload_n 3, 1) := by decide +kernel
theorem dL_law_722 : decode cL_law 722 = .ok (.iconst 1, 1) := by decide +kernel
theorem dL_law_723 : decode cL_law 723 = .ok (.iadd, 1) := by decide +kernel
theorem dL_law_724 : decode cL_law 724 = .ok (.iaload, 1) := by decide +kernel
theorem dL_law_725 : decode cL_law 725 = .ok (.aload_n 0, 1) := by decide +kernel
theorem dL_law_726 : decode cL_law 726 = .ok (.iload_n 3, 1) := by decide +kernel
theorem dL_law_727 : decode cL_law 727 = .ok (.iconst 2, 1) := by decide +kernel
theorem dL_law_728 : decode cL_law 728 = .ok (.iadd, 1) := by decide +kernel
theorem dL_law_729 : decode cL_law 729 = .ok (.iaload, 1) := by decide +kernel
theorem dL_law_730 : decode cL_law 730 = .ok (.invokevirtual 88, 3) := by decide +kernel
theorem dL_law_733 : decode cL_law 733 = .ok (.aload_n 2, 1) := by decide +kernel
theorem dL_law_734 : decode cL_law 734 = .ok (.aload_n 0, 1) := by decide +kernel
theorem dL_law_735 : decode cL_law 735 = .ok (.iload_n 3, 1) := by decide +kernel
theorem dL_law_736 : decode cL_law 736 = .ok (.iconst 1, 1) := by decide +kernel
theorem dL_law_737 : decode cL_law 737 = .ok (.iadd, 1) := by decide +kernel
theorem dL_law_738 : decode cL_law 738 = .ok (.iaload, 1) := by decide +kernel
theorem dL_law_739 : decode cL_law 739 = .ok (.aload_n 0, 1) := by decide +kernel
theorem dL_law_740 : decode cL_law 740 = .ok (.iload_n 3, 1) := by decide +kernel
theorem dL_law_741 : decode cL_law 741 = .ok (.iconst 2, 1) := by decide +kernel
theorem dL_law_742 : decode cL_law 742 = .ok (.iadd, 1) := by decide +kernel
theorem dL_law_743 : decode cL_law 743 = .ok (.iaload, 1) := by decide +kernel
theorem dL_law_744 : decode cL_law 744 = .ok (.invokevirtual 91, 3) := by decide +kernel
theorem dL_law_747 : decode cL_law 747 = .ok (.if_icmp .eq 508, 3) := by decide +kernel
theorem dL_law_750 : decode cL_law 750 = .ok (.iconst 0, 1) := by decide +kernel
theorem dL_law_751 : decode cL_law 751 = .ok (.ireturn, 1) := by decide +kernel
theorem dL_law_752 : decode cL_law 752 = .ok (.aload_n 1, 1) := by decide +kernel
theorem dL_law_753 : decode cL_law 753 = .ok (.aload_n 0, 1) := by decide +kernel
theorem dL_law_754 : decode cL_law 754 = .ok (.iload_n 3, 1) := by decide +kernel
theorem dL_law_755 : decode cL_law 755 = .ok (.iconst 1, 1) := by decide +kernel
theorem dL_law_756 : decode cL_law 756 = .ok (.iadd, 1) := by decide +kernel
theorem dL_law_757 : decode cL_law 757 = .ok (.iaload, 1) := by decide +kernel
theorem dL_law_758 : decode cL_law 758 = .ok (.invokevirtual 92, 3) := by decide +kernel
theorem dL_law_761 : decode cL_law 761 = .ok (.aload_n 2, 1) := by decide +kernel
theorem dL_law_762 : decode cL_law 762 = .ok (.aload_n 0, 1) := by decide +kernel
theorem dL_law_763 : decode cL_law 763 = .ok (.iload_n 3, 1) := by decide +kernel
theorem dL_law_764 : decode cL_law 764 = .ok (.iconst 1, 1) := by decide +kernel
theorem dL_law_765 : decode cL_law 765 = .ok (.iadd, 1) := by decide +kernel
theorem dL_law_766 : decode cL_law 766 = .ok (.iaload, 1) := by decide +kernel
theorem dL_law_767 : decode cL_law 767 = .ok (.invokevirtual 95, 3) := by decide +kernel
theorem dL_law_770 : decode cL_law 770 = .ok (.if_icmp .eq 485, 3) := by decide +kernel
theorem dL_law_773 : decode cL_law 773 = .ok (.iconst 0, 1) := by decide +kernel
theorem dL_law_774 : decode cL_law 774 = .ok (.ireturn, 1) := by decide +kernel
theorem dL_law_775 : decode cL_law 775 = .ok (.aload_n 1, 1) := by decide +kernel
theorem dL_law_776 : decode cL_law 776 = .ok (.aload_n 0, 1) := by decide +kernel
theorem dL_law_777 : decode cL_law 777 = .ok (.iload_n 3, 1) := by decide +kernel
theorem dL_law_778 : decode cL_law 778 = .ok (.iconst 1, 1) := by decide +kernel
theorem dL_law_779 : decode cL_law 779 = .ok (.iadd, 1) := by decide +kernel
theorem dL_law_780 : decode cL_law 780 = .ok (.iaload, 1) := by decide +kernel
theorem dL_law_781 : decode cL_law 781 = .ok (.invokevirtual 96, 3) := by decide +kernel
theorem dL_law_784 : decode cL_law 784 = .ok (.aload_n 2, 1) := by decide +kernel
theorem dL_law_785 : decode cL_law 785 = .ok (.aload_n 0, 1) := by decide +kernel
theorem dL_law_786 : decode cL_law 786 = .ok (.iload_n 3, 1) := by decide +kernel
theorem dL_law_787 : decode cL_law 787 = .ok (.iconst 1, 1) := by decide +kernel
theorem dL_law_788 : decode cL_law 788 = .ok (.iadd, 1) := by decide +kernel
theorem dL_law_789 : decode cL_law 789 = .ok (.iaload, 1) := by decide +kernel
theorem dL_law_790 : decode cL_law 790 = .ok (.invokevirtual 99, 3) := by decide +kernel
theorem dL_law_793 : decode cL_law 793 = .ok (.if_icmp .eq 462, 3) := by decide +kernel
theorem dL_law_796 : decode cL_law 796 = .ok (.iconst 0, 1) := by decide +kernel
theorem dL_law_797 : decode cL_law 797 = .ok (.ireturn, 1) := by decide +kernel
theorem dL_law_798 : decode cL_law 798 = .ok (.aload_n 1, 1) := by decide +kernel
theorem dL_law_799 : decode cL_law 799 = .ok (.aload_n 0, 1) := by decide +kernel
theorem dL_law_800 : decode cL_law 800 = .ok (.iload_n 3, 1) := by decide +kernel
theorem dL_law_801 : decode cL_law 801 = .ok (.iconst 1, 1) := by decide +kernel
theorem dL_law_802 : decode cL_law 802 = .ok (.iadd, 1) := by decide +kernel
theorem dL_law_803 : decode cL_law 803 = .ok (.iaload, 1) := by decide +kernel
theorem dL_law_804 : decode cL_law 804 = .ok (.aload_n 0, 1) := by decide +kernel
theorem dL_law_805 : decode cL_law 805 = .ok (.iload_n 3, 1) := by decide +kernel
theorem dL_law_806 : decode cL_law 806 = .ok (.iconst 2, 1) := by decide +kernel
theorem dL_law_807 : decode cL_law 807 = .ok (.iadd, 1) := by decide +kernel
theorem dL_law_808 : decode cL_law 808 = .ok (.iaload, 1) := by decide +kernel
theorem dL_law_809 : decode cL_law 809 = .ok (.invokevirtual 100, 3) := by decide +kernel
theorem dL_law_812 : decode cL_law 812 = .ok (.aload_n 2, 1) := by decide +kernel
theorem dL_law_813 : decode cL_law 813 = .ok (.aload_n 0, 1) := by decide +kernel
theorem dL_law_814 : decode cL_law 814 = .ok (.iload_n 3, 1) := by decide +kernel
theorem dL_law_815 : decode cL_law 815 = .ok (.iconst 1, 1) := by decide +kernel
theorem dL_law_816 : decode cL_law 816 = .ok (.iadd, 1) := by decide +kernel
theorem dL_law_817 : decode cL_law 817 = .ok (.iaload, 1) := by decide +kernel
theorem dL_law_818 : decode cL_law 818 = .ok (.aload_n 0, 1) := by decide +kernel
theorem dL_law_819 : decode cL_law 819 = .ok (.iload_n 3, 1) := by decide +kernel
theorem dL_law_820 : decode cL_law 820 = .ok (.iconst 2, 1) := by decide +kernel
theorem dL_law_821 : decode cL_law 821 = .ok (.iadd, 1) := by decide +kernel
theorem dL_law_822 : decode cL_law 822 = .ok (.iaload, 1) := by decide +kernel
theorem dL_law_823 : decode cL_law 823 = .ok (.invokevirtual 103, 3) := by decide +kernel
theorem dL_law_826 : decode cL_law 826 = .ok (.if_icmp .eq 429, 3) := by decide +kernel
theorem dL_law_829 : decode cL_law 829 = .ok (.iconst 0, 1) := by decide +kernel
theorem dL_law_830 : decode cL_law 830 = .ok (.ireturn, 1) := by decide +kernel
theorem dL_law_831 : decode cL_law 831 = .ok (.aload_n 1, 1) := by decide +kernel
theorem dL_law_832 : decode cL_law 832 = .ok (.aload_n 0, 1) := by decide +kernel
theorem dL_law_833 : decode cL_law 833 = .ok (.iload_n 3, 1) := by decide +kernel
theorem dL_law_834 : decode cL_law 834 = .ok (.iconst 1, 1) := by decide +kernel
theorem dL_law_835 : decode cL_law 835 = .ok (.iadd, 1) := by decide +kernel
theorem dL_law_836 : decode cL_law 836 = .ok (.iaload, 1) := by decide +kernel
theorem dL_law_837 : decode cL_law 837 = .ok (.aload_n 0, 1) := by decide +kernel
theorem dL_law_838 : decode cL_law 838 = .ok (.iload_n 3, 1) := by decide +kernel
theorem dL_law_839 : decode cL_law 839 = .ok (.iconst 2, 1) := by decide +kernel
theorem dL_law_840 : decode cL_law 840 = .ok (.iadd, 1) := by decide +kernel
theorem dL_law_841 : decode cL_law 841 = .ok (.iaload, 1) := by decide +kernel
theorem dL_law_842 : decode cL_law 842 = .ok (.invokevirtual 104, 3) := by decide +kernel
theorem dL_law_845 : decode cL_law 845 = .ok (.aload_n 2, 1) := by decide +kernel
theorem dL_law_846 : decode cL_law 846 = .ok (.aload_n 0, 1) := by decide +kernel
theorem dL_law_847 : decode cL_law 847 = .ok (.iload_n 3, 1) := by decide +kernel
theorem dL_law_848 : decode cL_law 848 = .ok (.iconst 1, 1) := by decide +kernel
theorem dL_law_849 : decode cL_law 849 = .ok (.iadd, 1) := by decide +kernel
theorem dL_law_850 : decode cL_law 850 = .ok (.iaload, 1) := by decide +kernel
theorem dL_law_851 : decode cL_law 851 = .ok (.aload_n 0, 1) := by decide +kernel
theorem dL_law_852 : decode cL_law 852 = .ok (.iload_n 3, 1) := by decide +kernel
theorem dL_law_853 : decode cL_law 853 = .ok (.iconst 2, 1) := by decide +kernel
theorem dL_law_854 : decode cL_law 854 = .ok (.iadd, 1) := by decide +kernel
theorem dL_law_855 : decode cL_law 855 = .ok (.iaload, 1) := by decide +kernel
theorem dL_law_856 : decode cL_law 856 = .ok (.invokevirtual 107, 3) := by decide +kernel
theorem dL_law_859 : decode cL_law 859 = .ok (.if_icmp .eq 396, 3) := by decide +kernel
theorem dL_law_862 : decode cL_law 862 = .ok (.iconst 0, 1) := by decide +kernel
theorem dL_law_863 : decode cL_law 863 = .ok (.ireturn, 1) := by decide +kernel
theorem dL_law_864 : decode cL_law 864 = .ok (.aload_n 1, 1) := by decide +kernel
theorem dL_law_865 : decode cL_law 865 = .ok (.aload_n 0, 1) := by decide +kernel
theorem dL_law_866 : decode cL_law 866 = .ok (.iload_n 3, 1) := by decide +kernel
theorem dL_law_867 : decode cL_law 867 = .ok (.iconst 1, 1) := by decide +kernel
theorem dL_law_868 : decode cL_law 868 = .ok (.iadd, 1) := by decide +kernel
theorem dL_law_869 : decode cL_law 869 = .ok (.iaload, 1) := by decide +kernel
theorem dL_law_870 : decode cL_law 870 = .ok (.invokevirtual 108, 3) := by decide +kernel
theorem dL_law_873 : decode cL_law 873 = .ok (.aload_n 2, 1) := by decide +kernel
theorem dL_law_874 : decode cL_law 874 = .ok (.aload_n 0, 1) := by decide +kernel
theorem dL_law_875 : decode cL_law 875 = .ok (.iload_n 3, 1) := by decide +kernel
theorem dL_law_876 : decode cL_law 876 = .ok (.iconst 1, 1) := by decide +kernel
theorem dL_law_877 : decode cL_law 877 = .ok (.iadd, 1) := by decide +kernel
theorem dL_law_878 : decode cL_law 878 = .ok (.iaload, 1) := by decide +kernel
theorem dL_law_879 : decode cL_law 879 = .ok (.invokevirtual 111, 3) := by decide +kernel
theorem dL_law_882 : decode cL_law 882 = .ok (.if_icmp .eq 373, 3) := by decide +kernel
theorem dL_law_885 : decode cL_law 885 = .ok (.iconst 0, 1) := by decide +kernel
theorem dL_law_886 : decode cL_law 886 = .ok (.ireturn, 1) := by decide +kernel
theorem dL_law_887 : decode cL_law 887 = .ok (.aload_n 1, 1) := by decide +kernel
theorem dL_law_888 : decode cL_law 888 = .ok (.aload_n 0, 1) := by decide +kernel
theorem dL_law_889 : decode cL_law 889 = .ok (.iload_n 3, 1) := by decide +kernel
theorem dL_law_890 : decode cL_law 890 = .ok (.iconst 1, 1) := by decide +kernel
theorem dL_law_891 : decode cL_law 891 = .ok (.iadd, 1) := by decide +kernel
theorem dL_law_892 : decode cL_law 892 = .ok (.iaload, 1) := by decide +kernel
theorem dL_law_893 : decode cL_law 893 = .ok (.aload_n 0, 1) := by decide +kernel
theorem dL_law_894 : decode cL_law 894 = .ok (.iload_n 3, 1) := by decide +kernel
theorem dL_law_895 : decode cL_law 895 = .ok (.iconst 2, 1) := by decide +kernel
theorem dL_law_896 : decode cL_law 896 = .ok (.iadd, 1) := by decide +kernel
theorem dL_law_897 : decode cL_law 897 = .ok (.iaload, 1) := by decide +kernel
theorem dL_law_898 : decode cL_law 898 = .ok (.aload_n 0, 1) := by decide +kernel
theorem dL_law_899 : decode cL_law 899 = .ok (.iload_n 3, 1) := by decide +kernel
theorem dL_law_900 : decode cL_law 900 = .ok (.iconst 3, 1) := by decide +kernel
theorem dL_law_901 : decode cL_law 901 = .ok (.iadd, 1) := by decide +kernel
theorem dL_law_902 : decode cL_law 902 = .ok (.iaload, 1) := by decide +kernel
theorem dL_law_903 : decode cL_law 903 = .ok (.invokevirtual 112, 3) := by decide +kernel
theorem dL_law_906 : decode cL_law 906 = .ok (.aload_n 2, 1) := by decide +kernel
theorem dL_law_907 : decode cL_law 907 = .ok (.aload_n 0, 1) := by decide +kernel
theorem dL_law_908 : decode cL_law 908 = .ok (.iload_n 3, 1) := by decide +kernel
theorem dL_law_909 : decode cL_law 909 = .ok (.iconst 1, 1) := by decide +kernel
theorem dL_law_910 : decode cL_law 910 = .ok (.iadd, 1) := by decide +kernel
theorem dL_law_911 : decode cL_law 911 = .ok (.iaload, 1) := by decide +kernel
theorem dL_law_912 : decode cL_law 912 = .ok (.aload_n 0, 1) := by decide +kernel
theorem dL_law_913 : decode cL_law 913 = .ok (.iload_n 3, 1) := by decide +kernel
theorem dL_law_914 : decode cL_law 914 = .ok (.iconst 2, 1) := by decide +kernel
theorem dL_law_915 : decode cL_law 915 = .ok (.iadd, 1) := by decide +kernel
theorem dL_law_916 : decode cL_law 916 = .ok (.iaload, 1) := by decide +kernel
theorem dL_law_917 : decode cL_law 917 = .ok (.aload_n 0, 1) := by decide +kernel
theorem dL_law_918 : decode cL_law 918 = .ok (.iload_n 3, 1) := by decide +kernel
theorem dL_law_919 : decode cL_law 919 = .ok (.iconst 3, 1) := by decide +kernel
theorem dL_law_920 : decode cL_law 920 = .ok (.iadd, 1) := by decide +kernel
theorem dL_law_921 : decode cL_law 921 = .ok (.iaload, 1) := by decide +kernel
theorem dL_law_922 : decode cL_law 922 = .ok (.invokevirtual 115, 3) := by decide +kernel
theorem dL_law_925 : decode cL_law 925 = .ok (.if_icmp .eq 330, 3) := by decide +kernel
theorem dL_law_928 : decode cL_law 928 = .ok (.iconst 0, 1) := by decide +kernel
theorem dL_law_929 : decode cL_law 929 = .ok (.ireturn, 1) := by decide +kernel
theorem dL_law_930 : decode cL_law 930 = .ok (.aload_n 1, 1) := by decide +kernel
theorem dL_law_931 : decode cL_law 931 = .ok (.aload_n 0, 1) := by decide +kernel
theorem dL_law_932 : decode cL_law 932 = .ok (.iload_n 3, 1) := by decide +kernel
theorem dL_law_933 : decode cL_law 933 = .ok (.iconst 1, 1) := by decide +kernel
theorem dL_law_934 : decode cL_law 934 = .ok (.iadd, 1) := by decide +kernel
theorem dL_law_935 : decode cL_law 935 = .ok (.iaload, 1) := by decide +kernel
theorem dL_law_936 : decode cL_law 936 = .ok (.invokevirtual 116, 3) := by decide +kernel
theorem dL_law_939 : decode cL_law 939 = .ok (.aload_n 2, 1) := by decide +kernel
theorem dL_law_940 : decode cL_law 940 = .ok (.aload_n 0, 1) := by decide +kernel
theorem dL_law_941 : decode cL_law 941 = .ok (.iload_n 3, 1) := by decide +kernel
theorem dL_law_942 : decode cL_law 942 = .ok (.iconst 1, 1) := by decide +kernel
theorem dL_law_943 : decode cL_law 943 = .ok (.iadd, 1) := by decide +kernel
theorem dL_law_944 : decode cL_law 944 = .ok (.iaload, 1) := by decide +kernel
theorem dL_law_945 : decode cL_law 945 = .ok (.invokevirtual 119, 3) := by decide +kernel
theorem dL_law_948 : decode cL_law 948 = .ok (.if_icmp .eq 307, 3) := by decide +kernel
theorem dL_law_951 : decode cL_law 951 = .ok (.iconst 0, 1) := by decide +kernel
theorem dL_law_952 : decode cL_law 952 = .ok (.ireturn, 1) := by decide +kernel
theorem dL_law_953 : decode cL_law 953 = .ok (.aload_n 1, 1) := by decide +kernel
theorem dL_law_954 : decode cL_law 954 = .ok (.invokevirtual 120, 3) := by decide +kernel
theorem dL_law_957 : decode cL_law 957 = .ok (.aload_n 2, 1) := by decide +kernel
theorem dL_law_958 : decode cL_law 958 = .ok (.invokevirtual 123, 3) := by decide +kernel
theorem dL_law_961 : decode cL_law 961 = .ok (.if_icmp .eq 294, 3) := by decide +kernel
theorem dL_law_964 : decode cL_law 964 = .ok (.iconst 0, 1) := by decide +kernel
theorem dL_law_965 : decode cL_law 965 = .ok (.ireturn, 1) := by decide +kernel
theorem dL_law_966 : decode cL_law 966 = .ok (.aload_n 1, 1) := by decide +kernel
theorem dL_law_967 : decode cL_law 967 = .ok (.aload_n 0, 1) := by decide +kernel
theorem dL_law_968 : decode cL_law 968 = .ok (.iload_n 3, 1) := by decide +kernel
theorem dL_law_969 : decode cL_law 969 = .ok (.iconst 1, 1) := by decide +kernel
theorem dL_law_970 : decode cL_law 970 = .ok (.iadd, 1) := by decide +kernel
theorem dL_law_971 : decode cL_law 971 = .ok (.iaload, 1) := by decide +kernel
theorem dL_law_972 : decode cL_law 972 = .ok (.aload_n 0, 1) := by decide +kernel
theorem dL_law_973 : decode cL_law 973 = .ok (.iload_n 3, 1) := by decide +kernel
theorem dL_law_974 : decode cL_law 974 = .ok (.iconst 2, 1) := by decide +kernel
theorem dL_law_975 : decode cL_law 975 = .ok (.iadd, 1) := by decide +kernel
theorem dL_law_976 : decode cL_law 976 = .ok (.iaload, 1) := by decide +kernel
theorem dL_law_977 : decode cL_law 977 = .ok (.aload_n 0, 1) := by decide +kernel
theorem dL_law_978 : decode cL_law 978 = .ok (.iload_n 3, 1) := by decide +kernel
theorem dL_law_979 : decode cL_law 979 = .ok (.iconst 3, 1) := by decide +kernel
theorem dL_law_980 : decode cL_law 980 = .ok (.iadd, 1) := by decide +kernel
theorem dL_law_981 : decode cL_law 981 = .ok (.iaload, 1) := by decide +kernel
theorem dL_law_982 : decode cL_law 982 = .ok (.ifCond .eq 7, 3) := by decide +kernel
theorem dL_law_985 : decode cL_law 985 = .ok (.iconst 1, 1) := by decide +kernel
theorem dL_law_986 : decode cL_law 986 = .ok (.goto 4, 3) := by decide +kernel
theorem dL_law_989 : decode cL_law 989 = .ok (.iconst 0, 1) := by decide +kernel
theorem dL_law_990 : decode cL_law 990 = .ok (.invokevirtual 124, 3) := by decide +kernel
theorem dL_law_993 : decode cL_law 993 = .ok (.aload_n 2, 1) := by decide +kernel
theorem dL_law_994 : decode cL_law 994 = .ok (.aload_n 0, 1) := by decide +kernel
theorem dL_law_995 : decode cL_law 995 = .ok (.iload_n 3, 1) := by decide +kernel
theorem dL_law_996 : decode cL_law 996 = .ok (.iconst 1, 1) := by decide +kernel
theorem dL_law_997 : decode cL_law 997 = .ok (.iadd, 1) := by decide +kernel
theorem dL_law_998 : decode cL_law 998 = .ok (.iaload, 1) := by decide +kernel
theorem dL_law_999 : decode cL_law 999 = .ok (.aload_n 0, 1) := by decide +kernel
theorem dL_law_1000 : decode cL_law 1000 = .ok (.iload_n 3, 1) := by decide +kernel
theorem dL_law_1001 : decode cL_law 1001 = .ok (.iconst 2, 1) := by decide +kernel
theorem dL_law_1002 : decode cL_law 1002 = .ok (.iadd, 1) := by decide +kernel
theorem dL_law_1003 : decode cL_law 1003 = .ok (.iaload, 1) := by decide +kernel
theorem dL_law_1004 : decode cL_law 1004 = .ok (.aload_n 0, 1) := by decide +kernel
theorem dL_law_1005 : decode cL_law 1005 = .ok (.iload_n 3, 1) := by decide +kernel
theorem dL_law_1006 : decode cL_law 1006 = .ok (.iconst 3, 1) := by decide +kernel
theorem dL_law_1007 : decode cL_law 1007 = .ok (.iadd, 1) := by decide +kernel
theorem dL_law_1008 : decode cL_law 1008 = .ok (.iaload, 1) := by decide +kernel
theorem dL_law_1009 : decode cL_law 1009 = .ok (.ifCond .eq 7, 3) := by decide +kernel
theorem dL_law_1012 : decode cL_law 1012 = .ok (.iconst 1, 1) := by decide +kernel
theorem dL_law_1013 : decode cL_law 1013 = .ok (.goto 4, 3) := by decide +kernel
theorem dL_law_1016 : decode cL_law 1016 = .ok (.iconst 0, 1) := by decide +kernel
theorem dL_law_1017 : decode cL_law 1017 = .ok (.invokevirtual 128, 3) := by decide +kernel
theorem dL_law_1020 : decode cL_law 1020 = .ok (.if_icmp .eq 235, 3) := by decide +kernel
theorem dL_law_1023 : decode cL_law 1023 = .ok (.iconst 0, 1) := by decide +kernel
theorem dL_law_1024 : decode cL_law 1024 = .ok (.ireturn, 1) := by decide +kernel
theorem dL_law_1025 : decode cL_law 1025 = .ok (.aload_n 1, 1) := by decide +kernel
theorem dL_law_1026 : decode cL_law 1026 = .ok (.aload_n 0, 1) := by decide +kernel
theorem dL_law_1027 : decode cL_law 1027 = .ok (.iload_n 3, 1) := by decide +kernel
theorem dL_law_1028 : decode cL_law 1028 = .ok (.iconst 1, 1) := by decide +kernel
theorem dL_law_1029 : decode cL_law 1029 = .ok (.iadd, 1) := by decide +kernel
theorem dL_law_1030 : decode cL_law 1030 = .ok (.iaload, 1) := by decide +kernel
theorem dL_law_1031 : decode cL_law 1031 = .ok (.invokevirtual 129, 3) := by decide +kernel
theorem dL_law_1034 : decode cL_law 1034 = .ok (.aload_n 2, 1) := by decide +kernel
theorem dL_law_1035 : decode cL_law 1035 = .ok (.aload_n 0, 1) := by decide +kernel
theorem dL_law_1036 : decode cL_law 1036 = .ok (.iload_n 3, 1) := by decide +kernel
theorem dL_law_1037 : decode cL_law 1037 = .ok (.iconst 1, 1) := by decide +kernel
theorem dL_law_1038 : decode cL_law 1038 = .ok (.iadd, 1) := by decide +kernel
theorem dL_law_1039 : decode cL_law 1039 = .ok (.iaload, 1) := by decide +kernel
theorem dL_law_1040 : decode cL_law 1040 = .ok (.invokevirtual 132, 3) := by decide +kernel
theorem dL_law_1043 : decode cL_law 1043 = .ok (.if_icmp .eq 212, 3) := by decide +kernel
theorem dL_law_1046 : decode cL_law 1046 = .ok (.iconst 0, 1) := by decide +kernel
theorem dL_law_1047 : decode cL_law 1047 = .ok (.ireturn, 1) := by decide +kernel
theorem dL_law_1048 : decode cL_law 1048 = .ok (.aload_n 1, 1) := by decide +kernel
theorem dL_law_1049 : decode cL_law 1049 = .ok (.aload_n 0, 1) := by decide +kernel
theorem dL_law_1050 : decode cL_law 1050 = .ok (.iload_n 3, 1) := by decide +kernel
theorem dL_law_1051 : decode cL_law 1051 = .ok (.iconst 1, 1) := by decide +kernel
theorem dL_law_1052 : decode cL_law 1052 = .ok (.iadd, 1) := by decide +kernel
theorem dL_law_1053 : decode cL_law 1053 = .ok (.iaload, 1) := by decide +kernel
theorem dL_law_1054 : decode cL_law 1054 = .ok (.aload_n 0, 1) := by decide +kernel
theorem dL_law_1055 : decode cL_law 1055 = .ok (.iload_n 3, 1) := by decide +kernel
theorem dL_law_1056 : decode cL_law 1056 = .ok (.iconst 2, 1) := by decide +kernel
theorem dL_law_1057 : decode cL_law 1057 = .ok (.iadd, 1) := by decide +kernel
theorem dL_law_1058 : decode cL_law 1058 = .ok (.iaload, 1) := by decide +kernel
theorem dL_law_1059 : decode cL_law 1059 = .ok (.aload_n 0, 1) := by decide +kernel
theorem dL_law_1060 : decode cL_law 1060 = .ok (.iload_n 3, 1) := by decide +kernel
theorem dL_law_1061 : decode cL_law 1061 = .ok (.iconst 3, 1) := by decide +kernel
theorem dL_law_1062 : decode cL_law 1062 = .ok (.iadd, 1) := by decide +kernel
theorem dL_law_1063 : decode cL_law 1063 = .ok (.iaload, 1) := by decide +kernel
theorem dL_law_1064 : decode cL_law 1064 = .ok (.invokevirtual 133, 3) := by decide +kernel
theorem dL_law_1067 : decode cL_law 1067 = .ok (.aload_n 2, 1) := by decide +kernel
theorem dL_law_1068 : decode cL_law 1068 = .ok (.aload_n 0, 1) := by decide +kernel
theorem dL_law_1069 : decode cL_law 1069 = .ok (.iload_n 3, 1) := by decide +kernel
theorem dL_law_1070 : decode cL_law 1070 = .ok (.iconst 1, 1) := by decide +kernel
theorem dL_law_1071 : decode cL_law 1071 = .ok (.iadd, 1) := by decide +kernel
theorem dL_law_1072 : decode cL_law 1072 = .ok (.iaload, 1) := by decide +kernel
theorem dL_law_1073 : decode cL_law 1073 = .ok (.aload_n 0, 1) := by decide +kernel
theorem dL_law_1074 : decode cL_law 1074 = .ok (.iload_n 3, 1) := by decide +kernel
theorem dL_law_1075 : decode cL_law 1075 = .ok (.iconst 2, 1) := by decide +kernel
theorem dL_law_1076 : decode cL_law 1076 = .ok (.iadd, 1) := by decide +kernel
theorem dL_law_1077 : decode cL_law 1077 = .ok (.iaload, 1) := by decide +kernel
theorem dL_law_1078 : decode cL_law 1078 = .ok (.aload_n 0, 1) := by decide +kernel
theorem dL_law_1079 : decode cL_law 1079 = .ok (.iload_n 3, 1) := by decide +kernel
theorem dL_law_1080 : decode cL_law 1080 = .ok (.iconst 3, 1) := by decide +kernel
theorem dL_law_1081 : decode cL_law 1081 = .ok (.iadd, 1) := by decide +kernel
theorem dL_law_1082 : decode cL_law 1082 = .ok (.iaload, 1) := by decide +kernel
theorem dL_law_1083 : decode cL_law 1083 = .ok (.invokevirtual 136, 3) := by decide +kernel
theorem dL_law_1086 : decode cL_law 1086 = .ok (.if_icmp .eq 169, 3) := by decide +kernel
theorem dL_law_1089 : decode cL_law 1089 = .ok (.iconst 0, 1) := by decide +kernel
theorem dL_law_1090 : decode cL_law 1090 = .ok (.ireturn, 1) := by decide +kernel
theorem dL_law_1091 : decode cL_law 1091 = .ok (.aload_n 1, 1) := by decide +kernel
theorem dL_law_1092 : decode cL_law 1092 = .ok (.aload_n 0, 1) := by decide +kernel
theorem dL_law_1093 : decode cL_law 1093 = .ok (.iload_n 3, 1) := by decide +kernel
theorem dL_law_1094 : decode cL_law 1094 = .ok (.iconst 1, 1) := by decide +kernel
theorem dL_law_1095 : decode cL_law 1095 = .ok (.iadd, 1) := by decide +kernel
theorem dL_law_1096 : decode cL_law 1096 = .ok (.iaload, 1) := by decide +kernel
theorem dL_law_1097 : decode cL_law 1097 = .ok (.invokevirtual 137, 3) := by decide +kernel
theorem dL_law_1100 : decode cL_law 1100 = .ok (.aload_n 2, 1) := by decide +kernel
theorem dL_law_1101 : decode cL_law 1101 = .ok (.aload_n 0, 1) := by decide +kernel
theorem dL_law_1102 : decode cL_law 1102 = .ok (.iload_n 3, 1) := by decide +kernel
theorem dL_law_1103 : decode cL_law 1103 = .ok (.iconst 1, 1) := by decide +kernel
theorem dL_law_1104 : decode cL_law 1104 = .ok (.iadd, 1) := by decide +kernel
theorem dL_law_1105 : decode cL_law 1105 = .ok (.iaload, 1) := by decide +kernel
theorem dL_law_1106 : decode cL_law 1106 = .ok (.invokevirtual 140, 3) := by decide +kernel
theorem dL_law_1109 : decode cL_law 1109 = .ok (.if_icmp .eq 146, 3) := by decide +kernel
theorem dL_law_1112 : decode cL_law 1112 = .ok (.iconst 0, 1) := by decide +kernel
theorem dL_law_1113 : decode cL_law 1113 = .ok (.ireturn, 1) := by decide +kernel
theorem dL_law_1114 : decode cL_law 1114 = .ok (.aload_n 1, 1) := by decide +kernel
theorem dL_law_1115 : decode cL_law 1115 = .ok (.aload_n 0, 1) := by decide +kernel
theorem dL_law_1116 : decode cL_law 1116 = .ok (.iload_n 3, 1) := by decide +kernel
theorem dL_law_1117 : decode cL_law 1117 = .ok (.iconst 1, 1) := by decide +kernel
theorem dL_law_1118 : decode cL_law 1118 = .ok (.iadd, 1) := by decide +kernel
theorem dL_law_1119 : decode cL_law 1119 = .ok (.iaload, 1) := by decide +kernel
theorem dL_law_1120 : decode cL_law 1120 = .ok (.aload_n 0, 1) := by decide +kernel
theorem dL_law_1121 : decode cL_law 1121 = .ok (.iload_n 3, 1) := by decide +kernel
theorem dL_law_1122 : decode cL_law 1122 = .ok (.iconst 2, 1) := by decide +kernel
theorem dL_law_1123 : decode cL_law 1123 = .ok (.iadd, 1) := by decide +kernel
theorem dL_law_1124 : decode cL_law 1124 = .ok (.iaload, 1) := by decide +kernel
theorem dL_law_1125 : decode cL_law 1125 = .ok (.invokevirtual 141, 3) := by decide +kernel
theorem dL_law_1128 : decode cL_law 1128 = .ok (.aload_n 2, 1) := by decide +kernel
theorem dL_law_1129 : decode cL_law 1129 = .ok (.aload_n 0, 1) := by decide +kernel
theorem dL_law_1130 : decode cL_law 1130 = .ok (.iload_n 3, 1) := by decide +kernel
theorem dL_law_1131 : decode cL_law 1131 = .ok (.iconst 1, 1) := by decide +kernel
theorem dL_law_1132 : decode cL_law 1132 = .ok (.iadd, 1) := by decide +kernel
theorem dL_law_1133 : decode cL_law 1133 = .ok (.iaload, 1) := by decide +kernel
theorem dL_law_1134 : decode cL_law 1134 = .ok (.aload_n 0, 1) := by decide +kernel
theorem dL_law_1135 : decode cL_law 1135 = .ok (.iload_n 3, 1) := by decide +kernel
theorem dL_law_1136 : decode cL_law 1136 = .ok (.iconst 2, 1) := by decide +kernel
theorem dL_law_1137 : decode cL_law 1137 = .ok (.iadd, 1) := by decide +kernel
theorem dL_law_1138 : decode cL_law 1138 = .ok (.iaload, 1) := by decide +kernel
theorem dL_law_1139 : decode cL_law 1139 = .ok (.invokevirtual 144, 3) := by decide +kernel
theorem dL_law_1142 : decode cL_law 1142 = .ok (.if_icmp .eq 113, 3) := by decide +kernel
theorem dL_law_1145 : decode cL_law 1145 = .ok (.iconst 0, 1) := by decide +kernel
theorem dL_law_1146 : decode cL_law 1146 = .ok (.ireturn, 1) := by decide +kernel
theorem dL_law_1147 : decode cL_law 1147 = .ok (.aload_n 1, 1) := by decide +kernel
theorem dL_law_1148 : decode cL_law 1148 = .ok (.aload_n 0, 1) := by decide +kernel
theorem dL_law_1149 : decode cL_law 1149 = .ok (.iload_n 3, 1) := by decide +kernel
theorem dL_law_1150 : decode cL_law 1150 = .ok (.iconst 1, 1) := by decide +kernel
theorem dL_law_1151 : decode cL_law 1151 = .ok (.iadd, 1) := by decide +kernel
theorem dL_law_1152 : decode cL_law 1152 = .ok (.iaload, 1) := by decide +kernel
theorem dL_law_1153 : decode cL_law 1153 = .ok (.aload_n 0, 1) := by decide +kernel
theorem dL_law_1154 : decode cL_law 1154 = .ok (.iload_n 3, 1) := by decide +kernel
theorem dL_law_1155 : decode cL_law 1155 = .ok (.iconst 2, 1) := by decide +kernel
theorem dL_law_1156 : decode cL_law 1156 = .ok (.iadd, 1) := by decide +kernel
theorem dL_law_1157 : decode cL_law 1157 = .ok (.iaload, 1) := by decide +kernel
theorem dL_law_1158 : decode cL_law 1158 = .ok (.invokevirtual 145, 3) := by decide +kernel
theorem dL_law_1161 : decode cL_law 1161 = .ok (.aload_n 2, 1) := by decide +kernel
theorem dL_law_1162 : decode cL_law 1162 = .ok (.aload_n 0, 1) := by decide +kernel
theorem dL_law_1163 : decode cL_law 1163 = .ok (.iload_n 3, 1) := by decide +kernel
theorem dL_law_1164 : decode cL_law 1164 = .ok (.iconst 1, 1) := by decide +kernel
theorem dL_law_1165 : decode cL_law 1165 = .ok (.iadd, 1) := by decide +kernel
theorem dL_law_1166 : decode cL_law 1166 = .ok (.iaload, 1) := by decide +kernel
theorem dL_law_1167 : decode cL_law 1167 = .ok (.aload_n 0, 1) := by decide +kernel
theorem dL_law_1168 : decode cL_law 1168 = .ok (.iload_n 3, 1) := by decide +kernel
theorem dL_law_1169 : decode cL_law 1169 = .ok (.iconst 2, 1) := by decide +kernel
theorem dL_law_1170 : decode cL_law 1170 = .ok (.iadd, 1) := by decide +kernel
theorem dL_law_1171 : decode cL_law 1171 = .ok (.iaload, 1) := by decide +kernel
theorem dL_law_1172 : decode cL_law 1172 = .ok (.invokevirtual 148, 3) := by decide +kernel
theorem dL_law_1175 : decode cL_law 1175 = .ok (.if_icmp .eq 80, 3) := by decide +kernel
theorem dL_law_1178 : decode cL_law 1178 = .ok (.iconst 0, 1) := by decide +kernel
theorem dL_law_1179 : decode cL_law 1179 = .ok (.ireturn, 1) := by decide +kernel
theorem dL_law_1180 : decode cL_law 1180 = .ok (.aload_n 1, 1) := by decide +kernel
theorem dL_law_1181 : decode cL_law 1181 = .ok (.invokevirtual 149, 3) := by decide +kernel
theorem dL_law_1184 : decode cL_law 1184 = .ok (.aload_n 2, 1) := by decide +kernel
theorem dL_law_1185 : decode cL_law 1185 = .ok (.invokevirtual 153, 3) := by decide +kernel
theorem dL_law_1188 : decode cL_law 1188 = .ok (.if_icmp .eq 67, 3) := by decide +kernel
theorem dL_law_1191 : decode cL_law 1191 = .ok (.iconst 0, 1) := by decide +kernel
theorem dL_law_1192 : decode cL_law 1192 = .ok (.ireturn, 1) := by decide +kernel
theorem dL_law_1193 : decode cL_law 1193 = .ok (.aload_n 1, 1) := by decide +kernel
theorem dL_law_1194 : decode cL_law 1194 = .ok (.aload_n 0, 1) := by decide +kernel
theorem dL_law_1195 : decode cL_law 1195 = .ok (.iload_n 3, 1) := by decide +kernel
theorem dL_law_1196 : decode cL_law 1196 = .ok (.iconst 1, 1) := by decide +kernel
theorem dL_law_1197 : decode cL_law 1197 = .ok (.iadd, 1) := by decide +kernel
theorem dL_law_1198 : decode cL_law 1198 = .ok (.iaload, 1) := by decide +kernel
theorem dL_law_1199 : decode cL_law 1199 = .ok (.ifCond .eq 7, 3) := by decide +kernel
theorem dL_law_1202 : decode cL_law 1202 = .ok (.iconst 1, 1) := by decide +kernel
theorem dL_law_1203 : decode cL_law 1203 = .ok (.goto 4, 3) := by decide +kernel
theorem dL_law_1206 : decode cL_law 1206 = .ok (.iconst 0, 1) := by decide +kernel
theorem dL_law_1207 : decode cL_law 1207 = .ok (.invokevirtual 154, 3) := by decide +kernel
theorem dL_law_1210 : decode cL_law 1210 = .ok (.aload_n 2, 1) := by decide +kernel
theorem dL_law_1211 : decode cL_law 1211 = .ok (.aload_n 0, 1) := by decide +kernel
theorem dL_law_1212 : decode cL_law 1212 = .ok (.iload_n 3, 1) := by decide +kernel
theorem dL_law_1213 : decode cL_law 1213 = .ok (.iconst 1, 1) := by decide +kernel
theorem dL_law_1214 : decode cL_law 1214 = .ok (.iadd, 1) := by decide +kernel
theorem dL_law_1215 : decode cL_law 1215 = .ok (.iaload, 1) := by decide +kernel
theorem dL_law_1216 : decode cL_law 1216 = .ok (.ifCond .eq 7, 3) := by decide +kernel
theorem dL_law_1219 : decode cL_law 1219 = .ok (.iconst 1, 1) := by decide +kernel
theorem dL_law_1220 : decode cL_law 1220 = .ok (.goto 4, 3) := by decide +kernel
theorem dL_law_1223 : decode cL_law 1223 = .ok (.iconst 0, 1) := by decide +kernel
theorem dL_law_1224 : decode cL_law 1224 = .ok (.invokevirtual 158, 3) := by decide +kernel
theorem dL_law_1227 : decode cL_law 1227 = .ok (.if_icmp .eq 28, 3) := by decide +kernel
theorem dL_law_1230 : decode cL_law 1230 = .ok (.iconst 0, 1) := by decide +kernel
theorem dL_law_1231 : decode cL_law 1231 = .ok (.ireturn, 1) := by decide +kernel
theorem dL_law_1232 : decode cL_law 1232 = .ok (.aload_n 1, 1) := by decide +kernel
theorem dL_law_1233 : decode cL_law 1233 = .ok (.aload_n 0, 1) := by decide +kernel
theorem dL_law_1234 : decode cL_law 1234 = .ok (.iload_n 3, 1) := by decide +kernel
theorem dL_law_1235 : decode cL_law 1235 = .ok (.iconst 1, 1) := by decide +kernel
theorem dL_law_1236 : decode cL_law 1236 = .ok (.iadd, 1) := by decide +kernel
theorem dL_law_1237 : decode cL_law 1237 = .ok (.iaload, 1) := by decide +kernel
theorem dL_law_1238 : decode cL_law 1238 = .ok (.invokevirtual 159, 3) := by decide +kernel
theorem dL_law_1241 : decode cL_law 1241 = .ok (.aload_n 2, 1) := by decide +kernel
theorem dL_law_1242 : decode cL_law 1242 = .ok (.aload_n 0, 1) := by decide +kernel
theorem dL_law_1243 : decode cL_law 1243 = .ok (.iload_n 3, 1) := by decide +kernel
theorem dL_law_1244 : decode cL_law 1244 = .ok (.iconst 1, 1) := by decide +kernel
theorem dL_law_1245 : decode cL_law 1245 = .ok (.iadd, 1) := by decide +kernel
theorem dL_law_1246 : decode cL_law 1246 = .ok (.iaload, 1) := by decide +kernel
theorem dL_law_1247 : decode cL_law 1247 = .ok (.invokevirtual 162, 3) := by decide +kernel
theorem dL_law_1250 : decode cL_law 1250 = .ok (.if_icmp .eq 5, 3) := by decide +kernel
theorem dL_law_1253 : decode cL_law 1253 = .ok (.iconst 0, 1) := by decide +kernel
theorem dL_law_1254 : decode cL_law 1254 = .ok (.ireturn, 1) := by decide +kernel
theorem dL_law_1255 : decode cL_law 1255 = .ok (.iinc 3 6, 3) := by decide +kernel
theorem dL_law_1258 : decode cL_law 1258 = .ok (.goto (-1240), 3) := by decide +kernel
theorem dL_law_1261 : decode cL_law 1261 = .ok (.iconst 1, 1) := by decide +kernel
theorem dL_law_1262 : decode cL_law 1262 = .ok (.ireturn, 1) := by decide +kernel
