theorem dJ0_init_db425_47 : decode cJ0_init_db425 47 = .ok (.aload_n 1, 1) := by decide +kernel
theorem dJ0_init_db425_48 : decode cJ0_init_db425 48 = .ok (.getfield 1048, 3) := by decide +kernel
theorem dJ0_init_db425_51 : decode cJ0_init_db425 51 = .ok (.ifCond .eq 28, 3) := by decide +kernel
theorem dJ0_init_db425_54 : decode cJ0_init_db425 54 = .ok (.aload_n 0, 1) := by decide +kernel
theorem dJ0_init_db425_55 : decode cJ0_init_db425 55 = .ok (.aload_n 3, 1) := by decide +kernel
theorem dJ0_init_db425_56 : decode cJ0_init_db425 56 = .ok (.iconst 0, 1) := by decide +kernel
theorem dJ0_init_db425_57 : decode cJ0_init_db425 57 = .ok (.iload 4, 2) := by decide +kernel
theorem dJ0_init_db425_59 : decode cJ0_init_db425 59 = .ok (.invokestatic 1051, 3) := by decide +kernel
theorem dJ0_init_db425_62 : decode cJ0_init_db425 62 = .ok (.putfield 9, 3) := by decide +kernel
theorem dJ0_init_db425_65 : decode cJ0_init_db425 65 = .ok (.aload_n 0, 1) := by decide +kernel
theorem dJ0_init_db425_66 : decode cJ0_init_db425 66 = .ok (.aload_n 0, 1) := by decide +kernel
theorem dJ0_init_db425_67 : decode cJ0_init_db425 67 = .ok (.getfield 9, 3) := by decide +kernel
theorem dJ0_init_db425_70 : decode cJ0_init_db425 70 = .ok (.iload 4, 2) := by decide +kernel
theorem dJ0_init_db425_72 : decode cJ0_init_db425 72 = .ok (.invokestatic 47, 3) := by decide +kernel
theorem dJ0_init_db425_75 : decode cJ0_init_db425 75 = .ok (.putfield 15, 3) := by decide +kernel
theorem dJ0_init_db425_78 : decode cJ0_init_db425 78 = .ok (.return_, 1) := by decide +kernel
theorem dJ0_init_db425_79 : decode cJ0_init_db425 79 = .ok (.aload_n 0, 1) := by decide +kernel
theorem dJ0_init_db425_80 : decode cJ0_init_db425 80 = .ok (.iconst 1, 1) := by decide +kernel
theorem dJ0_init_db425_81 : decode cJ0_init_db425 81 = .ok (.putfield 15, 3) := by decide +kernel
theorem dJ0_init_db425_84 : decode cJ0_init_db425 84 = .ok (.aload_n 0, 1) := by decide +kernel
theorem dJ0_init_db425_85 : decode cJ0_init_db425 85 = .ok (.aload_n 3, 1) := by decide +kernel
theorem dJ0_init_db425_86 : decode cJ0_init_db425 86 = .ok (.iconst 0, 1) := by decide +kernel
theorem dJ0_init_db425_87 : decode cJ0_init_db425 87 = .ok (.iload 4, 2) := by decide +kernel
theorem dJ0_init_db425_89 : decode cJ0_init_db425 89 = .ok (.iconst 1, 1) := by decide +kernel
theorem dJ0_init_db425_90 : decode cJ0_init_db425 90 = .ok (.ishl, 1) := by decide +kernel
theorem dJ0_init_db425_91 : decode cJ0_init_db425 91 = .ok (.invokestatic 54, 3) := by decide +kernel
theorem dJ0_init_db425_94 : decode cJ0_init_db425 94 = .ok (.putfield 9, 3) := by decide +kernel
theorem dJ0_init_db425_97 : decode cJ0_init_db425 97 = .ok (.return_, 1) := by decide +kernel
theorem dJ0_coder_7d493_0 : decode cJ0_coder_7d493 0 = .ok (.getstatic 38, 3) := by decide +kernel
theorem dJ0_coder_7d493_3 : decode cJ0_coder_7d493 3 = .ok (.ifCond .eq 10, 3) := by decide +kernel
theorem dJ0_coder_7d493_6 : decode cJ0_coder_7d493 6 = .ok (.aload_n 0, 1) := by decide +kernel
theorem dJ0_coder_7d493_7 : decode cJ0_coder_7d493 7 = .ok (.getfield 15, 3) := by decide +kernel
theorem dJ0_coder_7d493_10 : decode cJ0_coder_7d493 10 = .ok (.goto 4, 3) := by decide +kernel
theorem dJ0_coder_7d493_13 : decode cJ0_coder_7d493 13 = .ok (.iconst 1, 1) := by decide +kernel
theorem dJ0_coder_7d493_14 : decode cJ0_coder_7d493 14 = .ok (.ireturn, 1) := by decide +kernel
theorem dJ0_isLatin1_aae02_0 : decode cJ0_isLatin1_aae02 0 = .ok (.getstatic 38, 3) := by decide +kernel
theorem dJ0_isLatin1_aae02_3 : decode cJ0_isLatin1_aae02 3 = .ok (.ifCond .eq 14, 3) := by decide +kernel
theorem dJ0_isLatin1_aae02_6 : decode cJ0_isLatin1_aae02 6 = .ok (.aload_n 0, 1) := by decide +kernel
theorem dJ0_isLatin1_aae02_7 : decode cJ0_isLatin1_aae02 7 = .ok (.getfield 15, 3) := by decide +kernel
theorem dJ0_isLatin1_aae02_10 : decode cJ0_isLatin1_aae02 10 = .ok (.ifCond .ne 7, 3) := by decide +kernel
theorem dJ0_isLatin1_aae02_13 : decode cJ0_isLatin1_aae02 13 = .ok (.iconst 1, 1) := by decide +kernel
theorem dJ0_isLatin1_aae02_14 : decode cJ0_isLatin1_aae02 14 = .ok (.goto 4, 3) := by decide +kernel
theorem dJ0_isLatin1_aae02_17 : decode cJ0_isLatin1_aae02 17 = .ok (.iconst 0, 1) := by decide +kernel
theorem dJ0_isLatin1_aae02_18 : decode cJ0_isLatin1_aae02 18 = .ok (.ireturn, 1) := by decide +kernel
theorem dJ0_checkIndex_df160_0 : decode cJ0_checkIndex_df160 0 = .ok (.iload_n 0, 1) := by decide +kernel
theorem dJ0_checkIndex_df160_1 : decode cJ0_checkIndex_df160 1 = .ok (.iload_n 1, 1) := by decide +kernel
theorem dJ0_checkIndex_df160_2 : decode cJ0_checkIndex_df160 2 = .ok (.getstatic 1053, 3) := by decide +kernel
theorem dJ0_checkIndex_df160_5 : decode cJ0_checkIndex_df160 5 = .ok (.invokestatic 1059, 3) := by decide +kernel
theorem dJ0_checkIndex_df160_8 : decode cJ0_checkIndex_df160 8 = .ok (.pop, 1) := by decide +kernel
theorem dJ0_checkIndex_df160_9 : decode cJ0_checkIndex_df160 9 = .ok (.return_, 1) := by decide +kernel
theorem dJ0_checkBoundsOffCount_cabcc_0 : decode cJ0_checkBoundsOffCount_cabcc 0 = .ok (.iload_n 0, 1) := by decide +kernel
theorem dJ0_checkBoundsOffCount_cabcc_1 : decode cJ0_checkBoundsOffCount_cabcc 1 = .ok (.iload_n 1, 1) := by decide +kernel
theorem dJ0_checkBoundsOffCount_cabcc_2 : decode cJ0_checkBoundsOffCount_cabcc 2 = .ok (.iload_n 2, 1) := by decide +kernel
theorem dJ0_checkBoundsOffCount_cabcc_3 : decode cJ0_checkBoundsOffCount_cabcc 3 = .ok (.getstatic 1053, 3) := by decide +kernel
theorem dJ0_checkBoundsOffCount_cabcc_6 : decode cJ0_checkBoundsOffCount_cabcc 6 = .ok (.invokestatic 1065, 3) := by decide +kernel
theorem dJ0_checkBoundsOffCount_cabcc_9 : decode cJ0_checkBoundsOffCount_cabcc 9 = .ok (.ireturn, 1) := by decide +kernel
theorem dJ0_checkBoundsBeginEnd_23922_0 : decode cJ0_checkBoundsBeginEnd_23922 0 = .ok (.iload_n 0, 1) := by decide +kernel
theorem dJ0_checkBoundsBeginEnd_23922_1 : decode cJ0_checkBoundsBeginEnd_23922 1 = .ok (.iload_n 1, 1) := by decide +kernel
theorem dJ0_checkBoundsBeginEnd_23922_2 : decode cJ0_checkBoundsBeginEnd_23922 2 = .ok (.iload_n 2, 1) := by decide +kernel
theorem dJ0_checkBoundsBeginEnd_23922_3 : decode cJ0_checkBoundsBeginEnd_23922 3 = .ok (.getstatic 1053, 3) := by decide +kernel
theorem dJ0_checkBoundsBeginEnd_23922_6 : decode cJ0_checkBoundsBeginEnd_23922 6 = .ok (.invokestatic 1062, 3) := by decide +kernel
theorem dJ0_checkBoundsBeginEnd_23922_9 : decode cJ0_checkBoundsBeginEnd_23922 9 = .ok (.pop, 1) := by decide +kernel
theorem dJ0_checkBoundsBeginEnd_23922_10 : decode cJ0_checkBoundsBeginEnd_23922 10 = .ok (.return_, 1) := by decide +kernel
theorem dJ4_init_da8c8_0 : decode cJ4_init_da8c8 0 = .ok (.aload_n 0, 1) := by decide +kernel
theorem dJ4_init_da8c8_1 : decode cJ4_init_da8c8 1 = .ok (.bipush 16, 2) := by decide +kernel
theorem dJ4_init_da8c8_3 : decode cJ4_init_da8c8 3 = .ok (.invokespecial 1, 3) := by decide +kernel
theorem dJ4_init_da8c8_6 : decode cJ4_init_da8c8 6 = .ok (.return_, 1) := by decide +kernel
theorem dJ4_append_15ec4_0 : decode cJ4_append_15ec4 0 = .ok (.aload_n 0, 1) := by decide +kernel
theorem dJ4_append_15ec4_1 : decode cJ4_append_15ec4 1 = .ok (.aload_n 1, 1) := by decide +kernel
theorem dJ4_append_15ec4_2 : decode cJ4_append_15ec4 2 = .ok (.invokespecial 29, 3) := by decide +kernel
theorem dJ4_append_15ec4_5 : decode cJ4_append_15ec4 5 = .ok (.pop, 1) := by decide +kernel
theorem dJ4_append_15ec4_6 : decode cJ4_append_15ec4 6 = .ok (.aload_n 0, 1) := by decide +kernel
theorem dJ4_append_15ec4_7 : decode cJ4_append_15ec4 7 = .ok (.areturn, 1) := by decide +kernel
theorem dJ4_append_bf812_0 : decode cJ4_append_bf812 0 = .ok (.aload_n 0, 1) := by decide +kernel
theorem dJ4_append_bf812_1 : decode cJ4_append_bf812 1 = .ok (.iload_n 1, 1) := by decide +kernel
theorem dJ4_append_bf812_2 : decode cJ4_append_bf812 2 = .ok (.invokespecial 53, 3) := by decide +kernel
theorem dJ4_append_bf812_5 : decode cJ4_append_bf812 5 = .ok (.pop, 1) := by decide +kernel
theorem dJ4_append_bf812_6 : decode cJ4_append_bf812 6 = .ok (.aload_n 0, 1) := by decide +kernel
theorem dJ4_append_bf812_7 : decode cJ4_append_bf812 7 = .ok (.areturn, 1) := by decide +kernel
theorem dJ4_toString_0e30d_0 : decode cJ4_toString_0e30d 0 = .ok (.new 18, 3) := by decide +kernel
theorem dJ4_toString_0e30d_3 : decode cJ4_toString_0e30d 3 = .ok (.dup, 1) := by decide +kernel
theorem dJ4_toString_0e30d_4 : decode cJ4_toString_0e30d 4 = .ok (.aload_n 0, 1) := by decide +kernel
theorem dJ4_toString_0e30d_5 : decode cJ4_toString_0e30d 5 = .ok (.invokespecial 137, 3) := by decide +kernel
theorem dJ4_toString_0e30d_8 : decode cJ4_toString_0e30d 8 = .ok (.areturn, 1) := by decide +kernel
theorem dJ4_length_8abf5_0 : decode cJ4_length_8abf5 0 = .ok (.aload_n 0, 1) := by decide +kernel
theorem dJ4_length_8abf5_1 : decode cJ4_length_8abf5 1 = .ok (.invokespecial 343, 3) := by decide +kernel
theorem dJ4_length_8abf5_4 : decode cJ4_length_8abf5 4 = .ok (.ireturn, 1) := by decide +kernel
theorem dJ1_charAt_3b067_0 : decode cJ1_charAt_3b067 0 = .ok (.iload_n 1, 1) := by decide +kernel
theorem dJ1_charAt_3b067_1 : decode cJ1_charAt_3b067 1 = .ok (.aload_n 0, 1) := by decide +kernel
theorem dJ1_charAt_3b067_2 : decode cJ1_charAt_3b067 2 = .ok (.arraylength, 1) := by decide +kernel
theorem dJ1_charAt_3b067_3 : decode cJ1_charAt_3b067 3 = .ok (.invokestatic 9, 3) := by decide +kernel
theorem dJ1_charAt_3b067_6 : decode cJ1_charAt_3b067 6 = .ok (.aload_n 0, 1) := by decide +kernel
theorem dJ1_charAt_3b067_7 : decode cJ1_charAt_3b067 7 = .ok (.iload_n 1, 1) := by decide +kernel
theorem dJ1_charAt_3b067_8 : decode cJ1_charAt_3b067 8 = .ok (.baload, 1) := by decide +kernel
theorem dJ1_charAt_3b067_9 : decode cJ1_charAt_3b067 9 = .ok (.sipush 255, 3) := by decide +kernel
theorem dJ1_charAt_3b067_12 : decode cJ1_charAt_3b067 12 = .ok (.iand, 1) := by decide +kernel
theorem dJ1_charAt_3b067_13 : decode cJ1_charAt_3b067 13 = .ok (.i2c, 1) := by decide +kernel
theorem dJ1_charAt_3b067_14 : decode cJ1_charAt_3b067 14 = .ok (.ireturn, 1) := by decide +kernel
theorem dJ1_inflate_0e8fd_0 : decode cJ1_inflate_0e8fd 0 = .ok (.aload_n 0, 1) := by decide +kernel
theorem dJ1_inflate_0e8fd_1 : decode cJ1_inflate_0e8fd 1 = .ok (.iload_n 1, 1) := by decide +kernel
theorem dJ1_inflate_0e8fd_2 : decode cJ1_inflate_0e8fd 2 = .ok (.aload_n 2, 1) := by decide +kernel
theorem dJ1_inflate_0e8fd_3 : decode cJ1_inflate_0e8fd 3 = .ok (.iload_n 3, 1) := by decide +kernel
theorem dJ1_inflate_0e8fd_4 : decode cJ1_inflate_0e8fd 4 = .ok (.iload 4, 2) := by decide +kernel
theorem dJ1_inflate_0e8fd_6 : decode cJ1_inflate_0e8fd 6 = .ok (.invokestatic 240, 3) := by decide +kernel
theorem dJ1_inflate_0e8fd_9 : decode cJ1_inflate_0e8fd 9 = .ok (.return_, 1) := by decide +kernel
theorem dJ7_fill_53178_0 : decode cJ7_fill_53178 0 = .ok (.iconst 0, 1) := by decide +kernel
theorem dJ7_fill_53178_1 : decode cJ7_fill_53178 1 = .ok (.istore_n 2, 1) := by decide +kernel
theorem dJ7_fill_53178_2 : decode cJ7_fill_53178 2 = .ok (.aload_n 0, 1) := by decide +kernel
theorem dJ7_fill_53178_3 : decode cJ7_fill_53178 3 = .ok (.arraylength, 1) := by decide +kernel
theorem dJ7_fill_53178_4 : decode cJ7_fill_53178 4 = .ok (.istore_n 3, 1) := by decide +kernel
theorem dJ7_fill_53178_5 : decode cJ7_fill_53178 5 = .ok (.iload_n 2, 1) := by decide +kernel
theorem dJ7_fill_53178_6 : decode cJ7_fill_53178 6 = .ok (.iload_n 3, 1) := by decide +kernel
theorem dJ7_fill_53178_7 : decode cJ7_fill_53178 7 = .ok (.if_icmp .ge 13, 3) := by decide +kernel
theorem dJ7_fill_53178_10 : decode cJ7_fill_53178 10 = .ok (.aload_n 0, 1) := by decide +kernel
theorem dJ7_fill_53178_11 : decode cJ7_fill_53178 11 = .ok (.iload_n 2, 1) := by decide +kernel
theorem dJ7_fill_53178_12 : decode cJ7_fill_53178 12 = .ok (.iload_n 1, 1) := by decide +kernel
theorem dJ7_fill_53178_13 : decode cJ7_fill_53178 13 = .ok (.iastore, 1) := by decide +kernel
theorem dJ7_fill_53178_14 : decode cJ7_fill_53178 14 = .ok (.iinc 2 1, 3) := by decide +kernel
theorem dJ7_fill_53178_17 : decode cJ7_fill_53178 17 = .ok (.goto (-12), 3) := by decide +kernel
theorem dJ7_fill_53178_20 : decode cJ7_fill_53178 20 = .ok (.return_, 1) := by decide +kernel
theorem dJ7_copyOf_9075b_0 : decode cJ7_copyOf_9075b 0 = .ok (.iload_n 1, 1) := by decide +kernel
theorem dJ7_copyOf_9075b_1 : decode cJ7_copyOf_9075b 1 = .ok (.aload_n 0, 1) := by decide +kernel
theorem dJ7_copyOf_9075b_2 : decode cJ7_copyOf_9075b 2 = .ok (.arraylength, 1) := by decide +kernel
theorem dJ7_copyOf_9075b_3 : decode cJ7_copyOf_9075b 3 = .ok (.if_icmp .ne 11, 3) := by decide +kernel
theorem dJ7_copyOf_9075b_6 : decode cJ7_copyOf_9075b 6 = .ok (.aload_n 0, 1) := by decide +kernel
theorem dJ7_copyOf_9075b_7 : decode cJ7_copyOf_9075b 7 = .ok (.invokevirtual 310, 3) := by decide +kernel
theorem dJ7_copyOf_9075b_10 : decode cJ7_copyOf_9075b 10 = .ok (.checkcast 311, 3) := by decide +kernel
theorem dJ7_copyOf_9075b_13 : decode cJ7_copyOf_9075b 13 = .ok (.areturn, 1) := by decide +kernel
theorem dJ7_copyOf_9075b_14 : decode cJ7_copyOf_9075b 14 = .ok (.iload_n 1, 1) := by decide +kernel
theorem dJ7_copyOf_9075b_15 : decode cJ7_copyOf_9075b 15 = .ok (.newarray .byte, 2) := by decide +kernel
theorem dJ7_copyOf_9075b_17 : decode cJ7_copyOf_9075b 17 = .ok (.astore_n 2, 1) := by decide +kernel
theorem dJ7_copyOf_9075b_18 : decode cJ7_copyOf_9075b 18 = .ok (.aload_n 0, 1) := by decide +kernel
theorem dJ7_copyOf_9075b_19 : decode cJ7_copyOf_9075b 19 = .ok (.iconst 0, 1) := by decide +kernel
theorem dJ7_copyOf_9075b_20 : decode cJ7_copyOf_9075b 20 = .ok (.aload_n 2, 1) := by decide +kernel
theorem dJ7_copyOf_9075b_21 : decode cJ7_copyOf_9075b 21 = .ok (.iconst 0, 1) := by decide +kernel
theorem dJ7_copyOf_9075b_22 : decode cJ7_copyOf_9075b 22 = .ok (.aload_n 0, 1) := by decide +kernel
theorem dJ7_copyOf_9075b_23 : decode cJ7_copyOf_9075b 23 = .ok (.arraylength, 1) := by decide +kernel
theorem dJ7_copyOf_9075b_24 : decode cJ7_copyOf_9075b 24 = .ok (.iload_n 1, 1) := by decide +kernel
theorem dJ7_copyOf_9075b_25 : decode cJ7_copyOf_9075b 25 = .ok (.invokestatic 304, 3) := by decide +kernel
theorem dJ7_copyOf_9075b_28 : decode cJ7_copyOf_9075b 28 = .ok (.invokestatic 150, 3) := by decide +kernel
theorem dJ7_copyOf_9075b_31 : decode cJ7_copyOf_9075b 31 = .ok (.aload_n 2, 1) := by decide +kernel
theorem dJ7_copyOf_9075b_32 : decode cJ7_copyOf_9075b 32 = .ok (.areturn, 1) := by decide +kernel
theorem dJ7_checkLength_df160_0 : decode cJ7_checkLength_df160 0 = .ok (.iload_n 1, 1) := by decide +kernel
theorem dJ7_checkLength_df160_1 : decode cJ7_checkLength_df160 1 = .ok (.iload_n 0, 1) := by decide +kernel
theorem dJ7_checkLength_df160_2 : decode cJ7_checkLength_df160 2 = .ok (.if_icmp .ge 35, 3) := by decide +kernel
theorem dJ7_checkLength_df160_5 : decode cJ7_checkLength_df160 5 = .ok (.new 43, 3) := by decide +kernel
theorem dJ7_checkLength_df160_8 : decode cJ7_checkLength_df160 8 = .ok (.dup, 1) := by decide +kernel
theorem dJ7_checkLength_df160_9 : decode cJ7_checkLength_df160 9 = .ok (.new 45, 3) := by decide +kernel
theorem dJ7_checkLength_df160_12 : decode cJ7_checkLength_df160 12 = .ok (.dup, 1) := by decide +kernel
theorem dJ7_checkLength_df160_13 : decode cJ7_checkLength_df160 13 = .ok (.invokespecial 47, 3) := by decide +kernel
theorem dJ7_checkLength_df160_16 : decode cJ7_checkLength_df160 16 = .ok (.iload_n 0, 1) := by decide +kernel
theorem dJ7_checkLength_df160_17 : decode cJ7_checkLength_df160 17 = .ok (.invokevirtual 54, 3) := by decide +kernel
theorem dJ7_checkLength_df160_20 : decode cJ7_checkLength_df160 20 = .ok (.ldc_w 337, 3) := by decide +kernel
theorem dJ7_checkLength_df160_23 : decode cJ7_checkLength_df160 23 = .ok (.invokevirtual 50, 3) := by decide +kernel
theorem dJ7_checkLength_df160_26 : decode cJ7_checkLength_df160 26 = .ok (.iload_n 1, 1) := by decide +kernel
theorem dJ7_checkLength_df160_27 : decode cJ7_checkLength_df160 27 = .ok (.invokevirtual 54, 3) := by decide +kernel
theorem dJ7_checkLength_df160_30 : decode cJ7_checkLength_df160 30 = .ok (.invokevirtual 61, 3) := by decide +kernel
theorem dJ7_checkLength_df160_33 : decode cJ7_checkLength_df160 33 = .ok (.invokespecial 65, 3) := by decide +kernel
theorem dJ7_checkLength_df160_36 : decode cJ7_checkLength_df160 36 = .ok (.athrow, 1) := by decide +kernel
theorem dJ7_checkLength_df160_37 : decode cJ7_checkLength_df160 37 = .ok (.return_, 1) := by decide +kernel
theorem dJ7_copyOfRange_39247_0 : decode cJ7_copyOfRange_39247 0 = .ok (.iload_n 1, 1) := by decide +kernel
theorem dJ7_copyOfRange_39247_1 : decode cJ7_copyOfRange_39247 1 = .ok (.ifCond .ne 9, 3) := by decide +kernel
theorem dJ7_copyOfRange_39247_4 : decode cJ7_copyOfRange_39247 4 = .ok (.iload_n 2, 1) := by decide +kernel
theorem dJ7_copyOfRange_39247_5 : decode cJ7_copyOfRange_39247 5 = .ok (.aload_n 0, 1) := by decide +kernel
theorem dJ7_copyOfRange_39247_6 : decode cJ7_copyOfRange_39247 6 = .ok (.arraylength, 1) := by decide +kernel
theorem dJ7_copyOfRange_39247_7 : decode cJ7_copyOfRange_39247 7 = .ok (.if_icmp .eq 10, 3) := by decide +kernel
theorem dJ7_copyOfRange_39247_10 : decode cJ7_copyOfRange_39247 10 = .ok (.aload_n 0, 1) := by decide +kernel
theorem dJ7_copyOfRange_39247_11 : decode cJ7_copyOfRange_39247 11 = .ok (.iload_n 1, 1) := by decide +kernel
theorem dJ7_copyOfRange_39247_12 : decode cJ7_copyOfRange_39247 12 = .ok (.iload_n 2, 1) := by decide +kernel
theorem dJ7_copyOfRange_39247_13 : decode cJ7_copyOfRange_39247 13 = .ok (.invokestatic 339, 3) := by decide +kernel
theorem dJ7_copyOfRange_39247_16 : decode cJ7_copyOfRange_39247 16 = .ok (.areturn, 1) := by decide +kernel
theorem dJ7_copyOfRange_39247_17 : decode cJ7_copyOfRange_39247 17 = .ok (.aload_n 0, 1) := by decide +kernel
theorem dJ7_copyOfRange_39247_18 : decode cJ7_copyOfRange_39247 18 = .ok (.invokevirtual 310, 3) := by decide +kernel
theorem dJ7_copyOfRange_39247_21 : decode cJ7_copyOfRange_39247 21 = .ok (.checkcast 311, 3) := by decide +kernel
theorem dJ7_copyOfRange_39247_24 : decode cJ7_copyOfRange_39247 24 = .ok (.areturn, 1) := by decide +kernel
theorem dJ7_copyOfRangeByte_39247_0 : decode cJ7_copyOfRangeByte_39247 0 = .ok (.iload_n 1, 1) := by decide +kernel
theorem dJ7_copyOfRangeByte_39247_1 : decode cJ7_copyOfRangeByte_39247 1 = .ok (.iload_n 2, 1) := by decide +kernel
theorem dJ7_copyOfRangeByte_39247_2 : decode cJ7_copyOfRangeByte_39247 2 = .ok (.invokestatic 343, 3) := by decide +kernel
theorem dJ7_copyOfRangeByte_39247_5 : decode cJ7_copyOfRangeByte_39247 5 = .ok (.iload_n 2, 1) := by decide +kernel
theorem dJ7_copyOfRangeByte_39247_6 : decode cJ7_copyOfRangeByte_39247 6 = .ok (.iload_n 1, 1) := by decide +kernel
theorem dJ7_copyOfRangeByte_39247_7 : decode cJ7_copyOfRangeByte_39247 7 = .ok (.isub, 1) := by decide +kernel
theorem dJ7_copyOfRangeByte_39247_8 : decode cJ7_copyOfRangeByte_39247 8 = .ok (.istore_n 3, 1) := by decide +kernel
theorem dJ7_copyOfRangeByte_39247_9 : decode cJ7_copyOfRangeByte_39247 9 = .ok (.iload_n 3, 1) := by decide +kernel
theorem dJ7_copyOfRangeByte_39247_10 : decode cJ7_copyOfRangeByte_39247 10 = .ok (.newarray .byte, 2) := by decide +kernel
theorem dJ7_copyOfRangeByte_39247_12 : decode cJ7_copyOfRangeByte_39247 12 = .ok (.astore 4, 2) := by decide +kernel
theorem dJ7_copyOfRangeByte_39247_14 : decode cJ7_copyOfRangeByte_39247 14 = .ok (.aload_n 0, 1) := by decide +kernel
theorem dJ7_copyOfRangeByte_39247_15 : decode cJ7_copyOfRangeByte_39247 15 = .ok (.iload_n 1, 1) := by decide +kernel
theorem dJ7_copyOfRangeByte_39247_16 : decode cJ7_copyOfRangeByte_39247 16 = .ok (.aload 4, 2) := by decide +kernel
theorem dJ7_copyOfRangeByte_39247_18 : decode cJ7_copyOfRangeByte_39247 18 = .ok (.iconst 0, 1) := by decide +kernel
theorem dJ7_copyOfRangeByte_39247_19 : decode cJ7_copyOfRangeByte_39247 19 = .ok (.aload_n 0, 1) := by decide +kernel
theorem dJ7_copyOfRangeByte_39247_20 : decode cJ7_copyOfRangeByte_39247 20 = .ok (.arraylength, 1) := by decide +kernel
theorem dJ7_copyOfRangeByte_39247_21 : decode cJ7_copyOfRangeByte_39247 21 = .ok (.iload_n 1, 1) := by decide +kernel
theorem dJ7_copyOfRangeByte_39247_22 : decode cJ7_copyOfRangeByte_39247 22 = .ok (.isub, 1) := by decide +kernel
theorem dJ7_copyOfRangeByte_39247_23 : decode cJ7_copyOfRangeByte_39247 23 = .ok (.iload_n 3, 1) := by decide +kernel
theorem dJ7_copyOfRangeByte_39247_24 : decode cJ7_copyOfRangeByte_39247 24 = .ok (.invokestatic 304, 3) := by decide +kernel
theorem dJ7_copyOfRangeByte_39247_27 : decode cJ7_copyOfRangeByte_39247 27 = .ok (.invokestatic 150, 3) := by decide +kernel
theorem dJ7_copyOfRangeByte_39247_30 : decode cJ7_copyOfRangeByte_39247 30 = .ok (.aload 4, 2) := by decide +kernel
theorem dJ7_copyOfRangeByte_39247_32 : decode cJ7_copyOfRangeByte_39247 32 = .ok (.areturn, 1) := by decide +kernel
theorem dJ8_newLength_cabcc_0 : decode cJ8_newLength_cabcc 0 = .ok (.iload_n 0, 1) := by decide +kernel
theorem dJ8_newLength_cabcc_1 : decode cJ8_newLength_cabcc 1 = .ok (.iload_n 1, 1) := by decide +kernel
theorem dJ8_newLength_cabcc_2 : decode cJ8_newLength_cabcc 2 = .ok (.iload_n 2, 1) := by decide +kernel
theorem dJ8_newLength_cabcc_3 : decode cJ8_newLength_cabcc 3 = .ok (.invokestatic 194, 3) := by decide +kernel
theorem dJ8_newLength_cabcc_6 : decode cJ8_newLength_cabcc 6 = .ok (.iadd, 1) := by decide +kernel
theorem dJ8_newLength_cabcc_7 : decode cJ8_newLength_cabcc 7 = .ok (.istore_n 3, 1) := by decide +kernel
theorem dJ8_newLength_cabcc_8 : decode cJ8_newLength_cabcc 8 = .ok (.iconst 0, 1) := by decide +kernel
theorem dJ8_newLength_cabcc_9 : decode cJ8_newLength_cabcc 9 = .ok (.iload_n 3, 1) := by decide +kernel
theorem dJ8_newLength_cabcc_10 : decode cJ8_newLength_cabcc 10 = .ok (.if_icmp .ge 11, 3) := by decide +kernel
theorem dJ8_newLength_cabcc_13 : decode cJ8_newLength_cabcc 13 = .ok (.iload_n 3, 1) := by decide +kernel
theorem dJ8_newLength_cabcc_14 : decode cJ8_newLength_cabcc 14 = .ok (.ldc 200, 2) := by decide +kernel
theorem dJ8_newLength_cabcc_16 : decode cJ8_newLength_cabcc 16 = .ok (.if_icmp .gt 5, 3) := by decide +kernel
theorem dJ8_newLength_cabcc_19 : decode cJ8_newLength_cabcc 19 = .ok (.iload_n 3, 1) := by decide +kernel
theorem dJ8_newLength_cabcc_20 : decode cJ8_newLength_cabcc 20 = .ok (.ireturn, 1) := by decide +kernel
theorem dJ8_newLength_cabcc_21 : decode cJ8_newLength_cabcc 21 = .ok (.iload_n 0, 1) := by decide +kernel
theorem dJ8_newLength_cabcc_22 : decode cJ8_newLength_cabcc 22 = .ok (.iload_n 1, 1) := by decide +kernel
theorem dJ8_newLength_cabcc_23 : decode cJ8_newLength_cabcc 23 = .ok (.invokestatic 201, 3) := by decide +kernel
theorem dJ8_newLength_cabcc_26 : decode cJ8_newLength_cabcc 26 = .ok (.ireturn, 1) := by decide +kernel
theorem dJ8_hugeLength_7cf53_0 : decode cJ8_hugeLength_7cf53 0 = .ok (.iload_n 0, 1) := by decide +kernel
theorem dJ8_hugeLength_7cf53_1 : decode cJ8_hugeLength_7cf53 1 = .ok (.iload_n 1, 1) := by decide +kernel
theorem dJ8_hugeLength_7cf53_2 : decode cJ8_hugeLength_7cf53 2 = .ok (.iadd, 1) := by decide +kernel
theorem dJ8_hugeLength_7cf53_3 : decode cJ8_hugeLength_7cf53 3 = .ok (.istore_n 2, 1) := by decide +kernel
theorem dJ8_hugeLength_7cf53_4 : decode cJ8_hugeLength_7cf53 4 = .ok (.iload_n 2, 1) := by decide +kernel
theorem dJ8_hugeLength_7cf53_5 : decode cJ8_hugeLength_7cf53 5 = .ok (.ifCond .ge 44, 3) := by decide +kernel
theorem dJ8_hugeLength_7cf53_8 : decode cJ8_hugeLength_7cf53 8 = .ok (.new 204, 3) := by decide +kernel
theorem dJ8_hugeLength_7cf53_11 : decode cJ8_hugeLength_7cf53 11 = .ok (.dup, 1) := by decide +kernel
theorem dJ8_hugeLength_7cf53_12 : decode cJ8_hugeLength_7cf53 12 = .ok (.new 89, 3) := by decide +kernel
theorem dJ8_hugeLength_7cf53_15 : decode cJ8_hugeLength_7cf53 15 = .ok (.dup, 1) := by decide +kernel
theorem dJ8_hugeLength_7cf53_16 : decode cJ8_hugeLength_7cf53 16 = .ok (.invokespecial 91, 3) := by decide +kernel
theorem dJ8_hugeLength_7cf53_19 : decode cJ8_hugeLength_7cf53 19 = .ok (.ldc 206, 2) := by decide +kernel
theorem dJ8_hugeLength_7cf53_21 : decode cJ8_hugeLength_7cf53 21 = .ok (.invokevirtual 94, 3) := by decide +kernel
theorem dJ8_hugeLength_7cf53_24 : decode cJ8_hugeLength_7cf53 24 = .ok (.iload_n 0, 1) := by decide +kernel
theorem dJ8_hugeLength_7cf53_25 : decode cJ8_hugeLength_7cf53 25 = .ok (.invokevirtual 98, 3) := by decide +kernel
theorem dJ8_hugeLength_7cf53_28 : decode cJ8_hugeLength_7cf53 28 = .ok (.ldc 208, 2) := by decide +kernel
theorem dJ8_hugeLength_7cf53_30 : decode cJ8_hugeLength_7cf53 30 = .ok (.invokevirtual 94, 3) := by decide +kernel
theorem dJ8_hugeLength_7cf53_33 : decode cJ8_hugeLength_7cf53 33 = .ok (.iload_n 1, 1) := by decide +kernel
theorem dJ8_hugeLength_7cf53_34 : decode cJ8_hugeLength_7cf53 34 = .ok (.invokevirtual 98, 3) := by decide +kernel
theorem dJ8_hugeLength_7cf53_37 : decode cJ8_hugeLength_7cf53 37 = .ok (.ldc 210, 2) := by decide +kernel
theorem dJ8_hugeLength_7cf53_39 : decode cJ8_hugeLength_7cf53 39 = .ok (.invokevirtual 94, 3) := by decide +kernel
theorem dJ8_hugeLength_7cf53_42 : decode cJ8_hugeLength_7cf53 42 = .ok (.invokevirtual 101, 3) := by decide +kernel
theorem dJ8_hugeLength_7cf53_45 : decode cJ8_hugeLength_7cf53 45 = .ok (.invokespecial 212, 3) := by decide +kernel
theorem dJ8_hugeLength_7cf53_48 : decode cJ8_hugeLength_7cf53 48 = .ok (.athrow, 1) := by decide +kernel
theorem dJ8_hugeLength_7cf53_49 : decode cJ8_hugeLength_7cf53 49 = .ok (.iload_n 2, 1) := by decide +kernel
theorem dJ8_hugeLength_7cf53_50 : decode cJ8_hugeLength_7cf53 50 = .ok (.ldc 200, 2) := by decide +kernel
theorem dJ8_hugeLength_7cf53_52 : decode cJ8_hugeLength_7cf53 52 = .ok (.if_icmp .gt 6, 3) := by decide +kernel
theorem dJ8_hugeLength_7cf53_55 : decode cJ8_hugeLength_7cf53 55 = .ok (.ldc 200, 2) := by decide +kernel
theorem dJ8_hugeLength_7cf53_57 : decode cJ8_hugeLength_7cf53 57 = .ok (.ireturn, 1) := by decide +kernel
theorem dJ8_hugeLength_7cf53_58 : decode cJ8_hugeLength_7cf53 58 = .ok (.iload_n 2, 1) := by decide +kernel
theorem dJ8_hugeLength_7cf53_59 : decode cJ8_hugeLength_7cf53 59 = .ok (.ireturn, 1) := by decide +kernel
theorem dJ3_checkIndex_8e157_0 : decode cJ3_checkIndex_8e157 0 = .ok (.iload_n 0, 1) := by decide +kernel
theorem dJ3_checkIndex_8e157_1 : decode cJ3_checkIndex_8e157 1 = .ok (.ifCond .lt 8, 3) := by decide +kernel
theorem dJ3_checkIndex_8e157_4 : decode cJ3_checkIndex_8e157 4 = .ok (.iload_n 0, 1) := by decide +kernel
theorem dJ3_checkIndex_8e157_5 : decode cJ3_checkIndex_8e157 5 = .ok (.iload_n 1, 1) := by decide +kernel
theorem dJ3_checkIndex_8e157_6 : decode cJ3_checkIndex_8e157 6 = .ok (.if_icmp .lt 10, 3) := by decide +kernel
theorem dJ3_checkIndex_8e157_9 : decode cJ3_checkIndex_8e157 9 = .ok (.aload_n 2, 1) := by decide +kernel
theorem dJ3_checkIndex_8e157_10 : decode cJ3_checkIndex_8e157 10 = .ok (.iload_n 0, 1) := by decide +kernel
theorem dJ3_checkIndex_8e157_11 : decode cJ3_checkIndex_8e157 11 = .ok (.iload_n 1, 1) := by decide +kernel
theorem dJ3_checkIndex_8e157_12 : decode cJ3_checkIndex_8e157 12 = .ok (.invokestatic 95, 3) := by decide +kernel
theorem dJ3_checkIndex_8e157_15 : decode cJ3_checkIndex_8e157 15 = .ok (.athrow, 1) := by decide +kernel
theorem dJ3_checkIndex_8e157_16 : decode cJ3_checkIndex_8e157 16 = .ok (.iload_n 0, 1) := by decide +kernel
theorem dJ3_checkIndex_8e157_17 : decode cJ3_checkIndex_8e157 17 = .ok (.ireturn, 1) := by decide +kernel
theorem dJ3_checkFromToIndex_8c36e_0 : decode cJ3_checkFromToIndex_8c36e 0 = .ok (.iload_n 0, 1) := by decide +kernel
theorem dJ3_checkFromToIndex_8c36e_1 : decode cJ3_checkFromToIndex_8c36e 1 = .ok (.ifCond .lt 13, 3) := by decide +kernel
theorem dJ3_checkFromToIndex_8c36e_4 : decode cJ3_checkFromToIndex_8c36e 4 = .ok (.iload_n 0, 1) := by decide +kernel
theorem dJ3_checkFromToIndex_8c36e_5 : decode cJ3_checkFromToIndex_8c36e 5 = .ok (.iload_n 1, 1) := by decide +kernel
theorem dJ3_checkFromToIndex_8c36e_6 : decode cJ3_checkFromToIndex_8c36e 6 = .ok (.if_icmp .gt 8, 3) := by decide +kernel
theorem dJ3_checkFromToIndex_8c36e_9 : decode cJ3_checkFromToIndex_8c36e 9 = .ok (.iload_n 1, 1) := by decide +kernel
theorem dJ3_checkFromToIndex_8c36e_10 : decode cJ3_checkFromToIndex_8c36e 10 = .ok (.iload_n 2, 1) := by decide +kernel
theorem dJ3_checkFromToIndex_8c36e_11 : decode cJ3_checkFromToIndex_8c36e 11 = .ok (.if_icmp .le 11, 3) := by decide +kernel
theorem dJ3_checkFromToIndex_8c36e_14 : decode cJ3_checkFromToIndex_8c36e 14 = .ok (.aload_n 3, 1) := by decide +kernel
theorem dJ3_checkFromToIndex_8c36e_15 : decode cJ3_checkFromToIndex_8c36e 15 = .ok (.iload_n 0, 1) := by decide +kernel
theorem dJ3_checkFromToIndex_8c36e_16 : decode cJ3_checkFromToIndex_8c36e 16 = .ok (.iload_n 1, 1) := by decide +kernel
theorem dJ3_checkFromToIndex_8c36e_17 : decode cJ3_checkFromToIndex_8c36e 17 = .ok (.iload_n 2, 1) := by decide +kernel
theorem dJ3_checkFromToIndex_8c36e_18 : decode cJ3_checkFromToIndex_8c36e 18 = .ok (.invokestatic 99, 3) := by decide +kernel
theorem dJ3_checkFromToIndex_8c36e_21 : decode cJ3_checkFromToIndex_8c36e 21 = .ok (.athrow, 1) := by decide +kernel
theorem dJ3_checkFromToIndex_8c36e_22 : decode cJ3_checkFromToIndex_8c36e 22 = .ok (.iload_n 0, 1) := by decide +kernel
theorem dJ3_checkFromToIndex_8c36e_23 : decode cJ3_checkFromToIndex_8c36e 23 = .ok (.ireturn, 1) := by decide +kernel
theorem dJ3_checkFromIndexSize_8c36e_0 : decode cJ3_checkFromIndexSize_8c36e 0 = .ok (.iload_n 2, 1) := by decide +kernel
theorem dJ3_checkFromIndexSize_8c36e_1 : decode cJ3_checkFromIndexSize_8c36e 1 = .ok (.iload_n 0, 1) := by decide +kernel
theorem dJ3_checkFromIndexSize_8c36e_2 : decode cJ3_checkFromIndexSize_8c36e 2 = .ok (.ior, 1) := by decide +kernel
theorem dJ3_checkFromIndexSize_8c36e_3 : decode cJ3_checkFromIndexSize_8c36e 3 = .ok (.iload_n 1, 1) := by decide +kernel
theorem dJ3_checkFromIndexSize_8c36e_4 : decode cJ3_checkFromIndexSize_8c36e 4 = .ok (.ior, 1) := by decide +kernel
theorem dJ3_checkFromIndexSize_8c36e_5 : decode cJ3_checkFromIndexSize_8c36e 5 = .ok (.ifCond .lt 10, 3) := by decide +kernel
theorem dJ3_checkFromIndexSize_8c36e_8 : decode cJ3_checkFromIndexSize_8c36e 8 = .ok (.iload_n 1, 1) := by decide +kernel
theorem dJ3_checkFromIndexSize_8c36e_9 : decode cJ3_checkFromIndexSize_8c36e 9 = .ok (.iload_n 2, 1) := by decide +kernel
theorem dJ3_checkFromIndexSize_8c36e_10 : decode cJ3_checkFromIndexSize_8c36e 10 = .ok (.iload_n 0, 1) := by decide +kernel
theorem dJ3_checkFromIndexSize_8c36e_11 : decode cJ3_checkFromIndexSize_8c36e 11 = .ok (.isub, 1) := by decide +kernel
theorem dJ3_checkFromIndexSize_8c36e_12 : decode cJ3_checkFromIndexSize_8c36e 12 = .ok (.if_icmp .le 11, 3) := by decide +kernel
theorem dJ3_checkFromIndexSize_8c36e_15 : decode cJ3_checkFromIndexSize_8c36e 15 = .ok (.aload_n 3, 1) := by decide +kernel
theorem dJ3_checkFromIndexSize_8c36e_16 : decode cJ3_checkFromIndexSize_8c36e 16 = .ok (.iload_n 0, 1) := by decide +kernel
theorem dJ3_checkFromIndexSize_8c36e_17 : decode cJ3_checkFromIndexSize_8c36e 17 = .ok (.iload_n 1, 1) := by decide +kernel
theorem dJ3_checkFromIndexSize_8c36e_18 : decode cJ3_checkFromIndexSize_8c36e 18 = .ok (.iload_n 2, 1) := by decide +kernel
theorem dJ3_checkFromIndexSize_8c36e_19 : decode cJ3_checkFromIndexSize_8c36e 19 = .ok (.invokestatic 103, 3) := by decide +kernel
theorem dJ3_checkFromIndexSize_8c36e_22 : decode cJ3_checkFromIndexSize_8c36e 22 = .ok (.athrow, 1) := by decide +kernel
theorem dJ3_checkFromIndexSize_8c36e_23 : decode cJ3_checkFromIndexSize_8c36e 23 = .ok (.iload_n 0, 1) := by decide +kernel
theorem dJ3_checkFromIndexSize_8c36e_24 : decode cJ3_checkFromIndexSize_8c36e 24 = .ok (.ireturn, 1) := by decide +kernel
theorem dL_cell_0 : decode cL_cell 0 = .ok (.iload_n 1, 1) := by decide +kernel
theorem dL_cell_1 : decode cL_cell 1 = .ok (.aload_n 0, 1) := by decide +kernel
theorem dL_cell_2 : decode cL_cell 2 = .ok (.arraylength, 1) := by decide +kernel
theorem dL_cell_3 : decode cL_cell 3 = .ok (.if_icmp .ge 9, 3) := by decide +kernel
theorem dL_cell_6 : decode cL_cell 6 = .ok (.aload_n 0, 1) := by decide +kernel
theorem dL_cell_7 : decode cL_cell 7 = .ok (.iload_n 1, 1) := by decide +kernel
theorem dL_cell_8 : decode cL_cell 8 = .ok (.iaload, 1) := by decide +kernel
theorem dL_cell_9 : decode cL_cell 9 = .ok (.goto 12, 3) := by decide +kernel
theorem dL_cell_12 : decode cL_cell 12 = .ok (.sipush 631, 3) := by decide +kernel
theorem dL_cell_15 : decode cL_cell 15 = .ok (.iload_n 1, 1) := by decide +kernel
theorem dL_cell_16 : decode cL_cell 16 = .ok (.imul, 1) := by decide +kernel
theorem dL_cell_17 : decode cL_cell 17 = .ok (.sipush 619, 3) := by decide +kernel
theorem dL_cell_20 : decode cL_cell 20 = .ok (.iadd, 1) := by decide +kernel
theorem dL_cell_21 : decode cL_cell 21 = .ok (.ireturn, 1) := by decide +kernel
theorem dL_between_0 : decode cL_between 0 = .ok (.iload_n 1, 1) := by decide +kernel
theorem dL_between_1 : decode cL_between 1 = .ok (.iload_n 0, 1) := by decide +kernel
theorem dL_between_2 : decode cL_between 2 = .ok (.ldc 7, 2) := by decide +kernel
theorem dL_between_4 : decode cL_between 4 = .ok (.iand, 1) := by decide +kernel
theorem dL_between_5 : decode cL_between 5 = .ok (.iload_n 2, 1) := by decide +kernel
theorem dL_between_6 : decode cL_between 6 = .ok (.iload_n 1, 1) := by decide +kernel
theorem dL_between_7 : decode cL_between 7 = .ok (.isub, 1) := by decide +kernel
theorem dL_between_8 : decode cL_between 8 = .ok (.iconst 1, 1) := by decide +kernel
theorem dL_between_9 : decode cL_between 9 = .ok (.iadd, 1) := by decide +kernel
theorem dL_between_10 : decode cL_between 10 = .ok (.irem, 1) := by decide +kernel
theorem dL_between_11 : decode cL_between 11 = .ok (.iadd, 1) := by decide +kernel
theorem dL_between_12 : decode cL_between 12 = .ok (.ireturn, 1) := by decide +kernel
theorem dL_held_0 : decode cL_held 0 = .ok (.iload_n 1, 1) := by decide +kernel
theorem dL_held_1 : decode cL_held 1 = .ok (.iload_n 2, 1) := by decide +kernel
theorem dL_held_2 : decode cL_held 2 = .ok (.iload_n 0, 1) := by decide +kernel
theorem dL_held_3 : decode cL_held 3 = .ok (.invokestatic 8, 3) := by decide +kernel
theorem dL_held_6 : decode cL_held 6 = .ok (.invokestatic 14, 3) := by decide +kernel
theorem dL_held_9 : decode cL_held 9 = .ok (.ireturn, 1) := by decide +kernel
theorem dL_say_0 : decode cL_say 0 = .ok (.iconst 0, 1) := by decide +kernel
theorem dL_say_1 : decode cL_say 1 = .ok (.istore_n 2, 1) := by decide +kernel
theorem dL_say_2 : decode cL_say 2 = .ok (.iload_n 2, 1) := by decide +kernel
theorem dL_say_3 : decode cL_say 3 = .ok (.aload_n 1, 1) := by decide +kernel
theorem dL_say_4 : decode cL_say 4 = .ok (.invokevirtual 17, 3) := by decide +kernel
theorem dL_say_7 : decode cL_say 7 = .ok (.if_icmp .ge 89, 3) := by decide +kernel
theorem dL_say_10 : decode cL_say 10 = .ok (.iconst 5, 1) := by decide +kernel
theorem dL_say_11 : decode cL_say 11 = .ok (.newarray .int, 2) := by decide +kernel
theorem dL_say_13 : decode cL_say 13 = .ok (.astore_n 3, 1) := by decide +kernel
theorem dL_say_14 : decode cL_say 14 = .ok (.iconst 0, 1) := by decide +kernel
theorem dL_say_15 : decode cL_say 15 = .ok (.istore 4, 2) := by decide +kernel
theorem dL_say_17 : decode cL_say 17 = .ok (.iload 4, 2) := by decide +kernel
theorem dL_say_19 : decode cL_say 19 = .ok (.bipush 20, 2) := by decide +kernel
theorem dL_say_21 : decode cL_say 21 = .ok (.if_icmp .ge 49, 3) := by decide +kernel
theorem dL_say_24 : decode cL_say 24 = .ok (.aload_n 3, 1) := by decide +kernel
theorem dL_say_25 : decode cL_say 25 = .ok (.iload 4, 2) := by decide +kernel
theorem dL_say_27 : decode cL_say 27 = .ok (.iconst 4, 1) := by decide +kernel
theorem dL_say_28 : decode cL_say 28 = .ok (.idiv, 1) := by decide +kernel
theorem dL_say_29 : decode cL_say 29 = .ok (.aload_n 3, 1) := by decide +kernel
theorem dL_say_30 : decode cL_say 30 = .ok (.iload 4, 2) := by decide +kernel
theorem dL_say_32 : decode cL_say 32 = .ok (.iconst 4, 1) := by decide +kernel
theorem dL_say_33 : decode cL_say 33 = .ok (.idiv, 1) := by decide +kernel
theorem dL_say_34 : decode cL_say 34 = .ok (.iaload, 1) := by decide +kernel
theorem dL_say_35 : decode cL_say 35 = .ok (.bipush 8, 2) := by decide +kernel
theorem dL_say_37 : decode cL_say 37 = .ok (.ishl, 1) := by decide +kernel
theorem dL_say_38 : decode cL_say 38 = .ok (.iload_n 2, 1) := by decide +kernel
theorem dL_say_39 : decode cL_say 39 = .ok (.iload 4, 2) := by decide +kernel
theorem dL_say_41 : decode cL_say 41 = .ok (.iadd, 1) := by decide +kernel
theorem dL_say_42 : decode cL_say 42 = .ok (.aload_n 1, 1) := by decide +kernel
theorem dL_say_43 : decode cL_say 43 = .ok (.invokevirtual 17, 3) := by decide +kernel
theorem dL_say_46 : decode cL_say 46 = .ok (.if_icmp .ge 14, 3) := by decide +kernel
theorem dL_say_49 : decode cL_say 49 = .ok (.aload_n 1, 1) := by decide +kernel
theorem dL_say_50 : decode cL_say 50 = .ok (.iload_n 2, 1) := by decide +kernel
theorem dL_say_51 : decode cL_say 51 = .ok (.iload 4, 2) := by decide +kernel
theorem dL_say_53 : decode cL_say 53 = .ok (.iadd, 1) := by decide +kernel
theorem dL_say_54 : decode cL_say 54 = .ok (.invokevirtual 23, 3) := by decide +kernel
theorem dL_say_57 : decode cL_say 57 = .ok (.goto 5, 3) := by decide +kernel
theorem dL_say_60 : decode cL_say 60 = .ok (.bipush 32, 2) := by decide +kernel
theorem dL_say_62 : decode cL_say 62 = .ok (.ior, 1) := by decide +kernel
theorem dL_say_63 : decode cL_say 63 = .ok (.iastore, 1) := by decide +kernel
theorem dL_say_64 : decode cL_say 64 = .ok (.iinc 4 1, 3) := by decide +kernel
theorem dL_say_67 : decode cL_say 67 = .ok (.goto (-50), 3) := by decide +kernel
theorem dL_say_70 : decode cL_say 70 = .ok (.aload_n 0, 1) := by decide +kernel
theorem dL_say_71 : decode cL_say 71 = .ok (.aload_n 3, 1) := by decide +kernel
theorem dL_say_72 : decode cL_say 72 = .ok (.iconst 0, 1) := by decide +kernel
theorem dL_say_73 : decode cL_say 73 = .ok (.iaload, 1) := by decide +kernel
theorem dL_say_74 : decode cL_say 74 = .ok (.aload_n 3, 1) := by decide +kernel
theorem dL_say_75 : decode cL_say 75 = .ok (.iconst 1, 1) := by decide +kernel
theorem dL_say_76 : decode cL_say 76 = .ok (.iaload, 1) := by decide +kernel
theorem dL_say_77 : decode cL_say 77 = .ok (.aload_n 3, 1) := by decide +kernel
theorem dL_say_78 : decode cL_say 78 = .ok (.iconst 2, 1) := by decide +kernel
theorem dL_say_79 : decode cL_say 79 = .ok (.iaload, 1) := by decide +kernel
theorem dL_say_80 : decode cL_say 80 = .ok (.aload_n 3, 1) := by decide +kernel
theorem dL_say_81 : decode cL_say 81 = .ok (.iconst 3, 1) := by decide +kernel
theorem dL_say_82 : decode cL_say 82 = .ok (.iaload, 1) := by decide +kernel
theorem dL_say_83 : decode cL_say 83 = .ok (.aload_n 3, 1) := by decide +kernel
theorem dL_say_84 : decode cL_say 84 = .ok (.iconst 4, 1) := by decide +kernel
theorem dL_say_85 : decode cL_say 85 = .ok (.iaload, 1) := by decide +kernel
theorem dL_say_86 : decode cL_say 86 = .ok (.invokevirtual 27, 3) := by decide +kernel
theorem dL_say_89 : decode cL_say 89 = .ok (.pop, 1) := by decide +kernel
theorem dL_say_90 : decode cL_say 90 = .ok (.iinc 2 20, 3) := by decide +kernel
theorem dL_say_93 : decode cL_say 93 = .ok (.goto (-91), 3) := by decide +kernel
theorem dL_say_96 : decode cL_say 96 = .ok (.aload_n 1, 1) := by decide +kernel
theorem dL_say_97 : decode cL_say 97 = .ok (.invokevirtual 17, 3) := by decide +kernel
theorem dL_say_100 : decode cL_say 100 = .ok (.ifCond .le 12, 3) := by decide +kernel
theorem dL_say_103 : decode cL_say 103 = .ok (.aload_n 0, 1) := by decide +kernel
theorem dL_say_104 : decode cL_say 104 = .ok (.aload_n 1, 1) := by decide +kernel
theorem dL_say_105 : decode cL_say 105 = .ok (.invokevirtual 17, 3) := by decide +kernel
theorem dL_say_108 : decode cL_say 108 = .ok (.invokevirtual 33, 3) := by decide +kernel
theorem dL_say_111 : decode cL_say 111 = .ok (.pop, 1) := by decide +kernel
theorem dL_say_112 : decode cL_say 112 = .ok (.return_, 1) := by decide +kernel
theorem dL_texts_0 : decode cL_texts 0 = .ok (.aload_n 1, 1) := by decide +kernel
theorem dL_texts_1 : decode cL_texts 1 = .ok (.getfield 37, 3) := by decide +kernel
theorem dL_texts_4 : decode cL_texts 4 = .ok (.iconst 2, 1) := by decide +kernel
theorem dL_texts_5 : decode cL_texts 5 = .ok (.if_icmp .ge 7, 3) := by decide +kernel
theorem dL_texts_8 : decode cL_texts 8 = .ok (.iconst 0, 1) := by decide +kernel
theorem dL_texts_9 : decode cL_texts 9 = .ok (.goto 12, 3) := by decide +kernel
theorem dL_texts_12 : decode cL_texts 12 = .ok (.iload_n 2, 1) := by decide +kernel
theorem dL_texts_13 : decode cL_texts 13 = .ok (.iconst 3, 1) := by decide +kernel
theorem dL_texts_14 : decode cL_texts 14 = .ok (.ishr, 1) := by decide +kernel
theorem dL_texts_15 : decode cL_texts 15 = .ok (.iconst 0, 1) := by decide +kernel
theorem dL_texts_16 : decode cL_texts 16 = .ok (.bipush 12, 2) := by decide +kernel
theorem dL_texts_18 : decode cL_texts 18 = .ok (.invokestatic 43, 3) := by decide +kernel
theorem dL_texts_21 : decode cL_texts 21 = .ok (.istore_n 3, 1) := by decide +kernel
theorem dL_texts_22 : decode cL_texts 22 = .ok (.new 49, 3) := by decide +kernel
theorem dL_texts_25 : decode cL_texts 25 = .ok (.dup, 1) := by decide +kernel
theorem dL_texts_26 : decode cL_texts 26 = .ok (.invokespecial 51, 3) := by decide +kernel
theorem dL_texts_29 : decode cL_texts 29 = .ok (.astore 4, 2) := by decide +kernel
theorem dL_texts_31 : decode cL_texts 31 = .ok (.iconst 0, 1) := by decide +kernel
theorem dL_texts_32 : decode cL_texts 32 = .ok (.istore 5, 2) := by decide +kernel
theorem dL_texts_34 : decode cL_texts 34 = .ok (.iload 5, 2) := by decide +kernel
theorem dL_texts_36 : decode cL_texts 36 = .ok (.aload_n 1, 1) := by decide +kernel
theorem dL_texts_37 : decode cL_texts 37 = .ok (.getfield 37, 3) := by decide +kernel
theorem dL_texts_40 : decode cL_texts 40 = .ok (.if_icmp .ge 19, 3) := by decide +kernel
theorem dL_texts_43 : decode cL_texts 43 = .ok (.aload_n 1, 1) := by decide +kernel
theorem dL_texts_44 : decode cL_texts 44 = .ok (.getfield 52, 3) := by decide +kernel
theorem dL_texts_47 : decode cL_texts 47 = .ok (.iload 5, 2) := by decide +kernel
theorem dL_texts_49 : decode cL_texts 49 = .ok (.aaload, 1) := by decide +kernel
theorem dL_texts_50 : decode cL_texts 50 = .ok (.iconst 4, 1) := by decide +kernel
theorem dL_texts_51 : decode cL_texts 51 = .ok (.iconst 0, 1) := by decide +kernel
theorem dL_texts_52 : decode cL_texts 52 = .ok (.iastore, 1) := by decide +kernel
theorem dL_texts_53 : decode cL_texts 53 = .ok (.iinc 5 1, 3) := by decide +kernel
theorem dL_texts_56 : decode cL_texts 56 = .ok (.goto (-22), 3) := by decide +kernel
theorem dL_texts_59 : decode cL_texts 59 = .ok (.aload_n 1, 1) := by decide +kernel
theorem dL_texts_60 : decode cL_texts 60 = .ok (.iload_n 3, 1) := by decide +kernel
theorem dL_texts_61 : decode cL_texts 61 = .ok (.putfield 56, 3) := by decide +kernel
theorem dL_texts_64 : decode cL_texts 64 = .ok (.iconst 0, 1) := by decide +kernel
theorem dL_texts_65 : decode cL_texts 65 = .ok (.istore 5, 2) := by decide +kernel
theorem dL_texts_67 : decode cL_texts 67 = .ok (.iload 5, 2) := by decide +kernel
theorem dL_texts_69 : decode cL_texts 69 = .ok (.iload_n 3, 1) := by decide +kernel
theorem dL_texts_70 : decode cL_texts 70 = .ok (.if_icmp .ge 209, 3) := by decide +kernel
theorem dL_texts_73 : decode cL_texts 73 = .ok (.iload_n 2, 1) := by decide +kernel
theorem dL_texts_74 : decode cL_texts 74 = .ok (.iload 5, 2) := by decide +kernel
theorem dL_texts_76 : decode cL_texts 76 = .ok (.iconst 3, 1) := by decide +kernel
theorem dL_texts_77 : decode cL_texts 77 = .ok (.iadd, 1) := by decide +kernel
theorem dL_texts_78 : decode cL_texts 78 = .ok (.imul, 1) := by decide +kernel
theorem dL_texts_79 : decode cL_texts 79 = .ok (.sipush 281, 3) := by decide +kernel
theorem dL_texts_82 : decode cL_texts 82 = .ok (.iload 5, 2) := by decide +kernel
theorem dL_texts_84 : decode cL_texts 84 = .ok (.imul, 1) := by decide +kernel
theorem dL_texts_85 : decode cL_texts 85 = .ok (.iadd, 1) := by decide +kernel
theorem dL_texts_86 : decode cL_texts 86 = .ok (.istore 6, 2) := by decide +kernel
theorem dL_texts_88 : decode cL_texts 88 = .ok (.iload 6, 2) := by decide +kernel
theorem dL_texts_90 : decode cL_texts 90 = .ok (.iconst 0, 1) := by decide +kernel
theorem dL_texts_91 : decode cL_texts 91 = .ok (.aload_n 1, 1) := by decide +kernel
theorem dL_texts_92 : decode cL_texts 92 = .ok (.getfield 37, 3) := by decide +kernel
theorem dL_texts_95 : decode cL_texts 95 = .ok (.iconst 1, 1) := by decide +kernel
theorem dL_texts_96 : decode cL_texts 96 = .ok (.isub, 1) := by decide +kernel
theorem dL_texts_97 : decode cL_texts 97 = .ok (.invokestatic 43, 3) := by decide +kernel
theorem dL_texts_100 : decode cL_texts 100 = .ok (.istore 7, 2) := by decide +kernel
theorem dL_texts_102 : decode cL_texts 102 = .ok (.iload 7, 2) := by decide +kernel
theorem dL_texts_104 : decode cL_texts 104 = .ok (.iload 6, 2) := by decide +kernel
theorem dL_texts_106 : decode cL_texts 106 = .ok (.iconst 4, 1) := by decide +kernel
theorem dL_texts_107 : decode cL_texts 107 = .ok (.ishr, 1) := by decide +kernel
theorem dL_texts_108 : decode cL_texts 108 = .ok (.iconst 1, 1) := by decide +kernel
theorem dL_texts_109 : decode cL_texts 109 = .ok (.aload_n 1, 1) := by decide +kernel
theorem dL_texts_110 : decode cL_texts 110 = .ok (.getfield 37, 3) := by decide +kernel
theorem dL_texts_113 : decode cL_texts 113 = .ok (.iconst 1, 1) := by decide +kernel
theorem dL_texts_114 : decode cL_texts 114 = .ok (.isub, 1) := by decide +kernel
theorem dL_texts_115 : decode cL_texts 115 = .ok (.invokestatic 43, 3) := by decide +kernel
theorem dL_texts_118 : decode cL_texts 118 = .ok (.iadd, 1) := by decide +kernel
theorem dL_texts_119 : decode cL_texts 119 = .ok (.aload_n 1, 1) := by decide +kernel
theorem dL_texts_120 : decode cL_texts 120 = .ok (.getfield 37, 3) := by decide +kernel
theorem dL_texts_123 : decode cL_texts 123 = .ok (.irem, 1) := by decide +kernel
theorem dL_texts_124 : decode cL_texts 124 = .ok (.istore 8, 2) := by decide +kernel
theorem dL_texts_126 : decode cL_texts 126 = .ok (.iload 7, 2) := by decide +kernel
theorem dL_texts_128 : decode cL_texts 128 = .ok (.iload 6, 2) := by decide +kernel
theorem dL_texts_130 : decode cL_texts 130 = .ok (.bipush 6, 2) := by decide +kernel
theorem dL_texts_132 : decode cL_texts 132 = .ok (.ishr, 1) := by decide +kernel
theorem dL_texts_133 : decode cL_texts 133 = .ok (.iconst 1, 1) := by decide +kernel
theorem dL_texts_134 : decode cL_texts 134 = .ok (.aload_n 1, 1) := by decide +kernel
theorem dL_texts_135 : decode cL_texts 135 = .ok (.getfield 37, 3) := by decide +kernel
theorem dL_texts_138 : decode cL_texts 138 = .ok (.iconst 1, 1) := by decide +kernel
theorem dL_texts_139 : decode cL_texts 139 = .ok (.isub, 1) := by decide +kernel
theorem dL_texts_140 : decode cL_texts 140 = .ok (.invokestatic 43, 3) := by decide +kernel
theorem dL_texts_143 : decode cL_texts 143 = .ok (.iadd, 1) := by decide +kernel
theorem dL_texts_144 : decode cL_texts 144 = .ok (.aload_n 1, 1) := by decide +kernel
theorem dL_texts_145 : decode cL_texts 145 = .ok (.getfield 37, 3) := by decide +kernel
theorem dL_texts_148 : decode cL_texts 148 = .ok (.irem, 1) := by decide +kernel
theorem dL_texts_149 : decode cL_texts 149 = .ok (.istore 9, 2) := by decide +kernel
theorem dL_texts_151 : decode cL_texts 151 = .ok (.iload 6, 2) := by decide +kernel
theorem dL_texts_153 : decode cL_texts 153 = .ok (.bipush 8, 2) := by decide +kernel
theorem dL_texts_155 : decode cL_texts 155 = .ok (.ishr, 1) := by decide +kernel
theorem dL_texts_156 : decode cL_texts 156 = .ok (.iconst 1, 1) := by decide +kernel
theorem dL_texts_157 : decode cL_texts 157 = .ok (.iand, 1) := by decide +kernel
theorem dL_texts_158 : decode cL_texts 158 = .ok (.iconst 1, 1) := by decide +kernel
theorem dL_texts_159 : decode cL_texts 159 = .ok (.if_icmp .ne 7, 3) := by decide +kernel
theorem dL_texts_162 : decode cL_texts 162 = .ok (.iconst 1, 1) := by decide +kernel
theorem dL_texts_163 : decode cL_texts 163 = .ok (.goto 4, 3) := by decide +kernel
theorem dL_texts_166 : decode cL_texts 166 = .ok (.iconst 0, 1) := by decide +kernel
theorem dL_texts_167 : decode cL_texts 167 = .ok (.istore 10, 2) := by decide +kernel
theorem dL_texts_169 : decode cL_texts 169 = .ok (.aload 4, 2) := by decide +kernel
theorem dL_texts_171 : decode cL_texts 171 = .ok (.new 49, 3) := by decide +kernel
theorem dL_texts_174 : decode cL_texts 174 = .ok (.dup, 1) := by decide +kernel
theorem dL_texts_175 : decode cL_texts 175 = .ok (.invokespecial 51, 3) := by decide +kernel
theorem dL_texts_178 : decode cL_texts 178 = .ok (.ldc 59, 2) := by decide +kernel
theorem dL_texts_180 : decode cL_texts 180 = .ok (.invokevirtual 61, 3) := by decide +kernel
theorem dL_texts_183 : decode cL_texts 183 = .ok (.iload 7, 2) := by decide +kernel
theorem dL_texts_185 : decode cL_texts 185 = .ok (.invokevirtual 65, 3) := by decide +kernel
theorem dL_texts_188 : decode cL_texts 188 = .ok (.ldc 68, 2) := by decide +kernel
theorem dL_texts_190 : decode cL_texts 190 = .ok (.invokevirtual 61, 3) := by decide +kernel
theorem dL_texts_193 : decode cL_texts 193 = .ok (.iload 8, 2) := by decide +kernel
theorem dL_texts_195 : decode cL_texts 195 = .ok (.invokevirtual 65, 3) := by decide +kernel
theorem dL_texts_198 : decode cL_texts 198 = .ok (.iload 10, 2) := by decide +kernel
theorem dL_texts_200 : decode cL_texts 200 = .ok (.ifCond .eq 26, 3) := by decide +kernel
theorem dL_texts_203 : decode cL_texts 203 = .ok (.new 49, 3) := by decide +kernel
theorem dL_texts_206 : decode cL_texts 206 = .ok (.dup, 1) := by decide +kernel
theorem dL_texts_207 : decode cL_texts 207 = .ok (.invokespecial 51, 3) := by decide +kernel
theorem dL_texts_210 : decode cL_texts 210 = .ok (.ldc 70, 2) := by decide +kernel
theorem dL_texts_212 : decode cL_texts 212 = .ok (.invokevirtual 61, 3) := by decide +kernel
theorem dL_texts_215 : decode cL_texts 215 = .ok (.iload 9, 2) := by decide +kernel
theorem dL_texts_217 : decode cL_texts 217 = .ok (.invokevirtual 65, 3) := by decide +kernel
theorem dL_texts_220 : decode cL_texts 220 = .ok (.invokevirtual 72, 3) := by decide +kernel
theorem dL_texts_223 : decode cL_texts 223 = .ok (.goto 5, 3) := by decide +kernel
theorem dL_texts_226 : decode cL_texts 226 = .ok (.ldc 76, 2) := by decide +kernel
theorem dL_texts_228 : decode cL_texts 228 = .ok (.invokevirtual 61, 3) := by decide +kernel
theorem dL_texts_231 : decode cL_texts 231 = .ok (.ldc 78, 2) := by decide +kernel
theorem dL_texts_233 : decode cL_texts 233 = .ok (.invokevirtual 61, 3) := by decide +kernel
theorem dL_texts_236 : decode cL_texts 236 = .ok (.invokevirtual 72, 3) := by decide +kernel
theorem dL_texts_239 : decode cL_texts 239 = .ok (.invokevirtual 61, 3) := by decide +kernel
theorem dL_texts_242 : decode cL_texts 242 = .ok (.pop, 1) := by decide +kernel
theorem dL_texts_243 : decode cL_texts 243 = .ok (.aload_n 1, 1) := by decide +kernel
theorem dL_texts_244 : decode cL_texts 244 = .ok (.getfield 52, 3) := by decide +kernel
theorem dL_texts_247 : decode cL_texts 247 = .ok (.iload 7, 2) := by decide +kernel
theorem dL_texts_249 : decode cL_texts 249 = .ok (.aaload, 1) := by decide +kernel
theorem dL_texts_250 : decode cL_texts 250 = .ok (.iconst 4, 1) := by decide +kernel
theorem dL_texts_251 : decode cL_texts 251 = .ok (.dup2, 1) := by decide +kernel
theorem dL_texts_252 : decode cL_texts 252 = .ok (.iaload, 1) := by decide +kernel
theorem dL_texts_253 : decode cL_texts 253 = .ok (.iconst 1, 1) := by decide +kernel
theorem dL_texts_254 : decode cL_texts 254 = .ok (.iload 8, 2) := by decide +kernel
theorem dL_texts_256 : decode cL_texts 256 = .ok (.ishl, 1) := by decide +kernel
theorem dL_texts_257 : decode cL_texts 257 = .ok (.iload 10, 2) := by decide +kernel
theorem dL_texts_259 : decode cL_texts 259 = .ok (.ifCond .eq 10, 3) := by decide +kernel
theorem dL_texts_262 : decode cL_texts 262 = .ok (.iconst 1, 1) := by decide +kernel
theorem dL_texts_263 : decode cL_texts 263 = .ok (.iload 9, 2) := by decide +kernel
theorem dL_texts_265 : decode cL_texts 265 = .ok (.ishl, 1) := by decide +kernel
theorem dL_texts_266 : decode cL_texts 266 = .ok (.goto 4, 3) := by decide +kernel
theorem dL_texts_269 : decode cL_texts 269 = .ok (.iconst 0, 1) := by decide +kernel
theorem dL_texts_270 : decode cL_texts 270 = .ok (.ior, 1) := by decide +kernel
theorem dL_texts_271 : decode cL_texts 271 = .ok (.ior, 1) := by decide +kernel
theorem dL_texts_272 : decode cL_texts 272 = .ok (.iastore, 1) := by decide +kernel
theorem dL_texts_273 : decode cL_texts 273 = .ok (.iinc 5 1, 3) := by decide +kernel
theorem dL_texts_276 : decode cL_texts 276 = .ok (.goto (-209), 3) := by decide +kernel
theorem dL_texts_279 : decode cL_texts 279 = .ok (.aload_n 0, 1) := by decide +kernel
theorem dL_texts_280 : decode cL_texts 280 = .ok (.aload 4, 2) := by decide +kernel
theorem dL_texts_282 : decode cL_texts 282 = .ok (.invokevirtual 72, 3) := by decide +kernel
theorem dL_texts_285 : decode cL_texts 285 = .ok (.invokestatic 80, 3) := by decide +kernel
theorem dL_texts_288 : decode cL_texts 288 = .ok (.aload_n 0, 1) := by decide +kernel
theorem dL_texts_289 : decode cL_texts 289 = .ok (.iconst 1, 1) := by decide +kernel
theorem dL_texts_290 : decode cL_texts 290 = .ok (.invokevirtual 84, 3) := by decide +kernel
theorem dL_texts_293 : decode cL_texts 293 = .ok (.iload_n 3, 1) := by decide +kernel
theorem dL_texts_294 : decode cL_texts 294 = .ok (.if_icmp .eq 5, 3) := by decide +kernel
theorem dL_texts_297 : decode cL_texts 297 = .ok (.iconst 0, 1) := by decide +kernel
theorem dL_texts_298 : decode cL_texts 298 = .ok (.ireturn, 1) := by decide +kernel
theorem dL_texts_299 : decode cL_texts 299 = .ok (.iload_n 2, 1) := by decide +kernel
theorem dL_texts_300 : decode cL_texts 300 = .ok (.iconst 5, 1) := by decide +kernel
theorem dL_texts_301 : decode cL_texts 301 = .ok (.ishr, 1) := by decide +kernel
theorem dL_texts_302 : decode cL_texts 302 = .ok (.iconst 0, 1) := by decide +kernel
theorem dL_texts_303 : decode cL_texts 303 = .ok (.bipush 10, 2) := by decide +kernel
theorem dL_texts_305 : decode cL_texts 305 = .ok (.invokestatic 43, 3) := by decide +kernel
theorem dL_texts_308 : decode cL_texts 308 = .ok (.istore_n 3, 1) := by decide +kernel
theorem dL_texts_309 : decode cL_texts 309 = .ok (.new 49, 3) := by decide +kernel
theorem dL_texts_312 : decode cL_texts 312 = .ok (.dup, 1) := by decide +kernel
theorem dL_texts_313 : decode cL_texts 313 = .ok (.invokespecial 51, 3) := by decide +kernel
theorem dL_texts_316 : decode cL_texts 316 = .ok (.astore 4, 2) := by decide +kernel
theorem dL_texts_318 : decode cL_texts 318 = .ok (.iconst 5, 1) := by decide +kernel
theorem dL_texts_319 : decode cL_texts 319 = .ok (.anewarray 18, 3) := by decide +kernel
theorem dL_texts_322 : decode cL_texts 322 = .ok (.dup, 1) := by decide +kernel
theorem dL_texts_323 : decode cL_texts 323 = .ok (.iconst 0, 1) := by decide +kernel
theorem dL_texts_324 : decode cL_texts 324 = .ok (.ldc 88, 2) := by decide +kernel
theorem dL_texts_326 : decode cL_texts 326 = .ok (.aastore, 1) := by decide +kernel
theorem dL_texts_327 : decode cL_texts 327 = .ok (.dup, 1) := by decide +kernel
theorem dL_texts_328 : decode cL_texts 328 = .ok (.iconst 1, 1) := by decide +kernel
theorem dL_texts_329 : decode cL_texts 329 = .ok (.ldc 90, 2) := by decide +kernel
theorem dL_texts_331 : decode cL_texts 331 = .ok (.aastore, 1) := by decide +kernel
theorem dL_texts_332 : decode cL_texts 332 = .ok (.dup, 1) := by decide +kernel
theorem dL_texts_333 : decode cL_texts 333 = .ok (.iconst 2, 1) := by decide +kernel
theorem dL_texts_334 : decode cL_texts 334 = .ok (.ldc 92, 2) := by decide +kernel
theorem dL_texts_336 : decode cL_texts 336 = .ok (.aastore, 1) := by decide +kernel
theorem dL_texts_337 : decode cL_texts 337 = .ok (.dup, 1) := by decide +kernel
theorem dL_texts_338 : decode cL_texts 338 = .ok (.iconst 3, 1) := by decide +kernel
theorem dL_texts_339 : decode cL_texts 339 = .ok (.ldc 94, 2) := by decide +kernel
theorem dL_texts_341 : decode cL_texts 341 = .ok (.aastore, 1) := by decide +kernel
theorem dL_texts_342 : decode cL_texts 342 = .ok (.dup, 1) := by decide +kernel
theorem dL_texts_343 : decode cL_texts 343 = .ok (.iconst 4, 1) := by decide +kernel
theorem dL_texts_344 : decode cL_texts 344 = .ok (.ldc 96, 2) := by decide +kernel
theorem dL_texts_346 : decode cL_texts 346 = .ok (.aastore, 1) := by decide +kernel
theorem dL_texts_347 : decode cL_texts 347 = .ok (.astore 5, 2) := by decide +kernel
theorem dL_texts_349 : decode cL_texts 349 = .ok (.aload_n 1, 1) := by decide +kernel
theorem dL_texts_350 : decode cL_texts 350 = .ok (.iload_n 3, 1) := by decide +kernel
theorem dL_texts_351 : decode cL_texts 351 = .ok (.anewarray 98, 3) := by decide +kernel
theorem dL_texts_354 : decode cL_texts 354 = .ok (.putfield 100, 3) := by decide +kernel
theorem dL_texts_357 : decode cL_texts 357 = .ok (.iconst 0, 1) := by decide +kernel
theorem dL_texts_358 : decode cL_texts 358 = .ok (.istore 6, 2) := by decide +kernel
theorem dL_texts_360 : decode cL_texts 360 = .ok (.iload 6, 2) := by decide +kernel
theorem dL_texts_362 : decode cL_texts 362 = .ok (.iload_n 3, 1) := by decide +kernel
theorem dL_texts_363 : decode cL_texts 363 = .ok (.if_icmp .ge 308, 3) := by decide +kernel
theorem dL_texts_366 : decode cL_texts 366 = .ok (.iload_n 2, 1) := by decide +kernel
theorem dL_texts_367 : decode cL_texts 367 = .ok (.iload 6, 2) := by decide +kernel
theorem dL_texts_369 : decode cL_texts 369 = .ok (.iconst 5, 1) := by decide +kernel
theorem dL_texts_370 : decode cL_texts 370 = .ok (.iadd, 1) := by decide +kernel
theorem dL_texts_371 : decode cL_texts 371 = .ok (.imul, 1) := by decide +kernel
theorem dL_texts_372 : decode cL_texts 372 = .ok (.sipush 283, 3) := by decide +kernel
theorem dL_texts_375 : decode cL_texts 375 = .ok (.iload 6, 2) := by decide +kernel
theorem dL_texts_377 : decode cL_texts 377 = .ok (.imul, 1) := by decide +kernel
theorem dL_texts_378 : decode cL_texts 378 = .ok (.iadd, 1) := by decide +kernel
theorem dL_texts_379 : decode cL_texts 379 = .ok (.istore 7, 2) := by decide +kernel
theorem dL_texts_381 : decode cL_texts 381 = .ok (.iload 7, 2) := by decide +kernel
theorem dL_texts_383 : decode cL_texts 383 = .ok (.iconst 3, 1) := by decide +kernel
theorem dL_texts_384 : decode cL_texts 384 = .ok (.ishr, 1) := by decide +kernel
theorem dL_texts_385 : decode cL_texts 385 = .ok (.iconst 0, 1) := by decide +kernel
theorem dL_texts_386 : decode cL_texts 386 = .ok (.iconst 4, 1) := by decide +kernel
theorem dL_texts_387 : decode cL_texts 387 = .ok (.invokestatic 43, 3) := by decide +kernel
theorem dL_texts_390 : decode cL_texts 390 = .ok (.istore 8, 2) := by decide +kernel
theorem dL_texts_392 : decode cL_texts 392 = .ok (.aload_n 1, 1) := by decide +kernel
theorem dL_texts_393 : decode cL_texts 393 = .ok (.getfield 103, 3) := by decide +kernel
theorem dL_texts_396 : decode cL_texts 396 = .ok (.ifCond .ne 9, 3) := by decide +kernel
theorem dL_texts_399 : decode cL_texts 399 = .ok (.iload 8, 2) := by decide +kernel
theorem dL_texts_401 : decode cL_texts 401 = .ok (.iconst 3, 1) := by decide +kernel
theorem dL_texts_402 : decode cL_texts 402 = .ok (.if_icmp .lt 23, 3) := by decide +kernel
theorem dL_texts_405 : decode cL_texts 405 = .ok (.aload_n 1, 1) := by decide +kernel
theorem dL_texts_406 : decode cL_texts 406 = .ok (.getfield 37, 3) := by decide +kernel
theorem dL_texts_409 : decode cL_texts 409 = .ok (.ifCond .ne 19, 3) := by decide +kernel
theorem dL_texts_412 : decode cL_texts 412 = .ok (.iload 8, 2) := by decide +kernel
theorem dL_texts_414 : decode cL_texts 414 = .ok (.iconst 2, 1) := by decide +kernel
theorem dL_texts_415 : decode cL_texts 415 = .ok (.irem, 1) := by decide +kernel
theorem dL_texts_416 : decode cL_texts 416 = .ok (.ifCond .ne 12, 3) := by decide +kernel
theorem dL_texts_419 : decode cL_texts 419 = .ok (.iload 8, 2) := by decide +kernel
theorem dL_texts_421 : decode cL_texts 421 = .ok (.iconst 3, 1) := by decide +kernel
theorem dL_texts_422 : decode cL_texts 422 = .ok (.if_icmp .ge 6, 3) := by decide +kernel
theorem dL_texts_425 : decode cL_texts 425 = .ok (.iconst 3, 1) := by decide +kernel
theorem dL_texts_426 : decode cL_texts 426 = .ok (.istore 8, 2) := by decide +kernel
theorem dL_texts_428 : decode cL_texts 428 = .ok (.iload 8, 2) := by decide +kernel
theorem dL_texts_430 : decode cL_texts 430 = .ok (.iconst 3, 1) := by decide +kernel
theorem dL_texts_431 : decode cL_texts 431 = .ok (.if_icmp .ne 7, 3) := by decide +kernel
theorem dL_texts_434 : decode cL_texts 434 = .ok (.iconst 0, 1) := by decide +kernel
theorem dL_texts_435 : decode cL_texts 435 = .ok (.goto 37, 3) := by decide +kernel
theorem dL_texts_438 : decode cL_texts 438 = .ok (.iload 8, 2) := by decide +kernel
theorem dL_texts_440 : decode cL_texts 440 = .ok (.iconst 4, 1) := by decide +kernel
theorem dL_texts_441 : decode cL_texts 441 = .ok (.if_icmp .ne 16, 3) := by decide +kernel
theorem dL_texts_444 : decode cL_texts 444 = .ok (.iload 7, 2) := by decide +kernel
theorem dL_texts_446 : decode cL_texts 446 = .ok (.bipush 6, 2) := by decide +kernel
theorem dL_texts_448 : decode cL_texts 448 = .ok (.ishr, 1) := by decide +kernel
theorem dL_texts_449 : decode cL_texts 449 = .ok (.iconst 0, 1) := by decide +kernel
theorem dL_texts_450 : decode cL_texts 450 = .ok (.iconst 5, 1) := by decide +kernel
theorem dL_texts_451 : decode cL_texts 451 = .ok (.invokestatic 43, 3) := by decide +kernel
theorem dL_texts_454 : decode cL_texts 454 = .ok (.goto 18, 3) := by decide +kernel
theorem dL_texts_457 : decode cL_texts 457 = .ok (.iload 7, 2) := by decide +kernel
theorem dL_texts_459 : decode cL_texts 459 = .ok (.bipush 6, 2) := by decide +kernel
theorem dL_texts_461 : decode cL_texts 461 = .ok (.ishr, 1) := by decide +kernel
theorem dL_texts_462 : decode cL_texts 462 = .ok (.iconst 0, 1) := by decide +kernel
theorem dL_texts_463 : decode cL_texts 463 = .ok (.aload_n 1, 1) := by decide +kernel
theorem dL_texts_464 : decode cL_texts 464 = .ok (.getfield 103, 3) := by decide +kernel
theorem dL_texts_467 : decode cL_texts 467 = .ok (.iconst 1, 1) := by decide +kernel
theorem dL_texts_468 : decode cL_texts 468 = .ok (.isub, 1) := by decide +kernel
theorem dL_texts_469 : decode cL_texts 469 = .ok (.invokestatic 43, 3) := by decide +kernel
theorem dL_texts_472 : decode cL_texts 472 = .ok (.istore 9, 2) := by decide +kernel
theorem dL_texts_474 : decode cL_texts 474 = .ok (.iload 8, 2) := by decide +kernel
theorem dL_texts_476 : decode cL_texts 476 = .ok (.ifCond .eq 9, 3) := by decide +kernel
theorem dL_texts_479 : decode cL_texts 479 = .ok (.iload 8, 2) := by decide +kernel
theorem dL_texts_481 : decode cL_texts 481 = .ok (.iconst 2, 1) := by decide +kernel
theorem dL_texts_482 : decode cL_texts 482 = .ok (.if_icmp .ne 20, 3) := by decide +kernel
theorem dL_texts_485 : decode cL_texts 485 = .ok (.iload 7, 2) := by decide +kernel
theorem dL_texts_487 : decode cL_texts 487 = .ok (.iconst 5, 1) := by decide +kernel
theorem dL_texts_488 : decode cL_texts 488 = .ok (.ishr, 1) := by decide +kernel
theorem dL_texts_489 : decode cL_texts 489 = .ok (.iconst 0, 1) := by decide +kernel
theorem dL_texts_490 : decode cL_texts 490 = .ok (.aload_n 1, 1) := by decide +kernel
theorem dL_texts_491 : decode cL_texts 491 = .ok (.getfield 37, 3) := by decide +kernel
theorem dL_texts_494 : decode cL_texts 494 = .ok (.iconst 1, 1) := by decide +kernel
theorem dL_texts_495 : decode cL_texts 495 = .ok (.isub, 1) := by decide +kernel
theorem dL_texts_496 : decode cL_texts 496 = .ok (.invokestatic 43, 3) := by decide +kernel
theorem dL_texts_499 : decode cL_texts 499 = .ok (.goto 4, 3) := by decide +kernel
theorem dL_texts_502 : decode cL_texts 502 = .ok (.iconst 0, 1) := by decide +kernel
theorem dL_texts_503 : decode cL_texts 503 = .ok (.istore 10, 2) := by decide +kernel
theorem dL_texts_505 : decode cL_texts 505 = .ok (.aload_n 1, 1) := by decide +kernel
theorem dL_texts_506 : decode cL_texts 506 = .ok (.getfield 100, 3) := by decide +kernel
theorem dL_texts_509 : decode cL_texts 509 = .ok (.iload 6, 2) := by decide +kernel
theorem dL_texts_511 : decode cL_texts 511 = .ok (.iconst 4, 1) := by decide +kernel
theorem dL_texts_512 : decode cL_texts 512 = .ok (.newarray .int, 2) := by decide +kernel
theorem dL_texts_514 : decode cL_texts 514 = .ok (.dup, 1) := by decide +kernel
theorem dL_texts_515 : decode cL_texts 515 = .ok (.iconst 0, 1) := by decide +kernel
theorem dL_texts_516 : decode cL_texts 516 = .ok (.aload_n 1, 1) := by decide +kernel
theorem dL_texts_517 : decode cL_texts 517 = .ok (.getfield 106, 3) := by decide +kernel
theorem dL_texts_520 : decode cL_texts 520 = .ok (.iload 7, 2) := by decide +kernel
theorem dL_texts_522 : decode cL_texts 522 = .ok (.iconst 0, 1) := by decide +kernel
theorem dL_texts_523 : decode cL_texts 523 = .ok (.bipush 6, 2) := by decide +kernel
theorem dL_texts_525 : decode cL_texts 525 = .ok (.invokestatic 43, 3) := by decide +kernel
theorem dL_texts_528 : decode cL_texts 528 = .ok (.iadd, 1) := by decide +kernel
theorem dL_texts_529 : decode cL_texts 529 = .ok (.iastore, 1) := by decide +kernel
theorem dL_texts_530 : decode cL_texts 530 = .ok (.dup, 1) := by decide +kernel
theorem dL_texts_531 : decode cL_texts 531 = .ok (.iconst 1, 1) := by decide +kernel
theorem dL_texts_532 : decode cL_texts 532 = .ok (.iload 8, 2) := by decide +kernel
theorem dL_texts_534 : decode cL_texts 534 = .ok (.iastore, 1) := by decide +kernel
theorem dL_texts_535 : decode cL_texts 535 = .ok (.dup, 1) := by decide +kernel
theorem dL_texts_536 : decode cL_texts 536 = .ok (.iconst 2, 1) := by decide +kernel
theorem dL_texts_537 : decode cL_texts 537 = .ok (.iload 9, 2) := by decide +kernel
theorem dL_texts_539 : decode cL_texts 539 = .ok (.iastore, 1) := by decide +kernel
theorem dL_texts_540 : decode cL_texts 540 = .ok (.dup, 1) := by decide +kernel
theorem dL_texts_541 : decode cL_texts 541 = .ok (.iconst 3, 1) := by decide +kernel
theorem dL_texts_542 : decode cL_texts 542 = .ok (.iload 10, 2) := by decide +kernel
theorem dL_texts_544 : decode cL_texts 544 = .ok (.iastore, 1) := by decide +kernel
theorem dL_texts_545 : decode cL_texts 545 = .ok (.aastore, 1) := by decide +kernel
theorem dL_texts_546 : decode cL_texts 546 = .ok (.aload 4, 2) := by decide +kernel
theorem dL_texts_548 : decode cL_texts 548 = .ok (.new 49, 3) := by decide +kernel
theorem dL_texts_551 : decode cL_texts 551 = .ok (.dup, 1) := by decide +kernel
theorem dL_texts_552 : decode cL_texts 552 = .ok (.invokespecial 51, 3) := by decide +kernel
theorem dL_texts_555 : decode cL_texts 555 = .ok (.ldc 109, 2) := by decide +kernel
theorem dL_texts_557 : decode cL_texts 557 = .ok (.invokevirtual 61, 3) := by decide +kernel
theorem dL_texts_560 : decode cL_texts 560 = .ok (.aload_n 1, 1) := by decide +kernel
theorem dL_texts_561 : decode cL_texts 561 = .ok (.getfield 100, 3) := by decide +kernel
theorem dL_texts_564 : decode cL_texts 564 = .ok (.iload 6, 2) := by decide +kernel
theorem dL_texts_566 : decode cL_texts 566 = .ok (.aaload, 1) := by decide +kernel
theorem dL_texts_567 : decode cL_texts 567 = .ok (.iconst 0, 1) := by decide +kernel
theorem dL_texts_568 : decode cL_texts 568 = .ok (.iaload, 1) := by decide +kernel
theorem dL_texts_569 : decode cL_texts 569 = .ok (.invokevirtual 65, 3) := by decide +kernel
theorem dL_texts_572 : decode cL_texts 572 = .ok (.aload 5, 2) := by decide +kernel
theorem dL_texts_574 : decode cL_texts 574 = .ok (.iload 8, 2) := by decide +kernel
theorem dL_texts_576 : decode cL_texts 576 = .ok (.aaload, 1) := by decide +kernel
theorem dL_texts_577 : decode cL_texts 577 = .ok (.invokevirtual 61, 3) := by decide +kernel
theorem dL_texts_580 : decode cL_texts 580 = .ok (.iload 8, 2) := by decide +kernel
theorem dL_texts_582 : decode cL_texts 582 = .ok (.iconst 3, 1) := by decide +kernel
theorem dL_texts_583 : decode cL_texts 583 = .ok (.if_icmp .ne 8, 3) := by decide +kernel
theorem dL_texts_586 : decode cL_texts 586 = .ok (.ldc 76, 2) := by decide +kernel
theorem dL_texts_588 : decode cL_texts 588 = .ok (.goto 23, 3) := by decide +kernel
theorem dL_texts_591 : decode cL_texts 591 = .ok (.new 49, 3) := by decide +kernel
theorem dL_texts_594 : decode cL_texts 594 = .ok (.dup, 1) := by decide +kernel
theorem dL_texts_595 : decode cL_texts 595 = .ok (.invokespecial 51, 3) := by decide +kernel
theorem dL_texts_598 : decode cL_texts 598 = .ok (.ldc 76, 2) := by decide +kernel
theorem dL_texts_600 : decode cL_texts 600 = .ok (.invokevirtual 61, 3) := by decide +kernel
theorem dL_texts_603 : decode cL_texts 603 = .ok (.iload 9, 2) := by decide +kernel
theorem dL_texts_605 : decode cL_texts 605 = .ok (.invokevirtual 65, 3) := by decide +kernel
theorem dL_texts_608 : decode cL_texts 608 = .ok (.invokevirtual 72, 3) := by decide +kernel
theorem dL_texts_611 : decode cL_texts 611 = .ok (.invokevirtual 61, 3) := by decide +kernel
theorem dL_texts_614 : decode cL_texts 614 = .ok (.iload 8, 2) := by decide +kernel
theorem dL_texts_616 : decode cL_texts 616 = .ok (.ifCond .eq 9, 3) := by decide +kernel
theorem dL_texts_619 : decode cL_texts 619 = .ok (.iload 8, 2) := by decide +kernel
theorem dL_texts_621 : decode cL_texts 621 = .ok (.iconst 2, 1) := by decide +kernel
theorem dL_texts_622 : decode cL_texts 622 = .ok (.if_icmp .ne 26, 3) := by decide +kernel
theorem dL_texts_625 : decode cL_texts 625 = .ok (.new 49, 3) := by decide +kernel
theorem dL_texts_628 : decode cL_texts 628 = .ok (.dup, 1) := by decide +kernel
theorem dL_texts_629 : decode cL_texts 629 = .ok (.invokespecial 51, 3) := by decide +kernel
theorem dL_texts_632 : decode cL_texts 632 = .ok (.ldc 111, 2) := by decide +kernel
theorem dL_texts_634 : decode cL_texts 634 = .ok (.invokevirtual 61, 3) := by decide +kernel
theorem dL_texts_637 : decode cL_texts 637 = .ok (.iload 10, 2) := by decide +kernel
theorem dL_texts_639 : decode cL_texts 639 = .ok (.invokevirtual 65, 3) := by decide +kernel
theorem dL_texts_642 : decode cL_texts 642 = .ok (.invokevirtual 72, 3) := by decide +kernel
theorem dL_texts_645 : decode cL_texts 645 = .ok (.goto 5, 3) := by decide +kernel
theorem dL_texts_648 : decode cL_texts 648 = .ok (.ldc 76, 2) := by decide +kernel
theorem dL_texts_650 : decode cL_texts 650 = .ok (.invokevirtual 61, 3) := by decide +kernel
theorem dL_texts_653 : decode cL_texts 653 = .ok (.ldc 78, 2) := by decide +kernel
theorem dL_texts_655 : decode cL_texts 655 = .ok (.invokevirtual 61, 3) := by decide +kernel
theorem dL_texts_658 : decode cL_texts 658 = .ok (.invokevirtual 72, 3) := by decide +kernel
theorem dL_texts_661 : decode cL_texts 661 = .ok (.invokevirtual 61, 3) := by decide +kernel
theorem dL_texts_664 : decode cL_texts 664 = .ok (.pop, 1) := by decide +kernel
theorem dL_texts_665 : decode cL_texts 665 = .ok (.iinc 6 1, 3) := by decide +kernel
theorem dL_texts_668 : decode cL_texts 668 = .ok (.goto (-308), 3) := by decide +kernel
theorem dL_texts_671 : decode cL_texts 671 = .ok (.aload_n 0, 1) := by decide +kernel
theorem dL_texts_672 : decode cL_texts 672 = .ok (.aload 4, 2) := by decide +kernel
theorem dL_texts_674 : decode cL_texts 674 = .ok (.invokevirtual 72, 3) := by decide +kernel
theorem dL_texts_677 : decode cL_texts 677 = .ok (.invokestatic 80, 3) := by decide +kernel
theorem dL_texts_680 : decode cL_texts 680 = .ok (.aload_n 0, 1) := by decide +kernel
theorem dL_texts_681 : decode cL_texts 681 = .ok (.iconst 2, 1) := by decide +kernel
theorem dL_texts_682 : decode cL_texts 682 = .ok (.invokevirtual 84, 3) := by decide +kernel
theorem dL_texts_685 : decode cL_texts 685 = .ok (.iload_n 3, 1) := by decide +kernel
theorem dL_texts_686 : decode cL_texts 686 = .ok (.if_icmp .eq 5, 3) := by decide +kernel
theorem dL_texts_689 : decode cL_texts 689 = .ok (.iconst 0, 1) := by decide +kernel
theorem dL_texts_690 : decode cL_texts 690 = .ok (.ireturn, 1) := by decide +kernel
theorem dL_texts_691 : decode cL_texts 691 = .ok (.iload_n 2, 1) := by decide +kernel
theorem dL_texts_692 : decode cL_texts 692 = .ok (.bipush 6, 2) := by decide +kernel
theorem dL_texts_694 : decode cL_texts 694 = .ok (.ishr, 1) := by decide +kernel
theorem dL_texts_695 : decode cL_texts 695 = .ok (.iconst 0, 1) := by decide +kernel
theorem dL_texts_696 : decode cL_texts 696 = .ok (.bipush 14, 2) := by decide +kernel
theorem dL_texts_698 : decode cL_texts 698 = .ok (.invokestatic 43, 3) := by decide +kernel
theorem dL_texts_701 : decode cL_texts 701 = .ok (.istore_n 3, 1) := by decide +kernel
theorem dL_texts_702 : decode cL_texts 702 = .ok (.new 49, 3) := by decide +kernel
theorem dL_texts_705 : decode cL_texts 705 = .ok (.dup, 1) := by decide +kernel
theorem dL_texts_706 : decode cL_texts 706 = .ok (.invokespecial 51, 3) := by decide +kernel
theorem dL_texts_709 : decode cL_texts 709 = .ok (.astore 4, 2) := by decide +kernel
theorem dL_texts_711 : decode cL_texts 711 = .ok (.aload_n 1, 1) := by decide +kernel
theorem dL_texts_712 : decode cL_texts 712 = .ok (.iload_n 3, 1) := by decide +kernel
theorem dL_texts_713 : decode cL_texts 713 = .ok (.anewarray 98, 3) := by decide +kernel
theorem dL_texts_716 : decode cL_texts 716 = .ok (.putfield 113, 3) := by decide +kernel
theorem dL_texts_719 : decode cL_texts 719 = .ok (.iconst 0, 1) := by decide +kernel
theorem dL_texts_720 : decode cL_texts 720 = .ok (.istore 6, 2) := by decide +kernel
theorem dL_texts_722 : decode cL_texts 722 = .ok (.iload 6, 2) := by decide +kernel
theorem dL_texts_724 : decode cL_texts 724 = .ok (.iload_n 3, 1) := by decide +kernel
theorem dL_texts_725 : decode cL_texts 725 = .ok (.if_icmp .ge 145, 3) := by decide +kernel
theorem dL_texts_728 : decode cL_texts 728 = .ok (.iload_n 2, 1) := by decide +kernel
theorem dL_texts_729 : decode cL_texts 729 = .ok (.iload 6, 2) := by decide +kernel
theorem dL_texts_731 : decode cL_texts 731 = .ok (.bipush 7, 2) := by decide +kernel
theorem dL_texts_733 : decode cL_texts 733 = .ok (.iadd, 1) := by decide +kernel
theorem dL_texts_734 : decode cL_texts 734 = .ok (.imul, 1) := by decide +kernel
theorem dL_texts_735 : decode cL_texts 735 = .ok (.sipush 293, 3) := by decide +kernel
theorem dL_texts_738 : decode cL_texts 738 = .ok (.iload 6, 2) := by decide +kernel
theorem dL_texts_740 : decode cL_texts 740 = .ok (.imul, 1) := by decide +kernel
theorem dL_texts_741 : decode cL_texts 741 = .ok (.iadd, 1) := by decide +kernel
theorem dL_texts_742 : decode cL_texts 742 = .ok (.istore 7, 2) := by decide +kernel
theorem dL_texts_744 : decode cL_texts 744 = .ok (.iload 7, 2) := by decide +kernel
theorem dL_texts_746 : decode cL_texts 746 = .ok (.iconst 0, 1) := by decide +kernel
theorem dL_texts_747 : decode cL_texts 747 = .ok (.iconst 5, 1) := by decide +kernel
theorem dL_texts_748 : decode cL_texts 748 = .ok (.invokestatic 43, 3) := by decide +kernel
theorem dL_texts_751 : decode cL_texts 751 = .ok (.istore 8, 2) := by decide +kernel
theorem dL_texts_753 : decode cL_texts 753 = .ok (.aload_n 1, 1) := by decide +kernel
theorem dL_texts_754 : decode cL_texts 754 = .ok (.getfield 113, 3) := by decide +kernel
theorem dL_texts_757 : decode cL_texts 757 = .ok (.iload 6, 2) := by decide +kernel
theorem dL_texts_759 : decode cL_texts 759 = .ok (.iconst 3, 1) := by decide +kernel
theorem dL_texts_760 : decode cL_texts 760 = .ok (.newarray .int, 2) := by decide +kernel
theorem dL_texts_762 : decode cL_texts 762 = .ok (.dup, 1) := by decide +kernel
theorem dL_texts_763 : decode cL_texts 763 = .ok (.iconst 0, 1) := by decide +kernel
theorem dL_texts_764 : decode cL_texts 764 = .ok (.iload 8, 2) := by decide +kernel
theorem dL_texts_766 : decode cL_texts 766 = .ok (.iastore, 1) := by decide +kernel
theorem dL_texts_767 : decode cL_texts 767 = .ok (.dup, 1) := by decide +kernel
theorem dL_texts_768 : decode cL_texts 768 = .ok (.iconst 1, 1) := by decide +kernel
theorem dL_texts_769 : decode cL_texts 769 = .ok (.iload 8, 2) := by decide +kernel
theorem dL_texts_771 : decode cL_texts 771 = .ok (.iload 7, 2) := by decide +kernel
theorem dL_texts_773 : decode cL_texts 773 = .ok (.iconst 4, 1) := by decide +kernel
theorem dL_texts_774 : decode cL_texts 774 = .ok (.ishr, 1) := by decide +kernel
theorem dL_texts_775 : decode cL_texts 775 = .ok (.iconst 1, 1) := by decide +kernel
theorem dL_texts_776 : decode cL_texts 776 = .ok (.iconst 5, 1) := by decide +kernel
theorem dL_texts_777 : decode cL_texts 777 = .ok (.invokestatic 43, 3) := by decide +kernel
theorem dL_texts_780 : decode cL_texts 780 = .ok (.iadd, 1) := by decide +kernel
theorem dL_texts_781 : decode cL_texts 781 = .ok (.bipush 6, 2) := by decide +kernel
theorem dL_texts_783 : decode cL_texts 783 = .ok (.irem, 1) := by decide +kernel
theorem dL_texts_784 : decode cL_texts 784 = .ok (.iastore, 1) := by decide +kernel
theorem dL_texts_785 : decode cL_texts 785 = .ok (.dup, 1) := by decide +kernel
theorem dL_texts_786 : decode cL_texts 786 = .ok (.iconst 2, 1) := by decide +kernel
theorem dL_texts_787 : decode cL_texts 787 = .ok (.iload 7, 2) := by decide +kernel
theorem dL_texts_789 : decode cL_texts 789 = .ok (.iconst 5, 1) := by decide +kernel
theorem dL_texts_790 : decode cL_texts 790 = .ok (.ishr, 1) := by decide +kernel
theorem dL_texts_791 : decode cL_texts 791 = .ok (.iconst 1, 1) := by decide +kernel
theorem dL_texts_792 : decode cL_texts 792 = .ok (.bipush 24, 2) := by decide +kernel
theorem dL_texts_794 : decode cL_texts 794 = .ok (.invokestatic 43, 3) := by decide +kernel
theorem dL_texts_797 : decode cL_texts 797 = .ok (.iastore, 1) := by decide +kernel
theorem dL_texts_798 : decode cL_texts 798 = .ok (.aastore, 1) := by decide +kernel
theorem dL_texts_799 : decode cL_texts 799 = .ok (.aload 4, 2) := by decide +kernel
theorem dL_texts_801 : decode cL_texts 801 = .ok (.new 49, 3) := by decide +kernel
theorem dL_texts_804 : decode cL_texts 804 = .ok (.dup, 1) := by decide +kernel
theorem dL_texts_805 : decode cL_texts 805 = .ok (.invokespecial 51, 3) := by decide +kernel
theorem dL_texts_808 : decode cL_texts 808 = .ok (.ldc 116, 2) := by decide +kernel
theorem dL_texts_810 : decode cL_texts 810 = .ok (.invokevirtual 61, 3) := by decide +kernel
theorem dL_texts_813 : decode cL_texts 813 = .ok (.iload 8, 2) := by decide +kernel
theorem dL_texts_815 : decode cL_texts 815 = .ok (.invokevirtual 65, 3) := by decide +kernel
theorem dL_texts_818 : decode cL_texts 818 = .ok (.ldc 111, 2) := by decide +kernel
theorem dL_texts_820 : decode cL_texts 820 = .ok (.invokevirtual 61, 3) := by decide +kernel
theorem dL_texts_823 : decode cL_texts 823 = .ok (.aload_n 1, 1) := by decide +kernel
theorem dL_texts_824 : decode cL_texts 824 = .ok (.getfield 113, 3) := by decide +kernel
theorem dL_texts_827 : decode cL_texts 827 = .ok (.iload 6, 2) := by decide +kernel
theorem dL_texts_829 : decode cL_texts 829 = .ok (.aaload, 1) := by decide +kernel
theorem dL_texts_830 : decode cL_texts 830 = .ok (.iconst 1, 1) := by decide +kernel
theorem dL_texts_831 : decode cL_texts 831 = .ok (.iaload, 1) := by decide +kernel
theorem dL_texts_832 : decode cL_texts 832 = .ok (.invokevirtual 65, 3) := by decide +kernel
theorem dL_texts_835 : decode cL_texts 835 = .ok (.ldc 118, 2) := by decide +kernel
theorem dL_texts_837 : decode cL_texts 837 = .ok (.invokevirtual 61, 3) := by decide +kernel
theorem dL_texts_840 : decode cL_texts 840 = .ok (.aload_n 1, 1) := by decide +kernel
theorem dL_texts_841 : decode cL_texts 841 = .ok (.getfield 113, 3) := by decide +kernel
theorem dL_texts_844 : decode cL_texts 844 = .ok (.iload 6, 2) := by decide +kernel
theorem dL_texts_846 : decode cL_texts 846 = .ok (.aaload, 1) := by decide +kernel
theorem dL_texts_847 : decode cL_texts 847 = .ok (.iconst 2, 1) := by decide +kernel
theorem dL_texts_848 : decode cL_texts 848 = .ok (.iaload, 1) := by decide +kernel
theorem dL_texts_849 : decode cL_texts 849 = .ok (.invokevirtual 65, 3) := by decide +kernel
theorem dL_texts_852 : decode cL_texts 852 = .ok (.ldc 78, 2) := by decide +kernel
theorem dL_texts_854 : decode cL_texts 854 = .ok (.invokevirtual 61, 3) := by decide +kernel
theorem dL_texts_857 : decode cL_texts 857 = .ok (.invokevirtual 72, 3) := by decide +kernel
theorem dL_texts_860 : decode cL_texts 860 = .ok (.invokevirtual 61, 3) := by decide +kernel
theorem dL_texts_863 : decode cL_texts 863 = .ok (.pop, 1) := by decide +kernel
theorem dL_texts_864 : decode cL_texts 864 = .ok (.iinc 6 1, 3) := by decide +kernel
theorem dL_texts_867 : decode cL_texts 867 = .ok (.goto (-145), 3) := by decide +kernel
theorem dL_texts_870 : decode cL_texts 870 = .ok (.aload_n 0, 1) := by decide +kernel
theorem dL_texts_871 : decode cL_texts 871 = .ok (.aload 4, 2) := by decide +kernel
theorem dL_texts_873 : decode cL_texts 873 = .ok (.invokevirtual 72, 3) := by decide +kernel
theorem dL_texts_876 : decode cL_texts 876 = .ok (.invokestatic 80, 3) := by decide +kernel
theorem dL_texts_879 : decode cL_texts 879 = .ok (.aload_n 0, 1) := by decide +kernel
theorem dL_texts_880 : decode cL_texts 880 = .ok (.iconst 3, 1) := by decide +kernel
theorem dL_texts_881 : decode cL_texts 881 = .ok (.invokevirtual 84, 3) := by decide +kernel
theorem dL_texts_884 : decode cL_texts 884 = .ok (.iload_n 3, 1) := by decide +kernel
theorem dL_texts_885 : decode cL_texts 885 = .ok (.if_icmp .ne 7, 3) := by decide +kernel
theorem dL_texts_888 : decode cL_texts 888 = .ok (.iconst 1, 1) := by decide +kernel
theorem dL_texts_889 : decode cL_texts 889 = .ok (.goto 4, 3) := by decide +kernel
theorem dL_texts_892 : decode cL_texts 892 = .ok (.iconst 0, 1) := by decide +kernel
theorem dL_texts_893 : decode cL_texts 893 = .ok (.ireturn, 1) := by decide +kernel
theorem dL_train_0 : decode cL_train 0 = .ok (.new 38, 3) := by decide +kernel
theorem dL_train_3 : decode cL_train 3 = .ok (.dup, 1) := by decide +kernel
theorem dL_train_4 : decode cL_train 4 = .ok (.invokespecial 120, 3) := by decide +kernel
theorem dL_train_7 : decode cL_train 7 = .ok (.astore_n 3, 1) := by decide +kernel
theorem dL_train_8 : decode cL_train 8 = .ok (.aload_n 1, 1) := by decide +kernel
theorem dL_train_9 : decode cL_train 9 = .ok (.iload_n 2, 1) := by decide +kernel
theorem dL_train_10 : decode cL_train 10 = .ok (.invokestatic 121, 3) := by decide +kernel
theorem dL_train_13 : decode cL_train 13 = .ok (.istore 4, 2) := by decide +kernel
theorem dL_train_15 : decode cL_train 15 = .ok (.aload_n 1, 1) := by decide +kernel
theorem dL_train_16 : decode cL_train 16 = .ok (.iload_n 2, 1) := by decide +kernel
theorem dL_train_17 : decode cL_train 17 = .ok (.iconst 1, 1) := by decide +kernel
theorem dL_train_18 : decode cL_train 18 = .ok (.iadd, 1) := by decide +kernel
theorem dL_train_19 : decode cL_train 19 = .ok (.invokestatic 121, 3) := by decide +kernel
theorem dL_train_22 : decode cL_train 22 = .ok (.istore 5, 2) := by decide +kernel
theorem dL_train_24 : decode cL_train 24 = .ok (.bipush 8, 2) := by decide +kernel
theorem dL_train_26 : decode cL_train 26 = .ok (.newarray .int, 2) := by decide +kernel
theorem dL_train_28 : decode cL_train 28 = .ok (.dup, 1) := by decide +kernel
theorem dL_train_29 : decode cL_train 29 = .ok (.iconst 0, 1) := by decide +kernel
theorem dL_train_30 : decode cL_train 30 = .ok (.iload 5, 2) := by decide +kernel
theorem dL_train_32 : decode cL_train 32 = .ok (.iconst 0, 1) := by decide +kernel
theorem dL_train_33 : decode cL_train 33 = .ok (.bipush 30, 2) := by decide +kernel
theorem dL_train_35 : decode cL_train 35 = .ok (.invokestatic 43, 3) := by decide +kernel
theorem dL_train_38 : decode cL_train 38 = .ok (.iastore, 1) := by decide +kernel
theorem dL_train_39 : decode cL_train 39 = .ok (.dup, 1) := by decide +kernel
theorem dL_train_40 : decode cL_train 40 = .ok (.iconst 1, 1) := by decide +kernel
theorem dL_train_41 : decode cL_train 41 = .ok (.iload 5, 2) := by decide +kernel
theorem dL_train_43 : decode cL_train 43 = .ok (.iconst 3, 1) := by decide +kernel
theorem dL_train_44 : decode cL_train 44 = .ok (.ishr, 1) := by decide +kernel
theorem dL_train_45 : decode cL_train 45 = .ok (.iconst 0, 1) := by decide +kernel
theorem dL_train_46 : decode cL_train 46 = .ok (.bipush 9, 2) := by decide +kernel
theorem dL_train_48 : decode cL_train 48 = .ok (.invokestatic 43, 3) := by decide +kernel
theorem dL_train_51 : decode cL_train 51 = .ok (.iastore, 1) := by decide +kernel
theorem dL_train_52 : decode cL_train 52 = .ok (.dup, 1) := by decide +kernel
theorem dL_train_53 : decode cL_train 53 = .ok (.iconst 2, 1) := by decide +kernel
theorem dL_train_54 : decode cL_train 54 = .ok (.iload 5, 2) := by decide +kernel
theorem dL_train_56 : decode cL_train 56 = .ok (.iconst 5, 1) := by decide +kernel
theorem dL_train_57 : decode cL_train 57 = .ok (.ishr, 1) := by decide +kernel
theorem dL_train_58 : decode cL_train 58 = .ok (.iconst 0, 1) := by decide +kernel
theorem dL_train_59 : decode cL_train 59 = .ok (.bipush 9, 2) := by decide +kernel
theorem dL_train_61 : decode cL_train 61 = .ok (.invokestatic 43, 3) := by decide +kernel
theorem dL_train_64 : decode cL_train 64 = .ok (.iastore, 1) := by decide +kernel
theorem dL_train_65 : decode cL_train 65 = .ok (.dup, 1) := by decide +kernel
theorem dL_train_66 : decode cL_train 66 = .ok (.iconst 3, 1) := by decide +kernel
theorem dL_train_67 : decode cL_train 67 = .ok (.iload 5, 2) := by decide +kernel
theorem dL_train_69 : decode cL_train 69 = .ok (.bipush 6, 2) := by decide +kernel
theorem dL_train_71 : decode cL_train 71 = .ok (.ishr, 1) := by decide +kernel
theorem dL_train_72 : decode cL_train 72 = .ok (.iconst 5, 1) := by decide +kernel
theorem dL_train_73 : decode cL_train 73 = .ok (.bipush 30, 2) := by decide +kernel
theorem dL_train_75 : decode cL_train 75 = .ok (.invokestatic 43, 3) := by decide +kernel
theorem dL_train_78 : decode cL_train 78 = .ok (.iastore, 1) := by decide +kernel
theorem dL_train_79 : decode cL_train 79 = .ok (.dup, 1) := by decide +kernel
theorem dL_train_80 : decode cL_train 80 = .ok (.iconst 4, 1) := by decide +kernel
theorem dL_train_81 : decode cL_train 81 = .ok (.iload 5, 2) := by decide +kernel
theorem dL_train_83 : decode cL_train 83 = .ok (.iconst 4, 1) := by decide +kernel
theorem dL_train_84 : decode cL_train 84 = .ok (.ishr, 1) := by decide +kernel
theorem dL_train_85 : decode cL_train 85 = .ok (.iconst 0, 1) := by decide +kernel
theorem dL_train_86 : decode cL_train 86 = .ok (.bipush 60, 2) := by decide +kernel
theorem dL_train_88 : decode cL_train 88 = .ok (.invokestatic 43, 3) := by decide +kernel
theorem dL_train_91 : decode cL_train 91 = .ok (.iastore, 1) := by decide +kernel
theorem dL_train_92 : decode cL_train 92 = .ok (.dup, 1) := by decide +kernel
theorem dL_train_93 : decode cL_train 93 = .ok (.iconst 5, 1) := by decide +kernel
theorem dL_train_94 : decode cL_train 94 = .ok (.iload 5, 2) := by decide +kernel
theorem dL_train_96 : decode cL_train 96 = .ok (.bipush 7, 2) := by decide +kernel
theorem dL_train_98 : decode cL_train 98 = .ok (.ishr, 1) := by decide +kernel
theorem dL_train_99 : decode cL_train 99 = .ok (.iconst 0, 1) := by decide +kernel
theorem dL_train_100 : decode cL_train 100 = .ok (.bipush 20, 2) := by decide +kernel
theorem dL_train_102 : decode cL_train 102 = .ok (.invokestatic 43, 3) := by decide +kernel
theorem dL_train_105 : decode cL_train 105 = .ok (.iastore, 1) := by decide +kernel
theorem dL_train_106 : decode cL_train 106 = .ok (.dup, 1) := by decide +kernel
theorem dL_train_107 : decode cL_train 107 = .ok (.bipush 6, 2) := by decide +kernel
theorem dL_train_109 : decode cL_train 109 = .ok (.iload 5, 2) := by decide +kernel
theorem dL_train_111 : decode cL_train 111 = .ok (.iconst 2, 1) := by decide +kernel
theorem dL_train_112 : decode cL_train 112 = .ok (.ishr, 1) := by decide +kernel
theorem dL_train_113 : decode cL_train 113 = .ok (.iconst 0, 1) := by decide +kernel
theorem dL_train_114 : decode cL_train 114 = .ok (.bipush 11, 2) := by decide +kernel
theorem dL_train_116 : decode cL_train 116 = .ok (.invokestatic 43, 3) := by decide +kernel
theorem dL_train_119 : decode cL_train 119 = .ok (.iastore, 1) := by decide +kernel
theorem dL_train_120 : decode cL_train 120 = .ok (.dup, 1) := by decide +kernel
theorem dL_train_121 : decode cL_train 121 = .ok (.bipush 7, 2) := by decide +kernel
theorem dL_train_123 : decode cL_train 123 = .ok (.iload 5, 2) := by decide +kernel
theorem dL_train_125 : decode cL_train 125 = .ok (.bipush 8, 2) := by decide +kernel
theorem dL_train_127 : decode cL_train 127 = .ok (.ishr, 1) := by decide +kernel
theorem dL_train_128 : decode cL_train 128 = .ok (.iconst 0, 1) := by decide +kernel
theorem dL_train_129 : decode cL_train 129 = .ok (.bipush 40, 2) := by decide +kernel
theorem dL_train_131 : decode cL_train 131 = .ok (.invokestatic 43, 3) := by decide +kernel
theorem dL_train_134 : decode cL_train 134 = .ok (.iastore, 1) := by decide +kernel
theorem dL_train_135 : decode cL_train 135 = .ok (.astore 6, 2) := by decide +kernel
theorem dL_train_137 : decode cL_train 137 = .ok (.iload 4, 2) := by decide +kernel
theorem dL_train_139 : decode cL_train 139 = .ok (.iconst 5, 1) := by decide +kernel
theorem dL_train_140 : decode cL_train 140 = .ok (.ishr, 1) := by decide +kernel
theorem dL_train_141 : decode cL_train 141 = .ok (.bipush 7, 2) := by decide +kernel
theorem dL_train_143 : decode cL_train 143 = .ok (.iand, 1) := by decide +kernel
theorem dL_train_144 : decode cL_train 144 = .ok (.ifCond .le 137, 3) := by decide +kernel
theorem dL_train_147 : decode cL_train 147 = .ok (.aload_n 3, 1) := by decide +kernel
theorem dL_train_148 : decode cL_train 148 = .ok (.aload 6, 2) := by decide +kernel
theorem dL_train_150 : decode cL_train 150 = .ok (.putfield 125, 3) := by decide +kernel
theorem dL_train_153 : decode cL_train 153 = .ok (.aload_n 0, 1) := by decide +kernel
theorem dL_train_154 : decode cL_train 154 = .ok (.new 49, 3) := by decide +kernel
theorem dL_train_157 : decode cL_train 157 = .ok (.dup, 1) := by decide +kernel
theorem dL_train_158 : decode cL_train 158 = .ok (.invokespecial 51, 3) := by decide +kernel
theorem dL_train_161 : decode cL_train 161 = .ok (.ldc 128, 2) := by decide +kernel
theorem dL_train_163 : decode cL_train 163 = .ok (.invokevirtual 61, 3) := by decide +kernel
theorem dL_train_166 : decode cL_train 166 = .ok (.aload 6, 2) := by decide +kernel
theorem dL_train_168 : decode cL_train 168 = .ok (.iconst 2, 1) := by decide +kernel
theorem dL_train_169 : decode cL_train 169 = .ok (.iaload, 1) := by decide +kernel
theorem dL_train_170 : decode cL_train 170 = .ok (.invokevirtual 65, 3) := by decide +kernel
theorem dL_train_173 : decode cL_train 173 = .ok (.ldc 130, 2) := by decide +kernel
theorem dL_train_175 : decode cL_train 175 = .ok (.invokevirtual 61, 3) := by decide +kernel
theorem dL_train_178 : decode cL_train 178 = .ok (.aload 6, 2) := by decide +kernel
theorem dL_train_180 : decode cL_train 180 = .ok (.iconst 0, 1) := by decide +kernel
theorem dL_train_181 : decode cL_train 181 = .ok (.iaload, 1) := by decide +kernel
theorem dL_train_182 : decode cL_train 182 = .ok (.invokevirtual 65, 3) := by decide +kernel
theorem dL_train_185 : decode cL_train 185 = .ok (.ldc 132, 2) := by decide +kernel
theorem dL_train_187 : decode cL_train 187 = .ok (.invokevirtual 61, 3) := by decide +kernel
theorem dL_train_190 : decode cL_train 190 = .ok (.aload 6, 2) := by decide +kernel
theorem dL_train_192 : decode cL_train 192 = .ok (.iconst 1, 1) := by decide +kernel
theorem dL_train_193 : decode cL_train 193 = .ok (.iaload, 1) := by decide +kernel
theorem dL_train_194 : decode cL_train 194 = .ok (.invokevirtual 65, 3) := by decide +kernel
theorem dL_train_197 : decode cL_train 197 = .ok (.ldc 134, 2) := by decide +kernel
theorem dL_train_199 : decode cL_train 199 = .ok (.invokevirtual 61, 3) := by decide +kernel
theorem dL_train_202 : decode cL_train 202 = .ok (.aload 6, 2) := by decide +kernel
theorem dL_train_204 : decode cL_train 204 = .ok (.iconst 3, 1) := by decide +kernel
theorem dL_train_205 : decode cL_train 205 = .ok (.iaload, 1) := by decide +kernel
theorem dL_train_206 : decode cL_train 206 = .ok (.invokevirtual 65, 3) := by decide +kernel
theorem dL_train_209 : decode cL_train 209 = .ok (.ldc 136, 2) := by decide +kernel
theorem dL_train_211 : decode cL_train 211 = .ok (.invokevirtual 61, 3) := by decide +kernel
theorem dL_train_214 : decode cL_train 214 = .ok (.aload 6, 2) := by decide +kernel
theorem dL_train_216 : decode cL_train 216 = .ok (.iconst 4, 1) := by decide +kernel
theorem dL_train_217 : decode cL_train 217 = .ok (.iaload, 1) := by decide +kernel
theorem dL_train_218 : decode cL_train 218 = .ok (.invokevirtual 65, 3) := by decide +kernel
theorem dL_train_221 : decode cL_train 221 = .ok (.ldc 138, 2) := by decide +kernel
theorem dL_train_223 : decode cL_train 223 = .ok (.invokevirtual 61, 3) := by decide +kernel
theorem dL_train_226 : decode cL_train 226 = .ok (.aload 6, 2) := by decide +kernel
theorem dL_train_228 : decode cL_train 228 = .ok (.iconst 5, 1) := by decide +kernel
theorem dL_train_229 : decode cL_train 229 = .ok (.iaload, 1) := by decide +kernel
theorem dL_train_230 : decode cL_train 230 = .ok (.invokevirtual 65, 3) := by decide +kernel
theorem dL_train_233 : decode cL_train 233 = .ok (.ldc 140, 2) := by decide +kernel
theorem dL_train_235 : decode cL_train 235 = .ok (.invokevirtual 61, 3) := by decide +kernel
theorem dL_train_238 : decode cL_train 238 = .ok (.aload 6, 2) := by decide +kernel
theorem dL_train_240 : decode cL_train 240 = .ok (.bipush 6, 2) := by decide +kernel
theorem dL_train_242 : decode cL_train 242 = .ok (.iaload, 1) := by decide +kernel
theorem dL_train_243 : decode cL_train 243 = .ok (.invokevirtual 65, 3) := by decide +kernel
theorem dL_train_246 : decode cL_train 246 = .ok (.ldc 142, 2) := by decide +kernel
theorem dL_train_248 : decode cL_train 248 = .ok (.invokevirtual 61, 3) := by decide +kernel
theorem dL_train_251 : decode cL_train 251 = .ok (.aload 6, 2) := by decide +kernel
theorem dL_train_253 : decode cL_train 253 = .ok (.bipush 7, 2) := by decide +kernel
theorem dL_train_255 : decode cL_train 255 = .ok (.iaload, 1) := by decide +kernel
theorem dL_train_256 : decode cL_train 256 = .ok (.invokevirtual 65, 3) := by decide +kernel
theorem dL_train_259 : decode cL_train 259 = .ok (.ldc 144, 2) := by decide +kernel
theorem dL_train_261 : decode cL_train 261 = .ok (.invokevirtual 61, 3) := by decide +kernel
theorem dL_train_264 : decode cL_train 264 = .ok (.invokevirtual 72, 3) := by decide +kernel
theorem dL_train_267 : decode cL_train 267 = .ok (.invokestatic 80, 3) := by decide +kernel
theorem dL_train_270 : decode cL_train 270 = .ok (.aload_n 0, 1) := by decide +kernel
theorem dL_train_271 : decode cL_train 271 = .ok (.iconst 0, 1) := by decide +kernel
theorem dL_train_272 : decode cL_train 272 = .ok (.invokevirtual 84, 3) := by decide +kernel
theorem dL_train_275 : decode cL_train 275 = .ok (.iconst 5, 1) := by decide +kernel
theorem dL_train_276 : decode cL_train 276 = .ok (.if_icmp .eq 5, 3) := by decide +kernel
theorem dL_train_279 : decode cL_train 279 = .ok (.aconst_null, 1) := by decide +kernel
theorem dL_train_280 : decode cL_train 280 = .ok (.areturn, 1) := by decide +kernel
theorem dL_train_281 : decode cL_train 281 = .ok (.iload 4, 2) := by decide +kernel
theorem dL_train_283 : decode cL_train 283 = .ok (.iconst 3, 1) := by decide +kernel
theorem dL_train_284 : decode cL_train 284 = .ok (.ishr, 1) := by decide +kernel
theorem dL_train_285 : decode cL_train 285 = .ok (.iconst 0, 1) := by decide +kernel
theorem dL_train_286 : decode cL_train 286 = .ok (.bipush 12, 2) := by decide +kernel
theorem dL_train_288 : decode cL_train 288 = .ok (.invokestatic 43, 3) := by decide +kernel
theorem dL_train_291 : decode cL_train 291 = .ok (.istore 7, 2) := by decide +kernel
theorem dL_train_293 : decode cL_train 293 = .ok (.iconst 0, 1) := by decide +kernel
theorem dL_train_294 : decode cL_train 294 = .ok (.istore 8, 2) := by decide +kernel
theorem dL_train_296 : decode cL_train 296 = .ok (.iload 8, 2) := by decide +kernel
theorem dL_train_298 : decode cL_train 298 = .ok (.iload 7, 2) := by decide +kernel
theorem dL_train_300 : decode cL_train 300 = .ok (.if_icmp .ge 193, 3) := by decide +kernel
theorem dL_train_303 : decode cL_train 303 = .ok (.aload_n 1, 1) := by decide +kernel
theorem dL_train_304 : decode cL_train 304 = .ok (.iload_n 2, 1) := by decide +kernel
theorem dL_train_305 : decode cL_train 305 = .ok (.iconst 2, 1) := by decide +kernel
theorem dL_train_306 : decode cL_train 306 = .ok (.iadd, 1) := by decide +kernel
theorem dL_train_307 : decode cL_train 307 = .ok (.invokestatic 121, 3) := by decide +kernel
theorem dL_train_310 : decode cL_train 310 = .ok (.iload 8, 2) := by decide +kernel
theorem dL_train_312 : decode cL_train 312 = .ok (.iconst 1, 1) := by decide +kernel
theorem dL_train_313 : decode cL_train 313 = .ok (.iadd, 1) := by decide +kernel
theorem dL_train_314 : decode cL_train 314 = .ok (.imul, 1) := by decide +kernel
theorem dL_train_315 : decode cL_train 315 = .ok (.sipush 307, 3) := by decide +kernel
theorem dL_train_318 : decode cL_train 318 = .ok (.iload 8, 2) := by decide +kernel
theorem dL_train_320 : decode cL_train 320 = .ok (.imul, 1) := by decide +kernel
theorem dL_train_321 : decode cL_train 321 = .ok (.iadd, 1) := by decide +kernel
theorem dL_train_322 : decode cL_train 322 = .ok (.istore 5, 2) := by decide +kernel
theorem dL_train_324 : decode cL_train 324 = .ok (.aload_n 3, 1) := by decide +kernel
theorem dL_train_325 : decode cL_train 325 = .ok (.getfield 52, 3) := by decide +kernel
theorem dL_train_328 : decode cL_train 328 = .ok (.iload 8, 2) := by decide +kernel
theorem dL_train_330 : decode cL_train 330 = .ok (.bipush 10, 2) := by decide +kernel
theorem dL_train_332 : decode cL_train 332 = .ok (.newarray .int, 2) := by decide +kernel
theorem dL_train_334 : decode cL_train 334 = .ok (.dup, 1) := by decide +kernel
theorem dL_train_335 : decode cL_train 335 = .ok (.iconst 0, 1) := by decide +kernel
theorem dL_train_336 : decode cL_train 336 = .ok (.iload 5, 2) := by decide +kernel
theorem dL_train_338 : decode cL_train 338 = .ok (.iconst 3, 1) := by decide +kernel
theorem dL_train_339 : decode cL_train 339 = .ok (.ishr, 1) := by decide +kernel
theorem dL_train_340 : decode cL_train 340 = .ok (.iconst 1, 1) := by decide +kernel
theorem dL_train_341 : decode cL_train 341 = .ok (.bipush 40, 2) := by decide +kernel
theorem dL_train_343 : decode cL_train 343 = .ok (.invokestatic 43, 3) := by decide +kernel
theorem dL_train_346 : decode cL_train 346 = .ok (.iastore, 1) := by decide +kernel
theorem dL_train_347 : decode cL_train 347 = .ok (.dup, 1) := by decide +kernel
theorem dL_train_348 : decode cL_train 348 = .ok (.iconst 1, 1) := by decide +kernel
theorem dL_train_349 : decode cL_train 349 = .ok (.iload 5, 2) := by decide +kernel
theorem dL_train_351 : decode cL_train 351 = .ok (.iconst 5, 1) := by decide +kernel
theorem dL_train_352 : decode cL_train 352 = .ok (.ishr, 1) := by decide +kernel
theorem dL_train_353 : decode cL_train 353 = .ok (.iconst 0, 1) := by decide +kernel
theorem dL_train_354 : decode cL_train 354 = .ok (.bipush 40, 2) := by decide +kernel
theorem dL_train_356 : decode cL_train 356 = .ok (.invokestatic 43, 3) := by decide +kernel
theorem dL_train_359 : decode cL_train 359 = .ok (.iastore, 1) := by decide +kernel
theorem dL_train_360 : decode cL_train 360 = .ok (.dup, 1) := by decide +kernel
theorem dL_train_361 : decode cL_train 361 = .ok (.iconst 2, 1) := by decide +kernel
theorem dL_train_362 : decode cL_train 362 = .ok (.iconst 0, 1) := by decide +kernel
theorem dL_train_363 : decode cL_train 363 = .ok (.iastore, 1) := by decide +kernel
theorem dL_train_364 : decode cL_train 364 = .ok (.dup, 1) := by decide +kernel
theorem dL_train_365 : decode cL_train 365 = .ok (.iconst 3, 1) := by decide +kernel
theorem dL_train_366 : decode cL_train 366 = .ok (.iconst (-1), 1) := by decide +kernel
theorem dL_train_367 : decode cL_train 367 = .ok (.iastore, 1) := by decide +kernel
theorem dL_train_368 : decode cL_train 368 = .ok (.dup, 1) := by decide +kernel
theorem dL_train_369 : decode cL_train 369 = .ok (.iconst 4, 1) := by decide +kernel
theorem dL_train_370 : decode cL_train 370 = .ok (.iconst 0, 1) := by decide +kernel
theorem dL_train_371 : decode cL_train 371 = .ok (.iastore, 1) := by decide +kernel
theorem dL_train_372 : decode cL_train 372 = .ok (.dup, 1) := by decide +kernel
theorem dL_train_373 : decode cL_train 373 = .ok (.iconst 5, 1) := by decide +kernel
theorem dL_train_374 : decode cL_train 374 = .ok (.bipush 30, 2) := by decide +kernel
theorem dL_train_376 : decode cL_train 376 = .ok (.iastore, 1) := by decide +kernel
theorem dL_train_377 : decode cL_train 377 = .ok (.dup, 1) := by decide +kernel
theorem dL_train_378 : decode cL_train 378 = .ok (.bipush 6, 2) := by decide +kernel
theorem dL_train_380 : decode cL_train 380 = .ok (.bipush 30, 2) := by decide +kernel
theorem dL_train_382 : decode cL_train 382 = .ok (.iastore, 1) := by decide +kernel
theorem dL_train_383 : decode cL_train 383 = .ok (.dup, 1) := by decide +kernel
theorem dL_train_384 : decode cL_train 384 = .ok (.bipush 7, 2) := by decide +kernel
theorem dL_train_386 : decode cL_train 386 = .ok (.bipush 30, 2) := by decide +kernel
theorem dL_train_388 : decode cL_train 388 = .ok (.iastore, 1) := by decide +kernel
theorem dL_train_389 : decode cL_train 389 = .ok (.dup, 1) := by decide +kernel
theorem dL_train_390 : decode cL_train 390 = .ok (.bipush 8, 2) := by decide +kernel
theorem dL_train_392 : decode cL_train 392 = .ok (.bipush 30, 2) := by decide +kernel
theorem dL_train_394 : decode cL_train 394 = .ok (.iastore, 1) := by decide +kernel
theorem dL_train_395 : decode cL_train 395 = .ok (.dup, 1) := by decide +kernel
theorem dL_train_396 : decode cL_train 396 = .ok (.bipush 9, 2) := by decide +kernel
theorem dL_train_398 : decode cL_train 398 = .ok (.bipush 30, 2) := by decide +kernel
theorem dL_train_400 : decode cL_train 400 = .ok (.iastore, 1) := by decide +kernel
theorem dL_train_401 : decode cL_train 401 = .ok (.aastore, 1) := by decide +kernel
theorem dL_train_402 : decode cL_train 402 = .ok (.aload_n 0, 1) := by decide +kernel
theorem dL_train_403 : decode cL_train 403 = .ok (.aload_n 3, 1) := by decide +kernel
theorem dL_train_404 : decode cL_train 404 = .ok (.getfield 52, 3) := by decide +kernel
theorem dL_train_407 : decode cL_train 407 = .ok (.iload 8, 2) := by decide +kernel
theorem dL_train_409 : decode cL_train 409 = .ok (.aaload, 1) := by decide +kernel
theorem dL_train_410 : decode cL_train 410 = .ok (.iconst 0, 1) := by decide +kernel
theorem dL_train_411 : decode cL_train 411 = .ok (.iaload, 1) := by decide +kernel
theorem dL_train_412 : decode cL_train 412 = .ok (.aload_n 3, 1) := by decide +kernel
theorem dL_train_413 : decode cL_train 413 = .ok (.getfield 52, 3) := by decide +kernel
theorem dL_train_416 : decode cL_train 416 = .ok (.iload 8, 2) := by decide +kernel
theorem dL_train_418 : decode cL_train 418 = .ok (.aaload, 1) := by decide +kernel
theorem dL_train_419 : decode cL_train 419 = .ok (.iconst 1, 1) := by decide +kernel
theorem dL_train_420 : decode cL_train 420 = .ok (.iaload, 1) := by decide +kernel
theorem dL_train_421 : decode cL_train 421 = .ok (.invokevirtual 146, 3) := by decide +kernel
theorem dL_train_424 : decode cL_train 424 = .ok (.iload 8, 2) := by decide +kernel
theorem dL_train_426 : decode cL_train 426 = .ok (.if_icmp .eq 5, 3) := by decide +kernel
theorem dL_train_429 : decode cL_train 429 = .ok (.aconst_null, 1) := by decide +kernel
theorem dL_train_430 : decode cL_train 430 = .ok (.areturn, 1) := by decide +kernel
theorem dL_train_431 : decode cL_train 431 = .ok (.aload_n 3, 1) := by decide +kernel
theorem dL_train_432 : decode cL_train 432 = .ok (.dup, 1) := by decide +kernel
theorem dL_train_433 : decode cL_train 433 = .ok (.getfield 37, 3) := by decide +kernel
theorem dL_train_436 : decode cL_train 436 = .ok (.iconst 1, 1) := by decide +kernel
theorem dL_train_437 : decode cL_train 437 = .ok (.iadd, 1) := by decide +kernel
theorem dL_train_438 : decode cL_train 438 = .ok (.putfield 37, 3) := by decide +kernel
theorem dL_train_441 : decode cL_train 441 = .ok (.aload_n 3, 1) := by decide +kernel
theorem dL_train_442 : decode cL_train 442 = .ok (.getfield 52, 3) := by decide +kernel
theorem dL_train_445 : decode cL_train 445 = .ok (.iload 8, 2) := by decide +kernel
theorem dL_train_447 : decode cL_train 447 = .ok (.aaload, 1) := by decide +kernel
theorem dL_train_448 : decode cL_train 448 = .ok (.iconst 2, 1) := by decide +kernel
theorem dL_train_449 : decode cL_train 449 = .ok (.iload 5, 2) := by decide +kernel
theorem dL_train_451 : decode cL_train 451 = .ok (.bipush 6, 2) := by decide +kernel
theorem dL_train_453 : decode cL_train 453 = .ok (.ishr, 1) := by decide +kernel
theorem dL_train_454 : decode cL_train 454 = .ok (.bipush 7, 2) := by decide +kernel
theorem dL_train_456 : decode cL_train 456 = .ok (.iand, 1) := by decide +kernel
theorem dL_train_457 : decode cL_train 457 = .ok (.ifCond .ne 7, 3) := by decide +kernel
theorem dL_train_460 : decode cL_train 460 = .ok (.iconst 1, 1) := by decide +kernel
theorem dL_train_461 : decode cL_train 461 = .ok (.goto 4, 3) := by decide +kernel
theorem dL_train_464 : decode cL_train 464 = .ok (.iconst 0, 1) := by decide +kernel
theorem dL_train_465 : decode cL_train 465 = .ok (.iastore, 1) := by decide +kernel
theorem dL_train_466 : decode cL_train 466 = .ok (.aload_n 0, 1) := by decide +kernel
theorem dL_train_467 : decode cL_train 467 = .ok (.iconst 2, 1) := by decide +kernel
theorem dL_train_468 : decode cL_train 468 = .ok (.iload 8, 2) := by decide +kernel
theorem dL_train_470 : decode cL_train 470 = .ok (.aload_n 3, 1) := by decide +kernel
theorem dL_train_471 : decode cL_train 471 = .ok (.getfield 52, 3) := by decide +kernel
theorem dL_train_474 : decode cL_train 474 = .ok (.iload 8, 2) := by decide +kernel
theorem dL_train_476 : decode cL_train 476 = .ok (.aaload, 1) := by decide +kernel
theorem dL_train_477 : decode cL_train 477 = .ok (.iconst 2, 1) := by decide +kernel
theorem dL_train_478 : decode cL_train 478 = .ok (.iaload, 1) := by decide +kernel
theorem dL_train_479 : decode cL_train 479 = .ok (.invokevirtual 148, 3) := by decide +kernel
theorem dL_train_482 : decode cL_train 482 = .ok (.ifCond .ne 5, 3) := by decide +kernel
theorem dL_train_485 : decode cL_train 485 = .ok (.aconst_null, 1) := by decide +kernel
theorem dL_train_486 : decode cL_train 486 = .ok (.areturn, 1) := by decide +kernel
theorem dL_train_487 : decode cL_train 487 = .ok (.iinc 8 1, 3) := by decide +kernel
theorem dL_train_490 : decode cL_train 490 = .ok (.goto (-194), 3) := by decide +kernel
theorem dL_train_493 : decode cL_train 493 = .ok (.iload 4, 2) := by decide +kernel
theorem dL_train_495 : decode cL_train 495 = .ok (.bipush 6, 2) := by decide +kernel
theorem dL_train_497 : decode cL_train 497 = .ok (.ishr, 1) := by decide +kernel
theorem dL_train_498 : decode cL_train 498 = .ok (.iconst 0, 1) := by decide +kernel
theorem dL_train_499 : decode cL_train 499 = .ok (.iconst 5, 1) := by decide +kernel
theorem dL_train_500 : decode cL_train 500 = .ok (.invokestatic 43, 3) := by decide +kernel
theorem dL_train_503 : decode cL_train 503 = .ok (.istore 7, 2) := by decide +kernel
theorem dL_train_505 : decode cL_train 505 = .ok (.iconst 0, 1) := by decide +kernel
theorem dL_train_506 : decode cL_train 506 = .ok (.istore 8, 2) := by decide +kernel
theorem dL_train_508 : decode cL_train 508 = .ok (.iload 8, 2) := by decide +kernel
theorem dL_train_510 : decode cL_train 510 = .ok (.iload 7, 2) := by decide +kernel
theorem dL_train_512 : decode cL_train 512 = .ok (.if_icmp .ge 214, 3) := by decide +kernel
theorem dL_train_515 : decode cL_train 515 = .ok (.aload_n 1, 1) := by decide +kernel
theorem dL_train_516 : decode cL_train 516 = .ok (.iload_n 2, 1) := by decide +kernel
theorem dL_train_517 : decode cL_train 517 = .ok (.iconst 3, 1) := by decide +kernel
theorem dL_train_518 : decode cL_train 518 = .ok (.iadd, 1) := by decide +kernel
theorem dL_train_519 : decode cL_train 519 = .ok (.invokestatic 121, 3) := by decide +kernel
theorem dL_train_522 : decode cL_train 522 = .ok (.iload 8, 2) := by decide +kernel
theorem dL_train_524 : decode cL_train 524 = .ok (.iconst 1, 1) := by decide +kernel
theorem dL_train_525 : decode cL_train 525 = .ok (.iadd, 1) := by decide +kernel
theorem dL_train_526 : decode cL_train 526 = .ok (.imul, 1) := by decide +kernel
theorem dL_train_527 : decode cL_train 527 = .ok (.sipush 311, 3) := by decide +kernel
theorem dL_train_530 : decode cL_train 530 = .ok (.iload 8, 2) := by decide +kernel
theorem dL_train_532 : decode cL_train 532 = .ok (.imul, 1) := by decide +kernel
theorem dL_train_533 : decode cL_train 533 = .ok (.iadd, 1) := by decide +kernel
theorem dL_train_534 : decode cL_train 534 = .ok (.istore 5, 2) := by decide +kernel
theorem dL_train_536 : decode cL_train 536 = .ok (.aload_n 3, 1) := by decide +kernel
theorem dL_train_537 : decode cL_train 537 = .ok (.getfield 152, 3) := by decide +kernel
theorem dL_train_540 : decode cL_train 540 = .ok (.iload 8, 2) := by decide +kernel
theorem dL_train_542 : decode cL_train 542 = .ok (.iconst 3, 1) := by decide +kernel
theorem dL_train_543 : decode cL_train 543 = .ok (.newarray .int, 2) := by decide +kernel
theorem dL_train_545 : decode cL_train 545 = .ok (.dup, 1) := by decide +kernel
theorem dL_train_546 : decode cL_train 546 = .ok (.iconst 0, 1) := by decide +kernel
theorem dL_train_547 : decode cL_train 547 = .ok (.iload 5, 2) := by decide +kernel
theorem dL_train_549 : decode cL_train 549 = .ok (.iconst 3, 1) := by decide +kernel
theorem dL_train_550 : decode cL_train 550 = .ok (.ishr, 1) := by decide +kernel
theorem dL_train_551 : decode cL_train 551 = .ok (.iconst 0, 1) := by decide +kernel
theorem dL_train_552 : decode cL_train 552 = .ok (.bipush 12, 2) := by decide +kernel
theorem dL_train_554 : decode cL_train 554 = .ok (.invokestatic 43, 3) := by decide +kernel
theorem dL_train_557 : decode cL_train 557 = .ok (.iastore, 1) := by decide +kernel
theorem dL_train_558 : decode cL_train 558 = .ok (.dup, 1) := by decide +kernel
theorem dL_train_559 : decode cL_train 559 = .ok (.iconst 1, 1) := by decide +kernel
theorem dL_train_560 : decode cL_train 560 = .ok (.iload 5, 2) := by decide +kernel
theorem dL_train_562 : decode cL_train 562 = .ok (.iconst 5, 1) := by decide +kernel
theorem dL_train_563 : decode cL_train 563 = .ok (.ishr, 1) := by decide +kernel
theorem dL_train_564 : decode cL_train 564 = .ok (.iconst 0, 1) := by decide +kernel
theorem dL_train_565 : decode cL_train 565 = .ok (.bipush 9, 2) := by decide +kernel
theorem dL_train_567 : decode cL_train 567 = .ok (.invokestatic 43, 3) := by decide +kernel
theorem dL_train_570 : decode cL_train 570 = .ok (.iastore, 1) := by decide +kernel
theorem dL_train_571 : decode cL_train 571 = .ok (.dup, 1) := by decide +kernel
theorem dL_train_572 : decode cL_train 572 = .ok (.iconst 2, 1) := by decide +kernel
theorem dL_train_573 : decode cL_train 573 = .ok (.iload 5, 2) := by decide +kernel
theorem dL_train_575 : decode cL_train 575 = .ok (.bipush 6, 2) := by decide +kernel
theorem dL_train_577 : decode cL_train 577 = .ok (.ishr, 1) := by decide +kernel
theorem dL_train_578 : decode cL_train 578 = .ok (.iconst 0, 1) := by decide +kernel
theorem dL_train_579 : decode cL_train 579 = .ok (.bipush 9, 2) := by decide +kernel
theorem dL_train_581 : decode cL_train 581 = .ok (.invokestatic 43, 3) := by decide +kernel
theorem dL_train_584 : decode cL_train 584 = .ok (.iastore, 1) := by decide +kernel
theorem dL_train_585 : decode cL_train 585 = .ok (.aastore, 1) := by decide +kernel
theorem dL_train_586 : decode cL_train 586 = .ok (.aload_n 0, 1) := by decide +kernel
theorem dL_train_587 : decode cL_train 587 = .ok (.aload_n 3, 1) := by decide +kernel
theorem dL_train_588 : decode cL_train 588 = .ok (.getfield 152, 3) := by decide +kernel
theorem dL_train_591 : decode cL_train 591 = .ok (.iload 8, 2) := by decide +kernel
theorem dL_train_593 : decode cL_train 593 = .ok (.aaload, 1) := by decide +kernel
theorem dL_train_594 : decode cL_train 594 = .ok (.iconst 0, 1) := by decide +kernel
theorem dL_train_595 : decode cL_train 595 = .ok (.iaload, 1) := by decide +kernel
theorem dL_train_596 : decode cL_train 596 = .ok (.aload_n 3, 1) := by decide +kernel
theorem dL_train_597 : decode cL_train 597 = .ok (.getfield 152, 3) := by decide +kernel
theorem dL_train_600 : decode cL_train 600 = .ok (.iload 8, 2) := by decide +kernel
theorem dL_train_602 : decode cL_train 602 = .ok (.aaload, 1) := by decide +kernel
theorem dL_train_603 : decode cL_train 603 = .ok (.iconst 1, 1) := by decide +kernel
theorem dL_train_604 : decode cL_train 604 = .ok (.iaload, 1) := by decide +kernel
theorem dL_train_605 : decode cL_train 605 = .ok (.aload_n 3, 1) := by decide +kernel
theorem dL_train_606 : decode cL_train 606 = .ok (.getfield 152, 3) := by decide +kernel
theorem dL_train_609 : decode cL_train 609 = .ok (.iload 8, 2) := by decide +kernel
theorem dL_train_611 : decode cL_train 611 = .ok (.aaload, 1) := by decide +kernel
theorem dL_train_612 : decode cL_train 612 = .ok (.iconst 2, 1) := by decide +kernel
theorem dL_train_613 : decode cL_train 613 = .ok (.iaload, 1) := by decide +kernel
theorem dL_train_614 : decode cL_train 614 = .ok (.invokevirtual 155, 3) := by decide +kernel
theorem dL_train_617 : decode cL_train 617 = .ok (.iload 8, 2) := by decide +kernel
theorem dL_train_619 : decode cL_train 619 = .ok (.if_icmp .eq 5, 3) := by decide +kernel
theorem dL_train_622 : decode cL_train 622 = .ok (.aconst_null, 1) := by decide +kernel
theorem dL_train_623 : decode cL_train 623 = .ok (.areturn, 1) := by decide +kernel
theorem dL_train_624 : decode cL_train 624 = .ok (.aload_n 3, 1) := by decide +kernel
theorem dL_train_625 : decode cL_train 625 = .ok (.dup, 1) := by decide +kernel
theorem dL_train_626 : decode cL_train 626 = .ok (.getfield 103, 3) := by decide +kernel
theorem dL_train_629 : decode cL_train 629 = .ok (.iconst 1, 1) := by decide +kernel
theorem dL_train_630 : decode cL_train 630 = .ok (.iadd, 1) := by decide +kernel
theorem dL_train_631 : decode cL_train 631 = .ok (.putfield 103, 3) := by decide +kernel
theorem dL_train_634 : decode cL_train 634 = .ok (.iconst 0, 1) := by decide +kernel
theorem dL_train_635 : decode cL_train 635 = .ok (.istore 9, 2) := by decide +kernel
theorem dL_train_637 : decode cL_train 637 = .ok (.iload 9, 2) := by decide +kernel
theorem dL_train_639 : decode cL_train 639 = .ok (.aload_n 3, 1) := by decide +kernel
theorem dL_train_640 : decode cL_train 640 = .ok (.getfield 37, 3) := by decide +kernel
theorem dL_train_643 : decode cL_train 643 = .ok (.if_icmp .ge 77, 3) := by decide +kernel
theorem dL_train_646 : decode cL_train 646 = .ok (.aload_n 3, 1) := by decide +kernel
theorem dL_train_647 : decode cL_train 647 = .ok (.getfield 52, 3) := by decide +kernel
theorem dL_train_650 : decode cL_train 650 = .ok (.iload 9, 2) := by decide +kernel
theorem dL_train_652 : decode cL_train 652 = .ok (.aaload, 1) := by decide +kernel
theorem dL_train_653 : decode cL_train 653 = .ok (.iconst 5, 1) := by decide +kernel
theorem dL_train_654 : decode cL_train 654 = .ok (.iload 8, 2) := by decide +kernel
theorem dL_train_656 : decode cL_train 656 = .ok (.iadd, 1) := by decide +kernel
theorem dL_train_657 : decode cL_train 657 = .ok (.iload 5, 2) := by decide +kernel
theorem dL_train_659 : decode cL_train 659 = .ok (.iload 9, 2) := by decide +kernel
theorem dL_train_661 : decode cL_train 661 = .ok (.iconst 3, 1) := by decide +kernel
theorem dL_train_662 : decode cL_train 662 = .ok (.iadd, 1) := by decide +kernel
theorem dL_train_663 : decode cL_train 663 = .ok (.imul, 1) := by decide +kernel
theorem dL_train_664 : decode cL_train 664 = .ok (.iconst 4, 1) := by decide +kernel
theorem dL_train_665 : decode cL_train 665 = .ok (.ishr, 1) := by decide +kernel
theorem dL_train_666 : decode cL_train 666 = .ok (.iconst 0, 1) := by decide +kernel
theorem dL_train_667 : decode cL_train 667 = .ok (.bipush 99, 2) := by decide +kernel
theorem dL_train_669 : decode cL_train 669 = .ok (.invokestatic 43, 3) := by decide +kernel
theorem dL_train_672 : decode cL_train 672 = .ok (.iastore, 1) := by decide +kernel
theorem dL_train_673 : decode cL_train 673 = .ok (.aload_n 0, 1) := by decide +kernel
theorem dL_train_674 : decode cL_train 674 = .ok (.iload 9, 2) := by decide +kernel
theorem dL_train_676 : decode cL_train 676 = .ok (.bipush 10, 2) := by decide +kernel
theorem dL_train_678 : decode cL_train 678 = .ok (.iload 8, 2) := by decide +kernel
theorem dL_train_680 : decode cL_train 680 = .ok (.iadd, 1) := by decide +kernel
theorem dL_train_681 : decode cL_train 681 = .ok (.invokevirtual 157, 3) := by decide +kernel
theorem dL_train_684 : decode cL_train 684 = .ok (.bipush 30, 2) := by decide +kernel
theorem dL_train_686 : decode cL_train 686 = .ok (.if_icmp .ne 26, 3) := by decide +kernel
theorem dL_train_689 : decode cL_train 689 = .ok (.aload_n 0, 1) := by decide +kernel
theorem dL_train_690 : decode cL_train 690 = .ok (.iload 9, 2) := by decide +kernel
theorem dL_train_692 : decode cL_train 692 = .ok (.iload 8, 2) := by decide +kernel
theorem dL_train_694 : decode cL_train 694 = .ok (.aload_n 3, 1) := by decide +kernel
theorem dL_train_695 : decode cL_train 695 = .ok (.getfield 52, 3) := by decide +kernel
theorem dL_train_698 : decode cL_train 698 = .ok (.iload 9, 2) := by decide +kernel
theorem dL_train_700 : decode cL_train 700 = .ok (.aaload, 1) := by decide +kernel
theorem dL_train_701 : decode cL_train 701 = .ok (.iconst 5, 1) := by decide +kernel
theorem dL_train_702 : decode cL_train 702 = .ok (.iload 8, 2) := by decide +kernel
theorem dL_train_704 : decode cL_train 704 = .ok (.iadd, 1) := by decide +kernel
theorem dL_train_705 : decode cL_train 705 = .ok (.iaload, 1) := by decide +kernel
theorem dL_train_706 : decode cL_train 706 = .ok (.invokevirtual 160, 3) := by decide +kernel
theorem dL_train_709 : decode cL_train 709 = .ok (.ifCond .ne 5, 3) := by decide +kernel
theorem dL_train_712 : decode cL_train 712 = .ok (.aconst_null, 1) := by decide +kernel
theorem dL_train_713 : decode cL_train 713 = .ok (.areturn, 1) := by decide +kernel
theorem dL_train_714 : decode cL_train 714 = .ok (.iinc 9 1, 3) := by decide +kernel
theorem dL_train_717 : decode cL_train 717 = .ok (.goto (-80), 3) := by decide +kernel
theorem dL_train_720 : decode cL_train 720 = .ok (.iinc 8 1, 3) := by decide +kernel
theorem dL_train_723 : decode cL_train 723 = .ok (.goto (-215), 3) := by decide +kernel
theorem dL_train_726 : decode cL_train 726 = .ok (.aload_n 3, 1) := by decide +kernel
theorem dL_train_727 : decode cL_train 727 = .ok (.iload 4, 2) := by decide +kernel
theorem dL_train_729 : decode cL_train 729 = .ok (.iconst 4, 1) := by decide +kernel
theorem dL_train_730 : decode cL_train 730 = .ok (.ishr, 1) := by decide +kernel
theorem dL_train_731 : decode cL_train 731 = .ok (.iconst 0, 1) := by decide +kernel
theorem dL_train_732 : decode cL_train 732 = .ok (.bipush 9, 2) := by decide +kernel
theorem dL_train_734 : decode cL_train 734 = .ok (.invokestatic 43, 3) := by decide +kernel
theorem dL_train_737 : decode cL_train 737 = .ok (.putfield 163, 3) := by decide +kernel
theorem dL_train_740 : decode cL_train 740 = .ok (.aload_n 3, 1) := by decide +kernel
theorem dL_train_741 : decode cL_train 741 = .ok (.iload 4, 2) := by decide +kernel
theorem dL_train_743 : decode cL_train 743 = .ok (.bipush 7, 2) := by decide +kernel
theorem dL_train_745 : decode cL_train 745 = .ok (.ishr, 1) := by decide +kernel
theorem dL_train_746 : decode cL_train 746 = .ok (.iconst 0, 1) := by decide +kernel
theorem dL_train_747 : decode cL_train 747 = .ok (.iconst 5, 1) := by decide +kernel
theorem dL_train_748 : decode cL_train 748 = .ok (.invokestatic 43, 3) := by decide +kernel
theorem dL_train_751 : decode cL_train 751 = .ok (.putfield 166, 3) := by decide +kernel
theorem dL_train_754 : decode cL_train 754 = .ok (.aload_n 0, 1) := by decide +kernel
theorem dL_train_755 : decode cL_train 755 = .ok (.iconst 0, 1) := by decide +kernel
theorem dL_train_756 : decode cL_train 756 = .ok (.iconst 0, 1) := by decide +kernel
theorem dL_train_757 : decode cL_train 757 = .ok (.aload_n 3, 1) := by decide +kernel
theorem dL_train_758 : decode cL_train 758 = .ok (.getfield 163, 3) := by decide +kernel
theorem dL_train_761 : decode cL_train 761 = .ok (.invokevirtual 148, 3) := by decide +kernel
theorem dL_train_764 : decode cL_train 764 = .ok (.ifCond .eq 31, 3) := by decide +kernel
theorem dL_train_767 : decode cL_train 767 = .ok (.aload_n 0, 1) := by decide +kernel
theorem dL_train_768 : decode cL_train 768 = .ok (.iconst 1, 1) := by decide +kernel
theorem dL_train_769 : decode cL_train 769 = .ok (.iconst 0, 1) := by decide +kernel
theorem dL_train_770 : decode cL_train 770 = .ok (.aload_n 3, 1) := by decide +kernel
theorem dL_train_771 : decode cL_train 771 = .ok (.getfield 166, 3) := by decide +kernel
theorem dL_train_774 : decode cL_train 774 = .ok (.invokevirtual 148, 3) := by decide +kernel
theorem dL_train_777 : decode cL_train 777 = .ok (.ifCond .eq 18, 3) := by decide +kernel
theorem dL_train_780 : decode cL_train 780 = .ok (.aload_n 0, 1) := by decide +kernel
theorem dL_train_781 : decode cL_train 781 = .ok (.aload_n 3, 1) := by decide +kernel
theorem dL_train_782 : decode cL_train 782 = .ok (.aload_n 1, 1) := by decide +kernel
theorem dL_train_783 : decode cL_train 783 = .ok (.iload_n 2, 1) := by decide +kernel
theorem dL_train_784 : decode cL_train 784 = .ok (.iconst 4, 1) := by decide +kernel
theorem dL_train_785 : decode cL_train 785 = .ok (.iadd, 1) := by decide +kernel
theorem dL_train_786 : decode cL_train 786 = .ok (.invokestatic 121, 3) := by decide +kernel
theorem dL_train_789 : decode cL_train 789 = .ok (.invokestatic 169, 3) := by decide +kernel
theorem dL_train_792 : decode cL_train 792 = .ok (.ifCond .ne 5, 3) := by decide +kernel
theorem dL_train_795 : decode cL_train 795 = .ok (.aconst_null, 1) := by decide +kernel
theorem dL_train_796 : decode cL_train 796 = .ok (.areturn, 1) := by decide +kernel
theorem dL_train_797 : decode cL_train 797 = .ok (.aload_n 3, 1) := by decide +kernel
theorem dL_train_798 : decode cL_train 798 = .ok (.aload_n 1, 1) := by decide +kernel
theorem dL_train_799 : decode cL_train 799 = .ok (.iload_n 2, 1) := by decide +kernel
theorem dL_train_800 : decode cL_train 800 = .ok (.iconst 5, 1) := by decide +kernel
theorem dL_train_801 : decode cL_train 801 = .ok (.iadd, 1) := by decide +kernel
theorem dL_train_802 : decode cL_train 802 = .ok (.invokestatic 121, 3) := by decide +kernel
theorem dL_train_805 : decode cL_train 805 = .ok (.putfield 173, 3) := by decide +kernel
theorem dL_train_808 : decode cL_train 808 = .ok (.aload_n 0, 1) := by decide +kernel
theorem dL_train_809 : decode cL_train 809 = .ok (.aload_n 3, 1) := by decide +kernel
theorem dL_train_810 : decode cL_train 810 = .ok (.getfield 173, 3) := by decide +kernel
theorem dL_train_813 : decode cL_train 813 = .ok (.invokevirtual 176, 3) := by decide +kernel
theorem dL_train_816 : decode cL_train 816 = .ok (.pop, 1) := by decide +kernel
theorem dL_train_817 : decode cL_train 817 = .ok (.aload_n 3, 1) := by decide +kernel
theorem dL_train_818 : decode cL_train 818 = .ok (.areturn, 1) := by decide +kernel
theorem dL_law_0 : decode cL_law 0 = .ok (.new 28, 3) := by decide +kernel
theorem dL_law_3 : decode cL_law 3 = .ok (.dup, 1) := by decide +kernel
theorem dL_law_4 : decode cL_law 4 = .ok (.invokespecial 178, 3) := by decide +kernel
theorem dL_law_7 : decode cL_law 7 = .ok (.astore_n 1, 1) := by decide +kernel
theorem dL_law_8 : decode cL_law 8 = .ok (.aload_n 1, 1) := by decide +kernel
theorem dL_law_9 : decode cL_law 9 = .ok (.aload_n 0, 1) := by decide +kernel
theorem dL_law_10 : decode cL_law 10 = .ok (.iconst 0, 1) := by decide +kernel
theorem dL_law_11 : decode cL_law 11 = .ok (.invokestatic 179, 3) := by decide +kernel
theorem dL_law_14 : decode cL_law 14 = .ok (.astore_n 2, 1) := by decide +kernel
theorem dL_law_15 : decode cL_law 15 = .ok (.aload_n 2, 1) := by decide +kernel
theorem dL_law_16 : decode cL_law 16 = .ok (.ifnull 11, 3) := by decide +kernel
theorem dL_law_19 : decode cL_law 19 = .ok (.aload_n 2, 1) := by decide +kernel
theorem dL_law_20 : decode cL_law 20 = .ok (.aload_n 1, 1) := by decide +kernel
theorem dL_law_21 : decode cL_law 21 = .ok (.invokevirtual 183, 3) := by decide +kernel
theorem dL_law_24 : decode cL_law 24 = .ok (.ifCond .ne 5, 3) := by decide +kernel
theorem dL_law_27 : decode cL_law 27 = .ok (.iconst 0, 1) := by decide +kernel
theorem dL_law_28 : decode cL_law 28 = .ok (.ireturn, 1) := by decide +kernel
theorem dL_law_29 : decode cL_law 29 = .ok (.bipush 6, 2) := by decide +kernel
theorem dL_law_31 : decode cL_law 31 = .ok (.anewarray 38, 3) := by decide +kernel
theorem dL_law_34 : decode cL_law 34 = .ok (.astore_n 3, 1) := by decide +kernel
theorem dL_law_35 : decode cL_law 35 = .ok (.iconst 0, 1) := by decide +kernel
theorem dL_law_36 : decode cL_law 36 = .ok (.istore 4, 2) := by decide +kernel
theorem dL_law_38 : decode cL_law 38 = .ok (.iconst 0, 1) := by decide +kernel
theorem dL_law_39 : decode cL_law 39 = .ok (.istore 5, 2) := by decide +kernel
theorem dL_law_41 : decode cL_law 41 = .ok (.iload 5, 2) := by decide +kernel
theorem dL_law_43 : decode cL_law 43 = .ok (.bipush 22, 2) := by decide +kernel
theorem dL_law_45 : decode cL_law 45 = .ok (.if_icmp .ge 1021, 3) := by decide +kernel
theorem dL_law_48 : decode cL_law 48 = .ok (.aload_n 0, 1) := by decide +kernel
theorem dL_law_49 : decode cL_law 49 = .ok (.bipush 6, 2) := by decide +kernel
theorem dL_law_51 : decode cL_law 51 = .ok (.iload 5, 2) := by decide +kernel
theorem dL_law_53 : decode cL_law 53 = .ok (.bipush 12, 2) := by decide +kernel
theorem dL_law_55 : decode cL_law 55 = .ok (.irem, 1) := by decide +kernel
theorem dL_law_56 : decode cL_law 56 = .ok (.iadd, 1) := by decide +kernel
theorem dL_law_57 : decode cL_law 57 = .ok (.invokestatic 121, 3) := by decide +kernel
theorem dL_law_60 : decode cL_law 60 = .ok (.iload 5, 2) := by decide +kernel
theorem dL_law_62 : decode cL_law 62 = .ok (.bipush 12, 2) := by decide +kernel
theorem dL_law_64 : decode cL_law 64 = .ok (.idiv, 1) := by decide +kernel
theorem dL_law_65 : decode cL_law 65 = .ok (.iconst 1, 1) := by decide +kernel
theorem dL_law_66 : decode cL_law 66 = .ok (.iadd, 1) := by decide +kernel
theorem dL_law_67 : decode cL_law 67 = .ok (.imul, 1) := by decide +kernel
theorem dL_law_68 : decode cL_law 68 = .ok (.sipush 191, 3) := by decide +kernel
theorem dL_law_71 : decode cL_law 71 = .ok (.iload 5, 2) := by decide +kernel
theorem dL_law_73 : decode cL_law 73 = .ok (.imul, 1) := by decide +kernel
theorem dL_law_74 : decode cL_law 74 = .ok (.iadd, 1) := by decide +kernel
theorem dL_law_75 : decode cL_law 75 = .ok (.istore 6, 2) := by decide +kernel
theorem dL_law_77 : decode cL_law 77 = .ok (.iload 6, 2) := by decide +kernel
theorem dL_law_79 : decode cL_law 79 = .ok (.iconst 0, 1) := by decide +kernel
theorem dL_law_80 : decode cL_law 80 = .ok (.bipush 13, 2) := by decide +kernel
theorem dL_law_82 : decode cL_law 82 = .ok (.invokestatic 43, 3) := by decide +kernel
theorem dL_law_85 : decode cL_law 85 = .ok (.istore 7, 2) := by decide +kernel
theorem dL_law_87 : decode cL_law 87 = .ok (.iload 6, 2) := by decide +kernel
theorem dL_law_89 : decode cL_law 89 = .ok (.iconst 3, 1) := by decide +kernel
theorem dL_law_90 : decode cL_law 90 = .ok (.ishr, 1) := by decide +kernel
theorem dL_law_91 : decode cL_law 91 = .ok (.iconst 0, 1) := by decide +kernel
theorem dL_law_92 : decode cL_law 92 = .ok (.aload_n 2, 1) := by decide +kernel
theorem dL_law_93 : decode cL_law 93 = .ok (.getfield 37, 3) := by decide +kernel
theorem dL_law_96 : decode cL_law 96 = .ok (.invokestatic 43, 3) := by decide +kernel
theorem dL_law_99 : decode cL_law 99 = .ok (.istore 8, 2) := by decide +kernel
theorem dL_law_101 : decode cL_law 101 = .ok (.iload 6, 2) := by decide +kernel
theorem dL_law_103 : decode cL_law 103 = .ok (.iconst 5, 1) := by decide +kernel
theorem dL_law_104 : decode cL_law 104 = .ok (.ishr, 1) := by decide +kernel
theorem dL_law_105 : decode cL_law 105 = .ok (.iconst 0, 1) := by decide +kernel
theorem dL_law_106 : decode cL_law 106 = .ok (.aload_n 2, 1) := by decide +kernel
theorem dL_law_107 : decode cL_law 107 = .ok (.getfield 103, 3) := by decide +kernel
theorem dL_law_110 : decode cL_law 110 = .ok (.invokestatic 43, 3) := by decide +kernel
theorem dL_law_113 : decode cL_law 113 = .ok (.istore 9, 2) := by decide +kernel
theorem dL_law_115 : decode cL_law 115 = .ok (.aload_n 2, 1) := by decide +kernel
theorem dL_law_116 : decode cL_law 116 = .ok (.invokevirtual 187, 3) := by decide +kernel
theorem dL_law_119 : decode cL_law 119 = .ok (.astore 10, 2) := by decide +kernel
theorem dL_law_121 : decode cL_law 121 = .ok (.iconst 0, 1) := by decide +kernel
theorem dL_law_122 : decode cL_law 122 = .ok (.istore 11, 2) := by decide +kernel
theorem dL_law_124 : decode cL_law 124 = .ok (.iload 7, 2) := by decide +kernel
theorem dL_law_126 : decode cL_law 126 = .ok (.iconst 2, 1) := by decide +kernel
theorem dL_law_127 : decode cL_law 127 = .ok (.if_icmp .ge 107, 3) := by decide +kernel
theorem dL_law_130 : decode cL_law 130 = .ok (.iload 6, 2) := by decide +kernel
theorem dL_law_132 : decode cL_law 132 = .ok (.iconst 5, 1) := by decide +kernel
theorem dL_law_133 : decode cL_law 133 = .ok (.ishr, 1) := by decide +kernel
theorem dL_law_134 : decode cL_law 134 = .ok (.iconst 1, 1) := by decide +kernel
theorem dL_law_135 : decode cL_law 135 = .ok (.bipush 6, 2) := by decide +kernel
theorem dL_law_137 : decode cL_law 137 = .ok (.invokestatic 43, 3) := by decide +kernel
theorem dL_law_140 : decode cL_law 140 = .ok (.istore 12, 2) := by decide +kernel
theorem dL_law_142 : decode cL_law 142 = .ok (.iconst 0, 1) := by decide +kernel
theorem dL_law_143 : decode cL_law 143 = .ok (.istore 13, 2) := by decide +kernel
theorem dL_law_145 : decode cL_law 145 = .ok (.iconst 0, 1) := by decide +kernel
theorem dL_law_146 : decode cL_law 146 = .ok (.istore 14, 2) := by decide +kernel
theorem dL_law_148 : decode cL_law 148 = .ok (.iload 14, 2) := by decide +kernel
theorem dL_law_150 : decode cL_law 150 = .ok (.iload 12, 2) := by decide +kernel
theorem dL_law_152 : decode cL_law 152 = .ok (.if_icmp .ge 66, 3) := by decide +kernel
theorem dL_law_155 : decode cL_law 155 = .ok (.iload 4, 2) := by decide +kernel
theorem dL_law_157 : decode cL_law 157 = .ok (.bipush 6, 2) := by decide +kernel
theorem dL_law_159 : decode cL_law 159 = .ok (.if_icmp .ne 32, 3) := by decide +kernel
theorem dL_law_162 : decode cL_law 162 = .ok (.iconst 1, 1) := by decide +kernel
theorem dL_law_163 : decode cL_law 163 = .ok (.istore 15, 2) := by decide +kernel
theorem dL_law_165 : decode cL_law 165 = .ok (.iload 15, 2) := by decide +kernel
theorem dL_law_167 : decode cL_law 167 = .ok (.bipush 6, 2) := by decide +kernel
theorem dL_law_169 : decode cL_law 169 = .ok (.if_icmp .ge 19, 3) := by decide +kernel
theorem dL_law_172 : decode cL_law 172 = .ok (.aload_n 3, 1) := by decide +kernel
theorem dL_law_173 : decode cL_law 173 = .ok (.iload 15, 2) := by decide +kernel
theorem dL_law_175 : decode cL_law 175 = .ok (.iconst 1, 1) := by decide +kernel
theorem dL_law_176 : decode cL_law 176 = .ok (.isub, 1) := by decide +kernel
theorem dL_law_177 : decode cL_law 177 = .ok (.aload_n 3, 1) := by decide +kernel
theorem dL_law_178 : decode cL_law 178 = .ok (.iload 15, 2) := by decide +kernel
theorem dL_law_180 : decode cL_law 180 = .ok (.aaload, 1) := by decide +kernel
theorem dL_law_181 : decode cL_law 181 = .ok (.aastore, 1) := by decide +kernel
theorem dL_law_182 : decode cL_law 182 = .ok (.iinc 15 1, 3) := by decide +kernel
theorem dL_law_185 : decode cL_law 185 = .ok (.goto (-20), 3) := by decide +kernel
theorem dL_law_188 : decode cL_law 188 = .ok (.iinc 4 (-1), 3) := by decide +kernel
theorem dL_law_191 : decode cL_law 191 = .ok (.aload_n 3, 1) := by decide +kernel
theorem dL_law_192 : decode cL_law 192 = .ok (.iload 4, 2) := by decide +kernel
theorem dL_law_194 : decode cL_law 194 = .ok (.iinc 4 1, 3) := by decide +kernel
theorem dL_law_197 : decode cL_law 197 = .ok (.aload_n 2, 1) := by decide +kernel
theorem dL_law_198 : decode cL_law 198 = .ok (.invokevirtual 187, 3) := by decide +kernel
theorem dL_law_201 : decode cL_law 201 = .ok (.aastore, 1) := by decide +kernel
theorem dL_law_202 : decode cL_law 202 = .ok (.iload 13, 2) := by decide +kernel
theorem dL_law_204 : decode cL_law 204 = .ok (.aload_n 2, 1) := by decide +kernel
theorem dL_law_205 : decode cL_law 205 = .ok (.iconst 1, 1) := by decide +kernel
theorem dL_law_206 : decode cL_law 206 = .ok (.invokevirtual 191, 3) := by decide +kernel
theorem dL_law_209 : decode cL_law 209 = .ok (.iadd, 1) := by decide +kernel
theorem dL_law_210 : decode cL_law 210 = .ok (.istore 13, 2) := by decide +kernel
theorem dL_law_212 : decode cL_law 212 = .ok (.iinc 14 1, 3) := by decide +kernel
theorem dL_law_215 : decode cL_law 215 = .ok (.goto (-67), 3) := by decide +kernel
theorem dL_law_218 : decode cL_law 218 = .ok (.aload_n 1, 1) := by decide +kernel
theorem dL_law_219 : decode cL_law 219 = .ok (.iload 12, 2) := by decide +kernel
theorem dL_law_221 : decode cL_law 221 = .ok (.invokevirtual 195, 3) := by decide +kernel
theorem dL_law_224 : decode cL_law 224 = .ok (.iload 13, 2) := by decide +kernel
theorem dL_law_226 : decode cL_law 226 = .ok (.if_icmp .eq 5, 3) := by decide +kernel
theorem dL_law_229 : decode cL_law 229 = .ok (.iconst 0, 1) := by decide +kernel
theorem dL_law_230 : decode cL_law 230 = .ok (.ireturn, 1) := by decide +kernel
theorem dL_law_231 : decode cL_law 231 = .ok (.goto 758, 3) := by decide +kernel
theorem dL_law_234 : decode cL_law 234 = .ok (.iload 7, 2) := by decide +kernel
theorem dL_law_236 : decode cL_law 236 = .ok (.iconst 5, 1) := by decide +kernel
theorem dL_law_237 : decode cL_law 237 = .ok (.if_icmp .ge 24, 3) := by decide +kernel
theorem dL_law_240 : decode cL_law 240 = .ok (.iconst 1, 1) := by decide +kernel
theorem dL_law_241 : decode cL_law 241 = .ok (.istore 11, 2) := by decide +kernel
theorem dL_law_243 : decode cL_law 243 = .ok (.aload_n 2, 1) := by decide +kernel
theorem dL_law_244 : decode cL_law 244 = .ok (.iconst 1, 1) := by decide +kernel
theorem dL_law_245 : decode cL_law 245 = .ok (.invokevirtual 198, 3) := by decide +kernel
theorem dL_law_248 : decode cL_law 248 = .ok (.aload_n 1, 1) := by decide +kernel
theorem dL_law_249 : decode cL_law 249 = .ok (.invokevirtual 202, 3) := by decide +kernel
theorem dL_law_252 : decode cL_law 252 = .ok (.aload_n 2, 1) := by decide +kernel
theorem dL_law_253 : decode cL_law 253 = .ok (.getfield 205, 3) := by decide +kernel
theorem dL_law_256 : decode cL_law 256 = .ok (.if_icmp .eq 733, 3) := by decide +kernel
theorem dL_law_259 : decode cL_law 259 = .ok (.iconst 0, 1) := by decide +kernel
theorem dL_law_260 : decode cL_law 260 = .ok (.ireturn, 1) := by decide +kernel
theorem dL_law_261 : decode cL_law 261 = .ok (.iload 7, 2) := by decide +kernel
theorem dL_law_263 : decode cL_law 263 = .ok (.bipush 7, 2) := by decide +kernel
theorem dL_law_265 : decode cL_law 265 = .ok (.if_icmp .ge 98, 3) := by decide +kernel
theorem dL_law_268 : decode cL_law 268 = .ok (.iload 6, 2) := by decide +kernel
theorem dL_law_270 : decode cL_law 270 = .ok (.bipush 6, 2) := by decide +kernel
theorem dL_law_272 : decode cL_law 272 = .ok (.ishr, 1) := by decide +kernel
theorem dL_law_273 : decode cL_law 273 = .ok (.iconst 0, 1) := by decide +kernel
theorem dL_law_274 : decode cL_law 274 = .ok (.iconst 3, 1) := by decide +kernel
theorem dL_law_275 : decode cL_law 275 = .ok (.invokestatic 43, 3) := by decide +kernel
theorem dL_law_278 : decode cL_law 278 = .ok (.istore 12, 2) := by decide +kernel
theorem dL_law_280 : decode cL_law 280 = .ok (.iload 12, 2) := by decide +kernel
theorem dL_law_282 : decode cL_law 282 = .ok (.iconst 3, 1) := by decide +kernel
theorem dL_law_283 : decode cL_law 283 = .ok (.if_icmp .ge 31, 3) := by decide +kernel
theorem dL_law_286 : decode cL_law 286 = .ok (.iload 9, 2) := by decide +kernel
theorem dL_law_288 : decode cL_law 288 = .ok (.aload_n 2, 1) := by decide +kernel
theorem dL_law_289 : decode cL_law 289 = .ok (.getfield 103, 3) := by decide +kernel
theorem dL_law_292 : decode cL_law 292 = .ok (.if_icmp .ge 22, 3) := by decide +kernel
theorem dL_law_295 : decode cL_law 295 = .ok (.iload 12, 2) := by decide +kernel
theorem dL_law_297 : decode cL_law 297 = .ok (.iconst 1, 1) := by decide +kernel
theorem dL_law_298 : decode cL_law 298 = .ok (.if_icmp .eq 12, 3) := by decide +kernel
theorem dL_law_301 : decode cL_law 301 = .ok (.iload 8, 2) := by decide +kernel
theorem dL_law_303 : decode cL_law 303 = .ok (.aload_n 2, 1) := by decide +kernel
theorem dL_law_304 : decode cL_law 304 = .ok (.getfield 37, 3) := by decide +kernel
theorem dL_law_307 : decode cL_law 307 = .ok (.if_icmp .ge 7, 3) := by decide +kernel
theorem dL_law_310 : decode cL_law 310 = .ok (.iconst 1, 1) := by decide +kernel
theorem dL_law_311 : decode cL_law 311 = .ok (.goto 4, 3) := by decide +kernel
theorem dL_law_314 : decode cL_law 314 = .ok (.iconst 0, 1) := by decide +kernel
theorem dL_law_315 : decode cL_law 315 = .ok (.istore 13, 2) := by decide +kernel
theorem dL_law_317 : decode cL_law 317 = .ok (.iload 13, 2) := by decide +kernel
theorem dL_law_319 : decode cL_law 319 = .ok (.ifCond .eq 21, 3) := by decide +kernel
theorem dL_law_322 : decode cL_law 322 = .ok (.aload_n 2, 1) := by decide +kernel
theorem dL_law_323 : decode cL_law 323 = .ok (.iload 12, 2) := by decide +kernel
theorem dL_law_325 : decode cL_law 325 = .ok (.iload 9, 2) := by decide +kernel
theorem dL_law_327 : decode cL_law 327 = .ok (.iload 8, 2) := by decide +kernel
theorem dL_law_329 : decode cL_law 329 = .ok (.iconst 1, 1) := by decide +kernel
theorem dL_law_330 : decode cL_law 330 = .ok (.invokevirtual 208, 3) := by decide +kernel
theorem dL_law_333 : decode cL_law 333 = .ok (.ifCond .eq 7, 3) := by decide +kernel
theorem dL_law_336 : decode cL_law 336 = .ok (.iconst 1, 1) := by decide +kernel
theorem dL_law_337 : decode cL_law 337 = .ok (.goto 4, 3) := by decide +kernel
theorem dL_law_340 : decode cL_law 340 = .ok (.iconst 0, 1) := by decide +kernel
theorem dL_law_341 : decode cL_law 341 = .ok (.istore 11, 2) := by decide +kernel
theorem dL_law_343 : decode cL_law 343 = .ok (.aload_n 1, 1) := by decide +kernel
theorem dL_law_344 : decode cL_law 344 = .ok (.iload 12, 2) := by decide +kernel
theorem dL_law_346 : decode cL_law 346 = .ok (.iload 9, 2) := by decide +kernel
theorem dL_law_348 : decode cL_law 348 = .ok (.iload 8, 2) := by decide +kernel
theorem dL_law_350 : decode cL_law 350 = .ok (.invokevirtual 212, 3) := by decide +kernel
theorem dL_law_353 : decode cL_law 353 = .ok (.iload 11, 2) := by decide +kernel
theorem dL_law_355 : decode cL_law 355 = .ok (.if_icmp .eq 5, 3) := by decide +kernel
theorem dL_law_358 : decode cL_law 358 = .ok (.iconst 0, 1) := by decide +kernel
theorem dL_law_359 : decode cL_law 359 = .ok (.ireturn, 1) := by decide +kernel
theorem dL_law_360 : decode cL_law 360 = .ok (.goto 629, 3) := by decide +kernel
theorem dL_law_363 : decode cL_law 363 = .ok (.iload 7, 2) := by decide +kernel
theorem dL_law_365 : decode cL_law 365 = .ok (.bipush 7, 2) := by decide +kernel
theorem dL_law_367 : decode cL_law 367 = .ok (.if_icmp .ne 160, 3) := by decide +kernel
theorem dL_law_370 : decode cL_law 370 = .ok (.aload_n 2, 1) := by decide +kernel
theorem dL_law_371 : decode cL_law 371 = .ok (.getfield 113, 3) := by decide +kernel
theorem dL_law_374 : decode cL_law 374 = .ok (.arraylength, 1) := by decide +kernel
theorem dL_law_375 : decode cL_law 375 = .ok (.ifCond .ne 17, 3) := by decide +kernel
theorem dL_law_378 : decode cL_law 378 = .ok (.iload 6, 2) := by decide +kernel
theorem dL_law_380 : decode cL_law 380 = .ok (.bipush 6, 2) := by decide +kernel
theorem dL_law_382 : decode cL_law 382 = .ok (.ishr, 1) := by decide +kernel
theorem dL_law_383 : decode cL_law 383 = .ok (.iconst 0, 1) := by decide +kernel
theorem dL_law_384 : decode cL_law 384 = .ok (.bipush 10, 2) := by decide +kernel
theorem dL_law_386 : decode cL_law 386 = .ok (.invokestatic 43, 3) := by decide +kernel
theorem dL_law_389 : decode cL_law 389 = .ok (.goto 26, 3) := by decide +kernel
theorem dL_law_392 : decode cL_law 392 = .ok (.aload_n 2, 1) := by decide +kernel
theorem dL_law_393 : decode cL_law 393 = .ok (.getfield 113, 3) := by decide +kernel
theorem dL_law_396 : decode cL_law 396 = .ok (.iload 6, 2) := by decide +kernel
theorem dL_law_398 : decode cL_law 398 = .ok (.bipush 6, 2) := by decide +kernel
theorem dL_law_400 : decode cL_law 400 = .ok (.ishr, 1) := by decide +kernel
theorem dL_law_401 : decode cL_law 401 = .ok (.iconst 0, 1) := by decide +kernel
theorem dL_law_402 : decode cL_law 402 = .ok (.aload_n 2, 1) := by decide +kernel
theorem dL_law_403 : decode cL_law 403 = .ok (.getfield 113, 3) := by decide +kernel
theorem dL_law_406 : decode cL_law 406 = .ok (.arraylength, 1) := by decide +kernel
theorem dL_law_407 : decode cL_law 407 = .ok (.iconst 1, 1) := by decide +kernel
theorem dL_law_408 : decode cL_law 408 = .ok (.isub, 1) := by decide +kernel
theorem dL_law_409 : decode cL_law 409 = .ok (.invokestatic 43, 3) := by decide +kernel
theorem dL_law_412 : decode cL_law 412 = .ok (.aaload, 1) := by decide +kernel
theorem dL_law_413 : decode cL_law 413 = .ok (.iconst 1, 1) := by decide +kernel
theorem dL_law_414 : decode cL_law 414 = .ok (.iaload, 1) := by decide +kernel
theorem dL_law_415 : decode cL_law 415 = .ok (.istore 12, 2) := by decide +kernel
theorem dL_law_417 : decode cL_law 417 = .ok (.aload_n 2, 1) := by decide +kernel
theorem dL_law_418 : decode cL_law 418 = .ok (.getfield 113, 3) := by decide +kernel
theorem dL_law_421 : decode cL_law 421 = .ok (.astore 13, 2) := by decide +kernel
theorem dL_law_423 : decode cL_law 423 = .ok (.aload 13, 2) := by decide +kernel
theorem dL_law_425 : decode cL_law 425 = .ok (.arraylength, 1) := by decide +kernel
theorem dL_law_426 : decode cL_law 426 = .ok (.istore 14, 2) := by decide +kernel
theorem dL_law_428 : decode cL_law 428 = .ok (.iconst 0, 1) := by decide +kernel
theorem dL_law_429 : decode cL_law 429 = .ok (.istore 15, 2) := by decide +kernel
theorem dL_law_431 : decode cL_law 431 = .ok (.iload 15, 2) := by decide +kernel
theorem dL_law_433 : decode cL_law 433 = .ok (.iload 14, 2) := by decide +kernel
theorem dL_law_435 : decode cL_law 435 = .ok (.if_icmp .ge 44, 3) := by decide +kernel
theorem dL_law_438 : decode cL_law 438 = .ok (.aload 13, 2) := by decide +kernel
theorem dL_law_440 : decode cL_law 440 = .ok (.iload 15, 2) := by decide +kernel
theorem dL_law_442 : decode cL_law 442 = .ok (.aaload, 1) := by decide +kernel
theorem dL_law_443 : decode cL_law 443 = .ok (.astore 16, 2) := by decide +kernel
theorem dL_law_445 : decode cL_law 445 = .ok (.aload 16, 2) := by decide +kernel
theorem dL_law_447 : decode cL_law 447 = .ok (.iconst 0, 1) := by decide +kernel
theorem dL_law_448 : decode cL_law 448 = .ok (.iaload, 1) := by decide +kernel
theorem dL_law_449 : decode cL_law 449 = .ok (.aload_n 2, 1) := by decide +kernel
theorem dL_law_450 : decode cL_law 450 = .ok (.getfield 166, 3) := by decide +kernel
theorem dL_law_453 : decode cL_law 453 = .ok (.if_icmp .ne 20, 3) := by decide +kernel
theorem dL_law_456 : decode cL_law 456 = .ok (.iload 6, 2) := by decide +kernel
theorem dL_law_458 : decode cL_law 458 = .ok (.bipush 8, 2) := by decide +kernel
theorem dL_law_460 : decode cL_law 460 = .ok (.ishr, 1) := by decide +kernel
theorem dL_law_461 : decode cL_law 461 = .ok (.iconst 1, 1) := by decide +kernel
theorem dL_law_462 : decode cL_law 462 = .ok (.iand, 1) := by decide +kernel
theorem dL_law_463 : decode cL_law 463 = .ok (.iconst 1, 1) := by decide +kernel
theorem dL_law_464 : decode cL_law 464 = .ok (.if_icmp .ne 9, 3) := by decide +kernel
theorem dL_law_467 : decode cL_law 467 = .ok (.aload 16, 2) := by decide +kernel
theorem dL_law_469 : decode cL_law 469 = .ok (.iconst 1, 1) := by decide +kernel
theorem dL_law_470 : decode cL_law 470 = .ok (.iaload, 1) := by decide +kernel
theorem dL_law_471 : decode cL_law 471 = .ok (.istore 12, 2) := by decide +kernel
theorem dL_law_473 : decode cL_law 473 = .ok (.iinc 15 1, 3) := by decide +kernel
theorem dL_law_476 : decode cL_law 476 = .ok (.goto (-45), 3) := by decide +kernel
theorem dL_law_479 : decode cL_law 479 = .ok (.iload 12, 2) := by decide +kernel
theorem dL_law_481 : decode cL_law 481 = .ok (.bipush 10, 2) := by decide +kernel
theorem dL_law_483 : decode cL_law 483 = .ok (.if_icmp .ge 13, 3) := by decide +kernel
theorem dL_law_486 : decode cL_law 486 = .ok (.aload_n 2, 1) := by decide +kernel
theorem dL_law_487 : decode cL_law 487 = .ok (.iload 12, 2) := by decide +kernel
theorem dL_law_489 : decode cL_law 489 = .ok (.iconst 1, 1) := by decide +kernel
theorem dL_law_490 : decode cL_law 490 = .ok (.invokevirtual 215, 3) := by decide +kernel
theorem dL_law_493 : decode cL_law 493 = .ok (.goto 4, 3) := by decide +kernel
theorem dL_law_496 : decode cL_law 496 = .ok (.iconst (-1), 1) := by decide +kernel
theorem dL_law_497 : decode cL_law 497 = .ok (.istore 13, 2) := by decide +kernel
theorem dL_law_499 : decode cL_law 499 = .ok (.iload 13, 2) := by decide +kernel
theorem dL_law_501 : decode cL_law 501 = .ok (.ifCond .lt 7, 3) := by decide +kernel
theorem dL_law_504 : decode cL_law 504 = .ok (.iconst 1, 1) := by decide +kernel
theorem dL_law_505 : decode cL_law 505 = .ok (.goto 4, 3) := by decide +kernel
theorem dL_law_508 : decode cL_law 508 = .ok (.iconst 0, 1) := by decide +kernel
theorem dL_law_509 : decode cL_law 509 = .ok (.istore 11, 2) := by decide +kernel
theorem dL_law_511 : decode cL_law 511 = .ok (.aload_n 1, 1) := by decide +kernel
theorem dL_law_512 : decode cL_law 512 = .ok (.iload 12, 2) := by decide +kernel
theorem dL_law_514 : decode cL_law 514 = .ok (.invokevirtual 219, 3) := by decide +kernel
theorem dL_law_517 : decode cL_law 517 = .ok (.iload 13, 2) := by decide +kernel
theorem dL_law_519 : decode cL_law 519 = .ok (.if_icmp .eq 5, 3) := by decide +kernel
theorem dL_law_522 : decode cL_law 522 = .ok (.iconst 0, 1) := by decide +kernel
theorem dL_law_523 : decode cL_law 523 = .ok (.ireturn, 1) := by decide +kernel
theorem dL_law_524 : decode cL_law 524 = .ok (.goto 465, 3) := by decide +kernel
theorem dL_law_527 : decode cL_law 527 = .ok (.iload 7, 2) := by decide +kernel
theorem dL_law_529 : decode cL_law 529 = .ok (.bipush 8, 2) := by decide +kernel
theorem dL_law_531 : decode cL_law 531 = .ok (.if_icmp .ne 66, 3) := by decide +kernel
theorem dL_law_534 : decode cL_law 534 = .ok (.iconst 1, 1) := by decide +kernel
theorem dL_law_535 : decode cL_law 535 = .ok (.istore 11, 2) := by decide +kernel
theorem dL_law_537 : decode cL_law 537 = .ok (.aload_n 2, 1) := by decide +kernel
theorem dL_law_538 : decode cL_law 538 = .ok (.invokevirtual 222, 3) := by decide +kernel
theorem dL_law_541 : decode cL_law 541 = .ok (.invokestatic 225, 3) := by decide +kernel
theorem dL_law_544 : decode cL_law 544 = .ok (.istore 12, 2) := by decide +kernel
theorem dL_law_546 : decode cL_law 546 = .ok (.iconst 0, 1) := by decide +kernel
theorem dL_law_547 : decode cL_law 547 = .ok (.istore 13, 2) := by decide +kernel
theorem dL_law_549 : decode cL_law 549 = .ok (.iload 13, 2) := by decide +kernel
theorem dL_law_551 : decode cL_law 551 = .ok (.aload_n 2, 1) := by decide +kernel
theorem dL_law_552 : decode cL_law 552 = .ok (.getfield 37, 3) := by decide +kernel
theorem dL_law_555 : decode cL_law 555 = .ok (.if_icmp .ge 19, 3) := by decide +kernel
theorem dL_law_558 : decode cL_law 558 = .ok (.aload_n 2, 1) := by decide +kernel
theorem dL_law_559 : decode cL_law 559 = .ok (.getfield 52, 3) := by decide +kernel
theorem dL_law_562 : decode cL_law 562 = .ok (.iload 13, 2) := by decide +kernel
theorem dL_law_564 : decode cL_law 564 = .ok (.aaload, 1) := by decide +kernel
theorem dL_law_565 : decode cL_law 565 = .ok (.iconst 2, 1) := by decide +kernel
theorem dL_law_566 : decode cL_law 566 = .ok (.iconst 0, 1) := by decide +kernel
theorem dL_law_567 : decode cL_law 567 = .ok (.iastore, 1) := by decide +kernel
theorem dL_law_568 : decode cL_law 568 = .ok (.iinc 13 1, 3) := by decide +kernel
theorem dL_law_571 : decode cL_law 571 = .ok (.goto (-22), 3) := by decide +kernel
theorem dL_law_574 : decode cL_law 574 = .ok (.aload_n 2, 1) := by decide +kernel
theorem dL_law_575 : decode cL_law 575 = .ok (.bipush 6, 2) := by decide +kernel
theorem dL_law_577 : decode cL_law 577 = .ok (.iconst (-1), 1) := by decide +kernel
theorem dL_law_578 : decode cL_law 578 = .ok (.iconst 0, 1) := by decide +kernel
theorem dL_law_579 : decode cL_law 579 = .ok (.iconst 1, 1) := by decide +kernel
theorem dL_law_580 : decode cL_law 580 = .ok (.invokevirtual 230, 3) := by decide +kernel
theorem dL_law_583 : decode cL_law 583 = .ok (.aload_n 1, 1) := by decide +kernel
theorem dL_law_584 : decode cL_law 584 = .ok (.invokevirtual 234, 3) := by decide +kernel
theorem dL_law_587 : decode cL_law 587 = .ok (.iload 12, 2) := by decide +kernel
theorem dL_law_589 : decode cL_law 589 = .ok (.if_icmp .eq 5, 3) := by decide +kernel
theorem dL_law_592 : decode cL_law 592 = .ok (.iconst 0, 1) := by decide +kernel
theorem dL_law_593 : decode cL_law 593 = .ok (.ireturn, 1) := by decide +kernel
theorem dL_law_594 : decode cL_law 594 = .ok (.goto 395, 3) := by decide +kernel
theorem dL_law_597 : decode cL_law 597 = .ok (.iload 7, 2) := by decide +kernel
theorem dL_law_599 : decode cL_law 599 = .ok (.bipush 9, 2) := by decide +kernel
theorem dL_law_601 : decode cL_law 601 = .ok (.if_icmp .ne 227, 3) := by decide +kernel
theorem dL_law_604 : decode cL_law 604 = .ok (.iload 6, 2) := by decide +kernel
theorem dL_law_606 : decode cL_law 606 = .ok (.iconst 4, 1) := by decide +kernel
theorem dL_law_607 : decode cL_law 607 = .ok (.ishr, 1) := by decide +kernel
theorem dL_law_608 : decode cL_law 608 = .ok (.iconst 0, 1) := by decide +kernel
theorem dL_law_609 : decode cL_law 609 = .ok (.bipush 6, 2) := by decide +kernel
theorem dL_law_611 : decode cL_law 611 = .ok (.invokestatic 43, 3) := by decide +kernel
theorem dL_law_614 : decode cL_law 614 = .ok (.istore 12, 2) := by decide +kernel
theorem dL_law_616 : decode cL_law 616 = .ok (.iload 12, 2) := by decide +kernel
theorem dL_law_618 : decode cL_law 618 = .ok (.iconst 2, 1) := by decide +kernel
theorem dL_law_619 : decode cL_law 619 = .ok (.if_icmp .ne 8, 3) := by decide +kernel
theorem dL_law_622 : decode cL_law 622 = .ok (.iload 8, 2) := by decide +kernel
theorem dL_law_624 : decode cL_law 624 = .ok (.goto 5, 3) := by decide +kernel
theorem dL_law_627 : decode cL_law 627 = .ok (.iload 9, 2) := by decide +kernel
theorem dL_law_629 : decode cL_law 629 = .ok (.istore 13, 2) := by decide +kernel
theorem dL_law_631 : decode cL_law 631 = .ok (.iload 6, 2) := by decide +kernel
theorem dL_law_633 : decode cL_law 633 = .ok (.bipush 6, 2) := by decide +kernel
theorem dL_law_635 : decode cL_law 635 = .ok (.ishr, 1) := by decide +kernel
theorem dL_law_636 : decode cL_law 636 = .ok (.iconst 0, 1) := by decide +kernel
theorem dL_law_637 : decode cL_law 637 = .ok (.iload 12, 2) := by decide +kernel
theorem dL_law_639 : decode cL_law 639 = .ok (.iconst 3, 1) := by decide +kernel
theorem dL_law_640 : decode cL_law 640 = .ok (.if_icmp .ne 8, 3) := by decide +kernel
theorem dL_law_643 : decode cL_law 643 = .ok (.bipush 100, 2) := by decide +kernel
theorem dL_law_645 : decode cL_law 645 = .ok (.goto 5, 3) := by decide +kernel
theorem dL_law_648 : decode cL_law 648 = .ok (.bipush 10, 2) := by decide +kernel
theorem dL_law_650 : decode cL_law 650 = .ok (.invokestatic 43, 3) := by decide +kernel
theorem dL_law_653 : decode cL_law 653 = .ok (.istore 14, 2) := by decide +kernel
theorem dL_law_655 : decode cL_law 655 = .ok (.bipush 7, 2) := by decide +kernel
theorem dL_law_657 : decode cL_law 657 = .ok (.newarray .int, 2) := by decide +kernel
theorem dL_law_659 : decode cL_law 659 = .ok (.dup, 1) := by decide +kernel
theorem dL_law_660 : decode cL_law 660 = .ok (.iconst 0, 1) := by decide +kernel
theorem dL_law_661 : decode cL_law 661 = .ok (.bipush 9, 2) := by decide +kernel
theorem dL_law_663 : decode cL_law 663 = .ok (.iastore, 1) := by decide +kernel
theorem dL_law_664 : decode cL_law 664 = .ok (.dup, 1) := by decide +kernel
theorem dL_law_665 : decode cL_law 665 = .ok (.iconst 1, 1) := by decide +kernel
theorem dL_law_666 : decode cL_law 666 = .ok (.bipush 9, 2) := by decide +kernel
theorem dL_law_668 : decode cL_law 668 = .ok (.iastore, 1) := by decide +kernel
theorem dL_law_669 : decode cL_law 669 = .ok (.dup, 1) := by decide +kernel
theorem dL_law_670 : decode cL_law 670 = .ok (.iconst 2, 1) := by decide +kernel
theorem dL_law_671 : decode cL_law 671 = .ok (.iconst 1, 1) := by decide +kernel
theorem dL_law_672 : decode cL_law 672 = .ok (.iastore, 1) := by decide +kernel
theorem dL_law_673 : decode cL_law 673 = .ok (.dup, 1) := by decide +kernel
theorem dL_law_674 : decode cL_law 674 = .ok (.iconst 3, 1) := by decide +kernel
theorem dL_law_675 : decode cL_law 675 = .ok (.bipush 99, 2) := by decide +kernel
theorem dL_law_677 : decode cL_law 677 = .ok (.iastore, 1) := by decide +kernel
theorem dL_law_678 : decode cL_law 678 = .ok (.dup, 1) := by decide +kernel
theorem dL_law_679 : decode cL_law 679 = .ok (.iconst 4, 1) := by decide +kernel
theorem dL_law_680 : decode cL_law 680 = .ok (.bipush 9, 2) := by decide +kernel
theorem dL_law_682 : decode cL_law 682 = .ok (.iastore, 1) := by decide +kernel
theorem dL_law_683 : decode cL_law 683 = .ok (.dup, 1) := by decide +kernel
theorem dL_law_684 : decode cL_law 684 = .ok (.iconst 5, 1) := by decide +kernel
theorem dL_law_685 : decode cL_law 685 = .ok (.bipush 9, 2) := by decide +kernel
theorem dL_law_687 : decode cL_law 687 = .ok (.iastore, 1) := by decide +kernel
theorem dL_law_688 : decode cL_law 688 = .ok (.dup, 1) := by decide +kernel
theorem dL_law_689 : decode cL_law 689 = .ok (.bipush 6, 2) := by decide +kernel
theorem dL_law_691 : decode cL_law 691 = .ok (.iconst (-1), 1) := by decide +kernel
theorem dL_law_692 : decode cL_law 692 = .ok (.iastore, 1) := by decide +kernel
theorem dL_law_693 : decode cL_law 693 = .ok (.astore 15, 2) := by decide +kernel
theorem dL_law_695 : decode cL_law 695 = .ok (.iload 14, 2) := by decide +kernel
theorem dL_law_697 : decode cL_law 697 = .ok (.aload 15, 2) := by decide +kernel
theorem dL_law_699 : decode cL_law 699 = .ok (.iload 12, 2) := by decide +kernel
theorem dL_law_701 : decode cL_law 701 = .ok (.iaload, 1) := by decide +kernel
theorem dL_law_702 : decode cL_law 702 = .ok (.if_icmp .gt 35, 3) := by decide +kernel
theorem dL_law_705 : decode cL_law 705 = .ok (.iload 12, 2) := by decide +kernel
theorem dL_law_707 : decode cL_law 707 = .ok (.iconst 2, 1) := by decide +kernel
theorem dL_law_708 : decode cL_law 708 = .ok (.if_icmp .lt 25, 3) := by decide +kernel
theorem dL_law_711 : decode cL_law 711 = .ok (.iload 13, 2) := by decide +kernel
theorem dL_law_713 : decode cL_law 713 = .ok (.iload 12, 2) := by decide +kernel
theorem dL_law_715 : decode cL_law 715 = .ok (.iconst 2, 1) := by decide +kernel
theorem dL_law_716 : decode cL_law 716 = .ok (.if_icmp .ne 10, 3) := by decide +kernel
theorem dL_law_719 : decode cL_law 719 = .ok (.aload_n 2, 1) := by decide +kernel
theorem dL_law_720 : decode cL_law 720 = .ok (.getfield 37, 3) := by decide +kernel
theorem dL_law_723 : decode cL_law 723 = .ok (.goto 7, 3) := by decide +kernel
theorem dL_law_726 : decode cL_law 726 = .ok (.aload_n 2, 1) := by decide +kernel
theorem dL_law_727 : decode cL_law 727 = .ok (.getfield 103, 3) := by decide +kernel
theorem dL_law_730 : decode cL_law 730 = .ok (.if_icmp .ge 7, 3) := by decide +kernel
theorem dL_law_733 : decode cL_law 733 = .ok (.iconst 1, 1) := by decide +kernel
theorem dL_law_734 : decode cL_law 734 = .ok (.goto 4, 3) := by decide +kernel
theorem dL_law_737 : decode cL_law 737 = .ok (.iconst 0, 1) := by decide +kernel
theorem dL_law_738 : decode cL_law 738 = .ok (.istore 16, 2) := by decide +kernel
theorem dL_law_740 : decode cL_law 740 = .ok (.aload_n 1, 1) := by decide +kernel
theorem dL_law_741 : decode cL_law 741 = .ok (.iload 12, 2) := by decide +kernel
theorem dL_law_743 : decode cL_law 743 = .ok (.iload 13, 2) := by decide +kernel
theorem dL_law_745 : decode cL_law 745 = .ok (.iload 14, 2) := by decide +kernel
theorem dL_law_747 : decode cL_law 747 = .ok (.invokevirtual 148, 3) := by decide +kernel
theorem dL_law_750 : decode cL_law 750 = .ok (.iload 16, 2) := by decide +kernel
theorem dL_law_752 : decode cL_law 752 = .ok (.if_icmp .eq 5, 3) := by decide +kernel
theorem dL_law_755 : decode cL_law 755 = .ok (.iconst 0, 1) := by decide +kernel
theorem dL_law_756 : decode cL_law 756 = .ok (.ireturn, 1) := by decide +kernel
theorem dL_law_757 : decode cL_law 757 = .ok (.iload 16, 2) := by decide +kernel
theorem dL_law_759 : decode cL_law 759 = .ok (.ifCond .eq 66, 3) := by decide +kernel
theorem dL_law_762 : decode cL_law 762 = .ok (.iload 12, 2) := by decide +kernel
theorem dL_law_764 : decode cL_law 764 = .ok (.ifCond .ne 9, 3) := by decide +kernel
theorem dL_law_767 : decode cL_law 767 = .ok (.aload_n 2, 1) := by decide +kernel
theorem dL_law_768 : decode cL_law 768 = .ok (.iload 14, 2) := by decide +kernel
theorem dL_law_770 : decode cL_law 770 = .ok (.putfield 163, 3) := by decide +kernel
theorem dL_law_773 : decode cL_law 773 = .ok (.iload 12, 2) := by decide +kernel
theorem dL_law_775 : decode cL_law 775 = .ok (.iconst 1, 1) := by decide +kernel
theorem dL_law_776 : decode cL_law 776 = .ok (.if_icmp .ne 9, 3) := by decide +kernel
theorem dL_law_779 : decode cL_law 779 = .ok (.aload_n 2, 1) := by decide +kernel
theorem dL_law_780 : decode cL_law 780 = .ok (.iload 14, 2) := by decide +kernel
theorem dL_law_782 : decode cL_law 782 = .ok (.putfield 166, 3) := by decide +kernel
theorem dL_law_785 : decode cL_law 785 = .ok (.iload 12, 2) := by decide +kernel
theorem dL_law_787 : decode cL_law 787 = .ok (.iconst 2, 1) := by decide +kernel
theorem dL_law_788 : decode cL_law 788 = .ok (.if_icmp .ne 14, 3) := by decide +kernel
theorem dL_law_791 : decode cL_law 791 = .ok (.aload_n 2, 1) := by decide +kernel
theorem dL_law_792 : decode cL_law 792 = .ok (.getfield 52, 3) := by decide +kernel
theorem dL_law_795 : decode cL_law 795 = .ok (.iload 8, 2) := by decide +kernel
theorem dL_law_797 : decode cL_law 797 = .ok (.aaload, 1) := by decide +kernel
theorem dL_law_798 : decode cL_law 798 = .ok (.iconst 2, 1) := by decide +kernel
theorem dL_law_799 : decode cL_law 799 = .ok (.iload 14, 2) := by decide +kernel
theorem dL_law_801 : decode cL_law 801 = .ok (.iastore, 1) := by decide +kernel
theorem dL_law_802 : decode cL_law 802 = .ok (.iload 12, 2) := by decide +kernel
theorem dL_law_804 : decode cL_law 804 = .ok (.iconst 2, 1) := by decide +kernel
theorem dL_law_805 : decode cL_law 805 = .ok (.if_icmp .le 17, 3) := by decide +kernel
theorem dL_law_808 : decode cL_law 808 = .ok (.aload_n 2, 1) := by decide +kernel
theorem dL_law_809 : decode cL_law 809 = .ok (.getfield 152, 3) := by decide +kernel
theorem dL_law_812 : decode cL_law 812 = .ok (.iload 9, 2) := by decide +kernel
theorem dL_law_814 : decode cL_law 814 = .ok (.aaload, 1) := by decide +kernel
theorem dL_law_815 : decode cL_law 815 = .ok (.iload 12, 2) := by decide +kernel
theorem dL_law_817 : decode cL_law 817 = .ok (.iconst 3, 1) := by decide +kernel
theorem dL_law_818 : decode cL_law 818 = .ok (.isub, 1) := by decide +kernel
theorem dL_law_819 : decode cL_law 819 = .ok (.iload 14, 2) := by decide +kernel
theorem dL_law_821 : decode cL_law 821 = .ok (.iastore, 1) := by decide +kernel
theorem dL_law_822 : decode cL_law 822 = .ok (.iconst 0, 1) := by decide +kernel
theorem dL_law_823 : decode cL_law 823 = .ok (.istore 4, 2) := by decide +kernel
theorem dL_law_825 : decode cL_law 825 = .ok (.goto 164, 3) := by decide +kernel
theorem dL_law_828 : decode cL_law 828 = .ok (.iload 7, 2) := by decide +kernel
theorem dL_law_830 : decode cL_law 830 = .ok (.bipush 10, 2) := by decide +kernel
theorem dL_law_832 : decode cL_law 832 = .ok (.if_icmp .ne 90, 3) := by decide +kernel
theorem dL_law_835 : decode cL_law 835 = .ok (.iload 6, 2) := by decide +kernel
theorem dL_law_837 : decode cL_law 837 = .ok (.bipush 6, 2) := by decide +kernel
theorem dL_law_839 : decode cL_law 839 = .ok (.ishr, 1) := by decide +kernel
theorem dL_law_840 : decode cL_law 840 = .ok (.iconst 0, 1) := by decide +kernel
theorem dL_law_841 : decode cL_law 841 = .ok (.bipush 100, 2) := by decide +kernel
theorem dL_law_843 : decode cL_law 843 = .ok (.invokestatic 43, 3) := by decide +kernel
theorem dL_law_846 : decode cL_law 846 = .ok (.istore 12, 2) := by decide +kernel
theorem dL_law_848 : decode cL_law 848 = .ok (.iload 8, 2) := by decide +kernel
theorem dL_law_850 : decode cL_law 850 = .ok (.aload_n 2, 1) := by decide +kernel
theorem dL_law_851 : decode cL_law 851 = .ok (.getfield 37, 3) := by decide +kernel
theorem dL_law_854 : decode cL_law 854 = .ok (.if_icmp .ge 23, 3) := by decide +kernel
theorem dL_law_857 : decode cL_law 857 = .ok (.iload 9, 2) := by decide +kernel
theorem dL_law_859 : decode cL_law 859 = .ok (.aload_n 2, 1) := by decide +kernel
theorem dL_law_860 : decode cL_law 860 = .ok (.getfield 103, 3) := by decide +kernel
theorem dL_law_863 : decode cL_law 863 = .ok (.if_icmp .ge 14, 3) := by decide +kernel
theorem dL_law_866 : decode cL_law 866 = .ok (.iload 12, 2) := by decide +kernel
theorem dL_law_868 : decode cL_law 868 = .ok (.bipush 100, 2) := by decide +kernel
theorem dL_law_870 : decode cL_law 870 = .ok (.if_icmp .ge 7, 3) := by decide +kernel
theorem dL_law_873 : decode cL_law 873 = .ok (.iconst 1, 1) := by decide +kernel
theorem dL_law_874 : decode cL_law 874 = .ok (.goto 4, 3) := by decide +kernel
theorem dL_law_877 : decode cL_law 877 = .ok (.iconst 0, 1) := by decide +kernel
theorem dL_law_878 : decode cL_law 878 = .ok (.istore 13, 2) := by decide +kernel
theorem dL_law_880 : decode cL_law 880 = .ok (.aload_n 1, 1) := by decide +kernel
theorem dL_law_881 : decode cL_law 881 = .ok (.iload 8, 2) := by decide +kernel
theorem dL_law_883 : decode cL_law 883 = .ok (.iload 9, 2) := by decide +kernel
theorem dL_law_885 : decode cL_law 885 = .ok (.iload 12, 2) := by decide +kernel
theorem dL_law_887 : decode cL_law 887 = .ok (.invokevirtual 160, 3) := by decide +kernel
theorem dL_law_890 : decode cL_law 890 = .ok (.iload 13, 2) := by decide +kernel
theorem dL_law_892 : decode cL_law 892 = .ok (.if_icmp .eq 5, 3) := by decide +kernel
theorem dL_law_895 : decode cL_law 895 = .ok (.iconst 0, 1) := by decide +kernel
theorem dL_law_896 : decode cL_law 896 = .ok (.ireturn, 1) := by decide +kernel
theorem dL_law_897 : decode cL_law 897 = .ok (.iload 13, 2) := by decide +kernel
theorem dL_law_899 : decode cL_law 899 = .ok (.ifCond .eq 20, 3) := by decide +kernel
theorem dL_law_902 : decode cL_law 902 = .ok (.aload_n 2, 1) := by decide +kernel
theorem dL_law_903 : decode cL_law 903 = .ok (.getfield 52, 3) := by decide +kernel
theorem dL_law_906 : decode cL_law 906 = .ok (.iload 8, 2) := by decide +kernel
theorem dL_law_908 : decode cL_law 908 = .ok (.aaload, 1) := by decide +kernel
theorem dL_law_909 : decode cL_law 909 = .ok (.iconst 5, 1) := by decide +kernel
theorem dL_law_910 : decode cL_law 910 = .ok (.iload 9, 2) := by decide +kernel
theorem dL_law_912 : decode cL_law 912 = .ok (.iadd, 1) := by decide +kernel
theorem dL_law_913 : decode cL_law 913 = .ok (.iload 12, 2) := by decide +kernel
theorem dL_law_915 : decode cL_law 915 = .ok (.iastore, 1) := by decide +kernel
theorem dL_law_916 : decode cL_law 916 = .ok (.iconst 0, 1) := by decide +kernel
theorem dL_law_917 : decode cL_law 917 = .ok (.istore 4, 2) := by decide +kernel
theorem dL_law_919 : decode cL_law 919 = .ok (.goto 70, 3) := by decide +kernel
theorem dL_law_922 : decode cL_law 922 = .ok (.iload 7, 2) := by decide +kernel
theorem dL_law_924 : decode cL_law 924 = .ok (.bipush 11, 2) := by decide +kernel
theorem dL_law_926 : decode cL_law 926 = .ok (.if_icmp .ne 31, 3) := by decide +kernel
theorem dL_law_929 : decode cL_law 929 = .ok (.iload 6, 2) := by decide +kernel
theorem dL_law_931 : decode cL_law 931 = .ok (.bipush 6, 2) := by decide +kernel
theorem dL_law_933 : decode cL_law 933 = .ok (.ishr, 1) := by decide +kernel
theorem dL_law_934 : decode cL_law 934 = .ok (.iconst 1, 1) := by decide +kernel
theorem dL_law_935 : decode cL_law 935 = .ok (.iand, 1) := by decide +kernel
theorem dL_law_936 : decode cL_law 936 = .ok (.ifCond .ne 53, 3) := by decide +kernel
theorem dL_law_939 : decode cL_law 939 = .ok (.aload_n 1, 1) := by decide +kernel
theorem dL_law_940 : decode cL_law 940 = .ok (.aload_n 2, 1) := by decide +kernel
theorem dL_law_941 : decode cL_law 941 = .ok (.iload 6, 2) := by decide +kernel
theorem dL_law_943 : decode cL_law 943 = .ok (.invokestatic 169, 3) := by decide +kernel
theorem dL_law_946 : decode cL_law 946 = .ok (.ifCond .ne 5, 3) := by decide +kernel
theorem dL_law_949 : decode cL_law 949 = .ok (.iconst 0, 1) := by decide +kernel
theorem dL_law_950 : decode cL_law 950 = .ok (.ireturn, 1) := by decide +kernel
theorem dL_law_951 : decode cL_law 951 = .ok (.iconst 0, 1) := by decide +kernel
theorem dL_law_952 : decode cL_law 952 = .ok (.istore 4, 2) := by decide +kernel
theorem dL_law_954 : decode cL_law 954 = .ok (.goto 35, 3) := by decide +kernel
theorem dL_law_957 : decode cL_law 957 = .ok (.aload_n 1, 1) := by decide +kernel
theorem dL_law_958 : decode cL_law 958 = .ok (.invokevirtual 237, 3) := by decide +kernel
theorem dL_law_961 : decode cL_law 961 = .ok (.iload 4, 2) := by decide +kernel
theorem dL_law_963 : decode cL_law 963 = .ok (.ifCond .le 7, 3) := by decide +kernel
theorem dL_law_966 : decode cL_law 966 = .ok (.iconst 1, 1) := by decide +kernel
theorem dL_law_967 : decode cL_law 967 = .ok (.goto 4, 3) := by decide +kernel
theorem dL_law_970 : decode cL_law 970 = .ok (.iconst 0, 1) := by decide +kernel
theorem dL_law_971 : decode cL_law 971 = .ok (.if_icmp .eq 5, 3) := by decide +kernel
theorem dL_law_974 : decode cL_law 974 = .ok (.iconst 0, 1) := by decide +kernel
theorem dL_law_975 : decode cL_law 975 = .ok (.ireturn, 1) := by decide +kernel
theorem dL_law_976 : decode cL_law 976 = .ok (.iload 4, 2) := by decide +kernel
theorem dL_law_978 : decode cL_law 978 = .ok (.ifCond .le 11, 3) := by decide +kernel
theorem dL_law_981 : decode cL_law 981 = .ok (.aload_n 3, 1) := by decide +kernel
theorem dL_law_982 : decode cL_law 982 = .ok (.iinc 4 (-1), 3) := by decide +kernel
theorem dL_law_985 : decode cL_law 985 = .ok (.iload 4, 2) := by decide +kernel
theorem dL_law_987 : decode cL_law 987 = .ok (.aaload, 1) := by decide +kernel
theorem dL_law_988 : decode cL_law 988 = .ok (.astore_n 2, 1) := by decide +kernel
theorem dL_law_989 : decode cL_law 989 = .ok (.iload 11, 2) := by decide +kernel
theorem dL_law_991 : decode cL_law 991 = .ok (.ifCond .eq 48, 3) := by decide +kernel
theorem dL_law_994 : decode cL_law 994 = .ok (.iload 4, 2) := by decide +kernel
theorem dL_law_996 : decode cL_law 996 = .ok (.bipush 6, 2) := by decide +kernel
theorem dL_law_998 : decode cL_law 998 = .ok (.if_icmp .ne 32, 3) := by decide +kernel
theorem dL_law_1001 : decode cL_law 1001 = .ok (.iconst 1, 1) := by decide +kernel
theorem dL_law_1002 : decode cL_law 1002 = .ok (.istore 12, 2) := by decide +kernel
theorem dL_law_1004 : decode cL_law 1004 = .ok (.iload 12, 2) := by decide +kernel
theorem dL_law_1006 : decode cL_law 1006 = .ok (.bipush 6, 2) := by decide +kernel
theorem dL_law_1008 : decode cL_law 1008 = .ok (.if_icmp .ge 19, 3) := by decide +kernel
theorem dL_law_1011 : decode cL_law 1011 = .ok (.aload_n 3, 1) := by decide +kernel
theorem dL_law_1012 : decode cL_law 1012 = .ok (.iload 12, 2) := by decide +kernel
theorem dL_law_1014 : decode cL_law 1014 = .ok (.iconst 1, 1) := by decide +kernel
theorem dL_law_1015 : decode cL_law 1015 = .ok (.isub, 1) := by decide +kernel
theorem dL_law_1016 : decode cL_law 1016 = .ok (.aload_n 3, 1) := by decide +kernel
theorem dL_law_1017 : decode cL_law 1017 = .ok (.iload 12, 2) := by decide +kernel
theorem dL_law_1019 : decode cL_law 1019 = .ok (.aaload, 1) := by decide +kernel
theorem dL_law_1020 : decode cL_law 1020 = .ok (.aastore, 1) := by decide +kernel
theorem dL_law_1021 : decode cL_law 1021 = .ok (.iinc 12 1, 3) := by decide +kernel
theorem dL_law_1024 : decode cL_law 1024 = .ok (.goto (-20), 3) := by decide +kernel
theorem dL_law_1027 : decode cL_law 1027 = .ok (.iinc 4 (-1), 3) := by decide +kernel
theorem dL_law_1030 : decode cL_law 1030 = .ok (.aload_n 3, 1) := by decide +kernel
theorem dL_law_1031 : decode cL_law 1031 = .ok (.iload 4, 2) := by decide +kernel
theorem dL_law_1033 : decode cL_law 1033 = .ok (.iinc 4 1, 3) := by decide +kernel
theorem dL_law_1036 : decode cL_law 1036 = .ok (.aload 10, 2) := by decide +kernel
theorem dL_law_1038 : decode cL_law 1038 = .ok (.aastore, 1) := by decide +kernel
theorem dL_law_1039 : decode cL_law 1039 = .ok (.aload_n 1, 1) := by decide +kernel
theorem dL_law_1040 : decode cL_law 1040 = .ok (.bipush 17, 2) := by decide +kernel
theorem dL_law_1042 : decode cL_law 1042 = .ok (.invokevirtual 241, 3) := by decide +kernel
theorem dL_law_1045 : decode cL_law 1045 = .ok (.iload 4, 2) := by decide +kernel
theorem dL_law_1047 : decode cL_law 1047 = .ok (.if_icmp .ne 11, 3) := by decide +kernel
theorem dL_law_1050 : decode cL_law 1050 = .ok (.aload_n 2, 1) := by decide +kernel
theorem dL_law_1051 : decode cL_law 1051 = .ok (.aload_n 1, 1) := by decide +kernel
theorem dL_law_1052 : decode cL_law 1052 = .ok (.invokevirtual 183, 3) := by decide +kernel
theorem dL_law_1055 : decode cL_law 1055 = .ok (.ifCond .ne 5, 3) := by decide +kernel
theorem dL_law_1058 : decode cL_law 1058 = .ok (.iconst 0, 1) := by decide +kernel
theorem dL_law_1059 : decode cL_law 1059 = .ok (.ireturn, 1) := by decide +kernel
theorem dL_law_1060 : decode cL_law 1060 = .ok (.iinc 5 1, 3) := by decide +kernel
theorem dL_law_1063 : decode cL_law 1063 = .ok (.goto (-1022), 3) := by decide +kernel
theorem dL_law_1066 : decode cL_law 1066 = .ok (.aload_n 1, 1) := by decide +kernel
theorem dL_law_1067 : decode cL_law 1067 = .ok (.iconst 0, 1) := by decide +kernel
theorem dL_law_1068 : decode cL_law 1068 = .ok (.invokevirtual 195, 3) := by decide +kernel
theorem dL_law_1071 : decode cL_law 1071 = .ok (.iconst (-1), 1) := by decide +kernel
theorem dL_law_1072 : decode cL_law 1072 = .ok (.if_icmp .ne 198, 3) := by decide +kernel
theorem dL_law_1075 : decode cL_law 1075 = .ok (.aload_n 1, 1) := by decide +kernel
theorem dL_law_1076 : decode cL_law 1076 = .ok (.bipush 61, 2) := by decide +kernel
theorem dL_law_1078 : decode cL_law 1078 = .ok (.invokevirtual 195, 3) := by decide +kernel
theorem dL_law_1081 : decode cL_law 1081 = .ok (.iconst (-1), 1) := by decide +kernel
theorem dL_law_1082 : decode cL_law 1082 = .ok (.if_icmp .ne 188, 3) := by decide +kernel
theorem dL_law_1085 : decode cL_law 1085 = .ok (.aload_n 1, 1) := by decide +kernel
theorem dL_law_1086 : decode cL_law 1086 = .ok (.iconst 0, 1) := by decide +kernel
theorem dL_law_1087 : decode cL_law 1087 = .ok (.iconst 0, 1) := by decide +kernel
theorem dL_law_1088 : decode cL_law 1088 = .ok (.invokevirtual 146, 3) := by decide +kernel
theorem dL_law_1091 : decode cL_law 1091 = .ok (.iconst (-1), 1) := by decide +kernel
theorem dL_law_1092 : decode cL_law 1092 = .ok (.if_icmp .ne 178, 3) := by decide +kernel
theorem dL_law_1095 : decode cL_law 1095 = .ok (.aload_n 1, 1) := by decide +kernel
theorem dL_law_1096 : decode cL_law 1096 = .ok (.bipush 41, 2) := by decide +kernel
theorem dL_law_1098 : decode cL_law 1098 = .ok (.iconst 0, 1) := by decide +kernel
theorem dL_law_1099 : decode cL_law 1099 = .ok (.invokevirtual 146, 3) := by decide +kernel
theorem dL_law_1102 : decode cL_law 1102 = .ok (.iconst (-1), 1) := by decide +kernel
theorem dL_law_1103 : decode cL_law 1103 = .ok (.if_icmp .ne 167, 3) := by decide +kernel
theorem dL_law_1106 : decode cL_law 1106 = .ok (.aload_n 1, 1) := by decide +kernel
theorem dL_law_1107 : decode cL_law 1107 = .ok (.iconst 1, 1) := by decide +kernel
theorem dL_law_1108 : decode cL_law 1108 = .ok (.bipush 41, 2) := by decide +kernel
theorem dL_law_1110 : decode cL_law 1110 = .ok (.invokevirtual 146, 3) := by decide +kernel
theorem dL_law_1113 : decode cL_law 1113 = .ok (.iconst (-1), 1) := by decide +kernel
theorem dL_law_1114 : decode cL_law 1114 = .ok (.if_icmp .ne 156, 3) := by decide +kernel
theorem dL_law_1117 : decode cL_law 1117 = .ok (.aload_n 1, 1) := by decide +kernel
theorem dL_law_1118 : decode cL_law 1118 = .ok (.bipush 100, 2) := by decide +kernel
theorem dL_law_1120 : decode cL_law 1120 = .ok (.iconst 0, 1) := by decide +kernel
theorem dL_law_1121 : decode cL_law 1121 = .ok (.iconst 0, 1) := by decide +kernel
theorem dL_law_1122 : decode cL_law 1122 = .ok (.invokevirtual 155, 3) := by decide +kernel
theorem dL_law_1125 : decode cL_law 1125 = .ok (.iconst (-1), 1) := by decide +kernel
theorem dL_law_1126 : decode cL_law 1126 = .ok (.if_icmp .ne 144, 3) := by decide +kernel
theorem dL_law_1129 : decode cL_law 1129 = .ok (.aload_n 1, 1) := by decide +kernel
theorem dL_law_1130 : decode cL_law 1130 = .ok (.iconst 0, 1) := by decide +kernel
theorem dL_law_1131 : decode cL_law 1131 = .ok (.bipush 10, 2) := by decide +kernel
theorem dL_law_1133 : decode cL_law 1133 = .ok (.iconst 0, 1) := by decide +kernel
theorem dL_law_1134 : decode cL_law 1134 = .ok (.invokevirtual 155, 3) := by decide +kernel
theorem dL_law_1137 : decode cL_law 1137 = .ok (.iconst (-1), 1) := by decide +kernel
theorem dL_law_1138 : decode cL_law 1138 = .ok (.if_icmp .ne 132, 3) := by decide +kernel
theorem dL_law_1141 : decode cL_law 1141 = .ok (.aload_n 1, 1) := by decide +kernel
theorem dL_law_1142 : decode cL_law 1142 = .ok (.iconst 0, 1) := by decide +kernel
theorem dL_law_1143 : decode cL_law 1143 = .ok (.iconst 0, 1) := by decide +kernel
theorem dL_law_1144 : decode cL_law 1144 = .ok (.bipush 10, 2) := by decide +kernel
theorem dL_law_1146 : decode cL_law 1146 = .ok (.invokevirtual 155, 3) := by decide +kernel
theorem dL_law_1149 : decode cL_law 1149 = .ok (.iconst (-1), 1) := by decide +kernel
theorem dL_law_1150 : decode cL_law 1150 = .ok (.if_icmp .ne 120, 3) := by decide +kernel
theorem dL_law_1153 : decode cL_law 1153 = .ok (.aload_n 1, 1) := by decide +kernel
theorem dL_law_1154 : decode cL_law 1154 = .ok (.iconst 1, 1) := by decide +kernel
theorem dL_law_1155 : decode cL_law 1155 = .ok (.iconst 0, 1) := by decide +kernel
theorem dL_law_1156 : decode cL_law 1156 = .ok (.bipush 10, 2) := by decide +kernel
theorem dL_law_1158 : decode cL_law 1158 = .ok (.invokevirtual 148, 3) := by decide +kernel
theorem dL_law_1161 : decode cL_law 1161 = .ok (.ifCond .ne 109, 3) := by decide +kernel
theorem dL_law_1164 : decode cL_law 1164 = .ok (.aload_n 1, 1) := by decide +kernel
theorem dL_law_1165 : decode cL_law 1165 = .ok (.iconst 2, 1) := by decide +kernel
theorem dL_law_1166 : decode cL_law 1166 = .ok (.aload_n 2, 1) := by decide +kernel
theorem dL_law_1167 : decode cL_law 1167 = .ok (.getfield 37, 3) := by decide +kernel
theorem dL_law_1170 : decode cL_law 1170 = .ok (.iconst 0, 1) := by decide +kernel
theorem dL_law_1171 : decode cL_law 1171 = .ok (.invokevirtual 148, 3) := by decide +kernel
theorem dL_law_1174 : decode cL_law 1174 = .ok (.ifCond .ne 96, 3) := by decide +kernel
theorem dL_law_1177 : decode cL_law 1177 = .ok (.aload_n 1, 1) := by decide +kernel
theorem dL_law_1178 : decode cL_law 1178 = .ok (.iconst 0, 1) := by decide +kernel
theorem dL_law_1179 : decode cL_law 1179 = .ok (.iconst (-1), 1) := by decide +kernel
theorem dL_law_1180 : decode cL_law 1180 = .ok (.iconst 0, 1) := by decide +kernel
theorem dL_law_1181 : decode cL_law 1181 = .ok (.invokevirtual 160, 3) := by decide +kernel
theorem dL_law_1184 : decode cL_law 1184 = .ok (.ifCond .ne 86, 3) := by decide +kernel
theorem dL_law_1187 : decode cL_law 1187 = .ok (.aload_n 1, 1) := by decide +kernel
theorem dL_law_1188 : decode cL_law 1188 = .ok (.iconst 3, 1) := by decide +kernel
theorem dL_law_1189 : decode cL_law 1189 = .ok (.iconst 0, 1) := by decide +kernel
theorem dL_law_1190 : decode cL_law 1190 = .ok (.iconst 0, 1) := by decide +kernel
theorem dL_law_1191 : decode cL_law 1191 = .ok (.invokevirtual 212, 3) := by decide +kernel
theorem dL_law_1194 : decode cL_law 1194 = .ok (.ifCond .ne 76, 3) := by decide +kernel
theorem dL_law_1197 : decode cL_law 1197 = .ok (.aload_n 1, 1) := by decide +kernel
theorem dL_law_1198 : decode cL_law 1198 = .ok (.iconst 1, 1) := by decide +kernel
theorem dL_law_1199 : decode cL_law 1199 = .ok (.iconst (-1), 1) := by decide +kernel
theorem dL_law_1200 : decode cL_law 1200 = .ok (.iconst 0, 1) := by decide +kernel
theorem dL_law_1201 : decode cL_law 1201 = .ok (.invokevirtual 212, 3) := by decide +kernel
theorem dL_law_1204 : decode cL_law 1204 = .ok (.ifCond .ne 66, 3) := by decide +kernel
theorem dL_law_1207 : decode cL_law 1207 = .ok (.aload_n 1, 1) := by decide +kernel
theorem dL_law_1208 : decode cL_law 1208 = .ok (.iconst (-1), 1) := by decide +kernel
theorem dL_law_1209 : decode cL_law 1209 = .ok (.invokevirtual 219, 3) := by decide +kernel
theorem dL_law_1212 : decode cL_law 1212 = .ok (.iconst (-1), 1) := by decide +kernel
theorem dL_law_1213 : decode cL_law 1213 = .ok (.if_icmp .ne 57, 3) := by decide +kernel
theorem dL_law_1216 : decode cL_law 1216 = .ok (.aload_n 1, 1) := by decide +kernel
theorem dL_law_1217 : decode cL_law 1217 = .ok (.bipush 10, 2) := by decide +kernel
theorem dL_law_1219 : decode cL_law 1219 = .ok (.invokevirtual 219, 3) := by decide +kernel
theorem dL_law_1222 : decode cL_law 1222 = .ok (.iconst (-1), 1) := by decide +kernel
theorem dL_law_1223 : decode cL_law 1223 = .ok (.if_icmp .ne 47, 3) := by decide +kernel
theorem dL_law_1226 : decode cL_law 1226 = .ok (.aload_n 1, 1) := by decide +kernel
theorem dL_law_1227 : decode cL_law 1227 = .ok (.iconst 0, 1) := by decide +kernel
theorem dL_law_1228 : decode cL_law 1228 = .ok (.bipush 10, 2) := by decide +kernel
theorem dL_law_1230 : decode cL_law 1230 = .ok (.invokevirtual 244, 3) := by decide +kernel
theorem dL_law_1233 : decode cL_law 1233 = .ok (.iconst (-1), 1) := by decide +kernel
theorem dL_law_1234 : decode cL_law 1234 = .ok (.if_icmp .ne 36, 3) := by decide +kernel
theorem dL_law_1237 : decode cL_law 1237 = .ok (.aload_n 1, 1) := by decide +kernel
theorem dL_law_1238 : decode cL_law 1238 = .ok (.iconst 0, 1) := by decide +kernel
theorem dL_law_1239 : decode cL_law 1239 = .ok (.iconst 4, 1) := by decide +kernel
theorem dL_law_1240 : decode cL_law 1240 = .ok (.invokevirtual 246, 3) := by decide +kernel
theorem dL_law_1243 : decode cL_law 1243 = .ok (.bipush (-2), 2) := by decide +kernel
theorem dL_law_1245 : decode cL_law 1245 = .ok (.if_icmp .ne 25, 3) := by decide +kernel
theorem dL_law_1248 : decode cL_law 1248 = .ok (.aload_n 1, 1) := by decide +kernel
theorem dL_law_1249 : decode cL_law 1249 = .ok (.bipush 18, 2) := by decide +kernel
theorem dL_law_1251 : decode cL_law 1251 = .ok (.invokevirtual 241, 3) := by decide +kernel
theorem dL_law_1254 : decode cL_law 1254 = .ok (.iconst (-1), 1) := by decide +kernel
theorem dL_law_1255 : decode cL_law 1255 = .ok (.if_icmp .ne 15, 3) := by decide +kernel
theorem dL_law_1258 : decode cL_law 1258 = .ok (.aload_n 2, 1) := by decide +kernel
theorem dL_law_1259 : decode cL_law 1259 = .ok (.aload_n 1, 1) := by decide +kernel
theorem dL_law_1260 : decode cL_law 1260 = .ok (.invokevirtual 183, 3) := by decide +kernel
theorem dL_law_1263 : decode cL_law 1263 = .ok (.ifCond .eq 7, 3) := by decide +kernel
theorem dL_law_1266 : decode cL_law 1266 = .ok (.iconst 1, 1) := by decide +kernel
theorem dL_law_1267 : decode cL_law 1267 = .ok (.goto 4, 3) := by decide +kernel
theorem dL_law_1270 : decode cL_law 1270 = .ok (.iconst 0, 1) := by decide +kernel
theorem dL_law_1271 : decode cL_law 1271 = .ok (.ireturn, 1) := by decide +kernel
