theorem cl_13 : q_cls 13 RJ0 TJ0 tyJ0 := ⟨rfl, q_sub [1170, 1172, 1174, 1176] (by decide +kernel) (by decide +kernel), tyJ0_ok, nmJ0⟩
theorem cl_14 : q_cls 14 RJ4 TJ4 tyJ4 := ⟨rfl, q_sub [969, 971, 973, 975] (by decide +kernel) (by decide +kernel), tyJ4_ok, nmJ4⟩
theorem xf_X12_32 : x_fl RX12 32 12 0 .int false := ⟨_, _, _, cl_12, by decide, q_bm 768 (by decide +kernel) (by decide +kernel), rfl, rfl, fun _ => by contradiction⟩
theorem xg_X12_32 : Cond.fieldLink RX12 32 "MuleVoteLaw$Train" "state" "I" ∈ q_big := q_bm 768 (by decide +kernel) (by decide +kernel)
theorem xf_X12_35 : x_fl RX12 35 12 1 .int false := ⟨_, _, _, cl_12, by decide, q_bm 770 (by decide +kernel) (by decide +kernel), rfl, rfl, fun _ => by contradiction⟩
theorem xg_X12_35 : Cond.fieldLink RX12 35 "MuleVoteLaw$Train" "day" "I" ∈ q_big := q_bm 770 (by decide +kernel) (by decide +kernel)
theorem xf_X12_38 : x_fl RX12 38 12 2 .int false := ⟨_, _, _, cl_12, by decide, q_bm 772 (by decide +kernel) (by decide +kernel), rfl, rfl, fun _ => by contradiction⟩
theorem xg_X12_38 : Cond.fieldLink RX12 38 "MuleVoteLaw$Train" "at" "I" ∈ q_big := q_bm 772 (by decide +kernel) (by decide +kernel)
theorem xf_X12_7 : x_fl RX12 7 12 3 .int false := ⟨_, _, _, cl_12, by decide, q_bm 774 (by decide +kernel) (by decide +kernel), rfl, rfl, fun _ => by contradiction⟩
theorem xg_X12_7 : Cond.fieldLink RX12 7 "MuleVoteLaw$Train" "driver" "I" ∈ q_big := q_bm 774 (by decide +kernel) (by decide +kernel)
theorem xf_X12_41 : x_fl RX12 41 12 4 .int false := ⟨_, _, _, cl_12, by decide, q_bm 776 (by decide +kernel) (by decide +kernel), rfl, rfl, fun _ => by contradiction⟩
theorem xg_X12_41 : Cond.fieldLink RX12 41 "MuleVoteLaw$Train" "ties" "I" ∈ q_big := q_bm 776 (by decide +kernel) (by decide +kernel)
theorem xf_X12_44 : x_fl RX12 44 12 5 .int false := ⟨_, _, _, cl_12, by decide, q_bm 777 (by decide +kernel) (by decide +kernel), rfl, rfl, fun _ => by contradiction⟩
theorem xg_X12_44 : Cond.fieldLink RX12 44 "MuleVoteLaw$Train" "hours" "I" ∈ q_big := q_bm 777 (by decide +kernel) (by decide +kernel)
theorem xf_X12_47 : x_fl RX12 47 12 6 .int false := ⟨_, _, _, cl_12, by decide, q_bm 778 (by decide +kernel) (by decide +kernel), rfl, rfl, fun _ => by contradiction⟩
theorem xg_X12_47 : Cond.fieldLink RX12 47 "MuleVoteLaw$Train" "snow" "I" ∈ q_big := q_bm 778 (by decide +kernel) (by decide +kernel)
theorem xf_X12_50 : x_fl RX12 50 12 7 .int false := ⟨_, _, _, cl_12, by decide, q_bm 780 (by decide +kernel) (by decide +kernel), rfl, rfl, fun _ => by contradiction⟩
theorem xg_X12_50 : Cond.fieldLink RX12 50 "MuleVoteLaw$Train" "mules" "I" ∈ q_big := q_bm 780 (by decide +kernel) (by decide +kernel)
theorem xf_X12_53 : x_fl RX12 53 12 8 .int false := ⟨_, _, _, cl_12, by decide, q_bm 782 (by decide +kernel) (by decide +kernel), rfl, rfl, fun _ => by contradiction⟩
theorem xg_X12_53 : Cond.fieldLink RX12 53 "MuleVoteLaw$Train" "men" "I" ∈ q_big := q_bm 782 (by decide +kernel) (by decide +kernel)
theorem xf_X12_56 : x_fl RX12 56 12 9 .int false := ⟨_, _, _, cl_12, by decide, q_bm 784 (by decide +kernel) (by decide +kernel), rfl, rfl, fun _ => by contradiction⟩
theorem xg_X12_56 : Cond.fieldLink RX12 56 "MuleVoteLaw$Train" "lines" "I" ∈ q_big := q_bm 784 (by decide +kernel) (by decide +kernel)
theorem xf_X12_59 : x_fl RX12 59 12 10 .int false := ⟨_, _, _, cl_12, by decide, q_bm 785 (by decide +kernel) (by decide +kernel), rfl, rfl, fun _ => by contradiction⟩
theorem xg_X12_59 : Cond.fieldLink RX12 59 "MuleVoteLaw$Train" "heedLines" "I" ∈ q_big := q_bm 785 (by decide +kernel) (by decide +kernel)
theorem xf_X12_86 : x_fl RX12 86 12 11 .int false := ⟨_, _, _, cl_12, by decide, q_bm 787 (by decide +kernel) (by decide +kernel), rfl, rfl, fun _ => by contradiction⟩
theorem xg_X12_86 : Cond.fieldLink RX12 86 "MuleVoteLaw$Train" "rounds" "I" ∈ q_big := q_bm 787 (by decide +kernel) (by decide +kernel)
theorem xf_X12_15 : x_fl RX12 15 12 12 (.array (.array .int)) false := ⟨_, _, _, cl_12, by decide, q_bm 788 (by decide +kernel) (by decide +kernel), rfl, rfl, fun _ => by contradiction⟩
theorem xg_X12_15 : Cond.fieldLink RX12 15 "MuleVoteLaw$Train" "mule" "[[I" ∈ q_big := q_bm 788 (by decide +kernel) (by decide +kernel)
theorem xf_X12_19 : x_fl RX12 19 12 13 (.array (.array .int)) false := ⟨_, _, _, cl_12, by decide, q_bm 790 (by decide +kernel) (by decide +kernel), rfl, rfl, fun _ => by contradiction⟩
theorem xg_X12_19 : Cond.fieldLink RX12 19 "MuleVoteLaw$Train" "man" "[[I" ∈ q_big := q_bm 790 (by decide +kernel) (by decide +kernel)
theorem xf_X12_22 : x_fl RX12 22 12 14 (.array (.array .int)) false := ⟨_, _, _, cl_12, by decide, q_bm 792 (by decide +kernel) (by decide +kernel), rfl, rfl, fun _ => by contradiction⟩
theorem xg_X12_22 : Cond.fieldLink RX12 22 "MuleVoteLaw$Train" "plan" "[[I" ∈ q_big := q_bm 792 (by decide +kernel) (by decide +kernel)
theorem xf_X12_25 : x_fl RX12 25 12 15 (.array (.array .int)) false := ⟨_, _, _, cl_12, by decide, q_bm 794 (by decide +kernel) (by decide +kernel), rfl, rfl, fun _ => by contradiction⟩
theorem xg_X12_25 : Cond.fieldLink RX12 25 "MuleVoteLaw$Train" "path" "[[I" ∈ q_big := q_bm 794 (by decide +kernel) (by decide +kernel)
theorem xf_X12_28 : x_fl RX12 28 12 16 (.array (.array .int)) false := ⟨_, _, _, cl_12, by decide, q_bm 796 (by decide +kernel) (by decide +kernel), rfl, rfl, fun _ => by contradiction⟩
theorem xg_X12_28 : Cond.fieldLink RX12 28 "MuleVoteLaw$Train" "line" "[[I" ∈ q_big := q_bm 796 (by decide +kernel) (by decide +kernel)
theorem xf_X12_62 : x_fl RX12 62 12 17 (.array .int) false := ⟨_, _, _, cl_12, by decide, q_bm 797 (by decide +kernel) (by decide +kernel), rfl, rfl, fun _ => by contradiction⟩
theorem xg_X12_62 : Cond.fieldLink RX12 62 "MuleVoteLaw$Train" "law" "[I" ∈ q_big := q_bm 797 (by decide +kernel) (by decide +kernel)
theorem xg_J5_18 : Cond.fieldLink RJ5 18 "java/lang/String" "COMPACT_STRINGS" "Z" ∈ q_big := q_bm 956 (by decide +kernel) (by decide +kernel)
theorem xf_J5_15 : x_fl RJ5 15 14 0 (.array .byte) false := ⟨_, _, _, cl_14, by decide, q_bm 965 (by decide +kernel) (by decide +kernel), rfl, rfl, fun _ => by contradiction⟩
theorem xg_J5_15 : Cond.fieldLink RJ5 15 "java/lang/AbstractStringBuilder" "value" "[B" ∈ q_big := q_bm 965 (by decide +kernel) (by decide +kernel)
theorem xf_J5_22 : x_fl RJ5 22 14 1 .byte false := ⟨_, _, _, cl_14, by decide, q_bm 966 (by decide +kernel) (by decide +kernel), rfl, rfl, fun _ => by contradiction⟩
theorem xg_J5_22 : Cond.fieldLink RJ5 22 "java/lang/AbstractStringBuilder" "coder" "B" ∈ q_big := q_bm 966 (by decide +kernel) (by decide +kernel)
theorem xf_J0_1048 : x_fl RJ0 1048 14 2 .boolean false := ⟨_, _, _, cl_14, by decide, q_bm 967 (by decide +kernel) (by decide +kernel), rfl, rfl, fun _ => by contradiction⟩
theorem xg_J0_1048 : Cond.fieldLink RJ0 1048 "java/lang/AbstractStringBuilder" "maybeLatin1" "Z" ∈ q_big := q_bm 967 (by decide +kernel) (by decide +kernel)
theorem xf_J5_79 : x_fl RJ5 79 14 3 .int false := ⟨_, _, _, cl_14, by decide, q_bm 968 (by decide +kernel) (by decide +kernel), rfl, rfl, fun _ => by contradiction⟩
theorem xg_J5_79 : Cond.fieldLink RJ5 79 "java/lang/AbstractStringBuilder" "count" "I" ∈ q_big := q_bm 968 (by decide +kernel) (by decide +kernel)
theorem xg_J0_1053 : Cond.fieldLink RJ0 1053 "jdk/internal/util/Preconditions" "SIOOBE_FORMATTER" "Ljava/util/function/BiFunction;" ∈ q_big := q_bm 1035 (by decide +kernel) (by decide +kernel)
theorem xg_J2_44 : Cond.fieldLink RJ2 44 "java/lang/StringUTF16" "$assertionsDisabled" "Z" ∈ q_big := q_bm 1043 (by decide +kernel) (by decide +kernel)
theorem xg_J2_59 : Cond.fieldLink RJ2 59 "java/lang/StringUTF16" "HI_BYTE_SHIFT" "I" ∈ q_big := q_bm 1045 (by decide +kernel) (by decide +kernel)
theorem xg_J2_63 : Cond.fieldLink RJ2 63 "java/lang/StringUTF16" "LO_BYTE_SHIFT" "I" ∈ q_big := q_bm 1047 (by decide +kernel) (by decide +kernel)
theorem xg_J0_38 : Cond.fieldLink RJ0 38 "java/lang/String" "COMPACT_STRINGS" "Z" ∈ q_big := q_bm 1057 (by decide +kernel) (by decide +kernel)
theorem xg_J6_83 : Cond.fieldLink RJ6 83 "java/lang/Integer" "DigitOnes" "[B" ∈ q_big := q_bm 1105 (by decide +kernel) (by decide +kernel)
theorem xg_J6_87 : Cond.fieldLink RJ6 87 "java/lang/Integer" "DigitTens" "[B" ∈ q_big := q_bm 1107 (by decide +kernel) (by decide +kernel)
theorem xg_J2_403 : Cond.fieldLink RJ2 403 "java/lang/Integer" "DigitOnes" "[B" ∈ q_big := q_bm 1115 (by decide +kernel) (by decide +kernel)
theorem xg_J2_407 : Cond.fieldLink RJ2 407 "java/lang/Integer" "DigitTens" "[B" ∈ q_big := q_bm 1116 (by decide +kernel) (by decide +kernel)
theorem xf_J0_9 : x_fl RJ0 9 13 0 (.array .byte) true := ⟨_, _, _, cl_13, by decide, q_bm 1168 (by decide +kernel) (by decide +kernel), rfl, rfl, fun _ => rfl⟩
theorem xg_J0_9 : Cond.fieldLink RJ0 9 "java/lang/String" "value" "[B" ∈ q_big := q_bm 1168 (by decide +kernel) (by decide +kernel)
theorem xf_J0_15 : x_fl RJ0 15 13 1 .byte true := ⟨_, _, _, cl_13, by decide, q_bm 1169 (by decide +kernel) (by decide +kernel), rfl, rfl, fun _ => rfl⟩
theorem xg_J0_15 : Cond.fieldLink RJ0 15 "java/lang/String" "coder" "B" ∈ q_big := q_bm 1169 (by decide +kernel) (by decide +kernel)
theorem xf_L_173 : x_fn RL 173 12 0 .int := ⟨_, _, _, "MuleVoteLaw", cl_12, by decide, (by decide +kernel), rfl, rfl⟩
theorem xf_L_106 : x_fn RL 106 12 1 .int := ⟨_, _, _, "MuleVoteLaw", cl_12, by decide, (by decide +kernel), rfl, rfl⟩
theorem xf_L_166 : x_fn RL 166 12 2 .int := ⟨_, _, _, "MuleVoteLaw", cl_12, by decide, (by decide +kernel), rfl, rfl⟩
theorem xf_L_205 : x_fn RL 205 12 3 .int := ⟨_, _, _, "MuleVoteLaw", cl_12, by decide, (by decide +kernel), rfl, rfl⟩
theorem xf_L_163 : x_fn RL 163 12 6 .int := ⟨_, _, _, "MuleVoteLaw", cl_12, by decide, (by decide +kernel), rfl, rfl⟩
theorem xf_L_37 : x_fn RL 37 12 7 .int := ⟨_, _, _, "MuleVoteLaw", cl_12, by decide, (by decide +kernel), rfl, rfl⟩
theorem xf_L_103 : x_fn RL 103 12 8 .int := ⟨_, _, _, "MuleVoteLaw", cl_12, by decide, (by decide +kernel), rfl, rfl⟩
theorem xf_L_56 : x_fn RL 56 12 10 .int := ⟨_, _, _, "MuleVoteLaw", cl_12, by decide, (by decide +kernel), rfl, rfl⟩
theorem xf_L_52 : x_fn RL 52 12 12 (.array (.array .int)) := ⟨_, _, _, "MuleVoteLaw", cl_12, by decide, (by decide +kernel), rfl, rfl⟩
theorem xf_L_152 : x_fn RL 152 12 13 (.array (.array .int)) := ⟨_, _, _, "MuleVoteLaw", cl_12, by decide, (by decide +kernel), rfl, rfl⟩
theorem xf_L_100 : x_fn RL 100 12 14 (.array (.array .int)) := ⟨_, _, _, "MuleVoteLaw", cl_12, by decide, (by decide +kernel), rfl, rfl⟩
theorem xf_L_113 : x_fn RL 113 12 15 (.array (.array .int)) := ⟨_, _, _, "MuleVoteLaw", cl_12, by decide, (by decide +kernel), rfl, rfl⟩
theorem xf_L_125 : x_fn RL 125 12 17 (.array .int) := ⟨_, _, _, "MuleVoteLaw", cl_12, by decide, (by decide +kernel), rfl, rfl⟩
theorem xm_J0_charAt_5068e : q_mv yJ0_charAt_5068e cJ0_charAt_5068e 2 (some .char) 13 1 := ⟨⟨⟨(by decide +kernel), (by decide +kernel), (by decide +kernel)⟩, q_bm 50 (by decide +kernel) (by decide +kernel), q_bm 1188 (by decide +kernel) (by decide +kernel)⟩, q_bm 1186 (by decide +kernel) (by decide +kernel), q_bm 1187 (by decide +kernel) (by decide +kernel), TJ0, rfl⟩
theorem xm_J0_checkIndex_df160 : q_mst yJ0_checkIndex_df160 cJ0_checkIndex_df160 2 (none) 2 := ⟨⟨⟨(by decide +kernel), (by decide +kernel), (by decide +kernel)⟩, q_bm 50 (by decide +kernel) (by decide +kernel), q_bm 1198 (by decide +kernel) (by decide +kernel)⟩, q_bm 1197 (by decide +kernel) (by decide +kernel)⟩
theorem xm_J0_coder_7d493 : q_mv yJ0_coder_7d493 cJ0_coder_7d493 1 (some .byte) 13 0 := ⟨⟨⟨(by decide +kernel), (by decide +kernel), (by decide +kernel)⟩, q_bm 50 (by decide +kernel) (by decide +kernel), q_bm 1056 (by decide +kernel) (by decide +kernel)⟩, q_bm 1054 (by decide +kernel) (by decide +kernel), q_bm 1055 (by decide +kernel) (by decide +kernel), TJ0, rfl⟩
theorem xm_J0_getBytes_840e7 : q_mv yJ0_getBytes_840e7 cJ0_getBytes_840e7 4 (none) 13 3 := ⟨⟨⟨(by decide +kernel), (by decide +kernel), (by decide +kernel)⟩, q_bm 50 (by decide +kernel) (by decide +kernel), q_bm 1089 (by decide +kernel) (by decide +kernel)⟩, q_bm 1087 (by decide +kernel) (by decide +kernel), q_bm 1088 (by decide +kernel) (by decide +kernel), TJ0, rfl⟩
theorem mi_J0_init_81219 : q_my yJ0_init_81219 cJ0_init_81219 2 none 1 ∧ Cond.instanceMethod yJ0_init_81219 ∈ q_big := ⟨⟨⟨(by decide +kernel), (by decide +kernel), (by decide +kernel)⟩, q_bm 50 (by decide +kernel) (by decide +kernel), q_bm 1127 (by decide +kernel) (by decide +kernel)⟩, q_bm 1126 (by decide +kernel) (by decide +kernel)⟩
theorem mi_J0_init_db425 : q_my yJ0_init_db425 cJ0_init_db425 5 none 2 ∧ Cond.instanceMethod yJ0_init_db425 ∈ q_big := ⟨⟨⟨(by decide +kernel), (by decide +kernel), (by decide +kernel)⟩, q_bm 50 (by decide +kernel) (by decide +kernel), q_bm 1130 (by decide +kernel) (by decide +kernel)⟩, q_bm 1129 (by decide +kernel) (by decide +kernel)⟩
theorem xm_J0_isLatin1_aae02 : q_mv yJ0_isLatin1_aae02 cJ0_isLatin1_aae02 1 (some .boolean) 13 0 := ⟨⟨⟨(by decide +kernel), (by decide +kernel), (by decide +kernel)⟩, q_bm 50 (by decide +kernel) (by decide +kernel), q_bm 1192 (by decide +kernel) (by decide +kernel)⟩, q_bm 1190 (by decide +kernel) (by decide +kernel), q_bm 1191 (by decide +kernel) (by decide +kernel), TJ0, rfl⟩
theorem xm_J0_length_8abf5 : q_mv yJ0_length_8abf5 cJ0_length_8abf5 1 (some .int) 13 0 := ⟨⟨⟨(by decide +kernel), (by decide +kernel), (by decide +kernel)⟩, q_bm 50 (by decide +kernel) (by decide +kernel), q_bm 1052 (by decide +kernel) (by decide +kernel)⟩, q_bm 1050 (by decide +kernel) (by decide +kernel), q_bm 1051 (by decide +kernel) (by decide +kernel), TJ0, rfl⟩
theorem xm_J1_charAt_3b067 : q_mst yJ1_charAt_3b067 cJ1_charAt_3b067 2 (some .char) 2 := ⟨⟨⟨(by decide +kernel), (by decide +kernel), (by decide +kernel)⟩, q_bm 55 (by decide +kernel) (by decide +kernel), q_bm 1195 (by decide +kernel) (by decide +kernel)⟩, q_bm 1194 (by decide +kernel) (by decide +kernel)⟩
theorem xm_J3_checkIndex_8e157 : q_mst yJ3_checkIndex_8e157 cJ3_checkIndex_8e157 3 (some .int) 3 := ⟨⟨⟨(by decide +kernel), (by decide +kernel), (by decide +kernel)⟩, q_bm 54 (by decide +kernel) (by decide +kernel), q_bm 1201 (by decide +kernel) (by decide +kernel)⟩, q_bm 1200 (by decide +kernel) (by decide +kernel)⟩
theorem xm_J4_append_15ec4 : q_mv yJ4_append_15ec4 cJ4_append_15ec4 2 (some (.object "java/lang/StringBuilder")) 14 1 := ⟨⟨⟨(by decide +kernel), (by decide +kernel), (by decide +kernel)⟩, q_bm 49 (by decide +kernel) (by decide +kernel), q_bm 983 (by decide +kernel) (by decide +kernel)⟩, q_bm 981 (by decide +kernel) (by decide +kernel), q_bm 982 (by decide +kernel) (by decide +kernel), TJ4, rfl⟩
theorem xm_J4_append_bf812 : q_mv yJ4_append_bf812 cJ4_append_bf812 2 (some (.object "java/lang/StringBuilder")) 14 1 := ⟨⟨⟨(by decide +kernel), (by decide +kernel), (by decide +kernel)⟩, q_bm 49 (by decide +kernel) (by decide +kernel), q_bm 1095 (by decide +kernel) (by decide +kernel)⟩, q_bm 1093 (by decide +kernel) (by decide +kernel), q_bm 1094 (by decide +kernel) (by decide +kernel), TJ4, rfl⟩
theorem mi_J4_init_da8c8 : q_my yJ4_init_da8c8 cJ4_init_da8c8 1 none 0 ∧ Cond.instanceMethod yJ4_init_da8c8 ∈ q_big := ⟨⟨⟨(by decide +kernel), (by decide +kernel), (by decide +kernel)⟩, q_bm 49 (by decide +kernel) (by decide +kernel), q_bm 951 (by decide +kernel) (by decide +kernel)⟩, q_bm 950 (by decide +kernel) (by decide +kernel)⟩
theorem xm_J4_toString_0e30d : q_mv yJ4_toString_0e30d cJ4_toString_0e30d 1 (some (.object "java/lang/String")) 14 0 := ⟨⟨⟨(by decide +kernel), (by decide +kernel), (by decide +kernel)⟩, q_bm 49 (by decide +kernel) (by decide +kernel), q_bm 1122 (by decide +kernel) (by decide +kernel)⟩, q_bm 1120 (by decide +kernel) (by decide +kernel), q_bm 1121 (by decide +kernel) (by decide +kernel), TJ4, rfl⟩
theorem xm_J5_append_c97b9 : q_my yJ5_append_c97b9 cJ5_append_c97b9 4 (some (.object "java/lang/AbstractStringBuilder")) 1 ∧ Cond.instanceMethod yJ5_append_c97b9 ∈ q_big ∧ Cond.sameMethod yJ5_append_c97b9.cls yJ5_append_c97b9.cls yJ5_append_c97b9.name yJ5_append_c97b9.desc ∈ q_big := ⟨⟨⟨(by decide +kernel), (by decide +kernel), (by decide +kernel)⟩, q_bm 48 (by decide +kernel) (by decide +kernel), q_bm 1098 (by decide +kernel) (by decide +kernel)⟩, q_bm 1097 (by decide +kernel) (by decide +kernel), q_bm 1500 (by decide +kernel) (by decide +kernel)⟩
theorem xm_J5_append_cf1ce : q_my yJ5_append_cf1ce cJ5_append_cf1ce 3 (some (.object "java/lang/AbstractStringBuilder")) 1 ∧ Cond.instanceMethod yJ5_append_cf1ce ∈ q_big ∧ Cond.sameMethod yJ5_append_cf1ce.cls yJ5_append_cf1ce.cls yJ5_append_cf1ce.name yJ5_append_cf1ce.desc ∈ q_big := ⟨⟨⟨(by decide +kernel), (by decide +kernel), (by decide +kernel)⟩, q_bm 48 (by decide +kernel) (by decide +kernel), q_bm 986 (by decide +kernel) (by decide +kernel)⟩, q_bm 985 (by decide +kernel) (by decide +kernel), q_bm 1493 (by decide +kernel) (by decide +kernel)⟩
theorem xm_J5_ensureCapacityInternal_d00df : q_my yJ5_ensureCapacityInternal_d00df cJ5_ensureCapacityInternal_d00df 3 (none) 1 ∧ Cond.instanceMethod yJ5_ensureCapacityInternal_d00df ∈ q_big ∧ Cond.sameMethod yJ5_ensureCapacityInternal_d00df.cls yJ5_ensureCapacityInternal_d00df.cls yJ5_ensureCapacityInternal_d00df.name yJ5_ensureCapacityInternal_d00df.desc ∈ q_big := ⟨⟨⟨(by decide +kernel), (by decide +kernel), (by decide +kernel)⟩, q_bm 48 (by decide +kernel) (by decide +kernel), q_bm 994 (by decide +kernel) (by decide +kernel)⟩, q_bm 993 (by decide +kernel) (by decide +kernel), q_bm 1495 (by decide +kernel) (by decide +kernel)⟩
theorem xm_J5_getValue_6d5f1 : q_my yJ5_getValue_6d5f1 cJ5_getValue_6d5f1 1 (some (.array .byte)) 0 ∧ Cond.instanceMethod yJ5_getValue_6d5f1 ∈ q_big ∧ Cond.sameMethod yJ5_getValue_6d5f1.cls yJ5_getValue_6d5f1.cls yJ5_getValue_6d5f1.name yJ5_getValue_6d5f1.desc ∈ q_big := ⟨⟨⟨(by decide +kernel), (by decide +kernel), (by decide +kernel)⟩, q_bm 48 (by decide +kernel) (by decide +kernel), q_bm 1136 (by decide +kernel) (by decide +kernel)⟩, q_bm 1133 (by decide +kernel) (by decide +kernel), q_bm 1134 (by decide +kernel) (by decide +kernel)⟩
theorem xs_J5_getValue_6d5f1 : Cond.selects RJ4 yJ5_getValue_6d5f1 yJ5_getValue_6d5f1 ∈ q_big := q_bm 1135 (by decide +kernel) (by decide +kernel)
theorem xm_J5_inflateIfNeededFor_a7421 : q_my yJ5_inflateIfNeededFor_a7421 cJ5_inflateIfNeededFor_a7421 2 (none) 1 ∧ Cond.instanceMethod yJ5_inflateIfNeededFor_a7421 ∈ q_big ∧ Cond.sameMethod yJ5_inflateIfNeededFor_a7421.cls yJ5_inflateIfNeededFor_a7421.cls yJ5_inflateIfNeededFor_a7421.name yJ5_inflateIfNeededFor_a7421.desc ∈ q_big := ⟨⟨⟨(by decide +kernel), (by decide +kernel), (by decide +kernel)⟩, q_bm 48 (by decide +kernel) (by decide +kernel), q_bm 1065 (by decide +kernel) (by decide +kernel)⟩, q_bm 1064 (by decide +kernel) (by decide +kernel), q_bm 1498 (by decide +kernel) (by decide +kernel)⟩
theorem mi_J5_init_d00df : q_my yJ5_init_d00df cJ5_init_d00df 2 none 1 ∧ Cond.instanceMethod yJ5_init_d00df ∈ q_big := ⟨⟨⟨(by decide +kernel), (by decide +kernel), (by decide +kernel)⟩, q_bm 48 (by decide +kernel) (by decide +kernel), q_bm 954 (by decide +kernel) (by decide +kernel)⟩, q_bm 953 (by decide +kernel) (by decide +kernel)⟩
theorem xm_J5_isLatin1_aae02 : q_my yJ5_isLatin1_aae02 cJ5_isLatin1_aae02 1 (some .boolean) 0 ∧ Cond.instanceMethod yJ5_isLatin1_aae02 ∈ q_big ∧ Cond.sameMethod yJ5_isLatin1_aae02.cls yJ5_isLatin1_aae02.cls yJ5_isLatin1_aae02.name yJ5_isLatin1_aae02.desc ∈ q_big := ⟨⟨⟨(by decide +kernel), (by decide +kernel), (by decide +kernel)⟩, q_bm 48 (by decide +kernel) (by decide +kernel), q_bm 1022 (by decide +kernel) (by decide +kernel)⟩, q_bm 1019 (by decide +kernel) (by decide +kernel), q_bm 1020 (by decide +kernel) (by decide +kernel)⟩
theorem xs_J5_isLatin1_aae02 : Cond.selects RJ4 yJ5_isLatin1_aae02 yJ5_isLatin1_aae02 ∈ q_big := q_bm 1021 (by decide +kernel) (by decide +kernel)
theorem xm_J5_length_8abf5 : q_my yJ5_length_8abf5 cJ5_length_8abf5 1 (some .int) 0 ∧ Cond.instanceMethod yJ5_length_8abf5 ∈ q_big ∧ Cond.sameMethod yJ5_length_8abf5.cls yJ5_length_8abf5.cls yJ5_length_8abf5.name yJ5_length_8abf5.desc ∈ q_big := ⟨⟨⟨(by decide +kernel), (by decide +kernel), (by decide +kernel)⟩, q_bm 48 (by decide +kernel) (by decide +kernel), q_bm 1144 (by decide +kernel) (by decide +kernel)⟩, q_bm 1138 (by decide +kernel) (by decide +kernel), q_bm 1139 (by decide +kernel) (by decide +kernel)⟩
theorem xm_J5_newCapacity_0f7a4 : q_my yJ5_newCapacity_0f7a4 cJ5_newCapacity_0f7a4 6 (some .int) 1 ∧ Cond.instanceMethod yJ5_newCapacity_0f7a4 ∈ q_big ∧ Cond.sameMethod yJ5_newCapacity_0f7a4.cls yJ5_newCapacity_0f7a4.cls yJ5_newCapacity_0f7a4.name yJ5_newCapacity_0f7a4.desc ∈ q_big := ⟨⟨⟨(by decide +kernel), (by decide +kernel), (by decide +kernel)⟩, q_bm 48 (by decide +kernel) (by decide +kernel), q_bm 998 (by decide +kernel) (by decide +kernel)⟩, q_bm 997 (by decide +kernel) (by decide +kernel), q_bm 1496 (by decide +kernel) (by decide +kernel)⟩
theorem xm_J5_putStringAt_47b60 : q_my yJ5_putStringAt_47b60 cJ5_putStringAt_47b60 3 (none) 2 ∧ Cond.instanceMethod yJ5_putStringAt_47b60 ∈ q_big ∧ Cond.sameMethod yJ5_putStringAt_47b60.cls yJ5_putStringAt_47b60.cls yJ5_putStringAt_47b60.name yJ5_putStringAt_47b60.desc ∈ q_big := ⟨⟨⟨(by decide +kernel), (by decide +kernel), (by decide +kernel)⟩, q_bm 48 (by decide +kernel) (by decide +kernel), q_bm 1061 (by decide +kernel) (by decide +kernel)⟩, q_bm 1060 (by decide +kernel) (by decide +kernel), q_bm 1497 (by decide +kernel) (by decide +kernel)⟩
theorem xm_J6_bitCount_0f7a4 : q_mst yJ6_bitCount_0f7a4 cJ6_bitCount_0f7a4 1 (some .int) 1 := ⟨⟨⟨(by decide +kernel), (by decide +kernel), (by decide +kernel)⟩, q_bm 57 (by decide +kernel) (by decide +kernel), q_bm 602 (by decide +kernel) (by decide +kernel)⟩, q_bm 601 (by decide +kernel) (by decide +kernel)⟩
theorem xm_J6_getChars_ba4f3 : q_mst yJ6_getChars_ba4f3 cJ6_getChars_ba4f3 7 (some .int) 3 := ⟨⟨⟨(by decide +kernel), (by decide +kernel), (by decide +kernel)⟩, q_bm 57 (by decide +kernel) (by decide +kernel), q_bm 1104 (by decide +kernel) (by decide +kernel)⟩, q_bm 1103 (by decide +kernel) (by decide +kernel)⟩
theorem xm_J6_stringSize_0f7a4 : q_mst yJ6_stringSize_0f7a4 cJ6_stringSize_0f7a4 4 (some .int) 1 := ⟨⟨⟨(by decide +kernel), (by decide +kernel), (by decide +kernel)⟩, q_bm 57 (by decide +kernel) (by decide +kernel), q_bm 1101 (by decide +kernel) (by decide +kernel)⟩, q_bm 1100 (by decide +kernel) (by decide +kernel)⟩
theorem xm_J7_checkLength_df160 : q_mst yJ7_checkLength_df160 cJ7_checkLength_df160 2 (none) 2 := ⟨⟨⟨(by decide +kernel), (by decide +kernel), (by decide +kernel)⟩, q_bm 36 (by decide +kernel) (by decide +kernel), q_bm 1154 (by decide +kernel) (by decide +kernel)⟩, q_bm 1153 (by decide +kernel) (by decide +kernel)⟩
theorem xm_J7_copyOfRangeByte_39247 : q_mst yJ7_copyOfRangeByte_39247 cJ7_copyOfRangeByte_39247 5 (some (.array .byte)) 3 := ⟨⟨⟨(by decide +kernel), (by decide +kernel), (by decide +kernel)⟩, q_bm 36 (by decide +kernel) (by decide +kernel), q_bm 1151 (by decide +kernel) (by decide +kernel)⟩, q_bm 1150 (by decide +kernel) (by decide +kernel)⟩
theorem xm_J7_copyOfRange_39247 : q_mst yJ7_copyOfRange_39247 cJ7_copyOfRange_39247 3 (some (.array .byte)) 3 := ⟨⟨⟨(by decide +kernel), (by decide +kernel), (by decide +kernel)⟩, q_bm 36 (by decide +kernel) (by decide +kernel), q_bm 1148 (by decide +kernel) (by decide +kernel)⟩, q_bm 1147 (by decide +kernel) (by decide +kernel)⟩
theorem xm_J7_copyOf_9075b : q_mst yJ7_copyOf_9075b cJ7_copyOf_9075b 3 (some (.array .byte)) 2 := ⟨⟨⟨(by decide +kernel), (by decide +kernel), (by decide +kernel)⟩, q_bm 36 (by decide +kernel) (by decide +kernel), q_bm 1010 (by decide +kernel) (by decide +kernel)⟩, q_bm 1009 (by decide +kernel) (by decide +kernel)⟩
theorem xm_J8_newLength_cabcc : q_mst yJ8_newLength_cabcc cJ8_newLength_cabcc 4 (some .int) 3 := ⟨⟨⟨(by decide +kernel), (by decide +kernel), (by decide +kernel)⟩, q_bm 52 (by decide +kernel) (by decide +kernel), q_bm 1001 (by decide +kernel) (by decide +kernel)⟩, q_bm 1000 (by decide +kernel) (by decide +kernel)⟩
theorem xm_L_between : q_mst yL_between cL_between 3 (some .int) 3 := ⟨⟨⟨(by decide +kernel), (by decide +kernel), (by decide +kernel)⟩, q_bm 32 (by decide +kernel) (by decide +kernel), q_bm 942 (by decide +kernel) (by decide +kernel)⟩, q_bm 941 (by decide +kernel) (by decide +kernel)⟩
theorem xm_L_cell : q_mst yL_cell cL_cell 2 (some .int) 2 := ⟨⟨⟨(by decide +kernel), (by decide +kernel), (by decide +kernel)⟩, q_bm 32 (by decide +kernel) (by decide +kernel), q_bm 939 (by decide +kernel) (by decide +kernel)⟩, q_bm 938 (by decide +kernel) (by decide +kernel)⟩
theorem xm_L_held : q_mst yL_held cL_held 3 (some .int) 3 := ⟨⟨⟨(by decide +kernel), (by decide +kernel), (by decide +kernel)⟩, q_bm 32 (by decide +kernel) (by decide +kernel), q_bm 865 (by decide +kernel) (by decide +kernel)⟩, q_bm 864 (by decide +kernel) (by decide +kernel)⟩
theorem xm_L_say : q_mst yL_say cL_say 5 (none) 2 := ⟨⟨⟨(by decide +kernel), (by decide +kernel), (by decide +kernel)⟩, q_bm 32 (by decide +kernel) (by decide +kernel), q_bm 1183 (by decide +kernel) (by decide +kernel)⟩, q_bm 1182 (by decide +kernel) (by decide +kernel)⟩
set_option maxRecDepth 100000 in
theorem xb_L_texts : Cond.code yL_texts cL_texts 11 (some .boolean) ∈ q_big := List.mem_filter.mpr ⟨(by unfold lw_tbl tables_1; exact List.mem_append_right _ (List.mem_append_right _ (List.mem_append_right _ (List.mem_append_right _ (List.mem_append_left _ (List.mem_of_getElem? (i := 194) rfl)))))), (by decide +kernel)⟩
theorem xm_L_texts : q_mst yL_texts cL_texts 11 (some .boolean) 3 := ⟨⟨⟨(by decide +kernel), (by decide +kernel), (by decide +kernel)⟩, q_bm 32 (by decide +kernel) (by decide +kernel), xb_L_texts⟩, q_bm 945 (by decide +kernel) (by decide +kernel)⟩
set_option maxRecDepth 100000 in
theorem xb_L_train : Cond.code yL_train cL_train 10 (some (.object "MuleVoteLaw$Train")) ∈ q_big := List.mem_filter.mpr ⟨(by unfold lw_tbl tables_1; exact List.mem_append_right _ (List.mem_append_right _ (List.mem_append_right _ (List.mem_append_right _ (List.mem_append_right _ (List.mem_append_right _ (List.mem_append_right _ (List.mem_of_getElem? (i := 2) rfl)))))))), (by decide +kernel)⟩
theorem xm_L_train : q_mst yL_train cL_train 10 (some (.object "MuleVoteLaw$Train")) 3 := ⟨⟨⟨(by decide +kernel), (by decide +kernel), (by decide +kernel)⟩, q_bm 32 (by decide +kernel) (by decide +kernel), xb_L_train⟩, q_bm 1473 (by decide +kernel) (by decide +kernel)⟩
theorem xm_X12_behind : q_mv yX12_behind cX12_behind 4 (some .int) 12 1 := ⟨⟨⟨(by decide +kernel), (by decide +kernel), (by decide +kernel)⟩, q_bm 47 (by decide +kernel) (by decide +kernel), q_bm 861 (by decide +kernel) (by decide +kernel)⟩, q_bm 859 (by decide +kernel) (by decide +kernel), q_bm 860 (by decide +kernel) (by decide +kernel), TX12, rfl⟩
theorem xm_X12_copy : q_mv yX12_copy cX12_copy 3 (some (.object "MuleVoteLaw$Train")) 12 0 := ⟨⟨⟨(by decide +kernel), (by decide +kernel), (by decide +kernel)⟩, q_bm 47 (by decide +kernel) (by decide +kernel), q_bm 759 (by decide +kernel) (by decide +kernel)⟩, q_bm 757 (by decide +kernel) (by decide +kernel), q_bm 758 (by decide +kernel) (by decide +kernel), TX12, rfl⟩
theorem xm_X12_does : q_mv yX12_does cX12_does 6 (some .boolean) 12 4 := ⟨⟨⟨(by decide +kernel), (by decide +kernel), (by decide +kernel)⟩, q_bm 47 (by decide +kernel) (by decide +kernel), q_bm 876 (by decide +kernel) (by decide +kernel)⟩, q_bm 874 (by decide +kernel) (by decide +kernel), q_bm 875 (by decide +kernel) (by decide +kernel), TX12, rfl⟩
theorem xm_X12_draw : q_mv yX12_draw cX12_draw 2 (some .int) 12 1 := ⟨⟨⟨(by decide +kernel), (by decide +kernel), (by decide +kernel)⟩, q_bm 47 (by decide +kernel) (by decide +kernel), q_bm 897 (by decide +kernel) (by decide +kernel)⟩, q_bm 895 (by decide +kernel) (by decide +kernel), q_bm 896 (by decide +kernel) (by decide +kernel), TX12, rfl⟩
theorem xm_X12_goes : q_mv yX12_goes cX12_goes 6 (some .int) 12 2 := ⟨⟨⟨(by decide +kernel), (by decide +kernel), (by decide +kernel)⟩, q_bm 47 (by decide +kernel) (by decide +kernel), q_bm 885 (by decide +kernel) (by decide +kernel)⟩, q_bm 883 (by decide +kernel) (by decide +kernel), q_bm 884 (by decide +kernel) (by decide +kernel), TX12, rfl⟩
theorem xm_X12_isSame : q_mv yX12_isSame cX12_isSame 4 (some .boolean) 12 1 := ⟨⟨⟨(by decide +kernel), (by decide +kernel), (by decide +kernel)⟩, q_bm 47 (by decide +kernel) (by decide +kernel), q_bm 913 (by decide +kernel) (by decide +kernel)⟩, q_bm 911 (by decide +kernel) (by decide +kernel), q_bm 912 (by decide +kernel) (by decide +kernel), TX12, rfl⟩
theorem xm_X12_lame : q_mv yX12_lame cX12_lame 3 (some .int) 12 0 := ⟨⟨⟨(by decide +kernel), (by decide +kernel), (by decide +kernel)⟩, q_bm 47 (by decide +kernel) (by decide +kernel), q_bm 909 (by decide +kernel) (by decide +kernel)⟩, q_bm 907 (by decide +kernel) (by decide +kernel), q_bm 908 (by decide +kernel) (by decide +kernel), TX12, rfl⟩
theorem xm_X12_lean : q_mv yX12_lean cX12_lean 7 (some .int) 12 2 := ⟨⟨⟨(by decide +kernel), (by decide +kernel), (by decide +kernel)⟩, q_bm 47 (by decide +kernel) (by decide +kernel), q_bm 857 (by decide +kernel) (by decide +kernel)⟩, q_bm 855 (by decide +kernel) (by decide +kernel), q_bm 856 (by decide +kernel) (by decide +kernel), TX12, rfl⟩
theorem xm_X12_likes : q_mv yX12_likes cX12_likes 4 (none) 12 3 := ⟨⟨⟨(by decide +kernel), (by decide +kernel), (by decide +kernel)⟩, q_bm 47 (by decide +kernel) (by decide +kernel), q_bm 880 (by decide +kernel) (by decide +kernel)⟩, q_bm 878 (by decide +kernel) (by decide +kernel), q_bm 879 (by decide +kernel) (by decide +kernel), TX12, rfl⟩
theorem xm_X12_need : q_mv yX12_need cX12_need 2 (some .int) 12 1 := ⟨⟨⟨(by decide +kernel), (by decide +kernel), (by decide +kernel)⟩, q_bm 47 (by decide +kernel) (by decide +kernel), q_bm 871 (by decide +kernel) (by decide +kernel)⟩, q_bm 869 (by decide +kernel) (by decide +kernel), q_bm 870 (by decide +kernel) (by decide +kernel), TX12, rfl⟩
theorem xm_X12_notes : q_mv yX12_notes cX12_notes 5 (none) 12 4 := ⟨⟨⟨(by decide +kernel), (by decide +kernel), (by decide +kernel)⟩, q_bm 47 (by decide +kernel) (by decide +kernel), q_bm 845 (by decide +kernel) (by decide +kernel)⟩, q_bm 843 (by decide +kernel) (by decide +kernel), q_bm 844 (by decide +kernel) (by decide +kernel), TX12, rfl⟩
theorem xm_X12_passes : q_mv yX12_passes cX12_passes 7 (some .int) 12 1 := ⟨⟨⟨(by decide +kernel), (by decide +kernel), (by decide +kernel)⟩, q_bm 47 (by decide +kernel) (by decide +kernel), q_bm 904 (by decide +kernel) (by decide +kernel)⟩, q_bm 902 (by decide +kernel) (by decide +kernel), q_bm 903 (by decide +kernel) (by decide +kernel), TX12, rfl⟩
theorem xm_X12_path : q_mv yX12_path cX12_path 7 (some .int) 12 2 := ⟨⟨⟨(by decide +kernel), (by decide +kernel), (by decide +kernel)⟩, q_bm 47 (by decide +kernel) (by decide +kernel), q_bm 889 (by decide +kernel) (by decide +kernel)⟩, q_bm 887 (by decide +kernel) (by decide +kernel), q_bm 888 (by decide +kernel) (by decide +kernel), TX12, rfl⟩
theorem xm_X12_risk : q_mv yX12_risk cX12_risk 5 (some .int) 12 3 := ⟨⟨⟨(by decide +kernel), (by decide +kernel), (by decide +kernel)⟩, q_bm 47 (by decide +kernel) (by decide +kernel), q_bm 893 (by decide +kernel) (by decide +kernel)⟩, q_bm 891 (by decide +kernel) (by decide +kernel), q_bm 892 (by decide +kernel) (by decide +kernel), TX12, rfl⟩
theorem xm_X12_stand : q_mv yX12_stand cX12_stand 6 (none) 12 1 := ⟨⟨⟨(by decide +kernel), (by decide +kernel), (by decide +kernel)⟩, q_bm 47 (by decide +kernel) (by decide +kernel), q_bm 853 (by decide +kernel) (by decide +kernel)⟩, q_bm 851 (by decide +kernel) (by decide +kernel), q_bm 852 (by decide +kernel) (by decide +kernel), TX12, rfl⟩
theorem xm_X12_votes : q_mv yX12_votes cX12_votes 2 (none) 12 1 := ⟨⟨⟨(by decide +kernel), (by decide +kernel), (by decide +kernel)⟩, q_bm 47 (by decide +kernel) (by decide +kernel), q_bm 849 (by decide +kernel) (by decide +kernel)⟩, q_bm 847 (by decide +kernel) (by decide +kernel), q_bm 848 (by decide +kernel) (by decide +kernel), TX12, rfl⟩
theorem xu_J4 : Cond.superclass RJ4 RJ5 ∈ q_big := q_bm 977 (by decide +kernel) (by decide +kernel)
theorem xl_L_178 : Cond.methodLink RL 178 yX11_init ∈ q_big := q_bm 60 (by decide +kernel) (by decide +kernel)
theorem xl_L_146 : Cond.methodLink RL 146 yX11_mule ∈ q_big := q_bm 482 (by decide +kernel) (by decide +kernel)
theorem xl_L_155 : Cond.methodLink RL 155 yX11_man ∈ q_big := q_bm 497 (by decide +kernel) (by decide +kernel)
theorem xl_L_148 : Cond.methodLink RL 148 yX11_set ∈ q_big := q_bm 505 (by decide +kernel) (by decide +kernel)
theorem xl_L_160 : Cond.methodLink RL 160 yX11_like ∈ q_big := q_bm 528 (by decide +kernel) (by decide +kernel)
theorem xl_L_202 : Cond.methodLink RL 202 yX11_vote ∈ q_big := q_bm 540 (by decide +kernel) (by decide +kernel)
theorem xl_L_212 : Cond.methodLink RL 212 yX11_act ∈ q_big := q_bm 647 (by decide +kernel) (by decide +kernel)
theorem xl_L_219 : Cond.methodLink RL 219 yX11_go ∈ q_big := q_bm 677 (by decide +kernel) (by decide +kernel)
theorem xl_L_234 : Cond.methodLink RL 234 yX11_rest ∈ q_big := q_bm 703 (by decide +kernel) (by decide +kernel)
theorem xl_L_195 : Cond.methodLink RL 195 yX11_days ∈ q_big := q_bm 713 (by decide +kernel) (by decide +kernel)
theorem xl_L_244 : Cond.methodLink RL 244 yX11_path ∈ q_big := q_bm 730 (by decide +kernel) (by decide +kernel)
theorem xl_L_246 : Cond.methodLink RL 246 yX11_book ∈ q_big := q_bm 735 (by decide +kernel) (by decide +kernel)
theorem xl_L_237 : Cond.methodLink RL 237 yX11_undo ∈ q_big := q_bm 743 (by decide +kernel) (by decide +kernel)
theorem xl_L_241 : Cond.methodLink RL 241 yX11_look ∈ q_big := q_bm 751 (by decide +kernel) (by decide +kernel)
theorem xl_L_187 : Cond.methodLink RL 187 yX12_copy ∈ q_big := q_bm 756 (by decide +kernel) (by decide +kernel)
theorem xl_X12_31 : Cond.methodLink RX12 31 yX12_init ∈ q_big := q_bm 762 (by decide +kernel) (by decide +kernel)
theorem xl_X12_1 : Cond.methodLink RX12 1 Lib.objectInit ∈ q_big := q_bm 765 (by decide +kernel) (by decide +kernel)
theorem xk_X12_65 : x_cw RX12 65 "[I" := ⟨q_bm 836 (by decide +kernel) (by decide +kernel), q_bm 837 (by decide +kernel) (by decide +kernel), q_bm 838 (by decide +kernel) (by decide +kernel), q_bm 839 (by decide +kernel) (by decide +kernel), q_bm 840 (by decide +kernel) (by decide +kernel)⟩
theorem xl_L_230 : Cond.methodLink RL 230 yX12_notes ∈ q_big := q_bm 842 (by decide +kernel) (by decide +kernel)
theorem xl_L_198 : Cond.methodLink RL 198 yX12_votes ∈ q_big := q_bm 846 (by decide +kernel) (by decide +kernel)
theorem xl_X12_96 : Cond.methodLink RX12 96 yX12_stand ∈ q_big := q_bm 850 (by decide +kernel) (by decide +kernel)
theorem xl_X12_89 : Cond.methodLink RX12 89 yX12_lean ∈ q_big := q_bm 854 (by decide +kernel) (by decide +kernel)
theorem xl_X12_71 : Cond.methodLink RX12 71 yX12_behind ∈ q_big := q_bm 858 (by decide +kernel) (by decide +kernel)
theorem xl_X12_75 : Cond.methodLink RX12 75 yJ6_bitCount_0f7a4 ∈ q_big := q_bm 862 (by decide +kernel) (by decide +kernel)
theorem xl_L_8 : Cond.methodLink RL 8 Lib.Math.min.name ∈ q_big := q_bm 866 (by decide +kernel) (by decide +kernel)
theorem xl_L_14 : Cond.methodLink RL 14 Lib.Math.max.name ∈ q_big := q_bm 867 (by decide +kernel) (by decide +kernel)
theorem xl_X12_93 : Cond.methodLink RX12 93 yX12_need ∈ q_big := q_bm 868 (by decide +kernel) (by decide +kernel)
theorem xl_X12_100 : Cond.methodLink RX12 100 yX12_notes ∈ q_big := q_bm 872 (by decide +kernel) (by decide +kernel)
theorem xl_L_208 : Cond.methodLink RL 208 yX12_does ∈ q_big := q_bm 873 (by decide +kernel) (by decide +kernel)
theorem xl_X12_104 : Cond.methodLink RX12 104 yX12_likes ∈ q_big := q_bm 877 (by decide +kernel) (by decide +kernel)
theorem xl_X12_108 : Cond.methodLink RX12 108 yX12_votes ∈ q_big := q_bm 881 (by decide +kernel) (by decide +kernel)
theorem xl_X12_112 : Cond.methodLink RX12 112 yX12_goes ∈ q_big := q_bm 882 (by decide +kernel) (by decide +kernel)
theorem xl_X12_116 : Cond.methodLink RX12 116 yX12_path ∈ q_big := q_bm 886 (by decide +kernel) (by decide +kernel)
theorem xl_X12_118 : Cond.methodLink RX12 118 yX12_risk ∈ q_big := q_bm 890 (by decide +kernel) (by decide +kernel)
theorem xl_X12_121 : Cond.methodLink RX12 121 yX12_draw ∈ q_big := q_bm 894 (by decide +kernel) (by decide +kernel)
theorem xl_L_215 : Cond.methodLink RL 215 yX12_goes ∈ q_big := q_bm 900 (by decide +kernel) (by decide +kernel)
theorem xl_L_191 : Cond.methodLink RL 191 yX12_passes ∈ q_big := q_bm 901 (by decide +kernel) (by decide +kernel)
theorem xl_X12_124 : Cond.methodLink RX12 124 yX12_does ∈ q_big := q_bm 905 (by decide +kernel) (by decide +kernel)
theorem xl_L_222 : Cond.methodLink RL 222 yX12_lame ∈ q_big := q_bm 906 (by decide +kernel) (by decide +kernel)
theorem xl_L_183 : Cond.methodLink RL 183 yX12_isSame ∈ q_big := q_bm 910 (by decide +kernel) (by decide +kernel)
theorem xl_X12_128 : Cond.methodLink RX12 128 yX11_of ∈ q_big := q_bm 914 (by decide +kernel) (by decide +kernel)
theorem xl_X12_133 : Cond.methodLink RX12 133 yX11_manOf ∈ q_big := q_bm 929 (by decide +kernel) (by decide +kernel)
theorem xl_X12_136 : Cond.methodLink RX12 136 yX11_book ∈ q_big := q_bm 934 (by decide +kernel) (by decide +kernel)
theorem xl_X12_139 : Cond.methodLink RX12 139 yX12_lame ∈ q_big := q_bm 935 (by decide +kernel) (by decide +kernel)
theorem xl_X12_143 : Cond.methodLink RX12 143 yX11_look ∈ q_big := q_bm 936 (by decide +kernel) (by decide +kernel)
theorem xl_L_121 : Cond.methodLink RL 121 yL_cell ∈ q_big := q_bm 937 (by decide +kernel) (by decide +kernel)
theorem xl_L_43 : Cond.methodLink RL 43 yL_between ∈ q_big := q_bm 940 (by decide +kernel) (by decide +kernel)
theorem xl_L_169 : Cond.methodLink RL 169 yL_texts ∈ q_big := q_bm 944 (by decide +kernel) (by decide +kernel)
theorem xl_L_51 : Cond.methodLink RL 51 yJ4_init_da8c8 ∈ q_big := q_bm 949 (by decide +kernel) (by decide +kernel)
theorem xl_J4_1 : Cond.methodLink RJ4 1 yJ5_init_d00df ∈ q_big := q_bm 952 (by decide +kernel) (by decide +kernel)
theorem xl_J5_3 : Cond.methodLink RJ5 3 Lib.objectInit ∈ q_big := q_bm 955 (by decide +kernel) (by decide +kernel)
theorem xl_J5_26 : Cond.methodLink RJ5 26 yJ2_newBytesFor_77867 ∈ q_big := q_bm 958 (by decide +kernel) (by decide +kernel)
theorem xl_L_61 : Cond.methodLink RL 61 yJ4_append_15ec4 ∈ q_big := q_bm 980 (by decide +kernel) (by decide +kernel)
theorem xl_J4_29 : Cond.methodLink RJ4 29 yJ5_append_cf1ce ∈ q_big := q_bm 984 (by decide +kernel) (by decide +kernel)
theorem xl_J5_204 : Cond.methodLink RJ5 204 yJ5_appendNull_278bc ∈ q_big := q_bm 987 (by decide +kernel) (by decide +kernel)
theorem xl_J5_100 : Cond.methodLink RJ5 100 yJ5_ensureCapacityInternal_d00df ∈ q_big := q_bm 991 (by decide +kernel) (by decide +kernel)
theorem xl_J5_104 : Cond.methodLink RJ5 104 yJ5_newCapacity_0f7a4 ∈ q_big := q_bm 995 (by decide +kernel) (by decide +kernel)
theorem xl_J5_114 : Cond.methodLink RJ5 114 yJ8_newLength_cabcc ∈ q_big := q_bm 999 (by decide +kernel) (by decide +kernel)
theorem xl_J8_194 : Cond.methodLink RJ8 194 Lib.Math.max.name ∈ q_big := q_bm 1002 (by decide +kernel) (by decide +kernel)
theorem xl_J8_201 : Cond.methodLink RJ8 201 yJ8_hugeLength_7cf53 ∈ q_big := q_bm 1004 (by decide +kernel) (by decide +kernel)
theorem xl_J5_108 : Cond.methodLink RJ5 108 yJ7_copyOf_9075b ∈ q_big := q_bm 1008 (by decide +kernel) (by decide +kernel)
theorem xk_J7_310 : x_cw RJ7 310 "[B" := ⟨q_bm 1011 (by decide +kernel) (by decide +kernel), q_bm 1012 (by decide +kernel) (by decide +kernel), q_bm 838 (by decide +kernel) (by decide +kernel), q_bm 839 (by decide +kernel) (by decide +kernel), q_bm 1013 (by decide +kernel) (by decide +kernel)⟩
theorem xl_J7_304 : Cond.methodLink RJ7 304 Lib.Math.min.name ∈ q_big := q_bm 1016 (by decide +kernel) (by decide +kernel)
theorem xl_J7_150 : Cond.methodLink RJ7 150 arraycopyName ∈ q_big := q_bm 1017 (by decide +kernel) (by decide +kernel)
theorem xl_J5_83 : Cond.methodLink RJ5 83 yJ5_isLatin1_aae02 ∈ q_big := q_bm 1018 (by decide +kernel) (by decide +kernel)
theorem xl_J5_226 : Cond.methodLink RJ5 226 yJ2_putCharsAt_cd4e5 ∈ q_big := q_bm 1023 (by decide +kernel) (by decide +kernel)
theorem xl_J0_1062 : Cond.methodLink RJ0 1062 yJ3_checkFromToIndex_8c36e ∈ q_big := q_bm 1037 (by decide +kernel) (by decide +kernel)
theorem xl_J5_32 : Cond.methodLink RJ5 32 yJ0_length_8abf5 ∈ q_big := q_bm 1049 (by decide +kernel) (by decide +kernel)
theorem xl_J0_335 : Cond.methodLink RJ0 335 yJ0_coder_7d493 ∈ q_big := q_bm 1053 (by decide +kernel) (by decide +kernel)
theorem xl_J5_208 : Cond.methodLink RJ5 208 yJ5_putStringAt_47b60 ∈ q_big := q_bm 1058 (by decide +kernel) (by decide +kernel)
theorem xl_J5_397 : Cond.methodLink RJ5 397 yJ5_inflateIfNeededFor_a7421 ∈ q_big := q_bm 1062 (by decide +kernel) (by decide +kernel)
theorem xl_J5_40 : Cond.methodLink RJ5 40 yJ0_coder_7d493 ∈ q_big := q_bm 1066 (by decide +kernel) (by decide +kernel)
theorem xl_J5_195 : Cond.methodLink RJ5 195 yJ5_inflate_da8c8 ∈ q_big := q_bm 1067 (by decide +kernel) (by decide +kernel)
theorem xl_J5_125 : Cond.methodLink RJ5 125 yJ1_inflate_0e8fd ∈ q_big := q_bm 1071 (by decide +kernel) (by decide +kernel)
theorem xl_J1_240 : Cond.methodLink RJ1 240 yJ2_inflate_0e8fd ∈ q_big := q_bm 1074 (by decide +kernel) (by decide +kernel)
theorem xl_J0_1065 : Cond.methodLink RJ0 1065 yJ3_checkFromIndexSize_8c36e ∈ q_big := q_bm 1083 (by decide +kernel) (by decide +kernel)
theorem xl_J5_399 : Cond.methodLink RJ5 399 yJ0_getBytes_840e7 ∈ q_big := q_bm 1086 (by decide +kernel) (by decide +kernel)
theorem xl_J0_212 : Cond.methodLink RJ0 212 arraycopyName ∈ q_big := q_bm 1090 (by decide +kernel) (by decide +kernel)
theorem xl_J0_106 : Cond.methodLink RJ0 106 yJ1_inflate_0e8fd ∈ q_big := q_bm 1091 (by decide +kernel) (by decide +kernel)
theorem xl_L_65 : Cond.methodLink RL 65 yJ4_append_bf812 ∈ q_big := q_bm 1092 (by decide +kernel) (by decide +kernel)
theorem xl_J4_53 : Cond.methodLink RJ4 53 yJ5_append_c97b9 ∈ q_big := q_bm 1096 (by decide +kernel) (by decide +kernel)
theorem xl_J5_245 : Cond.methodLink RJ5 245 yJ6_stringSize_0f7a4 ∈ q_big := q_bm 1099 (by decide +kernel) (by decide +kernel)
theorem xl_J5_248 : Cond.methodLink RJ5 248 yJ6_getChars_ba4f3 ∈ q_big := q_bm 1102 (by decide +kernel) (by decide +kernel)
theorem xl_J5_251 : Cond.methodLink RJ5 251 yJ2_getChars_46870 ∈ q_big := q_bm 1109 (by decide +kernel) (by decide +kernel)
theorem xl_L_72 : Cond.methodLink RL 72 yJ4_toString_0e30d ∈ q_big := q_bm 1119 (by decide +kernel) (by decide +kernel)
theorem xl_J4_137 : Cond.methodLink RJ4 137 yJ0_init_81219 ∈ q_big := q_bm 1125 (by decide +kernel) (by decide +kernel)
theorem xl_J0_489 : Cond.methodLink RJ0 489 yJ0_init_db425 ∈ q_big := q_bm 1128 (by decide +kernel) (by decide +kernel)
theorem xl_J0_1 : Cond.methodLink RJ0 1 Lib.objectInit ∈ q_big := q_bm 1131 (by decide +kernel) (by decide +kernel)
theorem xl_J0_552 : Cond.methodLink RJ0 552 yJ5_getValue_6d5f1 ∈ q_big := q_bm 1132 (by decide +kernel) (by decide +kernel)
theorem xl_J0_549 : Cond.methodLink RJ0 549 yJ5_length_8abf5 ∈ q_big := q_bm 1137 (by decide +kernel) (by decide +kernel)
theorem xl_J4_343 : Cond.methodLink RJ4 343 yJ5_length_8abf5 ∈ q_big := q_bm 1143 (by decide +kernel) (by decide +kernel)
theorem xl_J0_1047 : Cond.methodLink RJ0 1047 yJ5_isLatin1_aae02 ∈ q_big := q_bm 1145 (by decide +kernel) (by decide +kernel)
theorem xl_J0_54 : Cond.methodLink RJ0 54 yJ7_copyOfRange_39247 ∈ q_big := q_bm 1146 (by decide +kernel) (by decide +kernel)
theorem xl_J7_339 : Cond.methodLink RJ7 339 yJ7_copyOfRangeByte_39247 ∈ q_big := q_bm 1149 (by decide +kernel) (by decide +kernel)
theorem xl_J7_343 : Cond.methodLink RJ7 343 yJ7_checkLength_df160 ∈ q_big := q_bm 1152 (by decide +kernel) (by decide +kernel)
theorem xl_J0_1051 : Cond.methodLink RJ0 1051 yJ2_compress_39247 ∈ q_big := q_bm 1155 (by decide +kernel) (by decide +kernel)
theorem xl_J0_47 : Cond.methodLink RJ0 47 yJ2_coderFromArrayLen_85cad ∈ q_big := q_bm 1165 (by decide +kernel) (by decide +kernel)
theorem xl_L_80 : Cond.methodLink RL 80 yL_say ∈ q_big := q_bm 1181 (by decide +kernel) (by decide +kernel)
theorem xl_L_17 : Cond.methodLink RL 17 yJ0_length_8abf5 ∈ q_big := q_bm 1184 (by decide +kernel) (by decide +kernel)
theorem xl_L_23 : Cond.methodLink RL 23 yJ0_charAt_5068e ∈ q_big := q_bm 1185 (by decide +kernel) (by decide +kernel)
theorem xl_J0_492 : Cond.methodLink RJ0 492 yJ0_isLatin1_aae02 ∈ q_big := q_bm 1189 (by decide +kernel) (by decide +kernel)
theorem xl_J0_495 : Cond.methodLink RJ0 495 yJ1_charAt_3b067 ∈ q_big := q_bm 1193 (by decide +kernel) (by decide +kernel)
theorem xl_J1_9 : Cond.methodLink RJ1 9 yJ0_checkIndex_df160 ∈ q_big := q_bm 1196 (by decide +kernel) (by decide +kernel)
theorem xl_J0_1059 : Cond.methodLink RJ0 1059 yJ3_checkIndex_8e157 ∈ q_big := q_bm 1199 (by decide +kernel) (by decide +kernel)
theorem xl_J0_498 : Cond.methodLink RJ0 498 yJ2_charAt_3b067 ∈ q_big := q_bm 1202 (by decide +kernel) (by decide +kernel)
theorem xl_L_27 : Cond.methodLink RL 27 yX11_feed ∈ q_big := q_bm 1209 (by decide +kernel) (by decide +kernel)
theorem xl_L_33 : Cond.methodLink RL 33 yX11_end ∈ q_big := q_bm 1217 (by decide +kernel) (by decide +kernel)
theorem xl_L_84 : Cond.methodLink RL 84 yX11_text ∈ q_big := q_bm 1221 (by decide +kernel) (by decide +kernel)
theorem xl_L_179 : Cond.methodLink RL 179 yL_train ∈ q_big := q_bm 1472 (by decide +kernel) (by decide +kernel)
theorem xl_L_157 : Cond.methodLink RL 157 yX11_of ∈ q_big := q_bm 1486 (by decide +kernel) (by decide +kernel)
theorem xl_L_176 : Cond.methodLink RL 176 yX11_state ∈ q_big := q_bm 1487 (by decide +kernel) (by decide +kernel)
theorem xl_L_225 : Cond.methodLink RL 225 yJ6_bitCount_0f7a4 ∈ q_big := q_bm 1491 (by decide +kernel) (by decide +kernel)
theorem xc_L_28 : Cond.classLink RL 28 RX11 ∈ q_big := q_bm 58 (by decide +kernel) (by decide +kernel)
theorem xn_L_28 : Cond.classLink RL 28 RX11 ∈ q_big ∧ Cond.instantiable RX11 (q_nF 11) ∈ q_big ∧ Cond.initialized RX11 ∈ q_big := ⟨xc_L_28, q_bm 59 (by decide +kernel) (by decide +kernel), q_bm 33 (by decide +kernel) (by decide +kernel)⟩
theorem xc_X12_8 : Cond.classLink RX12 8 RX12 ∈ q_big := q_bm 760 (by decide +kernel) (by decide +kernel)
theorem xn_X12_8 : Cond.classLink RX12 8 RX12 ∈ q_big ∧ Cond.instantiable RX12 (q_nF 12) ∈ q_big ∧ Cond.initialized RX12 ∈ q_big := ⟨xc_X12_8, q_bm 761 (by decide +kernel) (by decide +kernel), q_bm 47 (by decide +kernel) (by decide +kernel)⟩
theorem xc_X12_13 : Cond.classLink RX12 13 "[I" ∈ q_big := q_bm 766 (by decide +kernel) (by decide +kernel)
theorem xc_L_49 : Cond.classLink RL 49 RJ4 ∈ q_big := q_bm 947 (by decide +kernel) (by decide +kernel)
theorem xn_L_49 : Cond.classLink RL 49 RJ4 ∈ q_big ∧ Cond.instantiable RJ4 (q_nF 14) ∈ q_big ∧ Cond.initialized RJ4 ∈ q_big := ⟨xc_L_49, q_bm 948 (by decide +kernel) (by decide +kernel), q_bm 49 (by decide +kernel) (by decide +kernel)⟩
theorem xc_J7_311 : Cond.classLink RJ7 311 "[B" ∈ q_big := q_bm 1015 (by decide +kernel) (by decide +kernel)
theorem xc_J4_18 : Cond.classLink RJ4 18 RJ0 ∈ q_big := q_bm 1123 (by decide +kernel) (by decide +kernel)
theorem xn_J4_18 : Cond.classLink RJ4 18 RJ0 ∈ q_big ∧ Cond.instantiable RJ0 (q_nF 13) ∈ q_big ∧ Cond.initialized RJ0 ∈ q_big := ⟨xc_J4_18, q_bm 1124 (by decide +kernel) (by decide +kernel), q_bm 50 (by decide +kernel) (by decide +kernel)⟩
theorem xc_L_18 : Cond.classLink RL 18 RJ0 ∈ q_big := q_bm 1460 (by decide +kernel) (by decide +kernel)
theorem xn_L_18 : Cond.classLink RL 18 RJ0 ∈ q_big ∧ Cond.instantiable RJ0 (q_nF 13) ∈ q_big ∧ Cond.initialized RJ0 ∈ q_big := ⟨xc_L_18, q_bm 1124 (by decide +kernel) (by decide +kernel), q_bm 50 (by decide +kernel) (by decide +kernel)⟩
theorem xc_L_98 : Cond.classLink RL 98 "[I" ∈ q_big := q_bm 1467 (by decide +kernel) (by decide +kernel)
theorem xc_L_38 : Cond.classLink RL 38 RX12 ∈ q_big := q_bm 1475 (by decide +kernel) (by decide +kernel)
theorem xn_L_38 : Cond.classLink RL 38 RX12 ∈ q_big ∧ Cond.instantiable RX12 (q_nF 12) ∈ q_big ∧ Cond.initialized RX12 ∈ q_big := ⟨xc_L_38, q_bm 761 (by decide +kernel) (by decide +kernel), q_bm 47 (by decide +kernel) (by decide +kernel)⟩
theorem xw_byte : Cond.arrayClass .byte ∈ q_big := q_bm 978 (by decide +kernel) (by decide +kernel)
theorem df_13 : ∀ k, k < q_nF 13 → defaultValue (tyJ0 k) = if q_isR 13 k = true then .null else .int 0 := by decide +kernel
theorem df_14 : ∀ k, k < q_nF 14 → defaultValue (tyJ4 k) = if q_isR 14 k = true then .null else .int 0 := by decide +kernel
theorem xq_11 : ∃ T N, q_cl[11]? = some (RX11, T, N) := ⟨_, _, rfl⟩
theorem xq_12 : ∃ T N, q_cl[12]? = some (RX12, T, N) := ⟨_, _, rfl⟩
theorem xq_13 : ∃ T N, q_cl[13]? = some (RJ0, T, N) := ⟨_, _, rfl⟩
theorem xq_14 : ∃ T N, q_cl[14]? = some (RJ4, T, N) := ⟨_, _, rfl⟩
