/-! THE PURE PART: no machine any more: what the functions say -/
def q_F : Nat := 20000
def z_m : Int32 := -1
theorem z_m1 : (-1 : Int32) = z_m := Eq.trans rfl rfl
theorem l_0 : (0 : Int32) = nI 0 := Eq.trans rfl rfl
theorem l_1 : (1 : Int32) = nI 1 := Eq.trans rfl rfl
theorem l_2 : (2 : Int32) = nI 2 := Eq.trans rfl rfl
theorem l_3 : (3 : Int32) = nI 3 := Eq.trans rfl rfl
theorem l_4 : (4 : Int32) = nI 4 := Eq.trans rfl rfl
theorem l_5 : (5 : Int32) = nI 5 := Eq.trans rfl rfl
theorem l_6 : (6 : Int32) = nI 6 := Eq.trans rfl rfl
theorem l_7 : (7 : Int32) = nI 7 := Eq.trans rfl rfl
theorem l_8 : (8 : Int32) = nI 8 := Eq.trans rfl rfl
theorem l_9 : (9 : Int32) = nI 9 := Eq.trans rfl rfl
theorem l_10 : (10 : Int32) = nI 10 := Eq.trans rfl rfl
theorem l_11 : (11 : Int32) = nI 11 := Eq.trans rfl rfl
theorem l_12 : (12 : Int32) = nI 12 := Eq.trans rfl rfl
theorem l_13 : (13 : Int32) = nI 13 := Eq.trans rfl rfl
theorem l_14 : (14 : Int32) = nI 14 := Eq.trans rfl rfl
theorem l_15 : (15 : Int32) = nI 15 := Eq.trans rfl rfl
theorem l_16 : (16 : Int32) = nI 16 := Eq.trans rfl rfl
theorem l_17 : (17 : Int32) = nI 17 := Eq.trans rfl rfl
theorem l_18 : (18 : Int32) = nI 18 := Eq.trans rfl rfl
theorem l_19 : (19 : Int32) = nI 19 := Eq.trans rfl rfl
theorem l_20 : (20 : Int32) = nI 20 := Eq.trans rfl rfl
theorem l_21 : (21 : Int32) = nI 21 := Eq.trans rfl rfl
theorem l_22 : (22 : Int32) = nI 22 := Eq.trans rfl rfl
theorem l_23 : (23 : Int32) = nI 23 := Eq.trans rfl rfl
theorem l_24 : (24 : Int32) = nI 24 := Eq.trans rfl rfl
theorem l_25 : (25 : Int32) = nI 25 := Eq.trans rfl rfl
theorem l_26 : (26 : Int32) = nI 26 := Eq.trans rfl rfl
theorem l_27 : (27 : Int32) = nI 27 := Eq.trans rfl rfl
theorem l_28 : (28 : Int32) = nI 28 := Eq.trans rfl rfl
theorem l_29 : (29 : Int32) = nI 29 := Eq.trans rfl rfl
theorem l_30 : (30 : Int32) = nI 30 := Eq.trans rfl rfl
theorem l_31 : (31 : Int32) = nI 31 := Eq.trans rfl rfl
theorem l_32 : (32 : Int32) = nI 32 := Eq.trans rfl rfl
theorem l_33 : (33 : Int32) = nI 33 := Eq.trans rfl rfl
theorem l_34 : (34 : Int32) = nI 34 := Eq.trans rfl rfl
theorem l_35 : (35 : Int32) = nI 35 := Eq.trans rfl rfl
theorem l_36 : (36 : Int32) = nI 36 := Eq.trans rfl rfl
theorem l_37 : (37 : Int32) = nI 37 := Eq.trans rfl rfl
theorem l_38 : (38 : Int32) = nI 38 := Eq.trans rfl rfl
theorem l_39 : (39 : Int32) = nI 39 := Eq.trans rfl rfl
theorem l_40 : (40 : Int32) = nI 40 := Eq.trans rfl rfl
theorem l_41 : (41 : Int32) = nI 41 := Eq.trans rfl rfl
theorem l_42 : (42 : Int32) = nI 42 := Eq.trans rfl rfl
theorem l_43 : (43 : Int32) = nI 43 := Eq.trans rfl rfl
theorem l_44 : (44 : Int32) = nI 44 := Eq.trans rfl rfl
theorem l_45 : (45 : Int32) = nI 45 := Eq.trans rfl rfl
theorem l_46 : (46 : Int32) = nI 46 := Eq.trans rfl rfl
theorem l_47 : (47 : Int32) = nI 47 := Eq.trans rfl rfl
theorem l_48 : (48 : Int32) = nI 48 := Eq.trans rfl rfl
theorem l_49 : (49 : Int32) = nI 49 := Eq.trans rfl rfl
theorem l_50 : (50 : Int32) = nI 50 := Eq.trans rfl rfl
theorem l_51 : (51 : Int32) = nI 51 := Eq.trans rfl rfl
theorem l_52 : (52 : Int32) = nI 52 := Eq.trans rfl rfl
theorem l_53 : (53 : Int32) = nI 53 := Eq.trans rfl rfl
theorem l_54 : (54 : Int32) = nI 54 := Eq.trans rfl rfl
theorem l_55 : (55 : Int32) = nI 55 := Eq.trans rfl rfl
theorem l_56 : (56 : Int32) = nI 56 := Eq.trans rfl rfl
theorem l_57 : (57 : Int32) = nI 57 := Eq.trans rfl rfl
theorem l_59 : (59 : Int32) = nI 59 := Eq.trans rfl rfl
theorem l_60 : (60 : Int32) = nI 60 := Eq.trans rfl rfl
theorem l_61 : (61 : Int32) = nI 61 := Eq.trans rfl rfl
theorem l_62 : (62 : Int32) = nI 62 := Eq.trans rfl rfl
theorem l_63 : (63 : Int32) = nI 63 := Eq.trans rfl rfl
theorem l_64 : (64 : Int32) = nI 64 := Eq.trans rfl rfl
theorem l_65 : (65 : Int32) = nI 65 := Eq.trans rfl rfl
theorem l_80 : (80 : Int32) = nI 80 := Eq.trans rfl rfl
theorem l_86 : (86 : Int32) = nI 86 := Eq.trans rfl rfl
theorem l_87 : (87 : Int32) = nI 87 := Eq.trans rfl rfl
theorem l_88 : (88 : Int32) = nI 88 := Eq.trans rfl rfl
theorem l_89 : (89 : Int32) = nI 89 := Eq.trans rfl rfl
theorem l_90 : (90 : Int32) = nI 90 := Eq.trans rfl rfl
theorem l_91 : (91 : Int32) = nI 91 := Eq.trans rfl rfl
theorem l_92 : (92 : Int32) = nI 92 := Eq.trans rfl rfl
theorem l_93 : (93 : Int32) = nI 93 := Eq.trans rfl rfl
theorem l_94 : (94 : Int32) = nI 94 := Eq.trans rfl rfl
theorem l_95 : (95 : Int32) = nI 95 := Eq.trans rfl rfl
theorem l_97 : (97 : Int32) = nI 97 := Eq.trans rfl rfl
theorem l_99 : (99 : Int32) = nI 99 := Eq.trans rfl rfl
theorem l_100 : (100 : Int32) = nI 100 := Eq.trans rfl rfl
theorem l_107 : (107 : Int32) = nI 107 := Eq.trans rfl rfl
theorem l_119 : (119 : Int32) = nI 119 := Eq.trans rfl rfl
theorem l_122 : (122 : Int32) = nI 122 := Eq.trans rfl rfl
theorem l_124 : (124 : Int32) = nI 124 := Eq.trans rfl rfl
theorem l_129 : (129 : Int32) = nI 129 := Eq.trans rfl rfl
theorem l_140 : (140 : Int32) = nI 140 := Eq.trans rfl rfl
theorem l_141 : (141 : Int32) = nI 141 := Eq.trans rfl rfl
theorem l_142 : (142 : Int32) = nI 142 := Eq.trans rfl rfl
theorem l_143 : (143 : Int32) = nI 143 := Eq.trans rfl rfl
theorem l_144 : (144 : Int32) = nI 144 := Eq.trans rfl rfl
theorem l_145 : (145 : Int32) = nI 145 := Eq.trans rfl rfl
theorem l_147 : (147 : Int32) = nI 147 := Eq.trans rfl rfl
theorem l_150 : (150 : Int32) = nI 150 := Eq.trans rfl rfl
theorem l_159 : (159 : Int32) = nI 159 := Eq.trans rfl rfl
theorem l_160 : (160 : Int32) = nI 160 := Eq.trans rfl rfl
theorem l_161 : (161 : Int32) = nI 161 := Eq.trans rfl rfl
theorem l_162 : (162 : Int32) = nI 162 := Eq.trans rfl rfl
theorem l_205 : (205 : Int32) = nI 205 := Eq.trans rfl rfl
theorem l_253 : (253 : Int32) = nI 253 := Eq.trans rfl rfl
theorem l_255 : (255 : Int32) = nI 255 := Eq.trans rfl rfl
theorem l_256 : (256 : Int32) = nI 256 := Eq.trans rfl rfl
theorem l_269 : (269 : Int32) = nI 269 := Eq.trans rfl rfl
theorem l_305 : (305 : Int32) = nI 305 := Eq.trans rfl rfl
theorem l_380 : (380 : Int32) = nI 380 := Eq.trans rfl rfl
theorem l_399 : (399 : Int32) = nI 399 := Eq.trans rfl rfl
theorem l_400 : (400 : Int32) = nI 400 := Eq.trans rfl rfl
theorem l_420 : (420 : Int32) = nI 420 := Eq.trans rfl rfl
theorem l_430 : (430 : Int32) = nI 430 := Eq.trans rfl rfl
theorem l_516 : (516 : Int32) = nI 516 := Eq.trans rfl rfl
theorem l_600 : (600 : Int32) = nI 600 := Eq.trans rfl rfl
theorem l_720 : (720 : Int32) = nI 720 := Eq.trans rfl rfl
theorem l_820 : (820 : Int32) = nI 820 := Eq.trans rfl rfl
theorem l_905 : (905 : Int32) = nI 905 := Eq.trans rfl rfl
theorem l_921 : (921 : Int32) = nI 921 := Eq.trans rfl rfl
theorem l_937 : (937 : Int32) = nI 937 := Eq.trans rfl rfl
theorem l_953 : (953 : Int32) = nI 953 := Eq.trans rfl rfl
theorem l_970 : (970 : Int32) = nI 970 := Eq.trans rfl rfl
theorem l_999 : (999 : Int32) = nI 999 := Eq.trans rfl rfl
theorem l_1000 : (1000 : Int32) = nI 1000 := Eq.trans rfl rfl
theorem l_1790 : (1790 : Int32) = nI 1790 := Eq.trans rfl rfl
theorem l_4096 : (4096 : Int32) = nI 4096 := Eq.trans rfl rfl
theorem l_9999 : (9999 : Int32) = nI 9999 := Eq.trans rfl rfl
theorem l_1000000 : (1000000 : Int32) = nI 1000000 := Eq.trans rfl rfl
theorem r_0_0 : q_RF 0 0 = 1 := Eq.trans rfl rfl
theorem r_0_1 : q_RF 0 1 = 31 := Eq.trans rfl rfl
theorem r_0_3 : q_RF 0 3 = 61 := Eq.trans rfl rfl
theorem r_0_4 : q_RF 0 4 = 117 := Eq.trans rfl rfl
theorem r_0_5 : q_RF 0 5 = 126 := Eq.trans rfl rfl
theorem r_0_6 : q_RF 0 6 = 132 := Eq.trans rfl rfl
theorem r_0_7 : q_RF 0 7 = 135 := Eq.trans rfl rfl
theorem r_0_8 : q_RF 0 8 = 142 := Eq.trans rfl rfl
theorem r_0_9 : q_RF 0 9 = 144 := Eq.trans rfl rfl
theorem r_0_10 : q_RF 0 10 = 154 := Eq.trans rfl rfl
theorem r_1_0 : q_RF 1 0 = 2 := Eq.trans rfl rfl
theorem r_1_1 : q_RF 1 1 = 11 := Eq.trans rfl rfl
theorem r_1_2 : q_RF 1 2 = 19 := Eq.trans rfl rfl
theorem r_1_3 : q_RF 1 3 = 21 := Eq.trans rfl rfl
theorem r_1_4 : q_RF 1 4 = 23 := Eq.trans rfl rfl
theorem r_1_5 : q_RF 1 5 = 25 := Eq.trans rfl rfl
theorem r_1_6 : q_RF 1 6 = 27 := Eq.trans rfl rfl
theorem r_1_7 : q_RF 1 7 = 29 := Eq.trans rfl rfl
theorem r_1_8 : q_RF 1 8 = 30 := Eq.trans rfl rfl
theorem r_2_0 : q_RF 2 0 = 3 := Eq.trans rfl rfl
theorem r_2_1 : q_RF 2 1 = 4 := Eq.trans rfl rfl
theorem r_2_2 : q_RF 2 2 = 5 := Eq.trans rfl rfl
theorem r_2_3 : q_RF 2 3 = 6 := Eq.trans rfl rfl
theorem r_2_4 : q_RF 2 4 = 7 := Eq.trans rfl rfl
theorem r_2_5 : q_RF 2 5 = 8 := Eq.trans rfl rfl
theorem r_2_6 : q_RF 2 6 = 9 := Eq.trans rfl rfl
theorem r_2_7 : q_RF 2 7 = 10 := Eq.trans rfl rfl
theorem r_11_0 : q_RF 11 0 = 12 := Eq.trans rfl rfl
theorem r_11_1 : q_RF 11 1 = 13 := Eq.trans rfl rfl
theorem r_11_2 : q_RF 11 2 = 14 := Eq.trans rfl rfl
theorem r_11_3 : q_RF 11 3 = 15 := Eq.trans rfl rfl
theorem r_11_4 : q_RF 11 4 = 16 := Eq.trans rfl rfl
theorem r_11_5 : q_RF 11 5 = 17 := Eq.trans rfl rfl
theorem r_11_6 : q_RF 11 6 = 18 := Eq.trans rfl rfl
theorem r_19_0 : q_RF 19 0 = 20 := Eq.trans rfl rfl
theorem r_21_0 : q_RF 21 0 = 22 := Eq.trans rfl rfl
theorem r_23_0 : q_RF 23 0 = 24 := Eq.trans rfl rfl
theorem r_25_0 : q_RF 25 0 = 26 := Eq.trans rfl rfl
theorem r_27_0 : q_RF 27 0 = 28 := Eq.trans rfl rfl
theorem r_31_0 : q_RF 31 0 = 32 := Eq.trans rfl rfl
theorem r_31_1 : q_RF 31 1 = 41 := Eq.trans rfl rfl
theorem r_31_2 : q_RF 31 2 = 49 := Eq.trans rfl rfl
theorem r_31_3 : q_RF 31 3 = 51 := Eq.trans rfl rfl
theorem r_31_4 : q_RF 31 4 = 53 := Eq.trans rfl rfl
theorem r_31_5 : q_RF 31 5 = 55 := Eq.trans rfl rfl
theorem r_31_6 : q_RF 31 6 = 57 := Eq.trans rfl rfl
theorem r_31_7 : q_RF 31 7 = 59 := Eq.trans rfl rfl
theorem r_31_8 : q_RF 31 8 = 60 := Eq.trans rfl rfl
theorem r_32_0 : q_RF 32 0 = 33 := Eq.trans rfl rfl
theorem r_32_1 : q_RF 32 1 = 34 := Eq.trans rfl rfl
theorem r_32_2 : q_RF 32 2 = 35 := Eq.trans rfl rfl
theorem r_32_3 : q_RF 32 3 = 36 := Eq.trans rfl rfl
theorem r_32_4 : q_RF 32 4 = 37 := Eq.trans rfl rfl
theorem r_32_5 : q_RF 32 5 = 38 := Eq.trans rfl rfl
theorem r_32_6 : q_RF 32 6 = 39 := Eq.trans rfl rfl
theorem r_32_7 : q_RF 32 7 = 40 := Eq.trans rfl rfl
theorem r_41_0 : q_RF 41 0 = 42 := Eq.trans rfl rfl
theorem r_41_1 : q_RF 41 1 = 43 := Eq.trans rfl rfl
theorem r_41_2 : q_RF 41 2 = 44 := Eq.trans rfl rfl
theorem r_41_3 : q_RF 41 3 = 45 := Eq.trans rfl rfl
theorem r_41_4 : q_RF 41 4 = 46 := Eq.trans rfl rfl
theorem r_41_5 : q_RF 41 5 = 47 := Eq.trans rfl rfl
theorem r_41_6 : q_RF 41 6 = 48 := Eq.trans rfl rfl
theorem r_49_0 : q_RF 49 0 = 50 := Eq.trans rfl rfl
theorem r_51_0 : q_RF 51 0 = 52 := Eq.trans rfl rfl
theorem r_53_0 : q_RF 53 0 = 54 := Eq.trans rfl rfl
theorem r_55_0 : q_RF 55 0 = 56 := Eq.trans rfl rfl
theorem r_57_0 : q_RF 57 0 = 58 := Eq.trans rfl rfl
theorem r_61_0 : q_RF 61 0 = 62 := Eq.trans rfl rfl
theorem r_63_0 : q_RF 63 0 = 64 := Eq.trans rfl rfl
theorem r_63_1 : q_RF 63 1 = 65 := Eq.trans rfl rfl
theorem r_63_2 : q_RF 63 2 = 66 := Eq.trans rfl rfl
theorem r_63_3 : q_RF 63 3 = 67 := Eq.trans rfl rfl
theorem r_63_4 : q_RF 63 4 = 68 := Eq.trans rfl rfl
theorem r_63_5 : q_RF 63 5 = 69 := Eq.trans rfl rfl
theorem r_63_6 : q_RF 63 6 = 70 := Eq.trans rfl rfl
theorem r_63_7 : q_RF 63 7 = 71 := Eq.trans rfl rfl
theorem r_72_0 : q_RF 72 0 = 73 := Eq.trans rfl rfl
theorem r_72_1 : q_RF 72 1 = 74 := Eq.trans rfl rfl
theorem r_72_2 : q_RF 72 2 = 75 := Eq.trans rfl rfl
theorem r_72_3 : q_RF 72 3 = 76 := Eq.trans rfl rfl
theorem r_72_4 : q_RF 72 4 = 77 := Eq.trans rfl rfl
theorem r_72_5 : q_RF 72 5 = 78 := Eq.trans rfl rfl
theorem r_72_6 : q_RF 72 6 = 79 := Eq.trans rfl rfl
theorem r_72_7 : q_RF 72 7 = 80 := Eq.trans rfl rfl
theorem r_81_0 : q_RF 81 0 = 82 := Eq.trans rfl rfl
theorem r_81_1 : q_RF 81 1 = 83 := Eq.trans rfl rfl
theorem r_81_2 : q_RF 81 2 = 84 := Eq.trans rfl rfl
theorem r_81_3 : q_RF 81 3 = 85 := Eq.trans rfl rfl
theorem r_81_4 : q_RF 81 4 = 86 := Eq.trans rfl rfl
theorem r_81_5 : q_RF 81 5 = 87 := Eq.trans rfl rfl
theorem r_81_6 : q_RF 81 6 = 88 := Eq.trans rfl rfl
theorem r_81_7 : q_RF 81 7 = 89 := Eq.trans rfl rfl
theorem r_90_0 : q_RF 90 0 = 91 := Eq.trans rfl rfl
theorem r_90_1 : q_RF 90 1 = 92 := Eq.trans rfl rfl
theorem r_90_2 : q_RF 90 2 = 93 := Eq.trans rfl rfl
theorem r_90_3 : q_RF 90 3 = 94 := Eq.trans rfl rfl
theorem r_90_4 : q_RF 90 4 = 95 := Eq.trans rfl rfl
theorem r_90_5 : q_RF 90 5 = 96 := Eq.trans rfl rfl
theorem r_90_6 : q_RF 90 6 = 97 := Eq.trans rfl rfl
theorem r_90_7 : q_RF 90 7 = 98 := Eq.trans rfl rfl
theorem r_99_0 : q_RF 99 0 = 100 := Eq.trans rfl rfl
theorem r_99_1 : q_RF 99 1 = 101 := Eq.trans rfl rfl
theorem r_99_2 : q_RF 99 2 = 102 := Eq.trans rfl rfl
theorem r_99_3 : q_RF 99 3 = 103 := Eq.trans rfl rfl
theorem r_99_4 : q_RF 99 4 = 104 := Eq.trans rfl rfl
theorem r_99_5 : q_RF 99 5 = 105 := Eq.trans rfl rfl
theorem r_99_6 : q_RF 99 6 = 106 := Eq.trans rfl rfl
theorem r_99_7 : q_RF 99 7 = 107 := Eq.trans rfl rfl
theorem r_108_0 : q_RF 108 0 = 109 := Eq.trans rfl rfl
theorem r_108_1 : q_RF 108 1 = 110 := Eq.trans rfl rfl
theorem r_108_2 : q_RF 108 2 = 111 := Eq.trans rfl rfl
theorem r_108_3 : q_RF 108 3 = 112 := Eq.trans rfl rfl
theorem r_108_4 : q_RF 108 4 = 113 := Eq.trans rfl rfl
theorem r_108_5 : q_RF 108 5 = 114 := Eq.trans rfl rfl
theorem r_108_6 : q_RF 108 6 = 115 := Eq.trans rfl rfl
theorem r_108_7 : q_RF 108 7 = 116 := Eq.trans rfl rfl
theorem r_117_0 : q_RF 117 0 = 118 := Eq.trans rfl rfl
theorem r_117_1 : q_RF 117 1 = 119 := Eq.trans rfl rfl
theorem r_117_2 : q_RF 117 2 = 120 := Eq.trans rfl rfl
theorem r_117_3 : q_RF 117 3 = 121 := Eq.trans rfl rfl
theorem r_117_4 : q_RF 117 4 = 122 := Eq.trans rfl rfl
theorem r_117_5 : q_RF 117 5 = 123 := Eq.trans rfl rfl
theorem r_117_6 : q_RF 117 6 = 124 := Eq.trans rfl rfl
theorem r_117_7 : q_RF 117 7 = 125 := Eq.trans rfl rfl
theorem r_126_0 : q_RF 126 0 = 127 := Eq.trans rfl rfl
theorem r_126_1 : q_RF 126 1 = 128 := Eq.trans rfl rfl
theorem r_126_2 : q_RF 126 2 = 129 := Eq.trans rfl rfl
theorem r_126_3 : q_RF 126 3 = 130 := Eq.trans rfl rfl
theorem r_126_4 : q_RF 126 4 = 131 := Eq.trans rfl rfl
theorem r_132_0 : q_RF 132 0 = 133 := Eq.trans rfl rfl
theorem r_132_1 : q_RF 132 1 = 134 := Eq.trans rfl rfl
theorem r_135_0 : q_RF 135 0 = 136 := Eq.trans rfl rfl
theorem r_135_1 : q_RF 135 1 = 137 := Eq.trans rfl rfl
theorem r_135_2 : q_RF 135 2 = 138 := Eq.trans rfl rfl
theorem r_135_3 : q_RF 135 3 = 139 := Eq.trans rfl rfl
theorem r_135_4 : q_RF 135 4 = 140 := Eq.trans rfl rfl
theorem r_135_5 : q_RF 135 5 = 141 := Eq.trans rfl rfl
theorem r_142_0 : q_RF 142 0 = 143 := Eq.trans rfl rfl
theorem r_144_0 : q_RF 144 0 = 142 := Eq.trans rfl rfl
theorem r_144_1 : q_RF 144 1 = 145 := Eq.trans rfl rfl
theorem r_144_2 : q_RF 144 2 = 153 := Eq.trans rfl rfl
theorem r_145_0 : q_RF 145 0 = 146 := Eq.trans rfl rfl
theorem r_145_1 : q_RF 145 1 = 147 := Eq.trans rfl rfl
theorem r_145_2 : q_RF 145 2 = 148 := Eq.trans rfl rfl
theorem r_145_3 : q_RF 145 3 = 149 := Eq.trans rfl rfl
theorem r_145_4 : q_RF 145 4 = 150 := Eq.trans rfl rfl
theorem r_145_5 : q_RF 145 5 = 151 := Eq.trans rfl rfl
theorem r_145_6 : q_RF 145 6 = 152 := Eq.trans rfl rfl
theorem r_154_0 : q_RF 154 0 = 142 := Eq.trans rfl rfl
theorem r_154_1 : q_RF 154 1 = 155 := Eq.trans rfl rfl
theorem r_155_0 : q_RF 155 0 = 156 := Eq.trans rfl rfl
theorem z_call {r : Int32} {s : q_Sto} {k : Int32 → q_Sto → Option (Int32 × q_Sto)} : q_call (some (r, s)) k = k r s := rfl
theorem z_callv {r : Int32} {s : q_Sto} {k : q_Sto → Option (Int32 × q_Sto)} : q_callv (some (r, s)) k = k s := rfl
theorem z_in {n N : Nat} (h : n < N) (hl : N < 2147483648) : q_in (nI n) N := by
  have e := nI_toInt (n := n) (by omega)
  unfold q_in
  rw [e]
  omega
theorem z_ld {σ : q_Sto} {a n len : Nat} {k : Int32 → Option (Int32 × q_Sto)} (h : n < len) (hl : len < 2147483648) : q_ld σ a (nI n) len k = k (σ a n) := by
  have e := nI_clamp (n := n) (by omega)
  unfold q_ld
  rw [if_pos (z_in h hl), e]
theorem z_st {σ : q_Sto} {a n len : Nat} {v : Int32} {k : q_Sto → Option (Int32 × q_Sto)} (h : n < len) (hl : len < 2147483648) : q_st σ a (nI n) len v k = k (q_up σ a n v) := by
  have e := nI_clamp (n := n) (by omega)
  unfold q_st
  rw [if_pos (z_in h hl), e]
theorem z_upS {σ : q_Sto} {o k : Nat} {v : Int32} : q_up σ o k v o k = v := q_up_s
theorem z_upO {σ : q_Sto} {o a k : Nat} {v : Int32} (h : a ≠ o) : q_up σ o k v a = σ a := q_up_o h
theorem z_upK {σ : q_Sto} {o k j : Nat} {v : Int32} (h : j ≠ k) : q_up σ o k v o j = σ o j := q_up_k h
theorem z_mul (a b : Nat) : nI a * nI b = nI (a * b) := (Int32.ofNat_mul a b).symm
theorem z_sub {a b : Nat} (h : b ≤ a) : nI a - nI b = nI (a - b) := pk_sub h
theorem z_of (a : Nat) : Int32.ofNat a = nI a := Eq.trans rfl rfl
theorem z_mT : z_m.toInt = -1 := by decide
theorem z_m_lt {a : Nat} (h : a < 2147483648) : (z_m < nI a) = True := by
  have e := nI_toInt (n := a) (by omega)
  refine eq_true ?_
  rw [Int32.lt_iff_toInt_lt, e, z_mT]
  omega
theorem z_m_le {a : Nat} (h : a < 2147483648) : (z_m ≤ nI a) = True := by
  have e := nI_toInt (n := a) (by omega)
  refine eq_true ?_
  rw [Int32.le_iff_toInt_le, e, z_mT]
  omega
theorem z_lt_m {a : Nat} (h : a < 2147483648) : (nI a < z_m) = False := by
  have e := nI_toInt (n := a) (by omega)
  refine eq_false ?_
  rw [Int32.lt_iff_toInt_lt, e, z_mT]
  omega
theorem z_le_m {a : Nat} (h : a < 2147483648) : (nI a ≤ z_m) = False := by
  have e := nI_toInt (n := a) (by omega)
  refine eq_false ?_
  rw [Int32.le_iff_toInt_le, e, z_mT]
  omega
theorem z_eq_m {a : Nat} (h : a < 2147483648) : (nI a = z_m) = False := by
  have e := nI_toInt (n := a) (by omega)
  refine eq_false ?_
  rw [← Int32.toInt_inj, e, z_mT]
  omega
theorem z_m_eq {a : Nat} (h : a < 2147483648) : (z_m = nI a) = False := by
  have e := nI_toInt (n := a) (by omega)
  refine eq_false ?_
  rw [← Int32.toInt_inj, e, z_mT]
  omega
theorem z_ltT {a b : Nat} (h : a < b) (hb : b < 2147483648) : (nI a < nI b) = True := eq_true ((nI_ltI (by omega) (by omega)).mpr h)
theorem z_ltF {a b : Nat} (h : b ≤ a) (ha : a < 2147483648) : (nI a < nI b) = False := eq_false (fun q => by rw [nI_ltI (by omega) (by omega)] at q; omega)
theorem z_leT {a b : Nat} (h : a ≤ b) (hb : b < 2147483648) : (nI a ≤ nI b) = True := eq_true ((nI_leI (by omega) (by omega)).mpr h)
theorem z_leF {a b : Nat} (h : b < a) (ha : a < 2147483648) : (nI a ≤ nI b) = False := eq_false (fun q => by rw [nI_leI (by omega) (by omega)] at q; omega)
theorem z_eqT {a b : Nat} (h : a = b) : (nI a = nI b) = True := eq_true (by rw [h])
theorem z_eqF {a b : Nat} (h : a ≠ b) (ha : a < 2147483648) (hb : b < 2147483648) : (nI a = nI b) = False := eq_false (fun q => by rw [nI_eq (by omega) (by omega)] at q; exact h q)
theorem z_inT {n N : Nat} (h : n < N) (hl : N < 2147483648) : q_in (nI n) N = True := eq_true (z_in h hl)
theorem z_clT {n : Nat} (h : n < 2147483648) : (nI n).toNatClampNeg = n := nI_clamp (by omega)
/-- a continuation that is not looked into -/
def z_Tg {α : Type} (_ : α) : Type := Unit
def z_tg {α : Type} (k : α) : z_Tg k := ()
def h_ld (σ : q_Sto) (a : Nat) (i : Int32) (len : Nat) (k : Int32 → Option (Int32 × q_Sto)) (_ : z_Tg k) : Option (Int32 × q_Sto) := q_ld σ a i len k
def h_st (σ : q_Sto) (a : Nat) (i : Int32) (len : Nat) (v : Int32) (k : q_Sto → Option (Int32 × q_Sto)) (_ : z_Tg k) : Option (Int32 × q_Sto) := q_st σ a i len v k
def h_nm (x : Int32) (k : Int32 → Option (Int32 × q_Sto)) (_ : z_Tg k) : Option (Int32 × q_Sto) := k x
def h_nS (x : q_Sto) (k : q_Sto → Option (Int32 × q_Sto)) (_ : z_Tg k) : Option (Int32 × q_Sto) := k x
def h_call (f : Option (Int32 × q_Sto)) (k : Int32 → q_Sto → Option (Int32 × q_Sto)) (_ : z_Tg k) : Option (Int32 × q_Sto) := q_call f k
def h_callv (f : Option (Int32 × q_Sto)) (k : q_Sto → Option (Int32 × q_Sto)) (_ : z_Tg k) : Option (Int32 × q_Sto) := q_callv f k
def h_dv (x y : Int32) (k : Int32 → Option (Int32 × q_Sto)) (_ : z_Tg k) : Option (Int32 × q_Sto) := q_dv x y k
def h_rem (x y : Int32) (k : Int32 → Option (Int32 × q_Sto)) (_ : z_Tg k) : Option (Int32 × q_Sto) := q_rem x y k
theorem p_ld {σ : q_Sto} {a : Nat} {i : Int32} {len : Nat} {k : Int32 → Option (Int32 × q_Sto)} : q_ld σ a i len k = h_ld σ a i len k (z_tg k) := Eq.trans rfl rfl
theorem p_st {σ : q_Sto} {a : Nat} {i : Int32} {len : Nat} {v : Int32} {k : q_Sto → Option (Int32 × q_Sto)} : q_st σ a i len v k = h_st σ a i len v k (z_tg k) := Eq.trans rfl rfl
theorem p_nm {x : Int32} {k : Int32 → Option (Int32 × q_Sto)} : q_nm x k = h_nm x k (z_tg k) := Eq.trans rfl rfl
theorem p_nS {x : q_Sto} {k : q_Sto → Option (Int32 × q_Sto)} : q_nS1 x k = h_nS x k (z_tg k) := Eq.trans rfl rfl
theorem p_call {f : Option (Int32 × q_Sto)} {k : Int32 → q_Sto → Option (Int32 × q_Sto)} : q_call f k = h_call f k (z_tg k) := Eq.trans rfl rfl
theorem p_callv {f : Option (Int32 × q_Sto)} {k : q_Sto → Option (Int32 × q_Sto)} : q_callv f k = h_callv f k (z_tg k) := Eq.trans rfl rfl
theorem p_dv {x y : Int32} {k : Int32 → Option (Int32 × q_Sto)} : q_dv x y k = h_dv x y k (z_tg k) := Eq.trans rfl rfl
theorem p_rem {x y : Int32} {k : Int32 → Option (Int32 × q_Sto)} : q_rem x y k = h_rem x y k (z_tg k) := Eq.trans rfl rfl
theorem p_jn {α : Type} {c : α} {b : α → Option (Int32 × q_Sto)} : q_jn c b = b c := Eq.trans rfl rfl
theorem h_ldE {σ : q_Sto} {a n len : Nat} {k : Int32 → Option (Int32 × q_Sto)} {u : z_Tg k} (h : n < len) (hl : len < 2147483648) : h_ld σ a (nI n) len k u = k (σ a n) := z_ld h hl
theorem h_stE {σ : q_Sto} {a n len : Nat} {v : Int32} {k : q_Sto → Option (Int32 × q_Sto)} {u : z_Tg k} (h : n < len) (hl : len < 2147483648) : h_st σ a (nI n) len v k u = k (q_up σ a n v) := z_st h hl
theorem h_nmE {x : Int32} {k : Int32 → Option (Int32 × q_Sto)} {u : z_Tg k} : h_nm x k u = k x := Eq.trans rfl rfl
theorem h_nSE {x : q_Sto} {k : q_Sto → Option (Int32 × q_Sto)} {u : z_Tg k} : h_nS x k u = k x := Eq.trans rfl rfl
theorem h_callE {r : Int32} {s : q_Sto} {k : Int32 → q_Sto → Option (Int32 × q_Sto)} {u : z_Tg k} : h_call (some (r, s)) k u = k r s := Eq.trans rfl rfl
theorem h_callvE {r : Int32} {s : q_Sto} {k : q_Sto → Option (Int32 × q_Sto)} {u : z_Tg k} : h_callv (some (r, s)) k u = k s := Eq.trans rfl rfl
theorem h_dvE {x : Int32} {d : Nat} {k : Int32 → Option (Int32 × q_Sto)} {u : z_Tg k} (h : 0 < d) (hd : d < 2147483648) : h_dv x (nI d) k u = k (x / nI d) := by
  show q_dv _ _ _ = _
  unfold q_dv
  rw [if_neg (nI_ne0 h (by omega))]
theorem h_remE {a d : Nat} {k : Int32 → Option (Int32 × q_Sto)} {u : z_Tg k} (ha : a < 2147483648) (h : 0 < d) (hd : d < 2147483648) : h_rem (nI a) (nI d) k u = k (nI (a % d)) := by
  show q_rem _ _ _ = _
  unfold q_rem
  rw [if_neg (nI_ne0 h (by omega)), pk_rem (by omega) h (by omega)]
theorem z_div {a d : Nat} (ha : a < 2147483648) (h : 0 < d) (hd : d < 2147483648) : nI a / nI d = nI (a / d) := pk_div (by omega) h (by omega)
theorem z_mxE {a b : Nat} (ha : a < 2147483648) (hb : b < 2147483648) : q_mx (nI a) (nI b) = nI (max a b) := by
  unfold q_mx
  by_cases h : a < b
  · rw [if_pos ((nI_ltI (by omega) (by omega)).mpr h)]; congr 1; omega
  · rw [if_neg (fun q => h ((nI_ltI (by omega) (by omega)).mp q))]; congr 1; omega
theorem z_mnE {a b : Nat} (ha : a < 2147483648) (hb : b < 2147483648) : q_mn (nI a) (nI b) = nI (min a b) := by
  unfold q_mn
  by_cases h : b < a
  · rw [if_pos ((nI_ltI (by omega) (by omega)).mpr h)]; congr 1; omega
  · rw [if_neg (fun q => h ((nI_ltI (by omega) (by omega)).mp q))]; congr 1; omega
theorem z_m_add (a : Nat) : z_m + nI (a + 1) = nI a := by
  rw [Int32.add_comm, nI_succ]
  show nI a + 1 + (-1) = nI a
  rw [Int32.add_assoc]
  show nI a + 0 = nI a
  rw [Int32.add_zero]
theorem z_rz0 {σ : q_Sto} : q_rz (nI 0) σ = some (nI 0, σ) := Eq.trans rfl rfl
theorem z_rz1 {σ : q_Sto} : q_rz (nI 1) σ = some (nI 1, σ) := Eq.trans rfl rfl
/-- loops: an induction over what is left of them -/
theorem z_lp {S : Type} (F : Nat → Nat → S → Option (Int32 × q_Sto)) (P : Nat → S → Prop) (Q : Option (Int32 × q_Sto) → Prop) (hi : Nat)
    (h1 : ∀ n i s, i < hi → P i s → (∃ s', P (i + 1) s' ∧ F (n + 1) i s = F n (i + 1) s') ∨ Q (F (n + 1) i s))
    (h2 : ∀ n s, P hi s → Q (F (n + 1) hi s)) : ∀ n i s, i ≤ hi → hi < n + i → P i s → Q (F n i s) := by
  intro n
  induction n with
  | zero => intro i s hi1 hi2; omega
  | succ n ih =>
    intro i s hi1 hi2 hp
    by_cases he : i = hi
    · subst he; exact h2 n s hp
    · rcases h1 n i s (by omega) hp with ⟨s', hp', e⟩ | hq
      · rw [e]; exact ih (i + 1) s' (by omega) (by omega) hp'
      · exact hq
/-- a range asked of an int -/
theorem z_rng (x : Int32) {N : Nat} (h : N < 2147483648) : (∃ k, k < N ∧ x = nI k) ∨ (x < nI 0 ∨ nI N ≤ x) := by
  rcases pk_ix x (n := N) (by omega) with h | h | ⟨j, h1, h2⟩
  · exact Or.inr (Or.inl h)
  · exact Or.inr (Or.inr h)
  · exact Or.inl ⟨j, h1, h2⟩
def z_le (x : Int32) (n : Nat) : Prop := ∃ k, k ≤ n ∧ x = nI k
def z_op (x : Int32) (n : Nat) : Prop := x = z_m ∨ ∃ k, k < n ∧ x = nI k
def z_bit (x : Int32) (m : Nat) : Int32 := (x >>> (nI m &&& nI 31)) &&& nI 1
