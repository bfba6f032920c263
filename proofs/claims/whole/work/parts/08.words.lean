theorem cl_0 : q_cls 0 RX0 TX0 tyX0 := ⟨rfl, q_sub [402, 404, 406, 408, 410, 412, 414, 416, 418] (by decide +kernel) (by decide +kernel), tyX0_ok, nmX0⟩
theorem cl_1 : q_cls 1 RX1 TX1 tyX1 := ⟨rfl, q_sub [377, 379] (by decide +kernel) (by decide +kernel), tyX1_ok, nmX1⟩
theorem cl_2 : q_cls 2 RX2 TX2 tyX2 := ⟨rfl, q_sub [279, 281, 283, 285, 287, 289, 291, 293, 295] (by decide +kernel) (by decide +kernel), tyX2_ok, nmX2⟩
theorem cl_3 : q_cls 3 RX3 TX3 tyX3 := ⟨rfl, q_sub [512, 514, 516, 518, 520, 522, 524, 526, 528] (by decide +kernel) (by decide +kernel), tyX3_ok, nmX3⟩
theorem cl_4 : q_cls 4 RX4 TX4 tyX4 := ⟨rfl, q_sub [446, 448, 450, 452, 454, 456] (by decide +kernel) (by decide +kernel), tyX4_ok, nmX4⟩
theorem cl_5 : q_cls 5 RX5 TX5 tyX5 := ⟨rfl, q_sub [429, 431] (by decide +kernel) (by decide +kernel), tyX5_ok, nmX5⟩
theorem cl_6 : q_cls 6 RX6 TX6 tyX6 := ⟨rfl, q_sub [318, 320, 322] (by decide +kernel) (by decide +kernel), tyX6_ok, nmX6⟩
theorem cl_7 : q_cls 7 RX7 TX7 tyX7 := ⟨rfl, q_sub [542, 544] (by decide +kernel) (by decide +kernel), tyX7_ok, nmX7⟩
theorem cl_8 : q_cls 8 RX8 TX8 tyX8 := ⟨rfl, q_sub [477, 479, 481, 483, 485, 487, 489, 491] (by decide +kernel) (by decide +kernel), tyX8_ok, nmX8⟩
theorem cl_9 : q_cls 9 RX9 TX9 tyX9 := ⟨rfl, q_sub [225, 227, 229, 231, 233, 235, 237, 239, 241, 243, 245, 247, 249, 251, 253, 255, 257, 259] (by decide +kernel) (by decide +kernel), tyX9_ok, nmX9⟩
theorem cl_10 : q_cls 10 RX10 TX10 tyX10 := ⟨rfl, q_sub [346, 348, 350, 352, 354, 356, 358, 360, 362] (by decide +kernel) (by decide +kernel), tyX10_ok, nmX10⟩
theorem cl_11 : q_cls 11 RX11 TX11 tyX11 := ⟨rfl, q_sub [558, 560, 562, 564, 566, 568, 570, 572, 574, 576, 578] (by decide +kernel) (by decide +kernel), tyX11_ok, nmX11⟩
theorem cl_12 : q_cls 12 RX12 TX12 tyX12 := ⟨rfl, q_sub [1431, 1433, 1435, 1437, 1439, 1441, 1443, 1445, 1447, 1449, 1451, 1453, 1455, 1457, 1459, 1461, 1463, 1465, 1467, 1469, 1471, 1473, 1475, 1477, 1479, 1481, 1483, 1485, 1487, 1489, 1491] (by decide +kernel) (by decide +kernel), tyX12_ok, nmX12⟩
theorem kf_0_0 {o : Nat} (h : q_KD o = .inl 0) : q_KD (q_RF o 0) = .inr (12, false) := (by decide +kernel : ∀ o, o < q_N0 → q_KD o = .inl 0 → q_KD (q_RF o 0) = .inr (12, false)) o (q_KD_lt h) h
theorem kl_0_0 {o : Nat} (h : q_KD o = .inl 0) : q_RF o 0 < q_N0 := q_KL (kf_0_0 h) (by decide)
theorem kf_0_1 {o : Nat} (h : q_KD o = .inl 0) : q_KD (q_RF o 1) = .inr (12, false) := (by decide +kernel : ∀ o, o < q_N0 → q_KD o = .inl 0 → q_KD (q_RF o 1) = .inr (12, false)) o (q_KD_lt h) h
theorem kl_0_1 {o : Nat} (h : q_KD o = .inl 0) : q_RF o 1 < q_N0 := q_KL (kf_0_1 h) (by decide)
theorem kf_0_2 {o : Nat} (h : q_KD o = .inl 0) : q_KD (q_RF o 2) = .inr (720, false) := (by decide +kernel : ∀ o, o < q_N0 → q_KD o = .inl 0 → q_KD (q_RF o 2) = .inr (720, false)) o (q_KD_lt h) h
theorem kl_0_2 {o : Nat} (h : q_KD o = .inl 0) : q_RF o 2 < q_N0 := q_KL (kf_0_2 h) (by decide)
theorem kf_0_3 {o : Nat} (h : q_KD o = .inl 0) : q_KD (q_RF o 3) = .inr (144, false) := (by decide +kernel : ∀ o, o < q_N0 → q_KD o = .inl 0 → q_KD (q_RF o 3) = .inr (144, false)) o (q_KD_lt h) h
theorem kl_0_3 {o : Nat} (h : q_KD o = .inl 0) : q_RF o 3 < q_N0 := q_KL (kf_0_3 h) (by decide)
theorem kf_0_4 {o : Nat} (h : q_KD o = .inl 0) : q_KD (q_RF o 4) = .inr (5, false) := (by decide +kernel : ∀ o, o < q_N0 → q_KD o = .inl 0 → q_KD (q_RF o 4) = .inr (5, false)) o (q_KD_lt h) h
theorem kl_0_4 {o : Nat} (h : q_KD o = .inl 0) : q_RF o 4 < q_N0 := q_KL (kf_0_4 h) (by decide)
theorem kf_1_0 {o : Nat} (h : q_KD o = .inl 1) : q_KD (q_RF o 0) = .inr (6, true) := (by decide +kernel : ∀ o, o < q_N0 → q_KD o = .inl 1 → q_KD (q_RF o 0) = .inr (6, true)) o (q_KD_lt h) h
theorem kl_1_0 {o : Nat} (h : q_KD o = .inl 1) : q_RF o 0 < q_N0 := q_KL (kf_1_0 h) (by decide)
theorem kf_2_0 {o : Nat} (h : q_KD o = .inl 2) : q_KD (q_RF o 0) = .inr (16, false) := (by decide +kernel : ∀ o, o < q_N0 → q_KD o = .inl 2 → q_KD (q_RF o 0) = .inr (16, false)) o (q_KD_lt h) h
theorem kl_2_0 {o : Nat} (h : q_KD o = .inl 2) : q_RF o 0 < q_N0 := q_KL (kf_2_0 h) (by decide)
theorem kf_2_1 {o : Nat} (h : q_KD o = .inl 2) : q_KD (q_RF o 1) = .inr (16, false) := (by decide +kernel : ∀ o, o < q_N0 → q_KD o = .inl 2 → q_KD (q_RF o 1) = .inr (16, false)) o (q_KD_lt h) h
theorem kl_2_1 {o : Nat} (h : q_KD o = .inl 2) : q_RF o 1 < q_N0 := q_KL (kf_2_1 h) (by decide)
theorem kf_2_2 {o : Nat} (h : q_KD o = .inl 2) : q_KD (q_RF o 2) = .inr (16, false) := (by decide +kernel : ∀ o, o < q_N0 → q_KD o = .inl 2 → q_KD (q_RF o 2) = .inr (16, false)) o (q_KD_lt h) h
theorem kl_2_2 {o : Nat} (h : q_KD o = .inl 2) : q_RF o 2 < q_N0 := q_KL (kf_2_2 h) (by decide)
theorem kf_2_3 {o : Nat} (h : q_KD o = .inl 2) : q_KD (q_RF o 3) = .inr (16, false) := (by decide +kernel : ∀ o, o < q_N0 → q_KD o = .inl 2 → q_KD (q_RF o 3) = .inr (16, false)) o (q_KD_lt h) h
theorem kl_2_3 {o : Nat} (h : q_KD o = .inl 2) : q_RF o 3 < q_N0 := q_KL (kf_2_3 h) (by decide)
theorem kf_2_4 {o : Nat} (h : q_KD o = .inl 2) : q_KD (q_RF o 4) = .inr (400, false) := (by decide +kernel : ∀ o, o < q_N0 → q_KD o = .inl 2 → q_KD (q_RF o 4) = .inr (400, false)) o (q_KD_lt h) h
theorem kl_2_4 {o : Nat} (h : q_KD o = .inl 2) : q_RF o 4 < q_N0 := q_KL (kf_2_4 h) (by decide)
theorem kf_2_5 {o : Nat} (h : q_KD o = .inl 2) : q_KD (q_RF o 5) = .inr (400, false) := (by decide +kernel : ∀ o, o < q_N0 → q_KD o = .inl 2 → q_KD (q_RF o 5) = .inr (400, false)) o (q_KD_lt h) h
theorem kl_2_5 {o : Nat} (h : q_KD o = .inl 2) : q_RF o 5 < q_N0 := q_KL (kf_2_5 h) (by decide)
theorem kf_2_6 {o : Nat} (h : q_KD o = .inl 2) : q_KD (q_RF o 6) = .inr (400, false) := (by decide +kernel : ∀ o, o < q_N0 → q_KD o = .inl 2 → q_KD (q_RF o 6) = .inr (400, false)) o (q_KD_lt h) h
theorem kl_2_6 {o : Nat} (h : q_KD o = .inl 2) : q_RF o 6 < q_N0 := q_KL (kf_2_6 h) (by decide)
theorem kf_3_0 {o : Nat} (h : q_KD o = .inl 3) : q_KD (q_RF o 0) = .inl 8 := (by decide +kernel : ∀ o, o < q_N0 → q_KD o = .inl 3 → q_KD (q_RF o 0) = .inl 8) o (q_KD_lt h) h
theorem kf_3_1 {o : Nat} (h : q_KD o = .inl 3) : q_KD (q_RF o 1) = .inl 2 := (by decide +kernel : ∀ o, o < q_N0 → q_KD o = .inl 3 → q_KD (q_RF o 1) = .inl 2) o (q_KD_lt h) h
theorem kf_3_2 {o : Nat} (h : q_KD o = .inl 3) : q_KD (q_RF o 2) = .inr (400, false) := (by decide +kernel : ∀ o, o < q_N0 → q_KD o = .inl 3 → q_KD (q_RF o 2) = .inr (400, false)) o (q_KD_lt h) h
theorem kl_3_2 {o : Nat} (h : q_KD o = .inl 3) : q_RF o 2 < q_N0 := q_KL (kf_3_2 h) (by decide)
theorem kf_4_0 {o : Nat} (h : q_KD o = .inl 4) : q_KD (q_RF o 0) = .inr (256, false) := (by decide +kernel : ∀ o, o < q_N0 → q_KD o = .inl 4 → q_KD (q_RF o 0) = .inr (256, false)) o (q_KD_lt h) h
theorem kl_4_0 {o : Nat} (h : q_KD o = .inl 4) : q_RF o 0 < q_N0 := q_KL (kf_4_0 h) (by decide)
theorem kf_4_1 {o : Nat} (h : q_KD o = .inl 4) : q_KD (q_RF o 1) = .inr (256, false) := (by decide +kernel : ∀ o, o < q_N0 → q_KD o = .inl 4 → q_KD (q_RF o 1) = .inr (256, false)) o (q_KD_lt h) h
theorem kl_4_1 {o : Nat} (h : q_KD o = .inl 4) : q_RF o 1 < q_N0 := q_KL (kf_4_1 h) (by decide)
theorem kf_4_2 {o : Nat} (h : q_KD o = .inl 4) : q_KD (q_RF o 2) = .inr (4096, false) := (by decide +kernel : ∀ o, o < q_N0 → q_KD o = .inl 4 → q_KD (q_RF o 2) = .inr (4096, false)) o (q_KD_lt h) h
theorem kl_4_2 {o : Nat} (h : q_KD o = .inl 4) : q_RF o 2 < q_N0 := q_KL (kf_4_2 h) (by decide)
theorem kf_4_3 {o : Nat} (h : q_KD o = .inl 4) : q_KD (q_RF o 3) = .inr (100, false) := (by decide +kernel : ∀ o, o < q_N0 → q_KD o = .inl 4 → q_KD (q_RF o 3) = .inr (100, false)) o (q_KD_lt h) h
theorem kl_4_3 {o : Nat} (h : q_KD o = .inl 4) : q_RF o 3 < q_N0 := q_KL (kf_4_3 h) (by decide)
theorem kf_4_4 {o : Nat} (h : q_KD o = .inl 4) : q_KD (q_RF o 4) = .inr (100, false) := (by decide +kernel : ∀ o, o < q_N0 → q_KD o = .inl 4 → q_KD (q_RF o 4) = .inr (100, false)) o (q_KD_lt h) h
theorem kl_4_4 {o : Nat} (h : q_KD o = .inl 4) : q_RF o 4 < q_N0 := q_KL (kf_4_4 h) (by decide)
theorem kf_4_5 {o : Nat} (h : q_KD o = .inl 4) : q_KD (q_RF o 5) = .inr (12, false) := (by decide +kernel : ∀ o, o < q_N0 → q_KD o = .inl 4 → q_KD (q_RF o 5) = .inr (12, false)) o (q_KD_lt h) h
theorem kl_4_5 {o : Nat} (h : q_KD o = .inl 4) : q_RF o 5 < q_N0 := q_KL (kf_4_5 h) (by decide)
theorem kf_5_0 {o : Nat} (h : q_KD o = .inl 5) : q_KD (q_RF o 0) = .inr (100, false) := (by decide +kernel : ∀ o, o < q_N0 → q_KD o = .inl 5 → q_KD (q_RF o 0) = .inr (100, false)) o (q_KD_lt h) h
theorem kl_5_0 {o : Nat} (h : q_KD o = .inl 5) : q_RF o 0 < q_N0 := q_KL (kf_5_0 h) (by decide)
theorem kf_5_1 {o : Nat} (h : q_KD o = .inl 5) : q_KD (q_RF o 1) = .inr (10, false) := (by decide +kernel : ∀ o, o < q_N0 → q_KD o = .inl 5 → q_KD (q_RF o 1) = .inr (10, false)) o (q_KD_lt h) h
theorem kl_5_1 {o : Nat} (h : q_KD o = .inl 5) : q_RF o 1 < q_N0 := q_KL (kf_5_1 h) (by decide)
theorem kf_6_0 {o : Nat} (h : q_KD o = .inl 6) : q_KD (q_RF o 0) = .inr (64, false) := (by decide +kernel : ∀ o, o < q_N0 → q_KD o = .inl 6 → q_KD (q_RF o 0) = .inr (64, false)) o (q_KD_lt h) h
theorem kl_6_0 {o : Nat} (h : q_KD o = .inl 6) : q_RF o 0 < q_N0 := q_KL (kf_6_0 h) (by decide)
theorem kf_7_0 {o : Nat} (h : q_KD o = .inl 7) : q_KD (q_RF o 0) = .inl 8 := (by decide +kernel : ∀ o, o < q_N0 → q_KD o = .inl 7 → q_KD (q_RF o 0) = .inl 8) o (q_KD_lt h) h
theorem kf_7_1 {o : Nat} (h : q_KD o = .inl 7) : q_KD (q_RF o 1) = .inl 6 := (by decide +kernel : ∀ o, o < q_N0 → q_KD o = .inl 7 → q_KD (q_RF o 1) = .inl 6) o (q_KD_lt h) h
theorem kf_8_0 {o : Nat} (h : q_KD o = .inl 8) : q_KD (q_RF o 0) = .inr (400, false) := (by decide +kernel : ∀ o, o < q_N0 → q_KD o = .inl 8 → q_KD (q_RF o 0) = .inr (400, false)) o (q_KD_lt h) h
theorem kl_8_0 {o : Nat} (h : q_KD o = .inl 8) : q_RF o 0 < q_N0 := q_KL (kf_8_0 h) (by decide)
theorem kf_9_0 {o : Nat} (h : q_KD o = .inl 9) : q_KD (q_RF o 0) = .inr (12, false) := (by decide +kernel : ∀ o, o < q_N0 → q_KD o = .inl 9 → q_KD (q_RF o 0) = .inr (12, false)) o (q_KD_lt h) h
theorem kl_9_0 {o : Nat} (h : q_KD o = .inl 9) : q_RF o 0 < q_N0 := q_KL (kf_9_0 h) (by decide)
theorem kf_9_1 {o : Nat} (h : q_KD o = .inl 9) : q_KD (q_RF o 1) = .inr (12, false) := (by decide +kernel : ∀ o, o < q_N0 → q_KD o = .inl 9 → q_KD (q_RF o 1) = .inr (12, false)) o (q_KD_lt h) h
theorem kl_9_1 {o : Nat} (h : q_KD o = .inl 9) : q_RF o 1 < q_N0 := q_KL (kf_9_1 h) (by decide)
theorem kf_9_2 {o : Nat} (h : q_KD o = .inl 9) : q_KD (q_RF o 2) = .inr (12, false) := (by decide +kernel : ∀ o, o < q_N0 → q_KD o = .inl 9 → q_KD (q_RF o 2) = .inr (12, false)) o (q_KD_lt h) h
theorem kl_9_2 {o : Nat} (h : q_KD o = .inl 9) : q_RF o 2 < q_N0 := q_KL (kf_9_2 h) (by decide)
theorem kf_9_3 {o : Nat} (h : q_KD o = .inl 9) : q_KD (q_RF o 3) = .inr (12, false) := (by decide +kernel : ∀ o, o < q_N0 → q_KD o = .inl 9 → q_KD (q_RF o 3) = .inr (12, false)) o (q_KD_lt h) h
theorem kl_9_3 {o : Nat} (h : q_KD o = .inl 9) : q_RF o 3 < q_N0 := q_KL (kf_9_3 h) (by decide)
theorem kf_9_4 {o : Nat} (h : q_KD o = .inl 9) : q_KD (q_RF o 4) = .inr (5, false) := (by decide +kernel : ∀ o, o < q_N0 → q_KD o = .inl 9 → q_KD (q_RF o 4) = .inr (5, false)) o (q_KD_lt h) h
theorem kl_9_4 {o : Nat} (h : q_KD o = .inl 9) : q_RF o 4 < q_N0 := q_KL (kf_9_4 h) (by decide)
theorem kf_9_5 {o : Nat} (h : q_KD o = .inl 9) : q_KD (q_RF o 5) = .inr (5, false) := (by decide +kernel : ∀ o, o < q_N0 → q_KD o = .inl 9 → q_KD (q_RF o 5) = .inr (5, false)) o (q_KD_lt h) h
theorem kl_9_5 {o : Nat} (h : q_KD o = .inl 9) : q_RF o 5 < q_N0 := q_KL (kf_9_5 h) (by decide)
theorem kf_9_6 {o : Nat} (h : q_KD o = .inl 9) : q_KD (q_RF o 6) = .inr (5, false) := (by decide +kernel : ∀ o, o < q_N0 → q_KD o = .inl 9 → q_KD (q_RF o 6) = .inr (5, false)) o (q_KD_lt h) h
theorem kl_9_6 {o : Nat} (h : q_KD o = .inl 9) : q_RF o 6 < q_N0 := q_KL (kf_9_6 h) (by decide)
theorem kf_9_7 {o : Nat} (h : q_KD o = .inl 9) : q_KD (q_RF o 7) = .inr (60, false) := (by decide +kernel : ∀ o, o < q_N0 → q_KD o = .inl 9 → q_KD (q_RF o 7) = .inr (60, false)) o (q_KD_lt h) h
theorem kl_9_7 {o : Nat} (h : q_KD o = .inl 9) : q_RF o 7 < q_N0 := q_KL (kf_9_7 h) (by decide)
theorem kf_10_0 {o : Nat} (h : q_KD o = .inl 10) : q_KD (q_RF o 0) = .inl 9 := (by decide +kernel : ∀ o, o < q_N0 → q_KD o = .inl 10 → q_KD (q_RF o 0) = .inl 9) o (q_KD_lt h) h
theorem kf_10_1 {o : Nat} (h : q_KD o = .inl 10) : q_KD (q_RF o 1) = .inl 2 := (by decide +kernel : ∀ o, o < q_N0 → q_KD o = .inl 10 → q_KD (q_RF o 1) = .inl 2) o (q_KD_lt h) h
theorem kf_10_2 {o : Nat} (h : q_KD o = .inl 10) : q_KD (q_RF o 2) = .inl 6 := (by decide +kernel : ∀ o, o < q_N0 → q_KD o = .inl 10 → q_KD (q_RF o 2) = .inl 6) o (q_KD_lt h) h
theorem kf_10_3 {o : Nat} (h : q_KD o = .inl 10) : q_KD (q_RF o 3) = .inl 6 := (by decide +kernel : ∀ o, o < q_N0 → q_KD o = .inl 10 → q_KD (q_RF o 3) = .inl 6) o (q_KD_lt h) h
theorem kf_10_4 {o : Nat} (h : q_KD o = .inl 10) : q_KD (q_RF o 4) = .inl 6 := (by decide +kernel : ∀ o, o < q_N0 → q_KD o = .inl 10 → q_KD (q_RF o 4) = .inl 6) o (q_KD_lt h) h
theorem kf_10_5 {o : Nat} (h : q_KD o = .inl 10) : q_KD (q_RF o 5) = .inl 6 := (by decide +kernel : ∀ o, o < q_N0 → q_KD o = .inl 10 → q_KD (q_RF o 5) = .inl 6) o (q_KD_lt h) h
theorem kf_10_6 {o : Nat} (h : q_KD o = .inl 10) : q_KD (q_RF o 6) = .inl 6 := (by decide +kernel : ∀ o, o < q_N0 → q_KD o = .inl 10 → q_KD (q_RF o 6) = .inl 6) o (q_KD_lt h) h
theorem kf_10_7 {o : Nat} (h : q_KD o = .inl 10) : q_KD (q_RF o 7) = .inr (600, false) := (by decide +kernel : ∀ o, o < q_N0 → q_KD o = .inl 10 → q_KD (q_RF o 7) = .inr (600, false)) o (q_KD_lt h) h
theorem kl_10_7 {o : Nat} (h : q_KD o = .inl 10) : q_RF o 7 < q_N0 := q_KL (kf_10_7 h) (by decide)
theorem kf_10_8 {o : Nat} (h : q_KD o = .inl 10) : q_KD (q_RF o 8) = .inr (10, false) := (by decide +kernel : ∀ o, o < q_N0 → q_KD o = .inl 10 → q_KD (q_RF o 8) = .inr (10, false)) o (q_KD_lt h) h
theorem kl_10_8 {o : Nat} (h : q_KD o = .inl 10) : q_RF o 8 < q_N0 := q_KL (kf_10_8 h) (by decide)
theorem kf_11_0 {o : Nat} (h : q_KD o = .inl 11) : q_KD (q_RF o 0) = .inl 10 := (by decide +kernel : ∀ o, o < q_N0 → q_KD o = .inl 11 → q_KD (q_RF o 0) = .inl 10) o (q_KD_lt h) h
theorem kf_11_1 {o : Nat} (h : q_KD o = .inl 11) : q_KD (q_RF o 1) = .inl 10 := (by decide +kernel : ∀ o, o < q_N0 → q_KD o = .inl 11 → q_KD (q_RF o 1) = .inl 10) o (q_KD_lt h) h
theorem kf_11_3 {o : Nat} (h : q_KD o = .inl 11) : q_KD (q_RF o 3) = .inl 1 := (by decide +kernel : ∀ o, o < q_N0 → q_KD o = .inl 11 → q_KD (q_RF o 3) = .inl 1) o (q_KD_lt h) h
theorem kf_11_4 {o : Nat} (h : q_KD o = .inl 11) : q_KD (q_RF o 4) = .inl 9 := (by decide +kernel : ∀ o, o < q_N0 → q_KD o = .inl 11 → q_KD (q_RF o 4) = .inl 9) o (q_KD_lt h) h
theorem kf_11_5 {o : Nat} (h : q_KD o = .inl 11) : q_KD (q_RF o 5) = .inl 0 := (by decide +kernel : ∀ o, o < q_N0 → q_KD o = .inl 11 → q_KD (q_RF o 5) = .inl 0) o (q_KD_lt h) h
theorem kf_11_6 {o : Nat} (h : q_KD o = .inl 11) : q_KD (q_RF o 6) = .inl 5 := (by decide +kernel : ∀ o, o < q_N0 → q_KD o = .inl 11 → q_KD (q_RF o 6) = .inl 5) o (q_KD_lt h) h
theorem kf_11_7 {o : Nat} (h : q_KD o = .inl 11) : q_KD (q_RF o 7) = .inl 4 := (by decide +kernel : ∀ o, o < q_N0 → q_KD o = .inl 11 → q_KD (q_RF o 7) = .inl 4) o (q_KD_lt h) h
theorem kf_11_8 {o : Nat} (h : q_KD o = .inl 11) : q_KD (q_RF o 8) = .inl 8 := (by decide +kernel : ∀ o, o < q_N0 → q_KD o = .inl 11 → q_KD (q_RF o 8) = .inl 8) o (q_KD_lt h) h
theorem kf_11_9 {o : Nat} (h : q_KD o = .inl 11) : q_KD (q_RF o 9) = .inl 3 := (by decide +kernel : ∀ o, o < q_N0 → q_KD o = .inl 11 → q_KD (q_RF o 9) = .inl 3) o (q_KD_lt h) h
theorem kf_11_10 {o : Nat} (h : q_KD o = .inl 11) : q_KD (q_RF o 10) = .inl 7 := (by decide +kernel : ∀ o, o < q_N0 → q_KD o = .inl 11 → q_KD (q_RF o 10) = .inl 7) o (q_KD_lt h) h
theorem kf_12_0 {o : Nat} (h : q_KD o = .inl 12) : q_KD (q_RF o 0) = .inr (1790, false) := (by decide +kernel : ∀ o, o < q_N0 → q_KD o = .inl 12 → q_KD (q_RF o 0) = .inr (1790, false)) o (q_KD_lt h) h
theorem kl_12_0 {o : Nat} (h : q_KD o = .inl 12) : q_RF o 0 < q_N0 := q_KL (kf_12_0 h) (by decide)
theorem kf_12_1 {o : Nat} (h : q_KD o = .inl 12) : q_KD (q_RF o 1) = .inr (1790, false) := (by decide +kernel : ∀ o, o < q_N0 → q_KD o = .inl 12 → q_KD (q_RF o 1) = .inr (1790, false)) o (q_KD_lt h) h
theorem kl_12_1 {o : Nat} (h : q_KD o = .inl 12) : q_RF o 1 < q_N0 := q_KL (kf_12_1 h) (by decide)
theorem kf_12_2 {o : Nat} (h : q_KD o = .inl 12) : q_KD (q_RF o 2) = .inr (516, false) := (by decide +kernel : ∀ o, o < q_N0 → q_KD o = .inl 12 → q_KD (q_RF o 2) = .inr (516, false)) o (q_KD_lt h) h
theorem kl_12_2 {o : Nat} (h : q_KD o = .inl 12) : q_RF o 2 < q_N0 := q_KL (kf_12_2 h) (by decide)
theorem kf_12_3 {o : Nat} (h : q_KD o = .inl 12) : q_KD (q_RF o 3) = .inr (86, false) := (by decide +kernel : ∀ o, o < q_N0 → q_KD o = .inl 12 → q_KD (q_RF o 3) = .inr (86, false)) o (q_KD_lt h) h
theorem kl_12_3 {o : Nat} (h : q_KD o = .inl 12) : q_RF o 3 < q_N0 := q_KL (kf_12_3 h) (by decide)
theorem kf_12_6 {o : Nat} (h : q_KD o = .inl 12) : q_KD (q_RF o 6) = .inr (64, false) := (by decide +kernel : ∀ o, o < q_N0 → q_KD o = .inl 12 → q_KD (q_RF o 6) = .inr (64, false)) o (q_KD_lt h) h
theorem kl_12_6 {o : Nat} (h : q_KD o = .inl 12) : q_RF o 6 < q_N0 := q_KL (kf_12_6 h) (by decide)
theorem kf_12_7 {o : Nat} (h : q_KD o = .inl 12) : q_KD (q_RF o 7) = .inr (820, false) := (by decide +kernel : ∀ o, o < q_N0 → q_KD o = .inl 12 → q_KD (q_RF o 7) = .inr (820, false)) o (q_KD_lt h) h
theorem kl_12_7 {o : Nat} (h : q_KD o = .inl 12) : q_RF o 7 < q_N0 := q_KL (kf_12_7 h) (by decide)
theorem kf_12_8 {o : Nat} (h : q_KD o = .inl 12) : q_KD (q_RF o 8) = .inr (64, false) := (by decide +kernel : ∀ o, o < q_N0 → q_KD o = .inl 12 → q_KD (q_RF o 8) = .inr (64, false)) o (q_KD_lt h) h
theorem kl_12_8 {o : Nat} (h : q_KD o = .inl 12) : q_RF o 8 < q_N0 := q_KL (kf_12_8 h) (by decide)
theorem kf_12_9 {o : Nat} (h : q_KD o = .inl 12) : q_KD (q_RF o 9) = .inr (400, false) := (by decide +kernel : ∀ o, o < q_N0 → q_KD o = .inl 12 → q_KD (q_RF o 9) = .inr (400, false)) o (q_KD_lt h) h
theorem kl_12_9 {o : Nat} (h : q_KD o = .inl 12) : q_RF o 9 < q_N0 := q_KL (kf_12_9 h) (by decide)
theorem kf_12_10 {o : Nat} (h : q_KD o = .inl 12) : q_KD (q_RF o 10) = .inr (420, false) := (by decide +kernel : ∀ o, o < q_N0 → q_KD o = .inl 12 → q_KD (q_RF o 10) = .inr (420, false)) o (q_KD_lt h) h
theorem kl_12_10 {o : Nat} (h : q_KD o = .inl 12) : q_RF o 10 < q_N0 := q_KL (kf_12_10 h) (by decide)
theorem kf_12_11 {o : Nat} (h : q_KD o = .inl 12) : q_KD (q_RF o 11) = .inr (11, false) := (by decide +kernel : ∀ o, o < q_N0 → q_KD o = .inl 12 → q_KD (q_RF o 11) = .inr (11, false)) o (q_KD_lt h) h
theorem kl_12_11 {o : Nat} (h : q_KD o = .inl 12) : q_RF o 11 < q_N0 := q_KL (kf_12_11 h) (by decide)
theorem kf_12_27 {o : Nat} (h : q_KD o = .inl 12) : q_KD (q_RF o 27) = .inr (10, false) := (by decide +kernel : ∀ o, o < q_N0 → q_KD o = .inl 12 → q_KD (q_RF o 27) = .inr (10, false)) o (q_KD_lt h) h
theorem kl_12_27 {o : Nat} (h : q_KD o = .inl 12) : q_RF o 27 < q_N0 := q_KL (kf_12_27 h) (by decide)
theorem kf_12_28 {o : Nat} (h : q_KD o = .inl 12) : q_KD (q_RF o 28) = .inr (256, false) := (by decide +kernel : ∀ o, o < q_N0 → q_KD o = .inl 12 → q_KD (q_RF o 28) = .inr (256, false)) o (q_KD_lt h) h
theorem kl_12_28 {o : Nat} (h : q_KD o = .inl 12) : q_RF o 28 < q_N0 := q_KL (kf_12_28 h) (by decide)
theorem kf_12_29 {o : Nat} (h : q_KD o = .inl 12) : q_KD (q_RF o 29) = .inr (4096, false) := (by decide +kernel : ∀ o, o < q_N0 → q_KD o = .inl 12 → q_KD (q_RF o 29) = .inr (4096, false)) o (q_KD_lt h) h
theorem kl_12_29 {o : Nat} (h : q_KD o = .inl 12) : q_RF o 29 < q_N0 := q_KL (kf_12_29 h) (by decide)
theorem kf_12_30 {o : Nat} (h : q_KD o = .inl 12) : q_KD (q_RF o 30) = .inr (100, false) := (by decide +kernel : ∀ o, o < q_N0 → q_KD o = .inl 12 → q_KD (q_RF o 30) = .inr (100, false)) o (q_KD_lt h) h
theorem kl_12_30 {o : Nat} (h : q_KD o = .inl 12) : q_RF o 30 < q_N0 := q_KL (kf_12_30 h) (by decide)
theorem fl_X9_9 : q_fl RX9 9 9 0 (.array .int) true := ⟨_, _, _, cl_9, by decide, q_bm 166 (by decide +kernel) (by decide +kernel), rfl, rfl, rfl⟩
theorem fl_X4_69 : q_fl RX4 69 9 0 (.array .int) true := ⟨_, _, _, cl_9, by decide, q_bm 167 (by decide +kernel) (by decide +kernel), rfl, rfl, rfl⟩
theorem fl_X10_74 : q_fl RX10 74 9 0 (.array .int) true := ⟨_, _, _, cl_9, by decide, q_bm 168 (by decide +kernel) (by decide +kernel), rfl, rfl, rfl⟩
theorem fl_X11_251 : q_fl RX11 251 9 0 (.array .int) true := ⟨_, _, _, cl_9, by decide, q_bm 169 (by decide +kernel) (by decide +kernel), rfl, rfl, rfl⟩
theorem fl_X9_15 : q_fl RX9 15 9 1 (.array .int) true := ⟨_, _, _, cl_9, by decide, q_bm 170 (by decide +kernel) (by decide +kernel), rfl, rfl, rfl⟩
theorem fl_X10_71 : q_fl RX10 71 9 1 (.array .int) true := ⟨_, _, _, cl_9, by decide, q_bm 171 (by decide +kernel) (by decide +kernel), rfl, rfl, rfl⟩
theorem fl_X11_254 : q_fl RX11 254 9 1 (.array .int) true := ⟨_, _, _, cl_9, by decide, q_bm 172 (by decide +kernel) (by decide +kernel), rfl, rfl, rfl⟩
theorem fl_X9_18 : q_fl RX9 18 9 2 (.array .int) true := ⟨_, _, _, cl_9, by decide, q_bm 173 (by decide +kernel) (by decide +kernel), rfl, rfl, rfl⟩
theorem fl_X11_122 : q_fl RX11 122 9 2 (.array .int) true := ⟨_, _, _, cl_9, by decide, q_bm 174 (by decide +kernel) (by decide +kernel), rfl, rfl, rfl⟩
theorem fl_X10_204 : q_fl RX10 204 9 2 (.array .int) true := ⟨_, _, _, cl_9, by decide, q_bm 175 (by decide +kernel) (by decide +kernel), rfl, rfl, rfl⟩
theorem fl_X9_21 : q_fl RX9 21 9 3 (.array .int) true := ⟨_, _, _, cl_9, by decide, q_bm 176 (by decide +kernel) (by decide +kernel), rfl, rfl, rfl⟩
theorem fl_X10_163 : q_fl RX10 163 9 3 (.array .int) true := ⟨_, _, _, cl_9, by decide, q_bm 177 (by decide +kernel) (by decide +kernel), rfl, rfl, rfl⟩
theorem fl_X11_257 : q_fl RX11 257 9 3 (.array .int) true := ⟨_, _, _, cl_9, by decide, q_bm 178 (by decide +kernel) (by decide +kernel), rfl, rfl, rfl⟩
theorem fl_X9_24 : q_fl RX9 24 9 4 (.array .int) true := ⟨_, _, _, cl_9, by decide, q_bm 179 (by decide +kernel) (by decide +kernel), rfl, rfl, rfl⟩
theorem fl_X11_129 : q_fl RX11 129 9 4 (.array .int) true := ⟨_, _, _, cl_9, by decide, q_bm 180 (by decide +kernel) (by decide +kernel), rfl, rfl, rfl⟩
theorem fl_X4_138 : q_fl RX4 138 9 4 (.array .int) true := ⟨_, _, _, cl_9, by decide, q_bm 181 (by decide +kernel) (by decide +kernel), rfl, rfl, rfl⟩
theorem fl_X10_177 : q_fl RX10 177 9 4 (.array .int) true := ⟨_, _, _, cl_9, by decide, q_bm 182 (by decide +kernel) (by decide +kernel), rfl, rfl, rfl⟩
theorem fl_X9_27 : q_fl RX9 27 9 5 (.array .int) true := ⟨_, _, _, cl_9, by decide, q_bm 183 (by decide +kernel) (by decide +kernel), rfl, rfl, rfl⟩
theorem fl_X10_80 : q_fl RX10 80 9 5 (.array .int) true := ⟨_, _, _, cl_9, by decide, q_bm 184 (by decide +kernel) (by decide +kernel), rfl, rfl, rfl⟩
theorem fl_X11_132 : q_fl RX11 132 9 5 (.array .int) true := ⟨_, _, _, cl_9, by decide, q_bm 185 (by decide +kernel) (by decide +kernel), rfl, rfl, rfl⟩
theorem fl_X9_30 : q_fl RX9 30 9 6 (.array .int) true := ⟨_, _, _, cl_9, by decide, q_bm 186 (by decide +kernel) (by decide +kernel), rfl, rfl, rfl⟩
theorem fl_X10_83 : q_fl RX10 83 9 6 (.array .int) true := ⟨_, _, _, cl_9, by decide, q_bm 187 (by decide +kernel) (by decide +kernel), rfl, rfl, rfl⟩
theorem fl_X11_135 : q_fl RX11 135 9 6 (.array .int) true := ⟨_, _, _, cl_9, by decide, q_bm 188 (by decide +kernel) (by decide +kernel), rfl, rfl, rfl⟩
theorem fl_X9_33 : q_fl RX9 33 9 7 (.array .int) true := ⟨_, _, _, cl_9, by decide, q_bm 189 (by decide +kernel) (by decide +kernel), rfl, rfl, rfl⟩
theorem fl_X9_36 : q_fl RX9 36 9 8 (.int) false := ⟨_, _, _, cl_9, by decide, q_bm 190 (by decide +kernel) (by decide +kernel), rfl, rfl, rfl⟩
theorem fl_X0_46 : q_fl RX0 46 9 8 (.int) false := ⟨_, _, _, cl_9, by decide, q_bm 191 (by decide +kernel) (by decide +kernel), rfl, rfl, rfl⟩
theorem fl_X4_62 : q_fl RX4 62 9 8 (.int) false := ⟨_, _, _, cl_9, by decide, q_bm 192 (by decide +kernel) (by decide +kernel), rfl, rfl, rfl⟩
theorem fl_X7_77 : q_fl RX7 77 9 8 (.int) false := ⟨_, _, _, cl_9, by decide, q_bm 193 (by decide +kernel) (by decide +kernel), rfl, rfl, rfl⟩
theorem fl_X10_133 : q_fl RX10 133 9 8 (.int) false := ⟨_, _, _, cl_9, by decide, q_bm 194 (by decide +kernel) (by decide +kernel), rfl, rfl, rfl⟩
theorem fl_X11_356 : q_fl RX11 356 9 8 (.int) false := ⟨_, _, _, cl_9, by decide, q_bm 195 (by decide +kernel) (by decide +kernel), rfl, rfl, rfl⟩
theorem fl_X9_40 : q_fl RX9 40 9 9 (.int) false := ⟨_, _, _, cl_9, by decide, q_bm 196 (by decide +kernel) (by decide +kernel), rfl, rfl, rfl⟩
theorem fl_X0_55 : q_fl RX0 55 9 9 (.int) false := ⟨_, _, _, cl_9, by decide, q_bm 197 (by decide +kernel) (by decide +kernel), rfl, rfl, rfl⟩
theorem fl_X7_110 : q_fl RX7 110 9 9 (.int) false := ⟨_, _, _, cl_9, by decide, q_bm 198 (by decide +kernel) (by decide +kernel), rfl, rfl, rfl⟩
theorem fl_X4_118 : q_fl RX4 118 9 9 (.int) false := ⟨_, _, _, cl_9, by decide, q_bm 199 (by decide +kernel) (by decide +kernel), rfl, rfl, rfl⟩
theorem fl_X10_192 : q_fl RX10 192 9 9 (.int) false := ⟨_, _, _, cl_9, by decide, q_bm 200 (by decide +kernel) (by decide +kernel), rfl, rfl, rfl⟩
theorem fl_X11_359 : q_fl RX11 359 9 9 (.int) false := ⟨_, _, _, cl_9, by decide, q_bm 201 (by decide +kernel) (by decide +kernel), rfl, rfl, rfl⟩
theorem fl_X9_43 : q_fl RX9 43 9 10 (.int) false := ⟨_, _, _, cl_9, by decide, q_bm 202 (by decide +kernel) (by decide +kernel), rfl, rfl, rfl⟩
theorem fl_X11_84 : q_fl RX11 84 9 10 (.int) false := ⟨_, _, _, cl_9, by decide, q_bm 203 (by decide +kernel) (by decide +kernel), rfl, rfl, rfl⟩
theorem fl_X9_46 : q_fl RX9 46 9 11 (.int) false := ⟨_, _, _, cl_9, by decide, q_bm 204 (by decide +kernel) (by decide +kernel), rfl, rfl, rfl⟩
theorem fl_X10_86 : q_fl RX10 86 9 11 (.int) false := ⟨_, _, _, cl_9, by decide, q_bm 205 (by decide +kernel) (by decide +kernel), rfl, rfl, rfl⟩
theorem fl_X11_109 : q_fl RX11 109 9 11 (.int) false := ⟨_, _, _, cl_9, by decide, q_bm 206 (by decide +kernel) (by decide +kernel), rfl, rfl, rfl⟩
theorem fl_X9_49 : q_fl RX9 49 9 12 (.int) false := ⟨_, _, _, cl_9, by decide, q_bm 207 (by decide +kernel) (by decide +kernel), rfl, rfl, rfl⟩
theorem fl_X11_116 : q_fl RX11 116 9 12 (.int) false := ⟨_, _, _, cl_9, by decide, q_bm 208 (by decide +kernel) (by decide +kernel), rfl, rfl, rfl⟩
theorem fl_X10_195 : q_fl RX10 195 9 12 (.int) false := ⟨_, _, _, cl_9, by decide, q_bm 209 (by decide +kernel) (by decide +kernel), rfl, rfl, rfl⟩
theorem fl_X9_52 : q_fl RX9 52 9 13 (.int) false := ⟨_, _, _, cl_9, by decide, q_bm 210 (by decide +kernel) (by decide +kernel), rfl, rfl, rfl⟩
theorem fl_X10_140 : q_fl RX10 140 9 13 (.int) false := ⟨_, _, _, cl_9, by decide, q_bm 211 (by decide +kernel) (by decide +kernel), rfl, rfl, rfl⟩
theorem fl_X11_150 : q_fl RX11 150 9 13 (.int) false := ⟨_, _, _, cl_9, by decide, q_bm 212 (by decide +kernel) (by decide +kernel), rfl, rfl, rfl⟩
theorem fl_X9_55 : q_fl RX9 55 9 14 (.int) false := ⟨_, _, _, cl_9, by decide, q_bm 213 (by decide +kernel) (by decide +kernel), rfl, rfl, rfl⟩
theorem fl_X10_170 : q_fl RX10 170 9 14 (.int) false := ⟨_, _, _, cl_9, by decide, q_bm 214 (by decide +kernel) (by decide +kernel), rfl, rfl, rfl⟩
theorem fl_X11_293 : q_fl RX11 293 9 14 (.int) false := ⟨_, _, _, cl_9, by decide, q_bm 215 (by decide +kernel) (by decide +kernel), rfl, rfl, rfl⟩
theorem fl_X9_58 : q_fl RX9 58 9 15 (.int) false := ⟨_, _, _, cl_9, by decide, q_bm 216 (by decide +kernel) (by decide +kernel), rfl, rfl, rfl⟩
theorem fl_X10_201 : q_fl RX10 201 9 15 (.int) false := ⟨_, _, _, cl_9, by decide, q_bm 217 (by decide +kernel) (by decide +kernel), rfl, rfl, rfl⟩
theorem fl_X11_290 : q_fl RX11 290 9 15 (.int) false := ⟨_, _, _, cl_9, by decide, q_bm 218 (by decide +kernel) (by decide +kernel), rfl, rfl, rfl⟩
theorem fl_X9_61 : q_fl RX9 61 9 16 (.int) false := ⟨_, _, _, cl_9, by decide, q_bm 219 (by decide +kernel) (by decide +kernel), rfl, rfl, rfl⟩
theorem fl_X10_90 : q_fl RX10 90 9 16 (.int) false := ⟨_, _, _, cl_9, by decide, q_bm 220 (by decide +kernel) (by decide +kernel), rfl, rfl, rfl⟩
theorem fl_X11_171 : q_fl RX11 171 9 16 (.int) false := ⟨_, _, _, cl_9, by decide, q_bm 221 (by decide +kernel) (by decide +kernel), rfl, rfl, rfl⟩
theorem fl_X9_64 : q_fl RX9 64 9 17 (.int) false := ⟨_, _, _, cl_9, by decide, q_bm 222 (by decide +kernel) (by decide +kernel), rfl, rfl, rfl⟩
theorem fl_X10_154 : q_fl RX10 154 9 17 (.int) false := ⟨_, _, _, cl_9, by decide, q_bm 223 (by decide +kernel) (by decide +kernel), rfl, rfl, rfl⟩
theorem fl_X11_272 : q_fl RX11 272 9 17 (.int) false := ⟨_, _, _, cl_9, by decide, q_bm 224 (by decide +kernel) (by decide +kernel), rfl, rfl, rfl⟩
theorem fl_X2_9 : q_fl RX2 9 2 0 (.array .int) true := ⟨_, _, _, cl_2, by decide, q_bm 269 (by decide +kernel) (by decide +kernel), rfl, rfl, rfl⟩
theorem fl_X2_15 : q_fl RX2 15 2 1 (.array .int) true := ⟨_, _, _, cl_2, by decide, q_bm 270 (by decide +kernel) (by decide +kernel), rfl, rfl, rfl⟩
theorem fl_X2_18 : q_fl RX2 18 2 2 (.array .int) true := ⟨_, _, _, cl_2, by decide, q_bm 271 (by decide +kernel) (by decide +kernel), rfl, rfl, rfl⟩
theorem fl_X2_21 : q_fl RX2 21 2 3 (.array .int) true := ⟨_, _, _, cl_2, by decide, q_bm 272 (by decide +kernel) (by decide +kernel), rfl, rfl, rfl⟩
theorem fl_X2_24 : q_fl RX2 24 2 4 (.array .int) true := ⟨_, _, _, cl_2, by decide, q_bm 273 (by decide +kernel) (by decide +kernel), rfl, rfl, rfl⟩
theorem fl_X2_27 : q_fl RX2 27 2 5 (.array .int) true := ⟨_, _, _, cl_2, by decide, q_bm 274 (by decide +kernel) (by decide +kernel), rfl, rfl, rfl⟩
theorem fl_X2_30 : q_fl RX2 30 2 6 (.array .int) true := ⟨_, _, _, cl_2, by decide, q_bm 275 (by decide +kernel) (by decide +kernel), rfl, rfl, rfl⟩
theorem fl_X2_33 : q_fl RX2 33 2 7 (.int) false := ⟨_, _, _, cl_2, by decide, q_bm 276 (by decide +kernel) (by decide +kernel), rfl, rfl, rfl⟩
theorem fl_X2_37 : q_fl RX2 37 2 8 (.int) false := ⟨_, _, _, cl_2, by decide, q_bm 277 (by decide +kernel) (by decide +kernel), rfl, rfl, rfl⟩
theorem fl_X11_203 : q_fl RX11 203 2 8 (.int) false := ⟨_, _, _, cl_2, by decide, q_bm 278 (by decide +kernel) (by decide +kernel), rfl, rfl, rfl⟩
theorem fl_X6_11 : q_fl RX6 11 6 0 (.array .int) true := ⟨_, _, _, cl_6, by decide, q_bm 310 (by decide +kernel) (by decide +kernel), rfl, rfl, rfl⟩
theorem fl_X6_28 : q_fl RX6 28 6 1 (.int) true := ⟨_, _, _, cl_6, by decide, q_bm 311 (by decide +kernel) (by decide +kernel), rfl, rfl, rfl⟩
theorem fl_X6_15 : q_fl RX6 15 6 2 (.int) false := ⟨_, _, _, cl_6, by decide, q_bm 312 (by decide +kernel) (by decide +kernel), rfl, rfl, rfl⟩
theorem fl_X4_40 : q_fl RX4 40 6 2 (.int) false := ⟨_, _, _, cl_6, by decide, q_bm 313 (by decide +kernel) (by decide +kernel), rfl, rfl, rfl⟩
theorem fl_X5_30 : q_fl RX5 30 6 2 (.int) false := ⟨_, _, _, cl_6, by decide, q_bm 314 (by decide +kernel) (by decide +kernel), rfl, rfl, rfl⟩
theorem fl_X7_57 : q_fl RX7 57 6 2 (.int) false := ⟨_, _, _, cl_6, by decide, q_bm 315 (by decide +kernel) (by decide +kernel), rfl, rfl, rfl⟩
theorem fl_X10_148 : q_fl RX10 148 6 2 (.int) false := ⟨_, _, _, cl_6, by decide, q_bm 316 (by decide +kernel) (by decide +kernel), rfl, rfl, rfl⟩
theorem fl_X11_233 : q_fl RX11 233 6 2 (.int) false := ⟨_, _, _, cl_6, by decide, q_bm 317 (by decide +kernel) (by decide +kernel), rfl, rfl, rfl⟩
theorem fl_X10_12 : q_fl RX10 12 10 0 (.object "MuleVote$Train") true := ⟨_, _, _, cl_10, by decide, q_bm 325 (by decide +kernel) (by decide +kernel), rfl, rfl, rfl⟩
theorem fl_X0_40 : q_fl RX0 40 10 0 (.object "MuleVote$Train") true := ⟨_, _, _, cl_10, by decide, q_bm 326 (by decide +kernel) (by decide +kernel), rfl, rfl, rfl⟩
theorem fl_X4_30 : q_fl RX4 30 10 0 (.object "MuleVote$Train") true := ⟨_, _, _, cl_10, by decide, q_bm 327 (by decide +kernel) (by decide +kernel), rfl, rfl, rfl⟩
theorem fl_X11_81 : q_fl RX11 81 10 0 (.object "MuleVote$Train") true := ⟨_, _, _, cl_10, by decide, q_bm 328 (by decide +kernel) (by decide +kernel), rfl, rfl, rfl⟩
theorem fl_X10_21 : q_fl RX10 21 10 1 (.object "MuleVote$Law") true := ⟨_, _, _, cl_10, by decide, q_bm 329 (by decide +kernel) (by decide +kernel), rfl, rfl, rfl⟩
theorem fl_X11_192 : q_fl RX11 192 10 1 (.object "MuleVote$Law") true := ⟨_, _, _, cl_10, by decide, q_bm 330 (by decide +kernel) (by decide +kernel), rfl, rfl, rfl⟩
theorem fl_X10_30 : q_fl RX10 30 10 2 (.object "MuleVote$Rows") true := ⟨_, _, _, cl_10, by decide, q_bm 331 (by decide +kernel) (by decide +kernel), rfl, rfl, rfl⟩
theorem fl_X11_212 : q_fl RX11 212 10 2 (.object "MuleVote$Rows") true := ⟨_, _, _, cl_10, by decide, q_bm 332 (by decide +kernel) (by decide +kernel), rfl, rfl, rfl⟩
theorem fl_X10_34 : q_fl RX10 34 10 3 (.object "MuleVote$Rows") true := ⟨_, _, _, cl_10, by decide, q_bm 333 (by decide +kernel) (by decide +kernel), rfl, rfl, rfl⟩
theorem fl_X11_216 : q_fl RX11 216 10 3 (.object "MuleVote$Rows") true := ⟨_, _, _, cl_10, by decide, q_bm 334 (by decide +kernel) (by decide +kernel), rfl, rfl, rfl⟩
theorem fl_X10_37 : q_fl RX10 37 10 4 (.object "MuleVote$Rows") true := ⟨_, _, _, cl_10, by decide, q_bm 335 (by decide +kernel) (by decide +kernel), rfl, rfl, rfl⟩
theorem fl_X5_24 : q_fl RX5 24 10 4 (.object "MuleVote$Rows") true := ⟨_, _, _, cl_10, by decide, q_bm 336 (by decide +kernel) (by decide +kernel), rfl, rfl, rfl⟩
theorem fl_X11_219 : q_fl RX11 219 10 4 (.object "MuleVote$Rows") true := ⟨_, _, _, cl_10, by decide, q_bm 337 (by decide +kernel) (by decide +kernel), rfl, rfl, rfl⟩
theorem fl_X10_40 : q_fl RX10 40 10 5 (.object "MuleVote$Rows") true := ⟨_, _, _, cl_10, by decide, q_bm 338 (by decide +kernel) (by decide +kernel), rfl, rfl, rfl⟩
theorem fl_X4_36 : q_fl RX4 36 10 5 (.object "MuleVote$Rows") true := ⟨_, _, _, cl_10, by decide, q_bm 339 (by decide +kernel) (by decide +kernel), rfl, rfl, rfl⟩
theorem fl_X11_222 : q_fl RX11 222 10 5 (.object "MuleVote$Rows") true := ⟨_, _, _, cl_10, by decide, q_bm 340 (by decide +kernel) (by decide +kernel), rfl, rfl, rfl⟩
theorem fl_X10_43 : q_fl RX10 43 10 6 (.object "MuleVote$Rows") true := ⟨_, _, _, cl_10, by decide, q_bm 341 (by decide +kernel) (by decide +kernel), rfl, rfl, rfl⟩
theorem fl_X4_108 : q_fl RX4 108 10 6 (.object "MuleVote$Rows") true := ⟨_, _, _, cl_10, by decide, q_bm 342 (by decide +kernel) (by decide +kernel), rfl, rfl, rfl⟩
theorem fl_X11_334 : q_fl RX11 334 10 6 (.object "MuleVote$Rows") true := ⟨_, _, _, cl_10, by decide, q_bm 343 (by decide +kernel) (by decide +kernel), rfl, rfl, rfl⟩
theorem fl_X10_46 : q_fl RX10 46 10 7 (.array .int) true := ⟨_, _, _, cl_10, by decide, q_bm 344 (by decide +kernel) (by decide +kernel), rfl, rfl, rfl⟩
theorem fl_X10_50 : q_fl RX10 50 10 8 (.array .int) true := ⟨_, _, _, cl_10, by decide, q_bm 345 (by decide +kernel) (by decide +kernel), rfl, rfl, rfl⟩
theorem fl_X1_11 : q_fl RX1 11 1 0 (.array (.object "MuleVote$Train")) true := ⟨_, _, _, cl_1, by decide, q_bm 374 (by decide +kernel) (by decide +kernel), rfl, rfl, rfl⟩
theorem fl_X1_17 : q_fl RX1 17 1 1 (.int) false := ⟨_, _, _, cl_1, by decide, q_bm 375 (by decide +kernel) (by decide +kernel), rfl, rfl, rfl⟩
theorem fl_X11_382 : q_fl RX11 382 1 1 (.int) false := ⟨_, _, _, cl_1, by decide, q_bm 376 (by decide +kernel) (by decide +kernel), rfl, rfl, rfl⟩
theorem fl_X0_9 : q_fl RX0 9 0 0 (.array .int) true := ⟨_, _, _, cl_0, by decide, q_bm 390 (by decide +kernel) (by decide +kernel), rfl, rfl, rfl⟩
theorem fl_X0_15 : q_fl RX0 15 0 1 (.array .int) true := ⟨_, _, _, cl_0, by decide, q_bm 391 (by decide +kernel) (by decide +kernel), rfl, rfl, rfl⟩
theorem fl_X0_18 : q_fl RX0 18 0 2 (.array .int) true := ⟨_, _, _, cl_0, by decide, q_bm 392 (by decide +kernel) (by decide +kernel), rfl, rfl, rfl⟩
theorem fl_X0_21 : q_fl RX0 21 0 3 (.array .int) true := ⟨_, _, _, cl_0, by decide, q_bm 393 (by decide +kernel) (by decide +kernel), rfl, rfl, rfl⟩
theorem fl_X0_24 : q_fl RX0 24 0 4 (.array .int) true := ⟨_, _, _, cl_0, by decide, q_bm 394 (by decide +kernel) (by decide +kernel), rfl, rfl, rfl⟩
theorem fl_X0_27 : q_fl RX0 27 0 5 (.int) false := ⟨_, _, _, cl_0, by decide, q_bm 395 (by decide +kernel) (by decide +kernel), rfl, rfl, rfl⟩
theorem fl_X0_31 : q_fl RX0 31 0 6 (.int) false := ⟨_, _, _, cl_0, by decide, q_bm 396 (by decide +kernel) (by decide +kernel), rfl, rfl, rfl⟩
theorem fl_X0_34 : q_fl RX0 34 0 7 (.int) false := ⟨_, _, _, cl_0, by decide, q_bm 397 (by decide +kernel) (by decide +kernel), rfl, rfl, rfl⟩
theorem fl_X11_284 : q_fl RX11 284 0 7 (.int) false := ⟨_, _, _, cl_0, by decide, q_bm 398 (by decide +kernel) (by decide +kernel), rfl, rfl, rfl⟩
theorem fl_X0_37 : q_fl RX0 37 0 8 (.int) false := ⟨_, _, _, cl_0, by decide, q_bm 399 (by decide +kernel) (by decide +kernel), rfl, rfl, rfl⟩
theorem fl_X10_169 : q_fl RX10 169 0 8 (.int) false := ⟨_, _, _, cl_0, by decide, q_bm 400 (by decide +kernel) (by decide +kernel), rfl, rfl, rfl⟩
theorem fl_X11_287 : q_fl RX11 287 0 8 (.int) false := ⟨_, _, _, cl_0, by decide, q_bm 401 (by decide +kernel) (by decide +kernel), rfl, rfl, rfl⟩
theorem fl_X5_9 : q_fl RX5 9 5 0 (.array .int) true := ⟨_, _, _, cl_5, by decide, q_bm 427 (by decide +kernel) (by decide +kernel), rfl, rfl, rfl⟩
theorem fl_X5_15 : q_fl RX5 15 5 1 (.array .int) true := ⟨_, _, _, cl_5, by decide, q_bm 428 (by decide +kernel) (by decide +kernel), rfl, rfl, rfl⟩
theorem fl_X4_11 : q_fl RX4 11 4 0 (.array .int) true := ⟨_, _, _, cl_4, by decide, q_bm 440 (by decide +kernel) (by decide +kernel), rfl, rfl, rfl⟩
theorem fl_X4_15 : q_fl RX4 15 4 1 (.array .int) true := ⟨_, _, _, cl_4, by decide, q_bm 441 (by decide +kernel) (by decide +kernel), rfl, rfl, rfl⟩
theorem fl_X4_18 : q_fl RX4 18 4 2 (.array .int) true := ⟨_, _, _, cl_4, by decide, q_bm 442 (by decide +kernel) (by decide +kernel), rfl, rfl, rfl⟩
theorem fl_X4_21 : q_fl RX4 21 4 3 (.array .int) true := ⟨_, _, _, cl_4, by decide, q_bm 443 (by decide +kernel) (by decide +kernel), rfl, rfl, rfl⟩
theorem fl_X4_24 : q_fl RX4 24 4 4 (.array .int) true := ⟨_, _, _, cl_4, by decide, q_bm 444 (by decide +kernel) (by decide +kernel), rfl, rfl, rfl⟩
theorem fl_X4_27 : q_fl RX4 27 4 5 (.array .int) true := ⟨_, _, _, cl_4, by decide, q_bm 445 (by decide +kernel) (by decide +kernel), rfl, rfl, rfl⟩
theorem fl_X8_9 : q_fl RX8 9 8 0 (.array .int) true := ⟨_, _, _, cl_8, by decide, q_bm 465 (by decide +kernel) (by decide +kernel), rfl, rfl, rfl⟩
theorem fl_X8_15 : q_fl RX8 15 8 1 (.int) false := ⟨_, _, _, cl_8, by decide, q_bm 466 (by decide +kernel) (by decide +kernel), rfl, rfl, rfl⟩
theorem fl_X11_178 : q_fl RX11 178 8 1 (.int) false := ⟨_, _, _, cl_8, by decide, q_bm 467 (by decide +kernel) (by decide +kernel), rfl, rfl, rfl⟩
theorem fl_X8_19 : q_fl RX8 19 8 2 (.int) false := ⟨_, _, _, cl_8, by decide, q_bm 468 (by decide +kernel) (by decide +kernel), rfl, rfl, rfl⟩
theorem fl_X8_22 : q_fl RX8 22 8 3 (.int) false := ⟨_, _, _, cl_8, by decide, q_bm 469 (by decide +kernel) (by decide +kernel), rfl, rfl, rfl⟩
theorem fl_X8_25 : q_fl RX8 25 8 4 (.int) false := ⟨_, _, _, cl_8, by decide, q_bm 470 (by decide +kernel) (by decide +kernel), rfl, rfl, rfl⟩
theorem fl_X8_28 : q_fl RX8 28 8 5 (.int) false := ⟨_, _, _, cl_8, by decide, q_bm 471 (by decide +kernel) (by decide +kernel), rfl, rfl, rfl⟩
theorem fl_X8_31 : q_fl RX8 31 8 6 (.int) false := ⟨_, _, _, cl_8, by decide, q_bm 472 (by decide +kernel) (by decide +kernel), rfl, rfl, rfl⟩
theorem fl_X3_88 : q_fl RX3 88 8 6 (.int) false := ⟨_, _, _, cl_8, by decide, q_bm 473 (by decide +kernel) (by decide +kernel), rfl, rfl, rfl⟩
theorem fl_X11_236 : q_fl RX11 236 8 6 (.int) false := ⟨_, _, _, cl_8, by decide, q_bm 474 (by decide +kernel) (by decide +kernel), rfl, rfl, rfl⟩
theorem fl_X8_34 : q_fl RX8 34 8 7 (.int) false := ⟨_, _, _, cl_8, by decide, q_bm 475 (by decide +kernel) (by decide +kernel), rfl, rfl, rfl⟩
theorem fl_X11_239 : q_fl RX11 239 8 7 (.int) false := ⟨_, _, _, cl_8, by decide, q_bm 476 (by decide +kernel) (by decide +kernel), rfl, rfl, rfl⟩
theorem fl_X3_42 : q_fl RX3 42 3 0 (.object "MuleVote$Tape") true := ⟨_, _, _, cl_3, by decide, q_bm 502 (by decide +kernel) (by decide +kernel), rfl, rfl, rfl⟩
theorem fl_X3_12 : q_fl RX3 12 3 1 (.object "MuleVote$Law") true := ⟨_, _, _, cl_3, by decide, q_bm 503 (by decide +kernel) (by decide +kernel), rfl, rfl, rfl⟩
theorem fl_X11_196 : q_fl RX11 196 3 1 (.object "MuleVote$Law") true := ⟨_, _, _, cl_3, by decide, q_bm 504 (by decide +kernel) (by decide +kernel), rfl, rfl, rfl⟩
theorem fl_X3_18 : q_fl RX3 18 3 2 (.array .int) true := ⟨_, _, _, cl_3, by decide, q_bm 505 (by decide +kernel) (by decide +kernel), rfl, rfl, rfl⟩
theorem fl_X3_22 : q_fl RX3 22 3 3 (.int) false := ⟨_, _, _, cl_3, by decide, q_bm 506 (by decide +kernel) (by decide +kernel), rfl, rfl, rfl⟩
theorem fl_X3_26 : q_fl RX3 26 3 4 (.int) false := ⟨_, _, _, cl_3, by decide, q_bm 507 (by decide +kernel) (by decide +kernel), rfl, rfl, rfl⟩
theorem fl_X3_29 : q_fl RX3 29 3 5 (.int) false := ⟨_, _, _, cl_3, by decide, q_bm 508 (by decide +kernel) (by decide +kernel), rfl, rfl, rfl⟩
theorem fl_X3_32 : q_fl RX3 32 3 6 (.int) false := ⟨_, _, _, cl_3, by decide, q_bm 509 (by decide +kernel) (by decide +kernel), rfl, rfl, rfl⟩
theorem fl_X3_35 : q_fl RX3 35 3 7 (.boolean) false := ⟨_, _, _, cl_3, by decide, q_bm 510 (by decide +kernel) (by decide +kernel), rfl, rfl, rfl⟩
theorem fl_X3_39 : q_fl RX3 39 3 8 (.boolean) false := ⟨_, _, _, cl_3, by decide, q_bm 511 (by decide +kernel) (by decide +kernel), rfl, rfl, rfl⟩
theorem fl_X7_20 : q_fl RX7 20 7 0 (.object "MuleVote$Tape") true := ⟨_, _, _, cl_7, by decide, q_bm 539 (by decide +kernel) (by decide +kernel), rfl, rfl, rfl⟩
theorem fl_X7_14 : q_fl RX7 14 7 1 (.object "MuleVote$Rows") true := ⟨_, _, _, cl_7, by decide, q_bm 540 (by decide +kernel) (by decide +kernel), rfl, rfl, rfl⟩
theorem fl_X11_225 : q_fl RX11 225 7 1 (.object "MuleVote$Rows") true := ⟨_, _, _, cl_7, by decide, q_bm 541 (by decide +kernel) (by decide +kernel), rfl, rfl, rfl⟩
theorem fl_X11_12 : q_fl RX11 12 11 0 (.object "MuleVote$World") true := ⟨_, _, _, cl_11, by decide, q_bm 547 (by decide +kernel) (by decide +kernel), rfl, rfl, rfl⟩
theorem fl_X11_16 : q_fl RX11 16 11 1 (.object "MuleVote$World") true := ⟨_, _, _, cl_11, by decide, q_bm 548 (by decide +kernel) (by decide +kernel), rfl, rfl, rfl⟩
theorem fl_X11_19 : q_fl RX11 19 11 2 (.boolean) false := ⟨_, _, _, cl_11, by decide, q_bm 549 (by decide +kernel) (by decide +kernel), rfl, rfl, rfl⟩
theorem fl_X11_26 : q_fl RX11 26 11 3 (.object "MuleVote$History") true := ⟨_, _, _, cl_11, by decide, q_bm 550 (by decide +kernel) (by decide +kernel), rfl, rfl, rfl⟩
theorem fl_X11_33 : q_fl RX11 33 11 4 (.object "MuleVote$Train") true := ⟨_, _, _, cl_11, by decide, q_bm 551 (by decide +kernel) (by decide +kernel), rfl, rfl, rfl⟩
theorem fl_X11_40 : q_fl RX11 40 11 5 (.object "MuleVote$Ballot") true := ⟨_, _, _, cl_11, by decide, q_bm 552 (by decide +kernel) (by decide +kernel), rfl, rfl, rfl⟩
theorem fl_X11_47 : q_fl RX11 47 11 6 (.object "MuleVote$Roads") true := ⟨_, _, _, cl_11, by decide, q_bm 553 (by decide +kernel) (by decide +kernel), rfl, rfl, rfl⟩
theorem fl_X11_54 : q_fl RX11 54 11 7 (.object "MuleVote$Riddles") true := ⟨_, _, _, cl_11, by decide, q_bm 554 (by decide +kernel) (by decide +kernel), rfl, rfl, rfl⟩
theorem fl_X11_61 : q_fl RX11 61 11 8 (.object "MuleVote$Tape") true := ⟨_, _, _, cl_11, by decide, q_bm 555 (by decide +kernel) (by decide +kernel), rfl, rfl, rfl⟩
theorem fl_X11_70 : q_fl RX11 70 11 9 (.object "MuleVote$LawReader") true := ⟨_, _, _, cl_11, by decide, q_bm 556 (by decide +kernel) (by decide +kernel), rfl, rfl, rfl⟩
theorem fl_X11_77 : q_fl RX11 77 11 10 (.object "MuleVote$RowsReader") true := ⟨_, _, _, cl_11, by decide, q_bm 557 (by decide +kernel) (by decide +kernel), rfl, rfl, rfl⟩
theorem fl_X12_7 : q_fl RX12 7 12 0 (.array .int) true := ⟨_, _, _, cl_12, by decide, q_bm 1400 (by decide +kernel) (by decide +kernel), rfl, rfl, rfl⟩
theorem fl_X12_13 : q_fl RX12 13 12 1 (.array .int) true := ⟨_, _, _, cl_12, by decide, q_bm 1401 (by decide +kernel) (by decide +kernel), rfl, rfl, rfl⟩
theorem fl_X12_16 : q_fl RX12 16 12 2 (.array .int) true := ⟨_, _, _, cl_12, by decide, q_bm 1402 (by decide +kernel) (by decide +kernel), rfl, rfl, rfl⟩
theorem fl_X12_19 : q_fl RX12 19 12 3 (.array .int) true := ⟨_, _, _, cl_12, by decide, q_bm 1403 (by decide +kernel) (by decide +kernel), rfl, rfl, rfl⟩
theorem fl_X12_60 : q_fl RX12 60 12 4 (.int) false := ⟨_, _, _, cl_12, by decide, q_bm 1404 (by decide +kernel) (by decide +kernel), rfl, rfl, rfl⟩
theorem fl_X12_449 : q_fl RX12 449 12 5 (.boolean) false := ⟨_, _, _, cl_12, by decide, q_bm 1405 (by decide +kernel) (by decide +kernel), rfl, rfl, rfl⟩
theorem fl_X12_22 : q_fl RX12 22 12 6 (.array .int) true := ⟨_, _, _, cl_12, by decide, q_bm 1406 (by decide +kernel) (by decide +kernel), rfl, rfl, rfl⟩
theorem fl_X12_25 : q_fl RX12 25 12 7 (.array .int) true := ⟨_, _, _, cl_12, by decide, q_bm 1407 (by decide +kernel) (by decide +kernel), rfl, rfl, rfl⟩
theorem fl_X12_28 : q_fl RX12 28 12 8 (.array .int) true := ⟨_, _, _, cl_12, by decide, q_bm 1408 (by decide +kernel) (by decide +kernel), rfl, rfl, rfl⟩
theorem fl_X12_31 : q_fl RX12 31 12 9 (.array .int) true := ⟨_, _, _, cl_12, by decide, q_bm 1409 (by decide +kernel) (by decide +kernel), rfl, rfl, rfl⟩
theorem fl_X12_34 : q_fl RX12 34 12 10 (.array .int) true := ⟨_, _, _, cl_12, by decide, q_bm 1410 (by decide +kernel) (by decide +kernel), rfl, rfl, rfl⟩
theorem fl_X12_37 : q_fl RX12 37 12 11 (.array .int) true := ⟨_, _, _, cl_12, by decide, q_bm 1411 (by decide +kernel) (by decide +kernel), rfl, rfl, rfl⟩
theorem fl_X12_155 : q_fl RX12 155 12 12 (.int) false := ⟨_, _, _, cl_12, by decide, q_bm 1412 (by decide +kernel) (by decide +kernel), rfl, rfl, rfl⟩
theorem fl_X12_238 : q_fl RX12 238 12 13 (.int) false := ⟨_, _, _, cl_12, by decide, q_bm 1413 (by decide +kernel) (by decide +kernel), rfl, rfl, rfl⟩
theorem fl_X12_204 : q_fl RX12 204 12 14 (.int) false := ⟨_, _, _, cl_12, by decide, q_bm 1414 (by decide +kernel) (by decide +kernel), rfl, rfl, rfl⟩
theorem fl_X12_247 : q_fl RX12 247 12 15 (.int) false := ⟨_, _, _, cl_12, by decide, q_bm 1415 (by decide +kernel) (by decide +kernel), rfl, rfl, rfl⟩
theorem fl_X12_81 : q_fl RX12 81 12 16 (.int) false := ⟨_, _, _, cl_12, by decide, q_bm 1416 (by decide +kernel) (by decide +kernel), rfl, rfl, rfl⟩
theorem fl_X12_84 : q_fl RX12 84 12 17 (.int) false := ⟨_, _, _, cl_12, by decide, q_bm 1417 (by decide +kernel) (by decide +kernel), rfl, rfl, rfl⟩
theorem fl_X12_177 : q_fl RX12 177 12 18 (.int) false := ⟨_, _, _, cl_12, by decide, q_bm 1418 (by decide +kernel) (by decide +kernel), rfl, rfl, rfl⟩
theorem fl_X12_87 : q_fl RX12 87 12 19 (.int) false := ⟨_, _, _, cl_12, by decide, q_bm 1419 (by decide +kernel) (by decide +kernel), rfl, rfl, rfl⟩
theorem fl_X12_189 : q_fl RX12 189 12 20 (.int) false := ⟨_, _, _, cl_12, by decide, q_bm 1420 (by decide +kernel) (by decide +kernel), rfl, rfl, rfl⟩
theorem fl_X12_192 : q_fl RX12 192 12 21 (.int) false := ⟨_, _, _, cl_12, by decide, q_bm 1421 (by decide +kernel) (by decide +kernel), rfl, rfl, rfl⟩
theorem fl_X12_195 : q_fl RX12 195 12 22 (.int) false := ⟨_, _, _, cl_12, by decide, q_bm 1422 (by decide +kernel) (by decide +kernel), rfl, rfl, rfl⟩
theorem fl_X12_282 : q_fl RX12 282 12 23 (.int) false := ⟨_, _, _, cl_12, by decide, q_bm 1423 (by decide +kernel) (by decide +kernel), rfl, rfl, rfl⟩
theorem fl_X12_207 : q_fl RX12 207 12 24 (.int) false := ⟨_, _, _, cl_12, by decide, q_bm 1424 (by decide +kernel) (by decide +kernel), rfl, rfl, rfl⟩
theorem fl_X12_40 : q_fl RX12 40 12 25 (.int) false := ⟨_, _, _, cl_12, by decide, q_bm 1425 (by decide +kernel) (by decide +kernel), rfl, rfl, rfl⟩
theorem fl_X12_326 : q_fl RX12 326 12 26 (.boolean) false := ⟨_, _, _, cl_12, by decide, q_bm 1426 (by decide +kernel) (by decide +kernel), rfl, rfl, rfl⟩
theorem fl_X12_44 : q_fl RX12 44 12 27 (.array .int) true := ⟨_, _, _, cl_12, by decide, q_bm 1427 (by decide +kernel) (by decide +kernel), rfl, rfl, rfl⟩
theorem fl_X12_47 : q_fl RX12 47 12 28 (.array .int) true := ⟨_, _, _, cl_12, by decide, q_bm 1428 (by decide +kernel) (by decide +kernel), rfl, rfl, rfl⟩
theorem fl_X12_50 : q_fl RX12 50 12 29 (.array .int) true := ⟨_, _, _, cl_12, by decide, q_bm 1429 (by decide +kernel) (by decide +kernel), rfl, rfl, rfl⟩
theorem fl_X12_53 : q_fl RX12 53 12 30 (.array .int) true := ⟨_, _, _, cl_12, by decide, q_bm 1430 (by decide +kernel) (by decide +kernel), rfl, rfl, rfl⟩
theorem mv_J6_bitCount_0f7a4 : q_mst yJ6_bitCount_0f7a4 cJ6_bitCount_0f7a4 1 (some .int) 1 := ⟨⟨⟨(by decide +kernel), (by decide +kernel), (by decide +kernel)⟩, q_bm 138 (by decide +kernel) (by decide +kernel), q_bm 705 (by decide +kernel) (by decide +kernel)⟩, q_bm 704 (by decide +kernel) (by decide +kernel)⟩
theorem mv_J7_fill_53178 : q_mst yJ7_fill_53178 cJ7_fill_53178 4 (none) 2 := ⟨⟨⟨(by decide +kernel), (by decide +kernel), (by decide +kernel)⟩, q_bm 125 (by decide +kernel) (by decide +kernel), q_bm 165 (by decide +kernel) (by decide +kernel)⟩, q_bm 164 (by decide +kernel) (by decide +kernel)⟩
theorem mv_X0_choiceOf : q_mv yX0_choiceOf cX0_choiceOf 3 (some .int) 0 1 := ⟨⟨⟨(by decide +kernel), (by decide +kernel), (by decide +kernel)⟩, q_bm 130 (by decide +kernel) (by decide +kernel), q_bm 740 (by decide +kernel) (by decide +kernel)⟩, q_bm 738 (by decide +kernel) (by decide +kernel), q_bm 739 (by decide +kernel) (by decide +kernel), TX0, rfl⟩
theorem mv_X0_choose : q_mv yX0_choose cX0_choose 8 (some .int) 0 2 := ⟨⟨⟨(by decide +kernel), (by decide +kernel), (by decide +kernel)⟩, q_bm 130 (by decide +kernel) (by decide +kernel), q_bm 732 (by decide +kernel) (by decide +kernel)⟩, q_bm 731 (by decide +kernel) (by decide +kernel), q_bm 5 (by decide +kernel) (by decide +kernel), TX0, rfl⟩
theorem mv_X0_fewestSalted : q_mv yX0_fewestSalted cX0_fewestSalted 7 (some .int) 0 2 := ⟨⟨⟨(by decide +kernel), (by decide +kernel), (by decide +kernel)⟩, q_bm 130 (by decide +kernel) (by decide +kernel), q_bm 1190 (by decide +kernel) (by decide +kernel)⟩, q_bm 1188 (by decide +kernel) (by decide +kernel), q_bm 1189 (by decide +kernel) (by decide +kernel), TX0, rfl⟩
theorem mv_X0_leader : q_mv yX0_leader cX0_leader 5 (some .int) 0 0 := ⟨⟨⟨(by decide +kernel), (by decide +kernel), (by decide +kernel)⟩, q_bm 130 (by decide +kernel) (by decide +kernel), q_bm 736 (by decide +kernel) (by decide +kernel)⟩, q_bm 735 (by decide +kernel) (by decide +kernel), q_bm 6 (by decide +kernel) (by decide +kernel), TX0, rfl⟩
theorem mv_X0_prefersAnother : q_mv yX0_prefersAnother cX0_prefersAnother 8 (some .boolean) 0 3 := ⟨⟨⟨(by decide +kernel), (by decide +kernel), (by decide +kernel)⟩, q_bm 130 (by decide +kernel) (by decide +kernel), q_bm 1200 (by decide +kernel) (by decide +kernel)⟩, q_bm 1199 (by decide +kernel) (by decide +kernel), q_bm 33 (by decide +kernel) (by decide +kernel), TX0, rfl⟩
theorem mv_X0_prepareSalted : q_mv yX0_prepareSalted cX0_prepareSalted 12 (some .int) 0 2 := ⟨⟨⟨(by decide +kernel), (by decide +kernel), (by decide +kernel)⟩, q_bm 130 (by decide +kernel) (by decide +kernel), q_bm 1195 (by decide +kernel) (by decide +kernel)⟩, q_bm 1194 (by decide +kernel) (by decide +kernel), q_bm 32 (by decide +kernel) (by decide +kernel), TX0, rfl⟩
theorem mv_X0_settle : q_mv yX0_settle cX0_settle 9 (none) 0 3 := ⟨⟨⟨(by decide +kernel), (by decide +kernel), (by decide +kernel)⟩, q_bm 130 (by decide +kernel) (by decide +kernel), q_bm 724 (by decide +kernel) (by decide +kernel)⟩, q_bm 722 (by decide +kernel) (by decide +kernel), q_bm 723 (by decide +kernel) (by decide +kernel), TX0, rfl⟩
theorem mv_X0_standNow : q_mv yX0_standNow cX0_standNow 8 (none) 0 1 := ⟨⟨⟨(by decide +kernel), (by decide +kernel), (by decide +kernel)⟩, q_bm 130 (by decide +kernel) (by decide +kernel), q_bm 673 (by decide +kernel) (by decide +kernel)⟩, q_bm 671 (by decide +kernel) (by decide +kernel), q_bm 672 (by decide +kernel) (by decide +kernel), TX0, rfl⟩
theorem mv_X10_canTreat : q_mv yX10_canTreat cX10_canTreat 4 (some .boolean) 10 3 := ⟨⟨⟨(by decide +kernel), (by decide +kernel), (by decide +kernel)⟩, q_bm 123 (by decide +kernel) (by decide +kernel), q_bm 757 (by decide +kernel) (by decide +kernel)⟩, q_bm 755 (by decide +kernel) (by decide +kernel), q_bm 756 (by decide +kernel) (by decide +kernel), TX10, rfl⟩
theorem mv_X10_castVote : q_mv yX10_castVote cX10_castVote 3 (none) 10 1 := ⟨⟨⟨(by decide +kernel), (by decide +kernel), (by decide +kernel)⟩, q_bm 123 (by decide +kernel) (by decide +kernel), q_bm 669 (by decide +kernel) (by decide +kernel)⟩, q_bm 667 (by decide +kernel) (by decide +kernel), q_bm 668 (by decide +kernel) (by decide +kernel), TX10, rfl⟩
theorem mv_X10_copyFrom : q_mv yX10_copyFrom cX10_copyFrom 2 (none) 10 1 := ⟨⟨⟨(by decide +kernel), (by decide +kernel), (by decide +kernel)⟩, q_bm 123 (by decide +kernel) (by decide +kernel), q_bm 1385 (by decide +kernel) (by decide +kernel)⟩, q_bm 1383 (by decide +kernel) (by decide +kernel), q_bm 1384 (by decide +kernel) (by decide +kernel), TX10, rfl⟩
theorem mv_X10_doPlan : q_mv yX10_doPlan cX10_doPlan 8 (some .boolean) 10 3 := ⟨⟨⟨(by decide +kernel), (by decide +kernel), (by decide +kernel)⟩, q_bm 123 (by decide +kernel) (by decide +kernel), q_bm 827 (by decide +kernel) (by decide +kernel)⟩, q_bm 826 (by decide +kernel) (by decide +kernel), q_bm 11 (by decide +kernel) (by decide +kernel), TX10, rfl⟩
theorem mv_X10_factsOf : q_mv yX10_factsOf cX10_factsOf 4 (none) 10 2 := ⟨⟨⟨(by decide +kernel), (by decide +kernel), (by decide +kernel)⟩, q_bm 123 (by decide +kernel) (by decide +kernel), q_bm 682 (by decide +kernel) (by decide +kernel)⟩, q_bm 681 (by decide +kernel) (by decide +kernel), q_bm 3 (by decide +kernel) (by decide +kernel), TX10, rfl⟩
theorem mv_X10_giveSalt : q_mv yX10_giveSalt cX10_giveSalt 3 (none) 10 2 := ⟨⟨⟨(by decide +kernel), (by decide +kernel), (by decide +kernel)⟩, q_bm 123 (by decide +kernel) (by decide +kernel), q_bm 765 (by decide +kernel) (by decide +kernel)⟩, q_bm 764 (by decide +kernel) (by decide +kernel), q_bm 8 (by decide +kernel) (by decide +kernel), TX10, rfl⟩
theorem mv_X10_greatestRisk : q_mv yX10_greatestRisk cX10_greatestRisk 5 (some .int) 10 1 := ⟨⟨⟨(by decide +kernel), (by decide +kernel), (by decide +kernel)⟩, q_bm 123 (by decide +kernel) (by decide +kernel), q_bm 1222 (by decide +kernel) (by decide +kernel)⟩, q_bm 1220 (by decide +kernel) (by decide +kernel), q_bm 1221 (by decide +kernel) (by decide +kernel), TX10, rfl⟩
theorem mv_X10_heededBy : q_mv yX10_heededBy cX10_heededBy 4 (some .int) 10 1 := ⟨⟨⟨(by decide +kernel), (by decide +kernel), (by decide +kernel)⟩, q_bm 123 (by decide +kernel) (by decide +kernel), q_bm 698 (by decide +kernel) (by decide +kernel)⟩, q_bm 696 (by decide +kernel) (by decide +kernel), q_bm 697 (by decide +kernel) (by decide +kernel), TX10, rfl⟩
theorem mv_X10_hoursBetween : q_mv yX10_hoursBetween cX10_hoursBetween 4 (some .int) 10 2 := ⟨⟨⟨(by decide +kernel), (by decide +kernel), (by decide +kernel)⟩, q_bm 123 (by decide +kernel) (by decide +kernel), q_bm 791 (by decide +kernel) (by decide +kernel)⟩, q_bm 789 (by decide +kernel) (by decide +kernel), q_bm 790 (by decide +kernel) (by decide +kernel), TX10, rfl⟩
theorem mv_X10_hoursOfGoing : q_mv yX10_hoursOfGoing cX10_hoursOfGoing 2 (some .int) 10 1 := ⟨⟨⟨(by decide +kernel), (by decide +kernel), (by decide +kernel)⟩, q_bm 123 (by decide +kernel) (by decide +kernel), q_bm 787 (by decide +kernel) (by decide +kernel)⟩, q_bm 785 (by decide +kernel) (by decide +kernel), q_bm 786 (by decide +kernel) (by decide +kernel), TX10, rfl⟩
theorem mv_X10_leanNow : q_mv yX10_leanNow cX10_leanNow 4 (some .int) 10 2 := ⟨⟨⟨(by decide +kernel), (by decide +kernel), (by decide +kernel)⟩, q_bm 123 (by decide +kernel) (by decide +kernel), q_bm 1143 (by decide +kernel) (by decide +kernel)⟩, q_bm 1141 (by decide +kernel) (by decide +kernel), q_bm 1142 (by decide +kernel) (by decide +kernel), TX10, rfl⟩
theorem mv_X10_leanOf : q_mv yX10_leanOf cX10_leanOf 6 (some .int) 10 4 := ⟨⟨⟨(by decide +kernel), (by decide +kernel), (by decide +kernel)⟩, q_bm 123 (by decide +kernel) (by decide +kernel), q_bm 716 (by decide +kernel) (by decide +kernel)⟩, q_bm 714 (by decide +kernel) (by decide +kernel), q_bm 715 (by decide +kernel) (by decide +kernel), TX10, rfl⟩
theorem mv_X10_likelihood : q_mv yX10_likelihood cX10_likelihood 7 (some .int) 10 3 := ⟨⟨⟨(by decide +kernel), (by decide +kernel), (by decide +kernel)⟩, q_bm 123 (by decide +kernel) (by decide +kernel), q_bm 1324 (by decide +kernel) (by decide +kernel)⟩, q_bm 1322 (by decide +kernel) (by decide +kernel), q_bm 1323 (by decide +kernel) (by decide +kernel), TX10, rfl⟩
theorem mv_X10_needOf : q_mv yX10_needOf cX10_needOf 2 (some .int) 10 1 := ⟨⟨⟨(by decide +kernel), (by decide +kernel), (by decide +kernel)⟩, q_bm 123 (by decide +kernel) (by decide +kernel), q_bm 678 (by decide +kernel) (by decide +kernel)⟩, q_bm 676 (by decide +kernel) (by decide +kernel), q_bm 677 (by decide +kernel) (by decide +kernel), TX10, rfl⟩
theorem mv_X10_passDay : q_mv yX10_passDay cX10_passDay 5 (some .int) 10 2 := ⟨⟨⟨(by decide +kernel), (by decide +kernel), (by decide +kernel)⟩, q_bm 123 (by decide +kernel) (by decide +kernel), q_bm 823 (by decide +kernel) (by decide +kernel)⟩, q_bm 821 (by decide +kernel) (by decide +kernel), q_bm 822 (by decide +kernel) (by decide +kernel), TX10, rfl⟩
theorem mv_X10_read : q_mv yX10_read cX10_read 3 (some .int) 10 2 := ⟨⟨⟨(by decide +kernel), (by decide +kernel), (by decide +kernel)⟩, q_bm 123 (by decide +kernel) (by decide +kernel), q_bm 1167 (by decide +kernel) (by decide +kernel)⟩, q_bm 1165 (by decide +kernel) (by decide +kernel), q_bm 1166 (by decide +kernel) (by decide +kernel), TX10, rfl⟩
theorem mv_X10_restAll : q_mv yX10_restAll cX10_restAll 2 (some .int) 10 0 := ⟨⟨⟨(by decide +kernel), (by decide +kernel), (by decide +kernel)⟩, q_bm 123 (by decide +kernel) (by decide +kernel), q_bm 813 (by decide +kernel) (by decide +kernel)⟩, q_bm 811 (by decide +kernel) (by decide +kernel), q_bm 812 (by decide +kernel) (by decide +kernel), TX10, rfl⟩
theorem mv_X10_riskOf : q_mv yX10_riskOf cX10_riskOf 4 (some .int) 10 3 := ⟨⟨⟨(by decide +kernel), (by decide +kernel), (by decide +kernel)⟩, q_bm 123 (by decide +kernel) (by decide +kernel), q_bm 799 (by decide +kernel) (by decide +kernel)⟩, q_bm 797 (by decide +kernel) (by decide +kernel), q_bm 798 (by decide +kernel) (by decide +kernel), TX10, rfl⟩
theorem mv_X10_sing : q_mv yX10_sing cX10_sing 4 (none) 10 1 := ⟨⟨⟨(by decide +kernel), (by decide +kernel), (by decide +kernel)⟩, q_bm 123 (by decide +kernel) (by decide +kernel), q_bm 775 (by decide +kernel) (by decide +kernel)⟩, q_bm 774 (by decide +kernel) (by decide +kernel), q_bm 9 (by decide +kernel) (by decide +kernel), TX10, rfl⟩
theorem mv_X10_travel : q_mv yX10_travel cX10_travel 7 (some .int) 10 3 := ⟨⟨⟨(by decide +kernel), (by decide +kernel), (by decide +kernel)⟩, q_bm 123 (by decide +kernel) (by decide +kernel), q_bm 795 (by decide +kernel) (by decide +kernel)⟩, q_bm 793 (by decide +kernel) (by decide +kernel), q_bm 794 (by decide +kernel) (by decide +kernel), TX10, rfl⟩
theorem mv_X10_treat : q_mv yX10_treat cX10_treat 4 (none) 10 3 := ⟨⟨⟨(by decide +kernel), (by decide +kernel), (by decide +kernel)⟩, q_bm 123 (by decide +kernel) (by decide +kernel), q_bm 761 (by decide +kernel) (by decide +kernel)⟩, q_bm 759 (by decide +kernel) (by decide +kernel), q_bm 760 (by decide +kernel) (by decide +kernel), TX10, rfl⟩
theorem mv_X10_whip : q_mv yX10_whip cX10_whip 4 (none) 10 2 := ⟨⟨⟨(by decide +kernel), (by decide +kernel), (by decide +kernel)⟩, q_bm 123 (by decide +kernel) (by decide +kernel), q_bm 779 (by decide +kernel) (by decide +kernel)⟩, q_bm 778 (by decide +kernel) (by decide +kernel), q_bm 10 (by decide +kernel) (by decide +kernel), TX10, rfl⟩
theorem mv_X10_write : q_mv yX10_write cX10_write 5 (none) 10 3 := ⟨⟨⟨(by decide +kernel), (by decide +kernel), (by decide +kernel)⟩, q_bm 123 (by decide +kernel) (by decide +kernel), q_bm 749 (by decide +kernel) (by decide +kernel)⟩, q_bm 748 (by decide +kernel) (by decide +kernel), q_bm 7 (by decide +kernel) (by decide +kernel), TX10, rfl⟩
theorem mv_X11_act : q_mv yX11_act cX11_act 4 (some .boolean) 11 3 := ⟨⟨⟨(by decide +kernel), (by decide +kernel), (by decide +kernel)⟩, q_bm 122 (by decide +kernel) (by decide +kernel), q_bm 753 (by decide +kernel) (by decide +kernel)⟩, q_bm 751 (by decide +kernel) (by decide +kernel), q_bm 752 (by decide +kernel) (by decide +kernel), TX11, rfl⟩
theorem mv_X11_book : q_mv yX11_book cX11_book 3 (some .int) 11 2 := ⟨⟨⟨(by decide +kernel), (by decide +kernel), (by decide +kernel)⟩, q_bm 122 (by decide +kernel) (by decide +kernel), q_bm 1163 (by decide +kernel) (by decide +kernel)⟩, q_bm 1161 (by decide +kernel) (by decide +kernel), q_bm 1162 (by decide +kernel) (by decide +kernel), TX11, rfl⟩
theorem mv_X11_copyRow : q_mst yX11_copyRow cX11_copyRow 2 (none) 2 := ⟨⟨⟨(by decide +kernel), (by decide +kernel), (by decide +kernel)⟩, q_bm 122 (by decide +kernel) (by decide +kernel), q_bm 661 (by decide +kernel) (by decide +kernel)⟩, q_bm 660 (by decide +kernel) (by decide +kernel)⟩
theorem mv_X11_days : q_mv yX11_days cX11_days 4 (some .int) 11 1 := ⟨⟨⟨(by decide +kernel), (by decide +kernel), (by decide +kernel)⟩, q_bm 122 (by decide +kernel) (by decide +kernel), q_bm 819 (by decide +kernel) (by decide +kernel)⟩, q_bm 817 (by decide +kernel) (by decide +kernel), q_bm 818 (by decide +kernel) (by decide +kernel), TX11, rfl⟩
theorem mv_X11_end : q_mv yX11_end cX11_end 2 (some .boolean) 11 1 := ⟨⟨⟨(by decide +kernel), (by decide +kernel), (by decide +kernel)⟩, q_bm 122 (by decide +kernel) (by decide +kernel), q_bm 844 (by decide +kernel) (by decide +kernel)⟩, q_bm 842 (by decide +kernel) (by decide +kernel), q_bm 843 (by decide +kernel) (by decide +kernel), TX11, rfl⟩
theorem mv_X11_fault : q_mv yX11_fault cX11_fault 2 (some .int) 11 1 := ⟨⟨⟨(by decide +kernel), (by decide +kernel), (by decide +kernel)⟩, q_bm 122 (by decide +kernel) (by decide +kernel), q_bm 1134 (by decide +kernel) (by decide +kernel)⟩, q_bm 1132 (by decide +kernel) (by decide +kernel), q_bm 1133 (by decide +kernel) (by decide +kernel), TX11, rfl⟩
theorem mv_X11_feed : q_mv yX11_feed cX11_feed 6 (some .int) 11 5 := ⟨⟨⟨(by decide +kernel), (by decide +kernel), (by decide +kernel)⟩, q_bm 122 (by decide +kernel) (by decide +kernel), q_bm 836 (by decide +kernel) (by decide +kernel)⟩, q_bm 834 (by decide +kernel) (by decide +kernel), q_bm 835 (by decide +kernel) (by decide +kernel), TX11, rfl⟩
theorem mv_X11_fits : q_mv yX11_fits cX11_fits 2 (some .int) 11 1 := ⟨⟨⟨(by decide +kernel), (by decide +kernel), (by decide +kernel)⟩, q_bm 122 (by decide +kernel) (by decide +kernel), q_bm 1295 (by decide +kernel) (by decide +kernel)⟩, q_bm 1293 (by decide +kernel) (by decide +kernel), q_bm 1294 (by decide +kernel) (by decide +kernel), TX11, rfl⟩
theorem mv_X11_game : q_mv yX11_game cX11_game 2 (some .int) 11 1 := ⟨⟨⟨(by decide +kernel), (by decide +kernel), (by decide +kernel)⟩, q_bm 122 (by decide +kernel) (by decide +kernel), q_bm 1329 (by decide +kernel) (by decide +kernel)⟩, q_bm 1327 (by decide +kernel) (by decide +kernel), q_bm 1328 (by decide +kernel) (by decide +kernel), TX11, rfl⟩
theorem mv_X11_go : q_mv yX11_go cX11_go 3 (some .int) 11 1 := ⟨⟨⟨(by decide +kernel), (by decide +kernel), (by decide +kernel)⟩, q_bm 122 (by decide +kernel) (by decide +kernel), q_bm 783 (by decide +kernel) (by decide +kernel)⟩, q_bm 781 (by decide +kernel) (by decide +kernel), q_bm 782 (by decide +kernel) (by decide +kernel), TX11, rfl⟩
theorem mv_X11_goes : q_mv yX11_goes cX11_goes 5 (some .int) 11 2 := ⟨⟨⟨(by decide +kernel), (by decide +kernel), (by decide +kernel)⟩, q_bm 122 (by decide +kernel) (by decide +kernel), q_bm 1181 (by decide +kernel) (by decide +kernel)⟩, q_bm 1179 (by decide +kernel) (by decide +kernel), q_bm 1180 (by decide +kernel) (by decide +kernel), TX11, rfl⟩
theorem mv_X11_image : q_mv yX11_image cX11_image 2 (some .boolean) 11 1 := ⟨⟨⟨(by decide +kernel), (by decide +kernel), (by decide +kernel)⟩, q_bm 122 (by decide +kernel) (by decide +kernel), q_bm 1381 (by decide +kernel) (by decide +kernel)⟩, q_bm 1379 (by decide +kernel) (by decide +kernel), q_bm 1380 (by decide +kernel) (by decide +kernel), TX11, rfl⟩
theorem mv_X11_isCamp : q_mst yX11_isCamp cX11_isCamp 1 (some .boolean) 1 := ⟨⟨⟨(by decide +kernel), (by decide +kernel), (by decide +kernel)⟩, q_bm 122 (by decide +kernel) (by decide +kernel), q_bm 626 (by decide +kernel) (by decide +kernel)⟩, q_bm 625 (by decide +kernel) (by decide +kernel)⟩
theorem mv_X11_isIn : q_mst yX11_isIn cX11_isIn 2 (some .boolean) 2 := ⟨⟨⟨(by decide +kernel), (by decide +kernel), (by decide +kernel)⟩, q_bm 122 (by decide +kernel) (by decide +kernel), q_bm 728 (by decide +kernel) (by decide +kernel)⟩, q_bm 727 (by decide +kernel) (by decide +kernel)⟩
theorem mv_X11_isWithin : q_mst yX11_isWithin cX11_isWithin 3 (some .boolean) 3 := ⟨⟨⟨(by decide +kernel), (by decide +kernel), (by decide +kernel)⟩, q_bm 122 (by decide +kernel) (by decide +kernel), q_bm 595 (by decide +kernel) (by decide +kernel)⟩, q_bm 594 (by decide +kernel) (by decide +kernel)⟩
theorem mv_X11_led : q_mv yX11_led cX11_led 9 (some .int) 11 3 := ⟨⟨⟨(by decide +kernel), (by decide +kernel), (by decide +kernel)⟩, q_bm 122 (by decide +kernel) (by decide +kernel), q_bm 1320 (by decide +kernel) (by decide +kernel)⟩, q_bm 1318 (by decide +kernel) (by decide +kernel), q_bm 1319 (by decide +kernel) (by decide +kernel), TX11, rfl⟩
theorem mv_X11_like : q_mv yX11_like cX11_like 5 (some .boolean) 11 3 := ⟨⟨⟨(by decide +kernel), (by decide +kernel), (by decide +kernel)⟩, q_bm 122 (by decide +kernel) (by decide +kernel), q_bm 634 (by decide +kernel) (by decide +kernel)⟩, q_bm 632 (by decide +kernel) (by decide +kernel), q_bm 633 (by decide +kernel) (by decide +kernel), TX11, rfl⟩
theorem mv_X11_look : q_mv yX11_look cX11_look 3 (some .int) 11 1 := ⟨⟨⟨(by decide +kernel), (by decide +kernel), (by decide +kernel)⟩, q_bm 122 (by decide +kernel) (by decide +kernel), q_bm 1393 (by decide +kernel) (by decide +kernel)⟩, q_bm 1391 (by decide +kernel) (by decide +kernel), q_bm 1392 (by decide +kernel) (by decide +kernel), TX11, rfl⟩
theorem mv_X11_man : q_mv yX11_man cX11_man 5 (some .int) 11 3 := ⟨⟨⟨(by decide +kernel), (by decide +kernel), (by decide +kernel)⟩, q_bm 122 (by decide +kernel) (by decide +kernel), q_bm 603 (by decide +kernel) (by decide +kernel)⟩, q_bm 601 (by decide +kernel) (by decide +kernel), q_bm 602 (by decide +kernel) (by decide +kernel), TX11, rfl⟩
theorem mv_X11_manOf : q_mv yX11_manOf cX11_manOf 4 (some .int) 11 2 := ⟨⟨⟨(by decide +kernel), (by decide +kernel), (by decide +kernel)⟩, q_bm 122 (by decide +kernel) (by decide +kernel), q_bm 1153 (by decide +kernel) (by decide +kernel)⟩, q_bm 1151 (by decide +kernel) (by decide +kernel), q_bm 1152 (by decide +kernel) (by decide +kernel), TX11, rfl⟩
theorem mv_X11_meets : q_mv yX11_meets cX11_meets 3 (some .int) 11 2 := ⟨⟨⟨(by decide +kernel), (by decide +kernel), (by decide +kernel)⟩, q_bm 122 (by decide +kernel) (by decide +kernel), q_bm 1361 (by decide +kernel) (by decide +kernel)⟩, q_bm 1359 (by decide +kernel) (by decide +kernel), q_bm 1360 (by decide +kernel) (by decide +kernel), TX11, rfl⟩
theorem mv_X11_mule : q_mv yX11_mule cX11_mule 4 (some .int) 11 2 := ⟨⟨⟨(by decide +kernel), (by decide +kernel), (by decide +kernel)⟩, q_bm 122 (by decide +kernel) (by decide +kernel), q_bm 592 (by decide +kernel) (by decide +kernel)⟩, q_bm 590 (by decide +kernel) (by decide +kernel), q_bm 591 (by decide +kernel) (by decide +kernel), TX11, rfl⟩
theorem mv_X11_of : q_mv yX11_of cX11_of 4 (some .int) 11 2 := ⟨⟨⟨(by decide +kernel), (by decide +kernel), (by decide +kernel)⟩, q_bm 122 (by decide +kernel) (by decide +kernel), q_bm 1138 (by decide +kernel) (by decide +kernel)⟩, q_bm 1136 (by decide +kernel) (by decide +kernel), q_bm 1137 (by decide +kernel) (by decide +kernel), TX11, rfl⟩
theorem mv_X11_packs : q_mv yX11_packs cX11_packs 3 (some .int) 11 1 := ⟨⟨⟨(by decide +kernel), (by decide +kernel), (by decide +kernel)⟩, q_bm 122 (by decide +kernel) (by decide +kernel), q_bm 1244 (by decide +kernel) (by decide +kernel)⟩, q_bm 1242 (by decide +kernel) (by decide +kernel), q_bm 1243 (by decide +kernel) (by decide +kernel), TX11, rfl⟩
theorem mv_X11_path : q_mv yX11_path cX11_path 3 (some .int) 11 2 := ⟨⟨⟨(by decide +kernel), (by decide +kernel), (by decide +kernel)⟩, q_bm 122 (by decide +kernel) (by decide +kernel), q_bm 1158 (by decide +kernel) (by decide +kernel)⟩, q_bm 1156 (by decide +kernel) (by decide +kernel), q_bm 1157 (by decide +kernel) (by decide +kernel), TX11, rfl⟩
theorem mv_X11_rest : q_mv yX11_rest cX11_rest 1 (some .int) 11 0 := ⟨⟨⟨(by decide +kernel), (by decide +kernel), (by decide +kernel)⟩, q_bm 122 (by decide +kernel) (by decide +kernel), q_bm 809 (by decide +kernel) (by decide +kernel)⟩, q_bm 807 (by decide +kernel) (by decide +kernel), q_bm 808 (by decide +kernel) (by decide +kernel), TX11, rfl⟩
theorem mv_X11_row : q_mv yX11_row cX11_row 1 (some .int) 11 0 := ⟨⟨⟨(by decide +kernel), (by decide +kernel), (by decide +kernel)⟩, q_bm 122 (by decide +kernel) (by decide +kernel), q_bm 1269 (by decide +kernel) (by decide +kernel)⟩, q_bm 1267 (by decide +kernel) (by decide +kernel), q_bm 1268 (by decide +kernel) (by decide +kernel), TX11, rfl⟩
theorem mv_X11_seen : q_mv yX11_seen cX11_seen 5 (some .int) 11 3 := ⟨⟨⟨(by decide +kernel), (by decide +kernel), (by decide +kernel)⟩, q_bm 122 (by decide +kernel) (by decide +kernel), q_bm 1285 (by decide +kernel) (by decide +kernel)⟩, q_bm 1283 (by decide +kernel) (by decide +kernel), q_bm 1284 (by decide +kernel) (by decide +kernel), TX11, rfl⟩
theorem mv_X11_set : q_mv yX11_set cX11_set 5 (some .boolean) 11 3 := ⟨⟨⟨(by decide +kernel), (by decide +kernel), (by decide +kernel)⟩, q_bm 122 (by decide +kernel) (by decide +kernel), q_bm 611 (by decide +kernel) (by decide +kernel)⟩, q_bm 609 (by decide +kernel) (by decide +kernel), q_bm 610 (by decide +kernel) (by decide +kernel), TX11, rfl⟩
theorem mv_X11_settles : q_mv yX11_settles cX11_settles 2 (some .int) 11 1 := ⟨⟨⟨(by decide +kernel), (by decide +kernel), (by decide +kernel)⟩, q_bm 122 (by decide +kernel) (by decide +kernel), q_bm 1177 (by decide +kernel) (by decide +kernel)⟩, q_bm 1175 (by decide +kernel) (by decide +kernel), q_bm 1176 (by decide +kernel) (by decide +kernel), TX11, rfl⟩
theorem mv_X11_share : q_mv yX11_share cX11_share 3 (some .int) 11 2 := ⟨⟨⟨(by decide +kernel), (by decide +kernel), (by decide +kernel)⟩, q_bm 122 (by decide +kernel) (by decide +kernel), q_bm 1349 (by decide +kernel) (by decide +kernel)⟩, q_bm 1347 (by decide +kernel) (by decide +kernel), q_bm 1348 (by decide +kernel) (by decide +kernel), TX11, rfl⟩
theorem mv_X11_stands : q_mv yX11_stands cX11_stands 2 (some .int) 11 1 := ⟨⟨⟨(by decide +kernel), (by decide +kernel), (by decide +kernel)⟩, q_bm 122 (by decide +kernel) (by decide +kernel), q_bm 1171 (by decide +kernel) (by decide +kernel)⟩, q_bm 1169 (by decide +kernel) (by decide +kernel), q_bm 1170 (by decide +kernel) (by decide +kernel), TX11, rfl⟩
theorem mv_X11_state : q_mv yX11_state cX11_state 3 (some .int) 11 1 := ⟨⟨⟨(by decide +kernel), (by decide +kernel), (by decide +kernel)⟩, q_bm 122 (by decide +kernel) (by decide +kernel), q_bm 584 (by decide +kernel) (by decide +kernel)⟩, q_bm 582 (by decide +kernel) (by decide +kernel), q_bm 583 (by decide +kernel) (by decide +kernel), TX11, rfl⟩
theorem mv_X11_takeRows : q_mv yX11_takeRows cX11_takeRows 3 (some .int) 11 1 := ⟨⟨⟨(by decide +kernel), (by decide +kernel), (by decide +kernel)⟩, q_bm 122 (by decide +kernel) (by decide +kernel), q_bm 1124 (by decide +kernel) (by decide +kernel)⟩, q_bm 1123 (by decide +kernel) (by decide +kernel), q_bm 31 (by decide +kernel) (by decide +kernel), TX11, rfl⟩
theorem mv_X11_tellOfMan : q_mv yX11_tellOfMan cX11_tellOfMan 5 (some .boolean) 11 3 := ⟨⟨⟨(by decide +kernel), (by decide +kernel), (by decide +kernel)⟩, q_bm 122 (by decide +kernel) (by decide +kernel), q_bm 615 (by decide +kernel) (by decide +kernel)⟩, q_bm 614 (by decide +kernel) (by decide +kernel), q_bm 0 (by decide +kernel) (by decide +kernel), TX11, rfl⟩
theorem mv_X11_tellOfTrain : q_mv yX11_tellOfTrain cX11_tellOfTrain 5 (some .boolean) 11 3 := ⟨⟨⟨(by decide +kernel), (by decide +kernel), (by decide +kernel)⟩, q_bm 122 (by decide +kernel) (by decide +kernel), q_bm 623 (by decide +kernel) (by decide +kernel)⟩, q_bm 622 (by decide +kernel) (by decide +kernel), q_bm 1 (by decide +kernel) (by decide +kernel), TX11, rfl⟩
theorem mv_X11_text : q_mv yX11_text cX11_text 3 (some .int) 11 1 := ⟨⟨⟨(by decide +kernel), (by decide +kernel), (by decide +kernel)⟩, q_bm 122 (by decide +kernel) (by decide +kernel), q_bm 848 (by decide +kernel) (by decide +kernel)⟩, q_bm 846 (by decide +kernel) (by decide +kernel), q_bm 847 (by decide +kernel) (by decide +kernel), TX11, rfl⟩
theorem mv_X11_turnsBy : q_mv yX11_turnsBy cX11_turnsBy 3 (some .int) 11 1 := ⟨⟨⟨(by decide +kernel), (by decide +kernel), (by decide +kernel)⟩, q_bm 122 (by decide +kernel) (by decide +kernel), q_bm 1205 (by decide +kernel) (by decide +kernel)⟩, q_bm 1203 (by decide +kernel) (by decide +kernel), q_bm 1204 (by decide +kernel) (by decide +kernel), TX11, rfl⟩
theorem mv_X11_undo : q_mv yX11_undo cX11_undo 1 (some .boolean) 11 0 := ⟨⟨⟨(by decide +kernel), (by decide +kernel), (by decide +kernel)⟩, q_bm 122 (by decide +kernel) (by decide +kernel), q_bm 1373 (by decide +kernel) (by decide +kernel)⟩, q_bm 1371 (by decide +kernel) (by decide +kernel), q_bm 1372 (by decide +kernel) (by decide +kernel), TX11, rfl⟩
theorem mv_X11_vote : q_mv yX11_vote cX11_vote 1 (some .int) 11 0 := ⟨⟨⟨(by decide +kernel), (by decide +kernel), (by decide +kernel)⟩, q_bm 122 (by decide +kernel) (by decide +kernel), q_bm 646 (by decide +kernel) (by decide +kernel)⟩, q_bm 644 (by decide +kernel) (by decide +kernel), q_bm 645 (by decide +kernel) (by decide +kernel), TX11, rfl⟩
theorem mv_X11_way : q_mv yX11_way cX11_way 4 (some .int) 11 3 := ⟨⟨⟨(by decide +kernel), (by decide +kernel), (by decide +kernel)⟩, q_bm 122 (by decide +kernel) (by decide +kernel), q_bm 1211 (by decide +kernel) (by decide +kernel)⟩, q_bm 1209 (by decide +kernel) (by decide +kernel), q_bm 1210 (by decide +kernel) (by decide +kernel), TX11, rfl⟩
theorem mv_X11_wins : q_mv yX11_wins cX11_wins 4 (some .int) 11 2 := ⟨⟨⟨(by decide +kernel), (by decide +kernel), (by decide +kernel)⟩, q_bm 122 (by decide +kernel) (by decide +kernel), q_bm 1186 (by decide +kernel) (by decide +kernel)⟩, q_bm 1184 (by decide +kernel) (by decide +kernel), q_bm 1185 (by decide +kernel) (by decide +kernel), TX11, rfl⟩
theorem mv_X12_aDay : q_mv yX12_aDay cX12_aDay 3 (some .int) 12 0 := ⟨⟨⟨(by decide +kernel), (by decide +kernel), (by decide +kernel)⟩, q_bm 136 (by decide +kernel) (by decide +kernel), q_bm 1860 (by decide +kernel) (by decide +kernel)⟩, q_bm 1859 (by decide +kernel) (by decide +kernel), q_bm 103 (by decide +kernel) (by decide +kernel), TX12, rfl⟩
theorem mv_X12_aHeed : q_mv yX12_aHeed cX12_aHeed 2 (some .boolean) 12 0 := ⟨⟨⟨(by decide +kernel), (by decide +kernel), (by decide +kernel)⟩, q_bm 136 (by decide +kernel) (by decide +kernel), q_bm 1674 (by decide +kernel) (by decide +kernel)⟩, q_bm 1673 (by decide +kernel) (by decide +kernel), q_bm 67 (by decide +kernel) (by decide +kernel), TX12, rfl⟩
theorem mv_X12_aLine : q_mv yX12_aLine cX12_aLine 1 (some .boolean) 12 0 := ⟨⟨⟨(by decide +kernel), (by decide +kernel), (by decide +kernel)⟩, q_bm 136 (by decide +kernel) (by decide +kernel), q_bm 1622 (by decide +kernel) (by decide +kernel)⟩, q_bm 1621 (by decide +kernel) (by decide +kernel), q_bm 54 (by decide +kernel) (by decide +kernel), TX12, rfl⟩
theorem mv_X12_aLoad : q_mv yX12_aLoad cX12_aLoad 1 (some .boolean) 12 0 := ⟨⟨⟨(by decide +kernel), (by decide +kernel), (by decide +kernel)⟩, q_bm 136 (by decide +kernel) (by decide +kernel), q_bm 1698 (by decide +kernel) (by decide +kernel)⟩, q_bm 1697 (by decide +kernel) (by decide +kernel), q_bm 73 (by decide +kernel) (by decide +kernel), TX12, rfl⟩
theorem mv_X12_aPath : q_mv yX12_aPath cX12_aPath 2 (some .boolean) 12 0 := ⟨⟨⟨(by decide +kernel), (by decide +kernel), (by decide +kernel)⟩, q_bm 136 (by decide +kernel) (by decide +kernel), q_bm 1694 (by decide +kernel) (by decide +kernel)⟩, q_bm 1693 (by decide +kernel) (by decide +kernel), q_bm 72 (by decide +kernel) (by decide +kernel), TX12, rfl⟩
theorem mv_X12_aPlan : q_mv yX12_aPlan cX12_aPlan 3 (some .boolean) 12 0 := ⟨⟨⟨(by decide +kernel), (by decide +kernel), (by decide +kernel)⟩, q_bm 136 (by decide +kernel) (by decide +kernel), q_bm 1690 (by decide +kernel) (by decide +kernel)⟩, q_bm 1689 (by decide +kernel) (by decide +kernel), q_bm 71 (by decide +kernel) (by decide +kernel), TX12, rfl⟩
theorem mv_X12_aRound : q_mv yX12_aRound cX12_aRound 3 (some .boolean) 12 0 := ⟨⟨⟨(by decide +kernel), (by decide +kernel), (by decide +kernel)⟩, q_bm 136 (by decide +kernel) (by decide +kernel), q_bm 1742 (by decide +kernel) (by decide +kernel)⟩, q_bm 1741 (by decide +kernel) (by decide +kernel), q_bm 81 (by decide +kernel) (by decide +kernel), TX12, rfl⟩
theorem mv_X12_aRow : q_mv yX12_aRow cX12_aRow 1 (some .boolean) 12 0 := ⟨⟨⟨(by decide +kernel), (by decide +kernel), (by decide +kernel)⟩, q_bm 136 (by decide +kernel) (by decide +kernel), q_bm 1670 (by decide +kernel) (by decide +kernel)⟩, q_bm 1669 (by decide +kernel) (by decide +kernel), q_bm 66 (by decide +kernel) (by decide +kernel), TX12, rfl⟩
theorem mv_X12_act : q_mv yX12_act cX12_act 4 (some .boolean) 12 3 := ⟨⟨⟨(by decide +kernel), (by decide +kernel), (by decide +kernel)⟩, q_bm 136 (by decide +kernel) (by decide +kernel), q_bm 1806 (by decide +kernel) (by decide +kernel)⟩, q_bm 1804 (by decide +kernel) (by decide +kernel), q_bm 1805 (by decide +kernel) (by decide +kernel), TX12, rfl⟩
theorem mv_X12_another : q_mv yX12_another cX12_another 2 (some .boolean) 12 1 := ⟨⟨⟨(by decide +kernel), (by decide +kernel), (by decide +kernel)⟩, q_bm 136 (by decide +kernel) (by decide +kernel), q_bm 1686 (by decide +kernel) (by decide +kernel)⟩, q_bm 1685 (by decide +kernel) (by decide +kernel), q_bm 70 (by decide +kernel) (by decide +kernel), TX12, rfl⟩
theorem mv_X12_any : q_mv yX12_any cX12_any 1 (some .boolean) 12 0 := ⟨⟨⟨(by decide +kernel), (by decide +kernel), (by decide +kernel)⟩, q_bm 136 (by decide +kernel) (by decide +kernel), q_bm 1646 (by decide +kernel) (by decide +kernel)⟩, q_bm 1645 (by decide +kernel) (by decide +kernel), q_bm 60 (by decide +kernel) (by decide +kernel), TX12, rfl⟩
theorem mv_X12_asked : q_mv yX12_asked cX12_asked 1 (some .int) 12 0 := ⟨⟨⟨(by decide +kernel), (by decide +kernel), (by decide +kernel)⟩, q_bm 136 (by decide +kernel) (by decide +kernel), q_bm 1583 (by decide +kernel) (by decide +kernel)⟩, q_bm 1582 (by decide +kernel) (by decide +kernel), q_bm 50 (by decide +kernel) (by decide +kernel), TX12, rfl⟩
theorem mv_X12_bad : q_mv yX12_bad cX12_bad 2 (some .boolean) 12 1 := ⟨⟨⟨(by decide +kernel), (by decide +kernel), (by decide +kernel)⟩, q_bm 136 (by decide +kernel) (by decide +kernel), q_bm 1626 (by decide +kernel) (by decide +kernel)⟩, q_bm 1625 (by decide +kernel) (by decide +kernel), q_bm 55 (by decide +kernel) (by decide +kernel), TX12, rfl⟩
theorem mv_X12_behind : q_mv yX12_behind cX12_behind 4 (some .int) 12 1 := ⟨⟨⟨(by decide +kernel), (by decide +kernel), (by decide +kernel)⟩, q_bm 136 (by decide +kernel) (by decide +kernel), q_bm 1766 (by decide +kernel) (by decide +kernel)⟩, q_bm 1765 (by decide +kernel) (by decide +kernel), q_bm 87 (by decide +kernel) (by decide +kernel), TX12, rfl⟩
theorem mv_X12_book : q_mv yX12_book cX12_book 3 (some .int) 12 2 := ⟨⟨⟨(by decide +kernel), (by decide +kernel), (by decide +kernel)⟩, q_bm 136 (by decide +kernel) (by decide +kernel), q_bm 1880 (by decide +kernel) (by decide +kernel)⟩, q_bm 1878 (by decide +kernel) (by decide +kernel), q_bm 1879 (by decide +kernel) (by decide +kernel), TX12, rfl⟩
theorem mv_X12_both : q_mst yX12_both cX12_both 3 (some .int) 3 := ⟨⟨⟨(by decide +kernel), (by decide +kernel), (by decide +kernel)⟩, q_bm 136 (by decide +kernel) (by decide +kernel), q_bm 1784 (by decide +kernel) (by decide +kernel)⟩, q_bm 1783 (by decide +kernel) (by decide +kernel)⟩
theorem mv_X12_campAt : q_mv yX12_campAt cX12_campAt 6 (some .int) 12 2 := ⟨⟨⟨(by decide +kernel), (by decide +kernel), (by decide +kernel)⟩, q_bm 136 (by decide +kernel) (by decide +kernel), q_bm 2000 (by decide +kernel) (by decide +kernel)⟩, q_bm 1999 (by decide +kernel) (by decide +kernel), q_bm 119 (by decide +kernel) (by decide +kernel), TX12, rfl⟩
theorem mv_X12_canGo : q_mv yX12_canGo cX12_canGo 2 (some .boolean) 12 1 := ⟨⟨⟨(by decide +kernel), (by decide +kernel), (by decide +kernel)⟩, q_bm 136 (by decide +kernel) (by decide +kernel), q_bm 1830 (by decide +kernel) (by decide +kernel)⟩, q_bm 1829 (by decide +kernel) (by decide +kernel), q_bm 98 (by decide +kernel) (by decide +kernel), TX12, rfl⟩
theorem mv_X12_canSet : q_mv yX12_canSet cX12_canSet 4 (some .boolean) 12 3 := ⟨⟨⟨(by decide +kernel), (by decide +kernel), (by decide +kernel)⟩, q_bm 136 (by decide +kernel) (by decide +kernel), q_bm 1520 (by decide +kernel) (by decide +kernel)⟩, q_bm 1519 (by decide +kernel) (by decide +kernel), q_bm 42 (by decide +kernel) (by decide +kernel), TX12, rfl⟩
theorem mv_X12_comesTo : q_mv yX12_comesTo cX12_comesTo 8 (some .int) 12 3 := ⟨⟨⟨(by decide +kernel), (by decide +kernel), (by decide +kernel)⟩, q_bm 136 (by decide +kernel) (by decide +kernel), q_bm 1781 (by decide +kernel) (by decide +kernel)⟩, q_bm 1780 (by decide +kernel) (by decide +kernel), q_bm 90 (by decide +kernel) (by decide +kernel), TX12, rfl⟩
theorem mv_X12_count : q_mst yX12_count cX12_count 3 (some .int) 1 := ⟨⟨⟨(by decide +kernel), (by decide +kernel), (by decide +kernel)⟩, q_bm 136 (by decide +kernel) (by decide +kernel), q_bm 1769 (by decide +kernel) (by decide +kernel)⟩, q_bm 1768 (by decide +kernel) (by decide +kernel)⟩
theorem mv_X12_days : q_mv yX12_days cX12_days 4 (some .int) 12 1 := ⟨⟨⟨(by decide +kernel), (by decide +kernel), (by decide +kernel)⟩, q_bm 136 (by decide +kernel) (by decide +kernel), q_bm 1856 (by decide +kernel) (by decide +kernel)⟩, q_bm 1854 (by decide +kernel) (by decide +kernel), q_bm 1855 (by decide +kernel) (by decide +kernel), TX12, rfl⟩
theorem mv_X12_does : q_mv yX12_does cX12_does 3 (some .boolean) 12 1 := ⟨⟨⟨(by decide +kernel), (by decide +kernel), (by decide +kernel)⟩, q_bm 136 (by decide +kernel) (by decide +kernel), q_bm 1864 (by decide +kernel) (by decide +kernel)⟩, q_bm 1863 (by decide +kernel) (by decide +kernel), q_bm 104 (by decide +kernel) (by decide +kernel), TX12, rfl⟩
theorem mv_X12_draw : q_mv yX12_draw cX12_draw 2 (some .int) 12 1 := ⟨⟨⟨(by decide +kernel), (by decide +kernel), (by decide +kernel)⟩, q_bm 136 (by decide +kernel) (by decide +kernel), q_bm 1846 (by decide +kernel) (by decide +kernel)⟩, q_bm 1845 (by decide +kernel) (by decide +kernel), q_bm 102 (by decide +kernel) (by decide +kernel), TX12, rfl⟩
theorem mv_X12_end : q_mv yX12_end cX12_end 2 (some .boolean) 12 1 := ⟨⟨⟨(by decide +kernel), (by decide +kernel), (by decide +kernel)⟩, q_bm 136 (by decide +kernel) (by decide +kernel), q_bm 1543 (by decide +kernel) (by decide +kernel)⟩, q_bm 1541 (by decide +kernel) (by decide +kernel), q_bm 1542 (by decide +kernel) (by decide +kernel), TX12, rfl⟩
theorem mv_X12_every : q_mv yX12_every cX12_every 1 (some .boolean) 12 0 := ⟨⟨⟨(by decide +kernel), (by decide +kernel), (by decide +kernel)⟩, q_bm 136 (by decide +kernel) (by decide +kernel), q_bm 1650 (by decide +kernel) (by decide +kernel)⟩, q_bm 1649 (by decide +kernel) (by decide +kernel), q_bm 61 (by decide +kernel) (by decide +kernel), TX12, rfl⟩
theorem mv_X12_fault : q_mv yX12_fault cX12_fault 2 (some .int) 12 1 := ⟨⟨⟨(by decide +kernel), (by decide +kernel), (by decide +kernel)⟩, q_bm 136 (by decide +kernel) (by decide +kernel), q_bm 1718 (by decide +kernel) (by decide +kernel)⟩, q_bm 1716 (by decide +kernel) (by decide +kernel), q_bm 1717 (by decide +kernel) (by decide +kernel), TX12, rfl⟩
theorem mv_X12_feed : q_mv yX12_feed cX12_feed 8 (some .int) 12 5 := ⟨⟨⟨(by decide +kernel), (by decide +kernel), (by decide +kernel)⟩, q_bm 136 (by decide +kernel) (by decide +kernel), q_bm 1539 (by decide +kernel) (by decide +kernel)⟩, q_bm 1537 (by decide +kernel) (by decide +kernel), q_bm 1538 (by decide +kernel) (by decide +kernel), TX12, rfl⟩
theorem mv_X12_fits : q_mv yX12_fits cX12_fits 8 (some .int) 12 1 := ⟨⟨⟨(by decide +kernel), (by decide +kernel), (by decide +kernel)⟩, q_bm 136 (by decide +kernel) (by decide +kernel), q_bm 1957 (by decide +kernel) (by decide +kernel)⟩, q_bm 1955 (by decide +kernel) (by decide +kernel), q_bm 1956 (by decide +kernel) (by decide +kernel), TX12, rfl⟩
theorem mv_X12_fitting : q_mv yX12_fitting cX12_fitting 4 (some .int) 12 1 := ⟨⟨⟨(by decide +kernel), (by decide +kernel), (by decide +kernel)⟩, q_bm 136 (by decide +kernel) (by decide +kernel), q_bm 1961 (by decide +kernel) (by decide +kernel)⟩, q_bm 1960 (by decide +kernel) (by decide +kernel), q_bm 114 (by decide +kernel) (by decide +kernel), TX12, rfl⟩
theorem mv_X12_forgets : q_mv yX12_forgets cX12_forgets 1 (none) 12 0 := ⟨⟨⟨(by decide +kernel), (by decide +kernel), (by decide +kernel)⟩, q_bm 136 (by decide +kernel) (by decide +kernel), q_bm 1501 (by decide +kernel) (by decide +kernel)⟩, q_bm 1500 (by decide +kernel) (by decide +kernel), q_bm 41 (by decide +kernel) (by decide +kernel), TX12, rfl⟩
theorem mv_X12_game : q_mv yX12_game cX12_game 6 (some .int) 12 1 := ⟨⟨⟨(by decide +kernel), (by decide +kernel), (by decide +kernel)⟩, q_bm 136 (by decide +kernel) (by decide +kernel), q_bm 1981 (by decide +kernel) (by decide +kernel)⟩, q_bm 1979 (by decide +kernel) (by decide +kernel), q_bm 1980 (by decide +kernel) (by decide +kernel), TX12, rfl⟩
theorem mv_X12_gives : q_mv yX12_gives cX12_gives 3 (some .boolean) 12 2 := ⟨⟨⟨(by decide +kernel), (by decide +kernel), (by decide +kernel)⟩, q_bm 136 (by decide +kernel) (by decide +kernel), q_bm 1822 (by decide +kernel) (by decide +kernel)⟩, q_bm 1821 (by decide +kernel) (by decide +kernel), q_bm 97 (by decide +kernel) (by decide +kernel), TX12, rfl⟩
theorem mv_X12_go : q_mv yX12_go cX12_go 2 (some .int) 12 1 := ⟨⟨⟨(by decide +kernel), (by decide +kernel), (by decide +kernel)⟩, q_bm 136 (by decide +kernel) (by decide +kernel), q_bm 1826 (by decide +kernel) (by decide +kernel)⟩, q_bm 1824 (by decide +kernel) (by decide +kernel), q_bm 1825 (by decide +kernel) (by decide +kernel), TX12, rfl⟩
theorem mv_X12_goes : q_mv yX12_goes cX12_goes 4 (some .int) 12 2 := ⟨⟨⟨(by decide +kernel), (by decide +kernel), (by decide +kernel)⟩, q_bm 136 (by decide +kernel) (by decide +kernel), q_bm 1900 (by decide +kernel) (by decide +kernel)⟩, q_bm 1898 (by decide +kernel) (by decide +kernel), q_bm 1899 (by decide +kernel) (by decide +kernel), TX12, rfl⟩
theorem mv_X12_goesTo : q_mv yX12_goesTo cX12_goesTo 6 (some .int) 12 1 := ⟨⟨⟨(by decide +kernel), (by decide +kernel), (by decide +kernel)⟩, q_bm 136 (by decide +kernel) (by decide +kernel), q_bm 1838 (by decide +kernel) (by decide +kernel)⟩, q_bm 1837 (by decide +kernel) (by decide +kernel), q_bm 100 (by decide +kernel) (by decide +kernel), TX12, rfl⟩
theorem mv_X12_greater : q_mst yX12_greater cX12_greater 2 (some .int) 2 := ⟨⟨⟨(by decide +kernel), (by decide +kernel), (by decide +kernel)⟩, q_bm 136 (by decide +kernel) (by decide +kernel), q_bm 1790 (by decide +kernel) (by decide +kernel)⟩, q_bm 1789 (by decide +kernel) (by decide +kernel)⟩
theorem mv_X12_greatestRisk : q_mv yX12_greatestRisk cX12_greatestRisk 4 (some .int) 12 1 := ⟨⟨⟨(by decide +kernel), (by decide +kernel), (by decide +kernel)⟩, q_bm 136 (by decide +kernel) (by decide +kernel), q_bm 1929 (by decide +kernel) (by decide +kernel)⟩, q_bm 1928 (by decide +kernel) (by decide +kernel), q_bm 110 (by decide +kernel) (by decide +kernel), TX12, rfl⟩
theorem mv_X12_heedWord : q_mv yX12_heedWord cX12_heedWord 1 (some .int) 12 0 := ⟨⟨⟨(by decide +kernel), (by decide +kernel), (by decide +kernel)⟩, q_bm 136 (by decide +kernel) (by decide +kernel), q_bm 1597 (by decide +kernel) (by decide +kernel)⟩, q_bm 1596 (by decide +kernel) (by decide +kernel), q_bm 51 (by decide +kernel) (by decide +kernel), TX12, rfl⟩
theorem mv_X12_heedersOf : q_mv yX12_heedersOf cX12_heedersOf 4 (some .int) 12 1 := ⟨⟨⟨(by decide +kernel), (by decide +kernel), (by decide +kernel)⟩, q_bm 136 (by decide +kernel) (by decide +kernel), q_bm 1992 (by decide +kernel) (by decide +kernel)⟩, q_bm 1991 (by decide +kernel) (by decide +kernel), q_bm 118 (by decide +kernel) (by decide +kernel), TX12, rfl⟩
theorem mv_X12_image : q_mv yX12_image cX12_image 3 (some .boolean) 12 1 := ⟨⟨⟨(by decide +kernel), (by decide +kernel), (by decide +kernel)⟩, q_bm 136 (by decide +kernel) (by decide +kernel), q_bm 2008 (by decide +kernel) (by decide +kernel)⟩, q_bm 2006 (by decide +kernel) (by decide +kernel), q_bm 2007 (by decide +kernel) (by decide +kernel), TX12, rfl⟩
theorem mv_X12_is : q_mv yX12_is cX12_is 4 (some .boolean) 12 1 := ⟨⟨⟨(by decide +kernel), (by decide +kernel), (by decide +kernel)⟩, q_bm 136 (by decide +kernel) (by decide +kernel), q_bm 1571 (by decide +kernel) (by decide +kernel)⟩, q_bm 1570 (by decide +kernel) (by decide +kernel), q_bm 49 (by decide +kernel) (by decide +kernel), TX12, rfl⟩
theorem mv_X12_isCamp : q_mst yX12_isCamp cX12_isCamp 1 (some .boolean) 1 := ⟨⟨⟨(by decide +kernel), (by decide +kernel), (by decide +kernel)⟩, q_bm 136 (by decide +kernel) (by decide +kernel), q_bm 1523 (by decide +kernel) (by decide +kernel)⟩, q_bm 1522 (by decide +kernel) (by decide +kernel)⟩
theorem mv_X12_isDigit : q_mst yX12_isDigit cX12_isDigit 1 (some .boolean) 1 := ⟨⟨⟨(by decide +kernel), (by decide +kernel), (by decide +kernel)⟩, q_bm 136 (by decide +kernel) (by decide +kernel), q_bm 1614 (by decide +kernel) (by decide +kernel)⟩, q_bm 1613 (by decide +kernel) (by decide +kernel)⟩
theorem mv_X12_isFitting : q_mv yX12_isFitting cX12_isFitting 4 (some .boolean) 12 1 := ⟨⟨⟨(by decide +kernel), (by decide +kernel), (by decide +kernel)⟩, q_bm 136 (by decide +kernel) (by decide +kernel), q_bm 1965 (by decide +kernel) (by decide +kernel)⟩, q_bm 1964 (by decide +kernel) (by decide +kernel), q_bm 115 (by decide +kernel) (by decide +kernel), TX12, rfl⟩
theorem mv_X12_isIn : q_mst yX12_isIn cX12_isIn 3 (some .boolean) 3 := ⟨⟨⟨(by decide +kernel), (by decide +kernel), (by decide +kernel)⟩, q_bm 136 (by decide +kernel) (by decide +kernel), q_bm 1508 (by decide +kernel) (by decide +kernel)⟩, q_bm 1507 (by decide +kernel) (by decide +kernel)⟩
theorem mv_X12_isLame : q_mv yX12_isLame cX12_isLame 2 (some .boolean) 12 1 := ⟨⟨⟨(by decide +kernel), (by decide +kernel), (by decide +kernel)⟩, q_bm 136 (by decide +kernel) (by decide +kernel), q_bm 1746 (by decide +kernel) (by decide +kernel)⟩, q_bm 1745 (by decide +kernel) (by decide +kernel), q_bm 82 (by decide +kernel) (by decide +kernel), TX12, rfl⟩
theorem mv_X12_isLetter : q_mst yX12_isLetter cX12_isLetter 1 (some .boolean) 1 := ⟨⟨⟨(by decide +kernel), (by decide +kernel), (by decide +kernel)⟩, q_bm 136 (by decide +kernel) (by decide +kernel), q_bm 1558 (by decide +kernel) (by decide +kernel)⟩, q_bm 1557 (by decide +kernel) (by decide +kernel)⟩
theorem mv_X12_isMan : q_mv yX12_isMan cX12_isMan 2 (some .boolean) 12 1 := ⟨⟨⟨(by decide +kernel), (by decide +kernel), (by decide +kernel)⟩, q_bm 136 (by decide +kernel) (by decide +kernel), q_bm 1531 (by decide +kernel) (by decide +kernel)⟩, q_bm 1530 (by decide +kernel) (by decide +kernel), q_bm 44 (by decide +kernel) (by decide +kernel), TX12, rfl⟩
theorem mv_X12_isMule : q_mv yX12_isMule cX12_isMule 2 (some .boolean) 12 1 := ⟨⟨⟨(by decide +kernel), (by decide +kernel), (by decide +kernel)⟩, q_bm 136 (by decide +kernel) (by decide +kernel), q_bm 1527 (by decide +kernel) (by decide +kernel)⟩, q_bm 1526 (by decide +kernel) (by decide +kernel), q_bm 43 (by decide +kernel) (by decide +kernel), TX12, rfl⟩
theorem mv_X12_isSo : q_mv yX12_isSo cX12_isSo 2 (some .boolean) 12 1 := ⟨⟨⟨(by decide +kernel), (by decide +kernel), (by decide +kernel)⟩, q_bm 136 (by decide +kernel) (by decide +kernel), q_bm 1777 (by decide +kernel) (by decide +kernel)⟩, q_bm 1776 (by decide +kernel) (by decide +kernel), q_bm 89 (by decide +kernel) (by decide +kernel), TX12, rfl⟩
theorem mv_X12_keeps : q_mv yX12_keeps cX12_keeps 2 (none) 12 0 := ⟨⟨⟨(by decide +kernel), (by decide +kernel), (by decide +kernel)⟩, q_bm 136 (by decide +kernel) (by decide +kernel), q_bm 1730 (by decide +kernel) (by decide +kernel)⟩, q_bm 1729 (by decide +kernel) (by decide +kernel), q_bm 78 (by decide +kernel) (by decide +kernel), TX12, rfl⟩
theorem mv_X12_lawWord : q_mv yX12_lawWord cX12_lawWord 1 (some .int) 12 0 := ⟨⟨⟨(by decide +kernel), (by decide +kernel), (by decide +kernel)⟩, q_bm 136 (by decide +kernel) (by decide +kernel), q_bm 1566 (by decide +kernel) (by decide +kernel)⟩, q_bm 1565 (by decide +kernel) (by decide +kernel), q_bm 48 (by decide +kernel) (by decide +kernel), TX12, rfl⟩
theorem mv_X12_lay : q_mv yX12_lay cX12_lay 3 (none) 12 2 := ⟨⟨⟨(by decide +kernel), (by decide +kernel), (by decide +kernel)⟩, q_bm 136 (by decide +kernel) (by decide +kernel), q_bm 1642 (by decide +kernel) (by decide +kernel)⟩, q_bm 1641 (by decide +kernel) (by decide +kernel), q_bm 59 (by decide +kernel) (by decide +kernel), TX12, rfl⟩
theorem mv_X12_lays : q_mv yX12_lays cX12_lays 2 (none) 12 0 := ⟨⟨⟨(by decide +kernel), (by decide +kernel), (by decide +kernel)⟩, q_bm 136 (by decide +kernel) (by decide +kernel), q_bm 1888 (by decide +kernel) (by decide +kernel)⟩, q_bm 1887 (by decide +kernel) (by decide +kernel), q_bm 105 (by decide +kernel) (by decide +kernel), TX12, rfl⟩
theorem mv_X12_laysLoads : q_mv yX12_laysLoads cX12_laysLoads 5 (none) 12 0 := ⟨⟨⟨(by decide +kernel), (by decide +kernel), (by decide +kernel)⟩, q_bm 136 (by decide +kernel) (by decide +kernel), q_bm 1937 (by decide +kernel) (by decide +kernel)⟩, q_bm 1936 (by decide +kernel) (by decide +kernel), q_bm 111 (by decide +kernel) (by decide +kernel), TX12, rfl⟩
theorem mv_X12_laysMule : q_mv yX12_laysMule cX12_laysMule 3 (none) 12 1 := ⟨⟨⟨(by decide +kernel), (by decide +kernel), (by decide +kernel)⟩, q_bm 136 (by decide +kernel) (by decide +kernel), q_bm 1758 (by decide +kernel) (by decide +kernel)⟩, q_bm 1757 (by decide +kernel) (by decide +kernel), q_bm 85 (by decide +kernel) (by decide +kernel), TX12, rfl⟩
theorem mv_X12_laysWays : q_mv yX12_laysWays cX12_laysWays 7 (none) 12 2 := ⟨⟨⟨(by decide +kernel), (by decide +kernel), (by decide +kernel)⟩, q_bm 136 (by decide +kernel) (by decide +kernel), q_bm 1920 (by decide +kernel) (by decide +kernel)⟩, q_bm 1919 (by decide +kernel) (by decide +kernel), q_bm 108 (by decide +kernel) (by decide +kernel), TX12, rfl⟩
theorem mv_X12_leanOf : q_mv yX12_leanOf cX12_leanOf 3 (some .int) 12 2 := ⟨⟨⟨(by decide +kernel), (by decide +kernel), (by decide +kernel)⟩, q_bm 136 (by decide +kernel) (by decide +kernel), q_bm 1754 (by decide +kernel) (by decide +kernel)⟩, q_bm 1753 (by decide +kernel) (by decide +kernel), q_bm 84 (by decide +kernel) (by decide +kernel), TX12, rfl⟩
theorem mv_X12_leansTo : q_mv yX12_leansTo cX12_leansTo 6 (some .int) 12 1 := ⟨⟨⟨(by decide +kernel), (by decide +kernel), (by decide +kernel)⟩, q_bm 136 (by decide +kernel) (by decide +kernel), q_bm 1750 (by decide +kernel) (by decide +kernel)⟩, q_bm 1749 (by decide +kernel) (by decide +kernel), q_bm 83 (by decide +kernel) (by decide +kernel), TX12, rfl⟩
theorem mv_X12_leastBut : q_mst yX12_leastBut cX12_leastBut 3 (some .int) 2 := ⟨⟨⟨(by decide +kernel), (by decide +kernel), (by decide +kernel)⟩, q_bm 136 (by decide +kernel) (by decide +kernel), q_bm 1984 (by decide +kernel) (by decide +kernel)⟩, q_bm 1983 (by decide +kernel) (by decide +kernel)⟩
theorem mv_X12_leastFitting : q_mv yX12_leastFitting cX12_leastFitting 2 (some .int) 12 0 := ⟨⟨⟨(by decide +kernel), (by decide +kernel), (by decide +kernel)⟩, q_bm 136 (by decide +kernel) (by decide +kernel), q_bm 1969 (by decide +kernel) (by decide +kernel)⟩, q_bm 1968 (by decide +kernel) (by decide +kernel), q_bm 116 (by decide +kernel) (by decide +kernel), TX12, rfl⟩
theorem mv_X12_led : q_mv yX12_led cX12_led 8 (some .int) 12 3 := ⟨⟨⟨(by decide +kernel), (by decide +kernel), (by decide +kernel)⟩, q_bm 136 (by decide +kernel) (by decide +kernel), q_bm 1973 (by decide +kernel) (by decide +kernel)⟩, q_bm 1971 (by decide +kernel) (by decide +kernel), q_bm 1972 (by decide +kernel) (by decide +kernel), TX12, rfl⟩
theorem mv_X12_ledBy : q_mv yX12_ledBy cX12_ledBy 8 (some .int) 12 3 := ⟨⟨⟨(by decide +kernel), (by decide +kernel), (by decide +kernel)⟩, q_bm 136 (by decide +kernel) (by decide +kernel), q_bm 1977 (by decide +kernel) (by decide +kernel)⟩, q_bm 1976 (by decide +kernel) (by decide +kernel), q_bm 117 (by decide +kernel) (by decide +kernel), TX12, rfl⟩
theorem mv_X12_lesser : q_mst yX12_lesser cX12_lesser 2 (some .int) 2 := ⟨⟨⟨(by decide +kernel), (by decide +kernel), (by decide +kernel)⟩, q_bm 136 (by decide +kernel) (by decide +kernel), q_bm 1787 (by decide +kernel) (by decide +kernel)⟩, q_bm 1786 (by decide +kernel) (by decide +kernel)⟩
theorem mv_X12_like : q_mv yX12_like cX12_like 4 (some .boolean) 12 3 := ⟨⟨⟨(by decide +kernel), (by decide +kernel), (by decide +kernel)⟩, q_bm 136 (by decide +kernel) (by decide +kernel), q_bm 1535 (by decide +kernel) (by decide +kernel)⟩, q_bm 1533 (by decide +kernel) (by decide +kernel), q_bm 1534 (by decide +kernel) (by decide +kernel), TX12, rfl⟩
theorem mv_X12_likes : q_mv yX12_likes cX12_likes 4 (none) 12 3 := ⟨⟨⟨(by decide +kernel), (by decide +kernel), (by decide +kernel)⟩, q_bm 136 (by decide +kernel) (by decide +kernel), q_bm 1814 (by decide +kernel) (by decide +kernel)⟩, q_bm 1813 (by decide +kernel) (by decide +kernel), q_bm 95 (by decide +kernel) (by decide +kernel), TX12, rfl⟩
theorem mv_X12_likingOf : q_mv yX12_likingOf cX12_likingOf 3 (some .int) 12 2 := ⟨⟨⟨(by decide +kernel), (by decide +kernel), (by decide +kernel)⟩, q_bm 136 (by decide +kernel) (by decide +kernel), q_bm 1762 (by decide +kernel) (by decide +kernel)⟩, q_bm 1761 (by decide +kernel) (by decide +kernel), q_bm 86 (by decide +kernel) (by decide +kernel), TX12, rfl⟩
theorem mv_X12_lineFrom : q_mv yX12_lineFrom cX12_lineFrom 3 (some .int) 12 1 := ⟨⟨⟨(by decide +kernel), (by decide +kernel), (by decide +kernel)⟩, q_bm 136 (by decide +kernel) (by decide +kernel), q_bm 2004 (by decide +kernel) (by decide +kernel)⟩, q_bm 2003 (by decide +kernel) (by decide +kernel), q_bm 120 (by decide +kernel) (by decide +kernel), TX12, rfl⟩
theorem mv_X12_look : q_mv yX12_look cX12_look 2 (some .int) 12 1 := ⟨⟨⟨(by decide +kernel), (by decide +kernel), (by decide +kernel)⟩, q_bm 136 (by decide +kernel) (by decide +kernel), q_bm 2012 (by decide +kernel) (by decide +kernel)⟩, q_bm 2010 (by decide +kernel) (by decide +kernel), q_bm 2011 (by decide +kernel) (by decide +kernel), TX12, rfl⟩
theorem mv_X12_man : q_mv yX12_man cX12_man 6 (some .int) 12 3 := ⟨⟨⟨(by decide +kernel), (by decide +kernel), (by decide +kernel)⟩, q_bm 136 (by decide +kernel) (by decide +kernel), q_bm 1512 (by decide +kernel) (by decide +kernel)⟩, q_bm 1510 (by decide +kernel) (by decide +kernel), q_bm 1511 (by decide +kernel) (by decide +kernel), TX12, rfl⟩
theorem mv_X12_manOf : q_mv yX12_manOf cX12_manOf 3 (some .int) 12 2 := ⟨⟨⟨(by decide +kernel), (by decide +kernel), (by decide +kernel)⟩, q_bm 136 (by decide +kernel) (by decide +kernel), q_bm 1872 (by decide +kernel) (by decide +kernel)⟩, q_bm 1870 (by decide +kernel) (by decide +kernel), q_bm 1871 (by decide +kernel) (by decide +kernel), TX12, rfl⟩
theorem mv_X12_meets : q_mv yX12_meets cX12_meets 4 (some .int) 12 2 := ⟨⟨⟨(by decide +kernel), (by decide +kernel), (by decide +kernel)⟩, q_bm 136 (by decide +kernel) (by decide +kernel), q_bm 1996 (by decide +kernel) (by decide +kernel)⟩, q_bm 1994 (by decide +kernel) (by decide +kernel), q_bm 1995 (by decide +kernel) (by decide +kernel), TX12, rfl⟩
theorem mv_X12_mostFollowed : q_mv yX12_mostFollowed cX12_mostFollowed 5 (some .int) 12 0 := ⟨⟨⟨(by decide +kernel), (by decide +kernel), (by decide +kernel)⟩, q_bm 136 (by decide +kernel) (by decide +kernel), q_bm 1798 (by decide +kernel) (by decide +kernel)⟩, q_bm 1797 (by decide +kernel) (by decide +kernel), q_bm 92 (by decide +kernel) (by decide +kernel), TX12, rfl⟩
theorem mv_X12_mule : q_mv yX12_mule cX12_mule 5 (some .int) 12 2 := ⟨⟨⟨(by decide +kernel), (by decide +kernel), (by decide +kernel)⟩, q_bm 136 (by decide +kernel) (by decide +kernel), q_bm 1505 (by decide +kernel) (by decide +kernel)⟩, q_bm 1503 (by decide +kernel) (by decide +kernel), q_bm 1504 (by decide +kernel) (by decide +kernel), TX12, rfl⟩
theorem mv_X12_need : q_mv yX12_need cX12_need 2 (some .boolean) 12 1 := ⟨⟨⟨(by decide +kernel), (by decide +kernel), (by decide +kernel)⟩, q_bm 136 (by decide +kernel) (by decide +kernel), q_bm 1662 (by decide +kernel) (by decide +kernel)⟩, q_bm 1661 (by decide +kernel) (by decide +kernel), q_bm 64 (by decide +kernel) (by decide +kernel), TX12, rfl⟩
theorem mv_X12_needOf : q_mv yX12_needOf cX12_needOf 2 (some .int) 12 1 := ⟨⟨⟨(by decide +kernel), (by decide +kernel), (by decide +kernel)⟩, q_bm 136 (by decide +kernel) (by decide +kernel), q_bm 1794 (by decide +kernel) (by decide +kernel)⟩, q_bm 1793 (by decide +kernel) (by decide +kernel), q_bm 91 (by decide +kernel) (by decide +kernel), TX12, rfl⟩
theorem mv_X12_next0 : q_mv yX12_next0 cX12_next0 3 (none) 12 0 := ⟨⟨⟨(by decide +kernel), (by decide +kernel), (by decide +kernel)⟩, q_bm 136 (by decide +kernel) (by decide +kernel), q_bm 1551 (by decide +kernel) (by decide +kernel)⟩, q_bm 1550 (by decide +kernel) (by decide +kernel), q_bm 45 (by decide +kernel) (by decide +kernel), TX12, rfl⟩
theorem mv_X12_notes : q_mv yX12_notes cX12_notes 5 (none) 12 3 := ⟨⟨⟨(by decide +kernel), (by decide +kernel), (by decide +kernel)⟩, q_bm 136 (by decide +kernel) (by decide +kernel), q_bm 1802 (by decide +kernel) (by decide +kernel)⟩, q_bm 1801 (by decide +kernel) (by decide +kernel), q_bm 93 (by decide +kernel) (by decide +kernel), TX12, rfl⟩
theorem mv_X12_number : q_mv yX12_number cX12_number 4 (some .boolean) 12 3 := ⟨⟨⟨(by decide +kernel), (by decide +kernel), (by decide +kernel)⟩, q_bm 136 (by decide +kernel) (by decide +kernel), q_bm 1682 (by decide +kernel) (by decide +kernel)⟩, q_bm 1681 (by decide +kernel) (by decide +kernel), q_bm 69 (by decide +kernel) (by decide +kernel), TX12, rfl⟩
theorem mv_X12_of : q_mv yX12_of cX12_of 3 (some .int) 12 2 := ⟨⟨⟨(by decide +kernel), (by decide +kernel), (by decide +kernel)⟩, q_bm 136 (by decide +kernel) (by decide +kernel), q_bm 1868 (by decide +kernel) (by decide +kernel)⟩, q_bm 1866 (by decide +kernel) (by decide +kernel), q_bm 1867 (by decide +kernel) (by decide +kernel), TX12, rfl⟩
theorem mv_X12_oneTest : q_mv yX12_oneTest cX12_oneTest 2 (some .boolean) 12 0 := ⟨⟨⟨(by decide +kernel), (by decide +kernel), (by decide +kernel)⟩, q_bm 136 (by decide +kernel) (by decide +kernel), q_bm 1654 (by decide +kernel) (by decide +kernel)⟩, q_bm 1653 (by decide +kernel) (by decide +kernel), q_bm 62 (by decide +kernel) (by decide +kernel), TX12, rfl⟩
theorem mv_X12_opens : q_mv yX12_opens cX12_opens 1 (some .boolean) 12 0 := ⟨⟨⟨(by decide +kernel), (by decide +kernel), (by decide +kernel)⟩, q_bm 136 (by decide +kernel) (by decide +kernel), q_bm 1658 (by decide +kernel) (by decide +kernel)⟩, q_bm 1657 (by decide +kernel) (by decide +kernel), q_bm 63 (by decide +kernel) (by decide +kernel), TX12, rfl⟩
theorem mv_X12_packs : q_mv yX12_packs cX12_packs 4 (some .int) 12 1 := ⟨⟨⟨(by decide +kernel), (by decide +kernel), (by decide +kernel)⟩, q_bm 136 (by decide +kernel) (by decide +kernel), q_bm 1933 (by decide +kernel) (by decide +kernel)⟩, q_bm 1931 (by decide +kernel) (by decide +kernel), q_bm 1932 (by decide +kernel) (by decide +kernel), TX12, rfl⟩
theorem mv_X12_path : q_mv yX12_path cX12_path 3 (some .int) 12 2 := ⟨⟨⟨(by decide +kernel), (by decide +kernel), (by decide +kernel)⟩, q_bm 136 (by decide +kernel) (by decide +kernel), q_bm 1876 (by decide +kernel) (by decide +kernel)⟩, q_bm 1874 (by decide +kernel) (by decide +kernel), q_bm 1875 (by decide +kernel) (by decide +kernel), TX12, rfl⟩
theorem mv_X12_pathOf : q_mv yX12_pathOf cX12_pathOf 4 (some .int) 12 2 := ⟨⟨⟨(by decide +kernel), (by decide +kernel), (by decide +kernel)⟩, q_bm 136 (by decide +kernel) (by decide +kernel), q_bm 1834 (by decide +kernel) (by decide +kernel)⟩, q_bm 1833 (by decide +kernel) (by decide +kernel), q_bm 99 (by decide +kernel) (by decide +kernel), TX12, rfl⟩
theorem mv_X12_planWord : q_mv yX12_planWord cX12_planWord 1 (some .int) 12 0 := ⟨⟨⟨(by decide +kernel), (by decide +kernel), (by decide +kernel)⟩, q_bm 136 (by decide +kernel) (by decide +kernel), q_bm 1602 (by decide +kernel) (by decide +kernel)⟩, q_bm 1601 (by decide +kernel) (by decide +kernel), q_bm 52 (by decide +kernel) (by decide +kernel), TX12, rfl⟩
theorem mv_X12_priceOf : q_mv yX12_priceOf cX12_priceOf 5 (some .int) 12 3 := ⟨⟨⟨(by decide +kernel), (by decide +kernel), (by decide +kernel)⟩, q_bm 136 (by decide +kernel) (by decide +kernel), q_bm 1925 (by decide +kernel) (by decide +kernel)⟩, q_bm 1924 (by decide +kernel) (by decide +kernel), q_bm 109 (by decide +kernel) (by decide +kernel), TX12, rfl⟩
theorem mv_X12_product : q_mv yX12_product cX12_product 3 (some .boolean) 12 0 := ⟨⟨⟨(by decide +kernel), (by decide +kernel), (by decide +kernel)⟩, q_bm 136 (by decide +kernel) (by decide +kernel), q_bm 1634 (by decide +kernel) (by decide +kernel)⟩, q_bm 1633 (by decide +kernel) (by decide +kernel), q_bm 57 (by decide +kernel) (by decide +kernel), TX12, rfl⟩
theorem mv_X12_puts : q_mv yX12_puts cX12_puts 5 (some .int) 12 3 := ⟨⟨⟨(by decide +kernel), (by decide +kernel), (by decide +kernel)⟩, q_bm 136 (by decide +kernel) (by decide +kernel), q_bm 1710 (by decide +kernel) (by decide +kernel)⟩, q_bm 1709 (by decide +kernel) (by decide +kernel), q_bm 76 (by decide +kernel) (by decide +kernel), TX12, rfl⟩
theorem mv_X12_putsBack : q_mv yX12_putsBack cX12_putsBack 2 (none) 12 0 := ⟨⟨⟨(by decide +kernel), (by decide +kernel), (by decide +kernel)⟩, q_bm 136 (by decide +kernel) (by decide +kernel), q_bm 1892 (by decide +kernel) (by decide +kernel)⟩, q_bm 1891 (by decide +kernel) (by decide +kernel), q_bm 106 (by decide +kernel) (by decide +kernel), TX12, rfl⟩
theorem mv_X12_putsHeeds : q_mv yX12_putsHeeds cX12_putsHeeds 2 (some .int) 12 0 := ⟨⟨⟨(by decide +kernel), (by decide +kernel), (by decide +kernel)⟩, q_bm 136 (by decide +kernel) (by decide +kernel), q_bm 1714 (by decide +kernel) (by decide +kernel)⟩, q_bm 1713 (by decide +kernel) (by decide +kernel), q_bm 77 (by decide +kernel) (by decide +kernel), TX12, rfl⟩
theorem mv_X12_putsLaw : q_mv yX12_putsLaw cX12_putsLaw 2 (some .int) 12 0 := ⟨⟨⟨(by decide +kernel), (by decide +kernel), (by decide +kernel)⟩, q_bm 136 (by decide +kernel) (by decide +kernel), q_bm 1706 (by decide +kernel) (by decide +kernel)⟩, q_bm 1705 (by decide +kernel) (by decide +kernel), q_bm 75 (by decide +kernel) (by decide +kernel), TX12, rfl⟩
theorem mv_X12_putsText : q_mv yX12_putsText cX12_putsText 2 (some .int) 12 1 := ⟨⟨⟨(by decide +kernel), (by decide +kernel), (by decide +kernel)⟩, q_bm 136 (by decide +kernel) (by decide +kernel), q_bm 1702 (by decide +kernel) (by decide +kernel)⟩, q_bm 1701 (by decide +kernel) (by decide +kernel), q_bm 74 (by decide +kernel) (by decide +kernel), TX12, rfl⟩
theorem mv_X12_readsLaw : q_mv yX12_readsLaw cX12_readsLaw 2 (some .boolean) 12 0 := ⟨⟨⟨(by decide +kernel), (by decide +kernel), (by decide +kernel)⟩, q_bm 136 (by decide +kernel) (by decide +kernel), q_bm 1618 (by decide +kernel) (by decide +kernel)⟩, q_bm 1617 (by decide +kernel) (by decide +kernel), q_bm 53 (by decide +kernel) (by decide +kernel), TX12, rfl⟩
theorem mv_X12_readsRows : q_mv yX12_readsRows cX12_readsRows 3 (some .boolean) 12 0 := ⟨⟨⟨(by decide +kernel), (by decide +kernel), (by decide +kernel)⟩, q_bm 136 (by decide +kernel) (by decide +kernel), q_bm 1666 (by decide +kernel) (by decide +kernel)⟩, q_bm 1665 (by decide +kernel) (by decide +kernel), q_bm 65 (by decide +kernel) (by decide +kernel), TX12, rfl⟩
theorem mv_X12_rest : q_mv yX12_rest cX12_rest 2 (some .int) 12 0 := ⟨⟨⟨(by decide +kernel), (by decide +kernel), (by decide +kernel)⟩, q_bm 136 (by decide +kernel) (by decide +kernel), q_bm 1852 (by decide +kernel) (by decide +kernel)⟩, q_bm 1850 (by decide +kernel) (by decide +kernel), q_bm 1851 (by decide +kernel) (by decide +kernel), TX12, rfl⟩
theorem mv_X12_riskOf : q_mv yX12_riskOf cX12_riskOf 4 (some .int) 12 3 := ⟨⟨⟨(by decide +kernel), (by decide +kernel), (by decide +kernel)⟩, q_bm 136 (by decide +kernel) (by decide +kernel), q_bm 1842 (by decide +kernel) (by decide +kernel)⟩, q_bm 1841 (by decide +kernel) (by decide +kernel), q_bm 101 (by decide +kernel) (by decide +kernel), TX12, rfl⟩
theorem mv_X12_row : q_mv yX12_row cX12_row 9 (some .int) 12 0 := ⟨⟨⟨(by decide +kernel), (by decide +kernel), (by decide +kernel)⟩, q_bm 136 (by decide +kernel) (by decide +kernel), q_bm 1949 (by decide +kernel) (by decide +kernel)⟩, q_bm 1947 (by decide +kernel) (by decide +kernel), q_bm 1948 (by decide +kernel) (by decide +kernel), TX12, rfl⟩
theorem mv_X12_says : q_mv yX12_says cX12_says 5 (some .int) 12 3 := ⟨⟨⟨(by decide +kernel), (by decide +kernel), (by decide +kernel)⟩, q_bm 136 (by decide +kernel) (by decide +kernel), q_bm 1773 (by decide +kernel) (by decide +kernel)⟩, q_bm 1772 (by decide +kernel) (by decide +kernel), q_bm 88 (by decide +kernel) (by decide +kernel), TX12, rfl⟩
theorem mv_X12_see : q_mv yX12_see cX12_see 2 (some .int) 12 1 := ⟨⟨⟨(by decide +kernel), (by decide +kernel), (by decide +kernel)⟩, q_bm 136 (by decide +kernel) (by decide +kernel), q_bm 1555 (by decide +kernel) (by decide +kernel)⟩, q_bm 1554 (by decide +kernel) (by decide +kernel), q_bm 46 (by decide +kernel) (by decide +kernel), TX12, rfl⟩
theorem mv_X12_seen : q_mv yX12_seen cX12_seen 5 (some .int) 12 3 := ⟨⟨⟨(by decide +kernel), (by decide +kernel), (by decide +kernel)⟩, q_bm 136 (by decide +kernel) (by decide +kernel), q_bm 1953 (by decide +kernel) (by decide +kernel)⟩, q_bm 1951 (by decide +kernel) (by decide +kernel), q_bm 1952 (by decide +kernel) (by decide +kernel), TX12, rfl⟩
theorem mv_X12_set : q_mv yX12_set cX12_set 4 (some .boolean) 12 3 := ⟨⟨⟨(by decide +kernel), (by decide +kernel), (by decide +kernel)⟩, q_bm 136 (by decide +kernel) (by decide +kernel), q_bm 1516 (by decide +kernel) (by decide +kernel)⟩, q_bm 1514 (by decide +kernel) (by decide +kernel), q_bm 1515 (by decide +kernel) (by decide +kernel), TX12, rfl⟩
theorem mv_X12_settles : q_mv yX12_settles cX12_settles 4 (some .int) 12 1 := ⟨⟨⟨(by decide +kernel), (by decide +kernel), (by decide +kernel)⟩, q_bm 136 (by decide +kernel) (by decide +kernel), q_bm 1896 (by decide +kernel) (by decide +kernel)⟩, q_bm 1894 (by decide +kernel) (by decide +kernel), q_bm 1895 (by decide +kernel) (by decide +kernel), TX12, rfl⟩
theorem mv_X12_share : q_mv yX12_share cX12_share 7 (some .int) 12 2 := ⟨⟨⟨(by decide +kernel), (by decide +kernel), (by decide +kernel)⟩, q_bm 136 (by decide +kernel) (by decide +kernel), q_bm 1988 (by decide +kernel) (by decide +kernel)⟩, q_bm 1986 (by decide +kernel) (by decide +kernel), q_bm 1987 (by decide +kernel) (by decide +kernel), TX12, rfl⟩
theorem mv_X12_sings : q_mv yX12_sings cX12_sings 3 (none) 12 1 := ⟨⟨⟨(by decide +kernel), (by decide +kernel), (by decide +kernel)⟩, q_bm 136 (by decide +kernel) (by decide +kernel), q_bm 1810 (by decide +kernel) (by decide +kernel)⟩, q_bm 1809 (by decide +kernel) (by decide +kernel), q_bm 94 (by decide +kernel) (by decide +kernel), TX12, rfl⟩
theorem mv_X12_stand : q_mv yX12_stand cX12_stand 2 (some .int) 12 0 := ⟨⟨⟨(by decide +kernel), (by decide +kernel), (by decide +kernel)⟩, q_bm 136 (by decide +kernel) (by decide +kernel), q_bm 1738 (by decide +kernel) (by decide +kernel)⟩, q_bm 1737 (by decide +kernel) (by decide +kernel), q_bm 80 (by decide +kernel) (by decide +kernel), TX12, rfl⟩
theorem mv_X12_stands : q_mv yX12_stands cX12_stands 3 (some .int) 12 1 := ⟨⟨⟨(by decide +kernel), (by decide +kernel), (by decide +kernel)⟩, q_bm 136 (by decide +kernel) (by decide +kernel), q_bm 1884 (by decide +kernel) (by decide +kernel)⟩, q_bm 1882 (by decide +kernel) (by decide +kernel), q_bm 1883 (by decide +kernel) (by decide +kernel), TX12, rfl⟩
theorem mv_X12_state : q_mv yX12_state cX12_state 3 (some .int) 12 1 := ⟨⟨⟨(by decide +kernel), (by decide +kernel), (by decide +kernel)⟩, q_bm 136 (by decide +kernel) (by decide +kernel), q_bm 1497 (by decide +kernel) (by decide +kernel)⟩, q_bm 1495 (by decide +kernel) (by decide +kernel), q_bm 1496 (by decide +kernel) (by decide +kernel), TX12, rfl⟩
theorem mv_X12_sumUp : q_mv yX12_sumUp cX12_sumUp 2 (some .boolean) 12 0 := ⟨⟨⟨(by decide +kernel), (by decide +kernel), (by decide +kernel)⟩, q_bm 136 (by decide +kernel) (by decide +kernel), q_bm 1630 (by decide +kernel) (by decide +kernel)⟩, q_bm 1629 (by decide +kernel) (by decide +kernel), q_bm 56 (by decide +kernel) (by decide +kernel), TX12, rfl⟩
theorem mv_X12_text : q_mv yX12_text cX12_text 3 (some .int) 12 1 := ⟨⟨⟨(by decide +kernel), (by decide +kernel), (by decide +kernel)⟩, q_bm 136 (by decide +kernel) (by decide +kernel), q_bm 1547 (by decide +kernel) (by decide +kernel)⟩, q_bm 1545 (by decide +kernel) (by decide +kernel), q_bm 1546 (by decide +kernel) (by decide +kernel), TX12, rfl⟩
theorem mv_X12_told : q_mv yX12_told cX12_told 5 (some .boolean) 12 4 := ⟨⟨⟨(by decide +kernel), (by decide +kernel), (by decide +kernel)⟩, q_bm 136 (by decide +kernel) (by decide +kernel), q_bm 1678 (by decide +kernel) (by decide +kernel)⟩, q_bm 1677 (by decide +kernel) (by decide +kernel), q_bm 68 (by decide +kernel) (by decide +kernel), TX12, rfl⟩
theorem mv_X12_turnsBy : q_mv yX12_turnsBy cX12_turnsBy 4 (some .int) 12 1 := ⟨⟨⟨(by decide +kernel), (by decide +kernel), (by decide +kernel)⟩, q_bm 136 (by decide +kernel) (by decide +kernel), q_bm 1912 (by decide +kernel) (by decide +kernel)⟩, q_bm 1910 (by decide +kernel) (by decide +kernel), q_bm 1911 (by decide +kernel) (by decide +kernel), TX12, rfl⟩
theorem mv_X12_undo : q_mv yX12_undo cX12_undo 2 (some .boolean) 12 0 := ⟨⟨⟨(by decide +kernel), (by decide +kernel), (by decide +kernel)⟩, q_bm 136 (by decide +kernel) (by decide +kernel), q_bm 1722 (by decide +kernel) (by decide +kernel)⟩, q_bm 1720 (by decide +kernel) (by decide +kernel), q_bm 1721 (by decide +kernel) (by decide +kernel), TX12, rfl⟩
theorem mv_X12_unit : q_mv yX12_unit cX12_unit 2 (some .boolean) 12 0 := ⟨⟨⟨(by decide +kernel), (by decide +kernel), (by decide +kernel)⟩, q_bm 136 (by decide +kernel) (by decide +kernel), q_bm 1638 (by decide +kernel) (by decide +kernel)⟩, q_bm 1637 (by decide +kernel) (by decide +kernel), q_bm 58 (by decide +kernel) (by decide +kernel), TX12, rfl⟩
theorem mv_X12_vote : q_mv yX12_vote cX12_vote 1 (some .int) 12 0 := ⟨⟨⟨(by decide +kernel), (by decide +kernel), (by decide +kernel)⟩, q_bm 136 (by decide +kernel) (by decide +kernel), q_bm 1726 (by decide +kernel) (by decide +kernel)⟩, q_bm 1724 (by decide +kernel) (by decide +kernel), q_bm 1725 (by decide +kernel) (by decide +kernel), TX12, rfl⟩
theorem mv_X12_votes : q_mv yX12_votes cX12_votes 1 (none) 12 0 := ⟨⟨⟨(by decide +kernel), (by decide +kernel), (by decide +kernel)⟩, q_bm 136 (by decide +kernel) (by decide +kernel), q_bm 1734 (by decide +kernel) (by decide +kernel)⟩, q_bm 1733 (by decide +kernel) (by decide +kernel), q_bm 79 (by decide +kernel) (by decide +kernel), TX12, rfl⟩
theorem mv_X12_way : q_mv yX12_way cX12_way 5 (some .int) 12 3 := ⟨⟨⟨(by decide +kernel), (by decide +kernel), (by decide +kernel)⟩, q_bm 136 (by decide +kernel) (by decide +kernel), q_bm 1916 (by decide +kernel) (by decide +kernel)⟩, q_bm 1914 (by decide +kernel) (by decide +kernel), q_bm 1915 (by decide +kernel) (by decide +kernel), TX12, rfl⟩
theorem mv_X12_weightOf : q_mv yX12_weightOf cX12_weightOf 4 (some .int) 12 1 := ⟨⟨⟨(by decide +kernel), (by decide +kernel), (by decide +kernel)⟩, q_bm 136 (by decide +kernel) (by decide +kernel), q_bm 1941 (by decide +kernel) (by decide +kernel)⟩, q_bm 1940 (by decide +kernel) (by decide +kernel), q_bm 112 (by decide +kernel) (by decide +kernel), TX12, rfl⟩
theorem mv_X12_whips : q_mv yX12_whips cX12_whips 4 (none) 12 2 := ⟨⟨⟨(by decide +kernel), (by decide +kernel), (by decide +kernel)⟩, q_bm 136 (by decide +kernel) (by decide +kernel), q_bm 1818 (by decide +kernel) (by decide +kernel)⟩, q_bm 1817 (by decide +kernel) (by decide +kernel), q_bm 96 (by decide +kernel) (by decide +kernel), TX12, rfl⟩
theorem mv_X12_wins : q_mv yX12_wins cX12_wins 5 (some .int) 12 2 := ⟨⟨⟨(by decide +kernel), (by decide +kernel), (by decide +kernel)⟩, q_bm 136 (by decide +kernel) (by decide +kernel), q_bm 1904 (by decide +kernel) (by decide +kernel)⟩, q_bm 1902 (by decide +kernel) (by decide +kernel), q_bm 1903 (by decide +kernel) (by decide +kernel), TX12, rfl⟩
theorem mv_X12_winsBy : q_mv yX12_winsBy cX12_winsBy 4 (some .boolean) 12 2 := ⟨⟨⟨(by decide +kernel), (by decide +kernel), (by decide +kernel)⟩, q_bm 136 (by decide +kernel) (by decide +kernel), q_bm 1908 (by decide +kernel) (by decide +kernel)⟩, q_bm 1907 (by decide +kernel) (by decide +kernel), q_bm 107 (by decide +kernel) (by decide +kernel), TX12, rfl⟩
theorem mv_X12_word : q_mv yX12_word cX12_word 1 (some .int) 12 0 := ⟨⟨⟨(by decide +kernel), (by decide +kernel), (by decide +kernel)⟩, q_bm 136 (by decide +kernel) (by decide +kernel), q_bm 1562 (by decide +kernel) (by decide +kernel)⟩, q_bm 1561 (by decide +kernel) (by decide +kernel), q_bm 47 (by decide +kernel) (by decide +kernel), TX12, rfl⟩
theorem mv_X12_worthOf : q_mv yX12_worthOf cX12_worthOf 4 (some .int) 12 1 := ⟨⟨⟨(by decide +kernel), (by decide +kernel), (by decide +kernel)⟩, q_bm 136 (by decide +kernel) (by decide +kernel), q_bm 1945 (by decide +kernel) (by decide +kernel)⟩, q_bm 1944 (by decide +kernel) (by decide +kernel), q_bm 113 (by decide +kernel) (by decide +kernel), TX12, rfl⟩
theorem mv_X1_dropOldest : q_mv yX1_dropOldest cX1_dropOldest 3 (none) 1 0 := ⟨⟨⟨(by decide +kernel), (by decide +kernel), (by decide +kernel)⟩, q_bm 129 (by decide +kernel) (by decide +kernel), q_bm 654 (by decide +kernel) (by decide +kernel)⟩, q_bm 653 (by decide +kernel) (by decide +kernel), q_bm 2 (by decide +kernel) (by decide +kernel), TX1, rfl⟩
theorem mv_X1_forget : q_mv yX1_forget cX1_forget 1 (none) 1 0 := ⟨⟨⟨(by decide +kernel), (by decide +kernel), (by decide +kernel)⟩, q_bm 129 (by decide +kernel) (by decide +kernel), q_bm 588 (by decide +kernel) (by decide +kernel)⟩, q_bm 586 (by decide +kernel) (by decide +kernel), q_bm 587 (by decide +kernel) (by decide +kernel), TX1, rfl⟩
theorem mv_X1_giveBack : q_mv yX1_giveBack cX1_giveBack 3 (some .boolean) 1 1 := ⟨⟨⟨(by decide +kernel), (by decide +kernel), (by decide +kernel)⟩, q_bm 129 (by decide +kernel) (by decide +kernel), q_bm 1377 (by decide +kernel) (by decide +kernel)⟩, q_bm 1375 (by decide +kernel) (by decide +kernel), q_bm 1376 (by decide +kernel) (by decide +kernel), TX1, rfl⟩
theorem mv_X1_keep : q_mv yX1_keep cX1_keep 3 (none) 1 1 := ⟨⟨⟨(by decide +kernel), (by decide +kernel), (by decide +kernel)⟩, q_bm 129 (by decide +kernel) (by decide +kernel), q_bm 650 (by decide +kernel) (by decide +kernel)⟩, q_bm 648 (by decide +kernel) (by decide +kernel), q_bm 649 (by decide +kernel) (by decide +kernel), TX1, rfl⟩
theorem mv_X2_beginLine : q_mv yX2_beginLine cX2_beginLine 2 (none) 2 1 := ⟨⟨⟨(by decide +kernel), (by decide +kernel), (by decide +kernel)⟩, q_bm 126 (by decide +kernel) (by decide +kernel), q_bm 950 (by decide +kernel) (by decide +kernel)⟩, q_bm 948 (by decide +kernel) (by decide +kernel), q_bm 949 (by decide +kernel) (by decide +kernel), TX2, rfl⟩
theorem mv_X2_beginWhen : q_mv yX2_beginWhen cX2_beginWhen 1 (none) 2 0 := ⟨⟨⟨(by decide +kernel), (by decide +kernel), (by decide +kernel)⟩, q_bm 126 (by decide +kernel) (by decide +kernel), q_bm 1035 (by decide +kernel) (by decide +kernel)⟩, q_bm 1033 (by decide +kernel) (by decide +kernel), q_bm 1034 (by decide +kernel) (by decide +kernel), TX2, rfl⟩
theorem mv_X2_clear : q_mv yX2_clear cX2_clear 1 (none) 2 0 := ⟨⟨⟨(by decide +kernel), (by decide +kernel), (by decide +kernel)⟩, q_bm 126 (by decide +kernel) (by decide +kernel), q_bm 874 (by decide +kernel) (by decide +kernel)⟩, q_bm 872 (by decide +kernel) (by decide +kernel), q_bm 873 (by decide +kernel) (by decide +kernel), TX2, rfl⟩
theorem mv_X2_copyFrom : q_mv yX2_copyFrom cX2_copyFrom 2 (none) 2 1 := ⟨⟨⟨(by decide +kernel), (by decide +kernel), (by decide +kernel)⟩, q_bm 126 (by decide +kernel) (by decide +kernel), q_bm 1050 (by decide +kernel) (by decide +kernel)⟩, q_bm 1048 (by decide +kernel) (by decide +kernel), q_bm 1049 (by decide +kernel) (by decide +kernel), TX2, rfl⟩
theorem mv_X2_emit : q_mv yX2_emit cX2_emit 3 (none) 2 2 := ⟨⟨⟨(by decide +kernel), (by decide +kernel), (by decide +kernel)⟩, q_bm 126 (by decide +kernel) (by decide +kernel), q_bm 979 (by decide +kernel) (by decide +kernel)⟩, q_bm 977 (by decide +kernel) (by decide +kernel), q_bm 978 (by decide +kernel) (by decide +kernel), TX2, rfl⟩
theorem mv_X2_endLine : q_mv yX2_endLine cX2_endLine 1 (none) 2 0 := ⟨⟨⟨(by decide +kernel), (by decide +kernel), (by decide +kernel)⟩, q_bm 126 (by decide +kernel) (by decide +kernel), q_bm 1031 (by decide +kernel) (by decide +kernel)⟩, q_bm 1029 (by decide +kernel) (by decide +kernel), q_bm 1030 (by decide +kernel) (by decide +kernel), TX2, rfl⟩
theorem mv_X2_isFull : q_mv yX2_isFull cX2_isFull 1 (some .boolean) 2 0 := ⟨⟨⟨(by decide +kernel), (by decide +kernel), (by decide +kernel)⟩, q_bm 126 (by decide +kernel) (by decide +kernel), q_bm 945 (by decide +kernel) (by decide +kernel)⟩, q_bm 943 (by decide +kernel) (by decide +kernel), q_bm 944 (by decide +kernel) (by decide +kernel), TX2, rfl⟩
theorem mv_X2_run : q_mv yX2_run cX2_run 10 (some .int) 2 3 := ⟨⟨⟨(by decide +kernel), (by decide +kernel), (by decide +kernel)⟩, q_bm 126 (by decide +kernel) (by decide +kernel), q_bm 692 (by decide +kernel) (by decide +kernel)⟩, q_bm 691 (by decide +kernel) (by decide +kernel), q_bm 4 (by decide +kernel) (by decide +kernel), TX2, rfl⟩
theorem mv_X2_tells : q_mv yX2_tells cX2_tells 5 (some .int) 2 3 := ⟨⟨⟨(by decide +kernel), (by decide +kernel), (by decide +kernel)⟩, q_bm 126 (by decide +kernel) (by decide +kernel), q_bm 688 (by decide +kernel) (by decide +kernel)⟩, q_bm 686 (by decide +kernel) (by decide +kernel), q_bm 687 (by decide +kernel) (by decide +kernel), TX2, rfl⟩
theorem mv_X3_endLine : q_mv yX3_endLine cX3_endLine 1 (some .boolean) 3 0 := ⟨⟨⟨(by decide +kernel), (by decide +kernel), (by decide +kernel)⟩, q_bm 134 (by decide +kernel) (by decide +kernel), q_bm 1027 (by decide +kernel) (by decide +kernel)⟩, q_bm 1026 (by decide +kernel) (by decide +kernel), q_bm 23 (by decide +kernel) (by decide +kernel), TX3, rfl⟩
theorem mv_X3_factAtHand : q_mv yX3_factAtHand cX3_factAtHand 1 (some .int) 3 0 := ⟨⟨⟨(by decide +kernel), (by decide +kernel), (by decide +kernel)⟩, q_bm 134 (by decide +kernel) (by decide +kernel), q_bm 983 (by decide +kernel) (by decide +kernel)⟩, q_bm 982 (by decide +kernel) (by decide +kernel), q_bm 17 (by decide +kernel) (by decide +kernel), TX3, rfl⟩
theorem mv_X3_join : q_mv yX3_join cX3_join 3 (some .boolean) 3 2 := ⟨⟨⟨(by decide +kernel), (by decide +kernel), (by decide +kernel)⟩, q_bm 134 (by decide +kernel) (by decide +kernel), q_bm 1018 (by decide +kernel) (by decide +kernel)⟩, q_bm 1017 (by decide +kernel) (by decide +kernel), q_bm 21 (by decide +kernel) (by decide +kernel), TX3, rfl⟩
theorem mv_X3_push : q_mv yX3_push cX3_push 2 (none) 3 1 := ⟨⟨⟨(by decide +kernel), (by decide +kernel), (by decide +kernel)⟩, q_bm 134 (by decide +kernel) (by decide +kernel), q_bm 963 (by decide +kernel) (by decide +kernel)⟩, q_bm 962 (by decide +kernel) (by decide +kernel), q_bm 16 (by decide +kernel) (by decide +kernel), TX3, rfl⟩
theorem mv_X3_rank : q_mst yX3_rank cX3_rank 1 (some .int) 1 := ⟨⟨⟨(by decide +kernel), (by decide +kernel), (by decide +kernel)⟩, q_bm 134 (by decide +kernel) (by decide +kernel), q_bm 1004 (by decide +kernel) (by decide +kernel)⟩, q_bm 1003 (by decide +kernel) (by decide +kernel)⟩
theorem mv_X3_read : q_mv yX3_read cX3_read 2 (some .boolean) 3 0 := ⟨⟨⟨(by decide +kernel), (by decide +kernel), (by decide +kernel)⟩, q_bm 134 (by decide +kernel) (by decide +kernel), q_bm 870 (by decide +kernel) (by decide +kernel)⟩, q_bm 868 (by decide +kernel) (by decide +kernel), q_bm 869 (by decide +kernel) (by decide +kernel), TX3, rfl⟩
theorem mv_X3_readClosing : q_mv yX3_readClosing cX3_readClosing 1 (some .boolean) 3 0 := ⟨⟨⟨(by decide +kernel), (by decide +kernel), (by decide +kernel)⟩, q_bm 134 (by decide +kernel) (by decide +kernel), q_bm 1045 (by decide +kernel) (by decide +kernel)⟩, q_bm 1044 (by decide +kernel) (by decide +kernel), q_bm 25 (by decide +kernel) (by decide +kernel), TX3, rfl⟩
theorem mv_X3_readComparison : q_mv yX3_readComparison cX3_readComparison 2 (some .boolean) 3 0 := ⟨⟨⟨(by decide +kernel), (by decide +kernel), (by decide +kernel)⟩, q_bm 134 (by decide +kernel) (by decide +kernel), q_bm 1039 (by decide +kernel) (by decide +kernel)⟩, q_bm 1038 (by decide +kernel) (by decide +kernel), q_bm 24 (by decide +kernel) (by decide +kernel), TX3, rfl⟩
theorem mv_X3_readLine : q_mv yX3_readLine cX3_readLine 4 (some .boolean) 3 0 := ⟨⟨⟨(by decide +kernel), (by decide +kernel), (by decide +kernel)⟩, q_bm 134 (by decide +kernel) (by decide +kernel), q_bm 882 (by decide +kernel) (by decide +kernel)⟩, q_bm 881 (by decide +kernel) (by decide +kernel), q_bm 13 (by decide +kernel) (by decide +kernel), TX3, rfl⟩
theorem mv_X3_readOpening : q_mv yX3_readOpening cX3_readOpening 2 (some .boolean) 3 1 := ⟨⟨⟨(by decide +kernel), (by decide +kernel), (by decide +kernel)⟩, q_bm 134 (by decide +kernel) (by decide +kernel), q_bm 959 (by decide +kernel) (by decide +kernel)⟩, q_bm 958 (by decide +kernel) (by decide +kernel), q_bm 15 (by decide +kernel) (by decide +kernel), TX3, rfl⟩
theorem mv_X3_readOperand : q_mv yX3_readOperand cX3_readOperand 2 (some .boolean) 3 0 := ⟨⟨⟨(by decide +kernel), (by decide +kernel), (by decide +kernel)⟩, q_bm 134 (by decide +kernel) (by decide +kernel), q_bm 954 (by decide +kernel) (by decide +kernel)⟩, q_bm 953 (by decide +kernel) (by decide +kernel), q_bm 14 (by decide +kernel) (by decide +kernel), TX3, rfl⟩
theorem mv_X3_readPart : q_mv yX3_readPart cX3_readPart 2 (some .boolean) 3 0 := ⟨⟨⟨(by decide +kernel), (by decide +kernel), (by decide +kernel)⟩, q_bm 134 (by decide +kernel) (by decide +kernel), q_bm 1001 (by decide +kernel) (by decide +kernel)⟩, q_bm 1000 (by decide +kernel) (by decide +kernel), q_bm 19 (by decide +kernel) (by decide +kernel), TX3, rfl⟩
theorem mv_X3_readSign : q_mv yX3_readSign cX3_readSign 2 (some .boolean) 3 0 := ⟨⟨⟨(by decide +kernel), (by decide +kernel), (by decide +kernel)⟩, q_bm 134 (by decide +kernel) (by decide +kernel), q_bm 997 (by decide +kernel) (by decide +kernel)⟩, q_bm 996 (by decide +kernel) (by decide +kernel), q_bm 18 (by decide +kernel) (by decide +kernel), TX3, rfl⟩
theorem mv_X3_readWhen : q_mv yX3_readWhen cX3_readWhen 1 (some .boolean) 3 0 := ⟨⟨⟨(by decide +kernel), (by decide +kernel), (by decide +kernel)⟩, q_bm 134 (by decide +kernel) (by decide +kernel), q_bm 1022 (by decide +kernel) (by decide +kernel)⟩, q_bm 1021 (by decide +kernel) (by decide +kernel), q_bm 22 (by decide +kernel) (by decide +kernel), TX3, rfl⟩
theorem mv_X3_release : q_mv yX3_release cX3_release 2 (none) 3 1 := ⟨⟨⟨(by decide +kernel), (by decide +kernel), (by decide +kernel)⟩, q_bm 134 (by decide +kernel) (by decide +kernel), q_bm 1008 (by decide +kernel) (by decide +kernel)⟩, q_bm 1007 (by decide +kernel) (by decide +kernel), q_bm 20 (by decide +kernel) (by decide +kernel), TX3, rfl⟩
theorem mv_X4_bestAsk : q_mv yX4_bestAsk cX4_bestAsk 11 (some .int) 4 2 := ⟨⟨⟨(by decide +kernel), (by decide +kernel), (by decide +kernel)⟩, q_bm 132 (by decide +kernel) (by decide +kernel), q_bm 1312 (by decide +kernel) (by decide +kernel)⟩, q_bm 1310 (by decide +kernel) (by decide +kernel), q_bm 1311 (by decide +kernel) (by decide +kernel), TX4, rfl⟩
theorem mv_X4_bestPack : q_mv yX4_bestPack cX4_bestPack 7 (some .int) 4 1 := ⟨⟨⟨(by decide +kernel), (by decide +kernel), (by decide +kernel)⟩, q_bm 132 (by decide +kernel) (by decide +kernel), q_bm 1248 (by decide +kernel) (by decide +kernel)⟩, q_bm 1246 (by decide +kernel) (by decide +kernel), q_bm 1247 (by decide +kernel) (by decide +kernel), TX4, rfl⟩
theorem mv_X4_bestTaking : q_mv yX4_bestTaking cX4_bestTaking 7 (some .int) 4 2 := ⟨⟨⟨(by decide +kernel), (by decide +kernel), (by decide +kernel)⟩, q_bm 132 (by decide +kernel) (by decide +kernel), q_bm 1333 (by decide +kernel) (by decide +kernel)⟩, q_bm 1331 (by decide +kernel) (by decide +kernel), q_bm 1332 (by decide +kernel) (by decide +kernel), TX4, rfl⟩
theorem mv_X4_canAdd : q_mv yX4_canAdd cX4_canAdd 4 (some .boolean) 4 2 := ⟨⟨⟨(by decide +kernel), (by decide +kernel), (by decide +kernel)⟩, q_bm 132 (by decide +kernel) (by decide +kernel), q_bm 1260 (by decide +kernel) (by decide +kernel)⟩, q_bm 1259 (by decide +kernel) (by decide +kernel), q_bm 36 (by decide +kernel) (by decide +kernel), TX4, rfl⟩
theorem mv_X4_countFits : q_mv yX4_countFits cX4_countFits 4 (some .int) 4 1 := ⟨⟨⟨(by decide +kernel), (by decide +kernel), (by decide +kernel)⟩, q_bm 132 (by decide +kernel) (by decide +kernel), q_bm 1299 (by decide +kernel) (by decide +kernel)⟩, q_bm 1297 (by decide +kernel) (by decide +kernel), q_bm 1298 (by decide +kernel) (by decide +kernel), TX4, rfl⟩
theorem mv_X4_countHeeders : q_mst yX4_countHeeders cX4_countHeeders 4 (some .int) 2 := ⟨⟨⟨(by decide +kernel), (by decide +kernel), (by decide +kernel)⟩, q_bm 132 (by decide +kernel) (by decide +kernel), q_bm 1356 (by decide +kernel) (by decide +kernel)⟩, q_bm 1355 (by decide +kernel) (by decide +kernel)⟩
theorem mv_X4_fillGrundy : q_mv yX4_fillGrundy cX4_fillGrundy 5 (none) 4 0 := ⟨⟨⟨(by decide +kernel), (by decide +kernel), (by decide +kernel)⟩, q_bm 132 (by decide +kernel) (by decide +kernel), q_bm 1337 (by decide +kernel) (by decide +kernel)⟩, q_bm 1336 (by decide +kernel) (by decide +kernel), q_bm 39 (by decide +kernel) (by decide +kernel), TX4, rfl⟩
theorem mv_X4_fitsUpTo : q_mv yX4_fitsUpTo cX4_fitsUpTo 4 (some .int) 4 1 := ⟨⟨⟨(by decide +kernel), (by decide +kernel), (by decide +kernel)⟩, q_bm 132 (by decide +kernel) (by decide +kernel), q_bm 1316 (by decide +kernel) (by decide +kernel)⟩, q_bm 1315 (by decide +kernel) (by decide +kernel), q_bm 38 (by decide +kernel) (by decide +kernel), TX4, rfl⟩
theorem mv_X4_goOn : q_mv yX4_goOn cX4_goOn 5 (none) 4 2 := ⟨⟨⟨(by decide +kernel), (by decide +kernel), (by decide +kernel)⟩, q_bm 132 (by decide +kernel) (by decide +kernel), q_bm 1281 (by decide +kernel) (by decide +kernel)⟩, q_bm 1280 (by decide +kernel) (by decide +kernel), q_bm 37 (by decide +kernel) (by decide +kernel), TX4, rfl⟩
theorem mv_X4_grundyOf : q_mv yX4_grundyOf cX4_grundyOf 2 (some .int) 4 1 := ⟨⟨⟨(by decide +kernel), (by decide +kernel), (by decide +kernel)⟩, q_bm 132 (by decide +kernel) (by decide +kernel), q_bm 1341 (by decide +kernel) (by decide +kernel)⟩, q_bm 1340 (by decide +kernel) (by decide +kernel), q_bm 40 (by decide +kernel) (by decide +kernel), TX4, rfl⟩
theorem mv_X4_isFit : q_mst yX4_isFit cX4_isFit 5 (some .boolean) 2 := ⟨⟨⟨(by decide +kernel), (by decide +kernel), (by decide +kernel)⟩, q_bm 132 (by decide +kernel) (by decide +kernel), q_bm 1302 (by decide +kernel) (by decide +kernel)⟩, q_bm 1301 (by decide +kernel) (by decide +kernel)⟩
theorem mv_X4_leastFit : q_mv yX4_leastFit cX4_leastFit 3 (some .int) 4 1 := ⟨⟨⟨(by decide +kernel), (by decide +kernel), (by decide +kernel)⟩, q_bm 132 (by decide +kernel) (by decide +kernel), q_bm 1307 (by decide +kernel) (by decide +kernel)⟩, q_bm 1305 (by decide +kernel) (by decide +kernel), q_bm 1306 (by decide +kernel) (by decide +kernel), TX4, rfl⟩
theorem mv_X4_longestRow : q_mv yX4_longestRow cX4_longestRow 6 (some .int) 4 1 := ⟨⟨⟨(by decide +kernel), (by decide +kernel), (by decide +kernel)⟩, q_bm 132 (by decide +kernel) (by decide +kernel), q_bm 1273 (by decide +kernel) (by decide +kernel)⟩, q_bm 1271 (by decide +kernel) (by decide +kernel), q_bm 1272 (by decide +kernel) (by decide +kernel), TX4, rfl⟩
theorem mv_X4_saltOf : q_mst yX4_saltOf cX4_saltOf 2 (some .int) 2 := ⟨⟨⟨(by decide +kernel), (by decide +kernel), (by decide +kernel)⟩, q_bm 132 (by decide +kernel) (by decide +kernel), q_bm 1344 (by decide +kernel) (by decide +kernel)⟩, q_bm 1343 (by decide +kernel) (by decide +kernel)⟩
theorem mv_X4_shareOf : q_mv yX4_shareOf cX4_shareOf 9 (some .int) 4 3 := ⟨⟨⟨(by decide +kernel), (by decide +kernel), (by decide +kernel)⟩, q_bm 132 (by decide +kernel) (by decide +kernel), q_bm 1353 (by decide +kernel) (by decide +kernel)⟩, q_bm 1351 (by decide +kernel) (by decide +kernel), q_bm 1352 (by decide +kernel) (by decide +kernel), TX4, rfl⟩
theorem mv_X4_weigh : q_mv yX4_weigh cX4_weigh 5 (none) 4 2 := ⟨⟨⟨(by decide +kernel), (by decide +kernel), (by decide +kernel)⟩, q_bm 132 (by decide +kernel) (by decide +kernel), q_bm 1253 (by decide +kernel) (by decide +kernel)⟩, q_bm 1252 (by decide +kernel) (by decide +kernel), q_bm 35 (by decide +kernel) (by decide +kernel), TX4, rfl⟩
theorem mv_X4_worthOf : q_mv yX4_worthOf cX4_worthOf 5 (some .int) 4 2 := ⟨⟨⟨(by decide +kernel), (by decide +kernel), (by decide +kernel)⟩, q_bm 132 (by decide +kernel) (by decide +kernel), q_bm 1264 (by decide +kernel) (by decide +kernel)⟩, q_bm 1262 (by decide +kernel) (by decide +kernel), q_bm 1263 (by decide +kernel) (by decide +kernel), TX4, rfl⟩
theorem mv_X5_farFrom : q_mv yX5_farFrom cX5_farFrom 2 (some .int) 5 1 := ⟨⟨⟨(by decide +kernel), (by decide +kernel), (by decide +kernel)⟩, q_bm 131 (by decide +kernel) (by decide +kernel), q_bm 1239 (by decide +kernel) (by decide +kernel)⟩, q_bm 1237 (by decide +kernel) (by decide +kernel), q_bm 1238 (by decide +kernel) (by decide +kernel), TX5, rfl⟩
theorem mv_X5_firstLineFrom : q_mst yX5_firstLineFrom cX5_firstLineFrom 3 (some .int) 2 := ⟨⟨⟨(by decide +kernel), (by decide +kernel), (by decide +kernel)⟩, q_bm 131 (by decide +kernel) (by decide +kernel), q_bm 1368 (by decide +kernel) (by decide +kernel)⟩, q_bm 1367 (by decide +kernel) (by decide +kernel)⟩
theorem mv_X5_measure : q_mv yX5_measure cX5_measure 8 (none) 5 2 := ⟨⟨⟨(by decide +kernel), (by decide +kernel), (by decide +kernel)⟩, q_bm 131 (by decide +kernel) (by decide +kernel), q_bm 1215 (by decide +kernel) (by decide +kernel)⟩, q_bm 1213 (by decide +kernel) (by decide +kernel), q_bm 1214 (by decide +kernel) (by decide +kernel), TX5, rfl⟩
theorem mv_X5_meeting : q_mv yX5_meeting cX5_meeting 12 (some .int) 5 3 := ⟨⟨⟨(by decide +kernel), (by decide +kernel), (by decide +kernel)⟩, q_bm 131 (by decide +kernel) (by decide +kernel), q_bm 1365 (by decide +kernel) (by decide +kernel)⟩, q_bm 1363 (by decide +kernel) (by decide +kernel), q_bm 1364 (by decide +kernel) (by decide +kernel), TX5, rfl⟩
theorem mv_X5_nextFrom : q_mv yX5_nextFrom cX5_nextFrom 4 (some .int) 5 2 := ⟨⟨⟨(by decide +kernel), (by decide +kernel), (by decide +kernel)⟩, q_bm 131 (by decide +kernel) (by decide +kernel), q_bm 1235 (by decide +kernel) (by decide +kernel)⟩, q_bm 1233 (by decide +kernel) (by decide +kernel), q_bm 1234 (by decide +kernel) (by decide +kernel), TX5, rfl⟩
theorem mv_X5_reach : q_mv yX5_reach cX5_reach 6 (none) 5 1 := ⟨⟨⟨(by decide +kernel), (by decide +kernel), (by decide +kernel)⟩, q_bm 131 (by decide +kernel) (by decide +kernel), q_bm 1227 (by decide +kernel) (by decide +kernel)⟩, q_bm 1225 (by decide +kernel) (by decide +kernel), q_bm 1226 (by decide +kernel) (by decide +kernel), TX5, rfl⟩
theorem mv_X5_through : q_mv yX5_through cX5_through 3 (some .int) 5 2 := ⟨⟨⟨(by decide +kernel), (by decide +kernel), (by decide +kernel)⟩, q_bm 131 (by decide +kernel) (by decide +kernel), q_bm 1231 (by decide +kernel) (by decide +kernel)⟩, q_bm 1230 (by decide +kernel) (by decide +kernel), q_bm 34 (by decide +kernel) (by decide +kernel), TX5, rfl⟩
theorem mv_X6_add : q_mv yX6_add cX6_add 6 (none) 6 4 := ⟨⟨⟨(by decide +kernel), (by decide +kernel), (by decide +kernel)⟩, q_bm 127 (by decide +kernel) (by decide +kernel), q_bm 1092 (by decide +kernel) (by decide +kernel)⟩, q_bm 1090 (by decide +kernel) (by decide +kernel), q_bm 1091 (by decide +kernel) (by decide +kernel), TX6, rfl⟩
theorem mv_X6_cell : q_mv yX6_cell cX6_cell 3 (some .int) 6 2 := ⟨⟨⟨(by decide +kernel), (by decide +kernel), (by decide +kernel)⟩, q_bm 127 (by decide +kernel) (by decide +kernel), q_bm 702 (by decide +kernel) (by decide +kernel)⟩, q_bm 700 (by decide +kernel) (by decide +kernel), q_bm 701 (by decide +kernel) (by decide +kernel), TX6, rfl⟩
theorem mv_X6_clear : q_mv yX6_clear cX6_clear 1 (none) 6 0 := ⟨⟨⟨(by decide +kernel), (by decide +kernel), (by decide +kernel)⟩, q_bm 127 (by decide +kernel) (by decide +kernel), q_bm 1059 (by decide +kernel) (by decide +kernel)⟩, q_bm 1057 (by decide +kernel) (by decide +kernel), q_bm 1058 (by decide +kernel) (by decide +kernel), TX6, rfl⟩
theorem mv_X6_copyFrom : q_mv yX6_copyFrom cX6_copyFrom 2 (none) 6 1 := ⟨⟨⟨(by decide +kernel), (by decide +kernel), (by decide +kernel)⟩, q_bm 127 (by decide +kernel) (by decide +kernel), q_bm 1128 (by decide +kernel) (by decide +kernel)⟩, q_bm 1126 (by decide +kernel) (by decide +kernel), q_bm 1127 (by decide +kernel) (by decide +kernel), TX6, rfl⟩
theorem mv_X6_isFull : q_mv yX6_isFull cX6_isFull 1 (some .boolean) 6 0 := ⟨⟨⟨(by decide +kernel), (by decide +kernel), (by decide +kernel)⟩, q_bm 127 (by decide +kernel) (by decide +kernel), q_bm 1290 (by decide +kernel) (by decide +kernel)⟩, q_bm 1288 (by decide +kernel) (by decide +kernel), q_bm 1289 (by decide +kernel) (by decide +kernel), TX6, rfl⟩
theorem mv_X7_read : q_mv yX7_read cX7_read 4 (some .boolean) 7 2 := ⟨⟨⟨(by decide +kernel), (by decide +kernel), (by decide +kernel)⟩, q_bm 135 (by decide +kernel) (by decide +kernel), q_bm 1055 (by decide +kernel) (by decide +kernel)⟩, q_bm 1053 (by decide +kernel) (by decide +kernel), q_bm 1054 (by decide +kernel) (by decide +kernel), TX7, rfl⟩
theorem mv_X7_readHeed : q_mv yX7_readHeed cX7_readHeed 7 (some .boolean) 7 1 := ⟨⟨⟨(by decide +kernel), (by decide +kernel), (by decide +kernel)⟩, q_bm 135 (by decide +kernel) (by decide +kernel), q_bm 1075 (by decide +kernel) (by decide +kernel)⟩, q_bm 1074 (by decide +kernel) (by decide +kernel), q_bm 27 (by decide +kernel) (by decide +kernel), TX7, rfl⟩
theorem mv_X7_readLine : q_mv yX7_readLine cX7_readLine 4 (some .boolean) 7 2 := ⟨⟨⟨(by decide +kernel), (by decide +kernel), (by decide +kernel)⟩, q_bm 135 (by decide +kernel) (by decide +kernel), q_bm 1064 (by decide +kernel) (by decide +kernel)⟩, q_bm 1063 (by decide +kernel) (by decide +kernel), q_bm 26 (by decide +kernel) (by decide +kernel), TX7, rfl⟩
theorem mv_X7_readLoad : q_mv yX7_readLoad cX7_readLoad 3 (some .boolean) 7 0 := ⟨⟨⟨(by decide +kernel), (by decide +kernel), (by decide +kernel)⟩, q_bm 135 (by decide +kernel) (by decide +kernel), q_bm 1110 (by decide +kernel) (by decide +kernel)⟩, q_bm 1109 (by decide +kernel) (by decide +kernel), q_bm 30 (by decide +kernel) (by decide +kernel), TX7, rfl⟩
theorem mv_X7_readPath : q_mv yX7_readPath cX7_readPath 4 (some .boolean) 7 0 := ⟨⟨⟨(by decide +kernel), (by decide +kernel), (by decide +kernel)⟩, q_bm 135 (by decide +kernel) (by decide +kernel), q_bm 1105 (by decide +kernel) (by decide +kernel)⟩, q_bm 1104 (by decide +kernel) (by decide +kernel), q_bm 29 (by decide +kernel) (by decide +kernel), TX7, rfl⟩
theorem mv_X7_readPlan : q_mv yX7_readPlan cX7_readPlan 6 (some .boolean) 7 1 := ⟨⟨⟨(by decide +kernel), (by decide +kernel), (by decide +kernel)⟩, q_bm 135 (by decide +kernel) (by decide +kernel), q_bm 1096 (by decide +kernel) (by decide +kernel)⟩, q_bm 1095 (by decide +kernel) (by decide +kernel), q_bm 28 (by decide +kernel) (by decide +kernel), TX7, rfl⟩
theorem mv_X8_add : q_mv yX8_add cX8_add 3 (none) 8 1 := ⟨⟨⟨(by decide +kernel), (by decide +kernel), (by decide +kernel)⟩, q_bm 133 (by decide +kernel) (by decide +kernel), q_bm 840 (by decide +kernel) (by decide +kernel)⟩, q_bm 838 (by decide +kernel) (by decide +kernel), q_bm 839 (by decide +kernel) (by decide +kernel), TX8, rfl⟩
theorem mv_X8_begin : q_mv yX8_begin cX8_begin 1 (none) 8 0 := ⟨⟨⟨(by decide +kernel), (by decide +kernel), (by decide +kernel)⟩, q_bm 133 (by decide +kernel) (by decide +kernel), q_bm 852 (by decide +kernel) (by decide +kernel)⟩, q_bm 850 (by decide +kernel) (by decide +kernel), q_bm 851 (by decide +kernel) (by decide +kernel), TX8, rfl⟩
theorem mv_X8_byteAt : q_mv yX8_byteAt cX8_byteAt 2 (some .int) 8 1 := ⟨⟨⟨(by decide +kernel), (by decide +kernel), (by decide +kernel)⟩, q_bm 133 (by decide +kernel) (by decide +kernel), q_bm 860 (by decide +kernel) (by decide +kernel)⟩, q_bm 859 (by decide +kernel) (by decide +kernel), q_bm 12 (by decide +kernel) (by decide +kernel), TX8, rfl⟩
theorem mv_X8_expectNumber : q_mv yX8_expectNumber cX8_expectNumber 5 (some .int) 8 3 := ⟨⟨⟨(by decide +kernel), (by decide +kernel), (by decide +kernel)⟩, q_bm 133 (by decide +kernel) (by decide +kernel), q_bm 1012 (by decide +kernel) (by decide +kernel)⟩, q_bm 1010 (by decide +kernel) (by decide +kernel), q_bm 1011 (by decide +kernel) (by decide +kernel), TX8, rfl⟩
theorem mv_X8_expectSign : q_mv yX8_expectSign cX8_expectSign 2 (some .boolean) 8 1 := ⟨⟨⟨(by decide +kernel), (by decide +kernel), (by decide +kernel)⟩, q_bm 133 (by decide +kernel) (by decide +kernel), q_bm 1115 (by decide +kernel) (by decide +kernel)⟩, q_bm 1113 (by decide +kernel) (by decide +kernel), q_bm 1114 (by decide +kernel) (by decide +kernel), TX8, rfl⟩
theorem mv_X8_expectWord : q_mv yX8_expectWord cX8_expectWord 2 (some .boolean) 8 1 := ⟨⟨⟨(by decide +kernel), (by decide +kernel), (by decide +kernel)⟩, q_bm 133 (by decide +kernel) (by decide +kernel), q_bm 1081 (by decide +kernel) (by decide +kernel)⟩, q_bm 1079 (by decide +kernel) (by decide +kernel), q_bm 1080 (by decide +kernel) (by decide +kernel), TX8, rfl⟩
theorem mv_X8_fail : q_mv yX8_fail cX8_fail 2 (some .boolean) 8 1 := ⟨⟨⟨(by decide +kernel), (by decide +kernel), (by decide +kernel)⟩, q_bm 133 (by decide +kernel) (by decide +kernel), q_bm 941 (by decide +kernel) (by decide +kernel)⟩, q_bm 939 (by decide +kernel) (by decide +kernel), q_bm 940 (by decide +kernel) (by decide +kernel), TX8, rfl⟩
theorem mv_X8_isDigit : q_mst yX8_isDigit cX8_isDigit 1 (some .boolean) 1 := ⟨⟨⟨(by decide +kernel), (by decide +kernel), (by decide +kernel)⟩, q_bm 133 (by decide +kernel) (by decide +kernel), q_bm 866 (by decide +kernel) (by decide +kernel)⟩, q_bm 865 (by decide +kernel) (by decide +kernel)⟩
theorem mv_X8_isEnd : q_mv yX8_isEnd cX8_isEnd 1 (some .boolean) 8 0 := ⟨⟨⟨(by decide +kernel), (by decide +kernel), (by decide +kernel)⟩, q_bm 133 (by decide +kernel) (by decide +kernel), q_bm 878 (by decide +kernel) (by decide +kernel)⟩, q_bm 876 (by decide +kernel) (by decide +kernel), q_bm 877 (by decide +kernel) (by decide +kernel), TX8, rfl⟩
theorem mv_X8_isLetter : q_mst yX8_isLetter cX8_isLetter 1 (some .boolean) 1 := ⟨⟨⟨(by decide +kernel), (by decide +kernel), (by decide +kernel)⟩, q_bm 133 (by decide +kernel) (by decide +kernel), q_bm 863 (by decide +kernel) (by decide +kernel)⟩, q_bm 862 (by decide +kernel) (by decide +kernel)⟩
theorem mv_X8_isNumber : q_mv yX8_isNumber cX8_isNumber 1 (some .boolean) 8 0 := ⟨⟨⟨(by decide +kernel), (by decide +kernel), (by decide +kernel)⟩, q_bm 133 (by decide +kernel) (by decide +kernel), q_bm 971 (by decide +kernel) (by decide +kernel)⟩, q_bm 969 (by decide +kernel) (by decide +kernel), q_bm 970 (by decide +kernel) (by decide +kernel), TX8, rfl⟩
theorem mv_X8_isSign : q_mv yX8_isSign cX8_isSign 2 (some .boolean) 8 1 := ⟨⟨⟨(by decide +kernel), (by decide +kernel), (by decide +kernel)⟩, q_bm 133 (by decide +kernel) (by decide +kernel), q_bm 967 (by decide +kernel) (by decide +kernel)⟩, q_bm 965 (by decide +kernel) (by decide +kernel), q_bm 966 (by decide +kernel) (by decide +kernel), TX8, rfl⟩
theorem mv_X8_isWord : q_mv yX8_isWord cX8_isWord 3 (some .boolean) 8 1 := ⟨⟨⟨(by decide +kernel), (by decide +kernel), (by decide +kernel)⟩, q_bm 133 (by decide +kernel) (by decide +kernel), q_bm 887 (by decide +kernel) (by decide +kernel)⟩, q_bm 885 (by decide +kernel) (by decide +kernel), q_bm 886 (by decide +kernel) (by decide +kernel), TX8, rfl⟩
theorem mv_X8_next : q_mv yX8_next cX8_next 1 (none) 8 0 := ⟨⟨⟨(by decide +kernel), (by decide +kernel), (by decide +kernel)⟩, q_bm 133 (by decide +kernel) (by decide +kernel), q_bm 856 (by decide +kernel) (by decide +kernel)⟩, q_bm 854 (by decide +kernel) (by decide +kernel), q_bm 855 (by decide +kernel) (by decide +kernel), TX8, rfl⟩
theorem mv_X8_number : q_mv yX8_number cX8_number 1 (some .int) 8 0 := ⟨⟨⟨(by decide +kernel), (by decide +kernel), (by decide +kernel)⟩, q_bm 133 (by decide +kernel) (by decide +kernel), q_bm 975 (by decide +kernel) (by decide +kernel)⟩, q_bm 973 (by decide +kernel) (by decide +kernel), q_bm 974 (by decide +kernel) (by decide +kernel), TX8, rfl⟩
theorem mv_X8_takeSign : q_mv yX8_takeSign cX8_takeSign 2 (some .boolean) 8 1 := ⟨⟨⟨(by decide +kernel), (by decide +kernel), (by decide +kernel)⟩, q_bm 133 (by decide +kernel) (by decide +kernel), q_bm 1119 (by decide +kernel) (by decide +kernel)⟩, q_bm 1117 (by decide +kernel) (by decide +kernel), q_bm 1118 (by decide +kernel) (by decide +kernel), TX8, rfl⟩
theorem mv_X8_takeWord : q_mv yX8_takeWord cX8_takeWord 2 (some .boolean) 8 1 := ⟨⟨⟨(by decide +kernel), (by decide +kernel), (by decide +kernel)⟩, q_bm 133 (by decide +kernel) (by decide +kernel), q_bm 1085 (by decide +kernel) (by decide +kernel)⟩, q_bm 1083 (by decide +kernel) (by decide +kernel), q_bm 1084 (by decide +kernel) (by decide +kernel), TX8, rfl⟩
theorem mv_X9_addMan : q_mv yX9_addMan cX9_addMan 4 (some .int) 9 3 := ⟨⟨⟨(by decide +kernel), (by decide +kernel), (by decide +kernel)⟩, q_bm 124 (by decide +kernel) (by decide +kernel), q_bm 607 (by decide +kernel) (by decide +kernel)⟩, q_bm 605 (by decide +kernel) (by decide +kernel), q_bm 606 (by decide +kernel) (by decide +kernel), TX9, rfl⟩
theorem mv_X9_addMule : q_mv yX9_addMule cX9_addMule 3 (some .int) 9 2 := ⟨⟨⟨(by decide +kernel), (by decide +kernel), (by decide +kernel)⟩, q_bm 124 (by decide +kernel) (by decide +kernel), q_bm 599 (by decide +kernel) (by decide +kernel)⟩, q_bm 597 (by decide +kernel) (by decide +kernel), q_bm 598 (by decide +kernel) (by decide +kernel), TX9, rfl⟩
theorem mv_X9_behindOf : q_mv yX9_behindOf cX9_behindOf 4 (some .int) 9 1 := ⟨⟨⟨(by decide +kernel), (by decide +kernel), (by decide +kernel)⟩, q_bm 124 (by decide +kernel) (by decide +kernel), q_bm 744 (by decide +kernel) (by decide +kernel)⟩, q_bm 742 (by decide +kernel) (by decide +kernel), q_bm 743 (by decide +kernel) (by decide +kernel), TX9, rfl⟩
theorem mv_X9_copyFrom : q_mv yX9_copyFrom cX9_copyFrom 2 (none) 9 1 := ⟨⟨⟨(by decide +kernel), (by decide +kernel), (by decide +kernel)⟩, q_bm 124 (by decide +kernel) (by decide +kernel), q_bm 658 (by decide +kernel) (by decide +kernel)⟩, q_bm 656 (by decide +kernel) (by decide +kernel), q_bm 657 (by decide +kernel) (by decide +kernel), TX9, rfl⟩
theorem mv_X9_draw : q_mv yX9_draw cX9_draw 2 (some .int) 9 1 := ⟨⟨⟨(by decide +kernel), (by decide +kernel), (by decide +kernel)⟩, q_bm 124 (by decide +kernel) (by decide +kernel), q_bm 803 (by decide +kernel) (by decide +kernel)⟩, q_bm 801 (by decide +kernel) (by decide +kernel), q_bm 802 (by decide +kernel) (by decide +kernel), TX9, rfl⟩
theorem mv_X9_hasMan : q_mv yX9_hasMan cX9_hasMan 2 (some .boolean) 9 1 := ⟨⟨⟨(by decide +kernel), (by decide +kernel), (by decide +kernel)⟩, q_bm 124 (by decide +kernel) (by decide +kernel), q_bm 619 (by decide +kernel) (by decide +kernel)⟩, q_bm 617 (by decide +kernel) (by decide +kernel), q_bm 618 (by decide +kernel) (by decide +kernel), TX9, rfl⟩
theorem mv_X9_hasMule : q_mv yX9_hasMule cX9_hasMule 2 (some .boolean) 9 1 := ⟨⟨⟨(by decide +kernel), (by decide +kernel), (by decide +kernel)⟩, q_bm 124 (by decide +kernel) (by decide +kernel), q_bm 630 (by decide +kernel) (by decide +kernel)⟩, q_bm 628 (by decide +kernel) (by decide +kernel), q_bm 629 (by decide +kernel) (by decide +kernel), TX9, rfl⟩
theorem mv_X9_lameOnes : q_mv yX9_lameOnes cX9_lameOnes 3 (some .int) 9 0 := ⟨⟨⟨(by decide +kernel), (by decide +kernel), (by decide +kernel)⟩, q_bm 124 (by decide +kernel) (by decide +kernel), q_bm 720 (by decide +kernel) (by decide +kernel)⟩, q_bm 718 (by decide +kernel) (by decide +kernel), q_bm 719 (by decide +kernel) (by decide +kernel), TX9, rfl⟩
theorem mv_X9_likingFor : q_mv yX9_likingFor cX9_likingFor 3 (some .int) 9 2 := ⟨⟨⟨(by decide +kernel), (by decide +kernel), (by decide +kernel)⟩, q_bm 124 (by decide +kernel) (by decide +kernel), q_bm 712 (by decide +kernel) (by decide +kernel)⟩, q_bm 710 (by decide +kernel) (by decide +kernel), q_bm 711 (by decide +kernel) (by decide +kernel), TX9, rfl⟩
theorem mv_X9_moveLiking : q_mv yX9_moveLiking cX9_moveLiking 4 (none) 9 3 := ⟨⟨⟨(by decide +kernel), (by decide +kernel), (by decide +kernel)⟩, q_bm 124 (by decide +kernel) (by decide +kernel), q_bm 769 (by decide +kernel) (by decide +kernel)⟩, q_bm 767 (by decide +kernel) (by decide +kernel), q_bm 768 (by decide +kernel) (by decide +kernel), TX9, rfl⟩
theorem mv_X9_setLiking : q_mv yX9_setLiking cX9_setLiking 4 (none) 9 3 := ⟨⟨⟨(by decide +kernel), (by decide +kernel), (by decide +kernel)⟩, q_bm 124 (by decide +kernel) (by decide +kernel), q_bm 638 (by decide +kernel) (by decide +kernel)⟩, q_bm 636 (by decide +kernel) (by decide +kernel), q_bm 637 (by decide +kernel) (by decide +kernel), TX9, rfl⟩
theorem ln_X9_67 : Cond.methodLink RX9 67 yJ7_fill_53178 ∈ q_big := q_bm 163 (by decide +kernel) (by decide +kernel)
theorem ln_X6_19 : Cond.methodLink RX6 19 Lib.Math.min.name ∈ q_big := q_bm 304 (by decide +kernel) (by decide +kernel)
theorem ln_X6_25 : Cond.methodLink RX6 25 Lib.Math.max.name ∈ q_big := q_bm 307 (by decide +kernel) (by decide +kernel)
theorem ln_L_13 : Cond.methodLink RL 13 yX11_state ∈ q_big := q_bm 581 (by decide +kernel) (by decide +kernel)
theorem ln_X11_88 : Cond.methodLink RX11 88 yX1_forget ∈ q_big := q_bm 585 (by decide +kernel) (by decide +kernel)
theorem ln_L_18 : Cond.methodLink RL 18 yX11_mule ∈ q_big := q_bm 589 (by decide +kernel) (by decide +kernel)
theorem ln_X11_91 : Cond.methodLink RX11 91 yX11_isWithin ∈ q_big := q_bm 593 (by decide +kernel) (by decide +kernel)
theorem ln_X11_95 : Cond.methodLink RX11 95 yX9_addMule ∈ q_big := q_bm 596 (by decide +kernel) (by decide +kernel)
theorem ln_L_23 : Cond.methodLink RL 23 yX11_man ∈ q_big := q_bm 600 (by decide +kernel) (by decide +kernel)
theorem ln_X11_99 : Cond.methodLink RX11 99 yX9_addMan ∈ q_big := q_bm 604 (by decide +kernel) (by decide +kernel)
theorem ln_L_28 : Cond.methodLink RL 28 yX11_set ∈ q_big := q_bm 608 (by decide +kernel) (by decide +kernel)
theorem ln_X11_103 : Cond.methodLink RX11 103 yX11_tellOfMan ∈ q_big := q_bm 612 (by decide +kernel) (by decide +kernel)
theorem ln_X11_126 : Cond.methodLink RX11 126 yX9_hasMan ∈ q_big := q_bm 616 (by decide +kernel) (by decide +kernel)
theorem ln_X11_106 : Cond.methodLink RX11 106 yX11_tellOfTrain ∈ q_big := q_bm 620 (by decide +kernel) (by decide +kernel)
theorem ln_X11_112 : Cond.methodLink RX11 112 yX11_isCamp ∈ q_big := q_bm 624 (by decide +kernel) (by decide +kernel)
theorem ln_X11_119 : Cond.methodLink RX11 119 yX9_hasMule ∈ q_big := q_bm 627 (by decide +kernel) (by decide +kernel)
theorem ln_L_33 : Cond.methodLink RL 33 yX11_like ∈ q_big := q_bm 631 (by decide +kernel) (by decide +kernel)
theorem ln_X11_138 : Cond.methodLink RX11 138 yX9_setLiking ∈ q_big := q_bm 635 (by decide +kernel) (by decide +kernel)
theorem ln_X9_77 : Cond.methodLink RX9 77 yX9_hasMule ∈ q_big := q_bm 639 (by decide +kernel) (by decide +kernel)
theorem ln_X9_81 : Cond.methodLink RX9 81 yX9_hasMan ∈ q_big := q_bm 640 (by decide +kernel) (by decide +kernel)
theorem ln_X9_84 : Cond.methodLink RX9 84 Lib.Math.min.name ∈ q_big := q_bm 641 (by decide +kernel) (by decide +kernel)
theorem ln_X9_90 : Cond.methodLink RX9 90 Lib.Math.max.name ∈ q_big := q_bm 642 (by decide +kernel) (by decide +kernel)
theorem ln_L_37 : Cond.methodLink RL 37 yX11_vote ∈ q_big := q_bm 643 (by decide +kernel) (by decide +kernel)
theorem ln_X11_142 : Cond.methodLink RX11 142 yX1_keep ∈ q_big := q_bm 647 (by decide +kernel) (by decide +kernel)
theorem ln_X1_22 : Cond.methodLink RX1 22 yX1_dropOldest ∈ q_big := q_bm 651 (by decide +kernel) (by decide +kernel)
theorem ln_X1_25 : Cond.methodLink RX1 25 yX9_copyFrom ∈ q_big := q_bm 655 (by decide +kernel) (by decide +kernel)
theorem ln_X11_383 : Cond.methodLink RX11 383 Lib.Math.min.name ∈ q_big := q_bm 662 (by decide +kernel) (by decide +kernel)
theorem ln_X11_388 : Cond.methodLink RX11 388 arraycopyName ∈ q_big := q_bm 663 (by decide +kernel) (by decide +kernel)
theorem ln_X11_146 : Cond.methodLink RX11 146 yX10_castVote ∈ q_big := q_bm 666 (by decide +kernel) (by decide +kernel)
theorem ln_X10_157 : Cond.methodLink RX10 157 yX0_standNow ∈ q_big := q_bm 670 (by decide +kernel) (by decide +kernel)
theorem ln_X0_49 : Cond.methodLink RX0 49 Lib.Math.min.name ∈ q_big := q_bm 674 (by decide +kernel) (by decide +kernel)
theorem ln_X0_56 : Cond.methodLink RX0 56 yX10_needOf ∈ q_big := q_bm 675 (by decide +kernel) (by decide +kernel)
theorem ln_X10_93 : Cond.methodLink RX10 93 yX10_factsOf ∈ q_big := q_bm 679 (by decide +kernel) (by decide +kernel)
theorem ln_X10_67 : Cond.methodLink RX10 67 yX9_hasMule ∈ q_big := q_bm 683 (by decide +kernel) (by decide +kernel)
theorem ln_X10_77 : Cond.methodLink RX10 77 yX9_hasMan ∈ q_big := q_bm 684 (by decide +kernel) (by decide +kernel)
theorem ln_X10_97 : Cond.methodLink RX10 97 yX2_tells ∈ q_big := q_bm 685 (by decide +kernel) (by decide +kernel)
theorem ln_X2_44 : Cond.methodLink RX2 44 yX2_run ∈ q_big := q_bm 689 (by decide +kernel) (by decide +kernel)
theorem ln_X10_101 : Cond.methodLink RX10 101 Lib.Math.min.name ∈ q_big := q_bm 693 (by decide +kernel) (by decide +kernel)
theorem ln_X10_107 : Cond.methodLink RX10 107 Lib.Math.max.name ∈ q_big := q_bm 694 (by decide +kernel) (by decide +kernel)
theorem ln_X0_60 : Cond.methodLink RX0 60 yX10_heededBy ∈ q_big := q_bm 695 (by decide +kernel) (by decide +kernel)
theorem ln_X10_151 : Cond.methodLink RX10 151 yX6_cell ∈ q_big := q_bm 699 (by decide +kernel) (by decide +kernel)
theorem ln_X0_63 : Cond.methodLink RX0 63 yJ6_bitCount_0f7a4 ∈ q_big := q_bm 703 (by decide +kernel) (by decide +kernel)
theorem ln_X0_68 : Cond.methodLink RX0 68 yX9_likingFor ∈ q_big := q_bm 709 (by decide +kernel) (by decide +kernel)
theorem ln_X0_71 : Cond.methodLink RX0 71 yX10_leanOf ∈ q_big := q_bm 713 (by decide +kernel) (by decide +kernel)
theorem ln_X0_75 : Cond.methodLink RX0 75 yX9_lameOnes ∈ q_big := q_bm 717 (by decide +kernel) (by decide +kernel)
theorem ln_X0_79 : Cond.methodLink RX0 79 yX0_settle ∈ q_big := q_bm 721 (by decide +kernel) (by decide +kernel)
theorem ln_X0_90 : Cond.methodLink RX0 90 yJ7_fill_53178 ∈ q_big := q_bm 725 (by decide +kernel) (by decide +kernel)
theorem ln_X0_100 : Cond.methodLink RX0 100 yX0_choose ∈ q_big := q_bm 729 (by decide +kernel) (by decide +kernel)
theorem ln_X0_103 : Cond.methodLink RX0 103 yX0_leader ∈ q_big := q_bm 733 (by decide +kernel) (by decide +kernel)
theorem ln_X10_166 : Cond.methodLink RX10 166 yX0_choiceOf ∈ q_big := q_bm 737 (by decide +kernel) (by decide +kernel)
theorem ln_X10_114 : Cond.methodLink RX10 114 yX9_behindOf ∈ q_big := q_bm 741 (by decide +kernel) (by decide +kernel)
theorem ln_X10_117 : Cond.methodLink RX10 117 yJ6_bitCount_0f7a4 ∈ q_big := q_bm 745 (by decide +kernel) (by decide +kernel)
theorem ln_X10_173 : Cond.methodLink RX10 173 yX10_write ∈ q_big := q_bm 746 (by decide +kernel) (by decide +kernel)
theorem ln_L_42 : Cond.methodLink RL 42 yX11_act ∈ q_big := q_bm 750 (by decide +kernel) (by decide +kernel)
theorem ln_X11_153 : Cond.methodLink RX11 153 yX10_canTreat ∈ q_big := q_bm 754 (by decide +kernel) (by decide +kernel)
theorem ln_X11_156 : Cond.methodLink RX11 156 yX10_treat ∈ q_big := q_bm 758 (by decide +kernel) (by decide +kernel)
theorem ln_X10_180 : Cond.methodLink RX10 180 yX10_giveSalt ∈ q_big := q_bm 762 (by decide +kernel) (by decide +kernel)
theorem ln_X10_189 : Cond.methodLink RX10 189 yX9_moveLiking ∈ q_big := q_bm 766 (by decide +kernel) (by decide +kernel)
theorem ln_X9_93 : Cond.methodLink RX9 93 yX9_likingFor ∈ q_big := q_bm 770 (by decide +kernel) (by decide +kernel)
theorem ln_X9_96 : Cond.methodLink RX9 96 yX9_setLiking ∈ q_big := q_bm 771 (by decide +kernel) (by decide +kernel)
theorem ln_X10_183 : Cond.methodLink RX10 183 yX10_sing ∈ q_big := q_bm 772 (by decide +kernel) (by decide +kernel)
theorem ln_X10_186 : Cond.methodLink RX10 186 yX10_whip ∈ q_big := q_bm 776 (by decide +kernel) (by decide +kernel)
theorem ln_L_46 : Cond.methodLink RL 46 yX11_go ∈ q_big := q_bm 780 (by decide +kernel) (by decide +kernel)
theorem ln_X11_159 : Cond.methodLink RX11 159 yX10_hoursOfGoing ∈ q_big := q_bm 784 (by decide +kernel) (by decide +kernel)
theorem ln_X10_198 : Cond.methodLink RX10 198 yX10_hoursBetween ∈ q_big := q_bm 788 (by decide +kernel) (by decide +kernel)
theorem ln_X11_163 : Cond.methodLink RX11 163 yX10_travel ∈ q_big := q_bm 792 (by decide +kernel) (by decide +kernel)
theorem ln_X10_143 : Cond.methodLink RX10 143 yX10_riskOf ∈ q_big := q_bm 796 (by decide +kernel) (by decide +kernel)
theorem ln_X10_207 : Cond.methodLink RX10 207 yX9_draw ∈ q_big := q_bm 800 (by decide +kernel) (by decide +kernel)
theorem ln_L_50 : Cond.methodLink RL 50 yX11_rest ∈ q_big := q_bm 806 (by decide +kernel) (by decide +kernel)
theorem ln_X11_167 : Cond.methodLink RX11 167 yX10_restAll ∈ q_big := q_bm 810 (by decide +kernel) (by decide +kernel)
theorem ln_X10_129 : Cond.methodLink RX10 129 yX9_lameOnes ∈ q_big := q_bm 814 (by decide +kernel) (by decide +kernel)
theorem ln_X10_210 : Cond.methodLink RX10 210 yJ7_fill_53178 ∈ q_big := q_bm 815 (by decide +kernel) (by decide +kernel)
theorem ln_L_54 : Cond.methodLink RL 54 yX11_days ∈ q_big := q_bm 816 (by decide +kernel) (by decide +kernel)
theorem ln_X11_174 : Cond.methodLink RX11 174 yX10_passDay ∈ q_big := q_bm 820 (by decide +kernel) (by decide +kernel)
theorem ln_X10_216 : Cond.methodLink RX10 216 yX10_doPlan ∈ q_big := q_bm 824 (by decide +kernel) (by decide +kernel)
theorem ln_X10_220 : Cond.methodLink RX10 220 yX10_castVote ∈ q_big := q_bm 828 (by decide +kernel) (by decide +kernel)
theorem ln_X10_224 : Cond.methodLink RX10 224 yX10_hoursOfGoing ∈ q_big := q_bm 829 (by decide +kernel) (by decide +kernel)
theorem ln_X10_227 : Cond.methodLink RX10 227 yX10_travel ∈ q_big := q_bm 830 (by decide +kernel) (by decide +kernel)
theorem ln_X10_231 : Cond.methodLink RX10 231 yX10_canTreat ∈ q_big := q_bm 831 (by decide +kernel) (by decide +kernel)
theorem ln_X10_235 : Cond.methodLink RX10 235 yX10_treat ∈ q_big := q_bm 832 (by decide +kernel) (by decide +kernel)
theorem ln_L_58 : Cond.methodLink RL 58 yX11_feed ∈ q_big := q_bm 833 (by decide +kernel) (by decide +kernel)
theorem ln_X11_181 : Cond.methodLink RX11 181 yX8_add ∈ q_big := q_bm 837 (by decide +kernel) (by decide +kernel)
theorem ln_L_63 : Cond.methodLink RL 63 yX11_end ∈ q_big := q_bm 841 (by decide +kernel) (by decide +kernel)
theorem ln_L_68 : Cond.methodLink RL 68 yX11_text ∈ q_big := q_bm 845 (by decide +kernel) (by decide +kernel)
theorem ln_X11_185 : Cond.methodLink RX11 185 yX8_begin ∈ q_big := q_bm 849 (by decide +kernel) (by decide +kernel)
theorem ln_X8_37 : Cond.methodLink RX8 37 yX8_next ∈ q_big := q_bm 853 (by decide +kernel) (by decide +kernel)
theorem ln_X8_40 : Cond.methodLink RX8 40 yX8_byteAt ∈ q_big := q_bm 857 (by decide +kernel) (by decide +kernel)
theorem ln_X8_44 : Cond.methodLink RX8 44 yX8_isLetter ∈ q_big := q_bm 861 (by decide +kernel) (by decide +kernel)
theorem ln_X8_48 : Cond.methodLink RX8 48 yX8_isDigit ∈ q_big := q_bm 864 (by decide +kernel) (by decide +kernel)
theorem ln_X11_188 : Cond.methodLink RX11 188 yX3_read ∈ q_big := q_bm 867 (by decide +kernel) (by decide +kernel)
theorem ln_X3_46 : Cond.methodLink RX3 46 yX2_clear ∈ q_big := q_bm 871 (by decide +kernel) (by decide +kernel)
theorem ln_X3_49 : Cond.methodLink RX3 49 yX8_isEnd ∈ q_big := q_bm 875 (by decide +kernel) (by decide +kernel)
theorem ln_X3_55 : Cond.methodLink RX3 55 yX3_readLine ∈ q_big := q_bm 879 (by decide +kernel) (by decide +kernel)
theorem ln_X3_60 : Cond.methodLink RX3 60 yX8_isWord ∈ q_big := q_bm 884 (by decide +kernel) (by decide +kernel)
theorem ln_X8_51 : Cond.methodLink RX8 51 yJ0_length_8abf5 ∈ q_big := q_bm 888 (by decide +kernel) (by decide +kernel)
theorem ln_X8_56 : Cond.methodLink RX8 56 yJ0_charAt_5068e ∈ q_big := q_bm 898 (by decide +kernel) (by decide +kernel)
theorem ln_X3_68 : Cond.methodLink RX3 68 yX8_fail ∈ q_big := q_bm 938 (by decide +kernel) (by decide +kernel)
theorem ln_X3_72 : Cond.methodLink RX3 72 yX2_isFull ∈ q_big := q_bm 942 (by decide +kernel) (by decide +kernel)
theorem ln_X3_75 : Cond.methodLink RX3 75 yX8_next ∈ q_big := q_bm 946 (by decide +kernel) (by decide +kernel)
theorem ln_X3_78 : Cond.methodLink RX3 78 yX2_beginLine ∈ q_big := q_bm 947 (by decide +kernel) (by decide +kernel)
theorem ln_X3_82 : Cond.methodLink RX3 82 yX3_readOperand ∈ q_big := q_bm 951 (by decide +kernel) (by decide +kernel)
theorem ln_X3_93 : Cond.methodLink RX3 93 yX3_readOpening ∈ q_big := q_bm 956 (by decide +kernel) (by decide +kernel)
theorem ln_X3_114 : Cond.methodLink RX3 114 yX3_push ∈ q_big := q_bm 960 (by decide +kernel) (by decide +kernel)
theorem ln_X3_96 : Cond.methodLink RX3 96 yX8_isSign ∈ q_big := q_bm 964 (by decide +kernel) (by decide +kernel)
theorem ln_X3_100 : Cond.methodLink RX3 100 yX8_isNumber ∈ q_big := q_bm 968 (by decide +kernel) (by decide +kernel)
theorem ln_X3_103 : Cond.methodLink RX3 103 yX8_number ∈ q_big := q_bm 972 (by decide +kernel) (by decide +kernel)
theorem ln_X3_107 : Cond.methodLink RX3 107 yX2_emit ∈ q_big := q_bm 976 (by decide +kernel) (by decide +kernel)
theorem ln_X3_111 : Cond.methodLink RX3 111 yX3_factAtHand ∈ q_big := q_bm 980 (by decide +kernel) (by decide +kernel)
theorem ln_X3_85 : Cond.methodLink RX3 85 yX3_readSign ∈ q_big := q_bm 994 (by decide +kernel) (by decide +kernel)
theorem ln_X3_117 : Cond.methodLink RX3 117 yX3_readPart ∈ q_big := q_bm 998 (by decide +kernel) (by decide +kernel)
theorem ln_X3_140 : Cond.methodLink RX3 140 yX3_rank ∈ q_big := q_bm 1002 (by decide +kernel) (by decide +kernel)
theorem ln_X3_144 : Cond.methodLink RX3 144 yX3_release ∈ q_big := q_bm 1005 (by decide +kernel) (by decide +kernel)
theorem ln_X3_147 : Cond.methodLink RX3 147 yX8_expectNumber ∈ q_big := q_bm 1009 (by decide +kernel) (by decide +kernel)
theorem ln_X8_77 : Cond.methodLink RX8 77 yX8_isNumber ∈ q_big := q_bm 1013 (by decide +kernel) (by decide +kernel)
theorem ln_X8_71 : Cond.methodLink RX8 71 yX8_fail ∈ q_big := q_bm 1014 (by decide +kernel) (by decide +kernel)
theorem ln_X3_120 : Cond.methodLink RX3 120 yX3_join ∈ q_big := q_bm 1015 (by decide +kernel) (by decide +kernel)
theorem ln_X3_124 : Cond.methodLink RX3 124 yX3_readWhen ∈ q_big := q_bm 1019 (by decide +kernel) (by decide +kernel)
theorem ln_X3_137 : Cond.methodLink RX3 137 yX3_endLine ∈ q_big := q_bm 1024 (by decide +kernel) (by decide +kernel)
theorem ln_X3_162 : Cond.methodLink RX3 162 yX2_endLine ∈ q_big := q_bm 1028 (by decide +kernel) (by decide +kernel)
theorem ln_X3_153 : Cond.methodLink RX3 153 yX2_beginWhen ∈ q_big := q_bm 1032 (by decide +kernel) (by decide +kernel)
theorem ln_X3_127 : Cond.methodLink RX3 127 yX3_readComparison ∈ q_big := q_bm 1036 (by decide +kernel) (by decide +kernel)
theorem ln_X3_134 : Cond.methodLink RX3 134 yX3_readClosing ∈ q_big := q_bm 1042 (by decide +kernel) (by decide +kernel)
theorem ln_X3_156 : Cond.methodLink RX3 156 Lib.Math.max.name ∈ q_big := q_bm 1046 (by decide +kernel) (by decide +kernel)
theorem ln_X11_197 : Cond.methodLink RX11 197 yX2_copyFrom ∈ q_big := q_bm 1047 (by decide +kernel) (by decide +kernel)
theorem ln_X11_206 : Cond.methodLink RX11 206 yX7_read ∈ q_big := q_bm 1052 (by decide +kernel) (by decide +kernel)
theorem ln_X7_24 : Cond.methodLink RX7 24 yX6_clear ∈ q_big := q_bm 1056 (by decide +kernel) (by decide +kernel)
theorem ln_X7_27 : Cond.methodLink RX7 27 yX8_isEnd ∈ q_big := q_bm 1060 (by decide +kernel) (by decide +kernel)
theorem ln_X7_33 : Cond.methodLink RX7 33 yX7_readLine ∈ q_big := q_bm 1061 (by decide +kernel) (by decide +kernel)
theorem ln_X7_49 : Cond.methodLink RX7 49 yX8_isWord ∈ q_big := q_bm 1069 (by decide +kernel) (by decide +kernel)
theorem ln_X7_53 : Cond.methodLink RX7 53 yX8_fail ∈ q_big := q_bm 1070 (by decide +kernel) (by decide +kernel)
theorem ln_X7_61 : Cond.methodLink RX7 61 yX8_next ∈ q_big := q_bm 1071 (by decide +kernel) (by decide +kernel)
theorem ln_X7_64 : Cond.methodLink RX7 64 yX7_readHeed ∈ q_big := q_bm 1072 (by decide +kernel) (by decide +kernel)
theorem ln_X7_82 : Cond.methodLink RX7 82 yX8_expectNumber ∈ q_big := q_bm 1076 (by decide +kernel) (by decide +kernel)
theorem ln_X7_88 : Cond.methodLink RX7 88 yX8_expectWord ∈ q_big := q_bm 1078 (by decide +kernel) (by decide +kernel)
theorem ln_X8_68 : Cond.methodLink RX8 68 yX8_takeWord ∈ q_big := q_bm 1082 (by decide +kernel) (by decide +kernel)
theorem ln_X8_64 : Cond.methodLink RX8 64 yX8_isWord ∈ q_big := q_bm 1086 (by decide +kernel) (by decide +kernel)
theorem ln_X7_93 : Cond.methodLink RX7 93 yX8_takeWord ∈ q_big := q_bm 1088 (by decide +kernel) (by decide +kernel)
theorem ln_X7_96 : Cond.methodLink RX7 96 yX6_add ∈ q_big := q_bm 1089 (by decide +kernel) (by decide +kernel)
theorem ln_X7_68 : Cond.methodLink RX7 68 yX7_readPlan ∈ q_big := q_bm 1093 (by decide +kernel) (by decide +kernel)
theorem ln_X7_71 : Cond.methodLink RX7 71 yX7_readPath ∈ q_big := q_bm 1102 (by decide +kernel) (by decide +kernel)
theorem ln_X7_74 : Cond.methodLink RX7 74 yX7_readLoad ∈ q_big := q_bm 1107 (by decide +kernel) (by decide +kernel)
theorem ln_X7_37 : Cond.methodLink RX7 37 yX8_expectSign ∈ q_big := q_bm 1112 (by decide +kernel) (by decide +kernel)
theorem ln_X8_74 : Cond.methodLink RX8 74 yX8_takeSign ∈ q_big := q_bm 1116 (by decide +kernel) (by decide +kernel)
theorem ln_X8_60 : Cond.methodLink RX8 60 yX8_isSign ∈ q_big := q_bm 1120 (by decide +kernel) (by decide +kernel)
theorem ln_X11_209 : Cond.methodLink RX11 209 yX11_takeRows ∈ q_big := q_bm 1121 (by decide +kernel) (by decide +kernel)
theorem ln_X11_228 : Cond.methodLink RX11 228 yX6_copyFrom ∈ q_big := q_bm 1125 (by decide +kernel) (by decide +kernel)
theorem ln_L_72 : Cond.methodLink RL 72 yX11_fault ∈ q_big := q_bm 1131 (by decide +kernel) (by decide +kernel)
theorem ln_L_76 : Cond.methodLink RL 76 yX11_of ∈ q_big := q_bm 1135 (by decide +kernel) (by decide +kernel)
theorem ln_X11_242 : Cond.methodLink RX11 242 yX10_riskOf ∈ q_big := q_bm 1139 (by decide +kernel) (by decide +kernel)
theorem ln_X11_245 : Cond.methodLink RX11 245 yX10_leanNow ∈ q_big := q_bm 1140 (by decide +kernel) (by decide +kernel)
theorem ln_X10_110 : Cond.methodLink RX10 110 yX10_heededBy ∈ q_big := q_bm 1144 (by decide +kernel) (by decide +kernel)
theorem ln_X10_122 : Cond.methodLink RX10 122 yX9_likingFor ∈ q_big := q_bm 1145 (by decide +kernel) (by decide +kernel)
theorem ln_X10_125 : Cond.methodLink RX10 125 yX10_leanOf ∈ q_big := q_bm 1146 (by decide +kernel) (by decide +kernel)
theorem ln_X11_248 : Cond.methodLink RX11 248 yX9_likingFor ∈ q_big := q_bm 1147 (by decide +kernel) (by decide +kernel)
theorem ln_X11_260 : Cond.methodLink RX11 260 yX10_heededBy ∈ q_big := q_bm 1148 (by decide +kernel) (by decide +kernel)
theorem ln_X11_263 : Cond.methodLink RX11 263 yX10_needOf ∈ q_big := q_bm 1149 (by decide +kernel) (by decide +kernel)
theorem ln_L_80 : Cond.methodLink RL 80 yX11_manOf ∈ q_big := q_bm 1150 (by decide +kernel) (by decide +kernel)
theorem ln_X11_266 : Cond.methodLink RX11 266 yX9_behindOf ∈ q_big := q_bm 1154 (by decide +kernel) (by decide +kernel)
theorem ln_L_84 : Cond.methodLink RL 84 yX11_path ∈ q_big := q_bm 1155 (by decide +kernel) (by decide +kernel)
theorem ln_X11_269 : Cond.methodLink RX11 269 yX10_hoursBetween ∈ q_big := q_bm 1159 (by decide +kernel) (by decide +kernel)
theorem ln_L_88 : Cond.methodLink RL 88 yX11_book ∈ q_big := q_bm 1160 (by decide +kernel) (by decide +kernel)
theorem ln_X11_275 : Cond.methodLink RX11 275 yX10_read ∈ q_big := q_bm 1164 (by decide +kernel) (by decide +kernel)
theorem ln_L_92 : Cond.methodLink RL 92 yX11_stands ∈ q_big := q_bm 1168 (by decide +kernel) (by decide +kernel)
theorem ln_X11_277 : Cond.methodLink RX11 277 yX0_standNow ∈ q_big := q_bm 1172 (by decide +kernel) (by decide +kernel)
theorem ln_X11_281 : Cond.methodLink RX11 281 yX0_choiceOf ∈ q_big := q_bm 1173 (by decide +kernel) (by decide +kernel)
theorem ln_L_96 : Cond.methodLink RL 96 yX11_settles ∈ q_big := q_bm 1174 (by decide +kernel) (by decide +kernel)
theorem ln_L_100 : Cond.methodLink RL 100 yX11_goes ∈ q_big := q_bm 1178 (by decide +kernel) (by decide +kernel)
theorem ln_X11_288 : Cond.methodLink RX11 288 yX9_copyFrom ∈ q_big := q_bm 1182 (by decide +kernel) (by decide +kernel)
theorem ln_L_104 : Cond.methodLink RL 104 yX11_wins ∈ q_big := q_bm 1183 (by decide +kernel) (by decide +kernel)
theorem ln_X11_296 : Cond.methodLink RX11 296 yX0_fewestSalted ∈ q_big := q_bm 1187 (by decide +kernel) (by decide +kernel)
theorem ln_X0_106 : Cond.methodLink RX0 106 yX0_standNow ∈ q_big := q_bm 1191 (by decide +kernel) (by decide +kernel)
theorem ln_X0_110 : Cond.methodLink RX0 110 yX0_prepareSalted ∈ q_big := q_bm 1192 (by decide +kernel) (by decide +kernel)
theorem ln_X0_83 : Cond.methodLink RX0 83 Lib.Math.max.name ∈ q_big := q_bm 1196 (by decide +kernel) (by decide +kernel)
theorem ln_X0_86 : Cond.methodLink RX0 86 yX0_prefersAnother ∈ q_big := q_bm 1197 (by decide +kernel) (by decide +kernel)
theorem ln_X11_300 : Cond.methodLink RX11 300 yJ6_bitCount_0f7a4 ∈ q_big := q_bm 1201 (by decide +kernel) (by decide +kernel)
theorem ln_L_108 : Cond.methodLink RL 108 yX11_turnsBy ∈ q_big := q_bm 1202 (by decide +kernel) (by decide +kernel)
theorem ln_X11_305 : Cond.methodLink RX11 305 yX9_lameOnes ∈ q_big := q_bm 1206 (by decide +kernel) (by decide +kernel)
theorem ln_X11_308 : Cond.methodLink RX11 308 yX0_settle ∈ q_big := q_bm 1207 (by decide +kernel) (by decide +kernel)
theorem ln_L_112 : Cond.methodLink RL 112 yX11_way ∈ q_big := q_bm 1208 (by decide +kernel) (by decide +kernel)
theorem ln_X11_311 : Cond.methodLink RX11 311 yX5_measure ∈ q_big := q_bm 1212 (by decide +kernel) (by decide +kernel)
theorem ln_X5_18 : Cond.methodLink RX5 18 yJ7_fill_53178 ∈ q_big := q_bm 1216 (by decide +kernel) (by decide +kernel)
theorem ln_X5_36 : Cond.methodLink RX5 36 yX6_cell ∈ q_big := q_bm 1217 (by decide +kernel) (by decide +kernel)
theorem ln_X5_44 : Cond.methodLink RX5 44 yX10_greatestRisk ∈ q_big := q_bm 1219 (by decide +kernel) (by decide +kernel)
theorem ln_X11_315 : Cond.methodLink RX11 315 yX5_reach ∈ q_big := q_bm 1224 (by decide +kernel) (by decide +kernel)
theorem ln_X5_48 : Cond.methodLink RX5 48 yX5_through ∈ q_big := q_bm 1228 (by decide +kernel) (by decide +kernel)
theorem ln_X11_318 : Cond.methodLink RX11 318 yX5_nextFrom ∈ q_big := q_bm 1232 (by decide +kernel) (by decide +kernel)
theorem ln_X5_51 : Cond.methodLink RX5 51 yX5_farFrom ∈ q_big := q_bm 1236 (by decide +kernel) (by decide +kernel)
theorem ln_X11_321 : Cond.methodLink RX11 321 yX5_farFrom ∈ q_big := q_bm 1240 (by decide +kernel) (by decide +kernel)
theorem ln_L_116 : Cond.methodLink RL 116 yX11_packs ∈ q_big := q_bm 1241 (by decide +kernel) (by decide +kernel)
theorem ln_X11_324 : Cond.methodLink RX11 324 yX4_bestPack ∈ q_big := q_bm 1245 (by decide +kernel) (by decide +kernel)
theorem ln_X4_46 : Cond.methodLink RX4 46 Lib.Math.min.name ∈ q_big := q_bm 1249 (by decide +kernel) (by decide +kernel)
theorem ln_X4_52 : Cond.methodLink RX4 52 yX4_weigh ∈ q_big := q_bm 1250 (by decide +kernel) (by decide +kernel)
theorem ln_X4_79 : Cond.methodLink RX4 79 yX6_cell ∈ q_big := q_bm 1255 (by decide +kernel) (by decide +kernel)
theorem ln_X4_56 : Cond.methodLink RX4 56 yX9_lameOnes ∈ q_big := q_bm 1256 (by decide +kernel) (by decide +kernel)
theorem ln_X4_72 : Cond.methodLink RX4 72 yX4_canAdd ∈ q_big := q_bm 1257 (by decide +kernel) (by decide +kernel)
theorem ln_X4_75 : Cond.methodLink RX4 75 yX4_worthOf ∈ q_big := q_bm 1261 (by decide +kernel) (by decide +kernel)
theorem ln_X11_328 : Cond.methodLink RX11 328 yX4_worthOf ∈ q_big := q_bm 1265 (by decide +kernel) (by decide +kernel)
theorem ln_L_120 : Cond.methodLink RL 120 yX11_row ∈ q_big := q_bm 1266 (by decide +kernel) (by decide +kernel)
theorem ln_X11_331 : Cond.methodLink RX11 331 yX4_longestRow ∈ q_big := q_bm 1270 (by decide +kernel) (by decide +kernel)
theorem ln_X4_82 : Cond.methodLink RX4 82 yX10_heededBy ∈ q_big := q_bm 1274 (by decide +kernel) (by decide +kernel)
theorem ln_X4_86 : Cond.methodLink RX4 86 yJ7_fill_53178 ∈ q_big := q_bm 1275 (by decide +kernel) (by decide +kernel)
theorem ln_X4_92 : Cond.methodLink RX4 92 yJ6_bitCount_0f7a4 ∈ q_big := q_bm 1276 (by decide +kernel) (by decide +kernel)
theorem ln_X4_97 : Cond.methodLink RX4 97 Lib.Math.max.name ∈ q_big := q_bm 1277 (by decide +kernel) (by decide +kernel)
theorem ln_X4_100 : Cond.methodLink RX4 100 yX4_goOn ∈ q_big := q_bm 1278 (by decide +kernel) (by decide +kernel)
theorem ln_L_124 : Cond.methodLink RL 124 yX11_seen ∈ q_big := q_bm 1282 (by decide +kernel) (by decide +kernel)
theorem ln_X11_337 : Cond.methodLink RX11 337 yX6_clear ∈ q_big := q_bm 1286 (by decide +kernel) (by decide +kernel)
theorem ln_X11_340 : Cond.methodLink RX11 340 yX6_isFull ∈ q_big := q_bm 1287 (by decide +kernel) (by decide +kernel)
theorem ln_X11_343 : Cond.methodLink RX11 343 yX6_add ∈ q_big := q_bm 1291 (by decide +kernel) (by decide +kernel)
theorem ln_L_129 : Cond.methodLink RL 129 yX11_fits ∈ q_big := q_bm 1292 (by decide +kernel) (by decide +kernel)
theorem ln_X11_346 : Cond.methodLink RX11 346 yX4_countFits ∈ q_big := q_bm 1296 (by decide +kernel) (by decide +kernel)
theorem ln_X4_104 : Cond.methodLink RX4 104 yX4_isFit ∈ q_big := q_bm 1300 (by decide +kernel) (by decide +kernel)
theorem ln_X4_111 : Cond.methodLink RX4 111 yX9_likingFor ∈ q_big := q_bm 1303 (by decide +kernel) (by decide +kernel)
theorem ln_X11_349 : Cond.methodLink RX11 349 yX4_leastFit ∈ q_big := q_bm 1304 (by decide +kernel) (by decide +kernel)
theorem ln_X4_114 : Cond.methodLink RX4 114 yX4_countFits ∈ q_big := q_bm 1308 (by decide +kernel) (by decide +kernel)
theorem ln_X11_352 : Cond.methodLink RX11 352 yX4_bestAsk ∈ q_big := q_bm 1309 (by decide +kernel) (by decide +kernel)
theorem ln_X4_121 : Cond.methodLink RX4 121 yX4_fitsUpTo ∈ q_big := q_bm 1313 (by decide +kernel) (by decide +kernel)
theorem ln_L_133 : Cond.methodLink RL 133 yX11_led ∈ q_big := q_bm 1317 (by decide +kernel) (by decide +kernel)
theorem ln_X11_362 : Cond.methodLink RX11 362 yX10_likelihood ∈ q_big := q_bm 1321 (by decide +kernel) (by decide +kernel)
theorem ln_L_137 : Cond.methodLink RL 137 yX11_game ∈ q_big := q_bm 1326 (by decide +kernel) (by decide +kernel)
theorem ln_X11_365 : Cond.methodLink RX11 365 yX4_bestTaking ∈ q_big := q_bm 1330 (by decide +kernel) (by decide +kernel)
theorem ln_X4_124 : Cond.methodLink RX4 124 yX4_fillGrundy ∈ q_big := q_bm 1334 (by decide +kernel) (by decide +kernel)
theorem ln_X4_131 : Cond.methodLink RX4 131 yX4_grundyOf ∈ q_big := q_bm 1338 (by decide +kernel) (by decide +kernel)
theorem ln_X4_127 : Cond.methodLink RX4 127 yX4_saltOf ∈ q_big := q_bm 1342 (by decide +kernel) (by decide +kernel)
theorem ln_X4_134 : Cond.methodLink RX4 134 yX9_hasMan ∈ q_big := q_bm 1345 (by decide +kernel) (by decide +kernel)
theorem ln_L_141 : Cond.methodLink RL 141 yX11_share ∈ q_big := q_bm 1346 (by decide +kernel) (by decide +kernel)
theorem ln_X11_369 : Cond.methodLink RX11 369 yX4_shareOf ∈ q_big := q_bm 1350 (by decide +kernel) (by decide +kernel)
theorem ln_X4_141 : Cond.methodLink RX4 141 yX4_countHeeders ∈ q_big := q_bm 1354 (by decide +kernel) (by decide +kernel)
theorem ln_X4_144 : Cond.methodLink RX4 144 yX9_hasMule ∈ q_big := q_bm 1357 (by decide +kernel) (by decide +kernel)
theorem ln_L_145 : Cond.methodLink RL 145 yX11_meets ∈ q_big := q_bm 1358 (by decide +kernel) (by decide +kernel)
theorem ln_X11_373 : Cond.methodLink RX11 373 yX5_meeting ∈ q_big := q_bm 1362 (by decide +kernel) (by decide +kernel)
theorem ln_X5_54 : Cond.methodLink RX5 54 yX5_firstLineFrom ∈ q_big := q_bm 1366 (by decide +kernel) (by decide +kernel)
theorem ln_X5_58 : Cond.methodLink RX5 58 Lib.Math.max.name ∈ q_big := q_bm 1369 (by decide +kernel) (by decide +kernel)
theorem ln_L_149 : Cond.methodLink RL 149 yX11_undo ∈ q_big := q_bm 1370 (by decide +kernel) (by decide +kernel)
theorem ln_X11_376 : Cond.methodLink RX11 376 yX1_giveBack ∈ q_big := q_bm 1374 (by decide +kernel) (by decide +kernel)
theorem ln_L_154 : Cond.methodLink RL 154 yX11_image ∈ q_big := q_bm 1378 (by decide +kernel) (by decide +kernel)
theorem ln_X11_380 : Cond.methodLink RX11 380 yX10_copyFrom ∈ q_big := q_bm 1382 (by decide +kernel) (by decide +kernel)
theorem ln_X10_53 : Cond.methodLink RX10 53 yX9_copyFrom ∈ q_big := q_bm 1386 (by decide +kernel) (by decide +kernel)
theorem ln_X10_57 : Cond.methodLink RX10 57 yX2_copyFrom ∈ q_big := q_bm 1387 (by decide +kernel) (by decide +kernel)
theorem ln_X10_60 : Cond.methodLink RX10 60 yX6_copyFrom ∈ q_big := q_bm 1388 (by decide +kernel) (by decide +kernel)
theorem ln_L_159 : Cond.methodLink RL 159 yX11_look ∈ q_big := q_bm 1390 (by decide +kernel) (by decide +kernel)
theorem ln_L_17 : Cond.methodLink RL 17 yX12_state ∈ q_big := q_bm 1494 (by decide +kernel) (by decide +kernel)
theorem ln_X12_63 : Cond.methodLink RX12 63 yX12_forgets ∈ q_big := q_bm 1498 (by decide +kernel) (by decide +kernel)
theorem ln_L_22 : Cond.methodLink RL 22 yX12_mule ∈ q_big := q_bm 1502 (by decide +kernel) (by decide +kernel)
theorem ln_X12_56 : Cond.methodLink RX12 56 yX12_isIn ∈ q_big := q_bm 1506 (by decide +kernel) (by decide +kernel)
theorem ln_L_27 : Cond.methodLink RL 27 yX12_man ∈ q_big := q_bm 1509 (by decide +kernel) (by decide +kernel)
theorem ln_L_32 : Cond.methodLink RL 32 yX12_set ∈ q_big := q_bm 1513 (by decide +kernel) (by decide +kernel)
theorem ln_X12_78 : Cond.methodLink RX12 78 yX12_canSet ∈ q_big := q_bm 1517 (by decide +kernel) (by decide +kernel)
theorem ln_X12_68 : Cond.methodLink RX12 68 yX12_isCamp ∈ q_big := q_bm 1521 (by decide +kernel) (by decide +kernel)
theorem ln_X12_72 : Cond.methodLink RX12 72 yX12_isMule ∈ q_big := q_bm 1524 (by decide +kernel) (by decide +kernel)
theorem ln_X12_75 : Cond.methodLink RX12 75 yX12_isMan ∈ q_big := q_bm 1528 (by decide +kernel) (by decide +kernel)
theorem ln_L_36 : Cond.methodLink RL 36 yX12_like ∈ q_big := q_bm 1532 (by decide +kernel) (by decide +kernel)
theorem ln_L_62 : Cond.methodLink RL 62 yX12_feed ∈ q_big := q_bm 1536 (by decide +kernel) (by decide +kernel)
theorem ln_L_67 : Cond.methodLink RL 67 yX12_end ∈ q_big := q_bm 1540 (by decide +kernel) (by decide +kernel)
theorem ln_L_71 : Cond.methodLink RL 71 yX12_text ∈ q_big := q_bm 1544 (by decide +kernel) (by decide +kernel)
theorem ln_X12_201 : Cond.methodLink RX12 201 yX12_next0 ∈ q_big := q_bm 1548 (by decide +kernel) (by decide +kernel)
theorem ln_X12_173 : Cond.methodLink RX12 173 yX12_see ∈ q_big := q_bm 1552 (by decide +kernel) (by decide +kernel)
theorem ln_X12_180 : Cond.methodLink RX12 180 yX12_isLetter ∈ q_big := q_bm 1556 (by decide +kernel) (by decide +kernel)
theorem ln_X12_183 : Cond.methodLink RX12 183 yX12_word ∈ q_big := q_bm 1559 (by decide +kernel) (by decide +kernel)
theorem ln_X12_158 : Cond.methodLink RX12 158 yX12_lawWord ∈ q_big := q_bm 1563 (by decide +kernel) (by decide +kernel)
theorem ln_X12_102 : Cond.methodLink RX12 102 yX12_is ∈ q_big := q_bm 1568 (by decide +kernel) (by decide +kernel)
theorem ln_X12_90 : Cond.methodLink RX12 90 yJ0_length_8abf5 ∈ q_big := q_bm 1572 (by decide +kernel) (by decide +kernel)
theorem ln_X12_96 : Cond.methodLink RX12 96 yJ0_charAt_5068e ∈ q_big := q_bm 1573 (by decide +kernel) (by decide +kernel)
theorem ln_X12_138 : Cond.methodLink RX12 138 yX12_asked ∈ q_big := q_bm 1580 (by decide +kernel) (by decide +kernel)
theorem ln_X12_161 : Cond.methodLink RX12 161 yX12_heedWord ∈ q_big := q_bm 1594 (by decide +kernel) (by decide +kernel)
theorem ln_X12_164 : Cond.methodLink RX12 164 yX12_planWord ∈ q_big := q_bm 1599 (by decide +kernel) (by decide +kernel)
theorem ln_X12_186 : Cond.methodLink RX12 186 yX12_isDigit ∈ q_big := q_bm 1612 (by decide +kernel) (by decide +kernel)
theorem ln_X12_285 : Cond.methodLink RX12 285 yX12_readsLaw ∈ q_big := q_bm 1615 (by decide +kernel) (by decide +kernel)
theorem ln_X12_241 : Cond.methodLink RX12 241 yX12_aLine ∈ q_big := q_bm 1619 (by decide +kernel) (by decide +kernel)
theorem ln_X12_198 : Cond.methodLink RX12 198 yX12_bad ∈ q_big := q_bm 1623 (by decide +kernel) (by decide +kernel)
theorem ln_X12_235 : Cond.methodLink RX12 235 yX12_sumUp ∈ q_big := q_bm 1627 (by decide +kernel) (by decide +kernel)
theorem ln_X12_210 : Cond.methodLink RX12 210 yX12_product ∈ q_big := q_bm 1631 (by decide +kernel) (by decide +kernel)
theorem ln_X12_218 : Cond.methodLink RX12 218 yX12_unit ∈ q_big := q_bm 1635 (by decide +kernel) (by decide +kernel)
theorem ln_X12_214 : Cond.methodLink RX12 214 yX12_lay ∈ q_big := q_bm 1639 (by decide +kernel) (by decide +kernel)
theorem ln_X12_230 : Cond.methodLink RX12 230 yX12_any ∈ q_big := q_bm 1643 (by decide +kernel) (by decide +kernel)
theorem ln_X12_221 : Cond.methodLink RX12 221 yX12_every ∈ q_big := q_bm 1647 (by decide +kernel) (by decide +kernel)
theorem ln_X12_224 : Cond.methodLink RX12 224 yX12_oneTest ∈ q_big := q_bm 1651 (by decide +kernel) (by decide +kernel)
theorem ln_X12_227 : Cond.methodLink RX12 227 yX12_opens ∈ q_big := q_bm 1655 (by decide +kernel) (by decide +kernel)
theorem ln_X12_233 : Cond.methodLink RX12 233 yX12_need ∈ q_big := q_bm 1659 (by decide +kernel) (by decide +kernel)
theorem ln_X12_288 : Cond.methodLink RX12 288 yX12_readsRows ∈ q_big := q_bm 1663 (by decide +kernel) (by decide +kernel)
theorem ln_X12_269 : Cond.methodLink RX12 269 yX12_aRow ∈ q_big := q_bm 1667 (by decide +kernel) (by decide +kernel)
theorem ln_X12_257 : Cond.methodLink RX12 257 yX12_aHeed ∈ q_big := q_bm 1671 (by decide +kernel) (by decide +kernel)
theorem ln_X12_250 : Cond.methodLink RX12 250 yX12_told ∈ q_big := q_bm 1675 (by decide +kernel) (by decide +kernel)
theorem ln_X12_244 : Cond.methodLink RX12 244 yX12_number ∈ q_big := q_bm 1679 (by decide +kernel) (by decide +kernel)
theorem ln_X12_254 : Cond.methodLink RX12 254 yX12_another ∈ q_big := q_bm 1683 (by decide +kernel) (by decide +kernel)
theorem ln_X12_260 : Cond.methodLink RX12 260 yX12_aPlan ∈ q_big := q_bm 1687 (by decide +kernel) (by decide +kernel)
theorem ln_X12_263 : Cond.methodLink RX12 263 yX12_aPath ∈ q_big := q_bm 1691 (by decide +kernel) (by decide +kernel)
theorem ln_X12_266 : Cond.methodLink RX12 266 yX12_aLoad ∈ q_big := q_bm 1695 (by decide +kernel) (by decide +kernel)
theorem ln_X12_291 : Cond.methodLink RX12 291 yX12_putsText ∈ q_big := q_bm 1699 (by decide +kernel) (by decide +kernel)
theorem ln_X12_272 : Cond.methodLink RX12 272 yX12_putsLaw ∈ q_big := q_bm 1703 (by decide +kernel) (by decide +kernel)
theorem ln_X12_275 : Cond.methodLink RX12 275 yX12_puts ∈ q_big := q_bm 1707 (by decide +kernel) (by decide +kernel)
theorem ln_X12_279 : Cond.methodLink RX12 279 yX12_putsHeeds ∈ q_big := q_bm 1711 (by decide +kernel) (by decide +kernel)
theorem ln_L_75 : Cond.methodLink RL 75 yX12_fault ∈ q_big := q_bm 1715 (by decide +kernel) (by decide +kernel)
theorem ln_L_153 : Cond.methodLink RL 153 yX12_undo ∈ q_big := q_bm 1719 (by decide +kernel) (by decide +kernel)
theorem ln_L_41 : Cond.methodLink RL 41 yX12_vote ∈ q_big := q_bm 1723 (by decide +kernel) (by decide +kernel)
theorem ln_X12_355 : Cond.methodLink RX12 355 yX12_keeps ∈ q_big := q_bm 1727 (by decide +kernel) (by decide +kernel)
theorem ln_X12_358 : Cond.methodLink RX12 358 yX12_votes ∈ q_big := q_bm 1731 (by decide +kernel) (by decide +kernel)
theorem ln_X12_348 : Cond.methodLink RX12 348 yX12_stand ∈ q_big := q_bm 1735 (by decide +kernel) (by decide +kernel)
theorem ln_X12_342 : Cond.methodLink RX12 342 yX12_aRound ∈ q_big := q_bm 1739 (by decide +kernel) (by decide +kernel)
theorem ln_X12_336 : Cond.methodLink RX12 336 yX12_isLame ∈ q_big := q_bm 1743 (by decide +kernel) (by decide +kernel)
theorem ln_X12_339 : Cond.methodLink RX12 339 yX12_leansTo ∈ q_big := q_bm 1747 (by decide +kernel) (by decide +kernel)
theorem ln_X12_330 : Cond.methodLink RX12 330 yX12_leanOf ∈ q_big := q_bm 1751 (by decide +kernel) (by decide +kernel)
theorem ln_X12_310 : Cond.methodLink RX12 310 yX12_laysMule ∈ q_big := q_bm 1755 (by decide +kernel) (by decide +kernel)
theorem ln_X12_314 : Cond.methodLink RX12 314 yX12_likingOf ∈ q_big := q_bm 1759 (by decide +kernel) (by decide +kernel)
theorem ln_X12_317 : Cond.methodLink RX12 317 yX12_behind ∈ q_big := q_bm 1763 (by decide +kernel) (by decide +kernel)
theorem ln_X12_320 : Cond.methodLink RX12 320 yX12_count ∈ q_big := q_bm 1767 (by decide +kernel) (by decide +kernel)
theorem ln_X12_323 : Cond.methodLink RX12 323 yX12_says ∈ q_big := q_bm 1770 (by decide +kernel) (by decide +kernel)
theorem ln_X12_300 : Cond.methodLink RX12 300 yX12_isSo ∈ q_big := q_bm 1774 (by decide +kernel) (by decide +kernel)
theorem ln_X12_297 : Cond.methodLink RX12 297 yX12_comesTo ∈ q_big := q_bm 1778 (by decide +kernel) (by decide +kernel)
theorem ln_X12_294 : Cond.methodLink RX12 294 yX12_both ∈ q_big := q_bm 1782 (by decide +kernel) (by decide +kernel)
theorem ln_X12_303 : Cond.methodLink RX12 303 yX12_lesser ∈ q_big := q_bm 1785 (by decide +kernel) (by decide +kernel)
theorem ln_X12_307 : Cond.methodLink RX12 307 yX12_greater ∈ q_big := q_bm 1788 (by decide +kernel) (by decide +kernel)
theorem ln_X12_333 : Cond.methodLink RX12 333 yX12_needOf ∈ q_big := q_bm 1791 (by decide +kernel) (by decide +kernel)
theorem ln_X12_345 : Cond.methodLink RX12 345 yX12_mostFollowed ∈ q_big := q_bm 1795 (by decide +kernel) (by decide +kernel)
theorem ln_X12_351 : Cond.methodLink RX12 351 yX12_notes ∈ q_big := q_bm 1799 (by decide +kernel) (by decide +kernel)
theorem ln_L_45 : Cond.methodLink RL 45 yX12_act ∈ q_big := q_bm 1803 (by decide +kernel) (by decide +kernel)
theorem ln_X12_364 : Cond.methodLink RX12 364 yX12_sings ∈ q_big := q_bm 1807 (by decide +kernel) (by decide +kernel)
theorem ln_X12_361 : Cond.methodLink RX12 361 yX12_likes ∈ q_big := q_bm 1811 (by decide +kernel) (by decide +kernel)
theorem ln_X12_367 : Cond.methodLink RX12 367 yX12_whips ∈ q_big := q_bm 1815 (by decide +kernel) (by decide +kernel)
theorem ln_X12_370 : Cond.methodLink RX12 370 yX12_gives ∈ q_big := q_bm 1819 (by decide +kernel) (by decide +kernel)
theorem ln_L_49 : Cond.methodLink RL 49 yX12_go ∈ q_big := q_bm 1823 (by decide +kernel) (by decide +kernel)
theorem ln_X12_383 : Cond.methodLink RX12 383 yX12_canGo ∈ q_big := q_bm 1827 (by decide +kernel) (by decide +kernel)
theorem ln_X12_374 : Cond.methodLink RX12 374 yX12_pathOf ∈ q_big := q_bm 1831 (by decide +kernel) (by decide +kernel)
theorem ln_X12_386 : Cond.methodLink RX12 386 yX12_goesTo ∈ q_big := q_bm 1835 (by decide +kernel) (by decide +kernel)
theorem ln_X12_377 : Cond.methodLink RX12 377 yX12_riskOf ∈ q_big := q_bm 1839 (by decide +kernel) (by decide +kernel)
theorem ln_X12_380 : Cond.methodLink RX12 380 yX12_draw ∈ q_big := q_bm 1843 (by decide +kernel) (by decide +kernel)
theorem ln_L_53 : Cond.methodLink RL 53 yX12_rest ∈ q_big := q_bm 1849 (by decide +kernel) (by decide +kernel)
theorem ln_L_57 : Cond.methodLink RL 57 yX12_days ∈ q_big := q_bm 1853 (by decide +kernel) (by decide +kernel)
theorem ln_X12_392 : Cond.methodLink RX12 392 yX12_aDay ∈ q_big := q_bm 1857 (by decide +kernel) (by decide +kernel)
theorem ln_X12_389 : Cond.methodLink RX12 389 yX12_does ∈ q_big := q_bm 1861 (by decide +kernel) (by decide +kernel)
theorem ln_L_79 : Cond.methodLink RL 79 yX12_of ∈ q_big := q_bm 1865 (by decide +kernel) (by decide +kernel)
theorem ln_L_83 : Cond.methodLink RL 83 yX12_manOf ∈ q_big := q_bm 1869 (by decide +kernel) (by decide +kernel)
theorem ln_L_87 : Cond.methodLink RL 87 yX12_path ∈ q_big := q_bm 1873 (by decide +kernel) (by decide +kernel)
theorem ln_L_91 : Cond.methodLink RL 91 yX12_book ∈ q_big := q_bm 1877 (by decide +kernel) (by decide +kernel)
theorem ln_L_95 : Cond.methodLink RL 95 yX12_stands ∈ q_big := q_bm 1881 (by decide +kernel) (by decide +kernel)
theorem ln_X12_395 : Cond.methodLink RX12 395 yX12_lays ∈ q_big := q_bm 1885 (by decide +kernel) (by decide +kernel)
theorem ln_X12_398 : Cond.methodLink RX12 398 yX12_putsBack ∈ q_big := q_bm 1889 (by decide +kernel) (by decide +kernel)
theorem ln_L_99 : Cond.methodLink RL 99 yX12_settles ∈ q_big := q_bm 1893 (by decide +kernel) (by decide +kernel)
theorem ln_L_103 : Cond.methodLink RL 103 yX12_goes ∈ q_big := q_bm 1897 (by decide +kernel) (by decide +kernel)
theorem ln_L_107 : Cond.methodLink RL 107 yX12_wins ∈ q_big := q_bm 1901 (by decide +kernel) (by decide +kernel)
theorem ln_X12_401 : Cond.methodLink RX12 401 yX12_winsBy ∈ q_big := q_bm 1905 (by decide +kernel) (by decide +kernel)
theorem ln_L_111 : Cond.methodLink RL 111 yX12_turnsBy ∈ q_big := q_bm 1909 (by decide +kernel) (by decide +kernel)
theorem ln_L_115 : Cond.methodLink RL 115 yX12_way ∈ q_big := q_bm 1913 (by decide +kernel) (by decide +kernel)
theorem ln_X12_412 : Cond.methodLink RX12 412 yX12_laysWays ∈ q_big := q_bm 1917 (by decide +kernel) (by decide +kernel)
theorem ln_X12_408 : Cond.methodLink RX12 408 yX12_priceOf ∈ q_big := q_bm 1922 (by decide +kernel) (by decide +kernel)
theorem ln_X12_404 : Cond.methodLink RX12 404 yX12_greatestRisk ∈ q_big := q_bm 1926 (by decide +kernel) (by decide +kernel)
theorem ln_L_119 : Cond.methodLink RL 119 yX12_packs ∈ q_big := q_bm 1930 (by decide +kernel) (by decide +kernel)
theorem ln_X12_419 : Cond.methodLink RX12 419 yX12_laysLoads ∈ q_big := q_bm 1934 (by decide +kernel) (by decide +kernel)
theorem ln_X12_416 : Cond.methodLink RX12 416 yX12_weightOf ∈ q_big := q_bm 1938 (by decide +kernel) (by decide +kernel)
theorem ln_X12_422 : Cond.methodLink RX12 422 yX12_worthOf ∈ q_big := q_bm 1942 (by decide +kernel) (by decide +kernel)
theorem ln_L_123 : Cond.methodLink RL 123 yX12_row ∈ q_big := q_bm 1946 (by decide +kernel) (by decide +kernel)
theorem ln_L_128 : Cond.methodLink RL 128 yX12_seen ∈ q_big := q_bm 1950 (by decide +kernel) (by decide +kernel)
theorem ln_L_132 : Cond.methodLink RL 132 yX12_fits ∈ q_big := q_bm 1954 (by decide +kernel) (by decide +kernel)
theorem ln_X12_428 : Cond.methodLink RX12 428 yX12_fitting ∈ q_big := q_bm 1958 (by decide +kernel) (by decide +kernel)
theorem ln_X12_425 : Cond.methodLink RX12 425 yX12_isFitting ∈ q_big := q_bm 1962 (by decide +kernel) (by decide +kernel)
theorem ln_X12_431 : Cond.methodLink RX12 431 yX12_leastFitting ∈ q_big := q_bm 1966 (by decide +kernel) (by decide +kernel)
theorem ln_L_136 : Cond.methodLink RL 136 yX12_led ∈ q_big := q_bm 1970 (by decide +kernel) (by decide +kernel)
theorem ln_X12_434 : Cond.methodLink RX12 434 yX12_ledBy ∈ q_big := q_bm 1974 (by decide +kernel) (by decide +kernel)
theorem ln_L_140 : Cond.methodLink RL 140 yX12_game ∈ q_big := q_bm 1978 (by decide +kernel) (by decide +kernel)
theorem ln_X12_437 : Cond.methodLink RX12 437 yX12_leastBut ∈ q_big := q_bm 1982 (by decide +kernel) (by decide +kernel)
theorem ln_L_144 : Cond.methodLink RL 144 yX12_share ∈ q_big := q_bm 1985 (by decide +kernel) (by decide +kernel)
theorem ln_X12_440 : Cond.methodLink RX12 440 yX12_heedersOf ∈ q_big := q_bm 1989 (by decide +kernel) (by decide +kernel)
theorem ln_L_148 : Cond.methodLink RL 148 yX12_meets ∈ q_big := q_bm 1993 (by decide +kernel) (by decide +kernel)
theorem ln_X12_446 : Cond.methodLink RX12 446 yX12_campAt ∈ q_big := q_bm 1997 (by decide +kernel) (by decide +kernel)
theorem ln_X12_443 : Cond.methodLink RX12 443 yX12_lineFrom ∈ q_big := q_bm 2001 (by decide +kernel) (by decide +kernel)
theorem ln_L_158 : Cond.methodLink RL 158 yX12_image ∈ q_big := q_bm 2005 (by decide +kernel) (by decide +kernel)
theorem ln_L_162 : Cond.methodLink RL 162 yX12_look ∈ q_big := q_bm 2009 (by decide +kernel) (by decide +kernel)
theorem cn_J6_265 : Cond.constant RJ6 265 1431655765 ∈ q_big := q_bm 706 (by decide +kernel) (by decide +kernel)
theorem cn_J6_266 : Cond.constant RJ6 266 858993459 ∈ q_big := q_bm 707 (by decide +kernel) (by decide +kernel)
theorem cn_J6_267 : Cond.constant RJ6 267 252645135 ∈ q_big := q_bm 708 (by decide +kernel) (by decide +kernel)
theorem cn_X9_100 : Cond.constant RX9 100 1664525 ∈ q_big := q_bm 804 (by decide +kernel) (by decide +kernel)
theorem cn_X9_101 : Cond.constant RX9 101 1013904223 ∈ q_big := q_bm 805 (by decide +kernel) (by decide +kernel)
theorem cn_X10_147 : Cond.constant RX10 147 1000000 ∈ q_big := q_bm 1325 (by decide +kernel) (by decide +kernel)
theorem cn_X12_66 : Cond.constant RX12 66 1664525 ∈ q_big := q_bm 1847 (by decide +kernel) (by decide +kernel)
theorem cn_X12_67 : Cond.constant RX12 67 1013904223 ∈ q_big := q_bm 1848 (by decide +kernel) (by decide +kernel)
theorem cn_X12_407 : Cond.constant RX12 407 1000000 ∈ q_big := q_bm 1921 (by decide +kernel) (by decide +kernel)
theorem q_w_copy {own : String} {i : Nat} (h : Cond.methodLink own i arraycopyName ∈ q_big) : Cond.methodLink own i arraycopyName ∈ q_big ∧ Cond.native arraycopyName ∈ q_big ∧ Cond.static arraycopyName ∈ q_big ∧ Cond.initialized "java/lang/System" ∈ q_big := ⟨h, q_bm 665 (by decide +kernel) (by decide +kernel), q_bm 664 (by decide +kernel) (by decide +kernel), q_bm 137 (by decide +kernel) (by decide +kernel)⟩
theorem ic_m8 : Int32.ofInt (-8) = -8 := by decide +kernel
theorem ic_m1 : Int32.ofInt (-1) = -1 := by decide +kernel
theorem ic_0 : Int32.ofInt (0) = 0 := by decide +kernel
theorem ic_1 : Int32.ofInt (1) = 1 := by decide +kernel
theorem ic_2 : Int32.ofInt (2) = 2 := by decide +kernel
theorem ic_3 : Int32.ofInt (3) = 3 := by decide +kernel
theorem ic_4 : Int32.ofInt (4) = 4 := by decide +kernel
theorem ic_5 : Int32.ofInt (5) = 5 := by decide +kernel
theorem ic_6 : Int32.ofInt (6) = 6 := by decide +kernel
theorem bp_m20 : (Int8.ofInt (-20)).toInt32 = -20 := by decide +kernel
theorem bp_m2 : (Int8.ofInt (-2)).toInt32 = -2 := by decide +kernel
theorem bp_6 : (Int8.ofInt (6)).toInt32 = 6 := by decide +kernel
theorem bp_7 : (Int8.ofInt (7)).toInt32 = 7 := by decide +kernel
theorem bp_8 : (Int8.ofInt (8)).toInt32 = 8 := by decide +kernel
theorem bp_9 : (Int8.ofInt (9)).toInt32 = 9 := by decide +kernel
theorem bp_10 : (Int8.ofInt (10)).toInt32 = 10 := by decide +kernel
theorem bp_11 : (Int8.ofInt (11)).toInt32 = 11 := by decide +kernel
theorem bp_12 : (Int8.ofInt (12)).toInt32 = 12 := by decide +kernel
theorem bp_13 : (Int8.ofInt (13)).toInt32 = 13 := by decide +kernel
theorem bp_14 : (Int8.ofInt (14)).toInt32 = 14 := by decide +kernel
theorem bp_15 : (Int8.ofInt (15)).toInt32 = 15 := by decide +kernel
theorem bp_16 : (Int8.ofInt (16)).toInt32 = 16 := by decide +kernel
theorem bp_17 : (Int8.ofInt (17)).toInt32 = 17 := by decide +kernel
theorem bp_18 : (Int8.ofInt (18)).toInt32 = 18 := by decide +kernel
theorem bp_19 : (Int8.ofInt (19)).toInt32 = 19 := by decide +kernel
theorem bp_20 : (Int8.ofInt (20)).toInt32 = 20 := by decide +kernel
theorem bp_21 : (Int8.ofInt (21)).toInt32 = 21 := by decide +kernel
theorem bp_22 : (Int8.ofInt (22)).toInt32 = 22 := by decide +kernel
theorem bp_23 : (Int8.ofInt (23)).toInt32 = 23 := by decide +kernel
theorem bp_24 : (Int8.ofInt (24)).toInt32 = 24 := by decide +kernel
theorem bp_25 : (Int8.ofInt (25)).toInt32 = 25 := by decide +kernel
theorem bp_26 : (Int8.ofInt (26)).toInt32 = 26 := by decide +kernel
theorem bp_27 : (Int8.ofInt (27)).toInt32 = 27 := by decide +kernel
theorem bp_28 : (Int8.ofInt (28)).toInt32 = 28 := by decide +kernel
theorem bp_29 : (Int8.ofInt (29)).toInt32 = 29 := by decide +kernel
theorem bp_30 : (Int8.ofInt (30)).toInt32 = 30 := by decide +kernel
theorem bp_31 : (Int8.ofInt (31)).toInt32 = 31 := by decide +kernel
theorem bp_32 : (Int8.ofInt (32)).toInt32 = 32 := by decide +kernel
theorem bp_40 : (Int8.ofInt (40)).toInt32 = 40 := by decide +kernel
theorem bp_41 : (Int8.ofInt (41)).toInt32 = 41 := by decide +kernel
theorem bp_42 : (Int8.ofInt (42)).toInt32 = 42 := by decide +kernel
theorem bp_43 : (Int8.ofInt (43)).toInt32 = 43 := by decide +kernel
theorem bp_44 : (Int8.ofInt (44)).toInt32 = 44 := by decide +kernel
theorem bp_45 : (Int8.ofInt (45)).toInt32 = 45 := by decide +kernel
theorem bp_46 : (Int8.ofInt (46)).toInt32 = 46 := by decide +kernel
theorem bp_47 : (Int8.ofInt (47)).toInt32 = 47 := by decide +kernel
theorem bp_48 : (Int8.ofInt (48)).toInt32 = 48 := by decide +kernel
theorem bp_49 : (Int8.ofInt (49)).toInt32 = 49 := by decide +kernel
theorem bp_50 : (Int8.ofInt (50)).toInt32 = 50 := by decide +kernel
theorem bp_54 : (Int8.ofInt (54)).toInt32 = 54 := by decide +kernel
theorem bp_57 : (Int8.ofInt (57)).toInt32 = 57 := by decide +kernel
theorem bp_59 : (Int8.ofInt (59)).toInt32 = 59 := by decide +kernel
theorem bp_60 : (Int8.ofInt (60)).toInt32 = 60 := by decide +kernel
theorem bp_61 : (Int8.ofInt (61)).toInt32 = 61 := by decide +kernel
theorem bp_62 : (Int8.ofInt (62)).toInt32 = 62 := by decide +kernel
theorem bp_63 : (Int8.ofInt (63)).toInt32 = 63 := by decide +kernel
theorem bp_64 : (Int8.ofInt (64)).toInt32 = 64 := by decide +kernel
theorem bp_65 : (Int8.ofInt (65)).toInt32 = 65 := by decide +kernel
theorem bp_80 : (Int8.ofInt (80)).toInt32 = 80 := by decide +kernel
theorem bp_86 : (Int8.ofInt (86)).toInt32 = 86 := by decide +kernel
theorem bp_87 : (Int8.ofInt (87)).toInt32 = 87 := by decide +kernel
theorem bp_88 : (Int8.ofInt (88)).toInt32 = 88 := by decide +kernel
theorem bp_89 : (Int8.ofInt (89)).toInt32 = 89 := by decide +kernel
theorem bp_90 : (Int8.ofInt (90)).toInt32 = 90 := by decide +kernel
theorem bp_91 : (Int8.ofInt (91)).toInt32 = 91 := by decide +kernel
theorem bp_92 : (Int8.ofInt (92)).toInt32 = 92 := by decide +kernel
theorem bp_93 : (Int8.ofInt (93)).toInt32 = 93 := by decide +kernel
theorem bp_94 : (Int8.ofInt (94)).toInt32 = 94 := by decide +kernel
theorem bp_95 : (Int8.ofInt (95)).toInt32 = 95 := by decide +kernel
theorem bp_97 : (Int8.ofInt (97)).toInt32 = 97 := by decide +kernel
theorem bp_99 : (Int8.ofInt (99)).toInt32 = 99 := by decide +kernel
theorem bp_100 : (Int8.ofInt (100)).toInt32 = 100 := by decide +kernel
theorem bp_107 : (Int8.ofInt (107)).toInt32 = 107 := by decide +kernel
theorem bp_119 : (Int8.ofInt (119)).toInt32 = 119 := by decide +kernel
theorem bp_122 : (Int8.ofInt (122)).toInt32 = 122 := by decide +kernel
theorem bp_124 : (Int8.ofInt (124)).toInt32 = 124 := by decide +kernel
theorem sp_129 : (Int16.ofInt (129)).toInt32 = 129 := by decide +kernel
theorem sp_140 : (Int16.ofInt (140)).toInt32 = 140 := by decide +kernel
theorem sp_141 : (Int16.ofInt (141)).toInt32 = 141 := by decide +kernel
theorem sp_142 : (Int16.ofInt (142)).toInt32 = 142 := by decide +kernel
theorem sp_143 : (Int16.ofInt (143)).toInt32 = 143 := by decide +kernel
theorem sp_144 : (Int16.ofInt (144)).toInt32 = 144 := by decide +kernel
theorem sp_145 : (Int16.ofInt (145)).toInt32 = 145 := by decide +kernel
theorem sp_147 : (Int16.ofInt (147)).toInt32 = 147 := by decide +kernel
theorem sp_150 : (Int16.ofInt (150)).toInt32 = 150 := by decide +kernel
theorem sp_159 : (Int16.ofInt (159)).toInt32 = 159 := by decide +kernel
theorem sp_160 : (Int16.ofInt (160)).toInt32 = 160 := by decide +kernel
theorem sp_161 : (Int16.ofInt (161)).toInt32 = 161 := by decide +kernel
theorem sp_162 : (Int16.ofInt (162)).toInt32 = 162 := by decide +kernel
theorem sp_205 : (Int16.ofInt (205)).toInt32 = 205 := by decide +kernel
theorem sp_253 : (Int16.ofInt (253)).toInt32 = 253 := by decide +kernel
theorem sp_255 : (Int16.ofInt (255)).toInt32 = 255 := by decide +kernel
theorem sp_256 : (Int16.ofInt (256)).toInt32 = 256 := by decide +kernel
theorem sp_269 : (Int16.ofInt (269)).toInt32 = 269 := by decide +kernel
theorem sp_305 : (Int16.ofInt (305)).toInt32 = 305 := by decide +kernel
theorem sp_380 : (Int16.ofInt (380)).toInt32 = 380 := by decide +kernel
theorem sp_399 : (Int16.ofInt (399)).toInt32 = 399 := by decide +kernel
theorem sp_400 : (Int16.ofInt (400)).toInt32 = 400 := by decide +kernel
theorem sp_420 : (Int16.ofInt (420)).toInt32 = 420 := by decide +kernel
theorem sp_430 : (Int16.ofInt (430)).toInt32 = 430 := by decide +kernel
theorem sp_516 : (Int16.ofInt (516)).toInt32 = 516 := by decide +kernel
theorem sp_600 : (Int16.ofInt (600)).toInt32 = 600 := by decide +kernel
theorem sp_720 : (Int16.ofInt (720)).toInt32 = 720 := by decide +kernel
theorem sp_820 : (Int16.ofInt (820)).toInt32 = 820 := by decide +kernel
theorem sp_905 : (Int16.ofInt (905)).toInt32 = 905 := by decide +kernel
theorem sp_921 : (Int16.ofInt (921)).toInt32 = 921 := by decide +kernel
theorem sp_937 : (Int16.ofInt (937)).toInt32 = 937 := by decide +kernel
theorem sp_953 : (Int16.ofInt (953)).toInt32 = 953 := by decide +kernel
theorem sp_970 : (Int16.ofInt (970)).toInt32 = 970 := by decide +kernel
theorem sp_999 : (Int16.ofInt (999)).toInt32 = 999 := by decide +kernel
theorem sp_1000 : (Int16.ofInt (1000)).toInt32 = 1000 := by decide +kernel
theorem sp_1790 : (Int16.ofInt (1790)).toInt32 = 1790 := by decide +kernel
theorem sp_4096 : (Int16.ofInt (4096)).toInt32 = 4096 := by decide +kernel
theorem sp_9999 : (Int16.ofInt (9999)).toInt32 = 9999 := by decide +kernel
