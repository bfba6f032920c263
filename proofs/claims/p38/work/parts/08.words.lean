theorem cl_0 : q_cls 0 RX0 TX0 tyX0 := ⟨rfl, q_sub [305, 307, 309, 311, 313, 315, 317, 319, 321] (by decide +kernel) (by decide +kernel), tyX0_ok, nmX0⟩
theorem cl_1 : q_cls 1 RX1 TX1 tyX1 := ⟨rfl, q_sub [282, 284] (by decide +kernel) (by decide +kernel), tyX1_ok, nmX1⟩
theorem cl_2 : q_cls 2 RX2 TX2 tyX2 := ⟨rfl, q_sub [190, 192, 194, 196, 198, 200, 202, 204, 206] (by decide +kernel) (by decide +kernel), tyX2_ok, nmX2⟩
theorem cl_3 : q_cls 3 RX3 TX3 tyX3 := ⟨rfl, q_sub [413, 415, 417, 419, 421, 423, 425, 427, 429] (by decide +kernel) (by decide +kernel), tyX3_ok, nmX3⟩
theorem cl_4 : q_cls 4 RX4 TX4 tyX4 := ⟨rfl, q_sub [349, 351, 353, 355, 357, 359] (by decide +kernel) (by decide +kernel), tyX4_ok, nmX4⟩
theorem cl_5 : q_cls 5 RX5 TX5 tyX5 := ⟨rfl, q_sub [332, 334] (by decide +kernel) (by decide +kernel), tyX5_ok, nmX5⟩
theorem cl_6 : q_cls 6 RX6 TX6 tyX6 := ⟨rfl, q_sub [227, 229, 231] (by decide +kernel) (by decide +kernel), tyX6_ok, nmX6⟩
theorem cl_7 : q_cls 7 RX7 TX7 tyX7 := ⟨rfl, q_sub [443, 445] (by decide +kernel) (by decide +kernel), tyX7_ok, nmX7⟩
theorem cl_8 : q_cls 8 RX8 TX8 tyX8 := ⟨rfl, q_sub [378, 380, 382, 384, 386, 388, 390, 392] (by decide +kernel) (by decide +kernel), tyX8_ok, nmX8⟩
theorem cl_9 : q_cls 9 RX9 TX9 tyX9 := ⟨rfl, q_sub [136, 138, 140, 142, 144, 146, 148, 150, 152, 154, 156, 158, 160, 162, 164, 166, 168, 170] (by decide +kernel) (by decide +kernel), tyX9_ok, nmX9⟩
theorem cl_10 : q_cls 10 RX10 TX10 tyX10 := ⟨rfl, q_sub [251, 253, 255, 257, 259, 261, 263, 265, 267] (by decide +kernel) (by decide +kernel), tyX10_ok, nmX10⟩
theorem cl_11 : q_cls 11 RX11 TX11 tyX11 := ⟨rfl, q_sub [459, 461, 463, 465, 467, 469, 471, 473, 475, 477, 479] (by decide +kernel) (by decide +kernel), tyX11_ok, nmX11⟩
theorem cl_12 : q_cls 12 RX12 TX12 tyX12 := ⟨rfl, q_sub [799, 801, 803, 805, 807, 809, 811, 813, 815, 817, 819, 821, 823, 825, 827, 829, 831, 833] (by decide +kernel) (by decide +kernel), tyX12_ok, nmX12⟩
theorem kf_0_0 {o : Nat} (h : q_KD o = .inl 0) : q_KD (q_RF o 0) = .inr (12, false) := (by decide +kernel : ∀ o, o < q_N0 → q_KD o = .inl 0 → q_KD (q_RF o 0) = .inr (12, false)) o (q_KD_lt h) h
theorem kl_0_0 {o : Nat} (h : q_KD o = .inl 0) : q_RF o 0 < q_N0 := q_KL (kf_0_0 h) (by decide)
theorem kf_0_1 {o : Nat} (h : q_KD o = .inl 0) : q_KD (q_RF o 1) = .inr (12, false) := (by decide +kernel : ∀ o, o < q_N0 → q_KD o = .inl 0 → q_KD (q_RF o 1) = .inr (12, false)) o (q_KD_lt h) h
theorem kl_0_1 {o : Nat} (h : q_KD o = .inl 0) : q_RF o 1 < q_N0 := q_KL (kf_0_1 h) (by decide)
theorem kf_0_2 {o : Nat} (h : q_KD o = .inl 0) : q_KD (q_RF o 2) = .inr (720, false) := (by decide +kernel : ∀ o, o < q_N0 → q_KD o = .inl 0 → q_KD (q_RF o 2) = .inr (720, false)) o (q_KD_lt h) h
theorem kl_0_2 {o : Nat} (h : q_KD o = .inl 0) : q_RF o 2 < q_N0 := q_KL (kf_0_2 h) (by decide)
theorem kf_0_3 {o : Nat} (h : q_KD o = .inl 0) : q_KD (q_RF o 3) = .inr (144, false) := (by decide +kernel : ∀ o, o < q_N0 → q_KD o = .inl 0 → q_KD (q_RF o 3) = .inr (144, false)) o (q_KD_lt h) h
theorem kl_0_3 {o : Nat} (h : q_KD o = .inl 0) : q_RF o 3 < q_N0 := q_KL (kf_0_3 h) (by decide)
theorem kf_0_4 {o : Nat} (h : q_KD o = .inl 0) : q_KD (q_RF o 4) = .inr (5, false) := (by decide +kernel : ∀ o, o < q_N0 → q_KD o = .inl 0 → q_KD (q_RF o 4) = .inr (5, false)) o (q_KD_lt h) h
theorem kl_0_4 {o : Nat} (h : q_KD o = .inl 0) : q_RF o 4 < q_N0 := q_KL (kf_0_4 h) (by decide)
theorem kf_1_0 {o : Nat} (h : q_KD o = .inl 1) : q_KD (q_RF o 0) = .inr (6, true) := (by decide +kernel : ∀ o, o < q_N0 → q_KD o = .inl 1 → q_KD (q_RF o 0) = .inr (6, true)) o (q_KD_lt h) h
theorem kl_1_0 {o : Nat} (h : q_KD o = .inl 1) : q_RF o 0 < q_N0 := q_KL (kf_1_0 h) (by decide)
theorem kf_2_0 {o : Nat} (h : q_KD o = .inl 2) : q_KD (q_RF o 0) = .inr (16, false) := (by decide +kernel : ∀ o, o < q_N0 → q_KD o = .inl 2 → q_KD (q_RF o 0) = .inr (16, false)) o (q_KD_lt h) h
theorem kl_2_0 {o : Nat} (h : q_KD o = .inl 2) : q_RF o 0 < q_N0 := q_KL (kf_2_0 h) (by decide)
theorem kf_2_1 {o : Nat} (h : q_KD o = .inl 2) : q_KD (q_RF o 1) = .inr (16, false) := (by decide +kernel : ∀ o, o < q_N0 → q_KD o = .inl 2 → q_KD (q_RF o 1) = .inr (16, false)) o (q_KD_lt h) h
theorem kl_2_1 {o : Nat} (h : q_KD o = .inl 2) : q_RF o 1 < q_N0 := q_KL (kf_2_1 h) (by decide)
theorem kf_2_2 {o : Nat} (h : q_KD o = .inl 2) : q_KD (q_RF o 2) = .inr (16, false) := (by decide +kernel : ∀ o, o < q_N0 → q_KD o = .inl 2 → q_KD (q_RF o 2) = .inr (16, false)) o (q_KD_lt h) h
theorem kl_2_2 {o : Nat} (h : q_KD o = .inl 2) : q_RF o 2 < q_N0 := q_KL (kf_2_2 h) (by decide)
theorem kf_2_3 {o : Nat} (h : q_KD o = .inl 2) : q_KD (q_RF o 3) = .inr (16, false) := (by decide +kernel : ∀ o, o < q_N0 → q_KD o = .inl 2 → q_KD (q_RF o 3) = .inr (16, false)) o (q_KD_lt h) h
theorem kl_2_3 {o : Nat} (h : q_KD o = .inl 2) : q_RF o 3 < q_N0 := q_KL (kf_2_3 h) (by decide)
theorem kf_2_4 {o : Nat} (h : q_KD o = .inl 2) : q_KD (q_RF o 4) = .inr (400, false) := (by decide +kernel : ∀ o, o < q_N0 → q_KD o = .inl 2 → q_KD (q_RF o 4) = .inr (400, false)) o (q_KD_lt h) h
theorem kl_2_4 {o : Nat} (h : q_KD o = .inl 2) : q_RF o 4 < q_N0 := q_KL (kf_2_4 h) (by decide)
theorem kf_2_5 {o : Nat} (h : q_KD o = .inl 2) : q_KD (q_RF o 5) = .inr (400, false) := (by decide +kernel : ∀ o, o < q_N0 → q_KD o = .inl 2 → q_KD (q_RF o 5) = .inr (400, false)) o (q_KD_lt h) h
theorem kl_2_5 {o : Nat} (h : q_KD o = .inl 2) : q_RF o 5 < q_N0 := q_KL (kf_2_5 h) (by decide)
theorem kf_2_6 {o : Nat} (h : q_KD o = .inl 2) : q_KD (q_RF o 6) = .inr (400, false) := (by decide +kernel : ∀ o, o < q_N0 → q_KD o = .inl 2 → q_KD (q_RF o 6) = .inr (400, false)) o (q_KD_lt h) h
theorem kl_2_6 {o : Nat} (h : q_KD o = .inl 2) : q_RF o 6 < q_N0 := q_KL (kf_2_6 h) (by decide)
theorem kf_3_0 {o : Nat} (h : q_KD o = .inl 3) : q_KD (q_RF o 0) = .inl 8 := (by decide +kernel : ∀ o, o < q_N0 → q_KD o = .inl 3 → q_KD (q_RF o 0) = .inl 8) o (q_KD_lt h) h
theorem kf_3_1 {o : Nat} (h : q_KD o = .inl 3) : q_KD (q_RF o 1) = .inl 2 := (by decide +kernel : ∀ o, o < q_N0 → q_KD o = .inl 3 → q_KD (q_RF o 1) = .inl 2) o (q_KD_lt h) h
theorem kf_3_2 {o : Nat} (h : q_KD o = .inl 3) : q_KD (q_RF o 2) = .inr (400, false) := (by decide +kernel : ∀ o, o < q_N0 → q_KD o = .inl 3 → q_KD (q_RF o 2) = .inr (400, false)) o (q_KD_lt h) h
theorem kl_3_2 {o : Nat} (h : q_KD o = .inl 3) : q_RF o 2 < q_N0 := q_KL (kf_3_2 h) (by decide)
theorem kf_4_0 {o : Nat} (h : q_KD o = .inl 4) : q_KD (q_RF o 0) = .inr (256, false) := (by decide +kernel : ∀ o, o < q_N0 → q_KD o = .inl 4 → q_KD (q_RF o 0) = .inr (256, false)) o (q_KD_lt h) h
theorem kl_4_0 {o : Nat} (h : q_KD o = .inl 4) : q_RF o 0 < q_N0 := q_KL (kf_4_0 h) (by decide)
theorem kf_4_1 {o : Nat} (h : q_KD o = .inl 4) : q_KD (q_RF o 1) = .inr (256, false) := (by decide +kernel : ∀ o, o < q_N0 → q_KD o = .inl 4 → q_KD (q_RF o 1) = .inr (256, false)) o (q_KD_lt h) h
theorem kl_4_1 {o : Nat} (h : q_KD o = .inl 4) : q_RF o 1 < q_N0 := q_KL (kf_4_1 h) (by decide)
theorem kf_4_2 {o : Nat} (h : q_KD o = .inl 4) : q_KD (q_RF o 2) = .inr (4096, false) := (by decide +kernel : ∀ o, o < q_N0 → q_KD o = .inl 4 → q_KD (q_RF o 2) = .inr (4096, false)) o (q_KD_lt h) h
theorem kl_4_2 {o : Nat} (h : q_KD o = .inl 4) : q_RF o 2 < q_N0 := q_KL (kf_4_2 h) (by decide)
theorem kf_4_3 {o : Nat} (h : q_KD o = .inl 4) : q_KD (q_RF o 3) = .inr (100, false) := (by decide +kernel : ∀ o, o < q_N0 → q_KD o = .inl 4 → q_KD (q_RF o 3) = .inr (100, false)) o (q_KD_lt h) h
theorem kl_4_3 {o : Nat} (h : q_KD o = .inl 4) : q_RF o 3 < q_N0 := q_KL (kf_4_3 h) (by decide)
theorem kf_4_4 {o : Nat} (h : q_KD o = .inl 4) : q_KD (q_RF o 4) = .inr (100, false) := (by decide +kernel : ∀ o, o < q_N0 → q_KD o = .inl 4 → q_KD (q_RF o 4) = .inr (100, false)) o (q_KD_lt h) h
theorem kl_4_4 {o : Nat} (h : q_KD o = .inl 4) : q_RF o 4 < q_N0 := q_KL (kf_4_4 h) (by decide)
theorem kf_4_5 {o : Nat} (h : q_KD o = .inl 4) : q_KD (q_RF o 5) = .inr (12, false) := (by decide +kernel : ∀ o, o < q_N0 → q_KD o = .inl 4 → q_KD (q_RF o 5) = .inr (12, false)) o (q_KD_lt h) h
theorem kl_4_5 {o : Nat} (h : q_KD o = .inl 4) : q_RF o 5 < q_N0 := q_KL (kf_4_5 h) (by decide)
theorem kf_5_0 {o : Nat} (h : q_KD o = .inl 5) : q_KD (q_RF o 0) = .inr (100, false) := (by decide +kernel : ∀ o, o < q_N0 → q_KD o = .inl 5 → q_KD (q_RF o 0) = .inr (100, false)) o (q_KD_lt h) h
theorem kl_5_0 {o : Nat} (h : q_KD o = .inl 5) : q_RF o 0 < q_N0 := q_KL (kf_5_0 h) (by decide)
theorem kf_5_1 {o : Nat} (h : q_KD o = .inl 5) : q_KD (q_RF o 1) = .inr (10, false) := (by decide +kernel : ∀ o, o < q_N0 → q_KD o = .inl 5 → q_KD (q_RF o 1) = .inr (10, false)) o (q_KD_lt h) h
theorem kl_5_1 {o : Nat} (h : q_KD o = .inl 5) : q_RF o 1 < q_N0 := q_KL (kf_5_1 h) (by decide)
theorem kf_6_0 {o : Nat} (h : q_KD o = .inl 6) : q_KD (q_RF o 0) = .inr (64, false) := (by decide +kernel : ∀ o, o < q_N0 → q_KD o = .inl 6 → q_KD (q_RF o 0) = .inr (64, false)) o (q_KD_lt h) h
theorem kl_6_0 {o : Nat} (h : q_KD o = .inl 6) : q_RF o 0 < q_N0 := q_KL (kf_6_0 h) (by decide)
theorem kf_7_0 {o : Nat} (h : q_KD o = .inl 7) : q_KD (q_RF o 0) = .inl 8 := (by decide +kernel : ∀ o, o < q_N0 → q_KD o = .inl 7 → q_KD (q_RF o 0) = .inl 8) o (q_KD_lt h) h
theorem kf_7_1 {o : Nat} (h : q_KD o = .inl 7) : q_KD (q_RF o 1) = .inl 6 := (by decide +kernel : ∀ o, o < q_N0 → q_KD o = .inl 7 → q_KD (q_RF o 1) = .inl 6) o (q_KD_lt h) h
theorem kf_8_0 {o : Nat} (h : q_KD o = .inl 8) : q_KD (q_RF o 0) = .inr (400, false) := (by decide +kernel : ∀ o, o < q_N0 → q_KD o = .inl 8 → q_KD (q_RF o 0) = .inr (400, false)) o (q_KD_lt h) h
theorem kl_8_0 {o : Nat} (h : q_KD o = .inl 8) : q_RF o 0 < q_N0 := q_KL (kf_8_0 h) (by decide)
theorem kf_9_0 {o : Nat} (h : q_KD o = .inl 9) : q_KD (q_RF o 0) = .inr (12, false) := (by decide +kernel : ∀ o, o < q_N0 → q_KD o = .inl 9 → q_KD (q_RF o 0) = .inr (12, false)) o (q_KD_lt h) h
theorem kl_9_0 {o : Nat} (h : q_KD o = .inl 9) : q_RF o 0 < q_N0 := q_KL (kf_9_0 h) (by decide)
theorem kf_9_1 {o : Nat} (h : q_KD o = .inl 9) : q_KD (q_RF o 1) = .inr (12, false) := (by decide +kernel : ∀ o, o < q_N0 → q_KD o = .inl 9 → q_KD (q_RF o 1) = .inr (12, false)) o (q_KD_lt h) h
theorem kl_9_1 {o : Nat} (h : q_KD o = .inl 9) : q_RF o 1 < q_N0 := q_KL (kf_9_1 h) (by decide)
theorem kf_9_2 {o : Nat} (h : q_KD o = .inl 9) : q_KD (q_RF o 2) = .inr (12, false) := (by decide +kernel : ∀ o, o < q_N0 → q_KD o = .inl 9 → q_KD (q_RF o 2) = .inr (12, false)) o (q_KD_lt h) h
theorem kl_9_2 {o : Nat} (h : q_KD o = .inl 9) : q_RF o 2 < q_N0 := q_KL (kf_9_2 h) (by decide)
theorem kf_9_3 {o : Nat} (h : q_KD o = .inl 9) : q_KD (q_RF o 3) = .inr (12, false) := (by decide +kernel : ∀ o, o < q_N0 → q_KD o = .inl 9 → q_KD (q_RF o 3) = .inr (12, false)) o (q_KD_lt h) h
theorem kl_9_3 {o : Nat} (h : q_KD o = .inl 9) : q_RF o 3 < q_N0 := q_KL (kf_9_3 h) (by decide)
theorem kf_9_4 {o : Nat} (h : q_KD o = .inl 9) : q_KD (q_RF o 4) = .inr (5, false) := (by decide +kernel : ∀ o, o < q_N0 → q_KD o = .inl 9 → q_KD (q_RF o 4) = .inr (5, false)) o (q_KD_lt h) h
theorem kl_9_4 {o : Nat} (h : q_KD o = .inl 9) : q_RF o 4 < q_N0 := q_KL (kf_9_4 h) (by decide)
theorem kf_9_5 {o : Nat} (h : q_KD o = .inl 9) : q_KD (q_RF o 5) = .inr (5, false) := (by decide +kernel : ∀ o, o < q_N0 → q_KD o = .inl 9 → q_KD (q_RF o 5) = .inr (5, false)) o (q_KD_lt h) h
theorem kl_9_5 {o : Nat} (h : q_KD o = .inl 9) : q_RF o 5 < q_N0 := q_KL (kf_9_5 h) (by decide)
theorem kf_9_6 {o : Nat} (h : q_KD o = .inl 9) : q_KD (q_RF o 6) = .inr (5, false) := (by decide +kernel : ∀ o, o < q_N0 → q_KD o = .inl 9 → q_KD (q_RF o 6) = .inr (5, false)) o (q_KD_lt h) h
theorem kl_9_6 {o : Nat} (h : q_KD o = .inl 9) : q_RF o 6 < q_N0 := q_KL (kf_9_6 h) (by decide)
theorem kf_9_7 {o : Nat} (h : q_KD o = .inl 9) : q_KD (q_RF o 7) = .inr (60, false) := (by decide +kernel : ∀ o, o < q_N0 → q_KD o = .inl 9 → q_KD (q_RF o 7) = .inr (60, false)) o (q_KD_lt h) h
theorem kl_9_7 {o : Nat} (h : q_KD o = .inl 9) : q_RF o 7 < q_N0 := q_KL (kf_9_7 h) (by decide)
theorem kf_10_0 {o : Nat} (h : q_KD o = .inl 10) : q_KD (q_RF o 0) = .inl 9 := (by decide +kernel : ∀ o, o < q_N0 → q_KD o = .inl 10 → q_KD (q_RF o 0) = .inl 9) o (q_KD_lt h) h
theorem kf_10_1 {o : Nat} (h : q_KD o = .inl 10) : q_KD (q_RF o 1) = .inl 2 := (by decide +kernel : ∀ o, o < q_N0 → q_KD o = .inl 10 → q_KD (q_RF o 1) = .inl 2) o (q_KD_lt h) h
theorem kf_10_2 {o : Nat} (h : q_KD o = .inl 10) : q_KD (q_RF o 2) = .inl 6 := (by decide +kernel : ∀ o, o < q_N0 → q_KD o = .inl 10 → q_KD (q_RF o 2) = .inl 6) o (q_KD_lt h) h
theorem kf_10_3 {o : Nat} (h : q_KD o = .inl 10) : q_KD (q_RF o 3) = .inl 6 := (by decide +kernel : ∀ o, o < q_N0 → q_KD o = .inl 10 → q_KD (q_RF o 3) = .inl 6) o (q_KD_lt h) h
theorem kf_10_4 {o : Nat} (h : q_KD o = .inl 10) : q_KD (q_RF o 4) = .inl 6 := (by decide +kernel : ∀ o, o < q_N0 → q_KD o = .inl 10 → q_KD (q_RF o 4) = .inl 6) o (q_KD_lt h) h
theorem kf_10_5 {o : Nat} (h : q_KD o = .inl 10) : q_KD (q_RF o 5) = .inl 6 := (by decide +kernel : ∀ o, o < q_N0 → q_KD o = .inl 10 → q_KD (q_RF o 5) = .inl 6) o (q_KD_lt h) h
theorem kf_10_6 {o : Nat} (h : q_KD o = .inl 10) : q_KD (q_RF o 6) = .inl 6 := (by decide +kernel : ∀ o, o < q_N0 → q_KD o = .inl 10 → q_KD (q_RF o 6) = .inl 6) o (q_KD_lt h) h
theorem kf_10_7 {o : Nat} (h : q_KD o = .inl 10) : q_KD (q_RF o 7) = .inr (600, false) := (by decide +kernel : ∀ o, o < q_N0 → q_KD o = .inl 10 → q_KD (q_RF o 7) = .inr (600, false)) o (q_KD_lt h) h
theorem kl_10_7 {o : Nat} (h : q_KD o = .inl 10) : q_RF o 7 < q_N0 := q_KL (kf_10_7 h) (by decide)
theorem kf_10_8 {o : Nat} (h : q_KD o = .inl 10) : q_KD (q_RF o 8) = .inr (10, false) := (by decide +kernel : ∀ o, o < q_N0 → q_KD o = .inl 10 → q_KD (q_RF o 8) = .inr (10, false)) o (q_KD_lt h) h
theorem kl_10_8 {o : Nat} (h : q_KD o = .inl 10) : q_RF o 8 < q_N0 := q_KL (kf_10_8 h) (by decide)
theorem kf_11_0 {o : Nat} (h : q_KD o = .inl 11) : q_KD (q_RF o 0) = .inl 10 := (by decide +kernel : ∀ o, o < q_N0 → q_KD o = .inl 11 → q_KD (q_RF o 0) = .inl 10) o (q_KD_lt h) h
theorem kf_11_1 {o : Nat} (h : q_KD o = .inl 11) : q_KD (q_RF o 1) = .inl 10 := (by decide +kernel : ∀ o, o < q_N0 → q_KD o = .inl 11 → q_KD (q_RF o 1) = .inl 10) o (q_KD_lt h) h
theorem kf_11_3 {o : Nat} (h : q_KD o = .inl 11) : q_KD (q_RF o 3) = .inl 1 := (by decide +kernel : ∀ o, o < q_N0 → q_KD o = .inl 11 → q_KD (q_RF o 3) = .inl 1) o (q_KD_lt h) h
theorem kf_11_4 {o : Nat} (h : q_KD o = .inl 11) : q_KD (q_RF o 4) = .inl 9 := (by decide +kernel : ∀ o, o < q_N0 → q_KD o = .inl 11 → q_KD (q_RF o 4) = .inl 9) o (q_KD_lt h) h
theorem kf_11_5 {o : Nat} (h : q_KD o = .inl 11) : q_KD (q_RF o 5) = .inl 0 := (by decide +kernel : ∀ o, o < q_N0 → q_KD o = .inl 11 → q_KD (q_RF o 5) = .inl 0) o (q_KD_lt h) h
theorem kf_11_6 {o : Nat} (h : q_KD o = .inl 11) : q_KD (q_RF o 6) = .inl 5 := (by decide +kernel : ∀ o, o < q_N0 → q_KD o = .inl 11 → q_KD (q_RF o 6) = .inl 5) o (q_KD_lt h) h
theorem kf_11_7 {o : Nat} (h : q_KD o = .inl 11) : q_KD (q_RF o 7) = .inl 4 := (by decide +kernel : ∀ o, o < q_N0 → q_KD o = .inl 11 → q_KD (q_RF o 7) = .inl 4) o (q_KD_lt h) h
theorem kf_11_8 {o : Nat} (h : q_KD o = .inl 11) : q_KD (q_RF o 8) = .inl 8 := (by decide +kernel : ∀ o, o < q_N0 → q_KD o = .inl 11 → q_KD (q_RF o 8) = .inl 8) o (q_KD_lt h) h
theorem kf_11_9 {o : Nat} (h : q_KD o = .inl 11) : q_KD (q_RF o 9) = .inl 3 := (by decide +kernel : ∀ o, o < q_N0 → q_KD o = .inl 11 → q_KD (q_RF o 9) = .inl 3) o (q_KD_lt h) h
theorem kf_11_10 {o : Nat} (h : q_KD o = .inl 11) : q_KD (q_RF o 10) = .inl 7 := (by decide +kernel : ∀ o, o < q_N0 → q_KD o = .inl 11 → q_KD (q_RF o 10) = .inl 7) o (q_KD_lt h) h
theorem fl_X9_9 : q_fl RX9 9 9 0 (.array .int) true := ⟨_, _, _, cl_9, by decide, q_bm 81 (by decide +kernel) (by decide +kernel), rfl, rfl, rfl⟩
theorem fl_X10_74 : q_fl RX10 74 9 0 (.array .int) true := ⟨_, _, _, cl_9, by decide, q_bm 82 (by decide +kernel) (by decide +kernel), rfl, rfl, rfl⟩
theorem fl_X11_251 : q_fl RX11 251 9 0 (.array .int) true := ⟨_, _, _, cl_9, by decide, q_bm 83 (by decide +kernel) (by decide +kernel), rfl, rfl, rfl⟩
theorem fl_X9_15 : q_fl RX9 15 9 1 (.array .int) true := ⟨_, _, _, cl_9, by decide, q_bm 84 (by decide +kernel) (by decide +kernel), rfl, rfl, rfl⟩
theorem fl_X10_71 : q_fl RX10 71 9 1 (.array .int) true := ⟨_, _, _, cl_9, by decide, q_bm 85 (by decide +kernel) (by decide +kernel), rfl, rfl, rfl⟩
theorem fl_X11_254 : q_fl RX11 254 9 1 (.array .int) true := ⟨_, _, _, cl_9, by decide, q_bm 86 (by decide +kernel) (by decide +kernel), rfl, rfl, rfl⟩
theorem fl_X9_18 : q_fl RX9 18 9 2 (.array .int) true := ⟨_, _, _, cl_9, by decide, q_bm 87 (by decide +kernel) (by decide +kernel), rfl, rfl, rfl⟩
theorem fl_X11_122 : q_fl RX11 122 9 2 (.array .int) true := ⟨_, _, _, cl_9, by decide, q_bm 88 (by decide +kernel) (by decide +kernel), rfl, rfl, rfl⟩
theorem fl_X10_204 : q_fl RX10 204 9 2 (.array .int) true := ⟨_, _, _, cl_9, by decide, q_bm 89 (by decide +kernel) (by decide +kernel), rfl, rfl, rfl⟩
theorem fl_X9_21 : q_fl RX9 21 9 3 (.array .int) true := ⟨_, _, _, cl_9, by decide, q_bm 90 (by decide +kernel) (by decide +kernel), rfl, rfl, rfl⟩
theorem fl_X10_163 : q_fl RX10 163 9 3 (.array .int) true := ⟨_, _, _, cl_9, by decide, q_bm 91 (by decide +kernel) (by decide +kernel), rfl, rfl, rfl⟩
theorem fl_X11_257 : q_fl RX11 257 9 3 (.array .int) true := ⟨_, _, _, cl_9, by decide, q_bm 92 (by decide +kernel) (by decide +kernel), rfl, rfl, rfl⟩
theorem fl_X9_24 : q_fl RX9 24 9 4 (.array .int) true := ⟨_, _, _, cl_9, by decide, q_bm 93 (by decide +kernel) (by decide +kernel), rfl, rfl, rfl⟩
theorem fl_X11_129 : q_fl RX11 129 9 4 (.array .int) true := ⟨_, _, _, cl_9, by decide, q_bm 94 (by decide +kernel) (by decide +kernel), rfl, rfl, rfl⟩
theorem fl_X10_177 : q_fl RX10 177 9 4 (.array .int) true := ⟨_, _, _, cl_9, by decide, q_bm 95 (by decide +kernel) (by decide +kernel), rfl, rfl, rfl⟩
theorem fl_X9_27 : q_fl RX9 27 9 5 (.array .int) true := ⟨_, _, _, cl_9, by decide, q_bm 96 (by decide +kernel) (by decide +kernel), rfl, rfl, rfl⟩
theorem fl_X10_80 : q_fl RX10 80 9 5 (.array .int) true := ⟨_, _, _, cl_9, by decide, q_bm 97 (by decide +kernel) (by decide +kernel), rfl, rfl, rfl⟩
theorem fl_X11_132 : q_fl RX11 132 9 5 (.array .int) true := ⟨_, _, _, cl_9, by decide, q_bm 98 (by decide +kernel) (by decide +kernel), rfl, rfl, rfl⟩
theorem fl_X9_30 : q_fl RX9 30 9 6 (.array .int) true := ⟨_, _, _, cl_9, by decide, q_bm 99 (by decide +kernel) (by decide +kernel), rfl, rfl, rfl⟩
theorem fl_X10_83 : q_fl RX10 83 9 6 (.array .int) true := ⟨_, _, _, cl_9, by decide, q_bm 100 (by decide +kernel) (by decide +kernel), rfl, rfl, rfl⟩
theorem fl_X11_135 : q_fl RX11 135 9 6 (.array .int) true := ⟨_, _, _, cl_9, by decide, q_bm 101 (by decide +kernel) (by decide +kernel), rfl, rfl, rfl⟩
theorem fl_X9_33 : q_fl RX9 33 9 7 (.array .int) true := ⟨_, _, _, cl_9, by decide, q_bm 102 (by decide +kernel) (by decide +kernel), rfl, rfl, rfl⟩
theorem fl_X9_36 : q_fl RX9 36 9 8 (.int) false := ⟨_, _, _, cl_9, by decide, q_bm 103 (by decide +kernel) (by decide +kernel), rfl, rfl, rfl⟩
theorem fl_X0_46 : q_fl RX0 46 9 8 (.int) false := ⟨_, _, _, cl_9, by decide, q_bm 104 (by decide +kernel) (by decide +kernel), rfl, rfl, rfl⟩
theorem fl_X7_77 : q_fl RX7 77 9 8 (.int) false := ⟨_, _, _, cl_9, by decide, q_bm 105 (by decide +kernel) (by decide +kernel), rfl, rfl, rfl⟩
theorem fl_X10_133 : q_fl RX10 133 9 8 (.int) false := ⟨_, _, _, cl_9, by decide, q_bm 106 (by decide +kernel) (by decide +kernel), rfl, rfl, rfl⟩
theorem fl_X11_356 : q_fl RX11 356 9 8 (.int) false := ⟨_, _, _, cl_9, by decide, q_bm 107 (by decide +kernel) (by decide +kernel), rfl, rfl, rfl⟩
theorem fl_X9_40 : q_fl RX9 40 9 9 (.int) false := ⟨_, _, _, cl_9, by decide, q_bm 108 (by decide +kernel) (by decide +kernel), rfl, rfl, rfl⟩
theorem fl_X0_55 : q_fl RX0 55 9 9 (.int) false := ⟨_, _, _, cl_9, by decide, q_bm 109 (by decide +kernel) (by decide +kernel), rfl, rfl, rfl⟩
theorem fl_X7_110 : q_fl RX7 110 9 9 (.int) false := ⟨_, _, _, cl_9, by decide, q_bm 110 (by decide +kernel) (by decide +kernel), rfl, rfl, rfl⟩
theorem fl_X10_192 : q_fl RX10 192 9 9 (.int) false := ⟨_, _, _, cl_9, by decide, q_bm 111 (by decide +kernel) (by decide +kernel), rfl, rfl, rfl⟩
theorem fl_X11_359 : q_fl RX11 359 9 9 (.int) false := ⟨_, _, _, cl_9, by decide, q_bm 112 (by decide +kernel) (by decide +kernel), rfl, rfl, rfl⟩
theorem fl_X9_43 : q_fl RX9 43 9 10 (.int) false := ⟨_, _, _, cl_9, by decide, q_bm 113 (by decide +kernel) (by decide +kernel), rfl, rfl, rfl⟩
theorem fl_X11_84 : q_fl RX11 84 9 10 (.int) false := ⟨_, _, _, cl_9, by decide, q_bm 114 (by decide +kernel) (by decide +kernel), rfl, rfl, rfl⟩
theorem fl_X9_46 : q_fl RX9 46 9 11 (.int) false := ⟨_, _, _, cl_9, by decide, q_bm 115 (by decide +kernel) (by decide +kernel), rfl, rfl, rfl⟩
theorem fl_X10_86 : q_fl RX10 86 9 11 (.int) false := ⟨_, _, _, cl_9, by decide, q_bm 116 (by decide +kernel) (by decide +kernel), rfl, rfl, rfl⟩
theorem fl_X11_109 : q_fl RX11 109 9 11 (.int) false := ⟨_, _, _, cl_9, by decide, q_bm 117 (by decide +kernel) (by decide +kernel), rfl, rfl, rfl⟩
theorem fl_X9_49 : q_fl RX9 49 9 12 (.int) false := ⟨_, _, _, cl_9, by decide, q_bm 118 (by decide +kernel) (by decide +kernel), rfl, rfl, rfl⟩
theorem fl_X11_116 : q_fl RX11 116 9 12 (.int) false := ⟨_, _, _, cl_9, by decide, q_bm 119 (by decide +kernel) (by decide +kernel), rfl, rfl, rfl⟩
theorem fl_X10_195 : q_fl RX10 195 9 12 (.int) false := ⟨_, _, _, cl_9, by decide, q_bm 120 (by decide +kernel) (by decide +kernel), rfl, rfl, rfl⟩
theorem fl_X9_52 : q_fl RX9 52 9 13 (.int) false := ⟨_, _, _, cl_9, by decide, q_bm 121 (by decide +kernel) (by decide +kernel), rfl, rfl, rfl⟩
theorem fl_X11_150 : q_fl RX11 150 9 13 (.int) false := ⟨_, _, _, cl_9, by decide, q_bm 122 (by decide +kernel) (by decide +kernel), rfl, rfl, rfl⟩
theorem fl_X10_140 : q_fl RX10 140 9 13 (.int) false := ⟨_, _, _, cl_9, by decide, q_bm 123 (by decide +kernel) (by decide +kernel), rfl, rfl, rfl⟩
theorem fl_X9_55 : q_fl RX9 55 9 14 (.int) false := ⟨_, _, _, cl_9, by decide, q_bm 124 (by decide +kernel) (by decide +kernel), rfl, rfl, rfl⟩
theorem fl_X10_170 : q_fl RX10 170 9 14 (.int) false := ⟨_, _, _, cl_9, by decide, q_bm 125 (by decide +kernel) (by decide +kernel), rfl, rfl, rfl⟩
theorem fl_X11_293 : q_fl RX11 293 9 14 (.int) false := ⟨_, _, _, cl_9, by decide, q_bm 126 (by decide +kernel) (by decide +kernel), rfl, rfl, rfl⟩
theorem fl_X9_58 : q_fl RX9 58 9 15 (.int) false := ⟨_, _, _, cl_9, by decide, q_bm 127 (by decide +kernel) (by decide +kernel), rfl, rfl, rfl⟩
theorem fl_X10_201 : q_fl RX10 201 9 15 (.int) false := ⟨_, _, _, cl_9, by decide, q_bm 128 (by decide +kernel) (by decide +kernel), rfl, rfl, rfl⟩
theorem fl_X11_290 : q_fl RX11 290 9 15 (.int) false := ⟨_, _, _, cl_9, by decide, q_bm 129 (by decide +kernel) (by decide +kernel), rfl, rfl, rfl⟩
theorem fl_X9_61 : q_fl RX9 61 9 16 (.int) false := ⟨_, _, _, cl_9, by decide, q_bm 130 (by decide +kernel) (by decide +kernel), rfl, rfl, rfl⟩
theorem fl_X10_90 : q_fl RX10 90 9 16 (.int) false := ⟨_, _, _, cl_9, by decide, q_bm 131 (by decide +kernel) (by decide +kernel), rfl, rfl, rfl⟩
theorem fl_X11_171 : q_fl RX11 171 9 16 (.int) false := ⟨_, _, _, cl_9, by decide, q_bm 132 (by decide +kernel) (by decide +kernel), rfl, rfl, rfl⟩
theorem fl_X9_64 : q_fl RX9 64 9 17 (.int) false := ⟨_, _, _, cl_9, by decide, q_bm 133 (by decide +kernel) (by decide +kernel), rfl, rfl, rfl⟩
theorem fl_X10_154 : q_fl RX10 154 9 17 (.int) false := ⟨_, _, _, cl_9, by decide, q_bm 134 (by decide +kernel) (by decide +kernel), rfl, rfl, rfl⟩
theorem fl_X11_272 : q_fl RX11 272 9 17 (.int) false := ⟨_, _, _, cl_9, by decide, q_bm 135 (by decide +kernel) (by decide +kernel), rfl, rfl, rfl⟩
theorem fl_X2_9 : q_fl RX2 9 2 0 (.array .int) true := ⟨_, _, _, cl_2, by decide, q_bm 180 (by decide +kernel) (by decide +kernel), rfl, rfl, rfl⟩
theorem fl_X2_15 : q_fl RX2 15 2 1 (.array .int) true := ⟨_, _, _, cl_2, by decide, q_bm 181 (by decide +kernel) (by decide +kernel), rfl, rfl, rfl⟩
theorem fl_X2_18 : q_fl RX2 18 2 2 (.array .int) true := ⟨_, _, _, cl_2, by decide, q_bm 182 (by decide +kernel) (by decide +kernel), rfl, rfl, rfl⟩
theorem fl_X2_21 : q_fl RX2 21 2 3 (.array .int) true := ⟨_, _, _, cl_2, by decide, q_bm 183 (by decide +kernel) (by decide +kernel), rfl, rfl, rfl⟩
theorem fl_X2_24 : q_fl RX2 24 2 4 (.array .int) true := ⟨_, _, _, cl_2, by decide, q_bm 184 (by decide +kernel) (by decide +kernel), rfl, rfl, rfl⟩
theorem fl_X2_27 : q_fl RX2 27 2 5 (.array .int) true := ⟨_, _, _, cl_2, by decide, q_bm 185 (by decide +kernel) (by decide +kernel), rfl, rfl, rfl⟩
theorem fl_X2_30 : q_fl RX2 30 2 6 (.array .int) true := ⟨_, _, _, cl_2, by decide, q_bm 186 (by decide +kernel) (by decide +kernel), rfl, rfl, rfl⟩
theorem fl_X2_33 : q_fl RX2 33 2 7 (.int) false := ⟨_, _, _, cl_2, by decide, q_bm 187 (by decide +kernel) (by decide +kernel), rfl, rfl, rfl⟩
theorem fl_X2_37 : q_fl RX2 37 2 8 (.int) false := ⟨_, _, _, cl_2, by decide, q_bm 188 (by decide +kernel) (by decide +kernel), rfl, rfl, rfl⟩
theorem fl_X11_203 : q_fl RX11 203 2 8 (.int) false := ⟨_, _, _, cl_2, by decide, q_bm 189 (by decide +kernel) (by decide +kernel), rfl, rfl, rfl⟩
theorem fl_X6_11 : q_fl RX6 11 6 0 (.array .int) true := ⟨_, _, _, cl_6, by decide, q_bm 221 (by decide +kernel) (by decide +kernel), rfl, rfl, rfl⟩
theorem fl_X6_28 : q_fl RX6 28 6 1 (.int) true := ⟨_, _, _, cl_6, by decide, q_bm 222 (by decide +kernel) (by decide +kernel), rfl, rfl, rfl⟩
theorem fl_X6_15 : q_fl RX6 15 6 2 (.int) false := ⟨_, _, _, cl_6, by decide, q_bm 223 (by decide +kernel) (by decide +kernel), rfl, rfl, rfl⟩
theorem fl_X7_57 : q_fl RX7 57 6 2 (.int) false := ⟨_, _, _, cl_6, by decide, q_bm 224 (by decide +kernel) (by decide +kernel), rfl, rfl, rfl⟩
theorem fl_X10_148 : q_fl RX10 148 6 2 (.int) false := ⟨_, _, _, cl_6, by decide, q_bm 225 (by decide +kernel) (by decide +kernel), rfl, rfl, rfl⟩
theorem fl_X11_233 : q_fl RX11 233 6 2 (.int) false := ⟨_, _, _, cl_6, by decide, q_bm 226 (by decide +kernel) (by decide +kernel), rfl, rfl, rfl⟩
theorem fl_X10_12 : q_fl RX10 12 10 0 (.object "MuleVote$Train") true := ⟨_, _, _, cl_10, by decide, q_bm 234 (by decide +kernel) (by decide +kernel), rfl, rfl, rfl⟩
theorem fl_X0_40 : q_fl RX0 40 10 0 (.object "MuleVote$Train") true := ⟨_, _, _, cl_10, by decide, q_bm 235 (by decide +kernel) (by decide +kernel), rfl, rfl, rfl⟩
theorem fl_X11_81 : q_fl RX11 81 10 0 (.object "MuleVote$Train") true := ⟨_, _, _, cl_10, by decide, q_bm 236 (by decide +kernel) (by decide +kernel), rfl, rfl, rfl⟩
theorem fl_X10_21 : q_fl RX10 21 10 1 (.object "MuleVote$Law") true := ⟨_, _, _, cl_10, by decide, q_bm 237 (by decide +kernel) (by decide +kernel), rfl, rfl, rfl⟩
theorem fl_X11_192 : q_fl RX11 192 10 1 (.object "MuleVote$Law") true := ⟨_, _, _, cl_10, by decide, q_bm 238 (by decide +kernel) (by decide +kernel), rfl, rfl, rfl⟩
theorem fl_X10_30 : q_fl RX10 30 10 2 (.object "MuleVote$Rows") true := ⟨_, _, _, cl_10, by decide, q_bm 239 (by decide +kernel) (by decide +kernel), rfl, rfl, rfl⟩
theorem fl_X11_212 : q_fl RX11 212 10 2 (.object "MuleVote$Rows") true := ⟨_, _, _, cl_10, by decide, q_bm 240 (by decide +kernel) (by decide +kernel), rfl, rfl, rfl⟩
theorem fl_X10_34 : q_fl RX10 34 10 3 (.object "MuleVote$Rows") true := ⟨_, _, _, cl_10, by decide, q_bm 241 (by decide +kernel) (by decide +kernel), rfl, rfl, rfl⟩
theorem fl_X11_216 : q_fl RX11 216 10 3 (.object "MuleVote$Rows") true := ⟨_, _, _, cl_10, by decide, q_bm 242 (by decide +kernel) (by decide +kernel), rfl, rfl, rfl⟩
theorem fl_X10_37 : q_fl RX10 37 10 4 (.object "MuleVote$Rows") true := ⟨_, _, _, cl_10, by decide, q_bm 243 (by decide +kernel) (by decide +kernel), rfl, rfl, rfl⟩
theorem fl_X11_219 : q_fl RX11 219 10 4 (.object "MuleVote$Rows") true := ⟨_, _, _, cl_10, by decide, q_bm 244 (by decide +kernel) (by decide +kernel), rfl, rfl, rfl⟩
theorem fl_X10_40 : q_fl RX10 40 10 5 (.object "MuleVote$Rows") true := ⟨_, _, _, cl_10, by decide, q_bm 245 (by decide +kernel) (by decide +kernel), rfl, rfl, rfl⟩
theorem fl_X11_222 : q_fl RX11 222 10 5 (.object "MuleVote$Rows") true := ⟨_, _, _, cl_10, by decide, q_bm 246 (by decide +kernel) (by decide +kernel), rfl, rfl, rfl⟩
theorem fl_X10_43 : q_fl RX10 43 10 6 (.object "MuleVote$Rows") true := ⟨_, _, _, cl_10, by decide, q_bm 247 (by decide +kernel) (by decide +kernel), rfl, rfl, rfl⟩
theorem fl_X11_334 : q_fl RX11 334 10 6 (.object "MuleVote$Rows") true := ⟨_, _, _, cl_10, by decide, q_bm 248 (by decide +kernel) (by decide +kernel), rfl, rfl, rfl⟩
theorem fl_X10_46 : q_fl RX10 46 10 7 (.array .int) true := ⟨_, _, _, cl_10, by decide, q_bm 249 (by decide +kernel) (by decide +kernel), rfl, rfl, rfl⟩
theorem fl_X10_50 : q_fl RX10 50 10 8 (.array .int) true := ⟨_, _, _, cl_10, by decide, q_bm 250 (by decide +kernel) (by decide +kernel), rfl, rfl, rfl⟩
theorem fl_X1_11 : q_fl RX1 11 1 0 (.array (.object "MuleVote$Train")) true := ⟨_, _, _, cl_1, by decide, q_bm 279 (by decide +kernel) (by decide +kernel), rfl, rfl, rfl⟩
theorem fl_X1_17 : q_fl RX1 17 1 1 (.int) false := ⟨_, _, _, cl_1, by decide, q_bm 280 (by decide +kernel) (by decide +kernel), rfl, rfl, rfl⟩
theorem fl_X11_382 : q_fl RX11 382 1 1 (.int) false := ⟨_, _, _, cl_1, by decide, q_bm 281 (by decide +kernel) (by decide +kernel), rfl, rfl, rfl⟩
theorem fl_X0_9 : q_fl RX0 9 0 0 (.array .int) true := ⟨_, _, _, cl_0, by decide, q_bm 295 (by decide +kernel) (by decide +kernel), rfl, rfl, rfl⟩
theorem fl_X0_15 : q_fl RX0 15 0 1 (.array .int) true := ⟨_, _, _, cl_0, by decide, q_bm 296 (by decide +kernel) (by decide +kernel), rfl, rfl, rfl⟩
theorem fl_X0_18 : q_fl RX0 18 0 2 (.array .int) true := ⟨_, _, _, cl_0, by decide, q_bm 297 (by decide +kernel) (by decide +kernel), rfl, rfl, rfl⟩
theorem fl_X0_21 : q_fl RX0 21 0 3 (.array .int) true := ⟨_, _, _, cl_0, by decide, q_bm 298 (by decide +kernel) (by decide +kernel), rfl, rfl, rfl⟩
theorem fl_X0_24 : q_fl RX0 24 0 4 (.array .int) true := ⟨_, _, _, cl_0, by decide, q_bm 299 (by decide +kernel) (by decide +kernel), rfl, rfl, rfl⟩
theorem fl_X0_27 : q_fl RX0 27 0 5 (.int) false := ⟨_, _, _, cl_0, by decide, q_bm 300 (by decide +kernel) (by decide +kernel), rfl, rfl, rfl⟩
theorem fl_X0_31 : q_fl RX0 31 0 6 (.int) false := ⟨_, _, _, cl_0, by decide, q_bm 301 (by decide +kernel) (by decide +kernel), rfl, rfl, rfl⟩
theorem fl_X0_34 : q_fl RX0 34 0 7 (.int) false := ⟨_, _, _, cl_0, by decide, q_bm 302 (by decide +kernel) (by decide +kernel), rfl, rfl, rfl⟩
theorem fl_X0_37 : q_fl RX0 37 0 8 (.int) false := ⟨_, _, _, cl_0, by decide, q_bm 303 (by decide +kernel) (by decide +kernel), rfl, rfl, rfl⟩
theorem fl_X10_169 : q_fl RX10 169 0 8 (.int) false := ⟨_, _, _, cl_0, by decide, q_bm 304 (by decide +kernel) (by decide +kernel), rfl, rfl, rfl⟩
theorem fl_X5_9 : q_fl RX5 9 5 0 (.array .int) true := ⟨_, _, _, cl_5, by decide, q_bm 330 (by decide +kernel) (by decide +kernel), rfl, rfl, rfl⟩
theorem fl_X5_15 : q_fl RX5 15 5 1 (.array .int) true := ⟨_, _, _, cl_5, by decide, q_bm 331 (by decide +kernel) (by decide +kernel), rfl, rfl, rfl⟩
theorem fl_X4_11 : q_fl RX4 11 4 0 (.array .int) true := ⟨_, _, _, cl_4, by decide, q_bm 343 (by decide +kernel) (by decide +kernel), rfl, rfl, rfl⟩
theorem fl_X4_15 : q_fl RX4 15 4 1 (.array .int) true := ⟨_, _, _, cl_4, by decide, q_bm 344 (by decide +kernel) (by decide +kernel), rfl, rfl, rfl⟩
theorem fl_X4_18 : q_fl RX4 18 4 2 (.array .int) true := ⟨_, _, _, cl_4, by decide, q_bm 345 (by decide +kernel) (by decide +kernel), rfl, rfl, rfl⟩
theorem fl_X4_21 : q_fl RX4 21 4 3 (.array .int) true := ⟨_, _, _, cl_4, by decide, q_bm 346 (by decide +kernel) (by decide +kernel), rfl, rfl, rfl⟩
theorem fl_X4_24 : q_fl RX4 24 4 4 (.array .int) true := ⟨_, _, _, cl_4, by decide, q_bm 347 (by decide +kernel) (by decide +kernel), rfl, rfl, rfl⟩
theorem fl_X4_27 : q_fl RX4 27 4 5 (.array .int) true := ⟨_, _, _, cl_4, by decide, q_bm 348 (by decide +kernel) (by decide +kernel), rfl, rfl, rfl⟩
theorem fl_X8_9 : q_fl RX8 9 8 0 (.array .int) true := ⟨_, _, _, cl_8, by decide, q_bm 368 (by decide +kernel) (by decide +kernel), rfl, rfl, rfl⟩
theorem fl_X8_15 : q_fl RX8 15 8 1 (.int) false := ⟨_, _, _, cl_8, by decide, q_bm 369 (by decide +kernel) (by decide +kernel), rfl, rfl, rfl⟩
theorem fl_X11_178 : q_fl RX11 178 8 1 (.int) false := ⟨_, _, _, cl_8, by decide, q_bm 370 (by decide +kernel) (by decide +kernel), rfl, rfl, rfl⟩
theorem fl_X8_19 : q_fl RX8 19 8 2 (.int) false := ⟨_, _, _, cl_8, by decide, q_bm 371 (by decide +kernel) (by decide +kernel), rfl, rfl, rfl⟩
theorem fl_X8_22 : q_fl RX8 22 8 3 (.int) false := ⟨_, _, _, cl_8, by decide, q_bm 372 (by decide +kernel) (by decide +kernel), rfl, rfl, rfl⟩
theorem fl_X8_25 : q_fl RX8 25 8 4 (.int) false := ⟨_, _, _, cl_8, by decide, q_bm 373 (by decide +kernel) (by decide +kernel), rfl, rfl, rfl⟩
theorem fl_X8_28 : q_fl RX8 28 8 5 (.int) false := ⟨_, _, _, cl_8, by decide, q_bm 374 (by decide +kernel) (by decide +kernel), rfl, rfl, rfl⟩
theorem fl_X8_31 : q_fl RX8 31 8 6 (.int) false := ⟨_, _, _, cl_8, by decide, q_bm 375 (by decide +kernel) (by decide +kernel), rfl, rfl, rfl⟩
theorem fl_X3_88 : q_fl RX3 88 8 6 (.int) false := ⟨_, _, _, cl_8, by decide, q_bm 376 (by decide +kernel) (by decide +kernel), rfl, rfl, rfl⟩
theorem fl_X8_34 : q_fl RX8 34 8 7 (.int) false := ⟨_, _, _, cl_8, by decide, q_bm 377 (by decide +kernel) (by decide +kernel), rfl, rfl, rfl⟩
theorem fl_X3_42 : q_fl RX3 42 3 0 (.object "MuleVote$Tape") true := ⟨_, _, _, cl_3, by decide, q_bm 403 (by decide +kernel) (by decide +kernel), rfl, rfl, rfl⟩
theorem fl_X3_12 : q_fl RX3 12 3 1 (.object "MuleVote$Law") true := ⟨_, _, _, cl_3, by decide, q_bm 404 (by decide +kernel) (by decide +kernel), rfl, rfl, rfl⟩
theorem fl_X11_196 : q_fl RX11 196 3 1 (.object "MuleVote$Law") true := ⟨_, _, _, cl_3, by decide, q_bm 405 (by decide +kernel) (by decide +kernel), rfl, rfl, rfl⟩
theorem fl_X3_18 : q_fl RX3 18 3 2 (.array .int) true := ⟨_, _, _, cl_3, by decide, q_bm 406 (by decide +kernel) (by decide +kernel), rfl, rfl, rfl⟩
theorem fl_X3_22 : q_fl RX3 22 3 3 (.int) false := ⟨_, _, _, cl_3, by decide, q_bm 407 (by decide +kernel) (by decide +kernel), rfl, rfl, rfl⟩
theorem fl_X3_26 : q_fl RX3 26 3 4 (.int) false := ⟨_, _, _, cl_3, by decide, q_bm 408 (by decide +kernel) (by decide +kernel), rfl, rfl, rfl⟩
theorem fl_X3_29 : q_fl RX3 29 3 5 (.int) false := ⟨_, _, _, cl_3, by decide, q_bm 409 (by decide +kernel) (by decide +kernel), rfl, rfl, rfl⟩
theorem fl_X3_32 : q_fl RX3 32 3 6 (.int) false := ⟨_, _, _, cl_3, by decide, q_bm 410 (by decide +kernel) (by decide +kernel), rfl, rfl, rfl⟩
theorem fl_X3_35 : q_fl RX3 35 3 7 (.boolean) false := ⟨_, _, _, cl_3, by decide, q_bm 411 (by decide +kernel) (by decide +kernel), rfl, rfl, rfl⟩
theorem fl_X3_39 : q_fl RX3 39 3 8 (.boolean) false := ⟨_, _, _, cl_3, by decide, q_bm 412 (by decide +kernel) (by decide +kernel), rfl, rfl, rfl⟩
theorem fl_X7_20 : q_fl RX7 20 7 0 (.object "MuleVote$Tape") true := ⟨_, _, _, cl_7, by decide, q_bm 440 (by decide +kernel) (by decide +kernel), rfl, rfl, rfl⟩
theorem fl_X7_14 : q_fl RX7 14 7 1 (.object "MuleVote$Rows") true := ⟨_, _, _, cl_7, by decide, q_bm 441 (by decide +kernel) (by decide +kernel), rfl, rfl, rfl⟩
theorem fl_X11_225 : q_fl RX11 225 7 1 (.object "MuleVote$Rows") true := ⟨_, _, _, cl_7, by decide, q_bm 442 (by decide +kernel) (by decide +kernel), rfl, rfl, rfl⟩
theorem fl_X11_12 : q_fl RX11 12 11 0 (.object "MuleVote$World") true := ⟨_, _, _, cl_11, by decide, q_bm 448 (by decide +kernel) (by decide +kernel), rfl, rfl, rfl⟩
theorem fl_X11_16 : q_fl RX11 16 11 1 (.object "MuleVote$World") true := ⟨_, _, _, cl_11, by decide, q_bm 449 (by decide +kernel) (by decide +kernel), rfl, rfl, rfl⟩
theorem fl_X11_19 : q_fl RX11 19 11 2 (.boolean) false := ⟨_, _, _, cl_11, by decide, q_bm 450 (by decide +kernel) (by decide +kernel), rfl, rfl, rfl⟩
theorem fl_X11_26 : q_fl RX11 26 11 3 (.object "MuleVote$History") true := ⟨_, _, _, cl_11, by decide, q_bm 451 (by decide +kernel) (by decide +kernel), rfl, rfl, rfl⟩
theorem fl_X11_33 : q_fl RX11 33 11 4 (.object "MuleVote$Train") true := ⟨_, _, _, cl_11, by decide, q_bm 452 (by decide +kernel) (by decide +kernel), rfl, rfl, rfl⟩
theorem fl_X11_40 : q_fl RX11 40 11 5 (.object "MuleVote$Ballot") true := ⟨_, _, _, cl_11, by decide, q_bm 453 (by decide +kernel) (by decide +kernel), rfl, rfl, rfl⟩
theorem fl_X11_47 : q_fl RX11 47 11 6 (.object "MuleVote$Roads") true := ⟨_, _, _, cl_11, by decide, q_bm 454 (by decide +kernel) (by decide +kernel), rfl, rfl, rfl⟩
theorem fl_X11_54 : q_fl RX11 54 11 7 (.object "MuleVote$Riddles") true := ⟨_, _, _, cl_11, by decide, q_bm 455 (by decide +kernel) (by decide +kernel), rfl, rfl, rfl⟩
theorem fl_X11_61 : q_fl RX11 61 11 8 (.object "MuleVote$Tape") true := ⟨_, _, _, cl_11, by decide, q_bm 456 (by decide +kernel) (by decide +kernel), rfl, rfl, rfl⟩
theorem fl_X11_70 : q_fl RX11 70 11 9 (.object "MuleVote$LawReader") true := ⟨_, _, _, cl_11, by decide, q_bm 457 (by decide +kernel) (by decide +kernel), rfl, rfl, rfl⟩
theorem fl_X11_77 : q_fl RX11 77 11 10 (.object "MuleVote$RowsReader") true := ⟨_, _, _, cl_11, by decide, q_bm 458 (by decide +kernel) (by decide +kernel), rfl, rfl, rfl⟩
theorem mv_J6_bitCount_0f7a4 : q_mst yJ6_bitCount_0f7a4 cJ6_bitCount_0f7a4 1 (some .int) 1 := ⟨⟨⟨(by decide +kernel), (by decide +kernel), (by decide +kernel)⟩, q_bm 57 (by decide +kernel) (by decide +kernel), q_bm 602 (by decide +kernel) (by decide +kernel)⟩, q_bm 601 (by decide +kernel) (by decide +kernel)⟩
theorem mv_J7_fill_53178 : q_mst yJ7_fill_53178 cJ7_fill_53178 4 (none) 2 := ⟨⟨⟨(by decide +kernel), (by decide +kernel), (by decide +kernel)⟩, q_bm 36 (by decide +kernel) (by decide +kernel), q_bm 80 (by decide +kernel) (by decide +kernel)⟩, q_bm 79 (by decide +kernel) (by decide +kernel)⟩
theorem mv_X0_choiceOf : q_mv yX0_choiceOf cX0_choiceOf 3 (some .int) 0 1 := ⟨⟨⟨(by decide +kernel), (by decide +kernel), (by decide +kernel)⟩, q_bm 41 (by decide +kernel) (by decide +kernel), q_bm 637 (by decide +kernel) (by decide +kernel)⟩, q_bm 635 (by decide +kernel) (by decide +kernel), q_bm 636 (by decide +kernel) (by decide +kernel), TX0, rfl⟩
theorem mv_X0_choose : q_mv yX0_choose cX0_choose 8 (some .int) 0 2 := ⟨⟨⟨(by decide +kernel), (by decide +kernel), (by decide +kernel)⟩, q_bm 41 (by decide +kernel) (by decide +kernel), q_bm 629 (by decide +kernel) (by decide +kernel)⟩, q_bm 628 (by decide +kernel) (by decide +kernel), q_bm 5 (by decide +kernel) (by decide +kernel), TX0, rfl⟩
theorem mv_X0_leader : q_mv yX0_leader cX0_leader 5 (some .int) 0 0 := ⟨⟨⟨(by decide +kernel), (by decide +kernel), (by decide +kernel)⟩, q_bm 41 (by decide +kernel) (by decide +kernel), q_bm 633 (by decide +kernel) (by decide +kernel)⟩, q_bm 632 (by decide +kernel) (by decide +kernel), q_bm 6 (by decide +kernel) (by decide +kernel), TX0, rfl⟩
theorem mv_X0_settle : q_mv yX0_settle cX0_settle 9 (none) 0 3 := ⟨⟨⟨(by decide +kernel), (by decide +kernel), (by decide +kernel)⟩, q_bm 41 (by decide +kernel) (by decide +kernel), q_bm 621 (by decide +kernel) (by decide +kernel)⟩, q_bm 619 (by decide +kernel) (by decide +kernel), q_bm 620 (by decide +kernel) (by decide +kernel), TX0, rfl⟩
theorem mv_X0_standNow : q_mv yX0_standNow cX0_standNow 8 (none) 0 1 := ⟨⟨⟨(by decide +kernel), (by decide +kernel), (by decide +kernel)⟩, q_bm 41 (by decide +kernel) (by decide +kernel), q_bm 570 (by decide +kernel) (by decide +kernel)⟩, q_bm 568 (by decide +kernel) (by decide +kernel), q_bm 569 (by decide +kernel) (by decide +kernel), TX0, rfl⟩
theorem mv_X10_canTreat : q_mv yX10_canTreat cX10_canTreat 4 (some .boolean) 10 3 := ⟨⟨⟨(by decide +kernel), (by decide +kernel), (by decide +kernel)⟩, q_bm 34 (by decide +kernel) (by decide +kernel), q_bm 654 (by decide +kernel) (by decide +kernel)⟩, q_bm 652 (by decide +kernel) (by decide +kernel), q_bm 653 (by decide +kernel) (by decide +kernel), TX10, rfl⟩
theorem mv_X10_castVote : q_mv yX10_castVote cX10_castVote 3 (none) 10 1 := ⟨⟨⟨(by decide +kernel), (by decide +kernel), (by decide +kernel)⟩, q_bm 34 (by decide +kernel) (by decide +kernel), q_bm 566 (by decide +kernel) (by decide +kernel)⟩, q_bm 564 (by decide +kernel) (by decide +kernel), q_bm 565 (by decide +kernel) (by decide +kernel), TX10, rfl⟩
theorem mv_X10_doPlan : q_mv yX10_doPlan cX10_doPlan 8 (some .boolean) 10 3 := ⟨⟨⟨(by decide +kernel), (by decide +kernel), (by decide +kernel)⟩, q_bm 34 (by decide +kernel) (by decide +kernel), q_bm 724 (by decide +kernel) (by decide +kernel)⟩, q_bm 723 (by decide +kernel) (by decide +kernel), q_bm 11 (by decide +kernel) (by decide +kernel), TX10, rfl⟩
theorem mv_X10_factsOf : q_mv yX10_factsOf cX10_factsOf 4 (none) 10 2 := ⟨⟨⟨(by decide +kernel), (by decide +kernel), (by decide +kernel)⟩, q_bm 34 (by decide +kernel) (by decide +kernel), q_bm 579 (by decide +kernel) (by decide +kernel)⟩, q_bm 578 (by decide +kernel) (by decide +kernel), q_bm 3 (by decide +kernel) (by decide +kernel), TX10, rfl⟩
theorem mv_X10_giveSalt : q_mv yX10_giveSalt cX10_giveSalt 3 (none) 10 2 := ⟨⟨⟨(by decide +kernel), (by decide +kernel), (by decide +kernel)⟩, q_bm 34 (by decide +kernel) (by decide +kernel), q_bm 662 (by decide +kernel) (by decide +kernel)⟩, q_bm 661 (by decide +kernel) (by decide +kernel), q_bm 8 (by decide +kernel) (by decide +kernel), TX10, rfl⟩
theorem mv_X10_heededBy : q_mv yX10_heededBy cX10_heededBy 4 (some .int) 10 1 := ⟨⟨⟨(by decide +kernel), (by decide +kernel), (by decide +kernel)⟩, q_bm 34 (by decide +kernel) (by decide +kernel), q_bm 595 (by decide +kernel) (by decide +kernel)⟩, q_bm 593 (by decide +kernel) (by decide +kernel), q_bm 594 (by decide +kernel) (by decide +kernel), TX10, rfl⟩
theorem mv_X10_hoursBetween : q_mv yX10_hoursBetween cX10_hoursBetween 4 (some .int) 10 2 := ⟨⟨⟨(by decide +kernel), (by decide +kernel), (by decide +kernel)⟩, q_bm 34 (by decide +kernel) (by decide +kernel), q_bm 688 (by decide +kernel) (by decide +kernel)⟩, q_bm 686 (by decide +kernel) (by decide +kernel), q_bm 687 (by decide +kernel) (by decide +kernel), TX10, rfl⟩
theorem mv_X10_hoursOfGoing : q_mv yX10_hoursOfGoing cX10_hoursOfGoing 2 (some .int) 10 1 := ⟨⟨⟨(by decide +kernel), (by decide +kernel), (by decide +kernel)⟩, q_bm 34 (by decide +kernel) (by decide +kernel), q_bm 684 (by decide +kernel) (by decide +kernel)⟩, q_bm 682 (by decide +kernel) (by decide +kernel), q_bm 683 (by decide +kernel) (by decide +kernel), TX10, rfl⟩
theorem mv_X10_leanNow : q_mv yX10_leanNow cX10_leanNow 4 (some .int) 10 2 := ⟨⟨⟨(by decide +kernel), (by decide +kernel), (by decide +kernel)⟩, q_bm 34 (by decide +kernel) (by decide +kernel), q_bm 922 (by decide +kernel) (by decide +kernel)⟩, q_bm 920 (by decide +kernel) (by decide +kernel), q_bm 921 (by decide +kernel) (by decide +kernel), TX10, rfl⟩
theorem mv_X10_leanOf : q_mv yX10_leanOf cX10_leanOf 6 (some .int) 10 4 := ⟨⟨⟨(by decide +kernel), (by decide +kernel), (by decide +kernel)⟩, q_bm 34 (by decide +kernel) (by decide +kernel), q_bm 613 (by decide +kernel) (by decide +kernel)⟩, q_bm 611 (by decide +kernel) (by decide +kernel), q_bm 612 (by decide +kernel) (by decide +kernel), TX10, rfl⟩
theorem mv_X10_needOf : q_mv yX10_needOf cX10_needOf 2 (some .int) 10 1 := ⟨⟨⟨(by decide +kernel), (by decide +kernel), (by decide +kernel)⟩, q_bm 34 (by decide +kernel) (by decide +kernel), q_bm 575 (by decide +kernel) (by decide +kernel)⟩, q_bm 573 (by decide +kernel) (by decide +kernel), q_bm 574 (by decide +kernel) (by decide +kernel), TX10, rfl⟩
theorem mv_X10_passDay : q_mv yX10_passDay cX10_passDay 5 (some .int) 10 2 := ⟨⟨⟨(by decide +kernel), (by decide +kernel), (by decide +kernel)⟩, q_bm 34 (by decide +kernel) (by decide +kernel), q_bm 720 (by decide +kernel) (by decide +kernel)⟩, q_bm 718 (by decide +kernel) (by decide +kernel), q_bm 719 (by decide +kernel) (by decide +kernel), TX10, rfl⟩
theorem mv_X10_read : q_mv yX10_read cX10_read 3 (some .int) 10 2 := ⟨⟨⟨(by decide +kernel), (by decide +kernel), (by decide +kernel)⟩, q_bm 34 (by decide +kernel) (by decide +kernel), q_bm 742 (by decide +kernel) (by decide +kernel)⟩, q_bm 740 (by decide +kernel) (by decide +kernel), q_bm 741 (by decide +kernel) (by decide +kernel), TX10, rfl⟩
theorem mv_X10_restAll : q_mv yX10_restAll cX10_restAll 2 (some .int) 10 0 := ⟨⟨⟨(by decide +kernel), (by decide +kernel), (by decide +kernel)⟩, q_bm 34 (by decide +kernel) (by decide +kernel), q_bm 710 (by decide +kernel) (by decide +kernel)⟩, q_bm 708 (by decide +kernel) (by decide +kernel), q_bm 709 (by decide +kernel) (by decide +kernel), TX10, rfl⟩
theorem mv_X10_riskOf : q_mv yX10_riskOf cX10_riskOf 4 (some .int) 10 3 := ⟨⟨⟨(by decide +kernel), (by decide +kernel), (by decide +kernel)⟩, q_bm 34 (by decide +kernel) (by decide +kernel), q_bm 696 (by decide +kernel) (by decide +kernel)⟩, q_bm 694 (by decide +kernel) (by decide +kernel), q_bm 695 (by decide +kernel) (by decide +kernel), TX10, rfl⟩
theorem mv_X10_sing : q_mv yX10_sing cX10_sing 4 (none) 10 1 := ⟨⟨⟨(by decide +kernel), (by decide +kernel), (by decide +kernel)⟩, q_bm 34 (by decide +kernel) (by decide +kernel), q_bm 672 (by decide +kernel) (by decide +kernel)⟩, q_bm 671 (by decide +kernel) (by decide +kernel), q_bm 9 (by decide +kernel) (by decide +kernel), TX10, rfl⟩
theorem mv_X10_travel : q_mv yX10_travel cX10_travel 7 (some .int) 10 3 := ⟨⟨⟨(by decide +kernel), (by decide +kernel), (by decide +kernel)⟩, q_bm 34 (by decide +kernel) (by decide +kernel), q_bm 692 (by decide +kernel) (by decide +kernel)⟩, q_bm 690 (by decide +kernel) (by decide +kernel), q_bm 691 (by decide +kernel) (by decide +kernel), TX10, rfl⟩
theorem mv_X10_treat : q_mv yX10_treat cX10_treat 4 (none) 10 3 := ⟨⟨⟨(by decide +kernel), (by decide +kernel), (by decide +kernel)⟩, q_bm 34 (by decide +kernel) (by decide +kernel), q_bm 658 (by decide +kernel) (by decide +kernel)⟩, q_bm 656 (by decide +kernel) (by decide +kernel), q_bm 657 (by decide +kernel) (by decide +kernel), TX10, rfl⟩
theorem mv_X10_whip : q_mv yX10_whip cX10_whip 4 (none) 10 2 := ⟨⟨⟨(by decide +kernel), (by decide +kernel), (by decide +kernel)⟩, q_bm 34 (by decide +kernel) (by decide +kernel), q_bm 676 (by decide +kernel) (by decide +kernel)⟩, q_bm 675 (by decide +kernel) (by decide +kernel), q_bm 10 (by decide +kernel) (by decide +kernel), TX10, rfl⟩
theorem mv_X10_write : q_mv yX10_write cX10_write 5 (none) 10 3 := ⟨⟨⟨(by decide +kernel), (by decide +kernel), (by decide +kernel)⟩, q_bm 34 (by decide +kernel) (by decide +kernel), q_bm 646 (by decide +kernel) (by decide +kernel)⟩, q_bm 645 (by decide +kernel) (by decide +kernel), q_bm 7 (by decide +kernel) (by decide +kernel), TX10, rfl⟩
theorem mv_X11_act : q_mv yX11_act cX11_act 4 (some .boolean) 11 3 := ⟨⟨⟨(by decide +kernel), (by decide +kernel), (by decide +kernel)⟩, q_bm 33 (by decide +kernel) (by decide +kernel), q_bm 650 (by decide +kernel) (by decide +kernel)⟩, q_bm 648 (by decide +kernel) (by decide +kernel), q_bm 649 (by decide +kernel) (by decide +kernel), TX11, rfl⟩
theorem mv_X11_book : q_mv yX11_book cX11_book 3 (some .int) 11 2 := ⟨⟨⟨(by decide +kernel), (by decide +kernel), (by decide +kernel)⟩, q_bm 33 (by decide +kernel) (by decide +kernel), q_bm 738 (by decide +kernel) (by decide +kernel)⟩, q_bm 736 (by decide +kernel) (by decide +kernel), q_bm 737 (by decide +kernel) (by decide +kernel), TX11, rfl⟩
theorem mv_X11_copyRow : q_mst yX11_copyRow cX11_copyRow 2 (none) 2 := ⟨⟨⟨(by decide +kernel), (by decide +kernel), (by decide +kernel)⟩, q_bm 33 (by decide +kernel) (by decide +kernel), q_bm 558 (by decide +kernel) (by decide +kernel)⟩, q_bm 557 (by decide +kernel) (by decide +kernel)⟩
theorem mv_X11_days : q_mv yX11_days cX11_days 4 (some .int) 11 1 := ⟨⟨⟨(by decide +kernel), (by decide +kernel), (by decide +kernel)⟩, q_bm 33 (by decide +kernel) (by decide +kernel), q_bm 716 (by decide +kernel) (by decide +kernel)⟩, q_bm 714 (by decide +kernel) (by decide +kernel), q_bm 715 (by decide +kernel) (by decide +kernel), TX11, rfl⟩
theorem mv_X11_end : q_mv yX11_end cX11_end 2 (some .boolean) 11 1 := ⟨⟨⟨(by decide +kernel), (by decide +kernel), (by decide +kernel)⟩, q_bm 33 (by decide +kernel) (by decide +kernel), q_bm 1220 (by decide +kernel) (by decide +kernel)⟩, q_bm 1218 (by decide +kernel) (by decide +kernel), q_bm 1219 (by decide +kernel) (by decide +kernel), TX11, rfl⟩
theorem mv_X11_feed : q_mv yX11_feed cX11_feed 6 (some .int) 11 5 := ⟨⟨⟨(by decide +kernel), (by decide +kernel), (by decide +kernel)⟩, q_bm 33 (by decide +kernel) (by decide +kernel), q_bm 1212 (by decide +kernel) (by decide +kernel)⟩, q_bm 1210 (by decide +kernel) (by decide +kernel), q_bm 1211 (by decide +kernel) (by decide +kernel), TX11, rfl⟩
theorem mv_X11_go : q_mv yX11_go cX11_go 3 (some .int) 11 1 := ⟨⟨⟨(by decide +kernel), (by decide +kernel), (by decide +kernel)⟩, q_bm 33 (by decide +kernel) (by decide +kernel), q_bm 680 (by decide +kernel) (by decide +kernel)⟩, q_bm 678 (by decide +kernel) (by decide +kernel), q_bm 679 (by decide +kernel) (by decide +kernel), TX11, rfl⟩
theorem mv_X11_isCamp : q_mst yX11_isCamp cX11_isCamp 1 (some .boolean) 1 := ⟨⟨⟨(by decide +kernel), (by decide +kernel), (by decide +kernel)⟩, q_bm 33 (by decide +kernel) (by decide +kernel), q_bm 523 (by decide +kernel) (by decide +kernel)⟩, q_bm 522 (by decide +kernel) (by decide +kernel)⟩
theorem mv_X11_isIn : q_mst yX11_isIn cX11_isIn 2 (some .boolean) 2 := ⟨⟨⟨(by decide +kernel), (by decide +kernel), (by decide +kernel)⟩, q_bm 33 (by decide +kernel) (by decide +kernel), q_bm 625 (by decide +kernel) (by decide +kernel)⟩, q_bm 624 (by decide +kernel) (by decide +kernel)⟩
theorem mv_X11_isWithin : q_mst yX11_isWithin cX11_isWithin 3 (some .boolean) 3 := ⟨⟨⟨(by decide +kernel), (by decide +kernel), (by decide +kernel)⟩, q_bm 33 (by decide +kernel) (by decide +kernel), q_bm 488 (by decide +kernel) (by decide +kernel)⟩, q_bm 487 (by decide +kernel) (by decide +kernel)⟩
theorem mv_X11_like : q_mv yX11_like cX11_like 5 (some .boolean) 11 3 := ⟨⟨⟨(by decide +kernel), (by decide +kernel), (by decide +kernel)⟩, q_bm 33 (by decide +kernel) (by decide +kernel), q_bm 531 (by decide +kernel) (by decide +kernel)⟩, q_bm 529 (by decide +kernel) (by decide +kernel), q_bm 530 (by decide +kernel) (by decide +kernel), TX11, rfl⟩
theorem mv_X11_look : q_mv yX11_look cX11_look 3 (some .int) 11 1 := ⟨⟨⟨(by decide +kernel), (by decide +kernel), (by decide +kernel)⟩, q_bm 33 (by decide +kernel) (by decide +kernel), q_bm 754 (by decide +kernel) (by decide +kernel)⟩, q_bm 752 (by decide +kernel) (by decide +kernel), q_bm 753 (by decide +kernel) (by decide +kernel), TX11, rfl⟩
theorem mv_X11_man : q_mv yX11_man cX11_man 5 (some .int) 11 3 := ⟨⟨⟨(by decide +kernel), (by decide +kernel), (by decide +kernel)⟩, q_bm 33 (by decide +kernel) (by decide +kernel), q_bm 500 (by decide +kernel) (by decide +kernel)⟩, q_bm 498 (by decide +kernel) (by decide +kernel), q_bm 499 (by decide +kernel) (by decide +kernel), TX11, rfl⟩
theorem mv_X11_manOf : q_mv yX11_manOf cX11_manOf 4 (some .int) 11 2 := ⟨⟨⟨(by decide +kernel), (by decide +kernel), (by decide +kernel)⟩, q_bm 33 (by decide +kernel) (by decide +kernel), q_bm 932 (by decide +kernel) (by decide +kernel)⟩, q_bm 930 (by decide +kernel) (by decide +kernel), q_bm 931 (by decide +kernel) (by decide +kernel), TX11, rfl⟩
theorem mv_X11_mule : q_mv yX11_mule cX11_mule 4 (some .int) 11 2 := ⟨⟨⟨(by decide +kernel), (by decide +kernel), (by decide +kernel)⟩, q_bm 33 (by decide +kernel) (by decide +kernel), q_bm 485 (by decide +kernel) (by decide +kernel)⟩, q_bm 483 (by decide +kernel) (by decide +kernel), q_bm 484 (by decide +kernel) (by decide +kernel), TX11, rfl⟩
theorem mv_X11_of : q_mv yX11_of cX11_of 4 (some .int) 11 2 := ⟨⟨⟨(by decide +kernel), (by decide +kernel), (by decide +kernel)⟩, q_bm 33 (by decide +kernel) (by decide +kernel), q_bm 917 (by decide +kernel) (by decide +kernel)⟩, q_bm 915 (by decide +kernel) (by decide +kernel), q_bm 916 (by decide +kernel) (by decide +kernel), TX11, rfl⟩
theorem mv_X11_path : q_mv yX11_path cX11_path 3 (some .int) 11 2 := ⟨⟨⟨(by decide +kernel), (by decide +kernel), (by decide +kernel)⟩, q_bm 33 (by decide +kernel) (by decide +kernel), q_bm 733 (by decide +kernel) (by decide +kernel)⟩, q_bm 731 (by decide +kernel) (by decide +kernel), q_bm 732 (by decide +kernel) (by decide +kernel), TX11, rfl⟩
theorem mv_X11_rest : q_mv yX11_rest cX11_rest 1 (some .int) 11 0 := ⟨⟨⟨(by decide +kernel), (by decide +kernel), (by decide +kernel)⟩, q_bm 33 (by decide +kernel) (by decide +kernel), q_bm 706 (by decide +kernel) (by decide +kernel)⟩, q_bm 704 (by decide +kernel) (by decide +kernel), q_bm 705 (by decide +kernel) (by decide +kernel), TX11, rfl⟩
theorem mv_X11_set : q_mv yX11_set cX11_set 5 (some .boolean) 11 3 := ⟨⟨⟨(by decide +kernel), (by decide +kernel), (by decide +kernel)⟩, q_bm 33 (by decide +kernel) (by decide +kernel), q_bm 508 (by decide +kernel) (by decide +kernel)⟩, q_bm 506 (by decide +kernel) (by decide +kernel), q_bm 507 (by decide +kernel) (by decide +kernel), TX11, rfl⟩
theorem mv_X11_state : q_mv yX11_state cX11_state 3 (some .int) 11 1 := ⟨⟨⟨(by decide +kernel), (by decide +kernel), (by decide +kernel)⟩, q_bm 33 (by decide +kernel) (by decide +kernel), q_bm 1490 (by decide +kernel) (by decide +kernel)⟩, q_bm 1488 (by decide +kernel) (by decide +kernel), q_bm 1489 (by decide +kernel) (by decide +kernel), TX11, rfl⟩
theorem mv_X11_takeRows : q_mv yX11_takeRows cX11_takeRows 3 (some .int) 11 1 := ⟨⟨⟨(by decide +kernel), (by decide +kernel), (by decide +kernel)⟩, q_bm 33 (by decide +kernel) (by decide +kernel), q_bm 1454 (by decide +kernel) (by decide +kernel)⟩, q_bm 1453 (by decide +kernel) (by decide +kernel), q_bm 31 (by decide +kernel) (by decide +kernel), TX11, rfl⟩
theorem mv_X11_tellOfMan : q_mv yX11_tellOfMan cX11_tellOfMan 5 (some .boolean) 11 3 := ⟨⟨⟨(by decide +kernel), (by decide +kernel), (by decide +kernel)⟩, q_bm 33 (by decide +kernel) (by decide +kernel), q_bm 512 (by decide +kernel) (by decide +kernel)⟩, q_bm 511 (by decide +kernel) (by decide +kernel), q_bm 0 (by decide +kernel) (by decide +kernel), TX11, rfl⟩
theorem mv_X11_tellOfTrain : q_mv yX11_tellOfTrain cX11_tellOfTrain 5 (some .boolean) 11 3 := ⟨⟨⟨(by decide +kernel), (by decide +kernel), (by decide +kernel)⟩, q_bm 33 (by decide +kernel) (by decide +kernel), q_bm 520 (by decide +kernel) (by decide +kernel)⟩, q_bm 519 (by decide +kernel) (by decide +kernel), q_bm 1 (by decide +kernel) (by decide +kernel), TX11, rfl⟩
theorem mv_X11_text : q_mv yX11_text cX11_text 3 (some .int) 11 1 := ⟨⟨⟨(by decide +kernel), (by decide +kernel), (by decide +kernel)⟩, q_bm 33 (by decide +kernel) (by decide +kernel), q_bm 1224 (by decide +kernel) (by decide +kernel)⟩, q_bm 1222 (by decide +kernel) (by decide +kernel), q_bm 1223 (by decide +kernel) (by decide +kernel), TX11, rfl⟩
theorem mv_X11_undo : q_mv yX11_undo cX11_undo 1 (some .boolean) 11 0 := ⟨⟨⟨(by decide +kernel), (by decide +kernel), (by decide +kernel)⟩, q_bm 33 (by decide +kernel) (by decide +kernel), q_bm 746 (by decide +kernel) (by decide +kernel)⟩, q_bm 744 (by decide +kernel) (by decide +kernel), q_bm 745 (by decide +kernel) (by decide +kernel), TX11, rfl⟩
theorem mv_X11_vote : q_mv yX11_vote cX11_vote 1 (some .int) 11 0 := ⟨⟨⟨(by decide +kernel), (by decide +kernel), (by decide +kernel)⟩, q_bm 33 (by decide +kernel) (by decide +kernel), q_bm 543 (by decide +kernel) (by decide +kernel)⟩, q_bm 541 (by decide +kernel) (by decide +kernel), q_bm 542 (by decide +kernel) (by decide +kernel), TX11, rfl⟩
theorem mv_X1_dropOldest : q_mv yX1_dropOldest cX1_dropOldest 3 (none) 1 0 := ⟨⟨⟨(by decide +kernel), (by decide +kernel), (by decide +kernel)⟩, q_bm 40 (by decide +kernel) (by decide +kernel), q_bm 551 (by decide +kernel) (by decide +kernel)⟩, q_bm 550 (by decide +kernel) (by decide +kernel), q_bm 2 (by decide +kernel) (by decide +kernel), TX1, rfl⟩
theorem mv_X1_forget : q_mv yX1_forget cX1_forget 1 (none) 1 0 := ⟨⟨⟨(by decide +kernel), (by decide +kernel), (by decide +kernel)⟩, q_bm 40 (by decide +kernel) (by decide +kernel), q_bm 496 (by decide +kernel) (by decide +kernel)⟩, q_bm 494 (by decide +kernel) (by decide +kernel), q_bm 495 (by decide +kernel) (by decide +kernel), TX1, rfl⟩
theorem mv_X1_giveBack : q_mv yX1_giveBack cX1_giveBack 3 (some .boolean) 1 1 := ⟨⟨⟨(by decide +kernel), (by decide +kernel), (by decide +kernel)⟩, q_bm 40 (by decide +kernel) (by decide +kernel), q_bm 750 (by decide +kernel) (by decide +kernel)⟩, q_bm 748 (by decide +kernel) (by decide +kernel), q_bm 749 (by decide +kernel) (by decide +kernel), TX1, rfl⟩
theorem mv_X1_keep : q_mv yX1_keep cX1_keep 3 (none) 1 1 := ⟨⟨⟨(by decide +kernel), (by decide +kernel), (by decide +kernel)⟩, q_bm 40 (by decide +kernel) (by decide +kernel), q_bm 547 (by decide +kernel) (by decide +kernel)⟩, q_bm 545 (by decide +kernel) (by decide +kernel), q_bm 546 (by decide +kernel) (by decide +kernel), TX1, rfl⟩
theorem mv_X2_beginLine : q_mv yX2_beginLine cX2_beginLine 2 (none) 2 1 := ⟨⟨⟨(by decide +kernel), (by decide +kernel), (by decide +kernel)⟩, q_bm 37 (by decide +kernel) (by decide +kernel), q_bm 1280 (by decide +kernel) (by decide +kernel)⟩, q_bm 1278 (by decide +kernel) (by decide +kernel), q_bm 1279 (by decide +kernel) (by decide +kernel), TX2, rfl⟩
theorem mv_X2_beginWhen : q_mv yX2_beginWhen cX2_beginWhen 1 (none) 2 0 := ⟨⟨⟨(by decide +kernel), (by decide +kernel), (by decide +kernel)⟩, q_bm 37 (by decide +kernel) (by decide +kernel), q_bm 1365 (by decide +kernel) (by decide +kernel)⟩, q_bm 1363 (by decide +kernel) (by decide +kernel), q_bm 1364 (by decide +kernel) (by decide +kernel), TX2, rfl⟩
theorem mv_X2_clear : q_mv yX2_clear cX2_clear 1 (none) 2 0 := ⟨⟨⟨(by decide +kernel), (by decide +kernel), (by decide +kernel)⟩, q_bm 37 (by decide +kernel) (by decide +kernel), q_bm 1250 (by decide +kernel) (by decide +kernel)⟩, q_bm 1248 (by decide +kernel) (by decide +kernel), q_bm 1249 (by decide +kernel) (by decide +kernel), TX2, rfl⟩
theorem mv_X2_copyFrom : q_mv yX2_copyFrom cX2_copyFrom 2 (none) 2 1 := ⟨⟨⟨(by decide +kernel), (by decide +kernel), (by decide +kernel)⟩, q_bm 37 (by decide +kernel) (by decide +kernel), q_bm 1380 (by decide +kernel) (by decide +kernel)⟩, q_bm 1378 (by decide +kernel) (by decide +kernel), q_bm 1379 (by decide +kernel) (by decide +kernel), TX2, rfl⟩
theorem mv_X2_emit : q_mv yX2_emit cX2_emit 3 (none) 2 2 := ⟨⟨⟨(by decide +kernel), (by decide +kernel), (by decide +kernel)⟩, q_bm 37 (by decide +kernel) (by decide +kernel), q_bm 1309 (by decide +kernel) (by decide +kernel)⟩, q_bm 1307 (by decide +kernel) (by decide +kernel), q_bm 1308 (by decide +kernel) (by decide +kernel), TX2, rfl⟩
theorem mv_X2_endLine : q_mv yX2_endLine cX2_endLine 1 (none) 2 0 := ⟨⟨⟨(by decide +kernel), (by decide +kernel), (by decide +kernel)⟩, q_bm 37 (by decide +kernel) (by decide +kernel), q_bm 1361 (by decide +kernel) (by decide +kernel)⟩, q_bm 1359 (by decide +kernel) (by decide +kernel), q_bm 1360 (by decide +kernel) (by decide +kernel), TX2, rfl⟩
theorem mv_X2_isFull : q_mv yX2_isFull cX2_isFull 1 (some .boolean) 2 0 := ⟨⟨⟨(by decide +kernel), (by decide +kernel), (by decide +kernel)⟩, q_bm 37 (by decide +kernel) (by decide +kernel), q_bm 1275 (by decide +kernel) (by decide +kernel)⟩, q_bm 1273 (by decide +kernel) (by decide +kernel), q_bm 1274 (by decide +kernel) (by decide +kernel), TX2, rfl⟩
theorem mv_X2_run : q_mv yX2_run cX2_run 10 (some .int) 2 3 := ⟨⟨⟨(by decide +kernel), (by decide +kernel), (by decide +kernel)⟩, q_bm 37 (by decide +kernel) (by decide +kernel), q_bm 589 (by decide +kernel) (by decide +kernel)⟩, q_bm 588 (by decide +kernel) (by decide +kernel), q_bm 4 (by decide +kernel) (by decide +kernel), TX2, rfl⟩
theorem mv_X2_tells : q_mv yX2_tells cX2_tells 5 (some .int) 2 3 := ⟨⟨⟨(by decide +kernel), (by decide +kernel), (by decide +kernel)⟩, q_bm 37 (by decide +kernel) (by decide +kernel), q_bm 585 (by decide +kernel) (by decide +kernel)⟩, q_bm 583 (by decide +kernel) (by decide +kernel), q_bm 584 (by decide +kernel) (by decide +kernel), TX2, rfl⟩
theorem mv_X3_endLine : q_mv yX3_endLine cX3_endLine 1 (some .boolean) 3 0 := ⟨⟨⟨(by decide +kernel), (by decide +kernel), (by decide +kernel)⟩, q_bm 45 (by decide +kernel) (by decide +kernel), q_bm 1357 (by decide +kernel) (by decide +kernel)⟩, q_bm 1356 (by decide +kernel) (by decide +kernel), q_bm 23 (by decide +kernel) (by decide +kernel), TX3, rfl⟩
theorem mv_X3_factAtHand : q_mv yX3_factAtHand cX3_factAtHand 1 (some .int) 3 0 := ⟨⟨⟨(by decide +kernel), (by decide +kernel), (by decide +kernel)⟩, q_bm 45 (by decide +kernel) (by decide +kernel), q_bm 1313 (by decide +kernel) (by decide +kernel)⟩, q_bm 1312 (by decide +kernel) (by decide +kernel), q_bm 17 (by decide +kernel) (by decide +kernel), TX3, rfl⟩
theorem mv_X3_join : q_mv yX3_join cX3_join 3 (some .boolean) 3 2 := ⟨⟨⟨(by decide +kernel), (by decide +kernel), (by decide +kernel)⟩, q_bm 45 (by decide +kernel) (by decide +kernel), q_bm 1348 (by decide +kernel) (by decide +kernel)⟩, q_bm 1347 (by decide +kernel) (by decide +kernel), q_bm 21 (by decide +kernel) (by decide +kernel), TX3, rfl⟩
theorem mv_X3_push : q_mv yX3_push cX3_push 2 (none) 3 1 := ⟨⟨⟨(by decide +kernel), (by decide +kernel), (by decide +kernel)⟩, q_bm 45 (by decide +kernel) (by decide +kernel), q_bm 1293 (by decide +kernel) (by decide +kernel)⟩, q_bm 1292 (by decide +kernel) (by decide +kernel), q_bm 16 (by decide +kernel) (by decide +kernel), TX3, rfl⟩
theorem mv_X3_rank : q_mst yX3_rank cX3_rank 1 (some .int) 1 := ⟨⟨⟨(by decide +kernel), (by decide +kernel), (by decide +kernel)⟩, q_bm 45 (by decide +kernel) (by decide +kernel), q_bm 1334 (by decide +kernel) (by decide +kernel)⟩, q_bm 1333 (by decide +kernel) (by decide +kernel)⟩
theorem mv_X3_read : q_mv yX3_read cX3_read 2 (some .boolean) 3 0 := ⟨⟨⟨(by decide +kernel), (by decide +kernel), (by decide +kernel)⟩, q_bm 45 (by decide +kernel) (by decide +kernel), q_bm 1246 (by decide +kernel) (by decide +kernel)⟩, q_bm 1244 (by decide +kernel) (by decide +kernel), q_bm 1245 (by decide +kernel) (by decide +kernel), TX3, rfl⟩
theorem mv_X3_readClosing : q_mv yX3_readClosing cX3_readClosing 1 (some .boolean) 3 0 := ⟨⟨⟨(by decide +kernel), (by decide +kernel), (by decide +kernel)⟩, q_bm 45 (by decide +kernel) (by decide +kernel), q_bm 1375 (by decide +kernel) (by decide +kernel)⟩, q_bm 1374 (by decide +kernel) (by decide +kernel), q_bm 25 (by decide +kernel) (by decide +kernel), TX3, rfl⟩
theorem mv_X3_readComparison : q_mv yX3_readComparison cX3_readComparison 2 (some .boolean) 3 0 := ⟨⟨⟨(by decide +kernel), (by decide +kernel), (by decide +kernel)⟩, q_bm 45 (by decide +kernel) (by decide +kernel), q_bm 1369 (by decide +kernel) (by decide +kernel)⟩, q_bm 1368 (by decide +kernel) (by decide +kernel), q_bm 24 (by decide +kernel) (by decide +kernel), TX3, rfl⟩
theorem mv_X3_readLine : q_mv yX3_readLine cX3_readLine 4 (some .boolean) 3 0 := ⟨⟨⟨(by decide +kernel), (by decide +kernel), (by decide +kernel)⟩, q_bm 45 (by decide +kernel) (by decide +kernel), q_bm 1258 (by decide +kernel) (by decide +kernel)⟩, q_bm 1257 (by decide +kernel) (by decide +kernel), q_bm 13 (by decide +kernel) (by decide +kernel), TX3, rfl⟩
theorem mv_X3_readOpening : q_mv yX3_readOpening cX3_readOpening 2 (some .boolean) 3 1 := ⟨⟨⟨(by decide +kernel), (by decide +kernel), (by decide +kernel)⟩, q_bm 45 (by decide +kernel) (by decide +kernel), q_bm 1289 (by decide +kernel) (by decide +kernel)⟩, q_bm 1288 (by decide +kernel) (by decide +kernel), q_bm 15 (by decide +kernel) (by decide +kernel), TX3, rfl⟩
theorem mv_X3_readOperand : q_mv yX3_readOperand cX3_readOperand 2 (some .boolean) 3 0 := ⟨⟨⟨(by decide +kernel), (by decide +kernel), (by decide +kernel)⟩, q_bm 45 (by decide +kernel) (by decide +kernel), q_bm 1284 (by decide +kernel) (by decide +kernel)⟩, q_bm 1283 (by decide +kernel) (by decide +kernel), q_bm 14 (by decide +kernel) (by decide +kernel), TX3, rfl⟩
theorem mv_X3_readPart : q_mv yX3_readPart cX3_readPart 2 (some .boolean) 3 0 := ⟨⟨⟨(by decide +kernel), (by decide +kernel), (by decide +kernel)⟩, q_bm 45 (by decide +kernel) (by decide +kernel), q_bm 1331 (by decide +kernel) (by decide +kernel)⟩, q_bm 1330 (by decide +kernel) (by decide +kernel), q_bm 19 (by decide +kernel) (by decide +kernel), TX3, rfl⟩
theorem mv_X3_readSign : q_mv yX3_readSign cX3_readSign 2 (some .boolean) 3 0 := ⟨⟨⟨(by decide +kernel), (by decide +kernel), (by decide +kernel)⟩, q_bm 45 (by decide +kernel) (by decide +kernel), q_bm 1327 (by decide +kernel) (by decide +kernel)⟩, q_bm 1326 (by decide +kernel) (by decide +kernel), q_bm 18 (by decide +kernel) (by decide +kernel), TX3, rfl⟩
theorem mv_X3_readWhen : q_mv yX3_readWhen cX3_readWhen 1 (some .boolean) 3 0 := ⟨⟨⟨(by decide +kernel), (by decide +kernel), (by decide +kernel)⟩, q_bm 45 (by decide +kernel) (by decide +kernel), q_bm 1352 (by decide +kernel) (by decide +kernel)⟩, q_bm 1351 (by decide +kernel) (by decide +kernel), q_bm 22 (by decide +kernel) (by decide +kernel), TX3, rfl⟩
theorem mv_X3_release : q_mv yX3_release cX3_release 2 (none) 3 1 := ⟨⟨⟨(by decide +kernel), (by decide +kernel), (by decide +kernel)⟩, q_bm 45 (by decide +kernel) (by decide +kernel), q_bm 1338 (by decide +kernel) (by decide +kernel)⟩, q_bm 1337 (by decide +kernel) (by decide +kernel), q_bm 20 (by decide +kernel) (by decide +kernel), TX3, rfl⟩
theorem mv_X6_add : q_mv yX6_add cX6_add 6 (none) 6 4 := ⟨⟨⟨(by decide +kernel), (by decide +kernel), (by decide +kernel)⟩, q_bm 38 (by decide +kernel) (by decide +kernel), q_bm 1422 (by decide +kernel) (by decide +kernel)⟩, q_bm 1420 (by decide +kernel) (by decide +kernel), q_bm 1421 (by decide +kernel) (by decide +kernel), TX6, rfl⟩
theorem mv_X6_cell : q_mv yX6_cell cX6_cell 3 (some .int) 6 2 := ⟨⟨⟨(by decide +kernel), (by decide +kernel), (by decide +kernel)⟩, q_bm 38 (by decide +kernel) (by decide +kernel), q_bm 599 (by decide +kernel) (by decide +kernel)⟩, q_bm 597 (by decide +kernel) (by decide +kernel), q_bm 598 (by decide +kernel) (by decide +kernel), TX6, rfl⟩
theorem mv_X6_clear : q_mv yX6_clear cX6_clear 1 (none) 6 0 := ⟨⟨⟨(by decide +kernel), (by decide +kernel), (by decide +kernel)⟩, q_bm 38 (by decide +kernel) (by decide +kernel), q_bm 1389 (by decide +kernel) (by decide +kernel)⟩, q_bm 1387 (by decide +kernel) (by decide +kernel), q_bm 1388 (by decide +kernel) (by decide +kernel), TX6, rfl⟩
theorem mv_X6_copyFrom : q_mv yX6_copyFrom cX6_copyFrom 2 (none) 6 1 := ⟨⟨⟨(by decide +kernel), (by decide +kernel), (by decide +kernel)⟩, q_bm 38 (by decide +kernel) (by decide +kernel), q_bm 1458 (by decide +kernel) (by decide +kernel)⟩, q_bm 1456 (by decide +kernel) (by decide +kernel), q_bm 1457 (by decide +kernel) (by decide +kernel), TX6, rfl⟩
theorem mv_X7_read : q_mv yX7_read cX7_read 4 (some .boolean) 7 2 := ⟨⟨⟨(by decide +kernel), (by decide +kernel), (by decide +kernel)⟩, q_bm 46 (by decide +kernel) (by decide +kernel), q_bm 1385 (by decide +kernel) (by decide +kernel)⟩, q_bm 1383 (by decide +kernel) (by decide +kernel), q_bm 1384 (by decide +kernel) (by decide +kernel), TX7, rfl⟩
theorem mv_X7_readHeed : q_mv yX7_readHeed cX7_readHeed 7 (some .boolean) 7 1 := ⟨⟨⟨(by decide +kernel), (by decide +kernel), (by decide +kernel)⟩, q_bm 46 (by decide +kernel) (by decide +kernel), q_bm 1405 (by decide +kernel) (by decide +kernel)⟩, q_bm 1404 (by decide +kernel) (by decide +kernel), q_bm 27 (by decide +kernel) (by decide +kernel), TX7, rfl⟩
theorem mv_X7_readLine : q_mv yX7_readLine cX7_readLine 4 (some .boolean) 7 2 := ⟨⟨⟨(by decide +kernel), (by decide +kernel), (by decide +kernel)⟩, q_bm 46 (by decide +kernel) (by decide +kernel), q_bm 1394 (by decide +kernel) (by decide +kernel)⟩, q_bm 1393 (by decide +kernel) (by decide +kernel), q_bm 26 (by decide +kernel) (by decide +kernel), TX7, rfl⟩
theorem mv_X7_readLoad : q_mv yX7_readLoad cX7_readLoad 3 (some .boolean) 7 0 := ⟨⟨⟨(by decide +kernel), (by decide +kernel), (by decide +kernel)⟩, q_bm 46 (by decide +kernel) (by decide +kernel), q_bm 1440 (by decide +kernel) (by decide +kernel)⟩, q_bm 1439 (by decide +kernel) (by decide +kernel), q_bm 30 (by decide +kernel) (by decide +kernel), TX7, rfl⟩
theorem mv_X7_readPath : q_mv yX7_readPath cX7_readPath 4 (some .boolean) 7 0 := ⟨⟨⟨(by decide +kernel), (by decide +kernel), (by decide +kernel)⟩, q_bm 46 (by decide +kernel) (by decide +kernel), q_bm 1435 (by decide +kernel) (by decide +kernel)⟩, q_bm 1434 (by decide +kernel) (by decide +kernel), q_bm 29 (by decide +kernel) (by decide +kernel), TX7, rfl⟩
theorem mv_X7_readPlan : q_mv yX7_readPlan cX7_readPlan 6 (some .boolean) 7 1 := ⟨⟨⟨(by decide +kernel), (by decide +kernel), (by decide +kernel)⟩, q_bm 46 (by decide +kernel) (by decide +kernel), q_bm 1426 (by decide +kernel) (by decide +kernel)⟩, q_bm 1425 (by decide +kernel) (by decide +kernel), q_bm 28 (by decide +kernel) (by decide +kernel), TX7, rfl⟩
theorem mv_X8_add : q_mv yX8_add cX8_add 3 (none) 8 1 := ⟨⟨⟨(by decide +kernel), (by decide +kernel), (by decide +kernel)⟩, q_bm 44 (by decide +kernel) (by decide +kernel), q_bm 1216 (by decide +kernel) (by decide +kernel)⟩, q_bm 1214 (by decide +kernel) (by decide +kernel), q_bm 1215 (by decide +kernel) (by decide +kernel), TX8, rfl⟩
theorem mv_X8_begin : q_mv yX8_begin cX8_begin 1 (none) 8 0 := ⟨⟨⟨(by decide +kernel), (by decide +kernel), (by decide +kernel)⟩, q_bm 44 (by decide +kernel) (by decide +kernel), q_bm 1228 (by decide +kernel) (by decide +kernel)⟩, q_bm 1226 (by decide +kernel) (by decide +kernel), q_bm 1227 (by decide +kernel) (by decide +kernel), TX8, rfl⟩
theorem mv_X8_byteAt : q_mv yX8_byteAt cX8_byteAt 2 (some .int) 8 1 := ⟨⟨⟨(by decide +kernel), (by decide +kernel), (by decide +kernel)⟩, q_bm 44 (by decide +kernel) (by decide +kernel), q_bm 1236 (by decide +kernel) (by decide +kernel)⟩, q_bm 1235 (by decide +kernel) (by decide +kernel), q_bm 12 (by decide +kernel) (by decide +kernel), TX8, rfl⟩
theorem mv_X8_expectNumber : q_mv yX8_expectNumber cX8_expectNumber 5 (some .int) 8 3 := ⟨⟨⟨(by decide +kernel), (by decide +kernel), (by decide +kernel)⟩, q_bm 44 (by decide +kernel) (by decide +kernel), q_bm 1342 (by decide +kernel) (by decide +kernel)⟩, q_bm 1340 (by decide +kernel) (by decide +kernel), q_bm 1341 (by decide +kernel) (by decide +kernel), TX8, rfl⟩
theorem mv_X8_expectSign : q_mv yX8_expectSign cX8_expectSign 2 (some .boolean) 8 1 := ⟨⟨⟨(by decide +kernel), (by decide +kernel), (by decide +kernel)⟩, q_bm 44 (by decide +kernel) (by decide +kernel), q_bm 1445 (by decide +kernel) (by decide +kernel)⟩, q_bm 1443 (by decide +kernel) (by decide +kernel), q_bm 1444 (by decide +kernel) (by decide +kernel), TX8, rfl⟩
theorem mv_X8_expectWord : q_mv yX8_expectWord cX8_expectWord 2 (some .boolean) 8 1 := ⟨⟨⟨(by decide +kernel), (by decide +kernel), (by decide +kernel)⟩, q_bm 44 (by decide +kernel) (by decide +kernel), q_bm 1411 (by decide +kernel) (by decide +kernel)⟩, q_bm 1409 (by decide +kernel) (by decide +kernel), q_bm 1410 (by decide +kernel) (by decide +kernel), TX8, rfl⟩
theorem mv_X8_fail : q_mv yX8_fail cX8_fail 2 (some .boolean) 8 1 := ⟨⟨⟨(by decide +kernel), (by decide +kernel), (by decide +kernel)⟩, q_bm 44 (by decide +kernel) (by decide +kernel), q_bm 1271 (by decide +kernel) (by decide +kernel)⟩, q_bm 1269 (by decide +kernel) (by decide +kernel), q_bm 1270 (by decide +kernel) (by decide +kernel), TX8, rfl⟩
theorem mv_X8_isDigit : q_mst yX8_isDigit cX8_isDigit 1 (some .boolean) 1 := ⟨⟨⟨(by decide +kernel), (by decide +kernel), (by decide +kernel)⟩, q_bm 44 (by decide +kernel) (by decide +kernel), q_bm 1242 (by decide +kernel) (by decide +kernel)⟩, q_bm 1241 (by decide +kernel) (by decide +kernel)⟩
theorem mv_X8_isEnd : q_mv yX8_isEnd cX8_isEnd 1 (some .boolean) 8 0 := ⟨⟨⟨(by decide +kernel), (by decide +kernel), (by decide +kernel)⟩, q_bm 44 (by decide +kernel) (by decide +kernel), q_bm 1254 (by decide +kernel) (by decide +kernel)⟩, q_bm 1252 (by decide +kernel) (by decide +kernel), q_bm 1253 (by decide +kernel) (by decide +kernel), TX8, rfl⟩
theorem mv_X8_isLetter : q_mst yX8_isLetter cX8_isLetter 1 (some .boolean) 1 := ⟨⟨⟨(by decide +kernel), (by decide +kernel), (by decide +kernel)⟩, q_bm 44 (by decide +kernel) (by decide +kernel), q_bm 1239 (by decide +kernel) (by decide +kernel)⟩, q_bm 1238 (by decide +kernel) (by decide +kernel)⟩
theorem mv_X8_isNumber : q_mv yX8_isNumber cX8_isNumber 1 (some .boolean) 8 0 := ⟨⟨⟨(by decide +kernel), (by decide +kernel), (by decide +kernel)⟩, q_bm 44 (by decide +kernel) (by decide +kernel), q_bm 1301 (by decide +kernel) (by decide +kernel)⟩, q_bm 1299 (by decide +kernel) (by decide +kernel), q_bm 1300 (by decide +kernel) (by decide +kernel), TX8, rfl⟩
theorem mv_X8_isSign : q_mv yX8_isSign cX8_isSign 2 (some .boolean) 8 1 := ⟨⟨⟨(by decide +kernel), (by decide +kernel), (by decide +kernel)⟩, q_bm 44 (by decide +kernel) (by decide +kernel), q_bm 1297 (by decide +kernel) (by decide +kernel)⟩, q_bm 1295 (by decide +kernel) (by decide +kernel), q_bm 1296 (by decide +kernel) (by decide +kernel), TX8, rfl⟩
theorem mv_X8_isWord : q_mv yX8_isWord cX8_isWord 3 (some .boolean) 8 1 := ⟨⟨⟨(by decide +kernel), (by decide +kernel), (by decide +kernel)⟩, q_bm 44 (by decide +kernel) (by decide +kernel), q_bm 1263 (by decide +kernel) (by decide +kernel)⟩, q_bm 1261 (by decide +kernel) (by decide +kernel), q_bm 1262 (by decide +kernel) (by decide +kernel), TX8, rfl⟩
theorem mv_X8_next : q_mv yX8_next cX8_next 1 (none) 8 0 := ⟨⟨⟨(by decide +kernel), (by decide +kernel), (by decide +kernel)⟩, q_bm 44 (by decide +kernel) (by decide +kernel), q_bm 1232 (by decide +kernel) (by decide +kernel)⟩, q_bm 1230 (by decide +kernel) (by decide +kernel), q_bm 1231 (by decide +kernel) (by decide +kernel), TX8, rfl⟩
theorem mv_X8_number : q_mv yX8_number cX8_number 1 (some .int) 8 0 := ⟨⟨⟨(by decide +kernel), (by decide +kernel), (by decide +kernel)⟩, q_bm 44 (by decide +kernel) (by decide +kernel), q_bm 1305 (by decide +kernel) (by decide +kernel)⟩, q_bm 1303 (by decide +kernel) (by decide +kernel), q_bm 1304 (by decide +kernel) (by decide +kernel), TX8, rfl⟩
theorem mv_X8_takeSign : q_mv yX8_takeSign cX8_takeSign 2 (some .boolean) 8 1 := ⟨⟨⟨(by decide +kernel), (by decide +kernel), (by decide +kernel)⟩, q_bm 44 (by decide +kernel) (by decide +kernel), q_bm 1449 (by decide +kernel) (by decide +kernel)⟩, q_bm 1447 (by decide +kernel) (by decide +kernel), q_bm 1448 (by decide +kernel) (by decide +kernel), TX8, rfl⟩
theorem mv_X8_takeWord : q_mv yX8_takeWord cX8_takeWord 2 (some .boolean) 8 1 := ⟨⟨⟨(by decide +kernel), (by decide +kernel), (by decide +kernel)⟩, q_bm 44 (by decide +kernel) (by decide +kernel), q_bm 1415 (by decide +kernel) (by decide +kernel)⟩, q_bm 1413 (by decide +kernel) (by decide +kernel), q_bm 1414 (by decide +kernel) (by decide +kernel), TX8, rfl⟩
theorem mv_X9_addMan : q_mv yX9_addMan cX9_addMan 4 (some .int) 9 3 := ⟨⟨⟨(by decide +kernel), (by decide +kernel), (by decide +kernel)⟩, q_bm 35 (by decide +kernel) (by decide +kernel), q_bm 504 (by decide +kernel) (by decide +kernel)⟩, q_bm 502 (by decide +kernel) (by decide +kernel), q_bm 503 (by decide +kernel) (by decide +kernel), TX9, rfl⟩
theorem mv_X9_addMule : q_mv yX9_addMule cX9_addMule 3 (some .int) 9 2 := ⟨⟨⟨(by decide +kernel), (by decide +kernel), (by decide +kernel)⟩, q_bm 35 (by decide +kernel) (by decide +kernel), q_bm 492 (by decide +kernel) (by decide +kernel)⟩, q_bm 490 (by decide +kernel) (by decide +kernel), q_bm 491 (by decide +kernel) (by decide +kernel), TX9, rfl⟩
theorem mv_X9_behindOf : q_mv yX9_behindOf cX9_behindOf 4 (some .int) 9 1 := ⟨⟨⟨(by decide +kernel), (by decide +kernel), (by decide +kernel)⟩, q_bm 35 (by decide +kernel) (by decide +kernel), q_bm 641 (by decide +kernel) (by decide +kernel)⟩, q_bm 639 (by decide +kernel) (by decide +kernel), q_bm 640 (by decide +kernel) (by decide +kernel), TX9, rfl⟩
theorem mv_X9_copyFrom : q_mv yX9_copyFrom cX9_copyFrom 2 (none) 9 1 := ⟨⟨⟨(by decide +kernel), (by decide +kernel), (by decide +kernel)⟩, q_bm 35 (by decide +kernel) (by decide +kernel), q_bm 555 (by decide +kernel) (by decide +kernel)⟩, q_bm 553 (by decide +kernel) (by decide +kernel), q_bm 554 (by decide +kernel) (by decide +kernel), TX9, rfl⟩
theorem mv_X9_draw : q_mv yX9_draw cX9_draw 2 (some .int) 9 1 := ⟨⟨⟨(by decide +kernel), (by decide +kernel), (by decide +kernel)⟩, q_bm 35 (by decide +kernel) (by decide +kernel), q_bm 700 (by decide +kernel) (by decide +kernel)⟩, q_bm 698 (by decide +kernel) (by decide +kernel), q_bm 699 (by decide +kernel) (by decide +kernel), TX9, rfl⟩
theorem mv_X9_hasMan : q_mv yX9_hasMan cX9_hasMan 2 (some .boolean) 9 1 := ⟨⟨⟨(by decide +kernel), (by decide +kernel), (by decide +kernel)⟩, q_bm 35 (by decide +kernel) (by decide +kernel), q_bm 516 (by decide +kernel) (by decide +kernel)⟩, q_bm 514 (by decide +kernel) (by decide +kernel), q_bm 515 (by decide +kernel) (by decide +kernel), TX9, rfl⟩
theorem mv_X9_hasMule : q_mv yX9_hasMule cX9_hasMule 2 (some .boolean) 9 1 := ⟨⟨⟨(by decide +kernel), (by decide +kernel), (by decide +kernel)⟩, q_bm 35 (by decide +kernel) (by decide +kernel), q_bm 527 (by decide +kernel) (by decide +kernel)⟩, q_bm 525 (by decide +kernel) (by decide +kernel), q_bm 526 (by decide +kernel) (by decide +kernel), TX9, rfl⟩
theorem mv_X9_lameOnes : q_mv yX9_lameOnes cX9_lameOnes 3 (some .int) 9 0 := ⟨⟨⟨(by decide +kernel), (by decide +kernel), (by decide +kernel)⟩, q_bm 35 (by decide +kernel) (by decide +kernel), q_bm 617 (by decide +kernel) (by decide +kernel)⟩, q_bm 615 (by decide +kernel) (by decide +kernel), q_bm 616 (by decide +kernel) (by decide +kernel), TX9, rfl⟩
theorem mv_X9_likingFor : q_mv yX9_likingFor cX9_likingFor 3 (some .int) 9 2 := ⟨⟨⟨(by decide +kernel), (by decide +kernel), (by decide +kernel)⟩, q_bm 35 (by decide +kernel) (by decide +kernel), q_bm 609 (by decide +kernel) (by decide +kernel)⟩, q_bm 607 (by decide +kernel) (by decide +kernel), q_bm 608 (by decide +kernel) (by decide +kernel), TX9, rfl⟩
theorem mv_X9_moveLiking : q_mv yX9_moveLiking cX9_moveLiking 4 (none) 9 3 := ⟨⟨⟨(by decide +kernel), (by decide +kernel), (by decide +kernel)⟩, q_bm 35 (by decide +kernel) (by decide +kernel), q_bm 666 (by decide +kernel) (by decide +kernel)⟩, q_bm 664 (by decide +kernel) (by decide +kernel), q_bm 665 (by decide +kernel) (by decide +kernel), TX9, rfl⟩
theorem mv_X9_setLiking : q_mv yX9_setLiking cX9_setLiking 4 (none) 9 3 := ⟨⟨⟨(by decide +kernel), (by decide +kernel), (by decide +kernel)⟩, q_bm 35 (by decide +kernel) (by decide +kernel), q_bm 535 (by decide +kernel) (by decide +kernel)⟩, q_bm 533 (by decide +kernel) (by decide +kernel), q_bm 534 (by decide +kernel) (by decide +kernel), TX9, rfl⟩
theorem ln_X9_67 : Cond.methodLink RX9 67 yJ7_fill_53178 ∈ q_big := q_bm 78 (by decide +kernel) (by decide +kernel)
theorem ln_X6_19 : Cond.methodLink RX6 19 Lib.Math.min.name ∈ q_big := q_bm 215 (by decide +kernel) (by decide +kernel)
theorem ln_X6_25 : Cond.methodLink RX6 25 Lib.Math.max.name ∈ q_big := q_bm 218 (by decide +kernel) (by decide +kernel)
theorem ln_X11_91 : Cond.methodLink RX11 91 yX11_isWithin ∈ q_big := q_bm 486 (by decide +kernel) (by decide +kernel)
theorem ln_X11_95 : Cond.methodLink RX11 95 yX9_addMule ∈ q_big := q_bm 489 (by decide +kernel) (by decide +kernel)
theorem ln_X11_88 : Cond.methodLink RX11 88 yX1_forget ∈ q_big := q_bm 493 (by decide +kernel) (by decide +kernel)
theorem ln_X11_99 : Cond.methodLink RX11 99 yX9_addMan ∈ q_big := q_bm 501 (by decide +kernel) (by decide +kernel)
theorem ln_X11_103 : Cond.methodLink RX11 103 yX11_tellOfMan ∈ q_big := q_bm 509 (by decide +kernel) (by decide +kernel)
theorem ln_X11_126 : Cond.methodLink RX11 126 yX9_hasMan ∈ q_big := q_bm 513 (by decide +kernel) (by decide +kernel)
theorem ln_X11_106 : Cond.methodLink RX11 106 yX11_tellOfTrain ∈ q_big := q_bm 517 (by decide +kernel) (by decide +kernel)
theorem ln_X11_112 : Cond.methodLink RX11 112 yX11_isCamp ∈ q_big := q_bm 521 (by decide +kernel) (by decide +kernel)
theorem ln_X11_119 : Cond.methodLink RX11 119 yX9_hasMule ∈ q_big := q_bm 524 (by decide +kernel) (by decide +kernel)
theorem ln_X11_138 : Cond.methodLink RX11 138 yX9_setLiking ∈ q_big := q_bm 532 (by decide +kernel) (by decide +kernel)
theorem ln_X9_77 : Cond.methodLink RX9 77 yX9_hasMule ∈ q_big := q_bm 536 (by decide +kernel) (by decide +kernel)
theorem ln_X9_81 : Cond.methodLink RX9 81 yX9_hasMan ∈ q_big := q_bm 537 (by decide +kernel) (by decide +kernel)
theorem ln_X9_84 : Cond.methodLink RX9 84 Lib.Math.min.name ∈ q_big := q_bm 538 (by decide +kernel) (by decide +kernel)
theorem ln_X9_90 : Cond.methodLink RX9 90 Lib.Math.max.name ∈ q_big := q_bm 539 (by decide +kernel) (by decide +kernel)
theorem ln_X11_142 : Cond.methodLink RX11 142 yX1_keep ∈ q_big := q_bm 544 (by decide +kernel) (by decide +kernel)
theorem ln_X1_22 : Cond.methodLink RX1 22 yX1_dropOldest ∈ q_big := q_bm 548 (by decide +kernel) (by decide +kernel)
theorem ln_X1_25 : Cond.methodLink RX1 25 yX9_copyFrom ∈ q_big := q_bm 552 (by decide +kernel) (by decide +kernel)
theorem ln_X11_383 : Cond.methodLink RX11 383 Lib.Math.min.name ∈ q_big := q_bm 559 (by decide +kernel) (by decide +kernel)
theorem ln_X11_388 : Cond.methodLink RX11 388 arraycopyName ∈ q_big := q_bm 560 (by decide +kernel) (by decide +kernel)
theorem ln_X11_146 : Cond.methodLink RX11 146 yX10_castVote ∈ q_big := q_bm 563 (by decide +kernel) (by decide +kernel)
theorem ln_X10_157 : Cond.methodLink RX10 157 yX0_standNow ∈ q_big := q_bm 567 (by decide +kernel) (by decide +kernel)
theorem ln_X0_49 : Cond.methodLink RX0 49 Lib.Math.min.name ∈ q_big := q_bm 571 (by decide +kernel) (by decide +kernel)
theorem ln_X0_56 : Cond.methodLink RX0 56 yX10_needOf ∈ q_big := q_bm 572 (by decide +kernel) (by decide +kernel)
theorem ln_X10_93 : Cond.methodLink RX10 93 yX10_factsOf ∈ q_big := q_bm 576 (by decide +kernel) (by decide +kernel)
theorem ln_X10_67 : Cond.methodLink RX10 67 yX9_hasMule ∈ q_big := q_bm 580 (by decide +kernel) (by decide +kernel)
theorem ln_X10_77 : Cond.methodLink RX10 77 yX9_hasMan ∈ q_big := q_bm 581 (by decide +kernel) (by decide +kernel)
theorem ln_X10_97 : Cond.methodLink RX10 97 yX2_tells ∈ q_big := q_bm 582 (by decide +kernel) (by decide +kernel)
theorem ln_X2_44 : Cond.methodLink RX2 44 yX2_run ∈ q_big := q_bm 586 (by decide +kernel) (by decide +kernel)
theorem ln_X10_101 : Cond.methodLink RX10 101 Lib.Math.min.name ∈ q_big := q_bm 590 (by decide +kernel) (by decide +kernel)
theorem ln_X10_107 : Cond.methodLink RX10 107 Lib.Math.max.name ∈ q_big := q_bm 591 (by decide +kernel) (by decide +kernel)
theorem ln_X0_60 : Cond.methodLink RX0 60 yX10_heededBy ∈ q_big := q_bm 592 (by decide +kernel) (by decide +kernel)
theorem ln_X10_151 : Cond.methodLink RX10 151 yX6_cell ∈ q_big := q_bm 596 (by decide +kernel) (by decide +kernel)
theorem ln_X0_63 : Cond.methodLink RX0 63 yJ6_bitCount_0f7a4 ∈ q_big := q_bm 600 (by decide +kernel) (by decide +kernel)
theorem ln_X0_68 : Cond.methodLink RX0 68 yX9_likingFor ∈ q_big := q_bm 606 (by decide +kernel) (by decide +kernel)
theorem ln_X0_71 : Cond.methodLink RX0 71 yX10_leanOf ∈ q_big := q_bm 610 (by decide +kernel) (by decide +kernel)
theorem ln_X0_75 : Cond.methodLink RX0 75 yX9_lameOnes ∈ q_big := q_bm 614 (by decide +kernel) (by decide +kernel)
theorem ln_X0_79 : Cond.methodLink RX0 79 yX0_settle ∈ q_big := q_bm 618 (by decide +kernel) (by decide +kernel)
theorem ln_X0_90 : Cond.methodLink RX0 90 yJ7_fill_53178 ∈ q_big := q_bm 622 (by decide +kernel) (by decide +kernel)
theorem ln_X0_100 : Cond.methodLink RX0 100 yX0_choose ∈ q_big := q_bm 626 (by decide +kernel) (by decide +kernel)
theorem ln_X0_103 : Cond.methodLink RX0 103 yX0_leader ∈ q_big := q_bm 630 (by decide +kernel) (by decide +kernel)
theorem ln_X10_166 : Cond.methodLink RX10 166 yX0_choiceOf ∈ q_big := q_bm 634 (by decide +kernel) (by decide +kernel)
theorem ln_X10_114 : Cond.methodLink RX10 114 yX9_behindOf ∈ q_big := q_bm 638 (by decide +kernel) (by decide +kernel)
theorem ln_X10_117 : Cond.methodLink RX10 117 yJ6_bitCount_0f7a4 ∈ q_big := q_bm 642 (by decide +kernel) (by decide +kernel)
theorem ln_X10_173 : Cond.methodLink RX10 173 yX10_write ∈ q_big := q_bm 643 (by decide +kernel) (by decide +kernel)
theorem ln_X11_153 : Cond.methodLink RX11 153 yX10_canTreat ∈ q_big := q_bm 651 (by decide +kernel) (by decide +kernel)
theorem ln_X11_156 : Cond.methodLink RX11 156 yX10_treat ∈ q_big := q_bm 655 (by decide +kernel) (by decide +kernel)
theorem ln_X10_180 : Cond.methodLink RX10 180 yX10_giveSalt ∈ q_big := q_bm 659 (by decide +kernel) (by decide +kernel)
theorem ln_X10_189 : Cond.methodLink RX10 189 yX9_moveLiking ∈ q_big := q_bm 663 (by decide +kernel) (by decide +kernel)
theorem ln_X9_93 : Cond.methodLink RX9 93 yX9_likingFor ∈ q_big := q_bm 667 (by decide +kernel) (by decide +kernel)
theorem ln_X9_96 : Cond.methodLink RX9 96 yX9_setLiking ∈ q_big := q_bm 668 (by decide +kernel) (by decide +kernel)
theorem ln_X10_183 : Cond.methodLink RX10 183 yX10_sing ∈ q_big := q_bm 669 (by decide +kernel) (by decide +kernel)
theorem ln_X10_186 : Cond.methodLink RX10 186 yX10_whip ∈ q_big := q_bm 673 (by decide +kernel) (by decide +kernel)
theorem ln_X11_159 : Cond.methodLink RX11 159 yX10_hoursOfGoing ∈ q_big := q_bm 681 (by decide +kernel) (by decide +kernel)
theorem ln_X10_198 : Cond.methodLink RX10 198 yX10_hoursBetween ∈ q_big := q_bm 685 (by decide +kernel) (by decide +kernel)
theorem ln_X11_163 : Cond.methodLink RX11 163 yX10_travel ∈ q_big := q_bm 689 (by decide +kernel) (by decide +kernel)
theorem ln_X10_143 : Cond.methodLink RX10 143 yX10_riskOf ∈ q_big := q_bm 693 (by decide +kernel) (by decide +kernel)
theorem ln_X10_207 : Cond.methodLink RX10 207 yX9_draw ∈ q_big := q_bm 697 (by decide +kernel) (by decide +kernel)
theorem ln_X11_167 : Cond.methodLink RX11 167 yX10_restAll ∈ q_big := q_bm 707 (by decide +kernel) (by decide +kernel)
theorem ln_X10_129 : Cond.methodLink RX10 129 yX9_lameOnes ∈ q_big := q_bm 711 (by decide +kernel) (by decide +kernel)
theorem ln_X10_210 : Cond.methodLink RX10 210 yJ7_fill_53178 ∈ q_big := q_bm 712 (by decide +kernel) (by decide +kernel)
theorem ln_X11_174 : Cond.methodLink RX11 174 yX10_passDay ∈ q_big := q_bm 717 (by decide +kernel) (by decide +kernel)
theorem ln_X10_216 : Cond.methodLink RX10 216 yX10_doPlan ∈ q_big := q_bm 721 (by decide +kernel) (by decide +kernel)
theorem ln_X10_220 : Cond.methodLink RX10 220 yX10_castVote ∈ q_big := q_bm 725 (by decide +kernel) (by decide +kernel)
theorem ln_X10_224 : Cond.methodLink RX10 224 yX10_hoursOfGoing ∈ q_big := q_bm 726 (by decide +kernel) (by decide +kernel)
theorem ln_X10_227 : Cond.methodLink RX10 227 yX10_travel ∈ q_big := q_bm 727 (by decide +kernel) (by decide +kernel)
theorem ln_X10_231 : Cond.methodLink RX10 231 yX10_canTreat ∈ q_big := q_bm 728 (by decide +kernel) (by decide +kernel)
theorem ln_X10_235 : Cond.methodLink RX10 235 yX10_treat ∈ q_big := q_bm 729 (by decide +kernel) (by decide +kernel)
theorem ln_X11_269 : Cond.methodLink RX11 269 yX10_hoursBetween ∈ q_big := q_bm 734 (by decide +kernel) (by decide +kernel)
theorem ln_X11_275 : Cond.methodLink RX11 275 yX10_read ∈ q_big := q_bm 739 (by decide +kernel) (by decide +kernel)
theorem ln_X11_376 : Cond.methodLink RX11 376 yX1_giveBack ∈ q_big := q_bm 747 (by decide +kernel) (by decide +kernel)
theorem ln_X11_305 : Cond.methodLink RX11 305 yX9_lameOnes ∈ q_big := q_bm 755 (by decide +kernel) (by decide +kernel)
theorem ln_X11_242 : Cond.methodLink RX11 242 yX10_riskOf ∈ q_big := q_bm 918 (by decide +kernel) (by decide +kernel)
theorem ln_X11_245 : Cond.methodLink RX11 245 yX10_leanNow ∈ q_big := q_bm 919 (by decide +kernel) (by decide +kernel)
theorem ln_X10_110 : Cond.methodLink RX10 110 yX10_heededBy ∈ q_big := q_bm 923 (by decide +kernel) (by decide +kernel)
theorem ln_X10_122 : Cond.methodLink RX10 122 yX9_likingFor ∈ q_big := q_bm 924 (by decide +kernel) (by decide +kernel)
theorem ln_X10_125 : Cond.methodLink RX10 125 yX10_leanOf ∈ q_big := q_bm 925 (by decide +kernel) (by decide +kernel)
theorem ln_X11_248 : Cond.methodLink RX11 248 yX9_likingFor ∈ q_big := q_bm 926 (by decide +kernel) (by decide +kernel)
theorem ln_X11_260 : Cond.methodLink RX11 260 yX10_heededBy ∈ q_big := q_bm 927 (by decide +kernel) (by decide +kernel)
theorem ln_X11_263 : Cond.methodLink RX11 263 yX10_needOf ∈ q_big := q_bm 928 (by decide +kernel) (by decide +kernel)
theorem ln_X11_266 : Cond.methodLink RX11 266 yX9_behindOf ∈ q_big := q_bm 933 (by decide +kernel) (by decide +kernel)
theorem ln_X11_181 : Cond.methodLink RX11 181 yX8_add ∈ q_big := q_bm 1213 (by decide +kernel) (by decide +kernel)
theorem ln_X11_185 : Cond.methodLink RX11 185 yX8_begin ∈ q_big := q_bm 1225 (by decide +kernel) (by decide +kernel)
theorem ln_X8_37 : Cond.methodLink RX8 37 yX8_next ∈ q_big := q_bm 1229 (by decide +kernel) (by decide +kernel)
theorem ln_X8_40 : Cond.methodLink RX8 40 yX8_byteAt ∈ q_big := q_bm 1233 (by decide +kernel) (by decide +kernel)
theorem ln_X8_44 : Cond.methodLink RX8 44 yX8_isLetter ∈ q_big := q_bm 1237 (by decide +kernel) (by decide +kernel)
theorem ln_X8_48 : Cond.methodLink RX8 48 yX8_isDigit ∈ q_big := q_bm 1240 (by decide +kernel) (by decide +kernel)
theorem ln_X11_188 : Cond.methodLink RX11 188 yX3_read ∈ q_big := q_bm 1243 (by decide +kernel) (by decide +kernel)
theorem ln_X3_46 : Cond.methodLink RX3 46 yX2_clear ∈ q_big := q_bm 1247 (by decide +kernel) (by decide +kernel)
theorem ln_X3_49 : Cond.methodLink RX3 49 yX8_isEnd ∈ q_big := q_bm 1251 (by decide +kernel) (by decide +kernel)
theorem ln_X3_55 : Cond.methodLink RX3 55 yX3_readLine ∈ q_big := q_bm 1255 (by decide +kernel) (by decide +kernel)
theorem ln_X3_60 : Cond.methodLink RX3 60 yX8_isWord ∈ q_big := q_bm 1260 (by decide +kernel) (by decide +kernel)
theorem ln_X8_51 : Cond.methodLink RX8 51 yJ0_length_8abf5 ∈ q_big := q_bm 1264 (by decide +kernel) (by decide +kernel)
theorem ln_X8_56 : Cond.methodLink RX8 56 yJ0_charAt_5068e ∈ q_big := q_bm 1265 (by decide +kernel) (by decide +kernel)
theorem ln_X3_68 : Cond.methodLink RX3 68 yX8_fail ∈ q_big := q_bm 1268 (by decide +kernel) (by decide +kernel)
theorem ln_X3_72 : Cond.methodLink RX3 72 yX2_isFull ∈ q_big := q_bm 1272 (by decide +kernel) (by decide +kernel)
theorem ln_X3_75 : Cond.methodLink RX3 75 yX8_next ∈ q_big := q_bm 1276 (by decide +kernel) (by decide +kernel)
theorem ln_X3_78 : Cond.methodLink RX3 78 yX2_beginLine ∈ q_big := q_bm 1277 (by decide +kernel) (by decide +kernel)
theorem ln_X3_82 : Cond.methodLink RX3 82 yX3_readOperand ∈ q_big := q_bm 1281 (by decide +kernel) (by decide +kernel)
theorem ln_X3_93 : Cond.methodLink RX3 93 yX3_readOpening ∈ q_big := q_bm 1286 (by decide +kernel) (by decide +kernel)
theorem ln_X3_114 : Cond.methodLink RX3 114 yX3_push ∈ q_big := q_bm 1290 (by decide +kernel) (by decide +kernel)
theorem ln_X3_96 : Cond.methodLink RX3 96 yX8_isSign ∈ q_big := q_bm 1294 (by decide +kernel) (by decide +kernel)
theorem ln_X3_100 : Cond.methodLink RX3 100 yX8_isNumber ∈ q_big := q_bm 1298 (by decide +kernel) (by decide +kernel)
theorem ln_X3_103 : Cond.methodLink RX3 103 yX8_number ∈ q_big := q_bm 1302 (by decide +kernel) (by decide +kernel)
theorem ln_X3_107 : Cond.methodLink RX3 107 yX2_emit ∈ q_big := q_bm 1306 (by decide +kernel) (by decide +kernel)
theorem ln_X3_111 : Cond.methodLink RX3 111 yX3_factAtHand ∈ q_big := q_bm 1310 (by decide +kernel) (by decide +kernel)
theorem ln_X3_85 : Cond.methodLink RX3 85 yX3_readSign ∈ q_big := q_bm 1324 (by decide +kernel) (by decide +kernel)
theorem ln_X3_117 : Cond.methodLink RX3 117 yX3_readPart ∈ q_big := q_bm 1328 (by decide +kernel) (by decide +kernel)
theorem ln_X3_140 : Cond.methodLink RX3 140 yX3_rank ∈ q_big := q_bm 1332 (by decide +kernel) (by decide +kernel)
theorem ln_X3_144 : Cond.methodLink RX3 144 yX3_release ∈ q_big := q_bm 1335 (by decide +kernel) (by decide +kernel)
theorem ln_X3_147 : Cond.methodLink RX3 147 yX8_expectNumber ∈ q_big := q_bm 1339 (by decide +kernel) (by decide +kernel)
theorem ln_X8_77 : Cond.methodLink RX8 77 yX8_isNumber ∈ q_big := q_bm 1343 (by decide +kernel) (by decide +kernel)
theorem ln_X8_71 : Cond.methodLink RX8 71 yX8_fail ∈ q_big := q_bm 1344 (by decide +kernel) (by decide +kernel)
theorem ln_X3_120 : Cond.methodLink RX3 120 yX3_join ∈ q_big := q_bm 1345 (by decide +kernel) (by decide +kernel)
theorem ln_X3_124 : Cond.methodLink RX3 124 yX3_readWhen ∈ q_big := q_bm 1349 (by decide +kernel) (by decide +kernel)
theorem ln_X3_137 : Cond.methodLink RX3 137 yX3_endLine ∈ q_big := q_bm 1354 (by decide +kernel) (by decide +kernel)
theorem ln_X3_162 : Cond.methodLink RX3 162 yX2_endLine ∈ q_big := q_bm 1358 (by decide +kernel) (by decide +kernel)
theorem ln_X3_153 : Cond.methodLink RX3 153 yX2_beginWhen ∈ q_big := q_bm 1362 (by decide +kernel) (by decide +kernel)
theorem ln_X3_127 : Cond.methodLink RX3 127 yX3_readComparison ∈ q_big := q_bm 1366 (by decide +kernel) (by decide +kernel)
theorem ln_X3_134 : Cond.methodLink RX3 134 yX3_readClosing ∈ q_big := q_bm 1372 (by decide +kernel) (by decide +kernel)
theorem ln_X3_156 : Cond.methodLink RX3 156 Lib.Math.max.name ∈ q_big := q_bm 1376 (by decide +kernel) (by decide +kernel)
theorem ln_X11_197 : Cond.methodLink RX11 197 yX2_copyFrom ∈ q_big := q_bm 1377 (by decide +kernel) (by decide +kernel)
theorem ln_X11_206 : Cond.methodLink RX11 206 yX7_read ∈ q_big := q_bm 1382 (by decide +kernel) (by decide +kernel)
theorem ln_X7_24 : Cond.methodLink RX7 24 yX6_clear ∈ q_big := q_bm 1386 (by decide +kernel) (by decide +kernel)
theorem ln_X7_27 : Cond.methodLink RX7 27 yX8_isEnd ∈ q_big := q_bm 1390 (by decide +kernel) (by decide +kernel)
theorem ln_X7_33 : Cond.methodLink RX7 33 yX7_readLine ∈ q_big := q_bm 1391 (by decide +kernel) (by decide +kernel)
theorem ln_X7_49 : Cond.methodLink RX7 49 yX8_isWord ∈ q_big := q_bm 1399 (by decide +kernel) (by decide +kernel)
theorem ln_X7_53 : Cond.methodLink RX7 53 yX8_fail ∈ q_big := q_bm 1400 (by decide +kernel) (by decide +kernel)
theorem ln_X7_61 : Cond.methodLink RX7 61 yX8_next ∈ q_big := q_bm 1401 (by decide +kernel) (by decide +kernel)
theorem ln_X7_64 : Cond.methodLink RX7 64 yX7_readHeed ∈ q_big := q_bm 1402 (by decide +kernel) (by decide +kernel)
theorem ln_X7_82 : Cond.methodLink RX7 82 yX8_expectNumber ∈ q_big := q_bm 1406 (by decide +kernel) (by decide +kernel)
theorem ln_X7_88 : Cond.methodLink RX7 88 yX8_expectWord ∈ q_big := q_bm 1408 (by decide +kernel) (by decide +kernel)
theorem ln_X8_68 : Cond.methodLink RX8 68 yX8_takeWord ∈ q_big := q_bm 1412 (by decide +kernel) (by decide +kernel)
theorem ln_X8_64 : Cond.methodLink RX8 64 yX8_isWord ∈ q_big := q_bm 1416 (by decide +kernel) (by decide +kernel)
theorem ln_X7_93 : Cond.methodLink RX7 93 yX8_takeWord ∈ q_big := q_bm 1418 (by decide +kernel) (by decide +kernel)
theorem ln_X7_96 : Cond.methodLink RX7 96 yX6_add ∈ q_big := q_bm 1419 (by decide +kernel) (by decide +kernel)
theorem ln_X7_68 : Cond.methodLink RX7 68 yX7_readPlan ∈ q_big := q_bm 1423 (by decide +kernel) (by decide +kernel)
theorem ln_X7_71 : Cond.methodLink RX7 71 yX7_readPath ∈ q_big := q_bm 1432 (by decide +kernel) (by decide +kernel)
theorem ln_X7_74 : Cond.methodLink RX7 74 yX7_readLoad ∈ q_big := q_bm 1437 (by decide +kernel) (by decide +kernel)
theorem ln_X7_37 : Cond.methodLink RX7 37 yX8_expectSign ∈ q_big := q_bm 1442 (by decide +kernel) (by decide +kernel)
theorem ln_X8_74 : Cond.methodLink RX8 74 yX8_takeSign ∈ q_big := q_bm 1446 (by decide +kernel) (by decide +kernel)
theorem ln_X8_60 : Cond.methodLink RX8 60 yX8_isSign ∈ q_big := q_bm 1450 (by decide +kernel) (by decide +kernel)
theorem ln_X11_209 : Cond.methodLink RX11 209 yX11_takeRows ∈ q_big := q_bm 1451 (by decide +kernel) (by decide +kernel)
theorem ln_X11_228 : Cond.methodLink RX11 228 yX6_copyFrom ∈ q_big := q_bm 1455 (by decide +kernel) (by decide +kernel)
theorem cn_J6_265 : Cond.constant RJ6 265 1431655765 ∈ q_big := q_bm 603 (by decide +kernel) (by decide +kernel)
theorem cn_J6_266 : Cond.constant RJ6 266 858993459 ∈ q_big := q_bm 604 (by decide +kernel) (by decide +kernel)
theorem cn_J6_267 : Cond.constant RJ6 267 252645135 ∈ q_big := q_bm 605 (by decide +kernel) (by decide +kernel)
theorem cn_X9_100 : Cond.constant RX9 100 1664525 ∈ q_big := q_bm 701 (by decide +kernel) (by decide +kernel)
theorem cn_X9_101 : Cond.constant RX9 101 1013904223 ∈ q_big := q_bm 702 (by decide +kernel) (by decide +kernel)
theorem cn_X12_69 : Cond.constant RX12 69 1664525 ∈ q_big := q_bm 898 (by decide +kernel) (by decide +kernel)
theorem cn_X12_70 : Cond.constant RX12 70 1013904223 ∈ q_big := q_bm 899 (by decide +kernel) (by decide +kernel)
theorem cn_L_7 : Cond.constant RL 7 1048575 ∈ q_big := q_bm 943 (by decide +kernel) (by decide +kernel)
theorem cn_J2_20 : Cond.constant RJ2 20 1073741823 ∈ q_big := q_bm 964 (by decide +kernel) (by decide +kernel)
theorem cn_J8_200 : Cond.constant RJ8 200 2147483639 ∈ q_big := q_bm 1003 (by decide +kernel) (by decide +kernel)
theorem cn_J5_39 : Cond.constant RJ5 39 2147483647 ∈ q_big := q_bm 1007 (by decide +kernel) (by decide +kernel)
theorem q_w_copy {own : String} {i : Nat} (h : Cond.methodLink own i arraycopyName ∈ q_big) : Cond.methodLink own i arraycopyName ∈ q_big ∧ Cond.native arraycopyName ∈ q_big ∧ Cond.static arraycopyName ∈ q_big ∧ Cond.initialized "java/lang/System" ∈ q_big := ⟨h, q_bm 562 (by decide +kernel) (by decide +kernel), q_bm 561 (by decide +kernel) (by decide +kernel), q_bm 53 (by decide +kernel) (by decide +kernel)⟩
theorem ic_m8 : Int32.ofInt (-8) = -8 := by decide +kernel
theorem ic_m1 : Int32.ofInt (-1) = -1 := by decide +kernel
theorem ic_0 : Int32.ofInt (0) = 0 := by decide +kernel
theorem ic_1 : Int32.ofInt (1) = 1 := by decide +kernel
theorem ic_2 : Int32.ofInt (2) = 2 := by decide +kernel
theorem ic_3 : Int32.ofInt (3) = 3 := by decide +kernel
theorem ic_4 : Int32.ofInt (4) = 4 := by decide +kernel
theorem ic_5 : Int32.ofInt (5) = 5 := by decide +kernel
theorem ic_20 : Int32.ofInt (20) = 20 := by decide +kernel
theorem bp_m100 : (Int8.ofInt (-100)).toInt32 = -100 := by decide +kernel
theorem bp_m20 : (Int8.ofInt (-20)).toInt32 = -20 := by decide +kernel
theorem bp_m10 : (Int8.ofInt (-10)).toInt32 = -10 := by decide +kernel
theorem bp_m9 : (Int8.ofInt (-9)).toInt32 = -9 := by decide +kernel
theorem bp_m2 : (Int8.ofInt (-2)).toInt32 = -2 := by decide +kernel
theorem bp_6 : (Int8.ofInt (6)).toInt32 = 6 := by decide +kernel
theorem bp_7 : (Int8.ofInt (7)).toInt32 = 7 := by decide +kernel
theorem bp_8 : (Int8.ofInt (8)).toInt32 = 8 := by decide +kernel
theorem bp_9 : (Int8.ofInt (9)).toInt32 = 9 := by decide +kernel
theorem bp_10 : (Int8.ofInt (10)).toInt32 = 10 := by decide +kernel
theorem bp_11 : (Int8.ofInt (11)).toInt32 = 11 := by decide +kernel
theorem bp_12 : (Int8.ofInt (12)).toInt32 = 12 := by decide +kernel
theorem bp_13 : (Int8.ofInt (13)).toInt32 = 13 := by decide +kernel
theorem bp_14 : (Int8.ofInt (14)).toInt32 = 14 := by decide +kernel
theorem bp_15 : (Int8.ofInt (15)).toInt32 = 15 := by decide +kernel
theorem bp_16 : (Int8.ofInt (16)).toInt32 = 16 := by decide +kernel
theorem bp_17 : (Int8.ofInt (17)).toInt32 = 17 := by decide +kernel
theorem bp_18 : (Int8.ofInt (18)).toInt32 = 18 := by decide +kernel
theorem bp_20 : (Int8.ofInt (20)).toInt32 = 20 := by decide +kernel
theorem bp_22 : (Int8.ofInt (22)).toInt32 = 22 := by decide +kernel
theorem bp_24 : (Int8.ofInt (24)).toInt32 = 24 := by decide +kernel
theorem bp_25 : (Int8.ofInt (25)).toInt32 = 25 := by decide +kernel
theorem bp_30 : (Int8.ofInt (30)).toInt32 = 30 := by decide +kernel
theorem bp_31 : (Int8.ofInt (31)).toInt32 = 31 := by decide +kernel
theorem bp_32 : (Int8.ofInt (32)).toInt32 = 32 := by decide +kernel
theorem bp_40 : (Int8.ofInt (40)).toInt32 = 40 := by decide +kernel
theorem bp_41 : (Int8.ofInt (41)).toInt32 = 41 := by decide +kernel
theorem bp_42 : (Int8.ofInt (42)).toInt32 = 42 := by decide +kernel
theorem bp_43 : (Int8.ofInt (43)).toInt32 = 43 := by decide +kernel
theorem bp_45 : (Int8.ofInt (45)).toInt32 = 45 := by decide +kernel
theorem bp_47 : (Int8.ofInt (47)).toInt32 = 47 := by decide +kernel
theorem bp_48 : (Int8.ofInt (48)).toInt32 = 48 := by decide +kernel
theorem bp_54 : (Int8.ofInt (54)).toInt32 = 54 := by decide +kernel
theorem bp_57 : (Int8.ofInt (57)).toInt32 = 57 := by decide +kernel
theorem bp_59 : (Int8.ofInt (59)).toInt32 = 59 := by decide +kernel
theorem bp_60 : (Int8.ofInt (60)).toInt32 = 60 := by decide +kernel
theorem bp_61 : (Int8.ofInt (61)).toInt32 = 61 := by decide +kernel
theorem bp_62 : (Int8.ofInt (62)).toInt32 = 62 := by decide +kernel
theorem bp_63 : (Int8.ofInt (63)).toInt32 = 63 := by decide +kernel
theorem bp_64 : (Int8.ofInt (64)).toInt32 = 64 := by decide +kernel
theorem bp_65 : (Int8.ofInt (65)).toInt32 = 65 := by decide +kernel
theorem bp_90 : (Int8.ofInt (90)).toInt32 = 90 := by decide +kernel
theorem bp_97 : (Int8.ofInt (97)).toInt32 = 97 := by decide +kernel
theorem bp_99 : (Int8.ofInt (99)).toInt32 = 99 := by decide +kernel
theorem bp_100 : (Int8.ofInt (100)).toInt32 = 100 := by decide +kernel
theorem bp_108 : (Int8.ofInt (108)).toInt32 = 108 := by decide +kernel
theorem bp_110 : (Int8.ofInt (110)).toInt32 = 110 := by decide +kernel
theorem bp_117 : (Int8.ofInt (117)).toInt32 = 117 := by decide +kernel
theorem bp_122 : (Int8.ofInt (122)).toInt32 = 122 := by decide +kernel
theorem sp_144 : (Int16.ofInt (144)).toInt32 = 144 := by decide +kernel
theorem sp_150 : (Int16.ofInt (150)).toInt32 = 150 := by decide +kernel
theorem sp_191 : (Int16.ofInt (191)).toInt32 = 191 := by decide +kernel
theorem sp_255 : (Int16.ofInt (255)).toInt32 = 255 := by decide +kernel
theorem sp_256 : (Int16.ofInt (256)).toInt32 = 256 := by decide +kernel
theorem sp_281 : (Int16.ofInt (281)).toInt32 = 281 := by decide +kernel
theorem sp_283 : (Int16.ofInt (283)).toInt32 = 283 := by decide +kernel
theorem sp_293 : (Int16.ofInt (293)).toInt32 = 293 := by decide +kernel
theorem sp_307 : (Int16.ofInt (307)).toInt32 = 307 := by decide +kernel
theorem sp_311 : (Int16.ofInt (311)).toInt32 = 311 := by decide +kernel
theorem sp_380 : (Int16.ofInt (380)).toInt32 = 380 := by decide +kernel
theorem sp_399 : (Int16.ofInt (399)).toInt32 = 399 := by decide +kernel
theorem sp_400 : (Int16.ofInt (400)).toInt32 = 400 := by decide +kernel
theorem sp_600 : (Int16.ofInt (600)).toInt32 = 600 := by decide +kernel
theorem sp_619 : (Int16.ofInt (619)).toInt32 = 619 := by decide +kernel
theorem sp_631 : (Int16.ofInt (631)).toInt32 = 631 := by decide +kernel
theorem sp_720 : (Int16.ofInt (720)).toInt32 = 720 := by decide +kernel
theorem sp_999 : (Int16.ofInt (999)).toInt32 = 999 := by decide +kernel
theorem sp_1000 : (Int16.ofInt (1000)).toInt32 = 1000 := by decide +kernel
theorem sp_4096 : (Int16.ofInt (4096)).toInt32 = 4096 := by decide +kernel
theorem sp_9999 : (Int16.ofInt (9999)).toInt32 = 9999 := by decide +kernel
