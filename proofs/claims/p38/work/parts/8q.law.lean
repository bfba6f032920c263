/-! TEXT 0 as the law tells it: its tokens, and what the class's reader makes of them -/
theorem y_sf.le {T : zt_T} {p : Nat} {l : List Nat} (h : y_sf T p l) : p ≤ T.2 := by
  have := h.1
  omega
theorem zl_naT {x : Nat} (h : x ≠ 142 ∧ x ≠ 143 ∧ x ≠ 145 ∧ x ≠ 147) : ¬ zl_ar x := fun q => by
  unfold zl_ar at q
  omega
def y_b0 (d : Nat → Nat) (rest : List Nat) : List Nat := ([108, 101, 97, 110] ++ (32 :: ([108, 105, 107, 105, 110, 103] ++ (43 :: ([115, 111, 110, 103, 115] ++ (42 :: (y_dg (d 2) ++ (45 :: ([104, 97, 110, 100] ++ (32 :: ([119, 104, 101, 110] ++ (32 :: ([97, 103, 101] ++ (62 :: (y_dg (d 0) ++ (32 :: ([97, 110, 100] ++ (32 :: ([110, 111, 116] ++ (32 :: (40 :: ([104, 101, 101, 100, 101, 100] ++ (62 :: (y_dg 1 ++ (32 :: ([111, 114] ++ (32 :: ([104, 97, 110, 100] ++ (61 :: (y_dg (d 1) ++ (41 :: (59 :: rest))))))))))))))))))))))))))))))))
theorem y_ll0 {T : zt_T} {d : Nat → Nat} {p : Nat} {rest : List Nat} (hd : ∀ j, d j ≤ 60) (h : y_sf T p (y_b0 d rest)) : zt_cd 0 T p = 20 + 0 ∧ ∃ q q2, zl_m T 5 (zt_nx T p) [(5, 0), (1, 5), (4, 0), (3, 0), (0, (d 2)), (1, 6), (1, 3)] q ∧ zt_cd 0 T q = 3 ∧ zl_t T 1 (zt_nx T q) [(10, 0), (9, 0), (11, 0), (7, 0), (0, (d 1)), (1, 5), (8, 0), (0, 1), (1, 4), (8, 0), (0, (d 0)), (1, 1)] q2 0 ∧ zt_cd 0 T q2 = 159 ∧ y_sf T (zt_nx T q2) rest := by
  unfold y_b0 at h
  obtain ⟨t0, h0⟩ := y_tw1 (k := 0) (code := 20) h (by decide) (by decide) (by decide +kernel)
  obtain ⟨t1, h1⟩ := y_tw2 (k := 0) (code := 44) h0 (by decide) (by decide) (by decide +kernel)
  obtain ⟨t2, h2⟩ := y_ts1 (k := 0) h1 (by decide)
  obtain ⟨t3, h3⟩ := y_tw1 (k := 0) (code := 47) h2 (by decide) (by decide) (by decide +kernel)
  obtain ⟨t4, h4⟩ := y_ts1 (k := 0) h3 (by decide)
  obtain ⟨t5, v5, h5⟩ := y_tn1 (k := 0) (by omega) h4 (by have := hd 2; omega) (by decide)
  obtain ⟨t6, h6⟩ := y_ts1 (k := 0) h5 (by decide)
  obtain ⟨t7, h7⟩ := y_tw1 (k := 0) (code := 46) h6 (by decide) (by decide) (by decide +kernel)
  obtain ⟨t8, h8⟩ := y_tw2 (k := 0) (code := 3) h7 (by decide) (by decide) (by decide +kernel)
  obtain ⟨t9, h9⟩ := y_tw2 (k := 0) (code := 42) h8 (by decide) (by decide) (by decide +kernel)
  obtain ⟨t10, h10⟩ := y_ts1 (k := 0) h9 (by decide)
  obtain ⟨t11, v11, h11⟩ := y_tn1 (k := 0) (by omega) h10 (by have := hd 0; omega) (by decide)
  obtain ⟨t12, h12⟩ := y_tw2 (k := 0) (code := 5) h11 (by decide) (by decide) (by decide +kernel)
  obtain ⟨t13, h13⟩ := y_tw2 (k := 0) (code := 6) h12 (by decide) (by decide) (by decide +kernel)
  obtain ⟨t14, h14⟩ := y_ts2 (k := 0) h13 (by decide)
  obtain ⟨t15, h15⟩ := y_tw1 (k := 0) (code := 45) h14 (by decide) (by decide) (by decide +kernel)
  obtain ⟨t16, h16⟩ := y_ts1 (k := 0) h15 (by decide)
  obtain ⟨t17, v17, h17⟩ := y_tn1 (k := 0) (by omega) h16 (by omega) (by decide)
  obtain ⟨t18, h18⟩ := y_tw2 (k := 0) (code := 4) h17 (by decide) (by decide) (by decide +kernel)
  obtain ⟨t19, h19⟩ := y_tw2 (k := 0) (code := 46) h18 (by decide) (by decide) (by decide +kernel)
  obtain ⟨t20, h20⟩ := y_ts1 (k := 0) h19 (by decide)
  obtain ⟨t21, v21, h21⟩ := y_tn1 (k := 0) (by omega) h20 (by have := hd 1; omega) (by decide)
  obtain ⟨t22, h22⟩ := y_ts1 (k := 0) h21 (by decide)
  obtain ⟨t23, h23⟩ := y_ts1 (k := 0) h22 (by decide)
  have m := (zl_m_join (x := 5) (zl_m_join (x := 4) (((zl_u_fact h0.le (by omega))).weak).weak (Or.inr (Or.inl ⟨rfl, t2⟩)) (by decide) (zl_m_join (x := 3) ((zl_u_fact h2.le (by omega))).weak (Or.inl ⟨rfl, t4⟩) (by decide) (zl_u_num h4.le t5))) (Or.inr (Or.inr ⟨rfl, t6⟩)) (by decide) ((zl_u_fact h6.le (by omega))).weak)
  rw [v5, t1, t3, t7] at m
  have g := (zl_t1_of (zl_t_and (zl_t2_of (zl_te_cmp (x := 8) (d := 0) ⟨by omega, by omega⟩ (((zl_u_fact h8.le (by omega))).weak).weak (Or.inr (Or.inr ⟨rfl, t10⟩)) (((zl_u_num h10.le t11)).weak).weak (by rw [t12]; exact zl_naT (by omega)))) t12 (zl_te_not h12.le t13 (by omega) (zl_te_par h13.le t14 (by omega) (zl_t_or (zl_t1_of (zl_t2_of (zl_te_cmp (x := 8) (d := 2) ⟨by omega, by omega⟩ (((zl_u_fact h14.le (by omega))).weak).weak (Or.inr (Or.inr ⟨rfl, t16⟩)) (((zl_u_num h16.le t17)).weak).weak (by rw [t18]; exact zl_naT (by omega))))) t18 (zl_t2_of (zl_te_cmp (x := 7) (d := 2) ⟨by omega, by omega⟩ (((zl_u_fact h18.le (by omega))).weak).weak (Or.inr (Or.inl ⟨rfl, t20⟩)) (((zl_u_num h20.le t21)).weak).weak (by rw [t22]; exact zl_naT (by omega))))) t22))))
  rw [v11, v17, v21, t9, t15, t19] at g
  exact ⟨t0, _, _, m, t8, g, t23, h23⟩
def y_b1 (d : Nat → Nat) (rest : List Nat) : List Nat := ([108, 101, 97, 110] ++ (32 :: ([108, 105, 107, 105, 110, 103] ++ (47 :: (y_dg 2 ++ (43 :: ([104, 101, 101, 100, 101, 100] ++ (42 :: (y_dg (d 3) ++ (59 :: rest))))))))))
theorem y_ll1 {T : zt_T} {d : Nat → Nat} {p : Nat} {rest : List Nat} (hd : ∀ j, d j ≤ 60) (h : y_sf T p (y_b1 d rest)) : zt_cd 0 T p = 20 + 0 ∧ ∃ q, zl_m T 5 (zt_nx T p) [(4, 0), (3, 0), (0, (d 3)), (1, 4), (2, 2), (1, 3)] q ∧ zt_cd 0 T q = 159 ∧ y_sf T (zt_nx T q) rest := by
  unfold y_b1 at h
  obtain ⟨t0, h0⟩ := y_tw1 (k := 0) (code := 20) h (by decide) (by decide) (by decide +kernel)
  obtain ⟨t1, h1⟩ := y_tw2 (k := 0) (code := 44) h0 (by decide) (by decide) (by decide +kernel)
  obtain ⟨t2, h2⟩ := y_ts1 (k := 0) h1 (by decide)
  obtain ⟨t3, v3, h3⟩ := y_tn1 (k := 0) (by omega) h2 (by omega) (by decide)
  obtain ⟨t4, h4⟩ := y_ts1 (k := 0) h3 (by decide)
  obtain ⟨t5, h5⟩ := y_tw1 (k := 0) (code := 45) h4 (by decide) (by decide) (by decide +kernel)
  obtain ⟨t6, h6⟩ := y_ts1 (k := 0) h5 (by decide)
  obtain ⟨t7, v7, h7⟩ := y_tn1 (k := 0) (by omega) h6 (by have := hd 3; omega) (by decide)
  obtain ⟨t8, h8⟩ := y_ts1 (k := 0) h7 (by decide)
  have m := (zl_m_join (x := 4) ((zl_m_part ((zl_u_fact h0.le (by omega))).weak t2 t3 (by rw [v3]; decide))).weak (Or.inr (Or.inl ⟨rfl, t4⟩)) (by decide) (zl_m_join (x := 3) ((zl_u_fact h4.le (by omega))).weak (Or.inl ⟨rfl, t6⟩) (by decide) (zl_u_num h6.le t7)))
  rw [v3, v7, t1, t5] at m
  exact ⟨t0, _, m, t8, h8⟩
def y_b2 (d : Nat → Nat) (rest : List Nat) : List Nat := ([110, 101, 101, 100] ++ (32 :: (y_dg (d 4) ++ (43 :: ([115, 116, 114, 111, 110, 103] ++ (47 :: (y_dg 9 ++ (45 :: ([115, 110, 111, 119] ++ (59 :: rest))))))))))
theorem y_ll2 {T : zt_T} {d : Nat → Nat} {p : Nat} {rest : List Nat} (hd : ∀ j, d j ≤ 60) (h : y_sf T p (y_b2 d rest)) : zt_cd 0 T p = 20 + 1 ∧ ∃ q, zl_m T 5 (zt_nx T p) [(5, 0), (1, 7), (4, 0), (2, 9), (1, 2), (0, (d 4))] q ∧ zt_cd 0 T q = 159 ∧ y_sf T (zt_nx T q) rest := by
  unfold y_b2 at h
  obtain ⟨t0, h0⟩ := y_tw1 (k := 0) (code := 21) h (by decide) (by decide) (by decide +kernel)
  obtain ⟨t1, v1, h1⟩ := y_tn2 (k := 0) (by omega) h0 (by have := hd 4; omega) (by decide)
  obtain ⟨t2, h2⟩ := y_ts1 (k := 0) h1 (by decide)
  obtain ⟨t3, h3⟩ := y_tw1 (k := 0) (code := 43) h2 (by decide) (by decide) (by decide +kernel)
  obtain ⟨t4, h4⟩ := y_ts1 (k := 0) h3 (by decide)
  obtain ⟨t5, v5, h5⟩ := y_tn1 (k := 0) (by omega) h4 (by omega) (by decide)
  obtain ⟨t6, h6⟩ := y_ts1 (k := 0) h5 (by decide)
  obtain ⟨t7, h7⟩ := y_tw1 (k := 0) (code := 48) h6 (by decide) (by decide) (by decide +kernel)
  obtain ⟨t8, h8⟩ := y_ts1 (k := 0) h7 (by decide)
  have m := (zl_m_join (x := 5) (zl_m_join (x := 4) (((zl_u_num h0.le t1)).weak).weak (Or.inr (Or.inl ⟨rfl, t2⟩)) (by decide) (zl_m_part ((zl_u_fact h2.le (by omega))).weak t4 t5 (by rw [v5]; decide))) (Or.inr (Or.inr ⟨rfl, t6⟩)) (by decide) ((zl_u_fact h6.le (by omega))).weak)
  rw [v1, v5, t3, t7] at m
  exact ⟨t0, _, m, t8, h8⟩
def y_b3 (d : Nat → Nat) (rest : List Nat) : List Nat := ([114, 105, 115, 107] ++ (32 :: ([115, 110, 111, 119] ++ (42 :: (y_dg 60 ++ (43 :: ([97, 103, 101] ++ (42 :: (y_dg 3 ++ (45 :: ([104, 97, 110, 100] ++ (42 :: (y_dg 9 ++ (32 :: ([119, 104, 101, 110] ++ (32 :: ([104, 111, 117, 114, 115] ++ (62 :: (y_dg (d 5) ++ (32 :: ([111, 114] ++ (32 :: ([109, 117, 108, 101] ++ (61 :: (y_dg (d 6) ++ (59 :: rest))))))))))))))))))))))))))
theorem y_ll3 {T : zt_T} {d : Nat → Nat} {p : Nat} {rest : List Nat} (hd : ∀ j, d j ≤ 60) (h : y_sf T p (y_b3 d rest)) : zt_cd 0 T p = 20 + 2 ∧ ∃ q q2, zl_m T 5 (zt_nx T p) [(5, 0), (3, 0), (0, 9), (1, 5), (4, 0), (3, 0), (0, 3), (1, 1), (3, 0), (0, 60), (1, 7)] q ∧ zt_cd 0 T q = 3 ∧ zl_t T 1 (zt_nx T q) [(11, 0), (7, 0), (0, (d 6)), (1, 0), (8, 0), (0, (d 5)), (1, 8)] q2 0 ∧ zt_cd 0 T q2 = 159 ∧ y_sf T (zt_nx T q2) rest := by
  unfold y_b3 at h
  obtain ⟨t0, h0⟩ := y_tw1 (k := 0) (code := 22) h (by decide) (by decide) (by decide +kernel)
  obtain ⟨t1, h1⟩ := y_tw2 (k := 0) (code := 48) h0 (by decide) (by decide) (by decide +kernel)
  obtain ⟨t2, h2⟩ := y_ts1 (k := 0) h1 (by decide)
  obtain ⟨t3, v3, h3⟩ := y_tn1 (k := 0) (by omega) h2 (by omega) (by decide)
  obtain ⟨t4, h4⟩ := y_ts1 (k := 0) h3 (by decide)
  obtain ⟨t5, h5⟩ := y_tw1 (k := 0) (code := 42) h4 (by decide) (by decide) (by decide +kernel)
  obtain ⟨t6, h6⟩ := y_ts1 (k := 0) h5 (by decide)
  obtain ⟨t7, v7, h7⟩ := y_tn1 (k := 0) (by omega) h6 (by omega) (by decide)
  obtain ⟨t8, h8⟩ := y_ts1 (k := 0) h7 (by decide)
  obtain ⟨t9, h9⟩ := y_tw1 (k := 0) (code := 46) h8 (by decide) (by decide) (by decide +kernel)
  obtain ⟨t10, h10⟩ := y_ts1 (k := 0) h9 (by decide)
  obtain ⟨t11, v11, h11⟩ := y_tn1 (k := 0) (by omega) h10 (by omega) (by decide)
  obtain ⟨t12, h12⟩ := y_tw2 (k := 0) (code := 3) h11 (by decide) (by decide) (by decide +kernel)
  obtain ⟨t13, h13⟩ := y_tw2 (k := 0) (code := 49) h12 (by decide) (by decide) (by decide +kernel)
  obtain ⟨t14, h14⟩ := y_ts1 (k := 0) h13 (by decide)
  obtain ⟨t15, v15, h15⟩ := y_tn1 (k := 0) (by omega) h14 (by have := hd 5; omega) (by decide)
  obtain ⟨t16, h16⟩ := y_tw2 (k := 0) (code := 4) h15 (by decide) (by decide) (by decide +kernel)
  obtain ⟨t17, h17⟩ := y_tw2 (k := 0) (code := 41) h16 (by decide) (by decide) (by decide +kernel)
  obtain ⟨t18, h18⟩ := y_ts1 (k := 0) h17 (by decide)
  obtain ⟨t19, v19, h19⟩ := y_tn1 (k := 0) (by omega) h18 (by have := hd 6; omega) (by decide)
  obtain ⟨t20, h20⟩ := y_ts1 (k := 0) h19 (by decide)
  have m := (zl_m_join (x := 5) (zl_m_join (x := 4) ((zl_m_join (x := 3) ((zl_u_fact h0.le (by omega))).weak (Or.inl ⟨rfl, t2⟩) (by decide) (zl_u_num h2.le t3))).weak (Or.inr (Or.inl ⟨rfl, t4⟩)) (by decide) (zl_m_join (x := 3) ((zl_u_fact h4.le (by omega))).weak (Or.inl ⟨rfl, t6⟩) (by decide) (zl_u_num h6.le t7))) (Or.inr (Or.inr ⟨rfl, t8⟩)) (by decide) (zl_m_join (x := 3) ((zl_u_fact h8.le (by omega))).weak (Or.inl ⟨rfl, t10⟩) (by decide) (zl_u_num h10.le t11)))
  rw [v3, v7, v11, t1, t5, t9] at m
  have g := (zl_t_or (zl_t1_of (zl_t2_of (zl_te_cmp (x := 8) (d := 0) ⟨by omega, by omega⟩ (((zl_u_fact h12.le (by omega))).weak).weak (Or.inr (Or.inr ⟨rfl, t14⟩)) (((zl_u_num h14.le t15)).weak).weak (by rw [t16]; exact zl_naT (by omega))))) t16 (zl_t2_of (zl_te_cmp (x := 7) (d := 0) ⟨by omega, by omega⟩ (((zl_u_fact h16.le (by omega))).weak).weak (Or.inr (Or.inl ⟨rfl, t18⟩)) (((zl_u_num h18.le t19)).weak).weak (by rw [t20]; exact zl_naT (by omega)))))
  rw [v15, v19, t13, t17] at g
  exact ⟨t0, _, _, m, t12, g, t20, h20⟩
def y_b4 (d : Nat → Nat) (rest : List Nat) : List Nat := ([114, 105, 115, 107] ++ (32 :: ([104, 111, 117, 114, 115] ++ (42 :: (y_dg (d 7) ++ (45 :: ([115, 111, 110, 103, 115] ++ (59 :: rest))))))))
theorem y_ll4 {T : zt_T} {d : Nat → Nat} {p : Nat} {rest : List Nat} (hd : ∀ j, d j ≤ 60) (h : y_sf T p (y_b4 d rest)) : zt_cd 0 T p = 20 + 2 ∧ ∃ q, zl_m T 5 (zt_nx T p) [(5, 0), (1, 6), (3, 0), (0, (d 7)), (1, 8)] q ∧ zt_cd 0 T q = 159 ∧ y_sf T (zt_nx T q) rest := by
  unfold y_b4 at h
  obtain ⟨t0, h0⟩ := y_tw1 (k := 0) (code := 22) h (by decide) (by decide) (by decide +kernel)
  obtain ⟨t1, h1⟩ := y_tw2 (k := 0) (code := 49) h0 (by decide) (by decide) (by decide +kernel)
  obtain ⟨t2, h2⟩ := y_ts1 (k := 0) h1 (by decide)
  obtain ⟨t3, v3, h3⟩ := y_tn1 (k := 0) (by omega) h2 (by have := hd 7; omega) (by decide)
  obtain ⟨t4, h4⟩ := y_ts1 (k := 0) h3 (by decide)
  obtain ⟨t5, h5⟩ := y_tw1 (k := 0) (code := 47) h4 (by decide) (by decide) (by decide +kernel)
  obtain ⟨t6, h6⟩ := y_ts1 (k := 0) h5 (by decide)
  have m := (zl_m_join (x := 5) ((zl_m_join (x := 3) ((zl_u_fact h0.le (by omega))).weak (Or.inl ⟨rfl, t2⟩) (by decide) (zl_u_num h2.le t3))).weak (Or.inr (Or.inr ⟨rfl, t4⟩)) (by decide) ((zl_u_fact h4.le (by omega))).weak)
  rw [v3, t1, t5] at m
  exact ⟨t0, _, m, t6, h6⟩
