/-! TEXTS: the reference's tokens -/
def zt_R (σ : q_Sto) (T : zt_T) (k p : Nat) : Prop := zt_B (σ 165) T ∧ p ≤ T.2 ∧ k < 5 ∧ σ 157 16 = nI T.2 ∧ σ 157 12 = nI k ∧ σ 157 17 = nI (zt_nx T p) ∧ σ 157 18 = nI (zt_cd k T p) ∧ σ 157 19 = nI (zt_at T p) ∧ (zt_cd k T p = 2 → σ 157 20 = nI (zt_va T p))
theorem zt_R.fr {σ σ' : q_Sto} {T : zt_T} {k p : Nat} (h : zt_R σ T k p) (e3 : σ' 165 = σ 165) (e : ∀ a, a = 12 ∨ a = 16 ∨ a = 17 ∨ a = 18 ∨ a = 19 ∨ a = 20 → σ' 157 a = σ 157 a) : zt_R σ' T k p := by
  unfold zt_R at *
  rw [e3, e 12 (by omega), e 16 (by omega), e 17 (by omega), e 18 (by omega), e 19 (by omega), e 20 (by omega)]
  exact h
theorem z_w_out {c lo hi : Nat} (hc : c < 2147483648) (hh : hi < 2147483648) (h : c < lo ∨ hi < c) (hl : lo < 2147483648) : z_w (nI c) (nI lo) (nI hi) = nI 0 := by
  unfold z_w
  rcases h with h | h
  · rw [if_pos ((nI_ltI (by omega) (by omega)).mpr h)]
  · by_cases q : c < lo
    · rw [if_pos ((nI_ltI (by omega) (by omega)).mpr q)]
    · rw [if_neg (fun g => q ((nI_ltI (by omega) (by omega)).mp g)), if_neg (fun g => by rw [nI_leI (by omega) (by omega)] at g; omega)]
theorem z_w_m {lo hi : Nat} (hl : lo < 2147483648) : z_w z_m (nI lo) (nI hi) = nI 0 := by
  unfold z_w
  rw [if_pos (of_eq_true (z_m_lt hl))]
theorem zt_min4 {B : Nat → Nat} {q i : Nat} : zt_vi B q (min (i+1) 4) = if i < 4 then nI 10 * zt_vi B q i + nI (B (q+i)) - nI 48 else zt_vi B q (min i 4) := by
  by_cases h : i < 4
  · rw [if_pos h, show min (i+1) 4 = i + 1 by omega]
    show zt_vi B q i * nI 10 + nI (B (q+i)) - nI 48 = _
    rw [Int32.mul_comm]
  · rw [if_neg h, show min (i+1) 4 = 4 by omega, show min i 4 = 4 by omega]
theorem zt_sg_T {c : Nat} (h : c = 59 ∨ c = 43 ∨ c = 45 ∨ c = 42 ∨ c = 47 ∨ c = 40 ∨ c = 41 ∨ c = 60 ∨ c = 61 ∨ c = 62) : zt_sg c = true := by
  rcases h with rfl | rfl | rfl | rfl | rfl | rfl | rfl | rfl | rfl | rfl <;> rfl
theorem zt_sg_F {c : Nat} (h : ¬ (c = 59 ∨ c = 43 ∨ c = 45 ∨ c = 42 ∨ c = 47 ∨ c = 40 ∨ c = 41 ∨ c = 60 ∨ c = 61 ∨ c = 62)) : zt_sg c = false := by
  refine z_bf (fun q => h ?_)
  unfold zt_sg at q
  simpa using q
theorem zt_lk_in {t : List (Nat × Nat)} {l : List Nat} : zt_lk t l = 1 ∨ ∃ x ∈ t, zt_lk t l = x.2 := by
  induction t with
  | nil => exact Or.inl rfl
  | cons x t ih =>
    obtain ⟨i, c⟩ := x
    have e : zt_lk ((i, c) :: t) l = if l = zt_w i then c else zt_lk t l := rfl
    rw [e]
    by_cases q : l = zt_w i
    · rw [if_pos q]; exact Or.inr ⟨(i, c), List.mem_cons_self .., rfl⟩
    · rw [if_neg q]
      rcases ih with h | ⟨x, h1, h2⟩
      · exact Or.inl h
      · exact Or.inr ⟨x, List.mem_cons_of_mem _ h1, h2⟩
theorem zt_tb_c {k : Nat} (hk : k < 5) : (zt_tb k).all (fun x => (decide (3 ≤ x.2 ∧ x.2 ≤ 50))) = true := by
  have hc : k = 0 ∨ k = 1 ∨ k = 2 ∨ k = 3 ∨ k = 4 := by omega
  rcases hc with rfl | rfl | rfl | rfl | rfl <;> rfl
theorem zt_lk_r {k : Nat} {l : List Nat} (hk : k < 5) : zt_lk (zt_tb k) l = 1 ∨ (3 ≤ zt_lk (zt_tb k) l ∧ zt_lk (zt_tb k) l ≤ 50) := by
  rcases zt_lk_in (t := zt_tb k) (l := l) with h | ⟨x, h1, h2⟩
  · exact Or.inl h
  · have := List.all_eq_true.mp (zt_tb_c hk) x h1
    rw [h2]
    exact Or.inr (of_decide_eq_true this)
theorem zt_lk2 {k : Nat} {l : List Nat} (hk : k < 5) (h : zt_lk (zt_tb k) l = 2) : False := by
  have := zt_lk_r (l := l) hk
  omega
/-! TEXTS: what the class asks of a token, by the reference's codes -/
theorem zt_lk_in2 {t : List (Nat × Nat)} {l : List Nat} : zt_lk t l = 1 ∨ ∃ x ∈ t, zt_lk t l = x.2 ∧ l = zt_w x.1 := by
  induction t with
  | nil => exact Or.inl rfl
  | cons x t ih =>
    obtain ⟨i, c⟩ := x
    have e : zt_lk ((i, c) :: t) l = if l = zt_w i then c else zt_lk t l := rfl
    rw [e]
    by_cases q : l = zt_w i
    · rw [if_pos q]; exact Or.inr ⟨(i, c), List.mem_cons_self .., rfl, q⟩
    · rw [if_neg q]
      rcases ih with h | ⟨x, h1, h2⟩
      · exact Or.inl h
      · exact Or.inr ⟨x, List.mem_cons_of_mem _ h1, h2⟩
/-- the word w is the code c of text k -/
def zt_ok (k w c : Nat) : Bool := decide (w < 30) && (decide (3 ≤ c) && (decide (c < 100) && (decide (zt_lk (zt_tb k) (zt_w w) = c) && (zt_tb k).all (fun x => decide (x.2 = c → zt_w x.1 = zt_w w)))))
theorem zt_kd4 (T : zt_T) (p : Nat) : zt_kd T p < 4 := by
  unfold zt_kd
  split
  · split
    · omega
    · split <;> omega
  · omega
theorem zt_cdE (k : Nat) (T : zt_T) (p : Nat) : zt_cd k T p = if zt_kd T p = 0 then 0 else if zt_kd T p = 1 then zt_lk (zt_tb k) (zt_by T p) else if zt_kd T p = 2 then (if zt_nx T p - zt_at T p < 5 then 2 else 1) else (if zt_sg (T.1 (zt_at T p)) = true then 100 + T.1 (zt_at T p) else 1) := rfl
theorem zt_sg_ge {c : Nat} (h : zt_sg c = true) : 40 ≤ c ∧ c ≤ 62 := by
  unfold zt_sg at h
  have h : c = 59 ∨ c = 43 ∨ c = 45 ∨ c = 42 ∨ c = 47 ∨ c = 40 ∨ c = 41 ∨ c = 60 ∨ c = 61 ∨ c = 62 := by simpa using h
  omega
theorem zt_cd_w {k w c p : Nat} {T : zt_T} (hk : k < 5) (ho : zt_ok k w c = true) : zt_cd k T p = c ↔ (zt_kd T p = 1 ∧ zt_by T p = zt_w w) := by
  unfold zt_ok at ho
  simp only [Bool.and_eq_true, decide_eq_true_eq] at ho
  obtain ⟨h1, h2, h3, h4, h5⟩ := ho
  have h4k := zt_kd4 T p
  rw [zt_cdE]
  by_cases q0 : zt_kd T p = 0
  · rw [if_pos q0]
    exact ⟨fun h => by omega, fun h => by omega⟩
  · rw [if_neg q0]
    by_cases q1 : zt_kd T p = 1
    · rw [if_pos q1]
      constructor
      · intro h
        refine ⟨q1, ?_⟩
        rcases zt_lk_in2 (t := zt_tb k) (l := zt_by T p) with g | ⟨x, g1, g2, g3⟩
        · omega
        · have := List.all_eq_true.mp h5 x g1
          rw [g3]
          exact of_decide_eq_true this (by omega)
      · rintro ⟨-, h⟩
        rw [h]; exact h4
    · rw [if_neg q1]
      refine ⟨fun h => ?_, fun h => absurd h.1 q1⟩
      by_cases q2 : zt_kd T p = 2
      · rw [if_pos q2] at h
        split at h <;> omega
      · rw [if_neg q2] at h
        split at h
        · rename_i hs
          have := zt_sg_ge hs
          omega
        · omega
theorem zt_cd_n {k p : Nat} {T : zt_T} (hk : k < 5) : zt_cd k T p = 2 ↔ (zt_kd T p = 2 ∧ zt_nx T p - zt_at T p < 5) := by
  have h4k := zt_kd4 T p
  rw [zt_cdE]
  by_cases q0 : zt_kd T p = 0
  · rw [if_pos q0]
    exact ⟨fun h => by omega, fun h => by omega⟩
  · rw [if_neg q0]
    by_cases q1 : zt_kd T p = 1
    · rw [if_pos q1]
      have := zt_lk_r (l := zt_by T p) hk
      exact ⟨fun h => by omega, fun h => by omega⟩
    · rw [if_neg q1]
      by_cases q2 : zt_kd T p = 2
      · rw [if_pos q2]
        by_cases q5 : zt_nx T p - zt_at T p < 5
        · rw [if_pos q5]; exact ⟨fun _ => ⟨q2, q5⟩, fun _ => rfl⟩
        · rw [if_neg q5]; exact ⟨fun h => by omega, fun h => absurd h.2 q5⟩
      · rw [if_neg q2]
        refine ⟨fun h => ?_, fun h => absurd h.1 q2⟩
        split at h <;> omega
theorem zt_cd_0 {k p : Nat} {T : zt_T} (hk : k < 5) : zt_cd k T p = 0 ↔ zt_kd T p = 0 := by
  rw [zt_cdE]
  by_cases q0 : zt_kd T p = 0
  · rw [if_pos q0]; exact ⟨fun _ => q0, fun _ => rfl⟩
  · rw [if_neg q0]
    refine ⟨fun h => ?_, fun h => absurd h q0⟩
    by_cases q1 : zt_kd T p = 1
    · rw [if_pos q1] at h
      have := zt_lk_r (l := zt_by T p) hk
      omega
    · rw [if_neg q1] at h
      split at h
      · split at h <;> omega
      · split at h <;> omega
theorem zt_cd_s {k p c : Nat} {T : zt_T} (hk : k < 5) (hc : c = 59 ∨ c = 43 ∨ c = 45 ∨ c = 42 ∨ c = 47 ∨ c = 40 ∨ c = 41 ∨ c = 60 ∨ c = 61 ∨ c = 62) : zt_cd k T p = 100 + c ↔ (zt_kd T p = 3 ∧ T.1 (zt_at T p) = c) := by
  have h4k := zt_kd4 T p
  rw [zt_cdE]
  by_cases q0 : zt_kd T p = 0
  · rw [if_pos q0]
    exact ⟨fun h => by omega, fun h => by omega⟩
  · rw [if_neg q0]
    by_cases q1 : zt_kd T p = 1
    · rw [if_pos q1]
      have := zt_lk_r (l := zt_by T p) hk
      exact ⟨fun h => by omega, fun h => by omega⟩
    · rw [if_neg q1]
      by_cases q2 : zt_kd T p = 2
      · rw [if_pos q2]
        refine ⟨fun h => ?_, fun h => by omega⟩
        split at h <;> omega
      · rw [if_neg q2]
        constructor
        · intro h
          split at h
          · exact ⟨by omega, by omega⟩
          · omega
        · rintro ⟨-, h⟩
          rw [h, if_pos (zt_sg_T hc)]
theorem zt_cd_r {k p : Nat} {T : zt_T} (hk : k < 5) : zt_cd k T p ≤ 162 := by
  rw [zt_cdE]
  split
  · omega
  · split
    · have := zt_lk_r (l := zt_by T p) hk
      omega
    · split
      · split <;> omega
      · split
        · rename_i hs
          have := zt_sg_ge hs
          omega
        · omega
theorem zt_va_lt {k p : Nat} {T : zt_T} (hk : k < 5) (hp : p ≤ T.2) (h : zt_cd k T p = 2) : zt_va T p < 10000 := by
  obtain ⟨h1, h2⟩ := (zt_cd_n hk).mp h
  obtain ⟨b1, b2⟩ := zt_at_b hp
  have ekd : zt_kd T p = if zt_at T p < T.2 then (if zt_il (T.1 (zt_at T p)) = true then 1 else if zt_id (T.1 (zt_at T p)) = true then 2 else 3) else 0 := rfl
  have enx : zt_nx T p = if zt_at T p < T.2 then (if zt_il (T.1 (zt_at T p)) = true then zt_sc zt_il T.1 (T.2 - zt_at T p) (zt_at T p) else if zt_id (T.1 (zt_at T p)) = true then zt_sc zt_id T.1 (T.2 - zt_at T p) (zt_at T p) else zt_at T p + 1) else zt_at T p := rfl
  by_cases q : zt_at T p < T.2
  · rw [if_pos q] at ekd enx
    by_cases q1 : zt_il (T.1 (zt_at T p)) = true
    · rw [if_pos q1] at ekd; omega
    · rw [if_neg q1] at ekd enx
      by_cases q2 : zt_id (T.1 (zt_at T p)) = true
      · rw [if_pos q2] at ekd enx
        have := (zt_vi_nv (B := T.1) (q := zt_at T p) (zt_nx T p - zt_at T p) (fun i hi => by
          have := zt_sc_all (P := zt_id) (B := T.1) (T.2 - zt_at T p) (zt_at T p) (zt_at T p + i) (by omega) (by rw [← enx]; omega)
          unfold zt_id at this
          simpa using this) h2).2
        have hp4 : 10 ^ (zt_nx T p - zt_at T p) ≤ 10 ^ 4 := Nat.pow_le_pow_right (by omega) (by omega)
        have hp5 : (10 : Nat) ^ 4 = 10000 := rfl
        unfold zt_va
        omega
      · rw [if_neg q2] at ekd; omega
  · rw [if_neg q] at ekd; omega
/-- a token that is not the end goes on -/
theorem zt_go {k p : Nat} {T : zt_T} (hk : k < 5) (hp : p ≤ T.2) (h : zt_cd k T p ≠ 0) : p < zt_nx T p ∧ zt_nx T p ≤ T.2 := by
  obtain ⟨b1, b2⟩ := zt_at_b hp
  obtain ⟨b3, b4, b5⟩ := zt_nx_b hp
  have := b5 (fun q => h ((zt_cd_0 hk).mpr q))
  omega
theorem c_wT {k w c p : Nat} {T : zt_T} {σ : q_Sto} (hC : zt_C σ T p) (hk : k < 5) (ho : zt_ok k w c = true) (h : zt_cd k T p = c) : f_X8_isWord q_F 142 w σ = some (nI 1, σ) := by
  have hw : w < 30 := by
    unfold zt_ok at ho
    rw [Bool.and_eq_true, decide_eq_true_eq] at ho
    exact ho.1
  rw [c_isWord z_F402 hw hC, decide_eq_true ((zt_cd_w hk ho).mp h)]
  rfl
theorem c_wF {k w c p : Nat} {T : zt_T} {σ : q_Sto} (hC : zt_C σ T p) (hk : k < 5) (ho : zt_ok k w c = true) (h : ¬ zt_cd k T p = c) : f_X8_isWord q_F 142 w σ = some (nI 0, σ) := by
  have hw : w < 30 := by
    unfold zt_ok at ho
    rw [Bool.and_eq_true, decide_eq_true_eq] at ho
    exact ho.1
  rw [c_isWord z_F402 hw hC, decide_eq_false (fun q => h ((zt_cd_w hk ho).mpr q))]
  rfl
theorem c_sT {k c p : Nat} {T : zt_T} {σ : q_Sto} (hC : zt_C σ T p) (hk : k < 5) (hc : c = 59 ∨ c = 43 ∨ c = 45 ∨ c = 42 ∨ c = 47 ∨ c = 40 ∨ c = 41 ∨ c = 60 ∨ c = 61 ∨ c = 62) (h : zt_cd k T p = 100 + c) : f_X8_isSign q_F 142 (nI c) σ = some (nI 1, σ) := by
  obtain ⟨h1, h2⟩ := (zt_cd_s hk hc).mp h
  obtain ⟨hB, hp, c1, c2, c3, c4, c5, -⟩ := hC
  have c5 := c5 h1
  rw [h1] at c4
  rw [h2] at c5
  unfold f_X8_isSign
  simp (disch := omega) only [c4, c5, ↓reduceIte, ↓p_ld, ↓p_st, ↓p_nm, ↓p_nS, ↓p_jn, ↓p_call, ↓p_callv, ↓p_dv, ↓p_rem, h_ldE, h_stE, h_nmE, h_nSE, h_callE, h_callvE, h_dvE, h_remE, if_true, if_false, z_upS, z_upO, z_upK, nI_add, z_mul, z_sub, z_div, Nat.add_zero, Nat.mul_zero, Nat.zero_add, Nat.sub_zero, Nat.zero_mul, z_ltT, z_ltF, z_leT, z_leF, z_eqT, z_eqF, z_inT, z_clT, not_true_eq_false, not_false_eq_true, eq_self, true_or, or_true, z_m_lt, z_m_le, z_lt_m, z_le_m, z_eq_m, z_m_eq, z_rz0, z_rz1, z_m_add, z_of, r_0_0, r_0_1, r_0_3, r_0_4, r_0_5, r_0_6, r_0_7, r_0_8, r_0_9, r_0_10, r_1_0, r_1_1, r_1_2, r_1_3, r_1_4, r_1_5, r_1_6, r_1_7, r_1_8, r_2_0, r_2_1, r_2_2, r_2_3, r_2_4, r_2_5, r_2_6, r_2_7, r_11_0, r_11_1, r_11_2, r_11_3, r_11_4, r_11_5, r_11_6, r_19_0, r_21_0, r_23_0, r_25_0, r_27_0, r_61_0, r_117_0, r_117_1, r_117_2, r_117_3, r_117_4, r_117_5, r_117_6, r_117_7, r_126_0, r_126_1, r_126_2, r_126_3, r_126_4, r_132_0, r_132_1, r_135_0, r_135_1, r_135_2, r_135_3, r_135_4, r_135_5, r_142_0, r_144_0, r_144_1, r_144_2, r_145_0, r_145_1, r_145_2, r_145_3, r_145_4, r_145_5, r_145_6, r_154_0, r_154_1, r_155_0, ↓z_m1, l_0, l_1, l_2, l_3, l_4, l_5, l_6, l_7, l_8, l_9, l_10, l_11, l_12, l_13, l_14, l_15, l_16, l_17, l_18, l_19, l_20, l_21, l_22, l_23, l_24, l_25, l_26, l_27, l_28, l_29, l_30, l_31, l_32, l_33, l_34, l_35, l_36, l_37, l_38, l_39, l_40, l_41, l_42, l_43, l_44, l_45, l_46, l_47, l_48, l_49, l_50, l_51, l_52, l_53, l_54, l_55, l_56, l_57, l_59, l_60, l_61, l_62, l_63, l_64, l_65, l_80, l_86, l_87, l_88, l_89, l_90, l_91, l_92, l_93, l_94, l_95, l_97, l_99, l_100, l_107, l_119, l_122, l_124, l_129, l_140, l_141, l_142, l_143, l_144, l_145, l_147, l_150, l_159, l_160, l_161, l_162, l_205, l_253, l_255, l_256, l_269, l_305, l_380, l_399, l_400, l_420, l_430, l_516, l_600, l_720, l_820, l_905, l_921, l_937, l_953, l_970, l_999, l_1000, l_1790, l_4096, l_9999, l_1000000]
theorem c_sF {k c p : Nat} {T : zt_T} {σ : q_Sto} (hC : zt_C σ T p) (hk : k < 5) (hc : c = 59 ∨ c = 43 ∨ c = 45 ∨ c = 42 ∨ c = 47 ∨ c = 40 ∨ c = 41 ∨ c = 60 ∨ c = 61 ∨ c = 62) (h : ¬ zt_cd k T p = 100 + c) : f_X8_isSign q_F 142 (nI c) σ = some (nI 0, σ) := by
  have h4k := zt_kd4 T p
  have hn := fun q => h ((zt_cd_s hk hc).mpr q)
  obtain ⟨hB, hp, c1, c2, c3, c4, c5, -⟩ := hC
  unfold f_X8_isSign
  by_cases q : zt_kd T p = 3
  · have c5 := c5 q
    have hne : T.1 (zt_at T p) ≠ c := fun g => hn ⟨q, g⟩
    have hlt : zt_at T p < T.2 := by
      by_cases q1 : zt_at T p < T.2
      · exact q1
      · have : zt_kd T p = 0 := if_neg q1
        omega
    have := (hB.2 _ hlt).2
    rw [q] at c4
    generalize T.1 (zt_at T p) = b at *
    simp (disch := omega) only [c4, c5, ↓reduceIte, ↓p_ld, ↓p_st, ↓p_nm, ↓p_nS, ↓p_jn, ↓p_call, ↓p_callv, ↓p_dv, ↓p_rem, h_ldE, h_stE, h_nmE, h_nSE, h_callE, h_callvE, h_dvE, h_remE, if_true, if_false, z_upS, z_upO, z_upK, nI_add, z_mul, z_sub, z_div, Nat.add_zero, Nat.mul_zero, Nat.zero_add, Nat.sub_zero, Nat.zero_mul, z_ltT, z_ltF, z_leT, z_leF, z_eqT, z_eqF, z_inT, z_clT, not_true_eq_false, not_false_eq_true, eq_self, true_or, or_true, z_m_lt, z_m_le, z_lt_m, z_le_m, z_eq_m, z_m_eq, z_rz0, z_rz1, z_m_add, z_of, r_0_0, r_0_1, r_0_3, r_0_4, r_0_5, r_0_6, r_0_7, r_0_8, r_0_9, r_0_10, r_1_0, r_1_1, r_1_2, r_1_3, r_1_4, r_1_5, r_1_6, r_1_7, r_1_8, r_2_0, r_2_1, r_2_2, r_2_3, r_2_4, r_2_5, r_2_6, r_2_7, r_11_0, r_11_1, r_11_2, r_11_3, r_11_4, r_11_5, r_11_6, r_19_0, r_21_0, r_23_0, r_25_0, r_27_0, r_61_0, r_117_0, r_117_1, r_117_2, r_117_3, r_117_4, r_117_5, r_117_6, r_117_7, r_126_0, r_126_1, r_126_2, r_126_3, r_126_4, r_132_0, r_132_1, r_135_0, r_135_1, r_135_2, r_135_3, r_135_4, r_135_5, r_142_0, r_144_0, r_144_1, r_144_2, r_145_0, r_145_1, r_145_2, r_145_3, r_145_4, r_145_5, r_145_6, r_154_0, r_154_1, r_155_0, ↓z_m1, l_0, l_1, l_2, l_3, l_4, l_5, l_6, l_7, l_8, l_9, l_10, l_11, l_12, l_13, l_14, l_15, l_16, l_17, l_18, l_19, l_20, l_21, l_22, l_23, l_24, l_25, l_26, l_27, l_28, l_29, l_30, l_31, l_32, l_33, l_34, l_35, l_36, l_37, l_38, l_39, l_40, l_41, l_42, l_43, l_44, l_45, l_46, l_47, l_48, l_49, l_50, l_51, l_52, l_53, l_54, l_55, l_56, l_57, l_59, l_60, l_61, l_62, l_63, l_64, l_65, l_80, l_86, l_87, l_88, l_89, l_90, l_91, l_92, l_93, l_94, l_95, l_97, l_99, l_100, l_107, l_119, l_122, l_124, l_129, l_140, l_141, l_142, l_143, l_144, l_145, l_147, l_150, l_159, l_160, l_161, l_162, l_205, l_253, l_255, l_256, l_269, l_305, l_380, l_399, l_400, l_420, l_430, l_516, l_600, l_720, l_820, l_905, l_921, l_937, l_953, l_970, l_999, l_1000, l_1790, l_4096, l_9999, l_1000000]
  · generalize zt_kd T p = kd at *
    simp (disch := omega) only [c4, ↓reduceIte, ↓p_ld, ↓p_st, ↓p_nm, ↓p_nS, ↓p_jn, ↓p_call, ↓p_callv, ↓p_dv, ↓p_rem, h_ldE, h_stE, h_nmE, h_nSE, h_callE, h_callvE, h_dvE, h_remE, if_true, if_false, z_upS, z_upO, z_upK, nI_add, z_mul, z_sub, z_div, Nat.add_zero, Nat.mul_zero, Nat.zero_add, Nat.sub_zero, Nat.zero_mul, z_ltT, z_ltF, z_leT, z_leF, z_eqT, z_eqF, z_inT, z_clT, not_true_eq_false, not_false_eq_true, eq_self, true_or, or_true, z_m_lt, z_m_le, z_lt_m, z_le_m, z_eq_m, z_m_eq, z_rz0, z_rz1, z_m_add, z_of, r_0_0, r_0_1, r_0_3, r_0_4, r_0_5, r_0_6, r_0_7, r_0_8, r_0_9, r_0_10, r_1_0, r_1_1, r_1_2, r_1_3, r_1_4, r_1_5, r_1_6, r_1_7, r_1_8, r_2_0, r_2_1, r_2_2, r_2_3, r_2_4, r_2_5, r_2_6, r_2_7, r_11_0, r_11_1, r_11_2, r_11_3, r_11_4, r_11_5, r_11_6, r_19_0, r_21_0, r_23_0, r_25_0, r_27_0, r_61_0, r_117_0, r_117_1, r_117_2, r_117_3, r_117_4, r_117_5, r_117_6, r_117_7, r_126_0, r_126_1, r_126_2, r_126_3, r_126_4, r_132_0, r_132_1, r_135_0, r_135_1, r_135_2, r_135_3, r_135_4, r_135_5, r_142_0, r_144_0, r_144_1, r_144_2, r_145_0, r_145_1, r_145_2, r_145_3, r_145_4, r_145_5, r_145_6, r_154_0, r_154_1, r_155_0, ↓z_m1, l_0, l_1, l_2, l_3, l_4, l_5, l_6, l_7, l_8, l_9, l_10, l_11, l_12, l_13, l_14, l_15, l_16, l_17, l_18, l_19, l_20, l_21, l_22, l_23, l_24, l_25, l_26, l_27, l_28, l_29, l_30, l_31, l_32, l_33, l_34, l_35, l_36, l_37, l_38, l_39, l_40, l_41, l_42, l_43, l_44, l_45, l_46, l_47, l_48, l_49, l_50, l_51, l_52, l_53, l_54, l_55, l_56, l_57, l_59, l_60, l_61, l_62, l_63, l_64, l_65, l_80, l_86, l_87, l_88, l_89, l_90, l_91, l_92, l_93, l_94, l_95, l_97, l_99, l_100, l_107, l_119, l_122, l_124, l_129, l_140, l_141, l_142, l_143, l_144, l_145, l_147, l_150, l_159, l_160, l_161, l_162, l_205, l_253, l_255, l_256, l_269, l_305, l_380, l_399, l_400, l_420, l_430, l_516, l_600, l_720, l_820, l_905, l_921, l_937, l_953, l_970, l_999, l_1000, l_1790, l_4096, l_9999, l_1000000]
theorem c_nT {k p : Nat} {T : zt_T} {σ : q_Sto} (hC : zt_C σ T p) (hk : k < 5) (h : zt_cd k T p = 2) : f_X8_isNumber q_F 142 σ = some (nI 1, σ) := by
  obtain ⟨h1, h2⟩ := (zt_cd_n hk).mp h
  obtain ⟨hB, hp, c1, c2, c3, c4, -, -⟩ := hC
  obtain ⟨b1, b2⟩ := zt_at_b hp
  obtain ⟨b3, b4, b5⟩ := zt_nx_b hp
  have hL := hB.1
  rw [h1] at c4
  unfold f_X8_isNumber
  generalize zt_at T p = A at *
  generalize zt_nx T p = X at *
  simp (disch := omega) only [c4, c2, c3, ↓reduceIte, ↓p_ld, ↓p_st, ↓p_nm, ↓p_nS, ↓p_jn, ↓p_call, ↓p_callv, ↓p_dv, ↓p_rem, h_ldE, h_stE, h_nmE, h_nSE, h_callE, h_callvE, h_dvE, h_remE, if_true, if_false, z_upS, z_upO, z_upK, nI_add, z_mul, z_sub, z_div, Nat.add_zero, Nat.mul_zero, Nat.zero_add, Nat.sub_zero, Nat.zero_mul, z_ltT, z_ltF, z_leT, z_leF, z_eqT, z_eqF, z_inT, z_clT, not_true_eq_false, not_false_eq_true, eq_self, true_or, or_true, z_m_lt, z_m_le, z_lt_m, z_le_m, z_eq_m, z_m_eq, z_rz0, z_rz1, z_m_add, z_of, r_0_0, r_0_1, r_0_3, r_0_4, r_0_5, r_0_6, r_0_7, r_0_8, r_0_9, r_0_10, r_1_0, r_1_1, r_1_2, r_1_3, r_1_4, r_1_5, r_1_6, r_1_7, r_1_8, r_2_0, r_2_1, r_2_2, r_2_3, r_2_4, r_2_5, r_2_6, r_2_7, r_11_0, r_11_1, r_11_2, r_11_3, r_11_4, r_11_5, r_11_6, r_19_0, r_21_0, r_23_0, r_25_0, r_27_0, r_61_0, r_117_0, r_117_1, r_117_2, r_117_3, r_117_4, r_117_5, r_117_6, r_117_7, r_126_0, r_126_1, r_126_2, r_126_3, r_126_4, r_132_0, r_132_1, r_135_0, r_135_1, r_135_2, r_135_3, r_135_4, r_135_5, r_142_0, r_144_0, r_144_1, r_144_2, r_145_0, r_145_1, r_145_2, r_145_3, r_145_4, r_145_5, r_145_6, r_154_0, r_154_1, r_155_0, ↓z_m1, l_0, l_1, l_2, l_3, l_4, l_5, l_6, l_7, l_8, l_9, l_10, l_11, l_12, l_13, l_14, l_15, l_16, l_17, l_18, l_19, l_20, l_21, l_22, l_23, l_24, l_25, l_26, l_27, l_28, l_29, l_30, l_31, l_32, l_33, l_34, l_35, l_36, l_37, l_38, l_39, l_40, l_41, l_42, l_43, l_44, l_45, l_46, l_47, l_48, l_49, l_50, l_51, l_52, l_53, l_54, l_55, l_56, l_57, l_59, l_60, l_61, l_62, l_63, l_64, l_65, l_80, l_86, l_87, l_88, l_89, l_90, l_91, l_92, l_93, l_94, l_95, l_97, l_99, l_100, l_107, l_119, l_122, l_124, l_129, l_140, l_141, l_142, l_143, l_144, l_145, l_147, l_150, l_159, l_160, l_161, l_162, l_205, l_253, l_255, l_256, l_269, l_305, l_380, l_399, l_400, l_420, l_430, l_516, l_600, l_720, l_820, l_905, l_921, l_937, l_953, l_970, l_999, l_1000, l_1790, l_4096, l_9999, l_1000000]
theorem c_nF {k p : Nat} {T : zt_T} {σ : q_Sto} (hC : zt_C σ T p) (hk : k < 5) (h : ¬ zt_cd k T p = 2) : f_X8_isNumber q_F 142 σ = some (nI 0, σ) := by
  have h4k := zt_kd4 T p
  have hn := fun q => h ((zt_cd_n hk).mpr q)
  obtain ⟨hB, hp, c1, c2, c3, c4, -, -⟩ := hC
  obtain ⟨b1, b2⟩ := zt_at_b hp
  obtain ⟨b3, b4, b5⟩ := zt_nx_b hp
  have hL := hB.1
  unfold f_X8_isNumber
  by_cases q : zt_kd T p = 2
  · have q2 : ¬ zt_nx T p - zt_at T p < 5 := fun g => hn ⟨q, g⟩
    rw [q] at c4
    generalize zt_at T p = A at *
    generalize zt_nx T p = X at *
    simp (disch := omega) only [c4, c2, c3, ↓reduceIte, ↓p_ld, ↓p_st, ↓p_nm, ↓p_nS, ↓p_jn, ↓p_call, ↓p_callv, ↓p_dv, ↓p_rem, h_ldE, h_stE, h_nmE, h_nSE, h_callE, h_callvE, h_dvE, h_remE, if_true, if_false, z_upS, z_upO, z_upK, nI_add, z_mul, z_sub, z_div, Nat.add_zero, Nat.mul_zero, Nat.zero_add, Nat.sub_zero, Nat.zero_mul, z_ltT, z_ltF, z_leT, z_leF, z_eqT, z_eqF, z_inT, z_clT, not_true_eq_false, not_false_eq_true, eq_self, true_or, or_true, z_m_lt, z_m_le, z_lt_m, z_le_m, z_eq_m, z_m_eq, z_rz0, z_rz1, z_m_add, z_of, r_0_0, r_0_1, r_0_3, r_0_4, r_0_5, r_0_6, r_0_7, r_0_8, r_0_9, r_0_10, r_1_0, r_1_1, r_1_2, r_1_3, r_1_4, r_1_5, r_1_6, r_1_7, r_1_8, r_2_0, r_2_1, r_2_2, r_2_3, r_2_4, r_2_5, r_2_6, r_2_7, r_11_0, r_11_1, r_11_2, r_11_3, r_11_4, r_11_5, r_11_6, r_19_0, r_21_0, r_23_0, r_25_0, r_27_0, r_61_0, r_117_0, r_117_1, r_117_2, r_117_3, r_117_4, r_117_5, r_117_6, r_117_7, r_126_0, r_126_1, r_126_2, r_126_3, r_126_4, r_132_0, r_132_1, r_135_0, r_135_1, r_135_2, r_135_3, r_135_4, r_135_5, r_142_0, r_144_0, r_144_1, r_144_2, r_145_0, r_145_1, r_145_2, r_145_3, r_145_4, r_145_5, r_145_6, r_154_0, r_154_1, r_155_0, ↓z_m1, l_0, l_1, l_2, l_3, l_4, l_5, l_6, l_7, l_8, l_9, l_10, l_11, l_12, l_13, l_14, l_15, l_16, l_17, l_18, l_19, l_20, l_21, l_22, l_23, l_24, l_25, l_26, l_27, l_28, l_29, l_30, l_31, l_32, l_33, l_34, l_35, l_36, l_37, l_38, l_39, l_40, l_41, l_42, l_43, l_44, l_45, l_46, l_47, l_48, l_49, l_50, l_51, l_52, l_53, l_54, l_55, l_56, l_57, l_59, l_60, l_61, l_62, l_63, l_64, l_65, l_80, l_86, l_87, l_88, l_89, l_90, l_91, l_92, l_93, l_94, l_95, l_97, l_99, l_100, l_107, l_119, l_122, l_124, l_129, l_140, l_141, l_142, l_143, l_144, l_145, l_147, l_150, l_159, l_160, l_161, l_162, l_205, l_253, l_255, l_256, l_269, l_305, l_380, l_399, l_400, l_420, l_430, l_516, l_600, l_720, l_820, l_905, l_921, l_937, l_953, l_970, l_999, l_1000, l_1790, l_4096, l_9999, l_1000000]
  · generalize zt_kd T p = kd at *
    simp (disch := omega) only [c4, ↓reduceIte, ↓p_ld, ↓p_st, ↓p_nm, ↓p_nS, ↓p_jn, ↓p_call, ↓p_callv, ↓p_dv, ↓p_rem, h_ldE, h_stE, h_nmE, h_nSE, h_callE, h_callvE, h_dvE, h_remE, if_true, if_false, z_upS, z_upO, z_upK, nI_add, z_mul, z_sub, z_div, Nat.add_zero, Nat.mul_zero, Nat.zero_add, Nat.sub_zero, Nat.zero_mul, z_ltT, z_ltF, z_leT, z_leF, z_eqT, z_eqF, z_inT, z_clT, not_true_eq_false, not_false_eq_true, eq_self, true_or, or_true, z_m_lt, z_m_le, z_lt_m, z_le_m, z_eq_m, z_m_eq, z_rz0, z_rz1, z_m_add, z_of, r_0_0, r_0_1, r_0_3, r_0_4, r_0_5, r_0_6, r_0_7, r_0_8, r_0_9, r_0_10, r_1_0, r_1_1, r_1_2, r_1_3, r_1_4, r_1_5, r_1_6, r_1_7, r_1_8, r_2_0, r_2_1, r_2_2, r_2_3, r_2_4, r_2_5, r_2_6, r_2_7, r_11_0, r_11_1, r_11_2, r_11_3, r_11_4, r_11_5, r_11_6, r_19_0, r_21_0, r_23_0, r_25_0, r_27_0, r_61_0, r_117_0, r_117_1, r_117_2, r_117_3, r_117_4, r_117_5, r_117_6, r_117_7, r_126_0, r_126_1, r_126_2, r_126_3, r_126_4, r_132_0, r_132_1, r_135_0, r_135_1, r_135_2, r_135_3, r_135_4, r_135_5, r_142_0, r_144_0, r_144_1, r_144_2, r_145_0, r_145_1, r_145_2, r_145_3, r_145_4, r_145_5, r_145_6, r_154_0, r_154_1, r_155_0, ↓z_m1, l_0, l_1, l_2, l_3, l_4, l_5, l_6, l_7, l_8, l_9, l_10, l_11, l_12, l_13, l_14, l_15, l_16, l_17, l_18, l_19, l_20, l_21, l_22, l_23, l_24, l_25, l_26, l_27, l_28, l_29, l_30, l_31, l_32, l_33, l_34, l_35, l_36, l_37, l_38, l_39, l_40, l_41, l_42, l_43, l_44, l_45, l_46, l_47, l_48, l_49, l_50, l_51, l_52, l_53, l_54, l_55, l_56, l_57, l_59, l_60, l_61, l_62, l_63, l_64, l_65, l_80, l_86, l_87, l_88, l_89, l_90, l_91, l_92, l_93, l_94, l_95, l_97, l_99, l_100, l_107, l_119, l_122, l_124, l_129, l_140, l_141, l_142, l_143, l_144, l_145, l_147, l_150, l_159, l_160, l_161, l_162, l_205, l_253, l_255, l_256, l_269, l_305, l_380, l_399, l_400, l_420, l_430, l_516, l_600, l_720, l_820, l_905, l_921, l_937, l_953, l_970, l_999, l_1000, l_1790, l_4096, l_9999, l_1000000]
theorem c_nV {k p : Nat} {T : zt_T} {σ : q_Sto} (hC : zt_C σ T p) (hk : k < 5) (h : zt_cd k T p = 2) : σ 142 5 = nI (zt_va T p) := by
  obtain ⟨h1, h2⟩ := (zt_cd_n hk).mp h
  exact hC.2.2.2.2.2.2.2 h1 h2
theorem c_eT {k p : Nat} {T : zt_T} {σ : q_Sto} (hC : zt_C σ T p) (hk : k < 5) (h : zt_cd k T p = 0) : f_X8_isEnd q_F 142 σ = some (nI 1, σ) := by
  have c4 := hC.2.2.2.2.2.1
  rw [(zt_cd_0 hk).mp h] at c4
  unfold f_X8_isEnd
  simp (disch := omega) only [c4, ↓reduceIte, ↓p_ld, ↓p_st, ↓p_nm, ↓p_nS, ↓p_jn, ↓p_call, ↓p_callv, ↓p_dv, ↓p_rem, h_ldE, h_stE, h_nmE, h_nSE, h_callE, h_callvE, h_dvE, h_remE, if_true, if_false, z_upS, z_upO, z_upK, nI_add, z_mul, z_sub, z_div, Nat.add_zero, Nat.mul_zero, Nat.zero_add, Nat.sub_zero, Nat.zero_mul, z_ltT, z_ltF, z_leT, z_leF, z_eqT, z_eqF, z_inT, z_clT, not_true_eq_false, not_false_eq_true, eq_self, true_or, or_true, z_m_lt, z_m_le, z_lt_m, z_le_m, z_eq_m, z_m_eq, z_rz0, z_rz1, z_m_add, z_of, r_0_0, r_0_1, r_0_3, r_0_4, r_0_5, r_0_6, r_0_7, r_0_8, r_0_9, r_0_10, r_1_0, r_1_1, r_1_2, r_1_3, r_1_4, r_1_5, r_1_6, r_1_7, r_1_8, r_2_0, r_2_1, r_2_2, r_2_3, r_2_4, r_2_5, r_2_6, r_2_7, r_11_0, r_11_1, r_11_2, r_11_3, r_11_4, r_11_5, r_11_6, r_19_0, r_21_0, r_23_0, r_25_0, r_27_0, r_61_0, r_117_0, r_117_1, r_117_2, r_117_3, r_117_4, r_117_5, r_117_6, r_117_7, r_126_0, r_126_1, r_126_2, r_126_3, r_126_4, r_132_0, r_132_1, r_135_0, r_135_1, r_135_2, r_135_3, r_135_4, r_135_5, r_142_0, r_144_0, r_144_1, r_144_2, r_145_0, r_145_1, r_145_2, r_145_3, r_145_4, r_145_5, r_145_6, r_154_0, r_154_1, r_155_0, ↓z_m1, l_0, l_1, l_2, l_3, l_4, l_5, l_6, l_7, l_8, l_9, l_10, l_11, l_12, l_13, l_14, l_15, l_16, l_17, l_18, l_19, l_20, l_21, l_22, l_23, l_24, l_25, l_26, l_27, l_28, l_29, l_30, l_31, l_32, l_33, l_34, l_35, l_36, l_37, l_38, l_39, l_40, l_41, l_42, l_43, l_44, l_45, l_46, l_47, l_48, l_49, l_50, l_51, l_52, l_53, l_54, l_55, l_56, l_57, l_59, l_60, l_61, l_62, l_63, l_64, l_65, l_80, l_86, l_87, l_88, l_89, l_90, l_91, l_92, l_93, l_94, l_95, l_97, l_99, l_100, l_107, l_119, l_122, l_124, l_129, l_140, l_141, l_142, l_143, l_144, l_145, l_147, l_150, l_159, l_160, l_161, l_162, l_205, l_253, l_255, l_256, l_269, l_305, l_380, l_399, l_400, l_420, l_430, l_516, l_600, l_720, l_820, l_905, l_921, l_937, l_953, l_970, l_999, l_1000, l_1790, l_4096, l_9999, l_1000000]
theorem c_eF {k p : Nat} {T : zt_T} {σ : q_Sto} (hC : zt_C σ T p) (hk : k < 5) (h : ¬ zt_cd k T p = 0) : f_X8_isEnd q_F 142 σ = some (nI 0, σ) := by
  have c4 := hC.2.2.2.2.2.1
  have h4k := zt_kd4 T p
  have : zt_kd T p ≠ 0 := fun q => h ((zt_cd_0 hk).mpr q)
  unfold f_X8_isEnd
  generalize zt_kd T p = kd at *
  simp (disch := omega) only [c4, ↓reduceIte, ↓p_ld, ↓p_st, ↓p_nm, ↓p_nS, ↓p_jn, ↓p_call, ↓p_callv, ↓p_dv, ↓p_rem, h_ldE, h_stE, h_nmE, h_nSE, h_callE, h_callvE, h_dvE, h_remE, if_true, if_false, z_upS, z_upO, z_upK, nI_add, z_mul, z_sub, z_div, Nat.add_zero, Nat.mul_zero, Nat.zero_add, Nat.sub_zero, Nat.zero_mul, z_ltT, z_ltF, z_leT, z_leF, z_eqT, z_eqF, z_inT, z_clT, not_true_eq_false, not_false_eq_true, eq_self, true_or, or_true, z_m_lt, z_m_le, z_lt_m, z_le_m, z_eq_m, z_m_eq, z_rz0, z_rz1, z_m_add, z_of, r_0_0, r_0_1, r_0_3, r_0_4, r_0_5, r_0_6, r_0_7, r_0_8, r_0_9, r_0_10, r_1_0, r_1_1, r_1_2, r_1_3, r_1_4, r_1_5, r_1_6, r_1_7, r_1_8, r_2_0, r_2_1, r_2_2, r_2_3, r_2_4, r_2_5, r_2_6, r_2_7, r_11_0, r_11_1, r_11_2, r_11_3, r_11_4, r_11_5, r_11_6, r_19_0, r_21_0, r_23_0, r_25_0, r_27_0, r_61_0, r_117_0, r_117_1, r_117_2, r_117_3, r_117_4, r_117_5, r_117_6, r_117_7, r_126_0, r_126_1, r_126_2, r_126_3, r_126_4, r_132_0, r_132_1, r_135_0, r_135_1, r_135_2, r_135_3, r_135_4, r_135_5, r_142_0, r_144_0, r_144_1, r_144_2, r_145_0, r_145_1, r_145_2, r_145_3, r_145_4, r_145_5, r_145_6, r_154_0, r_154_1, r_155_0, ↓z_m1, l_0, l_1, l_2, l_3, l_4, l_5, l_6, l_7, l_8, l_9, l_10, l_11, l_12, l_13, l_14, l_15, l_16, l_17, l_18, l_19, l_20, l_21, l_22, l_23, l_24, l_25, l_26, l_27, l_28, l_29, l_30, l_31, l_32, l_33, l_34, l_35, l_36, l_37, l_38, l_39, l_40, l_41, l_42, l_43, l_44, l_45, l_46, l_47, l_48, l_49, l_50, l_51, l_52, l_53, l_54, l_55, l_56, l_57, l_59, l_60, l_61, l_62, l_63, l_64, l_65, l_80, l_86, l_87, l_88, l_89, l_90, l_91, l_92, l_93, l_94, l_95, l_97, l_99, l_100, l_107, l_119, l_122, l_124, l_129, l_140, l_141, l_142, l_143, l_144, l_145, l_147, l_150, l_159, l_160, l_161, l_162, l_205, l_253, l_255, l_256, l_269, l_305, l_380, l_399, l_400, l_420, l_430, l_516, l_600, l_720, l_820, l_905, l_921, l_937, l_953, l_970, l_999, l_1000, l_1790, l_4096, l_9999, l_1000000]
theorem c_nextC {p : Nat} {T : zt_T} {σ : q_Sto} (hC : zt_C σ T p) : ∃ σ', (∀ o, o ≠ 142 → σ' o = σ o) ∧ (∀ a, a ≠ 2 → a ≠ 3 → a ≠ 4 → a ≠ 5 → σ' 142 a = σ 142 a) ∧ zt_C σ' T (zt_nx T p) ∧ f_X8_next q_F 142 σ = some (nI 0, σ') :=
  c_next z_F402 (zt_nx_b hC.2.1).2.1 hC.1 hC.2.2.1 hC.2.2.2.1
theorem m_tok {k p : Nat} {T : zt_T} {σ : q_Sto} (hR : zt_R σ T k p) : σ 157 18 = nI (zt_cd k T p) := hR.2.2.2.2.2.2.1
theorem m_nV {k p : Nat} {T : zt_T} {σ : q_Sto} (hR : zt_R σ T k p) (h : zt_cd k T p = 2) : σ 157 20 = nI (zt_va T p) := hR.2.2.2.2.2.2.2.2 h
/-- a FAULT is told -/
theorem c_fail {n p f : Nat} {T : zt_T} {σ : q_Sto} (hC : zt_C σ T p) : ∃ σ', (∀ o, o ≠ 142 → σ' o = σ o) ∧ (∀ a, a ≠ 6 → a ≠ 7 → σ' 142 a = σ 142 a) ∧ σ' 142 6 = nI f ∧ σ' 142 7 = nI (zt_at T p) ∧ f_X8_fail n 142 (nI f) σ = some (nI 0, σ') := by
  have c3 := hC.2.2.2.2.1
  refine ⟨q_up (q_up σ 142 6 (nI f)) 142 7 (nI (zt_at T p)), fun o ho => by rw [z_upO ho, z_upO ho], fun a a1 a2 => by rw [z_upK a2, z_upK a1], by rw [z_upK (by omega)]; exact z_upS, z_upS, ?_⟩
  unfold f_X8_fail
  simp (disch := omega) only [c3, ↓reduceIte, ↓p_ld, ↓p_st, ↓p_nm, ↓p_nS, ↓p_jn, ↓p_call, ↓p_callv, ↓p_dv, ↓p_rem, h_ldE, h_stE, h_nmE, h_nSE, h_callE, h_callvE, h_dvE, h_remE, if_true, if_false, z_upS, z_upO, z_upK, nI_add, z_mul, z_sub, z_div, Nat.add_zero, Nat.mul_zero, Nat.zero_add, Nat.sub_zero, Nat.zero_mul, z_ltT, z_ltF, z_leT, z_leF, z_eqT, z_eqF, z_inT, z_clT, not_true_eq_false, not_false_eq_true, eq_self, true_or, or_true, z_m_lt, z_m_le, z_lt_m, z_le_m, z_eq_m, z_m_eq, z_rz0, z_rz1, z_m_add, z_of, r_0_0, r_0_1, r_0_3, r_0_4, r_0_5, r_0_6, r_0_7, r_0_8, r_0_9, r_0_10, r_1_0, r_1_1, r_1_2, r_1_3, r_1_4, r_1_5, r_1_6, r_1_7, r_1_8, r_2_0, r_2_1, r_2_2, r_2_3, r_2_4, r_2_5, r_2_6, r_2_7, r_11_0, r_11_1, r_11_2, r_11_3, r_11_4, r_11_5, r_11_6, r_19_0, r_21_0, r_23_0, r_25_0, r_27_0, r_61_0, r_117_0, r_117_1, r_117_2, r_117_3, r_117_4, r_117_5, r_117_6, r_117_7, r_126_0, r_126_1, r_126_2, r_126_3, r_126_4, r_132_0, r_132_1, r_135_0, r_135_1, r_135_2, r_135_3, r_135_4, r_135_5, r_142_0, r_144_0, r_144_1, r_144_2, r_145_0, r_145_1, r_145_2, r_145_3, r_145_4, r_145_5, r_145_6, r_154_0, r_154_1, r_155_0, ↓z_m1, l_0, l_1, l_2, l_3, l_4, l_5, l_6, l_7, l_8, l_9, l_10, l_11, l_12, l_13, l_14, l_15, l_16, l_17, l_18, l_19, l_20, l_21, l_22, l_23, l_24, l_25, l_26, l_27, l_28, l_29, l_30, l_31, l_32, l_33, l_34, l_35, l_36, l_37, l_38, l_39, l_40, l_41, l_42, l_43, l_44, l_45, l_46, l_47, l_48, l_49, l_50, l_51, l_52, l_53, l_54, l_55, l_56, l_57, l_59, l_60, l_61, l_62, l_63, l_64, l_65, l_80, l_86, l_87, l_88, l_89, l_90, l_91, l_92, l_93, l_94, l_95, l_97, l_99, l_100, l_107, l_119, l_122, l_124, l_129, l_140, l_141, l_142, l_143, l_144, l_145, l_147, l_150, l_159, l_160, l_161, l_162, l_205, l_253, l_255, l_256, l_269, l_305, l_380, l_399, l_400, l_420, l_430, l_516, l_600, l_720, l_820, l_905, l_921, l_937, l_953, l_970, l_999, l_1000, l_1790, l_4096, l_9999, l_1000000]