/-! numbers appended, a String made -/
theorem y_dgl {a : Nat} (h : a < 1000) : (y_dg a).length ≤ 3 ∧ 1 ≤ (y_dg a).length ∧ ∀ j, j < (y_dg a).length → (y_dg a).getD j 0 < 128 := by
  have : (List.range 1000).all (fun a => decide ((y_dg a).length ≤ 3) && (decide (1 ≤ (y_dg a).length) && (List.range 3).all (fun j => decide ((y_dg a).getD j 0 < 128)))) = true := by decide +kernel
  have := List.all_eq_true.mp this a (List.mem_range.mpr h)
  simp only [Bool.and_eq_true, decide_eq_true_eq] at this
  refine ⟨this.1, this.2.1, fun j hj => ?_⟩
  have := List.all_eq_true.mp this.2.2 j (List.mem_range.mpr (by omega))
  exact of_decide_eq_true this
section NUM
variable {n : Nat} {u : x_U} {o v cap : Nat} {l : List Nat} {L : Nat} {xs : Nat → Int32}
/-- the last one or two digits -/
theorem S_chr2 {a e : Nat} (hW : y_WC L xs u) (hk : x_k u v = .inr (cap, 2)) (hc : cap < 100000) (ha : a < 100) (he : e ≤ cap) (h2 : (if a < 10 then 1 else 2) ≤ e) (hv : v ≤ 500000) : ∃ U, x_n U = x_n u ∧ x_m U = x_m u ∧ x_k U = x_k u ∧ x_r U = x_r u ∧ x_c U = x_c u ∧ (∀ i, i ≠ v → x_t U i = x_t u i) ∧
    (∀ j, x_t U v j = if e - (if a < 10 then 1 else 2) ≤ j ∧ j < e then nI ((y_dg a).getD (j - (e - (if a < 10 then 1 else 2))) 0) else x_t u v j) ∧
    ∀ x2 : Int32, (x_lb u (x_CT + 0) (- -(nI a)) fun v44 =>
  x_sb u v (nI e + (-1)) v44 fun s45 =>
  x_nm (fun (y46 : Int32) (s47 : x_U) =>
    if (0 : Int32) = 0 then (
    some (y46, s47))
    else (
    x_sb s47 v (y46 + (-1)) 45 fun s48 =>
    some (y46 + (-1), s48))) fun j104 =>
  if -(nI a) < (-9) then (
  x_lb s45 (x_CT + 1) (- -(nI a)) fun v49 =>
  x_sb s45 v ((nI e + (-1)) + (-1)) v49 fun s50 =>
  j104 ((nI e + (-1)) + (-1)) s50)
  else (
  j104 (nI e + (-1)) s45)) = some (nI (e - (if a < 10 then 1 else 2)), U) := by
  obtain ⟨-, -, -, -, -, e6, e7⟩ := S_ng (a := a) (by omega)
  obtain ⟨⟨⟨w1, w2⟩, ⟨w3, w4⟩, -⟩, -⟩ := hW
  have hvt : ¬ x_CT = v := by
    have c3 : x_CT = 1000002000 := rfl
    omega
  have hvt1 : ¬ x_CT + 1 = v := by
    have c3 : x_CT = 1000002000 := rfl
    omega
  have em : ∀ k, 1 ≤ k → k < 100000 → nI k + (-1) = nI (k - 1) := fun k h1 h2 => by
    have e1 : (-1 : Int32) = - nI 1 := by decide
    rw [e1, ← Int32.sub_eq_add_neg, z_sub h1]
  have e9 : (-9 : Int32) = -nI 9 := by decide
  have b1 : (q_d0 a).toInt8.toInt32 = nI (48 + a % 10) := y_byt (by omega)
  have b2 : (q_d1 a).toInt8.toInt32 = nI (48 + a / 10) := y_byt (by omega)
  by_cases q : a < 10
  · rw [if_pos q] at h2 ⊢
    refine ⟨x_ui u v (e - 1) (nI (48 + a % 10)), rfl, rfl, rfl, rfl, rfl, fun i hi => x_up_o hi, fun j => ?_, fun x2 => ?_⟩
    · by_cases qj : e - 1 ≤ j ∧ j < e
      · have : j = e - 1 := by omega
        subst this
        rw [if_pos qj, Nat.sub_self]
        have ed : (y_dg a).getD 0 0 = 48 + a % 10 := by
          unfold y_dg
          rw [if_pos q, Nat.mod_eq_of_lt q]
          rfl
        rw [ed]
        exact x_up_s
      · rw [if_neg qj]
        exact x_up_k (by omega)
    · rw [Nat.add_zero, e6, p_xlb, h_xlbE w1 (by omega) (by omega) (by omega), w2, em e (by omega) (by omega), p_xsb, h_xsbE hk (by omega) (by omega), b1, x_nmE, e9, if_neg (fun h => by have := e7.mp h; omega)]
      exact if_pos rfl
  · rw [if_neg q] at h2 ⊢
    have k2 : x_k (x_ui u v (e - 1) (nI (48 + a % 10))) (x_CT + 1) = .inr (100, 7) := w3
    have k3 : x_k (x_ui u v (e - 1) (nI (48 + a % 10))) v = .inr (cap, 2) := hk
    have t3 : x_t (x_ui u v (e - 1) (nI (48 + a % 10))) (x_CT + 1) = q_d1 := (x_up_o hvt1).trans w4
    refine ⟨x_ui (x_ui u v (e - 1) (nI (48 + a % 10))) v (e - 2) (nI (48 + a / 10)), rfl, rfl, rfl, rfl, rfl, fun i hi => (x_up_o hi).trans (x_up_o hi), fun j => ?_, fun x2 => ?_⟩
    · have ed : y_dg a = [48 + a / 10, 48 + a % 10] := by
        unfold y_dg
        rw [if_neg q, if_pos ha]
      rw [ed]
      by_cases q1 : j = e - 2
      · subst q1
        rw [if_pos (by omega), Nat.sub_self]
        exact x_up_s
      · by_cases q2 : j = e - 1
        · subst q2
          rw [if_pos (by omega), show e - 1 - (e - 2) = 1 by omega]
          exact (x_up_k (by omega)).trans x_up_s
        · rw [if_neg (by omega)]
          exact (x_up_k q1).trans (x_up_k q2)
    · rw [Nat.add_zero, e6, p_xlb, h_xlbE w1 (by omega) (by omega) (by omega), w2, em e (by omega) (by omega), p_xsb, h_xsbE hk (by omega) (by omega), b1, x_nmE, e9, if_pos (e7.mpr (by omega)), p_xlb, h_xlbE k2 (by omega) (by omega) (by omega), t3, em (e - 1) (by omega) (by omega), show e - 1 - 1 = e - 2 by omega, p_xsb, h_xsbE k3 (by omega) (by omega), b2]
      exact if_pos rfl
theorem S_chr {a c : Nat} (hn : 3 ≤ n) (hW : y_WC L xs u) (hk : x_k u v = .inr (cap, 2)) (hc : cap < 100000) (ha : a < 1000) (he : c + (y_dg a).length ≤ cap) (hv : v ≤ 500000) : ∃ U r, x_n U = x_n u ∧ x_m U = x_m u ∧ x_k U = x_k u ∧ x_r U = x_r u ∧ x_c U = x_c u ∧ (∀ i, i ≠ v → x_t U i = x_t u i) ∧
    (∀ j, x_t U v j = if c ≤ j ∧ j < c + (y_dg a).length then nI ((y_dg a).getD (j - c) 0) else x_t u v j) ∧ F_J6_getChars_ba4f3 n (nI a) (nI (c + (y_dg a).length)) v u = some (r, U) := by
  obtain ⟨e1, e2, e3, e4, e5, e6, e7⟩ := S_ng ha
  obtain ⟨n, rfl⟩ : ∃ k, n = k + 3 := ⟨n - 3, by omega⟩
  have z0 : ¬ nI a < 0 := by rw [show (0 : Int32) = nI 0 from rfl, nI_ltI (by omega) (by omega)]; omega
  have em : ∀ k, 1 ≤ k → k < 100000 → nI k + (-1) = nI (k - 1) := fun k h1 h2 => by
    have e1 : (-1 : Int32) = - nI 1 := by decide
    rw [e1, ← Int32.sub_eq_add_neg, z_sub h1]
  by_cases q : a < 100
  · have hlen : (y_dg a).length = if a < 10 then 1 else 2 := by
      unfold y_dg
      by_cases q1 : a < 10
      · rw [if_pos q1, if_pos q1]; rfl
      · rw [if_neg q1, if_neg q1, if_pos q]; rfl
    obtain ⟨U, f1, f2, f3, f4, f5, f6, f7, f8⟩ := S_chr2 (e := c + (y_dg a).length) hW hk hc q he (by omega) hv
    have ec : c + (y_dg a).length - (if a < 10 then 1 else 2) = c := by omega
    rw [ec] at f7 f8
    refine ⟨U, nI c, f1, f2, f3, f4, f5, f6, f7, ?_⟩
    unfold F_J6_getChars_ba4f3
    rw [if_neg z0, if_pos rfl, x_nmE, F_J6_getChars_ba4f3_L22, if_neg (fun h => by have := e2.mp h; omega)]
    exact f8 0
  · have hlen : (y_dg a).length = 3 := by
      unfold y_dg
      rw [if_neg (by omega), if_neg q]; rfl
    have ed : y_dg a = [48 + a / 100, 48 + a / 10 % 10, 48 + a % 10] := by
      unfold y_dg
      rw [if_neg (by omega), if_neg q]
    rw [hlen] at he ⊢
    obtain ⟨-, k2, -, -, -, -, -⟩ := S_ng (a := a / 100) (by omega)
    have hW0 := hW
    obtain ⟨⟨⟨w1, w2⟩, ⟨w3, w4⟩, -⟩, -⟩ := hW0
    have hvt1 : ¬ x_CT + 1 = v := by
      have c3 : x_CT = 1000002000 := rfl
      omega
    have b1 : (q_d0 (a % 100)).toInt8.toInt32 = nI (48 + a % 100 % 10) := y_byt (by omega)
    have b2 : (q_d1 (a % 100)).toInt8.toInt32 = nI (48 + a % 100 / 10) := y_byt (by omega)
    have t3 : x_t (x_ui u v (c + 2) (nI (48 + a % 100 % 10))) (x_CT + 1) = q_d1 := (x_up_o hvt1).trans w4
    have kk1 : x_k (x_ui u v (c + 2) (nI (48 + a % 100 % 10))) (x_CT + 1) = .inr (100, 7) := w3
    have kk2 : x_k (x_ui u v (c + 2) (nI (48 + a % 100 % 10))) v = .inr (cap, 2) := hk
    have hW2 : y_WC L xs (x_ui (x_ui u v (c + 2) (nI (48 + a % 100 % 10))) v (c + 1) (nI (48 + a % 100 / 10))) := hW.hi (fun i hi => ⟨rfl, rfl, (x_up_o (by omega)).trans (x_up_o (by omega))⟩)
    obtain ⟨U, f1, f2, f3, f4, f5, f6, f7, f8⟩ := S_chr2 (a := a / 100) (e := c + 1) (u := x_ui (x_ui u v (c + 2) (nI (48 + a % 100 % 10))) v (c + 1) (nI (48 + a % 100 / 10))) hW2 hk hc (by omega) (by omega) (by rw [if_pos (by omega)]; omega) hv
    rw [if_pos (show a / 100 < 10 by omega), Nat.add_sub_cancel] at f7 f8
    refine ⟨U, nI c, f1, f2, f3, f4, f5, fun i hi => (f6 i hi).trans ((x_up_o hi).trans (x_up_o hi)), fun j => ?_, ?_⟩
    · rw [f7 j, ed]
      by_cases q0 : j = c
      · subst q0
        rw [if_pos (by omega), if_pos (by omega), Nat.sub_self]
        have : y_dg (a / 100) = [48 + a / 100] := by
          unfold y_dg
          rw [if_pos (by omega)]
        rw [this]
        rfl
      · rw [if_neg (by omega)]
        by_cases q1 : j = c + 1
        · subst q1
          rw [if_pos (by omega), show c + 1 - c = 1 by omega]
          show x_t (x_ui (x_ui u v (c + 2) (nI (48 + a % 100 % 10))) v (c + 1) (nI (48 + a % 100 / 10))) v (c+1) = nI (48 + a / 10 % 10)
          rw [show a / 10 % 10 = a % 100 / 10 by omega]
          exact x_up_s
        · by_cases q2 : j = c + 2
          · subst q2
            rw [if_pos (by omega), show c + 2 - c = 2 by omega]
            show x_t (x_ui (x_ui u v (c + 2) (nI (48 + a % 100 % 10))) v (c + 1) (nI (48 + a % 100 / 10))) v (c+2) = nI (48 + a % 10)
            rw [show a % 10 = a % 100 % 10 by omega]
            exact (x_up_k (by omega)).trans x_up_s
          · rw [if_neg (by omega)]
            exact (x_up_k q1).trans (x_up_k q2)
    · unfold F_J6_getChars_ba4f3
      rw [if_neg z0, if_pos rfl, x_nmE, F_J6_getChars_ba4f3_L22, if_pos (e2.mpr (by omega)), show (100 : Int32) = nI 100 from rfl, p_xdv, h_xdvE (by omega) (by omega), e4, x_nmE, e5, Nat.add_zero, p_xlb, h_xlbE w1 (by omega) (by omega) (by omega), w2, em (c + 3) (by omega) (by omega), show c + 3 - 1 = c + 2 by omega, p_xsb, h_xsbE hk (by omega) (by omega), b1, p_xlb, h_xlbE kk1 (by omega) (by omega) (by omega), t3, em (c + 2) (by omega) (by omega), show c + 2 - 1 = c + 1 by omega, p_xsb, h_xsbE kk2 (by omega) (by omega), b2, F_J6_getChars_ba4f3_L22, if_neg (fun h => by have := k2.mp h; omega)]
      exact f8 0
end NUM
