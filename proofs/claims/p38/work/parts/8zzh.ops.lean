/-! the law's loop: set, all of it -/
section LP
variable {p b L pl pa mu me Lx wn a B q : Nat} {xs : Nat → Int32} {d : Nat → Nat} {Fz : Nat → Prop} {V : Nat → Int32} {hs : z_Hs} {u : x_U} {S : Nat → Nat → (Nat → Int32) → Prop}
theorem T_nmW {J : Int32 → x_U → Option (Int32 × x_U)} {w m k : Nat} (hw : w ≤ 6) : x_nm J (fun j => if nI w = 2 then j (nI m) u else j (nI k) u) = J (nI (if w = 2 then m else k)) u := by
  have e2 : (nI w = (2 : Int32)) ↔ w = 2 := by
    rw [show (2 : Int32) = nI 2 from rfl]
    exact nI_eq (by omega) (by omega)
  rw [x_nmE]
  by_cases h : w = 2
  · rw [if_pos (e2.mpr h), if_pos h]
  · rw [if_neg (fun q => h (e2.mp q)), if_neg h]
theorem T_nmT {J : Int32 → x_U → Option (Int32 × x_U)} {w : Nat} (hw : w ≤ 6) : x_nm J (fun j => if nI w = 3 then j 100 u else j 10 u) = J (nI (if w = 3 then 100 else 10)) u := by
  have e2 : (nI w = (3 : Int32)) ↔ w = 3 := by
    rw [show (3 : Int32) = nI 3 from rfl]
    exact nI_eq (by omega) (by omega)
  rw [x_nmE]
  by_cases h : w = 3
  · rw [if_pos (e2.mpr h), if_pos h]
    rfl
  · rw [if_neg (fun q => h (e2.mp q)), if_neg h]
    rfl
set_option maxHeartbeats 4000000 in
theorem O_set {w m k : Nat} {v : Int32} (hw : w ≤ 6) (hk : k ≤ me) (hm : m ≤ mu) (h : y_I Lx xs a mu me L d u p b pl pa V hs wn Fz S B) (hb : x_n u + 1 ≤ 500000) : ∃ u' y25, y_ON Lx xs a mu me L d u' p q y25 0 B ∧ x_n u ≤ x_n u' ∧ x_n u' ≤ x_n u + 1 ∧ x_m u' ≤ x_m u + 7 ∧ ∀ J : Nat → Int32 → Int32 → x_U → Option (Int32 × x_U), (x_nm (fun (y132 : Int32) (s133 : x_U) =>
      x_nm (fun (y134 : Int32) (s135 : x_U) =>
        x_call (F_L_between q_F (v >>> (6 &&& 31)) 0 y134 s135) fun r137 s136 =>
        x_nwa s136 0 7 fun o138 s139 =>
        x_st s139 o138 0 9 fun s140 =>
        x_st s140 o138 1 9 fun s141 =>
        x_st s141 o138 2 1 fun s142 =>
        x_st s142 o138 3 99 fun s143 =>
        x_st s143 o138 4 9 fun s144 =>
        x_st s144 o138 5 9 fun s145 =>
        x_st s145 o138 6 (-1) fun s146 =>
        x_ld s146 o138 (nI w) fun v147 =>
        x_nm (fun (y148 : Int32) (s149 : x_U) =>
          x_calc s149 (f_X11_set q_F 0 (nI w) y132 r137 (x_c s149)) fun r151 s150 =>
          if r151 = y148 then (
          x_nm (fun (y152 : Int32) (s153 : x_U) =>
            J p y152 0 s153) fun j825 =>
          if y148 = 0 then (
          j825 (nI hs.1) s150)
          else (
          x_nm (fun  (s154 : x_U) =>
            x_nm (fun  (s155 : x_U) =>
              x_nm (fun  (s156 : x_U) =>
                x_nm (fun  (s157 : x_U) =>
                  j825 0 s157) fun j822 =>
                if nI w ≤ 2 then (
                j822 s156)
                else (
                x_gr s156 p 12 13 fun o158 =>
                x_lr s156 o158 (nI k) fun o159 =>
                x_st s156 o159 (nI w - 3) r137 fun s160 =>
                j822 s160)) fun j802 =>
              if nI w = 2 then (
              x_gr s155 p 12 12 fun o161 =>
              x_lr s155 o161 (nI m) fun o162 =>
              x_st s155 o162 2 r137 fun s163 =>
              j802 s163)
              else (
              j802 s155)) fun j785 =>
            if nI w = 1 then (
            x_pi s154 p 12 2 r137 fun s164 =>
            j785 s164)
            else (
            j785 s154)) fun j773 =>
          if nI w = 0 then (
          x_pi s150 p 12 6 r137 fun s165 =>
          j773 s165)
          else (
          j773 s150)))
          else (
          some (0, s150))) fun j738 =>
        x_nm (fun  (s166 : x_U) =>
          j738 0 s166) fun j737 =>
        if r137 ≤ v147 then (
        x_nm (fun  (s167 : x_U) =>
          j738 1 s167) fun j733 =>
        if nI w < 2 then (
        j733 s146)
        else (
        x_nm (fun (y168 : Int32) (s169 : x_U) =>
          if y132 < y168 then (
          j733 s169)
          else (
          j737 s169)) fun j730 =>
        if nI w = 2 then (
        x_gi s146 p 12 7 fun v170 =>
        j730 v170 s146)
        else (
        x_gi s146 p 12 8 fun v171 =>
        j730 v171 s146)))
        else (
        j737 s146)) fun j650 =>
      if nI w = 3 then (
      j650 100 s133)
      else (
      j650 10 s133)) fun j629 =>
    if nI w = 2 then (
    j629 (nI m) u)
    else (
    j629 (nI k) u)) = J p y25 0 u' := by
  have hmu := h.2.2.2.1.g.1
  have hme := h.2.2.2.1.g.2.1
  obtain ⟨top, htop⟩ : ∃ t, t = if w = 3 then 100 else 10 := ⟨_, rfl⟩
  have ht100 : top ≤ 100 := by
    rw [htop]
    split <;> omega
  obtain ⟨r, hr⟩ : ∃ r, r = y_bt (v >>> (6 &&& 31)) 0 top := ⟨_, rfl⟩
  have hr100 : r ≤ 100 := by
    have := (y_bt_b (v := v >>> (6 &&& 31)) (lo := 0) (hi := top) (by omega)).2
    omega
  have eB : F_L_between q_F (v >>> (6 &&& 31)) 0 (nI top) u = some (nI r, u) := by
    rw [hr]
    exact F_btw (lo := 0) (hi := top) (by omega) (by omega)
  obtain ⟨w1, f1, n1, m1, e1⟩ := T_bound (u := u) hw hb
  have hI1 := h.frF f1 (by omega)
  have hT1 := hI1.T
  have kp1 : x_k w1 p = .inl 12 := hT1.k0
  have t7 : x_t w1 p 7 = nI mu := hT1.2.1.1.2.2.2.2.2.2.2.1
  have t8 : x_t w1 p 8 = nI me := hT1.2.1.1.2.2.2.2.2.2.2.2.1
  by_cases hc : (w ≤ 1 ∧ r ≤ 9) ∨ (w = 2 ∧ m < mu ∧ r ≤ 1) ∨ (3 ≤ w ∧ w ≤ 5 ∧ k < me ∧ r ≤ (if w = 3 then 99 else 9))
  · obtain ⟨u', W, S', hI, n2, m2, σ', e2, e3⟩ := O_set1 hI1 hc
    refine ⟨u', nI 0, Or.inl ⟨rfl, b, pl, pa, W, y_h0, wn, Fz, S', rfl, hI⟩, by omega, by omega, by omega, fun J => ?_⟩
    refine (T_nmW hw).trans ?_
    refine (T_nmT hw).trans ?_
    rw [← htop]
    refine (congrArg (fun z => x_call z _) eB).trans ?_
    rw [z_xcall]
    refine (e1 _).trans ?_
    refine (T_take (u := w1) hw hk hm hr100 hmu hme kp1 t7 t8 rfl).trans ?_
    rw [if_pos hc]
    show x_calc w1 (f_X11_set q_F 0 (nI w) (nI (if w = 2 then m else k)) (nI r) (x_c w1)) (fun r151 s150 => _) = _
    rw [e2, z_xcalc]
    refine (if_pos (show nI 1 = (1 : Int32) from rfl)).trans ?_
    rw [x_nmE]
    refine (if_neg (show ¬ (1 : Int32) = 0 by decide)).trans ?_
    exact e3 (fun s157 => J p 0 0 s157)
  · have eN := c_setN hI1.2.2.2.1 hw hk hm hr100 hc
    refine ⟨w1, nI hs.1, Or.inl ⟨rfl, b, pl, pa, V, hs, wn, Fz, S, rfl, hI1⟩, by omega, by omega, by omega, fun J => ?_⟩
    refine (T_nmW hw).trans ?_
    refine (T_nmT hw).trans ?_
    rw [← htop]
    refine (congrArg (fun z => x_call z _) eB).trans ?_
    rw [z_xcall]
    refine (e1 _).trans ?_
    refine (T_take (u := w1) hw hk hm hr100 hmu hme kp1 t7 t8 rfl).trans ?_
    rw [if_neg hc]
    show x_calc w1 (f_X11_set q_F 0 (nI w) (nI (if w = 2 then m else k)) (nI r) (x_c w1)) (fun r151 s150 => _) = _
    have eu : x_uc w1 (x_c w1) = w1 := rfl
    rw [eN, z_xcalc, eu]
    refine (if_pos (show nI 0 = (0 : Int32) from rfl)).trans ?_
    rw [x_nmE]
    exact if_pos rfl
end LP
