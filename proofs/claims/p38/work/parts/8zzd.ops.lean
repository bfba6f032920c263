/-! the law's loop: one thing told, and taken -/
section LP
variable {p b L pl pa mu me Lx wn a B q : Nat} {xs : Nat → Int32} {d : Nat → Nat} {Fz : Nat → Prop} {V : Nat → Int32} {hs : z_Hs} {u : x_U} {S : Nat → Nat → (Nat → Int32) → Prop}
theorem O_set1 {w k m r : Nat} (h : y_I Lx xs a mu me L d u p b pl pa V hs wn Fz S B) (hc : (w ≤ 1 ∧ r ≤ 9) ∨ (w = 2 ∧ m < mu ∧ r ≤ 1) ∨ (3 ≤ w ∧ w ≤ 5 ∧ k < me ∧ r ≤ (if w = 3 then 99 else 9))) : ∃ u' W S', y_I Lx xs a mu me L d u' p b pl pa W y_h0 wn Fz S' B ∧ x_n u' = x_n u ∧ x_m u' = x_m u ∧ ∃ σ', f_X11_set q_F 0 (nI w) (nI (if w = 2 then m else k)) (nI r) (x_c u) = some (nI 1, σ') ∧ ∀ J : x_U → Option (Int32 × x_U), (x_nm (fun  (s154 : x_U) =>
            x_nm (fun  (s155 : x_U) =>
              x_nm (fun  (s156 : x_U) =>
                x_nm (fun  (s157 : x_U) =>
                  J s157) fun j822 =>
                if nI w ≤ 2 then (
                j822 s156)
                else (
                x_gr s156 p 12 13 fun o158 =>
                x_lr s156 o158 (nI k) fun o159 =>
                x_st s156 o159 (nI w - 3) (nI r) fun s160 =>
                j822 s160)) fun j802 =>
              if nI w = 2 then (
              x_gr s155 p 12 12 fun o161 =>
              x_lr s155 o161 (nI m) fun o162 =>
              x_st s155 o162 2 (nI r) fun s163 =>
              j802 s163)
              else (
              j802 s155)) fun j785 =>
            if nI w = 1 then (
            x_pi s154 p 12 2 (nI r) fun s164 =>
            j785 s164)
            else (
            j785 s154)) fun j773 =>
          if nI w = 0 then (
          x_pi (x_uc u σ') p 12 6 (nI r) fun s165 =>
          j773 s165)
          else (
          j773 (x_uc u σ'))) = J u' := by
  have hT := h.T
  have hz := h.2.2.2.1
  have hbd := hT.bd
  have kp : x_k u p = .inl 12 := hT.k0
  have hp : x_own p b mu me p := by unfold x_own; omega
  rcases hc with ⟨hw, hr⟩ | ⟨rfl, hm, hr⟩ | ⟨hw1, hw2, hk, hr⟩
  · have hw01 : w = 0 ∨ w = 1 := by omega
    rcases hw01 with rfl | rfl
    · obtain ⟨σ', e1, hz1⟩ := Q_set0 (v := r) (x := nI k) hz hr
      have hI := h.tell (k := 6) (v := nI r) hp (hT.sc (x := nI r) (f := 6) (a := 88) (by omega)) hz1 (z_uK (by omega)) (fun i hi => z_uK (by omega))
      exact ⟨_, _, _, hI, rfl, rfl, σ', e1, fun J => T_set0 (u := x_uc u σ') (w := 0) hw kp (by omega)⟩
    · obtain ⟨σ', e1, hz1⟩ := Q_set1 (v := r) (x := nI k) hz hr
      have hI := h.tell (k := 2) (v := nI r) hp (hT.sc (x := nI r) (f := 2) (a := 1) (by omega)) hz1 (z_uK (by omega)) (fun i hi => z_uK (by omega))
      exact ⟨_, _, _, hI, rfl, rfl, σ', e1, fun J => T_set0 (u := x_uc u σ') (w := 1) hw kp (by omega)⟩
  · obtain ⟨s, hs2, h7⟩ := hz.1.1.1.2.2.2.2.1
    obtain ⟨σ', y, y1, y2, e1, hz1⟩ := Q_set2 (v := r) hz hm hr h7 hs2
    have hp2 : (2:Nat) ^ mu ≤ 2 ^ 12 := Nat.pow_le_pow_right (by omega) (by omega)
    have ho : x_own p b mu me (b+m) := by unfold x_own; omega
    have yq : y.testBit m = decide (r = 1) := (y2 m).trans (if_pos rfl)
    have hI := h.tell (k := 2) (v := nI r) ho (hT.lm (m := m) (s := s) (y := y) (x := nI r) hm h7 (by omega) (by omega) (by
      rw [yq]
      have : r = 0 ∨ r = 1 := by omega
      rcases this with rfl | rfl <;> rfl) (fun t _ hn => (y2 t).trans (if_neg hn))) hz1 (z_uK (by omega)) (fun i hi => z_uK (by omega))
    exact ⟨_, _, _, hI, rfl, rfl, σ', e1, fun J => T_set2 (u := x_uc u σ') kp hT.1.2.2.1 hT.1.2.1.2.1 (hT.1.2.2.2.2.2.2.2.2.1 m hm) (by omega) (hT.1.2.1.2.2.2.2.1 m hm)⟩
  · have ho : x_own p b mu me (b+mu+k) := by unfold x_own; omega
    have kk : x_k u (b+mu+k) = .inr (3, 0) := hT.1.2.1.2.2.2.2.2 k hk
    have rk : x_r u (p+2) k = b+mu+k := hT.1.2.2.2.2.2.2.2.2.2 k hk
    have hww : w = 3 ∨ w = 4 ∨ w = 5 := by omega
    rcases hww with rfl | rfl | rfl
    · obtain ⟨σ', e1, hz1⟩ := Q_set3 (v := r) hz hk hr
      have hI := h.tell (k := 0) (v := nI r) ho (hT.man (x := nI r) (f := 0) (a := 80) hk (by omega)) hz1 (z_uK (by omega)) (fun i hi => z_uK (by omega))
      exact ⟨_, _, _, hI, rfl, rfl, σ', e1, fun J => T_set3 (u := x_uc u σ') (w := 3) (by omega) kp hT.1.2.2.2.1 hT.1.2.1.2.2.1 rk (by omega) kk⟩
    · obtain ⟨σ', e1, hz1⟩ := Q_set4 (v := r) hz hk hr
      have hI := h.tell (k := 1) (v := nI r) ho (hT.man (x := nI r) (f := 1) (a := 119) hk (by omega)) hz1 (z_uK (by omega)) (fun i hi => z_uK (by omega))
      exact ⟨_, _, _, hI, rfl, rfl, σ', e1, fun J => T_set3 (u := x_uc u σ') (w := 4) (by omega) kp hT.1.2.2.2.1 hT.1.2.1.2.2.1 rk (by omega) kk⟩
    · obtain ⟨σ', e1, hz1⟩ := Q_set5 (v := r) hz hk hr
      have hI := h.tell (k := 2) (v := nI r) ho (hT.man (x := nI r) (f := 2) (a := 124) hk (by omega)) hz1 (z_uK (by omega)) (fun i hi => z_uK (by omega))
      exact ⟨_, _, _, hI, rfl, rfl, σ', e1, fun J => T_set3 (u := x_uc u σ') (w := 5) (by omega) kp hT.1.2.2.2.1 hT.1.2.1.2.2.1 rk (by omega) kk⟩
end LP
