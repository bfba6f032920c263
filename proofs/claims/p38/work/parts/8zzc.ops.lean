/-! the law's loop: one thing told -/
section LP
variable {p b L pl pa mu me Lx wn a B q : Nat} {xs : Nat → Int32} {d : Nat → Nat} {Fz : Nat → Prop} {V : Nat → Int32} {hs : z_Hs} {u : x_U} {S : Nat → Nat → (Nat → Int32) → Prop}
/-- what the law writes when the class has taken it -/
theorem T_set0 {J : x_U → Option (Int32 × x_U)} {w : Nat} {r17 r20 r : Int32} (hw : w ≤ 1) (kp : x_k u p = .inl 12) (hp : p < 500000) : (x_nm (fun  (s154 : x_U) =>
            x_nm (fun  (s155 : x_U) =>
              x_nm (fun  (s156 : x_U) =>
                x_nm (fun  (s157 : x_U) =>
                  J s157) fun j822 =>
                if nI w ≤ 2 then (
                j822 s156)
                else (
                x_gr s156 p 12 13 fun o158 =>
                x_lr s156 o158 r20 fun o159 =>
                x_st s156 o159 (nI w - 3) r fun s160 =>
                j822 s160)) fun j802 =>
              if nI w = 2 then (
              x_gr s155 p 12 12 fun o161 =>
              x_lr s155 o161 r17 fun o162 =>
              x_st s155 o162 2 r fun s163 =>
              j802 s163)
              else (
              j802 s155)) fun j785 =>
            if nI w = 1 then (
            x_pi s154 p 12 2 r fun s164 =>
            j785 s164)
            else (
            j785 s154)) fun j773 =>
          if nI w = 0 then (
          x_pi u p 12 6 r fun s165 =>
          j773 s165)
          else (
          j773 u)) = J (x_ui u p (if w = 0 then 6 else 2) r) := by
  have : w = 0 ∨ w = 1 := by omega
  rcases this with rfl | rfl
  · rw [x_nmE, if_pos (show nI 0 = (0 : Int32) from rfl), p_xpi, h_xpiE kp (by omega)]
    rfl
  · rw [x_nmE, if_neg (show ¬ nI 1 = (0 : Int32) by decide)]
    show x_nm _ _ = _
    rw [x_nmE, if_pos (show nI 1 = (1 : Int32) from rfl), p_xpi, h_xpiE kp (by omega)]
    rfl
theorem T_set2 {J : x_U → Option (Int32 × x_U)} {m : Nat} {r20 r : Int32} (kp : x_k u p = .inl 12) (rp : x_r u p 12 = p+1) (kq : x_k u (p+1) = .inr (12, 3)) (rb : x_r u (p+1) m = b+m) (hm : m < 12) (kb : x_k u (b+m) = .inr (10, 0)) : (x_nm (fun  (s154 : x_U) =>
            x_nm (fun  (s155 : x_U) =>
              x_nm (fun  (s156 : x_U) =>
                x_nm (fun  (s157 : x_U) =>
                  J s157) fun j822 =>
                if nI 2 ≤ 2 then (
                j822 s156)
                else (
                x_gr s156 p 12 13 fun o158 =>
                x_lr s156 o158 r20 fun o159 =>
                x_st s156 o159 (nI 2 - 3) r fun s160 =>
                j822 s160)) fun j802 =>
              if nI 2 = 2 then (
              x_gr s155 p 12 12 fun o161 =>
              x_lr s155 o161 (nI m) fun o162 =>
              x_st s155 o162 2 r fun s163 =>
              j802 s163)
              else (
              j802 s155)) fun j785 =>
            if nI 2 = 1 then (
            x_pi s154 p 12 2 r fun s164 =>
            j785 s164)
            else (
            j785 s154)) fun j773 =>
          if nI 2 = 0 then (
          x_pi u p 12 6 r fun s165 =>
          j773 s165)
          else (
          j773 u)) = J (x_ui u (b+m) 2 r) := by
  rw [x_nmE, if_neg (show ¬ nI 2 = (0 : Int32) by decide)]
  show x_nm _ _ = _
  rw [x_nmE, if_neg (show ¬ nI 2 = (1 : Int32) by decide)]
  show x_nm _ _ = _
  rw [x_nmE, if_pos (show nI 2 = (2 : Int32) from rfl), p_xgr, h_xgrE kp, rp, p_xlr, h_xlrE kq (by omega) (by omega) (by omega), rb]
  show x_st u (b+m) (nI 2) r _ = _
  rw [p_xst, h_xstE kb (by omega) (by omega)]
  rfl
theorem T_set3 {J : x_U → Option (Int32 × x_U)} {w k : Nat} {r17 r : Int32} (hw : 3 ≤ w ∧ w ≤ 5) (kp : x_k u p = .inl 12) (rp : x_r u p 13 = p+2) (kq : x_k u (p+2) = .inr (5, 3)) (rb : x_r u (p+2) k = b+mu+k) (hk : k < 5) (kb : x_k u (b+mu+k) = .inr (3, 0)) : (x_nm (fun  (s154 : x_U) =>
            x_nm (fun  (s155 : x_U) =>
              x_nm (fun  (s156 : x_U) =>
                x_nm (fun  (s157 : x_U) =>
                  J s157) fun j822 =>
                if nI w ≤ 2 then (
                j822 s156)
                else (
                x_gr s156 p 12 13 fun o158 =>
                x_lr s156 o158 (nI k) fun o159 =>
                x_st s156 o159 (nI w - 3) r fun s160 =>
                j822 s160)) fun j802 =>
              if nI w = 2 then (
              x_gr s155 p 12 12 fun o161 =>
              x_lr s155 o161 r17 fun o162 =>
              x_st s155 o162 2 r fun s163 =>
              j802 s163)
              else (
              j802 s155)) fun j785 =>
            if nI w = 1 then (
            x_pi s154 p 12 2 r fun s164 =>
            j785 s164)
            else (
            j785 s154)) fun j773 =>
          if nI w = 0 then (
          x_pi u p 12 6 r fun s165 =>
          j773 s165)
          else (
          j773 u)) = J (x_ui u (b+mu+k) (w-3) r) := by
  have n0 : ¬ nI w = (0 : Int32) ∧ ¬ nI w = (1 : Int32) ∧ ¬ nI w = (2 : Int32) ∧ ¬ nI w ≤ (2 : Int32) ∧ nI w - 3 = nI (w-3) := by
    have : w = 3 ∨ w = 4 ∨ w = 5 := by omega
    rcases this with rfl | rfl | rfl <;> decide
  obtain ⟨n0, n1, n2, n3, n4⟩ := n0
  rw [x_nmE, if_neg n0]
  show x_nm _ _ = _
  rw [x_nmE, if_neg n1]
  show x_nm _ _ = _
  rw [x_nmE, if_neg n2]
  show x_nm _ _ = _
  rw [x_nmE, if_neg n3, p_xgr, h_xgrE kp, rp, p_xlr, h_xlrE kq (by omega) (by omega) (by omega), rb, n4, p_xst, h_xstE kb (by omega) (by omega)]
end LP
