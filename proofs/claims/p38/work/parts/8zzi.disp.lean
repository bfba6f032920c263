/-! the law's loop: all acts together -/
section LP
variable {p b L pl pa mu me Lx wn a B q : Nat} {xs : Nat → Int32} {d : Nat → Nat} {Fz : Nat → Prop} {V : Nat → Int32} {hs : z_Hs} {u : x_U} {S : Nat → Nat → (Nat → Int32) → Prop}
theorem x_nm_cg {β : Type} {J : Nat → Int32 → Int32 → x_U → Option (β × x_U)} {K : (Nat → Int32 → Int32 → x_U → Option (β × x_U)) → Option (β × x_U)} {p' : Nat} {y25 y26 : Int32} {u' : x_U} (e : ∀ J, K J = J p' y25 y26 u') : x_nm J K = J p' y25 y26 u' := e J
set_option maxHeartbeats 8000000 in
theorem T_disp {c k m : Nat} {v x5 : Int32} (hc : c ≤ 13) (hk : k ≤ me) (hm : m ≤ mu) (h : y_I Lx xs a mu me L d u p b pl pa V hs wn Fz S B) (hQ : y_Q a mu me u p q V hs S) (hB : B ≤ 800) (hb : x_n u + 2000 ≤ 499000) : ∃ u' p' y25 y26, y_ON Lx xs a mu me L d u' p' q y25 y26 (B+6) ∧ x_n u ≤ x_n u' ∧ x_n u' ≤ x_n u + 1400 ∧ x_m u' ≤ x_m u + 84000 ∧ ∀ J : Nat → Int32 → Int32 → x_U → Option (Int32 × x_U), (if (nI c) < 2 then (
    x_call (F_L_between q_F (v >>> (5 &&& 31)) 1 6 u) fun r42 s41 =>
    F_L_law_L148 q_F (x_CT + 2) p a x5 q 0 r42 (fun (y56 : Int32) (y57 : Int32) (s58 : x_U) =>
    x_calc s58 (f_X11_days q_F 0 r42 (x_c s58)) fun r60 s59 =>
    if r60 = y57 then (
    J p y56 0 s59)
    else (
    some (0, s59))) q_F (nI hs.1) 0 0 s41)
    else (
    if (nI c) < 5 then (
    x_o u p 12 <|
    x_call (F_X12_votes q_F p 1 u) fun r62 s61 =>
    x_calc s61 (f_X11_vote q_F 0  (x_c s61)) fun r65 s64 =>
    x_gi s64 p 12 3 fun v66 =>
    if r65 = v66 then (
    J p (nI hs.1) 1 s64)
    else (
    some (0, s64)))
    else (
    if (nI c) < 7 then (
    x_call (F_L_between q_F (v >>> (6 &&& 31)) 0 3 u) fun r68 s67 =>
    x_nm (fun (y69 : Int32) (s70 : x_U) =>
      x_nm (fun (y71 : Int32) (s72 : x_U) =>
        x_calc s72 (f_X11_act q_F 0 r68 (nI k) (nI m) (x_c s72)) fun r74 s73 =>
        if r74 = y71 then (
        J p (nI hs.1) y71 s73)
        else (
        some (0, s73))) fun j341 =>
      x_nm (fun  (s75 : x_U) =>
        j341 0 s75) fun j340 =>
      if y69 = 0 then (
      j340 s70)
      else (
      x_o s70 p 12 <|
      x_call (F_X12_does q_F p r68 (nI k) (nI m) 1 s70) fun r77 s76 =>
      if r77 = 0 then (
      j340 s76)
      else (
      j341 1 s76))) fun j315 =>
    x_nm (fun  (s79 : x_U) =>
      j315 0 s79) fun j314 =>
    if r68 < 3 then (
    x_gi s67 p 12 8 fun v80 =>
    if (nI k) < v80 then (
    x_nm (fun  (s81 : x_U) =>
      j315 1 s81) fun j310 =>
    if r68 = 1 then (
    j310 s67)
    else (
    x_gi s67 p 12 7 fun v82 =>
    if (nI m) < v82 then (
    j310 s67)
    else (
    j314 s67)))
    else (
    j314 s67))
    else (
    j314 s67))
    else (
    if (nI c) = 7 then (
    x_gr u p 12 15 fun o83 =>
    x_len u o83 fun v84 =>
    x_nm (fun (y85 : Int32) (s86 : x_U) =>
      x_gr s86 p 12 15 fun o87 =>
      x_len s86 o87 fun v88 =>
      F_L_law_L431 q_F (x_CT + 2) p a (nI hs.1) x5 v q o87 v88 (fun (y95 : Int32) (s96 : x_U) =>
      x_nm (fun (y97 : Int32) (s98 : x_U) =>
        x_nm (fun (y99 : Int32) (s100 : x_U) =>
          x_calc s100 (f_X11_go q_F 0 y95 (x_c s100)) fun r102 s101 =>
          if r102 = y97 then (
          J p (nI hs.1) y99 s101)
          else (
          some (0, s101))) fun j509 =>
        if y97 < 0 then (
        j509 0 s98)
        else (
        j509 1 s98)) fun j497 =>
      if y95 < 10 then (
      x_o s96 p 12 <|
      x_call (F_X12_goes q_F p y95 1 s96) fun r104 s103 =>
      j497 r104 s103)
      else (
      j497 (-1) s96)) q_F y85 0 s86) fun j415 =>
    if v84 = 0 then (
    x_call (F_L_between q_F (v >>> (6 &&& 31)) 0 10 u) fun r107 s106 =>
    j415 r107 s106)
    else (
    x_gr u p 12 15 fun o108 =>
    x_gr u p 12 15 fun o109 =>
    x_len u o109 fun v110 =>
    x_call (F_L_between q_F (v >>> (6 &&& 31)) 0 (v110 - 1) u) fun r112 s111 =>
    x_lr s111 o108 r112 fun o113 =>
    x_ld s111 o113 1 fun v114 =>
    j415 v114 s111))
    else (
    if (nI c) = 8 then (
    x_o u p 12 <|
    x_call (F_X12_lame q_F p u) fun r116 s115 =>
    x_call (F_J6_bitCount_0f7a4 q_F r116 s115) fun r119 s118 =>
    F_L_law_L549 q_F (x_CT + 2) p a (nI hs.1) x5 q 1 r119 (fun  (s124 : x_U) =>
    x_o s124 p 12 <|
    x_call (F_X12_notes q_F p 6 (-1) 0 1 s124) fun r126 s125 =>
    x_calc s125 (f_X11_rest q_F 0  (x_c s125)) fun r129 s128 =>
    if r129 = r119 then (
    J p (nI hs.1) 1 s128)
    else (
    some (0, s128))) q_F 0 s118)
    else (
    if (nI c) = 9 then (
    x_call (F_L_between q_F (v >>> (4 &&& 31)) 0 6 u) fun r131 s130 =>
    x_nm (fun (y132 : Int32) (s133 : x_U) =>
      x_nm (fun (y134 : Int32) (s135 : x_U) =>
        x_call (F_L_between q_F (v >>> (6 &&& 31)) 0 y134 s135) fun r137 s136 =>
        x_nwa s136 0 7 fun o138 s139 =>
        x_st s139 o138 0 9 fun s140 =>
        x_st s140 o138 1 9 fun s141 =>
        x_st s141 o138 2 1 fun s142 =>
        x_st s142 o138 3 99 fun s143 =>
        x_st s143 o138 4 9 fun s144 =>
        x_st s144 o138 5 9 fun s145 =>
        x_st s145 o138 6 (-1) fun s146 =>
        x_ld s146 o138 r131 fun v147 =>
        x_nm (fun (y148 : Int32) (s149 : x_U) =>
          x_calc s149 (f_X11_set q_F 0 r131 y132 r137 (x_c s149)) fun r151 s150 =>
          if r151 = y148 then (
          x_nm (fun (y152 : Int32) (s153 : x_U) =>
            J p y152 0 s153) fun j825 =>
          if y148 = 0 then (
          j825 (nI hs.1) s150)
          else (
          x_nm (fun  (s154 : x_U) =>
            x_nm (fun  (s155 : x_U) =>
              x_nm (fun  (s156 : x_U) =>
                x_nm (fun  (s157 : x_U) =>
                  j825 0 s157) fun j822 =>
                if r131 ≤ 2 then (
                j822 s156)
                else (
                x_gr s156 p 12 13 fun o158 =>
                x_lr s156 o158 (nI k) fun o159 =>
                x_st s156 o159 (r131 - 3) r137 fun s160 =>
                j822 s160)) fun j802 =>
              if r131 = 2 then (
              x_gr s155 p 12 12 fun o161 =>
              x_lr s155 o161 (nI m) fun o162 =>
              x_st s155 o162 2 r137 fun s163 =>
              j802 s163)
              else (
              j802 s155)) fun j785 =>
            if r131 = 1 then (
            x_pi s154 p 12 2 r137 fun s164 =>
            j785 s164)
            else (
            j785 s154)) fun j773 =>
          if r131 = 0 then (
          x_pi s150 p 12 6 r137 fun s165 =>
          j773 s165)
          else (
          j773 s150)))
          else (
          some (0, s150))) fun j738 =>
        x_nm (fun  (s166 : x_U) =>
          j738 0 s166) fun j737 =>
        if r137 ≤ v147 then (
        x_nm (fun  (s167 : x_U) =>
          j738 1 s167) fun j733 =>
        if r131 < 2 then (
        j733 s146)
        else (
        x_nm (fun (y168 : Int32) (s169 : x_U) =>
          if y132 < y168 then (
          j733 s169)
          else (
          j737 s169)) fun j730 =>
        if r131 = 2 then (
        x_gi s146 p 12 7 fun v170 =>
        j730 v170 s146)
        else (
        x_gi s146 p 12 8 fun v171 =>
        j730 v171 s146)))
        else (
        j737 s146)) fun j650 =>
      if r131 = 3 then (
      j650 100 s133)
      else (
      j650 10 s133)) fun j629 =>
    if r131 = 2 then (
    j629 (nI m) s130)
    else (
    j629 (nI k) s130))
    else (
    if (nI c) = 10 then (
    x_call (F_L_between q_F (v >>> (6 &&& 31)) 0 100 u) fun r173 s172 =>
    x_gi s172 p 12 7 fun v174 =>
    x_nm (fun (y175 : Int32) (s176 : x_U) =>
      x_calc s176 (f_X11_like q_F 0 (nI m) (nI k) r173 (x_c s176)) fun r178 s177 =>
      if r178 = y175 then (
      x_nm (fun (y179 : Int32) (s180 : x_U) =>
        J p y179 0 s180) fun j919 =>
      if y175 = 0 then (
      j919 (nI hs.1) s177)
      else (
      x_gr s177 p 12 12 fun o181 =>
      x_lr s177 o181 (nI m) fun o182 =>
      x_st s177 o182 (5 + (nI k)) r173 fun s183 =>
      j919 0 s183))
      else (
      some (0, s177))) fun j878 =>
    x_nm (fun  (s184 : x_U) =>
      j878 0 s184) fun j877 =>
    if (nI m) < v174 then (
    x_gi s172 p 12 8 fun v185 =>
    if (nI k) < v185 then (
    if r173 < 100 then (
    j878 1 s172)
    else (
    j877 s172))
    else (
    j877 s172))
    else (
    j877 s172))
    else (
    if (nI c) = 11 then (
    if ((v >>> (6 &&& 31)) &&& 1) = 0 then (
    x_call (F_L_texts q_F p v u) fun r187 s186 =>
    if r187 = 0 then (
    some (0, s186))
    else (
    J p 0 0 s186))
    else (
    J p (nI hs.1) 0 u))
    else (
    x_calc u (f_X11_undo q_F 0  (x_c u)) fun r189 s188 =>
    x_nm (fun (y190 : Int32) (s191 : x_U) =>
      if r189 = y190 then (
      if (nI hs.1) ≤ 0 then (
      J p (nI hs.1) 0 s191)
      else (
      x_lr s191 a ((nI hs.1) + (-1)) fun o192 =>
      J o192 ((nI hs.1) + (-1)) 0 s191))
      else (
      some (0, s191))) fun j971 =>
    if (nI hs.1) ≤ 0 then (
    j971 0 s188)
    else (
    j971 1 s188)))))))))) = J p' y25 y26 u' := by
  have kp : x_k u p = .inl 12 := h.T.k0
  have hmu := h.2.2.2.1.g.1
  have hme := h.2.2.2.1.g.2.1
  have lt : ∀ t, t < 20 → ((nI c < nI t) ↔ c < t) := fun t ht => nI_ltI (by omega) (by omega)
  have eq : ∀ t, t < 20 → ((nI c = nI t) ↔ c = t) := fun t ht => nI_eq (by omega) (by omega)
  have l2 : (nI c < (2 : Int32)) ↔ c < 2 := lt 2 (by omega)
  have l5 : (nI c < (5 : Int32)) ↔ c < 5 := lt 5 (by omega)
  have l7 : (nI c < (7 : Int32)) ↔ c < 7 := lt 7 (by omega)
  have q7 : (nI c = (7 : Int32)) ↔ c = 7 := eq 7 (by omega)
  have q8 : (nI c = (8 : Int32)) ↔ c = 8 := eq 8 (by omega)
  have q9 : (nI c = (9 : Int32)) ↔ c = 9 := eq 9 (by omega)
  have q10 : (nI c = (10 : Int32)) ↔ c = 10 := eq 10 (by omega)
  have q11 : (nI c = (11 : Int32)) ↔ c = 11 := eq 11 (by omega)
  by_cases c2 : c < 2
  · obtain ⟨N, hN⟩ : ∃ N, N = y_bt (v >>> (5 &&& 31)) 1 6 := ⟨_, rfl⟩
    have bN := y_bt_b (v := v >>> (5 &&& 31)) (lo := 1) (hi := 6) (by omega)
    have eB : F_L_between q_F (v >>> (5 &&& 31)) 1 6 u = some (nI N, u) := by rw [hN]; exact F_btw (lo := 1) (hi := 6) (by omega) (by omega)
    obtain ⟨u', y25, g1, g2, g3, g4, g5⟩ := O_days (q := q) (N := N) (x5 := x5) (by omega) (by omega) h (by omega) (by omega)
    refine ⟨u', p, y25, 0, g1, g2, by omega, by omega, fun J => ?_⟩
    rw [if_pos (l2.mpr c2), eB, z_xcall]
    exact g5 J
  by_cases c5 : c < 5
  · obtain ⟨u', y25, y26, g1, g2, g3, g4, g5⟩ := O_vote h hQ (by omega)
    refine ⟨u', p, y25, y26, g1.w (by omega), g2, by omega, by omega, fun J => ?_⟩
    rw [if_neg (fun z => c2 (l2.mp z)), if_pos (l5.mpr c5)]
    exact g5 J
  by_cases c7 : c < 7
  · obtain ⟨N, hN⟩ : ∃ N, N = y_bt (v >>> (6 &&& 31)) 0 3 := ⟨_, rfl⟩
    have bN := y_bt_b (v := v >>> (6 &&& 31)) (lo := 0) (hi := 3) (by omega)
    have eB : F_L_between q_F (v >>> (6 &&& 31)) 0 3 u = some (nI N, u) := by rw [hN]; exact F_btw (lo := 0) (hi := 3) (by omega) (by omega)
    obtain ⟨u', y25, y26, g1, g2, g3, g4, g5⟩ := O_act (c := N) (by omega) hk hm h hQ (by omega)
    refine ⟨u', p, y25, y26, g1.w (by omega), g2, by omega, by omega, fun J => ?_⟩
    rw [if_neg (fun z => c2 (l2.mp z)), if_neg (fun z => c5 (l5.mp z)), if_pos (l7.mpr c7), eB, z_xcall]
    exact g5 J
  by_cases d7 : c = 7
  · obtain ⟨u', y25, y26, g1, g2, g3, g4, g5⟩ := O_go (v := v) (x5 := x5) h hQ (by omega)
    refine ⟨u', p, y25, y26, g1.w (by omega), g2, by omega, by omega, fun J => ?_⟩
    rw [if_neg (fun z => c2 (l2.mp z)), if_neg (fun z => c5 (l5.mp z)), if_neg (fun z => c7 (l7.mp z)), if_pos (q7.mpr d7)]
    exact g5 J
  by_cases d8 : c = 8
  · obtain ⟨u', y25, g1, g2, g3, g4, g5⟩ := O_rest (x5 := x5) h hQ (by omega)
    refine ⟨u', p, y25, 1, g1.w (by omega), g2, by omega, by omega, fun J => ?_⟩
    rw [if_neg (fun z => c2 (l2.mp z)), if_neg (fun z => c5 (l5.mp z)), if_neg (fun z => c7 (l7.mp z)), if_neg (fun z => d7 (q7.mp z)), if_pos (q8.mpr d8)]
    exact g5 J
  by_cases d9 : c = 9
  · obtain ⟨N, hN⟩ : ∃ N, N = y_bt (v >>> (4 &&& 31)) 0 6 := ⟨_, rfl⟩
    have bN := y_bt_b (v := v >>> (4 &&& 31)) (lo := 0) (hi := 6) (by omega)
    have eB : F_L_between q_F (v >>> (4 &&& 31)) 0 6 u = some (nI N, u) := by rw [hN]; exact F_btw (lo := 0) (hi := 6) (by omega) (by omega)
    obtain ⟨u', y25, g1, g2, g3, g4, g5⟩ := O_set (q := q) (w := N) (v := v) (by omega) hk hm h (by omega)
    refine ⟨u', p, y25, 0, g1.w (by omega), g2, by omega, by omega, fun J => ?_⟩
    rw [if_neg (fun z => c2 (l2.mp z)), if_neg (fun z => c5 (l5.mp z)), if_neg (fun z => c7 (l7.mp z)), if_neg (fun z => d7 (q7.mp z)), if_neg (fun z => d8 (q8.mp z)), if_pos (q9.mpr d9), eB, z_xcall]
    exact g5 J
  by_cases d10 : c = 10
  · obtain ⟨N, hN⟩ : ∃ N, N = y_bt (v >>> (6 &&& 31)) 0 100 := ⟨_, rfl⟩
    have bN := y_bt_b (v := v >>> (6 &&& 31)) (lo := 0) (hi := 100) (by omega)
    have eB : F_L_between q_F (v >>> (6 &&& 31)) 0 100 u = some (nI N, u) := by rw [hN]; exact F_btw (lo := 0) (hi := 100) (by omega) (by omega)
    obtain ⟨u', y25, g1, g3, g4, g5⟩ := O_like (q := q) (r := N) h hm hk (by omega)
    refine ⟨u', p, y25, 0, g1.w (by omega), by omega, by omega, by omega, fun J => ?_⟩
    rw [if_neg (fun z => c2 (l2.mp z)), if_neg (fun z => c5 (l5.mp z)), if_neg (fun z => c7 (l7.mp z)), if_neg (fun z => d7 (q7.mp z)), if_neg (fun z => d8 (q8.mp z)), if_neg (fun z => d9 (q9.mp z)), if_pos (q10.mpr d10), eB, z_xcall]
    exact g5 J
  by_cases d11 : c = 11
  · obtain ⟨u', y25, g1, g2, g3, g4, g5⟩ := O_texts (q := q) (v := v) h (by omega) (by omega)
    refine ⟨u', p, y25, 0, g1.w (by omega), g2, by omega, by omega, fun J => ?_⟩
    rw [if_neg (fun z => c2 (l2.mp z)), if_neg (fun z => c5 (l5.mp z)), if_neg (fun z => c7 (l7.mp z)), if_neg (fun z => d7 (q7.mp z)), if_neg (fun z => d8 (q8.mp z)), if_neg (fun z => d9 (q9.mp z)), if_neg (fun z => d10 (q10.mp z)), if_pos (q11.mpr d11)]
    exact g5 J
  obtain ⟨u', p', y25, g1, g3, g4, g5⟩ := O_undo (q := q) h
  refine ⟨u', p', y25, 0, g1.w (by omega), by omega, by omega, by omega, fun J => ?_⟩
  rw [if_neg (fun z => c2 (l2.mp z)), if_neg (fun z => c5 (l5.mp z)), if_neg (fun z => c7 (l7.mp z)), if_neg (fun z => d7 (q7.mp z)), if_neg (fun z => d8 (q8.mp z)), if_neg (fun z => d9 (q9.mp z)), if_neg (fun z => d10 (q10.mp z)), if_neg (fun z => d11 (q11.mp z))]
  exact g5 J
end LP
