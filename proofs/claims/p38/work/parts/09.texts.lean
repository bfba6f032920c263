theorem mj_J0_length_8abf5 : q_my yJ0_length_8abf5 cJ0_length_8abf5 1 (some .int) 0 ∧ Cond.instanceMethod yJ0_length_8abf5 ∈ q_big ∧ Cond.selects yJ0_length_8abf5.cls yJ0_length_8abf5 yJ0_length_8abf5 ∈ q_big := ⟨⟨⟨(by decide +kernel), (by decide +kernel), (by decide +kernel)⟩, q_bm 50 (by decide +kernel) (by decide +kernel), q_bm 1052 (by decide +kernel) (by decide +kernel)⟩, q_bm 1050 (by decide +kernel) (by decide +kernel), q_bm 1051 (by decide +kernel) (by decide +kernel)⟩
theorem mj_J0_charAt_5068e : q_my yJ0_charAt_5068e cJ0_charAt_5068e 2 (some .char) 1 ∧ Cond.instanceMethod yJ0_charAt_5068e ∈ q_big ∧ Cond.selects yJ0_charAt_5068e.cls yJ0_charAt_5068e yJ0_charAt_5068e ∈ q_big := ⟨⟨⟨(by decide +kernel), (by decide +kernel), (by decide +kernel)⟩, q_bm 50 (by decide +kernel) (by decide +kernel), q_bm 1188 (by decide +kernel) (by decide +kernel)⟩, q_bm 1186 (by decide +kernel) (by decide +kernel), q_bm 1187 (by decide +kernel) (by decide +kernel)⟩
theorem mj_J0_coder_7d493 : q_my yJ0_coder_7d493 cJ0_coder_7d493 1 (some .byte) 0 ∧ Cond.instanceMethod yJ0_coder_7d493 ∈ q_big ∧ Cond.selects yJ0_coder_7d493.cls yJ0_coder_7d493 yJ0_coder_7d493 ∈ q_big := ⟨⟨⟨(by decide +kernel), (by decide +kernel), (by decide +kernel)⟩, q_bm 50 (by decide +kernel) (by decide +kernel), q_bm 1056 (by decide +kernel) (by decide +kernel)⟩, q_bm 1054 (by decide +kernel) (by decide +kernel), q_bm 1055 (by decide +kernel) (by decide +kernel)⟩
theorem mj_J0_isLatin1_aae02 : q_my yJ0_isLatin1_aae02 cJ0_isLatin1_aae02 1 (some .boolean) 0 ∧ Cond.instanceMethod yJ0_isLatin1_aae02 ∈ q_big ∧ Cond.selects yJ0_isLatin1_aae02.cls yJ0_isLatin1_aae02 yJ0_isLatin1_aae02 ∈ q_big := ⟨⟨⟨(by decide +kernel), (by decide +kernel), (by decide +kernel)⟩, q_bm 50 (by decide +kernel) (by decide +kernel), q_bm 1192 (by decide +kernel) (by decide +kernel)⟩, q_bm 1190 (by decide +kernel) (by decide +kernel), q_bm 1191 (by decide +kernel) (by decide +kernel)⟩
theorem mj_J1_charAt_3b067 : q_mst yJ1_charAt_3b067 cJ1_charAt_3b067 2 (some .char) 2 := ⟨⟨⟨(by decide +kernel), (by decide +kernel), (by decide +kernel)⟩, q_bm 55 (by decide +kernel) (by decide +kernel), q_bm 1195 (by decide +kernel) (by decide +kernel)⟩, q_bm 1194 (by decide +kernel) (by decide +kernel)⟩
theorem mj_J0_checkIndex_df160 : q_mst yJ0_checkIndex_df160 cJ0_checkIndex_df160 2 (none) 2 := ⟨⟨⟨(by decide +kernel), (by decide +kernel), (by decide +kernel)⟩, q_bm 50 (by decide +kernel) (by decide +kernel), q_bm 1198 (by decide +kernel) (by decide +kernel)⟩, q_bm 1197 (by decide +kernel) (by decide +kernel)⟩
theorem mj_J3_checkIndex_8e157 : q_mst yJ3_checkIndex_8e157 cJ3_checkIndex_8e157 3 (some .int) 3 := ⟨⟨⟨(by decide +kernel), (by decide +kernel), (by decide +kernel)⟩, q_bm 54 (by decide +kernel) (by decide +kernel), q_bm 1201 (by decide +kernel) (by decide +kernel)⟩, q_bm 1200 (by decide +kernel) (by decide +kernel)⟩
theorem lj_J0_335 : Cond.methodLink RJ0 335 yJ0_coder_7d493 ∈ q_big := q_bm 1053 (by decide +kernel) (by decide +kernel)
theorem lj_J0_492 : Cond.methodLink RJ0 492 yJ0_isLatin1_aae02 ∈ q_big := q_bm 1189 (by decide +kernel) (by decide +kernel)
theorem lj_J0_495 : Cond.methodLink RJ0 495 yJ1_charAt_3b067 ∈ q_big := q_bm 1193 (by decide +kernel) (by decide +kernel)
theorem lj_J1_9 : Cond.methodLink RJ1 9 yJ0_checkIndex_df160 ∈ q_big := q_bm 1196 (by decide +kernel) (by decide +kernel)
theorem lj_J0_1059 : Cond.methodLink RJ0 1059 yJ3_checkIndex_8e157 ∈ q_big := q_bm 1199 (by decide +kernel) (by decide +kernel)
theorem fj_9 : Cond.fieldLink RJ0 9 "java/lang/String" "value" "[B" ∈ q_big := q_bm 1168 (by decide +kernel) (by decide +kernel)
theorem fj_15 : Cond.fieldLink RJ0 15 "java/lang/String" "coder" "B" ∈ q_big := q_bm 1169 (by decide +kernel) (by decide +kernel)
theorem fj_38 : Cond.fieldLink RJ0 38 "java/lang/String" "COMPACT_STRINGS" "Z" ∈ q_big := q_bm 1057 (by decide +kernel) (by decide +kernel)
theorem fj_1053 : Cond.fieldLink RJ0 1053 "jdk/internal/util/Preconditions" "SIOOBE_FORMATTER" "Ljava/util/function/BiFunction;" ∈ q_big := q_bm 1035 (by decide +kernel) (by decide +kernel)
section QS
variable {w : q_Wd} {cx : q_Cx} {own : String} {cc : ByteArray} {nL : Nat} {ret : Option FieldType} {rm : Room} {pc pc2 : Nat} {L : List (Option Value)} {st : List Value} {σ : q_Sto} {oo : Option (Int32 × q_Sto)}
theorem g_sval {i : Nat} (hc : q_ok w cx RJ0 cc nL ret rm) (hi : i < q_nS) (hd : decode cc pc = .ok (.getfield 9, 3)) (hp : pc + 3 = pc2) (k : q_G w cx nL ret pc2 L (.ref (w.2.2.2.2.1 i) :: st) σ oo) : q_G w cx nL ret pc L (q_rs w i :: st) σ oo := by
  subst hp
  intro r σ' h H locs ls hR hS hL
  exact vk_getf hc.1 hc.2.1 (hc.2.2.2.2.2.2.2.1.2.2.2.2.1 i hi).2.2.1 hS hc.2.2.2.1 (hc.2.2.2.2.1 _ fj_9) (fun _ h => h) hd (k r σ' h H locs ls hR hS hL)
theorem g_scod {i : Nat} (hc : q_ok w cx RJ0 cc nL ret rm) (hi : i < q_nS) (hd : decode cc pc = .ok (.getfield 15, 3)) (hp : pc + 3 = pc2) (k : q_G w cx nL ret pc2 L (.int 0 :: st) σ oo) : q_G w cx nL ret pc L (q_rs w i :: st) σ oo := by
  subst hp
  intro r σ' h H locs ls hR hS hL
  exact vk_getf hc.1 hc.2.1 (hc.2.2.2.2.2.2.2.1.2.2.2.2.1 i hi).2.1 hS hc.2.2.2.1 (hc.2.2.2.2.1 _ fj_15) (fun _ h => h) hd (k r σ' h H locs ls hR hS hL)
theorem g_scmp (hc : q_ok w cx RJ0 cc nL ret rm) (hd : decode cc pc = .ok (.getstatic 38, 3)) (hp : pc + 3 = pc2) (k : q_G w cx nL ret pc2 L (.int 1 :: st) σ oo) : q_G w cx nL ret pc L st σ oo := by
  subst hp
  intro r σ' h H locs ls hR hS hL
  exact va_gets hc.1 hc.2.1 hc.2.2.2.2.2.2.2.1.2.2.2.2.2.1.1 hS hc.2.2.2.1 (hc.2.2.2.2.1 _ fj_38) (fun _ h => h) hd (k r σ' h H locs ls hR hS hL)
theorem g_sfmt (hc : q_ok w cx RJ0 cc nL ret rm) (hd : decode cc pc = .ok (.getstatic 1053, 3)) (hp : pc + 3 = pc2) (k : ∀ v : Value, v.category = 1 → q_G w cx nL ret pc2 L (v :: st) σ oo) : q_G w cx nL ret pc L st σ oo := by
  subst hp
  intro r σ' h H locs ls hR hS hL
  obtain ⟨v, hv, hZ⟩ := hc.2.2.2.2.2.2.2.1.2.2.2.2.2.1.2
  exact va_gets hc.1 hc.2.1 hZ hS hc.2.2.2.1 (hc.2.2.2.2.1 _ fj_1053) (fun _ h => h) hd (k v (by rcases hv with rfl | ⟨a, rfl⟩ <;> rfl) r σ' h H locs ls hR hS hL)
theorem g_slenb {i : Nat} (hc : q_ok w cx own cc nL ret rm) (hi : i < q_nS) (hd : decode cc pc = .ok (.arraylength, 1)) (hp : pc + 1 = pc2) (k : q_G w cx nL ret pc2 L (.int (q_slen i) :: st) σ oo) : q_G w cx nL ret pc L (.ref (w.2.2.2.2.1 i) :: st) σ oo := by
  subst hp
  intro r σ' h H locs ls hR hS hL
  exact va_tlen hc.1 hc.2.1 (hc.2.2.2.2.2.2.2.1.2.2.2.2.1 i hi).2.2.2 hS rfl hd (k r σ' h H locs ls hR hS hL)
theorem g_sbald {i : Nat} {j : Int32} (hc : q_ok w cx own cc nL ret rm) (hi : i < q_nS) (hin : q_in j (q_tx i).length) (hd : decode cc pc = .ok (.baload, 1)) (hp : pc + 1 = pc2) (k : q_G w cx nL ret pc2 L (.int ((q_tx i).getD j.toNatClampNeg 0) :: st) σ oo) : q_G w cx nL ret pc L (.int j :: .ref (w.2.2.2.2.1 i) :: st) σ oo := by
  subst hp
  intro r σ' h H locs ls hR hS hL
  exact va_tb hc.1 hc.2.1 (hc.2.2.2.2.2.2.2.1.2.2.2.2.1 i hi).2.2.2 hS (q_in_vp hin) rfl hd (k r σ' h H locs ls hR hS hL)
theorem g_nret {ty : FieldType} {v : Int32} (hn : narrow ty (.int v) = .int v) (hc : q_ok w cx own cc nL (some ty) rm) (hd : decode cc pc = .ok (.ireturn, 1)) : q_G w cx nL (some ty) pc L [.int v] σ (some (v, σ)) := by
  intro r σ' h H locs ls hR hS hL
  cases h
  refine W.zret (v := v) hc.1 hc.2.1 hc.2.2.2.2.2.1 hn (fun t ht hW => ⟨rfl, by rw [ht]; exact hR, hS.F ht⟩) hS.2.2 hd hc.2.2.2.2.2.2.1
theorem g_i2c {x v : Int32} (hv : (x.toUInt32 % 65536).toInt32 = v) (hc : q_ok w cx own cc nL ret rm) (hd : decode cc pc = .ok (.i2c, 1)) (hp : pc + 1 = pc2) (k : q_G w cx nL ret pc2 L (.int v :: st) σ oo) : q_G w cx nL ret pc L (.int x :: st) σ oo := by
  subst hp
  intro r σ' h H locs ls hR hS hL
  exact lv_i2c hc.1 hc.2.1 hd hv (k r σ' h H locs ls hR hS hL)
theorem g_vl {i : Fin 4} {a : Nat} (hc : q_ok w cx own cc nL ret rm) (hd : decode cc pc = .ok (.aload_n i, 1)) (hl : q_nth L i.val = some (.ref a)) (hp : pc + 1 = pc2) (k : q_G w cx nL ret pc2 L (.ref a :: st) σ oo) : q_G w cx nL ret pc L st σ oo := g_aload_n hc hd hl hp k
/-- a call on a text -/
theorem g_callT {idx i n nLy f1 l1 f2 l2 : Nat} {y : MethodName} {ccy : ByteArray} {ty : FieldType} {As stack : List Value} {r1 : Int32} (hc : q_ok w cx own cc nL ret (q_rm f2 l2)) (hC : y.cls = "java/lang/String") (hM : q_C cx.2.1 w y ccy nLy (some ty) (q_rm f1 l1) (q_rs w i :: As) σ (some (r1, σ))) (hmv : q_my y ccy nLy (some ty) n ∧ Cond.instanceMethod y ∈ q_big ∧ Cond.selects y.cls y y ∈ q_big) (hlk : Cond.methodLink own idx y ∈ q_big) (hi : i < q_nS)
    (hst : stack = As.reverse ++ q_rs w i :: st) (hn : As.length = n) (hrm : f1 + 1 ≤ f2 ∧ 8 + (nLy + 11) + l1 ≤ l2) (hcat : (st.map fun v => v.category).sum ≤ 8) (hd : decode cc pc = .ok (.invokevirtual idx, 3)) (hp : pc + 3 = pc2)
    (k2 : q_G w cx nL ret pc2 L (.int r1 :: st) σ oo) : q_G w cx nL ret pc L stack σ oo := by
  subst hp
  subst hst
  intro r σ' h H locs ls hR hS hL
  obtain ⟨⟨hy, hini, hcode⟩, hins, hsel⟩ := hmv
  obtain ⟨hx, hb, hml, hown, hts, hret, hlocks, hK, hrmE, hbase⟩ := hc
  obtain ⟨cell, h1, h2, h3, -⟩ := (hK.2.2.2.2.1 i hi).1.kept hS.2.1
  have hPre : PreV cx.2.2.2.2.1 H y.cls (w.2.2.2.1 i) (va_Pc (q_rs w i :: As) (fun U => q_K w U ∧ q_R w (q_sg σ) U.heap)) As :=
    ⟨q_blind, ⟨cell, h1, h2, by rw [hC]; exact h3⟩, fun U hU hW => ⟨rfl, hK.go hW (fun a h1 h2 => by rw [hU]; exact hS.2.1 a h1 h2), by rw [hU]; exact hR⟩⟩
  have hrm' : (q_rm f1 l1).frames + 1 ≤ cx.2.2.2.1.frames ∧ 8 + (nLy + 11) + (q_rm f1 l1).locals ≤ cx.2.2.2.1.locals := by rw [hrmE]; exact hrm
  exact q_after (va_runV (own := own) (C := y.cls) (ws := .code y ccy nLy (some ty) :: q_big) ⟨hx, hb, hml, hown, hts⟩ (hM r1 σ rfl) (cwV n hts (q_goodIn (fun x hx => by
      rcases List.mem_append.mp hx with h | h
      · simp only [List.mem_cons, List.not_mem_nil, or_false] at h
        rcases h with rfl | rfl | rfl | rfl
        · exact hlk
        · exact hins
        · exact hsel
        · exact hini
      · rcases List.mem_cons.mp h with rfl | h
        · exact hcode
        · exact h)) rfl rfl rfl ⟨rfl, hy⟩ hrm') hPre rfl hn hL.1 rfl (lv_room hcat) hd ⟨Nat.zero_le _, Nat.zero_le _⟩) hS (fun H1 locs1 hR1 hS1 => k2 r σ' h H1 locs1 ls hR1 hS1 hL)
end QS
theorem C_J0_coder {l : Launch} {w : q_Wd} {i : Nat} (hi : i < q_nS) {s0 : q_Sto} : q_C l w yJ0_coder_7d493 cJ0_coder_7d493 1 (some .byte) (q_rm 0 0) [q_rs w i] s0 (some (0, s0)) := q_CofG [some (q_rs w i)] (by decide +kernel) rfl rfl (Nat.le_of_ble_eq_true rfl) fun cx hl hc => by
  have hc : q_ok w cx RJ0 cJ0_coder_7d493 1 (some .byte) (q_rm 0 0) := hc
  refine g_scmp hc dJ0_coder_7d493_0 (pc2 := 3) rfl ?_
  intro r σ' h
  refine j_if_eq hc dJ0_coder_7d493_3 (pc1 := 13) (pc2 := 6) rfl rfl (fun z => absurd z (by decide)) (fun _ => ?_)
  refine (?_ : q_G w cx 1 (some .byte) 6 [some (q_rs w i)] [] s0 (some (0, s0))) r σ' h
  refine g_sl0 hc dJ0_coder_7d493_6 rfl (pc2 := 7) rfl ?_
  refine g_scod hc hi dJ0_coder_7d493_7 (pc2 := 10) rfl ?_
  refine g_goto hc dJ0_coder_7d493_10 (pc2 := 14) rfl ?_
  exact g_nret (by decide) hc dJ0_coder_7d493_14
theorem C_J0_length {l : Launch} {w : q_Wd} {i : Nat} (hi : i < q_nS) {s0 : q_Sto} : q_C l w yJ0_length_8abf5 cJ0_length_8abf5 1 (some .int) (q_rm 1 20) [q_rs w i] s0 (some (q_slen i, s0)) := q_CofG [some (q_rs w i)] (by decide +kernel) rfl rfl (Nat.le_of_ble_eq_true rfl) fun cx hl hc => by
  have hc : q_ok w cx RJ0 cJ0_length_8abf5 1 (some .int) (q_rm 1 20) := hc
  refine g_sl0 hc dJ0_length_8abf5_0 rfl (pc2 := 1) rfl ?_
  refine g_sval hc hi dJ0_length_8abf5_1 (pc2 := 4) rfl ?_
  refine g_slenb hc hi dJ0_length_8abf5_4 (pc2 := 5) rfl ?_
  refine g_sl0 hc dJ0_length_8abf5_5 rfl (pc2 := 6) rfl ?_
  refine g_callT (As := []) hc rfl (C_J0_coder hi) mj_J0_coder_7d493 lj_J0_335 hi rfl rfl ⟨by decide, by decide⟩ (Nat.le_of_ble_eq_true rfl) dJ0_length_8abf5_6 (pc2 := 9) rfl ?_
  refine g_ishr hc dJ0_length_8abf5_9 (pc2 := 10) rfl ?_
  have e : q_slen i >>> ((0 : Int32) &&& 31) = q_slen i := by simp
  rw [e]
  exact g_iret hc dJ0_length_8abf5_10
theorem C_J0_isLatin1 {l : Launch} {w : q_Wd} {i : Nat} (hi : i < q_nS) {s0 : q_Sto} : q_C l w yJ0_isLatin1_aae02 cJ0_isLatin1_aae02 1 (some .boolean) (q_rm 0 0) [q_rs w i] s0 (some (1, s0)) := q_CofG [some (q_rs w i)] (by decide +kernel) rfl rfl (Nat.le_of_ble_eq_true rfl) fun cx hl hc => by
  have hc : q_ok w cx RJ0 cJ0_isLatin1_aae02 1 (some .boolean) (q_rm 0 0) := hc
  refine g_scmp hc dJ0_isLatin1_aae02_0 (pc2 := 3) rfl ?_
  intro r σ' h
  refine j_if_eq hc dJ0_isLatin1_aae02_3 (pc1 := 17) (pc2 := 6) rfl rfl (fun z => absurd z (by decide)) (fun _ => ?_)
  refine (?_ : q_G w cx 1 (some .boolean) 6 [some (q_rs w i)] [] s0 (some (1, s0))) r σ' h
  refine g_sl0 hc dJ0_isLatin1_aae02_6 rfl (pc2 := 7) rfl ?_
  refine g_scod hc hi dJ0_isLatin1_aae02_7 (pc2 := 10) rfl ?_
  intro r σ' h
  refine j_if_ne hc dJ0_isLatin1_aae02_10 (pc1 := 13) (pc2 := 17) rfl rfl (fun _ => ?_) (fun z => absurd rfl z)
  refine (?_ : q_G w cx 1 (some .boolean) 13 [some (q_rs w i)] [] s0 (some (1, s0))) r σ' h
  refine g_iconst hc dJ0_isLatin1_aae02_13 ic_1 (pc2 := 14) rfl ?_
  refine g_goto hc dJ0_isLatin1_aae02_14 (pc2 := 18) rfl ?_
  exact g_zret0 (by decide) hc dJ0_isLatin1_aae02_18
theorem C_J3_checkIndex {l : Launch} {w : q_Wd} {x n : Int32} {v : Value} (hv : v.category = 1) (h0 : ¬ x < 0) (h1 : x < n) {s0 : q_Sto} : q_C l w yJ3_checkIndex_8e157 cJ3_checkIndex_8e157 3 (some .int) (q_rm 0 0) [.int x, .int n, v] s0 (some (x, s0)) := q_CofG [some (.int x), some (.int n), some v] (by decide +kernel) rfl (by show (true && (true && ((v.category == 1) && true))) = true; rw [hv]; rfl) (Nat.le_of_ble_eq_true rfl) fun cx hl hc => by
  have hc : q_ok w cx RJ3 cJ3_checkIndex_8e157 3 (some .int) (q_rm 0 0) := hc
  refine g_il0 hc dJ3_checkIndex_8e157_0 rfl (pc2 := 1) rfl ?_
  intro r σ' h
  refine j_if_lt hc dJ3_checkIndex_8e157_1 (pc1 := 9) (pc2 := 4) rfl rfl (fun z => absurd z h0) (fun _ => ?_)
  refine (?_ : q_G w cx 3 (some .int) 4 [some (.int x), some (.int n), some v] [] s0 (some (x, s0))) r σ' h
  refine g_il0 hc dJ3_checkIndex_8e157_4 rfl (pc2 := 5) rfl ?_
  refine g_il1 hc dJ3_checkIndex_8e157_5 rfl (pc2 := 6) rfl ?_
  intro r σ' h
  refine j_icmp_lt hc dJ3_checkIndex_8e157_6 (pc1 := 16) (pc2 := 9) rfl rfl (fun _ => ?_) (fun z => absurd h1 z)
  refine (?_ : q_G w cx 3 (some .int) 16 [some (.int x), some (.int n), some v] [] s0 (some (x, s0))) r σ' h
  refine g_il0 hc dJ3_checkIndex_8e157_16 rfl (pc2 := 17) rfl ?_
  exact g_iret hc dJ3_checkIndex_8e157_17
theorem C_J0_checkIndex {l : Launch} {w : q_Wd} {x n : Int32} (h0 : ¬ x < 0) (h1 : x < n) {s0 : q_Sto} : q_C l w yJ0_checkIndex_df160 cJ0_checkIndex_df160 2 none (q_rm 1 22) [.int x, .int n] s0 (some (0, s0)) := q_CofG [some (.int x), some (.int n)] (by decide +kernel) rfl rfl (Nat.le_of_ble_eq_true rfl) fun cx hl hc => by
  have hc : q_ok w cx RJ0 cJ0_checkIndex_df160 2 none (q_rm 1 22) := hc
  refine g_il0 hc dJ0_checkIndex_df160_0 rfl (pc2 := 1) rfl ?_
  refine g_il1 hc dJ0_checkIndex_df160_1 rfl (pc2 := 2) rfl ?_
  refine g_sfmt hc dJ0_checkIndex_df160_2 (pc2 := 5) rfl (fun v hv => ?_)
  refine (?_ : q_G w cx 2 none 5 [some (.int x), some (.int n)] [v, .int n, .int x] s0 (q_call (some (x, s0)) fun _ s => some (0, s)))
  refine g_callS3 hc (C_J3_checkIndex hv h0 h1) mj_J3_checkIndex_8e157 lj_J0_1059 ⟨by decide, by decide⟩ (Nat.le_of_ble_eq_true rfl) dJ0_checkIndex_df160_5 (pc2 := 8) rfl (fun r2 s2 => ?_)
  refine g_pop hc dJ0_checkIndex_df160_8 (pc2 := 9) rfl ?_
  exact g_vret hc dJ0_checkIndex_df160_9
theorem q_ascii : ∀ i, i < q_nS → ∀ x ∈ q_tx i, (x &&& 255 = x) ∧ ((x.toUInt32 % 65536).toInt32 = x) ∧ (x.toUInt32.toUInt16.toUInt32.toInt32 = x) := by decide +kernel
theorem q_txmem {i : Nat} {j : Int32} (hin : q_in j (q_tx i).length) : (q_tx i).getD j.toNatClampNeg 0 ∈ q_tx i := by
  have h : j.toNatClampNeg < (q_tx i).length := by
    have := hin.2
    have h0 := hin.1
    have h3 : j.toInt.toNat = j.toNatClampNeg := rfl
    omega
  rw [List.getD_eq_getElem?_getD, List.getElem?_eq_getElem h]
  exact List.getElem_mem h
theorem q_in_lt {i : Nat} {j : Int32} (hin : q_in j (q_tx i).length) (hi : i < q_nS) : ¬ j < 0 ∧ j < q_slen i := by
  obtain ⟨h1, h2⟩ := hin
  refine ⟨fun q => ?_, ?_⟩
  · have := Int32.lt_iff_toInt_lt.mp q
    simp at this
    omega
  · refine Int32.lt_iff_toInt_lt.mpr ?_
    have hl : (q_tx i).length < 2 ^ 31 := Nat.lt_of_lt_of_le ((by decide +kernel : ∀ i, i < q_nS → (q_tx i).length < 100) i hi) (by decide)
    have e := nI_toInt hl
    unfold nI at e
    unfold q_slen
    rw [e]
    exact h2
theorem C_J1_charAt {l : Launch} {w : q_Wd} {i : Nat} {j : Int32} (hi : i < q_nS) (hin : q_in j (q_tx i).length) {s0 : q_Sto} : q_C l w yJ1_charAt_3b067 cJ1_charAt_3b067 2 (some .char) (q_rm 2 43) [.ref (w.2.2.2.2.1 i), .int j] s0 (some ((q_tx i).getD j.toNatClampNeg 0, s0)) := q_CofG [some (.ref (w.2.2.2.2.1 i)), some (.int j)] (by decide +kernel) rfl rfl (Nat.le_of_ble_eq_true rfl) fun cx hl hc => by
  have hc : q_ok w cx RJ1 cJ1_charAt_3b067 2 (some .char) (q_rm 2 43) := hc
  obtain ⟨a1, a2, a3⟩ := q_ascii i hi _ (q_txmem hin)
  refine g_il1 hc dJ1_charAt_3b067_0 rfl (pc2 := 1) rfl ?_
  refine g_vl (i := 0) hc dJ1_charAt_3b067_1 rfl (pc2 := 2) rfl ?_
  refine g_slenb hc hi dJ1_charAt_3b067_2 (pc2 := 3) rfl ?_
  refine (?_ : q_G w cx 2 (some .char) 3 [some (.ref (w.2.2.2.2.1 i)), some (.int j)] [.int (q_slen i), .int j] s0 (q_callv (some (0, s0)) fun s => some ((q_tx i).getD j.toNatClampNeg 0, s)))
  refine g_callS2v hc (C_J0_checkIndex (q_in_lt hin hi).1 (q_in_lt hin hi).2) mj_J0_checkIndex_df160 lj_J1_9 ⟨by decide, by decide⟩ (Nat.le_of_ble_eq_true rfl) dJ1_charAt_3b067_3 (pc2 := 6) rfl (fun s2 => ?_)
  refine g_vl (i := 0) hc dJ1_charAt_3b067_6 rfl (pc2 := 7) rfl ?_
  refine g_il1 hc dJ1_charAt_3b067_7 rfl (pc2 := 8) rfl ?_
  refine g_sbald hc hi hin dJ1_charAt_3b067_8 (pc2 := 9) rfl ?_
  refine g_sipush hc dJ1_charAt_3b067_9 sp_255 (pc2 := 12) rfl ?_
  refine g_iand hc dJ1_charAt_3b067_12 (pc2 := 13) rfl ?_
  rw [a1]
  refine g_i2c a2 hc dJ1_charAt_3b067_13 (pc2 := 14) rfl ?_
  exact g_nret (by show Value.int _ = _; rw [a3]) hc dJ1_charAt_3b067_14
theorem C_J0_charAt {l : Launch} {w : q_Wd} {i : Nat} {j : Int32} (hi : i < q_nS) (hin : q_in j (q_tx i).length) {s0 : q_Sto} : q_C l w yJ0_charAt_5068e cJ0_charAt_5068e 2 (some .char) (q_rm 3 64) [q_rs w i, .int j] s0 (some ((q_tx i).getD j.toNatClampNeg 0, s0)) := q_CofG [some (q_rs w i), some (.int j)] (by decide +kernel) rfl rfl (Nat.le_of_ble_eq_true rfl) fun cx hl hc => by
  have hc : q_ok w cx RJ0 cJ0_charAt_5068e 2 (some .char) (q_rm 3 64) := hc
  obtain ⟨a1, a2, a3⟩ := q_ascii i hi _ (q_txmem hin)
  refine g_sl0 hc dJ0_charAt_5068e_0 rfl (pc2 := 1) rfl ?_
  refine g_callT (As := []) hc rfl (C_J0_isLatin1 hi) mj_J0_isLatin1_aae02 lj_J0_492 hi rfl rfl ⟨by decide, by decide⟩ (Nat.le_of_ble_eq_true rfl) dJ0_charAt_5068e_1 (pc2 := 4) rfl ?_
  intro r σ' h
  refine j_if_eq hc dJ0_charAt_5068e_4 (pc1 := 16) (pc2 := 7) rfl rfl (fun z => absurd z (by decide)) (fun _ => ?_)
  refine (?_ : q_G w cx 2 (some .char) 7 [some (q_rs w i), some (.int j)] [] s0 (some ((q_tx i).getD j.toNatClampNeg 0, s0))) r σ' h
  refine g_sl0 hc dJ0_charAt_5068e_7 rfl (pc2 := 8) rfl ?_
  refine g_sval hc hi dJ0_charAt_5068e_8 (pc2 := 11) rfl ?_
  refine g_il1 hc dJ0_charAt_5068e_11 rfl (pc2 := 12) rfl ?_
  refine (?_ : q_G w cx 2 (some .char) 12 [some (q_rs w i), some (.int j)] [.int j, .ref (w.2.2.2.2.1 i)] s0 (q_call (some ((q_tx i).getD j.toNatClampNeg 0, s0)) fun v s => some ((q_tx i).getD j.toNatClampNeg 0, s)))
  intro r σ' h
  refine j_callS (As := [.ref (w.2.2.2.2.1 i), .int j]) hc (C_J1_charAt hi hin _ _ rfl) mj_J1_charAt_3b067 lj_J0_495 rfl rfl ⟨rfl, rfl, by decide, by decide⟩ ⟨Nat.le_refl _, Nat.le_refl _⟩ (by decide) dJ0_charAt_5068e_12 (pc2 := 15) rfl ?_
  exact g_nret (by show Value.int _ = _; rw [a3]) hc dJ0_charAt_5068e_15 r σ' h
section QS2
variable {w : q_Wd} {cx : q_Cx} {own : String} {cc : ByteArray} {nL f2 l2 : Nat} {ret : Option FieldType} {pc pc2 idx i : Nat} {L : List (Option Value)} {st : List Value} {σ : q_Sto} {oo : Option (Int32 × q_Sto)}
theorem g_slen (hc : q_ok w cx own cc nL ret (q_rm f2 l2)) (hlk : Cond.methodLink own idx yJ0_length_8abf5 ∈ q_big) (hi : i < q_nS) (hrm : 6 ≤ f2 ∧ 140 ≤ l2) (hcat : (st.map fun v => v.category).sum ≤ 8) (hd : decode cc pc = .ok (.invokevirtual idx, 3)) (hp : pc + 3 = pc2) (k2 : q_G w cx nL ret pc2 L (.int (q_slen i) :: st) σ oo) : q_G w cx nL ret pc L (q_rs w i :: st) σ oo :=
  g_callT (As := []) hc rfl (C_J0_length hi) mj_J0_length_8abf5 hlk hi rfl rfl ⟨by omega, by omega⟩ hcat hd hp k2
theorem g_scat {j : Int32} {kk : Int32 → Option (Int32 × q_Sto)} (hc : q_ok w cx own cc nL ret (q_rm f2 l2)) (hlk : Cond.methodLink own idx yJ0_charAt_5068e ∈ q_big) (hi : i < q_nS) (hrm : 6 ≤ f2 ∧ 140 ≤ l2) (hcat : (st.map fun v => v.category).sum ≤ 8) (hd : decode cc pc = .ok (.invokevirtual idx, 3)) (hp : pc + 3 = pc2) (k2 : ∀ v, q_G w cx nL ret pc2 L (.int v :: st) σ (kk v)) : q_G w cx nL ret pc L (.int j :: q_rs w i :: st) σ (q_scat i j kk) := by
  intro r σ' h
  unfold q_scat at h
  split at h
  · rename_i hin
    exact g_callT (As := [.int j]) hc rfl (C_J0_charAt hi hin) mj_J0_charAt_5068e hlk hi rfl rfl ⟨by omega, by omega⟩ hcat hd hp (k2 _) r σ' h
  · cases h
end QS2
