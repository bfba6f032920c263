/-! THE CLAIM OUT OF ONE WALK OF THE LAW'S BODY. Your part is whole_start (and what it stands on); all else here is the same for every law, but numbers. -/
def R_law : String := "MuleVoteLaw"
def lw_P (b : Addr) (xs : List Int32) (args : Array Value) (s : State) : Prop := args = #[.ref b] ∧ s.IntsAt b xs ∧ xs.length ≤ 3072 ∧ (Jvm.Cond.and given_1 narrow_1).before args s = true
def lw_Q (_ : Array Value) (s : State) (o : Outcome) (t : State) : Prop := o = .returned (some (.int 1)) ∧ Framed s o t [] 600000 7302249
def lw_Z (below : List Frame) (a : Array Value) (s : State) : State → Prop := fun t => ∃ o, t.status = .running ∧ Ended t below o ∧ lw_Q a s o t
/-- the law's own end, with 1 on the stack, nothing written that was there before, its room as the claim has it -/
theorem lw_ret {p : Program} {l : Launch} {e : Env} {s : State} {m : MethodId} {below : List Frame} {meth : Method} {c : Code} {b : Nat} (hx : p.tables.exec = Jvm.exec) (hb : c.code = code) (hr : meth.sig.returnType = ret) (hlocks : meth.locks = false) {pc : Nat} {H : Heap} {ls : Array Slot} (hdg : decode code pc = .ok (.ireturn, 1)) : W p l e room_1 s m #[Value.ref b] below meth c H [] 600000 7302249 (lw_Z below #[Value.ref b] s) (F0 m pc ls [.int 1]) := by
  intro T hT X
  obtain ⟨fs, hret, hrun, hended, hW, hframe⟩ := X.leave (v := some (.int 1)) (hlocks := hlocks) (fun h => by rw [hr] at h; cases h)
  have hmeth' : T.vm.method? m = some meth := X.method'
  refine ⟨T.setFrames fs, ?_, .returned (some (.int 1)), hrun, hended, rfl, ⟨_, rfl⟩, hW, hframe⟩
  jvm_step X.here [X.here.top, hx, hb, hdg, hmeth', hr, ret, narrow_b1]
  (try refine ⟨rfl, ?_⟩); (try refine ⟨rfl, ?_⟩)
  first | (intro acts; rw [hret _ acts rfl rfl rfl]) | rw [hret _ _ rfl rfl rfl]
  exact Steps.refl _
/-- what holds at the law's entry: the machine, the code, the tables' words (any of lw_tbl by 'hts w (by decide +kernel)'), the script of L ints xs at the cell b, what the Statement gives of the start (any of its parts by flat_of_before) -/
def lw_At (p : Program) (s : State) (m : MethodId) (meth : Method) (c : Code) (b L : Nat) (xs : Nat → Int32) : Prop :=
  p.tables.exec = Jvm.exec ∧ c.code = code ∧ meth.sig.returnType = ret ∧ c.maxLocals = 4 ∧ s.vm.findClass R_law = some m.cls ∧ (∀ w ∈ lw_tbl, w.before #[Value.ref b] s = true) ∧ va_X b L xs s s.heap ∧ b < s.heap.size ∧ meth.locks = false ∧ (Jvm.Cond.and given_1 narrow_1).before #[Value.ref b] s = true

/-! the start: what the Statement gives of it -/
def q_fl0 : List Cond := flatC (Jvm.Cond.and given_1 narrow_1)
def q_tm (i : Nat) : Term := Term.string (q_strs.getD i ("", 0, "", 0)).1 (q_strs.getD i ("", 0, "", 0)).2.1
def q_p : Cond → Bool
  | .eq (.string _ _) (.string _ _) => false
  | _ => true
def q_blk (i : Nat) : List Cond := [Cond.exactly (q_tm i) "java/lang/String", Cond.eq (.field (q_tm i) "java/lang/String" "coder" "B") (.int 0), Cond.arrayOf (.field (q_tm i) "java/lang/String" "value" "[B") .byte, Cond.eq (.length (.field (q_tm i) "java/lang/String" "value" "[B")) (.int (Int32.ofNat (q_tx i).length))] ++ (List.range (q_tx i).length).map (fun j => Cond.eq (.elem (.field (q_tm i) "java/lang/String" "value" "[B") (.int (Int32.ofNat j))) (.int ((q_tx i).getD j 0)))
set_option maxRecDepth 1000000 in
set_option maxHeartbeats 40000000 in
theorem q_nar0 : (q_fl0.filter q_p).drop 9 = (List.range 57).flatMap q_blk := rfl
theorem q_narm {i : Nat} (hi : i < q_nS) {x : Cond} (hx : x ∈ q_blk i) : x ∈ q_fl0 := by
  have h1 : x ∈ (List.range 57).flatMap q_blk := List.mem_flatMap.mpr ⟨i, List.mem_range.mpr hi, hx⟩
  rw [← q_nar0] at h1
  exact (List.mem_filter.mp (List.mem_of_mem_drop h1)).1
theorem q_nar5 : ∀ i, i < q_nS → (q_tx i).length < 100 := by decide +kernel
theorem q_nar (i : Nat) (hi : i < q_nS) : Cond.exactly (q_tm i) "java/lang/String" ∈ q_fl0 ∧ Cond.eq (.field (q_tm i) "java/lang/String" "coder" "B") (.int 0) ∈ q_fl0 ∧ Cond.arrayOf (.field (q_tm i) "java/lang/String" "value" "[B") .byte ∈ q_fl0 ∧ Cond.eq (.length (.field (q_tm i) "java/lang/String" "value" "[B")) (.int (Int32.ofNat (q_tx i).length)) ∈ q_fl0 ∧ (q_tx i).length < 100 :=
  ⟨q_narm hi (List.mem_append_left _ List.mem_cons_self), q_narm hi (List.mem_append_left _ (List.mem_cons_of_mem _ List.mem_cons_self)), q_narm hi (List.mem_append_left _ (List.mem_cons_of_mem _ (List.mem_cons_of_mem _ List.mem_cons_self))), q_narm hi (List.mem_append_left _ (List.mem_cons_of_mem _ (List.mem_cons_of_mem _ (List.mem_cons_of_mem _ List.mem_cons_self)))), q_nar5 i hi⟩
theorem q_nar2 (i : Nat) (hi : i < q_nS) (j : Nat) (hj : j < (q_tx i).length) : Cond.eq (.elem (.field (q_tm i) "java/lang/String" "value" "[B") (.int (Int32.ofNat j))) (.int ((q_tx i).getD j 0)) ∈ q_fl0 :=
  q_narm hi (List.mem_append_right _ (List.mem_map.mpr ⟨j, List.mem_range.mpr hj, rfl⟩))
theorem q_nar3 : Cond.eq (.static "java/lang/String" "COMPACT_STRINGS" "Z") (.int 1) ∈ q_fl0 ∧ Cond.isRef (.static "jdk/internal/util/Preconditions" "SIOOBE_FORMATTER" "Ljava/util/function/BiFunction;") ∈ q_fl0 := by decide +kernel
def q_strw : List Nat := [883, 936, 937, 955, 984, 985, 986, 987, 988, 989, 990, 991, 992, 993, 1023, 1040, 1041, 1065, 1066, 1067, 1068, 1077, 1087, 1097, 1098, 1099, 1100, 1101, 1106, 1111, 1567, 1574, 1575, 1576, 1577, 1578, 1579, 1584, 1585, 1586, 1587, 1588, 1589, 1590, 1591, 1592, 1593, 1598, 1603, 1604, 1605, 1606, 1607, 1608, 1609, 1610, 1611]
set_option maxRecDepth 100000 in
theorem q_strw_ok : ∀ i, i < q_nS → lw_tbl[q_strw.getD i 0]? = some (.stringRef (q_strs.getD i ("", 0, "", 0)).1 (q_strs.getD i ("", 0, "", 0)).2.1 (q_strs.getD i ("", 0, "", 0)).2.2.1) := by decide +kernel
theorem q_strs_ix : ∀ q ∈ q_strs, q.2.2.2 < q_nS ∧ q_strs.getD q.2.2.2 ("", 0, "", 0) = q := by decide +kernel
def q_nestw : List Nat := [153, 265, 386, 423, 436, 461, 501, 659, 726, 1051, 1129, 1218, 1223, 1254, 1389]
set_option maxRecDepth 100000 in
theorem q_nestw_ok : q_nests.map (fun q => Cond.methodLinkNest q.1 q.2.1 q.2.2.1 q.2.2.2) = q_nestw.filterMap (fun i => lw_tbl[i]?) := by decide +kernel
set_option maxRecDepth 100000 in
theorem q_wi {x : Cond} (i : Nat) (h : lw_tbl[i]? = some x) : x ∈ lw_tbl := List.mem_of_getElem? h
/-- the constants of text -/
theorem q_start_S {args : Array Value} {s : State} (hn : ∀ x ∈ q_fl0, x.before args s = true) {A : Nat → Prop} (hA : ∀ a : Nat, a < s.heap.size → ¬ A a) : ∃ adK adV : Nat → Nat, (∀ i : Nat, i < q_nS → va_O "java/lang/String" (adK i) A s s.heap ∧ va_OF "java/lang/String" "coder" "B" (.int 0) (adK i) A s s.heap ∧ va_OF "java/lang/String" "value" "[B" (.ref (adV i)) (adK i) A s s.heap ∧
    va_T .byte (adV i) (q_tx i).length (fun j => .int ((q_tx i).getD j 0)) A s s.heap) ∧ ∀ i : Nat, i < q_nS → (q_tm i).eval args s none [] s = some (.ref (adK i)) := by
  have h0 : ∀ i : Nat, ∃ q : Nat × Nat, i < q_nS → (q_tm i).eval args s none [] s = some (.ref q.1) ∧ va_O "java/lang/String" q.1 A s s.heap ∧ va_OF "java/lang/String" "coder" "B" (.int 0) q.1 A s s.heap ∧ va_OF "java/lang/String" "value" "[B" (.ref q.2) q.1 A s s.heap ∧ va_T .byte q.2 (q_tx i).length (fun j => .int ((q_tx i).getD j 0)) A s s.heap := by
    intro i
    by_cases hi : i < q_nS
    · obtain ⟨n1, n2, n3, n4, n5⟩ := q_nar i hi
      obtain ⟨a, c, cA, kA, q1, q2, q3, q4, q5, q6, -⟩ := Cond.exactly_spec (args := args) (first := s) (o := none) (s := s) (idx := []) (t := q_tm i) (cls := "java/lang/String") (hn _ n1)
      obtain ⟨t, ht, hT⟩ := va_Tof (f := fun j => .int ((q_tx i).getD j 0)) (A := A) (Nat.lt_trans n5 (by decide)) (hn _ n3) (va_eqt (hn _ n4)) (fun j hj => va_eqt (hn _ (q_nar2 i hi j hj))) hA
      exact ⟨(a, t), fun _ => ⟨q1, ⟨cA, q3, q5, by rw [q6]; exact q2, hA a (Array.getElem?_eq_some_iff.mp q3).1⟩, vk_OFof q1 (va_eqt (hn _ n2)) hA, vk_OFof q1 ht hA, hT⟩⟩
    · exact ⟨(0, 0), fun h => absurd h hi⟩
  obtain ⟨ad, had⟩ := Classical.axiomOfChoice h0
  exact ⟨fun i => (ad i).1, fun i => (ad i).2, fun i hi => (had i hi).2, fun i hi => (had i hi).1⟩
theorem q_known {args : Array Value} {s : State} (hts : ∀ x ∈ lw_tbl, x.before args s = true) {ci : Nat} {C : String} {T : u_T} {ty : Nat → FieldType} (hcl : q_cls ci C T ty) (hi : Cond.instantiable C (q_nF ci) ∈ q_big) : ∃ (cC : ClassId) (iS : Nat → Nat), u_Kn s C T (q_nF ci) cC iS :=
  u_known (ws := q_big) (fun x h => hts x (List.mem_filter.mp h).1) hcl.2.1 (hts _ (List.mem_filter.mp hi).1)
theorem q_clAll : ∀ k : Nat, ∀ q : vw_C, q_cl[k]? = some q → ∃ ty, q_cls k q.1 q.2.1 ty ∧ q.2.2 = q_nF k ∧ Cond.instantiable q.1 (q_nF k) ∈ q_big := by
  intro k q hq
  have hk : k < 13 := (List.getElem?_eq_some_iff.mp hq).1
  have hs : k = 0 ∨ k = 1 ∨ k = 2 ∨ k = 3 ∨ k = 4 ∨ k = 5 ∨ k = 6 ∨ k = 7 ∨ k = 8 ∨ k = 9 ∨ k = 10 ∨ k = 11 ∨ k = 12 := by omega
  rcases hs with rfl | rfl | rfl | rfl | rfl | rfl | rfl | rfl | rfl | rfl | rfl | rfl | rfl <;> cases hq
  · exact ⟨_, cl_0, rfl, nw_X11_37.2.1⟩
  · exact ⟨_, cl_1, rfl, nw_X11_23.2.1⟩
  · exact ⟨_, cl_2, rfl, nw_X3_9.2.1⟩
  · exact ⟨_, cl_3, rfl, nw_X11_65.2.1⟩
  · exact ⟨_, cl_4, rfl, nw_X11_51.2.1⟩
  · exact ⟨_, cl_5, rfl, nw_X11_44.2.1⟩
  · exact ⟨_, cl_6, rfl, nw_X7_9.2.1⟩
  · exact ⟨_, cl_7, rfl, nw_X11_74.2.1⟩
  · exact ⟨_, cl_8, rfl, nw_X11_58.2.1⟩
  · exact ⟨_, cl_9, rfl, nw_X11_30.2.1⟩
  · exact ⟨_, cl_10, rfl, nw_X11_9.2.1⟩
  · exact ⟨_, cl_11, rfl, nw_L_7.2.1⟩
  · exact ⟨_, cl_12, rfl, nw_L_10.2.1⟩
theorem q_start {args : Array Value} {s : State} (hts : ∀ x ∈ lw_tbl, x.before args s = true) (hgv : (Jvm.Cond.and given_1 narrow_1).before args s = true) : ∃ w : q_Wd, w.2.2.1 = s.heap.size ∧ q_K w s := by
  have hn : ∀ x ∈ q_fl0, x.before args s = true := flat_of_before _ hgv
  have hA : ∀ a : Nat, a < s.heap.size → ¬ (fun q : Nat => s.heap.size ≤ q) a := fun a h q => Nat.not_le.mpr h q
  obtain ⟨adK, adV, hS, hE⟩ := q_start_S hn hA
  have hcs : ∀ k : Nat, ∃ p : ClassId × (Nat → Nat), ∀ q : vw_C, q_cl[k]? = some q → u_Kn s q.1 q.2.1 q.2.2 p.1 p.2 := by
    intro k
    cases hq : q_cl[k]? with
    | none => exact ⟨(0, fun _ => 0), fun q h => by cases h⟩
    | some q =>
      obtain ⟨ty, h1, h2, h3⟩ := q_clAll k q hq
      obtain ⟨cC, iS, h⟩ := q_known hts h1 h3
      exact ⟨(cC, iS), fun q' h' => by cases h'; rw [h2]; exact h⟩
  obtain ⟨fc, hfc⟩ := Classical.axiomOfChoice hcs
  obtain ⟨cI, kI, compI, i1, i2, i3⟩ := Cond.arrayClass_spec (args := args) (first := s) (o := none) (s := s) (idx := []) (hts (.arrayClass .int) (q_wi 262 (by decide +kernel)))
  have hover : va_AO RX9 s := va_AO.of (hts (.arrayOver (.object RX9)) (q_wi 372 (by decide +kernel)))
  obtain ⟨comp, cT, kT, t1, t2, t3, t4, t5⟩ := Cond.arrayOver_spec hover
  refine ⟨((fun k => (fc k).1, fun k => (fc k).2), (cI, cT), s.heap.size, adK, adV), rfl, ⟨fun k q hq => hfc k q hq, fun k q hk => ?_⟩, fun q hq => ?_, hover, fun q hq => ?_, hS, ?_, ?_⟩
  · have hk2 : k < 2 := (List.getElem?_eq_some_iff.mp hk).1
    rcases (show k = 0 ∨ k = 1 by omega) with rfl | rfl
    · cases hk
      exact ⟨fun n z => ⟨fun k h => (by cases h), kI, i2, compI, i3⟩, i1⟩
    · cases hk
      exact ⟨fun n z => ⟨fun k h => (by cases h), kT, t3, comp, t4⟩, kT, comp, t3, t4, t1, t5⟩
  · have hm : Cond.methodLinkNest q.1 q.2.1 q.2.2.1 q.2.2.2 ∈ q_nests.map (fun q => Cond.methodLinkNest q.1 q.2.1 q.2.2.1 q.2.2.2) := List.mem_map.mpr ⟨q, hq, rfl⟩
    rw [q_nestw_ok] at hm
    obtain ⟨i, -, hi⟩ := List.mem_filterMap.mp hm
    exact va_Nw.of rfl (hts _ (List.mem_of_getElem? hi))
  · obtain ⟨h1, h2⟩ := q_strs_ix q hq
    have h3 := hts _ (List.mem_of_getElem? (q_strw_ok _ h1))
    have h4 := hE _ h1
    unfold q_tm at h4
    rw [h2] at h3 h4
    exact vk_R.of h3 h4
  · exact va_Zof (hts _ (q_wi 897 (by decide +kernel))) (hts _ (q_wi 139 (by decide +kernel))) (va_eqi (hn _ q_nar3.1)) hA
  · have h1 := hn _ q_nar3.2
    have hl := hts (.laysStatic "jdk/internal/util/Preconditions" "SIOOBE_FORMATTER" "Ljava/util/function/BiFunction;") (q_wi 913 (by decide +kernel))
    have hin := hts (.initialized "jdk/internal/util/Preconditions") (q_wi 141 (by decide +kernel))
    cases hv : (Term.static "jdk/internal/util/Preconditions" "SIOOBE_FORMATTER" "Ljava/util/function/BiFunction;").eval args s none [] s with
    | none => simp [Cond.before, Cond.holds, Cond.value, hv] at h1
    | some v =>
      refine ⟨v, ?_, va_Zof hl hin hv hA⟩
      simp only [Cond.before, Cond.holds, Cond.value, hv] at h1
      cases v <;> simp_all [Value.isRef]
def q_s0 : q_Sto := (q_St 501).2.2.2
set_option maxRecDepth 100000 in
theorem q_done : ∀ o, o < q_N0 → (match q_KD o with | .inl ci => decide (∀ j, j < q_nF ci → q_isR ci j = true → (q_St 501).2.2.1 o j = some (q_RF o j)) | .inr _ => true) = true := by decide +kernel
set_option maxRecDepth 100000 in
theorem q_made {w : q_Wd} {cx : q_Cx} {nL cells slots pc : Nat} {Q : State → Prop} {L : List (Option Value)} {st : List Value} (h : q_J w cx nL cells slots Q pc L st (q_sg q_s0)) : q_J w cx nL cells slots Q pc L st (q_St 501) := by
  intro H locs ls hR hS hL
  refine h H locs ls ?_ hS hL
  have hn : (q_St 501).1 = q_N0 := q_St_n (by decide +kernel)
  refine ⟨hR.1.trans (congrArg (w.2.2.1 + ·) hn), fun k q hk => ?_⟩
  obtain ⟨hk1, rfl⟩ := q_ws_inv hk
  have hk1 : k < q_N0 := hk1
  have h1 := hR.at (k := k) (by rw [hn]; exact hk1)
  have e : q_ent w (q_sg q_s0).2.1 (q_sg q_s0).2.2.1 (q_sg q_s0).2.2.2 k = q_ent w (q_St 501).2.1 (q_St 501).2.2.1 (q_St 501).2.2.2 k := by
    rw [q_St_kd]
    show q_ent w q_KD _ q_s0 k = q_ent w q_KD _ q_s0 k
    have hd := q_done k hk1
    simp only [q_ent]
    cases hkd : q_KD k with
    | inr z => obtain ⟨n9, b9⟩ := z; cases b9 <;> rfl
    | inl ci =>
      rw [hkd] at hd
      have hd := of_decide_eq_true hd
      have em : (List.range (q_nF ci)).map (q_fv w ci ((q_sg q_s0).2.2.1 k) (q_s0 k)) = (List.range (q_nF ci)).map (q_fv w ci ((q_St 501).2.2.1 k) (q_s0 k)) := by
        refine List.map_congr_left (fun j hj => ?_)
        have hj := List.mem_range.mp hj
        simp only [q_fv]
        split
        · rename_i hr
          rw [hd j hj hr]
          rfl
        · rfl
      exact congrArg (fun z => (Sum.inr (ci, z) : va_E)) em
  rw [e]
  exact h1
theorem q_w0 : Cond.classLink RL 7 RX11 ∈ q_big ∧ Cond.instantiable RX11 (q_nF 11) ∈ q_big ∧ Cond.initialized RX11 ∈ q_big := nw_L_7
set_option maxRecDepth 100000 in
set_option maxHeartbeats 4000000 in
theorem whole_start {p : Program} {e : Env} {s : State} {m : MethodId} {below : List Frame} {meth : Method} {c : Code} (l : Launch) (hflags : l.flags = flags0) {b L : Nat} {xs : Nat → Int32} (hL : L ≤ 3072) (C0 : lw_At p s m meth c b L xs) : W p l e room_1 s m #[Value.ref b] below meth c s.heap [] 0 0 (lw_Z below #[Value.ref b] s) (entryFrame m ([Value.ref b] : List Value).toArray 4) := by
  obtain ⟨hx, hb, hr, hml, hown, hts, hX, hbl, hlocks, hgv⟩ := C0
  obtain ⟨w, hw, hK⟩ := q_start hts hgv
  have hc : q_ok w (p, l, e, room_1, s, m, #[Value.ref b], below, meth, c) RL code 4 ret room_1 := ⟨hx, hb, hml, hown, fun x h => hts x (List.mem_filter.mp h).1, hr, hlocks, hK, rfl, Nat.le_of_eq hw⟩
  have hscr : q_scr w (p, l, e, room_1, s, m, #[Value.ref b], below, meth, c) b L xs := ⟨hX, hbl, hw⟩
  have hl := lv_entry ([.ref b]) (n := 4) (Nat.le_of_ble_eq_true rfl)
  rw [lg_entry_eq]
  refine (?_ : q_J w (p, l, e, room_1, s, m, #[Value.ref b], below, meth, c) 4 0 0 (lw_Z below #[Value.ref b] s) 0 [some (.ref b), none, none, none] [] (q_St 0)) s.heap [] _ ⟨by rw [hw]; rfl, fun k q hk => ?_⟩ va_S.rf ⟨hl.1, hl.2.1, fun i v hi => ?_⟩
  · refine k_new (n := 0) (t := 0) hc cl_11 nw_L_7 df_11 (by decide +kernel) (q_St_n (by decide +kernel)) (by decide +kernel) (by decide +kernel) (t2 := 1) rfl (c2 := 1) rfl (s2 := 11) rfl ⟨by decide, by decide⟩ dL_law_0 (pc2 := 3) rfl ?_
    refine j_dup hc dL_law_3 rfl (pc2 := 4) rfl ?_
    refine k_init (As := []) hc I_X11_init_1 mi_X11_init rfl ln_L_9 rfl rfl ⟨by decide, by decide⟩ (c2 := 157) rfl (s2 := 13741) rfl ⟨by decide, by decide⟩ (Nat.le_of_ble_eq_true rfl) dL_law_4 (pc2 := 7) rfl ?_
    refine j_astore_n (i := 1) hc dL_law_7 (by decide) (L2 := [some (.ref b), some (q_rf w 0), none, none]) rfl (pc2 := 8) rfl ?_
    refine k_new (n := 157) (t := 470) hc cl_12 nw_L_10 df_12 (by decide +kernel) (q_St_n (by decide +kernel)) (by decide +kernel) (by decide +kernel) (t2 := 471) rfl (c2 := 158) rfl (s2 := 13772) rfl ⟨by decide, by decide⟩ dL_law_8 (pc2 := 11) rfl ?_
    refine j_dup hc dL_law_11 rfl (pc2 := 12) rfl ?_
    refine k_init (As := []) hc I_X12_init_471 mi_X12_init rfl ln_L_12 rfl rfl ⟨by decide, by decide⟩ (c2 := 172) rfl (s2 := 24195) rfl ⟨by decide, by decide⟩ (Nat.le_of_ble_eq_true rfl) dL_law_12 (pc2 := 15) rfl ?_
    refine j_astore_n (i := 2) hc dL_law_15 (by decide) (L2 := [some (.ref b), some (q_rf w 0), some (q_rf w 157), none]) rfl (pc2 := 16) rfl ?_
    refine j_iconst hc dL_law_16 ic_0 (pc2 := 17) rfl ?_
    refine j_istore_n (i := 3) hc dL_law_17 (by decide) (L2 := [some (.ref b), some (q_rf w 0), some (q_rf w 157), some (.int (Int32.ofNat 0))]) rfl (pc2 := 18) rfl ?_
    refine q_made ?_
    refine law_loop hc hscr hL (fun i σ => ?_) (L + 1) 0 q_s0 (by omega) (by omega) P_init
    refine j_iconst hc dL_law_1261 ic_1 (pc2 := 1262) rfl ?_
    intro H locs ls hR hS hL2
    refine va_forget (fun q hq => ?_) ?_
    · have := hS.2.2 q hq
      have this : w.2.2.1 ≤ q.base := this
      rw [hw] at this
      exact this
    · refine W.widen (k := 600000) (n := 7302249) (Nat.le_of_ble_eq_true rfl) (Nat.le_of_ble_eq_true rfl) ?_
      exact lw_ret hx hb hr hlocks dL_law_1262
  · exfalso
    have := (q_ws_inv hk).1
    have this : k < 0 := this
    omega
  · match i, hi with
    | 0, hi => cases hi; exact ⟨rfl, hl.2.2 (0, .ref b) (by simp [lv_args])⟩
    | 1, hi => cases hi
    | 2, hi => cases hi
    | 3, hi => cases hi
    | n + 4, hi => simp [q_nth] at hi
set_option maxHeartbeats 4000000 in
theorem lw_walk (l : Launch) (hflags : l.flags = flags0) (b : Addr) (xs : List Int32) : MetFree l x (headSpec (Jvm.Cond.code x code maxLocals ret :: tables_1) room_1) (lw_P b xs) (fun _ _ _ _ _ => True) lw_Q := by
  refine MetFree.of_bodyS (code := code) (maxLocals := maxLocals) (ret := ret) (by decide) ?_ ?_
  · intro args s m h hn
    obtain ⟨meth, c, h1, h2, h3, h4, h5, h6, -, -⟩ := Cond.code_spec hn (atoms_spec (ws := Jvm.Cond.code x code maxLocals ret :: tables_1) h _ List.mem_cons_self)
    exact ⟨meth, c, h1, h2, h3, h4, h5, h6⟩
  · intro p e s m args below meth c s₁ B hml0 hP _
    obtain ⟨rfl, hx, hbd, hgv⟩ := hP
    obtain ⟨scr, harrAt, hlist, hof, hsmall⟩ := hx
    obtain ⟨hcb, hkn, -, -⟩ := State.arrayAt?_spec harrAt
    have hown : s.vm.findClass R_law = some m.cls := findClass_of_methodNamed B.named
    have hts0 : ∀ c ∈ (Jvm.Cond.code x code maxLocals ret :: tables_1), c.before #[Value.ref b] s = true := atoms_spec (ws := Jvm.Cond.code x code maxLocals ret :: tables_1) B.pre
    have hts : ∀ w ∈ lw_tbl, w.before #[Value.ref b] s = true := k2_hts_sels lw_privs (fun w hw => hts0 w (List.mem_cons_of_mem _ hw)) lw_privs_ok
    have hml : c.maxLocals = 4 := B.maxLocals_eq (hts0 _ List.mem_cons_self)
    have X₀ : Stand p l e room_1 s m #[Value.ref b] below meth c s₁ [] 0 0 := Stand.of_body B
    have hh0 : s₁.heap = s.heap := by rw [B.state]; rfl
    have hsz : scr.slots.size = xs.length := by rw [← Array.length_toList, hlist, List.length_map]
    have hval : ∀ j : Nat, j < xs.length → scr.slots[j]? = some (.int (xs.getD j 0)) := fun j hj => by
      rw [← Array.getElem?_toList, hlist]
      simp [hj]
    have hbl : b < s.heap.size := (Array.getElem?_eq_some_iff.mp hcb).1
    have hX : va_X b xs.length (fun j => xs.getD j 0) s s.heap := ⟨scr, hcb, hof, hkn, hsz, hval⟩
    have K : W p l e room_1 s m #[Value.ref b] below meth c s₁.heap [] 0 0 (lw_Z below #[Value.ref b] s) (entryFrame m ([Value.ref b] : List Value).toArray 4) := by
      rw [hh0]
      exact whole_start l hflags hbd ⟨B.exec, B.bytes, B.returns, hml, hown, hts, hX, hbl, B.notSynchronized, hgv⟩
    obtain ⟨t, a1, o, b1, b2, b3⟩ := K s₁ rfl X₀
    exact ⟨t, o, a1, b1, b2, b3⟩
theorem lw_pre_spec {args : Array Value} {s : State} (h : (Jvm.Cond.and given_1 narrow_1).before args s = true) (hr : rest_1_c.before args s = true) : ∃ (b : Addr) (xs : List Int32), lw_P b xs args s := by
  have hs := flat_of_before _ h
  have hq := flat_of_before _ hr
  have hc : (Cond.count 1).before args s = true := hs _ (by decide +kernel)
  have harr : (Cond.arrayOf (.arg 0) .int).before args s = true := hs _ (by decide +kernel)
  have hle : (Cond.le (.length (.arg 0)) (.int 3072)).before args s = true := hs _ (by decide +kernel)
  have hlen : (Cond.isInt (.length (.arg 0))).before args s = true := hq _ (by decide +kernel)
  have hall : (Cond.all (.arg 0) (.isInt (.elem (.arg 0) (.index 0)))).before args s = true := hq _ (by decide +kernel)
  obtain ⟨b, xs, hb, hx⟩ := State.ints_of_pre rfl harr hlen hall
  have hsm : xs.length < 2 ^ 31 := hx.choose_spec.2.2.2
  have hev : (Term.length (.arg 0)).eval args s none [] s = some (.int xs.length.toInt32) := hx.length_eval hb
  have hv := Cond.le_ints hev (show (Term.int 3072).eval args s none [] s = some (.int 3072) from rfl)
  have hd : xs.length.toInt32 ≤ 3072 := by
    simpa [Cond.before, Cond.holds, hv] using hle
  have hN : xs.length ≤ 3072 := (Int32.ofNat_le_ofNat hsm (by decide)).mp (show Int32.ofNat xs.length ≤ Int32.ofNat 3072 from hd)
  exact ⟨b, xs, Cond.one_arg hc (show args[0]? = some (.ref b) from hb), hx, hN, h⟩
theorem lw_comes (l : Launch) (hflags : l.flags = flags0) : Comes l x (Jvm.Cond.code x code maxLocals ret :: tables_1) room_1 (fun tb e args s => Calls_1 tb e args s ∧ rest_1 tb e args s ∧ Pre_1 tb e args s)
    (fun _ _ args s o t => lw_Q args s o t) := by
  intro p e ha hc hk s m args below hf hfit hheap happ hpre
  obtain ⟨b, xs, hP⟩ := lw_pre_spec hpre.2.2 hpre.2.1
  obtain ⟨k, o, h1, h2, h3, hQ⟩ := lw_walk l hflags b xs p e ha hc hk s m args below hf ((Spec.applies_iff_loose hf).mp happ).1 hP trivial
  exact ⟨k, o, h1, h2, h3, hQ⟩
theorem lw_frame {s t : State} {o : Outcome} {args : Array Value} (h : Framed s o t [] 600000 7302249) :
    Framed s o t (fieldLocs frame_1_writes args s ++ arrayLocs frame_1_arrays args s ++ staticLocs frame_1_statics s) 600000 7302249 := h
theorem lw_limb (L : Cond) (hL : ∀ (args : Array Value) (s t : State), L.after args s (.returned (some (.int 1))) t = true) :
    ArmFor flags0 classFile x code maxLocals ret World_1 tables_1 room_1 Calls_1 rest_1 Pre_1
      (fun tb e a s o t => postC L tb e a s o t ∧ Framed s o t (fieldLocs frame_1_writes a s ++ arrayLocs frame_1_arrays a s ++ staticLocs frame_1_statics s) 600000 7302249) := by
  intro l hflags _ _ p e ha hc hk s m args below hf hfit hheap happ hpre
  obtain ⟨k, o, h1, h2, h3, rfl, hF⟩ := lw_comes l hflags p e ha hc hk s m args below hf hfit hheap happ hpre
  exact ⟨k, _, h1, h2, h3, hL args s _, lw_frame hF⟩
theorem i_vc : Claimed_1_1 ∧ Claimed_1_2 := ⟨lw_limb limb_1_1 (fun args s t => by simp [limb_1_1, Cond.after, Cond.holds, Cond.value]), lw_limb limb_1_2 (fun args s t => Cond.after_iff.mpr (by
  first | (rw [show limb_1_2 = Cond.eq .result (.int 1) from rfl, Cond.eq_ints (x := 1) (y := 1) rfl rfl]; simp; done) | (simp [limb_1_2, Cond.value, Term.eval]; done)))⟩

