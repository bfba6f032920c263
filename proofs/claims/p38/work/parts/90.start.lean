/-! THE CLAIM OUT OF ONE WALK OF THE LAW'S BODY. Your part is whole_start (and what it stands on); all else here is the same for every law, but numbers. -/
def R_law : String := "MuleVoteLaw"
def lw_P (b : Addr) (xs : List Int32) (args : Array Value) (s : State) : Prop := args = #[.ref b] ∧ s.IntsAt b xs ∧ xs.length ≤ 260 ∧ (Jvm.Cond.and given_1 narrow_1).before args s = true
def lw_Q (_ : Array Value) (s : State) (o : Outcome) (t : State) : Prop := o = .returned (some (.int 1)) ∧ Framed s o t [] 600000 7302250
def lw_Z (below : List Frame) (a : Array Value) (s : State) : State → Prop := fun t => ∃ o, t.status = .running ∧ Ended t below o ∧ lw_Q a s o t
/-- the law's own end, with 1 on the stack, nothing written that was there before, its room as the claim has it -/
theorem lw_ret {p : Program} {l : Launch} {e : Env} {s : State} {m : MethodId} {below : List Frame} {meth : Method} {c : Code} {b : Nat} (hx : p.tables.exec = Jvm.exec) (hb : c.code = code) (hr : meth.sig.returnType = ret) (hlocks : meth.locks = false) {pc : Nat} {H : Heap} {ls : Array Slot} (hdg : decode code pc = .ok (.ireturn, 1)) : W p l e room_1 s m #[Value.ref b] below meth c H [] 600000 7302250 (lw_Z below #[Value.ref b] s) (F0 m pc ls [.int 1]) := by
  intro T hT X
  obtain ⟨fs, hret, hrun, hended, hW, hframe⟩ := X.leave (v := some (.int 1)) (hlocks := hlocks) (fun h => by rw [hr] at h; cases h)
  have hmeth' : T.vm.method? m = some meth := X.method'
  refine ⟨T.setFrames fs, ?_, .returned (some (.int 1)), hrun, hended, rfl, ⟨_, rfl⟩, hW, hframe⟩
  jvm_step X.here [X.here.top, hx, hb, hdg, hmeth', hr, ret, narrow_b1]
  (try refine ⟨rfl, ?_⟩); (try refine ⟨rfl, ?_⟩)
  first | (intro acts; rw [hret _ acts rfl rfl rfl]) | rw [hret _ _ rfl rfl rfl]
  exact Steps.refl _
/-- what holds at the law's entry: the machine, the code, the tables' words (any of lw_tbl by 'hts w (by decide +kernel)'), the script of L ints xs at the cell b, what the Statement gives of the start (any of its parts by flat_of_before) -/
def lw_At (p : Program) (s : State) (m : MethodId) (meth : Method) (c : Code) (b L : Nat) (xs : Nat → Int32) : Prop :=
  p.tables.exec = Jvm.exec ∧ c.code = code ∧ meth.sig.returnType = ret ∧ c.maxLocals = 17 ∧ s.vm.findClass R_law = some m.cls ∧ (∀ w ∈ lw_tbl, w.before #[Value.ref b] s = true) ∧ va_X b L xs s s.heap ∧ b < s.heap.size ∧ meth.locks = false ∧ (Jvm.Cond.and given_1 narrow_1).before #[Value.ref b] s = true

/-! the start: what the Statement gives of it -/
def q_fl0 : List Cond := flatC (Jvm.Cond.and given_1 narrow_1)
def q_tm (i : Nat) : Term := Term.string (q_strs.getD i ("", 0, "", 0)).1 (q_strs.getD i ("", 0, "", 0)).2.1
def q_p : Cond → Bool
  | .eq (.string _ _) (.string _ _) => false
  | _ => true
def q_blk (i : Nat) : List Cond := [Cond.exactly (q_tm i) "java/lang/String", Cond.eq (.field (q_tm i) "java/lang/String" "coder" "B") (.int 0), Cond.arrayOf (.field (q_tm i) "java/lang/String" "value" "[B") .byte, Cond.eq (.length (.field (q_tm i) "java/lang/String" "value" "[B")) (.int (Int32.ofNat (q_tx i).length))] ++ (List.range (q_tx i).length).map (fun j => Cond.eq (.elem (.field (q_tm i) "java/lang/String" "value" "[B") (.int (Int32.ofNat j))) (.int ((q_tx i).getD j 0)))
def q_perm : List Nat := [30, 31, 32, 33, 34, 0, 1, 2, 3, 4, 5, 6, 7, 8, 9, 10, 11, 12, 13, 14, 15, 16, 17, 18, 19, 20, 21, 22, 23, 24, 25, 26, 27, 28, 29, 35, 36, 37, 38, 39, 40, 41, 42, 43, 44, 45, 46, 47, 48, 49, 50, 51, 52]
theorem q_perm_ok : ∀ i, i < q_nS → i ∈ q_perm := by decide +kernel
def q_dig (c : String) (d : Nat → Int32) : List Cond := [Cond.arrayOf (.static "java/lang/Integer" c "[B") .byte, Cond.eq (.length (.static "java/lang/Integer" c "[B")) (.int 100)] ++ (List.range 100).map (fun j => Cond.eq (.elem (.static "java/lang/Integer" c "[B") (.int (Int32.ofNat j))) (.int (d j)))
set_option maxRecDepth 1000000 in
set_option maxHeartbeats 40000000 in
theorem q_nar0 : ((q_fl0.filter q_p).drop 243).take 562 = q_perm.flatMap q_blk := rfl
set_option maxRecDepth 1000000 in
set_option maxHeartbeats 40000000 in
theorem q_nar1 : (q_fl0.drop 10).take 102 = q_dig "DigitOnes" q_d0 := rfl
set_option maxRecDepth 1000000 in
set_option maxHeartbeats 40000000 in
theorem q_nar7 : (q_fl0.drop 113).take 102 = q_dig "DigitTens" q_d1 := rfl
theorem q_nar8 {x : Cond} (h : x ∈ q_dig "DigitOnes" q_d0) : x ∈ q_fl0 := by
  rw [← q_nar1] at h
  exact List.mem_of_mem_drop (List.mem_of_mem_take h)
theorem q_nar9 {x : Cond} (h : x ∈ q_dig "DigitTens" q_d1) : x ∈ q_fl0 := by
  rw [← q_nar7] at h
  exact List.mem_of_mem_drop (List.mem_of_mem_take h)
theorem q_narm {i : Nat} (hi : i < q_nS) {x : Cond} (hx : x ∈ q_blk i) : x ∈ q_fl0 := by
  have h1 : x ∈ q_perm.flatMap q_blk := List.mem_flatMap.mpr ⟨i, q_perm_ok i hi, hx⟩
  rw [← q_nar0] at h1
  exact (List.mem_filter.mp (List.mem_of_mem_drop (List.mem_of_mem_take h1))).1
theorem q_nar5 : ∀ i, i < q_nS → (q_tx i).length < 100 := by decide +kernel
theorem q_nar (i : Nat) (hi : i < q_nS) : Cond.exactly (q_tm i) "java/lang/String" ∈ q_fl0 ∧ Cond.eq (.field (q_tm i) "java/lang/String" "coder" "B") (.int 0) ∈ q_fl0 ∧ Cond.arrayOf (.field (q_tm i) "java/lang/String" "value" "[B") .byte ∈ q_fl0 ∧ Cond.eq (.length (.field (q_tm i) "java/lang/String" "value" "[B")) (.int (Int32.ofNat (q_tx i).length)) ∈ q_fl0 ∧ (q_tx i).length < 100 :=
  ⟨q_narm hi (List.mem_append_left _ List.mem_cons_self), q_narm hi (List.mem_append_left _ (List.mem_cons_of_mem _ List.mem_cons_self)), q_narm hi (List.mem_append_left _ (List.mem_cons_of_mem _ (List.mem_cons_of_mem _ List.mem_cons_self))), q_narm hi (List.mem_append_left _ (List.mem_cons_of_mem _ (List.mem_cons_of_mem _ (List.mem_cons_of_mem _ List.mem_cons_self)))), q_nar5 i hi⟩
theorem q_nar2 (i : Nat) (hi : i < q_nS) (j : Nat) (hj : j < (q_tx i).length) : Cond.eq (.elem (.field (q_tm i) "java/lang/String" "value" "[B") (.int (Int32.ofNat j))) (.int ((q_tx i).getD j 0)) ∈ q_fl0 :=
  q_narm hi (List.mem_append_right _ (List.mem_map.mpr ⟨j, List.mem_range.mpr hj, rfl⟩))
theorem q_nar3 : Cond.eq (.static "java/lang/String" "COMPACT_STRINGS" "Z") (.int 1) ∈ q_fl0 ∧ Cond.isRef (.static "jdk/internal/util/Preconditions" "SIOOBE_FORMATTER" "Ljava/util/function/BiFunction;") ∈ q_fl0 := ⟨List.mem_of_getElem? (i := 4) rfl, List.mem_of_getElem? (i := 5) rfl⟩
def q_strw : List Nat := [1259, 1266, 1267, 1285, 1314, 1315, 1316, 1317, 1318, 1319, 1320, 1321, 1322, 1323, 1353, 1370, 1371, 1395, 1396, 1397, 1398, 1407, 1417, 1427, 1428, 1429, 1430, 1431, 1436, 1441, 979, 1117, 1118, 1179, 1180, 1462, 1463, 1464, 1465, 1466, 1468, 1469, 1470, 1471, 1477, 1478, 1479, 1480, 1481, 1482, 1483, 1484, 1485]
set_option maxRecDepth 100000 in
theorem q_strw_ok : ∀ i, i < q_nS → lw_tbl[q_strw.getD i 0]? = some (.stringRef (q_strs.getD i ("", 0, "", 0)).1 (q_strs.getD i ("", 0, "", 0)).2.1 (q_strs.getD i ("", 0, "", 0)).2.2.1) := by decide +kernel
theorem q_strs_ix : ∀ q ∈ q_strs, q.2.2.2 < q_nS ∧ q_strs.getD q.2.2.2 ("", 0, "", 0) = q := by decide +kernel
def q_nestw : List Nat := [68, 176, 291, 326, 339, 364, 402, 556, 623, 863, 1381, 1459, 1476]
set_option maxRecDepth 100000 in
theorem q_nestw_ok : q_nests.map (fun q => Cond.methodLinkNest q.1 q.2.1 q.2.2.1 q.2.2.2) = q_nestw.filterMap (fun i => lw_tbl[i]?) := by decide +kernel
set_option maxRecDepth 100000 in
theorem q_wi {x : Cond} (i : Nat) (h : lw_tbl[i]? = some x) : x ∈ lw_tbl := List.mem_of_getElem? h
/-- the constants of text -/
theorem q_start_S {args : Array Value} {s : State} (hn : ∀ x ∈ q_fl0, x.before args s = true) {A : Nat → Prop} (hA : ∀ a : Nat, a < s.heap.size → ¬ A a) : ∃ adK adV : Nat → Nat, (∀ i : Nat, i < q_nS → va_O "java/lang/String" (adK i) A s s.heap ∧ va_OF "java/lang/String" "coder" "B" (.int 0) (adK i) A s s.heap ∧ va_OF "java/lang/String" "value" "[B" (.ref (adV i)) (adK i) A s s.heap ∧
    va_T .byte (adV i) (q_tx i).length (fun j => .int ((q_tx i).getD j 0)) A s s.heap) ∧ ∀ i : Nat, i < q_nS → (q_tm i).eval args s none [] s = some (.ref (adK i)) := by
  have h0 : ∀ i : Nat, ∃ q : Nat × Nat, i < q_nS → (q_tm i).eval args s none [] s = some (.ref q.1) ∧ va_O "java/lang/String" q.1 A s s.heap ∧ va_OF "java/lang/String" "coder" "B" (.int 0) q.1 A s s.heap ∧ va_OF "java/lang/String" "value" "[B" (.ref q.2) q.1 A s s.heap ∧ va_T .byte q.2 (q_tx i).length (fun j => .int ((q_tx i).getD j 0)) A s s.heap := by
    intro i
    by_cases hi : i < q_nS
    · obtain ⟨n1, n2, n3, n4, n5⟩ := q_nar i hi
      obtain ⟨a, c, cA, kA, q1, q2, q3, q4, q5, q6, -⟩ := Cond.exactly_spec (args := args) (first := s) (o := none) (s := s) (idx := []) (t := q_tm i) (cls := "java/lang/String") (hn _ n1)
      obtain ⟨t, ht, hT⟩ := va_Tof (f := fun j => .int ((q_tx i).getD j 0)) (A := A) (Nat.lt_trans n5 (by decide)) (hn _ n3) (va_eqt (hn _ n4)) (fun j hj => va_eqt (hn _ (q_nar2 i hi j hj))) hA
      exact ⟨(a, t), fun _ => ⟨q1, ⟨cA, q3, q5, by rw [q6]; exact q2, hA a (Array.getElem?_eq_some_iff.mp q3).1⟩, vk_OFof q1 (va_eqt (hn _ n2)) hA, vk_OFof q1 ht hA, hT⟩⟩
    · exact ⟨(0, 0), fun h => absurd h hi⟩
  obtain ⟨ad, had⟩ := Classical.axiomOfChoice h0
  exact ⟨fun i => (ad i).1, fun i => (ad i).2, fun i hi => (had i hi).2, fun i hi => (had i hi).1⟩
theorem x_bigb {args : Array Value} {s : State} (hts : ∀ x ∈ lw_tbl, x.before args s = true) : ∀ x ∈ q_big, x.before args s = true := by
  intro x hx
  rcases List.mem_append.mp (List.mem_filter.mp hx).1 with h | h
  · exact hts x h
  · have key : ∀ (y : MethodName) (i j : Nat), y.cls = "java/lang/AbstractStringBuilder" → lw_tbl[i]? = some (.privateMethod y) → lw_tbl[j]? = some (.instanceMethod y) → (Cond.selects RJ4 y y).before args s = true := fun y i j h1 h2 h3 => x_selP (z := ⟨"java/lang/AbstractStringBuilder", "isLatin1", "()Z"⟩) (n := 4) ⟨by rw [h1]; decide, by rw [h1]; decide⟩ h1.symm (hts _ (List.mem_of_getElem? (i := 948) (by decide +kernel))) (hts _ (List.mem_of_getElem? (i := 1021) (by decide +kernel))) (hts _ (List.mem_of_getElem? h2)) (hts _ (List.mem_of_getElem? h3))
    obtain ⟨y, hy, rfl⟩ := List.mem_map.mp h
    simp only [List.mem_cons, List.not_mem_nil, or_false] at hy
    rcases hy with rfl | rfl | rfl | rfl
    · exact key _ 992 993 rfl (by decide +kernel) (by decide +kernel)
    · exact key _ 1063 1064 rfl (by decide +kernel) (by decide +kernel)
    · exact key _ 996 997 rfl (by decide +kernel) (by decide +kernel)
    · exact key _ 1059 1060 rfl (by decide +kernel) (by decide +kernel)
theorem q_known {args : Array Value} {s : State} (hts : ∀ x ∈ q_big, x.before args s = true) {ci : Nat} {C : String} {T : u_T} {ty : Nat → FieldType} (hcl : q_cls ci C T ty) (hi : Cond.instantiable C (q_nF ci) ∈ q_big) : ∃ (cC : ClassId) (iS : Nat → Nat), u_Kn s C T (q_nF ci) cC iS :=
  u_known (ws := q_big) hts hcl.2.1 (hts _ hi)
theorem q_clAll : ∀ k : Nat, ∀ q : vw_C, q_cl[k]? = some q → ∃ ty, q_cls k q.1 q.2.1 ty ∧ q.2.2 = q_nF k ∧ Cond.instantiable q.1 (q_nF k) ∈ q_big := by
  intro k q hq
  have hk : k < 15 := (List.getElem?_eq_some_iff.mp hq).1
  have hs : k = 0 ∨ k = 1 ∨ k = 2 ∨ k = 3 ∨ k = 4 ∨ k = 5 ∨ k = 6 ∨ k = 7 ∨ k = 8 ∨ k = 9 ∨ k = 10 ∨ k = 11 ∨ k = 12 ∨ k = 13 ∨ k = 14 := by omega
  rcases hs with rfl | rfl | rfl | rfl | rfl | rfl | rfl | rfl | rfl | rfl | rfl | rfl | rfl | rfl | rfl <;> cases hq
  · exact ⟨_, cl_0, rfl, nw_X11_37.2.1⟩
  · exact ⟨_, cl_1, rfl, nw_X11_23.2.1⟩
  · exact ⟨_, cl_2, rfl, nw_X10_18.2.1⟩
  · exact ⟨_, cl_3, rfl, nw_X11_65.2.1⟩
  · exact ⟨_, cl_4, rfl, nw_X11_51.2.1⟩
  · exact ⟨_, cl_5, rfl, nw_X11_44.2.1⟩
  · exact ⟨_, cl_6, rfl, nw_X10_25.2.1⟩
  · exact ⟨_, cl_7, rfl, nw_X11_74.2.1⟩
  · exact ⟨_, cl_8, rfl, nw_X11_58.2.1⟩
  · exact ⟨_, cl_9, rfl, nw_X10_9.2.1⟩
  · exact ⟨_, cl_10, rfl, nw_X11_9.2.1⟩
  · exact ⟨_, cl_11, rfl, nw_L_28.2.1⟩
  · exact ⟨_, cl_12, rfl, nw_X12_8.2.1⟩
  · exact ⟨_, cl_13, rfl, q_bm 1124 (by decide +kernel) (by decide +kernel)⟩
  · exact ⟨_, cl_14, rfl, q_bm 948 (by decide +kernel) (by decide +kernel)⟩
def q_fnw : List Nat := [769, 771, 773, 775, 779, 781, 783, 786, 789, 791, 793, 795, 798]
set_option maxRecDepth 100000 in
theorem q_fnw_ok : q_fnests.map (fun q => Cond.fieldLinkNest q.1 q.2.1 q.2.2.1 q.2.2.2.1 q.2.2.2.2.1 q.2.2.2.2.2) = q_fnw.filterMap (fun i => lw_tbl[i]?) := by decide +kernel
theorem q_start {args : Array Value} {s : State} {b L : Nat} {xs : Nat → Int32} (hts : ∀ x ∈ lw_tbl, x.before args s = true) (hgv : (Jvm.Cond.and given_1 narrow_1).before args s = true) (hX : va_X b L xs s s.heap) (hbl : b < s.heap.size) (hL : L ≤ 260) : ∃ w : q_Wd, w.2.2.1 = s.heap.size ∧ w.2.2.2.2.2.1 = none ∧ q_sa w 2 = b ∧ q_xl w = L ∧ q_xs w = xs ∧ q_K w s := by
  have hn : ∀ x ∈ q_fl0, x.before args s = true := flat_of_before _ hgv
  have hA : ∀ a : Nat, a < s.heap.size → ¬ (fun q : Nat => s.heap.size ≤ q ∧ ((none : Option Nat) = none ∨ q < s.heap.size + q_N0)) a := fun a h q => Nat.not_le.mpr h q.1
  obtain ⟨adK, adV, hS, hE⟩ := q_start_S hn hA
  have hcs : ∀ k : Nat, ∃ p : ClassId × (Nat → Nat), ∀ q : vw_C, q_cl[k]? = some q → u_Kn s q.1 q.2.1 q.2.2 p.1 p.2 := by
    intro k
    cases hq : q_cl[k]? with
    | none => exact ⟨(0, fun _ => 0), fun q h => by cases h⟩
    | some q =>
      obtain ⟨ty, h1, h2, h3⟩ := q_clAll k q hq
      obtain ⟨cC, iS, h⟩ := q_known (x_bigb hts) h1 h3
      exact ⟨(cC, iS), fun q' h' => by cases h'; rw [h2]; exact h⟩
  obtain ⟨fc, hfc⟩ := Classical.axiomOfChoice hcs
  obtain ⟨cI, kI, compI, i1, i2, i3⟩ := Cond.arrayClass_spec (args := args) (first := s) (o := none) (s := s) (idx := []) (hts (.arrayClass .int) (q_wi 173 (by decide +kernel)))
  obtain ⟨cB, kB, compB, b1, b2, b3⟩ := Cond.arrayClass_spec (args := args) (first := s) (o := none) (s := s) (idx := []) (hts (.arrayClass .byte) (q_wi 978 (by decide +kernel)))
  have ho9 : va_AO RX9 s := va_AO.of (hts (.arrayOver (.object RX9)) (q_wi 277 (by decide +kernel)))
  have ho12 : va_AO RX12 s := va_AO.of (hts (.arrayOver (.object RX12)) (q_wi 1492 (by decide +kernel)))
  have hoJ : va_AO RJ0 s := va_AO.of (hts (.arrayOver (.object RJ0)) (q_wi 1461 (by decide +kernel)))
  have hoA : (Cond.arrayOver (.array .int)).before args s = true := hts (.arrayOver (.array .int)) (q_wi 767 (by decide +kernel))
  obtain ⟨comp9, c9, k9, t1, t2, t3, t4, t5⟩ := Cond.arrayOver_spec ho9
  obtain ⟨comp12, c12, k12, u1, u2, u3, u4, u5⟩ := Cond.arrayOver_spec ho12
  obtain ⟨compJ, cJ, kJ, v1, v2, v3, v4, v5⟩ := Cond.arrayOver_spec hoJ
  obtain ⟨compA, cA, kA, y1, y2, y3, y4, y5⟩ := arrayOverA_spec hoA
  obtain ⟨tO, hO1, hO2⟩ := va_Tof (s := s) (N := 100) (f := fun j => .int (q_d0 j)) (A := fun q : Nat => s.heap.size ≤ q ∧ ((none : Option Nat) = none ∨ q < s.heap.size + q_N0)) (by decide) (hn _ (q_nar8 List.mem_cons_self)) (va_eqt (hn _ (q_nar8 (List.mem_cons_of_mem _ List.mem_cons_self)))) (fun j hj => va_eqt (hn _ (q_nar8 (List.mem_append_right _ (List.mem_map.mpr ⟨j, List.mem_range.mpr hj, rfl⟩))))) hA
  obtain ⟨tT, hT1, hT2⟩ := va_Tof (s := s) (N := 100) (f := fun j => .int (q_d1 j)) (A := fun q : Nat => s.heap.size ≤ q ∧ ((none : Option Nat) = none ∨ q < s.heap.size + q_N0)) (by decide) (hn _ (q_nar9 List.mem_cons_self)) (va_eqt (hn _ (q_nar9 (List.mem_cons_of_mem _ List.mem_cons_self)))) (fun j hj => va_eqt (hn _ (q_nar9 (List.mem_append_right _ (List.mem_map.mpr ⟨j, List.mem_range.mpr hj, rfl⟩))))) hA
  have hZO := va_Zof (hts (.laysStatic "java/lang/Integer" "DigitOnes" "[B") (q_wi 1106 (by decide +kernel))) (hts (.initialized "java/lang/Integer") (q_wi 57 (by decide +kernel))) hO1 hA
  have hZT := va_Zof (hts (.laysStatic "java/lang/Integer" "DigitTens" "[B") (q_wi 1108 (by decide +kernel))) (hts (.initialized "java/lang/Integer") (q_wi 57 (by decide +kernel))) hT1 hA
  obtain ⟨scr, x1, x2, x3, x4, x5⟩ := hX
  refine ⟨((fun k => (fc k).1, fun k => (fc k).2), (fun k => if k = 0 then cI else if k = 1 then c9 else if k = 2 then cB else if k = 3 then cA else if k = 4 then c12 else cJ), s.heap.size, adK, adV, none, (fun k => if k = 0 then tO else if k = 1 then tT else b), L, xs), rfl, rfl, rfl, rfl, rfl, ⟨fun k q hq => hfc k q hq, fun k q hk => ?_⟩, fun q hq => ?_, ho9, fun q hq => ?_, hS, ⟨?_, ?_⟩, ⟨⟨hO2, hZO⟩, ⟨hT2, hZT⟩, ⟨scr, x1, x2, x3, Nat.le_of_eq x4.symm, by rw [x4]; rfl, fun j hj => x5 j hj, hA b hbl⟩, ho12, hoJ, over_moved (Vm.Alike.refl s.vm) hoA⟩, fun q hq => ?_, va_Nw.of rfl (hts (.castable "[I" "java/lang/Cloneable") (q_wi 841 (by decide +kernel))), va_Nw.of rfl (hts (.castable "[B" "java/lang/Cloneable") (q_wi 1014 (by decide +kernel)))⟩
  · have hk2 : k < 6 := (List.getElem?_eq_some_iff.mp hk).1
    rcases (show k = 0 ∨ k = 1 ∨ k = 2 ∨ k = 3 ∨ k = 4 ∨ k = 5 by omega) with rfl | rfl | rfl | rfl | rfl | rfl
    · cases hk
      exact ⟨fun n z => ⟨fun k h => (by cases h), kI, i2, compI, i3⟩, i1⟩
    · cases hk
      exact ⟨fun n z => ⟨fun k h => (by cases h), k9, t3, comp9, t4⟩, k9, comp9, t3, t4, t1, t5⟩
    · cases hk
      exact ⟨fun n z => ⟨fun k h => (by cases h), kB, b2, compB, b3⟩, b1⟩
    · cases hk
      exact ⟨fun n z => ⟨fun k h => (by cases h), kA, y3, compA, y4⟩, y5⟩
    · cases hk
      exact ⟨fun n z => ⟨fun k h => (by cases h), k12, u3, comp12, u4⟩, k12, comp12, u3, u4, u1, u5⟩
    · cases hk
      exact ⟨fun n z => ⟨fun k h => (by cases h), kJ, v3, compJ, v4⟩, kJ, compJ, v3, v4, v1, v5⟩
  · have hm : Cond.methodLinkNest q.1 q.2.1 q.2.2.1 q.2.2.2 ∈ q_nests.map (fun q => Cond.methodLinkNest q.1 q.2.1 q.2.2.1 q.2.2.2) := List.mem_map.mpr ⟨q, hq, rfl⟩
    rw [q_nestw_ok] at hm
    obtain ⟨i, -, hi⟩ := List.mem_filterMap.mp hm
    exact va_Nw.of rfl (hts _ (List.mem_of_getElem? hi))
  · obtain ⟨h1, h2⟩ := q_strs_ix q hq
    have h3 := hts _ (List.mem_of_getElem? (q_strw_ok _ h1))
    have h4 := hE _ h1
    unfold q_tm at h4
    rw [h2] at h3 h4
    exact vk_R.of h3 h4
  · exact va_Zof (hts _ (q_wi 957 (by decide +kernel))) (hts _ (q_wi 50 (by decide +kernel))) (va_eqi (hn _ q_nar3.1)) hA
  · have h1 := hn _ q_nar3.2
    have hl := hts (.laysStatic "jdk/internal/util/Preconditions" "SIOOBE_FORMATTER" "Ljava/util/function/BiFunction;") (q_wi 1036 (by decide +kernel))
    have hin := hts (.initialized "jdk/internal/util/Preconditions") (q_wi 54 (by decide +kernel))
    cases hv : (Term.static "jdk/internal/util/Preconditions" "SIOOBE_FORMATTER" "Ljava/util/function/BiFunction;").eval args s none [] s with
    | none => simp [Cond.before, Cond.holds, Cond.value, hv] at h1
    | some v =>
      refine ⟨v, ?_, va_Zof hl hin hv hA⟩
      simp only [Cond.before, Cond.holds, Cond.value, hv] at h1
      cases v <;> simp_all [Value.isRef]
  · have hm : Cond.fieldLinkNest q.1 q.2.1 q.2.2.1 q.2.2.2.1 q.2.2.2.2.1 q.2.2.2.2.2 ∈ q_fnests.map (fun q => Cond.fieldLinkNest q.1 q.2.1 q.2.2.1 q.2.2.2.1 q.2.2.2.2.1 q.2.2.2.2.2) := List.mem_map.mpr ⟨q, hq, rfl⟩
    rw [q_fnw_ok] at hm
    obtain ⟨i, -, hi⟩ := List.mem_filterMap.mp hm
    exact va_Nw.of rfl (hts _ (List.mem_of_getElem? hi))
def q_s0 : q_Sto := (q_St 470).2.2.2
set_option maxRecDepth 100000 in
theorem q_done : ∀ o, o < q_N0 → (match q_KD o with | .inl ci => decide (∀ j, j < q_nF ci → q_isR ci j = true → (q_St 470).2.2.1 o j = some (q_RF o j)) | .inr _ => true) = true := by decide +kernel
set_option maxRecDepth 100000 in
theorem q_made {w : q_Wd} {cx : q_Cx} {nL cells slots pc : Nat} {Q : State → Prop} {L : List (Option Value)} {st : List Value} (h : q_J w cx nL cells slots Q pc L st (q_sg q_s0)) : q_J w cx nL cells slots Q pc L st (q_St 470) := by
  intro H locs ls hR hS hL
  refine h H locs ls ?_ hS hL
  have hn : (q_St 470).1 = q_N0 := q_St_n (by decide +kernel)
  refine ⟨by have h1 := hR.1; rw [hn] at h1; exact h1, fun k q hk => ?_⟩
  obtain ⟨hk1, rfl⟩ := q_ws_inv hk
  have hk1 : k < q_N0 := hk1
  have h1 := hR.at (k := k) (by rw [hn]; exact hk1)
  have e : q_ent w (q_sg q_s0).2.1 (q_sg q_s0).2.2.1 (q_sg q_s0).2.2.2 k = q_ent w (q_St 470).2.1 (q_St 470).2.2.1 (q_St 470).2.2.2 k := by
    rw [q_St_kd]
    show q_ent w q_KD _ q_s0 k = q_ent w q_KD _ q_s0 k
    have hd := q_done k hk1
    simp only [q_ent]
    cases hkd : q_KD k with
    | inr z => obtain ⟨n9, b9⟩ := z; cases b9 <;> rfl
    | inl ci =>
      rw [hkd] at hd
      have hd := of_decide_eq_true hd
      have em : (List.range (q_nF ci)).map (q_fv w ci ((q_sg q_s0).2.2.1 k) (q_s0 k)) = (List.range (q_nF ci)).map (q_fv w ci ((q_St 470).2.2.1 k) (q_s0 k)) := by
        refine List.map_congr_left (fun j hj => ?_)
        have hj := List.mem_range.mp hj
        simp only [q_fv]
        split
        · rename_i hr
          rw [hd j hj hr]
          rfl
        · rfl
      exact congrArg (fun z => (Sum.inr (ci, z) : va_E)) em
  rw [e]
  exact h1
/-- the law's own world at its start -/
def x_k0 (L : Nat) (i : Nat) : x_Kd := if i < x_CB then .inr (0, 9) else if i < x_CB + q_nS then .inl 13 else if i < x_CV then .inr (0, 9) else if i < x_CV + q_nS then .inr ((q_tx (i - x_CV)).length, 7) else if i < x_CT then .inr (0, 9) else if i < x_CT + 2 then .inr (100, 7) else if i = x_CT + 2 then .inr (L, 6) else .inr (0, 9)
def x_r0 (i k : Nat) : Nat := if x_CB ≤ i ∧ i < x_CB + q_nS ∧ k = 0 then x_CV + (i - x_CB) else 0
def x_t0 (xs : Nat → Int32) (i k : Nat) : Int32 := if i < x_CV then 0 else if i < x_CT then (q_tx (i - x_CV)).getD k 0 else if i = x_CT then q_d0 k else if i = x_CT + 1 then q_d1 k else xs k
def x_u0 (L : Nat) (xs : Nat → Int32) : x_U := (q_s0, 157, 13741, x_k0 L, x_r0, x_t0 xs)
theorem x_wf0 {w : q_Wd} : x_wf w (x_u0 (q_xl w) (q_xs w)) := by
  intro i
  have hS := q_nS_le
  have ek : x_k (x_u0 (q_xl w) (q_xs w)) i = x_k0 (q_xl w) i := rfl
  have er : ∀ k, x_r (x_u0 (q_xl w) (q_xs w)) i k = x_r0 i k := fun k => rfl
  have et : ∀ k, x_t (x_u0 (q_xl w) (q_xs w)) i k = x_t0 (q_xs w) i k := fun k => rfl
  unfold x_loc
  have c1 : x_CB = 1000000000 := rfl
  have c2 : x_CV = 1000001000 := rfl
  have c3 : x_CT = 1000002000 := rfl
  by_cases h1 : i < x_CB
  · exact Or.inr (Or.inr (Or.inr (Or.inr (Or.inr (Or.inr (by rw [ek, x_k0, if_pos h1]))))))
  by_cases h2 : i < x_CB + q_nS
  · refine Or.inr (Or.inl ⟨i - x_CB, by omega, by omega, by rw [ek, x_k0, if_neg h1, if_pos h2], ?_, ?_⟩)
    · rw [er, x_r0, if_pos ⟨by omega, h2, rfl⟩]
    · rw [et, x_t0, if_pos (by omega)]
  by_cases h3 : i < x_CV
  · exact Or.inr (Or.inr (Or.inr (Or.inr (Or.inr (Or.inr (by rw [ek, x_k0, if_neg h1, if_neg h2, if_pos h3]))))))
  by_cases h4 : i < x_CV + q_nS
  · refine Or.inr (Or.inr (Or.inl ⟨i - x_CV, by omega, by omega, by rw [ek, x_k0, if_neg h1, if_neg h2, if_neg h3, if_pos h4], fun k => ?_⟩))
    rw [et, x_t0, if_neg h3, if_pos (by omega)]
  by_cases h5 : i < x_CT
  · exact Or.inr (Or.inr (Or.inr (Or.inr (Or.inr (Or.inr (by rw [ek, x_k0, if_neg h1, if_neg h2, if_neg h3, if_neg h4, if_pos h5]))))))
  by_cases h6 : i = x_CT
  · refine Or.inr (Or.inr (Or.inr (Or.inl ⟨h6, by rw [ek, x_k0, if_neg h1, if_neg h2, if_neg h3, if_neg h4, if_neg h5, if_pos (by omega)], ?_⟩)))
    funext k
    rw [et, x_t0, if_neg h3, if_neg h5, if_pos h6]
  by_cases h7 : i = x_CT + 1
  · refine Or.inr (Or.inr (Or.inr (Or.inr (Or.inl ⟨h7, by rw [ek, x_k0, if_neg h1, if_neg h2, if_neg h3, if_neg h4, if_neg h5, if_pos (by omega)], ?_⟩))))
    funext k
    rw [et, x_t0, if_neg h3, if_neg h5, if_neg h6, if_pos h7]
  by_cases h8 : i = x_CT + 2
  · refine Or.inr (Or.inr (Or.inr (Or.inr (Or.inr (Or.inl ⟨h8, by rw [ek, x_k0, if_neg h1, if_neg h2, if_neg h3, if_neg h4, if_neg h5, if_neg (by omega), if_pos h8], ?_⟩)))))
    funext k
    rw [et, x_t0, if_neg h3, if_neg h5, if_neg h6, if_neg h7]
  · exact Or.inr (Or.inr (Or.inr (Or.inr (Or.inr (Or.inr (by rw [ek, x_k0, if_neg h1, if_neg h2, if_neg h3, if_neg h4, if_neg h5, if_neg (by omega), if_neg h8]))))))
theorem x_lim157 : 157 ≤ x_lim := by
  unfold x_lim
  omega
set_option maxRecDepth 100000 in
theorem x_made {w : q_Wd} {cx : q_Cx} {nL pc : Nat} {Q : State → Prop} {L : List (Option Value)} {st : List Value} (hw : w.2.2.1 = cx.2.2.2.2.1.heap.size) (hop : w.2.2.2.2.2.1 = none) (h : x_J w cx nL 0 Q pc L st (x_u0 (q_xl w) (q_xs w))) : q_J w cx nL 157 13741 Q pc L st (q_sg q_s0) := by
  intro H locs ls hR hS hL
  have hz : H.size = w.2.2.1 + 157 := q_sz_op hR.1 hop
  have hx : x_R w (x_u0 (q_xl w) (q_xs w)) H := ⟨hz, ⟨Nat.le_refl _, x_lim157⟩, hR.2, fun k q hk => by
    exfalso
    have := (x_ws_inv hk).1
    have e : x_n (x_u0 (q_xl w) (q_xs w)) = q_N0 := rfl
    omega, x_wf0⟩
  have h2 := h H locs ls hx hS hL (Nat.zero_le _)
  have e1 : H.size - cx.2.2.2.2.1.heap.size = 157 := by rw [hz, hw]; omega
  rw [e1] at h2
  exact h2
set_option maxRecDepth 100000 in
set_option maxHeartbeats 4000000 in
theorem x_start {p : Program} {e : Env} {s : State} {m : MethodId} {below : List Frame} {meth : Method} {c : Code} (l : Launch) {b L : Nat} {xs : Nat → Int32} (hL : L ≤ 260) (C0 : lw_At p s m meth c b L xs) {n : Nat} {u' : x_U} (hF : F_L_law n (x_u0 L xs) = some (1, u')) (hc1 : x_n u' ≤ 600000) (hs1 : x_m u' ≤ 7302250) : W p l e room_1 s m #[Value.ref b] below meth c s.heap [] 0 0 (lw_Z below #[Value.ref b] s) (entryFrame m ([Value.ref b] : List Value).toArray 17) := by
  obtain ⟨hx, hb, hr, hml, hown, hts, hX, hbl, hlocks, hgv⟩ := C0
  obtain ⟨w, hw, hop, hw2, hwl, hwx, hK⟩ := q_start hts hgv hX hbl hL
  have hbig := x_bigb hts
  have hc : q_ok w (p, l, e, room_1, s, m, #[Value.ref b], below, meth, c) RL code 17 ret room_1 := ⟨hx, hb, hml, hown, hbig, hr, hlocks, hK, rfl, Nat.le_of_eq hw⟩
  have hl := lv_entry ([.ref b]) (n := 17) (Nat.le_of_ble_eq_true rfl)
  rw [lg_entry_eq]
  refine (?_ : q_J w (p, l, e, room_1, s, m, #[Value.ref b], below, meth, c) 17 0 0 (lw_Z below #[Value.ref b] s) 0 (some (.ref b) :: List.replicate 16 none) [] (q_St 0)) s.heap [] _ ⟨?_, fun k q hk => ?_⟩ va_S.rf ⟨hl.1, hl.2.1, fun i v hi => ?_⟩
  · refine k_new (n := 0) (t := 0) hc hop cl_11 nw_L_28 df_11 (by decide +kernel) (q_St_n (by decide +kernel)) (by decide +kernel) (by decide +kernel) (t2 := 1) rfl (c2 := 1) rfl (s2 := 11) rfl ⟨by decide, by decide⟩ dL_law_0 (pc2 := 3) rfl ?_
    refine j_dup hc dL_law_3 rfl (pc2 := 4) rfl ?_
    refine k_init (As := []) hc (I_X11_init_1 hop) mi_X11_init rfl ln_L_178 rfl rfl ⟨by decide, by decide⟩ (c2 := 157) rfl (s2 := 13741) rfl ⟨by decide, by decide⟩ (Nat.le_of_ble_eq_true rfl) dL_law_4 (pc2 := 7) rfl ?_
    refine j_astore_n (i := 1) hc dL_law_7 (by decide) (L2 := some (.ref b) :: some (q_rf w 0) :: List.replicate 15 none) rfl (pc2 := 8) rfl ?_
    refine q_made ?_
    refine x_made hw hop ?_
    have hG := C2_L_law (w := w) (cx := (p, l, e, room_1, s, m, #[Value.ref b], below, meth, c)) (M0 := 0) (nm := meth.name) hop (n := n) (x_u0 (q_xl w) (q_xs w)) 1 u' (by rw [hwl, hwx]; exact hF)
    have hG2 := hG.2 ⟨hx, hb, hml, hown, hbig, hr, hlocks, hK, ⟨rfl, rfl⟩, Nat.le_of_eq hw, hop, rfl⟩ ⟨by rw [hw]; exact Nat.add_le_add_left hc1 _, by rw [Nat.zero_add]; exact hs1⟩
    have eL : [some (x_v w (x_CT + 2)), some (q_rf w 0), none, none, none, none, none, none, none, none, none, none, none, none, none, none, none] = some (.ref b) :: some (q_rf w 0) :: List.replicate 15 none := by
      have : x_v w (x_CT + 2) = .ref b := by
        rw [x_v1 (by unfold x_CT; omega), x_ad_t, hw2]
      rw [this]
      rfl
    rw [eL] at hG2
    intro H locs ls hR hS hL2 hm
    have hW := hG2 H locs ls hR hS hL2 hm
    intro T hT X
    obtain ⟨t, a1, o, b1, b2, ⟨b3, -, -, -⟩, Ls, ⟨b4, b5, b6⟩, b7⟩ := hW T hT X
    refine ⟨t, a1, o, b1, b2, b3, b4, b5, ?_⟩
    obtain ⟨z1, z2, z3, z4, z5, z6⟩ := b6
    refine ⟨z1, z2, Nat.le_trans z3 (Nat.add_le_add_left ?_ _), z4, Nat.le_trans z5 ?_, fun a cc hcc => ?_⟩
    · show w.2.2.1 + x_n u' - s.heap.size ≤ 600000
      rw [hw]
      omega
    · rw [Nat.sub_zero]
      exact hs1
    · obtain ⟨c', y1, y2, y3, y4⟩ := z6 a cc hcc
      refine ⟨c', y1, y2, y3, fun i _ => y4 i (fun hmem => ?_)⟩
      have h1 := b7 _ hmem
      have h1 : w.2.2.1 ≤ a := h1.1
      have h2 : a < s.heap.size := (Array.getElem?_eq_some_iff.mp hcc).1
      rw [hw] at h1
      exact absurd (Nat.lt_of_lt_of_le h2 h1) (Nat.lt_irrefl _)
  · exact q_sz_of (by rw [hw]; rfl) hop
  · exfalso
    have := (q_ws_inv hk).1
    have this : k < 0 := this
    omega
  · match i, hi with
    | 0, hi => cases hi; exact ⟨rfl, hl.2.2 (0, .ref b) (by simp [lv_args])⟩
    | 1, hi | 2, hi | 3, hi | 4, hi | 5, hi | 6, hi | 7, hi | 8, hi | 9, hi | 10, hi | 11, hi | 12, hi | 13, hi | 14, hi | 15, hi | 16, hi => cases hi
    | n + 17, hi => simp [q_nth] at hi
