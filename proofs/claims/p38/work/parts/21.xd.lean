/-! calls in the law's world -/
def x_call {α β : Type} (fo : Option (β × x_U)) (kk : β → x_U → Option (α × x_U)) : Option (α × x_U) := match fo with
  | none => none
  | some p => kk p.1 p.2
/-- a call on the class -/
def x_calc {α : Type} (u : x_U) (fo : Option (Int32 × q_Sto)) (kk : Int32 → x_U → Option (α × x_U)) : Option (α × x_U) := match fo with
  | none => none
  | some p => kk p.1 (x_uc u p.2)
section XC
variable {α β : Type} {an : α → Option Value} {an2 : β → Option Value} {w : q_Wd} {cx : q_Cx} {own nm : String} {cc : ByteArray} {nL f lo m0 : Nat} {ret : Option FieldType} {pc pc2 : Nat} {L : List (Option Value)} {st : List Value} {u : x_U} {oo : Option (α × x_U)}
theorem x_after {p : Program} {l : Launch} {e : Env} {R : Room} {s : State} {m : MethodId} {args : Array Value} {below : List Frame} {meth : Method} {c : Code} {H : Heap} {locs : List Loc} {cells slots mc ms m1 : Nat} {Q : State → Prop} {ls : Array Slot} {st0 rest : List Value} {a : Array Value} {r2 : β} {u2 : x_U}
    (hr : va_Run p l e R s m args below meth c H locs cells slots mc ms (F0 m pc ls st0) rest (x_Qc w m1 an2 r2 u2 a) (q_A w)) (hS : va_S (q_A w) s.heap H locs)
    (kk : ∀ (H1 : Heap) (locs1 : List Loc), x_R w u2 H1 → va_S (q_A w) s.heap H1 locs1 → m1 ≤ x_m u2 → W p l e R s m args below meth c H1 locs1 (cells + mc) (slots + ms) Q (F0 m (pc + 3) ls ((an2 r2).toList ++ rest))) : W p l e R s m args below meth c H locs cells slots Q (F0 m pc ls st0) := by
  intro T hT X
  obtain ⟨v, st₀, t, T', L, h0, X', hL, e1, e2, ⟨hv, hR, ⟨hz, hk⟩, hm⟩, st⟩ := hr T hT X
  cases hv
  rw [h0] at hz hk
  obtain ⟨t2, a1, b1⟩ := kk T'.heap (locs ++ L) (by rw [e1]; exact hR)
    ⟨Nat.le_trans hS.1 (by rw [e1]; exact hz), fun q h1 h2 => by rw [e1, hk q (Nat.lt_of_lt_of_le h1 hS.1) h2]; exact hS.2.1 q h1 h2, fun q hq => by
      rcases List.mem_append.mp hq with h | h
      · exact hS.2.2 q h
      · exact hL q h⟩ hm T' rfl X'
  exact ⟨t2, st t2 a1, b1⟩
theorem x_blind {w : q_Wd} {As : List Value} {u : x_U} : FrameBlind (va_Pc As (fun U => q_K w U ∧ x_R w u U.heap)) := fun a U g mk h => ⟨h.1, h.2.1.calling g mk a, h.2.2⟩
/-- the receiver's cell -/
theorem x_recv {cx : q_Cx} {H : Heap} {locs : List Loc} (hc : x_ok w cx own nm cc nL ret f lo) (hR : x_R w u H) (hS : va_S (q_A w) cx.2.2.2.2.1.heap H locs) {o ci : Nat} {q : vw_C} (hk : x_k u o = .inl ci) (hq : q_cl[ci]? = some q) (h13 : ci = 13 → q.1 = RJ0) :
    o ≠ 0 ∧ ∃ cell : Cell, H[x_ad w o]? = some cell ∧ cell.vm.isStatics = false ∧ cx.2.2.2.2.1.vm.findClass q.1 = some cell.cls := by
  have hN := q_N0_pos
  rcases hR.2.2.2.2 o with ⟨i1, i2, -⟩ | ⟨j, a, b, c, d, e⟩ | ⟨j, a, b, c, d⟩ | ⟨a, b, c⟩ | ⟨a, b, c⟩ | ⟨a, b, c⟩ | c
  · rw [x_ad_in (hR.CB i2)]
    exact ⟨by omega, va_recv (D := w.1) (cl := q_cl) (tys := q_tys w) (ws := x_ws w u) hc.2.2.2.2.2.2.2.1.1 hR.2.2.2.1 (q := q) hq ((x_ws_get i1 i2).trans (by rw [x_ent_o hk]))⟩
  · rw [hk] at c
    cases c
    rw [b, x_ad_s a, h13 rfl]
    exact ⟨by unfold x_CB; omega, va_Orecv (hc.2.2.2.2.2.2.2.1.2.2.2.2.1 j a).1 hS⟩
  all_goals (first | (rw [hk] at c; cases c) | (rw [hk] at b; cases b))
/-- the class's own world within the law's -/
def x_cl (w : q_Wd) (z : Nat) : q_Wd := (w.1, w.2.1, w.2.2.1, w.2.2.2.1, w.2.2.2.2.1, some z, w.2.2.2.2.2.2)
theorem x_clA {w : q_Wd} (hop : w.2.2.2.2.2.1 = none) {z q : Nat} (h : q_A (x_cl w z) q) : q_A w q := ⟨h.1, Or.inl hop⟩
theorem x_T_nar {ty : FieldType} {t N : Nat} {g : Nat → Value} {A B : Nat → Prop} {U : State} {H : Heap} (h : va_T ty t N g A U H) (hAB : ∀ q, B q → A q) : va_T ty t N g B U H := h.narrow hAB
theorem x_Z_nar {C n d : String} {v : Value} {A B : Nat → Prop} {U : State} {H : Heap} (h : va_Z C n d v A U H) (hAB : ∀ q, B q → A q) : va_Z C n d v B U H := by
  obtain ⟨cf, kf, fi, fd, a, cell, h1, h2, h3, h4, h5, h6, h7, h8⟩ := h
  exact ⟨cf, kf, fi, fd, a, cell, h1, h2, h3, h4, h5, h6, h7, fun q => h8 (hAB _ q)⟩
theorem x_OF_nar {o n d : String} {v : Value} {t : Nat} {A B : Nat → Prop} {U : State} {H : Heap} (h : va_OF o n d v t A U H) (hAB : ∀ q, B q → A q) : va_OF o n d v t B U H := by
  obtain ⟨cf, k, i, fd, cell, h1, h2, h3, h4, h5, h6⟩ := h
  exact ⟨cf, k, i, fd, cell, h1, h2, h3, h4, h5, fun q => h6 (hAB _ q)⟩
theorem x_clK {w : q_Wd} (hop : w.2.2.2.2.2.1 = none) {z : Nat} {U : State} (h : q_K w U) : q_K (x_cl w z) U := by
  obtain ⟨h1, h2, h3, h4, h5, ⟨h6, v, hv, h7⟩, ⟨⟨a1, a2⟩, ⟨b1, b2⟩, c1, c2⟩, h9⟩ := h
  have hA : ∀ q, q_A (x_cl w z) q → q_A w q := fun q hq => x_clA hop hq
  exact ⟨h1, h2, h3, h4, fun i hi => ⟨(h5 i hi).1.narrow hA, x_OF_nar (h5 i hi).2.1 hA, x_OF_nar (h5 i hi).2.2.1 hA, x_T_nar (h5 i hi).2.2.2 hA⟩, ⟨x_Z_nar h6 hA, v, hv, x_Z_nar h7 hA⟩, ⟨⟨x_T_nar a1 hA, x_Z_nar a2 hA⟩, ⟨x_T_nar b1 hA, x_Z_nar b2 hA⟩, x_T_nar c1 hA, c2⟩, h9⟩
theorem x_callc {idx n nLy f1 l1 : Nat} {y : MethodName} {ccy : ByteArray} {rety : Option FieldType} {As stack : List Value} {fo : Option (Int32 × q_Sto)} {kk : Int32 → x_U → Option (α × x_U)} (hM : ∀ w' : q_Wd, q_C cx.2.1 w' y ccy nLy rety (q_rm f1 l1) (q_rf w' 0 :: As) (x_c u) fo) (hmv : q_mv y ccy nLy rety 11 n) (hlk : Cond.methodLink own idx y ∈ q_big)
    (hst : stack = As.reverse ++ q_rf w 0 :: st) (hn : As.length = n) (hrm : f1 + 1 ≤ f ∧ 8 + (nLy + 11) + l1 ≤ lo) (hcat : (st.map fun v => v.category).sum ≤ 8) (hd : decode cc pc = .ok (.invokevirtual idx, 3)) (hp : pc + 3 = pc2)
    (k2 : ∀ r2 u2, x_G w cx own nm cc nL ret f lo m0 an pc2 L ((q_ans rety r2).toList ++ st) u2 (kk r2 u2)) : x_G w cx own nm cc nL ret f lo m0 an pc L stack u (x_calc u fo kk) := by
  subst hp
  subst hst
  intro r u' h
  unfold x_calc at h
  rcases hfo : fo with _ | ⟨r2, σ2⟩
  · rw [hfo] at h; cases h
  rw [hfo] at h
  obtain ⟨h1, h2⟩ := k2 r2 (x_uc u σ2) r u' h
  refine ⟨h1, fun hc hr2 H locs ls hR hS hL hm => ?_⟩
  have h3 := h2 hc hr2
  obtain ⟨⟨hy, hini, hcode⟩, hins, hsel, T, hT⟩ := hmv
  obtain ⟨hx, hb, hml, hown, hts, hret, hlocks, hK, ⟨hrf, hrl⟩, hbase, hop, hnm⟩ := hc
  have hz := hR.1
  have hMet := hM (x_cl w H.size) r2 σ2 hfo
  have hA : ∀ q, q_A (x_cl w H.size) q → q_A w q := fun q hq => x_clA hop hq
  have hP : va_P w.1 q_cl (q_ws w (q_sg (x_c u))) H := hR.2.2.1
  have hPre : PreV cx.2.2.2.2.1 H y.cls (w.2.2.1 + 0) (va_Pc (q_rf w 0 :: As) (fun U => q_K (x_cl w H.size) U ∧ q_R (x_cl w H.size) (q_sg (x_c u)) U.heap)) As :=
    ⟨q_blind, va_recv (D := w.1) (cl := q_cl) (tys := q_tys w) (ws := q_ws w (q_sg (x_c u))) hK.1 hP (q := (y.cls, T, q_nF 11)) hT ((q_ws_get (k := 0) (show 0 < q_N0 by decide)).trans (by rw [q_ent_o (S := q_sg (x_c u)) (o := 0) (ci := 11) (show q_KD 0 = .inl 11 by decide +kernel)])), fun U hU hW => ⟨rfl, x_clK hop (hK.go hW (fun a h1 h2 => by rw [hU]; exact hS.2.1 a h1 h2)), by
      rw [hU]
      exact ⟨⟨rfl, Nat.le_refl _, by show w.2.2.1 + q_N0 ≤ H.size; have := hR.2.1.1; omega⟩, hP⟩⟩⟩
  have hrun := va_runV (e := cx.2.2.1) (below := cx.2.2.2.2.2.2.2.1) (meth := cx.2.2.2.2.2.2.2.2.1) (own := own) (C := y.cls) (ws := .code y ccy nLy rety :: q_big) (cells := H.size - cx.2.2.2.2.1.heap.size) (slots := x_m u - m0) (locs := locs) (g := F0 cx.2.2.2.2.2.1 pc ls (As.reverse ++ q_rf w 0 :: st)) (rest := st) ⟨hx, hb, hml, hown, hts⟩ hMet (cwV n hts (q_goodIn (fun x hx => by
      rcases List.mem_append.mp hx with h | h
      · simp only [List.mem_cons, List.not_mem_nil, or_false] at h
        rcases h with rfl | rfl | rfl | rfl
        · exact hlk
        · exact hins
        · exact hsel
        · exact hini
      · rcases List.mem_cons.mp h with rfl | h
        · exact hcode
        · exact h)) rfl rfl rfl ⟨rfl, hy⟩ (by rw [hrf, hrl]; exact hrm)) hPre rfl hn hL.1 rfl (lv_room hcat) hd (by
          have a1 := hr2.1
          have a2 := hr2.2
          have b1 : x_n u ≤ x_n u' := h1.1
          have b2 : x_m u ≤ x_m u' := h1.2
          have hS1 := hS.1
          exact ⟨by omega, by omega⟩)
  intro T0 hT0 X
  obtain ⟨v, st₀, t, T', L', g0, X', hL', e1, e2, ⟨hv, hR', hz', hk'⟩, hst⟩ := hrun T0 hT0 X
  cases hv
  rw [g0] at hz' hk'
  have hsz : t.heap.size = H.size := hR'.1.1
  have hstay : ∀ q : Nat, q < H.size → ¬ q_A (x_cl w H.size) q → T'.heap[q]? = H[q]? := fun q h1 h2 => by rw [e1]; exact hk' q h1 h2
  have hR2 : x_R w (x_uc u σ2) T'.heap := by
    refine ⟨by rw [e1, hsz]; exact hz, hR.2.1, by rw [e1]; exact hR'.2, ?_, x_wf_uc hR.2.2.2.2⟩
    refine hR.2.2.2.1.kept (fun k q hq => ?_)
    obtain ⟨hq1, rfl⟩ := x_ws_inv hq
    refine hstay _ (by show w.2.2.1 + (q_N0 + k) < H.size; omega) (fun hA' => ?_)
    rcases hA'.2 with h | h
    · cases h
    · have h : w.2.2.1 + (q_N0 + k) < w.2.2.1 + q_N0 := h
      omega
  have hS2 : va_S (q_A w) cx.2.2.2.2.1.heap T'.heap (locs ++ L') := ⟨Nat.le_trans hS.1 (by rw [e1]; exact hz'), fun q h1 h2 => by rw [hstay q (Nat.lt_of_lt_of_le h1 hS.1) (fun h => h2 (hA q h))]; exact hS.2.1 q h1 h2, fun q hq => by
      rcases List.mem_append.mp hq with h | h
      · exact hS.2.2 q h
      · exact hA _ (hL' q h)⟩
  have ez : T'.heap.size = H.size := by rw [e1, hsz]
  have h4 := h3 T'.heap (locs ++ L') ls hR2 hS2 hL hm
  rw [ez] at h4
  obtain ⟨t2, a1, b1⟩ := h4 T' rfl X'
  exact ⟨t2, hst t2 a1, b1⟩
/-- a private method of the superclass is selected, whatever the object's class -/
theorem x_selP {C : String} {y z : MethodName} {s : State} {args : Array Value} {n : Nat} (hy : y.cls ≠ "java/lang/invoke/MethodHandle" ∧ y.cls ≠ "java/lang/invoke/VarHandle") (hyz : z.cls = y.cls) (hins : (Cond.instantiable C n).before args s = true) (hz : (Cond.selects C z z).before args s = true) (hpriv : (Cond.privateMethod y).before args s = true) (hinst : (Cond.instanceMethod y).before args s = true) :
    (Cond.selects C y y).before args s = true := by
  obtain ⟨c, k, hc, hk, -, hniab, -, -⟩ := Cond.instantiable_spec hins
  obtain ⟨c2, r2, m2, q1, q2, q3, q4, kP, hkP, hkPi⟩ := Cond.selects_spec hz
  obtain ⟨mk, methM, hnamed, hmethM, -, -⟩ := Cond.instanceMethod_spec hinst
  have hfound : s.methodFound? y.cls y.name y.desc = some mk := State.methodFound?_of_named hnamed hy
  have hcls : mk.cls = m2.cls := Option.some.inj ((findClass_of_methodNamed hnamed).symm.trans (by rw [← hyz]; exact findClass_of_methodNamed q3))
  have hsel : selectMethod {} s.vm c mk = .method mk := selectMethod_private hmethM (Cond.privateMethod_at hpriv mk methM hnamed hmethM)
  simp only [Cond.before, Cond.holds, Cond.value, hc, hfound, hnamed, hsel, hcls, hkP]
  simp; exact hkPi
theorem x_callV {idx n nLy f1 l1 : Nat} {y : MethodName} {ccy : ByteArray} {rety : Option FieldType} {As stack : List Value} {o ci : Nat} {fo : Option (β × x_U)} {kk : β → x_U → Option (α × x_U)} (hC : x_C cx.2.1 w y ccy nLy rety f1 l1 (x_v w o :: As) an2 u fo) (hmv : q_mv y ccy nLy rety ci n) (h13 : ci = 13 → y.cls = RJ0) (hlk : Cond.methodLink own idx y ∈ q_big) (hk : x_k u o = .inl ci)
    (hst : stack = As.reverse ++ x_v w o :: st) (hn : As.length = n) (hrm : f1 + 1 ≤ f ∧ 8 + (nLy + 11) + l1 ≤ lo) (hcat : (st.map fun v => v.category).sum ≤ 8) (hd : decode cc pc = .ok (.invokevirtual idx, 3)) (hp : pc + 3 = pc2)
    (k2 : ∀ r2 u2, x_G w cx own nm cc nL ret f lo m0 an pc2 L ((an2 r2).toList ++ st) u2 (kk r2 u2)) (hop : w.2.2.2.2.2.1 = none) : x_G w cx own nm cc nL ret f lo m0 an pc L stack u (x_call fo kk) := by
  subst hp
  subst hst
  intro r u' h
  unfold x_call at h
  rcases hfo : fo with _ | ⟨r2, u2⟩
  · rw [hfo] at h; cases h
  rw [hfo] at h
  obtain ⟨g1, hMet⟩ := hC hop r2 u2 hfo
  have g1 := g1 cx
  obtain ⟨h1, h2⟩ := k2 r2 u2 r u' h
  refine ⟨g1.tr h1, fun hc hr2 H locs ls hR hS hL hm => ?_⟩
  have h3 := h2 hc hr2
  have hc0 := hc
  obtain ⟨⟨hy, hini, hcode⟩, hins, hsel, T, hT⟩ := hmv
  obtain ⟨ho, hcell⟩ := x_recv hc hR hS hk hT h13
  obtain ⟨hx, hb, hml, hown, hts, hret, hlocks, hK, ⟨hrf, hrl⟩, hbase, -, hnm⟩ := hc
  have hz := hR.1
  have a1 := hr2.1
  have a2 := hr2.2
  have b1 : x_n u2 ≤ x_n u' := h1.1
  have b2 : x_m u2 ≤ x_m u' := h1.2
  have d1 : x_n u ≤ x_n u2 := g1.1
  have d2 : x_m u ≤ x_m u2 := g1.2
  have hS1 := hS.1
  rw [x_v1 ho] at hMet ⊢
  have hPre : PreV cx.2.2.2.2.1 H y.cls (x_ad w o) (va_Pc (.ref (x_ad w o) :: As) (fun U => q_K w U ∧ x_R w u U.heap)) As := ⟨x_blind, hcell, fun U hU hW => ⟨rfl, hK.go hW (fun a h1 h2 => by rw [hU]; exact hS.2.1 a h1 h2), by rw [hU]; exact hR⟩⟩
  refine x_after (va_runV (own := own) (C := y.cls) (ws := .code y ccy nLy rety :: q_big) ⟨hx, hb, hml, hown, hts⟩ hMet (cwV n hts (q_goodIn (fun x hx => by
      rcases List.mem_append.mp hx with h | h
      · simp only [List.mem_cons, List.not_mem_nil, or_false] at h
        rcases h with rfl | rfl | rfl | rfl
        · exact hlk
        · exact hins
        · exact hsel
        · exact hini
      · rcases List.mem_cons.mp h with rfl | h
        · exact hcode
        · exact h)) rfl rfl rfl ⟨rfl, hy⟩ (by rw [hrf, hrl]; exact hrm)) hPre rfl hn hL.1 rfl (lv_room hcat) hd ⟨by omega, by omega⟩) hS (fun H1 locs1 hR1 hS1 hm1 => ?_)
  have hz1 := hR1.1
  have ez : H.size - cx.2.2.2.2.1.heap.size + (x_n u2 - x_n u) = H1.size - cx.2.2.2.2.1.heap.size := by omega
  have em : x_m u - m0 + (x_m u2 - x_m u) = x_m u2 - m0 := by omega
  rw [ez, em]
  exact h3 H1 locs1 ls hR1 hS1 hL (by omega)
theorem x_callS {idx n nLy f1 l1 : Nat} {y : MethodName} {ccy : ByteArray} {rety : Option FieldType} {As stack : List Value}  {fo : Option (β × x_U)} {kk : β → x_U → Option (α × x_U)} (hC : x_C cx.2.1 w y ccy nLy rety f1 l1 (As) an2 u fo) (hmv : q_mst y ccy nLy rety n) (hlk : Cond.methodLink own idx y ∈ q_big)
    (hst : stack = As.reverse ++ st) (hn : As.length = n) (hrm : f1 + 1 ≤ f ∧ 8 + (nLy + 11) + l1 ≤ lo) (hcat : (st.map fun v => v.category).sum ≤ 8) (hd : decode cc pc = .ok (.invokestatic idx, 3)) (hp : pc + 3 = pc2)
    (k2 : ∀ r2 u2, x_G w cx own nm cc nL ret f lo m0 an pc2 L ((an2 r2).toList ++ st) u2 (kk r2 u2)) (hop : w.2.2.2.2.2.1 = none) : x_G w cx own nm cc nL ret f lo m0 an pc L stack u (x_call fo kk) := by
  subst hp
  subst hst
  intro r u' h
  unfold x_call at h
  rcases hfo : fo with _ | ⟨r2, u2⟩
  · rw [hfo] at h; cases h
  rw [hfo] at h
  obtain ⟨g1, hMet⟩ := hC hop r2 u2 hfo
  have g1 := g1 cx
  obtain ⟨h1, h2⟩ := k2 r2 u2 r u' h
  refine ⟨g1.tr h1, fun hc hr2 H locs ls hR hS hL hm => ?_⟩
  have h3 := h2 hc hr2
  have hc0 := hc
  obtain ⟨⟨hy, hini, hcode⟩, hstat⟩ := hmv
  obtain ⟨hx, hb, hml, hown, hts, hret, hlocks, hK, ⟨hrf, hrl⟩, hbase, -, hnm⟩ := hc
  have hz := hR.1
  have a1 := hr2.1
  have a2 := hr2.2
  have b1 : x_n u2 ≤ x_n u' := h1.1
  have b2 : x_m u2 ≤ x_m u' := h1.2
  have d1 : x_n u ≤ x_n u2 := g1.1
  have d2 : x_m u ≤ x_m u2 := g1.2
  have hS1 := hS.1
  have hPre : PreS cx.2.2.2.2.1 H (va_Pc As (fun U => q_K w U ∧ x_R w u U.heap)) As := ⟨x_blind, fun U hU hW => ⟨rfl, hK.go hW (fun a h1 h2 => by rw [hU]; exact hS.2.1 a h1 h2), by rw [hU]; exact hR⟩⟩
  refine x_after (va_runS (own := own) (ws := .code y ccy nLy rety :: q_big) ⟨hx, hb, hml, hown, hts⟩ hMet (va_cwS n hts (q_goodIn (fun x hx => by
      rcases List.mem_append.mp hx with h | h
      · simp only [List.mem_cons, List.not_mem_nil, or_false] at h
        rcases h with rfl | rfl | rfl
        · exact hlk
        · exact hstat
        · exact hini
      · rcases List.mem_cons.mp h with rfl | h
        · exact hcode
        · exact h)) rfl rfl rfl hy (by rw [hrf, hrl]; exact hrm)) hPre rfl hn hL.1 rfl (lv_room hcat) hd ⟨by omega, by omega⟩) hS (fun H1 locs1 hR1 hS1 hm1 => ?_)
  have hz1 := hR1.1
  have ez : H.size - cx.2.2.2.2.1.heap.size + (x_n u2 - x_n u) = H1.size - cx.2.2.2.2.1.heap.size := by omega
  have em : x_m u - m0 + (x_m u2 - x_m u) = x_m u2 - m0 := by omega
  rw [ez, em]
  exact h3 H1 locs1 ls hR1 hS1 hL (by omega)
theorem x_callSN {idx n nLy f1 l1 : Nat} {y : MethodName} {ccy : ByteArray} {rety : Option FieldType} {As stack : List Value} {host : String} {fo : Option (β × x_U)} {kk : β → x_U → Option (α × x_U)} (hC : x_C cx.2.1 w y ccy nLy rety f1 l1 (As) an2 u fo) (hmv : q_mst y ccy nLy rety n) (hlk : (own, idx, y, host) ∈ q_nests)
    (hst : stack = As.reverse ++ st) (hn : As.length = n) (hrm : f1 + 1 ≤ f ∧ 8 + (nLy + 11) + l1 ≤ lo) (hcat : (st.map fun v => v.category).sum ≤ 8) (hd : decode cc pc = .ok (.invokestatic idx, 3)) (hp : pc + 3 = pc2)
    (k2 : ∀ r2 u2, x_G w cx own nm cc nL ret f lo m0 an pc2 L ((an2 r2).toList ++ st) u2 (kk r2 u2)) (hop : w.2.2.2.2.2.1 = none) : x_G w cx own nm cc nL ret f lo m0 an pc L stack u (x_call fo kk) := by
  subst hp
  subst hst
  intro r u' h
  unfold x_call at h
  rcases hfo : fo with _ | ⟨r2, u2⟩
  · rw [hfo] at h; cases h
  rw [hfo] at h
  obtain ⟨g1, hMet⟩ := hC hop r2 u2 hfo
  have g1 := g1 cx
  obtain ⟨h1, h2⟩ := k2 r2 u2 r u' h
  refine ⟨g1.tr h1, fun hc hr2 H locs ls hR hS hL hm => ?_⟩
  have h3 := h2 hc hr2
  have hc0 := hc
  obtain ⟨⟨hy, hini, hcode⟩, hstat⟩ := hmv
  obtain ⟨hx, hb, hml, hown, hts, hret, hlocks, hK, ⟨hrf, hrl⟩, hbase, -, hnm⟩ := hc
  have hz := hR.1
  have a1 := hr2.1
  have a2 := hr2.2
  have b1 : x_n u2 ≤ x_n u' := h1.1
  have b2 : x_m u2 ≤ x_m u' := h1.2
  have d1 : x_n u ≤ x_n u2 := g1.1
  have d2 : x_m u ≤ x_m u2 := g1.2
  have hS1 := hS.1
  have hPre : PreS cx.2.2.2.2.1 H (va_Pc As (fun U => q_K w U ∧ x_R w u U.heap)) As := ⟨x_blind, fun U hU hW => ⟨rfl, hK.go hW (fun a h1 h2 => by rw [hU]; exact hS.2.1 a h1 h2), by rw [hU]; exact hR⟩⟩
  refine x_after (va_runSN (own := own) (host := host) (ws := .code y ccy nLy rety :: q_big) ⟨hx, hb, hml, hown, hts⟩ hMet ⟨va_cnB n hts (q_goodIn (fun x hx => by
      rcases List.mem_cons.mp hx with rfl | h
      · exact hcode
      · exact h)) rfl rfl rfl (hK.2.1 _ hlk) (hts _ hini) hy (by rw [hrf, hrl]; exact hrm), hts _ hstat, trivial⟩ hPre rfl hn hL.1 rfl (lv_room hcat) hd ⟨by omega, by omega⟩) hS (fun H1 locs1 hR1 hS1 hm1 => ?_)
  have hz1 := hR1.1
  have ez : H.size - cx.2.2.2.2.1.heap.size + (x_n u2 - x_n u) = H1.size - cx.2.2.2.2.1.heap.size := by omega
  have em : x_m u - m0 + (x_m u2 - x_m u) = x_m u2 - m0 := by omega
  rw [ez, em]
  exact h3 H1 locs1 ls hR1 hS1 hL (by omega)
theorem x_callI {idx n nLy f1 l1 : Nat} {y : MethodName} {ccy : ByteArray} {rety : Option FieldType} {As stack : List Value} {o ci : Nat} {RCI : String} {fo : Option (β × x_U)} {kk : β → x_U → Option (α × x_U)} (hC : x_C cx.2.1 w y ccy nLy rety f1 l1 (x_v w o :: As) an2 u fo) (hmv : q_my y ccy nLy none n ∧ Cond.instanceMethod y ∈ q_big) (hret : rety = none) (hy1 : y.name = "<init>") (hlk : Cond.methodLink own idx y ∈ q_big) (hk : x_k u o = .inl ci) (hq : ∃ T N, q_cl[ci]? = some (RCI, T, N)) (h13 : ci = 13 → RCI = RJ0)
    (hst : stack = As.reverse ++ x_v w o :: st) (hn : As.length = n) (hrm : f1 + 1 ≤ f ∧ 8 + (nLy + 11) + l1 ≤ lo) (hcat : (st.map fun v => v.category).sum ≤ 8) (hd : decode cc pc = .ok (.invokespecial idx, 3)) (hp : pc + 3 = pc2)
    (k2 : ∀ r2 u2, x_G w cx own nm cc nL ret f lo m0 an pc2 L ((an2 r2).toList ++ st) u2 (kk r2 u2)) (hop : w.2.2.2.2.2.1 = none) : x_G w cx own nm cc nL ret f lo m0 an pc L stack u (x_call fo kk) := by
  subst hp
  subst hst
  intro r u' h
  unfold x_call at h
  rcases hfo : fo with _ | ⟨r2, u2⟩
  · rw [hfo] at h; cases h
  rw [hfo] at h
  obtain ⟨g1, hMet⟩ := hC hop r2 u2 hfo
  have g1 := g1 cx
  obtain ⟨h1, h2⟩ := k2 r2 u2 r u' h
  refine ⟨g1.tr h1, fun hc hr2 H locs ls hR hS hL hm => ?_⟩
  have h3 := h2 hc hr2
  have hc0 := hc
  subst hret
  obtain ⟨⟨hy, hini, hcode⟩, hins⟩ := hmv
  obtain ⟨T, N, hT⟩ := hq
  obtain ⟨ho, hcell⟩ := x_recv hc hR hS hk hT h13
  obtain ⟨hx, hb, hml, hown, hts, hret, hlocks, hK, ⟨hrf, hrl⟩, hbase, -, hnm⟩ := hc
  have hz := hR.1
  have a1 := hr2.1
  have a2 := hr2.2
  have b1 : x_n u2 ≤ x_n u' := h1.1
  have b2 : x_m u2 ≤ x_m u' := h1.2
  have d1 : x_n u ≤ x_n u2 := g1.1
  have d2 : x_m u ≤ x_m u2 := g1.2
  have hS1 := hS.1
  rw [x_v1 ho] at hMet ⊢
  have hPre : PreS cx.2.2.2.2.1 H (va_Pc (.ref (x_ad w o) :: As) (fun U => q_K w U ∧ x_R w u U.heap)) (.ref (x_ad w o) :: As) := ⟨x_blind, fun U hU hW => ⟨rfl, hK.go hW (fun a h1 h2 => by rw [hU]; exact hS.2.1 a h1 h2), by rw [hU]; exact hR⟩⟩
  refine x_after (va_runI (own := own) (ws := .code y ccy nLy none :: q_big) ⟨hx, hb, hml, hown, hts⟩ hMet (cwI n hts (q_goodIn (fun x hx => by
      rcases List.mem_cons.mp hx with rfl | h
      · exact hcode
      · exact h)) rfl rfl rfl (hts _ hini) (hts _ hlk) (hts _ hins) hy1 hy (by rw [hrf, hrl]; exact hrm)) hPre rfl hn hL.1 rfl (lv_room hcat) hd ⟨by omega, by omega⟩) hS (fun H1 locs1 hR1 hS1 hm1 => ?_)
  have hz1 := hR1.1
  have ez : H.size - cx.2.2.2.2.1.heap.size + (x_n u2 - x_n u) = H1.size - cx.2.2.2.2.1.heap.size := by omega
  have em : x_m u - m0 + (x_m u2 - x_m u) = x_m u2 - m0 := by omega
  rw [ez, em]
  exact h3 H1 locs1 ls hR1 hS1 hL (by omega)
theorem x_callIN {idx n nLy f1 l1 : Nat} {y : MethodName} {ccy : ByteArray} {rety : Option FieldType} {As stack : List Value} {o ci : Nat} {RCI host : String} {fo : Option (β × x_U)} {kk : β → x_U → Option (α × x_U)} (hC : x_C cx.2.1 w y ccy nLy rety f1 l1 (x_v w o :: As) an2 u fo) (hmv : q_my y ccy nLy none n ∧ Cond.instanceMethod y ∈ q_big) (hret : rety = none) (hy1 : y.name = "<init>") (hlk : (own, idx, y, host) ∈ q_nests) (hk : x_k u o = .inl ci) (hq : ∃ T N, q_cl[ci]? = some (RCI, T, N)) (h13 : ci = 13 → RCI = RJ0)
    (hst : stack = As.reverse ++ x_v w o :: st) (hn : As.length = n) (hrm : f1 + 1 ≤ f ∧ 8 + (nLy + 11) + l1 ≤ lo) (hcat : (st.map fun v => v.category).sum ≤ 8) (hd : decode cc pc = .ok (.invokespecial idx, 3)) (hp : pc + 3 = pc2)
    (k2 : ∀ r2 u2, x_G w cx own nm cc nL ret f lo m0 an pc2 L ((an2 r2).toList ++ st) u2 (kk r2 u2)) (hop : w.2.2.2.2.2.1 = none) : x_G w cx own nm cc nL ret f lo m0 an pc L stack u (x_call fo kk) := by
  subst hp
  subst hst
  intro r u' h
  unfold x_call at h
  rcases hfo : fo with _ | ⟨r2, u2⟩
  · rw [hfo] at h; cases h
  rw [hfo] at h
  obtain ⟨g1, hMet⟩ := hC hop r2 u2 hfo
  have g1 := g1 cx
  obtain ⟨h1, h2⟩ := k2 r2 u2 r u' h
  refine ⟨g1.tr h1, fun hc hr2 H locs ls hR hS hL hm => ?_⟩
  have h3 := h2 hc hr2
  have hc0 := hc
  subst hret
  obtain ⟨⟨hy, hini, hcode⟩, hins⟩ := hmv
  obtain ⟨T, N, hT⟩ := hq
  obtain ⟨ho, hcell⟩ := x_recv hc hR hS hk hT h13
  obtain ⟨hx, hb, hml, hown, hts, hret, hlocks, hK, ⟨hrf, hrl⟩, hbase, -, hnm⟩ := hc
  have hz := hR.1
  have a1 := hr2.1
  have a2 := hr2.2
  have b1 : x_n u2 ≤ x_n u' := h1.1
  have b2 : x_m u2 ≤ x_m u' := h1.2
  have d1 : x_n u ≤ x_n u2 := g1.1
  have d2 : x_m u ≤ x_m u2 := g1.2
  have hS1 := hS.1
  rw [x_v1 ho] at hMet ⊢
  have hPre : PreS cx.2.2.2.2.1 H (va_Pc (.ref (x_ad w o) :: As) (fun U => q_K w U ∧ x_R w u U.heap)) (.ref (x_ad w o) :: As) := ⟨x_blind, fun U hU hW => ⟨rfl, hK.go hW (fun a h1 h2 => by rw [hU]; exact hS.2.1 a h1 h2), by rw [hU]; exact hR⟩⟩
  refine x_after (va_runIN (own := own) (host := host) (ws := .code y ccy nLy none :: q_big) ⟨hx, hb, hml, hown, hts⟩ hMet ⟨va_cnB n hts (q_goodIn (fun x hx => by
      rcases List.mem_cons.mp hx with rfl | h
      · exact hcode
      · exact h)) rfl rfl rfl (hK.2.1 _ hlk) (hts _ hini) hy (by rw [hrf, hrl]; exact hrm), hy1, hts _ hins⟩ hPre rfl hn hL.1 rfl (lv_room hcat) hd ⟨by omega, by omega⟩) hS (fun H1 locs1 hR1 hS1 hm1 => ?_)
  have hz1 := hR1.1
  have ez : H.size - cx.2.2.2.2.1.heap.size + (x_n u2 - x_n u) = H1.size - cx.2.2.2.2.1.heap.size := by omega
  have em : x_m u - m0 + (x_m u2 - x_m u) = x_m u2 - m0 := by omega
  rw [ez, em]
  exact h3 H1 locs1 ls hR1 hS1 hL (by omega)
theorem x_callU {idx n nLy f1 l1 : Nat} {y : MethodName} {ccy : ByteArray} {rety : Option FieldType} {As stack : List Value} {o ci : Nat} {C : String} {x : MethodName} {fo : Option (β × x_U)} {kk : β → x_U → Option (α × x_U)} (hC : x_C cx.2.1 w y ccy nLy rety f1 l1 (x_v w o :: As) an2 u fo) (hmv : q_my y ccy nLy rety n ∧ Cond.instanceMethod y ∈ q_big) (hx : (x.cls ≠ "java/lang/invoke/MethodHandle" ∧ x.cls ≠ "java/lang/invoke/VarHandle" ∧ (parseMethodDescriptor x.desc).map (fun d => d.parameters.length) = some n) ∧ Cond.instanceMethod x ∈ q_big ∧ Cond.sameMethod x.cls x.cls x.name x.desc ∈ q_big ∧ ∃ b0 m0 r0, Cond.code x b0 m0 r0 ∈ q_big) (hsel : (∀ z ∈ q_big, z.before cx.2.2.2.2.2.2.1 cx.2.2.2.2.1 = true) → (Cond.selects C x y).before cx.2.2.2.2.2.2.1 cx.2.2.2.2.1 = true) (hq : ∃ T N, q_cl[ci]? = some (C, T, N)) (h13 : ci = 13 → C = RJ0) (hlk : Cond.methodLink own idx x ∈ q_big) (hk : x_k u o = .inl ci)
    (hst : stack = As.reverse ++ x_v w o :: st) (hn : As.length = n) (hrm : f1 + 1 ≤ f ∧ 8 + (nLy + 11) + l1 ≤ lo) (hcat : (st.map fun v => v.category).sum ≤ 8) (hd : decode cc pc = .ok (.invokevirtual idx, 3)) (hp : pc + 3 = pc2)
    (k2 : ∀ r2 u2, x_G w cx own nm cc nL ret f lo m0 an pc2 L ((an2 r2).toList ++ st) u2 (kk r2 u2)) (hop : w.2.2.2.2.2.1 = none) : x_G w cx own nm cc nL ret f lo m0 an pc L stack u (x_call fo kk) := by
  subst hp
  subst hst
  intro r u' h
  unfold x_call at h
  rcases hfo : fo with _ | ⟨r2, u2⟩
  · rw [hfo] at h; cases h
  rw [hfo] at h
  obtain ⟨g1, hMet⟩ := hC hop r2 u2 hfo
  have g1 := g1 cx
  obtain ⟨h1, h2⟩ := k2 r2 u2 r u' h
  refine ⟨g1.tr h1, fun hc hr2 H locs ls hR hS hL hm => ?_⟩
  have h3 := h2 hc hr2
  have hc0 := hc
  obtain ⟨⟨hy, hini, hcode⟩, hins⟩ := hmv
  obtain ⟨hxd, hxi, hxs, b0, m00, r0, hxc⟩ := hx
  obtain ⟨T, N, hT⟩ := hq
  obtain ⟨ho, hcell⟩ := x_recv hc hR hS hk hT h13
  obtain ⟨hx, hb, hml, hown, hts, hret, hlocks, hK, ⟨hrf, hrl⟩, hbase, -, hnm⟩ := hc
  have hz := hR.1
  have a1 := hr2.1
  have a2 := hr2.2
  have b1 : x_n u2 ≤ x_n u' := h1.1
  have b2 : x_m u2 ≤ x_m u' := h1.2
  have d1 : x_n u ≤ x_n u2 := g1.1
  have d2 : x_m u ≤ x_m u2 := g1.2
  have hS1 := hS.1
  rw [x_v1 ho] at hMet ⊢
  have hPre : PreV cx.2.2.2.2.1 H C (x_ad w o) (va_Pc (.ref (x_ad w o) :: As) (fun U => q_K w U ∧ x_R w u U.heap)) As := ⟨x_blind, hcell, fun U hU hW => ⟨rfl, hK.go hW (fun a h1 h2 => by rw [hU]; exact hS.2.1 a h1 h2), by rw [hU]; exact hR⟩⟩
  have hG : GoodIn q_big (.code y ccy nLy rety :: q_big) := q_goodIn (fun z hz => by
    rcases List.mem_cons.mp hz with rfl | h
    · exact hcode
    · exact h)
  refine x_after (va_runU (own := own) (C := C) (owner := x.cls) (x := x) (ws := .code y ccy nLy rety :: q_big) ⟨hx, hb, hml, hown, hts⟩ hMet ⟨⟨rfl, rfl, by rw [hrf]; exact hrm.1, by rw [hrl]; exact hrm.2, pay_in hts hG, List.mem_cons_self⟩, hts _ hcode, hts _ hini, ⟨hxd.1, hxd.2.1⟩, fun sig h => (by have h2 := hxd.2.2; rw [h] at h2; exact (Option.some.inj h2).symm), hts _ hlk, hts _ hxs, va_Decl.of (hts _ hxi) (hts _ hxc), hsel hts, hts _ hins⟩ hPre rfl hn hL.1 rfl (lv_room hcat) hd ⟨by omega, by omega⟩) hS (fun H1 locs1 hR1 hS1 hm1 => ?_)
  have hz1 := hR1.1
  have ez : H.size - cx.2.2.2.2.1.heap.size + (x_n u2 - x_n u) = H1.size - cx.2.2.2.2.1.heap.size := by omega
  have em : x_m u - m0 + (x_m u2 - x_m u) = x_m u2 - m0 := by omega
  rw [ez, em]
  exact h3 H1 locs1 ls hR1 hS1 hL (by omega)
theorem x_callSU {idx n nLy f1 l1 : Nat} {y : MethodName} {ccy : ByteArray} {rety : Option FieldType} {As stack : List Value} {o ci : Nat} {C : String} {fo : Option (β × x_U)} {kk : β → x_U → Option (α × x_U)} (hC : x_C cx.2.1 w y ccy nLy rety f1 l1 (x_v w o :: As) an2 u fo) (hmv : q_my y ccy nLy rety n ∧ Cond.instanceMethod y ∈ q_big ∧ Cond.sameMethod y.cls y.cls y.name y.desc ∈ q_big) (hsup : Cond.superclass own y.cls ∈ q_big) (hno : y.name ≠ "<init>") (hq : ∃ T N, q_cl[ci]? = some (C, T, N)) (h13 : ci = 13 → C = RJ0) (hlk : Cond.methodLink own idx y ∈ q_big) (hk : x_k u o = .inl ci)
    (hst : stack = As.reverse ++ x_v w o :: st) (hn : As.length = n) (hrm : f1 + 1 ≤ f ∧ 8 + (nLy + 11) + l1 ≤ lo) (hcat : (st.map fun v => v.category).sum ≤ 8) (hd : decode cc pc = .ok (.invokespecial idx, 3)) (hp : pc + 3 = pc2)
    (k2 : ∀ r2 u2, x_G w cx own nm cc nL ret f lo m0 an pc2 L ((an2 r2).toList ++ st) u2 (kk r2 u2)) (hop : w.2.2.2.2.2.1 = none) : x_G w cx own nm cc nL ret f lo m0 an pc L stack u (x_call fo kk) := by
  subst hp
  subst hst
  intro r u' h
  unfold x_call at h
  rcases hfo : fo with _ | ⟨r2, u2⟩
  · rw [hfo] at h; cases h
  rw [hfo] at h
  obtain ⟨g1, hMet⟩ := hC hop r2 u2 hfo
  have g1 := g1 cx
  obtain ⟨h1, h2⟩ := k2 r2 u2 r u' h
  refine ⟨g1.tr h1, fun hc hr2 H locs ls hR hS hL hm => ?_⟩
  have h3 := h2 hc hr2
  have hc0 := hc
  obtain ⟨⟨hy, hini, hcode⟩, hins, hsame⟩ := hmv
  obtain ⟨T, N, hT⟩ := hq
  obtain ⟨ho, hcell⟩ := x_recv hc hR hS hk hT h13
  obtain ⟨hx, hb, hml, hown, hts, hret, hlocks, hK, ⟨hrf, hrl⟩, hbase, -, hnm⟩ := hc
  have hz := hR.1
  have a1 := hr2.1
  have a2 := hr2.2
  have b1 : x_n u2 ≤ x_n u' := h1.1
  have b2 : x_m u2 ≤ x_m u' := h1.2
  have d1 : x_n u ≤ x_n u2 := g1.1
  have d2 : x_m u ≤ x_m u2 := g1.2
  have hS1 := hS.1
  rw [x_v1 ho] at hMet ⊢
  have hPre : PreV cx.2.2.2.2.1 H C (x_ad w o) (va_Pc (.ref (x_ad w o) :: As) (fun U => q_K w U ∧ x_R w u U.heap)) As := ⟨x_blind, hcell, fun U hU hW => ⟨rfl, hK.go hW (fun a h1 h2 => by rw [hU]; exact hS.2.1 a h1 h2), by rw [hU]; exact hR⟩⟩
  refine x_after (va_runSU (own := own) (C := C) (ws := .code y ccy nLy rety :: q_big) ((hK.1.1 ci _ hT).2) ⟨hx, hb, hml, hown, hts⟩ hMet (va_cwSU n hts (q_goodIn (fun x hx => by
      rcases List.mem_append.mp hx with h | h
      · simp only [List.mem_cons, List.not_mem_nil, or_false] at h
        rcases h with rfl | rfl | rfl | rfl | rfl
        · exact hlk
        · exact hsame
        · exact hsup
        · exact hins
        · exact hini
      · rcases List.mem_cons.mp h with rfl | h
        · exact hcode
        · exact h)) rfl rfl rfl ⟨hno, hy.2.2⟩ (by rw [hrf, hrl]; exact hrm)) hPre rfl hn hL.1 rfl (lv_room hcat) hd ⟨by omega, by omega⟩) hS (fun H1 locs1 hR1 hS1 hm1 => ?_)
  have hz1 := hR1.1
  have ez : H.size - cx.2.2.2.2.1.heap.size + (x_n u2 - x_n u) = H1.size - cx.2.2.2.2.1.heap.size := by omega
  have em : x_m u - m0 + (x_m u2 - x_m u) = x_m u2 - m0 := by omega
  rw [ez, em]
  exact h3 H1 locs1 ls hR1 hS1 hL (by omega)
theorem x_obj {idx o : Nat} (hl : Cond.methodLink own idx Lib.objectInit ∈ q_big) (hw : Cond.instanceMethod Lib.objectInit ∈ q_big ∧ Cond.code Lib.objectInit ⟨#[0xb1]⟩ 1 none ∈ q_big) (hrm : 1 ≤ f ∧ 20 ≤ lo) (hst : (st.map fun v => v.category).sum ≤ 8) (hd : decode cc pc = .ok (.invokespecial idx, 3)) (hp : pc + 3 = pc2) (k2 : x_G w cx own nm cc nL ret f lo m0 an pc2 L st u oo) : x_G w cx own nm cc nL ret f lo m0 an pc L (x_v w o :: st) u (if o = 0 then none else oo) := by
  subst hp
  intro r u' h
  split at h
  · cases h
  rename_i ho
  obtain ⟨h1, h2⟩ := k2 r u' h
  refine ⟨h1, fun hc hr2 H locs ls hR hS hL hm => ?_⟩
  have hts := hc.2.2.2.2.1
  obtain ⟨hrf, hrl⟩ := hc.2.2.2.2.2.2.2.2.1
  rw [x_v1 ho]
  exact W.objInit hc.1 hc.2.1 hc.2.2.2.1 (hts _ hl) (hts _ hw.1) (hts _ hw.2) rfl (by rw [hc.2.2.1]; exact hL.1) rfl hd (by rw [hrf]; exact hrm.1) (by rw [hrl]; show 2 * 0 + _ + 12 ≤ _; have := hrm.2; omega) (h2 hc hr2 H locs ls hR hS hL hm)

theorem x_callVV {idx n nLy f1 l1 : Nat} {y : MethodName} {ccy : ByteArray} {rety : Option FieldType} {As stack : List Value} {o ci : Nat} {fo : Option (Int32 × x_U)} {kk : Int32 → x_U → Option (α × x_U)} (hC : x_C cx.2.1 w y ccy nLy rety f1 l1 (x_v w o :: As) x_aV u fo) (hmv : q_mv y ccy nLy rety ci n) (h13 : ci = 13 → y.cls = RJ0) (hlk : Cond.methodLink own idx y ∈ q_big) (hk : x_k u o = .inl ci)
    (hst : stack = As.reverse ++ x_v w o :: st) (hn : As.length = n) (hrm : f1 + 1 ≤ f ∧ 8 + (nLy + 11) + l1 ≤ lo) (hcat : (st.map fun v => v.category).sum ≤ 8) (hd : decode cc pc = .ok (.invokevirtual idx, 3)) (hp : pc + 3 = pc2)
    (k2 : ∀ r2 u2, x_G w cx own nm cc nL ret f lo m0 an pc2 L (st) u2 (kk r2 u2)) (hop : w.2.2.2.2.2.1 = none) : x_G w cx own nm cc nL ret f lo m0 an pc L stack u (x_call fo kk) := x_callV (an2 := x_aV) hC hmv h13 hlk hk hst hn hrm hcat hd hp k2 hop
theorem x_callVI {idx n nLy f1 l1 : Nat} {y : MethodName} {ccy : ByteArray} {rety : Option FieldType} {As stack : List Value} {o ci : Nat} {fo : Option (Int32 × x_U)} {kk : Int32 → x_U → Option (α × x_U)} (hC : x_C cx.2.1 w y ccy nLy rety f1 l1 (x_v w o :: As) x_aI u fo) (hmv : q_mv y ccy nLy rety ci n) (h13 : ci = 13 → y.cls = RJ0) (hlk : Cond.methodLink own idx y ∈ q_big) (hk : x_k u o = .inl ci)
    (hst : stack = As.reverse ++ x_v w o :: st) (hn : As.length = n) (hrm : f1 + 1 ≤ f ∧ 8 + (nLy + 11) + l1 ≤ lo) (hcat : (st.map fun v => v.category).sum ≤ 8) (hd : decode cc pc = .ok (.invokevirtual idx, 3)) (hp : pc + 3 = pc2)
    (k2 : ∀ r2 u2, x_G w cx own nm cc nL ret f lo m0 an pc2 L (.int r2 :: st) u2 (kk r2 u2)) (hop : w.2.2.2.2.2.1 = none) : x_G w cx own nm cc nL ret f lo m0 an pc L stack u (x_call fo kk) := x_callV (an2 := x_aI) hC hmv h13 hlk hk hst hn hrm hcat hd hp k2 hop
theorem x_callVR {idx n nLy f1 l1 : Nat} {y : MethodName} {ccy : ByteArray} {rety : Option FieldType} {As stack : List Value} {o ci : Nat} {fo : Option (Nat × x_U)} {kk : Nat → x_U → Option (α × x_U)} (hC : x_C cx.2.1 w y ccy nLy rety f1 l1 (x_v w o :: As) (x_aR w) u fo) (hmv : q_mv y ccy nLy rety ci n) (h13 : ci = 13 → y.cls = RJ0) (hlk : Cond.methodLink own idx y ∈ q_big) (hk : x_k u o = .inl ci)
    (hst : stack = As.reverse ++ x_v w o :: st) (hn : As.length = n) (hrm : f1 + 1 ≤ f ∧ 8 + (nLy + 11) + l1 ≤ lo) (hcat : (st.map fun v => v.category).sum ≤ 8) (hd : decode cc pc = .ok (.invokevirtual idx, 3)) (hp : pc + 3 = pc2)
    (k2 : ∀ r2 u2, x_G w cx own nm cc nL ret f lo m0 an pc2 L (x_v w r2 :: st) u2 (kk r2 u2)) (hop : w.2.2.2.2.2.1 = none) : x_G w cx own nm cc nL ret f lo m0 an pc L stack u (x_call fo kk) := x_callV (an2 := (x_aR w)) hC hmv h13 hlk hk hst hn hrm hcat hd hp k2 hop
theorem x_callSV {idx n nLy f1 l1 : Nat} {y : MethodName} {ccy : ByteArray} {rety : Option FieldType} {As stack : List Value}  {fo : Option (Int32 × x_U)} {kk : Int32 → x_U → Option (α × x_U)} (hC : x_C cx.2.1 w y ccy nLy rety f1 l1 (As) x_aV u fo) (hmv : q_mst y ccy nLy rety n) (hlk : Cond.methodLink own idx y ∈ q_big)
    (hst : stack = As.reverse ++ st) (hn : As.length = n) (hrm : f1 + 1 ≤ f ∧ 8 + (nLy + 11) + l1 ≤ lo) (hcat : (st.map fun v => v.category).sum ≤ 8) (hd : decode cc pc = .ok (.invokestatic idx, 3)) (hp : pc + 3 = pc2)
    (k2 : ∀ r2 u2, x_G w cx own nm cc nL ret f lo m0 an pc2 L (st) u2 (kk r2 u2)) (hop : w.2.2.2.2.2.1 = none) : x_G w cx own nm cc nL ret f lo m0 an pc L stack u (x_call fo kk) := x_callS (an2 := x_aV) hC hmv hlk hst hn hrm hcat hd hp k2 hop
theorem x_callSI {idx n nLy f1 l1 : Nat} {y : MethodName} {ccy : ByteArray} {rety : Option FieldType} {As stack : List Value}  {fo : Option (Int32 × x_U)} {kk : Int32 → x_U → Option (α × x_U)} (hC : x_C cx.2.1 w y ccy nLy rety f1 l1 (As) x_aI u fo) (hmv : q_mst y ccy nLy rety n) (hlk : Cond.methodLink own idx y ∈ q_big)
    (hst : stack = As.reverse ++ st) (hn : As.length = n) (hrm : f1 + 1 ≤ f ∧ 8 + (nLy + 11) + l1 ≤ lo) (hcat : (st.map fun v => v.category).sum ≤ 8) (hd : decode cc pc = .ok (.invokestatic idx, 3)) (hp : pc + 3 = pc2)
    (k2 : ∀ r2 u2, x_G w cx own nm cc nL ret f lo m0 an pc2 L (.int r2 :: st) u2 (kk r2 u2)) (hop : w.2.2.2.2.2.1 = none) : x_G w cx own nm cc nL ret f lo m0 an pc L stack u (x_call fo kk) := x_callS (an2 := x_aI) hC hmv hlk hst hn hrm hcat hd hp k2 hop
theorem x_callSR {idx n nLy f1 l1 : Nat} {y : MethodName} {ccy : ByteArray} {rety : Option FieldType} {As stack : List Value}  {fo : Option (Nat × x_U)} {kk : Nat → x_U → Option (α × x_U)} (hC : x_C cx.2.1 w y ccy nLy rety f1 l1 (As) (x_aR w) u fo) (hmv : q_mst y ccy nLy rety n) (hlk : Cond.methodLink own idx y ∈ q_big)
    (hst : stack = As.reverse ++ st) (hn : As.length = n) (hrm : f1 + 1 ≤ f ∧ 8 + (nLy + 11) + l1 ≤ lo) (hcat : (st.map fun v => v.category).sum ≤ 8) (hd : decode cc pc = .ok (.invokestatic idx, 3)) (hp : pc + 3 = pc2)
    (k2 : ∀ r2 u2, x_G w cx own nm cc nL ret f lo m0 an pc2 L (x_v w r2 :: st) u2 (kk r2 u2)) (hop : w.2.2.2.2.2.1 = none) : x_G w cx own nm cc nL ret f lo m0 an pc L stack u (x_call fo kk) := x_callS (an2 := (x_aR w)) hC hmv hlk hst hn hrm hcat hd hp k2 hop
theorem x_callSNV {idx n nLy f1 l1 : Nat} {y : MethodName} {ccy : ByteArray} {rety : Option FieldType} {As stack : List Value} {host : String} {fo : Option (Int32 × x_U)} {kk : Int32 → x_U → Option (α × x_U)} (hC : x_C cx.2.1 w y ccy nLy rety f1 l1 (As) x_aV u fo) (hmv : q_mst y ccy nLy rety n) (hlk : (own, idx, y, host) ∈ q_nests)
    (hst : stack = As.reverse ++ st) (hn : As.length = n) (hrm : f1 + 1 ≤ f ∧ 8 + (nLy + 11) + l1 ≤ lo) (hcat : (st.map fun v => v.category).sum ≤ 8) (hd : decode cc pc = .ok (.invokestatic idx, 3)) (hp : pc + 3 = pc2)
    (k2 : ∀ r2 u2, x_G w cx own nm cc nL ret f lo m0 an pc2 L (st) u2 (kk r2 u2)) (hop : w.2.2.2.2.2.1 = none) : x_G w cx own nm cc nL ret f lo m0 an pc L stack u (x_call fo kk) := x_callSN (an2 := x_aV) hC hmv hlk hst hn hrm hcat hd hp k2 hop
theorem x_callSNI {idx n nLy f1 l1 : Nat} {y : MethodName} {ccy : ByteArray} {rety : Option FieldType} {As stack : List Value} {host : String} {fo : Option (Int32 × x_U)} {kk : Int32 → x_U → Option (α × x_U)} (hC : x_C cx.2.1 w y ccy nLy rety f1 l1 (As) x_aI u fo) (hmv : q_mst y ccy nLy rety n) (hlk : (own, idx, y, host) ∈ q_nests)
    (hst : stack = As.reverse ++ st) (hn : As.length = n) (hrm : f1 + 1 ≤ f ∧ 8 + (nLy + 11) + l1 ≤ lo) (hcat : (st.map fun v => v.category).sum ≤ 8) (hd : decode cc pc = .ok (.invokestatic idx, 3)) (hp : pc + 3 = pc2)
    (k2 : ∀ r2 u2, x_G w cx own nm cc nL ret f lo m0 an pc2 L (.int r2 :: st) u2 (kk r2 u2)) (hop : w.2.2.2.2.2.1 = none) : x_G w cx own nm cc nL ret f lo m0 an pc L stack u (x_call fo kk) := x_callSN (an2 := x_aI) hC hmv hlk hst hn hrm hcat hd hp k2 hop
theorem x_callSNR {idx n nLy f1 l1 : Nat} {y : MethodName} {ccy : ByteArray} {rety : Option FieldType} {As stack : List Value} {host : String} {fo : Option (Nat × x_U)} {kk : Nat → x_U → Option (α × x_U)} (hC : x_C cx.2.1 w y ccy nLy rety f1 l1 (As) (x_aR w) u fo) (hmv : q_mst y ccy nLy rety n) (hlk : (own, idx, y, host) ∈ q_nests)
    (hst : stack = As.reverse ++ st) (hn : As.length = n) (hrm : f1 + 1 ≤ f ∧ 8 + (nLy + 11) + l1 ≤ lo) (hcat : (st.map fun v => v.category).sum ≤ 8) (hd : decode cc pc = .ok (.invokestatic idx, 3)) (hp : pc + 3 = pc2)
    (k2 : ∀ r2 u2, x_G w cx own nm cc nL ret f lo m0 an pc2 L (x_v w r2 :: st) u2 (kk r2 u2)) (hop : w.2.2.2.2.2.1 = none) : x_G w cx own nm cc nL ret f lo m0 an pc L stack u (x_call fo kk) := x_callSN (an2 := (x_aR w)) hC hmv hlk hst hn hrm hcat hd hp k2 hop
theorem x_callIV {idx n nLy f1 l1 : Nat} {y : MethodName} {ccy : ByteArray} {rety : Option FieldType} {As stack : List Value} {o ci : Nat} {RCI : String} {fo : Option (Int32 × x_U)} {kk : Int32 → x_U → Option (α × x_U)} (hC : x_C cx.2.1 w y ccy nLy rety f1 l1 (x_v w o :: As) x_aV u fo) (hmv : q_my y ccy nLy none n ∧ Cond.instanceMethod y ∈ q_big) (hret : rety = none) (hy1 : y.name = "<init>") (hlk : Cond.methodLink own idx y ∈ q_big) (hk : x_k u o = .inl ci) (hq : ∃ T N, q_cl[ci]? = some (RCI, T, N)) (h13 : ci = 13 → RCI = RJ0)
    (hst : stack = As.reverse ++ x_v w o :: st) (hn : As.length = n) (hrm : f1 + 1 ≤ f ∧ 8 + (nLy + 11) + l1 ≤ lo) (hcat : (st.map fun v => v.category).sum ≤ 8) (hd : decode cc pc = .ok (.invokespecial idx, 3)) (hp : pc + 3 = pc2)
    (k2 : ∀ r2 u2, x_G w cx own nm cc nL ret f lo m0 an pc2 L (st) u2 (kk r2 u2)) (hop : w.2.2.2.2.2.1 = none) : x_G w cx own nm cc nL ret f lo m0 an pc L stack u (x_call fo kk) := x_callI (an2 := x_aV) hC hmv hret hy1 hlk hk hq h13 hst hn hrm hcat hd hp k2 hop
theorem x_callINV {idx n nLy f1 l1 : Nat} {y : MethodName} {ccy : ByteArray} {rety : Option FieldType} {As stack : List Value} {o ci : Nat} {RCI host : String} {fo : Option (Int32 × x_U)} {kk : Int32 → x_U → Option (α × x_U)} (hC : x_C cx.2.1 w y ccy nLy rety f1 l1 (x_v w o :: As) x_aV u fo) (hmv : q_my y ccy nLy none n ∧ Cond.instanceMethod y ∈ q_big) (hret : rety = none) (hy1 : y.name = "<init>") (hlk : (own, idx, y, host) ∈ q_nests) (hk : x_k u o = .inl ci) (hq : ∃ T N, q_cl[ci]? = some (RCI, T, N)) (h13 : ci = 13 → RCI = RJ0)
    (hst : stack = As.reverse ++ x_v w o :: st) (hn : As.length = n) (hrm : f1 + 1 ≤ f ∧ 8 + (nLy + 11) + l1 ≤ lo) (hcat : (st.map fun v => v.category).sum ≤ 8) (hd : decode cc pc = .ok (.invokespecial idx, 3)) (hp : pc + 3 = pc2)
    (k2 : ∀ r2 u2, x_G w cx own nm cc nL ret f lo m0 an pc2 L (st) u2 (kk r2 u2)) (hop : w.2.2.2.2.2.1 = none) : x_G w cx own nm cc nL ret f lo m0 an pc L stack u (x_call fo kk) := x_callIN (an2 := x_aV) hC hmv hret hy1 hlk hk hq h13 hst hn hrm hcat hd hp k2 hop
theorem x_callUV {idx n nLy f1 l1 : Nat} {y : MethodName} {ccy : ByteArray} {rety : Option FieldType} {As stack : List Value} {o ci : Nat} {C : String} {x : MethodName} {fo : Option (Int32 × x_U)} {kk : Int32 → x_U → Option (α × x_U)} (hC : x_C cx.2.1 w y ccy nLy rety f1 l1 (x_v w o :: As) x_aV u fo) (hmv : q_my y ccy nLy rety n ∧ Cond.instanceMethod y ∈ q_big) (hx : (x.cls ≠ "java/lang/invoke/MethodHandle" ∧ x.cls ≠ "java/lang/invoke/VarHandle" ∧ (parseMethodDescriptor x.desc).map (fun d => d.parameters.length) = some n) ∧ Cond.instanceMethod x ∈ q_big ∧ Cond.sameMethod x.cls x.cls x.name x.desc ∈ q_big ∧ ∃ b0 m0 r0, Cond.code x b0 m0 r0 ∈ q_big) (hsel : (∀ z ∈ q_big, z.before cx.2.2.2.2.2.2.1 cx.2.2.2.2.1 = true) → (Cond.selects C x y).before cx.2.2.2.2.2.2.1 cx.2.2.2.2.1 = true) (hq : ∃ T N, q_cl[ci]? = some (C, T, N)) (h13 : ci = 13 → C = RJ0) (hlk : Cond.methodLink own idx x ∈ q_big) (hk : x_k u o = .inl ci)
    (hst : stack = As.reverse ++ x_v w o :: st) (hn : As.length = n) (hrm : f1 + 1 ≤ f ∧ 8 + (nLy + 11) + l1 ≤ lo) (hcat : (st.map fun v => v.category).sum ≤ 8) (hd : decode cc pc = .ok (.invokevirtual idx, 3)) (hp : pc + 3 = pc2)
    (k2 : ∀ r2 u2, x_G w cx own nm cc nL ret f lo m0 an pc2 L (st) u2 (kk r2 u2)) (hop : w.2.2.2.2.2.1 = none) : x_G w cx own nm cc nL ret f lo m0 an pc L stack u (x_call fo kk) := x_callU (an2 := x_aV) hC hmv hx hsel hq h13 hlk hk hst hn hrm hcat hd hp k2 hop
theorem x_callUI {idx n nLy f1 l1 : Nat} {y : MethodName} {ccy : ByteArray} {rety : Option FieldType} {As stack : List Value} {o ci : Nat} {C : String} {x : MethodName} {fo : Option (Int32 × x_U)} {kk : Int32 → x_U → Option (α × x_U)} (hC : x_C cx.2.1 w y ccy nLy rety f1 l1 (x_v w o :: As) x_aI u fo) (hmv : q_my y ccy nLy rety n ∧ Cond.instanceMethod y ∈ q_big) (hx : (x.cls ≠ "java/lang/invoke/MethodHandle" ∧ x.cls ≠ "java/lang/invoke/VarHandle" ∧ (parseMethodDescriptor x.desc).map (fun d => d.parameters.length) = some n) ∧ Cond.instanceMethod x ∈ q_big ∧ Cond.sameMethod x.cls x.cls x.name x.desc ∈ q_big ∧ ∃ b0 m0 r0, Cond.code x b0 m0 r0 ∈ q_big) (hsel : (∀ z ∈ q_big, z.before cx.2.2.2.2.2.2.1 cx.2.2.2.2.1 = true) → (Cond.selects C x y).before cx.2.2.2.2.2.2.1 cx.2.2.2.2.1 = true) (hq : ∃ T N, q_cl[ci]? = some (C, T, N)) (h13 : ci = 13 → C = RJ0) (hlk : Cond.methodLink own idx x ∈ q_big) (hk : x_k u o = .inl ci)
    (hst : stack = As.reverse ++ x_v w o :: st) (hn : As.length = n) (hrm : f1 + 1 ≤ f ∧ 8 + (nLy + 11) + l1 ≤ lo) (hcat : (st.map fun v => v.category).sum ≤ 8) (hd : decode cc pc = .ok (.invokevirtual idx, 3)) (hp : pc + 3 = pc2)
    (k2 : ∀ r2 u2, x_G w cx own nm cc nL ret f lo m0 an pc2 L (.int r2 :: st) u2 (kk r2 u2)) (hop : w.2.2.2.2.2.1 = none) : x_G w cx own nm cc nL ret f lo m0 an pc L stack u (x_call fo kk) := x_callU (an2 := x_aI) hC hmv hx hsel hq h13 hlk hk hst hn hrm hcat hd hp k2 hop
theorem x_callUR {idx n nLy f1 l1 : Nat} {y : MethodName} {ccy : ByteArray} {rety : Option FieldType} {As stack : List Value} {o ci : Nat} {C : String} {x : MethodName} {fo : Option (Nat × x_U)} {kk : Nat → x_U → Option (α × x_U)} (hC : x_C cx.2.1 w y ccy nLy rety f1 l1 (x_v w o :: As) (x_aR w) u fo) (hmv : q_my y ccy nLy rety n ∧ Cond.instanceMethod y ∈ q_big) (hx : (x.cls ≠ "java/lang/invoke/MethodHandle" ∧ x.cls ≠ "java/lang/invoke/VarHandle" ∧ (parseMethodDescriptor x.desc).map (fun d => d.parameters.length) = some n) ∧ Cond.instanceMethod x ∈ q_big ∧ Cond.sameMethod x.cls x.cls x.name x.desc ∈ q_big ∧ ∃ b0 m0 r0, Cond.code x b0 m0 r0 ∈ q_big) (hsel : (∀ z ∈ q_big, z.before cx.2.2.2.2.2.2.1 cx.2.2.2.2.1 = true) → (Cond.selects C x y).before cx.2.2.2.2.2.2.1 cx.2.2.2.2.1 = true) (hq : ∃ T N, q_cl[ci]? = some (C, T, N)) (h13 : ci = 13 → C = RJ0) (hlk : Cond.methodLink own idx x ∈ q_big) (hk : x_k u o = .inl ci)
    (hst : stack = As.reverse ++ x_v w o :: st) (hn : As.length = n) (hrm : f1 + 1 ≤ f ∧ 8 + (nLy + 11) + l1 ≤ lo) (hcat : (st.map fun v => v.category).sum ≤ 8) (hd : decode cc pc = .ok (.invokevirtual idx, 3)) (hp : pc + 3 = pc2)
    (k2 : ∀ r2 u2, x_G w cx own nm cc nL ret f lo m0 an pc2 L (x_v w r2 :: st) u2 (kk r2 u2)) (hop : w.2.2.2.2.2.1 = none) : x_G w cx own nm cc nL ret f lo m0 an pc L stack u (x_call fo kk) := x_callU (an2 := (x_aR w)) hC hmv hx hsel hq h13 hlk hk hst hn hrm hcat hd hp k2 hop
theorem x_callSUV {idx n nLy f1 l1 : Nat} {y : MethodName} {ccy : ByteArray} {rety : Option FieldType} {As stack : List Value} {o ci : Nat} {C : String} {fo : Option (Int32 × x_U)} {kk : Int32 → x_U → Option (α × x_U)} (hC : x_C cx.2.1 w y ccy nLy rety f1 l1 (x_v w o :: As) x_aV u fo) (hmv : q_my y ccy nLy rety n ∧ Cond.instanceMethod y ∈ q_big ∧ Cond.sameMethod y.cls y.cls y.name y.desc ∈ q_big) (hsup : Cond.superclass own y.cls ∈ q_big) (hno : y.name ≠ "<init>") (hq : ∃ T N, q_cl[ci]? = some (C, T, N)) (h13 : ci = 13 → C = RJ0) (hlk : Cond.methodLink own idx y ∈ q_big) (hk : x_k u o = .inl ci)
    (hst : stack = As.reverse ++ x_v w o :: st) (hn : As.length = n) (hrm : f1 + 1 ≤ f ∧ 8 + (nLy + 11) + l1 ≤ lo) (hcat : (st.map fun v => v.category).sum ≤ 8) (hd : decode cc pc = .ok (.invokespecial idx, 3)) (hp : pc + 3 = pc2)
    (k2 : ∀ r2 u2, x_G w cx own nm cc nL ret f lo m0 an pc2 L (st) u2 (kk r2 u2)) (hop : w.2.2.2.2.2.1 = none) : x_G w cx own nm cc nL ret f lo m0 an pc L stack u (x_call fo kk) := x_callSU (an2 := x_aV) hC hmv hsup hno hq h13 hlk hk hst hn hrm hcat hd hp k2 hop
theorem x_callSUI {idx n nLy f1 l1 : Nat} {y : MethodName} {ccy : ByteArray} {rety : Option FieldType} {As stack : List Value} {o ci : Nat} {C : String} {fo : Option (Int32 × x_U)} {kk : Int32 → x_U → Option (α × x_U)} (hC : x_C cx.2.1 w y ccy nLy rety f1 l1 (x_v w o :: As) x_aI u fo) (hmv : q_my y ccy nLy rety n ∧ Cond.instanceMethod y ∈ q_big ∧ Cond.sameMethod y.cls y.cls y.name y.desc ∈ q_big) (hsup : Cond.superclass own y.cls ∈ q_big) (hno : y.name ≠ "<init>") (hq : ∃ T N, q_cl[ci]? = some (C, T, N)) (h13 : ci = 13 → C = RJ0) (hlk : Cond.methodLink own idx y ∈ q_big) (hk : x_k u o = .inl ci)
    (hst : stack = As.reverse ++ x_v w o :: st) (hn : As.length = n) (hrm : f1 + 1 ≤ f ∧ 8 + (nLy + 11) + l1 ≤ lo) (hcat : (st.map fun v => v.category).sum ≤ 8) (hd : decode cc pc = .ok (.invokespecial idx, 3)) (hp : pc + 3 = pc2)
    (k2 : ∀ r2 u2, x_G w cx own nm cc nL ret f lo m0 an pc2 L (.int r2 :: st) u2 (kk r2 u2)) (hop : w.2.2.2.2.2.1 = none) : x_G w cx own nm cc nL ret f lo m0 an pc L stack u (x_call fo kk) := x_callSU (an2 := x_aI) hC hmv hsup hno hq h13 hlk hk hst hn hrm hcat hd hp k2 hop
theorem x_callSUR {idx n nLy f1 l1 : Nat} {y : MethodName} {ccy : ByteArray} {rety : Option FieldType} {As stack : List Value} {o ci : Nat} {C : String} {fo : Option (Nat × x_U)} {kk : Nat → x_U → Option (α × x_U)} (hC : x_C cx.2.1 w y ccy nLy rety f1 l1 (x_v w o :: As) (x_aR w) u fo) (hmv : q_my y ccy nLy rety n ∧ Cond.instanceMethod y ∈ q_big ∧ Cond.sameMethod y.cls y.cls y.name y.desc ∈ q_big) (hsup : Cond.superclass own y.cls ∈ q_big) (hno : y.name ≠ "<init>") (hq : ∃ T N, q_cl[ci]? = some (C, T, N)) (h13 : ci = 13 → C = RJ0) (hlk : Cond.methodLink own idx y ∈ q_big) (hk : x_k u o = .inl ci)
    (hst : stack = As.reverse ++ x_v w o :: st) (hn : As.length = n) (hrm : f1 + 1 ≤ f ∧ 8 + (nLy + 11) + l1 ≤ lo) (hcat : (st.map fun v => v.category).sum ≤ 8) (hd : decode cc pc = .ok (.invokespecial idx, 3)) (hp : pc + 3 = pc2)
    (k2 : ∀ r2 u2, x_G w cx own nm cc nL ret f lo m0 an pc2 L (x_v w r2 :: st) u2 (kk r2 u2)) (hop : w.2.2.2.2.2.1 = none) : x_G w cx own nm cc nL ret f lo m0 an pc L stack u (x_call fo kk) := x_callSU (an2 := (x_aR w)) hC hmv hsup hno hq h13 hlk hk hst hn hrm hcat hd hp k2 hop
theorem x_callcV {idx n nLy f1 l1 : Nat} {y : MethodName} {ccy : ByteArray} {ty : FieldType} {As stack : List Value} {fo : Option (Int32 × q_Sto)} {kk : Int32 → x_U → Option (α × x_U)} (hM : ∀ w' : q_Wd, q_C cx.2.1 w' y ccy nLy none (q_rm f1 l1) (q_rf w' 0 :: As) (x_c u) fo) (hmv : q_mv y ccy nLy none 11 n) (hlk : Cond.methodLink own idx y ∈ q_big)
    (hst : stack = As.reverse ++ q_rf w 0 :: st) (hn : As.length = n) (hrm : f1 + 1 ≤ f ∧ 8 + (nLy + 11) + l1 ≤ lo) (hcat : (st.map fun v => v.category).sum ≤ 8) (hd : decode cc pc = .ok (.invokevirtual idx, 3)) (hp : pc + 3 = pc2)
    (k2 : ∀ r2 u2, x_G w cx own nm cc nL ret f lo m0 an pc2 L (st) u2 (kk r2 u2)) : x_G w cx own nm cc nL ret f lo m0 an pc L stack u (x_calc u fo kk) := x_callc hM hmv hlk hst hn hrm hcat hd hp k2
theorem x_callcI {idx n nLy f1 l1 : Nat} {y : MethodName} {ccy : ByteArray} {ty : FieldType} {As stack : List Value} {fo : Option (Int32 × q_Sto)} {kk : Int32 → x_U → Option (α × x_U)} (hM : ∀ w' : q_Wd, q_C cx.2.1 w' y ccy nLy (some ty) (q_rm f1 l1) (q_rf w' 0 :: As) (x_c u) fo) (hmv : q_mv y ccy nLy (some ty) 11 n) (hlk : Cond.methodLink own idx y ∈ q_big)
    (hst : stack = As.reverse ++ q_rf w 0 :: st) (hn : As.length = n) (hrm : f1 + 1 ≤ f ∧ 8 + (nLy + 11) + l1 ≤ lo) (hcat : (st.map fun v => v.category).sum ≤ 8) (hd : decode cc pc = .ok (.invokevirtual idx, 3)) (hp : pc + 3 = pc2)
    (k2 : ∀ r2 u2, x_G w cx own nm cc nL ret f lo m0 an pc2 L (.int r2 :: st) u2 (kk r2 u2)) : x_G w cx own nm cc nL ret f lo m0 an pc L stack u (x_calc u fo kk) := x_callc hM hmv hlk hst hn hrm hcat hd hp k2
end XC
