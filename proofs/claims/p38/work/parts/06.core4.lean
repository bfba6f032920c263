/-! the world behind the constructors: rows over functions -/
theorem q_KD_lt {o ci : Nat} (h : q_KD o = .inl ci) : o < q_N0 := by
  by_cases hl : o < q_N0
  · exact hl
  · rw [q_KD_out (Nat.le_of_not_lt hl)] at h; cases h
theorem q_KA_lt {o len : Nat} {b : Bool} (h : q_KD o = .inr (len + 1, b)) : o < q_N0 := by
  by_cases hl : o < q_N0
  · exact hl
  · rw [q_KD_out (Nat.le_of_not_lt hl)] at h; cases h
def q_dI (i : Int32) (n : Nat) : Decidable (q_in i n) := inferInstanceAs (Decidable (0 ≤ i.toInt ∧ i.toInt < n))
def q_ld (σ : q_Sto) (a : Nat) (i : Int32) (len : Nat) (k : Int32 → Option (Int32 × q_Sto)) : Option (Int32 × q_Sto) := @ite _ (q_in i len) (q_dI i len) (k (σ a i.toNatClampNeg)) none
def q_st (σ : q_Sto) (a : Nat) (i : Int32) (len : Nat) (v : Int32) (k : q_Sto → Option (Int32 × q_Sto)) : Option (Int32 × q_Sto) := @ite _ (q_in i len) (q_dI i len) (k (q_up σ a i.toNatClampNeg v)) none
/-- a reference out of an array: none is null -/
def q_ldr (σ : q_Sto) (a : Nat) (i : Int32) (len : Nat) (k : Nat → Option (Int32 × q_Sto)) : Option (Int32 × q_Sto) := @ite _ (q_in i len) (q_dI i len) (if σ a i.toNatClampNeg < 0 then none else k (σ a i.toNatClampNeg).toNatClampNeg) none
def q_if (o : Nat) (ci : Nat) (k : Option (Int32 × q_Sto)) : Option (Int32 × q_Sto) := match q_KD o with
  | .inl c => if c = ci then k else none
  | .inr _ => none
def q_dv (x y : Int32) (k : Int32 → Option (Int32 × q_Sto)) : Option (Int32 × q_Sto) := if y = 0 then none else k (x / y)
def q_rem (x y : Int32) (k : Int32 → Option (Int32 × q_Sto)) : Option (Int32 × q_Sto) := if y = 0 then none else k (x - x / y * y)
def q_call (f : Option (Int32 × q_Sto)) (k : Int32 → q_Sto → Option (Int32 × q_Sto)) : Option (Int32 × q_Sto) := match f with
  | none => none
  | some p => k p.1 p.2
def q_callv (f : Option (Int32 × q_Sto)) (k : q_Sto → Option (Int32 × q_Sto)) : Option (Int32 × q_Sto) := match f with
  | none => none
  | some p => k p.2
def q_cp (σ : q_Sto) (a0 a1 : Nat) (n : Int32) (n0 n1 : Nat) (k : q_Sto → Option (Int32 × q_Sto)) : Option (Int32 × q_Sto) := @ite _ (q_in n (n0 + 1)) (q_dI n (n0 + 1)) (@ite _ (q_in n (n1 + 1)) (q_dI n (n1 + 1)) (k (q_cpy σ a0 a1 n.toNatClampNeg)) none) none
def q_mx (x y : Int32) : Int32 := if x < y then y else x
def q_mn (x y : Int32) : Int32 := if y < x then y else x
section QF
variable {w : q_Wd} {cx : q_Cx} {own : String} {cc : ByteArray} {nL cells slots : Nat} {ret : Option FieldType} {rm : Room} {Q : State → Prop} {pc pc2 : Nat} {L : List (Option Value)} {st : List Value} {S : q_Sg} {σ : q_Sto} {oo : Option (Int32 × q_Sto)}
theorem g_getI {idx ci k o : Nat} {tk : FieldType} {fin : Bool} (hc : q_ok w cx own cc nL ret rm) (hf : q_fl own idx ci k tk fin) (hr : q_isR ci k = false) (hkd : q_KD o = .inl ci) (hd : decode cc pc = .ok (.getfield idx, 3)) (hp : pc + 3 = pc2)
    (kk : q_G w cx nL ret pc2 L (.int (σ o k) :: st) σ oo) : q_G w cx nL ret pc L (q_rf w o :: st) σ oo := fun r σ' h => j_get hc hf hkd (q_KD_lt hkd) hd hp (by
      show q_J w cx nL 0 0 _ pc2 L (q_fv w ci _ (σ o) k :: st) _
      rw [q_fv, hr]
      exact kk r σ' h)
theorem g_getR {idx ci k o : Nat} {tk : FieldType} {fin : Bool} (hc : q_ok w cx own cc nL ret rm) (hf : q_fl own idx ci k tk fin) (hr : q_isR ci k = true) (hkd : q_KD o = .inl ci) (hd : decode cc pc = .ok (.getfield idx, 3)) (hp : pc + 3 = pc2)
    (kk : q_G w cx nL ret pc2 L (q_rf w (q_RF o k) :: st) σ oo) : q_G w cx nL ret pc L (q_rf w o :: st) σ oo := fun r σ' h => j_get hc hf hkd (q_KD_lt hkd) hd hp (by
      show q_J w cx nL 0 0 _ pc2 L (q_fv w ci _ (σ o) k :: st) _
      rw [q_fv, hr]
      exact kk r σ' h)
theorem g_putI {idx ci k o : Nat} {v : Int32} {kk : q_Sto → Option (Int32 × q_Sto)} (hc : q_ok w cx own cc nL ret rm) (hf : q_fl own idx ci k .int false) (hr : q_isR ci k = false) (hkd : q_KD o = .inl ci) (hd : decode cc pc = .ok (.putfield idx, 3)) (hp : pc + 3 = pc2)
    (k2 : ∀ σ2, q_G w cx nL ret pc2 L st σ2 (kk σ2)) : q_G w cx nL ret pc L (.int v :: q_rf w o :: st) σ (q_nS1 (q_up σ o k v) kk) := fun r σ' h => j_putI hc hf (Or.inl rfl) hr hkd (q_KD_lt hkd) rfl rfl hd hp (k2 _ r σ' h)
theorem g_putZ {idx ci k o : Nat} {v : Int32} {kk : q_Sto → Option (Int32 × q_Sto)} (hv : (v &&& 1 = v ∧ fits .boolean (.int v) = true)) (hc : q_ok w cx own cc nL ret rm) (hf : q_fl own idx ci k .boolean false) (hr : q_isR ci k = false) (hkd : q_KD o = .inl ci) (hd : decode cc pc = .ok (.putfield idx, 3)) (hp : pc + 3 = pc2)
    (k2 : ∀ σ2, q_G w cx nL ret pc2 L st σ2 (kk σ2)) : q_G w cx nL ret pc L (.int v :: q_rf w o :: st) σ (q_nS1 (q_up σ o k v) kk) := fun r σ' h => j_putI hc hf (Or.inl rfl) hr hkd (q_KD_lt hkd) (by show Value.int (v &&& 1) = _; rw [hv.1]) hv.2 hd hp (k2 _ r σ' h)
theorem g_iald {a len : Nat} {i : Int32} {kk : Int32 → Option (Int32 × q_Sto)} (hc : q_ok w cx own cc nL ret rm) (hkd : q_KD a = .inr (len, false)) (ho : a < q_N0) (hd : decode cc pc = .ok (.iaload, 1)) (hp : pc + 1 = pc2)
    (k2 : ∀ v, q_G w cx nL ret pc2 L (.int v :: st) σ (kk v)) : q_G w cx nL ret pc L (.int i :: q_rf w a :: st) σ (q_ld σ a i len kk) := by
  intro r σ' h
  unfold q_ld at h
  split at h
  · rename_i hin
    exact j_iald hc hkd ho hin hd hp (k2 _ r σ' h)
  · cases h
theorem g_iast {a len : Nat} {i v : Int32} {kk : q_Sto → Option (Int32 × q_Sto)} (hc : q_ok w cx own cc nL ret rm) (hkd : q_KD a = .inr (len, false)) (ho : a < q_N0) (hd : decode cc pc = .ok (.iastore, 1)) (hp : pc + 1 = pc2)
    (k2 : ∀ σ2, q_G w cx nL ret pc2 L st σ2 (kk σ2)) : q_G w cx nL ret pc L (.int v :: .int i :: q_rf w a :: st) σ (q_st σ a i len v kk) := by
  intro r σ' h
  unfold q_st at h
  split at h
  · rename_i hin
    exact j_iast hc hkd ho hin hd hp (k2 _ r σ' h)
  · cases h
theorem g_alen {a len : Nat} {b : Bool} (hc : q_ok w cx own cc nL ret rm) (hkd : q_KD a = .inr (len, b)) (ho : a < q_N0) (hd : decode cc pc = .ok (.arraylength, 1)) (hp : pc + 1 = pc2)
    (k2 : q_G w cx nL ret pc2 L (.int (Int32.ofNat len) :: st) σ oo) : q_G w cx nL ret pc L (q_rf w a :: st) σ oo := fun r σ' h => j_alen hc hkd ho hd hp (k2 r σ' h)
theorem g_aald {a len : Nat} {i : Int32} {kk : Nat → Option (Int32 × q_Sto)} (hc : q_ok w cx own cc nL ret rm) (hkd : q_KD a = .inr (len, true)) (ho : a < q_N0) (hd : decode cc pc = .ok (.aaload, 1)) (hp : pc + 1 = pc2)
    (k2 : ∀ x, q_G w cx nL ret pc2 L (q_rf w x :: st) σ (kk x)) : q_G w cx nL ret pc L (.int i :: q_rf w a :: st) σ (q_ldr σ a i len kk) := by
  intro r σ' h
  unfold q_ldr at h
  split at h
  · rename_i hin
    split at h
    · cases h
    · rename_i hneg
      refine j_aald hc hkd ho hin hd hp ?_
      show q_J w cx nL 0 0 _ pc2 L (va_rf (q_dec w (σ a i.toNatClampNeg)) :: st) _
      rw [q_dec, if_neg hneg]
      exact k2 _ r σ' h
  · cases h
theorem g_if {x ci : Nat} {o1 : Option (Int32 × q_Sto)} (k : q_KD x = .inl ci → q_G w cx nL ret pc L st σ o1) : q_G w cx nL ret pc L st σ (q_if x ci o1) := by
  intro r σ' h
  unfold q_if at h
  split at h
  · rename_i c hk
    split at h
    · rename_i hcc
      subst hcc
      exact k hk r σ' h
    · cases h
  · cases h
theorem g_aast {a len x : Nat} {i : Int32} {kk : q_Sto → Option (Int32 × q_Sto)} (hc : q_ok w cx own cc nL ret rm) (hkd : q_KD a = .inr (len, true)) (ho : a < q_N0) (hkx : q_KD x = .inl 9) (hd : decode cc pc = .ok (.aastore, 1)) (hp : pc + 1 = pc2)
    (k2 : ∀ σ2, q_G w cx nL ret pc2 L st σ2 (kk σ2)) : q_G w cx nL ret pc L (q_rf w x :: .int i :: q_rf w a :: st) σ (q_st σ a i len (Int32.ofNat x) kk) := by
  intro r σ' h
  unfold q_st at h
  split at h
  · rename_i hin
    exact j_aast hc hkd ho hkx (q_KD_lt hkx) (Nat.lt_trans (q_KD_lt hkx) q_N0_lt) hin hd hp (k2 _ r σ' h)
  · cases h
theorem g_idiv {x y : Int32} {kk : Int32 → Option (Int32 × q_Sto)} (hc : q_ok w cx own cc nL ret rm) (hd : decode cc pc = .ok (.idiv, 1)) (hp : pc + 1 = pc2) (k2 : ∀ v, q_G w cx nL ret pc2 L (.int v :: st) σ (kk v)) : q_G w cx nL ret pc L (.int y :: .int x :: st) σ (q_dv x y kk) := by
  intro r σ' h
  unfold q_dv at h
  split at h
  · cases h
  · rename_i hne
    subst hp
    intro H locs ls hR hS hL
    exact lv_idiv hc.1 hc.2.1 hd hne (k2 _ r σ' h H locs ls hR hS hL)
theorem g_irem {x y : Int32} {kk : Int32 → Option (Int32 × q_Sto)} (hc : q_ok w cx own cc nL ret rm) (hd : decode cc pc = .ok (.irem, 1)) (hp : pc + 1 = pc2) (k2 : ∀ v, q_G w cx nL ret pc2 L (.int v :: st) σ (kk v)) : q_G w cx nL ret pc L (.int y :: .int x :: st) σ (q_rem x y kk) := by
  intro r σ' h
  unfold q_rem at h
  split at h
  · cases h
  · rename_i hne
    subst hp
    intro H locs ls hR hS hL
    exact lv_irem hc.1 hc.2.1 hd hne (k2 _ r σ' h H locs ls hR hS hL)
theorem g_ldc {idx : Nat} {v : Int32} (hc : q_ok w cx own cc nL ret rm) (hw : Cond.constant own idx v ∈ q_big) (hd : decode cc pc = .ok (.ldc idx, 2)) (hp : pc + 2 = pc2) (k2 : q_G w cx nL ret pc2 L (.int v :: st) σ oo) : q_G w cx nL ret pc L st σ oo := by
  subst hp
  intro r σ' h H locs ls hR hS hL
  exact lv_ldc hc.1 hc.2.1 hc.2.2.2.1 (hc.2.2.2.2.1 _ hw) hd (k2 r σ' h H locs ls hR hS hL)
theorem g_ldcw {idx : Nat} {v : Int32} (hc : q_ok w cx own cc nL ret rm) (hw : Cond.constant own idx v ∈ q_big) (hd : decode cc pc = .ok (.ldc_w idx, 3)) (hp : pc + 3 = pc2) (k2 : q_G w cx nL ret pc2 L (.int v :: st) σ oo) : q_G w cx nL ret pc L st σ oo := by
  subst hp
  intro r σ' h H locs ls hR hS hL
  exact lv_ldcw hc.1 hc.2.1 hc.2.2.2.1 (hc.2.2.2.2.1 _ hw) hd (k2 r σ' h H locs ls hR hS hL)
theorem g_ldcS {idx i : Nat} {tx : String} (hc : q_ok w cx own cc nL ret rm) (hw : (own, idx, tx, i) ∈ q_strs) (hd : decode cc pc = .ok (.ldc idx, 2)) (hp : pc + 2 = pc2) (k2 : q_G w cx nL ret pc2 L (q_rs w i :: st) σ oo) : q_G w cx nL ret pc L st σ oo := by
  subst hp
  intro r σ' h H locs ls hR hS hL
  exact va_ldcS hc.1 hc.2.1 hc.2.2.2.1 (hc.2.2.2.2.2.2.2.1.2.2.2.1 _ hw) hd (k2 r σ' h H locs ls hR hS hL)
theorem g_max {idx : Nat} {x y : Int32} (hc : q_ok w cx own cc nL ret rm) (hw : Cond.methodLink own idx Lib.Math.max.name ∈ q_big) (hrm : 1 ≤ rm.frames ∧ 21 ≤ rm.locals) (hst : (st.map fun v => v.category).sum ≤ 8) (hd : decode cc pc = .ok (.invokestatic idx, 3)) (hp : pc + 3 = pc2) (k2 : q_G w cx nL ret pc2 L (.int (q_mx x y) :: st) σ oo) : q_G w cx nL ret pc L (.int y :: .int x :: st) σ oo := by
  subst hp
  intro r σ' h H locs ls hR hS hL
  have hrm' : 1 ≤ cx.2.2.2.1.frames ∧ 21 ≤ cx.2.2.2.1.locals := by rw [hc.2.2.2.2.2.2.2.2.1]; exact hrm
  exact va_mmax hc.1 hc.2.1 (by rw [hc.2.2.1]; exact hL.1.symm) hc.2.2.2.1 (hc.2.2.2.2.1 _ hw) (hc.2.2.2.2.1 _ q_w_max.1) (hc.2.2.2.2.1 _ q_w_max.2.1) (hc.2.2.2.2.1 _ q_w_max.2.2) hrm'.1 (by have := hrm'.2; omega) (Nat.zero_le _) (Nat.zero_le _) hd (k2 r σ' h H locs ls hR hS hL)
theorem g_min {idx : Nat} {x y : Int32} (hc : q_ok w cx own cc nL ret rm) (hw : Cond.methodLink own idx Lib.Math.min.name ∈ q_big) (hrm : 1 ≤ rm.frames ∧ 21 ≤ rm.locals) (hst : (st.map fun v => v.category).sum ≤ 8) (hd : decode cc pc = .ok (.invokestatic idx, 3)) (hp : pc + 3 = pc2) (k2 : q_G w cx nL ret pc2 L (.int (q_mn x y) :: st) σ oo) : q_G w cx nL ret pc L (.int y :: .int x :: st) σ oo := by
  subst hp
  intro r σ' h H locs ls hR hS hL
  have hrm' : 1 ≤ cx.2.2.2.1.frames ∧ 21 ≤ cx.2.2.2.1.locals := by rw [hc.2.2.2.2.2.2.2.2.1]; exact hrm
  exact va_mmin hc.1 hc.2.1 (by rw [hc.2.2.1]; exact hL.1.symm) hc.2.2.2.1 (hc.2.2.2.2.1 _ hw) (hc.2.2.2.2.1 _ q_w_min.1) (hc.2.2.2.2.1 _ q_w_min.2.1) (hc.2.2.2.2.1 _ q_w_min.2.2) hrm'.1 (by have := hrm'.2; omega) (Nat.zero_le _) (Nat.zero_le _) hd (k2 r σ' h H locs ls hR hS hL)
theorem g_copy {idx a0 a1 n0 n1 : Nat} {n : Int32} {kk : q_Sto → Option (Int32 × q_Sto)} (hc : q_ok w cx own cc nL ret rm) (hw : Cond.methodLink own idx arraycopyName ∈ q_big ∧ Cond.native arraycopyName ∈ q_big ∧ Cond.static arraycopyName ∈ q_big ∧ Cond.initialized "java/lang/System" ∈ q_big) (hk0 : q_KD a0 = .inr (n0, false)) (ho0 : a0 < q_N0) (hk1 : q_KD a1 = .inr (n1, false)) (ho1 : a1 < q_N0)
    (hrm : 1 ≤ rm.frames ∧ 8 + (nativeFrameWords "java/lang/System" "arraycopy" 5 + 11) ≤ rm.locals) (hst : (st.map fun v => v.category).sum ≤ 8) (hd : decode cc pc = .ok (.invokestatic idx, 3)) (hp : pc + 3 = pc2)
    (k2 : ∀ σ2, q_G w cx nL ret pc2 L st σ2 (kk σ2)) : q_G w cx nL ret pc L (.int n :: .int 0 :: q_rf w a1 :: .int 0 :: q_rf w a0 :: st) σ (q_cp σ a0 a1 n n0 n1 kk) := by
  intro r σ' h
  unfold q_cp at h
  split at h
  · rename_i h0
    split at h
    · rename_i h1
      have hz : n.toInt.toNat = n.toNatClampNeg := rfl
      obtain ⟨a, b⟩ := h0
      obtain ⟨-, d⟩ := h1
      have hn : ¬ n < 0 := fun q => by
        have := Int32.lt_iff_toInt_lt.mp q
        simp at this
        omega
      exact j_copy hc hw hk0 ho0 hk1 ho1 hn (by omega) (by omega) hrm hst hd hp (k2 _ r σ' h)
    · cases h
  · cases h
/-! calls -/
theorem q_after {p : Program} {l : Launch} {e : Env} {R : Room} {s : State} {m : MethodId} {args : Array Value} {below : List Frame} {meth : Method} {c : Code} {H : Heap} {locs : List Loc} {mc ms : Nat} {ls : Array Slot} {st0 rest : List Value} {a : Array Value} {rety : Option FieldType} {r2 : Int32} {S2 : q_Sg}
    (hr : va_Run p l e R s m args below meth c H locs cells slots mc ms (F0 m pc ls st0) rest (q_Qc w rety r2 S2 a) (q_A w)) (hS : va_S (q_A w) s.heap H locs)
    (kk : ∀ (H1 : Heap) (locs1 : List Loc), q_R w S2 H1 → va_S (q_A w) s.heap H1 locs1 → W p l e R s m args below meth c H1 locs1 (cells + mc) (slots + ms) Q (F0 m (pc + 3) ls ((q_ans rety r2).toList ++ rest))) : W p l e R s m args below meth c H locs cells slots Q (F0 m pc ls st0) := by
  intro T hT X
  obtain ⟨v, st₀, t, T', L, h0, X', hL, e1, e2, ⟨hv, hR, hz, hk⟩, st⟩ := hr T hT X
  cases hv
  rw [h0] at hz hk
  obtain ⟨t2, a1, b1⟩ := kk T'.heap (locs ++ L) (by rw [e1]; exact hR)
    ⟨Nat.le_trans hS.1 (by rw [e1]; exact hz), fun q h1 h2 => by rw [e1, hk q (Nat.lt_of_lt_of_le h1 hS.1) h2]; exact hS.2.1 q h1 h2, fun q hq => by
      rcases List.mem_append.mp hq with h | h
      · exact hS.2.2 q h
      · exact hL q h⟩ T' rfl X'
  exact ⟨t2, st t2 a1, b1⟩
theorem q_blind {w : q_Wd} {As : List Value} {S1 : q_Sg} : FrameBlind (va_Pc As (fun U => q_K w U ∧ q_R w S1 U.heap)) := fun a U g mk h => ⟨h.1, h.2.1.calling g mk a, h.2.2⟩
theorem q_goodIn {ws : List Cond} (h : ∀ x ∈ ws, x ∈ q_big) : GoodIn q_big ws := fun x hx => ⟨h x hx, q_good x (h x hx)⟩
/-- a method's own words -/
def q_my (y : MethodName) (ccy : ByteArray) (nLy : Nat) (rety : Option FieldType) (n : Nat) : Prop := (y.cls ≠ "java/lang/invoke/MethodHandle" ∧ y.cls ≠ "java/lang/invoke/VarHandle" ∧ (parseMethodDescriptor y.desc).map (fun d => d.parameters.length) = some n) ∧ Cond.initialized y.cls ∈ q_big ∧ Cond.code y ccy nLy rety ∈ q_big
def q_mv (y : MethodName) (ccy : ByteArray) (nLy : Nat) (rety : Option FieldType) (ci n : Nat) : Prop := q_my y ccy nLy rety n ∧ Cond.instanceMethod y ∈ q_big ∧ Cond.selects y.cls y y ∈ q_big ∧ ∃ T, q_cl[ci]? = some (y.cls, T, q_nF ci)
def q_mst (y : MethodName) (ccy : ByteArray) (nLy : Nat) (rety : Option FieldType) (n : Nat) : Prop := q_my y ccy nLy rety n ∧ Cond.static y ∈ q_big
theorem j_callV {idx o ci n mc ms nLy : Nat} {y : MethodName} {ccy : ByteArray} {rety : Option FieldType} {rmy : Room} {As stack : List Value} {r2 : Int32} {S2 : q_Sg} (hc : q_ok w cx own cc nL ret rm) (hM : q_M cx.2.1 w y ccy nLy rety rmy mc ms (q_rf w o :: As) S r2 S2) (hmv : q_mv y ccy nLy rety ci n) (hlk : Cond.methodLink own idx y ∈ q_big) (hkd : S.2.1 o = .inl ci) (ho : o < S.1)
    (hst : stack = As.reverse ++ q_rf w o :: st) (hn : As.length = n) (hrm : rmy.cells = mc ∧ rmy.slots = ms ∧ rmy.frames + 1 ≤ rm.frames ∧ 8 + (nLy + 11) + rmy.locals ≤ rm.locals) (hms : cells + mc ≤ rm.cells ∧ slots + ms ≤ rm.slots) (hcat : (st.map fun v => v.category).sum ≤ 8) (hd : decode cc pc = .ok (.invokevirtual idx, 3)) (hp : pc + 3 = pc2)
    (kk : q_J w cx nL (cells + mc) (slots + ms) Q pc2 L ((q_ans rety r2).toList ++ st) S2) : q_J w cx nL cells slots Q pc L stack S := by
  subst hp
  subst hst
  intro H locs ls hR hS hL
  obtain ⟨⟨hy, hini, hcode⟩, hins, hsel, T, hT⟩ := hmv
  obtain ⟨hx, hb, hml, hown, hts, hret, hlocks, hK, hrmE, hbase⟩ := hc
  rw [← hrmE] at hrm hms
  have hPre : PreV cx.2.2.2.2.1 H y.cls (w.2.2.1 + o) (va_Pc (q_rf w o :: As) (fun U => q_K w U ∧ q_R w S U.heap)) As :=
    ⟨q_blind, va_recv (D := w.1) (cl := q_cl) (tys := q_tys w) (ws := q_ws w S) hK.1 hR.2 (q := (y.cls, T, q_nF ci)) hT ((q_ws_get ho).trans (by rw [q_ent_o hkd])), fun U hU hW => ⟨rfl, hK.go hW (fun a h1 h2 => by rw [hU]; exact hS.2.1 a h1 h2), by rw [hU]; exact hR⟩⟩
  exact q_after (va_runV (own := own) (C := y.cls) (ws := .code y ccy nLy rety :: q_big) ⟨hx, hb, hml, hown, hts⟩ hM (cwV n hts (q_goodIn (fun x hx => by
      rcases List.mem_append.mp hx with h | h
      · simp only [List.mem_cons, List.not_mem_nil, or_false] at h
        rcases h with rfl | rfl | rfl | rfl
        · exact hlk
        · exact hins
        · exact hsel
        · exact hini
      · rcases List.mem_cons.mp h with rfl | h
        · exact hcode
        · exact h)) rfl hrm.1 hrm.2.1 ⟨rfl, hy⟩ hrm.2.2) hPre rfl hn hL.1 rfl (lv_room hcat) hd hms) hS (fun H1 locs1 hR1 hS1 => kk H1 locs1 ls hR1 hS1 hL)
theorem j_callS {idx n mc ms nLy : Nat} {y : MethodName} {ccy : ByteArray} {rety : Option FieldType} {rmy : Room} {As stack : List Value} {r2 : Int32} {S2 : q_Sg} (hc : q_ok w cx own cc nL ret rm) (hM : q_M cx.2.1 w y ccy nLy rety rmy mc ms As S r2 S2) (hmv : q_mst y ccy nLy rety n) (hlk : Cond.methodLink own idx y ∈ q_big)
    (hst : stack = As.reverse ++ st) (hn : As.length = n) (hrm : rmy.cells = mc ∧ rmy.slots = ms ∧ rmy.frames + 1 ≤ rm.frames ∧ 8 + (nLy + 11) + rmy.locals ≤ rm.locals) (hms : cells + mc ≤ rm.cells ∧ slots + ms ≤ rm.slots) (hcat : (st.map fun v => v.category).sum ≤ 8) (hd : decode cc pc = .ok (.invokestatic idx, 3)) (hp : pc + 3 = pc2)
    (kk : q_J w cx nL (cells + mc) (slots + ms) Q pc2 L ((q_ans rety r2).toList ++ st) S2) : q_J w cx nL cells slots Q pc L stack S := by
  subst hp
  subst hst
  intro H locs ls hR hS hL
  obtain ⟨⟨hy, hini, hcode⟩, hstat⟩ := hmv
  obtain ⟨hx, hb, hml, hown, hts, hret, hlocks, hK, hrmE, hbase⟩ := hc
  rw [← hrmE] at hrm hms
  have hPre : PreS cx.2.2.2.2.1 H (va_Pc As (fun U => q_K w U ∧ q_R w S U.heap)) As :=
    ⟨q_blind, fun U hU hW => ⟨rfl, hK.go hW (fun a h1 h2 => by rw [hU]; exact hS.2.1 a h1 h2), by rw [hU]; exact hR⟩⟩
  exact q_after (va_runS (own := own) (ws := .code y ccy nLy rety :: q_big) ⟨hx, hb, hml, hown, hts⟩ hM (va_cwS n hts (q_goodIn (fun x hx => by
      rcases List.mem_append.mp hx with h | h
      · simp only [List.mem_cons, List.not_mem_nil, or_false] at h
        rcases h with rfl | rfl | rfl
        · exact hlk
        · exact hstat
        · exact hini
      · rcases List.mem_cons.mp h with rfl | h
        · exact hcode
        · exact h)) rfl hrm.1 hrm.2.1 hy hrm.2.2) hPre rfl hn hL.1 rfl (lv_room hcat) hd hms) hS (fun H1 locs1 hR1 hS1 => kk H1 locs1 ls hR1 hS1 hL)
theorem j_callSN {idx n mc ms nLy : Nat} {y : MethodName} {host : String} {ccy : ByteArray} {rety : Option FieldType} {rmy : Room} {As stack : List Value} {r2 : Int32} {S2 : q_Sg} (hc : q_ok w cx own cc nL ret rm) (hM : q_M cx.2.1 w y ccy nLy rety rmy mc ms As S r2 S2) (hmv : q_mst y ccy nLy rety n) (hlk : (own, idx, y, host) ∈ q_nests)
    (hst : stack = As.reverse ++ st) (hn : As.length = n) (hrm : rmy.cells = mc ∧ rmy.slots = ms ∧ rmy.frames + 1 ≤ rm.frames ∧ 8 + (nLy + 11) + rmy.locals ≤ rm.locals) (hms : cells + mc ≤ rm.cells ∧ slots + ms ≤ rm.slots) (hcat : (st.map fun v => v.category).sum ≤ 8) (hd : decode cc pc = .ok (.invokestatic idx, 3)) (hp : pc + 3 = pc2)
    (kk : q_J w cx nL (cells + mc) (slots + ms) Q pc2 L ((q_ans rety r2).toList ++ st) S2) : q_J w cx nL cells slots Q pc L stack S := by
  subst hp
  subst hst
  intro H locs ls hR hS hL
  obtain ⟨⟨hy, hini, hcode⟩, hstat⟩ := hmv
  obtain ⟨hx, hb, hml, hown, hts, hret, hlocks, hK, hrmE, hbase⟩ := hc
  rw [← hrmE] at hrm hms
  have hPre : PreS cx.2.2.2.2.1 H (va_Pc As (fun U => q_K w U ∧ q_R w S U.heap)) As :=
    ⟨q_blind, fun U hU hW => ⟨rfl, hK.go hW (fun a h1 h2 => by rw [hU]; exact hS.2.1 a h1 h2), by rw [hU]; exact hR⟩⟩
  exact q_after (va_runSN (own := own) (host := host) (ws := .code y ccy nLy rety :: q_big) ⟨hx, hb, hml, hown, hts⟩ hM ⟨va_cnB n hts (q_goodIn (fun x hx => by
      rcases List.mem_cons.mp hx with rfl | h
      · exact hcode
      · exact h)) rfl hrm.1 hrm.2.1 (hK.2.1 _ hlk) (hts _ hini) hy hrm.2.2, hts _ hstat, trivial⟩ hPre rfl hn hL.1 rfl (lv_room hcat) hd hms) hS (fun H1 locs1 hR1 hS1 => kk H1 locs1 ls hR1 hS1 hL)
end QF
