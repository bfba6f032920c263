/-! rows of the law's world over the heap -/
def x_fl (own : String) (idx ci k : Nat) (tk : FieldType) (fin : Bool) : Prop := ∃ (C : String) (T : u_T) (ty : Nat → FieldType), q_cls ci C T ty ∧ k < q_nF ci ∧ Cond.fieldLink own idx (T k).1 (T k).2.1 (T k).2.2.1 ∈ q_big ∧ ty k = tk ∧ (T k).2.2.2 = fin ∧ (fin = true → (T k).1 = C)
/-- a field of a nest mate -/
def x_fn (own : String) (idx ci k : Nat) (tk : FieldType) : Prop := ∃ (C : String) (T : u_T) (ty : Nat → FieldType) (host : String), q_cls ci C T ty ∧ k < q_nF ci ∧ (own, idx, (T k).1, (T k).2.1, (T k).2.2.1, host) ∈ q_fnests ∧ ty k = tk ∧ (T k).2.2.2 = false
def x_gi {α : Type} (u : x_U) (o ci k : Nat) (kk : Int32 → Option (α × x_U)) : Option (α × x_U) := match x_k u o with
  | .inl c => if c = ci then kk (x_t u o k) else none
  | .inr _ => none
def x_gr {α : Type} (u : x_U) (o ci k : Nat) (kk : Nat → Option (α × x_U)) : Option (α × x_U) := match x_k u o with
  | .inl c => if c = ci then kk (x_r u o k) else none
  | .inr _ => none
def x_pi {α : Type} (u : x_U) (o ci k : Nat) (v : Int32) (kk : x_U → Option (α × x_U)) : Option (α × x_U) := match x_k u o with
  | .inl c => if c = ci ∧ o < x_CB then kk (x_ui u o k v) else none
  | .inr _ => none
def x_pr {α : Type} (u : x_U) (o ci k v : Nat) (kk : x_U → Option (α × x_U)) : Option (α × x_U) := match x_k u o with
  | .inl c => if c = ci ∧ o < x_CB then kk (x_ur u o k v) else none
  | .inr _ => none
/-- the object is one of that class -/
def x_o {α : Type} (u : x_U) (o ci : Nat) (kk : Option (α × x_U)) : Option (α × x_U) := match x_k u o with
  | .inl c => if c = ci then kk else none
  | .inr _ => none
def x_ld {α : Type} (u : x_U) (a : Nat) (i : Int32) (kk : Int32 → Option (α × x_U)) : Option (α × x_U) := match x_k u a with
  | .inl _ => none
  | .inr p => if p.2 = 0 ∨ p.2 = 6 then @ite _ (q_in i p.1) (q_dI i p.1) (kk (x_t u a i.toNatClampNeg)) none else none
def x_lb {α : Type} (u : x_U) (a : Nat) (i : Int32) (kk : Int32 → Option (α × x_U)) : Option (α × x_U) := match x_k u a with
  | .inl _ => none
  | .inr p => if p.2 = 2 ∨ p.2 = 7 then @ite _ (q_in i p.1) (q_dI i p.1) (kk (x_t u a i.toNatClampNeg)) none else none
def x_lr {α : Type} (u : x_U) (a : Nat) (i : Int32) (kk : Nat → Option (α × x_U)) : Option (α × x_U) := match x_k u a with
  | .inl _ => none
  | .inr p => if 3 ≤ p.2 ∧ p.2 < 6 then @ite _ (q_in i p.1) (q_dI i p.1) (kk (x_r u a i.toNatClampNeg)) none else none
def x_st {α : Type} (u : x_U) (a : Nat) (i v : Int32) (kk : x_U → Option (α × x_U)) : Option (α × x_U) := match x_k u a with
  | .inl _ => none
  | .inr p => if p.2 = 0 then @ite _ (q_in i p.1) (q_dI i p.1) (kk (x_ui u a i.toNatClampNeg v)) none else none
def x_sb {α : Type} (u : x_U) (a : Nat) (i v : Int32) (kk : x_U → Option (α × x_U)) : Option (α × x_U) := match x_k u a with
  | .inl _ => none
  | .inr p => if p.2 = 2 then @ite _ (q_in i p.1) (q_dI i p.1) (kk (x_ui u a i.toNatClampNeg v.toInt8.toInt32)) none else none
/-- a reference may stand in a row of that kind -/
def x_fit (u : x_U) (t x : Nat) : Bool := match x_k u x with
  | .inl c => (t == 4 && c == 12) || (t == 5 && c == 13)
  | .inr p => t == 3 && p.2 == 0
def x_sr {α : Type} (u : x_U) (a : Nat) (i : Int32) (x : Nat) (kk : x_U → Option (α × x_U)) : Option (α × x_U) := match x_k u a with
  | .inl _ => none
  | .inr p => if (3 ≤ p.2 ∧ p.2 < 6) ∧ x_fit u p.2 x = true then @ite _ (q_in i p.1) (q_dI i p.1) (kk (x_ur u a i.toNatClampNeg x)) none else none
def x_len {α : Type} (u : x_U) (a : Nat) (kk : Int32 → Option (α × x_U)) : Option (α × x_U) := match x_k u a with
  | .inl _ => none
  | .inr p => if p.2 < 8 then kk (Int32.ofNat p.1) else none
def x_new {α : Type} (u : x_U) (ci : Nat) (kk : Nat → x_U → Option (α × x_U)) : Option (α × x_U) := if x_n u < x_lim then kk (x_n u) (x_un u (.inl ci) (q_nF ci) (fun _ => 0)) else none
def x_nwa {α : Type} (u : x_U) (t : Nat) (i : Int32) (kk : Nat → x_U → Option (α × x_U)) : Option (α × x_U) := if x_n u < x_lim then @ite _ (q_in i 100000) (q_dI i 100000) (kk (x_n u) (x_un u (.inr (i.toNatClampNeg, t)) i.toNatClampNeg (fun _ => 0))) none else none
/-- the values fit a row of bytes -/
def x_bok (f : Nat → Int32) (sp n : Nat) : Bool := (List.range n).all (fun j => (f (sp + j)).toInt8.toInt32 == f (sp + j))
def x_cln {α : Type} (u : x_U) (t a : Nat) (kk : Nat → x_U → Option (α × x_U)) : Option (α × x_U) := match x_k u a with
  | .inl _ => none
  | .inr p => if x_n u < x_lim ∧ p.2 = t ∧ (t = 0 ∨ x_bok (x_t u a) 0 p.1 = true) then kk (x_n u) (x_un u (.inr (p.1, t)) p.1 (x_t u a)) else none
def x_cpy (f g : Nat → Int32) (sp dp n : Nat) : Nat → Int32 := fun j => if dp ≤ j ∧ j < dp + n then f (sp + (j - dp)) else g j
/-- bytes of one row into another one -/
def x_cp {α : Type} (u : x_U) (a : Nat) (i : Int32) (b : Nat) (j n : Int32) (kk : x_U → Option (α × x_U)) : Option (α × x_U) := match x_k u a with
  | .inl _ => none
  | .inr p => match x_k u b with
    | .inl _ => none
    | .inr q => if ((p.2 = 2 ∨ p.2 = 7) ∧ q.2 = 2) ∧ (¬ i < 0 ∧ ¬ j < 0 ∧ ¬ n < 0) ∧ i.toNatClampNeg + n.toNatClampNeg ≤ p.1 ∧ j.toNatClampNeg + n.toNatClampNeg ≤ q.1 ∧ x_bok (x_t u a) i.toNatClampNeg n.toNatClampNeg = true then kk (x_ub u b (x_cpy (x_t u a) (x_t u b) i.toNatClampNeg j.toNatClampNeg n.toNatClampNeg)) else none
/-- it is a row of that kind -/
def x_cst {α : Type} (u : x_U) (a t : Nat) (oo : Option (α × x_U)) : Option (α × x_U) := match x_k u a with
  | .inl _ => none
  | .inr p => if p.2 = t then oo else none
theorem x_c0 : ∀ a ∈ ([] : List Value), a.category = 1 := fun a h => by cases h
theorem x_ca {v : Value} {l : List Value} (h : v.category = 1) (t : ∀ a ∈ l, a.category = 1) : ∀ a ∈ v :: l, a.category = 1 := fun a ha => by
  rcases List.mem_cons.mp ha with rfl | ha
  · exact h
  · exact t a ha
theorem x_s0 : (([] : List Value).map fun v => v.category).sum ≤ 0 := Nat.le_refl _
theorem x_sm {v : Value} {l : List Value} {k : Nat} (h : v.category = 1) (t : (l.map fun v => v.category).sum ≤ k) : ((v :: l).map fun v => v.category).sum ≤ k + 1 := by
  rw [List.map_cons, List.sum_cons, h]
  omega
theorem x_Rc {v : Value} (h : x_isR v) : v.category = 1 := by
  rcases h with rfl | ⟨a, rfl⟩ <;> rfl
theorem x_nR {tk : FieldType} (h : (∃ n, tk = .object n) ∨ ∃ z, tk = .array z) : ∀ v : Value, x_isR v → narrow tk v = v ∧ fits tk v = true := by
  rintro v (rfl | ⟨a, rfl⟩)
  · rcases h with ⟨n, rfl⟩ | ⟨z, rfl⟩ <;> exact ⟨rfl, rfl⟩
  · rcases h with ⟨n, rfl⟩ | ⟨z, rfl⟩ <;> exact ⟨rfl, rfl⟩
section XH
variable {α : Type} {an : α → Option Value} {w : q_Wd} {cx : q_Cx} {own nm : String} {cc : ByteArray} {nL f lo m0 : Nat} {ret : Option FieldType} {pc pc2 : Nat} {L : List (Option Value)} {st : List Value} {u : x_U} {oo : Option (α × x_U)}
theorem x_gnm {x : Int32} {kk : Int32 → Option (α × x_U)} (k : ∀ y : Int32, x_G w cx own nm cc nL ret f lo m0 an pc L (.int y :: st) u (kk y)) : x_G w cx own nm cc nL ret f lo m0 an pc L (.int x :: st) u (x_nm x kk) := k x
theorem x_gnu {kk : x_U → Option (α × x_U)} (k : ∀ y : x_U, x_G w cx own nm cc nL ret f lo m0 an pc L st y (kk y)) : x_G w cx own nm cc nL ret f lo m0 an pc L st u (x_nm u kk) := k u
theorem x_jn {β : Type} {c : β} {b : β → Option (α × x_U)} (P : β → Prop) (h1 : P c) (h2 : ∀ j, P j → x_G w cx own nm cc nL ret f lo m0 an pc L st u (b j)) : x_G w cx own nm cc nL ret f lo m0 an pc L st u (x_nm c b) := h2 c h1
theorem x_oo {o ci : Nat} (k : x_k u o = .inl ci → x_G w cx own nm cc nL ret f lo m0 an pc L st u oo) : x_G w cx own nm cc nL ret f lo m0 an pc L st u (x_o u o ci oo) := by
  intro r u' h
  unfold x_o at h
  split at h
  · rename_i c hk
    split at h
    · rename_i hcc
      subst hcc
      exact k hk r u' h
    · cases h
  · cases h
theorem q_N0_pos : 0 < q_N0 := by decide
theorem x_vin {o : Nat} (h1 : q_N0 ≤ o) (h2 : o < x_CB) : x_v w o = .ref (w.2.2.1 + o) := by
  have := q_N0_pos
  rw [x_v1 (by omega), x_ad_in h2]
theorem x_inP {H : Heap} (hR : x_R w u H) {o : Nat} (h1 : q_N0 ≤ o) (h2 : o < x_n u) : x_v w o = .ref (w.2.2.1 + o) := x_vin h1 (hR.CB h2)
theorem x_A {H : Heap} (hc : x_ok w cx own nm cc nL ret f lo) (a : Nat) : q_A w (w.2.2.1 + a) := ⟨Nat.le_add_right _ _, Or.inl hc.2.2.2.2.2.2.2.2.2.2.1⟩
theorem x_getI {idx ci k o : Nat} {tk : FieldType} {fin : Bool} {kk : Int32 → Option (α × x_U)} (hf : x_fl own idx ci k tk fin) (hci : ci ≠ 13) (hr : q_isR ci k = false) (hd : decode cc pc = .ok (.getfield idx, 3)) (hp : pc + 3 = pc2)
    (k2 : ∀ v, x_G w cx own nm cc nL ret f lo m0 an pc2 L (.int v :: st) u (kk v)) : x_G w cx own nm cc nL ret f lo m0 an pc L (x_v w o :: st) u (x_gi u o ci k kk) := by
  subst hp
  intro r u' h
  unfold x_gi at h
  split at h
  · rename_i c hk
    split at h
    · rename_i hcc
      subst hcc
      obtain ⟨h1, h2⟩ := k2 _ r u' h
      refine ⟨h1, fun hc hr2 H locs ls hR hS hL hm => ?_⟩
      obtain ⟨i1, i2⟩ := x_inO hR hk hci
      obtain ⟨C, T, ty, ⟨g1, g2, g3, g4⟩, hkn, hlk, -, -, -⟩ := hf
      rw [x_inP hR i1 i2]
      refine va_get (D := w.1) (cl := q_cl) (tys := q_tys w) (ws := x_ws w u) (C := C) (T := T) (N := q_nF c) (ci := c) (Ts := q_big) (ref := (T k).1) hc.1 hc.2.1 hc.2.2.2.2.1 g2 hc.2.2.2.1 hc.2.2.2.2.2.2.2.1.1 hR.2.2.2.1 (o - q_N0) ((x_ws_get i1 i2).trans (by rw [x_ent_o hk])) g1 k hkn (hc.2.2.2.2.1 _ hlk) (fun _ h => h) (v := .int (x_t u o k)) ?_ hd (h2 hc hr2 H locs ls hR hS hL hm)
      simp [hkn, x_fv, hr]
    · cases h
  · cases h
theorem x_getR {idx ci k o : Nat} {tk : FieldType} {fin : Bool} {kk : Nat → Option (α × x_U)} (hf : x_fl own idx ci k tk fin) (hci : ci ≠ 13) (hr : q_isR ci k = true) (hd : decode cc pc = .ok (.getfield idx, 3)) (hp : pc + 3 = pc2)
    (k2 : ∀ v, x_G w cx own nm cc nL ret f lo m0 an pc2 L (x_v w v :: st) u (kk v)) : x_G w cx own nm cc nL ret f lo m0 an pc L (x_v w o :: st) u (x_gr u o ci k kk) := by
  subst hp
  intro r u' h
  unfold x_gr at h
  split at h
  · rename_i c hk
    split at h
    · rename_i hcc
      subst hcc
      obtain ⟨h1, h2⟩ := k2 _ r u' h
      refine ⟨h1, fun hc hr2 H locs ls hR hS hL hm => ?_⟩
      obtain ⟨i1, i2⟩ := x_inO hR hk hci
      obtain ⟨C, T, ty, ⟨g1, g2, g3, g4⟩, hkn, hlk, -, -, -⟩ := hf
      rw [x_inP hR i1 i2]
      refine va_get (D := w.1) (cl := q_cl) (tys := q_tys w) (ws := x_ws w u) (C := C) (T := T) (N := q_nF c) (ci := c) (Ts := q_big) (ref := (T k).1) hc.1 hc.2.1 hc.2.2.2.2.1 g2 hc.2.2.2.1 hc.2.2.2.2.2.2.2.1.1 hR.2.2.2.1 (o - q_N0) ((x_ws_get i1 i2).trans (by rw [x_ent_o hk])) g1 k hkn (hc.2.2.2.2.1 _ hlk) (fun _ h => h) (v := x_v w (x_r u o k)) ?_ hd (h2 hc hr2 H locs ls hR hS hL hm)
      simp [hkn, x_fv, hr]
    · cases h
  · cases h
/-- a field of a nest mate -/
theorem x_getIN {idx ci k o : Nat} {tk : FieldType} {kk : Int32 → Option (α × x_U)} (hf : x_fn own idx ci k tk) (hci : ci ≠ 13) (hr : q_isR ci k = false) (hd : decode cc pc = .ok (.getfield idx, 3)) (hp : pc + 3 = pc2)
    (k2 : ∀ v, x_G w cx own nm cc nL ret f lo m0 an pc2 L (.int v :: st) u (kk v)) : x_G w cx own nm cc nL ret f lo m0 an pc L (x_v w o :: st) u (x_gi u o ci k kk) := by
  subst hp
  intro r u' h
  unfold x_gi at h
  split at h
  · rename_i c hk
    split at h
    · rename_i hcc
      subst hcc
      obtain ⟨h1, h2⟩ := k2 _ r u' h
      refine ⟨h1, fun hc hr2 H locs ls hR hS hL hm => ?_⟩
      obtain ⟨i1, i2⟩ := x_inO hR hk hci
      obtain ⟨C, T, ty, host, ⟨g1, g2, g3, g4⟩, hkn, hlk, -, -⟩ := hf
      rw [x_inP hR i1 i2]
      refine va_getN (D := w.1) (cl := q_cl) (tys := q_tys w) (ws := x_ws w u) (C := C) (T := T) (N := q_nF c) (ci := c) (Ts := q_big) (ref := (T k).1) (host := host) hc.1 hc.2.1 hc.2.2.2.2.1 g2 hc.2.2.2.1 hc.2.2.2.2.2.2.2.1.1 hR.2.2.2.1 (o - q_N0) ((x_ws_get i1 i2).trans (by rw [x_ent_o hk])) g1 k hkn (va_Nw.use rfl (hc.2.2.2.2.2.2.2.1.2.2.2.2.2.2.2.1 _ hlk)) (fun _ h => h) (v := .int (x_t u o k)) ?_ hd (h2 hc hr2 H locs ls hR hS hL hm)
      simp [hkn, x_fv, hr]
    · cases h
  · cases h
theorem x_getRN {idx ci k o : Nat} {tk : FieldType} {kk : Nat → Option (α × x_U)} (hf : x_fn own idx ci k tk) (hci : ci ≠ 13) (hr : q_isR ci k = true) (hd : decode cc pc = .ok (.getfield idx, 3)) (hp : pc + 3 = pc2)
    (k2 : ∀ v, x_G w cx own nm cc nL ret f lo m0 an pc2 L (x_v w v :: st) u (kk v)) : x_G w cx own nm cc nL ret f lo m0 an pc L (x_v w o :: st) u (x_gr u o ci k kk) := by
  subst hp
  intro r u' h
  unfold x_gr at h
  split at h
  · rename_i c hk
    split at h
    · rename_i hcc
      subst hcc
      obtain ⟨h1, h2⟩ := k2 _ r u' h
      refine ⟨h1, fun hc hr2 H locs ls hR hS hL hm => ?_⟩
      obtain ⟨i1, i2⟩ := x_inO hR hk hci
      obtain ⟨C, T, ty, host, ⟨g1, g2, g3, g4⟩, hkn, hlk, -, -⟩ := hf
      rw [x_inP hR i1 i2]
      refine va_getN (D := w.1) (cl := q_cl) (tys := q_tys w) (ws := x_ws w u) (C := C) (T := T) (N := q_nF c) (ci := c) (Ts := q_big) (ref := (T k).1) (host := host) hc.1 hc.2.1 hc.2.2.2.2.1 g2 hc.2.2.2.1 hc.2.2.2.2.2.2.2.1.1 hR.2.2.2.1 (o - q_N0) ((x_ws_get i1 i2).trans (by rw [x_ent_o hk])) g1 k hkn (va_Nw.use rfl (hc.2.2.2.2.2.2.2.1.2.2.2.2.2.2.2.1 _ hlk)) (fun _ h => h) (v := x_v w (x_r u o k)) ?_ hd (h2 hc hr2 H locs ls hR hS hL hm)
      simp [hkn, x_fv, hr]
    · cases h
  · cases h
/-- the machine's own store into a field, seen from the law's world -/
theorem x_putV {H : Heap} {locs : List Loc} {ls : Array Slot} {cells slots : Nat} {Q : State → Prop} {idx ci k o : Nat} {tk : FieldType} {fin : Bool} {v : Value} {u2 : x_U} (hc : x_ok w cx own nm cc nL ret f lo) (hR : x_R w u H) (hS : va_S (q_A w) cx.2.2.2.2.1.heap H locs) (hf : x_fl own idx ci k tk fin ∨ (fin = false ∧ x_fn own idx ci k tk)) (hfin : fin = false ∨ (nm = "<init>" ∧ ∃ r, q_cl[ci]? = some (own, r))) (hkd : x_k u o = .inl ci) (o1 : q_N0 ≤ o) (o2 : o < x_n u) (hn : narrow tk v = v) (hfit : fits tk v = true)
    (hcc : x_c u2 = x_c u) (hn2 : x_n u2 = x_n u) (he : x_ent w (x_k u2) (x_r u2) (x_t u2) o = .inr (ci, ((List.range (q_nF ci)).map (x_fv w ci (x_r u o) (x_t u o))).set k v)) (hoth : ∀ j, j ≠ o → x_ent w (x_k u2) (x_r u2) (x_t u2) j = x_ent w (x_k u) (x_r u) (x_t u) j) (hwf : x_wf w u2)
    (hd : decode cc pc = .ok (.putfield idx, 3)) (kk : ∀ (H1 : Heap) (locs1 : List Loc), H1.size = H.size → x_R w u2 H1 → va_S (q_A w) cx.2.2.2.2.1.heap H1 locs1 → W cx.1 cx.2.1 cx.2.2.1 cx.2.2.2.1 cx.2.2.2.2.1 cx.2.2.2.2.2.1 cx.2.2.2.2.2.2.1 cx.2.2.2.2.2.2.2.1 cx.2.2.2.2.2.2.2.2.1 cx.2.2.2.2.2.2.2.2.2 H1 locs1 cells slots Q (F0 cx.2.2.2.2.2.1 (pc + 3) ls st)) :
    W cx.1 cx.2.1 cx.2.2.1 cx.2.2.2.1 cx.2.2.2.2.1 cx.2.2.2.2.2.1 cx.2.2.2.2.2.2.1 cx.2.2.2.2.2.2.2.1 cx.2.2.2.2.2.2.2.2.1 cx.2.2.2.2.2.2.2.2.2 H locs cells slots Q (F0 cx.2.2.2.2.2.1 pc ls (v :: .ref (w.2.2.1 + o) :: st)) := by
  have hts := hc.2.2.2.2.1
  have hown := hc.2.2.2.1
  have hKK := hc.2.2.2.2.2.2.2.1
  have hK := hKK.1
  have hat := hR.at o1 o2
  rw [x_ent_o hkd] at hat
  have hA : q_A w (w.2.2.1 + o) := ⟨Nat.le_add_right _ _, Or.inl hc.2.2.2.2.2.2.2.2.2.2.1⟩
  have hinf : ∃ (C : String) (T : u_T) (ty : Nat → FieldType), q_cls ci C T ty ∧ k < q_nF ci ∧ ty k = tk ∧ (T k).2.2.2 = fin := by
    rcases hf with ⟨C, T, ty, a, b, c, d, e, f⟩ | ⟨e0, C, T, ty, host, a, b, c, d, e⟩
    · exact ⟨C, T, ty, a, b, d, e⟩
    · exact ⟨C, T, ty, a, b, d, by rw [e0]; exact e⟩
  obtain ⟨r, g1, cell, q1, q2, q3, q4⟩ := hat
  obtain ⟨C, T, ty, ⟨h1, h2, h3, h4⟩, hk, rfl, hf2⟩ := hinf
  have hr : r = (C, T, q_nF ci) := Option.some.inj (g1.symm.trans h1)
  subst hr
  have hap := va_apart (own := own) hts h2 ty h3 h4 hK h1
  obtain ⟨hSl, hfc, kC, hkC, hkind⟩ := hK.1 ci _ h1
  obtain ⟨cf, kf, fi, fd, hi, hsl⟩ := hSl k hk
  have hst := (u_facts hfc hkC (u_lays hts h2 hk) hi).1
  have hlt : fd.slot < cell.slots.size := by rw [hsl]; exact k2_hasslot (q4 k hk)
  have done : ∀ H1 : Heap, H1[w.2.2.1 + o]? = some (cell.setSlot fd.slot v) → H1.size = H.size → (∀ q, q ≠ w.2.2.1 + o → H1[q]? = H[q]?) → W cx.1 cx.2.1 cx.2.2.1 cx.2.2.2.1 cx.2.2.2.2.1 cx.2.2.2.2.2.1 cx.2.2.2.2.2.2.1 cx.2.2.2.2.2.2.2.1 cx.2.2.2.2.2.2.2.2.1 cx.2.2.2.2.2.2.2.2.2 H1 (locs ++ [⟨w.2.2.1 + o, fd.slot⟩]) cells slots Q (F0 cx.2.2.2.2.2.1 (pc + 3) ls st) := by
    intro H1 e1 e2 e3
    refine kk H1 _ e2 (hR.put o1 e2 e3 hcc hn2 ?_ hoth hwf) (hS.put e2 e3 hA)
    rw [he]
    rw [hsl] at e1
    exact ⟨_, h1, t_OB.to (V := updV (vp_V ((List.range (q_nF ci)).map (x_fv w ci (x_r u o) (x_t u o)))) k v) ⟨_, e1, q2, q3, t_set q4 hap hk v⟩ (fun j _ => vp_updV_set (by simpa using hk) v j)⟩
  have hlay := hts _ (h2 _ (u_in_lay hk))
  unfold u_lay at hlay
  cases fin with
  | false =>
    rw [if_neg (by rw [hf2]; decide)] at hlay
    have h6 := u_store hfc hkC hkind hlay hi (h3 k hk) hn hfit
    rcases hf with ⟨C', T', ty', ⟨a1, a2, a3, a4⟩, b, hlk, -, -, -⟩ | ⟨-, C', T', ty', host, ⟨a1, a2, a3, a4⟩, b, hlk, -, -⟩
    · have hr : (C', T', q_nF ci) = (C, T, q_nF ci) := Option.some.inj (a1.symm.trans h1)
      cases hr
      exact W.putK hc.1 hc.2.1 (f := fd) ⟨hown, hts _ hlk, ⟨_, _, _, hi⟩, hst⟩ (by rw [q2]; exact h6) q1 q3 hlt rfl rfl hd done
    · have hr : (C', T', q_nF ci) = (C, T, q_nF ci) := Option.some.inj (a1.symm.trans h1)
      cases hr
      exact va_WputK hc.1 hc.2.1 (f := fd) hown (va_Nw.use rfl (hKK.2.2.2.2.2.2.2.1 _ hlk)) hi hst (by rw [q2]; exact h6) q1 q3 hlt rfl rfl hd done
  | true =>
    have hf : x_fl own idx ci k (ty k) true := by
      rcases hf with h | ⟨e0, -⟩
      · exact h
      · cases e0
    obtain ⟨C', T', ty', ⟨a1, a2, a3, a4⟩, b, hlk, -, -, hTC⟩ := hf
    have hr : (C', T', q_nF ci) = (C, T, q_nF ci) := Option.some.inj (a1.symm.trans h1)
    cases hr
    have hTC := hTC rfl
    rcases hfin with h | ⟨hnm, r, hcl⟩
    · cases h
    · have hCo : C = own := by
        have := h1.symm.trans hcl
        exact congrArg (fun x : vw_C => x.1) (Option.some.inj this)
      rw [if_pos hf2] at hlay
      have hcf : cx.2.2.2.2.2.1.cls = cf := by
        obtain ⟨_, _, c', _, _, _, -, -, hf', -, -, -, hown2, -⟩ := Cond.laysFinal_spec hlay
        have e1 : c' = cf := by have := hi.symm.trans hf'; simp at this; exact this.1.symm
        rw [hTC, hCo] at hown2
        rw [← e1]; exact Option.some.inj (hown.symm.trans hown2)
      have h6 := u_fits hfc hkC hkind (Or.inr hlay) hi (h3 k hk) hn hfit
      exact W.putFinK hc.1 hc.2.1 hown (hts _ hlk) hi hst hcf (hc.2.2.2.2.2.2.2.2.2.2.2.trans hnm) (by rw [q2]; exact h6) q1 q3 hlt rfl rfl hd done
theorem x_range_set {n k : Nat} {f g : Nat → Value} {v : Value} (hk : g k = v) (hj : ∀ j, j ≠ k → g j = f j) : (List.range n).map g = ((List.range n).map f).set k v := q_range_set hk hj
theorem x_putI {idx ci k o : Nat} {tk : FieldType} {fin : Bool} {v : Int32} {kk : x_U → Option (α × x_U)} (hf : x_fl own idx ci k tk fin ∨ (fin = false ∧ x_fn own idx ci k tk)) (hfin : fin = false ∨ (nm = "<init>" ∧ ∃ r, q_cl[ci]? = some (own, r))) (hr : q_isR ci k = false) (hn : narrow tk (.int v) = .int v) (hfit : fits tk (.int v) = true)
    (hd : decode cc pc = .ok (.putfield idx, 3)) (hp : pc + 3 = pc2) (k2 : ∀ u2, x_G w cx own nm cc nL ret f lo m0 an pc2 L st u2 (kk u2)) : x_G w cx own nm cc nL ret f lo m0 an pc L (.int v :: x_v w o :: st) u (x_pi u o ci k v kk) := by
  subst hp
  intro r u' h
  unfold x_pi at h
  split at h
  · rename_i c hk
    split at h
    · rename_i hcc
      obtain ⟨rfl, hCB⟩ := hcc
      obtain ⟨h1, h2⟩ := k2 _ r u' h
      refine ⟨h1, fun hc hr2 H locs ls hR hS hL hm => ?_⟩
      have hin : q_N0 ≤ o ∧ o < x_n u := by
        rcases hR.2.2.2.2 o with ⟨a, b, c⟩ | ⟨j, a, b, c, d⟩ | ⟨j, a, b, c, d⟩ | ⟨a, b, c⟩ | ⟨a, b, c⟩ | ⟨a, b, c⟩ | c
        · exact ⟨a, b⟩
        · omega
        all_goals (first | (rw [hk] at c; cases c) | (rw [hk] at b; cases b))
      obtain ⟨i1, i2⟩ := hin
      rw [x_inP hR i1 i2]
      refine x_putV (u2 := x_ui u o k v) hc hR hS hf hfin hk i1 i2 hn hfit rfl rfl ?_ (fun j hj => x_ent_c rfl rfl (x_up_o hj)) (x_wf_ui hCB hR.2.2.2.2) hd (fun H1 locs1 hz hR1 hS1 => ?_)
      · refine (x_ent_o (u := x_ui u o k v) hk).trans ?_
        congr 2
        refine x_range_set ?_ (fun j hj => ?_)
        · show x_fv w c (x_r u o) (x_up (x_t u) o k v o) k = _
          simp [x_fv, hr, x_up_s]
        · show x_fv w c (x_r u o) (x_up (x_t u) o k v o) j = _
          simp only [x_fv, x_up_k hj]
      · rw [← hz]
        exact h2 hc hr2 H1 locs1 ls hR1 hS1 hL hm
    · cases h
  · cases h
theorem x_putR {idx ci k o x : Nat} {tk : FieldType} {fin : Bool} {kk : x_U → Option (α × x_U)} (hf : x_fl own idx ci k tk fin ∨ (fin = false ∧ x_fn own idx ci k tk)) (hfin : fin = false ∨ (nm = "<init>" ∧ ∃ r, q_cl[ci]? = some (own, r))) (hr : q_isR ci k = true) (hn : ∀ v : Value, x_isR v → narrow tk v = v ∧ fits tk v = true)
    (hd : decode cc pc = .ok (.putfield idx, 3)) (hp : pc + 3 = pc2) (k2 : ∀ u2, x_G w cx own nm cc nL ret f lo m0 an pc2 L st u2 (kk u2)) : x_G w cx own nm cc nL ret f lo m0 an pc L (x_v w x :: x_v w o :: st) u (x_pr u o ci k x kk) := by
  subst hp
  intro r u' h
  unfold x_pr at h
  split at h
  · rename_i c hk
    split at h
    · rename_i hcc
      obtain ⟨rfl, hCB⟩ := hcc
      obtain ⟨h1, h2⟩ := k2 _ r u' h
      refine ⟨h1, fun hc hr2 H locs ls hR hS hL hm => ?_⟩
      have hin : q_N0 ≤ o ∧ o < x_n u := by
        rcases hR.2.2.2.2 o with ⟨a, b, c⟩ | ⟨j, a, b, c, d⟩ | ⟨j, a, b, c, d⟩ | ⟨a, b, c⟩ | ⟨a, b, c⟩ | ⟨a, b, c⟩ | c
        · exact ⟨a, b⟩
        · omega
        all_goals (first | (rw [hk] at c; cases c) | (rw [hk] at b; cases b))
      obtain ⟨i1, i2⟩ := hin
      rw [x_inP hR i1 i2]
      refine x_putV (u2 := x_ur u o k x) hc hR hS hf hfin hk i1 i2 (hn _ x_vR).1 (hn _ x_vR).2 rfl rfl ?_ (fun j hj => x_ent_c rfl (x_up_o hj) rfl) (x_wf_ur hCB hR.2.2.2.2) hd (fun H1 locs1 hz hR1 hS1 => ?_)
      · refine (x_ent_o (u := x_ur u o k x) hk).trans ?_
        congr 2
        refine x_range_set ?_ (fun j hj => ?_)
        · show x_fv w c (x_up (x_r u) o k x o) (x_t u o) k = _
          simp [x_fv, hr, x_up_s]
        · show x_fv w c (x_up (x_r u) o k x o) (x_t u o) j = _
          simp only [x_fv, x_up_k hj]
      · rw [← hz]
        exact h2 hc hr2 H1 locs1 ls hR1 hS1 hL hm
    · cases h
  · cases h
/-- a text's two fields -/
theorem x_getSV {kk : Nat → Option (α × x_U)} (ho : own = RJ0) (hf : x_fl RJ0 9 13 0 (.array .byte) true) (hw : Cond.fieldLink RJ0 9 "java/lang/String" "value" "[B" ∈ q_big) {o : Nat} (hd : decode cc pc = .ok (.getfield 9, 3)) (hp : pc + 3 = pc2)
    (k2 : ∀ v, x_G w cx own nm cc nL ret f lo m0 an pc2 L (x_v w v :: st) u (kk v)) : x_G w cx own nm cc nL ret f lo m0 an pc L (x_v w o :: st) u (x_gr u o 13 0 kk) := by
  subst hp
  subst ho
  intro r u' h
  unfold x_gr at h
  split at h
  · rename_i c hk
    split at h
    · rename_i hcc
      subst hcc
      obtain ⟨h1, h2⟩ := k2 _ r u' h
      refine ⟨h1, fun hc hr2 H locs ls hR hS hL hm => ?_⟩
      rcases hR.2.2.2.2 o with ⟨i1, i2, -⟩ | ⟨j, a, b, c, d, e⟩ | ⟨j, a, b, c, d⟩ | ⟨a, b, c⟩ | ⟨a, b, c⟩ | ⟨a, b, c⟩ | c
      · obtain ⟨C, T, ty, ⟨g1, g2, g3, g4⟩, hkn, hlk, -, -, -⟩ := hf
        rw [x_inP hR i1 i2]
        refine va_get (D := w.1) (cl := q_cl) (tys := q_tys w) (ws := x_ws w u) (C := C) (T := T) (N := q_nF 13) (ci := 13) (Ts := q_big) (ref := (T 0).1) hc.1 hc.2.1 hc.2.2.2.2.1 g2 hc.2.2.2.1 hc.2.2.2.2.2.2.2.1.1 hR.2.2.2.1 (o - q_N0) ((x_ws_get i1 i2).trans (by rw [x_ent_o hk])) g1 0 hkn (hc.2.2.2.2.1 _ hlk) (fun _ h => h) (v := x_v w (x_r u o 0)) ?_ hd (h2 hc hr2 H locs ls hR hS hL hm)
        have e : q_isR 13 0 = true := by decide
        simp [hkn, x_fv, e]
      · have e1 : x_v w o = .ref (w.2.2.2.1 j) := by rw [b, x_v1 (by unfold x_CB; omega), x_ad_s a]
        have e2 : x_v w (x_r u o 0) = .ref (w.2.2.2.2.1 j) := by rw [d, x_v1 (by unfold x_CV; omega), x_ad_b a]
        rw [e1]
        rw [e2] at h2
        exact vk_getf hc.1 hc.2.1 (hc.2.2.2.2.2.2.2.1.2.2.2.2.1 j a).2.2.1 hS hc.2.2.2.1 (hc.2.2.2.2.1 _ hw) (fun _ h => h) hd (h2 hc hr2 H locs ls hR hS hL hm)
      all_goals (first | (rw [hk] at c; cases c) | (rw [hk] at b; cases b))
    · cases h
  · cases h
theorem x_getSC {kk : Int32 → Option (α × x_U)} (ho : own = RJ0) (hf : x_fl RJ0 15 13 1 .byte true) (hw : Cond.fieldLink RJ0 15 "java/lang/String" "coder" "B" ∈ q_big) {o : Nat} (hd : decode cc pc = .ok (.getfield 15, 3)) (hp : pc + 3 = pc2)
    (k2 : ∀ v, x_G w cx own nm cc nL ret f lo m0 an pc2 L (.int v :: st) u (kk v)) : x_G w cx own nm cc nL ret f lo m0 an pc L (x_v w o :: st) u (x_gi u o 13 1 kk) := by
  subst hp
  subst ho
  intro r u' h
  unfold x_gi at h
  split at h
  · rename_i c hk
    split at h
    · rename_i hcc
      subst hcc
      obtain ⟨h1, h2⟩ := k2 _ r u' h
      refine ⟨h1, fun hc hr2 H locs ls hR hS hL hm => ?_⟩
      rcases hR.2.2.2.2 o with ⟨i1, i2, -⟩ | ⟨j, a, b, c, d, e⟩ | ⟨j, a, b, c, d⟩ | ⟨a, b, c⟩ | ⟨a, b, c⟩ | ⟨a, b, c⟩ | c
      · obtain ⟨C, T, ty, ⟨g1, g2, g3, g4⟩, hkn, hlk, -, -, -⟩ := hf
        rw [x_inP hR i1 i2]
        refine va_get (D := w.1) (cl := q_cl) (tys := q_tys w) (ws := x_ws w u) (C := C) (T := T) (N := q_nF 13) (ci := 13) (Ts := q_big) (ref := (T 1).1) hc.1 hc.2.1 hc.2.2.2.2.1 g2 hc.2.2.2.1 hc.2.2.2.2.2.2.2.1.1 hR.2.2.2.1 (o - q_N0) ((x_ws_get i1 i2).trans (by rw [x_ent_o hk])) g1 1 hkn (hc.2.2.2.2.1 _ hlk) (fun _ h => h) (v := .int (x_t u o 1)) ?_ hd (h2 hc hr2 H locs ls hR hS hL hm)
        have e : q_isR 13 1 = false := by decide
        simp [hkn, x_fv, e]
      · have e1 : x_v w o = .ref (w.2.2.2.1 j) := by rw [b, x_v1 (by unfold x_CB; omega), x_ad_s a]
        rw [e1]
        rw [e] at h2
        exact vk_getf hc.1 hc.2.1 (hc.2.2.2.2.2.2.2.1.2.2.2.2.1 j a).2.1 hS hc.2.2.2.1 (hc.2.2.2.2.1 _ hw) (fun _ h => h) hd (h2 hc hr2 H locs ls hR hS hL hm)
      all_goals (first | (rw [hk] at c; cases c) | (rw [hk] at b; cases b))
    · cases h
  · cases h
/-! arrays -/
theorem x_iald {a : Nat} {i : Int32} {kk : Int32 → Option (α × x_U)} (hd : decode cc pc = .ok (.iaload, 1)) (hp : pc + 1 = pc2)
    (k2 : ∀ v, x_G w cx own nm cc nL ret f lo m0 an pc2 L (.int v :: st) u (kk v)) : x_G w cx own nm cc nL ret f lo m0 an pc L (.int i :: x_v w a :: st) u (x_ld u a i kk) := by
  subst hp
  intro r u' h
  unfold x_ld at h
  split at h
  · cases h
  · rename_i p hk
    split at h
    · rename_i ht
      split at h
      · rename_i hin
        obtain ⟨h1, h2⟩ := k2 _ r u' h
        refine ⟨h1, fun hc hr2 H locs ls hR hS hL hm => ?_⟩
        rcases hR.2.2.2.2 a with ⟨i1, i2, g⟩ | ⟨j, _, _, g, _⟩ | ⟨j, _, _, g, _⟩ | ⟨_, g, _⟩ | ⟨_, g, _⟩ | ⟨ea, g, gx⟩ | g
        · rcases g with ⟨ci, g⟩ | ⟨len, t, g, g6⟩
          · rw [hk] at g; cases g
          · have g0 := hk.symm.trans g
            obtain ⟨p1, p2⟩ := p
            cases g0
            have ht0 : t = 0 := by rcases ht with h | h; exact h; simp only at h; omega
            subst ht0
            rw [x_inP hR i1 i2]
            exact va_iald (D := w.1) (cl := q_cl) (tys := q_tys w) (ws := x_ws w u) hc.1 hc.2.1 hc.2.2.2.2.2.2.2.1.1 hR.2.2.2.1 (a - q_N0) 0 (cA := w.2.1 0) (n := len) (f := x_t u a) ((x_ws_get i1 i2).trans (by rw [x_ent_i hk (by decide)])) rfl (q_in_vp hin) hd (h2 hc hr2 H locs ls hR hS hL hm)
        · rw [hk] at g; cases g
        · rw [hk] at g; cases g; simp at ht
        · rw [hk] at g; cases g; simp at ht
        · rw [hk] at g; cases g; simp at ht
        · have g0 := hk.symm.trans g
          cases g0
          have e1 : x_v w a = .ref (q_sa w 2) := by rw [ea, x_v1 (by unfold x_CT; omega), x_ad_t]
          rw [e1]
          rw [gx] at h2
          exact va_ti hc.1 hc.2.1 (hc.2.2.2.2.2.2.2.1.2.2.2.2.2.2.1.2.2.1) hS (q_in_vp hin) rfl hd (h2 hc hr2 H locs ls hR hS hL hm)
        · rw [hk] at g; cases g; simp at ht
      · cases h
    · cases h
theorem x_bald {a : Nat} {i : Int32} {kk : Int32 → Option (α × x_U)} (hd : decode cc pc = .ok (.baload, 1)) (hp : pc + 1 = pc2)
    (k2 : ∀ v, x_G w cx own nm cc nL ret f lo m0 an pc2 L (.int v :: st) u (kk v)) : x_G w cx own nm cc nL ret f lo m0 an pc L (.int i :: x_v w a :: st) u (x_lb u a i kk) := by
  subst hp
  intro r u' h
  unfold x_lb at h
  split at h
  · cases h
  · rename_i p hk
    split at h
    · rename_i ht
      split at h
      · rename_i hin
        obtain ⟨h1, h2⟩ := k2 _ r u' h
        refine ⟨h1, fun hc hr2 H locs ls hR hS hL hm => ?_⟩
        rcases hR.2.2.2.2 a with ⟨i1, i2, g⟩ | ⟨j, _, _, g, _⟩ | ⟨j, hj, ea, g, gx⟩ | ⟨ea, g, gx⟩ | ⟨ea, g, gx⟩ | ⟨ea, g, gx⟩ | g
        · rcases g with ⟨ci, g⟩ | ⟨len, t, g, g6⟩
          · rw [hk] at g; cases g
          · have g0 := hk.symm.trans g
            obtain ⟨p1, p2⟩ := p
            cases g0
            have ht0 : t = 2 := by rcases ht with h | h; exact h; simp only at h; omega
            subst ht0
            rw [x_inP hR i1 i2]
            exact va_bald (D := w.1) (cl := q_cl) (tys := q_tys w) (ws := x_ws w u) hc.1 hc.2.1 hc.2.2.2.2.2.2.2.1.1 hR.2.2.2.1 (a - q_N0) 2 (cA := w.2.1 2) (n := len) (f := x_t u a) ((x_ws_get i1 i2).trans (by rw [x_ent_i hk (by decide)])) rfl (q_in_vp hin) hd (h2 hc hr2 H locs ls hR hS hL hm)
        · rw [hk] at g; cases g
        · have g0 := hk.symm.trans g
          cases g0
          have e1 : x_v w a = .ref (w.2.2.2.2.1 j) := by rw [ea, x_v1 (by unfold x_CV; omega), x_ad_b hj]
          rw [e1]
          rw [gx] at h2
          exact va_tb hc.1 hc.2.1 (hc.2.2.2.2.2.2.2.1.2.2.2.2.1 j hj).2.2.2 hS (q_in_vp hin) rfl hd (h2 hc hr2 H locs ls hR hS hL hm)
        · have g0 := hk.symm.trans g
          cases g0
          have e1 : x_v w a = .ref (q_sa w 0) := by rw [ea, x_v1 (by unfold x_CT; omega), ← x_ad_t]; rfl
          rw [e1]
          rw [gx] at h2
          exact va_tb hc.1 hc.2.1 hc.2.2.2.2.2.2.2.1.2.2.2.2.2.2.1.1.1 hS (q_in_vp hin) rfl hd (h2 hc hr2 H locs ls hR hS hL hm)
        · have g0 := hk.symm.trans g
          cases g0
          have e1 : x_v w a = .ref (q_sa w 1) := by rw [ea, x_v1 (by unfold x_CT; omega), x_ad_t]
          rw [e1]
          rw [gx] at h2
          exact va_tb hc.1 hc.2.1 hc.2.2.2.2.2.2.2.1.2.2.2.2.2.2.1.2.1.1 hS (q_in_vp hin) rfl hd (h2 hc hr2 H locs ls hR hS hL hm)
        · rw [hk] at g; cases g; simp at ht
        · rw [hk] at g; cases g; simp at ht
      · cases h
    · cases h
def x_cn (t : Nat) : String := if t = 4 then RX12 else RJ0
theorem x_aald {a : Nat} {i : Int32} {kk : Nat → Option (α × x_U)} (hd : decode cc pc = .ok (.aaload, 1)) (hp : pc + 1 = pc2)
    (k2 : ∀ v, x_G w cx own nm cc nL ret f lo m0 an pc2 L (x_v w v :: st) u (kk v)) : x_G w cx own nm cc nL ret f lo m0 an pc L (.int i :: x_v w a :: st) u (x_lr u a i kk) := by
  subst hp
  intro r u' h
  unfold x_lr at h
  split at h
  · cases h
  · rename_i p hk
    split at h
    · rename_i ht
      split at h
      · rename_i hin
        obtain ⟨h1, h2⟩ := k2 _ r u' h
        refine ⟨h1, fun hc hr2 H locs ls hR hS hL hm => ?_⟩
        obtain ⟨len, t⟩ := p
        obtain ⟨i1, i2⟩ := x_inA hR hk ht.2
        rw [x_inP hR i1 i2]
        have hat := hR.at i1 i2
        rw [x_ent_q hk ht.1] at hat
        have hcell : H[w.2.2.1 + a]? = some (vp_cell (w.2.1 t) (len, .inr (.inr (.inr (.inr (fun j => x_vo w (x_r u a j))))))) := hat
        have hty : ∃ ty : FieldType, (q_tys w)[t]? = some (w.2.1 t, ty) ∧ ((∃ n, ty = .object n) ∨ ∃ z, ty = .array z) := by
          have h35 : t = 3 ∨ t = 4 ∨ t = 5 := by have := ht.1; have := ht.2; simp only at this; omega
          rcases h35 with rfl | rfl | rfl
          · exact ⟨_, rfl, Or.inr ⟨_, rfl⟩⟩
          · exact ⟨_, rfl, Or.inl ⟨_, rfl⟩⟩
          · exact ⟨_, rfl, Or.inl ⟨_, rfl⟩⟩
        obtain ⟨ty, e1, e2⟩ := hty
        have hlt : i.toNatClampNeg < len := Nat.not_le.mp fun q => q_in_vp hin (Or.inr q)
        exact W.aald (v := x_v w (x_r u a i.toNatClampNeg)) (ty := ty) hc.1 hc.2.1 hcell ((hc.2.2.2.2.2.2.2.1.1.2 t _ e1).1 len (fun j => x_v w (x_r u a j))) (by rcases e2 with ⟨n, rfl⟩ | ⟨z, rfl⟩ <;> rfl) (fun q => by cases q) (by show ¬ (i < 0 ∨ (arrV _ _ _).slots.size ≤ _); rw [arrV_size]; exact q_in_vp hin) (by show (arrV _ _ _).slots[_]? = _; rw [arrV_read _ _ hlt]; rfl) rfl rfl hd (h2 hc hr2 H locs ls hR hS hL hm)
      · cases h
    · cases h
theorem x_alen {a : Nat} {kk : Int32 → Option (α × x_U)} (hd : decode cc pc = .ok (.arraylength, 1)) (hp : pc + 1 = pc2)
    (k2 : ∀ v, x_G w cx own nm cc nL ret f lo m0 an pc2 L (.int v :: st) u (kk v)) : x_G w cx own nm cc nL ret f lo m0 an pc L (x_v w a :: st) u (x_len u a kk) := by
  subst hp
  intro r u' h
  unfold x_len at h
  split at h
  · cases h
  · rename_i p hk
    split at h
    · rename_i ht
      obtain ⟨h1, h2⟩ := k2 _ r u' h
      refine ⟨h1, fun hc hr2 H locs ls hR hS hL hm => ?_⟩
      obtain ⟨len, t⟩ := p
      rcases hR.2.2.2.2 a with ⟨i1, i2, g⟩ | ⟨j, _, _, g, _⟩ | ⟨j, hj, ea, g, gx⟩ | ⟨ea, g, gx⟩ | ⟨ea, g, gx⟩ | ⟨ea, g, gx⟩ | g
      · rcases g with ⟨ci, g⟩ | ⟨len', t', g, g6⟩
        · rw [hk] at g; cases g
        · have g0 := hk.symm.trans g
          cases g0
          rw [x_inP hR i1 i2]
          have hty : ∃ ty : FieldType, (q_tys w)[t]? = some (w.2.1 t, ty) := by
            have h05 : t = 0 ∨ t = 1 ∨ t = 2 ∨ t = 3 ∨ t = 4 ∨ t = 5 := by omega
            rcases h05 with rfl | rfl | rfl | rfl | rfl | rfl <;> exact ⟨_, rfl⟩
          obtain ⟨ty, e1⟩ := hty
          by_cases h3 : 3 ≤ t
          · exact va_alen (D := w.1) (cl := q_cl) (tys := q_tys w) (ws := x_ws w u) (x := (len, .inr (.inr (.inr (.inr (fun j => x_vo w (x_r u a j))))))) hc.1 hc.2.1 hc.2.2.2.2.2.2.2.1.1 hR.2.2.2.1 (a - q_N0) t (cA := w.2.1 t) ((x_ws_get i1 i2).trans (by rw [x_ent_q hk h3])) e1 rfl hd (h2 hc hr2 H locs ls hR hS hL hm)
          · exact va_alen (D := w.1) (cl := q_cl) (tys := q_tys w) (ws := x_ws w u) (x := (len, .inl (x_t u a))) hc.1 hc.2.1 hc.2.2.2.2.2.2.2.1.1 hR.2.2.2.1 (a - q_N0) t (cA := w.2.1 t) ((x_ws_get i1 i2).trans (by rw [x_ent_i hk (by omega)])) e1 rfl hd (h2 hc hr2 H locs ls hR hS hL hm)
      · rw [hk] at g; cases g
      · have g0 := hk.symm.trans g
        cases g0
        have e1 : x_v w a = .ref (w.2.2.2.2.1 j) := by rw [ea, x_v1 (by unfold x_CV; omega), x_ad_b hj]
        rw [e1]
        exact va_tlen hc.1 hc.2.1 (hc.2.2.2.2.2.2.2.1.2.2.2.2.1 j hj).2.2.2 hS rfl hd (h2 hc hr2 H locs ls hR hS hL hm)
      · have g0 := hk.symm.trans g
        cases g0
        have e1 : x_v w a = .ref (q_sa w 0) := by rw [ea, x_v1 (by unfold x_CT; omega), ← x_ad_t]; rfl
        rw [e1]
        exact va_tlen hc.1 hc.2.1 hc.2.2.2.2.2.2.2.1.2.2.2.2.2.2.1.1.1 hS rfl hd (h2 hc hr2 H locs ls hR hS hL hm)
      · have g0 := hk.symm.trans g
        cases g0
        have e1 : x_v w a = .ref (q_sa w 1) := by rw [ea, x_v1 (by unfold x_CT; omega), x_ad_t]
        rw [e1]
        exact va_tlen hc.1 hc.2.1 hc.2.2.2.2.2.2.2.1.2.2.2.2.2.2.1.2.1.1 hS rfl hd (h2 hc hr2 H locs ls hR hS hL hm)
      · have g0 := hk.symm.trans g
        cases g0
        have e1 : x_v w a = .ref (q_sa w 2) := by rw [ea, x_v1 (by unfold x_CT; omega), x_ad_t]
        rw [e1]
        exact va_tlen hc.1 hc.2.1 hc.2.2.2.2.2.2.2.1.2.2.2.2.2.2.1.2.2.1 hS rfl hd (h2 hc hr2 H locs ls hR hS hL hm)
      · rw [hk] at g; cases g; simp at ht
    · cases h
theorem x_iast {a : Nat} {i v : Int32} {kk : x_U → Option (α × x_U)} (hd : decode cc pc = .ok (.iastore, 1)) (hp : pc + 1 = pc2)
    (k2 : ∀ u2, x_G w cx own nm cc nL ret f lo m0 an pc2 L st u2 (kk u2)) : x_G w cx own nm cc nL ret f lo m0 an pc L (.int v :: .int i :: x_v w a :: st) u (x_st u a i v kk) := by
  subst hp
  intro r u' h
  unfold x_st at h
  split at h
  · cases h
  · rename_i p hk
    split at h
    · rename_i ht
      split at h
      · rename_i hin
        obtain ⟨h1, h2⟩ := k2 _ r u' h
        refine ⟨h1, fun hc hr2 H locs ls hR hS hL hm => ?_⟩
        obtain ⟨len, t⟩ := p
        cases ht
        obtain ⟨i1, i2⟩ := x_inA hR hk (by decide)
        rw [x_inP hR i1 i2]
        have hat := hR.at i1 i2
        rw [x_ent_i hk (by decide)] at hat
        have hK := hc.2.2.2.2.2.2.2.1.1
        refine W.iast hc.1 hc.2.1 hat ((hK.2 0 _ rfl).1 len (fun j => .int (x_t u a j))) (fun q => by cases q) (by show ¬ (i < 0 ∨ (arrV _ _ _).slots.size ≤ _); rw [arrV_size]; exact q_in_vp hin) rfl rfl hd fun H1 e z oq => ?_
        rw [← z]
        refine h2 hc hr2 H1 _ ls (hR.put i1 z oq rfl rfl ?_ (fun j hj => x_ent_c rfl rfl (x_up_o hj)) (x_wf_ui (hR.CB i2) hR.2.2.2.2)) (hS.put z oq ⟨Nat.le_add_right _ _, Or.inl hc.2.2.2.2.2.2.2.2.2.2.1⟩) hL hm
        rw [x_ent_i (u := x_ui u a i.toNatClampNeg v) hk (by decide)]
        show H1[w.2.2.1 + a]? = some (vp_cell _ _)
        rw [e, vp_cell_i, vp_cell_i, arrV_store]
        congr 2
        funext q
        by_cases hq : q = i.toNatClampNeg
        · subst hq; simp [updV, x_t, x_ui, x_up]
        · simp [updV, x_t, x_ui, x_up, hq]
      · cases h
    · cases h
theorem x_bast {a : Nat} {i v : Int32} {kk : x_U → Option (α × x_U)} (hd : decode cc pc = .ok (.bastore, 1)) (hp : pc + 1 = pc2)
    (k2 : ∀ u2, x_G w cx own nm cc nL ret f lo m0 an pc2 L st u2 (kk u2)) : x_G w cx own nm cc nL ret f lo m0 an pc L (.int v :: .int i :: x_v w a :: st) u (x_sb u a i v kk) := by
  subst hp
  intro r u' h
  unfold x_sb at h
  split at h
  · cases h
  · rename_i p hk
    split at h
    · rename_i ht
      split at h
      · rename_i hin
        obtain ⟨h1, h2⟩ := k2 _ r u' h
        refine ⟨h1, fun hc hr2 H locs ls hR hS hL hm => ?_⟩
        obtain ⟨len, t⟩ := p
        cases ht
        obtain ⟨i1, i2⟩ := x_inA hR hk (by decide)
        rw [x_inP hR i1 i2]
        have hat := hR.at i1 i2
        rw [x_ent_i hk (by decide)] at hat
        have hK := hc.2.2.2.2.2.2.2.1.1
        refine W.bast hc.1 hc.2.1 hat ((hK.2 2 _ rfl).1 len (fun j => .int (x_t u a j))) (fun q => by cases q) (by show ¬ (i < 0 ∨ (arrV _ _ _).slots.size ≤ _); rw [arrV_size]; exact q_in_vp hin) rfl rfl hd fun H1 e z oq => ?_
        rw [← z]
        refine h2 hc hr2 H1 _ ls (hR.put i1 z oq rfl rfl ?_ (fun j hj => x_ent_c rfl rfl (x_up_o hj)) (x_wf_ui (hR.CB i2) hR.2.2.2.2)) (hS.put z oq ⟨Nat.le_add_right _ _, Or.inl hc.2.2.2.2.2.2.2.2.2.2.1⟩) hL hm
        rw [x_ent_i (u := x_ui u a i.toNatClampNeg v.toInt8.toInt32) hk (by decide)]
        show H1[w.2.2.1 + a]? = some (vp_cell _ _)
        have en : narrow .byte (.int v) = .int v.toInt8.toInt32 := rfl
        rw [e, en, vp_cell_i, vp_cell_i, arrV_store]
        congr 2
        funext q
        by_cases hq : q = i.toNatClampNeg
        · subst hq; simp [updV, x_t, x_ui, x_up]
        · simp [updV, x_t, x_ui, x_up, hq]
      · cases h
    · cases h
/-- what a row of references keeps: its class's component, and that the value may stand there -/
theorem x_slot {cx : q_Cx} {H : Heap} {locs : List Loc} (hc : x_ok w cx own nm cc nL ret f lo) (hR : x_R w u H) (hS : va_S (q_A w) cx.2.2.2.2.1.heap H locs) {t x : Nat} (ht : 3 ≤ t ∧ t < 6) (hx : x_fit u t x = true) :
    ∃ (kA : Class) (comp : ClassId) (tt : FieldType) (kcomp : Class) (cv : Cell) (kv : Class), cx.2.2.2.2.1.vm.classes[w.2.1 t]? = some kA ∧ kA.kind = .array comp tt ∧ tt.isReference = true ∧ cx.2.2.2.2.1.vm.classes[comp]? = some kcomp ∧ H[x_ad w x]? = some cv ∧ (∀ q, cv.vm ≠ .statics q) ∧ cx.2.2.2.2.1.vm.classes[cv.cls]? = some kv ∧ cx.2.2.2.2.1.vm.assignable cv.cls comp = true ∧ x ≠ 0 := by
  have hK := hc.2.2.2.2.2.2.2.1.1
  have hX := hc.2.2.2.2.2.2.2.1.2.2.2.2.2.2.1
  have hN := q_N0_pos
  unfold x_fit at hx
  split at hx
  · rename_i c hk
    have h45 : (t = 4 ∧ c = 12) ∨ (t = 5 ∧ c = 13) := by simpa using hx
    rcases h45 with ⟨rfl, rfl⟩ | ⟨rfl, rfl⟩
    · obtain ⟨i1, i2⟩ := x_inO hR hk (by decide)
      have hat := hR.at i1 i2
      rw [x_ent_o hk] at hat
      obtain ⟨r, hr, cellV, g1, g2, g3, -⟩ := hat
      have hcls := (hK.1 12 _ rfl).2
      obtain ⟨kA, comp, k1, k2, k3, -⟩ := (hK.2 4 _ rfl).2
      have hcomp : comp = w.1.1 12 := Option.some.inj (k3.symm.trans hcls.1)
      subst hcomp
      obtain ⟨kC, hkC, -⟩ := id hcls.2
      exact ⟨kA, _, _, kC, cellV, kC, k1, k2, rfl, hkC, by rw [x_ad_in (hR.CB i2)]; exact g1, fun q h => (by rw [g3] at h; cases h), by rw [g2]; exact hkC, by rw [g2]; exact va_assign hcls, by omega⟩
    · have hcls := (hK.1 13 _ rfl).2
      obtain ⟨kA, comp, k1, k2, k3, -⟩ := (hK.2 5 _ rfl).2
      have hcomp : comp = w.1.1 13 := Option.some.inj (k3.symm.trans hcls.1)
      subst hcomp
      obtain ⟨kC, hkC, -⟩ := id hcls.2
      rcases hR.2.2.2.2 x with ⟨i1, i2, -⟩ | ⟨j, a, b, c, d, e⟩ | ⟨j, a, b, c, d⟩ | ⟨a, b, c⟩ | ⟨a, b, c⟩ | ⟨a, b, c⟩ | c
      · have hat := hR.at i1 i2
        rw [x_ent_o hk] at hat
        obtain ⟨r, hr, cellV, g1, g2, g3, -⟩ := hat
        exact ⟨kA, _, _, kC, cellV, kC, k1, k2, rfl, hkC, by rw [x_ad_in (hR.CB i2)]; exact g1, fun q h => (by rw [g3] at h; cases h), by rw [g2]; exact hkC, by rw [g2]; exact va_assign hcls, by omega⟩
      · obtain ⟨cell, g1, g2, g3, g4⟩ := (hc.2.2.2.2.2.2.2.1.2.2.2.2.1 j a).1
        have e1 : cell.cls = w.1.1 13 := Option.some.inj (g3.symm.trans hcls.1)
        refine ⟨kA, _, _, kC, cell, kC, k1, k2, rfl, hkC, ?_, fun q h => (by rw [h] at g2; cases g2), by rw [e1]; exact hkC, by rw [e1]; exact va_assign hcls, by unfold x_CB at b; omega⟩
        rw [b, x_ad_s a, hS.2.1 _ (Array.getElem?_eq_some_iff.mp g1).1 g4]
        exact g1
      all_goals (first | (rw [hk] at c; cases c) | (rw [hk] at b; cases b))
  · rename_i p hk
    have h3 : t = 3 ∧ p.2 = 0 := by simpa using hx
    obtain ⟨rfl, hp⟩ := h3
    obtain ⟨len, t0⟩ := p
    cases hp
    obtain ⟨i1, i2⟩ := x_inA hR hk (by decide)
    have hat := hR.at i1 i2
    rw [x_ent_i hk (by decide)] at hat
    obtain ⟨comp, c, kA, a1, a2, a3, a4, a5⟩ := arrayOverA_spec hX.2.2.2.2.2
    have e3 : c = w.2.1 3 := Option.some.inj (a5.symm.trans ((hK.2 3 _ rfl).2))
    have e0 : comp = w.2.1 0 := Option.some.inj (a1.symm.trans ((hK.2 0 _ rfl).2))
    subst e3 e0
    obtain ⟨-, k0, hk0, cm0, hkd0⟩ := (hK.2 0 _ rfl).1 len (fun j => .int (x_t u x j))
    exact ⟨kA, _, _, k0, _, k0, a3, a4, rfl, hk0, by rw [x_ad_in (hR.CB i2)]; exact hat, fun q h => (by cases h), hk0, va_asg _ _, by omega⟩
theorem x_aast {a x : Nat} {i : Int32} {kk : x_U → Option (α × x_U)} (hd : decode cc pc = .ok (.aastore, 1)) (hp : pc + 1 = pc2)
    (k2 : ∀ u2, x_G w cx own nm cc nL ret f lo m0 an pc2 L st u2 (kk u2)) : x_G w cx own nm cc nL ret f lo m0 an pc L (x_v w x :: .int i :: x_v w a :: st) u (x_sr u a i x kk) := by
  subst hp
  intro r u' h
  unfold x_sr at h
  split at h
  · cases h
  · rename_i p hk
    split at h
    · rename_i ht
      split at h
      · rename_i hin
        obtain ⟨h1, h2⟩ := k2 _ r u' h
        refine ⟨h1, fun hc hr2 H locs ls hR hS hL hm => ?_⟩
        obtain ⟨len, t⟩ := p
        obtain ⟨ht, hx⟩ := ht
        obtain ⟨i1, i2⟩ := x_inA hR hk ht.2
        obtain ⟨kA, comp, tt, kcomp, cv, kv, f1, f2, f3, f4, f5, f6, f7, f8, f9⟩ := x_slot hc hR hS ht hx
        rw [x_inP hR i1 i2, x_v1 f9]
        have hat := hR.at i1 i2
        rw [x_ent_q hk ht.1] at hat
        have hin' := q_in_vp hin
        refine W.aast hc.1 hc.2.1 hat (fun q h => by cases h) (fun h => by cases h) f1 f2 f3 f4 ⟨fun q => hin' (Or.inl q), by show _ < (arrV _ _ _).slots.size; rw [arrV_size]; exact Nat.not_le.mp fun q => hin' (Or.inr q)⟩ f5 f6 f7 f8 rfl rfl hd fun H1 e z oq => ?_
        rw [← z]
        refine h2 hc hr2 H1 _ ls (hR.put i1 z oq rfl rfl ?_ (fun j hj => x_ent_c rfl (x_up_o hj) rfl) (x_wf_ur (hR.CB i2) hR.2.2.2.2)) (hS.put z oq ⟨Nat.le_add_right _ _, Or.inl hc.2.2.2.2.2.2.2.2.2.2.1⟩) hL hm
        rw [x_ent_q (u := x_ur u a i.toNatClampNeg x) hk ht.1]
        show H1[w.2.2.1 + a]? = some (vp_cell _ _)
        rw [e, vp_cell_q, vp_cell_q, arrV_store]
        congr 2
        funext q
        by_cases hq : q = i.toNatClampNeg
        · subst hq; simp [updV, x_r, x_ur, x_up, x_vo, f9, va_rf]
        · simp [updV, x_r, x_ur, x_up, hq]
      · cases h
    · cases h
/-- a new object -/
theorem x_newo {idx ci : Nat} {C : String} {T : u_T} {ty : Nat → FieldType} {kk : Nat → x_U → Option (α × x_U)} (hcl : q_cls ci C T ty) (hw : Cond.classLink own idx C ∈ q_big ∧ Cond.instantiable C (q_nF ci) ∈ q_big ∧ Cond.initialized C ∈ q_big) (hdef : ∀ k, k < q_nF ci → defaultValue (ty k) = if q_isR ci k = true then .null else .int 0)
    (hd : decode cc pc = .ok (.new idx, 3)) (hp : pc + 3 = pc2) (k2 : ∀ x u2, x_G w cx own nm cc nL ret f lo m0 an pc2 L (x_v w x :: st) u2 (kk x u2)) : x_G w cx own nm cc nL ret f lo m0 an pc L st u (x_new u ci kk) := by
  subst hp
  intro r u' h
  unfold x_new at h
  split at h
  · rename_i hl
    obtain ⟨h1, h2⟩ := k2 _ _ r u' h
    have hle : x_n u + 1 ≤ x_n u' ∧ x_m u + q_nF ci ≤ x_m u' := h1
    refine ⟨⟨by omega, by omega⟩, fun hc hr2 H locs ls hR hS hL hm => ?_⟩
    have hts := hc.2.2.2.2.1
    have hK := hc.2.2.2.2.2.2.2.1.1
    obtain ⟨g1, g2, g3, g4⟩ := hcl
    have hKn := hK.1 ci _ g1
    have hz := hR.1
    have hr1 := hr2.1
    have hr3 := hr2.2
    have hS1 := hS.1
    refine W.newcK hc.1 hc.2.1 hc.2.2.2.1 (hts _ hw.1) (hts _ hw.2.1) (hts _ hw.2.2) rfl hd (by omega) (by omega) hKn.2.1 (h := w.2.2.1 + x_n u) hz fun H1 kC hkC e1 z1 o1 => ?_
    have ez : H.size - cx.2.2.2.2.1.heap.size + 1 = H1.size - cx.2.2.2.2.1.heap.size := by omega
    have em : x_m u - m0 + q_nF ci = x_m (x_un u (.inl ci) (q_nF ci) (fun _ => 0)) - m0 := by show _ = x_m u + q_nF ci - m0; omega
    have ev : (F0 cx.2.2.2.2.2.1 (pc + 3) ls (.ref (w.2.2.1 + x_n u) :: st)) = F0 cx.2.2.2.2.2.1 (pc + 3) ls (x_v w (x_n u) :: st) := by rw [x_vin hR.2.1.1 (x_lim_CB hR.2.1.2)]
    have h3 := h2 hc hr2 H1 locs ls (hR.push hl (by rw [z1, hz]) (fun q hq => o1 q (by rw [hz] at hq; exact hq)) rfl rfl ?_ (fun j hj => x_ent_c (x_fU_o hj) (x_fU_o hj) (x_fU_o hj)) (x_wf_un hR.2.1.1 hl (Or.inl ⟨_, rfl⟩) hR.2.2.2.2)) ⟨by omega, fun q a b => (o1 q (by omega)).trans (hS.2.1 q a b), hS.2.2⟩ hL (by show m0 ≤ x_m u + q_nF ci; omega)
    · rw [← ez, ← em, ← ev] at h3
      exact h3
    · rw [x_ent_o (u := x_un u (.inl ci) (q_nF ci) (fun _ => 0)) (ci := ci) x_fU_s]
      refine ⟨_, g1, (u_born ty hts g2 hKn hkC e1 g3).to (fun k hk => ?_)⟩
      rw [hdef k hk]
      have e5 : x_r (x_un u (.inl ci) (q_nF ci) (fun _ => 0)) (x_n u) = fun _ => 0 := x_fU_s
      have e6 : x_t (x_un u (.inl ci) (q_nF ci) (fun _ => 0)) (x_n u) = fun _ => 0 := x_fU_s
      rw [e5, e6]
      simp only [vp_V, List.getD_eq_getElem?_getD, List.getElem?_map, List.getElem?_range hk, Option.map_some, Option.getD_some, x_fv]
      split <;> rfl
  · cases h
/-- a new row of ints, of bytes -/
theorem x_newa {at_ : ArrayType} {t : Nat} {ty : FieldType} {i : Int32} {kk : Nat → x_U → Option (α × x_U)} (hty : newarray.typeOf at_ = ty) (ht : (t = 0 ∧ ty = .int) ∨ (t = 2 ∧ ty = .byte)) (hw : Cond.arrayClass ty ∈ q_big)
    (hd : decode cc pc = .ok (.newarray at_, 2)) (hp : pc + 2 = pc2) (k2 : ∀ x u2, x_G w cx own nm cc nL ret f lo m0 an pc2 L (x_v w x :: st) u2 (kk x u2)) : x_G w cx own nm cc nL ret f lo m0 an pc L (.int i :: st) u (x_nwa u t i kk) := by
  subst hp
  subst hty
  intro r u' h
  unfold x_nwa at h
  split at h
  · rename_i hl
    split at h
    · rename_i hin
      obtain ⟨h1, h2⟩ := k2 _ _ r u' h
      have hle : x_n u + 1 ≤ x_n u' ∧ x_m u + i.toNatClampNeg ≤ x_m u' := h1
      refine ⟨⟨by omega, by omega⟩, fun hc hr2 H locs ls hR hS hL hm => ?_⟩
      have hK := hc.2.2.2.2.2.2.2.1.1
      have hz := hR.1
      have hr1 := hr2.1
      have hr3 := hr2.2
      have hS1 := hS.1
      have hv := q_in_vp hin
      have hi1 : i.toNatClampNeg < 100000 := Nat.not_le.mp fun q => hv (Or.inr q)
      have hcb : componentBytes (newarray.typeOf at_) ≤ 4 := by rcases ht with ⟨-, e⟩ | ⟨-, e⟩ <;> rw [e] <;> decide
      refine va_newaK (atype := at_) hc.1 hc.2.1 (hc.2.2.2.2.1 _ hw) rfl hd rfl (fun q => hv (Or.inl q)) (N := i.toNatClampNeg) rfl (Nat.le_trans (Nat.mul_le_mul (Nat.le_of_lt hi1) hcb) (by decide)) (by omega) (by omega) (h := w.2.2.1 + x_n u) hz fun H1 cA e1 z1 o1 hAr hNm => ?_
      have hcA : cA = w.2.1 t := by
        rcases ht with ⟨rfl, e⟩ | ⟨rfl, e⟩
        · rw [e] at hNm
          exact Option.some.inj (hNm.symm.trans (hK.2 0 _ rfl).2)
        · rw [e] at hNm
          exact Option.some.inj (hNm.symm.trans (hK.2 2 _ rfl).2)
      subst hcA
      have hdv : defaultValue (newarray.typeOf at_) = .int 0 := by rcases ht with ⟨-, e⟩ | ⟨-, e⟩ <;> rw [e] <;> rfl
      have ht3 : t < 3 := by rcases ht with ⟨rfl, -⟩ | ⟨rfl, -⟩ <;> decide
      have ez : H.size - cx.2.2.2.2.1.heap.size + 1 = H1.size - cx.2.2.2.2.1.heap.size := by omega
      have em : x_m u - m0 + i.toNatClampNeg = x_m (x_un u (.inr (i.toNatClampNeg, t)) i.toNatClampNeg (fun _ => 0)) - m0 := by show _ = x_m u + i.toNatClampNeg - m0; omega
      have ev : (F0 cx.2.2.2.2.2.1 (pc + 2) ls (.ref (w.2.2.1 + x_n u) :: st)) = F0 cx.2.2.2.2.2.1 (pc + 2) ls (x_v w (x_n u) :: st) := by rw [x_vin hR.2.1.1 (x_lim_CB hR.2.1.2)]
      have h3 := h2 hc hr2 H1 locs ls (hR.push hl (by rw [z1, hz]) (fun q hq => o1 q (by rw [hz] at hq; exact hq)) rfl rfl ?_ (fun j hj => x_ent_c (x_fU_o hj) (x_fU_o hj) (x_fU_o hj)) (x_wf_un hR.2.1.1 hl (Or.inr ⟨_, _, rfl, by omega⟩) hR.2.2.2.2)) ⟨by omega, fun q a b => (o1 q (by omega)).trans (hS.2.1 q a b), hS.2.2⟩ hL (by show m0 ≤ x_m u + i.toNatClampNeg; omega)
      · rw [← ez, ← em, ← ev] at h3
        exact h3
      · rw [x_ent_i (u := x_un u (.inr (i.toNatClampNeg, t)) i.toNatClampNeg (fun _ => 0)) (len := i.toNatClampNeg) (t := t) x_fU_s ht3]
        show H1[w.2.2.1 + x_n u]? = some (vp_cell _ _)
        rw [e1, hdv, vp_cell_i]
        have e6 : x_t (x_un u (.inr (i.toNatClampNeg, t)) i.toNatClampNeg (fun _ => 0)) (x_n u) = fun _ => 0 := x_fU_s
        rw [e6]
    · cases h
  · cases h
/-- a new row of references -/
theorem x_newq {idx t : Nat} {i : Int32} {kk : Nat → x_U → Option (α × x_U)} (ht : (t = 3 ∧ Cond.classLink own idx "[I" ∈ q_big) ∨ (t = 4 ∧ Cond.classLink own idx RX12 ∈ q_big) ∨ (t = 5 ∧ Cond.classLink own idx RJ0 ∈ q_big))
    (hd : decode cc pc = .ok (.anewarray idx, 3)) (hp : pc + 3 = pc2) (k2 : ∀ x u2, x_G w cx own nm cc nL ret f lo m0 an pc2 L (x_v w x :: st) u2 (kk x u2)) : x_G w cx own nm cc nL ret f lo m0 an pc L (.int i :: st) u (x_nwa u t i kk) := by
  subst hp
  intro r u' h
  unfold x_nwa at h
  split at h
  · rename_i hl
    split at h
    · rename_i hin
      obtain ⟨h1, h2⟩ := k2 _ _ r u' h
      have hle : x_n u + 1 ≤ x_n u' ∧ x_m u + i.toNatClampNeg ≤ x_m u' := h1
      refine ⟨⟨by omega, by omega⟩, fun hc hr2 H locs ls hR hS hL hm => ?_⟩
      have hKK := hc.2.2.2.2.2.2.2.1
      have hK := hKK.1
      have hX := hKK.2.2.2.2.2.2.1
      have hz := hR.1
      have hr1 := hr2.1
      have hr3 := hr2.2
      have hS1 := hS.1
      have hv := q_in_vp hin
      have hi1 : i.toNatClampNeg < 100000 := Nat.not_le.mp fun q => hv (Or.inr q)
      have ht3 : 3 ≤ t ∧ t < 6 := by rcases ht with ⟨rfl, -⟩ | ⟨rfl, -⟩ | ⟨rfl, -⟩ <;> decide
      have done : W cx.1 cx.2.1 cx.2.2.1 cx.2.2.2.1 cx.2.2.2.2.1 cx.2.2.2.2.2.1 cx.2.2.2.2.2.2.1 cx.2.2.2.2.2.2.2.1 cx.2.2.2.2.2.2.2.2.1 cx.2.2.2.2.2.2.2.2.2 (H.push ({ cls := w.2.1 t, slots := Array.replicate i.toNatClampNeg .null, vm := .none } : Cell)) locs (H.size - cx.2.2.2.2.1.heap.size + 1) (x_m u - m0 + i.toNatClampNeg) (x_Q w cx m0 an r u') (F0 cx.2.2.2.2.2.1 (pc + 3) ls (.ref H.size :: st)) := by
        generalize hH1 : H.push ({ cls := w.2.1 t, slots := Array.replicate i.toNatClampNeg .null, vm := .none } : Cell) = H1
        have z1 : H1.size = H.size + 1 := by rw [← hH1, Array.size_push]
        have e1 : H1[H.size]? = some (arrV (w.2.1 t) i.toNatClampNeg (fun _ => .null)) := by rw [← hH1, Array.getElem?_push_size, ← arrV_new]
        have o1 : ∀ q : Nat, q < H.size → H1[q]? = H[q]? := fun q hq => by rw [← hH1, Array.getElem?_push, if_neg (Nat.ne_of_lt hq)]
        have ez : H.size - cx.2.2.2.2.1.heap.size + 1 = H1.size - cx.2.2.2.2.1.heap.size := by omega
        have em : x_m u - m0 + i.toNatClampNeg = x_m (x_un u (.inr (i.toNatClampNeg, t)) i.toNatClampNeg (fun _ => 0)) - m0 := by show _ = x_m u + i.toNatClampNeg - m0; omega
        have ev : (F0 cx.2.2.2.2.2.1 (pc + 3) ls (.ref H.size :: st)) = F0 cx.2.2.2.2.2.1 (pc + 3) ls (x_v w (x_n u) :: st) := by rw [x_vin hR.2.1.1 (x_lim_CB hR.2.1.2), hz]
        have h3 := h2 hc hr2 H1 locs ls (hR.push hl z1 o1 rfl rfl ?_ (fun j hj => x_ent_c (x_fU_o hj) (x_fU_o hj) (x_fU_o hj)) (x_wf_un hR.2.1.1 hl (Or.inr ⟨_, _, rfl, ht3.2⟩) hR.2.2.2.2)) ⟨by omega, fun q a b => (o1 q (by omega)).trans (hS.2.1 q a b), hS.2.2⟩ hL (by show m0 ≤ x_m u + i.toNatClampNeg; omega)
        · rw [← ez, ← em, ← ev] at h3
          exact h3
        · rw [x_ent_q (u := x_un u (.inr (i.toNatClampNeg, t)) i.toNatClampNeg (fun _ => 0)) (len := i.toNatClampNeg) (t := t) x_fU_s ht3.1]
          show H1[w.2.2.1 + x_n u]? = some (vp_cell _ _)
          rw [← hz, e1, vp_cell_q]
          have e5 : x_r (x_un u (.inr (i.toNatClampNeg, t)) i.toNatClampNeg (fun _ => 0)) (x_n u) = fun _ => 0 := x_fU_s
          rw [e5]
          rfl
      rcases ht with ⟨rfl, hw⟩ | ⟨rfl, hw⟩ | ⟨rfl, hw⟩
      · refine W.anewA (t := .int) hc.1 hc.2.1 hc.2.2.2.1 (hc.2.2.2.2.1 _ hw) hX.2.2.2.2.2 rfl hd rfl (fun q => hv (Or.inl q)) (by omega) (by omega) (by omega) fun cA kA comp g1 g2 g3 g4 => ?_
        have hcA : cA = w.2.1 3 := Option.some.inj (g1.symm.trans (hK.2 3 _ rfl).2)
        rw [hcA]
        exact done
      · refine W.anew hc.1 hc.2.1 hc.2.2.2.1 (hc.2.2.2.2.1 _ hw) (va_AO.use hX.2.2.2.1) rfl hd rfl (fun q => hv (Or.inl q)) (by omega) (by omega) (by omega) fun cA kA comp g1 g2 g3 g4 => ?_
        have hcA : cA = w.2.1 4 := by
          obtain ⟨kA2, comp2, a1, a2, a3, a4⟩ := (hK.2 4 _ rfl).2
          exact Option.some.inj (g1.symm.trans a4)
        rw [hcA]
        exact done
      · refine W.anew hc.1 hc.2.1 hc.2.2.2.1 (hc.2.2.2.2.1 _ hw) (va_AO.use hX.2.2.2.2.1) rfl hd rfl (fun q => hv (Or.inl q)) (by omega) (by omega) (by omega) fun cA kA comp g1 g2 g3 g4 => ?_
        have hcA : cA = w.2.1 5 := by
          obtain ⟨kA2, comp2, a1, a2, a3, a4⟩ := (hK.2 5 _ rfl).2
          exact Option.some.inj (g1.symm.trans a4)
        rw [hcA]
        exact done
    · cases h
  · cases h
theorem x_bok_at {f : Nat → Int32} {sp n j : Nat} (h : x_bok f sp n = true) (hj : j < n) : (f (sp + j)).toInt8.toInt32 = f (sp + j) := by
  have := List.all_eq_true.mp h j (List.mem_range.mpr hj)
  simpa using this
theorem x_fits_b {v : Int32} (h : v.toInt8.toInt32 = v) : fits .byte (.int v) = true := by
  rw [← h]
  exact pk_fb v
/-- a row's copy -/
theorem x_Wclone {p : Program} {l : Launch} {e : Env} {R : Room} {s : State} {m : MethodId} {args : Array Value} {below : List Frame} {meth : Method} {c : Code} {H : Heap} {locs : List Loc} {cells slots : Nat} {Q : State → Prop} {ls : Array Slot} {rest : List Value} {a : Nat} (hexec : p.tables.exec = Jvm.exec) (hb : c.code = cc) (hml : c.maxLocals = ls.size) {own ad : String} {index : Nat} (hown : s.vm.findClass own = some m.cls)
    (hlink : (Cond.methodLink own index ⟨ad, "clone", "()Ljava/lang/Object;"⟩).before args s = true) (hsame : (Cond.sameMethod ad "java/lang/Object" "clone" "()Ljava/lang/Object;").before args s = true)
    (hnat : (Cond.native ⟨"java/lang/Object", "clone", "()Ljava/lang/Object;"⟩).before args s = true) (hinst : (Cond.instanceMethod ⟨"java/lang/Object", "clone", "()Ljava/lang/Object;"⟩).before args s = true)
    (hsel : (Cond.selects ad ⟨ad, "clone", "()Ljava/lang/Object;"⟩ ⟨"java/lang/Object", "clone", "()Ljava/lang/Object;"⟩).before args s = true) (hcl : va_Nw (.castable ad "java/lang/Cloneable") s)
    {cA : ClassId} {x : vp_A} {ty : FieldType} (hcell : H[a]? = some (vp_cell cA x)) (har : ArrOfT s cA ty)
    (hnm : s.vm.findClass ad = some cA) (hfit : ∀ (i : Nat) (v : Value), (vp_cell cA x).slots[i]? = some v → fits ty v = true)
    (hframes : 1 ≤ R.frames) (hlocals : (rest.map fun v => v.category).sum + 14 ≤ R.locals) (hcells : cells + 1 ≤ R.cells) (hslots : slots + x.1 ≤ R.slots) (hdg : decode cc pc = .ok (.invokevirtual index, 3))
    (kk : W p l e R s m args below meth c (H.push (vp_cell cA x)) locs (cells + 1) (slots + x.1) Q (F0 m (pc + 3) ls (.ref H.size :: rest))) : W p l e R s m args below meth c H locs cells slots Q (F0 m pc ls (.ref a :: rest)) := by
  have hsz : (vp_cell cA x).slots.size = x.1 := by
    obtain ⟨n, f | f | f | f | f⟩ := x <;> exact arrV_size _ _ _
  have hvm0 : (vp_cell cA x).vm = .none := by
    obtain ⟨n, f | f | f | f | f⟩ := x <;> rfl
  have hcl0 : (vp_cell cA x).cls = cA := by
    obtain ⟨n, f | f | f | f | f⟩ := x <;> rfl
  have hcellE : ({ cls := (vp_cell cA x).cls, slots := (vp_cell cA x).slots } : Cell) = vp_cell cA x := by
    obtain ⟨n, f | f | f | f | f⟩ := x <;> rfl
  obtain ⟨c0, t0', f1, f2, f3⟩ := Cond.castable_spec (va_Nw.use (A := args) rfl hcl)
  cases hnm.symm.trans f1
  intro T hT X
  have hcellT : T.heap[a]? = some (vp_cell cA x) := by rw [hT]; exact hcell
  obtain ⟨-, kA, hkA, comp, hkind⟩ := State.isArrayOf_alike X.warmed.alike (har 0 (fun _ => .null))
  obtain ⟨-, kS, hkS, compS, hkindS⟩ := har 0 (fun _ => .null)
  obtain ⟨vm', X', st⟩ := X.cloneArray hexec hown hlink hsame hnat hinst hsel (a := a) (cell := vp_cell cA x) hcellT (fun k h => by rw [hvm0] at h; cases h) (by rw [hvm0]; exact fun h => by cases h) (by rw [hcl0]; exact hnm) f2 (by rw [hcl0]; exact f3)
    (fun i v hv => by
      rw [hcl0]
      have hk' : T.vm.classes[cA]? = some kA := hkA
      simpa [State.fitsSlot, State.slotType?, hk', hkind] using hfit i v hv)
    (g := F0 m pc ls (.ref a :: rest)) rfl (by rw [hml]) rfl (by rw [hb]; exact hdg) hframes (by show 2 * 0 + _ + 14 ≤ _; omega) hcells (by rw [hsz]; exact hslots) (hloader := by rw [hcl0]; exact Vm.clonesLoader_of_array hkS hkindS)
  rw [hcellE, hsz] at X'
  obtain ⟨t, b1, b2⟩ := kk ((T.setVm vm').pushCell (vp_cell cA x)) (by rw [← hT]; rfl) X'
  refine ⟨t, st t ?_, b2⟩
  rw [hcellE, hT]
  exact b1
def x_cw (own : String) (idx : Nat) (ad : String) : Prop := Cond.methodLink own idx ⟨ad, "clone", "()Ljava/lang/Object;"⟩ ∈ q_big ∧ Cond.sameMethod ad "java/lang/Object" "clone" "()Ljava/lang/Object;" ∈ q_big ∧ Cond.native ⟨"java/lang/Object", "clone", "()Ljava/lang/Object;"⟩ ∈ q_big ∧ Cond.instanceMethod ⟨"java/lang/Object", "clone", "()Ljava/lang/Object;"⟩ ∈ q_big ∧ Cond.selects ad ⟨ad, "clone", "()Ljava/lang/Object;"⟩ ⟨"java/lang/Object", "clone", "()Ljava/lang/Object;"⟩ ∈ q_big
theorem x_clone {idx t a : Nat} {ad : String} {kk : Nat → x_U → Option (α × x_U)} (ht : (t = 0 ∧ ad = "[I") ∨ (t = 2 ∧ ad = "[B")) (hw : x_cw own idx ad) (hrm : 1 ≤ f ∧ 22 ≤ lo) (hst : (st.map fun v => v.category).sum ≤ 8)
    (hd : decode cc pc = .ok (.invokevirtual idx, 3)) (hp : pc + 3 = pc2) (k2 : ∀ x u2, x_G w cx own nm cc nL ret f lo m0 an pc2 L (x_v w x :: st) u2 (kk x u2)) : x_G w cx own nm cc nL ret f lo m0 an pc L (x_v w a :: st) u (x_cln u t a kk) := by
  subst hp
  intro r u' h
  unfold x_cln at h
  split at h
  · cases h
  · rename_i p hk
    split at h
    · rename_i hcond
      obtain ⟨hl, hp2, hok⟩ := hcond
      obtain ⟨len, t'⟩ := p
      cases hp2
      obtain ⟨h1, h2⟩ := k2 _ _ r u' h
      have hle : x_n u + 1 ≤ x_n u' ∧ x_m u + len ≤ x_m u' := h1
      refine ⟨⟨by omega, by omega⟩, fun hc hr2 H locs ls hR hS hL hm => ?_⟩
      have hKK := hc.2.2.2.2.2.2.2.1
      have hK := hKK.1
      have hts := hc.2.2.2.2.1
      have hz := hR.1
      have hr1 := hr2.1
      have hr3 := hr2.2
      have hS1 := hS.1
      obtain ⟨hrf, hrl⟩ := hc.2.2.2.2.2.2.2.2.1
      have ht3 : t' < 3 := by rcases ht with ⟨h, -⟩ | ⟨h, -⟩ <;> omega
      obtain ⟨i1, i2⟩ := x_inA hR hk (by omega)
      have hat := hR.at i1 i2
      rw [x_ent_i hk ht3] at hat
      rw [x_inP hR i1 i2]
      have hinfo : ∃ ty : FieldType, ArrOfT cx.2.2.2.2.1 (w.2.1 t') ty ∧ cx.2.2.2.2.1.vm.findClass ad = some (w.2.1 t') ∧ va_Nw (.castable ad "java/lang/Cloneable") cx.2.2.2.2.1 ∧ ∀ (i : Nat) (v : Value), (vp_cell (w.2.1 t') (len, .inl (x_t u a))).slots[i]? = some v → fits ty v = true := by
        rcases ht with ⟨rfl, rfl⟩ | ⟨rfl, rfl⟩
        · exact ⟨.int, (hK.2 0 _ rfl).1, (hK.2 0 _ rfl).2, hKK.2.2.2.2.2.2.2.2.1, fun i v hv => va_fit (ty := .int) (fun j _ => rfl) i v hv⟩
        · refine ⟨.byte, (hK.2 2 _ rfl).1, (hK.2 2 _ rfl).2, hKK.2.2.2.2.2.2.2.2.2, fun i v hv => va_fit (ty := .byte) (fun j hj => x_fits_b ?_) i v hv⟩
          rcases hok with h | h
          · simp at h
          · have := x_bok_at h hj
            rwa [Nat.zero_add] at this
      obtain ⟨ty, g1, g2, g3, g4⟩ := hinfo
      refine x_Wclone (x := (len, .inl (x_t u a))) hc.1 hc.2.1 (by rw [hc.2.2.1]; exact hL.1.symm) hc.2.2.2.1 (hts _ hw.1) (hts _ hw.2.1) (hts _ hw.2.2.1) (hts _ hw.2.2.2.1) (hts _ hw.2.2.2.2) g3 hat g1 g2 g4 (by rw [hrf]; exact hrm.1) (by rw [hrl]; have := hrm.2; omega) (by omega) (by show _ + len ≤ _; omega) hd ?_
      generalize hH1 : H.push (vp_cell (w.2.1 t') (len, .inl (x_t u a))) = H1
      have z1 : H1.size = H.size + 1 := by rw [← hH1, Array.size_push]
      have e1 : H1[H.size]? = some (vp_cell (w.2.1 t') (len, .inl (x_t u a))) := by rw [← hH1, Array.getElem?_push_size]
      have o1 : ∀ q : Nat, q < H.size → H1[q]? = H[q]? := fun q hq => by rw [← hH1, Array.getElem?_push, if_neg (Nat.ne_of_lt hq)]
      have ez : H.size - cx.2.2.2.2.1.heap.size + 1 = H1.size - cx.2.2.2.2.1.heap.size := by omega
      have em : x_m u - m0 + len = x_m (x_un u (.inr (len, t')) len (x_t u a)) - m0 := by show _ = x_m u + len - m0; omega
      have ev : (F0 cx.2.2.2.2.2.1 (pc + 3) ls (.ref H.size :: st)) = F0 cx.2.2.2.2.2.1 (pc + 3) ls (x_v w (x_n u) :: st) := by rw [x_vin hR.2.1.1 (x_lim_CB hR.2.1.2), hz]
      have h3 := h2 hc hr2 H1 locs ls (hR.push hl z1 o1 rfl rfl ?_ (fun j hj => x_ent_c (x_fU_o hj) (x_fU_o hj) (x_fU_o hj)) (x_wf_un hR.2.1.1 hl (Or.inr ⟨_, _, rfl, by omega⟩) hR.2.2.2.2)) ⟨by omega, fun q a b => (o1 q (by omega)).trans (hS.2.1 q a b), hS.2.2⟩ hL (by show m0 ≤ x_m u + len; omega)
      · rw [← ez, ← em, ← ev] at h3
        exact h3
      · rw [x_ent_i (u := x_un u (.inr (len, t')) len (x_t u a)) (len := len) (t := t') x_fU_s ht3]
        show H1[w.2.2.1 + x_n u]? = some (vp_cell _ _)
        have e6 : x_t (x_un u (.inr (len, t')) len (x_t u a)) (x_n u) = x_t u a := x_fU_s
        rw [← hz, e1, e6]
    · cases h
/-- the copy of a row of ints is that row's class -/
theorem x_castA {idx a t : Nat} {ad : String} (ht : (t = 0 ∧ ad = "[I") ∨ (t = 2 ∧ ad = "[B")) (hw : Cond.classLink own idx ad ∈ q_big) (hd : decode cc pc = .ok (.checkcast idx, 3)) (hp : pc + 3 = pc2)
    (k2 : x_G w cx own nm cc nL ret f lo m0 an pc2 L (x_v w a :: st) u oo) : x_G w cx own nm cc nL ret f lo m0 an pc L (x_v w a :: st) u (x_cst u a t oo) := by
  subst hp
  intro r u' h
  unfold x_cst at h
  split at h
  · cases h
  · rename_i p hk
    split at h
    · rename_i hp2
      obtain ⟨len, t'⟩ := p
      cases hp2
      obtain ⟨h1, h2⟩ := k2 r u' h
      refine ⟨h1, fun hc hr2 H locs ls hR hS hL hm => ?_⟩
      have hK := hc.2.2.2.2.2.2.2.1.1
      have ht3 : t' < 3 := by rcases ht with ⟨h, -⟩ | ⟨h, -⟩ <;> omega
      obtain ⟨i1, i2⟩ := x_inA hR hk (by omega)
      have h3 := h2 hc hr2 H locs ls hR hS hL hm
      rw [x_inP hR i1 i2] at h3 ⊢
      have hn : cx.2.2.2.2.1.vm.findClass ad = some (w.2.1 t') := by
        rcases ht with ⟨rfl, rfl⟩ | ⟨rfl, rfl⟩
        · exact (hK.2 0 _ rfl).2
        · exact (hK.2 2 _ rfl).2
      exact va_castA (D := w.1) (cl := q_cl) (ws := x_ws w u) hc.1 hc.2.1 hc.2.2.2.1 (hc.2.2.2.2.1 _ hw) hR.2.2.2.1 (a - q_N0) (cA := w.2.1 t') (x := (len, .inl (x_t u a))) ((x_ws_get i1 i2).trans (by rw [x_ent_i hk ht3])) hn hd h3
    · cases h
/-- bytes that can be read -/
theorem x_bytes {cx : q_Cx} {H : Heap} {locs : List Loc} (hc : x_ok w cx own nm cc nL ret f lo) (hR : x_R w u H) (hS : va_S (q_A w) cx.2.2.2.2.1.heap H locs) {a : Nat} {p : Nat × Nat} (hk : x_k u a = .inr p) (ht : p.2 = 2 ∨ p.2 = 7) :
    a ≠ 0 ∧ ∃ scr : Cell, H[x_ad w a]? = some scr ∧ cx.2.2.2.2.1.isArrayOf scr .byte ∧ scr.vm ≠ .unknown ∧ p.1 ≤ scr.slots.size ∧ ∀ j, j < p.1 → scr.slots[j]? = some (.int (x_t u a j)) := by
  have hK := hc.2.2.2.2.2.2.2.1.1
  have hN := q_N0_pos
  have old : ∀ {q N : Nat} {g : Nat → Value}, va_T .byte q N g (q_A w) cx.2.2.2.2.1 cx.2.2.2.2.1.heap → ∃ scr : Cell, H[q]? = some scr ∧ cx.2.2.2.2.1.isArrayOf scr .byte ∧ scr.vm ≠ .unknown ∧ N ≤ scr.slots.size ∧ ∀ j, j < N → scr.slots[j]? = some (g j) := by
    intro q N g hT
    obtain ⟨scl, g1, g2, g3, g4, g5, g6, g7⟩ := hT
    exact ⟨scl, by rw [hS.2.1 q (Array.getElem?_eq_some_iff.mp g1).1 g7]; exact g1, g2, g3, g4, g6⟩
  rcases hR.2.2.2.2 a with ⟨i1, i2, g⟩ | ⟨j, _, _, g, _⟩ | ⟨j, hj, ea, g, gx⟩ | ⟨ea, g, gx⟩ | ⟨ea, g, gx⟩ | ⟨ea, g, gx⟩ | g
  · obtain ⟨len, t⟩ := p
    have ht2 : t = 2 := by
      rcases g with ⟨ci, g⟩ | ⟨len', t', g, g6⟩
      · rw [hk] at g; cases g
      · have g0 := hk.symm.trans g
        cases g0
        simp only at ht
        omega
    subst ht2
    have hat := hR.at i1 i2
    rw [x_ent_i hk (by decide)] at hat
    refine ⟨by omega, _, by rw [x_ad_in (hR.CB i2)]; exact hat, (hK.2 2 _ rfl).1 len (fun j => .int (x_t u a j)), fun h => (by cases h), by show len ≤ (arrV _ _ _).slots.size; rw [arrV_size]; exact Nat.le_refl _, fun j hj => by show (arrV _ _ _).slots[j]? = _; rw [arrV_read _ _ hj]⟩
  · rw [hk] at g; cases g
  · have g0 := hk.symm.trans g
    cases g0
    obtain ⟨scr, a1, a2, a3, a4, a5⟩ := old (hc.2.2.2.2.2.2.2.1.2.2.2.2.1 j hj).2.2.2
    exact ⟨by unfold x_CV at ea; omega, scr, by rw [ea, x_ad_b hj]; exact a1, a2, a3, a4, fun i hi => by rw [gx]; exact a5 i hi⟩
  · have g0 := hk.symm.trans g
    cases g0
    obtain ⟨scr, a1, a2, a3, a4, a5⟩ := old hc.2.2.2.2.2.2.2.1.2.2.2.2.2.2.1.1.1
    exact ⟨by unfold x_CT at ea; omega, scr, by rw [ea, ← Nat.add_zero x_CT, x_ad_t]; exact a1, a2, a3, a4, fun i hi => by rw [gx]; exact a5 i hi⟩
  · have g0 := hk.symm.trans g
    cases g0
    obtain ⟨scr, a1, a2, a3, a4, a5⟩ := old hc.2.2.2.2.2.2.2.1.2.2.2.2.2.2.1.2.1.1
    exact ⟨by unfold x_CT at ea; omega, scr, by rw [ea, x_ad_t]; exact a1, a2, a3, a4, fun i hi => by rw [gx]; exact a5 i hi⟩
  · rw [hk] at g; cases g; simp at ht
  · rw [hk] at g; cases g; simp at ht
theorem x_copyb {idx a b : Nat} {i j n : Int32} {kk : x_U → Option (α × x_U)} (hw : Cond.methodLink own idx arraycopyName ∈ q_big ∧ Cond.native arraycopyName ∈ q_big ∧ Cond.static arraycopyName ∈ q_big ∧ Cond.initialized "java/lang/System" ∈ q_big)
    (hrm : 1 ≤ f ∧ 8 + (nativeFrameWords "java/lang/System" "arraycopy" 5 + 11) ≤ lo) (hst : (st.map fun v => v.category).sum ≤ 8) (hd : decode cc pc = .ok (.invokestatic idx, 3)) (hp : pc + 3 = pc2)
    (k2 : ∀ u2, x_G w cx own nm cc nL ret f lo m0 an pc2 L st u2 (kk u2)) : x_G w cx own nm cc nL ret f lo m0 an pc L (.int n :: .int j :: x_v w b :: .int i :: x_v w a :: st) u (x_cp u a i b j n kk) := by
  subst hp
  intro r u' h
  unfold x_cp at h
  split at h
  · cases h
  rename_i p hka
  split at h
  · cases h
  rename_i q hkb
  split at h
  case isFalse => cases h
  rename_i hcond
  obtain ⟨⟨ht, htb⟩, ⟨s1, s2, s3⟩, s4, s5, s6⟩ := hcond
  obtain ⟨h1, h2⟩ := k2 _ r u' h
  refine ⟨h1, fun hc hr2 H locs ls hR hS hL hm => ?_⟩
  obtain ⟨len, t⟩ := q
  cases htb
  have hK := hc.2.2.2.2.2.2.2.1.1
  have hts := hc.2.2.2.2.1
  obtain ⟨hrf, hrl⟩ := hc.2.2.2.2.2.2.2.2.1
  obtain ⟨a0, scr, c1, c2, c3, c4, c5⟩ := x_bytes hc hR hS hka ht
  obtain ⟨i1, i2⟩ := x_inA hR hkb (by decide)
  have hat := hR.at i1 i2
  rw [x_ent_i hkb (by decide)] at hat
  have hat : H[w.2.2.1 + b]? = some (vp_cell (w.2.1 2) (len, .inl (x_t u b))) := hat
  rw [x_v1 a0, x_inP hR i1 i2]
  have nn : ∀ z : Int32, ¬ z < 0 → z.toInt = (z.toNatClampNeg : Int) := by
    intro z hz
    have hz0 : (0 : Int) ≤ z.toInt := by
      have := Int32.not_lt.mp hz
      simpa using Int32.le_iff_toInt_le.mp this
    show z.toInt = ((z.toInt.toNat : Nat) : Int)
    omega
  intro T hT X
  obtain ⟨hns, k0, hkk0, cm0, hkd0⟩ := c2
  obtain ⟨-, k1, hkk1, cm1, hkd1⟩ := (hK.2 2 _ rfl).1 len (fun j => .int (x_t u b j))
  obtain ⟨vm', X', step⟩ := X.arraycopy hc.1 hc.2.2.2.1 (hts _ hw.1) (hts _ hw.2.1) (hts _ hw.2.2.1) (hts _ hw.2.2.2) (src := x_ad w a) (dst := w.2.2.1 + b) (cs := scr) (cd := vp_cell (w.2.1 2) (len, .inl (x_t u b))) (srcPos := i) (destPos := j) (n := n) (by rw [hT]; exact c1) (by rw [hT]; exact hat)
    hns (fun _ h => by cases h) c3 (fun h => by cases h) hkk0 hkk1 hkd0 hkd1 (by simp [refKind]) s1 s2 s3
    (by rw [nn i s1, nn n s3]; omega)
    (by rw [nn j s2, nn n s3]; show ¬ _ > ((arrV (w.2.1 2) len (fun j => .int (x_t u b j))).slots.size : Int); rw [arrV_size]; omega)
    (fun vm₁ _ z hz => by
      have e : scr.slots.getD (i.toNatClampNeg + z) .null = .int (x_t u a (i.toNatClampNeg + z)) := by
        rw [Array.getD_eq_getD_getElem?, c5 _ (by omega)]
        rfl
      refine ⟨?_, ?_⟩
      · rw [e]
        exact x_fits_b (x_bok_at s6 hz)
      · rw [e]
        exact trivial)
    (g := F0 cx.2.2.2.2.2.1 pc ls (.int n :: .int j :: .ref (w.2.2.1 + b) :: .int i :: .ref (x_ad w a) :: st)) rfl (by rw [hc.2.2.1]; exact hL.1) (rest := st) rfl (by rw [hc.2.1]; exact hd) (by rw [hrf]; exact hrm.1) (by rw [hrl]; show 2 * 0 + _ + _ ≤ _; have := hrm.2; omega)
  have e1 : copied scr (vp_cell (w.2.1 2) (len, .inl (x_t u b))) i j n = vp_cell (w.2.1 2) (len, .inl (x_cpy (x_t u a) (x_t u b) i.toNatClampNeg j.toNatClampNeg n.toNatClampNeg)) := by
    refine (va_copiedX (fun z => Value.int z) scr (w.2.1 2) (x_t u a) (x_t u b) c5 s4).trans ?_
    rw [vp_cell_i]
    congr 1
  rw [e1] at X' step
  have hl : w.2.2.1 + b < H.size := (Array.getElem?_eq_some_iff.mp hat).1
  have hAb : q_A w (w.2.2.1 + b) := ⟨Nat.le_add_right _ _, Or.inl hc.2.2.2.2.2.2.2.2.2.2.1⟩
  have oq : ∀ q : Nat, q ≠ w.2.2.1 + b → (H.setIfInBounds (w.2.2.1 + b) (vp_cell (w.2.1 2) (len, .inl (x_cpy (x_t u a) (x_t u b) i.toNatClampNeg j.toNatClampNeg n.toNatClampNeg))))[q]? = H[q]? := fun q hq => by simp [Array.getElem?_setIfInBounds, Ne.symm hq]
  have hz : (H.setIfInBounds (w.2.2.1 + b) (vp_cell (w.2.1 2) (len, .inl (x_cpy (x_t u a) (x_t u b) i.toNatClampNeg j.toNatClampNeg n.toNatClampNeg)))).size = H.size := by simp
  have h3 := h2 hc hr2 (H.setIfInBounds (w.2.2.1 + b) (vp_cell (w.2.1 2) (len, .inl (x_cpy (x_t u a) (x_t u b) i.toNatClampNeg j.toNatClampNeg n.toNatClampNeg)))) (locs ++ (scr.stretch i.toNatClampNeg n.toNatClampNeg).zipIdx.map fun q => ⟨w.2.2.1 + b, j.toNatClampNeg + q.2⟩) ls (hR.put i1 hz oq rfl rfl (by
      rw [x_ent_i (u := x_ub u b (x_cpy (x_t u a) (x_t u b) i.toNatClampNeg j.toNatClampNeg n.toNatClampNeg)) hkb (by decide)]
      show (H.setIfInBounds _ _)[_]? = some _
      have e7 : x_t (x_ub u b (x_cpy (x_t u a) (x_t u b) i.toNatClampNeg j.toNatClampNeg n.toNatClampNeg)) b = x_cpy (x_t u a) (x_t u b) i.toNatClampNeg j.toNatClampNeg n.toNatClampNeg := x_fU_s
      rw [e7]
      simp [Array.getElem?_setIfInBounds, hl]) (fun j hj => x_ent_c rfl rfl (x_fU_o hj)) (x_wf_ub (hR.CB i2) hR.2.2.2.2)) ⟨by rw [hz]; exact hS.1, fun q g1 g2 => by
      rw [oq q (fun e => g2 (by rw [e]; exact hAb))]
      exact hS.2.1 q g1 g2, fun q hq => by
      rcases List.mem_append.mp hq with h | h
      · exact hS.2.2 q h
      · obtain ⟨z, -, hz⟩ := List.mem_map.mp h
        rw [← hz]
        exact hAb⟩ hL hm
  rw [hz] at h3
  obtain ⟨t, a, b⟩ := h3 _ (by rw [← hT]; rfl) X'
  exact ⟨t, step t a, b⟩
/-! statics -/
theorem x_gscmp {idx : Nat} (hw : Cond.fieldLink own idx "java/lang/String" "COMPACT_STRINGS" "Z" ∈ q_big) (hd : decode cc pc = .ok (.getstatic idx, 3)) (hp : pc + 3 = pc2) (k2 : x_G w cx own nm cc nL ret f lo m0 an pc2 L (.int 1 :: st) u oo) : x_G w cx own nm cc nL ret f lo m0 an pc L st u oo := by
  subst hp
  intro r u' h
  obtain ⟨h1, h2⟩ := k2 r u' h
  exact ⟨h1, fun hc hr2 H locs ls hR hS hL hm => va_gets hc.1 hc.2.1 hc.2.2.2.2.2.2.2.1.2.2.2.2.2.1.1 hS hc.2.2.2.1 (hc.2.2.2.2.1 _ hw) (fun _ h => h) hd (h2 hc hr2 H locs ls hR hS hL hm)⟩
theorem x_gsdig {idx i : Nat} {n : String} (hi : (i = 0 ∧ n = "DigitOnes") ∨ (i = 1 ∧ n = "DigitTens")) (hw : Cond.fieldLink own idx "java/lang/Integer" n "[B" ∈ q_big) (hd : decode cc pc = .ok (.getstatic idx, 3)) (hp : pc + 3 = pc2) (k2 : x_G w cx own nm cc nL ret f lo m0 an pc2 L (x_v w (x_CT + i) :: st) u oo) : x_G w cx own nm cc nL ret f lo m0 an pc L st u oo := by
  subst hp
  intro r u' h
  obtain ⟨h1, h2⟩ := k2 r u' h
  refine ⟨h1, fun hc hr2 H locs ls hR hS hL hm => ?_⟩
  have e1 : x_v w (x_CT + i) = .ref (q_sa w i) := by rw [x_v1 (by unfold x_CT; omega), x_ad_t]
  have h3 := h2 hc hr2 H locs ls hR hS hL hm
  rw [e1] at h3
  have hX := hc.2.2.2.2.2.2.2.1.2.2.2.2.2.2.1
  rcases hi with ⟨rfl, rfl⟩ | ⟨rfl, rfl⟩
  · exact va_gets hc.1 hc.2.1 hX.1.2 hS hc.2.2.2.1 (hc.2.2.2.2.1 _ hw) (fun _ h => h) hd h3
  · exact va_gets hc.1 hc.2.1 hX.2.1.2 hS hc.2.2.2.1 (hc.2.2.2.2.1 _ hw) (fun _ h => h) hd h3
theorem x_gsfmt {idx : Nat} (hw : Cond.fieldLink own idx "jdk/internal/util/Preconditions" "SIOOBE_FORMATTER" "Ljava/util/function/BiFunction;" ∈ q_big) (hd : decode cc pc = .ok (.getstatic idx, 3)) (hp : pc + 3 = pc2) (k2 : ∀ v : Value, x_isR v → x_G w cx own nm cc nL ret f lo m0 an pc2 L (v :: st) u oo) : x_G w cx own nm cc nL ret f lo m0 an pc L st u oo := by
  subst hp
  intro r u' h
  refine ⟨(k2 .null (Or.inl rfl) r u' h).1, fun hc hr2 H locs ls hR hS hL hm => ?_⟩
  obtain ⟨v, hv, hZ⟩ := hc.2.2.2.2.2.2.2.1.2.2.2.2.2.1.2
  exact va_gets hc.1 hc.2.1 hZ hS hc.2.2.2.1 (hc.2.2.2.2.1 _ hw) (fun _ h => h) hd ((k2 v hv r u' h).2 hc hr2 H locs ls hR hS hL hm)
end XH
