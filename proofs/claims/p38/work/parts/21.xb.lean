def x_isR (v : Value) : Prop := v = .null ∨ ∃ a, v = .ref a
theorem x_vR {w : q_Wd} {x : Nat} : x_isR (x_v w x) := by
  by_cases h : x = 0
  · subst h; exact Or.inl rfl
  · exact Or.inr ⟨_, x_v1 h⟩
theorem x_cR {w : q_Wd} {o : Nat} : x_isR (q_rf w o) := Or.inr ⟨_, rfl⟩
def x_dv {α : Type} (x y : Int32) (k : Int32 → Option (α × x_U)) : Option (α × x_U) := if y = 0 then none else k (x / y)
def x_rem {α : Type} (x y : Int32) (k : Int32 → Option (α × x_U)) : Option (α × x_U) := if y = 0 then none else k (x - x / y * y)
/-- naming -/
def x_nm {α β : Type} (x : β) (k : β → Option (α × x_U)) : Option (α × x_U) := k x
theorem x_iconst {α : Type} {an : α → Option Value} {w : q_Wd} {cx : q_Cx} {own nm : String} {cc : ByteArray} {nL f lo m0 : Nat} {ret : Option FieldType} {pc pc2 : Nat} {L : List (Option Value)} {st : List Value} {u : x_U} {oo : Option (α × x_U)} {n : Int} {v : Int32} (hd : decode cc pc = .ok (.iconst n, 1)) (hv : Int32.ofInt n = v) (hp : pc + 1 = pc2) (k : x_G w cx own nm cc nL ret f lo m0 an pc2 L (.int v :: st) u oo) : x_G w cx own nm cc nL ret f lo m0 an pc L (st) u oo := by
  subst hp
  intro r u' h
  obtain ⟨h1, h2⟩ := k r u' h
  exact ⟨h1, fun hc hr H locs ls hR hS hL hm => lv_iconst hc.1 hc.2.1 hd hv (h2 hc hr H locs ls hR hS hL hm)⟩
theorem x_bipush {α : Type} {an : α → Option Value} {w : q_Wd} {cx : q_Cx} {own nm : String} {cc : ByteArray} {nL f lo m0 : Nat} {ret : Option FieldType} {pc pc2 : Nat} {L : List (Option Value)} {st : List Value} {u : x_U} {oo : Option (α × x_U)} {n : Int} {v : Int32} (hd : decode cc pc = .ok (.bipush n, 2)) (hv : (Int8.ofInt n).toInt32 = v) (hp : pc + 2 = pc2) (k : x_G w cx own nm cc nL ret f lo m0 an pc2 L (.int v :: st) u oo) : x_G w cx own nm cc nL ret f lo m0 an pc L (st) u oo := by
  subst hp
  intro r u' h
  obtain ⟨h1, h2⟩ := k r u' h
  exact ⟨h1, fun hc hr H locs ls hR hS hL hm => lv_bipush hc.1 hc.2.1 hd hv (h2 hc hr H locs ls hR hS hL hm)⟩
theorem x_sipush {α : Type} {an : α → Option Value} {w : q_Wd} {cx : q_Cx} {own nm : String} {cc : ByteArray} {nL f lo m0 : Nat} {ret : Option FieldType} {pc pc2 : Nat} {L : List (Option Value)} {st : List Value} {u : x_U} {oo : Option (α × x_U)} {n : Int} {v : Int32} (hd : decode cc pc = .ok (.sipush n, 3)) (hv : (Int16.ofInt n).toInt32 = v) (hp : pc + 3 = pc2) (k : x_G w cx own nm cc nL ret f lo m0 an pc2 L (.int v :: st) u oo) : x_G w cx own nm cc nL ret f lo m0 an pc L (st) u oo := by
  subst hp
  intro r u' h
  obtain ⟨h1, h2⟩ := k r u' h
  exact ⟨h1, fun hc hr H locs ls hR hS hL hm => lv_sipush hc.1 hc.2.1 hd hv (h2 hc hr H locs ls hR hS hL hm)⟩
theorem x_iload {α : Type} {an : α → Option Value} {w : q_Wd} {cx : q_Cx} {own nm : String} {cc : ByteArray} {nL f lo m0 : Nat} {ret : Option FieldType} {pc pc2 : Nat} {L : List (Option Value)} {st : List Value} {u : x_U} {oo : Option (α × x_U)} {i : Nat} {x : Int32} (hd : decode cc pc = .ok (.iload i, 2)) (hl : q_nth L i = some (.int x)) (hp : pc + 2 = pc2) (k : x_G w cx own nm cc nL ret f lo m0 an pc2 L (.int x :: st) u oo) : x_G w cx own nm cc nL ret f lo m0 an pc L (st) u oo := by
  subst hp
  intro r u' h
  obtain ⟨h1, h2⟩ := k r u' h
  exact ⟨h1, fun hc hr H locs ls hR hS hL hm => lv_iload hc.1 hc.2.1 hd (hL.2.2 _ _ hl).2 (h2 hc hr H locs ls hR hS hL hm)⟩
theorem x_iload_n {α : Type} {an : α → Option Value} {w : q_Wd} {cx : q_Cx} {own nm : String} {cc : ByteArray} {nL f lo m0 : Nat} {ret : Option FieldType} {pc pc2 : Nat} {L : List (Option Value)} {st : List Value} {u : x_U} {oo : Option (α × x_U)} {k : Fin 4} {x : Int32} (hd : decode cc pc = .ok (.iload_n k, 1)) (hl : q_nth L k.val = some (.int x)) (hp : pc + 1 = pc2) (k : x_G w cx own nm cc nL ret f lo m0 an pc2 L (.int x :: st) u oo) : x_G w cx own nm cc nL ret f lo m0 an pc L (st) u oo := by
  subst hp
  intro r u' h
  obtain ⟨h1, h2⟩ := k r u' h
  exact ⟨h1, fun hc hr H locs ls hR hS hL hm => lv_iload_n hc.1 hc.2.1 hd rfl (hL.2.2 _ _ hl).2 (h2 hc hr H locs ls hR hS hL hm)⟩
theorem x_aload {α : Type} {an : α → Option Value} {w : q_Wd} {cx : q_Cx} {own nm : String} {cc : ByteArray} {nL f lo m0 : Nat} {ret : Option FieldType} {pc pc2 : Nat} {L : List (Option Value)} {st : List Value} {u : x_U} {oo : Option (α × x_U)} {i : Nat} {v : Value} (hd : decode cc pc = .ok (.aload i, 2)) (hv : x_isR v) (hl : q_nth L i = some v) (hp : pc + 2 = pc2) (k : x_G w cx own nm cc nL ret f lo m0 an pc2 L (v :: st) u oo) : x_G w cx own nm cc nL ret f lo m0 an pc L (st) u oo := by
  subst hp
  intro r u' h
  obtain ⟨h1, h2⟩ := k r u' h
  refine ⟨h1, fun hc hr H locs ls hR hS hL hm => ?_⟩
  rcases hv with rfl | ⟨a, rfl⟩
  · exact lv_aloadN hc.1 hc.2.1 hd (hL.2.2 _ _ hl).2 (h2 hc hr H locs ls hR hS hL hm)
  · exact lv_aload hc.1 hc.2.1 hd (hL.2.2 _ _ hl).2 (h2 hc hr H locs ls hR hS hL hm)
theorem x_aload_n {α : Type} {an : α → Option Value} {w : q_Wd} {cx : q_Cx} {own nm : String} {cc : ByteArray} {nL f lo m0 : Nat} {ret : Option FieldType} {pc pc2 : Nat} {L : List (Option Value)} {st : List Value} {u : x_U} {oo : Option (α × x_U)} {i : Fin 4} {v : Value} (hd : decode cc pc = .ok (.aload_n i, 1)) (hv : x_isR v) (hl : q_nth L i.val = some v) (hp : pc + 1 = pc2) (k : x_G w cx own nm cc nL ret f lo m0 an pc2 L (v :: st) u oo) : x_G w cx own nm cc nL ret f lo m0 an pc L (st) u oo := by
  subst hp
  intro r u' h
  obtain ⟨h1, h2⟩ := k r u' h
  refine ⟨h1, fun hc hr H locs ls hR hS hL hm => ?_⟩
  rcases hv with rfl | ⟨a, rfl⟩
  · exact lv_aload_nN hc.1 hc.2.1 hd rfl (hL.2.2 _ _ hl).2 (h2 hc hr H locs ls hR hS hL hm)
  · exact lv_aload_n hc.1 hc.2.1 hd rfl (hL.2.2 _ _ hl).2 (h2 hc hr H locs ls hR hS hL hm)
theorem x_iadd {α : Type} {an : α → Option Value} {w : q_Wd} {cx : q_Cx} {own nm : String} {cc : ByteArray} {nL f lo m0 : Nat} {ret : Option FieldType} {pc pc2 : Nat} {L : List (Option Value)} {st : List Value} {u : x_U} {oo : Option (α × x_U)} {x y : Int32} (hd : decode cc pc = .ok (.iadd, 1))  (hp : pc + 1 = pc2) (k : x_G w cx own nm cc nL ret f lo m0 an pc2 L (.int (x + y) :: st) u oo) : x_G w cx own nm cc nL ret f lo m0 an pc L (.int y :: .int x :: st) u oo := by
  subst hp
  intro r u' h
  obtain ⟨h1, h2⟩ := k r u' h
  exact ⟨h1, fun hc hr H locs ls hR hS hL hm => lv_iadd hc.1 hc.2.1 hd (h2 hc hr H locs ls hR hS hL hm)⟩
theorem x_isub {α : Type} {an : α → Option Value} {w : q_Wd} {cx : q_Cx} {own nm : String} {cc : ByteArray} {nL f lo m0 : Nat} {ret : Option FieldType} {pc pc2 : Nat} {L : List (Option Value)} {st : List Value} {u : x_U} {oo : Option (α × x_U)} {x y : Int32} (hd : decode cc pc = .ok (.isub, 1))  (hp : pc + 1 = pc2) (k : x_G w cx own nm cc nL ret f lo m0 an pc2 L (.int (x - y) :: st) u oo) : x_G w cx own nm cc nL ret f lo m0 an pc L (.int y :: .int x :: st) u oo := by
  subst hp
  intro r u' h
  obtain ⟨h1, h2⟩ := k r u' h
  exact ⟨h1, fun hc hr H locs ls hR hS hL hm => lv_isub hc.1 hc.2.1 hd (h2 hc hr H locs ls hR hS hL hm)⟩
theorem x_imul {α : Type} {an : α → Option Value} {w : q_Wd} {cx : q_Cx} {own nm : String} {cc : ByteArray} {nL f lo m0 : Nat} {ret : Option FieldType} {pc pc2 : Nat} {L : List (Option Value)} {st : List Value} {u : x_U} {oo : Option (α × x_U)} {x y : Int32} (hd : decode cc pc = .ok (.imul, 1))  (hp : pc + 1 = pc2) (k : x_G w cx own nm cc nL ret f lo m0 an pc2 L (.int (x * y) :: st) u oo) : x_G w cx own nm cc nL ret f lo m0 an pc L (.int y :: .int x :: st) u oo := by
  subst hp
  intro r u' h
  obtain ⟨h1, h2⟩ := k r u' h
  exact ⟨h1, fun hc hr H locs ls hR hS hL hm => lv_imul hc.1 hc.2.1 hd (h2 hc hr H locs ls hR hS hL hm)⟩
theorem x_iand {α : Type} {an : α → Option Value} {w : q_Wd} {cx : q_Cx} {own nm : String} {cc : ByteArray} {nL f lo m0 : Nat} {ret : Option FieldType} {pc pc2 : Nat} {L : List (Option Value)} {st : List Value} {u : x_U} {oo : Option (α × x_U)} {x y : Int32} (hd : decode cc pc = .ok (.iand, 1))  (hp : pc + 1 = pc2) (k : x_G w cx own nm cc nL ret f lo m0 an pc2 L (.int (x &&& y) :: st) u oo) : x_G w cx own nm cc nL ret f lo m0 an pc L (.int y :: .int x :: st) u oo := by
  subst hp
  intro r u' h
  obtain ⟨h1, h2⟩ := k r u' h
  exact ⟨h1, fun hc hr H locs ls hR hS hL hm => lv_iand hc.1 hc.2.1 hd (h2 hc hr H locs ls hR hS hL hm)⟩
theorem x_ior {α : Type} {an : α → Option Value} {w : q_Wd} {cx : q_Cx} {own nm : String} {cc : ByteArray} {nL f lo m0 : Nat} {ret : Option FieldType} {pc pc2 : Nat} {L : List (Option Value)} {st : List Value} {u : x_U} {oo : Option (α × x_U)} {x y : Int32} (hd : decode cc pc = .ok (.ior, 1))  (hp : pc + 1 = pc2) (k : x_G w cx own nm cc nL ret f lo m0 an pc2 L (.int (x ||| y) :: st) u oo) : x_G w cx own nm cc nL ret f lo m0 an pc L (.int y :: .int x :: st) u oo := by
  subst hp
  intro r u' h
  obtain ⟨h1, h2⟩ := k r u' h
  exact ⟨h1, fun hc hr H locs ls hR hS hL hm => lv_ior hc.1 hc.2.1 hd (h2 hc hr H locs ls hR hS hL hm)⟩
theorem x_ixor {α : Type} {an : α → Option Value} {w : q_Wd} {cx : q_Cx} {own nm : String} {cc : ByteArray} {nL f lo m0 : Nat} {ret : Option FieldType} {pc pc2 : Nat} {L : List (Option Value)} {st : List Value} {u : x_U} {oo : Option (α × x_U)} {x y : Int32} (hd : decode cc pc = .ok (.ixor, 1))  (hp : pc + 1 = pc2) (k : x_G w cx own nm cc nL ret f lo m0 an pc2 L (.int (x ^^^ y) :: st) u oo) : x_G w cx own nm cc nL ret f lo m0 an pc L (.int y :: .int x :: st) u oo := by
  subst hp
  intro r u' h
  obtain ⟨h1, h2⟩ := k r u' h
  exact ⟨h1, fun hc hr H locs ls hR hS hL hm => lv_ixor hc.1 hc.2.1 hd (h2 hc hr H locs ls hR hS hL hm)⟩
theorem x_ishl {α : Type} {an : α → Option Value} {w : q_Wd} {cx : q_Cx} {own nm : String} {cc : ByteArray} {nL f lo m0 : Nat} {ret : Option FieldType} {pc pc2 : Nat} {L : List (Option Value)} {st : List Value} {u : x_U} {oo : Option (α × x_U)} {x y : Int32} (hd : decode cc pc = .ok (.ishl, 1))  (hp : pc + 1 = pc2) (k : x_G w cx own nm cc nL ret f lo m0 an pc2 L (.int (x <<< (y &&& 31)) :: st) u oo) : x_G w cx own nm cc nL ret f lo m0 an pc L (.int y :: .int x :: st) u oo := by
  subst hp
  intro r u' h
  obtain ⟨h1, h2⟩ := k r u' h
  exact ⟨h1, fun hc hr H locs ls hR hS hL hm => lv_ishl hc.1 hc.2.1 hd (h2 hc hr H locs ls hR hS hL hm)⟩
theorem x_ishr {α : Type} {an : α → Option Value} {w : q_Wd} {cx : q_Cx} {own nm : String} {cc : ByteArray} {nL f lo m0 : Nat} {ret : Option FieldType} {pc pc2 : Nat} {L : List (Option Value)} {st : List Value} {u : x_U} {oo : Option (α × x_U)} {x y : Int32} (hd : decode cc pc = .ok (.ishr, 1))  (hp : pc + 1 = pc2) (k : x_G w cx own nm cc nL ret f lo m0 an pc2 L (.int (x >>> (y &&& 31)) :: st) u oo) : x_G w cx own nm cc nL ret f lo m0 an pc L (.int y :: .int x :: st) u oo := by
  subst hp
  intro r u' h
  obtain ⟨h1, h2⟩ := k r u' h
  exact ⟨h1, fun hc hr H locs ls hR hS hL hm => lv_ishr hc.1 hc.2.1 hd (h2 hc hr H locs ls hR hS hL hm)⟩
theorem x_iushr {α : Type} {an : α → Option Value} {w : q_Wd} {cx : q_Cx} {own nm : String} {cc : ByteArray} {nL f lo m0 : Nat} {ret : Option FieldType} {pc pc2 : Nat} {L : List (Option Value)} {st : List Value} {u : x_U} {oo : Option (α × x_U)} {x y : Int32} (hd : decode cc pc = .ok (.iushr, 1))  (hp : pc + 1 = pc2) (k : x_G w cx own nm cc nL ret f lo m0 an pc2 L (.int (q_ushr x y) :: st) u oo) : x_G w cx own nm cc nL ret f lo m0 an pc L (.int y :: .int x :: st) u oo := by
  subst hp
  intro r u' h
  obtain ⟨h1, h2⟩ := k r u' h
  exact ⟨h1, fun hc hr H locs ls hR hS hL hm => lv_iushr hc.1 hc.2.1 hd rfl (h2 hc hr H locs ls hR hS hL hm)⟩
theorem x_ineg {α : Type} {an : α → Option Value} {w : q_Wd} {cx : q_Cx} {own nm : String} {cc : ByteArray} {nL f lo m0 : Nat} {ret : Option FieldType} {pc pc2 : Nat} {L : List (Option Value)} {st : List Value} {u : x_U} {oo : Option (α × x_U)} {x : Int32} (hd : decode cc pc = .ok (.ineg, 1))  (hp : pc + 1 = pc2) (k : x_G w cx own nm cc nL ret f lo m0 an pc2 L (.int (-x) :: st) u oo) : x_G w cx own nm cc nL ret f lo m0 an pc L (.int x :: st) u oo := by
  subst hp
  intro r u' h
  obtain ⟨h1, h2⟩ := k r u' h
  exact ⟨h1, fun hc hr H locs ls hR hS hL hm => lv_ineg hc.1 hc.2.1 hd (h2 hc hr H locs ls hR hS hL hm)⟩
theorem x_i2b {α : Type} {an : α → Option Value} {w : q_Wd} {cx : q_Cx} {own nm : String} {cc : ByteArray} {nL f lo m0 : Nat} {ret : Option FieldType} {pc pc2 : Nat} {L : List (Option Value)} {st : List Value} {u : x_U} {oo : Option (α × x_U)} {x : Int32} (hd : decode cc pc = .ok (.i2b, 1))  (hp : pc + 1 = pc2) (k : x_G w cx own nm cc nL ret f lo m0 an pc2 L (.int x.toInt8.toInt32 :: st) u oo) : x_G w cx own nm cc nL ret f lo m0 an pc L (.int x :: st) u oo := by
  subst hp
  intro r u' h
  obtain ⟨h1, h2⟩ := k r u' h
  exact ⟨h1, fun hc hr H locs ls hR hS hL hm => lv_i2b hc.1 hc.2.1 hd rfl (h2 hc hr H locs ls hR hS hL hm)⟩
theorem x_i2c {α : Type} {an : α → Option Value} {w : q_Wd} {cx : q_Cx} {own nm : String} {cc : ByteArray} {nL f lo m0 : Nat} {ret : Option FieldType} {pc pc2 : Nat} {L : List (Option Value)} {st : List Value} {u : x_U} {oo : Option (α × x_U)} {x : Int32} (hd : decode cc pc = .ok (.i2c, 1))  (hp : pc + 1 = pc2) (k : x_G w cx own nm cc nL ret f lo m0 an pc2 L (.int (x.toUInt32 % 65536).toInt32 :: st) u oo) : x_G w cx own nm cc nL ret f lo m0 an pc L (.int x :: st) u oo := by
  subst hp
  intro r u' h
  obtain ⟨h1, h2⟩ := k r u' h
  exact ⟨h1, fun hc hr H locs ls hR hS hL hm => lv_i2c hc.1 hc.2.1 hd rfl (h2 hc hr H locs ls hR hS hL hm)⟩
theorem x_pop {α : Type} {an : α → Option Value} {w : q_Wd} {cx : q_Cx} {own nm : String} {cc : ByteArray} {nL f lo m0 : Nat} {ret : Option FieldType} {pc pc2 : Nat} {L : List (Option Value)} {st : List Value} {u : x_U} {oo : Option (α × x_U)} {v : Value} (hd : decode cc pc = .ok (.pop, 1)) (hv : v.category = 1) (hp : pc + 1 = pc2) (k : x_G w cx own nm cc nL ret f lo m0 an pc2 L (st) u oo) : x_G w cx own nm cc nL ret f lo m0 an pc L (v :: st) u oo := by
  subst hp
  intro r u' h
  obtain ⟨h1, h2⟩ := k r u' h
  exact ⟨h1, fun hc hr H locs ls hR hS hL hm => lv_pop hc.1 hc.2.1 hd hv (h2 hc hr H locs ls hR hS hL hm)⟩
theorem x_dup {α : Type} {an : α → Option Value} {w : q_Wd} {cx : q_Cx} {own nm : String} {cc : ByteArray} {nL f lo m0 : Nat} {ret : Option FieldType} {pc pc2 : Nat} {L : List (Option Value)} {st : List Value} {u : x_U} {oo : Option (α × x_U)} {v : Value} (hd : decode cc pc = .ok (.dup, 1)) (hv : v.category = 1) (hp : pc + 1 = pc2) (k : x_G w cx own nm cc nL ret f lo m0 an pc2 L (v :: v :: st) u oo) : x_G w cx own nm cc nL ret f lo m0 an pc L (v :: st) u oo := by
  subst hp
  intro r u' h
  obtain ⟨h1, h2⟩ := k r u' h
  exact ⟨h1, fun hc hr H locs ls hR hS hL hm => lv_dup hc.1 hc.2.1 hd hv (h2 hc hr H locs ls hR hS hL hm)⟩
theorem x_dup_x1 {α : Type} {an : α → Option Value} {w : q_Wd} {cx : q_Cx} {own nm : String} {cc : ByteArray} {nL f lo m0 : Nat} {ret : Option FieldType} {pc pc2 : Nat} {L : List (Option Value)} {st : List Value} {u : x_U} {oo : Option (α × x_U)} {a b : Value} (hd : decode cc pc = .ok (.dup_x1, 1)) (ha : a.category = 1) (hb : b.category = 1) (hp : pc + 1 = pc2) (k : x_G w cx own nm cc nL ret f lo m0 an pc2 L (a :: b :: a :: st) u oo) : x_G w cx own nm cc nL ret f lo m0 an pc L (a :: b :: st) u oo := by
  subst hp
  intro r u' h
  obtain ⟨h1, h2⟩ := k r u' h
  exact ⟨h1, fun hc hr H locs ls hR hS hL hm => lv_dup_x1 hc.1 hc.2.1 hd ha hb (h2 hc hr H locs ls hR hS hL hm)⟩
theorem x_dup2 {α : Type} {an : α → Option Value} {w : q_Wd} {cx : q_Cx} {own nm : String} {cc : ByteArray} {nL f lo m0 : Nat} {ret : Option FieldType} {pc pc2 : Nat} {L : List (Option Value)} {st : List Value} {u : x_U} {oo : Option (α × x_U)} {a b : Value} (hd : decode cc pc = .ok (.dup2, 1)) (ha : a.category = 1) (hb : b.category = 1) (hp : pc + 1 = pc2) (k : x_G w cx own nm cc nL ret f lo m0 an pc2 L (a :: b :: a :: b :: st) u oo) : x_G w cx own nm cc nL ret f lo m0 an pc L (a :: b :: st) u oo := by
  subst hp
  intro r u' h
  obtain ⟨h1, h2⟩ := k r u' h
  exact ⟨h1, fun hc hr H locs ls hR hS hL hm => lv_dup2_11 hc.1 hc.2.1 hd ha hb (h2 hc hr H locs ls hR hS hL hm)⟩
theorem x_anull {α : Type} {an : α → Option Value} {w : q_Wd} {cx : q_Cx} {own nm : String} {cc : ByteArray} {nL f lo m0 : Nat} {ret : Option FieldType} {pc pc2 : Nat} {L : List (Option Value)} {st : List Value} {u : x_U} {oo : Option (α × x_U)}  (hd : decode cc pc = .ok (.aconst_null, 1))  (hp : pc + 1 = pc2) (k : x_G w cx own nm cc nL ret f lo m0 an pc2 L (x_v w 0 :: st) u oo) : x_G w cx own nm cc nL ret f lo m0 an pc L (st) u oo := by
  subst hp
  intro r u' h
  obtain ⟨h1, h2⟩ := k r u' h
  exact ⟨h1, fun hc hr H locs ls hR hS hL hm => lv_null hc.1 hc.2.1 hd (h2 hc hr H locs ls hR hS hL hm)⟩
theorem x_goto {α : Type} {an : α → Option Value} {w : q_Wd} {cx : q_Cx} {own nm : String} {cc : ByteArray} {nL f lo m0 : Nat} {ret : Option FieldType} {pc pc2 : Nat} {L : List (Option Value)} {st : List Value} {u : x_U} {oo : Option (α × x_U)} {off : Int} (hd : decode cc pc = .ok (.goto off, 3)) (hp : (pc : Int) + off = (pc2 : Int)) (k : x_G w cx own nm cc nL ret f lo m0 an pc2 L st u oo) : x_G w cx own nm cc nL ret f lo m0 an pc L st u oo := by
  intro r u' h
  obtain ⟨h1, h2⟩ := k r u' h
  exact ⟨h1, fun hc hr H locs ls hR hS hL hm => lv_goto hc.1 hc.2.1 hd hp (h2 hc hr H locs ls hR hS hL hm)⟩
theorem x_ifnull {α : Type} {an : α → Option Value} {w : q_Wd} {cx : q_Cx} {own nm : String} {cc : ByteArray} {nL f lo m0 : Nat} {ret : Option FieldType} {pc pc2 : Nat} {L : List (Option Value)} {st : List Value} {u : x_U} {oo : Option (α × x_U)} {pc1 : Nat} {x : Nat} {off : Int} {dc : Decidable (x = 0)} {o2 : Option (α × x_U)} (hd : decode cc pc = .ok (.ifnull off, 3)) (ht : (pc : Int) + off = (pc1 : Int)) (hp : pc + 3 = pc2) (ka : x = 0 → x_G w cx own nm cc nL ret f lo m0 an pc1 L st u oo) (kb : ¬ x = 0 → x_G w cx own nm cc nL ret f lo m0 an pc2 L st u o2) : x_G w cx own nm cc nL ret f lo m0 an pc L (x_v w x :: st) u (@ite _ (x = 0) dc oo o2) := by
  subst hp
  intro r u' h
  by_cases hx : x = 0
  · rw [if_pos hx] at h
    obtain ⟨h1, h2⟩ := ka hx r u' h
    subst hx
    exact ⟨h1, fun hc hr H locs ls hR hS hL hm => lv_ifnullN hc.1 hc.2.1 hd ht (h2 hc hr H locs ls hR hS hL hm)⟩
  · rw [if_neg hx] at h
    obtain ⟨h1, h2⟩ := kb hx r u' h
    rw [x_v1 hx]
    exact ⟨h1, fun hc hr H locs ls hR hS hL hm => lv_ifnull hc.1 hc.2.1 hd (h2 hc hr H locs ls hR hS hL hm)⟩
theorem x_ifnonnull {α : Type} {an : α → Option Value} {w : q_Wd} {cx : q_Cx} {own nm : String} {cc : ByteArray} {nL f lo m0 : Nat} {ret : Option FieldType} {pc pc2 : Nat} {L : List (Option Value)} {st : List Value} {u : x_U} {oo : Option (α × x_U)} {pc1 : Nat} {x : Nat} {off : Int} {dc : Decidable (x = 0)} {o2 : Option (α × x_U)} (hd : decode cc pc = .ok (.ifnonnull off, 3)) (ht : (pc : Int) + off = (pc2 : Int)) (hp : pc + 3 = pc1) (ka : x = 0 → x_G w cx own nm cc nL ret f lo m0 an pc1 L st u oo) (kb : ¬ x = 0 → x_G w cx own nm cc nL ret f lo m0 an pc2 L st u o2) : x_G w cx own nm cc nL ret f lo m0 an pc L (x_v w x :: st) u (@ite _ (x = 0) dc oo o2) := by
  subst hp
  intro r u' h
  by_cases hx : x = 0
  · rw [if_pos hx] at h
    obtain ⟨h1, h2⟩ := ka hx r u' h
    subst hx
    exact ⟨h1, fun hc hr H locs ls hR hS hL hm => lv_ifnonnullN hc.1 hc.2.1 hd (h2 hc hr H locs ls hR hS hL hm)⟩
  · rw [if_neg hx] at h
    obtain ⟨h1, h2⟩ := kb hx r u' h
    rw [x_v1 hx]
    exact ⟨h1, fun hc hr H locs ls hR hS hL hm => lv_ifnonnull hc.1 hc.2.1 hd ht (h2 hc hr H locs ls hR hS hL hm)⟩
theorem x_if_eq {α : Type} {an : α → Option Value} {w : q_Wd} {cx : q_Cx} {own nm : String} {cc : ByteArray} {nL f lo m0 : Nat} {ret : Option FieldType} {pc pc2 : Nat} {L : List (Option Value)} {st : List Value} {u : x_U} {oo : Option (α × x_U)} {pc1 : Nat} {x : Int32} {off : Int} {dc : Decidable (x = 0)} {o2 : Option (α × x_U)} (hd : decode cc pc = .ok (.ifCond .eq off, 3)) (ht : (pc : Int) + off = (pc1 : Int)) (hp : pc + 3 = pc2) (ka : x = 0 → x_G w cx own nm cc nL ret f lo m0 an pc1 L st u oo) (kb : ¬ x = 0 → x_G w cx own nm cc nL ret f lo m0 an pc2 L st u o2) : x_G w cx own nm cc nL ret f lo m0 an pc L (.int x :: st) u (@ite _ (x = 0) dc oo o2) := by
  subst hp
  intro r u' h
  by_cases hx : x = 0
  · rw [if_pos hx] at h
    obtain ⟨h1, h2⟩ := ka hx r u' h
    exact ⟨h1, fun hc hr H locs ls hR hS hL hm => lv_if_eq hc.1 hc.2.1 hd ht (fun q => h2 hc hr H locs ls hR hS hL hm) (fun q => absurd hx q)⟩
  · rw [if_neg hx] at h
    obtain ⟨h1, h2⟩ := kb hx r u' h
    exact ⟨h1, fun hc hr H locs ls hR hS hL hm => lv_if_eq hc.1 hc.2.1 hd ht (fun q => absurd q hx) (fun q => h2 hc hr H locs ls hR hS hL hm)⟩
theorem x_icmp_eq {α : Type} {an : α → Option Value} {w : q_Wd} {cx : q_Cx} {own nm : String} {cc : ByteArray} {nL f lo m0 : Nat} {ret : Option FieldType} {pc pc2 : Nat} {L : List (Option Value)} {st : List Value} {u : x_U} {oo : Option (α × x_U)} {pc1 : Nat} {x y : Int32} {off : Int} {dc : Decidable (x = y)} {o2 : Option (α × x_U)} (hd : decode cc pc = .ok (.if_icmp .eq off, 3)) (ht : (pc : Int) + off = (pc1 : Int)) (hp : pc + 3 = pc2) (ka : x = y → x_G w cx own nm cc nL ret f lo m0 an pc1 L st u oo) (kb : ¬ x = y → x_G w cx own nm cc nL ret f lo m0 an pc2 L st u o2) : x_G w cx own nm cc nL ret f lo m0 an pc L (.int y :: .int x :: st) u (@ite _ (x = y) dc oo o2) := by
  subst hp
  intro r u' h
  by_cases hx : x = y
  · rw [if_pos hx] at h
    obtain ⟨h1, h2⟩ := ka hx r u' h
    exact ⟨h1, fun hc hr H locs ls hR hS hL hm => lv_icmp_eq hc.1 hc.2.1 hd ht (fun q => h2 hc hr H locs ls hR hS hL hm) (fun q => absurd hx q)⟩
  · rw [if_neg hx] at h
    obtain ⟨h1, h2⟩ := kb hx r u' h
    exact ⟨h1, fun hc hr H locs ls hR hS hL hm => lv_icmp_eq hc.1 hc.2.1 hd ht (fun q => absurd q hx) (fun q => h2 hc hr H locs ls hR hS hL hm)⟩
theorem x_if_ne {α : Type} {an : α → Option Value} {w : q_Wd} {cx : q_Cx} {own nm : String} {cc : ByteArray} {nL f lo m0 : Nat} {ret : Option FieldType} {pc pc2 : Nat} {L : List (Option Value)} {st : List Value} {u : x_U} {oo : Option (α × x_U)} {pc1 : Nat} {x : Int32} {off : Int} {dc : Decidable (x = 0)} {o2 : Option (α × x_U)} (hd : decode cc pc = .ok (.ifCond .ne off, 3)) (ht : (pc : Int) + off = (pc2 : Int)) (hp : pc + 3 = pc1) (ka : x = 0 → x_G w cx own nm cc nL ret f lo m0 an pc1 L st u oo) (kb : ¬ x = 0 → x_G w cx own nm cc nL ret f lo m0 an pc2 L st u o2) : x_G w cx own nm cc nL ret f lo m0 an pc L (.int x :: st) u (@ite _ (x = 0) dc oo o2) := by
  subst hp
  intro r u' h
  by_cases hx : x = 0
  · rw [if_pos hx] at h
    obtain ⟨h1, h2⟩ := ka hx r u' h
    exact ⟨h1, fun hc hr H locs ls hR hS hL hm => lv_if_ne hc.1 hc.2.1 hd ht (fun q => absurd hx q) (fun q => h2 hc hr H locs ls hR hS hL hm)⟩
  · rw [if_neg hx] at h
    obtain ⟨h1, h2⟩ := kb hx r u' h
    exact ⟨h1, fun hc hr H locs ls hR hS hL hm => lv_if_ne hc.1 hc.2.1 hd ht (fun q => h2 hc hr H locs ls hR hS hL hm) (fun q => absurd q hx)⟩
theorem x_icmp_ne {α : Type} {an : α → Option Value} {w : q_Wd} {cx : q_Cx} {own nm : String} {cc : ByteArray} {nL f lo m0 : Nat} {ret : Option FieldType} {pc pc2 : Nat} {L : List (Option Value)} {st : List Value} {u : x_U} {oo : Option (α × x_U)} {pc1 : Nat} {x y : Int32} {off : Int} {dc : Decidable (x = y)} {o2 : Option (α × x_U)} (hd : decode cc pc = .ok (.if_icmp .ne off, 3)) (ht : (pc : Int) + off = (pc2 : Int)) (hp : pc + 3 = pc1) (ka : x = y → x_G w cx own nm cc nL ret f lo m0 an pc1 L st u oo) (kb : ¬ x = y → x_G w cx own nm cc nL ret f lo m0 an pc2 L st u o2) : x_G w cx own nm cc nL ret f lo m0 an pc L (.int y :: .int x :: st) u (@ite _ (x = y) dc oo o2) := by
  subst hp
  intro r u' h
  by_cases hx : x = y
  · rw [if_pos hx] at h
    obtain ⟨h1, h2⟩ := ka hx r u' h
    exact ⟨h1, fun hc hr H locs ls hR hS hL hm => lv_icmp_ne hc.1 hc.2.1 hd ht (fun q => absurd hx q) (fun q => h2 hc hr H locs ls hR hS hL hm)⟩
  · rw [if_neg hx] at h
    obtain ⟨h1, h2⟩ := kb hx r u' h
    exact ⟨h1, fun hc hr H locs ls hR hS hL hm => lv_icmp_ne hc.1 hc.2.1 hd ht (fun q => h2 hc hr H locs ls hR hS hL hm) (fun q => absurd q hx)⟩
theorem x_if_lt {α : Type} {an : α → Option Value} {w : q_Wd} {cx : q_Cx} {own nm : String} {cc : ByteArray} {nL f lo m0 : Nat} {ret : Option FieldType} {pc pc2 : Nat} {L : List (Option Value)} {st : List Value} {u : x_U} {oo : Option (α × x_U)} {pc1 : Nat} {x : Int32} {off : Int} {dc : Decidable (x < 0)} {o2 : Option (α × x_U)} (hd : decode cc pc = .ok (.ifCond .lt off, 3)) (ht : (pc : Int) + off = (pc1 : Int)) (hp : pc + 3 = pc2) (ka : x < 0 → x_G w cx own nm cc nL ret f lo m0 an pc1 L st u oo) (kb : ¬ x < 0 → x_G w cx own nm cc nL ret f lo m0 an pc2 L st u o2) : x_G w cx own nm cc nL ret f lo m0 an pc L (.int x :: st) u (@ite _ (x < 0) dc oo o2) := by
  subst hp
  intro r u' h
  by_cases hx : x < 0
  · rw [if_pos hx] at h
    obtain ⟨h1, h2⟩ := ka hx r u' h
    exact ⟨h1, fun hc hr H locs ls hR hS hL hm => lv_if_lt hc.1 hc.2.1 hd ht (fun q => h2 hc hr H locs ls hR hS hL hm) (fun q => absurd hx q)⟩
  · rw [if_neg hx] at h
    obtain ⟨h1, h2⟩ := kb hx r u' h
    exact ⟨h1, fun hc hr H locs ls hR hS hL hm => lv_if_lt hc.1 hc.2.1 hd ht (fun q => absurd q hx) (fun q => h2 hc hr H locs ls hR hS hL hm)⟩
theorem x_icmp_lt {α : Type} {an : α → Option Value} {w : q_Wd} {cx : q_Cx} {own nm : String} {cc : ByteArray} {nL f lo m0 : Nat} {ret : Option FieldType} {pc pc2 : Nat} {L : List (Option Value)} {st : List Value} {u : x_U} {oo : Option (α × x_U)} {pc1 : Nat} {x y : Int32} {off : Int} {dc : Decidable (x < y)} {o2 : Option (α × x_U)} (hd : decode cc pc = .ok (.if_icmp .lt off, 3)) (ht : (pc : Int) + off = (pc1 : Int)) (hp : pc + 3 = pc2) (ka : x < y → x_G w cx own nm cc nL ret f lo m0 an pc1 L st u oo) (kb : ¬ x < y → x_G w cx own nm cc nL ret f lo m0 an pc2 L st u o2) : x_G w cx own nm cc nL ret f lo m0 an pc L (.int y :: .int x :: st) u (@ite _ (x < y) dc oo o2) := by
  subst hp
  intro r u' h
  by_cases hx : x < y
  · rw [if_pos hx] at h
    obtain ⟨h1, h2⟩ := ka hx r u' h
    exact ⟨h1, fun hc hr H locs ls hR hS hL hm => lv_icmp_lt hc.1 hc.2.1 hd ht (fun q => h2 hc hr H locs ls hR hS hL hm) (fun q => absurd hx q)⟩
  · rw [if_neg hx] at h
    obtain ⟨h1, h2⟩ := kb hx r u' h
    exact ⟨h1, fun hc hr H locs ls hR hS hL hm => lv_icmp_lt hc.1 hc.2.1 hd ht (fun q => absurd q hx) (fun q => h2 hc hr H locs ls hR hS hL hm)⟩
theorem x_if_ge {α : Type} {an : α → Option Value} {w : q_Wd} {cx : q_Cx} {own nm : String} {cc : ByteArray} {nL f lo m0 : Nat} {ret : Option FieldType} {pc pc2 : Nat} {L : List (Option Value)} {st : List Value} {u : x_U} {oo : Option (α × x_U)} {pc1 : Nat} {x : Int32} {off : Int} {dc : Decidable (x < 0)} {o2 : Option (α × x_U)} (hd : decode cc pc = .ok (.ifCond .ge off, 3)) (ht : (pc : Int) + off = (pc2 : Int)) (hp : pc + 3 = pc1) (ka : x < 0 → x_G w cx own nm cc nL ret f lo m0 an pc1 L st u oo) (kb : ¬ x < 0 → x_G w cx own nm cc nL ret f lo m0 an pc2 L st u o2) : x_G w cx own nm cc nL ret f lo m0 an pc L (.int x :: st) u (@ite _ (x < 0) dc oo o2) := by
  subst hp
  intro r u' h
  by_cases hx : x < 0
  · rw [if_pos hx] at h
    obtain ⟨h1, h2⟩ := ka hx r u' h
    exact ⟨h1, fun hc hr H locs ls hR hS hL hm => lv_if_ge hc.1 hc.2.1 hd ht (fun q => absurd hx (Int32.not_lt.mpr q)) (fun q => h2 hc hr H locs ls hR hS hL hm)⟩
  · rw [if_neg hx] at h
    obtain ⟨h1, h2⟩ := kb hx r u' h
    exact ⟨h1, fun hc hr H locs ls hR hS hL hm => lv_if_ge hc.1 hc.2.1 hd ht (fun q => h2 hc hr H locs ls hR hS hL hm) (fun q => absurd (Int32.not_le.mp q) hx)⟩
theorem x_icmp_ge {α : Type} {an : α → Option Value} {w : q_Wd} {cx : q_Cx} {own nm : String} {cc : ByteArray} {nL f lo m0 : Nat} {ret : Option FieldType} {pc pc2 : Nat} {L : List (Option Value)} {st : List Value} {u : x_U} {oo : Option (α × x_U)} {pc1 : Nat} {x y : Int32} {off : Int} {dc : Decidable (x < y)} {o2 : Option (α × x_U)} (hd : decode cc pc = .ok (.if_icmp .ge off, 3)) (ht : (pc : Int) + off = (pc2 : Int)) (hp : pc + 3 = pc1) (ka : x < y → x_G w cx own nm cc nL ret f lo m0 an pc1 L st u oo) (kb : ¬ x < y → x_G w cx own nm cc nL ret f lo m0 an pc2 L st u o2) : x_G w cx own nm cc nL ret f lo m0 an pc L (.int y :: .int x :: st) u (@ite _ (x < y) dc oo o2) := by
  subst hp
  intro r u' h
  by_cases hx : x < y
  · rw [if_pos hx] at h
    obtain ⟨h1, h2⟩ := ka hx r u' h
    exact ⟨h1, fun hc hr H locs ls hR hS hL hm => lv_icmp_ge hc.1 hc.2.1 hd ht (fun q => absurd hx (Int32.not_lt.mpr q)) (fun q => h2 hc hr H locs ls hR hS hL hm)⟩
  · rw [if_neg hx] at h
    obtain ⟨h1, h2⟩ := kb hx r u' h
    exact ⟨h1, fun hc hr H locs ls hR hS hL hm => lv_icmp_ge hc.1 hc.2.1 hd ht (fun q => h2 hc hr H locs ls hR hS hL hm) (fun q => absurd (Int32.not_le.mp q) hx)⟩
theorem x_if_le {α : Type} {an : α → Option Value} {w : q_Wd} {cx : q_Cx} {own nm : String} {cc : ByteArray} {nL f lo m0 : Nat} {ret : Option FieldType} {pc pc2 : Nat} {L : List (Option Value)} {st : List Value} {u : x_U} {oo : Option (α × x_U)} {pc1 : Nat} {x : Int32} {off : Int} {dc : Decidable (x ≤ 0)} {o2 : Option (α × x_U)} (hd : decode cc pc = .ok (.ifCond .le off, 3)) (ht : (pc : Int) + off = (pc1 : Int)) (hp : pc + 3 = pc2) (ka : x ≤ 0 → x_G w cx own nm cc nL ret f lo m0 an pc1 L st u oo) (kb : ¬ x ≤ 0 → x_G w cx own nm cc nL ret f lo m0 an pc2 L st u o2) : x_G w cx own nm cc nL ret f lo m0 an pc L (.int x :: st) u (@ite _ (x ≤ 0) dc oo o2) := by
  subst hp
  intro r u' h
  by_cases hx : x ≤ 0
  · rw [if_pos hx] at h
    obtain ⟨h1, h2⟩ := ka hx r u' h
    exact ⟨h1, fun hc hr H locs ls hR hS hL hm => lv_if_le hc.1 hc.2.1 hd ht (fun q => h2 hc hr H locs ls hR hS hL hm) (fun q => absurd hx q)⟩
  · rw [if_neg hx] at h
    obtain ⟨h1, h2⟩ := kb hx r u' h
    exact ⟨h1, fun hc hr H locs ls hR hS hL hm => lv_if_le hc.1 hc.2.1 hd ht (fun q => absurd q hx) (fun q => h2 hc hr H locs ls hR hS hL hm)⟩
theorem x_icmp_le {α : Type} {an : α → Option Value} {w : q_Wd} {cx : q_Cx} {own nm : String} {cc : ByteArray} {nL f lo m0 : Nat} {ret : Option FieldType} {pc pc2 : Nat} {L : List (Option Value)} {st : List Value} {u : x_U} {oo : Option (α × x_U)} {pc1 : Nat} {x y : Int32} {off : Int} {dc : Decidable (x ≤ y)} {o2 : Option (α × x_U)} (hd : decode cc pc = .ok (.if_icmp .le off, 3)) (ht : (pc : Int) + off = (pc1 : Int)) (hp : pc + 3 = pc2) (ka : x ≤ y → x_G w cx own nm cc nL ret f lo m0 an pc1 L st u oo) (kb : ¬ x ≤ y → x_G w cx own nm cc nL ret f lo m0 an pc2 L st u o2) : x_G w cx own nm cc nL ret f lo m0 an pc L (.int y :: .int x :: st) u (@ite _ (x ≤ y) dc oo o2) := by
  subst hp
  intro r u' h
  by_cases hx : x ≤ y
  · rw [if_pos hx] at h
    obtain ⟨h1, h2⟩ := ka hx r u' h
    exact ⟨h1, fun hc hr H locs ls hR hS hL hm => lv_icmp_le hc.1 hc.2.1 hd ht (fun q => h2 hc hr H locs ls hR hS hL hm) (fun q => absurd hx q)⟩
  · rw [if_neg hx] at h
    obtain ⟨h1, h2⟩ := kb hx r u' h
    exact ⟨h1, fun hc hr H locs ls hR hS hL hm => lv_icmp_le hc.1 hc.2.1 hd ht (fun q => absurd q hx) (fun q => h2 hc hr H locs ls hR hS hL hm)⟩
theorem x_if_gt {α : Type} {an : α → Option Value} {w : q_Wd} {cx : q_Cx} {own nm : String} {cc : ByteArray} {nL f lo m0 : Nat} {ret : Option FieldType} {pc pc2 : Nat} {L : List (Option Value)} {st : List Value} {u : x_U} {oo : Option (α × x_U)} {pc1 : Nat} {x : Int32} {off : Int} {dc : Decidable (x ≤ 0)} {o2 : Option (α × x_U)} (hd : decode cc pc = .ok (.ifCond .gt off, 3)) (ht : (pc : Int) + off = (pc2 : Int)) (hp : pc + 3 = pc1) (ka : x ≤ 0 → x_G w cx own nm cc nL ret f lo m0 an pc1 L st u oo) (kb : ¬ x ≤ 0 → x_G w cx own nm cc nL ret f lo m0 an pc2 L st u o2) : x_G w cx own nm cc nL ret f lo m0 an pc L (.int x :: st) u (@ite _ (x ≤ 0) dc oo o2) := by
  subst hp
  intro r u' h
  by_cases hx : x ≤ 0
  · rw [if_pos hx] at h
    obtain ⟨h1, h2⟩ := ka hx r u' h
    exact ⟨h1, fun hc hr H locs ls hR hS hL hm => lv_if_gt hc.1 hc.2.1 hd ht (fun q => absurd hx (Int32.not_le.mpr q)) (fun q => h2 hc hr H locs ls hR hS hL hm)⟩
  · rw [if_neg hx] at h
    obtain ⟨h1, h2⟩ := kb hx r u' h
    exact ⟨h1, fun hc hr H locs ls hR hS hL hm => lv_if_gt hc.1 hc.2.1 hd ht (fun q => h2 hc hr H locs ls hR hS hL hm) (fun q => absurd (Int32.not_lt.mp q) hx)⟩
theorem x_icmp_gt {α : Type} {an : α → Option Value} {w : q_Wd} {cx : q_Cx} {own nm : String} {cc : ByteArray} {nL f lo m0 : Nat} {ret : Option FieldType} {pc pc2 : Nat} {L : List (Option Value)} {st : List Value} {u : x_U} {oo : Option (α × x_U)} {pc1 : Nat} {x y : Int32} {off : Int} {dc : Decidable (x ≤ y)} {o2 : Option (α × x_U)} (hd : decode cc pc = .ok (.if_icmp .gt off, 3)) (ht : (pc : Int) + off = (pc2 : Int)) (hp : pc + 3 = pc1) (ka : x ≤ y → x_G w cx own nm cc nL ret f lo m0 an pc1 L st u oo) (kb : ¬ x ≤ y → x_G w cx own nm cc nL ret f lo m0 an pc2 L st u o2) : x_G w cx own nm cc nL ret f lo m0 an pc L (.int y :: .int x :: st) u (@ite _ (x ≤ y) dc oo o2) := by
  subst hp
  intro r u' h
  by_cases hx : x ≤ y
  · rw [if_pos hx] at h
    obtain ⟨h1, h2⟩ := ka hx r u' h
    exact ⟨h1, fun hc hr H locs ls hR hS hL hm => lv_icmp_gt hc.1 hc.2.1 hd ht (fun q => absurd hx (Int32.not_le.mpr q)) (fun q => h2 hc hr H locs ls hR hS hL hm)⟩
  · rw [if_neg hx] at h
    obtain ⟨h1, h2⟩ := kb hx r u' h
    exact ⟨h1, fun hc hr H locs ls hR hS hL hm => lv_icmp_gt hc.1 hc.2.1 hd ht (fun q => h2 hc hr H locs ls hR hS hL hm) (fun q => absurd (Int32.not_lt.mp q) hx)⟩
theorem x_istore {α : Type} {an : α → Option Value} {w : q_Wd} {cx : q_Cx} {own nm : String} {cc : ByteArray} {nL f lo m0 : Nat} {ret : Option FieldType} {pc pc2 : Nat} {L : List (Option Value)} {st : List Value} {u : x_U} {oo : Option (α × x_U)} {i : Nat} {x : Int32} {L2 : List (Option Value)} (hd : decode cc pc = .ok (.istore i, 2)) (hi : i < nL) (hl : q_put L i (.int x) = L2) (hp : pc + 2 = pc2) (k : x_G w cx own nm cc nL ret f lo m0 an pc2 L2 st u oo) : x_G w cx own nm cc nL ret f lo m0 an pc L (.int x :: st) u oo := by
  subst hp
  subst hl
  intro r u' h
  obtain ⟨h1, h2⟩ := k r u' h
  refine ⟨h1, fun hc hr H locs ls hR hS hL hm => ?_⟩
  obtain ⟨ls', e', h'⟩ := hL.store (v := .int x) hi rfl
  intro T hT X
  obtain ⟨t, a, b⟩ := h2 hc hr H locs ls' hR hS h' hm T hT X
  refine ⟨t, ?_, b⟩
  jvm_step X.here [X.here.top, ↓top_set X.here.top, hc.1, hc.2.1, hd, e']
  exact a
theorem x_istore_n {α : Type} {an : α → Option Value} {w : q_Wd} {cx : q_Cx} {own nm : String} {cc : ByteArray} {nL f lo m0 : Nat} {ret : Option FieldType} {pc pc2 : Nat} {L : List (Option Value)} {st : List Value} {u : x_U} {oo : Option (α × x_U)} {i : Fin 4} {x : Int32} {L2 : List (Option Value)} (hd : decode cc pc = .ok (.istore_n i, 1)) (hi : i.val < nL) (hl : q_put L i.val (.int x) = L2) (hp : pc + 1 = pc2) (k : x_G w cx own nm cc nL ret f lo m0 an pc2 L2 st u oo) : x_G w cx own nm cc nL ret f lo m0 an pc L (.int x :: st) u oo := by
  subst hp
  subst hl
  intro r u' h
  obtain ⟨h1, h2⟩ := k r u' h
  refine ⟨h1, fun hc hr H locs ls hR hS hL hm => ?_⟩
  obtain ⟨ls', e', h'⟩ := hL.store (v := .int x) hi rfl
  intro T hT X
  obtain ⟨t, a, b⟩ := h2 hc hr H locs ls' hR hS h' hm T hT X
  refine ⟨t, ?_, b⟩
  jvm_step X.here [X.here.top, ↓top_set X.here.top, hc.1, hc.2.1, hd, e']
  exact a
theorem x_astore {α : Type} {an : α → Option Value} {w : q_Wd} {cx : q_Cx} {own nm : String} {cc : ByteArray} {nL f lo m0 : Nat} {ret : Option FieldType} {pc pc2 : Nat} {L : List (Option Value)} {st : List Value} {u : x_U} {oo : Option (α × x_U)} {i : Nat} {v : Value} {L2 : List (Option Value)} (hv : x_isR v) (hd : decode cc pc = .ok (.astore i, 2)) (hi : i < nL) (hl : q_put L i v = L2) (hp : pc + 2 = pc2) (k : x_G w cx own nm cc nL ret f lo m0 an pc2 L2 st u oo) : x_G w cx own nm cc nL ret f lo m0 an pc L (v :: st) u oo := by
  subst hp
  subst hl
  intro r u' h
  obtain ⟨h1, h2⟩ := k r u' h
  refine ⟨h1, fun hc hr H locs ls hR hS hL hm => ?_⟩
  rcases hv with rfl | ⟨x, rfl⟩
  · obtain ⟨ls', e', h'⟩ := hL.store (v := .null) hi rfl
    intro T hT X
    obtain ⟨t, a, b⟩ := h2 hc hr H locs ls' hR hS h' hm T hT X
    refine ⟨t, ?_, b⟩
    jvm_step X.here [X.here.top, ↓top_set X.here.top, hc.1, hc.2.1, hd, e', Value.isRef]
    exact a
  · obtain ⟨ls', e', h'⟩ := hL.store (v := .ref x) hi rfl
    intro T hT X
    obtain ⟨t, a, b⟩ := h2 hc hr H locs ls' hR hS h' hm T hT X
    refine ⟨t, ?_, b⟩
    jvm_step X.here [X.here.top, ↓top_set X.here.top, hc.1, hc.2.1, hd, e', Value.isRef]
    exact a
theorem x_astore_n {α : Type} {an : α → Option Value} {w : q_Wd} {cx : q_Cx} {own nm : String} {cc : ByteArray} {nL f lo m0 : Nat} {ret : Option FieldType} {pc pc2 : Nat} {L : List (Option Value)} {st : List Value} {u : x_U} {oo : Option (α × x_U)} {i : Fin 4} {v : Value} {L2 : List (Option Value)} (hv : x_isR v) (hd : decode cc pc = .ok (.astore_n i, 1)) (hi : i.val < nL) (hl : q_put L i.val v = L2) (hp : pc + 1 = pc2) (k : x_G w cx own nm cc nL ret f lo m0 an pc2 L2 st u oo) : x_G w cx own nm cc nL ret f lo m0 an pc L (v :: st) u oo := by
  subst hp
  subst hl
  intro r u' h
  obtain ⟨h1, h2⟩ := k r u' h
  refine ⟨h1, fun hc hr H locs ls hR hS hL hm => ?_⟩
  rcases hv with rfl | ⟨x, rfl⟩
  · obtain ⟨ls', e', h'⟩ := hL.store (v := .null) hi rfl
    intro T hT X
    obtain ⟨t, a, b⟩ := h2 hc hr H locs ls' hR hS h' hm T hT X
    refine ⟨t, ?_, b⟩
    jvm_step X.here [X.here.top, ↓top_set X.here.top, hc.1, hc.2.1, hd, e', Value.isRef]
    exact a
  · obtain ⟨ls', e', h'⟩ := hL.store (v := .ref x) hi rfl
    intro T hT X
    obtain ⟨t, a, b⟩ := h2 hc hr H locs ls' hR hS h' hm T hT X
    refine ⟨t, ?_, b⟩
    jvm_step X.here [X.here.top, ↓top_set X.here.top, hc.1, hc.2.1, hd, e', Value.isRef]
    exact a
theorem x_iinc {α : Type} {an : α → Option Value} {w : q_Wd} {cx : q_Cx} {own nm : String} {cc : ByteArray} {nL f lo m0 : Nat} {ret : Option FieldType} {pc pc2 : Nat} {L : List (Option Value)} {st : List Value} {u : x_U} {oo : Option (α × x_U)} {i : Nat} {n : Int} {x v : Int32} {L2 : List (Option Value)} (hd : decode cc pc = .ok (.iinc i n, 3)) (hx : q_nth L i = some (.int x)) (hv : x + Int32.ofInt n = v) (hi : i < nL) (hl : q_put L i (.int v) = L2) (hp : pc + 3 = pc2) (k : x_G w cx own nm cc nL ret f lo m0 an pc2 L2 st u oo) : x_G w cx own nm cc nL ret f lo m0 an pc L st u oo := by
  subst hp
  subst hl
  subst hv
  intro r u' h
  obtain ⟨h1, h2⟩ := k r u' h
  refine ⟨h1, fun hc hr H locs ls hR hS hL hm => ?_⟩
  have hg := (hL.2.2 _ _ hx).2
  obtain ⟨ls', e', h'⟩ := hL.store (v := .int (x + Int32.ofInt n)) hi rfl
  intro T hT X
  obtain ⟨t, a, b⟩ := h2 hc hr H locs ls' hR hS h' hm T hT X
  refine ⟨t, ?_, b⟩
  jvm_step X.here [X.here.top, ↓top_set X.here.top, hc.1, hc.2.1, hd, hg, e']
  exact a
theorem x_idiv {α : Type} {an : α → Option Value} {w : q_Wd} {cx : q_Cx} {own nm : String} {cc : ByteArray} {nL f lo m0 : Nat} {ret : Option FieldType} {pc pc2 : Nat} {L : List (Option Value)} {st : List Value} {u : x_U} {x y : Int32} {kk : Int32 → Option (α × x_U)} (hd : decode cc pc = .ok (.idiv, 1)) (hp : pc + 1 = pc2) (k2 : ∀ v, x_G w cx own nm cc nL ret f lo m0 an pc2 L (.int v :: st) u (kk v)) : x_G w cx own nm cc nL ret f lo m0 an pc L (.int y :: .int x :: st) u (x_dv x y kk) := by
  subst hp
  intro r u' h
  unfold x_dv at h
  split at h
  · cases h
  · rename_i hne
    obtain ⟨h1, h2⟩ := k2 _ r u' h
    exact ⟨h1, fun hc hr H locs ls hR hS hL hm => lv_idiv hc.1 hc.2.1 hd hne (h2 hc hr H locs ls hR hS hL hm)⟩
theorem x_irem {α : Type} {an : α → Option Value} {w : q_Wd} {cx : q_Cx} {own nm : String} {cc : ByteArray} {nL f lo m0 : Nat} {ret : Option FieldType} {pc pc2 : Nat} {L : List (Option Value)} {st : List Value} {u : x_U} {x y : Int32} {kk : Int32 → Option (α × x_U)} (hd : decode cc pc = .ok (.irem, 1)) (hp : pc + 1 = pc2) (k2 : ∀ v, x_G w cx own nm cc nL ret f lo m0 an pc2 L (.int v :: st) u (kk v)) : x_G w cx own nm cc nL ret f lo m0 an pc L (.int y :: .int x :: st) u (x_rem x y kk) := by
  subst hp
  intro r u' h
  unfold x_rem at h
  split at h
  · cases h
  · rename_i hne
    obtain ⟨h1, h2⟩ := k2 _ r u' h
    exact ⟨h1, fun hc hr H locs ls hR hS hL hm => lv_irem hc.1 hc.2.1 hd hne (h2 hc hr H locs ls hR hS hL hm)⟩
theorem x_ldc {α : Type} {an : α → Option Value} {w : q_Wd} {cx : q_Cx} {own nm : String} {cc : ByteArray} {nL f lo m0 : Nat} {ret : Option FieldType} {pc pc2 : Nat} {L : List (Option Value)} {st : List Value} {u : x_U} {oo : Option (α × x_U)} {idx : Nat} {v : Int32} (hd : decode cc pc = .ok (.ldc idx, 2)) (hw : Cond.constant own idx v ∈ q_big) (hp : pc + 2 = pc2) (k : x_G w cx own nm cc nL ret f lo m0 an pc2 L (.int v :: st) u oo) : x_G w cx own nm cc nL ret f lo m0 an pc L (st) u oo := by
  subst hp
  intro r u' h
  obtain ⟨h1, h2⟩ := k r u' h
  exact ⟨h1, fun hc hr H locs ls hR hS hL hm => lv_ldc hc.1 hc.2.1 hc.2.2.2.1 (hc.2.2.2.2.1 _ hw) hd (h2 hc hr H locs ls hR hS hL hm)⟩
theorem x_ldcw {α : Type} {an : α → Option Value} {w : q_Wd} {cx : q_Cx} {own nm : String} {cc : ByteArray} {nL f lo m0 : Nat} {ret : Option FieldType} {pc pc2 : Nat} {L : List (Option Value)} {st : List Value} {u : x_U} {oo : Option (α × x_U)} {idx : Nat} {v : Int32} (hd : decode cc pc = .ok (.ldc_w idx, 3)) (hw : Cond.constant own idx v ∈ q_big) (hp : pc + 3 = pc2) (k : x_G w cx own nm cc nL ret f lo m0 an pc2 L (.int v :: st) u oo) : x_G w cx own nm cc nL ret f lo m0 an pc L (st) u oo := by
  subst hp
  intro r u' h
  obtain ⟨h1, h2⟩ := k r u' h
  exact ⟨h1, fun hc hr H locs ls hR hS hL hm => lv_ldcw hc.1 hc.2.1 hc.2.2.2.1 (hc.2.2.2.2.1 _ hw) hd (h2 hc hr H locs ls hR hS hL hm)⟩
theorem x_ldcS {α : Type} {an : α → Option Value} {w : q_Wd} {cx : q_Cx} {own nm : String} {cc : ByteArray} {nL f lo m0 : Nat} {ret : Option FieldType} {pc pc2 : Nat} {L : List (Option Value)} {st : List Value} {u : x_U} {oo : Option (α × x_U)} {idx i : Nat} {tx : String} (hd : decode cc pc = .ok (.ldc idx, 2)) (hw : (own, idx, tx, i) ∈ q_strs) (hi : i < q_nS) (hp : pc + 2 = pc2) (k : x_G w cx own nm cc nL ret f lo m0 an pc2 L (x_v w (x_CB + i) :: st) u oo) : x_G w cx own nm cc nL ret f lo m0 an pc L (st) u oo := by
  subst hp
  intro r u' h
  obtain ⟨h1, h2⟩ := k r u' h
  refine ⟨h1, fun hc hr H locs ls hR hS hL hm => ?_⟩
  have e : x_v w (x_CB + i) = .ref (w.2.2.2.1 i) := by rw [x_v1 (by unfold x_CB; omega), x_ad_s hi]
  rw [e] at h2
  exact va_ldcS hc.1 hc.2.1 hc.2.2.2.1 (hc.2.2.2.2.2.2.2.1.2.2.2.1 _ hw) hd (h2 hc hr H locs ls hR hS hL hm)
theorem x_max {α : Type} {an : α → Option Value} {w : q_Wd} {cx : q_Cx} {own nm : String} {cc : ByteArray} {nL f lo m0 : Nat} {ret : Option FieldType} {pc pc2 : Nat} {L : List (Option Value)} {st : List Value} {u : x_U} {oo : Option (α × x_U)} {idx : Nat} {x y : Int32} (hw : Cond.methodLink own idx Lib.Math.max.name ∈ q_big) (hrm : 1 ≤ f ∧ 21 ≤ lo) (hst : (st.map fun v => v.category).sum ≤ 8) (hd : decode cc pc = .ok (.invokestatic idx, 3)) (hp : pc + 3 = pc2) (k : x_G w cx own nm cc nL ret f lo m0 an pc2 L (.int (q_mx x y) :: st) u oo) : x_G w cx own nm cc nL ret f lo m0 an pc L (.int y :: .int x :: st) u oo := by
  subst hp
  intro r u' h
  obtain ⟨h1, h2⟩ := k r u' h
  refine ⟨h1, fun hc hr H locs ls hR hS hL hm => ?_⟩
  obtain ⟨hrf, hrl⟩ := hc.2.2.2.2.2.2.2.2.1
  have hz := hR.1
  have hr1 := hr.1
  have hr2 := hr.2
  have h11 := h1.1
  have h12 := h1.2
  exact va_mmax hc.1 hc.2.1 (by rw [hc.2.2.1]; exact hL.1.symm) hc.2.2.2.1 (hc.2.2.2.2.1 _ hw) (hc.2.2.2.2.1 _ q_w_max.1) (hc.2.2.2.2.1 _ q_w_max.2.1) (hc.2.2.2.2.1 _ q_w_max.2.2) (by rw [hrf]; exact hrm.1) (by rw [hrl]; have := hrm.2; omega) (by have hS1 := hS.1; omega) (by omega) hd (h2 hc hr H locs ls hR hS hL hm)
theorem x_min {α : Type} {an : α → Option Value} {w : q_Wd} {cx : q_Cx} {own nm : String} {cc : ByteArray} {nL f lo m0 : Nat} {ret : Option FieldType} {pc pc2 : Nat} {L : List (Option Value)} {st : List Value} {u : x_U} {oo : Option (α × x_U)} {idx : Nat} {x y : Int32} (hw : Cond.methodLink own idx Lib.Math.min.name ∈ q_big) (hrm : 1 ≤ f ∧ 21 ≤ lo) (hst : (st.map fun v => v.category).sum ≤ 8) (hd : decode cc pc = .ok (.invokestatic idx, 3)) (hp : pc + 3 = pc2) (k : x_G w cx own nm cc nL ret f lo m0 an pc2 L (.int (q_mn x y) :: st) u oo) : x_G w cx own nm cc nL ret f lo m0 an pc L (.int y :: .int x :: st) u oo := by
  subst hp
  intro r u' h
  obtain ⟨h1, h2⟩ := k r u' h
  refine ⟨h1, fun hc hr H locs ls hR hS hL hm => ?_⟩
  obtain ⟨hrf, hrl⟩ := hc.2.2.2.2.2.2.2.2.1
  have hz := hR.1
  have hr1 := hr.1
  have hr2 := hr.2
  have h11 := h1.1
  have h12 := h1.2
  exact va_mmin hc.1 hc.2.1 (by rw [hc.2.2.1]; exact hL.1.symm) hc.2.2.2.1 (hc.2.2.2.2.1 _ hw) (hc.2.2.2.2.1 _ q_w_min.1) (hc.2.2.2.2.1 _ q_w_min.2.1) (hc.2.2.2.2.1 _ q_w_min.2.2) (by rw [hrf]; exact hrm.1) (by rw [hrl]; have := hrm.2; omega) (by have hS1 := hS.1; omega) (by omega) hd (h2 hc hr H locs ls hR hS hL hm)
theorem x_iret {w : q_Wd} {cx : q_Cx} {own nm : String} {cc : ByteArray} {nL f lo m0 : Nat} {pc : Nat} {L : List (Option Value)} {u : x_U} {v : Int32} (hd : decode cc pc = .ok (.ireturn, 1)) : x_G w cx own nm cc nL (some .int) f lo m0 x_aI pc L [.int v] u (some (v, u)) := by
  intro r u' h
  cases h
  refine ⟨x_le.rf, fun hc hr H locs ls hR hS hL hm => ?_⟩
  have e : w.2.2.1 + x_n u - cx.2.2.2.2.1.heap.size = H.size - cx.2.2.2.2.1.heap.size := by rw [hR.1]
  unfold x_Q
  rw [e]
  exact W.iret (v := v) hc.1 hc.2.1 hc.2.2.2.2.2.1 (fun t ht hW => ⟨rfl, by rw [ht]; exact hR, hS.F ht, hm⟩) hS.2.2 hd hc.2.2.2.2.2.2.1
theorem x_nret {w : q_Wd} {cx : q_Cx} {own nm : String} {cc : ByteArray} {nL f lo m0 : Nat} {pc : Nat} {L : List (Option Value)} {u : x_U} {ty : FieldType} {v : Int32} (hn : narrow ty (.int v) = .int v) (hd : decode cc pc = .ok (.ireturn, 1)) : x_G w cx own nm cc nL (some ty) f lo m0 x_aI pc L [.int v] u (some (v, u)) := by
  intro r u' h
  cases h
  refine ⟨x_le.rf, fun hc hr H locs ls hR hS hL hm => ?_⟩
  have e : w.2.2.1 + x_n u - cx.2.2.2.2.1.heap.size = H.size - cx.2.2.2.2.1.heap.size := by rw [hR.1]
  unfold x_Q
  rw [e]
  exact W.zret (v := v) hc.1 hc.2.1 hc.2.2.2.2.2.1 hn (fun t ht hW => ⟨rfl, by rw [ht]; exact hR, hS.F ht, hm⟩) hS.2.2 hd hc.2.2.2.2.2.2.1
def x_rz (v : Int32) (u : x_U) : Option (Int32 × x_U) := if v &&& 1 = v then some (v, u) else none
theorem x_zret {w : q_Wd} {cx : q_Cx} {own nm : String} {cc : ByteArray} {nL f lo m0 : Nat} {pc : Nat} {L : List (Option Value)} {u : x_U} {v : Int32} (hd : decode cc pc = .ok (.ireturn, 1)) : x_G w cx own nm cc nL (some .boolean) f lo m0 x_aI pc L [.int v] u (x_rz v u) := by
  intro r u' h
  unfold x_rz at h
  split at h
  · rename_i hv
    exact x_nret (by show Value.int (v &&& 1) = _; rw [hv]) hd r u' h
  · cases h
def x_rc (v : Int32) (u : x_U) : Option (Int32 × x_U) := if (v.toUInt32 % 65536).toInt32 = v then some (v, u) else none
theorem x_cret {w : q_Wd} {cx : q_Cx} {own nm : String} {cc : ByteArray} {nL f lo m0 : Nat} {pc : Nat} {L : List (Option Value)} {u : x_U} {v : Int32} (hd : decode cc pc = .ok (.ireturn, 1)) : x_G w cx own nm cc nL (some .char) f lo m0 x_aI pc L [.int v] u (x_rc v u) := by
  intro r u' h
  unfold x_rc at h
  split at h
  · rename_i hv
    exact x_nret (by rw [← hv]; exact pk_nc v) hd r u' h
  · cases h
def x_rb (v : Int32) (u : x_U) : Option (Int32 × x_U) := if v.toInt8.toInt32 = v then some (v, u) else none
theorem x_bret {w : q_Wd} {cx : q_Cx} {own nm : String} {cc : ByteArray} {nL f lo m0 : Nat} {pc : Nat} {L : List (Option Value)} {u : x_U} {v : Int32} (hd : decode cc pc = .ok (.ireturn, 1)) : x_G w cx own nm cc nL (some .byte) f lo m0 x_aI pc L [.int v] u (x_rb v u) := by
  intro r u' h
  unfold x_rb at h
  split at h
  · rename_i hv
    exact x_nret (by rw [← hv]; exact pk_nb v) hd r u' h
  · cases h
theorem x_vret {w : q_Wd} {cx : q_Cx} {own nm : String} {cc : ByteArray} {nL f lo m0 : Nat} {pc : Nat} {L : List (Option Value)} {u : x_U} (hd : decode cc pc = .ok (.return_, 1)) : x_G w cx own nm cc nL none f lo m0 x_aV pc L [] u (some (0, u)) := by
  intro r u' h
  cases h
  refine ⟨x_le.rf, fun hc hr H locs ls hR hS hL hm => ?_⟩
  have e : w.2.2.1 + x_n u - cx.2.2.2.2.1.heap.size = H.size - cx.2.2.2.2.1.heap.size := by rw [hR.1]
  unfold x_Q
  rw [e]
  exact W.vret hc.1 hc.2.1 hc.2.2.2.2.2.1 (fun t ht hW => ⟨rfl, by rw [ht]; exact hR, hS.F ht, hm⟩) hS.2.2 hd hc.2.2.2.2.2.2.1
theorem x_aret {w : q_Wd} {cx : q_Cx} {own nm : String} {cc : ByteArray} {nL f lo m0 : Nat} {pc : Nat} {L : List (Option Value)} {u : x_U} {ty : FieldType} {x : Nat} (hrt : (∃ n, ty = .object n) ∨ ∃ t, ty = .array t) (hd : decode cc pc = .ok (.areturn, 1)) : x_G w cx own nm cc nL (some ty) f lo m0 (x_aR w) pc L [x_v w x] u (some (x, u)) := by
  intro r u' h
  cases h
  refine ⟨x_le.rf, fun hc hr H locs ls hR hS hL hm => ?_⟩
  have e : w.2.2.1 + x_n u - cx.2.2.2.2.1.heap.size = H.size - cx.2.2.2.2.1.heap.size := by rw [hR.1]
  unfold x_Q
  rw [e]
  exact W.aret (v := x_v w x) hc.1 hc.2.1 hc.2.2.2.2.2.1 hrt x_vR (fun t ht hW => ⟨rfl, by rw [ht]; exact hR, hS.F ht, hm⟩) hS.2.2 hd hc.2.2.2.2.2.2.1
