/-! heap rows -/
def q_cls (ci : Nat) (C : String) (T : u_T) (ty : Nat → FieldType) : Prop := q_cl[ci]? = some (C, T, q_nF ci) ∧ (∀ x ∈ u_ws C T (q_nF ci), x ∈ q_big) ∧ (∀ k, k < q_nF ci → parseFieldDescriptor (T k).2.2.1 = some (ty k)) ∧ (∀ a, a < q_nF ci → ∀ b, b < q_nF ci → a ≠ b → (T a).2.1 ≠ (T b).2.1)
/-- the field at a place of the pool of a class: field k of class ci, of that type; final or not -/
def q_fl (own : String) (idx ci k : Nat) (tk : FieldType) (fin : Bool) : Prop := ∃ (C : String) (T : u_T) (ty : Nat → FieldType), q_cls ci C T ty ∧ k < q_nF ci ∧ Cond.fieldLink own idx (T k).1 (T k).2.1 (T k).2.2.1 ∈ q_big ∧ ty k = tk ∧ (T k).2.2.2 = fin ∧ (T k).1 = C
theorem q_ent_o {w : q_Wd} {S : q_Sg} {o ci : Nat} (h : S.2.1 o = .inl ci) : q_ent w S.2.1 S.2.2.1 S.2.2.2 o = .inr (ci, (List.range (q_nF ci)).map (q_fv w ci (S.2.2.1 o) (S.2.2.2 o))) := by
  simp only [q_ent, h]
theorem q_ent_i {w : q_Wd} {S : q_Sg} {o len : Nat} (h : S.2.1 o = .inr (len, false)) : q_ent w S.2.1 S.2.2.1 S.2.2.2 o = .inl ((w.2.1 0), len, .inl (S.2.2.2 o)) := by
  simp only [q_ent, h]
theorem q_ent_q {w : q_Wd} {S : q_Sg} {o len : Nat} (h : S.2.1 o = .inr (len, true)) : q_ent w S.2.1 S.2.2.1 S.2.2.2 o = .inl ((w.2.1 1), len, .inr (.inr (.inr (.inr (fun j => q_dec w (S.2.2.2 o j)))))) := by
  simp only [q_ent, h]
theorem q_ent_c {w : q_Wd} {kd : Nat → q_Kd} {ρ ρ' : Nat → Nat → Option Nat} {σ σ' : q_Sto} {j : Nat} (h1 : ρ' j = ρ j) (h2 : σ' j = σ j) : q_ent w kd ρ' σ' j = q_ent w kd ρ σ j := by
  simp only [q_ent, h1, h2]
section QE
variable {w : q_Wd} {cx : q_Cx} {own : String} {cc : ByteArray} {nL cells slots : Nat} {ret : Option FieldType} {rm : Room} {Q : State → Prop} {pc pc2 : Nat} {L : List (Option Value)} {st : List Value} {S : q_Sg} {σ : q_Sto} {oo : Option (Int32 × q_Sto)}
theorem j_get {idx ci k o : Nat} {tk : FieldType} {fin : Bool} (hc : q_ok w cx own cc nL ret rm) (hf : q_fl own idx ci k tk fin) (hkd : S.2.1 o = .inl ci) (ho : o < S.1) (hd : decode cc pc = .ok (.getfield idx, 3)) (hp : pc + 3 = pc2)
    (kk : q_J w cx nL cells slots Q pc2 L (q_fv w ci (S.2.2.1 o) (S.2.2.2 o) k :: st) S) : q_J w cx nL cells slots Q pc L (q_rf w o :: st) S := by
  subst hp
  intro H locs ls hR hS hL
  obtain ⟨C, T, ty, ⟨h1, h2, h3, h4⟩, hk, hlk, -, -, -⟩ := hf
  refine va_get (D := w.1) (cl := q_cl) (tys := q_tys w) (ws := q_ws w S) (C := C) (T := T) (N := q_nF ci) (ci := ci) (Ts := q_big) (ref := (T k).1) hc.1 hc.2.1 hc.2.2.2.2.1 h2 hc.2.2.2.1 hc.2.2.2.2.2.2.2.1.1 hR.2 o ((q_ws_get ho).trans (by rw [q_ent_o hkd])) h1 k hk (hc.2.2.2.2.1 _ hlk) (fun _ h => h) (v := q_fv w ci (S.2.2.1 o) (S.2.2.2 o) k) ?_ hd (kk H locs ls hR hS hL)
  simp [hk]
/-- the machine's own store into a field, seen from the world -/
theorem j_putV {idx ci k o : Nat} {tk : FieldType} {fin : Bool} {v : Value} {S2 : q_Sg} (hc : q_ok w cx own cc nL ret rm) (hf : q_fl own idx ci k tk fin) (hfin : fin = false ∨ (cx.2.2.2.2.2.2.2.2.1.name = "<init>" ∧ ∃ r, q_cl[ci]? = some (own, r))) (hkd : S.2.1 o = .inl ci) (ho : o < S.1) (hn : narrow tk v = v) (hfit : fits tk v = true)
    (hn2 : S2.1 = S.1) (he : q_ent w S2.2.1 S2.2.2.1 S2.2.2.2 o = .inr (ci, ((List.range (q_nF ci)).map (q_fv w ci (S.2.2.1 o) (S.2.2.2 o))).set k v)) (hoth : ∀ j, j < S.1 → j ≠ o → q_ent w S2.2.1 S2.2.2.1 S2.2.2.2 j = q_ent w S.2.1 S.2.2.1 S.2.2.2 j)
    (hd : decode cc pc = .ok (.putfield idx, 3)) (hp : pc + 3 = pc2) (kk : q_J w cx nL cells slots Q pc2 L st S2) : q_J w cx nL cells slots Q pc L (v :: q_rf w o :: st) S := by
  subst hp
  intro H locs ls hR hS hL
  obtain ⟨C, T, ty, ⟨h1, h2, h3, h4⟩, hk, hlk, rfl, hf2, hTC⟩ := hf
  have hts := hc.2.2.2.2.1
  have hown := hc.2.2.2.1
  have hK := hc.2.2.2.2.2.2.2.1.1
  have hat := hR.at ho
  rw [q_ent_o hkd] at hat
  obtain ⟨r, g1, cell, q1, q2, q3, q4⟩ := hat
  have hr : r = (C, T, q_nF ci) := Option.some.inj (g1.symm.trans h1)
  subst hr
  have hap := va_apart (own := own) hts h2 ty h3 h4 hK h1
  obtain ⟨hSl, hfc, kC, hkC, hkind⟩ := hK.1 ci _ h1
  obtain ⟨cf, kf, fi, f, hi, hsl⟩ := hSl k hk
  have hst := (u_facts hfc hkC (u_lays hts h2 hk) hi).1
  have hlt : f.slot < cell.slots.size := by rw [hsl]; exact k2_hasslot (q4 k hk)
  have done : ∀ H1 : Heap, H1[w.2.2.1 + o]? = some (cell.setSlot f.slot v) → H1.size = H.size → (∀ q, q ≠ w.2.2.1 + o → H1[q]? = H[q]?) → W cx.1 cx.2.1 cx.2.2.1 cx.2.2.2.1 cx.2.2.2.2.1 cx.2.2.2.2.2.1 cx.2.2.2.2.2.2.1 cx.2.2.2.2.2.2.2.1 cx.2.2.2.2.2.2.2.2.1 cx.2.2.2.2.2.2.2.2.2 H1 (locs ++ [⟨w.2.2.1 + o, f.slot⟩]) cells slots Q (F0 cx.2.2.2.2.2.1 (pc + 3) ls st) := by
    intro H1 e1 e2 e3
    refine kk H1 _ ls (hR.put e2 e3 hn2 (fun _ => ?_) hoth) (hS.put e2 e3 (q_inA hR.1 ho)) hL
    rw [he]
    rw [hsl] at e1
    exact ⟨_, h1, t_OB.to (V := updV (vp_V ((List.range (q_nF ci)).map (q_fv w ci (S.2.2.1 o) (S.2.2.2 o)))) k v) ⟨_, e1, q2, q3, t_set q4 hap hk v⟩ (fun j _ => vp_updV_set (by simpa using hk) v j)⟩
  have hlay := hts _ (h2 _ (u_in_lay hk))
  unfold u_lay at hlay
  cases fin with
  | false =>
    rw [if_neg (by rw [hf2]; decide)] at hlay
    have h6 := u_store hfc hkC hkind hlay hi (h3 k hk) hn hfit
    exact W.putK hc.1 hc.2.1 (f := f) ⟨hown, hts _ hlk, ⟨_, _, _, hi⟩, hst⟩ (by rw [q2]; exact h6) q1 q3 hlt rfl rfl hd done
  | true =>
    rcases hfin with h | ⟨hnm, r, hcl⟩
    · cases h
    · have hCo : C = own := by
        have := h1.symm.trans hcl
        exact congrArg (fun x : vw_C => x.1) (Option.some.inj this)
      rw [if_pos hf2] at hlay
      have hcf : cx.2.2.2.2.2.1.cls = cf := by
        obtain ⟨_, _, c', _, _, _, -, -, hf', -, -, -, hown2, -⟩ := Cond.laysFinal_spec hlay
        have e1 : c' = cf := by have := hi.symm.trans hf'; simp at this; exact this.1.symm
        rw [hTC, hCo] at hown2
        rw [← e1]; exact Option.some.inj (hown.symm.trans hown2)
      have h6 := u_fits hfc hkC hkind (Or.inr hlay) hi (h3 k hk) hn hfit
      exact W.putFinK hc.1 hc.2.1 hown (hts _ hlk) hi hst hcf hnm (by rw [q2]; exact h6) q1 q3 hlt rfl rfl hd done
theorem q_range_set {n k : Nat} {f g : Nat → Value} {v : Value} (hk : g k = v) (hj : ∀ j, j ≠ k → g j = f j) : (List.range n).map g = ((List.range n).map f).set k v := by
  apply List.ext_getElem
  · simp
  · intro i h1 h2
    simp only [List.getElem_map, List.getElem_range, List.getElem_set]
    by_cases hik : k = i
    · subst hik; simp [hk]
    · rw [if_neg hik]; exact hj i (fun q => hik q.symm)
theorem q_up_s {σ : q_Sto} {o k : Nat} {v : Int32} : q_up σ o k v o k = v := by simp [q_up]
theorem q_up_k {σ : q_Sto} {o k j : Nat} {v : Int32} (h : j ≠ k) : q_up σ o k v o j = σ o j := by simp [q_up, h]
theorem q_up_o {σ : q_Sto} {o a k : Nat} {v : Int32} (h : a ≠ o) : q_up σ o k v a = σ a := by funext j; simp [q_up, h]
theorem j_putI {idx ci k o : Nat} {tk : FieldType} {fin : Bool} {v : Int32} (hc : q_ok w cx own cc nL ret rm) (hf : q_fl own idx ci k tk fin) (hfin : fin = false ∨ (cx.2.2.2.2.2.2.2.2.1.name = "<init>" ∧ ∃ r, q_cl[ci]? = some (own, r))) (hr : q_isR ci k = false) (hkd : S.2.1 o = .inl ci) (ho : o < S.1) (hn : narrow tk (.int v) = .int v) (hfit : fits tk (.int v) = true)
    (hd : decode cc pc = .ok (.putfield idx, 3)) (hp : pc + 3 = pc2) (kk : q_J w cx nL cells slots Q pc2 L st (S.1, S.2.1, S.2.2.1, q_up S.2.2.2 o k v)) : q_J w cx nL cells slots Q pc L (.int v :: q_rf w o :: st) S := by
  refine j_putV (S2 := (S.1, S.2.1, S.2.2.1, q_up S.2.2.2 o k v)) hc hf hfin hkd ho hn hfit rfl ?_ (fun j _ hj => q_ent_c rfl (q_up_o hj)) hd hp kk
  refine (q_ent_o (S := (S.1, S.2.1, S.2.2.1, q_up S.2.2.2 o k v)) hkd).trans ?_
  congr 2
  refine q_range_set ?_ (fun j hj => ?_)
  · simp [q_fv, hr, q_up_s]
  · show q_fv w ci (S.2.2.1 o) (q_up S.2.2.2 o k v o) j = _
    simp only [q_fv, q_up_k hj]
theorem j_putR {idx ci k o x : Nat} {tk : FieldType} {fin : Bool} (hc : q_ok w cx own cc nL ret rm) (hf : q_fl own idx ci k tk fin) (hfin : fin = false ∨ (cx.2.2.2.2.2.2.2.2.1.name = "<init>" ∧ ∃ r, q_cl[ci]? = some (own, r))) (hr : q_isR ci k = true) (hkd : S.2.1 o = .inl ci) (ho : o < S.1) (hn : narrow tk (q_rf w x) = q_rf w x) (hfit : fits tk (q_rf w x) = true)
    (hd : decode cc pc = .ok (.putfield idx, 3)) (hp : pc + 3 = pc2) (kk : q_J w cx nL cells slots Q pc2 L st (S.1, S.2.1, q_upR S.2.2.1 o k (some x), S.2.2.2)) : q_J w cx nL cells slots Q pc L (q_rf w x :: q_rf w o :: st) S := by
  refine j_putV (S2 := (S.1, S.2.1, q_upR S.2.2.1 o k (some x), S.2.2.2)) hc hf hfin hkd ho hn hfit rfl ?_ (fun j _ hj => q_ent_c (by funext i; simp [q_upR, hj]) rfl) hd hp kk
  refine (q_ent_o (S := (S.1, S.2.1, q_upR S.2.2.1 o k (some x), S.2.2.2)) hkd).trans ?_
  congr 2
  refine q_range_set ?_ (fun j hj => ?_)
  · simp [q_fv, hr, q_upR, va_rf, q_rf]
  · show q_fv w ci (q_upR S.2.2.1 o k (some x) o) (S.2.2.2 o) j = _
    simp [q_fv, q_upR, hj]
def q_in (i : Int32) (n : Nat) : Prop := 0 ≤ i.toInt ∧ i.toInt < n
theorem q_in_vp {i : Int32} {n : Nat} (h : q_in i n) : vp_in i n := vp_in_iff.mpr h
theorem j_iald {a len : Nat} {i : Int32} (hc : q_ok w cx own cc nL ret rm) (hkd : S.2.1 a = .inr (len, false)) (ho : a < S.1) (hin : q_in i len) (hd : decode cc pc = .ok (.iaload, 1)) (hp : pc + 1 = pc2)
    (kk : q_J w cx nL cells slots Q pc2 L (.int (S.2.2.2 a i.toNatClampNeg) :: st) S) : q_J w cx nL cells slots Q pc L (.int i :: q_rf w a :: st) S := by
  subst hp
  intro H locs ls hR hS hL
  exact va_iald (D := w.1) (cl := q_cl) (tys := q_tys w) (ws := q_ws w S) hc.1 hc.2.1 hc.2.2.2.2.2.2.2.1.1 hR.2 a 0 (cA := (w.2.1 0)) (n := len) (f := S.2.2.2 a) ((q_ws_get ho).trans (by rw [q_ent_i hkd])) rfl (q_in_vp hin) hd (kk H locs ls hR hS hL)
theorem j_iast {a len : Nat} {i v : Int32} (hc : q_ok w cx own cc nL ret rm) (hkd : S.2.1 a = .inr (len, false)) (ho : a < S.1) (hin : q_in i len) (hd : decode cc pc = .ok (.iastore, 1)) (hp : pc + 1 = pc2)
    (kk : q_J w cx nL cells slots Q pc2 L st (S.1, S.2.1, S.2.2.1, q_up S.2.2.2 a i.toNatClampNeg v)) : q_J w cx nL cells slots Q pc L (.int v :: .int i :: q_rf w a :: st) S := by
  subst hp
  intro H locs ls hR hS hL
  have hat := hR.at ho
  rw [q_ent_i hkd] at hat
  have hK := hc.2.2.2.2.2.2.2.1.1
  refine W.iast hc.1 hc.2.1 hat ((hK.2 0 _ rfl).1 len (fun j => .int (S.2.2.2 a j))) (fun q => by cases q) (by show ¬ (i < 0 ∨ (arrV _ _ _).slots.size ≤ _); rw [arrV_size]; exact q_in_vp hin) rfl rfl hd fun H1 e z oq => ?_
  refine kk H1 _ ls (hR.put z oq rfl (fun _ => ?_) (fun j _ hj => q_ent_c rfl (q_up_o hj))) (hS.put z oq (q_inA hR.1 ho)) hL
  rw [q_ent_i (S := (S.1, S.2.1, S.2.2.1, q_up S.2.2.2 a i.toNatClampNeg v)) hkd]
  show H1[w.2.2.1 + a]? = some (vp_cell _ _)
  rw [e, vp_cell_i, vp_cell_i, arrV_store]
  congr 2
  funext q
  by_cases hq : q = i.toNatClampNeg
  · subst hq; simp [updV, q_up]
  · simp [updV, q_up, hq]
theorem j_alen {a len : Nat} {b : Bool} (hc : q_ok w cx own cc nL ret rm) (hkd : S.2.1 a = .inr (len, b)) (ho : a < S.1) (hd : decode cc pc = .ok (.arraylength, 1)) (hp : pc + 1 = pc2)
    (kk : q_J w cx nL cells slots Q pc2 L (.int (Int32.ofNat len) :: st) S) : q_J w cx nL cells slots Q pc L (q_rf w a :: st) S := by
  subst hp
  intro H locs ls hR hS hL
  cases b with
  | false => exact va_alen (D := w.1) (cl := q_cl) (tys := q_tys w) (ws := q_ws w S) (x := (len, .inl (S.2.2.2 a))) hc.1 hc.2.1 hc.2.2.2.2.2.2.2.1.1 hR.2 a 0 (cA := (w.2.1 0)) ((q_ws_get ho).trans (by rw [q_ent_i hkd])) rfl rfl hd (kk H locs ls hR hS hL)
  | true => exact va_alen (D := w.1) (cl := q_cl) (tys := q_tys w) (ws := q_ws w S) (x := (len, .inr (.inr (.inr (.inr (fun j => q_dec w (S.2.2.2 a j))))))) hc.1 hc.2.1 hc.2.2.2.2.2.2.2.1.1 hR.2 a 1 (cA := (w.2.1 1)) ((q_ws_get ho).trans (by rw [q_ent_q hkd])) rfl rfl hd (kk H locs ls hR hS hL)
theorem j_aald {a len : Nat} {i : Int32} (hc : q_ok w cx own cc nL ret rm) (hkd : S.2.1 a = .inr (len, true)) (ho : a < S.1) (hin : q_in i len) (hd : decode cc pc = .ok (.aaload, 1)) (hp : pc + 1 = pc2)
    (kk : q_J w cx nL cells slots Q pc2 L (va_rf (q_dec w (S.2.2.2 a i.toNatClampNeg)) :: st) S) : q_J w cx nL cells slots Q pc L (.int i :: q_rf w a :: st) S := by
  subst hp
  intro H locs ls hR hS hL
  exact va_aldq (D := w.1) (cl := q_cl) (tys := q_tys w) (ws := q_ws w S) (C := RX9) hc.1 hc.2.1 hc.2.2.2.2.2.2.2.1.1 hR.2 a 1 (cA := (w.2.1 1)) (n := len) (f := fun j => q_dec w (S.2.2.2 a j)) ((q_ws_get ho).trans (by rw [q_ent_q hkd])) rfl (q_in_vp hin) hd (kk H locs ls hR hS hL)
theorem q_ofNat_lt {x : Nat} (h : x < 2 ^ 31) : ¬ Int32.ofNat x < 0 := nI_pos h
theorem j_aast {a len x : Nat} {i : Int32} (hc : q_ok w cx own cc nL ret rm) (hkd : S.2.1 a = .inr (len, true)) (ho : a < S.1) (hkx : S.2.1 x = .inl 9) (hx : x < S.1) (hx2 : x < 2 ^ 31) (hin : q_in i len) (hd : decode cc pc = .ok (.aastore, 1)) (hp : pc + 1 = pc2)
    (kk : q_J w cx nL cells slots Q pc2 L st (S.1, S.2.1, S.2.2.1, q_up S.2.2.2 a i.toNatClampNeg (Int32.ofNat x))) : q_J w cx nL cells slots Q pc L (q_rf w x :: .int i :: q_rf w a :: st) S := by
  subst hp
  intro H locs ls hR hS hL
  have hat := hR.at ho
  rw [q_ent_q hkd] at hat
  have hatx := hR.at hx
  rw [q_ent_o hkx] at hatx
  obtain ⟨r, hr, cellV, g1, g2, g3, -⟩ := hatx
  have hK := hc.2.2.2.2.2.2.2.1.1
  have hcls := (hK.1 9 _ rfl).2
  obtain ⟨kA, comp, k1, k2, k3, -⟩ := (hK.2 1 _ rfl).2
  have hcomp : comp = w.1.1 9 := Option.some.inj (k3.symm.trans hcls.1)
  subst hcomp
  obtain ⟨kC, hkC, -⟩ := id hcls.2
  have hin' := q_in_vp hin
  refine W.aast hc.1 hc.2.1 hat (fun q h => by cases h) (fun h => by cases h) k1 k2 rfl hkC ⟨fun q => hin' (Or.inl q), by show _ < (arrV _ _ _).slots.size; rw [arrV_size]; exact Nat.not_le.mp fun q => hin' (Or.inr q)⟩ g1 (fun q h => by rw [g3] at h; cases h) (by rw [g2]; exact hkC) (by rw [g2]; exact va_assign hcls) rfl rfl hd fun H1 e z oq => ?_
  refine kk H1 _ ls (hR.put z oq rfl (fun _ => ?_) (fun j _ hj => q_ent_c rfl (q_up_o hj))) (hS.put z oq (q_inA hR.1 ho)) hL
  rw [q_ent_q (S := (S.1, S.2.1, S.2.2.1, q_up S.2.2.2 a i.toNatClampNeg (Int32.ofNat x))) hkd]
  show H1[w.2.2.1 + a]? = some (vp_cell _ _)
  rw [e, vp_cell_q, vp_cell_q, arrV_store]
  congr 2
  funext q
  by_cases hq : q = i.toNatClampNeg
  · subst hq
    have e1 := nI_clamp hx2
    unfold nI at e1
    simp [updV, q_up, q_dec, q_ofNat_lt hx2, e1, va_rf]
  · simp [updV, q_up, hq]
def q_cpy (σ : q_Sto) (a0 a1 n : Nat) : q_Sto := fun o k => if o = a1 then (if k < n then σ a0 k else σ a1 k) else σ o k
theorem j_copy {idx a0 a1 n0 n1 : Nat} {n : Int32} (hc : q_ok w cx own cc nL ret rm) (hw : Cond.methodLink own idx arraycopyName ∈ q_big ∧ Cond.native arraycopyName ∈ q_big ∧ Cond.static arraycopyName ∈ q_big ∧ Cond.initialized "java/lang/System" ∈ q_big) (hk0 : S.2.1 a0 = .inr (n0, false)) (ho0 : a0 < S.1) (hk1 : S.2.1 a1 = .inr (n1, false)) (ho1 : a1 < S.1)
    (hn : ¬ n < 0) (hn0 : n.toNatClampNeg ≤ n0) (hn1 : n.toNatClampNeg ≤ n1) (hrm : 1 ≤ rm.frames ∧ 8 + (nativeFrameWords "java/lang/System" "arraycopy" 5 + 11) ≤ rm.locals) (hst : (st.map fun v => v.category).sum ≤ 8) (hd : decode cc pc = .ok (.invokestatic idx, 3)) (hp : pc + 3 = pc2)
    (kk : q_J w cx nL cells slots Q pc2 L st (S.1, S.2.1, S.2.2.1, q_cpy S.2.2.2 a0 a1 n.toNatClampNeg)) : q_J w cx nL cells slots Q pc L (.int n :: .int 0 :: q_rf w a1 :: .int 0 :: q_rf w a0 :: st) S := by
  subst hp
  intro H locs ls hR hS hL
  have hat0 := hR.at ho0
  rw [q_ent_i hk0] at hat0
  have hat1 := hR.at ho1
  rw [q_ent_i hk1] at hat1
  have hat0 : H[w.2.2.1 + a0]? = some (vp_cell (w.2.1 0) (n0, .inl (S.2.2.2 a0))) := hat0
  have hat1 : H[w.2.2.1 + a1]? = some (vp_cell (w.2.1 0) (n1, .inl (S.2.2.2 a1))) := hat1
  have hK := hc.2.2.2.2.2.2.2.1.1
  have hts := hc.2.2.2.2.1
  have hrm' : 1 ≤ cx.2.2.2.1.frames ∧ 8 + (nativeFrameWords "java/lang/System" "arraycopy" 5 + 11) ≤ cx.2.2.2.1.locals := by rw [hc.2.2.2.2.2.2.2.2.1]; exact hrm
  have nn : n.toInt = (n.toNatClampNeg : Int) := by
    have hz0 : (0 : Int) ≤ n.toInt := by
      have := Int32.not_lt.mp hn
      simpa using Int32.le_iff_toInt_le.mp this
    show n.toInt = ((n.toInt.toNat : Nat) : Int)
    omega
  intro T hT X
  obtain ⟨-, k0, hkk0, cm0, hkd0⟩ := (hK.2 0 _ rfl).1 n0 (fun j => .int (S.2.2.2 a0 j))
  obtain ⟨-, k1, hkk1, cm1, hkd1⟩ := (hK.2 0 _ rfl).1 n1 (fun j => .int (S.2.2.2 a1 j))
  obtain ⟨vm', X', step⟩ := X.arraycopy hc.1 hc.2.2.2.1 (hts _ hw.1) (hts _ hw.2.1) (hts _ hw.2.2.1) (hts _ hw.2.2.2) (src := w.2.2.1 + a0) (dst := w.2.2.1 + a1) (cs := vp_cell (w.2.1 0) (n0, .inl (S.2.2.2 a0))) (cd := vp_cell (w.2.1 0) (n1, .inl (S.2.2.2 a1))) (srcPos := 0) (destPos := 0) (n := n) (by rw [hT]; exact hat0) (by rw [hT]; exact hat1)
    (fun _ h => by cases h) (fun _ h => by cases h) (fun h => by cases h) (fun h => by cases h) hkk0 hkk1 hkd0 hkd1 (by simp [refKind]) (by decide) (by decide) hn
    (by rw [nn]; show ¬ _ > ((arrV (w.2.1 0) n0 (fun j => .int (S.2.2.2 a0 j))).slots.size : Int); rw [arrV_size]; simp; omega)
    (by rw [nn]; show ¬ _ > ((arrV (w.2.1 0) n1 (fun j => .int (S.2.2.2 a1 j))).slots.size : Int); rw [arrV_size]; simp; omega)
    (fun vm₁ _ i hi => by
      have e : (vp_cell (w.2.1 0) (n0, .inl (S.2.2.2 a0))).slots.getD ((0 : Int32).toNatClampNeg + i) .null = .int (S.2.2.2 a0 ((0 : Int32).toNatClampNeg + i)) := by
        show (arrV (w.2.1 0) n0 (fun j => .int (S.2.2.2 a0 j))).slots.getD _ _ = _
        have z0 : (0 : Int32).toNatClampNeg = 0 := by decide
        rw [Array.getD_eq_getD_getElem?, arrV_read _ _ (by rw [z0]; omega)]
        rfl
      refine ⟨?_, ?_⟩
      · rw [e]; rfl
      · rw [e]; exact trivial)
    (g := F0 cx.2.2.2.2.2.1 pc ls (.int n :: .int 0 :: q_rf w a1 :: .int 0 :: q_rf w a0 :: st)) rfl (by rw [hc.2.2.1]; exact hL.1) (rest := st) rfl (by rw [hc.2.1]; exact hd) hrm'.1 (by show 2 * 0 + _ + _ ≤ _; have := hrm'.2; omega)
  have z0 : (0 : Int32).toNatClampNeg = 0 := by decide
  have e1 : copied (vp_cell (w.2.1 0) (n0, .inl (S.2.2.2 a0))) (vp_cell (w.2.1 0) (n1, .inl (S.2.2.2 a1))) 0 0 n = vp_cell (w.2.1 0) (n1, .inl (q_cpy S.2.2.2 a0 a1 n.toNatClampNeg a1)) := by
    refine (va_copied (fun z => Value.int z) (w.2.1 0) (w.2.1 0) (S.2.2.2 a0) (S.2.2.2 a1) (by rw [z0]; omega)).trans ?_
    rw [vp_cell_i]
    congr 1
    funext j
    simp [va_cpy, q_cpy, z0]
  rw [e1] at X' step
  have hl : w.2.2.1 + a1 < H.size := (Array.getElem?_eq_some_iff.mp hat1).1
  have oq : ∀ q : Nat, q ≠ w.2.2.1 + a1 → (H.setIfInBounds (w.2.2.1 + a1) (vp_cell (w.2.1 0) (n1, .inl (q_cpy S.2.2.2 a0 a1 n.toNatClampNeg a1))))[q]? = H[q]? := fun q hq => by simp [Array.getElem?_setIfInBounds, Ne.symm hq]
  obtain ⟨t, a, b⟩ := kk (H.setIfInBounds (w.2.2.1 + a1) (vp_cell (w.2.1 0) (n1, .inl (q_cpy S.2.2.2 a0 a1 n.toNatClampNeg a1)))) _ ls (hR.put (by simp) oq rfl (fun _ => by
      rw [q_ent_i (S := (S.1, S.2.1, S.2.2.1, q_cpy S.2.2.2 a0 a1 n.toNatClampNeg)) hk1]
      show (H.setIfInBounds _ _)[_]? = some _
      simp [Array.getElem?_setIfInBounds, hl]) (fun j _ hj => q_ent_c rfl (by funext i; simp [q_cpy, hj]))) ⟨by simp; exact hS.1, fun q g1 g2 => by
      rw [oq q (fun e => g2 (by rw [e]; exact q_inA hR.1 ho1))]
      exact hS.2.1 q g1 g2, fun q hq => by
      rcases List.mem_append.mp hq with h | h
      · exact hS.2.2 q h
      · obtain ⟨z, -, hz⟩ := List.mem_map.mp h
        rw [← hz]
        exact q_inA hR.1 ho1⟩ hL _ (by rw [← hT]; rfl) X'
  exact ⟨t, step t a, b⟩
end QE
