/-! THE LAW'S OWN WORLD. Behind the class's q_N0 cells stand the cells that the law and the JDK make; a cell's number (from q_N0 on, 0: null) is its reference. -/
abbrev x_Kd : Type := Nat ⊕ (Nat × Nat)
abbrev x_U : Type := q_Sto × Nat × Nat × (Nat → x_Kd) × (Nat → Nat → Nat) × q_Sto
/-- the class's ints; how many cells; how many slots were made; kinds, references, ints of the cells -/
abbrev x_c (u : x_U) : q_Sto := u.1
abbrev x_n (u : x_U) : Nat := u.2.1
abbrev x_m (u : x_U) : Nat := u.2.2.1
abbrev x_k (u : x_U) : Nat → x_Kd := u.2.2.2.1
abbrev x_r (u : x_U) : Nat → Nat → Nat := u.2.2.2.2.1
abbrev x_t (u : x_U) : q_Sto := u.2.2.2.2.2
def x_lim : Nat := 600000
/-- constants have numbers of their own: texts, their bytes, other rows -/
def x_CB : Nat := 1000000000
def x_CV : Nat := 1000001000
def x_CT : Nat := 1000002000
def x_ad (w : q_Wd) (x : Nat) : Nat := if x < x_CB then w.2.2.1 + x else if x < x_CV then w.2.2.2.1 (x - x_CB) else if x < x_CT then w.2.2.2.2.1 (x - x_CV) else q_sa w (x - x_CT)
def x_vo (w : q_Wd) (x : Nat) : Option Nat := if x = 0 then none else some (x_ad w x)
def x_v (w : q_Wd) (x : Nat) : Value := va_rf (x_vo w x)
theorem x_v0 {w : q_Wd} : x_v w 0 = .null := rfl
theorem x_v1 {w : q_Wd} {x : Nat} (h : x ≠ 0) : x_v w x = .ref (x_ad w x) := by
  simp [x_v, x_vo, h, va_rf]
theorem x_vcat {w : q_Wd} {x : Nat} : (x_v w x).category = 1 := by
  by_cases h : x = 0
  · subst h; rfl
  · rw [x_v1 h]; rfl
def x_fv (w : q_Wd) (ci : Nat) (ρ : Nat → Nat) (τ : Nat → Int32) (j : Nat) : Value := if q_isR ci j = true then x_v w (ρ j) else .int (τ j)
def x_ent (w : q_Wd) (kd : Nat → x_Kd) (ρ : Nat → Nat → Nat) (τ : q_Sto) (k : Nat) : va_E := match kd k with
  | .inl ci => .inr (ci, (List.range (q_nF ci)).map (x_fv w ci (ρ k) (τ k)))
  | .inr (len, t) => .inl (w.2.1 t, len, if 3 ≤ t then .inr (.inr (.inr (.inr (fun j => x_vo w (ρ k j))))) else .inl (τ k))
def x_ws (w : q_Wd) (u : x_U) : va_W := (List.range (x_n u - q_N0)).map (fun k => (w.2.2.1 + (q_N0 + k), x_ent w (x_k u) (x_r u) (x_t u) (q_N0 + k)))
/-- where a number can lie, by its kind -/
def x_loc (w : q_Wd) (u : x_U) (i : Nat) : Prop := (q_N0 ≤ i ∧ i < x_n u ∧ ((∃ ci, x_k u i = .inl ci) ∨ ∃ len t, x_k u i = .inr (len, t) ∧ t < 6)) ∨ (∃ j, j < q_nS ∧ i = x_CB + j ∧ x_k u i = .inl 13 ∧ x_r u i 0 = x_CV + j ∧ x_t u i 1 = 0) ∨
  (∃ j, j < q_nS ∧ i = x_CV + j ∧ x_k u i = .inr ((q_tx j).length, 7) ∧ ∀ k, x_t u i k = (q_tx j).getD k 0) ∨ (i = x_CT ∧ x_k u i = .inr (100, 7) ∧ x_t u i = q_d0) ∨ (i = x_CT + 1 ∧ x_k u i = .inr (100, 7) ∧ x_t u i = q_d1) ∨
  (i = x_CT + 2 ∧ x_k u i = .inr (q_xl w, 6) ∧ x_t u i = q_xs w) ∨ x_k u i = .inr (0, 9)
def x_wf (w : q_Wd) (u : x_U) : Prop := ∀ i, x_loc w u i
def x_R (w : q_Wd) (u : x_U) (H : Heap) : Prop := H.size = w.2.2.1 + x_n u ∧ (q_N0 ≤ x_n u ∧ x_n u ≤ x_lim) ∧ va_P w.1 q_cl (q_ws w (q_sg (x_c u))) H ∧ va_P w.1 q_cl (x_ws w u) H ∧ x_wf w u
theorem q_nS_le : q_nS ≤ 1000 := by decide
theorem q_N0_le : q_N0 ≤ x_lim := by decide
theorem x_ad_in {w : q_Wd} {x : Nat} (h : x < x_CB) : x_ad w x = w.2.2.1 + x := by
  rw [x_ad, if_pos h]
theorem x_ad_s {w : q_Wd} {j : Nat} (h : j < q_nS) : x_ad w (x_CB + j) = w.2.2.2.1 j := by
  have := q_nS_le
  rw [x_ad, if_neg (by omega), if_pos (by unfold x_CB x_CV; omega)]
  rw [Nat.add_sub_cancel_left]
theorem x_ad_b {w : q_Wd} {j : Nat} (h : j < q_nS) : x_ad w (x_CV + j) = w.2.2.2.2.1 j := by
  have := q_nS_le
  rw [x_ad, if_neg (by unfold x_CB x_CV; omega), if_neg (by omega), if_pos (by unfold x_CV x_CT; omega)]
  rw [Nat.add_sub_cancel_left]
theorem x_ad_t {w : q_Wd} {j : Nat} : x_ad w (x_CT + j) = q_sa w j := by
  rw [x_ad, if_neg (by unfold x_CB x_CT; omega), if_neg (by unfold x_CV x_CT; omega), if_neg (by omega)]
  rw [Nat.add_sub_cancel_left]
theorem x_lim_CB {x : Nat} (h : x ≤ x_lim) : x < x_CB := by
  unfold x_lim at h
  unfold x_CB
  omega
theorem x_ws_get {w : q_Wd} {u : x_U} {k : Nat} (h1 : q_N0 ≤ k) (h2 : k < x_n u) : (x_ws w u)[k - q_N0]? = some (w.2.2.1 + k, x_ent w (x_k u) (x_r u) (x_t u) k) := by
  have e : q_N0 + (k - q_N0) = k := by omega
  have hl : k - q_N0 < x_n u - q_N0 := by omega
  simp [x_ws, hl, e]
theorem x_ws_inv {w : q_Wd} {u : x_U} {k : Nat} {q : Nat × va_E} (h : (x_ws w u)[k]? = some q) : q_N0 + k < x_n u ∧ q = (w.2.2.1 + (q_N0 + k), x_ent w (x_k u) (x_r u) (x_t u) (q_N0 + k)) := by
  by_cases hk : k < x_n u - q_N0
  · have h2 : (x_ws w u)[k]? = some (w.2.2.1 + (q_N0 + k), x_ent w (x_k u) (x_r u) (x_t u) (q_N0 + k)) := by simp [x_ws, hk]
    rw [h2] at h
    exact ⟨by omega, (Option.some.inj h).symm⟩
  · exfalso
    have h1 : (x_ws w u).length ≤ k := by simp [x_ws]; omega
    rw [List.getElem?_eq_none h1] at h
    cases h
theorem x_R.at {w : q_Wd} {u : x_U} {H : Heap} (h : x_R w u H) {k : Nat} (h1 : q_N0 ≤ k) (h2 : k < x_n u) : va_at w.1 q_cl (w.2.2.1 + k, x_ent w (x_k u) (x_r u) (x_t u) k) H := h.2.2.2.1 _ _ (x_ws_get h1 h2)
/-- a cell of the law is written -/
theorem x_R.put {w : q_Wd} {u u' : x_U} {H H1 : Heap} (h : x_R w u H) {k : Nat} (h1 : q_N0 ≤ k) (hz : H1.size = H.size) (oq : ∀ q : Nat, q ≠ w.2.2.1 + k → H1[q]? = H[q]?) (hc : x_c u' = x_c u) (hn : x_n u' = x_n u)
    (he : va_at w.1 q_cl (w.2.2.1 + k, x_ent w (x_k u') (x_r u') (x_t u') k) H1) (ho : ∀ j, j ≠ k → x_ent w (x_k u') (x_r u') (x_t u') j = x_ent w (x_k u) (x_r u) (x_t u) j) (hw : x_wf w u') : x_R w u' H1 := by
  refine ⟨by rw [hz, hn]; exact h.1, by rw [hn]; exact h.2.1, fun j q hj => ?_, fun j q hj => ?_, hw⟩
  · rw [hc] at hj
    obtain ⟨hj2, rfl⟩ := q_ws_inv hj
    have hj3 : j < q_N0 := hj2
    exact (h.2.2.1 _ _ hj).kept (oq _ (by show w.2.2.1 + j ≠ _; omega))
  · obtain ⟨hj2, rfl⟩ := x_ws_inv hj
    by_cases hjk : q_N0 + j = k
    · subst hjk; exact he
    · rw [ho _ hjk]
      rw [hn] at hj2
      exact (h.at (Nat.le_add_right _ _) hj2).kept (oq _ (by show w.2.2.1 + (q_N0 + j) ≠ _; omega))
/-- a new cell -/
theorem x_R.push {w : q_Wd} {u u' : x_U} {H H1 : Heap} (h : x_R w u H) (hl : x_n u < x_lim) (hz : H1.size = H.size + 1) (oq : ∀ q : Nat, q < H.size → H1[q]? = H[q]?) (hc : x_c u' = x_c u) (hn : x_n u' = x_n u + 1)
    (he : va_at w.1 q_cl (w.2.2.1 + x_n u, x_ent w (x_k u') (x_r u') (x_t u') (x_n u)) H1) (ho : ∀ j, j ≠ x_n u → x_ent w (x_k u') (x_r u') (x_t u') j = x_ent w (x_k u) (x_r u) (x_t u) j) (hw : x_wf w u') : x_R w u' H1 := by
  obtain ⟨g1, ⟨g2, g3⟩, g4, g5, g6⟩ := h
  refine ⟨by rw [hz, hn, g1]; omega, ⟨by rw [hn]; omega, by rw [hn]; omega⟩, fun j q hj => ?_, fun j q hj => ?_, hw⟩
  · rw [hc] at hj
    obtain ⟨hj2, rfl⟩ := q_ws_inv hj
    have hj3 : j < q_N0 := hj2
    exact (g4 _ _ hj).kept (oq _ (by show w.2.2.1 + j < _; omega))
  · obtain ⟨hj2, rfl⟩ := x_ws_inv hj
    rw [hn] at hj2
    by_cases hjk : q_N0 + j = x_n u
    · rw [hjk]; exact he
    · rw [ho _ hjk]
      exact (g5 _ _ (by
        have := x_ws_get (w := w) (u := u) (k := q_N0 + j) (by omega) (by omega)
        rw [show q_N0 + j - q_N0 = j by omega] at this
        exact this)).kept (oq _ (by show w.2.2.1 + (q_N0 + j) < _; omega))
/-! changes of the world -/
def x_fU {α : Type} (f : Nat → α) (o : Nat) (v : α) : Nat → α := fun a => if a = o then v else f a
def x_up {α : Type} (f : Nat → Nat → α) (o k : Nat) (v : α) : Nat → Nat → α := fun a j => if a = o then (if j = k then v else f a j) else f a j
def x_ui (u : x_U) (o k : Nat) (v : Int32) : x_U := (x_c u, x_n u, x_m u, x_k u, x_r u, x_up (x_t u) o k v)
def x_ur (u : x_U) (o k v : Nat) : x_U := (x_c u, x_n u, x_m u, x_k u, x_up (x_r u) o k v, x_t u)
def x_uc (u : x_U) (σ : q_Sto) : x_U := (σ, x_n u, x_m u, x_k u, x_r u, x_t u)
def x_un (u : x_U) (kd : x_Kd) (sl : Nat) (f : Nat → Int32) : x_U := (x_c u, x_n u + 1, x_m u + sl, x_fU (x_k u) (x_n u) kd, x_fU (x_r u) (x_n u) (fun _ => 0), x_fU (x_t u) (x_n u) f)
def x_ub (u : x_U) (o : Nat) (f : Nat → Int32) : x_U := (x_c u, x_n u, x_m u, x_k u, x_r u, x_fU (x_t u) o f)
theorem x_up_s {α : Type} {f : Nat → Nat → α} {o k : Nat} {v : α} : x_up f o k v o k = v := by simp [x_up]
theorem x_up_k {α : Type} {f : Nat → Nat → α} {o k j : Nat} {v : α} (h : j ≠ k) : x_up f o k v o j = f o j := by simp [x_up, h]
theorem x_up_o {α : Type} {f : Nat → Nat → α} {o a k : Nat} {v : α} (h : a ≠ o) : x_up f o k v a = f a := by funext j; simp [x_up, h]
theorem x_fU_s {α : Type} {f : Nat → α} {o : Nat} {v : α} : x_fU f o v o = v := by simp [x_fU]
theorem x_fU_o {α : Type} {f : Nat → α} {o a : Nat} {v : α} (h : a ≠ o) : x_fU f o v a = f a := by simp [x_fU, h]
/-- a change of cells of the law's own leaves every number where it lies -/
theorem x_loc_of {w : q_Wd} {u u' : x_U} {i : Nat} (hn : x_n u ≤ x_n u') (hk : x_k u' i = x_k u i) (hc : x_CB ≤ i → x_r u' i = x_r u i ∧ x_t u' i = x_t u i) (h : x_loc w u i) : x_loc w u' i := by
  rcases h with ⟨a, b, c⟩ | ⟨j, a, b, c, d, e⟩ | ⟨j, a, b, c, d⟩ | ⟨a, b, c⟩ | ⟨a, b, c⟩ | ⟨a, b, c⟩ | h
  · exact Or.inl ⟨a, Nat.lt_of_lt_of_le b hn, by rw [hk]; exact c⟩
  · have hi : x_CB ≤ i := by omega
    exact Or.inr (Or.inl ⟨j, a, b, by rw [hk]; exact c, by rw [(hc hi).1]; exact d, by rw [(hc hi).2]; exact e⟩)
  · have hi : x_CB ≤ i := by unfold x_CB; unfold x_CV at b; omega
    exact Or.inr (Or.inr (Or.inl ⟨j, a, b, by rw [hk]; exact c, fun k => by rw [(hc hi).2]; exact d k⟩))
  · have hi : x_CB ≤ i := by unfold x_CB; unfold x_CT at a; omega
    exact Or.inr (Or.inr (Or.inr (Or.inl ⟨a, by rw [hk]; exact b, by rw [(hc hi).2]; exact c⟩)))
  · have hi : x_CB ≤ i := by unfold x_CB; unfold x_CT at a; omega
    exact Or.inr (Or.inr (Or.inr (Or.inr (Or.inl ⟨a, by rw [hk]; exact b, by rw [(hc hi).2]; exact c⟩))))
  · have hi : x_CB ≤ i := by unfold x_CB; unfold x_CT at a; omega
    exact Or.inr (Or.inr (Or.inr (Or.inr (Or.inr (Or.inl ⟨a, by rw [hk]; exact b, by rw [(hc hi).2]; exact c⟩)))))
  · exact Or.inr (Or.inr (Or.inr (Or.inr (Or.inr (Or.inr (by rw [hk]; exact h))))))
theorem x_wf_ui {w : q_Wd} {u : x_U} {o k : Nat} {v : Int32} (ho : o < x_CB) (h : x_wf w u) : x_wf w (x_ui u o k v) := fun i => x_loc_of (u := u) (Nat.le_refl _) rfl (fun hi => ⟨rfl, x_up_o (by omega)⟩) (h i)
theorem x_wf_ur {w : q_Wd} {u : x_U} {o k v : Nat} (ho : o < x_CB) (h : x_wf w u) : x_wf w (x_ur u o k v) := fun i => x_loc_of (u := u) (Nat.le_refl _) rfl (fun hi => ⟨x_up_o (by omega), rfl⟩) (h i)
theorem x_wf_ub {w : q_Wd} {u : x_U} {o : Nat} {f : Nat → Int32} (ho : o < x_CB) (h : x_wf w u) : x_wf w (x_ub u o f) := fun i => x_loc_of (u := u) (Nat.le_refl _) rfl (fun hi => ⟨rfl, x_fU_o (by omega)⟩) (h i)
theorem x_wf_uc {w : q_Wd} {u : x_U} {σ : q_Sto} (h : x_wf w u) : x_wf w (x_uc u σ) := fun i => x_loc_of (u := u) (Nat.le_refl _) rfl (fun _ => ⟨rfl, rfl⟩) (h i)
theorem x_wf_un {w : q_Wd} {u : x_U} {kd : x_Kd} {sl : Nat} {f : Nat → Int32} (hn : q_N0 ≤ x_n u) (hl : x_n u < x_lim) (hk : (∃ ci, kd = .inl ci) ∨ ∃ len t, kd = .inr (len, t) ∧ t < 6) (h : x_wf w u) : x_wf w (x_un u kd sl f) := by
  intro i
  by_cases hi : i = x_n u
  · subst hi
    have e : x_k (x_un u kd sl f) (x_n u) = kd := x_fU_s
    exact Or.inl ⟨hn, Nat.lt_succ_self _, by rw [e]; exact hk⟩
  · have hb : x_n u < x_CB := x_lim_CB (Nat.le_of_lt hl)
    exact x_loc_of (u := u) (Nat.le_succ _) (x_fU_o hi) (fun hc => ⟨x_fU_o hi, x_fU_o hi⟩) (h i)
theorem x_ent_c {w : q_Wd} {kd kd' : Nat → x_Kd} {ρ ρ' : Nat → Nat → Nat} {τ τ' : q_Sto} {j : Nat} (h0 : kd' j = kd j) (h1 : ρ' j = ρ j) (h2 : τ' j = τ j) : x_ent w kd' ρ' τ' j = x_ent w kd ρ τ j := by
  simp only [x_ent, h0, h1, h2]
theorem x_ent_o {w : q_Wd} {u : x_U} {o ci : Nat} (h : x_k u o = .inl ci) : x_ent w (x_k u) (x_r u) (x_t u) o = .inr (ci, (List.range (q_nF ci)).map (x_fv w ci (x_r u o) (x_t u o))) := by
  simp only [x_ent, h]
theorem x_ent_i {w : q_Wd} {u : x_U} {o len t : Nat} (h : x_k u o = .inr (len, t)) (ht : t < 3) : x_ent w (x_k u) (x_r u) (x_t u) o = .inl (w.2.1 t, len, .inl (x_t u o)) := by
  simp only [x_ent, h, if_neg (Nat.not_le.mpr ht)]
theorem x_ent_q {w : q_Wd} {u : x_U} {o len t : Nat} (h : x_k u o = .inr (len, t)) (ht : 3 ≤ t) : x_ent w (x_k u) (x_r u) (x_t u) o = .inl (w.2.1 t, len, .inr (.inr (.inr (.inr (fun j => x_vo w (x_r u o j)))))) := by
  simp only [x_ent, h, if_pos ht]
/-- an object of a class that is no text lies among the law's cells -/
theorem x_inO {w : q_Wd} {u : x_U} {H : Heap} (hR : x_R w u H) {o ci : Nat} (h : x_k u o = .inl ci) (hci : ci ≠ 13) : q_N0 ≤ o ∧ o < x_n u := by
  rcases hR.2.2.2.2 o with ⟨a, b, c⟩ | ⟨j, a, b, c, d⟩ | ⟨j, a, b, c, d⟩ | ⟨a, b, c⟩ | ⟨a, b, c⟩ | ⟨a, b, c⟩ | c
  · exact ⟨a, b⟩
  · rw [h] at c; cases c; exact absurd rfl hci
  all_goals (first | (rw [h] at c; cases c) | (rw [h] at b; cases b))
theorem x_inA {w : q_Wd} {u : x_U} {H : Heap} (hR : x_R w u H) {o len t : Nat} (h : x_k u o = .inr (len, t)) (ht : t < 6) : q_N0 ≤ o ∧ o < x_n u := by
  rcases hR.2.2.2.2 o with ⟨a, b, c⟩ | ⟨j, a, b, c, d⟩ | ⟨j, a, b, c, d⟩ | ⟨a, b, c⟩ | ⟨a, b, c⟩ | ⟨a, b, c⟩ | c
  · exact ⟨a, b⟩
  · rw [h] at c; cases c
  · rw [h] at c; cases c; omega
  · rw [h] at b; cases b; omega
  · rw [h] at b; cases b; omega
  · rw [h] at b; cases b; omega
  · rw [h] at c; cases c; omega
theorem x_R.CB {w : q_Wd} {u : x_U} {H : Heap} (hR : x_R w u H) {o : Nat} (h : o < x_n u) : o < x_CB := x_lim_CB (Nat.le_trans (Nat.le_of_lt h) hR.2.1.2)
/-! the judgement -/
def x_J (w : q_Wd) (cx : q_Cx) (nL m0 : Nat) (Q : State → Prop) (pc : Nat) (L : List (Option Value)) (st : List Value) (u : x_U) : Prop :=
  ∀ (H : Heap) (locs : List Loc) (ls : Array Slot), x_R w u H → va_S (q_A w) cx.2.2.2.2.1.heap H locs → q_L ls nL L → m0 ≤ x_m u →
    W cx.1 cx.2.1 cx.2.2.1 cx.2.2.2.1 cx.2.2.2.2.1 cx.2.2.2.2.2.1 cx.2.2.2.2.2.2.1 cx.2.2.2.2.2.2.2.1 cx.2.2.2.2.2.2.2.2.1 cx.2.2.2.2.2.2.2.2.2 H locs (H.size - cx.2.2.2.2.1.heap.size) (x_m u - m0) Q (F0 cx.2.2.2.2.2.1 pc ls st)
def x_ok (w : q_Wd) (cx : q_Cx) (own nm : String) (cc : ByteArray) (nL : Nat) (ret : Option FieldType) (f lo : Nat) : Prop :=
  cx.1.tables.exec = Jvm.exec ∧ cx.2.2.2.2.2.2.2.2.2.code = cc ∧ cx.2.2.2.2.2.2.2.2.2.maxLocals = nL ∧ cx.2.2.2.2.1.vm.findClass own = some cx.2.2.2.2.2.1.cls ∧ (∀ x ∈ q_big, x.before cx.2.2.2.2.2.2.1 cx.2.2.2.2.1 = true) ∧
  cx.2.2.2.2.2.2.2.2.1.sig.returnType = ret ∧ cx.2.2.2.2.2.2.2.2.1.locks = false ∧ q_K w cx.2.2.2.2.1 ∧ (cx.2.2.2.1.frames = f ∧ cx.2.2.2.1.locals = lo) ∧ w.2.2.1 ≤ cx.2.2.2.2.1.heap.size ∧ w.2.2.2.2.2.1 = none ∧ cx.2.2.2.2.2.2.2.2.1.name = nm
/-- answers: an int, a reference, nothing -/
def x_aI (r : Int32) : Option Value := some (.int r)
def x_aR (w : q_Wd) (r : Nat) : Option Value := some (x_v w r)
def x_aV (_ : Int32) : Option Value := none
def x_Qc {α : Type} (w : q_Wd) (m0 : Nat) (an : α → Option Value) (r : α) (u : x_U) : Array Value → State → Outcome → State → Prop := fun _ st oc t => oc = .returned (an r) ∧ x_R w u t.heap ∧ va_F (q_A w) st t ∧ m0 ≤ x_m u
def x_Q {α : Type} (w : q_Wd) (cx : q_Cx) (m0 : Nat) (an : α → Option Value) (r : α) (u : x_U) : State → Prop := MQ cx.2.2.2.2.2.2.2.1 (x_Qc w m0 an r u) cx.2.2.2.2.2.2.1 cx.2.2.2.2.1 (w.2.2.1 + x_n u - cx.2.2.2.2.1.heap.size) (x_m u - m0) (q_A w)
/-- a method's contract: from the world u1 it returns r and the world is u2 -/
def x_M {α : Type} (l : Launch) (w : q_Wd) (y : MethodName) (cc : ByteArray) (nL : Nat) (ret : Option FieldType) (f lo : Nat) (As : List Value) (an : α → Option Value) (u1 : x_U) (r : α) (u2 : x_U) : Prop :=
  Met l y (.code y cc nL ret :: q_big) { frames := f, cells := x_n u2 - x_n u1, slots := x_m u2 - x_m u1, locals := lo } (va_Pc As (fun U => q_K w U ∧ x_R w u1 U.heap)) (x_Qc w (x_m u1) an r u2) (x_n u2 - x_n u1) (x_m u2 - x_m u1) (q_A w)
def x_le (u u' : x_U) : Prop := x_n u ≤ x_n u' ∧ x_m u ≤ x_m u'
theorem x_le.rf {u : x_U} : x_le u u := ⟨Nat.le_refl _, Nat.le_refl _⟩
theorem x_le.tr {a b c : x_U} (h : x_le a b) (k : x_le b c) : x_le a c := ⟨Nat.le_trans h.1 k.1, Nat.le_trans h.2 k.2⟩
/-- the room is enough for the world u' at the end -/
def x_rm (w : q_Wd) (cx : q_Cx) (m0 : Nat) (u' : x_U) : Prop := w.2.2.1 + x_n u' ≤ cx.2.2.2.2.1.heap.size + cx.2.2.2.1.cells ∧ x_m u' ≤ m0 + cx.2.2.2.1.slots
/-- 'from here the method answers what o says, and makes of the world what o says, if o says anything' -/
def x_G {α : Type} (w : q_Wd) (cx : q_Cx) (own nm : String) (cc : ByteArray) (nL : Nat) (ret : Option FieldType) (f lo m0 : Nat) (an : α → Option Value) (pc : Nat) (L : List (Option Value)) (st : List Value) (u : x_U) (o : Option (α × x_U)) : Prop :=
  ∀ (r : α) (u' : x_U), o = some (r, u') → x_le u u' ∧ (x_ok w cx own nm cc nL ret f lo → x_rm w cx m0 u' → x_J w cx nL m0 (x_Q w cx m0 an r u') pc L st u)
def x_C {α : Type} (l : Launch) (w : q_Wd) (y : MethodName) (cc : ByteArray) (nL : Nat) (ret : Option FieldType) (f lo : Nat) (As : List Value) (an : α → Option Value) (u : x_U) (o : Option (α × x_U)) : Prop :=
  w.2.2.2.2.2.1 = none → ∀ (r : α) (u' : x_U), o = some (r, u') → (q_Cx → x_le u u') ∧ x_M l w y cc nL ret f lo As an u r u'
theorem x_CofG {α : Type} {l : Launch} {w : q_Wd} {y : MethodName} {cc : ByteArray} {nL : Nat} {ret : Option FieldType} {f lo : Nat} {As : List Value} {an : α → Option Value} {u : x_U} {o : Option (α × x_U)} (L : List (Option Value)) (hy : plainName y.cls = true) (hL : q_entry As nL = L) (hAs : ∀ a ∈ As, a.category = 1) (hlen : As.length ≤ nL)
    (h : w.2.2.2.2.2.1 = none → ∀ cx : q_Cx, cx.2.1 = l → x_G w cx y.cls y.name cc nL ret f lo (x_m u) an 0 L [] u o) : x_C l w y cc nL ret f lo As an u o := by
  intro hop r u' ho
  refine ⟨fun cx => (h hop (cx.1, l, cx.2.2) rfl r u' ho).1, ?_⟩
  refine Met.ofW (cc := cc) (maxL := nL) (ret := ret) hy rfl ?_
  intro p e s m args below meth c s₁ B hml hv
  obtain ⟨rfl, hK, hR⟩ := hv
  have hts := atoms_spec (ws := .code y cc nL ret :: q_big) B.pre
  have hb : w.2.2.1 ≤ s.heap.size := by rw [hR.1]; exact Nat.le_add_right _ _
  have hl := lv_entry As (n := nL) (by
    have e : ∀ l : List Value, (∀ a ∈ l, a.category = 1) → (lg_sl l).length = l.length := by
      intro l
      induction l with
      | nil => intro _; rfl
      | cons a r ih =>
        intro h
        have e1 := ih (fun x hx => h x (List.mem_cons_of_mem _ hx))
        have e2 := h a List.mem_cons_self
        simp [lg_sl, e2] at e1 ⊢
        omega
    rw [e As hAs]; exact hlen)
  rw [lg_entry_eq]
  obtain ⟨hm, hG⟩ := h hop (p, l, e, (headSpec (.code y cc nL ret :: q_big) { frames := f, cells := x_n u' - x_n u, slots := x_m u' - x_m u, locals := lo }).room, s, m, As.toArray, below, meth, c) rfl r u' ho
  have hz : s.heap.size = w.2.2.1 + x_n u := hR.1
  have hG2 := hG ⟨B.exec, B.bytes, hml, findClass_of_methodNamed B.named, fun x hx => hts x (List.mem_cons_of_mem _ hx), B.returns, B.notSynchronized, hK, ⟨rfl, rfl⟩, hb, hop, (name_of_methodNamed B.named B.method).1⟩
    ⟨by show w.2.2.1 + x_n u' ≤ s.heap.size + (x_n u' - x_n u); have := hm.1; omega, by show x_m u' ≤ x_m u + (x_m u' - x_m u); omega⟩ s.heap [] _ hR va_S.rf ⟨hl.1, hl.2.1, fun i v hi => by
      rw [← hL] at hi
      obtain ⟨h1, h2⟩ := q_nth_entry As nL 0 i v hAs hi
      rw [Nat.zero_add] at h2
      exact ⟨h1, hl.2.2 (i, v) h2⟩⟩ (Nat.le_refl _)
  have e1 : s.heap.size - s.heap.size = 0 := Nat.sub_self _
  have e2 : x_m u - x_m u = 0 := Nat.sub_self _
  have e3 : w.2.2.1 + x_n u' - s.heap.size = x_n u' - x_n u := by omega
  unfold x_Q at hG2
  dsimp only at hG2
  rw [e1, e2, e3] at hG2
  exact hG2
theorem x_none {α : Type} {w : q_Wd} {cx : q_Cx} {own nm : String} {cc : ByteArray} {nL : Nat} {ret : Option FieldType} {f lo m0 : Nat} {an : α → Option Value} {pc : Nat} {L : List (Option Value)} {st : List Value} {u : x_U} : x_G w cx own nm cc nL ret f lo m0 an pc L st u none := fun _ _ h => by cases h
theorem x_Gmask {α : Type} {w : q_Wd} {cx : q_Cx} {own nm : String} {cc : ByteArray} {nL : Nat} {ret : Option FieldType} {f lo m0 : Nat} {an : α → Option Value} {pc : Nat} {L L2 : List (Option Value)} {st : List Value} {u : x_U} {o : Option (α × x_U)} (b : List Bool) (hb : q_mask b L = L2) (h : x_G w cx own nm cc nL ret f lo m0 an pc L2 st u o) : x_G w cx own nm cc nL ret f lo m0 an pc L st u o := by
  subst hb
  intro r u' ho
  obtain ⟨h1, h2⟩ := h r u' ho
  exact ⟨h1, fun hc hr H locs ls hR hS hL hm => h2 hc hr H locs ls hR hS (hL.mask b) hm⟩
