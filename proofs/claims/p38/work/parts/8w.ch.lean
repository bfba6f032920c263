/-! a chain of what is appended, made from a state on -/
theorem zt_wx_all : (List.range 53).all (fun i => decide ((q_tx i).length = (zt_w i).length) && (decide ((zt_w i).length ≤ 60) && (List.range 60).all (fun j => decide ((q_tx i).getD j 0 = nI ((zt_w i).getD j 0)) && decide ((zt_w i).getD j 0 < 128)))) = true := by decide +kernel
theorem zt_wx {i : Nat} (h : i < 53) : (q_tx i).length = (zt_w i).length ∧ (zt_w i).length ≤ 60 ∧ ∀ j, j < (zt_w i).length → (q_tx i).getD j 0 = nI ((zt_w i).getD j 0) ∧ (zt_w i).getD j 0 < 128 := by
  have := List.all_eq_true.mp zt_wx_all i (List.mem_range.mpr h)
  simp only [Bool.and_eq_true, decide_eq_true_eq] at this
  refine ⟨this.1, this.2.1, fun j hj => ?_⟩
  have := List.all_eq_true.mp this.2.2 j (List.mem_range.mpr (by omega))
  simp only [Bool.and_eq_true, decide_eq_true_eq] at this
  exact this
theorem S_cst {L i : Nat} {xs : Nat → Int32} {u : x_U} (h : y_WC L xs u) (hi : i < 53) : y_ST u (x_CB+i) (x_CV+i) (zt_w i) := by
  have c1 : x_CB = 1000000000 := rfl
  have c2 : x_CV = 1000001000 := rfl
  obtain ⟨h1, h2, h3, h4, h5⟩ := h.2 i hi
  obtain ⟨w1, w2, w3⟩ := zt_wx hi
  refine ⟨⟨h1, h2, h3, by omega⟩, ⟨7, Or.inr rfl, by rw [h4, w1]⟩, fun j hj => ?_, fun j hj => (w3 j hj).2, Or.inr (by omega), Or.inr (by omega)⟩
  rw [h5 j]
  exact (w3 j hj).1
def y_CH (own : Nat → Prop) (u0 u : x_U) (o v : Nat) (l : List Nat) (dn dm : Nat) : Prop := x_fr own u0 u ∧ x_n u ≤ x_n u0 + dn ∧ x_m u ≤ x_m u0 + dm ∧ x_n u0 ≤ o ∧ x_n u0 ≤ v ∧ x_n u ≤ 500000 ∧ ∃ cap, y_SB u o v cap l
section CH
variable {n : Nat} {own : Nat → Prop} {u0 u : x_U} {o v dn dm L : Nat} {l : List Nat} {xs : Nat → Int32}
theorem CH_new (h0 : 157 ≤ x_n u) (hb : x_n u + 2 ≤ 500000) : ∃ u', y_CH own u u' (x_n u) (x_n u + 1) [] 2 20 ∧ x_n u' = x_n u + 2 ∧ x_fr (fun _ => False) u u' ∧ ∀ (α : Type) (K : Nat → x_U → Option (α × x_U)), (x_new u 14 fun o s => x_o s o 14 <| x_call (F_J4_init_da8c8 n o s) fun _ s' => K o s') = K (x_n u) u' := by
  obtain ⟨u', f1, f2, f3, f4, f5⟩ := S_new (n := n) hb h0
  exact ⟨u', ⟨f1.mono (fun i hi => hi.elim), by omega, by omega, Nat.le_refl _, by omega, by omega, 16, f4⟩, f2, f1, f5⟩
theorem y_CH.bd (h : y_CH own u0 u o v l dn dm) : o < x_n u ∧ v < x_n u ∧ x_n u ≤ 500000 ∧ x_k u o = .inl 14 ∧ o ≠ 0 := by
  obtain ⟨-, -, -, -, -, -, cap, ⟨h1, -⟩, -, -, -, h10, h11, h12, h13, h14, h15⟩ := h
  exact ⟨h11, h13, h15, h1, by omega⟩
theorem y_CH.app {s sv M : Nat} {m : List Nat} (h : y_CH own u0 u o v l dn dm) (g : y_ST u s sv m) (hsv : sv ≠ v) (hl : l.length + m.length ≤ M) (hM : M ≤ 2000) (hb : x_n u + 1 ≤ 500000) : ∃ u' v', y_CH own u0 u' o v' (l ++ m) (dn + 1) (dm + (2 * M + 2)) ∧ x_fr (fun i => i = o ∨ i = v) u u' ∧ x_n u' ≤ x_n u + 1 ∧ (v' = v ∨ v' = x_n u) ∧ F_J4_append_15ec4 n o s u = some (o, u') := by
  have hb' := h.bd
  obtain ⟨f, h1, h2, h3, h4, h5, cap, hS⟩ := h
  obtain ⟨u', v', cap', g1, g2, g3, g4, g5, g6⟩ := S_app (n := n) hS g (by omega) hb hsv
  have hf2 := f.2.1
  refine ⟨u', v', ⟨?_, by omega, by omega, h3, by rcases g5 with q | q <;> omega, g4.2.2.2.2.2.2.2.2.2, cap', g4⟩, g1, g2, g5, g6⟩
  refine (x_fr.tr (f.mono (own' := fun i => own i ∨ i = o ∨ i = v) (fun i hi => Or.inl hi)) (g1.mono (fun i hi => Or.inr hi))).sub (fun i hi ho => ?_)
  rcases ho with q | q
  · exact q
  · omega
theorem y_CH.apc {i M : Nat} (h : y_CH own u0 u o v l dn dm) (hW : y_WC L xs u) (hi : i < 53) (hl : l.length + (zt_w i).length ≤ M) (hM : M ≤ 2000) (hb : x_n u + 1 ≤ 500000) : ∃ u' v', y_CH own u0 u' o v' (l ++ zt_w i) (dn + 1) (dm + (2 * M + 2)) ∧ y_WC L xs u' ∧ x_fr (fun i => i = o ∨ i = v) u u' ∧ x_n u' ≤ x_n u + 1 ∧ (v' = v ∨ v' = x_n u) ∧ F_J4_append_15ec4 n o (x_CB+i) u = some (o, u') := by
  have c2 : x_CV = 1000001000 := rfl
  have hb' := h.bd
  obtain ⟨u', v', g1, g2, g3, g4, g5⟩ := h.app (n := n) (S_cst hW hi) (by omega) hl hM hb
  exact ⟨u', v', g1, hW.fr g2 (fun i hi => by rcases hi with q | q <;> omega), g2, g3, g4, g5⟩
theorem y_CH.apn {a M : Nat} (hn : 5 ≤ n) (h : y_CH own u0 u o v l dn dm) (hW : y_WC L xs u) (ha : a < 1000) (hl : l.length + 3 ≤ M) (hM : M ≤ 2000) (hb : x_n u + 1 ≤ 500000) : ∃ u' v', y_CH own u0 u' o v' (l ++ y_dg a) (dn + 1) (dm + (2 * M + 2)) ∧ y_WC L xs u' ∧ x_fr (fun i => i = o ∨ i = v) u u' ∧ x_n u' ≤ x_n u + 1 ∧ (v' = v ∨ v' = x_n u) ∧ F_J4_append_bf812 n o (nI a) u = some (o, u') := by
  have hb' := h.bd
  obtain ⟨f, h1, h2, h3, h4, h5, cap, hS⟩ := h
  obtain ⟨u', v', cap', g1, g2, g3, g4, g5, g6⟩ := S_apn (n := n) hn hW hS ha (by omega) hb
  have hf2 := f.2.1
  refine ⟨u', v', ⟨?_, by omega, by omega, h3, by rcases g5 with q | q <;> omega, g4.2.2.2.2.2.2.2.2.2, cap', g4⟩, hW.fr g1 (fun i hi => by rcases hi with q | q <;> omega), g1, g2, g5, g6⟩
  refine (x_fr.tr (f.mono (own' := fun i => own i ∨ i = o ∨ i = v) (fun i hi => Or.inl hi)) (g1.mono (fun i hi => Or.inr hi))).sub (fun i hi ho => ?_)
  rcases ho with q | q
  · exact q
  · omega
theorem y_CH.toS {M : Nat} (h : y_CH own u0 u o v l dn dm) (hW : y_WC L xs u) (hl : l.length ≤ M) (hM : M ≤ 2000) (hb : x_n u + 2 ≤ 500000) : ∃ u', x_fr own u0 u' ∧ x_n u' ≤ x_n u0 + (dn + 2) ∧ x_m u' ≤ x_m u0 + (dm + (10 + M)) ∧ x_fr (fun _ => False) u u' ∧ x_n u' = x_n u + 2 ∧ x_m u' ≤ x_m u + (10 + M) ∧ y_WC L xs u' ∧ y_ST u' (x_n u) (x_n u + 1) l ∧ F_J4_toString_0e30d n o u = some (x_n u, u') := by
  obtain ⟨f, h1, h2, h3, h4, h5, cap, hS⟩ := h
  obtain ⟨u', g1, g2, g3, g4, g5⟩ := S_toS (n := n) hS (by omega) hb
  exact ⟨u', f.tr (g1.mono (fun i hi => hi.elim)), by omega, by omega, g1, g2, by omega, hW.fr g1 (fun i hi => hi.elim), g4, g5⟩
/-- what is done meanwhile -/
theorem y_CH.ext {u' : x_U} {a b : Nat} (h : y_CH own u0 u o v l dn dm) (f : x_fr own u u') (hn : x_n u' ≤ x_n u + a) (hm : x_m u' ≤ x_m u + b) (h5 : x_n u' ≤ 500000) (ho : ∀ i, own i → i < x_n u0) : y_CH own u0 u' o v l (dn + a) (dm + b) := by
  obtain ⟨f0, h1, h2, h3, h4, -, cap, hS⟩ := h
  exact ⟨f0.tr f, by omega, by omega, h3, h4, h5, cap, hS.fr f (fun q => by have := ho o q; omega) (fun q => by have := ho v q; omega) h5⟩
end CH
