/-! appending, as it stands in the law's text: with what comes behind -/
section CK
variable {n : Nat} {own : Nat → Prop} {u0 u : x_U} {o v dn dm L : Nat} {l : List Nat} {xs : Nat → Int32}
theorem y_CH.kc (i : Nat) {M : Nat} (h : y_CH own u0 u o v l dn dm) (hW : y_WC L xs u) (hi : i < 53) (hl : l.length + (zt_w i).length ≤ M) (hM : M ≤ 2000) (hb : x_n u0 + (dn + 1) ≤ 500000) : ∃ u' v', y_CH own u0 u' o v' (l ++ zt_w i) (dn + 1) (dm + (2 * M + 2)) ∧ y_WC L xs u' ∧ x_fr (fun i => i = o ∨ i = v) u u' ∧ (v' = v ∨ v' = x_n u) ∧ ∀ (α : Type) (K : Nat → x_U → Option (α × x_U)), (x_o u o 14 <| x_call (F_J4_append_15ec4 n o (x_CB+i) u) K) = K o u' := by
  have hk := h.bd.2.2.2.1
  have h1 := h.2.1
  obtain ⟨u', v', g1, g2, g3, g4, g5, g6⟩ := h.apc (n := n) hW hi hl hM (by omega)
  exact ⟨u', v', g1, g2, g3, g5, fun α K => by rw [p_xo, h_xoE hk, g6, z_xcall]⟩
theorem y_CH.kn {a M : Nat} (hn : 5 ≤ n) (h : y_CH own u0 u o v l dn dm) (hW : y_WC L xs u) (ha : a < 1000) (hl : l.length + 3 ≤ M) (hM : M ≤ 2000) (hb : x_n u0 + (dn + 1) ≤ 500000) : ∃ u' v', y_CH own u0 u' o v' (l ++ y_dg a) (dn + 1) (dm + (2 * M + 2)) ∧ y_WC L xs u' ∧ x_fr (fun i => i = o ∨ i = v) u u' ∧ (v' = v ∨ v' = x_n u) ∧ ∀ (α : Type) (K : Nat → x_U → Option (α × x_U)), (x_o u o 14 <| x_call (F_J4_append_bf812 n o (nI a) u) K) = K o u' := by
  have hk := h.bd.2.2.2.1
  have h1 := h.2.1
  obtain ⟨u', v', g1, g2, g3, g4, g5, g6⟩ := h.apn hn hW ha hl hM (by omega)
  exact ⟨u', v', g1, g2, g3, g5, fun α K => by rw [p_xo, h_xoE hk, g6, z_xcall]⟩
theorem y_CH.ks {s sv M : Nat} {m : List Nat} (h : y_CH own u0 u o v l dn dm) (hW : y_WC L xs u) (g : y_ST u s sv m) (hsv : sv ≠ v) (hl : l.length + m.length ≤ M) (hM : M ≤ 2000) (hb : x_n u0 + (dn + 1) ≤ 500000) : ∃ u' v', y_CH own u0 u' o v' (l ++ m) (dn + 1) (dm + (2 * M + 2)) ∧ y_WC L xs u' ∧ x_fr (fun i => i = o ∨ i = v) u u' ∧ (v' = v ∨ v' = x_n u) ∧ ∀ (α : Type) (K : Nat → x_U → Option (α × x_U)), (x_o u o 14 <| x_call (F_J4_append_15ec4 n o s u) K) = K o u' := by
  have hk := h.bd
  have h1 := h.2.1
  obtain ⟨u', v', g1, g2, g3, g4, g5⟩ := h.app (n := n) g hsv hl hM (by omega)
  exact ⟨u', v', g1, hW.fr g2 (fun i hi => by rcases hi with q | q <;> omega), g2, g4, fun α K => by rw [p_xo, h_xoE hk.2.2.2.1, g5, z_xcall]⟩
/-- a String that was made: from u to u' -/
def y_LS (L : Nat) (xs : Nat → Int32) (u u' : x_U) (s : Nat) (m : List Nat) (a b : Nat) : Prop := x_fr (fun _ => False) u u' ∧ x_n u' ≤ x_n u + a ∧ x_m u' ≤ x_m u + b ∧ y_WC L xs u' ∧ ∃ sv, y_ST u' s sv m ∧ (x_n u ≤ sv ∨ 500000 < sv)
theorem y_CH.kt {M : Nat} (h : y_CH (fun _ => False) u0 u o v l dn dm) (hW : y_WC L xs u) (hl : l.length ≤ M) (hM : M ≤ 2000) (hb : x_n u0 + (dn + 2) ≤ 500000) : ∃ u', y_LS L xs u0 u' (x_n u) l (dn + 2) (dm + (10 + M)) ∧ x_fr (fun _ => False) u u' ∧ x_n u' = x_n u + 2 ∧ ∀ (α : Type) (K : Nat → x_U → Option (α × x_U)), (x_o u o 14 <| x_call (F_J4_toString_0e30d n o u) K) = K (x_n u) u' := by
  have hk := h.bd.2.2.2.1
  have h1 := h.2.1
  have hf := h.1.2.1
  obtain ⟨u', f0, f1, f2, f3, f4, f5, f6, f7, f8⟩ := h.toS (n := n) hW hl hM (by omega)
  exact ⟨u', ⟨f0, f1, f2, f6, _, f7, Or.inl (by omega)⟩, f3, f4, fun α K => by rw [p_xo, h_xoE hk, f8, z_xcall]⟩
theorem zt_wE : zt_w 30 = [109, 117, 108, 101, 32] ∧ zt_w 31 = [32, 104, 101, 101, 100, 115, 32] ∧ zt_w 32 = [32, 97, 110, 100, 32] ∧ zt_w 33 = [] ∧ zt_w 34 = [59] ∧ zt_w 35 = [32, 115, 97, 108, 116, 32] ∧ zt_w 36 = [32, 115, 105, 110, 103, 32] ∧ zt_w 37 = [32, 119, 104, 105, 112, 32] ∧ zt_w 38 = [32, 118, 111, 116, 101] ∧ zt_w 39 = [32, 103, 111, 32] ∧ zt_w 40 = [111, 110, 32] ∧ zt_w 41 = [32] ∧ zt_w 42 = [112, 97, 116, 104, 32] ∧ zt_w 43 = [32, 104, 111, 117, 114, 115, 32] := by decide +kernel
/-- the sub-text " and b" -/
theorem T_sub {i a : Nat} (hn : 5 ≤ n) (hW : y_WC L xs u) (hi : i < 53) (hil : (zt_w i).length ≤ 10) (ha : a < 1000) (h0 : 157 ≤ x_n u) (hb : x_n u + 10 ≤ 500000) : ∃ u' s, y_LS L xs u u' s (zt_w i ++ y_dg a) 6 250 ∧ ∀ (α : Type) (K : Nat → x_U → Option (α × x_U)), (x_new u 14 fun o68 s69 =>
      x_o s69 o68 14 <|
      x_call (F_J4_init_da8c8 n o68 s69) fun r71 s70 =>
      x_o s70 o68 14 <|
      x_call (F_J4_append_15ec4 n o68 (x_CB + i) s70) fun o74 s73 =>
      x_o s73 o74 14 <|
      x_call (F_J4_append_bf812 n o74 (nI a) s73) fun o77 s76 =>
      x_o s76 o77 14 <|
      x_call (F_J4_toString_0e30d n o77 s76) K) = K s u' := by
  obtain ⟨d1, d2, d3⟩ := y_dgl ha
  obtain ⟨w1, c1, n1, f1, e1⟩ := CH_new (n := n) (own := fun _ => False) h0 (by omega)
  have hW1 := hW.fr f1 (fun i h => h.elim)
  obtain ⟨w2, v2, c2, hW2, f2, q2, e2⟩ := c1.kc (n := n) i (M := 40) hW1 hi (by simp; omega) (by omega) (by omega)
  obtain ⟨w3, v3, c3, hW3, f3, q3, e3⟩ := c2.kn (a := a) (M := 40) hn hW2 ha (by simp; omega) (by omega) (by omega)
  obtain ⟨w4, g1, g2, g3, e4⟩ := c3.kt (n := n) (M := 40) hW3 (by simp; omega) (by omega) (by omega)
  refine ⟨w4, x_n w3, ?_, fun α K => ?_⟩
  · obtain ⟨a1, a2, a3, a4⟩ := g1
    exact ⟨a1, by omega, by omega, by simpa using a4⟩
  · refine (e1 α _).trans ?_
    rw [e2, e3, e4]
end CK
