/-! the law's own text, built -/
theorem zt_wL : zt_w 44 = [108, 101, 97, 110, 32, 108, 105, 107, 105, 110, 103, 43, 115, 111, 110, 103, 115, 42] ∧ zt_w 45 = [45, 104, 97, 110, 100, 32, 119, 104, 101, 110, 32, 97, 103, 101, 62] ∧ zt_w 46 = [32, 97, 110, 100, 32, 110, 111, 116, 32, 40, 104, 101, 101, 100, 101, 100, 62, 49, 32, 111, 114, 32, 104, 97, 110, 100, 61] ∧ zt_w 47 = [41, 59, 108, 101, 97, 110, 32, 108, 105, 107, 105, 110, 103, 47, 50, 43, 104, 101, 101, 100, 101, 100, 42] ∧ zt_w 48 = [59, 110, 101, 101, 100, 32] ∧ zt_w 49 = [43, 115, 116, 114, 111, 110, 103, 47, 57, 45, 115, 110, 111, 119, 59, 114, 105, 115, 107, 32, 115, 110, 111, 119, 42, 54, 48, 43, 97, 103, 101, 42, 51, 45, 104, 97, 110, 100, 42, 57, 32, 119, 104, 101, 110, 32, 104, 111, 117, 114, 115, 62] ∧ zt_w 50 = [32, 111, 114, 32, 109, 117, 108, 101, 61] ∧ zt_w 51 = [59, 114, 105, 115, 107, 32, 104, 111, 117, 114, 115, 42] ∧ zt_w 52 = [45, 115, 111, 110, 103, 115, 59] := by decide +kernel
set_option maxRecDepth 20000 in
theorem y_lawE {d : Nat → Nat} : [] ++ zt_w 44 ++ y_dg (d 2) ++ zt_w 45 ++ y_dg (d 0) ++ zt_w 46 ++ y_dg (d 1) ++ zt_w 47 ++ y_dg (d 3) ++ zt_w 48 ++ y_dg (d 4) ++ zt_w 49 ++ y_dg (d 5) ++ zt_w 50 ++ y_dg (d 6) ++ zt_w 51 ++ y_dg (d 7) ++ zt_w 52 = y_b0 d (y_b1 d (y_b2 d (y_b3 d (y_b4 d [])))) := by
  obtain ⟨z44, z45, z46, z47, z48, z49, z50, z51, z52⟩ := zt_wL
  rw [List.nil_append]
  simp only [List.append_assoc]
  rw [z44, z45, z46, z47, z48, z49, z50, z51, z52]
  rfl
section LL
variable {n : Nat} {u : x_U} {L : Nat} {xs : Nat → Int32}
theorem T_law {q : Nat} {d : Nat → Nat} (hn : 5 ≤ n) (hW : y_WC L xs u) (hd : ∀ j, d j ≤ 60) (h0 : 157 ≤ x_n u) (hb : x_n u + 30 ≤ 500000) (kq : x_k u q = .inr (8, 0)) (tq : ∀ j, j < 8 → x_t u q j = nI (d j)) (lq : q < x_n u) :
    ∃ u' s, y_LS L xs u u' s (y_b0 d (y_b1 d (y_b2 d (y_b3 d (y_b4 d []))))) 24 11000 ∧ ∀ (α : Type) (J : Nat → x_U → Option (α × x_U)), (x_new u 14 fun o150 s151 =>
  x_o s151 o150 14 <|
  x_call (F_J4_init_da8c8 n o150 s151) fun r153 s152 =>
  x_o s152 o150 14 <|
  x_call (F_J4_append_15ec4 n o150 (x_CB + 44) s152) fun o156 s155 =>
  x_ld s155 q 2 fun v158 =>
  x_o s155 o156 14 <|
  x_call (F_J4_append_bf812 n o156 v158 s155) fun o160 s159 =>
  x_o s159 o160 14 <|
  x_call (F_J4_append_15ec4 n o160 (x_CB + 45) s159) fun o163 s162 =>
  x_ld s162 q 0 fun v165 =>
  x_o s162 o163 14 <|
  x_call (F_J4_append_bf812 n o163 v165 s162) fun o167 s166 =>
  x_o s166 o167 14 <|
  x_call (F_J4_append_15ec4 n o167 (x_CB + 46) s166) fun o170 s169 =>
  x_ld s169 q 1 fun v172 =>
  x_o s169 o170 14 <|
  x_call (F_J4_append_bf812 n o170 v172 s169) fun o174 s173 =>
  x_o s173 o174 14 <|
  x_call (F_J4_append_15ec4 n o174 (x_CB + 47) s173) fun o177 s176 =>
  x_ld s176 q 3 fun v179 =>
  x_o s176 o177 14 <|
  x_call (F_J4_append_bf812 n o177 v179 s176) fun o181 s180 =>
  x_o s180 o181 14 <|
  x_call (F_J4_append_15ec4 n o181 (x_CB + 48) s180) fun o184 s183 =>
  x_ld s183 q 4 fun v186 =>
  x_o s183 o184 14 <|
  x_call (F_J4_append_bf812 n o184 v186 s183) fun o188 s187 =>
  x_o s187 o188 14 <|
  x_call (F_J4_append_15ec4 n o188 (x_CB + 49) s187) fun o191 s190 =>
  x_ld s190 q 5 fun v193 =>
  x_o s190 o191 14 <|
  x_call (F_J4_append_bf812 n o191 v193 s190) fun o195 s194 =>
  x_o s194 o195 14 <|
  x_call (F_J4_append_15ec4 n o195 (x_CB + 50) s194) fun o198 s197 =>
  x_ld s197 q 6 fun v200 =>
  x_o s197 o198 14 <|
  x_call (F_J4_append_bf812 n o198 v200 s197) fun o202 s201 =>
  x_o s201 o202 14 <|
  x_call (F_J4_append_15ec4 n o202 (x_CB + 51) s201) fun o205 s204 =>
  x_ld s204 q 7 fun v207 =>
  x_o s204 o205 14 <|
  x_call (F_J4_append_bf812 n o205 v207 s204) fun o209 s208 =>
  x_o s208 o209 14 <|
  x_call (F_J4_append_15ec4 n o209 (x_CB + 52) s208) fun o212 s211 =>
  x_o s211 o212 14 <|
  x_call (F_J4_toString_0e30d n o212 s211) fun o215 s214 => J o215 s214) = J s u' := by
  obtain ⟨g01, g02, -⟩ := y_dgl (a := d 0) (by have := hd 0; omega)
  obtain ⟨g11, g12, -⟩ := y_dgl (a := d 1) (by have := hd 1; omega)
  obtain ⟨g21, g22, -⟩ := y_dgl (a := d 2) (by have := hd 2; omega)
  obtain ⟨g31, g32, -⟩ := y_dgl (a := d 3) (by have := hd 3; omega)
  obtain ⟨g41, g42, -⟩ := y_dgl (a := d 4) (by have := hd 4; omega)
  obtain ⟨g51, g52, -⟩ := y_dgl (a := d 5) (by have := hd 5; omega)
  obtain ⟨g61, g62, -⟩ := y_dgl (a := d 6) (by have := hd 6; omega)
  obtain ⟨g71, g72, -⟩ := y_dgl (a := d 7) (by have := hd 7; omega)
  obtain ⟨z44, z45, z46, z47, z48, z49, z50, z51, z52⟩ := zt_wL
  have h44 : (zt_w 44).length = 18 := by decide +kernel
  have h45 : (zt_w 45).length = 15 := by decide +kernel
  have h46 : (zt_w 46).length = 27 := by decide +kernel
  have h47 : (zt_w 47).length = 23 := by decide +kernel
  have h48 : (zt_w 48).length = 6 := by decide +kernel
  have h49 : (zt_w 49).length = 52 := by decide +kernel
  have h50 : (zt_w 50).length = 9 := by decide +kernel
  have h51 : (zt_w 51).length = 12 := by decide +kernel
  have h52 : (zt_w 52).length = 7 := by decide +kernel
  have rd : ∀ w' : x_U, x_fr (fun _ => False) u w' → ∀ (α : Type) (j : Nat), j < 8 → ∀ K : Int32 → Option (α × x_U), x_ld w' q (nI j) K = K (nI (d j)) := fun w' f α j hj K => by
    have y1 := f.2.2.2.2 q (Or.inl lq) (fun h => h)
    have a1 : x_k w' q = .inr (8, 0) := by rw [f.2.2.2.1 q (Or.inl lq)]; exact kq
    rw [p_xld, h_xldE a1 hj (by omega), y1.2, tq j hj]
  obtain ⟨w1, c1, n1, f1, e1⟩ := CH_new (n := n) (own := fun _ => False) h0 (by omega)
  have hW1 := hW.fr f1 (fun i h => h.elim)
  obtain ⟨w2, v2, c2, hW2, f2, q2, e2⟩ := c1.kc (n := n) 44 (M := 300) hW1 (by omega) (by simp only [List.length_append, List.length_nil]; omega) (by omega) (by omega)
  obtain ⟨w3, v3, c3, hW3, f3, q3, e3⟩ := c2.kn (a := d 2) (M := 300) hn hW2 (by have := hd 2; omega) (by simp only [List.length_append, List.length_nil]; omega) (by omega) (by omega)
  obtain ⟨w4, v4, c4, hW4, f4, q4, e4⟩ := c3.kc (n := n) 45 (M := 300) hW3 (by omega) (by simp only [List.length_append, List.length_nil]; omega) (by omega) (by omega)
  obtain ⟨w5, v5, c5, hW5, f5, q5, e5⟩ := c4.kn (a := d 0) (M := 300) hn hW4 (by have := hd 0; omega) (by simp only [List.length_append, List.length_nil]; omega) (by omega) (by omega)
  obtain ⟨w6, v6, c6, hW6, f6, q6, e6⟩ := c5.kc (n := n) 46 (M := 300) hW5 (by omega) (by simp only [List.length_append, List.length_nil]; omega) (by omega) (by omega)
  obtain ⟨w7, v7, c7, hW7, f7, q7, e7⟩ := c6.kn (a := d 1) (M := 300) hn hW6 (by have := hd 1; omega) (by simp only [List.length_append, List.length_nil]; omega) (by omega) (by omega)
  obtain ⟨w8, v8, c8, hW8, f8, q8, e8⟩ := c7.kc (n := n) 47 (M := 300) hW7 (by omega) (by simp only [List.length_append, List.length_nil]; omega) (by omega) (by omega)
  obtain ⟨w9, v9, c9, hW9, f9, q9, e9⟩ := c8.kn (a := d 3) (M := 300) hn hW8 (by have := hd 3; omega) (by simp only [List.length_append, List.length_nil]; omega) (by omega) (by omega)
  obtain ⟨w10, v10, c10, hW10, f10, q10, e10⟩ := c9.kc (n := n) 48 (M := 300) hW9 (by omega) (by simp only [List.length_append, List.length_nil]; omega) (by omega) (by omega)
  obtain ⟨w11, v11, c11, hW11, f11, q11, e11⟩ := c10.kn (a := d 4) (M := 300) hn hW10 (by have := hd 4; omega) (by simp only [List.length_append, List.length_nil]; omega) (by omega) (by omega)
  obtain ⟨w12, v12, c12, hW12, f12, q12, e12⟩ := c11.kc (n := n) 49 (M := 300) hW11 (by omega) (by simp only [List.length_append, List.length_nil]; omega) (by omega) (by omega)
  obtain ⟨w13, v13, c13, hW13, f13, q13, e13⟩ := c12.kn (a := d 5) (M := 300) hn hW12 (by have := hd 5; omega) (by simp only [List.length_append, List.length_nil]; omega) (by omega) (by omega)
  obtain ⟨w14, v14, c14, hW14, f14, q14, e14⟩ := c13.kc (n := n) 50 (M := 300) hW13 (by omega) (by simp only [List.length_append, List.length_nil]; omega) (by omega) (by omega)
  obtain ⟨w15, v15, c15, hW15, f15, q15, e15⟩ := c14.kn (a := d 6) (M := 300) hn hW14 (by have := hd 6; omega) (by simp only [List.length_append, List.length_nil]; omega) (by omega) (by omega)
  obtain ⟨w16, v16, c16, hW16, f16, q16, e16⟩ := c15.kc (n := n) 51 (M := 300) hW15 (by omega) (by simp only [List.length_append, List.length_nil]; omega) (by omega) (by omega)
  obtain ⟨w17, v17, c17, hW17, f17, q17, e17⟩ := c16.kn (a := d 7) (M := 300) hn hW16 (by have := hd 7; omega) (by simp only [List.length_append, List.length_nil]; omega) (by omega) (by omega)
  obtain ⟨w18, v18, c18, hW18, f18, q18, e18⟩ := c17.kc (n := n) 52 (M := 300) hW17 (by omega) (by simp only [List.length_append, List.length_nil]; omega) (by omega) (by omega)
  obtain ⟨w19, g1, g2, g3, e19⟩ := c18.kt (n := n) (M := 300) hW18 (by simp only [List.length_append, List.length_nil]; omega) (by omega) (by omega)
  refine ⟨w19, x_n w18, ?_, fun α J => ?_⟩
  · obtain ⟨a1, a2, a3, a4, a5⟩ := g1
    refine ⟨a1, by omega, by omega, a4, ?_⟩
    rw [← y_lawE]
    exact a5
  · refine (e1 α _).trans ?_
    rw [e2]
    refine (rd w2 c2.1 α 2 (by omega) _).trans ?_
    rw [e3]
    rw [e4]
    refine (rd w4 c4.1 α 0 (by omega) _).trans ?_
    rw [e5]
    rw [e6]
    refine (rd w6 c6.1 α 1 (by omega) _).trans ?_
    rw [e7]
    rw [e8]
    refine (rd w8 c8.1 α 3 (by omega) _).trans ?_
    rw [e9]
    rw [e10]
    refine (rd w10 c10.1 α 4 (by omega) _).trans ?_
    rw [e11]
    rw [e12]
    refine (rd w12 c12.1 α 5 (by omega) _).trans ?_
    rw [e13]
    rw [e14]
    refine (rd w14 c14.1 α 6 (by omega) _).trans ?_
    rw [e15]
    rw [e16]
    refine (rd w16 c16.1 α 7 (by omega) _).trans ?_
    rw [e17]
    rw [e18]
    rw [e19]
end LL
