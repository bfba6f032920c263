/-! the law's text told, and read by the class -/
theorem y_law_len {d : Nat → Nat} (hd : ∀ j, d j ≤ 60) : (y_b0 d (y_b1 d (y_b2 d (y_b3 d (y_b4 d []))))).length ≤ 380 := by
  obtain ⟨g01, -⟩ := y_dgl (a := d 0) (by have := hd 0; omega)
  obtain ⟨g11, -⟩ := y_dgl (a := d 1) (by have := hd 1; omega)
  obtain ⟨g21, -⟩ := y_dgl (a := d 2) (by have := hd 2; omega)
  obtain ⟨g31, -⟩ := y_dgl (a := d 3) (by have := hd 3; omega)
  obtain ⟨g41, -⟩ := y_dgl (a := d 4) (by have := hd 4; omega)
  obtain ⟨g51, -⟩ := y_dgl (a := d 5) (by have := hd 5; omega)
  obtain ⟨g61, -⟩ := y_dgl (a := d 6) (by have := hd 6; omega)
  obtain ⟨g71, -⟩ := y_dgl (a := d 7) (by have := hd 7; omega)
  have h44 : (zt_w 44).length = 18 := by decide +kernel
  have h45 : (zt_w 45).length = 15 := by decide +kernel
  have h46 : (zt_w 46).length = 27 := by decide +kernel
  have h47 : (zt_w 47).length = 23 := by decide +kernel
  have h48 : (zt_w 48).length = 6 := by decide +kernel
  have h49 : (zt_w 49).length = 52 := by decide +kernel
  have h50 : (zt_w 50).length = 9 := by decide +kernel
  have h51 : (zt_w 51).length = 12 := by decide +kernel
  have h52 : (zt_w 52).length = 7 := by decide +kernel
  rw [← y_lawE]
  simp only [List.length_append, List.length_nil]
  omega
section LT
variable {p b L pl pa mu me Lx wn : Nat} {xs : Nat → Int32} {d : Nat → Nat} {Fz : Nat → Prop} {V : Nat → Int32} {hs : z_Hs} {u : x_U}
set_option maxHeartbeats 4000000 in
theorem T_text0 {q : Nat} (hz : z_CS mu me (x_c u) V hs wn) (h0 : hs.1 = 0) (hW : y_WC Lx xs u) (hd : ∀ j, d j ≤ 60) (h1 : 157 ≤ x_n u) (hb : x_n u + 100 ≤ 500000) (kq : x_k u q = .inr (8, 0)) (tq : ∀ j, j < 8 → x_t u q j = nI (d j)) (lq : q < x_n u) :
    ∃ u', x_fr (fun _ => False) (x_uc u (x_c u')) u' ∧ x_n u' ≤ x_n u + 44 ∧ x_m u' ≤ x_m u + 11100 ∧ y_WC Lx xs u' ∧ z_CS mu me (x_c u') (y_V0 V d) y_h0 wn ∧ ∀ K : x_U → Option (Nat × x_U), (x_new u 14 fun o150 s151 =>
  x_o s151 o150 14 <|
  x_call (F_J4_init_da8c8 q_F o150 s151) fun _ s152 =>
  x_o s152 o150 14 <|
  x_call (F_J4_append_15ec4 q_F o150 (x_CB + 44) s152) fun o156 s155 =>
  x_ld s155 q 2 fun v158 =>
  x_o s155 o156 14 <|
  x_call (F_J4_append_bf812 q_F o156 v158 s155) fun o160 s159 =>
  x_o s159 o160 14 <|
  x_call (F_J4_append_15ec4 q_F o160 (x_CB + 45) s159) fun o163 s162 =>
  x_ld s162 q 0 fun v165 =>
  x_o s162 o163 14 <|
  x_call (F_J4_append_bf812 q_F o163 v165 s162) fun o167 s166 =>
  x_o s166 o167 14 <|
  x_call (F_J4_append_15ec4 q_F o167 (x_CB + 46) s166) fun o170 s169 =>
  x_ld s169 q 1 fun v172 =>
  x_o s169 o170 14 <|
  x_call (F_J4_append_bf812 q_F o170 v172 s169) fun o174 s173 =>
  x_o s173 o174 14 <|
  x_call (F_J4_append_15ec4 q_F o174 (x_CB + 47) s173) fun o177 s176 =>
  x_ld s176 q 3 fun v179 =>
  x_o s176 o177 14 <|
  x_call (F_J4_append_bf812 q_F o177 v179 s176) fun o181 s180 =>
  x_o s180 o181 14 <|
  x_call (F_J4_append_15ec4 q_F o181 (x_CB + 48) s180) fun o184 s183 =>
  x_ld s183 q 4 fun v186 =>
  x_o s183 o184 14 <|
  x_call (F_J4_append_bf812 q_F o184 v186 s183) fun o188 s187 =>
  x_o s187 o188 14 <|
  x_call (F_J4_append_15ec4 q_F o188 (x_CB + 49) s187) fun o191 s190 =>
  x_ld s190 q 5 fun v193 =>
  x_o s190 o191 14 <|
  x_call (F_J4_append_bf812 q_F o191 v193 s190) fun o195 s194 =>
  x_o s194 o195 14 <|
  x_call (F_J4_append_15ec4 q_F o195 (x_CB + 50) s194) fun o198 s197 =>
  x_ld s197 q 6 fun v200 =>
  x_o s197 o198 14 <|
  x_call (F_J4_append_bf812 q_F o198 v200 s197) fun o202 s201 =>
  x_o s201 o202 14 <|
  x_call (F_J4_append_15ec4 q_F o202 (x_CB + 51) s201) fun o205 s204 =>
  x_ld s204 q 7 fun v207 =>
  x_o s204 o205 14 <|
  x_call (F_J4_append_bf812 q_F o205 v207 s204) fun o209 s208 =>
  x_o s208 o209 14 <|
  x_call (F_J4_append_15ec4 q_F o209 (x_CB + 52) s208) fun o212 s211 =>
  x_o s211 o212 14 <|
  x_call (F_J4_toString_0e30d q_F o212 s211) fun o215 s214 =>
  x_call (F_L_say q_F o215 s214) fun _ s217 =>
  x_calc s217 (f_X11_text q_F 0 0 (x_c s217)) fun r220 s219 =>
  if r220 = 5 then K s219 else some (0, s219)) = K u' := by
  have hF5 : 5 ≤ q_F := by unfold q_F; omega
  obtain ⟨w, s, ⟨f1, n1, m1, hW1, sv, g1, -⟩, e1⟩ := T_law (n := q_F) (q := q) (d := d) hF5 hW hd h1 (by omega) kq tq lq
  have hlen := y_law_len hd
  have hc1 : x_c w = x_c u := f1.1
  generalize hm : y_b0 d (y_b1 d (y_b2 d (y_b3 d (y_b4 d [])))) = m at g1 hlen
  obtain ⟨w2, f2, n2, m2, c2, l2, b2, e2⟩ := F_say (n := q_F) rfl g1 hlen (by rw [hc1]; exact hz.2.2.2.2.2.1) (by omega)
  have hsf : y_sf ((fun i => m.getD i 0, m.length) : zt_T) 0 (y_b0 d (y_b1 d (y_b2 d (y_b3 d (y_b4 d []))))) := by
    rw [hm]
    exact ⟨by show 0 + m.length = m.length; omega, fun i hi => by show m.getD (0+i) 0 = _; rw [Nat.zero_add]⟩
  obtain ⟨σ', t1, t2⟩ := c_text0 (T := (fun i => m.getD i 0, m.length)) (d := d) (σ := x_c w2) hz h0 (fun o o1 o2 => by rw [c2 o o1 o2, hc1]) ⟨by show m.length ≤ 400; omega, fun i hi => ⟨b2 i hi, by
    have := g1.2.2.2.1 i hi
    show m.getD i 0 ≤ 255
    omega⟩⟩ l2 hd hsf
  have f12 : x_fr (fun _ => False) (x_uc u (x_c w2)) w2 := (f1.uc (σ := x_c w2)).tr f2
  have hW2 : y_WC Lx xs w2 := by
    have h : y_WC Lx xs (x_uc w (x_c w2)) := hW1
    exact h.fr f2 (fun i h => h.elim)
  refine ⟨x_uc w2 σ', f12.uc (σ := σ'), by show x_n w2 ≤ _; omega, by show x_m w2 ≤ _; omega, hW2, t2, fun K => ?_⟩
  refine (e1 _ _).trans ?_
  rw [e2, z_xcall, show (0 : Int32) = nI 0 from rfl, t1, z_xcalc, show (5 : Int32) = nI 5 from rfl, if_pos rfl]
end LT
