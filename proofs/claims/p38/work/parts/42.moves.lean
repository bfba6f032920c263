/-! what is done: the class's train and the reference's row move alike -/
def z_u (V : Nat → Int32) (a : Nat) (v : Int32) : Nat → Int32 := fun b => if b = a then v else V b
theorem z_uS {V : Nat → Int32} {a : Nat} {v : Int32} : z_u V a v a = v := if_pos rfl
theorem z_uK {V : Nat → Int32} {a b : Nat} {v : Int32} (h : b ≠ a) : z_u V a v b = V b := if_neg h
theorem z_uV {σ : q_Sto} {V : Nat → Int32} {a : Nat} {v : Int32} (h : σ 158 = V) : q_up σ 158 a v 158 = z_u V a v := by
  funext b
  show (if 158 = 158 then (if b = a then v else σ 158 b) else _) = (if b = a then v else V b)
  rw [if_pos rfl, h]
/-- the book: truly written, or in thought -/
def z_BW (σ : q_Sto) (V : Nat → Int32) (tr : Bool) (w0 : Nat) (P : Nat → Int32) : Prop := ∃ w, w ≤ 150 ∧ w0 ≤ w ∧ σ 2 17 = nI w ∧ (∀ a, a < w0 * 4 → σ 29 a = P a) ∧ (tr = true → V 6 = nI w ∧ ∀ i c, i < w → c < 4 → σ 29 (i*4+c) = V (305+4*i+c)) ∧ (∀ a, a = 0 ∨ 86 ≤ a → a < 305 ∨ tr = false → V a = P (100000 + a))
def z_X (mu me : Nat) (tr : Bool) (w0 : Nat) (P : Nat → Int32) (σ : q_Sto) (V : Nat → Int32) : Prop := z_C σ V mu me ∧ z_BW σ V tr w0 P
/-- cells that what is done may touch: the class's, the reference's -/
def z_fX (σ σ' : q_Sto) : Prop := ∀ o, o < 2 ∨ (10 < o ∧ o ≠ 18 ∧ o ≠ 29 ∧ o ≠ 30 ∧ (o < 126 ∨ 131 < o)) → σ' o = σ o
def z_fM (σ σ' : q_Sto) : Prop := ∀ o, o ≠ 158 → o ≠ 166 → o ≠ 167 → σ' o = σ o
theorem z_fX.refl (σ : q_Sto) : z_fX σ σ := fun _ _ => rfl
theorem z_fX.trans {a b c : q_Sto} (h : z_fX a b) (g : z_fX b c) : z_fX a c := fun o ho => (g o ho).trans (h o ho)
theorem z_fM.refl (σ : q_Sto) : z_fM σ σ := fun _ _ _ _ => rfl
theorem z_fM.trans {a b c : q_Sto} (h : z_fM a b) (g : z_fM b c) : z_fM a c := fun o h1 h2 h3 => (g o h1 h2 h3).trans (h o h1 h2 h3)
theorem z_fM.up (σ : q_Sto) (a : Nat) (v : Int32) : z_fM σ (q_up σ 158 a v) := fun o h1 _ _ => z_upO h1
/-- the flag that tells truth from thought -/
def z_fl (σ : q_Sto) (tr : Bool) : Prop := σ 157 26 = nI (if tr = true then 1 else 0)
theorem z_fl.fr {σ σ' : q_Sto} {tr : Bool} (h : z_fl σ tr) (g : z_fM σ σ') : z_fl σ' tr := by
  unfold z_fl
  rw [g 157 (by omega) (by omega) (by omega)]
  exact h
/-- what stays: the texts and what was seen -/
def z_sam (V V' : Nat → Int32) : Prop := ∀ a, (89 ≤ a ∧ a < 95) ∨ (129 ≤ a ∧ a < 305) ∨ 905 ≤ a → V' a = V a
theorem z_sam.refl (V : Nat → Int32) : z_sam V V := fun _ _ => rfl
theorem z_sam.trans {a b c : Nat → Int32} (h : z_sam a b) (g : z_sam b c) : z_sam a c := fun o ho => (g o ho).trans (h o ho)
theorem z_sam.u {V : Nat → Int32} {a : Nat} {v : Int32} (h : a < 89 ∨ (95 ≤ a ∧ a < 129)) : z_sam V (z_u V a v) := fun b hb => z_uK (by omega)
theorem z_sam.WT {σ : q_Sto} {b : Nat} {V V' : Nat → Int32} {mu me : Nat} (e : z_sam V V') (h : z_WT σ b V mu me) : z_WT σ b V' mu me := by
  obtain ⟨⟨c, z, l1, l2, l3, l4, l5, l6⟩, ⟨c2, h1, h2, h3, h4, h5⟩, ⟨c3, p1, p2, p3, p4⟩, ⟨c4, a1, a2, a3, a4⟩, ⟨c5, o1, o2, o3, o4⟩, ⟨c6, s1, s2, s3, s4⟩⟩ := h
  refine ⟨⟨c, z, l1, l2, l3, by rw [e 89 (by omega)]; exact l4, fun i hi => ?_, fun j hj => ?_⟩, ⟨c2, h1, h2, by rw [e 90 (by omega)]; exact h3, h4, fun m hm => ?_⟩, ⟨c3, p1, p2, by rw [e 91 (by omega)]; exact p3, fun i hi => ?_⟩, ⟨c4, a1, a2, by rw [e 92 (by omega)]; exact a3, fun i hi => ?_⟩, ⟨c5, o1, o2, by rw [e 93 (by omega)]; exact o3, fun i hi => ?_⟩, ⟨c6, s1, s2, by rw [e 94 (by omega)]; exact s3, fun i hi => ?_⟩⟩
  · rw [e (905+i) (by omega), e (921+i) (by omega), e (937+i) (by omega), e (953+i) (by omega)]; exact l5 i hi
  · rw [e (970+2*j) (by omega), e (970+2*j+1) (by omega)]; exact l6 j hj
  · rw [e (129+m) (by omega)]; exact h5 m hm
  · rw [e (141+4*i) (by omega), e (141+4*i+1) (by omega), e (141+4*i+2) (by omega), e (141+4*i+3) (by omega)]; exact p4 i hi
  · rw [e (205+3*i) (by omega), e (205+3*i+1) (by omega), e (205+3*i+2) (by omega)]; exact a4 i hi
  · rw [e (253+2*i) (by omega), e (253+2*i+1) (by omega)]; exact o4 i hi
  · rw [e (269+3*i) (by omega), e (269+3*i+1) (by omega), e (269+3*i+2) (by omega)]; exact s4 i hi
theorem z_BW.fr {σ σ' : q_Sto} {V V' : Nat → Int32} {tr : Bool} {w0 : Nat} {P : Nat → Int32} (h : z_BW σ V tr w0 P) (e1 : σ' 2 17 = σ 2 17) (e2 : σ' 29 = σ 29) (e6 : V' 6 = V 6) (e : ∀ a, a = 0 ∨ 86 ≤ a → True → V' a = V a) : z_BW σ' V' tr w0 P := by
  obtain ⟨w, h1, h2, h3, h4, h5, h7⟩ := h
  refine ⟨w, h1, h2, by rw [e1]; exact h3, fun a ha => by rw [e2]; exact h4 a ha, fun ht => ⟨by rw [e6]; exact (h5 ht).1, fun i c hi hc => ?_⟩, fun a a1 a2 => by rw [e a a1 trivial]; exact h7 a a1 a2⟩
  rw [e2, e _ (by omega) trivial]
  exact (h5 ht).2 i c hi hc
/-- the train's part, cell by cell -/
theorem z_TR.mk {σ : q_Sto} {V : Nat → Int32} {mu me : Nat} (h0 : σ 2 8 = nI mu ∧ σ 2 9 = nI me ∧ σ 2 10 = V 5 ∧ σ 2 11 = V 88 ∧ σ 2 12 = V 1 ∧ σ 2 13 = V 2 ∧ σ 2 14 = V 3 ∧ σ 2 15 = V 4 ∧ σ 2 16 = V 0)
    (h1 : ∀ m, m < mu → σ 3 m = V (95+m) ∧ σ 4 m = V (107+m) ∧ σ 6 m = V (8+m)) (h2 : ∀ m, m < 12 → σ 5 m = z_bit (V 7) m) (h3 : ∀ m, mu ≤ m → m < 12 → σ 6 m = z_m)
    (h4 : ∀ k, k < me → σ 7 k = V (80+k) ∧ σ 8 k = V (119+k) ∧ σ 9 k = V (124+k)) (h5 : ∀ m k, m < mu → k < me → σ 10 (m*5+k) = V (20+5*m+k)) (h6 : ∀ m k, m < 12 → k < 5 → mu ≤ m ∨ me ≤ k → σ 10 (m*5+k) = nI 30) : z_TR σ 2 V mu me :=
  ⟨h0, h1, h2, h3, h4, h5, h6⟩
theorem z_TR.un {σ : q_Sto} {V : Nat → Int32} {mu me : Nat} (h : z_TR σ 2 V mu me) : (σ 2 8 = nI mu ∧ σ 2 9 = nI me ∧ σ 2 10 = V 5 ∧ σ 2 11 = V 88 ∧ σ 2 12 = V 1 ∧ σ 2 13 = V 2 ∧ σ 2 14 = V 3 ∧ σ 2 15 = V 4 ∧ σ 2 16 = V 0) ∧
    (∀ m, m < mu → σ 3 m = V (95+m) ∧ σ 4 m = V (107+m) ∧ σ 6 m = V (8+m)) ∧ (∀ m, m < 12 → σ 5 m = z_bit (V 7) m) ∧ (∀ m, mu ≤ m → m < 12 → σ 6 m = z_m) ∧
    (∀ k, k < me → σ 7 k = V (80+k) ∧ σ 8 k = V (119+k) ∧ σ 9 k = V (124+k)) ∧ (∀ m k, m < mu → k < me → σ 10 (m*5+k) = V (20+5*m+k)) ∧ (∀ m k, m < 12 → k < 5 → mu ≤ m ∨ me ≤ k → σ 10 (m*5+k) = nI 30) := h
/-- a row that differs in cells that the train doesn't show -/
theorem z_C.rowV {σ : q_Sto} {V V' : Nat → Int32} {mu me : Nat} (h : z_C σ V mu me) (e : ∀ a, a ≠ 6 → a < 305 ∨ 905 ≤ a → V' a = V a) (e6 : z_le (V' 6) 150) : z_C σ V' mu me := by
  obtain ⟨⟨f1, f2, f3, f4, f5, f6, f7, f8, f9, f10, f11, f12⟩, hT, hW⟩ := h
  obtain ⟨⟨g1, g2, g3, g4, g5, g6, g7, g8, g9⟩, t1, t2, t3, t4, t5, t6⟩ := hT.un
  refine ⟨⟨f1, f2, by rw [e 86 (by omega) (by omega)]; exact f3, by rw [e 87 (by omega) (by omega)]; exact f4, by rw [e 7 (by omega) (by omega)]; exact f5, fun m hm => ?_, fun m k hm hk => ?_, fun k hk => ?_, by rw [e 1 (by omega) (by omega)]; exact f9, by rw [e 2 (by omega) (by omega)]; exact f10, e6, by rw [e 88 (by omega) (by omega)]; exact f12⟩, z_TR.mk ?_ (fun m hm => ?_) (fun m hm => ?_) t3 (fun k hk => ?_) (fun m k hm hk => ?_) t6, z_sam.WT (fun a ha => e a (by omega) (by omega)) hW⟩
  · rw [e (8+m) (by omega) (by omega), e (95+m) (by omega) (by omega), e (107+m) (by omega) (by omega)]; exact f6 m hm
  · rw [e (20+5*m+k) (by omega) (by omega)]; exact f7 m k hm hk
  · rw [e (80+k) (by omega) (by omega), e (119+k) (by omega) (by omega), e (124+k) (by omega) (by omega)]; exact f8 k hk
  · rw [e 5 (by omega) (by omega), e 88 (by omega) (by omega), e 1 (by omega) (by omega), e 2 (by omega) (by omega), e 3 (by omega) (by omega), e 4 (by omega) (by omega), e 0 (by omega) (by omega)]; exact ⟨g1, g2, g3, g4, g5, g6, g7, g8, g9⟩
  · rw [e (95+m) (by omega) (by omega), e (107+m) (by omega) (by omega), e (8+m) (by omega) (by omega)]; exact t1 m hm
  · rw [e 7 (by omega) (by omega)]; exact t2 m hm
  · rw [e (80+k) (by omega) (by omega), e (119+k) (by omega) (by omega), e (124+k) (by omega) (by omega)]; exact t4 k hk
  · rw [e (20+5*m+k) (by omega) (by omega)]; exact t5 m k hm hk
/-- a line of the book -/
def z_note (tr : Bool) (V : Nat → Int32) (a b c : Int32) : Nat → Int32 :=
  if tr = true ∧ V 6 ≠ nI 150 then z_u (z_u (z_u (z_u (z_u V (305+4*zn (V 6)) (V 0)) (305+4*zn (V 6)+1) a) (305+4*zn (V 6)+2) b) (305+4*zn (V 6)+3) c) 6 (nI (zn (V 6) + 1)) else V
theorem z_note_o {tr : Bool} {V : Nat → Int32} {a b c : Int32} {k : Nat} (h6 : z_le (V 6) 150) (h : k ≠ 6) (h2 : k < 305 ∨ 905 ≤ k) : z_note tr V a b c k = V k := by
  obtain ⟨x, hx, e⟩ := h6
  unfold z_note
  split
  · rename_i hc
    have : x ≠ 150 := fun q => hc.2 (by rw [e, q])
    rw [e, zn_nI (by omega), z_uK (by omega), z_uK (by omega), z_uK (by omega), z_uK (by omega), z_uK (by omega)]
  · rfl
theorem z_note_6 {tr : Bool} {V : Nat → Int32} {a b c : Int32} (h6 : z_le (V 6) 150) : z_le (z_note tr V a b c 6) 150 := by
  obtain ⟨x, hx, e⟩ := h6
  unfold z_note
  split
  · rename_i hc
    have : x ≠ 150 := fun q => hc.2 (by rw [e, q])
    rw [e, zn_nI (by omega), z_uS]
    exact ⟨x+1, by omega, rfl⟩
  · exact ⟨x, hx, e⟩
theorem z_note_s {tr : Bool} {V : Nat → Int32} {a b c : Int32} {k : Nat} (h6 : z_le (V 6) 150) (h : k = 0 ∨ 86 ≤ k) (h2 : k < 305 ∨ tr = false) : z_note tr V a b c k = V k := by
  rcases h2 with h2 | h2
  · exact z_note_o h6 (by omega) (by omega)
  · subst h2
    unfold z_note
    rw [if_neg (fun q => by cases q.1)]
theorem z_note_sam {tr : Bool} {V : Nat → Int32} {a b c : Int32} (h6 : z_le (V 6) 150) : z_sam V (z_note tr V a b c) := fun k hk => z_note_o h6 (by omega) (by omega)
theorem c_write {n mu me w0 : Nat} {tr : Bool} {P V : Nat → Int32} {σ : q_Sto} {a b c : Int32} (h : z_X mu me tr w0 P σ V) : ∃ σ', z_fX σ σ' ∧ z_X mu me tr w0 P σ' (z_note tr V a b c) ∧ f_X10_write n 1 a b c σ = some (nI 0, σ') := by
  obtain ⟨hC, w, h1, h2, h3, h4, h5, h8⟩ := h
  have h6 : z_le (V 6) 150 := hC.1.2.2.2.2.2.2.2.2.2.2.1
  have h16 : σ 2 16 = V 0 := hC.2.1.1.2.2.2.2.2.2.2.2
  by_cases hw : w = 150
  · subst hw
    refine ⟨σ, z_fX.refl σ, ⟨hC.rowV (fun k k1 k2 => z_note_o h6 k1 k2) (z_note_6 h6), 150, h1, h2, h3, h4, fun ht => ?_, fun a a1 a2 => by rw [z_note_s h6 a1 a2]; exact h8 a a1 a2⟩, ?_⟩
    · have e : z_note tr V a b c = V := by
        unfold z_note
        rw [if_neg (fun q => q.2 (h5 ht).1)]
      rw [e]
      exact h5 ht
    · unfold f_X10_write
      simp (disch := omega) only [h3, ↓reduceIte, ↓p_ld, ↓p_st, ↓p_nm, ↓p_nS, ↓p_jn, ↓p_call, ↓p_callv, ↓p_dv, ↓p_rem, h_ldE, h_stE, h_nmE, h_nSE, h_callE, h_callvE, h_dvE, h_remE, if_true, if_false, z_upS, z_upO, z_upK, nI_add, z_mul, z_sub, z_div, Nat.add_zero, Nat.mul_zero, Nat.zero_add, Nat.sub_zero, Nat.zero_mul, z_ltT, z_ltF, z_leT, z_leF, z_eqT, z_eqF, z_inT, z_clT, not_true_eq_false, not_false_eq_true, eq_self, true_or, or_true, z_m_lt, z_m_le, z_lt_m, z_le_m, z_eq_m, z_m_eq, z_rz0, z_rz1, z_m_add, z_of, r_0_0, r_0_1, r_0_3, r_0_4, r_0_5, r_0_6, r_0_7, r_0_8, r_0_9, r_0_10, r_1_0, r_1_1, r_1_2, r_1_3, r_1_4, r_1_5, r_1_6, r_1_7, r_1_8, r_2_0, r_2_1, r_2_2, r_2_3, r_2_4, r_2_5, r_2_6, r_2_7, r_11_0, r_11_1, r_11_2, r_11_3, r_11_4, r_11_5, r_11_6, r_19_0, r_21_0, r_23_0, r_25_0, r_27_0, r_61_0, r_117_0, r_117_1, r_117_2, r_117_3, r_117_4, r_117_5, r_117_6, r_117_7, r_126_0, r_126_1, r_126_2, r_126_3, r_126_4, r_132_0, r_132_1, r_135_0, r_135_1, r_135_2, r_135_3, r_135_4, r_135_5, r_142_0, r_144_0, r_144_1, r_144_2, r_145_0, r_145_1, r_145_2, r_145_3, r_145_4, r_145_5, r_145_6, r_154_0, r_154_1, r_155_0, ↓z_m1, l_0, l_1, l_2, l_3, l_4, l_5, l_6, l_7, l_8, l_9, l_10, l_11, l_12, l_13, l_14, l_15, l_16, l_17, l_18, l_19, l_20, l_21, l_22, l_23, l_24, l_25, l_26, l_27, l_28, l_29, l_30, l_31, l_32, l_33, l_34, l_35, l_36, l_37, l_38, l_39, l_40, l_41, l_42, l_43, l_44, l_45, l_46, l_47, l_48, l_49, l_50, l_51, l_52, l_53, l_54, l_55, l_56, l_57, l_59, l_60, l_61, l_62, l_63, l_64, l_65, l_80, l_86, l_87, l_88, l_89, l_90, l_91, l_92, l_93, l_94, l_95, l_97, l_99, l_100, l_107, l_119, l_122, l_124, l_129, l_140, l_141, l_142, l_143, l_144, l_145, l_147, l_150, l_159, l_160, l_161, l_162, l_205, l_253, l_255, l_256, l_269, l_305, l_380, l_399, l_400, l_420, l_430, l_516, l_600, l_720, l_820, l_905, l_921, l_937, l_953, l_970, l_999, l_1000, l_1790, l_4096, l_9999, l_1000000]
  · refine ⟨q_up (q_up (q_up (q_up (q_up σ 29 (w*4) (V 0)) 29 (w*4+1) a) 29 (w*4+2) b) 29 (w*4+3) c) 2 17 (nI (w+1)), fun o ho => by rw [z_upO (by omega), z_upO (by omega), z_upO (by omega), z_upO (by omega), z_upO (by omega)], ⟨?_, w+1, by omega, by omega, z_upS, fun k hk => ?_, fun ht => ?_, fun a a1 a2 => by rw [z_note_s h6 a1 a2]; exact h8 a a1 a2⟩, ?_⟩
    · obtain ⟨g1, g2, g3⟩ := hC.rowV (V' := z_note tr V a b c) (fun k k1 k2 => z_note_o h6 k1 k2) (z_note_6 h6)
      refine ⟨g1, ?_, g3.fr (fun o o1 o2 o3 => by rw [z_upO (by omega), z_upO (by omega), z_upO (by omega), z_upO (by omega), z_upO (by omega)])⟩
      obtain ⟨⟨p1, p2, p3, p4, p5, p6, p7, p8, p9⟩, t1, t2, t3, t4, t5, t6⟩ := g2.un
      refine z_TR.mk ?_ (fun m hm => ?_) (fun m hm => ?_) (fun m m1 m2 => ?_) (fun k hk => ?_) (fun m k hm hk => ?_) (fun m k hm hk hq => ?_)
      · simp (disch := omega) only [↓reduceIte, ↓p_ld, ↓p_st, ↓p_nm, ↓p_nS, ↓p_jn, ↓p_call, ↓p_callv, ↓p_dv, ↓p_rem, h_ldE, h_stE, h_nmE, h_nSE, h_callE, h_callvE, h_dvE, h_remE, if_true, if_false, z_upS, z_upO, z_upK, nI_add, z_mul, z_sub, z_div, Nat.add_zero, Nat.mul_zero, Nat.zero_add, Nat.sub_zero, Nat.zero_mul, z_ltT, z_ltF, z_leT, z_leF, z_eqT, z_eqF, z_inT, z_clT, not_true_eq_false, not_false_eq_true, eq_self, true_or, or_true, z_m_lt, z_m_le, z_lt_m, z_le_m, z_eq_m, z_m_eq, z_rz0, z_rz1, z_m_add, z_of, ↓z_m1, l_0, l_1, l_2, l_3, l_4, l_5, l_6, l_7, l_8, l_9, l_10, l_11, l_12, l_13, l_14, l_15, l_16, l_17, l_18, l_19, l_20, l_21, l_22, l_23, l_24, l_25, l_26, l_27, l_28, l_29, l_30, l_31, l_32, l_33, l_34, l_35, l_36, l_37, l_38, l_39, l_40, l_41, l_42, l_43, l_44, l_45, l_46, l_47, l_48, l_49, l_50, l_51, l_52, l_53, l_54, l_55, l_56, l_57, l_59, l_60, l_61, l_62, l_63, l_64, l_65, l_80, l_86, l_87, l_88, l_89, l_90, l_91, l_92, l_93, l_94, l_95, l_97, l_99, l_100, l_107, l_119, l_122, l_124, l_129, l_140, l_141, l_142, l_143, l_144, l_145, l_147, l_150, l_159, l_160, l_161, l_162, l_205, l_253, l_255, l_256, l_269, l_305, l_380, l_399, l_400, l_420, l_430, l_516, l_600, l_720, l_820, l_905, l_921, l_937, l_953, l_970, l_999, l_1000, l_1790, l_4096, l_9999, l_1000000]
        exact ⟨p1, p2, p3, p4, p5, p6, p7, p8, p9⟩
      · simp (disch := omega) only [↓reduceIte, ↓p_ld, ↓p_st, ↓p_nm, ↓p_nS, ↓p_jn, ↓p_call, ↓p_callv, ↓p_dv, ↓p_rem, h_ldE, h_stE, h_nmE, h_nSE, h_callE, h_callvE, h_dvE, h_remE, if_true, if_false, z_upS, z_upO, z_upK, nI_add, z_mul, z_sub, z_div, Nat.add_zero, Nat.mul_zero, Nat.zero_add, Nat.sub_zero, Nat.zero_mul, z_ltT, z_ltF, z_leT, z_leF, z_eqT, z_eqF, z_inT, z_clT, not_true_eq_false, not_false_eq_true, eq_self, true_or, or_true, z_m_lt, z_m_le, z_lt_m, z_le_m, z_eq_m, z_m_eq, z_rz0, z_rz1, z_m_add, z_of, ↓z_m1, l_0, l_1, l_2, l_3, l_4, l_5, l_6, l_7, l_8, l_9, l_10, l_11, l_12, l_13, l_14, l_15, l_16, l_17, l_18, l_19, l_20, l_21, l_22, l_23, l_24, l_25, l_26, l_27, l_28, l_29, l_30, l_31, l_32, l_33, l_34, l_35, l_36, l_37, l_38, l_39, l_40, l_41, l_42, l_43, l_44, l_45, l_46, l_47, l_48, l_49, l_50, l_51, l_52, l_53, l_54, l_55, l_56, l_57, l_59, l_60, l_61, l_62, l_63, l_64, l_65, l_80, l_86, l_87, l_88, l_89, l_90, l_91, l_92, l_93, l_94, l_95, l_97, l_99, l_100, l_107, l_119, l_122, l_124, l_129, l_140, l_141, l_142, l_143, l_144, l_145, l_147, l_150, l_159, l_160, l_161, l_162, l_205, l_253, l_255, l_256, l_269, l_305, l_380, l_399, l_400, l_420, l_430, l_516, l_600, l_720, l_820, l_905, l_921, l_937, l_953, l_970, l_999, l_1000, l_1790, l_4096, l_9999, l_1000000]
        exact t1 m hm
      · simp (disch := omega) only [↓reduceIte, ↓p_ld, ↓p_st, ↓p_nm, ↓p_nS, ↓p_jn, ↓p_call, ↓p_callv, ↓p_dv, ↓p_rem, h_ldE, h_stE, h_nmE, h_nSE, h_callE, h_callvE, h_dvE, h_remE, if_true, if_false, z_upS, z_upO, z_upK, nI_add, z_mul, z_sub, z_div, Nat.add_zero, Nat.mul_zero, Nat.zero_add, Nat.sub_zero, Nat.zero_mul, z_ltT, z_ltF, z_leT, z_leF, z_eqT, z_eqF, z_inT, z_clT, not_true_eq_false, not_false_eq_true, eq_self, true_or, or_true, z_m_lt, z_m_le, z_lt_m, z_le_m, z_eq_m, z_m_eq, z_rz0, z_rz1, z_m_add, z_of, ↓z_m1, l_0, l_1, l_2, l_3, l_4, l_5, l_6, l_7, l_8, l_9, l_10, l_11, l_12, l_13, l_14, l_15, l_16, l_17, l_18, l_19, l_20, l_21, l_22, l_23, l_24, l_25, l_26, l_27, l_28, l_29, l_30, l_31, l_32, l_33, l_34, l_35, l_36, l_37, l_38, l_39, l_40, l_41, l_42, l_43, l_44, l_45, l_46, l_47, l_48, l_49, l_50, l_51, l_52, l_53, l_54, l_55, l_56, l_57, l_59, l_60, l_61, l_62, l_63, l_64, l_65, l_80, l_86, l_87, l_88, l_89, l_90, l_91, l_92, l_93, l_94, l_95, l_97, l_99, l_100, l_107, l_119, l_122, l_124, l_129, l_140, l_141, l_142, l_143, l_144, l_145, l_147, l_150, l_159, l_160, l_161, l_162, l_205, l_253, l_255, l_256, l_269, l_305, l_380, l_399, l_400, l_420, l_430, l_516, l_600, l_720, l_820, l_905, l_921, l_937, l_953, l_970, l_999, l_1000, l_1790, l_4096, l_9999, l_1000000]
        exact t2 m hm
      · simp (disch := omega) only [↓reduceIte, ↓p_ld, ↓p_st, ↓p_nm, ↓p_nS, ↓p_jn, ↓p_call, ↓p_callv, ↓p_dv, ↓p_rem, h_ldE, h_stE, h_nmE, h_nSE, h_callE, h_callvE, h_dvE, h_remE, if_true, if_false, z_upS, z_upO, z_upK, nI_add, z_mul, z_sub, z_div, Nat.add_zero, Nat.mul_zero, Nat.zero_add, Nat.sub_zero, Nat.zero_mul, z_ltT, z_ltF, z_leT, z_leF, z_eqT, z_eqF, z_inT, z_clT, not_true_eq_false, not_false_eq_true, eq_self, true_or, or_true, z_m_lt, z_m_le, z_lt_m, z_le_m, z_eq_m, z_m_eq, z_rz0, z_rz1, z_m_add, z_of, ↓z_m1, l_0, l_1, l_2, l_3, l_4, l_5, l_6, l_7, l_8, l_9, l_10, l_11, l_12, l_13, l_14, l_15, l_16, l_17, l_18, l_19, l_20, l_21, l_22, l_23, l_24, l_25, l_26, l_27, l_28, l_29, l_30, l_31, l_32, l_33, l_34, l_35, l_36, l_37, l_38, l_39, l_40, l_41, l_42, l_43, l_44, l_45, l_46, l_47, l_48, l_49, l_50, l_51, l_52, l_53, l_54, l_55, l_56, l_57, l_59, l_60, l_61, l_62, l_63, l_64, l_65, l_80, l_86, l_87, l_88, l_89, l_90, l_91, l_92, l_93, l_94, l_95, l_97, l_99, l_100, l_107, l_119, l_122, l_124, l_129, l_140, l_141, l_142, l_143, l_144, l_145, l_147, l_150, l_159, l_160, l_161, l_162, l_205, l_253, l_255, l_256, l_269, l_305, l_380, l_399, l_400, l_420, l_430, l_516, l_600, l_720, l_820, l_905, l_921, l_937, l_953, l_970, l_999, l_1000, l_1790, l_4096, l_9999, l_1000000]
        exact t3 m m1 m2
      · simp (disch := omega) only [↓reduceIte, ↓p_ld, ↓p_st, ↓p_nm, ↓p_nS, ↓p_jn, ↓p_call, ↓p_callv, ↓p_dv, ↓p_rem, h_ldE, h_stE, h_nmE, h_nSE, h_callE, h_callvE, h_dvE, h_remE, if_true, if_false, z_upS, z_upO, z_upK, nI_add, z_mul, z_sub, z_div, Nat.add_zero, Nat.mul_zero, Nat.zero_add, Nat.sub_zero, Nat.zero_mul, z_ltT, z_ltF, z_leT, z_leF, z_eqT, z_eqF, z_inT, z_clT, not_true_eq_false, not_false_eq_true, eq_self, true_or, or_true, z_m_lt, z_m_le, z_lt_m, z_le_m, z_eq_m, z_m_eq, z_rz0, z_rz1, z_m_add, z_of, ↓z_m1, l_0, l_1, l_2, l_3, l_4, l_5, l_6, l_7, l_8, l_9, l_10, l_11, l_12, l_13, l_14, l_15, l_16, l_17, l_18, l_19, l_20, l_21, l_22, l_23, l_24, l_25, l_26, l_27, l_28, l_29, l_30, l_31, l_32, l_33, l_34, l_35, l_36, l_37, l_38, l_39, l_40, l_41, l_42, l_43, l_44, l_45, l_46, l_47, l_48, l_49, l_50, l_51, l_52, l_53, l_54, l_55, l_56, l_57, l_59, l_60, l_61, l_62, l_63, l_64, l_65, l_80, l_86, l_87, l_88, l_89, l_90, l_91, l_92, l_93, l_94, l_95, l_97, l_99, l_100, l_107, l_119, l_122, l_124, l_129, l_140, l_141, l_142, l_143, l_144, l_145, l_147, l_150, l_159, l_160, l_161, l_162, l_205, l_253, l_255, l_256, l_269, l_305, l_380, l_399, l_400, l_420, l_430, l_516, l_600, l_720, l_820, l_905, l_921, l_937, l_953, l_970, l_999, l_1000, l_1790, l_4096, l_9999, l_1000000]
        exact t4 k hk
      · simp (disch := omega) only [↓reduceIte, ↓p_ld, ↓p_st, ↓p_nm, ↓p_nS, ↓p_jn, ↓p_call, ↓p_callv, ↓p_dv, ↓p_rem, h_ldE, h_stE, h_nmE, h_nSE, h_callE, h_callvE, h_dvE, h_remE, if_true, if_false, z_upS, z_upO, z_upK, nI_add, z_mul, z_sub, z_div, Nat.add_zero, Nat.mul_zero, Nat.zero_add, Nat.sub_zero, Nat.zero_mul, z_ltT, z_ltF, z_leT, z_leF, z_eqT, z_eqF, z_inT, z_clT, not_true_eq_false, not_false_eq_true, eq_self, true_or, or_true, z_m_lt, z_m_le, z_lt_m, z_le_m, z_eq_m, z_m_eq, z_rz0, z_rz1, z_m_add, z_of, ↓z_m1, l_0, l_1, l_2, l_3, l_4, l_5, l_6, l_7, l_8, l_9, l_10, l_11, l_12, l_13, l_14, l_15, l_16, l_17, l_18, l_19, l_20, l_21, l_22, l_23, l_24, l_25, l_26, l_27, l_28, l_29, l_30, l_31, l_32, l_33, l_34, l_35, l_36, l_37, l_38, l_39, l_40, l_41, l_42, l_43, l_44, l_45, l_46, l_47, l_48, l_49, l_50, l_51, l_52, l_53, l_54, l_55, l_56, l_57, l_59, l_60, l_61, l_62, l_63, l_64, l_65, l_80, l_86, l_87, l_88, l_89, l_90, l_91, l_92, l_93, l_94, l_95, l_97, l_99, l_100, l_107, l_119, l_122, l_124, l_129, l_140, l_141, l_142, l_143, l_144, l_145, l_147, l_150, l_159, l_160, l_161, l_162, l_205, l_253, l_255, l_256, l_269, l_305, l_380, l_399, l_400, l_420, l_430, l_516, l_600, l_720, l_820, l_905, l_921, l_937, l_953, l_970, l_999, l_1000, l_1790, l_4096, l_9999, l_1000000]
        exact t5 m k hm hk
      · simp (disch := omega) only [↓reduceIte, ↓p_ld, ↓p_st, ↓p_nm, ↓p_nS, ↓p_jn, ↓p_call, ↓p_callv, ↓p_dv, ↓p_rem, h_ldE, h_stE, h_nmE, h_nSE, h_callE, h_callvE, h_dvE, h_remE, if_true, if_false, z_upS, z_upO, z_upK, nI_add, z_mul, z_sub, z_div, Nat.add_zero, Nat.mul_zero, Nat.zero_add, Nat.sub_zero, Nat.zero_mul, z_ltT, z_ltF, z_leT, z_leF, z_eqT, z_eqF, z_inT, z_clT, not_true_eq_false, not_false_eq_true, eq_self, true_or, or_true, z_m_lt, z_m_le, z_lt_m, z_le_m, z_eq_m, z_m_eq, z_rz0, z_rz1, z_m_add, z_of, ↓z_m1, l_0, l_1, l_2, l_3, l_4, l_5, l_6, l_7, l_8, l_9, l_10, l_11, l_12, l_13, l_14, l_15, l_16, l_17, l_18, l_19, l_20, l_21, l_22, l_23, l_24, l_25, l_26, l_27, l_28, l_29, l_30, l_31, l_32, l_33, l_34, l_35, l_36, l_37, l_38, l_39, l_40, l_41, l_42, l_43, l_44, l_45, l_46, l_47, l_48, l_49, l_50, l_51, l_52, l_53, l_54, l_55, l_56, l_57, l_59, l_60, l_61, l_62, l_63, l_64, l_65, l_80, l_86, l_87, l_88, l_89, l_90, l_91, l_92, l_93, l_94, l_95, l_97, l_99, l_100, l_107, l_119, l_122, l_124, l_129, l_140, l_141, l_142, l_143, l_144, l_145, l_147, l_150, l_159, l_160, l_161, l_162, l_205, l_253, l_255, l_256, l_269, l_305, l_380, l_399, l_400, l_420, l_430, l_516, l_600, l_720, l_820, l_905, l_921, l_937, l_953, l_970, l_999, l_1000, l_1790, l_4096, l_9999, l_1000000]
        exact t6 m k hm hk hq
    · simp (disch := omega) only [↓reduceIte, ↓p_ld, ↓p_st, ↓p_nm, ↓p_nS, ↓p_jn, ↓p_call, ↓p_callv, ↓p_dv, ↓p_rem, h_ldE, h_stE, h_nmE, h_nSE, h_callE, h_callvE, h_dvE, h_remE, if_true, if_false, z_upS, z_upO, z_upK, nI_add, z_mul, z_sub, z_div, Nat.add_zero, Nat.mul_zero, Nat.zero_add, Nat.sub_zero, Nat.zero_mul, z_ltT, z_ltF, z_leT, z_leF, z_eqT, z_eqF, z_inT, z_clT, not_true_eq_false, not_false_eq_true, eq_self, true_or, or_true, z_m_lt, z_m_le, z_lt_m, z_le_m, z_eq_m, z_m_eq, z_rz0, z_rz1, z_m_add, z_of, ↓z_m1, l_0, l_1, l_2, l_3, l_4, l_5, l_6, l_7, l_8, l_9, l_10, l_11, l_12, l_13, l_14, l_15, l_16, l_17, l_18, l_19, l_20, l_21, l_22, l_23, l_24, l_25, l_26, l_27, l_28, l_29, l_30, l_31, l_32, l_33, l_34, l_35, l_36, l_37, l_38, l_39, l_40, l_41, l_42, l_43, l_44, l_45, l_46, l_47, l_48, l_49, l_50, l_51, l_52, l_53, l_54, l_55, l_56, l_57, l_59, l_60, l_61, l_62, l_63, l_64, l_65, l_80, l_86, l_87, l_88, l_89, l_90, l_91, l_92, l_93, l_94, l_95, l_97, l_99, l_100, l_107, l_119, l_122, l_124, l_129, l_140, l_141, l_142, l_143, l_144, l_145, l_147, l_150, l_159, l_160, l_161, l_162, l_205, l_253, l_255, l_256, l_269, l_305, l_380, l_399, l_400, l_420, l_430, l_516, l_600, l_720, l_820, l_905, l_921, l_937, l_953, l_970, l_999, l_1000, l_1790, l_4096, l_9999, l_1000000]
      exact h4 k hk
    · obtain ⟨q1, q2⟩ := h5 ht
      have e : z_note tr V a b c = z_u (z_u (z_u (z_u (z_u V (305+4*w) (V 0)) (305+4*w+1) a) (305+4*w+2) b) (305+4*w+3) c) 6 (nI (w + 1)) := by
        unfold z_note
        rw [if_pos ⟨ht, by rw [q1, Ne, nI_eq (by omega) (by omega)]; exact hw⟩, q1, zn_nI (by omega)]
      rw [e]
      refine ⟨z_uS, fun i d hi hd => ?_⟩
      rw [z_upO (by omega), z_uK (by omega)]
      by_cases hiw : i = w
      · subst hiw
        have : d = 0 ∨ d = 1 ∨ d = 2 ∨ d = 3 := by omega
        rcases this with rfl | rfl | rfl | rfl
        · rw [z_upK (by omega), z_upK (by omega), z_upK (by omega), z_uK (by omega), z_uK (by omega), z_uK (by omega)]
          exact (z_upS (σ := σ)).trans (z_uS (V := V)).symm
        · rw [z_upK (by omega), z_upK (by omega), z_upS, z_uK (by omega), z_uK (by omega), z_uS]
        · rw [z_upK (by omega), z_upS, z_uK (by omega), z_uS]
        · rw [z_upS, z_uS]
      · rw [z_upK (by omega), z_upK (by omega), z_upK (by omega), z_upK (by omega), z_uK (by omega), z_uK (by omega), z_uK (by omega), z_uK (by omega)]
        exact q2 i d (by omega) hd
    · unfold f_X10_write
      simp (disch := omega) only [h3, h16, ↓reduceIte, ↓p_ld, ↓p_st, ↓p_nm, ↓p_nS, ↓p_jn, ↓p_call, ↓p_callv, ↓p_dv, ↓p_rem, h_ldE, h_stE, h_nmE, h_nSE, h_callE, h_callvE, h_dvE, h_remE, if_true, if_false, z_upS, z_upO, z_upK, nI_add, z_mul, z_sub, z_div, Nat.add_zero, Nat.mul_zero, Nat.zero_add, Nat.sub_zero, Nat.zero_mul, z_ltT, z_ltF, z_leT, z_leF, z_eqT, z_eqF, z_inT, z_clT, not_true_eq_false, not_false_eq_true, eq_self, true_or, or_true, z_m_lt, z_m_le, z_lt_m, z_le_m, z_eq_m, z_m_eq, z_rz0, z_rz1, z_m_add, z_of, r_0_0, r_0_1, r_0_3, r_0_4, r_0_5, r_0_6, r_0_7, r_0_8, r_0_9, r_0_10, r_1_0, r_1_1, r_1_2, r_1_3, r_1_4, r_1_5, r_1_6, r_1_7, r_1_8, r_2_0, r_2_1, r_2_2, r_2_3, r_2_4, r_2_5, r_2_6, r_2_7, r_11_0, r_11_1, r_11_2, r_11_3, r_11_4, r_11_5, r_11_6, r_19_0, r_21_0, r_23_0, r_25_0, r_27_0, r_61_0, r_117_0, r_117_1, r_117_2, r_117_3, r_117_4, r_117_5, r_117_6, r_117_7, r_126_0, r_126_1, r_126_2, r_126_3, r_126_4, r_132_0, r_132_1, r_135_0, r_135_1, r_135_2, r_135_3, r_135_4, r_135_5, r_142_0, r_144_0, r_144_1, r_144_2, r_145_0, r_145_1, r_145_2, r_145_3, r_145_4, r_145_5, r_145_6, r_154_0, r_154_1, r_155_0, ↓z_m1, l_0, l_1, l_2, l_3, l_4, l_5, l_6, l_7, l_8, l_9, l_10, l_11, l_12, l_13, l_14, l_15, l_16, l_17, l_18, l_19, l_20, l_21, l_22, l_23, l_24, l_25, l_26, l_27, l_28, l_29, l_30, l_31, l_32, l_33, l_34, l_35, l_36, l_37, l_38, l_39, l_40, l_41, l_42, l_43, l_44, l_45, l_46, l_47, l_48, l_49, l_50, l_51, l_52, l_53, l_54, l_55, l_56, l_57, l_59, l_60, l_61, l_62, l_63, l_64, l_65, l_80, l_86, l_87, l_88, l_89, l_90, l_91, l_92, l_93, l_94, l_95, l_97, l_99, l_100, l_107, l_119, l_122, l_124, l_129, l_140, l_141, l_142, l_143, l_144, l_145, l_147, l_150, l_159, l_160, l_161, l_162, l_205, l_253, l_255, l_256, l_269, l_305, l_380, l_399, l_400, l_420, l_430, l_516, l_600, l_720, l_820, l_905, l_921, l_937, l_953, l_970, l_999, l_1000, l_1790, l_4096, l_9999, l_1000000]
/-! likings -/
def z_likes (V : Nat → Int32) (m k : Nat) (by' : Int32) : Nat → Int32 := z_u V (20+5*m+k) (nI (z_cl (V (20+5*m+k) + by') 99))
theorem z_C.like {σ : q_Sto} {V : Nat → Int32} {mu me m k v : Nat} (h : z_C σ V mu me) (hm : m < mu) (hk : k < me) (hv : v ≤ 99) : z_C (q_up σ 10 (m*5+k) (nI v)) (z_u V (20+5*m+k) (nI v)) mu me := by
  obtain ⟨⟨f1, f2, f3, f4, f5, f6, f7, f8, f9, f10, f11, f12⟩, hT, hW⟩ := h
  obtain ⟨⟨g1, g2, g3, g4, g5, g6, g7, g8, g9⟩, t1, t2, t3, t4, t5, t6⟩ := hT.un
  have e : ∀ a, a < 20 ∨ 80 ≤ a → z_u V (20+5*m+k) (nI v) a = V a := fun a ha => z_uK (by omega)
  refine ⟨⟨f1, f2, by rw [e 86 (by omega)]; exact f3, by rw [e 87 (by omega)]; exact f4, by rw [e 7 (by omega)]; exact f5, fun m hm => ?_, fun m' k' hm' hk' => ?_, fun k hk => ?_, by rw [e 1 (by omega)]; exact f9, by rw [e 2 (by omega)]; exact f10, by rw [e 6 (by omega)]; exact f11, by rw [e 88 (by omega)]; exact f12⟩, z_TR.mk ?_ (fun m' hm' => ?_) (fun m hm => ?_) (fun m' m1 m2 => by rw [z_upO (by omega)]; exact t3 m' m1 m2) (fun k hk => ?_) (fun m' k' hm' hk' => ?_) (fun m' k' hm' hk' hq => ?_), z_sam.WT (fun a ha => e a (by omega)) (hW.fr (fun o o1 o2 o3 => z_upO (by omega)))⟩
  · rw [e (8+m) (by omega), e (95+m) (by omega), e (107+m) (by omega)]; exact f6 m hm
  · by_cases q : m' = m ∧ k' = k
    · obtain ⟨rfl, rfl⟩ := q
      rw [z_uS]; exact ⟨v, hv, rfl⟩
    · rw [z_uK (by omega)]; exact f7 m' k' hm' hk'
  · rw [e (80+k) (by omega), e (119+k) (by omega), e (124+k) (by omega)]; exact f8 k hk
  · rw [z_upO (by omega), e 5 (by omega), e 88 (by omega), e 1 (by omega), e 2 (by omega), e 3 (by omega), e 4 (by omega), e 0 (by omega)]; exact ⟨g1, g2, g3, g4, g5, g6, g7, g8, g9⟩
  · rw [z_upO (by omega), z_upO (by omega), z_upO (by omega), e (95+m') (by omega), e (107+m') (by omega), e (8+m') (by omega)]; exact t1 m' hm'
  · rw [z_upO (by omega), e 7 (by omega)]; exact t2 m hm
  · rw [z_upO (by omega), z_upO (by omega), z_upO (by omega), e (80+k) (by omega), e (119+k) (by omega), e (124+k) (by omega)]; exact t4 k hk
  · by_cases q : m' = m ∧ k' = k
    · obtain ⟨rfl, rfl⟩ := q
      rw [z_uS, z_upS]
    · rw [z_uK (by omega), z_upK (by omega)]; exact t5 m' k' hm' hk'
  · rw [z_upK (by omega)]; exact t6 m' k' hm' hk' hq
theorem c_moveLiking {n mu me m k w0 : Nat} {tr : Bool} {P V : Nat → Int32} {σ : q_Sto} {d : Int32} (h : z_X mu me tr w0 P σ V) (hm : m < mu) (hk : k < me) : ∃ σ', z_fX σ σ' ∧ z_X mu me tr w0 P σ' (z_likes V m k d) ∧ f_X9_moveLiking n 2 (nI m) (nI k) d σ = some (nI 0, σ') := by
  have hmu := h.1.1.1
  have hme := h.1.1.2.1
  have el := c_likingFor (n := n) hmu hme h.1.2.1 hm hk
  have g8 : σ 2 8 = nI mu := h.1.2.1.1.1
  have g9 : σ 2 9 = nI me := h.1.2.1.1.2.1
  have hcl := z_cl_le (V (20+5*m+k) + d) 99
  refine ⟨q_up σ 10 (m*5+k) (nI (z_cl (V (20+5*m+k) + d) 99)), fun o ho => z_upO (by omega), ⟨h.1.like hm hk hcl, h.2.fr (by simp (disch := omega) only [↓reduceIte, ↓p_ld, ↓p_st, ↓p_nm, ↓p_nS, ↓p_jn, ↓p_call, ↓p_callv, ↓p_dv, ↓p_rem, h_ldE, h_stE, h_nmE, h_nSE, h_callE, h_callvE, h_dvE, h_remE, if_true, if_false, z_upS, z_upO, z_upK, nI_add, z_mul, z_sub, z_div, Nat.add_zero, Nat.mul_zero, Nat.zero_add, Nat.sub_zero, Nat.zero_mul, z_ltT, z_ltF, z_leT, z_leF, z_eqT, z_eqF, z_inT, z_clT, not_true_eq_false, not_false_eq_true, eq_self, true_or, or_true, z_m_lt, z_m_le, z_lt_m, z_le_m, z_eq_m, z_m_eq, z_rz0, z_rz1, z_m_add, z_of, ↓z_m1, l_0, l_1, l_2, l_3, l_4, l_5, l_6, l_7, l_8, l_9, l_10, l_11, l_12, l_13, l_14, l_15, l_16, l_17, l_18, l_19, l_20, l_21, l_22, l_23, l_24, l_25, l_26, l_27, l_28, l_29, l_30, l_31, l_32, l_33, l_34, l_35, l_36, l_37, l_38, l_39, l_40, l_41, l_42, l_43, l_44, l_45, l_46, l_47, l_48, l_49, l_50, l_51, l_52, l_53, l_54, l_55, l_56, l_57, l_59, l_60, l_61, l_62, l_63, l_64, l_65, l_80, l_86, l_87, l_88, l_89, l_90, l_91, l_92, l_93, l_94, l_95, l_97, l_99, l_100, l_107, l_119, l_122, l_124, l_129, l_140, l_141, l_142, l_143, l_144, l_145, l_147, l_150, l_159, l_160, l_161, l_162, l_205, l_253, l_255, l_256, l_269, l_305, l_380, l_399, l_400, l_420, l_430, l_516, l_600, l_720, l_820, l_905, l_921, l_937, l_953, l_970, l_999, l_1000, l_1790, l_4096, l_9999, l_1000000]) (by simp (disch := omega) only [↓reduceIte, ↓p_ld, ↓p_st, ↓p_nm, ↓p_nS, ↓p_jn, ↓p_call, ↓p_callv, ↓p_dv, ↓p_rem, h_ldE, h_stE, h_nmE, h_nSE, h_callE, h_callvE, h_dvE, h_remE, if_true, if_false, z_upS, z_upO, z_upK, nI_add, z_mul, z_sub, z_div, Nat.add_zero, Nat.mul_zero, Nat.zero_add, Nat.sub_zero, Nat.zero_mul, z_ltT, z_ltF, z_leT, z_leF, z_eqT, z_eqF, z_inT, z_clT, not_true_eq_false, not_false_eq_true, eq_self, true_or, or_true, z_m_lt, z_m_le, z_lt_m, z_le_m, z_eq_m, z_m_eq, z_rz0, z_rz1, z_m_add, z_of, ↓z_m1, l_0, l_1, l_2, l_3, l_4, l_5, l_6, l_7, l_8, l_9, l_10, l_11, l_12, l_13, l_14, l_15, l_16, l_17, l_18, l_19, l_20, l_21, l_22, l_23, l_24, l_25, l_26, l_27, l_28, l_29, l_30, l_31, l_32, l_33, l_34, l_35, l_36, l_37, l_38, l_39, l_40, l_41, l_42, l_43, l_44, l_45, l_46, l_47, l_48, l_49, l_50, l_51, l_52, l_53, l_54, l_55, l_56, l_57, l_59, l_60, l_61, l_62, l_63, l_64, l_65, l_80, l_86, l_87, l_88, l_89, l_90, l_91, l_92, l_93, l_94, l_95, l_97, l_99, l_100, l_107, l_119, l_122, l_124, l_129, l_140, l_141, l_142, l_143, l_144, l_145, l_147, l_150, l_159, l_160, l_161, l_162, l_205, l_253, l_255, l_256, l_269, l_305, l_380, l_399, l_400, l_420, l_430, l_516, l_600, l_720, l_820, l_905, l_921, l_937, l_953, l_970, l_999, l_1000, l_1790, l_4096, l_9999, l_1000000]) (z_uK (by omega)) (fun a a1 a2 => z_uK (by omega))⟩, ?_⟩
  unfold f_X9_moveLiking
  simp (disch := omega) only [el, f_X9_setLiking, f_X9_hasMule, f_X9_hasMan, g8, g9, z_cl_mx, ↓reduceIte, ↓p_ld, ↓p_st, ↓p_nm, ↓p_nS, ↓p_jn, ↓p_call, ↓p_callv, ↓p_dv, ↓p_rem, h_ldE, h_stE, h_nmE, h_nSE, h_callE, h_callvE, h_dvE, h_remE, if_true, if_false, z_upS, z_upO, z_upK, nI_add, z_mul, z_sub, z_div, Nat.add_zero, Nat.mul_zero, Nat.zero_add, Nat.sub_zero, Nat.zero_mul, z_ltT, z_ltF, z_leT, z_leF, z_eqT, z_eqF, z_inT, z_clT, not_true_eq_false, not_false_eq_true, eq_self, true_or, or_true, z_m_lt, z_m_le, z_lt_m, z_le_m, z_eq_m, z_m_eq, z_rz0, z_rz1, z_m_add, z_of, r_0_0, r_0_1, r_0_3, r_0_4, r_0_5, r_0_6, r_0_7, r_0_8, r_0_9, r_0_10, r_1_0, r_1_1, r_1_2, r_1_3, r_1_4, r_1_5, r_1_6, r_1_7, r_1_8, r_2_0, r_2_1, r_2_2, r_2_3, r_2_4, r_2_5, r_2_6, r_2_7, r_11_0, r_11_1, r_11_2, r_11_3, r_11_4, r_11_5, r_11_6, r_19_0, r_21_0, r_23_0, r_25_0, r_27_0, r_61_0, r_117_0, r_117_1, r_117_2, r_117_3, r_117_4, r_117_5, r_117_6, r_117_7, r_126_0, r_126_1, r_126_2, r_126_3, r_126_4, r_132_0, r_132_1, r_135_0, r_135_1, r_135_2, r_135_3, r_135_4, r_135_5, r_142_0, r_144_0, r_144_1, r_144_2, r_145_0, r_145_1, r_145_2, r_145_3, r_145_4, r_145_5, r_145_6, r_154_0, r_154_1, r_155_0, ↓z_m1, l_0, l_1, l_2, l_3, l_4, l_5, l_6, l_7, l_8, l_9, l_10, l_11, l_12, l_13, l_14, l_15, l_16, l_17, l_18, l_19, l_20, l_21, l_22, l_23, l_24, l_25, l_26, l_27, l_28, l_29, l_30, l_31, l_32, l_33, l_34, l_35, l_36, l_37, l_38, l_39, l_40, l_41, l_42, l_43, l_44, l_45, l_46, l_47, l_48, l_49, l_50, l_51, l_52, l_53, l_54, l_55, l_56, l_57, l_59, l_60, l_61, l_62, l_63, l_64, l_65, l_80, l_86, l_87, l_88, l_89, l_90, l_91, l_92, l_93, l_94, l_95, l_97, l_99, l_100, l_107, l_119, l_122, l_124, l_129, l_140, l_141, l_142, l_143, l_144, l_145, l_147, l_150, l_159, l_160, l_161, l_162, l_205, l_253, l_255, l_256, l_269, l_305, l_380, l_399, l_400, l_420, l_430, l_516, l_600, l_720, l_820, l_905, l_921, l_937, l_953, l_970, l_999, l_1000, l_1790, l_4096, l_9999, l_1000000]
theorem c_moveLiking0 {n mu me m w0 : Nat} {tr : Bool} {P V : Nat → Int32} {σ : q_Sto} {d : Int32} (h : z_X mu me tr w0 P σ V) (hm : m < mu) : f_X9_moveLiking n 2 (nI m) z_m d σ = some (nI 0, σ) := by
  have hmu := h.1.1.1
  have el := c_likingFor0 (n := n) hmu h.1.2.1 hm
  have g8 : σ 2 8 = nI mu := h.1.2.1.1.1
  have e0 := c_hasMan0 (n := n) (t := 2) (σ := σ)
  unfold f_X9_moveLiking
  simp (disch := omega) only [el, f_X9_setLiking, f_X9_hasMule, e0, g8, ↓reduceIte, ↓p_ld, ↓p_st, ↓p_nm, ↓p_nS, ↓p_jn, ↓p_call, ↓p_callv, ↓p_dv, ↓p_rem, h_ldE, h_stE, h_nmE, h_nSE, h_callE, h_callvE, h_dvE, h_remE, if_true, if_false, z_upS, z_upO, z_upK, nI_add, z_mul, z_sub, z_div, Nat.add_zero, Nat.mul_zero, Nat.zero_add, Nat.sub_zero, Nat.zero_mul, z_ltT, z_ltF, z_leT, z_leF, z_eqT, z_eqF, z_inT, z_clT, not_true_eq_false, not_false_eq_true, eq_self, true_or, or_true, z_m_lt, z_m_le, z_lt_m, z_le_m, z_eq_m, z_m_eq, z_rz0, z_rz1, z_m_add, z_of, r_0_0, r_0_1, r_0_3, r_0_4, r_0_5, r_0_6, r_0_7, r_0_8, r_0_9, r_0_10, r_1_0, r_1_1, r_1_2, r_1_3, r_1_4, r_1_5, r_1_6, r_1_7, r_1_8, r_2_0, r_2_1, r_2_2, r_2_3, r_2_4, r_2_5, r_2_6, r_2_7, r_11_0, r_11_1, r_11_2, r_11_3, r_11_4, r_11_5, r_11_6, r_19_0, r_21_0, r_23_0, r_25_0, r_27_0, r_61_0, r_117_0, r_117_1, r_117_2, r_117_3, r_117_4, r_117_5, r_117_6, r_117_7, r_126_0, r_126_1, r_126_2, r_126_3, r_126_4, r_132_0, r_132_1, r_135_0, r_135_1, r_135_2, r_135_3, r_135_4, r_135_5, r_142_0, r_144_0, r_144_1, r_144_2, r_145_0, r_145_1, r_145_2, r_145_3, r_145_4, r_145_5, r_145_6, r_154_0, r_154_1, r_155_0, ↓z_m1, l_0, l_1, l_2, l_3, l_4, l_5, l_6, l_7, l_8, l_9, l_10, l_11, l_12, l_13, l_14, l_15, l_16, l_17, l_18, l_19, l_20, l_21, l_22, l_23, l_24, l_25, l_26, l_27, l_28, l_29, l_30, l_31, l_32, l_33, l_34, l_35, l_36, l_37, l_38, l_39, l_40, l_41, l_42, l_43, l_44, l_45, l_46, l_47, l_48, l_49, l_50, l_51, l_52, l_53, l_54, l_55, l_56, l_57, l_59, l_60, l_61, l_62, l_63, l_64, l_65, l_80, l_86, l_87, l_88, l_89, l_90, l_91, l_92, l_93, l_94, l_95, l_97, l_99, l_100, l_107, l_119, l_122, l_124, l_129, l_140, l_141, l_142, l_143, l_144, l_145, l_147, l_150, l_159, l_160, l_161, l_162, l_205, l_253, l_255, l_256, l_269, l_305, l_380, l_399, l_400, l_420, l_430, l_516, l_600, l_720, l_820, l_905, l_921, l_937, l_953, l_970, l_999, l_1000, l_1790, l_4096, l_9999, l_1000000]