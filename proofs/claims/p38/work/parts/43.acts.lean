/-! two that go alike: from V to W, the class answers r, the reference q -/
def z_PC (mu me : Nat) (tr : Bool) (w0 : Nat) (P V W : Nat → Int32) (F : q_Sto → Option (Int32 × q_Sto)) (r : Int32) : Prop := ∀ σ, z_X mu me tr w0 P σ V → ∃ σ', z_fX σ σ' ∧ z_X mu me tr w0 P σ' W ∧ F σ = some (r, σ')
def z_PM (tr : Bool) (V W : Nat → Int32) (G : q_Sto → Option (Int32 × q_Sto)) (r : Int32) : Prop := ∀ σ, σ 158 = V → z_fl σ tr → ∃ σ', z_fM σ σ' ∧ σ' 158 = W ∧ G σ = some (r, σ')
theorem z_X.h6 {mu me w0 : Nat} {tr : Bool} {P V : Nat → Int32} {σ : q_Sto} (h : z_X mu me tr w0 P σ V) : z_le (V 6) 150 := h.1.1.2.2.2.2.2.2.2.2.2.2.1
theorem p_write {n mu me w0 : Nat} {tr : Bool} {P V : Nat → Int32} {a b c : Int32} : z_PC mu me tr w0 P V (z_note tr V a b c) (f_X10_write n 1 a b c) (nI 0) := fun _ h => c_write h
theorem z_C.salt {σ : q_Sto} {V : Nat → Int32} {mu me k v : Nat} (h : z_C σ V mu me) (hk : k < me) (hv : v ≤ 99) : z_C (q_up σ 7 k (nI v)) (z_u V (80+k) (nI v)) mu me := by
  obtain ⟨⟨f1, f2, f3, f4, f5, f6, f7, f8, f9, f10, f11, f12⟩, hT, hW⟩ := h
  obtain ⟨⟨g1, g2, g3, g4, g5, g6, g7, g8, g9⟩, t1, t2, t3, t4, t5, t6⟩ := hT.un
  have e : ∀ a, a < 80 ∨ 85 ≤ a → z_u V (80+k) (nI v) a = V a := fun a ha => z_uK (by omega)
  refine ⟨⟨f1, f2, by rw [e 86 (by omega)]; exact f3, by rw [e 87 (by omega)]; exact f4, by rw [e 7 (by omega)]; exact f5, fun m hm => ?_, fun m' k' hm' hk' => ?_, fun k' hk' => ?_, by rw [e 1 (by omega)]; exact f9, by rw [e 2 (by omega)]; exact f10, by rw [e 6 (by omega)]; exact f11, by rw [e 88 (by omega)]; exact f12⟩, z_TR.mk ?_ (fun m' hm' => ?_) (fun m hm => ?_) (fun m' m1 m2 => by rw [z_upO (by omega)]; exact t3 m' m1 m2) (fun k' hk' => ?_) (fun m' k' hm' hk' => ?_) (fun m' k' hm' hk' hq => by rw [z_upO (by omega)]; exact t6 m' k' hm' hk' hq), z_sam.WT (fun a ha => e a (by omega)) (hW.fr (fun o o1 o2 o3 => z_upO (by omega)))⟩
  · rw [e (8+m) (by omega), e (95+m) (by omega), e (107+m) (by omega)]; exact f6 m hm
  · rw [e (20+5*m'+k') (by omega)]; exact f7 m' k' hm' hk'
  · rw [e (119+k') (by omega), e (124+k') (by omega)]
    refine ⟨?_, (f8 k' hk').2⟩
    by_cases q : k' = k
    · subst q; rw [z_uS]; exact ⟨v, hv, rfl⟩
    · rw [z_uK (by omega)]; exact (f8 k' hk').1
  · rw [z_upO (by omega), e 5 (by omega), e 88 (by omega), e 1 (by omega), e 2 (by omega), e 3 (by omega), e 4 (by omega), e 0 (by omega)]; exact ⟨g1, g2, g3, g4, g5, g6, g7, g8, g9⟩
  · rw [z_upO (by omega), z_upO (by omega), z_upO (by omega), e (95+m') (by omega), e (107+m') (by omega), e (8+m') (by omega)]; exact t1 m' hm'
  · rw [z_upO (by omega), e 7 (by omega)]; exact t2 m hm
  · rw [z_upO (show (8 : Nat) ≠ 7 by omega), z_upO (show (9 : Nat) ≠ 7 by omega), e (119+k') (by omega), e (124+k') (by omega)]
    refine ⟨?_, (t4 k' hk').2⟩
    by_cases q : k' = k
    · subst q; rw [z_uS, z_upS]
    · rw [z_uK (by omega), z_upK q]; exact (t4 k' hk').1
  · rw [z_upO (by omega), e (20+5*m'+k') (by omega)]; exact t5 m' k' hm' hk'