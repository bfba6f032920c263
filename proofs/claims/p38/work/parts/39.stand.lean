theorem z_VB_e {V : Nat → Int32} {B : Nat → Nat} (h : ∀ j, j < 12 → V (8+j) = z_vw (B j)) : V = z_VB V B := by
  funext a
  show _ = (if _ then _ else _)
  by_cases h2 : 8 ≤ a ∧ a < 20
  · rw [if_pos h2, ← h (a - 8) (by omega), show 8 + (a - 8) = a by omega]
  · rw [if_neg h2]
theorem z_rd_me {p : z_Bt} (h : z_BO p) {out : Nat → Bool} {B : Nat → Nat} (hB : ∀ j, B j ≤ p.2.2.2.2) : ∀ m j, (z_rd p out B m).1 j ≤ p.2.2.2.2
  | 0, j => hB j
  | m + 1, j => by
    have ih := z_rd_me h (out := out) hB m
    unfold z_rd
    split
    · exact ih j
    · show (if j = m then _ else _) ≤ _
      have := z_pick_le h (z_rd p out B m).1 m
      split
      · omega
      · exact ih j
theorem z_rs_me {p : z_Bt} (h : z_BO p) {out : Nat → Bool} : ∀ f B, (∀ j, B j ≤ p.2.2.2.2) → (∀ j, (z_rs p out f B).1 j ≤ p.2.2.2.2) ∧ (z_rs p out f B).2 ≤ f
  | 0, B, hB => ⟨hB, Nat.le_refl _⟩
  | f + 1, B, hB => by
    have hr := z_rd_me h (out := out) hB p.2.2.2.1
    have ih := z_rs_me h (out := out) f _ hr
    unfold z_rs
    split
    · exact ⟨ih.1, by have := ih.2; show _ + 1 ≤ _; omega⟩
    · exact ⟨hr, Nat.zero_le _⟩
theorem z_lea_le {B : Nat → Nat} {mu : Nat} : ∀ k, (z_lea B mu k).1 ≤ k ∧ (z_lea B mu k).2 ≤ 12 ∧ ((z_lea B mu k).2 = 0 → (z_lea B mu k).1 = 0)
  | 0 => ⟨Nat.le_refl _, Nat.zero_le _, fun _ => rfl⟩
  | k + 1 => by
    have ih := z_lea_le (B := B) (mu := mu) k
    have hc := z_cnt_le (z_side B k mu) 12
    unfold z_lea
    split
    · rename_i hlt
      refine ⟨Nat.le_refl _, hc, fun q => ?_⟩
      have q : z_cnt (z_side B k mu) 12 = 0 := q
      omega
    · split
      · exact ⟨Nat.zero_le _, ih.2.1, fun _ => rfl⟩
      · exact ⟨by omega, ih.2⟩
/-- V behind a VOTE: BEHIND and DRIVER -/
def z_VV (V : Nat → Int32) (B : Nat → Nat) (d : Int32) : Nat → Int32 := fun a => if a = 2 then d else z_VB V B a
theorem z_VV2 {V : Nat → Int32} {B : Nat → Nat} {d : Int32} : z_VV V B d 2 = d := if_pos rfl
theorem z_VVo {V : Nat → Int32} {B : Nat → Nat} {d : Int32} {a : Nat} (h : a ≠ 2) (h2 : a < 8 ∨ 20 ≤ a) : z_VV V B d a = V a := by
  show (if _ then _ else _) = _
  rw [if_neg h, z_VBo h2]
theorem z_VVi {V : Nat → Int32} {B : Nat → Nat} {d : Int32} {j : Nat} (h : j < 12) : z_VV V B d (8+j) = z_vw (B j) := by
  show (if _ then _ else _) = _
  rw [if_neg (by omega), z_VBi h]
theorem z_wt_le (out : Nat → Bool) (B : Nat → Nat) {mu : Nat} : z_cnt (z_wt out B mu) 12 < 13 := by
  have := z_cnt_le (z_wt out B mu) 12
  omega