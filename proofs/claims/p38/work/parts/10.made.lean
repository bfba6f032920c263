def q_evs : List (Nat × Nat × Nat × Int32 × Nat) := [(0, 0, 0, 0, 0), (0, 1, 0, 0, 0), (0, 2, 0, 0, 0), (0, 3, 0, 0, 0), (1, 2, 0, 0, 3), (0, 4, 0, 0, 0), (1, 2, 1, 0, 4), (0, 5, 0, 0, 0), (1, 2, 2, 0, 5), (0, 6, 0, 0, 0), (1, 2, 3, 0, 6), (0, 7, 0, 0, 0), (1, 2, 4, 0, 7), (0, 8, 0, 0, 0), (1, 2, 5, 0, 8), (0, 9, 0, 0, 0), (1, 2, 6, 0, 9), (0, 10, 0, 0, 0), (1, 2, 7, 0, 10), (2, 2, 8, 0, 0), (2, 2, 9, 0, 0), (2, 2, 10, 0, 0), (2, 2, 11, 0, 0), (2, 2, 12, 0, 0), (2, 2, 13, (-1), 0), (2, 2, 14, 0, 0), (2, 2, 15, 0, 0), (2, 2, 16, 0, 0), (2, 2, 17, 0, 0), (3, 6, 12, (-1), 0), (3, 10, 60, 30, 0), (1, 1, 0, 0, 2), (0, 11, 0, 0, 0), (0, 12, 0, 0, 0), (1, 11, 0, 0, 12), (0, 13, 0, 0, 0), (1, 11, 1, 0, 13), (0, 14, 0, 0, 0), (1, 11, 2, 0, 14), (0, 15, 0, 0, 0), (1, 11, 3, 0, 15), (0, 16, 0, 0, 0), (1, 11, 4, 0, 16), (0, 17, 0, 0, 0), (1, 11, 5, 0, 17), (0, 18, 0, 0, 0), (1, 11, 6, 0, 18), (2, 11, 7, 0, 0), (2, 11, 8, 0, 0), (1, 1, 1, 0, 11), (0, 19, 0, 0, 0), (0, 20, 0, 0, 0), (1, 19, 0, 0, 20), (2, 19, 2, 0, 0), (2, 19, 1, 16, 0), (1, 1, 2, 0, 19), (0, 21, 0, 0, 0), (0, 22, 0, 0, 0), (1, 21, 0, 0, 22), (2, 21, 2, 0, 0), (2, 21, 1, 16, 0), (1, 1, 3, 0, 21), (0, 23, 0, 0, 0), (0, 24, 0, 0, 0), (1, 23, 0, 0, 24), (2, 23, 2, 0, 0), (2, 23, 1, 16, 0), (1, 1, 4, 0, 23), (0, 25, 0, 0, 0), (0, 26, 0, 0, 0), (1, 25, 0, 0, 26), (2, 25, 2, 0, 0), (2, 25, 1, 8, 0), (1, 1, 5, 0, 25), (0, 27, 0, 0, 0), (0, 28, 0, 0, 0), (1, 27, 0, 0, 28), (2, 27, 2, 0, 0), (2, 27, 1, 12, 0), (1, 1, 6, 0, 27), (0, 29, 0, 0, 0), (1, 1, 7, 0, 29), (0, 30, 0, 0, 0), (1, 1, 8, 0, 30), (1, 0, 0, 0, 1), (0, 31, 0, 0, 0), (0, 32, 0, 0, 0), (0, 33, 0, 0, 0), (1, 32, 0, 0, 33), (0, 34, 0, 0, 0), (1, 32, 1, 0, 34), (0, 35, 0, 0, 0), (1, 32, 2, 0, 35), (0, 36, 0, 0, 0), (1, 32, 3, 0, 36), (0, 37, 0, 0, 0), (1, 32, 4, 0, 37), (0, 38, 0, 0, 0), (1, 32, 5, 0, 38), (0, 39, 0, 0, 0), (1, 32, 6, 0, 39), (0, 40, 0, 0, 0), (1, 32, 7, 0, 40), (2, 32, 8, 0, 0), (2, 32, 9, 0, 0), (2, 32, 10, 0, 0), (2, 32, 11, 0, 0), (2, 32, 12, 0, 0), (2, 32, 13, (-1), 0), (2, 32, 14, 0, 0), (2, 32, 15, 0, 0), (2, 32, 16, 0, 0), (2, 32, 17, 0, 0), (3, 36, 12, (-1), 0), (3, 40, 60, 30, 0), (1, 31, 0, 0, 32), (0, 41, 0, 0, 0), (0, 42, 0, 0, 0), (1, 41, 0, 0, 42), (0, 43, 0, 0, 0), (1, 41, 1, 0, 43), (0, 44, 0, 0, 0), (1, 41, 2, 0, 44), (0, 45, 0, 0, 0), (1, 41, 3, 0, 45), (0, 46, 0, 0, 0), (1, 41, 4, 0, 46), (0, 47, 0, 0, 0), (1, 41, 5, 0, 47), (0, 48, 0, 0, 0), (1, 41, 6, 0, 48), (2, 41, 7, 0, 0), (2, 41, 8, 0, 0), (1, 31, 1, 0, 41), (0, 49, 0, 0, 0), (0, 50, 0, 0, 0), (1, 49, 0, 0, 50), (2, 49, 2, 0, 0), (2, 49, 1, 16, 0), (1, 31, 2, 0, 49), (0, 51, 0, 0, 0), (0, 52, 0, 0, 0), (1, 51, 0, 0, 52), (2, 51, 2, 0, 0), (2, 51, 1, 16, 0), (1, 31, 3, 0, 51), (0, 53, 0, 0, 0), (0, 54, 0, 0, 0), (1, 53, 0, 0, 54), (2, 53, 2, 0, 0), (2, 53, 1, 16, 0), (1, 31, 4, 0, 53), (0, 55, 0, 0, 0), (0, 56, 0, 0, 0), (1, 55, 0, 0, 56), (2, 55, 2, 0, 0), (2, 55, 1, 8, 0), (1, 31, 5, 0, 55), (0, 57, 0, 0, 0), (0, 58, 0, 0, 0), (1, 57, 0, 0, 58), (2, 57, 2, 0, 0), (2, 57, 1, 12, 0), (1, 31, 6, 0, 57), (0, 59, 0, 0, 0), (1, 31, 7, 0, 59), (0, 60, 0, 0, 0), (1, 31, 8, 0, 60), (1, 0, 1, 0, 31), (2, 0, 2, 0, 0), (0, 61, 0, 0, 0), (0, 62, 0, 0, 0), (1, 61, 0, 0, 62), (2, 61, 1, 0, 0), (0, 63, 0, 0, 0), (0, 64, 0, 0, 0), (1, 63, 0, 0, 64), (0, 65, 0, 0, 0), (1, 63, 1, 0, 65), (0, 66, 0, 0, 0), (1, 63, 2, 0, 66), (0, 67, 0, 0, 0), (1, 63, 3, 0, 67), (0, 68, 0, 0, 0), (1, 63, 4, 0, 68), (0, 69, 0, 0, 0), (1, 63, 5, 0, 69), (0, 70, 0, 0, 0), (1, 63, 6, 0, 70), (0, 71, 0, 0, 0), (1, 63, 7, 0, 71), (2, 63, 8, 0, 0), (2, 63, 9, 0, 0), (2, 63, 10, 0, 0), (2, 63, 11, 0, 0), (2, 63, 12, 0, 0), (2, 63, 13, (-1), 0), (2, 63, 14, 0, 0), (2, 63, 15, 0, 0), (2, 63, 16, 0, 0), (2, 63, 17, 0, 0), (3, 67, 12, (-1), 0), (3, 71, 60, 30, 0), (2, 62, 0, 63, 0), (0, 72, 0, 0, 0), (0, 73, 0, 0, 0), (1, 72, 0, 0, 73), (0, 74, 0, 0, 0), (1, 72, 1, 0, 74), (0, 75, 0, 0, 0), (1, 72, 2, 0, 75), (0, 76, 0, 0, 0), (1, 72, 3, 0, 76), (0, 77, 0, 0, 0), (1, 72, 4, 0, 77), (0, 78, 0, 0, 0), (1, 72, 5, 0, 78), (0, 79, 0, 0, 0), (1, 72, 6, 0, 79), (0, 80, 0, 0, 0), (1, 72, 7, 0, 80), (2, 72, 8, 0, 0), (2, 72, 9, 0, 0), (2, 72, 10, 0, 0), (2, 72, 11, 0, 0), (2, 72, 12, 0, 0), (2, 72, 13, (-1), 0), (2, 72, 14, 0, 0), (2, 72, 15, 0, 0), (2, 72, 16, 0, 0), (2, 72, 17, 0, 0), (3, 76, 12, (-1), 0), (3, 80, 60, 30, 0), (2, 62, 1, 72, 0), (0, 81, 0, 0, 0), (0, 82, 0, 0, 0), (1, 81, 0, 0, 82), (0, 83, 0, 0, 0), (1, 81, 1, 0, 83), (0, 84, 0, 0, 0), (1, 81, 2, 0, 84), (0, 85, 0, 0, 0), (1, 81, 3, 0, 85), (0, 86, 0, 0, 0), (1, 81, 4, 0, 86), (0, 87, 0, 0, 0), (1, 81, 5, 0, 87), (0, 88, 0, 0, 0), (1, 81, 6, 0, 88), (0, 89, 0, 0, 0), (1, 81, 7, 0, 89), (2, 81, 8, 0, 0), (2, 81, 9, 0, 0), (2, 81, 10, 0, 0), (2, 81, 11, 0, 0), (2, 81, 12, 0, 0), (2, 81, 13, (-1), 0), (2, 81, 14, 0, 0), (2, 81, 15, 0, 0), (2, 81, 16, 0, 0), (2, 81, 17, 0, 0), (3, 85, 12, (-1), 0), (3, 89, 60, 30, 0), (2, 62, 2, 81, 0), (0, 90, 0, 0, 0), (0, 91, 0, 0, 0), (1, 90, 0, 0, 91), (0, 92, 0, 0, 0), (1, 90, 1, 0, 92), (0, 93, 0, 0, 0), (1, 90, 2, 0, 93), (0, 94, 0, 0, 0), (1, 90, 3, 0, 94), (0, 95, 0, 0, 0), (1, 90, 4, 0, 95), (0, 96, 0, 0, 0), (1, 90, 5, 0, 96), (0, 97, 0, 0, 0), (1, 90, 6, 0, 97), (0, 98, 0, 0, 0), (1, 90, 7, 0, 98), (2, 90, 8, 0, 0), (2, 90, 9, 0, 0), (2, 90, 10, 0, 0), (2, 90, 11, 0, 0), (2, 90, 12, 0, 0), (2, 90, 13, (-1), 0), (2, 90, 14, 0, 0), (2, 90, 15, 0, 0), (2, 90, 16, 0, 0), (2, 90, 17, 0, 0), (3, 94, 12, (-1), 0), (3, 98, 60, 30, 0), (2, 62, 3, 90, 0), (0, 99, 0, 0, 0), (0, 100, 0, 0, 0), (1, 99, 0, 0, 100), (0, 101, 0, 0, 0), (1, 99, 1, 0, 101), (0, 102, 0, 0, 0), (1, 99, 2, 0, 102), (0, 103, 0, 0, 0), (1, 99, 3, 0, 103), (0, 104, 0, 0, 0), (1, 99, 4, 0, 104), (0, 105, 0, 0, 0), (1, 99, 5, 0, 105), (0, 106, 0, 0, 0), (1, 99, 6, 0, 106), (0, 107, 0, 0, 0), (1, 99, 7, 0, 107), (2, 99, 8, 0, 0), (2, 99, 9, 0, 0), (2, 99, 10, 0, 0), (2, 99, 11, 0, 0), (2, 99, 12, 0, 0), (2, 99, 13, (-1), 0), (2, 99, 14, 0, 0), (2, 99, 15, 0, 0), (2, 99, 16, 0, 0), (2, 99, 17, 0, 0), (3, 103, 12, (-1), 0), (3, 107, 60, 30, 0), (2, 62, 4, 99, 0), (0, 108, 0, 0, 0), (0, 109, 0, 0, 0), (1, 108, 0, 0, 109), (0, 110, 0, 0, 0), (1, 108, 1, 0, 110), (0, 111, 0, 0, 0), (1, 108, 2, 0, 111), (0, 112, 0, 0, 0), (1, 108, 3, 0, 112), (0, 113, 0, 0, 0), (1, 108, 4, 0, 113), (0, 114, 0, 0, 0), (1, 108, 5, 0, 114), (0, 115, 0, 0, 0), (1, 108, 6, 0, 115), (0, 116, 0, 0, 0), (1, 108, 7, 0, 116), (2, 108, 8, 0, 0), (2, 108, 9, 0, 0), (2, 108, 10, 0, 0), (2, 108, 11, 0, 0), (2, 108, 12, 0, 0), (2, 108, 13, (-1), 0), (2, 108, 14, 0, 0), (2, 108, 15, 0, 0), (2, 108, 16, 0, 0), (2, 108, 17, 0, 0), (3, 112, 12, (-1), 0), (3, 116, 60, 30, 0), (2, 62, 5, 108, 0), (1, 0, 3, 0, 61), (0, 117, 0, 0, 0), (0, 118, 0, 0, 0), (1, 117, 0, 0, 118), (0, 119, 0, 0, 0), (1, 117, 1, 0, 119), (0, 120, 0, 0, 0), (1, 117, 2, 0, 120), (0, 121, 0, 0, 0), (1, 117, 3, 0, 121), (0, 122, 0, 0, 0), (1, 117, 4, 0, 122), (0, 123, 0, 0, 0), (1, 117, 5, 0, 123), (0, 124, 0, 0, 0), (1, 117, 6, 0, 124), (0, 125, 0, 0, 0), (1, 117, 7, 0, 125), (2, 117, 8, 0, 0), (2, 117, 9, 0, 0), (2, 117, 10, 0, 0), (2, 117, 11, 0, 0), (2, 117, 12, 0, 0), (2, 117, 13, (-1), 0), (2, 117, 14, 0, 0), (2, 117, 15, 0, 0), (2, 117, 16, 0, 0), (2, 117, 17, 0, 0), (3, 121, 12, (-1), 0), (3, 125, 60, 30, 0), (1, 0, 4, 0, 117), (0, 126, 0, 0, 0), (0, 127, 0, 0, 0), (1, 126, 0, 0, 127), (0, 128, 0, 0, 0), (1, 126, 1, 0, 128), (0, 129, 0, 0, 0), (1, 126, 2, 0, 129), (0, 130, 0, 0, 0), (1, 126, 3, 0, 130), (0, 131, 0, 0, 0), (1, 126, 4, 0, 131), (2, 126, 5, 0, 0), (2, 126, 6, 0, 0), (2, 126, 7, 0, 0), (2, 126, 8, (-1), 0), (1, 0, 5, 0, 126), (0, 132, 0, 0, 0), (0, 133, 0, 0, 0), (1, 132, 0, 0, 133), (0, 134, 0, 0, 0), (1, 132, 1, 0, 134), (1, 0, 6, 0, 132), (0, 135, 0, 0, 0), (0, 136, 0, 0, 0), (1, 135, 0, 0, 136), (0, 137, 0, 0, 0), (1, 135, 1, 0, 137), (0, 138, 0, 0, 0), (1, 135, 2, 0, 138), (0, 139, 0, 0, 0), (1, 135, 3, 0, 139), (0, 140, 0, 0, 0), (1, 135, 4, 0, 140), (0, 141, 0, 0, 0), (1, 135, 5, 0, 141), (1, 0, 7, 0, 135), (0, 142, 0, 0, 0), (0, 143, 0, 0, 0), (1, 142, 0, 0, 143), (2, 142, 1, 0, 0), (2, 142, 2, 0, 0), (2, 142, 3, 0, 0), (2, 142, 4, 0, 0), (2, 142, 5, 0, 0), (2, 142, 6, 0, 0), (2, 142, 7, (-1), 0), (1, 0, 8, 0, 142), (0, 144, 0, 0, 0), (0, 145, 0, 0, 0), (0, 146, 0, 0, 0), (1, 145, 0, 0, 146), (0, 147, 0, 0, 0), (1, 145, 1, 0, 147), (0, 148, 0, 0, 0), (1, 145, 2, 0, 148), (0, 149, 0, 0, 0), (1, 145, 3, 0, 149), (0, 150, 0, 0, 0), (1, 145, 4, 0, 150), (0, 151, 0, 0, 0), (1, 145, 5, 0, 151), (0, 152, 0, 0, 0), (1, 145, 6, 0, 152), (2, 145, 7, 0, 0), (2, 145, 8, 0, 0), (1, 144, 1, 0, 145), (0, 153, 0, 0, 0), (1, 144, 2, 0, 153), (2, 144, 3, 0, 0), (2, 144, 4, 0, 0), (2, 144, 5, 0, 0), (2, 144, 6, 0, 0), (2, 144, 7, 0, 0), (2, 144, 8, 0, 0), (1, 144, 0, 0, 142), (1, 0, 9, 0, 144), (0, 154, 0, 0, 0), (0, 155, 0, 0, 0), (0, 156, 0, 0, 0), (1, 155, 0, 0, 156), (2, 155, 2, 0, 0), (2, 155, 1, 16, 0), (1, 154, 1, 0, 155), (1, 154, 0, 0, 142), (1, 0, 10, 0, 154)]
/-! the constructors: the world after so many events -/
abbrev q_Ev : Type := Nat × Nat × Nat × Int32 × Nat
def q_fil (σ : q_Sto) (a len : Nat) (v : Int32) : q_Sto := fun o k => if o = a then (if k < len then v else σ o k) else σ o k
def q_ap (S : q_Sg) (e : q_Ev) : q_Sg := match e.1 with
  | 0 => (S.1 + 1, S.2.1, S.2.2.1, S.2.2.2)
  | 1 => (S.1, S.2.1, q_upR S.2.2.1 e.2.1 e.2.2.1 (some e.2.2.2.2), S.2.2.2)
  | 2 => (S.1, S.2.1, S.2.2.1, q_up S.2.2.2 e.2.1 e.2.2.1 e.2.2.2.1)
  | _ => (S.1, S.2.1, S.2.2.1, q_fil S.2.2.2 e.2.1 e.2.2.1 e.2.2.2.1)
def q_z0 (o : Nat) : Int32 := match q_KD o with
  | .inr (_, true) => -1
  | _ => 0
def q_S0 : q_Sg := (0, q_KD, fun _ _ => none, fun o _ => q_z0 o)
def q_St (t : Nat) : q_Sg := (q_evs.take t).foldl q_ap q_S0
theorem q_St_s {t t2 : Nat} {e : q_Ev} (h : q_evs[t]? = some e) (ht : t + 1 = t2) : q_St t2 = q_ap (q_St t) e := by
  subst ht
  have hl : t < q_evs.length := (List.getElem?_eq_some_iff.mp h).1
  have he : q_evs[t] = e := (List.getElem?_eq_some_iff.mp h).2
  unfold q_St
  rw [List.take_succ_eq_append_getElem hl, List.foldl_append, he]
  rfl
theorem q_ap_kd (S : q_Sg) (e : q_Ev) : (q_ap S e).2.1 = S.2.1 := by
  unfold q_ap
  split <;> rfl
theorem q_fold_kd : ∀ (l : List q_Ev) (S : q_Sg), (l.foldl q_ap S).2.1 = S.2.1
  | [], S => rfl
  | e :: l, S => (q_fold_kd l (q_ap S e)).trans (q_ap_kd S e)
theorem q_St_kd (t : Nat) : (q_St t).2.1 = q_KD := q_fold_kd _ _
theorem q_ap_n (S : q_Sg) (e : q_Ev) : (q_ap S e).1 = S.1 + (if e.1 = 0 then 1 else 0) := by
  unfold q_ap
  split <;> rename_i h <;> simp_all
theorem q_fold_n : ∀ (l : List q_Ev) (S : q_Sg), (l.foldl q_ap S).1 = S.1 + l.countP (fun e => e.1 == 0)
  | [], S => rfl
  | e :: l, S => by
    rw [List.foldl_cons, q_fold_n l, q_ap_n, List.countP_cons]
    by_cases h : e.1 = 0 <;> simp [h] <;> omega
theorem q_St_n {t n : Nat} (h : (q_evs.take t).countP (fun e => e.1 == 0) = n) : (q_St t).1 = n := by
  unfold q_St
  rw [q_fold_n, h]
  exact Nat.zero_add _
theorem q_ap_fr (S : q_Sg) (e : q_Ev) (n : Nat) (h : e.2.1 ≠ n) : (q_ap S e).2.2.1 n = S.2.2.1 n ∧ (q_ap S e).2.2.2 n = S.2.2.2 n := by
  have h' : ¬ n = e.2.1 := fun q => h q.symm
  unfold q_ap
  split
  · exact ⟨rfl, rfl⟩
  · exact ⟨by funext j; simp [q_upR, h'], rfl⟩
  · exact ⟨rfl, by funext j; simp [q_up, h']⟩
  · exact ⟨rfl, by funext j; simp [q_fil, h']⟩
theorem q_fold_fr (n : Nat) : ∀ (l : List q_Ev) (S : q_Sg), (∀ e ∈ l, e.2.1 ≠ n) → (l.foldl q_ap S).2.2.1 n = S.2.2.1 n ∧ (l.foldl q_ap S).2.2.2 n = S.2.2.2 n
  | [], S, _ => ⟨rfl, rfl⟩
  | e :: l, S, h => by
    obtain ⟨a, b⟩ := q_fold_fr n l (q_ap S e) (fun x hx => h x (List.mem_cons_of_mem _ hx))
    obtain ⟨c, d⟩ := q_ap_fr S e n (h e List.mem_cons_self)
    exact ⟨a.trans c, b.trans d⟩
def q_frb (t n : Nat) : Bool := (q_evs.take t).all (fun e => !(e.2.1 == n))
theorem q_St_fr {t n : Nat} (h : q_frb t n = true) : (q_St t).2.2.1 n = (fun _ => none) ∧ (q_St t).2.2.2 n = (fun _ => q_z0 n) := by
  refine q_fold_fr n _ _ (fun e he => ?_)
  have := List.all_eq_true.mp h e he
  simpa using this
section QK
variable {w : q_Wd} {cx : q_Cx} {own : String} {cc : ByteArray} {nL cells slots c2 s2 : Nat} {ret : Option FieldType} {rm : Room} {Q : State → Prop} {pc pc2 : Nat} {L : List (Option Value)} {st : List Value} {S : q_Sg} {t t2 : Nat}
def q_inm (cx : q_Cx) (own : String) (ci : Nat) : Prop := cx.2.2.2.2.2.2.2.2.1.name = "<init>" ∧ ∃ r, q_cl[ci]? = some (own, r)
theorem k_putI {idx ci k o : Nat} {tk : FieldType} {fin : Bool} {v : Int32} (hc : q_ok w cx own cc nL ret rm) (hf : q_fl own idx ci k tk fin) (hi : q_inm cx own ci) (hr : q_isR ci k = false) (hkd : q_KD o = .inl ci) (ho : o < (q_St t).1) (hn : narrow tk (.int v) = .int v) (hfit : fits tk (.int v) = true)
    (hev : q_evs[t]? = some (2, o, k, v, 0)) (ht : t + 1 = t2) (hd : decode cc pc = .ok (.putfield idx, 3)) (hp : pc + 3 = pc2) (kk : q_J w cx nL cells slots Q pc2 L st (q_St t2)) : q_J w cx nL cells slots Q pc L (.int v :: q_rf w o :: st) (q_St t) := by
  rw [q_St_s hev ht] at kk
  exact j_putI hc hf (Or.inr hi) hr (by rw [q_St_kd]; exact hkd) ho hn hfit hd hp kk
theorem k_putR {idx ci k o x : Nat} {tk : FieldType} {fin : Bool} (hc : q_ok w cx own cc nL ret rm) (hf : q_fl own idx ci k tk fin) (hi : q_inm cx own ci) (hr : q_isR ci k = true) (hkd : q_KD o = .inl ci) (ho : o < (q_St t).1) (hn : narrow tk (q_rf w x) = q_rf w x) (hfit : fits tk (q_rf w x) = true)
    (hev : q_evs[t]? = some (1, o, k, 0, x)) (ht : t + 1 = t2) (hd : decode cc pc = .ok (.putfield idx, 3)) (hp : pc + 3 = pc2) (kk : q_J w cx nL cells slots Q pc2 L st (q_St t2)) : q_J w cx nL cells slots Q pc L (q_rf w x :: q_rf w o :: st) (q_St t) := by
  rw [q_St_s hev ht] at kk
  exact j_putR hc hf (Or.inr hi) hr (by rw [q_St_kd]; exact hkd) ho hn hfit hd hp kk
theorem k_getR {idx ci k o x : Nat} {tk : FieldType} {fin : Bool} (hc : q_ok w cx own cc nL ret rm) (hf : q_fl own idx ci k tk fin) (hr : q_isR ci k = true) (hkd : q_KD o = .inl ci) (ho : o < (q_St t).1) (hx : (q_St t).2.2.1 o k = some x) (hd : decode cc pc = .ok (.getfield idx, 3)) (hp : pc + 3 = pc2) (kk : q_J w cx nL cells slots Q pc2 L (q_rf w x :: st) (q_St t)) : q_J w cx nL cells slots Q pc L (q_rf w o :: st) (q_St t) := by
  refine j_get hc hf (by rw [q_St_kd]; exact hkd) ho hd hp ?_
  rw [q_fv, hr, hx]
  exact kk
theorem k_iast {a len : Nat} {i v : Int32} (hc : q_ok w cx own cc nL ret rm) (hkd : q_KD a = .inr (len, false)) (ho : a < (q_St t).1) (hin : q_in i len) (hev : q_evs[t]? = some (2, a, i.toNatClampNeg, v, 0)) (ht : t + 1 = t2) (hd : decode cc pc = .ok (.iastore, 1)) (hp : pc + 1 = pc2)
    (kk : q_J w cx nL cells slots Q pc2 L st (q_St t2)) : q_J w cx nL cells slots Q pc L (.int v :: .int i :: q_rf w a :: st) (q_St t) := by
  rw [q_St_s hev ht] at kk
  exact j_iast hc (by rw [q_St_kd]; exact hkd) ho hin hd hp kk
theorem k_aast {a len x : Nat} {i : Int32} (hc : q_ok w cx own cc nL ret rm) (hkd : q_KD a = .inr (len, true)) (ho : a < (q_St t).1) (hkx : q_KD x = .inl 9) (hx : x < (q_St t).1) (hx2 : x < 2 ^ 31) (hin : q_in i len) (hev : q_evs[t]? = some (2, a, i.toNatClampNeg, Int32.ofNat x, 0)) (ht : t + 1 = t2) (hd : decode cc pc = .ok (.aastore, 1)) (hp : pc + 1 = pc2)
    (kk : q_J w cx nL cells slots Q pc2 L st (q_St t2)) : q_J w cx nL cells slots Q pc L (q_rf w x :: .int i :: q_rf w a :: st) (q_St t) := by
  rw [q_St_s hev ht] at kk
  exact j_aast hc (by rw [q_St_kd]; exact hkd) ho (by rw [q_St_kd]; exact hkx) hx hx2 hin hd hp kk
/-- an object -/
theorem k_new {idx ci n : Nat} {C : String} {T : u_T} {ty : Nat → FieldType} (hc : q_ok w cx own cc nL ret rm) (hop : w.2.2.2.2.2.1 = none) (hcl : q_cls ci C T ty) (hw : Cond.classLink own idx C ∈ q_big ∧ Cond.instantiable C (q_nF ci) ∈ q_big ∧ Cond.initialized C ∈ q_big) (hdef : ∀ k, k < q_nF ci → defaultValue (ty k) = if q_isR ci k = true then .null else .int 0)
    (hkd : q_KD n = .inl ci) (hn : (q_St t).1 = n) (hfr : q_frb t n = true) (hev : q_evs[t]? = some (0, n, 0, 0, 0)) (ht : t + 1 = t2) (hcells : cells + 1 = c2) (hslots : slots + q_nF ci = s2) (hrm : c2 ≤ rm.cells ∧ s2 ≤ rm.slots) (hd : decode cc pc = .ok (.new idx, 3)) (hp : pc + 3 = pc2)
    (kk : q_J w cx nL c2 s2 Q pc2 L (q_rf w n :: st) (q_St t2)) : q_J w cx nL cells slots Q pc L st (q_St t) := by
  subst hp hcells hslots
  intro H locs ls hR hS hL
  have hts := hc.2.2.2.2.1
  have hK := hc.2.2.2.2.2.2.2.1.1
  obtain ⟨h1, h2, h3, h4⟩ := hcl
  have hKn := hK.1 ci _ h1
  have hrm' : cells + 1 ≤ cx.2.2.2.1.cells ∧ slots + q_nF ci ≤ cx.2.2.2.1.slots := by rw [hc.2.2.2.2.2.2.2.2.1]; exact hrm
  obtain ⟨f1, f2⟩ := q_St_fr hfr
  have e0 : q_St t2 = ((q_St t).1 + 1, (q_St t).2.1, (q_St t).2.2.1, (q_St t).2.2.2) := q_St_s hev ht
  refine W.newcK hc.1 hc.2.1 hc.2.2.2.1 (hts _ hw.1) (hts _ hw.2.1) (hts _ hw.2.2) rfl hd hrm'.1 hrm'.2 hKn.2.1 (h := w.2.2.1 + n) (by rw [q_sz_op hR.1 hop, hn]) fun H1 kC hkC e1 z1 o1 => ?_
  refine kk H1 locs ls (hR.push hop (by rw [z1, q_sz_op hR.1 hop, hn]) (fun q hq => o1 q (by rw [q_sz_op hR.1 hop, hn] at hq; exact hq)) (by rw [e0]) ?_ (fun j _ => by rw [e0])) ⟨Nat.le_trans hS.1 (by rw [z1, q_sz_op hR.1 hop, hn]; omega), fun q a b => (o1 q (by
      have := Nat.lt_of_lt_of_le a hS.1
      rw [q_sz_op hR.1 hop, hn] at this
      exact this)).trans (hS.2.1 q a b), hS.2.2⟩ hL
  rw [e0, hn]
  show va_at _ _ (w.2.2.1 + n, q_ent w (q_St t).2.1 (q_St t).2.2.1 (q_St t).2.2.2 n) H1
  rw [q_ent_o (S := q_St t) (by rw [q_St_kd]; exact hkd)]
  refine ⟨_, h1, (u_born ty hts h2 hKn hkC e1 h3).to (fun k hk => ?_)⟩
  rw [hdef k hk, f1, f2]
  have hz : q_z0 n = 0 := by simp [q_z0, hkd]
  simp only [vp_V, List.getD_eq_getElem?_getD, List.getElem?_map, List.getElem?_range hk, Option.map_some, Option.getD_some, q_fv, hz]
  split <;> rfl
theorem q_arrc {cA : ClassId} {H1 : Heap} {a len : Nat} {f : Nat → Int32} (h : H1[a]? = some (arrV cA len (fun _ => .int 0))) (hf : f = fun _ => 0) : H1[a]? = some (vp_cell cA (len, .inl f)) := by
  rw [h, hf, vp_cell_i]
/-- a row of ints -/
theorem k_newa {n len : Nat} {x : Int32} (hc : q_ok w cx own cc nL ret rm) (hop : w.2.2.2.2.2.1 = none) (hkd : q_KD n = .inr (len, false)) (hn : (q_St t).1 = n) (hfr : q_frb t n = true) (hx : ¬ x < 0) (hxl : x.toNatClampNeg = len) (hbytes : len * 4 ≤ 536870912) (hev : q_evs[t]? = some (0, n, 0, 0, 0)) (ht : t + 1 = t2) (hcells : cells + 1 = c2) (hslots : slots + len = s2) (hrm : c2 ≤ rm.cells ∧ s2 ≤ rm.slots) (hw : Cond.arrayClass .int ∈ q_big)
    (hd : decode cc pc = .ok (.newarray .int, 2)) (hp : pc + 2 = pc2) (kk : q_J w cx nL c2 s2 Q pc2 L (q_rf w n :: st) (q_St t2)) : q_J w cx nL cells slots Q pc L (.int x :: st) (q_St t) := by
  subst hp hcells hslots
  intro H locs ls hR hS hL
  have hK := hc.2.2.2.2.2.2.2.1.1
  have hrm' : cells + 1 ≤ cx.2.2.2.1.cells ∧ slots + len ≤ cx.2.2.2.1.slots := by rw [hc.2.2.2.2.2.2.2.2.1]; exact hrm
  obtain ⟨f1, f2⟩ := q_St_fr hfr
  have e0 : q_St t2 = ((q_St t).1 + 1, (q_St t).2.1, (q_St t).2.2.1, (q_St t).2.2.2) := q_St_s hev ht
  refine va_newaK (atype := .int) hc.1 hc.2.1 (hc.2.2.2.2.1 _ hw) rfl hd rfl hx hxl hbytes hrm'.1 hrm'.2 (h := w.2.2.1 + n) (by rw [q_sz_op hR.1 hop, hn]) fun H1 cA e1 z1 o1 hAr hNm => ?_
  have hcA : cA = (w.2.1 0) := by
    have h2 : cx.2.2.2.2.1.vm.findClass ("[" ++ FieldType.int.toString) = some (w.2.1 0) := (hK.2 0 _ rfl).2
    exact Option.some.inj (hNm.symm.trans h2)
  subst hcA
  refine kk H1 locs ls (hR.push hop (by rw [z1, q_sz_op hR.1 hop, hn]) (fun q hq => o1 q (by rw [q_sz_op hR.1 hop, hn] at hq; exact hq)) (by rw [e0]) ?_ (fun j _ => by rw [e0])) ⟨Nat.le_trans hS.1 (by rw [z1, q_sz_op hR.1 hop, hn]; omega), fun q a b => (o1 q (by
      have := Nat.lt_of_lt_of_le a hS.1
      rw [q_sz_op hR.1 hop, hn] at this
      exact this)).trans (hS.2.1 q a b), hS.2.2⟩ hL
  rw [e0, hn]
  show va_at _ _ (w.2.2.1 + n, q_ent w (q_St t).2.1 (q_St t).2.2.1 (q_St t).2.2.2 n) H1
  rw [q_ent_i (S := q_St t) (by rw [q_St_kd]; exact hkd)]
  exact q_arrc e1 (by rw [f2]; simp [q_z0, hkd])
/-- a row of references -/
theorem k_newq {idx n len : Nat} {x : Int32} (hc : q_ok w cx own cc nL ret rm) (hop : w.2.2.2.2.2.1 = none) (hcl : Cond.classLink own idx RX9 ∈ q_big) (hkd : q_KD n = .inr (len, true)) (hn : (q_St t).1 = n) (hfr : q_frb t n = true) (hx : ¬ x < 0) (hxl : x.toNatClampNeg = len) (hbytes : len * 4 ≤ 536870912) (hev : q_evs[t]? = some (0, n, 0, 0, 0)) (ht : t + 1 = t2) (hcells : cells + 1 = c2) (hslots : slots + len = s2) (hrm : c2 ≤ rm.cells ∧ s2 ≤ rm.slots)
    (hd : decode cc pc = .ok (.anewarray idx, 3)) (hp : pc + 3 = pc2) (kk : q_J w cx nL c2 s2 Q pc2 L (q_rf w n :: st) (q_St t2)) : q_J w cx nL cells slots Q pc L (.int x :: st) (q_St t) := by
  subst hp hcells hslots hxl
  intro H locs ls hR hS hL
  have hK := hc.2.2.2.2.2.2.2.1.1
  have hrm' : cells + 1 ≤ cx.2.2.2.1.cells ∧ slots + x.toNatClampNeg ≤ cx.2.2.2.1.slots := by rw [hc.2.2.2.2.2.2.2.2.1]; exact hrm
  obtain ⟨f1, f2⟩ := q_St_fr hfr
  have e0 : q_St t2 = ((q_St t).1 + 1, (q_St t).2.1, (q_St t).2.2.1, (q_St t).2.2.2) := q_St_s hev ht
  refine W.anew hc.1 hc.2.1 hc.2.2.2.1 (hc.2.2.2.2.1 _ hcl) (va_AO.use hc.2.2.2.2.2.2.2.1.2.2.1) rfl hd rfl hx hbytes hrm'.1 hrm'.2 fun cA kA comp g1 g2 g3 g4 => ?_
  have hcA : cA = (w.2.1 1) := by
    obtain ⟨kA2, comp2, a1, a2, a3, a4⟩ := (hK.2 1 _ rfl).2
    exact Option.some.inj (g1.symm.trans a4)
  subst hcA
  generalize hH1 : H.push _ = H1
  have z1 : H1.size = H.size + 1 := by rw [← hH1, Array.size_push]
  have e1 : H1[H.size]? = some (arrV (w.2.1 1) x.toNatClampNeg (fun _ => .null)) := by rw [← hH1, Array.getElem?_push_size, ← arrV_new]
  have o1 : ∀ q : Nat, q < H.size → H1[q]? = H[q]? := fun q hq => by rw [← hH1, Array.getElem?_push, if_neg (Nat.ne_of_lt hq)]
  have hH : H.size = w.2.2.1 + n := by rw [q_sz_op hR.1 hop, hn]
  have eg : (F0 cx.2.2.2.2.2.1 (pc + 3) ls (.ref H.size :: st)) = F0 cx.2.2.2.2.2.1 (pc + 3) ls (q_rf w n :: st) := by rw [hH]; rfl
  refine W.eq eg ?_
  refine kk H1 locs ls (hR.push hop z1 o1 (by rw [e0]) ?_ (fun j _ => by rw [e0])) ⟨Nat.le_trans hS.1 (by omega), fun q a b => (o1 q (Nat.lt_of_lt_of_le a hS.1)).trans (hS.2.1 q a b), hS.2.2⟩ hL
  rw [e0, hn]
  show va_at _ _ (w.2.2.1 + n, q_ent w (q_St t).2.1 (q_St t).2.2.1 (q_St t).2.2.2 n) H1
  rw [q_ent_q (S := q_St t) (by rw [q_St_kd]; exact hkd)]
  show H1[w.2.2.1 + n]? = some (vp_cell _ _)
  rw [← hH, e1, vp_cell_q, f2]
  have hz : q_z0 n = -1 := by simp [q_z0, hkd]
  congr 2
  funext j
  rw [hz]
  rfl
theorem k_obj {idx o : Nat} (hc : q_ok w cx own cc nL ret rm) (hl : Cond.methodLink own idx Lib.objectInit ∈ q_big) (hw : Cond.instanceMethod Lib.objectInit ∈ q_big ∧ Cond.code Lib.objectInit ⟨#[0xb1]⟩ 1 none ∈ q_big) (hrm : 1 ≤ rm.frames ∧ 20 ≤ rm.locals) (hst : (st.map fun v => v.category).sum ≤ 8) (hd : decode cc pc = .ok (.invokespecial idx, 3)) (hp : pc + 3 = pc2) (kk : q_J w cx nL cells slots Q pc2 L st S) : q_J w cx nL cells slots Q pc L (q_rf w o :: st) S := by
  subst hp
  intro H locs ls hR hS hL
  have hts := hc.2.2.2.2.1
  have hrm' : 1 ≤ cx.2.2.2.1.frames ∧ 20 ≤ cx.2.2.2.1.locals := by rw [hc.2.2.2.2.2.2.2.2.1]; exact hrm
  exact W.objInit hc.1 hc.2.1 hc.2.2.2.1 (hts _ hl) (hts _ hw.1) (hts _ hw.2) rfl (by rw [hc.2.2.1]; exact hL.1) rfl hd hrm'.1 (by show 2 * 0 + _ + 12 ≤ _; have := hrm'.2; omega) (kk H locs ls hR hS hL)
theorem j_max {idx : Nat} {x y : Int32} (hc : q_ok w cx own cc nL ret rm) (hw : Cond.methodLink own idx Lib.Math.max.name ∈ q_big) (hrm : 1 ≤ rm.frames ∧ 21 ≤ rm.locals) (hcs : cells ≤ rm.cells ∧ slots ≤ rm.slots) (hst : (st.map fun v => v.category).sum ≤ 8) (hd : decode cc pc = .ok (.invokestatic idx, 3)) (hp : pc + 3 = pc2) (k2 : q_J w cx nL cells slots Q pc2 L (.int (q_mx x y) :: st) S) : q_J w cx nL cells slots Q pc L (.int y :: .int x :: st) S := by
  subst hp
  intro H locs ls hR hS hL
  have hrm' : (1 ≤ cx.2.2.2.1.frames ∧ 21 ≤ cx.2.2.2.1.locals) ∧ cells ≤ cx.2.2.2.1.cells ∧ slots ≤ cx.2.2.2.1.slots := by rw [hc.2.2.2.2.2.2.2.2.1]; exact ⟨hrm, hcs⟩
  exact va_mmax hc.1 hc.2.1 (by rw [hc.2.2.1]; exact hL.1.symm) hc.2.2.2.1 (hc.2.2.2.2.1 _ hw) (hc.2.2.2.2.1 _ q_w_max.1) (hc.2.2.2.2.1 _ q_w_max.2.1) (hc.2.2.2.2.1 _ q_w_max.2.2) hrm'.1.1 (by have := hrm'.1.2; omega) hrm'.2.1 hrm'.2.2 hd (k2 H locs ls hR hS hL)
theorem j_min {idx : Nat} {x y : Int32} (hc : q_ok w cx own cc nL ret rm) (hw : Cond.methodLink own idx Lib.Math.min.name ∈ q_big) (hrm : 1 ≤ rm.frames ∧ 21 ≤ rm.locals) (hcs : cells ≤ rm.cells ∧ slots ≤ rm.slots) (hst : (st.map fun v => v.category).sum ≤ 8) (hd : decode cc pc = .ok (.invokestatic idx, 3)) (hp : pc + 3 = pc2) (k2 : q_J w cx nL cells slots Q pc2 L (.int (q_mn x y) :: st) S) : q_J w cx nL cells slots Q pc L (.int y :: .int x :: st) S := by
  subst hp
  intro H locs ls hR hS hL
  have hrm' : (1 ≤ cx.2.2.2.1.frames ∧ 21 ≤ cx.2.2.2.1.locals) ∧ cells ≤ cx.2.2.2.1.cells ∧ slots ≤ cx.2.2.2.1.slots := by rw [hc.2.2.2.2.2.2.2.2.1]; exact ⟨hrm, hcs⟩
  exact va_mmin hc.1 hc.2.1 (by rw [hc.2.2.1]; exact hL.1.symm) hc.2.2.2.1 (hc.2.2.2.2.1 _ hw) (hc.2.2.2.2.1 _ q_w_min.1) (hc.2.2.2.2.1 _ q_w_min.2.1) (hc.2.2.2.2.1 _ q_w_min.2.2) hrm'.1.1 (by have := hrm'.1.2; omega) hrm'.2.1 hrm'.2.2 hd (k2 H locs ls hR hS hL)
/-- a constructor's call; of its own package's link, or of a nest mate's -/
theorem k_init {idx o n mc ms nLy f1 l1 : Nat} {y : MethodName} {ccy : ByteArray} {As stack : List Value} {r2 : Int32} (hc : q_ok w cx own cc nL ret rm) (hM : q_M cx.2.1 w y ccy nLy none { frames := f1, cells := mc, slots := ms, locals := l1 } mc ms (q_rf w o :: As) (q_St t) r2 (q_St t2)) (hmv : q_my y ccy nLy none n ∧ Cond.instanceMethod y ∈ q_big) (hy1 : y.name = "<init>") (hlk : Cond.methodLink own idx y ∈ q_big)
    (hst : stack = As.reverse ++ q_rf w o :: st) (hn : As.length = n) (hrm : f1 + 1 ≤ rm.frames ∧ 8 + (nLy + 11) + l1 ≤ rm.locals) (hcells : cells + mc = c2) (hslots : slots + ms = s2) (hms : c2 ≤ rm.cells ∧ s2 ≤ rm.slots) (hcat : (st.map fun v => v.category).sum ≤ 8) (hd : decode cc pc = .ok (.invokespecial idx, 3)) (hp : pc + 3 = pc2)
    (kk : q_J w cx nL c2 s2 Q pc2 L st (q_St t2)) : q_J w cx nL cells slots Q pc L stack (q_St t) := by
  subst hp hst hcells hslots
  intro H locs ls hR hS hL
  obtain ⟨⟨hy, hini, hcode⟩, hins⟩ := hmv
  obtain ⟨hx, hb, hml, hown, hts, hret, hlocks, hK, hrmE, hbase⟩ := hc
  rw [← hrmE] at hrm hms
  have hPre : PreS cx.2.2.2.2.1 H (va_Pc (q_rf w o :: As) (fun U => q_K w U ∧ q_R w (q_St t) U.heap)) (.ref (w.2.2.1 + o) :: As) :=
    ⟨q_blind, fun U hU hW => ⟨rfl, hK.go hW (fun a h1 h2 => by rw [hU]; exact hS.2.1 a h1 h2), by rw [hU]; exact hR⟩⟩
  exact q_after (va_runI (own := own) (ws := .code y ccy nLy none :: q_big) ⟨hx, hb, hml, hown, hts⟩ hM (cwI n hts (q_goodIn (fun x hx => by
      rcases List.mem_cons.mp hx with rfl | h
      · exact hcode
      · exact h)) rfl rfl rfl (hts _ hini) (hts _ hlk) (hts _ hins) hy1 hy hrm) hPre rfl hn hL.1 rfl (lv_room hcat) hd hms) hS (fun H1 locs1 hR1 hS1 => kk H1 locs1 ls hR1 hS1 hL)
theorem k_initN {idx o n mc ms nLy f1 l1 : Nat} {y : MethodName} {host : String} {ccy : ByteArray} {As stack : List Value} {r2 : Int32} (hc : q_ok w cx own cc nL ret rm) (hM : q_M cx.2.1 w y ccy nLy none { frames := f1, cells := mc, slots := ms, locals := l1 } mc ms (q_rf w o :: As) (q_St t) r2 (q_St t2)) (hmv : q_my y ccy nLy none n ∧ Cond.instanceMethod y ∈ q_big) (hy1 : y.name = "<init>") (hlk : (own, idx, y, host) ∈ q_nests)
    (hst : stack = As.reverse ++ q_rf w o :: st) (hn : As.length = n) (hrm : f1 + 1 ≤ rm.frames ∧ 8 + (nLy + 11) + l1 ≤ rm.locals) (hcells : cells + mc = c2) (hslots : slots + ms = s2) (hms : c2 ≤ rm.cells ∧ s2 ≤ rm.slots) (hcat : (st.map fun v => v.category).sum ≤ 8) (hd : decode cc pc = .ok (.invokespecial idx, 3)) (hp : pc + 3 = pc2)
    (kk : q_J w cx nL c2 s2 Q pc2 L st (q_St t2)) : q_J w cx nL cells slots Q pc L stack (q_St t) := by
  subst hp hst hcells hslots
  intro H locs ls hR hS hL
  obtain ⟨⟨hy, hini, hcode⟩, hins⟩ := hmv
  obtain ⟨hx, hb, hml, hown, hts, hret, hlocks, hK, hrmE, hbase⟩ := hc
  rw [← hrmE] at hrm hms
  have hPre : PreS cx.2.2.2.2.1 H (va_Pc (q_rf w o :: As) (fun U => q_K w U ∧ q_R w (q_St t) U.heap)) (.ref (w.2.2.1 + o) :: As) :=
    ⟨q_blind, fun U hU hW => ⟨rfl, hK.go hW (fun a h1 h2 => by rw [hU]; exact hS.2.1 a h1 h2), by rw [hU]; exact hR⟩⟩
  exact q_after (va_runIN (own := own) (host := host) (ws := .code y ccy nLy none :: q_big) ⟨hx, hb, hml, hown, hts⟩ hM ⟨va_cnB n hts (q_goodIn (fun x hx => by
      rcases List.mem_cons.mp hx with rfl | h
      · exact hcode
      · exact h)) rfl rfl rfl (hK.2.1 _ hlk) (hts _ hini) hy hrm, hy1, hts _ hins⟩ hPre rfl hn hL.1 rfl (lv_room hcat) hd hms) hS (fun H1 locs1 hR1 hS1 => kk H1 locs1 ls hR1 hS1 hL)
end QK

theorem q_lt {a b n : Nat} (h : a = n) (h2 : b < n) : b < a := by omega
theorem k_rl {w : q_Wd} {cx : q_Cx} {own : String} {cc : ByteArray} {nL cells slots : Nat} {ret : Option FieldType} {rm : Room} {Q : State → Prop} {pc pc2 o : Nat} {L : List (Option Value)} {st : List Value} {S : q_Sg} {k : Fin 4} (hc : q_ok w cx own cc nL ret rm) (hd : decode cc pc = .ok (.aload_n k, 1)) (hl : q_nth L k.val = some (q_rf w o)) (hp : pc + 1 = pc2) (kk : q_J w cx nL cells slots Q pc2 L (q_rf w o :: st) S) : q_J w cx nL cells slots Q pc L st S := j_aload_n hc hd hl hp kk
theorem nw_L_28 : Cond.classLink RL 28 RX11 ∈ q_big ∧ Cond.instantiable RX11 (q_nF 11) ∈ q_big ∧ Cond.initialized RX11 ∈ q_big := ⟨q_bm 58 (by decide +kernel) (by decide +kernel), q_bm 59 (by decide +kernel) (by decide +kernel), q_bm 33 (by decide +kernel) (by decide +kernel)⟩
theorem nw_X11_9 : Cond.classLink RX11 9 RX10 ∈ q_big ∧ Cond.instantiable RX10 (q_nF 10) ∈ q_big ∧ Cond.initialized RX10 ∈ q_big := ⟨q_bm 66 (by decide +kernel) (by decide +kernel), q_bm 67 (by decide +kernel) (by decide +kernel), q_bm 34 (by decide +kernel) (by decide +kernel)⟩
theorem nw_X10_9 : Cond.classLink RX10 9 RX9 ∈ q_big ∧ Cond.instantiable RX9 (q_nF 9) ∈ q_big ∧ Cond.initialized RX9 ∈ q_big := ⟨q_bm 72 (by decide +kernel) (by decide +kernel), q_bm 73 (by decide +kernel) (by decide +kernel), q_bm 35 (by decide +kernel) (by decide +kernel)⟩
theorem nw_X10_18 : Cond.classLink RX10 18 RX2 ∈ q_big ∧ Cond.instantiable RX2 (q_nF 2) ∈ q_big ∧ Cond.initialized RX2 ∈ q_big := ⟨q_bm 174 (by decide +kernel) (by decide +kernel), q_bm 175 (by decide +kernel) (by decide +kernel), q_bm 37 (by decide +kernel) (by decide +kernel)⟩
theorem nw_X10_25 : Cond.classLink RX10 25 RX6 ∈ q_big ∧ Cond.instantiable RX6 (q_nF 6) ∈ q_big ∧ Cond.initialized RX6 ∈ q_big := ⟨q_bm 209 (by decide +kernel) (by decide +kernel), q_bm 210 (by decide +kernel) (by decide +kernel), q_bm 38 (by decide +kernel) (by decide +kernel)⟩
theorem nw_X11_23 : Cond.classLink RX11 23 RX1 ∈ q_big ∧ Cond.instantiable RX1 (q_nF 1) ∈ q_big ∧ Cond.initialized RX1 ∈ q_big := ⟨q_bm 270 (by decide +kernel) (by decide +kernel), q_bm 271 (by decide +kernel) (by decide +kernel), q_bm 40 (by decide +kernel) (by decide +kernel)⟩
theorem nw_X1_9 : Cond.classLink RX1 9 RX9 ∈ q_big ∧ Cond.instantiable RX9 (q_nF 9) ∈ q_big ∧ Cond.initialized RX9 ∈ q_big := ⟨q_bm 276 (by decide +kernel) (by decide +kernel), q_bm 73 (by decide +kernel) (by decide +kernel), q_bm 35 (by decide +kernel) (by decide +kernel)⟩
theorem nw_X11_30 : Cond.classLink RX11 30 RX9 ∈ q_big ∧ Cond.instantiable RX9 (q_nF 9) ∈ q_big ∧ Cond.initialized RX9 ∈ q_big := ⟨q_bm 287 (by decide +kernel) (by decide +kernel), q_bm 73 (by decide +kernel) (by decide +kernel), q_bm 35 (by decide +kernel) (by decide +kernel)⟩
theorem nw_X11_37 : Cond.classLink RX11 37 RX0 ∈ q_big ∧ Cond.instantiable RX0 (q_nF 0) ∈ q_big ∧ Cond.initialized RX0 ∈ q_big := ⟨q_bm 289 (by decide +kernel) (by decide +kernel), q_bm 290 (by decide +kernel) (by decide +kernel), q_bm 41 (by decide +kernel) (by decide +kernel)⟩
theorem nw_X11_44 : Cond.classLink RX11 44 RX5 ∈ q_big ∧ Cond.instantiable RX5 (q_nF 5) ∈ q_big ∧ Cond.initialized RX5 ∈ q_big := ⟨q_bm 324 (by decide +kernel) (by decide +kernel), q_bm 325 (by decide +kernel) (by decide +kernel), q_bm 42 (by decide +kernel) (by decide +kernel)⟩
theorem nw_X11_51 : Cond.classLink RX11 51 RX4 ∈ q_big ∧ Cond.instantiable RX4 (q_nF 4) ∈ q_big ∧ Cond.initialized RX4 ∈ q_big := ⟨q_bm 337 (by decide +kernel) (by decide +kernel), q_bm 338 (by decide +kernel) (by decide +kernel), q_bm 43 (by decide +kernel) (by decide +kernel)⟩
theorem nw_X11_58 : Cond.classLink RX11 58 RX8 ∈ q_big ∧ Cond.instantiable RX8 (q_nF 8) ∈ q_big ∧ Cond.initialized RX8 ∈ q_big := ⟨q_bm 362 (by decide +kernel) (by decide +kernel), q_bm 363 (by decide +kernel) (by decide +kernel), q_bm 44 (by decide +kernel) (by decide +kernel)⟩
theorem nw_X11_65 : Cond.classLink RX11 65 RX3 ∈ q_big ∧ Cond.instantiable RX3 (q_nF 3) ∈ q_big ∧ Cond.initialized RX3 ∈ q_big := ⟨q_bm 395 (by decide +kernel) (by decide +kernel), q_bm 396 (by decide +kernel) (by decide +kernel), q_bm 45 (by decide +kernel) (by decide +kernel)⟩
theorem nw_X3_9 : Cond.classLink RX3 9 RX2 ∈ q_big ∧ Cond.instantiable RX2 (q_nF 2) ∈ q_big ∧ Cond.initialized RX2 ∈ q_big := ⟨q_bm 401 (by decide +kernel) (by decide +kernel), q_bm 175 (by decide +kernel) (by decide +kernel), q_bm 37 (by decide +kernel) (by decide +kernel)⟩
theorem nw_X11_74 : Cond.classLink RX11 74 RX7 ∈ q_big ∧ Cond.instantiable RX7 (q_nF 7) ∈ q_big ∧ Cond.initialized RX7 ∈ q_big := ⟨q_bm 432 (by decide +kernel) (by decide +kernel), q_bm 433 (by decide +kernel) (by decide +kernel), q_bm 46 (by decide +kernel) (by decide +kernel)⟩
theorem nw_X7_9 : Cond.classLink RX7 9 RX6 ∈ q_big ∧ Cond.instantiable RX6 (q_nF 6) ∈ q_big ∧ Cond.initialized RX6 ∈ q_big := ⟨q_bm 438 (by decide +kernel) (by decide +kernel), q_bm 210 (by decide +kernel) (by decide +kernel), q_bm 38 (by decide +kernel) (by decide +kernel)⟩
theorem nw_X12_8 : Cond.classLink RX12 8 RX12 ∈ q_big ∧ Cond.instantiable RX12 (q_nF 12) ∈ q_big ∧ Cond.initialized RX12 ∈ q_big := ⟨q_bm 760 (by decide +kernel) (by decide +kernel), q_bm 761 (by decide +kernel) (by decide +kernel), q_bm 47 (by decide +kernel) (by decide +kernel)⟩
theorem nw_L_38 : Cond.classLink RL 38 RX12 ∈ q_big ∧ Cond.instantiable RX12 (q_nF 12) ∈ q_big ∧ Cond.initialized RX12 ∈ q_big := ⟨q_bm 1475 (by decide +kernel) (by decide +kernel), q_bm 761 (by decide +kernel) (by decide +kernel), q_bm 47 (by decide +kernel) (by decide +kernel)⟩
theorem nw_q : Cond.classLink RX1 9 RX9 ∈ q_big := q_bm 276 (by decide +kernel) (by decide +kernel)
theorem nw_arr : Cond.arrayClass .int ∈ q_big := q_bm 173 (by decide +kernel) (by decide +kernel)
theorem ob_w : Cond.instanceMethod Lib.objectInit ∈ q_big ∧ Cond.code Lib.objectInit ⟨#[0xb1]⟩ 1 none ∈ q_big := ⟨q_bm 64 (by decide +kernel) (by decide +kernel), q_bm 65 (by decide +kernel) (by decide +kernel)⟩
theorem ln_L_178 : Cond.methodLink RL 178 yX11_init ∈ q_big := q_bm 60 (by decide +kernel) (by decide +kernel)
theorem ob_X11_3 : Cond.methodLink RX11 3 Lib.objectInit ∈ q_big := q_bm 63 (by decide +kernel) (by decide +kernel)
theorem ob_X10_3 : Cond.methodLink RX10 3 Lib.objectInit ∈ q_big := q_bm 71 (by decide +kernel) (by decide +kernel)
theorem ln_X10_11 : Cond.methodLink RX10 11 yX9_init ∈ q_big := q_bm 74 (by decide +kernel) (by decide +kernel)
theorem ob_X9_3 : Cond.methodLink RX9 3 Lib.objectInit ∈ q_big := q_bm 77 (by decide +kernel) (by decide +kernel)
theorem ob_X2_3 : Cond.methodLink RX2 3 Lib.objectInit ∈ q_big := q_bm 179 (by decide +kernel) (by decide +kernel)
theorem ln_X10_27 : Cond.methodLink RX10 27 yX6_init ∈ q_big := q_bm 211 (by decide +kernel) (by decide +kernel)
theorem ob_X6_3 : Cond.methodLink RX6 3 Lib.objectInit ∈ q_big := q_bm 214 (by decide +kernel) (by decide +kernel)
theorem ln_X11_25 : Cond.methodLink RX11 25 yX1_init ∈ q_big := q_bm 272 (by decide +kernel) (by decide +kernel)
theorem ob_X1_3 : Cond.methodLink RX1 3 Lib.objectInit ∈ q_big := q_bm 275 (by decide +kernel) (by decide +kernel)
theorem ln_X1_21 : Cond.methodLink RX1 21 yX9_init ∈ q_big := q_bm 278 (by decide +kernel) (by decide +kernel)
theorem ln_X11_32 : Cond.methodLink RX11 32 yX9_init ∈ q_big := q_bm 288 (by decide +kernel) (by decide +kernel)
theorem ob_X0_3 : Cond.methodLink RX0 3 Lib.objectInit ∈ q_big := q_bm 294 (by decide +kernel) (by decide +kernel)
theorem ob_X5_3 : Cond.methodLink RX5 3 Lib.objectInit ∈ q_big := q_bm 329 (by decide +kernel) (by decide +kernel)
theorem ob_X4_3 : Cond.methodLink RX4 3 Lib.objectInit ∈ q_big := q_bm 342 (by decide +kernel) (by decide +kernel)
theorem ob_X8_3 : Cond.methodLink RX8 3 Lib.objectInit ∈ q_big := q_bm 367 (by decide +kernel) (by decide +kernel)
theorem ln_X11_67 : Cond.methodLink RX11 67 yX3_init ∈ q_big := q_bm 397 (by decide +kernel) (by decide +kernel)
theorem ob_X3_3 : Cond.methodLink RX3 3 Lib.objectInit ∈ q_big := q_bm 400 (by decide +kernel) (by decide +kernel)
theorem ln_X11_76 : Cond.methodLink RX11 76 yX7_init ∈ q_big := q_bm 434 (by decide +kernel) (by decide +kernel)
theorem ob_X7_3 : Cond.methodLink RX7 3 Lib.objectInit ∈ q_big := q_bm 437 (by decide +kernel) (by decide +kernel)
theorem ln_X7_11 : Cond.methodLink RX7 11 yX6_init ∈ q_big := q_bm 439 (by decide +kernel) (by decide +kernel)
theorem ln_X12_31 : Cond.methodLink RX12 31 yX12_init ∈ q_big := q_bm 762 (by decide +kernel) (by decide +kernel)
theorem ob_X12_1 : Cond.methodLink RX12 1 Lib.objectInit ∈ q_big := q_bm 765 (by decide +kernel) (by decide +kernel)
theorem df_0 : ∀ k, k < q_nF 0 → defaultValue (tyX0 k) = if q_isR 0 k = true then .null else .int 0 := by decide +kernel
theorem df_1 : ∀ k, k < q_nF 1 → defaultValue (tyX1 k) = if q_isR 1 k = true then .null else .int 0 := by decide +kernel
theorem df_2 : ∀ k, k < q_nF 2 → defaultValue (tyX2 k) = if q_isR 2 k = true then .null else .int 0 := by decide +kernel
theorem df_3 : ∀ k, k < q_nF 3 → defaultValue (tyX3 k) = if q_isR 3 k = true then .null else .int 0 := by decide +kernel
theorem df_4 : ∀ k, k < q_nF 4 → defaultValue (tyX4 k) = if q_isR 4 k = true then .null else .int 0 := by decide +kernel
theorem df_5 : ∀ k, k < q_nF 5 → defaultValue (tyX5 k) = if q_isR 5 k = true then .null else .int 0 := by decide +kernel
theorem df_6 : ∀ k, k < q_nF 6 → defaultValue (tyX6 k) = if q_isR 6 k = true then .null else .int 0 := by decide +kernel
theorem df_7 : ∀ k, k < q_nF 7 → defaultValue (tyX7 k) = if q_isR 7 k = true then .null else .int 0 := by decide +kernel
theorem df_8 : ∀ k, k < q_nF 8 → defaultValue (tyX8 k) = if q_isR 8 k = true then .null else .int 0 := by decide +kernel
theorem df_9 : ∀ k, k < q_nF 9 → defaultValue (tyX9 k) = if q_isR 9 k = true then .null else .int 0 := by decide +kernel
theorem df_10 : ∀ k, k < q_nF 10 → defaultValue (tyX10 k) = if q_isR 10 k = true then .null else .int 0 := by decide +kernel
theorem df_11 : ∀ k, k < q_nF 11 → defaultValue (tyX11 k) = if q_isR 11 k = true then .null else .int 0 := by decide +kernel
theorem df_12 : ∀ k, k < q_nF 12 → defaultValue (tyX12 k) = if q_isR 12 k = true then .null else .int 0 := by decide +kernel
theorem mi_X0_init : q_my yX0_init cX0_init 1 none 0 ∧ Cond.instanceMethod yX0_init ∈ q_big := ⟨⟨⟨(by decide +kernel), (by decide +kernel), (by decide +kernel)⟩, q_bm 41 (by decide +kernel) (by decide +kernel), q_bm 293 (by decide +kernel) (by decide +kernel)⟩, q_bm 292 (by decide +kernel) (by decide +kernel)⟩
theorem mi_X10_init : q_my yX10_init cX10_init 1 none 0 ∧ Cond.instanceMethod yX10_init ∈ q_big := ⟨⟨⟨(by decide +kernel), (by decide +kernel), (by decide +kernel)⟩, q_bm 34 (by decide +kernel) (by decide +kernel), q_bm 70 (by decide +kernel) (by decide +kernel)⟩, q_bm 69 (by decide +kernel) (by decide +kernel)⟩
theorem mi_X11_init : q_my yX11_init cX11_init 1 none 0 ∧ Cond.instanceMethod yX11_init ∈ q_big := ⟨⟨⟨(by decide +kernel), (by decide +kernel), (by decide +kernel)⟩, q_bm 33 (by decide +kernel) (by decide +kernel), q_bm 62 (by decide +kernel) (by decide +kernel)⟩, q_bm 61 (by decide +kernel) (by decide +kernel)⟩
theorem mi_X12_init : q_my yX12_init cX12_init 1 none 0 ∧ Cond.instanceMethod yX12_init ∈ q_big := ⟨⟨⟨(by decide +kernel), (by decide +kernel), (by decide +kernel)⟩, q_bm 47 (by decide +kernel) (by decide +kernel), q_bm 764 (by decide +kernel) (by decide +kernel)⟩, q_bm 763 (by decide +kernel) (by decide +kernel)⟩
theorem mi_X1_init : q_my yX1_init cX1_init 2 none 0 ∧ Cond.instanceMethod yX1_init ∈ q_big := ⟨⟨⟨(by decide +kernel), (by decide +kernel), (by decide +kernel)⟩, q_bm 40 (by decide +kernel) (by decide +kernel), q_bm 274 (by decide +kernel) (by decide +kernel)⟩, q_bm 273 (by decide +kernel) (by decide +kernel)⟩
theorem mi_X2_init : q_my yX2_init cX2_init 1 none 0 ∧ Cond.instanceMethod yX2_init ∈ q_big := ⟨⟨⟨(by decide +kernel), (by decide +kernel), (by decide +kernel)⟩, q_bm 37 (by decide +kernel) (by decide +kernel), q_bm 178 (by decide +kernel) (by decide +kernel)⟩, q_bm 177 (by decide +kernel) (by decide +kernel)⟩
theorem mi_X3_init : q_my yX3_init cX3_init 2 none 1 ∧ Cond.instanceMethod yX3_init ∈ q_big := ⟨⟨⟨(by decide +kernel), (by decide +kernel), (by decide +kernel)⟩, q_bm 45 (by decide +kernel) (by decide +kernel), q_bm 399 (by decide +kernel) (by decide +kernel)⟩, q_bm 398 (by decide +kernel) (by decide +kernel)⟩
theorem mi_X4_init : q_my yX4_init cX4_init 1 none 0 ∧ Cond.instanceMethod yX4_init ∈ q_big := ⟨⟨⟨(by decide +kernel), (by decide +kernel), (by decide +kernel)⟩, q_bm 43 (by decide +kernel) (by decide +kernel), q_bm 341 (by decide +kernel) (by decide +kernel)⟩, q_bm 340 (by decide +kernel) (by decide +kernel)⟩
theorem mi_X5_init : q_my yX5_init cX5_init 1 none 0 ∧ Cond.instanceMethod yX5_init ∈ q_big := ⟨⟨⟨(by decide +kernel), (by decide +kernel), (by decide +kernel)⟩, q_bm 42 (by decide +kernel) (by decide +kernel), q_bm 328 (by decide +kernel) (by decide +kernel)⟩, q_bm 327 (by decide +kernel) (by decide +kernel)⟩
theorem mi_X6_init : q_my yX6_init cX6_init 2 none 1 ∧ Cond.instanceMethod yX6_init ∈ q_big := ⟨⟨⟨(by decide +kernel), (by decide +kernel), (by decide +kernel)⟩, q_bm 38 (by decide +kernel) (by decide +kernel), q_bm 213 (by decide +kernel) (by decide +kernel)⟩, q_bm 212 (by decide +kernel) (by decide +kernel)⟩
theorem mi_X7_init : q_my yX7_init cX7_init 2 none 1 ∧ Cond.instanceMethod yX7_init ∈ q_big := ⟨⟨⟨(by decide +kernel), (by decide +kernel), (by decide +kernel)⟩, q_bm 46 (by decide +kernel) (by decide +kernel), q_bm 436 (by decide +kernel) (by decide +kernel)⟩, q_bm 435 (by decide +kernel) (by decide +kernel)⟩
theorem mi_X8_init : q_my yX8_init cX8_init 1 none 0 ∧ Cond.instanceMethod yX8_init ∈ q_big := ⟨⟨⟨(by decide +kernel), (by decide +kernel), (by decide +kernel)⟩, q_bm 44 (by decide +kernel) (by decide +kernel), q_bm 366 (by decide +kernel) (by decide +kernel)⟩, q_bm 365 (by decide +kernel) (by decide +kernel)⟩
theorem mi_X9_init : q_my yX9_init cX9_init 1 none 0 ∧ Cond.instanceMethod yX9_init ∈ q_big := ⟨⟨⟨(by decide +kernel), (by decide +kernel), (by decide +kernel)⟩, q_bm 35 (by decide +kernel) (by decide +kernel), q_bm 76 (by decide +kernel) (by decide +kernel)⟩, q_bm 75 (by decide +kernel) (by decide +kernel)⟩
-- Arrays.fill, in any world
set_option maxRecDepth 100000 in
theorem M_fill_loop {w : q_Wd} {cx : q_Cx} {S : q_Sg} {a len : Nat} {v : Int32} (hc : q_ok w cx RJ7 cJ7_fill_53178 4 none (q_rm 0 0)) (hkd : S.2.1 a = .inr (len, false)) (ho : a < S.1) (hl : len < 2 ^ 31) : ∀ (k i : Nat), i + k = len → q_J w cx 4 0 0 (q_Q w cx 0 0 none 0 (S.1, S.2.1, S.2.2.1, q_fil S.2.2.2 a len v)) 5 [some (q_rf w a), some (.int v), some (.int (Int32.ofNat i)), some (.int (Int32.ofNat len))] [] (S.1, S.2.1, S.2.2.1, q_fil S.2.2.2 a i v) := by
  intro k
  induction k with
  | zero =>
    intro i hi
    have hi : i = len := by omega
    subst hi
    refine j_iload_n (k := 2) hc dJ7_fill_53178_5 rfl (pc2 := 6) rfl ?_
    refine j_iload_n (k := 3) hc dJ7_fill_53178_6 rfl (pc2 := 7) rfl ?_
    refine j_icmp_ge hc dJ7_fill_53178_7 (pc1 := 10) (pc2 := 20) rfl rfl (fun z => absurd z (nI_nlt (Nat.le_refl _) hl)) (fun _ => ?_)
    exact j_vret hc dJ7_fill_53178_20
  | succ k ih =>
    intro i hi
    have hlt : i < len := by omega
    refine j_iload_n (k := 2) hc dJ7_fill_53178_5 rfl (pc2 := 6) rfl ?_
    refine j_iload_n (k := 3) hc dJ7_fill_53178_6 rfl (pc2 := 7) rfl ?_
    refine j_icmp_ge hc dJ7_fill_53178_7 (pc1 := 10) (pc2 := 20) rfl rfl (fun _ => ?_) (fun z => absurd (nI_lt hlt hl) z)
    refine k_rl (k := 0) hc dJ7_fill_53178_10 rfl (pc2 := 11) rfl ?_
    refine j_iload_n (k := 2) hc dJ7_fill_53178_11 rfl (pc2 := 12) rfl ?_
    refine j_iload_n (k := 1) hc dJ7_fill_53178_12 rfl (pc2 := 13) rfl ?_
    have e1 : (Int32.ofNat i).toNatClampNeg = i := nI_clamp (Nat.lt_trans hlt hl)
    have e2 : (Int32.ofNat i).toInt = i := nI_toInt (Nat.lt_trans hlt hl)
    refine j_iast (len := len) hc hkd ho ⟨by rw [e2]; omega, by rw [e2]; omega⟩ dJ7_fill_53178_13 (pc2 := 14) rfl ?_
    refine j_iinc (v := Int32.ofNat (i + 1)) hc dJ7_fill_53178_14 rfl (by rw [ic_1]; exact (nI_succ i).symm) (by decide) (L2 := [some (q_rf w a), some (.int v), some (.int (Int32.ofNat (i + 1))), some (.int (Int32.ofNat len))]) rfl (pc2 := 17) rfl ?_
    refine j_goto hc dJ7_fill_53178_17 (pc2 := 5) rfl ?_
    have e3 : q_up (q_fil S.2.2.2 a i v) a (Int32.ofNat i).toNatClampNeg v = q_fil S.2.2.2 a (i + 1) v := by
      rw [e1]
      funext o j
      simp only [q_up, q_fil]
      by_cases h1 : o = a
      · by_cases h2 : j = i
        · simp [h1, h2]
        · by_cases h3 : j < i
          · simp [h1, h2, h3, Nat.lt_succ_of_lt h3]
          · simp [h1, h2, h3, show ¬ j < i + 1 by omega]
      · simp [h1]
    have h9 := ih (i + 1) (by omega)
    rw [← e3] at h9
    exact h9
set_option maxRecDepth 100000 in
theorem M_fill {l : Launch} {w : q_Wd} {S : q_Sg} {a len : Nat} {v : Int32} (hkd : S.2.1 a = .inr (len, false)) (ho : a < S.1) (hl : len < 2 ^ 31) : q_M l w yJ7_fill_53178 cJ7_fill_53178 4 none (q_rm 0 0) 0 0 [q_rf w a, .int v] S 0 (S.1, S.2.1, S.2.2.1, q_fil S.2.2.2 a len v) := q_MofJ [some (q_rf w a), some (.int v), none, none] (by decide +kernel) rfl rfl (Nat.le_of_ble_eq_true rfl) fun cx _ _ _ hc => by
  have hc : q_ok w cx RJ7 cJ7_fill_53178 4 none (q_rm 0 0) := hc
  refine j_iconst hc dJ7_fill_53178_0 ic_0 (pc2 := 1) rfl ?_
  refine j_istore_n (i := 2) hc dJ7_fill_53178_1 (by decide) (L2 := [some (q_rf w a), some (.int v), some (.int 0), none]) rfl (pc2 := 2) rfl ?_
  refine k_rl (k := 0) hc dJ7_fill_53178_2 rfl (pc2 := 3) rfl ?_
  refine j_alen hc hkd ho dJ7_fill_53178_3 (pc2 := 4) rfl ?_
  refine j_istore_n (i := 3) hc dJ7_fill_53178_4 (by decide) (L2 := [some (q_rf w a), some (.int v), some (.int 0), some (.int (Int32.ofNat len))]) rfl (pc2 := 5) rfl ?_
  have h9 := M_fill_loop (v := v) hc hkd ho hl len 0 (Nat.zero_add _)
  have e : q_fil S.2.2.2 a 0 v = S.2.2.2 := by funext o j; simp [q_fil]
  rw [e] at h9
  exact h9
theorem k_fill {w : q_Wd} {cx : q_Cx} {own : String} {cc : ByteArray} {nL cells slots idx a len t t2 : Nat} {ret : Option FieldType} {rm : Room} {Q : State → Prop} {pc pc2 : Nat} {L : List (Option Value)} {st : List Value} {v : Int32} (hc : q_ok w cx own cc nL ret rm) (hkd : q_KD a = .inr (len, false)) (ho : a < (q_St t).1) (hl : len < 2 ^ 31) (hev : q_evs[t]? = some (3, a, len, v, 0)) (ht : t + 1 = t2)
    (hlk : Cond.methodLink own idx yJ7_fill_53178 ∈ q_big) (hrm : 1 ≤ rm.frames ∧ 23 ≤ rm.locals) (hcs : cells ≤ rm.cells ∧ slots ≤ rm.slots) (hcat : (st.map fun v => v.category).sum ≤ 8) (hd : decode cc pc = .ok (.invokestatic idx, 3)) (hp : pc + 3 = pc2) (kk : q_J w cx nL cells slots Q pc2 L st (q_St t2)) : q_J w cx nL cells slots Q pc L (.int v :: q_rf w a :: st) (q_St t) := by
  rw [q_St_s hev ht] at kk
  exact j_callS (As := [q_rf w a, .int v]) hc (M_fill (by rw [q_St_kd]; exact hkd) ho hl) mv_J7_fill_53178 hlk rfl rfl ⟨rfl, rfl, by show 0 + 1 ≤ _; omega, by show 8 + (4 + 11) + 0 ≤ _; omega⟩ ⟨by omega, by omega⟩ hcat hd hp kk
