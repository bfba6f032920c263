/-! the world that the constructors make (by program, out of their code): 157 cells; the class is cell 0, the reference cell 157 -/
def q_ft : List (List Bool) := [[true, true, true, true, true, false, false, false, false], [true, false], [true, true, true, true, true, true, true, false, false], [true, true, true, false, false, false, false, false, false], [true, true, true, true, true, true], [true, true], [true, false, false], [true, true], [true, false, false, false, false, false, false, false], [true, true, true, true, true, true, true, true, false, false, false, false, false, false, false, false, false, false], [true, true, true, true, true, true, true, true, true], [true, true, false, true, true, true, true, true, true, true, true], [false, false, false, false, false, false, false, false, false, false, false, false, true, true, true, true, true, true], [true, false, false, false], [true, false, false, false]]
def q_N0 : Nat := 157
def q_KDl : List (Nat ⊕ (Nat × Bool)) := [.inl 11, .inl 10, .inl 9, .inr (12, false), .inr (12, false), .inr (12, false), .inr (12, false), .inr (5, false), .inr (5, false), .inr (5, false), .inr (60, false), .inl 2, .inr (16, false), .inr (16, false), .inr (16, false), .inr (16, false), .inr (400, false), .inr (400, false), .inr (400, false), .inl 6, .inr (64, false), .inl 6, .inr (64, false), .inl 6, .inr (64, false), .inl 6, .inr (64, false), .inl 6, .inr (64, false), .inr (600, false), .inr (10, false), .inl 10, .inl 9, .inr (12, false), .inr (12, false), .inr (12, false), .inr (12, false), .inr (5, false), .inr (5, false), .inr (5, false), .inr (60, false), .inl 2, .inr (16, false), .inr (16, false), .inr (16, false), .inr (16, false), .inr (400, false), .inr (400, false), .inr (400, false), .inl 6, .inr (64, false), .inl 6, .inr (64, false), .inl 6, .inr (64, false), .inl 6, .inr (64, false), .inl 6, .inr (64, false), .inr (600, false), .inr (10, false), .inl 1, .inr (6, true), .inl 9, .inr (12, false), .inr (12, false), .inr (12, false), .inr (12, false), .inr (5, false), .inr (5, false), .inr (5, false), .inr (60, false), .inl 9, .inr (12, false), .inr (12, false), .inr (12, false), .inr (12, false), .inr (5, false), .inr (5, false), .inr (5, false), .inr (60, false), .inl 9, .inr (12, false), .inr (12, false), .inr (12, false), .inr (12, false), .inr (5, false), .inr (5, false), .inr (5, false), .inr (60, false), .inl 9, .inr (12, false), .inr (12, false), .inr (12, false), .inr (12, false), .inr (5, false), .inr (5, false), .inr (5, false), .inr (60, false), .inl 9, .inr (12, false), .inr (12, false), .inr (12, false), .inr (12, false), .inr (5, false), .inr (5, false), .inr (5, false), .inr (60, false), .inl 9, .inr (12, false), .inr (12, false), .inr (12, false), .inr (12, false), .inr (5, false), .inr (5, false), .inr (5, false), .inr (60, false), .inl 9, .inr (12, false), .inr (12, false), .inr (12, false), .inr (12, false), .inr (5, false), .inr (5, false), .inr (5, false), .inr (60, false), .inl 0, .inr (12, false), .inr (12, false), .inr (720, false), .inr (144, false), .inr (5, false), .inl 5, .inr (100, false), .inr (10, false), .inl 4, .inr (256, false), .inr (256, false), .inr (4096, false), .inr (100, false), .inr (100, false), .inr (12, false), .inl 8, .inr (400, false), .inl 3, .inl 2, .inr (16, false), .inr (16, false), .inr (16, false), .inr (16, false), .inr (400, false), .inr (400, false), .inr (400, false), .inr (400, false), .inl 7, .inl 6, .inr (64, false)]
def q_KD (o : Nat) : Nat ⊕ (Nat × Bool) := q_KDl.getD o (.inr (0, false))
def q_RFl : List (List Nat) := [[1, 31, 0, 61, 117, 126, 132, 135, 142, 144, 154], [2, 11, 19, 21, 23, 25, 27, 29, 30], [3, 4, 5, 6, 7, 8, 9, 10, 0, 0, 0, 0, 0, 0, 0, 0, 0, 0], [], [], [], [], [], [], [], [], [12, 13, 14, 15, 16, 17, 18, 0, 0], [], [], [], [], [], [], [], [20, 0, 0], [], [22, 0, 0], [], [24, 0, 0], [], [26, 0, 0], [], [28, 0, 0], [], [], [], [32, 41, 49, 51, 53, 55, 57, 59, 60], [33, 34, 35, 36, 37, 38, 39, 40, 0, 0, 0, 0, 0, 0, 0, 0, 0, 0], [], [], [], [], [], [], [], [], [42, 43, 44, 45, 46, 47, 48, 0, 0], [], [], [], [], [], [], [], [50, 0, 0], [], [52, 0, 0], [], [54, 0, 0], [], [56, 0, 0], [], [58, 0, 0], [], [], [], [62, 0], [], [64, 65, 66, 67, 68, 69, 70, 71, 0, 0, 0, 0, 0, 0, 0, 0, 0, 0], [], [], [], [], [], [], [], [], [73, 74, 75, 76, 77, 78, 79, 80, 0, 0, 0, 0, 0, 0, 0, 0, 0, 0], [], [], [], [], [], [], [], [], [82, 83, 84, 85, 86, 87, 88, 89, 0, 0, 0, 0, 0, 0, 0, 0, 0, 0], [], [], [], [], [], [], [], [], [91, 92, 93, 94, 95, 96, 97, 98, 0, 0, 0, 0, 0, 0, 0, 0, 0, 0], [], [], [], [], [], [], [], [], [100, 101, 102, 103, 104, 105, 106, 107, 0, 0, 0, 0, 0, 0, 0, 0, 0, 0], [], [], [], [], [], [], [], [], [109, 110, 111, 112, 113, 114, 115, 116, 0, 0, 0, 0, 0, 0, 0, 0, 0, 0], [], [], [], [], [], [], [], [], [118, 119, 120, 121, 122, 123, 124, 125, 0, 0, 0, 0, 0, 0, 0, 0, 0, 0], [], [], [], [], [], [], [], [], [127, 128, 129, 130, 131, 0, 0, 0, 0], [], [], [], [], [], [133, 134], [], [], [136, 137, 138, 139, 140, 141], [], [], [], [], [], [], [143, 0, 0, 0, 0, 0, 0, 0], [], [142, 145, 153, 0, 0, 0, 0, 0, 0], [146, 147, 148, 149, 150, 151, 152, 0, 0], [], [], [], [], [], [], [], [], [142, 155], [156, 0, 0], []]
def q_RF (o k : Nat) : Nat := (q_RFl.getD o []).getD k 0
theorem q_N0_lt : q_N0 < 2 ^ 31 := by decide +kernel
theorem q_KD_out {o : Nat} (h : q_N0 ≤ o) : q_KD o = .inr (0, false) := by
  have h1 : q_KDl.length ≤ o := Nat.le_trans (Nat.le_of_eq (by decide +kernel)) h
  unfold q_KD
  rw [List.getD_eq_getElem?_getD, List.getElem?_eq_none h1]
  rfl
def q_nS : Nat := 53
def q_txl : List (List Int32) := [[108, 101, 97, 110], [110, 101, 101, 100], [114, 105, 115, 107], [110, 111, 116], [109, 117, 108, 101], [97, 103, 101], [115, 116, 114, 111, 110, 103], [108, 105, 107, 105, 110, 103], [104, 101, 101, 100, 101, 100], [104, 97, 110, 100], [115, 111, 110, 103, 115], [115, 110, 111, 119], [104, 111, 117, 114, 115], [100, 97, 121], [119, 104, 101, 110], [97, 110, 100], [111, 114], [109, 117, 108, 101], [111, 110], [112, 97, 116, 104], [108, 111, 97, 100], [104, 101, 101, 100, 115], [97, 110, 100], [118, 111, 116, 101], [115, 97, 108, 116], [115, 105, 110, 103], [119, 104, 105, 112], [103, 111], [104, 111, 117, 114, 115], [119, 111, 114, 116, 104], [109, 117, 108, 101, 32], [32, 104, 101, 101, 100, 115, 32], [32, 97, 110, 100, 32], [], [59], [32, 115, 97, 108, 116, 32], [32, 115, 105, 110, 103, 32], [32, 119, 104, 105, 112, 32], [32, 118, 111, 116, 101], [32, 103, 111, 32], [111, 110, 32], [32], [112, 97, 116, 104, 32], [32, 104, 111, 117, 114, 115, 32], [108, 101, 97, 110, 32, 108, 105, 107, 105, 110, 103, 43, 115, 111, 110, 103, 115, 42], [45, 104, 97, 110, 100, 32, 119, 104, 101, 110, 32, 97, 103, 101, 62], [32, 97, 110, 100, 32, 110, 111, 116, 32, 40, 104, 101, 101, 100, 101, 100, 62, 49, 32, 111, 114, 32, 104, 97, 110, 100, 61], [41, 59, 108, 101, 97, 110, 32, 108, 105, 107, 105, 110, 103, 47, 50, 43, 104, 101, 101, 100, 101, 100, 42], [59, 110, 101, 101, 100, 32], [43, 115, 116, 114, 111, 110, 103, 47, 57, 45, 115, 110, 111, 119, 59, 114, 105, 115, 107, 32, 115, 110, 111, 119, 42, 54, 48, 43, 97, 103, 101, 42, 51, 45, 104, 97, 110, 100, 42, 57, 32, 119, 104, 101, 110, 32, 104, 111, 117, 114, 115, 62], [32, 111, 114, 32, 109, 117, 108, 101, 61], [59, 114, 105, 115, 107, 32, 104, 111, 117, 114, 115, 42], [45, 115, 111, 110, 103, 115, 59]]
def q_tx (i : Nat) : List Int32 := q_txl.getD i []
def q_strs : List (String × Nat × String × Nat) := [(RX3, 58, "lean", 0), (RX3, 64, "need", 1), (RX3, 66, "risk", 2), (RX3, 91, "not", 3), (RX3, 164, "mule", 4), (RX3, 168, "age", 5), (RX3, 170, "strong", 6), (RX3, 172, "liking", 7), (RX3, 174, "heeded", 8), (RX3, 176, "hand", 9), (RX3, 178, "songs", 10), (RX3, 180, "snow", 11), (RX3, 182, "hours", 12), (RX3, 184, "day", 13), (RX3, 151, "when", 14), (RX3, 130, "and", 15), (RX3, 132, "or", 16), (RX7, 41, "mule", 17), (RX7, 43, "on", 18), (RX7, 45, "path", 19), (RX7, 47, "load", 20), (RX7, 86, "heeds", 21), (RX7, 91, "and", 22), (RX7, 100, "vote", 23), (RX7, 102, "salt", 24), (RX7, 104, "sing", 25), (RX7, 106, "whip", 26), (RX7, 108, "go", 27), (RX7, 113, "hours", 28), (RX7, 115, "worth", 29), (RL, 59, "mule ", 30), (RL, 68, " heeds ", 31), (RL, 70, " and ", 32), (RL, 76, "", 33), (RL, 78, ";", 34), (RL, 88, " salt ", 35), (RL, 90, " sing ", 36), (RL, 92, " whip ", 37), (RL, 94, " vote", 38), (RL, 96, " go ", 39), (RL, 109, "on ", 40), (RL, 111, " ", 41), (RL, 116, "path ", 42), (RL, 118, " hours ", 43), (RL, 128, "lean liking+songs*", 44), (RL, 130, "-hand when age>", 45), (RL, 132, " and not (heeded>1 or hand=", 46), (RL, 134, ");lean liking/2+heeded*", 47), (RL, 136, ";need ", 48), (RL, 138, "+strong/9-snow;risk snow*60+age*3-hand*9 when hours>", 49), (RL, 140, " or mule=", 50), (RL, 142, ";risk hours*", 51), (RL, 144, "-songs;", 52)]
def q_nests : List (String × Nat × MethodName × String) := [(RX11, 11, yX10_init, "MuleVote"), (RX10, 20, yX2_init, "MuleVote"), (RX11, 39, yX0_init, "MuleVote"), (RX11, 46, yX5_init, "MuleVote"), (RX11, 53, yX4_init, "MuleVote"), (RX11, 60, yX8_init, "MuleVote"), (RX3, 11, yX2_init, "MuleVote"), (RX9, 73, yX11_copyRow, "MuleVote"), (RX0, 96, yX11_isIn, "MuleVote"), (RX12, 80, yL_held, "MuleVoteLaw"), (RX2, 40, yX11_copyRow, "MuleVote"), (RX6, 31, yX11_copyRow, "MuleVote"), (RL, 120, yX12_init, "MuleVoteLaw")]
def q_fnests : List (String × Nat × String × String × String × String) := [(RL, 173, "MuleVoteLaw$Train", "state", "I", "MuleVoteLaw"), (RL, 106, "MuleVoteLaw$Train", "day", "I", "MuleVoteLaw"), (RL, 166, "MuleVoteLaw$Train", "at", "I", "MuleVoteLaw"), (RL, 205, "MuleVoteLaw$Train", "driver", "I", "MuleVoteLaw"), (RL, 163, "MuleVoteLaw$Train", "snow", "I", "MuleVoteLaw"), (RL, 37, "MuleVoteLaw$Train", "mules", "I", "MuleVoteLaw"), (RL, 103, "MuleVoteLaw$Train", "men", "I", "MuleVoteLaw"), (RL, 56, "MuleVoteLaw$Train", "heedLines", "I", "MuleVoteLaw"), (RL, 52, "MuleVoteLaw$Train", "mule", "[[I", "MuleVoteLaw"), (RL, 152, "MuleVoteLaw$Train", "man", "[[I", "MuleVoteLaw"), (RL, 100, "MuleVoteLaw$Train", "plan", "[[I", "MuleVoteLaw"), (RL, 113, "MuleVoteLaw$Train", "path", "[[I", "MuleVoteLaw"), (RL, 125, "MuleVoteLaw$Train", "law", "[I", "MuleVoteLaw")]
/-! THE JUDGEMENT. The whole world is one block of cells behind a base address: cell k lies at base + k; its kind, its references and its ints are told by three functions. -/
abbrev q_Sto : Type := Nat → Nat → Int32
abbrev q_Kd : Type := Nat ⊕ (Nat × Bool)
abbrev q_Sg : Type := Nat × (Nat → q_Kd) × (Nat → Nat → Option Nat) × q_Sto
/-- the classes' ids and fields' slots; the array classes; the base; the constants of text, their bytes; open (none), or closed (the heap's size): no cell beyond the class's own; the arrays of the JDK's statics (0, 1) and the script (2); its length, its ints -/
abbrev q_Wd : Type := va_G × (Nat → ClassId) × Nat × (Nat → Nat) × (Nat → Nat) × Option Nat × (Nat → Nat) × Nat × (Nat → Int32)
abbrev q_Cx : Type := Program × Launch × Env × Room × State × MethodId × Array Value × List Frame × Method × Code
def q_rf (w : q_Wd) (o : Nat) : Value := .ref (w.2.2.1 + o)
def q_rs (w : q_Wd) (i : Nat) : Value := .ref (w.2.2.2.1 i)
def q_isR (ci j : Nat) : Bool := (q_ft.getD ci []).getD j false
def q_nF (ci : Nat) : Nat := (q_ft.getD ci []).length
def q_fv (w : q_Wd) (ci : Nat) (ρ : Nat → Option Nat) (σ : Nat → Int32) (j : Nat) : Value := if q_isR ci j = true then va_rf ((ρ j).map (w.2.2.1 + ·)) else .int (σ j)
def q_dec (w : q_Wd) (x : Int32) : Option Nat := if x < 0 then none else some (w.2.2.1 + x.toNatClampNeg)
def q_ent (w : q_Wd) (kd : Nat → q_Kd) (ρ : Nat → Nat → Option Nat) (σ : q_Sto) (k : Nat) : va_E := match kd k with
  | .inl ci => .inr (ci, (List.range (q_nF ci)).map (q_fv w ci (ρ k) (σ k)))
  | .inr (len, false) => .inl ((w.2.1 0), len, .inl (σ k))
  | .inr (len, true) => .inl ((w.2.1 1), len, .inr (.inr (.inr (.inr (fun j => q_dec w (σ k j))))))
def q_ws (w : q_Wd) (S : q_Sg) : va_W := (List.range S.1).map (fun k => (w.2.2.1 + k, q_ent w S.2.1 S.2.2.1 S.2.2.2 k))
def q_sz (w : q_Wd) (n z : Nat) : Prop := match w.2.2.2.2.2.1 with
  | none => z = w.2.2.1 + n
  | some y => z = y ∧ n ≤ q_N0 ∧ w.2.2.1 + n ≤ y
def q_R (w : q_Wd) (S : q_Sg) (H : Heap) : Prop := q_sz w S.1 H.size ∧ va_P w.1 q_cl (q_ws w S) H
def q_A (w : q_Wd) : Nat → Prop := fun q => w.2.2.1 ≤ q ∧ (w.2.2.2.2.2.1 = none ∨ q < w.2.2.1 + q_N0)
theorem q_sz_le {w : q_Wd} {n z : Nat} (h : q_sz w n z) : w.2.2.1 + n ≤ z := by
  unfold q_sz at h
  split at h
  · exact Nat.le_of_eq h.symm
  · rw [h.1]; exact h.2.2
theorem q_sz_op {w : q_Wd} {n z : Nat} (h : q_sz w n z) (ho : w.2.2.2.2.2.1 = none) : z = w.2.2.1 + n := by
  unfold q_sz at h
  rw [ho] at h
  exact h
theorem q_sz_of {w : q_Wd} {n z : Nat} (h : z = w.2.2.1 + n) (ho : w.2.2.2.2.2.1 = none) : q_sz w n z := by
  unfold q_sz
  rw [ho]
  exact h
theorem q_inA {w : q_Wd} {n z a : Nat} (h : q_sz w n z) (ha : a < n) : q_A w (w.2.2.1 + a) := by
  refine ⟨Nat.le_add_right _ _, ?_⟩
  unfold q_sz at h
  split at h
  · rename_i e; exact Or.inl e
  · exact Or.inr (Nat.add_lt_add_left (Nat.lt_of_lt_of_le ha h.2.1) _)
def q_up (σ : q_Sto) (o k : Nat) (v : Int32) : q_Sto := fun a j => if a = o then (if j = k then v else σ a j) else σ a j
def q_upR (ρ : Nat → Nat → Option Nat) (o k : Nat) (v : Option Nat) : Nat → Nat → Option Nat := fun a j => if a = o then (if j = k then v else ρ a j) else ρ a j
theorem q_ws_get {w : q_Wd} {S : q_Sg} {k : Nat} (hk : k < S.1) : (q_ws w S)[k]? = some (w.2.2.1 + k, q_ent w S.2.1 S.2.2.1 S.2.2.2 k) := by
  simp [q_ws, hk]
theorem q_ws_inv {w : q_Wd} {S : q_Sg} {k : Nat} {q : Nat × va_E} (h : (q_ws w S)[k]? = some q) : k < S.1 ∧ q = (w.2.2.1 + k, q_ent w S.2.1 S.2.2.1 S.2.2.2 k) := by
  by_cases hk : k < S.1
  · rw [q_ws_get hk] at h
    exact ⟨hk, (Option.some.inj h).symm⟩
  · exfalso
    have h1 : (q_ws w S).length ≤ k := by simp [q_ws]; omega
    rw [List.getElem?_eq_none h1] at h
    cases h
theorem q_R.at {w : q_Wd} {S : q_Sg} {H : Heap} (h : q_R w S H) {k : Nat} (hk : k < S.1) : va_at w.1 q_cl (w.2.2.1 + k, q_ent w S.2.1 S.2.2.1 S.2.2.2 k) H := h.2 k _ (q_ws_get hk)
theorem q_R.put {w : q_Wd} {S S' : q_Sg} {H H1 : Heap} (h : q_R w S H) {k : Nat} (hz : H1.size = H.size) (oq : ∀ q : Nat, q ≠ w.2.2.1 + k → H1[q]? = H[q]?) (hn : S'.1 = S.1)
    (he : k < S.1 → va_at w.1 q_cl (w.2.2.1 + k, q_ent w S'.2.1 S'.2.2.1 S'.2.2.2 k) H1) (ho : ∀ j, j < S.1 → j ≠ k → q_ent w S'.2.1 S'.2.2.1 S'.2.2.2 j = q_ent w S.2.1 S.2.2.1 S.2.2.2 j) : q_R w S' H1 := by
  refine ⟨by rw [hz, hn]; exact h.1, fun j q hj => ?_⟩
  obtain ⟨hj2, rfl⟩ := q_ws_inv hj
  rw [hn] at hj2
  by_cases hjk : j = k
  · subst hjk; exact he hj2
  · rw [ho j hj2 hjk]
    exact (h.at hj2).kept (oq _ (by show w.2.2.1 + j ≠ _; omega))
/-- a new cell behind the others -/
theorem q_R.push {w : q_Wd} {S S' : q_Sg} {H H1 : Heap} (h : q_R w S H) (hop : w.2.2.2.2.2.1 = none) (hz : H1.size = H.size + 1) (oq : ∀ q : Nat, q < H.size → H1[q]? = H[q]?) (hn : S'.1 = S.1 + 1)
    (he : va_at w.1 q_cl (w.2.2.1 + S.1, q_ent w S'.2.1 S'.2.2.1 S'.2.2.2 S.1) H1) (ho : ∀ j, j < S.1 → q_ent w S'.2.1 S'.2.2.1 S'.2.2.2 j = q_ent w S.2.1 S.2.2.1 S.2.2.2 j) : q_R w S' H1 := by
  refine ⟨q_sz_of (by rw [hz, q_sz_op h.1 hop, hn]; omega) hop, fun j q hj => ?_⟩
  obtain ⟨hj2, rfl⟩ := q_ws_inv hj
  rw [hn] at hj2
  by_cases hjk : j = S.1
  · subst hjk; exact he
  · rw [ho j (by omega)]
    exact (h.at (by omega)).kept (oq _ (by show w.2.2.1 + j < _; rw [q_sz_op h.1 hop]; omega))
/-! the locals, by place -/
def q_nth : List (Option Value) → Nat → Option Value
  | [], _ => none
  | x :: _, 0 => x
  | _ :: r, k + 1 => q_nth r k
def q_put : List (Option Value) → Nat → Value → List (Option Value)
  | [], _, _ => []
  | _ :: r, 0, v => some v :: r
  | x :: r, k + 1, v => x :: q_put r k v
def q_mask : List Bool → List (Option Value) → List (Option Value)
  | true :: b, x :: r => x :: q_mask b r
  | false :: b, _ :: r => none :: q_mask b r
  | _, _ => []
theorem q_nth_put {v : Value} : ∀ (L : List (Option Value)) (i j : Nat) (u : Value), q_nth (q_put L i v) j = some u → (j = i ∧ u = v) ∨ (j ≠ i ∧ q_nth L j = some u)
  | [], i, j, u, h => by simp [q_put, q_nth] at h
  | x :: r, 0, 0, u, h => by
    simp [q_put, q_nth] at h
    exact Or.inl ⟨rfl, h.symm⟩
  | x :: r, 0, j + 1, u, h => by
    simp only [q_put, q_nth] at h
    exact Or.inr ⟨by omega, h⟩
  | x :: r, i + 1, 0, u, h => by
    simp only [q_put, q_nth] at h
    exact Or.inr ⟨by omega, h⟩
  | x :: r, i + 1, j + 1, u, h => by
    simp only [q_put, q_nth] at h
    rcases q_nth_put r i j u h with ⟨a, b⟩ | ⟨a, b⟩
    · exact Or.inl ⟨by omega, b⟩
    · exact Or.inr ⟨by omega, b⟩
theorem q_nth_mask : ∀ (b : List Bool) (L : List (Option Value)) (j : Nat) (u : Value), q_nth (q_mask b L) j = some u → q_nth L j = some u
  | [], L, j, u, h => by simp [q_mask, q_nth] at h
  | true :: b, [], j, u, h => by simp [q_mask, q_nth] at h
  | false :: b, [], j, u, h => by simp [q_mask, q_nth] at h
  | true :: b, x :: r, 0, u, h => h
  | false :: b, x :: r, 0, u, h => by simp [q_mask, q_nth] at h
  | true :: b, x :: r, j + 1, u, h => q_nth_mask b r j u h
  | false :: b, x :: r, j + 1, u, h => q_nth_mask b r j u h
def q_L (ls : Array Slot) (nL : Nat) (L : List (Option Value)) : Prop := ls.size = nL ∧ lv_wf ls ∧ ∀ (i : Nat) (v : Value), q_nth L i = some v → v.category = 1 ∧ ls[i]? = some (.val v)
theorem q_L.mask {ls : Array Slot} {nL : Nat} {L : List (Option Value)} (h : q_L ls nL L) (b : List Bool) : q_L ls nL (q_mask b L) := ⟨h.1, h.2.1, fun i v hv => h.2.2 i v (q_nth_mask b L i v hv)⟩
theorem q_L.store {ls : Array Slot} {nL : Nat} {L : List (Option Value)} (h : q_L ls nL L) {i : Nat} {v : Value} (hi : i < nL) (hc : v.category = 1) : ∃ ls', storeLocals ls i v = some ls' ∧ q_L ls' nL (q_put L i v) := by
  obtain ⟨ls', e, h1⟩ := lv_store1 (l := []) (v := v) (i := i) ⟨h.1, h.2.1, fun q hq => by cases hq⟩ hi hc
  refine ⟨ls', e, h1.1, h1.2.1, fun j u hj => ?_⟩
  rcases q_nth_put L i j u hj with ⟨rfl, rfl⟩ | ⟨hne, hj⟩
  · exact ⟨hc, h1.2.2 (_, _) (by simp)⟩
  · obtain ⟨hu, hju⟩ := h.2.2 j u hj
    refine ⟨hu, ?_⟩
    obtain ⟨ls2, e2, h2⟩ := lv_store1 (l := [(j, u)]) (v := v) (i := i) ⟨h.1, h.2.1, fun q hq => by rw [List.mem_singleton.mp hq]; exact hju⟩ hi hc
    have e3 : ls2 = ls' := Option.some.inj (e2.symm.trans e)
    subst e3
    refine h2.2.2 (j, u) ?_
    simp [hne, hu]
def q_entry : List Value → Nat → List (Option Value)
  | [], n => List.replicate n none
  | v :: r, n => some v :: q_entry r (n - 1)
theorem q_nth_rep : ∀ (n j : Nat), q_nth (List.replicate n none) j = none
  | 0, j => rfl
  | n + 1, 0 => rfl
  | n + 1, j + 1 => q_nth_rep n j
theorem q_nth_entry : ∀ (As : List Value) (n k j : Nat) (v : Value), (∀ a ∈ As, a.category = 1) → q_nth (q_entry As n) j = some v → v.category = 1 ∧ (k + j, v) ∈ lv_args k As
  | [], n, k, j, v, hc, h => by rw [show q_entry [] n = List.replicate n none from rfl, q_nth_rep] at h; cases h
  | a :: r, n, k, 0, v, hc, h => by
    have h : a = v := Option.some.inj h
    subst h
    exact ⟨hc a List.mem_cons_self, by simp [lv_args]⟩
  | a :: r, n, k, j + 1, v, hc, h => by
    obtain ⟨h1, h2⟩ := q_nth_entry r (n - 1) (k + 1) j v (fun x hx => hc x (List.mem_cons_of_mem _ hx)) h
    refine ⟨h1, ?_⟩
    have ha := hc a List.mem_cons_self
    rw [show k + (j + 1) = k + 1 + j by omega]
    simp only [lv_args, ha]
    exact List.mem_cons_of_mem _ h2
/-! the words of the tables that a callee's state keeps -/
/-- private methods of the JDK's builder, selected on the builder's own objects -/
def q_ext : List Cond := [⟨"java/lang/AbstractStringBuilder", "ensureCapacityInternal", "(I)V"⟩, ⟨"java/lang/AbstractStringBuilder", "inflateIfNeededFor", "(Ljava/lang/String;)V"⟩, ⟨"java/lang/AbstractStringBuilder", "newCapacity", "(I)I"⟩, ⟨"java/lang/AbstractStringBuilder", "putStringAt", "(ILjava/lang/String;)V"⟩].map (fun y : MethodName => Cond.selects RJ4 y y)
def q_big : List Cond := (lw_tbl ++ q_ext).filter goodWord
theorem q_bx (i : Nat) {x : Cond} (h : q_ext[i]? = some x) (g : goodWord x = true) : x ∈ q_big := List.mem_filter.mpr ⟨List.mem_append_right _ (List.mem_of_getElem? h), g⟩
theorem q_bm (i : Nat) {x : Cond} (h : lw_tbl[i]? = some x) (g : goodWord x = true) : x ∈ q_big := List.mem_filter.mpr ⟨List.mem_append_left _ (List.mem_of_getElem? h), g⟩
theorem q_good : ∀ x ∈ q_big, (x.onTables && x.keeps) = true ∨ ∃ ty, x = .arrayClass ty := fun x h => good_of_word (List.mem_filter.mp h).2
/-! the constants of text: adK i is the cell of the i-th, adV i that of its bytes -/
def q_S (w : q_Wd) (U : State) (H : Heap) : Prop := ∀ i : Nat, i < q_nS → va_O "java/lang/String" (w.2.2.2.1 i) (q_A w) U H ∧ va_OF "java/lang/String" "coder" "B" (.int 0) (w.2.2.2.1 i) (q_A w) U H ∧ va_OF "java/lang/String" "value" "[B" (.ref (w.2.2.2.2.1 i)) (w.2.2.2.1 i) (q_A w) U H ∧
  va_T .byte (w.2.2.2.2.1 i) (q_tx i).length (fun j => .int ((q_tx i).getD j 0)) (q_A w) U H
def q_Zs (w : q_Wd) (U : State) (H : Heap) : Prop := va_Z "java/lang/String" "COMPACT_STRINGS" "Z" (.int 1) (q_A w) U H ∧ ∃ v : Value, (v = .null ∨ ∃ a, v = .ref a) ∧ va_Z "jdk/internal/util/Preconditions" "SIOOBE_FORMATTER" "Ljava/util/function/BiFunction;" v (q_A w) U H
def q_nestW : List (String × Nat × MethodName × String) → State → Prop := fun l U => ∀ q ∈ l, va_Nw (.methodLinkNest q.1 q.2.1 q.2.2.1 q.2.2.2) U
def q_tys (w : q_Wd) : List (ClassId × FieldType) := [((w.2.1 0), .int), ((w.2.1 1), .object RX9), ((w.2.1 2), .byte), ((w.2.1 3), .array .int), ((w.2.1 4), .object RX12), ((w.2.1 5), .object RJ0)]
def q_sa (w : q_Wd) (i : Nat) : Nat := w.2.2.2.2.2.2.1 i
def q_xs (w : q_Wd) : Nat → Int32 := w.2.2.2.2.2.2.2.2
def q_xl (w : q_Wd) : Nat := w.2.2.2.2.2.2.2.1
def q_d0 (j : Nat) : Int32 := nI (48 + j % 10)
def q_d1 (j : Nat) : Int32 := nI (48 + j / 10)
/-- the JDK's two rows of digits, the script, the rows of references that can be made -/
def q_X (w : q_Wd) (U : State) (H : Heap) : Prop := (va_T .byte (q_sa w 0) 100 (fun j => .int (q_d0 j)) (q_A w) U H ∧ va_Z "java/lang/Integer" "DigitOnes" "[B" (.ref (q_sa w 0)) (q_A w) U H) ∧ (va_T .byte (q_sa w 1) 100 (fun j => .int (q_d1 j)) (q_A w) U H ∧ va_Z "java/lang/Integer" "DigitTens" "[B" (.ref (q_sa w 1)) (q_A w) U H) ∧
  va_T .int (q_sa w 2) (q_xl w) (fun j => .int (q_xs w j)) (q_A w) U H ∧ va_AO RX12 U ∧ va_AO RJ0 U ∧ (Cond.arrayOver (.array .int)).before #[] U = true
/-- the fields that a nest mate may read; the rows that can be cloned -/
def q_N (U : State) : Prop := (∀ q ∈ q_fnests, va_Nw (.fieldLinkNest q.1 q.2.1 q.2.2.1 q.2.2.2.1 q.2.2.2.2.1 q.2.2.2.2.2) U) ∧ va_Nw (.castable "[I" "java/lang/Cloneable") U ∧ va_Nw (.castable "[B" "java/lang/Cloneable") U
def q_K (w : q_Wd) (U : State) : Prop := va_K w.1 q_cl (q_tys w) U ∧ q_nestW q_nests U ∧ va_AO RX9 U ∧ (∀ q ∈ q_strs, vk_R q.1 q.2.1 q.2.2.1 (w.2.2.2.1 q.2.2.2) U) ∧ q_S w U U.heap ∧ q_Zs w U U.heap ∧ q_X w U U.heap ∧ q_N U
theorem q_X.moved {w : q_Wd} {u U : State} {H : Heap} (hvm : u.vm.Alike U.vm) (h : q_X w u H) : q_X w U H := ⟨⟨va_T.moved hvm h.1.1, va_Z.moved hvm h.1.2⟩, ⟨va_T.moved hvm h.2.1.1, va_Z.moved hvm h.2.1.2⟩, va_T.moved hvm h.2.2.1, va_AO.moved hvm h.2.2.2.1, va_AO.moved hvm h.2.2.2.2.1, over_moved hvm h.2.2.2.2.2⟩
theorem q_X.kept {w : q_Wd} {U : State} {H H1 : Heap} (h : q_X w U H) (hq : ∀ a : Nat, a < H.size → ¬ q_A w a → H1[a]? = H[a]?) : q_X w U H1 := ⟨⟨h.1.1.kept hq, h.1.2.kept hq⟩, ⟨h.2.1.1.kept hq, h.2.1.2.kept hq⟩, h.2.2.1.kept hq, h.2.2.2⟩
theorem q_S.moved {w : q_Wd} {u U : State} {H : Heap} (hvm : u.vm.Alike U.vm) (h : q_S w u H) : q_S w U H := fun i hi => ⟨va_O.moved hvm (h i hi).1, va_OF.moved hvm (h i hi).2.1, va_OF.moved hvm (h i hi).2.2.1, va_T.moved hvm (h i hi).2.2.2⟩
theorem q_S.kept {w : q_Wd} {U : State} {H H1 : Heap} (h : q_S w U H) (hq : ∀ a : Nat, a < H.size → ¬ q_A w a → H1[a]? = H[a]?) : q_S w U H1 := fun i hi => ⟨(h i hi).1.kept hq, (h i hi).2.1.kept hq, (h i hi).2.2.1.kept hq, (h i hi).2.2.2.kept hq⟩
/-- in a state whose tables were only warmed, and whose cells below the base are the same -/
theorem q_K.go {w : q_Wd} {s U : State} (h : q_K w s) (hW : s.WarmedH U.vm) (hq : ∀ a : Nat, a < s.heap.size → ¬ q_A w a → U.heap[a]? = s.heap[a]?) : q_K w U := by
  obtain ⟨h1, h2, h3, h4, h5, ⟨h6, v, hv, h7⟩, h8, h9⟩ := h
  exact ⟨va_K.moved hW.alike h1, fun q hq => va_Nw.warmM hW (h2 q hq), va_AO.moved hW.alike h3, fun q hq => vk_R.warm hW (h4 q hq), (h5.moved hW.alike).kept hq,
    ⟨(va_Z.moved hW.alike h6).kept hq, v, hv, (va_Z.moved hW.alike h7).kept hq⟩, (h8.moved hW.alike).kept hq, fun q hq => va_Nw.warmF hW (h9.1 q hq), va_Nw.warmC hW h9.2.1, va_Nw.warmC hW h9.2.2⟩
theorem q_K.calling {w : q_Wd} {U : State} (h : q_K w U) (g : JFrame) (mk : MethodId) (a : Array Value) : q_K w (U.calling g mk a) := by
  obtain ⟨h1, h2, h3, h4, h5, ⟨h6, v, hv, h7⟩, h8, h9⟩ := h
  have al : U.vm.Alike (U.calling g mk a).vm := Vm.Alike.refl U.vm
  exact ⟨va_K.moved al h1, fun q hq => va_Nw.same rfl rfl (h2 q hq), va_AO.moved al h3, fun q hq => vk_R.same rfl (h4 q hq), h5.moved al, ⟨va_Z.moved al h6, v, hv, va_Z.moved al h7⟩, h8.moved al, fun q hq => va_Nw.same rfl rfl (h9.1 q hq), va_Nw.same rfl rfl h9.2.1, va_Nw.same rfl rfl h9.2.2⟩
/-! the judgement -/
def q_J (w : q_Wd) (cx : q_Cx) (nL cells slots : Nat) (Q : State → Prop) (pc : Nat) (L : List (Option Value)) (st : List Value) (S : q_Sg) : Prop :=
  ∀ (H : Heap) (locs : List Loc) (ls : Array Slot), q_R w S H → va_S (q_A w) cx.2.2.2.2.1.heap H locs → q_L ls nL L →
    W cx.1 cx.2.1 cx.2.2.1 cx.2.2.2.1 cx.2.2.2.2.1 cx.2.2.2.2.2.1 cx.2.2.2.2.2.2.1 cx.2.2.2.2.2.2.2.1 cx.2.2.2.2.2.2.2.2.1 cx.2.2.2.2.2.2.2.2.2 H locs cells slots Q (F0 cx.2.2.2.2.2.1 pc ls st)
def q_ok (w : q_Wd) (cx : q_Cx) (own : String) (cc : ByteArray) (nL : Nat) (ret : Option FieldType) (rm : Room) : Prop :=
  cx.1.tables.exec = Jvm.exec ∧ cx.2.2.2.2.2.2.2.2.2.code = cc ∧ cx.2.2.2.2.2.2.2.2.2.maxLocals = nL ∧ cx.2.2.2.2.1.vm.findClass own = some cx.2.2.2.2.2.1.cls ∧ (∀ x ∈ q_big, x.before cx.2.2.2.2.2.2.1 cx.2.2.2.2.1 = true) ∧
  cx.2.2.2.2.2.2.2.2.1.sig.returnType = ret ∧ cx.2.2.2.2.2.2.2.2.1.locks = false ∧ q_K w cx.2.2.2.2.1 ∧ cx.2.2.2.1 = rm ∧ w.2.2.1 ≤ cx.2.2.2.2.1.heap.size
def q_ans (ret : Option FieldType) (r : Int32) : Option Value := match ret with
  | none => none
  | some _ => some (.int r)
def q_Qc (w : q_Wd) (ret : Option FieldType) (r : Int32) (S : q_Sg) : Array Value → State → Outcome → State → Prop := fun _ st oc t => oc = .returned (q_ans ret r) ∧ q_R w S t.heap ∧ va_F (q_A w) st t
def q_Q (w : q_Wd) (cx : q_Cx) (mc ms : Nat) (ret : Option FieldType) (r : Int32) (S : q_Sg) : State → Prop := MQ cx.2.2.2.2.2.2.2.1 (q_Qc w ret r S) cx.2.2.2.2.2.2.1 cx.2.2.2.2.1 mc ms (q_A w)
/-- a method's contract: from the world S1 it returns r and the world is S2; mc cells of ms slots are new -/
def q_M (l : Launch) (w : q_Wd) (y : MethodName) (cc : ByteArray) (nL : Nat) (ret : Option FieldType) (rm : Room) (mc ms : Nat) (As : List Value) (S1 : q_Sg) (r : Int32) (S2 : q_Sg) : Prop :=
  Met l y (.code y cc nL ret :: q_big) rm (va_Pc As (fun U => q_K w U ∧ q_R w S1 U.heap)) (q_Qc w ret r S2) mc ms (q_A w)
theorem q_MofJ {l : Launch} {w : q_Wd} {y : MethodName} {cc : ByteArray} {nL : Nat} {ret : Option FieldType} {rm : Room} {mc ms : Nat} {As : List Value} {S1 : q_Sg} {r : Int32} {S2 : q_Sg} (L : List (Option Value)) (hy : plainName y.cls = true) (hL : q_entry As nL = L) (hAs : (As.all fun a => a.category == 1) = true) (hlen : As.length ≤ nL)
    (h : ∀ cx : q_Cx, cx.2.1 = l → cx.2.2.2.2.2.2.1 = As.toArray → cx.2.2.2.2.2.2.2.2.1.name = y.name → q_ok w cx y.cls cc nL ret rm → q_J w cx nL 0 0 (q_Q w cx mc ms ret r S2) 0 L [] S1) : q_M l w y cc nL ret rm mc ms As S1 r S2 := by
  refine Met.ofW (cc := cc) (maxL := nL) (ret := ret) hy rfl ?_
  intro p e s m args below meth c s₁ B hml hv
  obtain ⟨rfl, hK, hR⟩ := hv
  have hts := atoms_spec (ws := .code y cc nL ret :: q_big) B.pre
  have hb : w.2.2.1 ≤ s.heap.size := Nat.le_trans (Nat.le_add_right _ _) (q_sz_le hR.1)
  have hc1 : ∀ a ∈ As, a.category = 1 := fun a ha => by simpa using List.all_eq_true.mp hAs a ha
  have hl := lv_entry As (n := nL) (by
    have e : ∀ l : List Value, (∀ a ∈ l, a.category = 1) → (lg_sl l).length = l.length := by
      intro l
      induction l with
      | nil => intro _; rfl
      | cons a r ih =>
        intro h
        have e1 := ih (fun x hx => h x (List.mem_cons_of_mem _ hx))
        have e2 := h a List.mem_cons_self
        simp [lg_sl, e2] at e1 ⊢
        omega
    rw [e As hc1]; exact hlen)
  rw [lg_entry_eq]
  refine h (p, l, e, (headSpec (.code y cc nL ret :: q_big) rm).room, s, m, As.toArray, below, meth, c) rfl rfl (name_of_methodNamed B.named B.method).1 ⟨B.exec, B.bytes, hml, findClass_of_methodNamed B.named, fun x hx => hts x (List.mem_cons_of_mem _ hx), B.returns, B.notSynchronized, hK, rfl, hb⟩ s.heap [] _ hR va_S.rf ⟨hl.1, hl.2.1, fun i v hi => ?_⟩
  rw [← hL] at hi
  obtain ⟨h1, h2⟩ := q_nth_entry As nL 0 i v hc1 hi
  rw [Nat.zero_add] at h2
  exact ⟨h1, hl.2.2 (i, v) h2⟩
theorem q_w_max : Cond.static Lib.Math.max.name ∈ q_big ∧ Cond.initialized "java/lang/Math" ∈ q_big ∧ Cond.code Lib.Math.max.name Lib.Math.max.code 2 (some .int) ∈ q_big := ⟨q_bm 219 (by decide +kernel) (by decide +kernel), q_bm 39 (by decide +kernel) (by decide +kernel), q_bm 220 (by decide +kernel) (by decide +kernel)⟩
theorem q_w_min : Cond.static Lib.Math.min.name ∈ q_big ∧ Cond.initialized "java/lang/Math" ∈ q_big ∧ Cond.code Lib.Math.min.name Lib.Math.min.code 2 (some .int) ∈ q_big := ⟨q_bm 216 (by decide +kernel) (by decide +kernel), q_bm 39 (by decide +kernel) (by decide +kernel), q_bm 217 (by decide +kernel) (by decide +kernel)⟩
def q_ushr (x y : Int32) : Int32 := (x.toUInt32 >>> (y.toUInt32 &&& Int32.toUInt32 31)).toInt32
/-- the world behind the constructors: its kinds and references never change, its ints do -/
def q_sg (σ : q_Sto) : q_Sg := (q_N0, q_KD, fun o k => some (q_RF o k), σ)
/-- 'from here the method answers what o says, and makes of the world what o says, if o says anything' -/
def q_G (w : q_Wd) (cx : q_Cx) (nL : Nat) (ret : Option FieldType) (pc : Nat) (L : List (Option Value)) (st : List Value) (σ : q_Sto) (o : Option (Int32 × q_Sto)) : Prop :=
  ∀ (r : Int32) (σ' : q_Sto), o = some (r, σ') → q_J w cx nL 0 0 (q_Q w cx 0 0 ret r (q_sg σ')) pc L st (q_sg σ)
def q_C (l : Launch) (w : q_Wd) (y : MethodName) (cc : ByteArray) (nL : Nat) (ret : Option FieldType) (rm : Room) (As : List Value) (σ : q_Sto) (o : Option (Int32 × q_Sto)) : Prop :=
  ∀ (r : Int32) (σ' : q_Sto), o = some (r, σ') → q_M l w y cc nL ret rm 0 0 As (q_sg σ) r (q_sg σ')
def q_rm (f lo : Nat) : Room := { frames := f, cells := 0, slots := 0, locals := lo }
theorem q_CofG {l : Launch} {w : q_Wd} {y : MethodName} {cc : ByteArray} {nL : Nat} {ret : Option FieldType} {rm : Room} {As : List Value} {σ : q_Sto} {o : Option (Int32 × q_Sto)} (L : List (Option Value)) (hy : plainName y.cls = true) (hL : q_entry As nL = L) (hAs : (As.all fun a => a.category == 1) = true) (hlen : As.length ≤ nL)
    (h : ∀ cx : q_Cx, cx.2.1 = l → q_ok w cx y.cls cc nL ret rm → q_G w cx nL ret 0 L [] σ o) : q_C l w y cc nL ret rm As σ o :=
  fun r σ' ho => q_MofJ L hy hL hAs hlen fun cx hl _ _ hc => h cx hl hc r σ' ho
theorem q_none {w : q_Wd} {cx : q_Cx} {nL : Nat} {ret : Option FieldType} {pc : Nat} {L : List (Option Value)} {st : List Value} {σ : q_Sto} : q_G w cx nL ret pc L st σ none := fun _ _ h => by cases h
theorem q_Gmask {w : q_Wd} {cx : q_Cx} {nL : Nat} {ret : Option FieldType} {pc : Nat} {L L2 : List (Option Value)} {st : List Value} {σ : q_Sto} {o : Option (Int32 × q_Sto)} (b : List Bool) (hb : q_mask b L = L2) (h : q_G w cx nL ret pc L2 st σ o) : q_G w cx nL ret pc L st σ o := by
  subst hb
  intro r σ' ho H locs ls hR hS hL
  exact h r σ' ho H locs ls hR hS (hL.mask b)
/-- naming -/
def q_nm (x : Int32) (k : Int32 → Option (Int32 × q_Sto)) : Option (Int32 × q_Sto) := k x
theorem g_nm {w : q_Wd} {cx : q_Cx} {nL : Nat} {ret : Option FieldType} {pc : Nat} {L : List (Option Value)} {st : List Value} {σ : q_Sto} {x : Int32} {kk : Int32 → Option (Int32 × q_Sto)} (k : ∀ y : Int32, q_G w cx nL ret pc L (.int y :: st) σ (kk y)) : q_G w cx nL ret pc L (.int x :: st) σ (q_nm x kk) := k x
def q_nS1 (x : q_Sto) (k : q_Sto → Option (Int32 × q_Sto)) : Option (Int32 × q_Sto) := k x
theorem g_nS {w : q_Wd} {cx : q_Cx} {nL : Nat} {ret : Option FieldType} {pc : Nat} {L : List (Option Value)} {st : List Value} {σ : q_Sto} {kk : q_Sto → Option (Int32 × q_Sto)} (k : ∀ y : q_Sto, q_G w cx nL ret pc L st y (kk y)) : q_G w cx nL ret pc L st σ (q_nS1 σ kk) := k σ
/-- answers -/
def q_rz (v : Int32) (σ : q_Sto) : Option (Int32 × q_Sto) := if v &&& 1 = v then some (v, σ) else none
theorem g_iret {w : q_Wd} {cx : q_Cx} {own : String} {cc : ByteArray} {nL : Nat} {rm : Room} {pc : Nat} {L : List (Option Value)} {σ : q_Sto} {v : Int32} (hc : q_ok w cx own cc nL (some .int) rm) (hd : decode cc pc = .ok (.ireturn, 1)) : q_G w cx nL (some .int) pc L [.int v] σ (some (v, σ)) := by
  intro r σ' h H locs ls hR hS hL
  cases h
  refine W.iret (v := v) hc.1 hc.2.1 hc.2.2.2.2.2.1 (fun t ht hW => ⟨rfl, by rw [ht]; exact hR, hS.F ht⟩) hS.2.2 hd hc.2.2.2.2.2.2.1
theorem g_zret0 {w : q_Wd} {cx : q_Cx} {own : String} {cc : ByteArray} {nL : Nat} {rm : Room} {pc : Nat} {L : List (Option Value)} {σ : q_Sto} {v : Int32} (hv : v &&& 1 = v) (hc : q_ok w cx own cc nL (some .boolean) rm) (hd : decode cc pc = .ok (.ireturn, 1)) : q_G w cx nL (some .boolean) pc L [.int v] σ (some (v, σ)) := by
  intro r σ' h H locs ls hR hS hL
  cases h
  refine W.zret (v := v) hc.1 hc.2.1 hc.2.2.2.2.2.1 (by show Value.int (v &&& 1) = _; rw [hv]) (fun t ht hW => ⟨rfl, by rw [ht]; exact hR, hS.F ht⟩) hS.2.2 hd hc.2.2.2.2.2.2.1
theorem g_zret {w : q_Wd} {cx : q_Cx} {own : String} {cc : ByteArray} {nL : Nat} {rm : Room} {pc : Nat} {L : List (Option Value)} {σ : q_Sto} {v : Int32} (hc : q_ok w cx own cc nL (some .boolean) rm) (hd : decode cc pc = .ok (.ireturn, 1)) : q_G w cx nL (some .boolean) pc L [.int v] σ (q_rz v σ) := by
  intro r σ' h
  unfold q_rz at h
  split at h
  · rename_i hv
    exact g_zret0 hv hc hd r σ' h
  · cases h
theorem g_vret {w : q_Wd} {cx : q_Cx} {own : String} {cc : ByteArray} {nL : Nat} {rm : Room} {pc : Nat} {L : List (Option Value)} {σ : q_Sto} (hc : q_ok w cx own cc nL none rm) (hd : decode cc pc = .ok (.return_, 1)) : q_G w cx nL none pc L [] σ (some (0, σ)) := by
  intro r σ' h H locs ls hR hS hL
  cases h
  refine W.vret hc.1 hc.2.1 hc.2.2.2.2.2.1 (fun t ht hW => ⟨rfl, by rw [ht]; exact hR, hS.F ht⟩) hS.2.2 hd hc.2.2.2.2.2.2.1
/-- the constructors' end -/
theorem j_vret {w : q_Wd} {cx : q_Cx} {own : String} {cc : ByteArray} {nL cells slots : Nat} {rm : Room} {pc : Nat} {L : List (Option Value)} {S : q_Sg} (hc : q_ok w cx own cc nL none rm) (hd : decode cc pc = .ok (.return_, 1)) : q_J w cx nL cells slots (q_Q w cx cells slots none 0 S) pc L [] S := by
  intro H locs ls hR hS hL
  exact W.vret hc.1 hc.2.1 hc.2.2.2.2.2.1 (fun t ht hW => ⟨rfl, by rw [ht]; exact hR, hS.F ht⟩) hS.2.2 hd hc.2.2.2.2.2.2.1
