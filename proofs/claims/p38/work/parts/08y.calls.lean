theorem g_callV0 {w : q_Wd} {cx : q_Cx} {own : String} {cc : ByteArray} {nL : Nat} {ret : Option FieldType} {pc pc2 : Nat} {L : List (Option Value)} {st : List Value} {σ : q_Sto} {idx o ci nLy f1 l1 f2 l2 : Nat} {y : MethodName}  {ccy : ByteArray} {ty : FieldType}  {fo : Option (Int32 × q_Sto)} {kk : Int32 → q_Sto → Option (Int32 × q_Sto)} (hc : q_ok w cx own cc nL ret (q_rm f2 l2)) (hM : q_C cx.2.1 w y ccy nLy (some ty) (q_rm f1 l1) (q_rf w o :: []) σ fo) (hmv : q_mv y ccy nLy (some ty) ci 0) (hlk : Cond.methodLink own idx y ∈ q_big) (hkd : q_KD o = .inl ci) (hrm : f1 + 1 ≤ f2 ∧ 8 + (nLy + 11) + l1 ≤ l2) (hcat : (st.map fun v => v.category).sum ≤ 8) (hd : decode cc pc = .ok (.invokevirtual idx, 3)) (hp : pc + 3 = pc2)
    (k2 : ∀ r2 σ2, q_G w cx nL ret pc2 L (.int r2 :: st) σ2 (kk r2 σ2)) : q_G w cx nL ret pc L (q_rf w o :: st) σ (q_call fo kk) := by
  intro r σ' h
  cases e : fo with
  | none => rw [e] at h; cases h
  | some p =>
    obtain ⟨r1, σ1⟩ := p
    rw [e] at h
    exact j_callV (As := []) hc (hM r1 σ1 e) hmv hlk hkd (q_KD_lt hkd) rfl rfl ⟨rfl, rfl, hrm⟩ ⟨Nat.le_refl _, Nat.le_refl _⟩ hcat hd hp (k2 r1 σ1 r σ' h)
theorem g_callV0v {w : q_Wd} {cx : q_Cx} {own : String} {cc : ByteArray} {nL : Nat} {ret : Option FieldType} {pc pc2 : Nat} {L : List (Option Value)} {st : List Value} {σ : q_Sto} {idx o ci nLy f1 l1 f2 l2 : Nat} {y : MethodName}  {ccy : ByteArray}   {fo : Option (Int32 × q_Sto)} {kk : q_Sto → Option (Int32 × q_Sto)} (hc : q_ok w cx own cc nL ret (q_rm f2 l2)) (hM : q_C cx.2.1 w y ccy nLy none (q_rm f1 l1) (q_rf w o :: []) σ fo) (hmv : q_mv y ccy nLy (none) ci 0) (hlk : Cond.methodLink own idx y ∈ q_big) (hkd : q_KD o = .inl ci) (hrm : f1 + 1 ≤ f2 ∧ 8 + (nLy + 11) + l1 ≤ l2) (hcat : (st.map fun v => v.category).sum ≤ 8) (hd : decode cc pc = .ok (.invokevirtual idx, 3)) (hp : pc + 3 = pc2)
    (k2 : ∀ σ2, q_G w cx nL ret pc2 L st σ2 (kk σ2)) : q_G w cx nL ret pc L (q_rf w o :: st) σ (q_callv fo kk) := by
  intro r σ' h
  cases e : fo with
  | none => rw [e] at h; cases h
  | some p =>
    obtain ⟨r1, σ1⟩ := p
    rw [e] at h
    exact j_callV (As := []) hc (hM r1 σ1 e) hmv hlk hkd (q_KD_lt hkd) rfl rfl ⟨rfl, rfl, hrm⟩ ⟨Nat.le_refl _, Nat.le_refl _⟩ hcat hd hp (k2 σ1 r σ' h)
theorem g_callV1 {w : q_Wd} {cx : q_Cx} {own : String} {cc : ByteArray} {nL : Nat} {ret : Option FieldType} {pc pc2 : Nat} {L : List (Option Value)} {st : List Value} {σ : q_Sto} {idx o ci nLy f1 l1 f2 l2 : Nat} {y : MethodName}  {ccy : ByteArray} {ty : FieldType} {a1 : Value} {fo : Option (Int32 × q_Sto)} {kk : Int32 → q_Sto → Option (Int32 × q_Sto)} (hc : q_ok w cx own cc nL ret (q_rm f2 l2)) (hM : q_C cx.2.1 w y ccy nLy (some ty) (q_rm f1 l1) (q_rf w o :: [a1]) σ fo) (hmv : q_mv y ccy nLy (some ty) ci 1) (hlk : Cond.methodLink own idx y ∈ q_big) (hkd : q_KD o = .inl ci) (hrm : f1 + 1 ≤ f2 ∧ 8 + (nLy + 11) + l1 ≤ l2) (hcat : (st.map fun v => v.category).sum ≤ 8) (hd : decode cc pc = .ok (.invokevirtual idx, 3)) (hp : pc + 3 = pc2)
    (k2 : ∀ r2 σ2, q_G w cx nL ret pc2 L (.int r2 :: st) σ2 (kk r2 σ2)) : q_G w cx nL ret pc L (a1 :: q_rf w o :: st) σ (q_call fo kk) := by
  intro r σ' h
  cases e : fo with
  | none => rw [e] at h; cases h
  | some p =>
    obtain ⟨r1, σ1⟩ := p
    rw [e] at h
    exact j_callV (As := [a1]) hc (hM r1 σ1 e) hmv hlk hkd (q_KD_lt hkd) rfl rfl ⟨rfl, rfl, hrm⟩ ⟨Nat.le_refl _, Nat.le_refl _⟩ hcat hd hp (k2 r1 σ1 r σ' h)
theorem g_callV1v {w : q_Wd} {cx : q_Cx} {own : String} {cc : ByteArray} {nL : Nat} {ret : Option FieldType} {pc pc2 : Nat} {L : List (Option Value)} {st : List Value} {σ : q_Sto} {idx o ci nLy f1 l1 f2 l2 : Nat} {y : MethodName}  {ccy : ByteArray}  {a1 : Value} {fo : Option (Int32 × q_Sto)} {kk : q_Sto → Option (Int32 × q_Sto)} (hc : q_ok w cx own cc nL ret (q_rm f2 l2)) (hM : q_C cx.2.1 w y ccy nLy none (q_rm f1 l1) (q_rf w o :: [a1]) σ fo) (hmv : q_mv y ccy nLy (none) ci 1) (hlk : Cond.methodLink own idx y ∈ q_big) (hkd : q_KD o = .inl ci) (hrm : f1 + 1 ≤ f2 ∧ 8 + (nLy + 11) + l1 ≤ l2) (hcat : (st.map fun v => v.category).sum ≤ 8) (hd : decode cc pc = .ok (.invokevirtual idx, 3)) (hp : pc + 3 = pc2)
    (k2 : ∀ σ2, q_G w cx nL ret pc2 L st σ2 (kk σ2)) : q_G w cx nL ret pc L (a1 :: q_rf w o :: st) σ (q_callv fo kk) := by
  intro r σ' h
  cases e : fo with
  | none => rw [e] at h; cases h
  | some p =>
    obtain ⟨r1, σ1⟩ := p
    rw [e] at h
    exact j_callV (As := [a1]) hc (hM r1 σ1 e) hmv hlk hkd (q_KD_lt hkd) rfl rfl ⟨rfl, rfl, hrm⟩ ⟨Nat.le_refl _, Nat.le_refl _⟩ hcat hd hp (k2 σ1 r σ' h)
theorem g_callV2 {w : q_Wd} {cx : q_Cx} {own : String} {cc : ByteArray} {nL : Nat} {ret : Option FieldType} {pc pc2 : Nat} {L : List (Option Value)} {st : List Value} {σ : q_Sto} {idx o ci nLy f1 l1 f2 l2 : Nat} {y : MethodName}  {ccy : ByteArray} {ty : FieldType} {a1 a2 : Value} {fo : Option (Int32 × q_Sto)} {kk : Int32 → q_Sto → Option (Int32 × q_Sto)} (hc : q_ok w cx own cc nL ret (q_rm f2 l2)) (hM : q_C cx.2.1 w y ccy nLy (some ty) (q_rm f1 l1) (q_rf w o :: [a1, a2]) σ fo) (hmv : q_mv y ccy nLy (some ty) ci 2) (hlk : Cond.methodLink own idx y ∈ q_big) (hkd : q_KD o = .inl ci) (hrm : f1 + 1 ≤ f2 ∧ 8 + (nLy + 11) + l1 ≤ l2) (hcat : (st.map fun v => v.category).sum ≤ 8) (hd : decode cc pc = .ok (.invokevirtual idx, 3)) (hp : pc + 3 = pc2)
    (k2 : ∀ r2 σ2, q_G w cx nL ret pc2 L (.int r2 :: st) σ2 (kk r2 σ2)) : q_G w cx nL ret pc L (a2 :: a1 :: q_rf w o :: st) σ (q_call fo kk) := by
  intro r σ' h
  cases e : fo with
  | none => rw [e] at h; cases h
  | some p =>
    obtain ⟨r1, σ1⟩ := p
    rw [e] at h
    exact j_callV (As := [a1, a2]) hc (hM r1 σ1 e) hmv hlk hkd (q_KD_lt hkd) rfl rfl ⟨rfl, rfl, hrm⟩ ⟨Nat.le_refl _, Nat.le_refl _⟩ hcat hd hp (k2 r1 σ1 r σ' h)
theorem g_callV2v {w : q_Wd} {cx : q_Cx} {own : String} {cc : ByteArray} {nL : Nat} {ret : Option FieldType} {pc pc2 : Nat} {L : List (Option Value)} {st : List Value} {σ : q_Sto} {idx o ci nLy f1 l1 f2 l2 : Nat} {y : MethodName}  {ccy : ByteArray}  {a1 a2 : Value} {fo : Option (Int32 × q_Sto)} {kk : q_Sto → Option (Int32 × q_Sto)} (hc : q_ok w cx own cc nL ret (q_rm f2 l2)) (hM : q_C cx.2.1 w y ccy nLy none (q_rm f1 l1) (q_rf w o :: [a1, a2]) σ fo) (hmv : q_mv y ccy nLy (none) ci 2) (hlk : Cond.methodLink own idx y ∈ q_big) (hkd : q_KD o = .inl ci) (hrm : f1 + 1 ≤ f2 ∧ 8 + (nLy + 11) + l1 ≤ l2) (hcat : (st.map fun v => v.category).sum ≤ 8) (hd : decode cc pc = .ok (.invokevirtual idx, 3)) (hp : pc + 3 = pc2)
    (k2 : ∀ σ2, q_G w cx nL ret pc2 L st σ2 (kk σ2)) : q_G w cx nL ret pc L (a2 :: a1 :: q_rf w o :: st) σ (q_callv fo kk) := by
  intro r σ' h
  cases e : fo with
  | none => rw [e] at h; cases h
  | some p =>
    obtain ⟨r1, σ1⟩ := p
    rw [e] at h
    exact j_callV (As := [a1, a2]) hc (hM r1 σ1 e) hmv hlk hkd (q_KD_lt hkd) rfl rfl ⟨rfl, rfl, hrm⟩ ⟨Nat.le_refl _, Nat.le_refl _⟩ hcat hd hp (k2 σ1 r σ' h)
theorem g_callV3 {w : q_Wd} {cx : q_Cx} {own : String} {cc : ByteArray} {nL : Nat} {ret : Option FieldType} {pc pc2 : Nat} {L : List (Option Value)} {st : List Value} {σ : q_Sto} {idx o ci nLy f1 l1 f2 l2 : Nat} {y : MethodName}  {ccy : ByteArray} {ty : FieldType} {a1 a2 a3 : Value} {fo : Option (Int32 × q_Sto)} {kk : Int32 → q_Sto → Option (Int32 × q_Sto)} (hc : q_ok w cx own cc nL ret (q_rm f2 l2)) (hM : q_C cx.2.1 w y ccy nLy (some ty) (q_rm f1 l1) (q_rf w o :: [a1, a2, a3]) σ fo) (hmv : q_mv y ccy nLy (some ty) ci 3) (hlk : Cond.methodLink own idx y ∈ q_big) (hkd : q_KD o = .inl ci) (hrm : f1 + 1 ≤ f2 ∧ 8 + (nLy + 11) + l1 ≤ l2) (hcat : (st.map fun v => v.category).sum ≤ 8) (hd : decode cc pc = .ok (.invokevirtual idx, 3)) (hp : pc + 3 = pc2)
    (k2 : ∀ r2 σ2, q_G w cx nL ret pc2 L (.int r2 :: st) σ2 (kk r2 σ2)) : q_G w cx nL ret pc L (a3 :: a2 :: a1 :: q_rf w o :: st) σ (q_call fo kk) := by
  intro r σ' h
  cases e : fo with
  | none => rw [e] at h; cases h
  | some p =>
    obtain ⟨r1, σ1⟩ := p
    rw [e] at h
    exact j_callV (As := [a1, a2, a3]) hc (hM r1 σ1 e) hmv hlk hkd (q_KD_lt hkd) rfl rfl ⟨rfl, rfl, hrm⟩ ⟨Nat.le_refl _, Nat.le_refl _⟩ hcat hd hp (k2 r1 σ1 r σ' h)
theorem g_callV3v {w : q_Wd} {cx : q_Cx} {own : String} {cc : ByteArray} {nL : Nat} {ret : Option FieldType} {pc pc2 : Nat} {L : List (Option Value)} {st : List Value} {σ : q_Sto} {idx o ci nLy f1 l1 f2 l2 : Nat} {y : MethodName}  {ccy : ByteArray}  {a1 a2 a3 : Value} {fo : Option (Int32 × q_Sto)} {kk : q_Sto → Option (Int32 × q_Sto)} (hc : q_ok w cx own cc nL ret (q_rm f2 l2)) (hM : q_C cx.2.1 w y ccy nLy none (q_rm f1 l1) (q_rf w o :: [a1, a2, a3]) σ fo) (hmv : q_mv y ccy nLy (none) ci 3) (hlk : Cond.methodLink own idx y ∈ q_big) (hkd : q_KD o = .inl ci) (hrm : f1 + 1 ≤ f2 ∧ 8 + (nLy + 11) + l1 ≤ l2) (hcat : (st.map fun v => v.category).sum ≤ 8) (hd : decode cc pc = .ok (.invokevirtual idx, 3)) (hp : pc + 3 = pc2)
    (k2 : ∀ σ2, q_G w cx nL ret pc2 L st σ2 (kk σ2)) : q_G w cx nL ret pc L (a3 :: a2 :: a1 :: q_rf w o :: st) σ (q_callv fo kk) := by
  intro r σ' h
  cases e : fo with
  | none => rw [e] at h; cases h
  | some p =>
    obtain ⟨r1, σ1⟩ := p
    rw [e] at h
    exact j_callV (As := [a1, a2, a3]) hc (hM r1 σ1 e) hmv hlk hkd (q_KD_lt hkd) rfl rfl ⟨rfl, rfl, hrm⟩ ⟨Nat.le_refl _, Nat.le_refl _⟩ hcat hd hp (k2 σ1 r σ' h)
theorem g_callV4 {w : q_Wd} {cx : q_Cx} {own : String} {cc : ByteArray} {nL : Nat} {ret : Option FieldType} {pc pc2 : Nat} {L : List (Option Value)} {st : List Value} {σ : q_Sto} {idx o ci nLy f1 l1 f2 l2 : Nat} {y : MethodName}  {ccy : ByteArray} {ty : FieldType} {a1 a2 a3 a4 : Value} {fo : Option (Int32 × q_Sto)} {kk : Int32 → q_Sto → Option (Int32 × q_Sto)} (hc : q_ok w cx own cc nL ret (q_rm f2 l2)) (hM : q_C cx.2.1 w y ccy nLy (some ty) (q_rm f1 l1) (q_rf w o :: [a1, a2, a3, a4]) σ fo) (hmv : q_mv y ccy nLy (some ty) ci 4) (hlk : Cond.methodLink own idx y ∈ q_big) (hkd : q_KD o = .inl ci) (hrm : f1 + 1 ≤ f2 ∧ 8 + (nLy + 11) + l1 ≤ l2) (hcat : (st.map fun v => v.category).sum ≤ 8) (hd : decode cc pc = .ok (.invokevirtual idx, 3)) (hp : pc + 3 = pc2)
    (k2 : ∀ r2 σ2, q_G w cx nL ret pc2 L (.int r2 :: st) σ2 (kk r2 σ2)) : q_G w cx nL ret pc L (a4 :: a3 :: a2 :: a1 :: q_rf w o :: st) σ (q_call fo kk) := by
  intro r σ' h
  cases e : fo with
  | none => rw [e] at h; cases h
  | some p =>
    obtain ⟨r1, σ1⟩ := p
    rw [e] at h
    exact j_callV (As := [a1, a2, a3, a4]) hc (hM r1 σ1 e) hmv hlk hkd (q_KD_lt hkd) rfl rfl ⟨rfl, rfl, hrm⟩ ⟨Nat.le_refl _, Nat.le_refl _⟩ hcat hd hp (k2 r1 σ1 r σ' h)
theorem g_callV4v {w : q_Wd} {cx : q_Cx} {own : String} {cc : ByteArray} {nL : Nat} {ret : Option FieldType} {pc pc2 : Nat} {L : List (Option Value)} {st : List Value} {σ : q_Sto} {idx o ci nLy f1 l1 f2 l2 : Nat} {y : MethodName}  {ccy : ByteArray}  {a1 a2 a3 a4 : Value} {fo : Option (Int32 × q_Sto)} {kk : q_Sto → Option (Int32 × q_Sto)} (hc : q_ok w cx own cc nL ret (q_rm f2 l2)) (hM : q_C cx.2.1 w y ccy nLy none (q_rm f1 l1) (q_rf w o :: [a1, a2, a3, a4]) σ fo) (hmv : q_mv y ccy nLy (none) ci 4) (hlk : Cond.methodLink own idx y ∈ q_big) (hkd : q_KD o = .inl ci) (hrm : f1 + 1 ≤ f2 ∧ 8 + (nLy + 11) + l1 ≤ l2) (hcat : (st.map fun v => v.category).sum ≤ 8) (hd : decode cc pc = .ok (.invokevirtual idx, 3)) (hp : pc + 3 = pc2)
    (k2 : ∀ σ2, q_G w cx nL ret pc2 L st σ2 (kk σ2)) : q_G w cx nL ret pc L (a4 :: a3 :: a2 :: a1 :: q_rf w o :: st) σ (q_callv fo kk) := by
  intro r σ' h
  cases e : fo with
  | none => rw [e] at h; cases h
  | some p =>
    obtain ⟨r1, σ1⟩ := p
    rw [e] at h
    exact j_callV (As := [a1, a2, a3, a4]) hc (hM r1 σ1 e) hmv hlk hkd (q_KD_lt hkd) rfl rfl ⟨rfl, rfl, hrm⟩ ⟨Nat.le_refl _, Nat.le_refl _⟩ hcat hd hp (k2 σ1 r σ' h)
theorem g_callV5 {w : q_Wd} {cx : q_Cx} {own : String} {cc : ByteArray} {nL : Nat} {ret : Option FieldType} {pc pc2 : Nat} {L : List (Option Value)} {st : List Value} {σ : q_Sto} {idx o ci nLy f1 l1 f2 l2 : Nat} {y : MethodName}  {ccy : ByteArray} {ty : FieldType} {a1 a2 a3 a4 a5 : Value} {fo : Option (Int32 × q_Sto)} {kk : Int32 → q_Sto → Option (Int32 × q_Sto)} (hc : q_ok w cx own cc nL ret (q_rm f2 l2)) (hM : q_C cx.2.1 w y ccy nLy (some ty) (q_rm f1 l1) (q_rf w o :: [a1, a2, a3, a4, a5]) σ fo) (hmv : q_mv y ccy nLy (some ty) ci 5) (hlk : Cond.methodLink own idx y ∈ q_big) (hkd : q_KD o = .inl ci) (hrm : f1 + 1 ≤ f2 ∧ 8 + (nLy + 11) + l1 ≤ l2) (hcat : (st.map fun v => v.category).sum ≤ 8) (hd : decode cc pc = .ok (.invokevirtual idx, 3)) (hp : pc + 3 = pc2)
    (k2 : ∀ r2 σ2, q_G w cx nL ret pc2 L (.int r2 :: st) σ2 (kk r2 σ2)) : q_G w cx nL ret pc L (a5 :: a4 :: a3 :: a2 :: a1 :: q_rf w o :: st) σ (q_call fo kk) := by
  intro r σ' h
  cases e : fo with
  | none => rw [e] at h; cases h
  | some p =>
    obtain ⟨r1, σ1⟩ := p
    rw [e] at h
    exact j_callV (As := [a1, a2, a3, a4, a5]) hc (hM r1 σ1 e) hmv hlk hkd (q_KD_lt hkd) rfl rfl ⟨rfl, rfl, hrm⟩ ⟨Nat.le_refl _, Nat.le_refl _⟩ hcat hd hp (k2 r1 σ1 r σ' h)
theorem g_callV5v {w : q_Wd} {cx : q_Cx} {own : String} {cc : ByteArray} {nL : Nat} {ret : Option FieldType} {pc pc2 : Nat} {L : List (Option Value)} {st : List Value} {σ : q_Sto} {idx o ci nLy f1 l1 f2 l2 : Nat} {y : MethodName}  {ccy : ByteArray}  {a1 a2 a3 a4 a5 : Value} {fo : Option (Int32 × q_Sto)} {kk : q_Sto → Option (Int32 × q_Sto)} (hc : q_ok w cx own cc nL ret (q_rm f2 l2)) (hM : q_C cx.2.1 w y ccy nLy none (q_rm f1 l1) (q_rf w o :: [a1, a2, a3, a4, a5]) σ fo) (hmv : q_mv y ccy nLy (none) ci 5) (hlk : Cond.methodLink own idx y ∈ q_big) (hkd : q_KD o = .inl ci) (hrm : f1 + 1 ≤ f2 ∧ 8 + (nLy + 11) + l1 ≤ l2) (hcat : (st.map fun v => v.category).sum ≤ 8) (hd : decode cc pc = .ok (.invokevirtual idx, 3)) (hp : pc + 3 = pc2)
    (k2 : ∀ σ2, q_G w cx nL ret pc2 L st σ2 (kk σ2)) : q_G w cx nL ret pc L (a5 :: a4 :: a3 :: a2 :: a1 :: q_rf w o :: st) σ (q_callv fo kk) := by
  intro r σ' h
  cases e : fo with
  | none => rw [e] at h; cases h
  | some p =>
    obtain ⟨r1, σ1⟩ := p
    rw [e] at h
    exact j_callV (As := [a1, a2, a3, a4, a5]) hc (hM r1 σ1 e) hmv hlk hkd (q_KD_lt hkd) rfl rfl ⟨rfl, rfl, hrm⟩ ⟨Nat.le_refl _, Nat.le_refl _⟩ hcat hd hp (k2 σ1 r σ' h)
theorem g_callS0 {w : q_Wd} {cx : q_Cx} {own : String} {cc : ByteArray} {nL : Nat} {ret : Option FieldType} {pc pc2 : Nat} {L : List (Option Value)} {st : List Value} {σ : q_Sto} {idx nLy f1 l1 f2 l2 : Nat} {y : MethodName}  {ccy : ByteArray} {ty : FieldType}  {fo : Option (Int32 × q_Sto)} {kk : Int32 → q_Sto → Option (Int32 × q_Sto)} (hc : q_ok w cx own cc nL ret (q_rm f2 l2)) (hM : q_C cx.2.1 w y ccy nLy (some ty) (q_rm f1 l1) [] σ fo) (hmv : q_mst y ccy nLy (some ty) 0) (hlk : Cond.methodLink own idx y ∈ q_big) (hrm : f1 + 1 ≤ f2 ∧ 8 + (nLy + 11) + l1 ≤ l2) (hcat : (st.map fun v => v.category).sum ≤ 8) (hd : decode cc pc = .ok (.invokestatic idx, 3)) (hp : pc + 3 = pc2)
    (k2 : ∀ r2 σ2, q_G w cx nL ret pc2 L (.int r2 :: st) σ2 (kk r2 σ2)) : q_G w cx nL ret pc L (st) σ (q_call fo kk) := by
  intro r σ' h
  cases e : fo with
  | none => rw [e] at h; cases h
  | some p =>
    obtain ⟨r1, σ1⟩ := p
    rw [e] at h
    exact j_callS (As := []) hc (hM r1 σ1 e) hmv hlk rfl rfl ⟨rfl, rfl, hrm⟩ ⟨Nat.le_refl _, Nat.le_refl _⟩ hcat hd hp (k2 r1 σ1 r σ' h)
theorem g_callS0v {w : q_Wd} {cx : q_Cx} {own : String} {cc : ByteArray} {nL : Nat} {ret : Option FieldType} {pc pc2 : Nat} {L : List (Option Value)} {st : List Value} {σ : q_Sto} {idx nLy f1 l1 f2 l2 : Nat} {y : MethodName}  {ccy : ByteArray}   {fo : Option (Int32 × q_Sto)} {kk : q_Sto → Option (Int32 × q_Sto)} (hc : q_ok w cx own cc nL ret (q_rm f2 l2)) (hM : q_C cx.2.1 w y ccy nLy none (q_rm f1 l1) [] σ fo) (hmv : q_mst y ccy nLy (none) 0) (hlk : Cond.methodLink own idx y ∈ q_big) (hrm : f1 + 1 ≤ f2 ∧ 8 + (nLy + 11) + l1 ≤ l2) (hcat : (st.map fun v => v.category).sum ≤ 8) (hd : decode cc pc = .ok (.invokestatic idx, 3)) (hp : pc + 3 = pc2)
    (k2 : ∀ σ2, q_G w cx nL ret pc2 L st σ2 (kk σ2)) : q_G w cx nL ret pc L (st) σ (q_callv fo kk) := by
  intro r σ' h
  cases e : fo with
  | none => rw [e] at h; cases h
  | some p =>
    obtain ⟨r1, σ1⟩ := p
    rw [e] at h
    exact j_callS (As := []) hc (hM r1 σ1 e) hmv hlk rfl rfl ⟨rfl, rfl, hrm⟩ ⟨Nat.le_refl _, Nat.le_refl _⟩ hcat hd hp (k2 σ1 r σ' h)
theorem g_callS1 {w : q_Wd} {cx : q_Cx} {own : String} {cc : ByteArray} {nL : Nat} {ret : Option FieldType} {pc pc2 : Nat} {L : List (Option Value)} {st : List Value} {σ : q_Sto} {idx nLy f1 l1 f2 l2 : Nat} {y : MethodName}  {ccy : ByteArray} {ty : FieldType} {a1 : Value} {fo : Option (Int32 × q_Sto)} {kk : Int32 → q_Sto → Option (Int32 × q_Sto)} (hc : q_ok w cx own cc nL ret (q_rm f2 l2)) (hM : q_C cx.2.1 w y ccy nLy (some ty) (q_rm f1 l1) [a1] σ fo) (hmv : q_mst y ccy nLy (some ty) 1) (hlk : Cond.methodLink own idx y ∈ q_big) (hrm : f1 + 1 ≤ f2 ∧ 8 + (nLy + 11) + l1 ≤ l2) (hcat : (st.map fun v => v.category).sum ≤ 8) (hd : decode cc pc = .ok (.invokestatic idx, 3)) (hp : pc + 3 = pc2)
    (k2 : ∀ r2 σ2, q_G w cx nL ret pc2 L (.int r2 :: st) σ2 (kk r2 σ2)) : q_G w cx nL ret pc L (a1 :: st) σ (q_call fo kk) := by
  intro r σ' h
  cases e : fo with
  | none => rw [e] at h; cases h
  | some p =>
    obtain ⟨r1, σ1⟩ := p
    rw [e] at h
    exact j_callS (As := [a1]) hc (hM r1 σ1 e) hmv hlk rfl rfl ⟨rfl, rfl, hrm⟩ ⟨Nat.le_refl _, Nat.le_refl _⟩ hcat hd hp (k2 r1 σ1 r σ' h)
theorem g_callS1v {w : q_Wd} {cx : q_Cx} {own : String} {cc : ByteArray} {nL : Nat} {ret : Option FieldType} {pc pc2 : Nat} {L : List (Option Value)} {st : List Value} {σ : q_Sto} {idx nLy f1 l1 f2 l2 : Nat} {y : MethodName}  {ccy : ByteArray}  {a1 : Value} {fo : Option (Int32 × q_Sto)} {kk : q_Sto → Option (Int32 × q_Sto)} (hc : q_ok w cx own cc nL ret (q_rm f2 l2)) (hM : q_C cx.2.1 w y ccy nLy none (q_rm f1 l1) [a1] σ fo) (hmv : q_mst y ccy nLy (none) 1) (hlk : Cond.methodLink own idx y ∈ q_big) (hrm : f1 + 1 ≤ f2 ∧ 8 + (nLy + 11) + l1 ≤ l2) (hcat : (st.map fun v => v.category).sum ≤ 8) (hd : decode cc pc = .ok (.invokestatic idx, 3)) (hp : pc + 3 = pc2)
    (k2 : ∀ σ2, q_G w cx nL ret pc2 L st σ2 (kk σ2)) : q_G w cx nL ret pc L (a1 :: st) σ (q_callv fo kk) := by
  intro r σ' h
  cases e : fo with
  | none => rw [e] at h; cases h
  | some p =>
    obtain ⟨r1, σ1⟩ := p
    rw [e] at h
    exact j_callS (As := [a1]) hc (hM r1 σ1 e) hmv hlk rfl rfl ⟨rfl, rfl, hrm⟩ ⟨Nat.le_refl _, Nat.le_refl _⟩ hcat hd hp (k2 σ1 r σ' h)
theorem g_callS2 {w : q_Wd} {cx : q_Cx} {own : String} {cc : ByteArray} {nL : Nat} {ret : Option FieldType} {pc pc2 : Nat} {L : List (Option Value)} {st : List Value} {σ : q_Sto} {idx nLy f1 l1 f2 l2 : Nat} {y : MethodName}  {ccy : ByteArray} {ty : FieldType} {a1 a2 : Value} {fo : Option (Int32 × q_Sto)} {kk : Int32 → q_Sto → Option (Int32 × q_Sto)} (hc : q_ok w cx own cc nL ret (q_rm f2 l2)) (hM : q_C cx.2.1 w y ccy nLy (some ty) (q_rm f1 l1) [a1, a2] σ fo) (hmv : q_mst y ccy nLy (some ty) 2) (hlk : Cond.methodLink own idx y ∈ q_big) (hrm : f1 + 1 ≤ f2 ∧ 8 + (nLy + 11) + l1 ≤ l2) (hcat : (st.map fun v => v.category).sum ≤ 8) (hd : decode cc pc = .ok (.invokestatic idx, 3)) (hp : pc + 3 = pc2)
    (k2 : ∀ r2 σ2, q_G w cx nL ret pc2 L (.int r2 :: st) σ2 (kk r2 σ2)) : q_G w cx nL ret pc L (a2 :: a1 :: st) σ (q_call fo kk) := by
  intro r σ' h
  cases e : fo with
  | none => rw [e] at h; cases h
  | some p =>
    obtain ⟨r1, σ1⟩ := p
    rw [e] at h
    exact j_callS (As := [a1, a2]) hc (hM r1 σ1 e) hmv hlk rfl rfl ⟨rfl, rfl, hrm⟩ ⟨Nat.le_refl _, Nat.le_refl _⟩ hcat hd hp (k2 r1 σ1 r σ' h)
theorem g_callS2v {w : q_Wd} {cx : q_Cx} {own : String} {cc : ByteArray} {nL : Nat} {ret : Option FieldType} {pc pc2 : Nat} {L : List (Option Value)} {st : List Value} {σ : q_Sto} {idx nLy f1 l1 f2 l2 : Nat} {y : MethodName}  {ccy : ByteArray}  {a1 a2 : Value} {fo : Option (Int32 × q_Sto)} {kk : q_Sto → Option (Int32 × q_Sto)} (hc : q_ok w cx own cc nL ret (q_rm f2 l2)) (hM : q_C cx.2.1 w y ccy nLy none (q_rm f1 l1) [a1, a2] σ fo) (hmv : q_mst y ccy nLy (none) 2) (hlk : Cond.methodLink own idx y ∈ q_big) (hrm : f1 + 1 ≤ f2 ∧ 8 + (nLy + 11) + l1 ≤ l2) (hcat : (st.map fun v => v.category).sum ≤ 8) (hd : decode cc pc = .ok (.invokestatic idx, 3)) (hp : pc + 3 = pc2)
    (k2 : ∀ σ2, q_G w cx nL ret pc2 L st σ2 (kk σ2)) : q_G w cx nL ret pc L (a2 :: a1 :: st) σ (q_callv fo kk) := by
  intro r σ' h
  cases e : fo with
  | none => rw [e] at h; cases h
  | some p =>
    obtain ⟨r1, σ1⟩ := p
    rw [e] at h
    exact j_callS (As := [a1, a2]) hc (hM r1 σ1 e) hmv hlk rfl rfl ⟨rfl, rfl, hrm⟩ ⟨Nat.le_refl _, Nat.le_refl _⟩ hcat hd hp (k2 σ1 r σ' h)
theorem g_callS3 {w : q_Wd} {cx : q_Cx} {own : String} {cc : ByteArray} {nL : Nat} {ret : Option FieldType} {pc pc2 : Nat} {L : List (Option Value)} {st : List Value} {σ : q_Sto} {idx nLy f1 l1 f2 l2 : Nat} {y : MethodName}  {ccy : ByteArray} {ty : FieldType} {a1 a2 a3 : Value} {fo : Option (Int32 × q_Sto)} {kk : Int32 → q_Sto → Option (Int32 × q_Sto)} (hc : q_ok w cx own cc nL ret (q_rm f2 l2)) (hM : q_C cx.2.1 w y ccy nLy (some ty) (q_rm f1 l1) [a1, a2, a3] σ fo) (hmv : q_mst y ccy nLy (some ty) 3) (hlk : Cond.methodLink own idx y ∈ q_big) (hrm : f1 + 1 ≤ f2 ∧ 8 + (nLy + 11) + l1 ≤ l2) (hcat : (st.map fun v => v.category).sum ≤ 8) (hd : decode cc pc = .ok (.invokestatic idx, 3)) (hp : pc + 3 = pc2)
    (k2 : ∀ r2 σ2, q_G w cx nL ret pc2 L (.int r2 :: st) σ2 (kk r2 σ2)) : q_G w cx nL ret pc L (a3 :: a2 :: a1 :: st) σ (q_call fo kk) := by
  intro r σ' h
  cases e : fo with
  | none => rw [e] at h; cases h
  | some p =>
    obtain ⟨r1, σ1⟩ := p
    rw [e] at h
    exact j_callS (As := [a1, a2, a3]) hc (hM r1 σ1 e) hmv hlk rfl rfl ⟨rfl, rfl, hrm⟩ ⟨Nat.le_refl _, Nat.le_refl _⟩ hcat hd hp (k2 r1 σ1 r σ' h)
theorem g_callS3v {w : q_Wd} {cx : q_Cx} {own : String} {cc : ByteArray} {nL : Nat} {ret : Option FieldType} {pc pc2 : Nat} {L : List (Option Value)} {st : List Value} {σ : q_Sto} {idx nLy f1 l1 f2 l2 : Nat} {y : MethodName}  {ccy : ByteArray}  {a1 a2 a3 : Value} {fo : Option (Int32 × q_Sto)} {kk : q_Sto → Option (Int32 × q_Sto)} (hc : q_ok w cx own cc nL ret (q_rm f2 l2)) (hM : q_C cx.2.1 w y ccy nLy none (q_rm f1 l1) [a1, a2, a3] σ fo) (hmv : q_mst y ccy nLy (none) 3) (hlk : Cond.methodLink own idx y ∈ q_big) (hrm : f1 + 1 ≤ f2 ∧ 8 + (nLy + 11) + l1 ≤ l2) (hcat : (st.map fun v => v.category).sum ≤ 8) (hd : decode cc pc = .ok (.invokestatic idx, 3)) (hp : pc + 3 = pc2)
    (k2 : ∀ σ2, q_G w cx nL ret pc2 L st σ2 (kk σ2)) : q_G w cx nL ret pc L (a3 :: a2 :: a1 :: st) σ (q_callv fo kk) := by
  intro r σ' h
  cases e : fo with
  | none => rw [e] at h; cases h
  | some p =>
    obtain ⟨r1, σ1⟩ := p
    rw [e] at h
    exact j_callS (As := [a1, a2, a3]) hc (hM r1 σ1 e) hmv hlk rfl rfl ⟨rfl, rfl, hrm⟩ ⟨Nat.le_refl _, Nat.le_refl _⟩ hcat hd hp (k2 σ1 r σ' h)
theorem g_callS4 {w : q_Wd} {cx : q_Cx} {own : String} {cc : ByteArray} {nL : Nat} {ret : Option FieldType} {pc pc2 : Nat} {L : List (Option Value)} {st : List Value} {σ : q_Sto} {idx nLy f1 l1 f2 l2 : Nat} {y : MethodName}  {ccy : ByteArray} {ty : FieldType} {a1 a2 a3 a4 : Value} {fo : Option (Int32 × q_Sto)} {kk : Int32 → q_Sto → Option (Int32 × q_Sto)} (hc : q_ok w cx own cc nL ret (q_rm f2 l2)) (hM : q_C cx.2.1 w y ccy nLy (some ty) (q_rm f1 l1) [a1, a2, a3, a4] σ fo) (hmv : q_mst y ccy nLy (some ty) 4) (hlk : Cond.methodLink own idx y ∈ q_big) (hrm : f1 + 1 ≤ f2 ∧ 8 + (nLy + 11) + l1 ≤ l2) (hcat : (st.map fun v => v.category).sum ≤ 8) (hd : decode cc pc = .ok (.invokestatic idx, 3)) (hp : pc + 3 = pc2)
    (k2 : ∀ r2 σ2, q_G w cx nL ret pc2 L (.int r2 :: st) σ2 (kk r2 σ2)) : q_G w cx nL ret pc L (a4 :: a3 :: a2 :: a1 :: st) σ (q_call fo kk) := by
  intro r σ' h
  cases e : fo with
  | none => rw [e] at h; cases h
  | some p =>
    obtain ⟨r1, σ1⟩ := p
    rw [e] at h
    exact j_callS (As := [a1, a2, a3, a4]) hc (hM r1 σ1 e) hmv hlk rfl rfl ⟨rfl, rfl, hrm⟩ ⟨Nat.le_refl _, Nat.le_refl _⟩ hcat hd hp (k2 r1 σ1 r σ' h)
theorem g_callS4v {w : q_Wd} {cx : q_Cx} {own : String} {cc : ByteArray} {nL : Nat} {ret : Option FieldType} {pc pc2 : Nat} {L : List (Option Value)} {st : List Value} {σ : q_Sto} {idx nLy f1 l1 f2 l2 : Nat} {y : MethodName}  {ccy : ByteArray}  {a1 a2 a3 a4 : Value} {fo : Option (Int32 × q_Sto)} {kk : q_Sto → Option (Int32 × q_Sto)} (hc : q_ok w cx own cc nL ret (q_rm f2 l2)) (hM : q_C cx.2.1 w y ccy nLy none (q_rm f1 l1) [a1, a2, a3, a4] σ fo) (hmv : q_mst y ccy nLy (none) 4) (hlk : Cond.methodLink own idx y ∈ q_big) (hrm : f1 + 1 ≤ f2 ∧ 8 + (nLy + 11) + l1 ≤ l2) (hcat : (st.map fun v => v.category).sum ≤ 8) (hd : decode cc pc = .ok (.invokestatic idx, 3)) (hp : pc + 3 = pc2)
    (k2 : ∀ σ2, q_G w cx nL ret pc2 L st σ2 (kk σ2)) : q_G w cx nL ret pc L (a4 :: a3 :: a2 :: a1 :: st) σ (q_callv fo kk) := by
  intro r σ' h
  cases e : fo with
  | none => rw [e] at h; cases h
  | some p =>
    obtain ⟨r1, σ1⟩ := p
    rw [e] at h
    exact j_callS (As := [a1, a2, a3, a4]) hc (hM r1 σ1 e) hmv hlk rfl rfl ⟨rfl, rfl, hrm⟩ ⟨Nat.le_refl _, Nat.le_refl _⟩ hcat hd hp (k2 σ1 r σ' h)
theorem g_callS5 {w : q_Wd} {cx : q_Cx} {own : String} {cc : ByteArray} {nL : Nat} {ret : Option FieldType} {pc pc2 : Nat} {L : List (Option Value)} {st : List Value} {σ : q_Sto} {idx nLy f1 l1 f2 l2 : Nat} {y : MethodName}  {ccy : ByteArray} {ty : FieldType} {a1 a2 a3 a4 a5 : Value} {fo : Option (Int32 × q_Sto)} {kk : Int32 → q_Sto → Option (Int32 × q_Sto)} (hc : q_ok w cx own cc nL ret (q_rm f2 l2)) (hM : q_C cx.2.1 w y ccy nLy (some ty) (q_rm f1 l1) [a1, a2, a3, a4, a5] σ fo) (hmv : q_mst y ccy nLy (some ty) 5) (hlk : Cond.methodLink own idx y ∈ q_big) (hrm : f1 + 1 ≤ f2 ∧ 8 + (nLy + 11) + l1 ≤ l2) (hcat : (st.map fun v => v.category).sum ≤ 8) (hd : decode cc pc = .ok (.invokestatic idx, 3)) (hp : pc + 3 = pc2)
    (k2 : ∀ r2 σ2, q_G w cx nL ret pc2 L (.int r2 :: st) σ2 (kk r2 σ2)) : q_G w cx nL ret pc L (a5 :: a4 :: a3 :: a2 :: a1 :: st) σ (q_call fo kk) := by
  intro r σ' h
  cases e : fo with
  | none => rw [e] at h; cases h
  | some p =>
    obtain ⟨r1, σ1⟩ := p
    rw [e] at h
    exact j_callS (As := [a1, a2, a3, a4, a5]) hc (hM r1 σ1 e) hmv hlk rfl rfl ⟨rfl, rfl, hrm⟩ ⟨Nat.le_refl _, Nat.le_refl _⟩ hcat hd hp (k2 r1 σ1 r σ' h)
theorem g_callS5v {w : q_Wd} {cx : q_Cx} {own : String} {cc : ByteArray} {nL : Nat} {ret : Option FieldType} {pc pc2 : Nat} {L : List (Option Value)} {st : List Value} {σ : q_Sto} {idx nLy f1 l1 f2 l2 : Nat} {y : MethodName}  {ccy : ByteArray}  {a1 a2 a3 a4 a5 : Value} {fo : Option (Int32 × q_Sto)} {kk : q_Sto → Option (Int32 × q_Sto)} (hc : q_ok w cx own cc nL ret (q_rm f2 l2)) (hM : q_C cx.2.1 w y ccy nLy none (q_rm f1 l1) [a1, a2, a3, a4, a5] σ fo) (hmv : q_mst y ccy nLy (none) 5) (hlk : Cond.methodLink own idx y ∈ q_big) (hrm : f1 + 1 ≤ f2 ∧ 8 + (nLy + 11) + l1 ≤ l2) (hcat : (st.map fun v => v.category).sum ≤ 8) (hd : decode cc pc = .ok (.invokestatic idx, 3)) (hp : pc + 3 = pc2)
    (k2 : ∀ σ2, q_G w cx nL ret pc2 L st σ2 (kk σ2)) : q_G w cx nL ret pc L (a5 :: a4 :: a3 :: a2 :: a1 :: st) σ (q_callv fo kk) := by
  intro r σ' h
  cases e : fo with
  | none => rw [e] at h; cases h
  | some p =>
    obtain ⟨r1, σ1⟩ := p
    rw [e] at h
    exact j_callS (As := [a1, a2, a3, a4, a5]) hc (hM r1 σ1 e) hmv hlk rfl rfl ⟨rfl, rfl, hrm⟩ ⟨Nat.le_refl _, Nat.le_refl _⟩ hcat hd hp (k2 σ1 r σ' h)
theorem g_callSN1 {w : q_Wd} {cx : q_Cx} {own : String} {cc : ByteArray} {nL : Nat} {ret : Option FieldType} {pc pc2 : Nat} {L : List (Option Value)} {st : List Value} {σ : q_Sto} {idx nLy f1 l1 f2 l2 : Nat} {y : MethodName} {host : String} {ccy : ByteArray} {ty : FieldType} {a1 : Value} {fo : Option (Int32 × q_Sto)} {kk : Int32 → q_Sto → Option (Int32 × q_Sto)} (hc : q_ok w cx own cc nL ret (q_rm f2 l2)) (hM : q_C cx.2.1 w y ccy nLy (some ty) (q_rm f1 l1) [a1] σ fo) (hmv : q_mst y ccy nLy (some ty) 1) (hlk : (own, idx, y, host) ∈ q_nests) (hrm : f1 + 1 ≤ f2 ∧ 8 + (nLy + 11) + l1 ≤ l2) (hcat : (st.map fun v => v.category).sum ≤ 8) (hd : decode cc pc = .ok (.invokestatic idx, 3)) (hp : pc + 3 = pc2)
    (k2 : ∀ r2 σ2, q_G w cx nL ret pc2 L (.int r2 :: st) σ2 (kk r2 σ2)) : q_G w cx nL ret pc L (a1 :: st) σ (q_call fo kk) := by
  intro r σ' h
  cases e : fo with
  | none => rw [e] at h; cases h
  | some p =>
    obtain ⟨r1, σ1⟩ := p
    rw [e] at h
    exact j_callSN (As := [a1]) hc (hM r1 σ1 e) hmv hlk rfl rfl ⟨rfl, rfl, hrm⟩ ⟨Nat.le_refl _, Nat.le_refl _⟩ hcat hd hp (k2 r1 σ1 r σ' h)
theorem g_callSN1v {w : q_Wd} {cx : q_Cx} {own : String} {cc : ByteArray} {nL : Nat} {ret : Option FieldType} {pc pc2 : Nat} {L : List (Option Value)} {st : List Value} {σ : q_Sto} {idx nLy f1 l1 f2 l2 : Nat} {y : MethodName} {host : String} {ccy : ByteArray}  {a1 : Value} {fo : Option (Int32 × q_Sto)} {kk : q_Sto → Option (Int32 × q_Sto)} (hc : q_ok w cx own cc nL ret (q_rm f2 l2)) (hM : q_C cx.2.1 w y ccy nLy none (q_rm f1 l1) [a1] σ fo) (hmv : q_mst y ccy nLy (none) 1) (hlk : (own, idx, y, host) ∈ q_nests) (hrm : f1 + 1 ≤ f2 ∧ 8 + (nLy + 11) + l1 ≤ l2) (hcat : (st.map fun v => v.category).sum ≤ 8) (hd : decode cc pc = .ok (.invokestatic idx, 3)) (hp : pc + 3 = pc2)
    (k2 : ∀ σ2, q_G w cx nL ret pc2 L st σ2 (kk σ2)) : q_G w cx nL ret pc L (a1 :: st) σ (q_callv fo kk) := by
  intro r σ' h
  cases e : fo with
  | none => rw [e] at h; cases h
  | some p =>
    obtain ⟨r1, σ1⟩ := p
    rw [e] at h
    exact j_callSN (As := [a1]) hc (hM r1 σ1 e) hmv hlk rfl rfl ⟨rfl, rfl, hrm⟩ ⟨Nat.le_refl _, Nat.le_refl _⟩ hcat hd hp (k2 σ1 r σ' h)
theorem g_callSN2 {w : q_Wd} {cx : q_Cx} {own : String} {cc : ByteArray} {nL : Nat} {ret : Option FieldType} {pc pc2 : Nat} {L : List (Option Value)} {st : List Value} {σ : q_Sto} {idx nLy f1 l1 f2 l2 : Nat} {y : MethodName} {host : String} {ccy : ByteArray} {ty : FieldType} {a1 a2 : Value} {fo : Option (Int32 × q_Sto)} {kk : Int32 → q_Sto → Option (Int32 × q_Sto)} (hc : q_ok w cx own cc nL ret (q_rm f2 l2)) (hM : q_C cx.2.1 w y ccy nLy (some ty) (q_rm f1 l1) [a1, a2] σ fo) (hmv : q_mst y ccy nLy (some ty) 2) (hlk : (own, idx, y, host) ∈ q_nests) (hrm : f1 + 1 ≤ f2 ∧ 8 + (nLy + 11) + l1 ≤ l2) (hcat : (st.map fun v => v.category).sum ≤ 8) (hd : decode cc pc = .ok (.invokestatic idx, 3)) (hp : pc + 3 = pc2)
    (k2 : ∀ r2 σ2, q_G w cx nL ret pc2 L (.int r2 :: st) σ2 (kk r2 σ2)) : q_G w cx nL ret pc L (a2 :: a1 :: st) σ (q_call fo kk) := by
  intro r σ' h
  cases e : fo with
  | none => rw [e] at h; cases h
  | some p =>
    obtain ⟨r1, σ1⟩ := p
    rw [e] at h
    exact j_callSN (As := [a1, a2]) hc (hM r1 σ1 e) hmv hlk rfl rfl ⟨rfl, rfl, hrm⟩ ⟨Nat.le_refl _, Nat.le_refl _⟩ hcat hd hp (k2 r1 σ1 r σ' h)
theorem g_callSN2v {w : q_Wd} {cx : q_Cx} {own : String} {cc : ByteArray} {nL : Nat} {ret : Option FieldType} {pc pc2 : Nat} {L : List (Option Value)} {st : List Value} {σ : q_Sto} {idx nLy f1 l1 f2 l2 : Nat} {y : MethodName} {host : String} {ccy : ByteArray}  {a1 a2 : Value} {fo : Option (Int32 × q_Sto)} {kk : q_Sto → Option (Int32 × q_Sto)} (hc : q_ok w cx own cc nL ret (q_rm f2 l2)) (hM : q_C cx.2.1 w y ccy nLy none (q_rm f1 l1) [a1, a2] σ fo) (hmv : q_mst y ccy nLy (none) 2) (hlk : (own, idx, y, host) ∈ q_nests) (hrm : f1 + 1 ≤ f2 ∧ 8 + (nLy + 11) + l1 ≤ l2) (hcat : (st.map fun v => v.category).sum ≤ 8) (hd : decode cc pc = .ok (.invokestatic idx, 3)) (hp : pc + 3 = pc2)
    (k2 : ∀ σ2, q_G w cx nL ret pc2 L st σ2 (kk σ2)) : q_G w cx nL ret pc L (a2 :: a1 :: st) σ (q_callv fo kk) := by
  intro r σ' h
  cases e : fo with
  | none => rw [e] at h; cases h
  | some p =>
    obtain ⟨r1, σ1⟩ := p
    rw [e] at h
    exact j_callSN (As := [a1, a2]) hc (hM r1 σ1 e) hmv hlk rfl rfl ⟨rfl, rfl, hrm⟩ ⟨Nat.le_refl _, Nat.le_refl _⟩ hcat hd hp (k2 σ1 r σ' h)
