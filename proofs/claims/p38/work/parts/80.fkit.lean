/-! THE LAW AND ITS TRAIN: the kit of the functions over the law's own world -/
def x_fk (K : x_Kd) (t : Nat) : Bool := match K with
  | .inl c => (t == 4 && c == 12) || (t == 5 && c == 13)
  | .inr p => t == 3 && p.2 == 0
theorem xs_k_ui {u : x_U} {o k : Nat} {v : Int32} : x_k (x_ui u o k v) = x_k u := rfl
theorem xs_k_ur {u : x_U} {o k v : Nat} : x_k (x_ur u o k v) = x_k u := rfl
theorem xs_k_uc {u : x_U} {σ : q_Sto} : x_k (x_uc u σ) = x_k u := rfl
theorem xs_k_un {u : x_U} {kd : x_Kd} {sl : Nat} {f : Nat → Int32} : x_k (x_un u kd sl f) = x_fU (x_k u) (x_n u) kd := rfl
theorem xs_k_ub {u : x_U} {o : Nat} {f : Nat → Int32} : x_k (x_ub u o f) = x_k u := rfl
theorem xs_r_ui {u : x_U} {o k : Nat} {v : Int32} : x_r (x_ui u o k v) = x_r u := rfl
theorem xs_r_ur {u : x_U} {o k v : Nat} : x_r (x_ur u o k v) = x_up (x_r u) o k v := rfl
theorem xs_r_uc {u : x_U} {σ : q_Sto} : x_r (x_uc u σ) = x_r u := rfl
theorem xs_r_un {u : x_U} {kd : x_Kd} {sl : Nat} {f : Nat → Int32} : x_r (x_un u kd sl f) = x_fU (x_r u) (x_n u) (fun _ => 0) := rfl
theorem xs_r_ub {u : x_U} {o : Nat} {f : Nat → Int32} : x_r (x_ub u o f) = x_r u := rfl
theorem xs_t_ui {u : x_U} {o k : Nat} {v : Int32} : x_t (x_ui u o k v) = x_up (x_t u) o k v := rfl
theorem xs_t_ur {u : x_U} {o k v : Nat} : x_t (x_ur u o k v) = x_t u := rfl
theorem xs_t_uc {u : x_U} {σ : q_Sto} : x_t (x_uc u σ) = x_t u := rfl
theorem xs_t_un {u : x_U} {kd : x_Kd} {sl : Nat} {f : Nat → Int32} : x_t (x_un u kd sl f) = x_fU (x_t u) (x_n u) f := rfl
theorem xs_t_ub {u : x_U} {o : Nat} {f : Nat → Int32} : x_t (x_ub u o f) = x_fU (x_t u) o f := rfl
theorem xs_n_ui {u : x_U} {o k : Nat} {v : Int32} : x_n (x_ui u o k v) = x_n u := rfl
theorem xs_n_ur {u : x_U} {o k v : Nat} : x_n (x_ur u o k v) = x_n u := rfl
theorem xs_n_uc {u : x_U} {σ : q_Sto} : x_n (x_uc u σ) = x_n u := rfl
theorem xs_n_un {u : x_U} {kd : x_Kd} {sl : Nat} {f : Nat → Int32} : x_n (x_un u kd sl f) = x_n u + 1 := rfl
theorem xs_n_ub {u : x_U} {o : Nat} {f : Nat → Int32} : x_n (x_ub u o f) = x_n u := rfl
theorem xs_m_ui {u : x_U} {o k : Nat} {v : Int32} : x_m (x_ui u o k v) = x_m u := rfl
theorem xs_m_ur {u : x_U} {o k v : Nat} : x_m (x_ur u o k v) = x_m u := rfl
theorem xs_m_uc {u : x_U} {σ : q_Sto} : x_m (x_uc u σ) = x_m u := rfl
theorem xs_m_un {u : x_U} {kd : x_Kd} {sl : Nat} {f : Nat → Int32} : x_m (x_un u kd sl f) = x_m u + sl := rfl
theorem xs_m_ub {u : x_U} {o : Nat} {f : Nat → Int32} : x_m (x_ub u o f) = x_m u := rfl
theorem xs_c_ui {u : x_U} {o k : Nat} {v : Int32} : x_c (x_ui u o k v) = x_c u := rfl
theorem xs_c_ur {u : x_U} {o k v : Nat} : x_c (x_ur u o k v) = x_c u := rfl
theorem xs_c_uc {u : x_U} {σ : q_Sto} : x_c (x_uc u σ) = σ := rfl
theorem xs_c_un {u : x_U} {kd : x_Kd} {sl : Nat} {f : Nat → Int32} : x_c (x_un u kd sl f) = x_c u := rfl
theorem xs_c_ub {u : x_U} {o : Nat} {f : Nat → Int32} : x_c (x_ub u o f) = x_c u := rfl
def h_xgi {α : Type} (u : x_U) (o ci j : Nat) (k : Int32 → Option (α × x_U)) (_ : z_Tg k) : Option (α × x_U) := x_gi u o ci j k
theorem p_xgi {α : Type} {u : x_U} {o ci j : Nat} {k : Int32 → Option (α × x_U)} : x_gi u o ci j k = h_xgi u o ci j k (z_tg k) := Eq.trans rfl rfl
theorem h_xgiE {α : Type} {u : x_U} {o ci j : Nat} {k : Int32 → Option (α × x_U)} {tg : z_Tg k} (h : x_k u o = .inl ci) : h_xgi u o ci j k tg = k (x_t u o j) := by
  simp [h_xgi, x_gi, h]
def h_xgr {α : Type} (u : x_U) (o ci j : Nat) (k : Nat → Option (α × x_U)) (_ : z_Tg k) : Option (α × x_U) := x_gr u o ci j k
theorem p_xgr {α : Type} {u : x_U} {o ci j : Nat} {k : Nat → Option (α × x_U)} : x_gr u o ci j k = h_xgr u o ci j k (z_tg k) := Eq.trans rfl rfl
theorem h_xgrE {α : Type} {u : x_U} {o ci j : Nat} {k : Nat → Option (α × x_U)} {tg : z_Tg k} (h : x_k u o = .inl ci) : h_xgr u o ci j k tg = k (x_r u o j) := by
  simp [h_xgr, x_gr, h]
def h_xpi {α : Type} (u : x_U) (o ci j : Nat) (v : Int32) (k : x_U → Option (α × x_U)) (_ : z_Tg k) : Option (α × x_U) := x_pi u o ci j v k
theorem p_xpi {α : Type} {u : x_U} {o ci j : Nat} {v : Int32} {k : x_U → Option (α × x_U)} : x_pi u o ci j v k = h_xpi u o ci j v k (z_tg k) := Eq.trans rfl rfl
theorem h_xpiE {α : Type} {u : x_U} {o ci j : Nat} {v : Int32} {k : x_U → Option (α × x_U)} {tg : z_Tg k} (h : x_k u o = .inl ci) (hb : o < 1000000000) : h_xpi u o ci j v k tg = k (x_ui u o j v) := by
  simp [h_xpi, x_pi, h, x_CB, hb]
def h_xpr {α : Type} (u : x_U) (o ci j v : Nat) (k : x_U → Option (α × x_U)) (_ : z_Tg k) : Option (α × x_U) := x_pr u o ci j v k
theorem p_xpr {α : Type} {u : x_U} {o ci j v : Nat} {k : x_U → Option (α × x_U)} : x_pr u o ci j v k = h_xpr u o ci j v k (z_tg k) := Eq.trans rfl rfl
theorem h_xprE {α : Type} {u : x_U} {o ci j v : Nat} {k : x_U → Option (α × x_U)} {tg : z_Tg k} (h : x_k u o = .inl ci) (hb : o < 1000000000) : h_xpr u o ci j v k tg = k (x_ur u o j v) := by
  simp [h_xpr, x_pr, h, x_CB, hb]
def h_xo {α : Type} (u : x_U) (o ci : Nat) (k : Option (α × x_U)) (_ : z_Tg k) : Option (α × x_U) := x_o u o ci k
theorem p_xo {α : Type} {u : x_U} {o ci : Nat} {k : Option (α × x_U)} : x_o u o ci k = h_xo u o ci k (z_tg k) := Eq.trans rfl rfl
theorem h_xoE {α : Type} {u : x_U} {o ci : Nat} {k : Option (α × x_U)} {tg : z_Tg k} (h : x_k u o = .inl ci) : h_xo u o ci k tg = k := by
  simp [h_xo, x_o, h]
def h_xld {α : Type} (u : x_U) (a : Nat) (i : Int32) (k : Int32 → Option (α × x_U)) (_ : z_Tg k) : Option (α × x_U) := x_ld u a i k
theorem p_xld {α : Type} {u : x_U} {a : Nat} {i : Int32} {k : Int32 → Option (α × x_U)} : x_ld u a i k = h_xld u a i k (z_tg k) := Eq.trans rfl rfl
theorem h_xldE {α : Type} {u : x_U} {a : Nat}  {k : Int32 → Option (α × x_U)} {tg : z_Tg k} {n len : Nat} (h : x_k u a = .inr (len, 0)) (hi : n < len) (hl : len < 2147483648) : h_xld u a (nI n) k tg = k (x_t u a n) := by
  simp [h_xld, x_ld, h, z_inT hi hl, z_clT (Nat.lt_trans hi hl)]
def h_xlb {α : Type} (u : x_U) (a : Nat) (i : Int32) (k : Int32 → Option (α × x_U)) (_ : z_Tg k) : Option (α × x_U) := x_lb u a i k
theorem p_xlb {α : Type} {u : x_U} {a : Nat} {i : Int32} {k : Int32 → Option (α × x_U)} : x_lb u a i k = h_xlb u a i k (z_tg k) := Eq.trans rfl rfl
theorem h_xlbE {α : Type} {u : x_U} {a : Nat}  {k : Int32 → Option (α × x_U)} {tg : z_Tg k} {n len t : Nat} (h : x_k u a = .inr (len, t)) (ht : t = 2 ∨ t = 7) (hi : n < len) (hl : len < 2147483648) : h_xlb u a (nI n) k tg = k (x_t u a n) := by
  simp [h_xlb, x_lb, h, ht, z_inT hi hl, z_clT (Nat.lt_trans hi hl)]
def h_xlr {α : Type} (u : x_U) (a : Nat) (i : Int32) (k : Nat → Option (α × x_U)) (_ : z_Tg k) : Option (α × x_U) := x_lr u a i k
theorem p_xlr {α : Type} {u : x_U} {a : Nat} {i : Int32} {k : Nat → Option (α × x_U)} : x_lr u a i k = h_xlr u a i k (z_tg k) := Eq.trans rfl rfl
theorem h_xlrE {α : Type} {u : x_U} {a : Nat}  {k : Nat → Option (α × x_U)} {tg : z_Tg k} {n len t : Nat} (h : x_k u a = .inr (len, t)) (ht : 3 ≤ t ∧ t < 6) (hi : n < len) (hl : len < 2147483648) : h_xlr u a (nI n) k tg = k (x_r u a n) := by
  simp [h_xlr, x_lr, h, ht, z_inT hi hl, z_clT (Nat.lt_trans hi hl)]
def h_xst {α : Type} (u : x_U) (a : Nat) (i v : Int32) (k : x_U → Option (α × x_U)) (_ : z_Tg k) : Option (α × x_U) := x_st u a i v k
theorem p_xst {α : Type} {u : x_U} {a : Nat} {i v : Int32} {k : x_U → Option (α × x_U)} : x_st u a i v k = h_xst u a i v k (z_tg k) := Eq.trans rfl rfl
theorem h_xstE {α : Type} {u : x_U} {a : Nat} {v : Int32} {k : x_U → Option (α × x_U)} {tg : z_Tg k} {n len : Nat} (h : x_k u a = .inr (len, 0)) (hi : n < len) (hl : len < 2147483648) : h_xst u a (nI n) v k tg = k (x_ui u a n v) := by
  simp [h_xst, x_st, h, z_inT hi hl, z_clT (Nat.lt_trans hi hl)]
def h_xsb {α : Type} (u : x_U) (a : Nat) (i v : Int32) (k : x_U → Option (α × x_U)) (_ : z_Tg k) : Option (α × x_U) := x_sb u a i v k
theorem p_xsb {α : Type} {u : x_U} {a : Nat} {i v : Int32} {k : x_U → Option (α × x_U)} : x_sb u a i v k = h_xsb u a i v k (z_tg k) := Eq.trans rfl rfl
theorem h_xsbE {α : Type} {u : x_U} {a : Nat} {v : Int32} {k : x_U → Option (α × x_U)} {tg : z_Tg k} {n len : Nat} (h : x_k u a = .inr (len, 2)) (hi : n < len) (hl : len < 2147483648) : h_xsb u a (nI n) v k tg = k (x_ui u a n v.toInt8.toInt32) := by
  simp [h_xsb, x_sb, h, z_inT hi hl, z_clT (Nat.lt_trans hi hl)]
def h_xsr {α : Type} (u : x_U) (a : Nat) (i : Int32) (x : Nat) (k : x_U → Option (α × x_U)) (_ : z_Tg k) : Option (α × x_U) := x_sr u a i x k
theorem p_xsr {α : Type} {u : x_U} {a : Nat} {i : Int32} {x : Nat} {k : x_U → Option (α × x_U)} : x_sr u a i x k = h_xsr u a i x k (z_tg k) := Eq.trans rfl rfl
theorem h_xsrE {α : Type} {u : x_U} {a : Nat}  {x : Nat} {k : x_U → Option (α × x_U)} {tg : z_Tg k} {n len t : Nat} (h : x_k u a = .inr (len, t)) (ht : 3 ≤ t ∧ t < 6) (hi : n < len) (hf : x_fk (x_k u x) t = true) (hl : len < 2147483648) : h_xsr u a (nI n) x k tg = k (x_ur u a n x) := by
  have hf : x_fit u t x = true := by rw [← hf]; rfl
  simp [h_xsr, x_sr, h, ht, hf, z_inT hi hl, z_clT (Nat.lt_trans hi hl)]
def h_xlen {α : Type} (u : x_U) (a : Nat) (k : Int32 → Option (α × x_U)) (_ : z_Tg k) : Option (α × x_U) := x_len u a k
theorem p_xlen {α : Type} {u : x_U} {a : Nat} {k : Int32 → Option (α × x_U)} : x_len u a k = h_xlen u a k (z_tg k) := Eq.trans rfl rfl
theorem h_xlenE {α : Type} {u : x_U} {a : Nat} {k : Int32 → Option (α × x_U)} {tg : z_Tg k} {len t : Nat} (h : x_k u a = .inr (len, t)) (ht : t < 8) : h_xlen u a k tg = k (nI len) := by
  simp [h_xlen, x_len, h, ht, z_of]
def h_xnew {α : Type} (u : x_U) (ci : Nat) (k : Nat → x_U → Option (α × x_U)) (_ : z_Tg k) : Option (α × x_U) := x_new u ci k
theorem p_xnew {α : Type} {u : x_U} {ci : Nat} {k : Nat → x_U → Option (α × x_U)} : x_new u ci k = h_xnew u ci k (z_tg k) := Eq.trans rfl rfl
theorem h_xnewE {α : Type} {u : x_U} {ci : Nat} {k : Nat → x_U → Option (α × x_U)} {tg : z_Tg k} (h : x_n u < 600000) : h_xnew u ci k tg = k (x_n u) (x_un u (.inl ci) (q_nF ci) (fun _ => 0)) := by
  simp [h_xnew, x_new, x_lim, h]
def h_xnwa {α : Type} (u : x_U) (t : Nat) (i : Int32) (k : Nat → x_U → Option (α × x_U)) (_ : z_Tg k) : Option (α × x_U) := x_nwa u t i k
theorem p_xnwa {α : Type} {u : x_U} {t : Nat} {i : Int32} {k : Nat → x_U → Option (α × x_U)} : x_nwa u t i k = h_xnwa u t i k (z_tg k) := Eq.trans rfl rfl
theorem h_xnwaE {α : Type} {u : x_U} {t : Nat}  {k : Nat → x_U → Option (α × x_U)} {tg : z_Tg k} {n : Nat} (h : x_n u < 600000) (hn : n < 100000) : h_xnwa u t (nI n) k tg = k (x_n u) (x_un u (.inr (n, t)) n (fun _ => 0)) := by
  simp [h_xnwa, x_nwa, x_lim, h, z_inT hn (by omega), z_clT (n := n) (by omega)]
def h_xcln {α : Type} (u : x_U) (t a : Nat) (k : Nat → x_U → Option (α × x_U)) (_ : z_Tg k) : Option (α × x_U) := x_cln u t a k
theorem p_xcln {α : Type} {u : x_U} {t a : Nat} {k : Nat → x_U → Option (α × x_U)} : x_cln u t a k = h_xcln u t a k (z_tg k) := Eq.trans rfl rfl
theorem h_xclnE {α : Type} {u : x_U} {t a : Nat} {k : Nat → x_U → Option (α × x_U)} {tg : z_Tg k} {len : Nat} (h : x_k u a = .inr (len, t)) (hb : t = 0 ∨ x_bok (x_t u a) 0 len = true) (hn : x_n u < 600000) : h_xcln u t a k tg = k (x_n u) (x_un u (.inr (len, t)) len (x_t u a)) := by
  simp [h_xcln, x_cln, h, x_lim, hn, hb]
def h_xcst {α : Type} (u : x_U) (a t : Nat) (k : Option (α × x_U)) (_ : z_Tg k) : Option (α × x_U) := x_cst u a t k
theorem p_xcst {α : Type} {u : x_U} {a t : Nat} {k : Option (α × x_U)} : x_cst u a t k = h_xcst u a t k (z_tg k) := Eq.trans rfl rfl
theorem h_xcstE {α : Type} {u : x_U} {a t : Nat} {k : Option (α × x_U)} {tg : z_Tg k} {len : Nat} (h : x_k u a = .inr (len, t)) : h_xcst u a t k tg = k := by
  simp [h_xcst, x_cst, h]
def h_xcall {α β : Type} (fo : Option (β × x_U)) (k : β → x_U → Option (α × x_U)) (_ : z_Tg k) : Option (α × x_U) := x_call fo k
theorem p_xcall {α β : Type} {fo : Option (β × x_U)} {k : β → x_U → Option (α × x_U)} : x_call fo k = h_xcall fo k (z_tg k) := Eq.trans rfl rfl
theorem h_xcallE {α β : Type} {r : β} {s : x_U} {k : β → x_U → Option (α × x_U)} {tg : z_Tg k} : h_xcall (some (r, s)) k tg = k r s := Eq.trans rfl rfl
theorem z_xcall {α β : Type} {r : β} {s : x_U} {k : β → x_U → Option (α × x_U)} : x_call (some (r, s)) k = k r s := rfl
def h_xcalc {α : Type} (u : x_U) (fo : Option (Int32 × q_Sto)) (k : Int32 → x_U → Option (α × x_U)) (_ : z_Tg k) : Option (α × x_U) := x_calc u fo k
theorem p_xcalc {α : Type} {u : x_U} {fo : Option (Int32 × q_Sto)} {k : Int32 → x_U → Option (α × x_U)} : x_calc u fo k = h_xcalc u fo k (z_tg k) := Eq.trans rfl rfl
theorem h_xcalcE {α : Type} {u : x_U} {r : Int32} {s : q_Sto} {k : Int32 → x_U → Option (α × x_U)} {tg : z_Tg k} : h_xcalc u (some (r, s)) k tg = k r (x_uc u s) := Eq.trans rfl rfl
theorem z_xcalc {α : Type} {u : x_U} {r : Int32} {s : q_Sto} {k : Int32 → x_U → Option (α × x_U)} : x_calc u (some (r, s)) k = k r (x_uc u s) := rfl
def h_xnm {α β : Type} (x : β) (k : β → Option (α × x_U)) (_ : z_Tg k) : Option (α × x_U) := x_nm x k
theorem p_xnm {α β : Type} {x : β} {k : β → Option (α × x_U)} : x_nm x k = h_xnm x k (z_tg k) := Eq.trans rfl rfl
theorem h_xnmE {α β : Type} {x : β} {k : β → Option (α × x_U)} {tg : z_Tg k} : h_xnm x k tg = k x := Eq.trans rfl rfl
def h_xdv {α : Type} (x y : Int32) (k : Int32 → Option (α × x_U)) (_ : z_Tg k) : Option (α × x_U) := x_dv x y k
theorem p_xdv {α : Type} {x y : Int32} {k : Int32 → Option (α × x_U)} : x_dv x y k = h_xdv x y k (z_tg k) := Eq.trans rfl rfl
theorem h_xdvE {α : Type} {x : Int32} {d : Nat} {k : Int32 → Option (α × x_U)} {tg : z_Tg k} (h : 0 < d) (hd : d < 2147483648) : h_xdv x (nI d) k tg = k (x / nI d) := by
  show x_dv _ _ _ = _
  unfold x_dv
  rw [if_neg (nI_ne0 h (by omega))]
def h_xrem {α : Type} (x y : Int32) (k : Int32 → Option (α × x_U)) (_ : z_Tg k) : Option (α × x_U) := x_rem x y k
theorem p_xrem {α : Type} {x y : Int32} {k : Int32 → Option (α × x_U)} : x_rem x y k = h_xrem x y k (z_tg k) := Eq.trans rfl rfl
theorem h_xremE {α : Type} {a d : Nat} {k : Int32 → Option (α × x_U)} {tg : z_Tg k} (ha : a < 2147483648) (h : 0 < d) (hd : d < 2147483648) : h_xrem (nI a) (nI d) k tg = k (nI (a % d)) := by
  show x_rem _ _ _ = _
  unfold x_rem
  rw [if_neg (nI_ne0 h (by omega)), pk_rem (by omega) h (by omega)]
theorem z_and31 {a : Nat} (h : a < 32) : nI a &&& nI 31 = nI a := by
  rw [z_and]
  congr 1
  have : a &&& (2 ^ 5 - 1) = a % 2 ^ 5 := Nat.and_two_pow_sub_one_eq_mod a 5
  rw [show (31 : Nat) = 2 ^ 5 - 1 from rfl, this]
  exact Nat.mod_eq_of_lt h
