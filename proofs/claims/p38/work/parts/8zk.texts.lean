/-! TEXT 2 and 3 told, and read by the class -/
section TX
variable {p b L pl pa mu me Lx wn : Nat} {xs : Nat → Int32} {d : Nat → Nat} {Fz : Nat → Prop} {V : Nat → Int32} {hs : z_Hs} {u : x_U} {x : Int32}
set_option maxHeartbeats 4000000 in
/-- the five words' row -/
theorem T_words {N om vm : Nat} {u1 : x_U} (hT : x_TB u Fz p b L pl pa mu me d V) (c1 : y_CH (x_own p b mu me) u u1 om vm [] 2 20) (hT1 : x_TB u1 Fz p b L pl pa mu me d V) (hW : y_WC Lx xs u1) (hN : N ≤ 12) (hb : x_n u + 400 ≤ 500000) (row : Nat → Nat → Int32) :
    ∃ w wd pl', y_CH (x_own p b mu me) u w om vm [] 4 40 ∧ x_TB w Fz p b L pl' pa mu me d V ∧ y_WC Lx xs w ∧ y_RW u w pl' N 0 4 row ∧ y_WD u w wd ∧ ∀ K : Nat → x_U → Option (Int32 × x_U), (x_nwa u1 5 5 fun o97 s98 =>
    x_sr s98 o97 0 (x_CB + 35) fun s99 =>
    x_sr s99 o97 1 (x_CB + 36) fun s100 =>
    x_sr s100 o97 2 (x_CB + 37) fun s101 =>
    x_sr s101 o97 3 (x_CB + 38) fun s102 =>
    x_sr s102 o97 4 (x_CB + 39) fun s103 =>
    x_nwa s103 3 (nI N) fun o104 s105 =>
    x_pr s105 p 12 14 o104 fun s106 => K o97 s106) = K wd w := by
  have hbd := hT.bd
  have cb := c1.bd
  have c11 := c1.2.1
  have c12 := c1.2.2.1
  have c1f := c1.1.2.1
  have hCB : x_CB = 1000000000 := rfl
  have hown : ∀ i, x_own p b mu me i → i < x_n u := fun i hi => by unfold x_own at hi; omega
  have kp : x_k u1 p = .inl 12 := hT1.1.2.1.1
  obtain ⟨w0, hw0⟩ : ∃ w0, w0 = x_un (x_ur (x_ur (x_ur (x_ur (x_ur (x_un u1 (.inr (5, 5)) 5 (fun _ => 0)) (x_n u1) 0 (x_CB + 35)) (x_n u1) 1 (x_CB + 36)) (x_n u1) 2 (x_CB + 37)) (x_n u1) 3 (x_CB + 38)) (x_n u1) 4 (x_CB + 39)) (.inr (N, 3)) N (fun _ => 0) := ⟨_, rfl⟩
  have n0 : x_n w0 = x_n u1 + 2 := by rw [hw0]; simp (disch := omega) only [xs_k_ui, xs_k_ur, xs_k_uc, xs_k_un, xs_k_ub, xs_r_ui, xs_r_ur, xs_r_uc, xs_r_un, xs_r_ub, xs_t_ui, xs_t_ur, xs_t_uc, xs_t_un, xs_t_ub, xs_n_ui, xs_n_ur, xs_n_uc, xs_n_un, xs_n_ub, xs_m_ui, xs_m_ur, xs_m_uc, xs_m_un, xs_m_ub, xs_c_ui, xs_c_ur, xs_c_uc, xs_c_un, xs_c_ub, x_up_s, x_up_k, x_up_o, x_fU_s, x_fU_o]
  have m0 : x_m w0 = x_m u1 + 5 + N := by rw [hw0]; simp (disch := omega) only [xs_k_ui, xs_k_ur, xs_k_uc, xs_k_un, xs_k_ub, xs_r_ui, xs_r_ur, xs_r_uc, xs_r_un, xs_r_ub, xs_t_ui, xs_t_ur, xs_t_uc, xs_t_un, xs_t_ub, xs_n_ui, xs_n_ur, xs_n_uc, xs_n_un, xs_n_ub, xs_m_ui, xs_m_ur, xs_m_uc, xs_m_un, xs_m_ub, xs_c_ui, xs_c_ur, xs_c_uc, xs_c_un, xs_c_ub, x_up_s, x_up_k, x_up_o, x_fU_s, x_fU_o]
  have kd : x_k w0 (x_n u1) = .inr (5, 5) := by rw [hw0]; simp (disch := omega) only [xs_k_ui, xs_k_ur, xs_k_uc, xs_k_un, xs_k_ub, xs_r_ui, xs_r_ur, xs_r_uc, xs_r_un, xs_r_ub, xs_t_ui, xs_t_ur, xs_t_uc, xs_t_un, xs_t_ub, xs_n_ui, xs_n_ur, xs_n_uc, xs_n_un, xs_n_ub, xs_m_ui, xs_m_ur, xs_m_uc, xs_m_un, xs_m_ub, xs_c_ui, xs_c_ur, xs_c_uc, xs_c_un, xs_c_ub, x_up_s, x_up_k, x_up_o, x_fU_s, x_fU_o]
  have kq : x_k w0 (x_n u1 + 1) = .inr (N, 3) := by rw [hw0]; simp (disch := omega) only [xs_k_ui, xs_k_ur, xs_k_uc, xs_k_un, xs_k_ub, xs_r_ui, xs_r_ur, xs_r_uc, xs_r_un, xs_r_ub, xs_t_ui, xs_t_ur, xs_t_uc, xs_t_un, xs_t_ub, xs_n_ui, xs_n_ur, xs_n_uc, xs_n_un, xs_n_ub, xs_m_ui, xs_m_ur, xs_m_uc, xs_m_un, xs_m_ub, xs_c_ui, xs_c_ur, xs_c_uc, xs_c_un, xs_c_ub, x_up_s, x_up_k, x_up_o, x_fU_s, x_fU_o]
  have kO : ∀ i, i ≠ x_n u1 → i ≠ x_n u1 + 1 → x_k w0 i = x_k u1 i := fun i hi hi2 => by rw [hw0]; simp (disch := omega) only [xs_k_ui, xs_k_ur, xs_k_uc, xs_k_un, xs_k_ub, xs_r_ui, xs_r_ur, xs_r_uc, xs_r_un, xs_r_ub, xs_t_ui, xs_t_ur, xs_t_uc, xs_t_un, xs_t_ub, xs_n_ui, xs_n_ur, xs_n_uc, xs_n_un, xs_n_ub, xs_m_ui, xs_m_ur, xs_m_uc, xs_m_un, xs_m_ub, xs_c_ui, xs_c_ur, xs_c_uc, xs_c_un, xs_c_ub, x_up_s, x_up_k, x_up_o, x_fU_s, x_fU_o]
  have rO : ∀ i, i ≠ x_n u1 → i ≠ x_n u1 + 1 → x_r w0 i = x_r u1 i := fun i hi hi2 => by rw [hw0]; simp (disch := omega) only [xs_k_ui, xs_k_ur, xs_k_uc, xs_k_un, xs_k_ub, xs_r_ui, xs_r_ur, xs_r_uc, xs_r_un, xs_r_ub, xs_t_ui, xs_t_ur, xs_t_uc, xs_t_un, xs_t_ub, xs_n_ui, xs_n_ur, xs_n_uc, xs_n_un, xs_n_ub, xs_m_ui, xs_m_ur, xs_m_uc, xs_m_un, xs_m_ub, xs_c_ui, xs_c_ur, xs_c_uc, xs_c_un, xs_c_ub, x_up_s, x_up_k, x_up_o, x_fU_s, x_fU_o]
  have tO : ∀ i, i ≠ x_n u1 → i ≠ x_n u1 + 1 → x_t w0 i = x_t u1 i := fun i hi hi2 => by rw [hw0]; simp (disch := omega) only [xs_k_ui, xs_k_ur, xs_k_uc, xs_k_un, xs_k_ub, xs_r_ui, xs_r_ur, xs_r_uc, xs_r_un, xs_r_ub, xs_t_ui, xs_t_ur, xs_t_uc, xs_t_un, xs_t_ub, xs_n_ui, xs_n_ur, xs_n_uc, xs_n_un, xs_n_ub, xs_m_ui, xs_m_ur, xs_m_uc, xs_m_un, xs_m_ub, xs_c_ui, xs_c_ur, xs_c_uc, xs_c_un, xs_c_ub, x_up_s, x_up_k, x_up_o, x_fU_s, x_fU_o]
  have rd : ∀ i, i < 5 → x_r w0 (x_n u1) i = x_CB + (35 + i) := fun i hi => by
    have : i = 0 ∨ i = 1 ∨ i = 2 ∨ i = 3 ∨ i = 4 := by omega
    rw [hw0]
    rcases this with rfl | rfl | rfl | rfl | rfl
    · simp (disch := omega) only [xs_k_ui, xs_k_ur, xs_k_uc, xs_k_un, xs_k_ub, xs_r_ui, xs_r_ur, xs_r_uc, xs_r_un, xs_r_ub, xs_t_ui, xs_t_ur, xs_t_uc, xs_t_un, xs_t_ub, xs_n_ui, xs_n_ur, xs_n_uc, xs_n_un, xs_n_ub, xs_m_ui, xs_m_ur, xs_m_uc, xs_m_un, xs_m_ub, xs_c_ui, xs_c_ur, xs_c_uc, xs_c_un, xs_c_ub, x_up_s, x_up_k, x_up_o, x_fU_s, x_fU_o]
    · simp (disch := omega) only [xs_k_ui, xs_k_ur, xs_k_uc, xs_k_un, xs_k_ub, xs_r_ui, xs_r_ur, xs_r_uc, xs_r_un, xs_r_ub, xs_t_ui, xs_t_ur, xs_t_uc, xs_t_un, xs_t_ub, xs_n_ui, xs_n_ur, xs_n_uc, xs_n_un, xs_n_ub, xs_m_ui, xs_m_ur, xs_m_uc, xs_m_un, xs_m_ub, xs_c_ui, xs_c_ur, xs_c_uc, xs_c_un, xs_c_ub, x_up_s, x_up_k, x_up_o, x_fU_s, x_fU_o]
    · simp (disch := omega) only [xs_k_ui, xs_k_ur, xs_k_uc, xs_k_un, xs_k_ub, xs_r_ui, xs_r_ur, xs_r_uc, xs_r_un, xs_r_ub, xs_t_ui, xs_t_ur, xs_t_uc, xs_t_un, xs_t_ub, xs_n_ui, xs_n_ur, xs_n_uc, xs_n_un, xs_n_ub, xs_m_ui, xs_m_ur, xs_m_uc, xs_m_un, xs_m_ub, xs_c_ui, xs_c_ur, xs_c_uc, xs_c_un, xs_c_ub, x_up_s, x_up_k, x_up_o, x_fU_s, x_fU_o]
    · simp (disch := omega) only [xs_k_ui, xs_k_ur, xs_k_uc, xs_k_un, xs_k_ub, xs_r_ui, xs_r_ur, xs_r_uc, xs_r_un, xs_r_ub, xs_t_ui, xs_t_ur, xs_t_uc, xs_t_un, xs_t_ub, xs_n_ui, xs_n_ur, xs_n_uc, xs_n_un, xs_n_ub, xs_m_ui, xs_m_ur, xs_m_uc, xs_m_un, xs_m_ub, xs_c_ui, xs_c_ur, xs_c_uc, xs_c_un, xs_c_ub, x_up_s, x_up_k, x_up_o, x_fU_s, x_fU_o]
    · simp (disch := omega) only [xs_k_ui, xs_k_ur, xs_k_uc, xs_k_un, xs_k_ub, xs_r_ui, xs_r_ur, xs_r_uc, xs_r_un, xs_r_ub, xs_t_ui, xs_t_ur, xs_t_uc, xs_t_un, xs_t_ub, xs_n_ui, xs_n_ur, xs_n_uc, xs_n_un, xs_n_ub, xs_m_ui, xs_m_ur, xs_m_uc, xs_m_un, xs_m_ub, xs_c_ui, xs_c_ur, xs_c_uc, xs_c_un, xs_c_ub, x_up_s, x_up_k, x_up_o, x_fU_s, x_fU_o]
  have f0 : x_fr (x_own p b mu me) u1 w0 := ⟨by rw [hw0]; simp (disch := omega) only [xs_k_ui, xs_k_ur, xs_k_uc, xs_k_un, xs_k_ub, xs_r_ui, xs_r_ur, xs_r_uc, xs_r_un, xs_r_ub, xs_t_ui, xs_t_ur, xs_t_uc, xs_t_un, xs_t_ub, xs_n_ui, xs_n_ur, xs_n_uc, xs_n_un, xs_n_ub, xs_m_ui, xs_m_ur, xs_m_uc, xs_m_un, xs_m_ub, xs_c_ui, xs_c_ur, xs_c_uc, xs_c_un, xs_c_ub, x_up_s, x_up_k, x_up_o, x_fU_s, x_fU_o], by omega, by omega, fun i hi => kO i (by omega) (by omega), fun i hi _ => ⟨rO i (by omega) (by omega), tO i (by omega) (by omega)⟩⟩
  have hp : x_own p b mu me p := by unfold x_own; omega
  have f1 : x_fr (x_own p b mu me) u1 (x_ur w0 p 14 (x_n u1 + 1)) := f0.tr (x_fr.ur hp)
  have f0' : x_fr (fun _ => False) u1 w0 := ⟨f0.1, f0.2.1, f0.2.2.1, f0.2.2.2.1, fun i hi _ => ⟨rO i (by omega) (by omega), tO i (by omega) (by omega)⟩⟩
  have hT0 := hT1.fr f0' (by omega) (fun _ _ h => h) (fun _ _ h => h)
  refine ⟨x_ur w0 p 14 (x_n u1 + 1), x_n u1, x_n u1 + 1, ?_, hT0.pl', hW.fr f1 (fun i hi => by have := hown i hi; omega), ?_, ?_, fun K => ?_⟩
  · exact c1.ext (a := 2) (b := 20) f1 (by show x_n w0 ≤ _; omega) (by show x_m w0 ≤ _; omega) (by show x_n w0 ≤ _; omega) hown
  · exact ⟨⟨kq, by omega, by show _ < x_n w0; omega, by omega⟩, fun i hi => by omega⟩
  · refine ⟨kd, fun i hi => ?_, by omega, by show _ < x_n w0; omega⟩
    have e : x_r (x_ur w0 p 14 (x_n u1 + 1)) (x_n u1) = x_r w0 (x_n u1) := x_up_o (by omega)
    rw [e]
    exact rd i hi
  · have kc : ∀ i, i < 5 → x_k u1 (x_CB + (35 + i)) = .inl 13 := fun i hi => (hW.2 (35 + i) (by unfold q_nS; omega)).1
    have k0 := kc 0 (by omega)
    have k1 := kc 1 (by omega)
    have k2 := kc 2 (by omega)
    have k3 := kc 3 (by omega)
    have k4 := kc 4 (by omega)
    rw [show (5 : Int32) = nI 5 from rfl, p_xnwa, h_xnwaE (by omega) (by omega)]
    rw [show (0 : Int32) = nI 0 from rfl, show (1 : Int32) = nI 1 from rfl, show (2 : Int32) = nI 2 from rfl, show (3 : Int32) = nI 3 from rfl, show (4 : Int32) = nI 4 from rfl]
    rw [p_xsr, h_xsrE (len := 5) (t := 5) (by simp (disch := omega) only [xs_k_ui, xs_k_ur, xs_k_uc, xs_k_un, xs_k_ub, xs_r_ui, xs_r_ur, xs_r_uc, xs_r_un, xs_r_ub, xs_t_ui, xs_t_ur, xs_t_uc, xs_t_un, xs_t_ub, xs_n_ui, xs_n_ur, xs_n_uc, xs_n_un, xs_n_ub, xs_m_ui, xs_m_ur, xs_m_uc, xs_m_un, xs_m_ub, xs_c_ui, xs_c_ur, xs_c_uc, xs_c_un, xs_c_ub, x_up_s, x_up_k, x_up_o, x_fU_s, x_fU_o]) (by omega) (by omega) (by simp (disch := omega) only [xs_k_ui, xs_k_ur, xs_k_uc, xs_k_un, xs_k_ub, xs_r_ui, xs_r_ur, xs_r_uc, xs_r_un, xs_r_ub, xs_t_ui, xs_t_ur, xs_t_uc, xs_t_un, xs_t_ub, xs_n_ui, xs_n_ur, xs_n_uc, xs_n_un, xs_n_ub, xs_m_ui, xs_m_ur, xs_m_uc, xs_m_un, xs_m_ub, xs_c_ui, xs_c_ur, xs_c_uc, xs_c_un, xs_c_ub, x_up_s, x_up_k, x_up_o, x_fU_s, x_fU_o]; rw [k0]; rfl) (by omega), p_xsr, h_xsrE (len := 5) (t := 5) (by simp (disch := omega) only [xs_k_ui, xs_k_ur, xs_k_uc, xs_k_un, xs_k_ub, xs_r_ui, xs_r_ur, xs_r_uc, xs_r_un, xs_r_ub, xs_t_ui, xs_t_ur, xs_t_uc, xs_t_un, xs_t_ub, xs_n_ui, xs_n_ur, xs_n_uc, xs_n_un, xs_n_ub, xs_m_ui, xs_m_ur, xs_m_uc, xs_m_un, xs_m_ub, xs_c_ui, xs_c_ur, xs_c_uc, xs_c_un, xs_c_ub, x_up_s, x_up_k, x_up_o, x_fU_s, x_fU_o]) (by omega) (by omega) (by simp (disch := omega) only [xs_k_ui, xs_k_ur, xs_k_uc, xs_k_un, xs_k_ub, xs_r_ui, xs_r_ur, xs_r_uc, xs_r_un, xs_r_ub, xs_t_ui, xs_t_ur, xs_t_uc, xs_t_un, xs_t_ub, xs_n_ui, xs_n_ur, xs_n_uc, xs_n_un, xs_n_ub, xs_m_ui, xs_m_ur, xs_m_uc, xs_m_un, xs_m_ub, xs_c_ui, xs_c_ur, xs_c_uc, xs_c_un, xs_c_ub, x_up_s, x_up_k, x_up_o, x_fU_s, x_fU_o]; rw [k1]; rfl) (by omega), p_xsr, h_xsrE (len := 5) (t := 5) (by simp (disch := omega) only [xs_k_ui, xs_k_ur, xs_k_uc, xs_k_un, xs_k_ub, xs_r_ui, xs_r_ur, xs_r_uc, xs_r_un, xs_r_ub, xs_t_ui, xs_t_ur, xs_t_uc, xs_t_un, xs_t_ub, xs_n_ui, xs_n_ur, xs_n_uc, xs_n_un, xs_n_ub, xs_m_ui, xs_m_ur, xs_m_uc, xs_m_un, xs_m_ub, xs_c_ui, xs_c_ur, xs_c_uc, xs_c_un, xs_c_ub, x_up_s, x_up_k, x_up_o, x_fU_s, x_fU_o]) (by omega) (by omega) (by simp (disch := omega) only [xs_k_ui, xs_k_ur, xs_k_uc, xs_k_un, xs_k_ub, xs_r_ui, xs_r_ur, xs_r_uc, xs_r_un, xs_r_ub, xs_t_ui, xs_t_ur, xs_t_uc, xs_t_un, xs_t_ub, xs_n_ui, xs_n_ur, xs_n_uc, xs_n_un, xs_n_ub, xs_m_ui, xs_m_ur, xs_m_uc, xs_m_un, xs_m_ub, xs_c_ui, xs_c_ur, xs_c_uc, xs_c_un, xs_c_ub, x_up_s, x_up_k, x_up_o, x_fU_s, x_fU_o]; rw [k2]; rfl) (by omega), p_xsr, h_xsrE (len := 5) (t := 5) (by simp (disch := omega) only [xs_k_ui, xs_k_ur, xs_k_uc, xs_k_un, xs_k_ub, xs_r_ui, xs_r_ur, xs_r_uc, xs_r_un, xs_r_ub, xs_t_ui, xs_t_ur, xs_t_uc, xs_t_un, xs_t_ub, xs_n_ui, xs_n_ur, xs_n_uc, xs_n_un, xs_n_ub, xs_m_ui, xs_m_ur, xs_m_uc, xs_m_un, xs_m_ub, xs_c_ui, xs_c_ur, xs_c_uc, xs_c_un, xs_c_ub, x_up_s, x_up_k, x_up_o, x_fU_s, x_fU_o]) (by omega) (by omega) (by simp (disch := omega) only [xs_k_ui, xs_k_ur, xs_k_uc, xs_k_un, xs_k_ub, xs_r_ui, xs_r_ur, xs_r_uc, xs_r_un, xs_r_ub, xs_t_ui, xs_t_ur, xs_t_uc, xs_t_un, xs_t_ub, xs_n_ui, xs_n_ur, xs_n_uc, xs_n_un, xs_n_ub, xs_m_ui, xs_m_ur, xs_m_uc, xs_m_un, xs_m_ub, xs_c_ui, xs_c_ur, xs_c_uc, xs_c_un, xs_c_ub, x_up_s, x_up_k, x_up_o, x_fU_s, x_fU_o]; rw [k3]; rfl) (by omega), p_xsr, h_xsrE (len := 5) (t := 5) (by simp (disch := omega) only [xs_k_ui, xs_k_ur, xs_k_uc, xs_k_un, xs_k_ub, xs_r_ui, xs_r_ur, xs_r_uc, xs_r_un, xs_r_ub, xs_t_ui, xs_t_ur, xs_t_uc, xs_t_un, xs_t_ub, xs_n_ui, xs_n_ur, xs_n_uc, xs_n_un, xs_n_ub, xs_m_ui, xs_m_ur, xs_m_uc, xs_m_un, xs_m_ub, xs_c_ui, xs_c_ur, xs_c_uc, xs_c_un, xs_c_ub, x_up_s, x_up_k, x_up_o, x_fU_s, x_fU_o]) (by omega) (by omega) (by simp (disch := omega) only [xs_k_ui, xs_k_ur, xs_k_uc, xs_k_un, xs_k_ub, xs_r_ui, xs_r_ur, xs_r_uc, xs_r_un, xs_r_ub, xs_t_ui, xs_t_ur, xs_t_uc, xs_t_un, xs_t_ub, xs_n_ui, xs_n_ur, xs_n_uc, xs_n_un, xs_n_ub, xs_m_ui, xs_m_ur, xs_m_uc, xs_m_un, xs_m_ub, xs_c_ui, xs_c_ur, xs_c_uc, xs_c_un, xs_c_ub, x_up_s, x_up_k, x_up_o, x_fU_s, x_fU_o]; rw [k4]; rfl) (by omega)]
    rw [p_xnwa, h_xnwaE (by simp (disch := omega) only [xs_k_ui, xs_k_ur, xs_k_uc, xs_k_un, xs_k_ub, xs_r_ui, xs_r_ur, xs_r_uc, xs_r_un, xs_r_ub, xs_t_ui, xs_t_ur, xs_t_uc, xs_t_un, xs_t_ub, xs_n_ui, xs_n_ur, xs_n_uc, xs_n_un, xs_n_ub, xs_m_ui, xs_m_ur, xs_m_uc, xs_m_un, xs_m_ub, xs_c_ui, xs_c_ur, xs_c_uc, xs_c_un, xs_c_ub, x_up_s, x_up_k, x_up_o, x_fU_s, x_fU_o]; omega) (by omega), p_xpr, h_xprE (by simp (disch := omega) only [xs_k_ui, xs_k_ur, xs_k_uc, xs_k_un, xs_k_ub, xs_r_ui, xs_r_ur, xs_r_uc, xs_r_un, xs_r_ub, xs_t_ui, xs_t_ur, xs_t_uc, xs_t_un, xs_t_ub, xs_n_ui, xs_n_ur, xs_n_uc, xs_n_un, xs_n_ub, xs_m_ui, xs_m_ur, xs_m_uc, xs_m_un, xs_m_ub, xs_c_ui, xs_c_ur, xs_c_uc, xs_c_un, xs_c_ub, x_up_s, x_up_k, x_up_o, x_fU_s, x_fU_o]; exact kp) (by omega), hw0]
    rfl
def y_rowP (x : Int32) (D mu me : Nat) : Nat → Nat → Int32 := fun i => y_r4 (nI (y_pD x D i)) (nI (y_cd (y_pW x mu me i))) (nI (if y_pW x mu me i = 3 then 0 else y_pK x mu me i)) (nI (if y_pW x mu me i = 0 ∨ y_pW x mu me i = 2 then y_pM x mu me i else 0))
set_option maxHeartbeats 4000000 in
theorem T_txt2 {D N : Nat} (hN : N ≤ 12) (hD : D ≤ 900) (hV0 : V 0 = nI D) (hT : x_TB u Fz p b L pl pa mu me d V) (hz : z_CS mu me (x_c u) V hs wn) (hW : y_WC Lx xs u) (hb : x_n u + 500 ≤ 500000) :
    ∃ u' pl', x_TB u' Fz p b L pl' pa mu me d (y_V2 V N (y_rowP x D mu me)) ∧ y_RW u u' pl' N N 4 (y_rP x D mu me) ∧ z_CS mu me (x_c u') (y_V2 V N (y_rowP x D mu me)) y_h0 wn ∧ y_WC Lx xs u' ∧ x_fr (x_own p b mu me) (x_uc u (x_c u')) u' ∧ x_n u' ≤ x_n u + 400 ∧ x_m u' ≤ x_m u + 28200 ∧
    ∀ K : x_U → Option (Int32 × x_U), (x_new u 14 fun o92 s93 =>
    x_o s93 o92 14 <|
    x_call (F_J4_init_da8c8 q_F o92 s93) fun _ s94 =>
    x_nwa s94 5 5 fun o97 s98 =>
    x_sr s98 o97 0 (x_CB + 35) fun s99 =>
    x_sr s99 o97 1 (x_CB + 36) fun s100 =>
    x_sr s100 o97 2 (x_CB + 37) fun s101 =>
    x_sr s101 o97 3 (x_CB + 38) fun s102 =>
    x_sr s102 o97 4 (x_CB + 39) fun s103 =>
    x_nwa s103 3 (nI N) fun o104 s105 =>
    x_pr s105 p 12 14 o104 fun s106 =>
    F_L_texts_L360 q_F p x (nI N) o92 o97 (fun  (s207 : x_U) =>
    x_o s207 o92 14 <|
    x_call (F_J4_toString_0e30d q_F o92 s207) fun o209 s208 =>
    x_call (F_L_say q_F o209 s208) fun _ s211 =>
    x_calc s211 (f_X11_text q_F 0 2 (x_c s211)) fun r214 s213 =>
    if r214 = nI N then K s213 else some (0, s213)) q_F 0 s106) = K u' := by
  have hbd := hT.bd
  have hF5 : 5 ≤ q_F := by unfold q_F; omega
  have hFN : N < q_F + 0 := by unfold q_F; omega
  have hFz : ∀ i, Fz i → i < x_n u := hT.2.2.1.1
  have hown : ∀ i, x_own p b mu me i → i < x_n u := fun i hi => by unfold x_own at hi; omega
  obtain ⟨u1, c1, n1, f1, e1⟩ := CH_new (n := q_F) (own := x_own p b mu me) (u := u) (by omega) (by omega)
  have hT1 := hT.fr f1 (by omega) (fun _ _ h => h) (fun _ _ h => h)
  have hW1 := hW.fr f1 (fun i hi => hi.elim)
  obtain ⟨w3, wd, pl', c3, hT3, hW3, hR3, hD3, e3⟩ := T_words hT c1 hT1 hW1 hN (by omega) (y_rP x D mu me)
  obtain ⟨w4, vm, c4, hW4, hT4, hR4, e4⟩ := T_360 (n := q_F) (x := x) (N := N) (D := D) (U0 := u) hF5 hN hD hFz hbd.2.2.1 hV0 q_F 0 _ _ _ _ _ (Nat.zero_le _) hFN c3 hW3 hT3 hR3 hD3 (by omega) (by exact Nat.zero_le _)
  have hlen : ([] ++ y_cat (y_fP x D mu me) (N - 0) 0).length ≤ 380 := by
    rw [List.nil_append, Nat.sub_zero]
    have := y_cat_len (f := y_fP x D mu me) (c := 30) (fun k => by
      obtain ⟨b1, b2, b3, b4, b5, b6, b7, b8, b9⟩ := y_p_b (x := x) (D := D) (k := k) hbd.2.2.2.2.1 hbd.2.2.2.2.2 hD
      exact y_pl_len (by omega) (by omega) (by omega)) N 0
    omega
  have c4b := c4.bd
  have c40 := c4.1
  have c41 := c4.2.1
  have c42 := c4.2.2.1
  have hc4 : x_c w4 = x_c u := c40.1
  obtain ⟨w5, T, g1, g2, g3, g4, g5, g6, g7, g8, g9⟩ := T_told (n := q_F) rfl c4 hW4 hlen (by rw [hc4]; exact hz.2.2.2.2.2.1) (by omega)
  rw [List.nil_append, Nat.sub_zero] at g8
  obtain ⟨σ', t1, t2⟩ := c_text2 (N := N) (T := T) (D := fun k => y_pD x D k) (w := fun k => y_pW x mu me k) (K := fun k => y_pK x mu me k) (M := fun k => y_pM x mu me k) (σ := x_c w5) (by omega) hz (fun o o1 o2 => by rw [g5 o o1 o2, hc4]) g6 g7 g8 (fun i hi => by
    obtain ⟨b1, b2, b3, b4, b5, -⟩ := y_p_b (x := x) (D := D) (k := i) hbd.2.2.2.2.1 hbd.2.2.2.2.2 hD
    exact ⟨b1, b2, b3, b4, b5⟩)
  have fA : x_fr (x_own p b mu me) (x_uc u σ') (x_uc w5 σ') := by
    have q1 : x_fr (x_own p b mu me) (x_uc u (x_c w5)) (x_uc w4 (x_c w5)) := c40.uc
    exact (q1.tr (g1.mono (fun i hi => hi.elim))).uc
  refine ⟨x_uc w5 σ', pl', ?_, ?_, t2, g4, fA, by show x_n w5 ≤ _; omega, by show x_m w5 ≤ _; omega, fun K => ?_⟩
  · have hT4c : x_TB (x_uc w4 (x_c w5)) Fz p b L pl' pa mu me d V := hT4
    have hT5 := hT4c.fr g1 (by omega) (fun _ _ h => h) (fun _ _ h => h)
    have hT6 : x_TB (x_uc w5 σ') Fz p b L pl' pa mu me d V := hT5
    refine hT6.cgn (fun a ha => ?_)
    unfold y_V2
    rw [if_neg (by omega), if_neg (by omega)]
  · have hR4c : y_RW u (x_uc w4 (x_c w5)) pl' N N 4 (y_rP x D mu me) := hR4
    have hR5 := hR4c.fr g1 (fun h => h) (fun _ _ h => h)
    exact hR5
  · refine (e1 _ (fun o92 s94 => x_nwa s94 5 5 fun o97 s98 => _)).trans ?_
    refine (e3 (fun o97 s106 => F_L_texts_L360 q_F p x (nI N) (x_n u) o97 _ q_F 0 s106)).trans ?_
    refine (e4 _).trans ?_
    refine (g9 _ _).trans ?_
    rw [show (2 : Int32) = nI 2 from rfl, t1, z_xcalc, if_pos rfl]
set_option maxHeartbeats 4000000 in
theorem T_txt3 {N : Nat} (hN : N ≤ 14) (hT : x_TB u Fz p b L pl pa mu me d V) (hz : z_CS mu me (x_c u) V hs wn) (hW : y_WC Lx xs u) (hb : x_n u + 500 ≤ 500000) :
    ∃ u' pa', x_TB u' Fz p b L pl pa' mu me d (y_V3 V N (y_rW x)) ∧ y_RW u u' pa' N N 3 (y_rW x) ∧ z_CS mu me (x_c u') (y_V3 V N (y_rW x)) y_h0 wn ∧ y_WC Lx xs u' ∧ x_fr (x_own p b mu me) (x_uc u (x_c u')) u' ∧ x_n u' ≤ x_n u + 310 ∧ x_m u' ≤ x_m u + 32800 ∧
    ∀ K : x_U → Option (Int32 × x_U), (x_new u 14 fun o217 s218 =>
    x_o s218 o217 14 <|
    x_call (F_J4_init_da8c8 q_F o217 s218) fun _ s219 =>
    x_nwa s219 3 (nI N) fun o222 s223 =>
    x_pr s223 p 12 15 o222 fun s224 =>
    F_L_texts_L722 q_F p x (nI N) o217 (fun  (s278 : x_U) =>
    x_o s278 o217 14 <|
    x_call (F_J4_toString_0e30d q_F o217 s278) fun o280 s279 =>
    x_call (F_L_say q_F o280 s279) fun _ s282 =>
    x_calc s282 (f_X11_text q_F 0 3 (x_c s282)) fun r285 s284 =>
    if r285 = nI N then K s284 else some (0, s284)) q_F 0 s224) = K u' := by
  have hbd := hT.bd
  have hF5 : 5 ≤ q_F := by unfold q_F; omega
  have hFN : N < q_F + 0 := by unfold q_F; omega
  have hFz : ∀ i, Fz i → i < x_n u := hT.2.2.1.1
  have hown : ∀ i, x_own p b mu me i → i < x_n u := fun i hi => by unfold x_own at hi; omega
  obtain ⟨u1, c1, n1, f1, e1⟩ := CH_new (n := q_F) (own := x_own p b mu me) (u := u) (by omega) (by omega)
  have hT1 := hT.fr f1 (by omega) (fun _ _ h => h) (fun _ _ h => h)
  have hW1 := hW.fr f1 (fun i hi => hi.elim)
  have hp : x_own p b mu me p := by unfold x_own; omega
  have kp : x_k u1 p = .inl 12 := hT1.1.2.1.1
  have f2 : x_fr (fun _ => False) u1 (x_un u1 (.inr (N, 3)) N (fun _ => 0)) := x_fr.un (by omega)
  have f3 : x_fr (x_own p b mu me) u1 (x_ur (x_un u1 (.inr (N, 3)) N (fun _ => 0)) p 15 (x_n u1)) := (f2.mono (fun i hi => hi.elim)).tr (x_fr.ur hp)
  have hT2 := hT1.fr f2 (by show x_n u1 + 1 ≤ 500000; omega) (fun _ _ h => h) (fun _ _ h => h)
  have hT3 : x_TB (x_ur (x_un u1 (.inr (N, 3)) N (fun _ => 0)) p 15 (x_n u1)) Fz p b L pl (x_n u1) mu me d V := hT2.pa'
  have c3 := c1.ext (a := 1) (b := N) f3 (by show x_n u1 + 1 ≤ _; omega) (by show x_m u1 + N ≤ _; omega) (by show x_n u1 + 1 ≤ _; omega) hown
  have hW3 := hW1.fr f3 (fun i hi => by have := hown i hi; omega)
  have hR3 : y_RW u (x_ur (x_un u1 (.inr (N, 3)) N (fun _ => 0)) p 15 (x_n u1)) (x_n u1) N 0 3 (y_rW x) := ⟨⟨by simp (disch := omega) only [xs_k_ui, xs_k_ur, xs_k_uc, xs_k_un, xs_k_ub, xs_r_ui, xs_r_ur, xs_r_uc, xs_r_un, xs_r_ub, xs_t_ui, xs_t_ur, xs_t_uc, xs_t_un, xs_t_ub, xs_n_ui, xs_n_ur, xs_n_uc, xs_n_un, xs_n_ub, xs_m_ui, xs_m_ur, xs_m_uc, xs_m_un, xs_m_ub, xs_c_ui, xs_c_ur, xs_c_uc, xs_c_un, xs_c_ub, x_up_s, x_up_k, x_up_o, x_fU_s, x_fU_o], by omega, by show x_n u1 < x_n u1 + 1; omega, by omega⟩, fun i hi => by omega⟩
  obtain ⟨w4, vm, c4, hW4, hT4, hR4, e4⟩ := T_722 (n := q_F) (x := x) (N := N) (U0 := u) hF5 hN hFz hbd.2.2.1 q_F 0 _ _ _ _ _ (Nat.zero_le _) hFN c3 hW3 hT3 hR3 (by omega) (by exact Nat.zero_le _)
  have hlen : ([] ++ y_cat (y_fW x) (N - 0) 0).length ≤ 380 := by
    rw [List.nil_append, Nat.sub_zero]
    have := y_cat_len (f := y_fW x) (c := 25) (fun k => by
      obtain ⟨b1, b2, b3, b4, b5⟩ := y_w_b (x := x) (k := k)
      have e1 : (y_dg (y_wA x k)).length = 1 := by unfold y_dg; rw [if_pos (by omega)]; rfl
      have e2 : (y_dg (y_wB x k)).length = 1 := by unfold y_dg; rw [if_pos (by omega)]; rfl
      obtain ⟨e3, -⟩ := y_dgl (a := y_wH x k) (by omega)
      unfold y_fW y_wl
      simp only [List.length_append, List.length_cons, List.length_nil]
      omega) N 0
    omega
  have c4b := c4.bd
  have c40 := c4.1
  have c41 := c4.2.1
  have c42 := c4.2.2.1
  have hc4 : x_c w4 = x_c u := c40.1
  obtain ⟨w5, T, g1, g2, g3, g4, g5, g6, g7, g8, g9⟩ := T_told (n := q_F) rfl c4 hW4 hlen (by rw [hc4]; exact hz.2.2.2.2.2.1) (by omega)
  rw [List.nil_append, Nat.sub_zero] at g8
  obtain ⟨σ', t1, t2⟩ := c_text3 (N := N) (T := T) (A := fun k => y_wA x k) (B := fun k => y_wB x k) (H := fun k => y_wH x k) (σ := x_c w5) (by omega) hz (fun o o1 o2 => by rw [g5 o o1 o2, hc4]) g6 g7 g8 (fun i hi => by
    obtain ⟨b1, b2, b3, b4, b5⟩ := y_w_b (x := x) (k := i)
    exact ⟨by omega, by omega, b3, b4, b5⟩)
  have fA : x_fr (x_own p b mu me) (x_uc u σ') (x_uc w5 σ') := by
    have q1 : x_fr (x_own p b mu me) (x_uc u (x_c w5)) (x_uc w4 (x_c w5)) := c40.uc
    exact (q1.tr (g1.mono (fun i hi => hi.elim))).uc
  refine ⟨x_uc w5 σ', x_n u1, ?_, ?_, t2, g4, fA, by show x_n w5 ≤ _; omega, by show x_m w5 ≤ _; omega, fun K => ?_⟩
  · have hT4c : x_TB (x_uc w4 (x_c w5)) Fz p b L pl (x_n u1) mu me d V := hT4
    have hT5 := hT4c.fr g1 (by omega) (fun _ _ h => h) (fun _ _ h => h)
    have hT6 : x_TB (x_uc w5 σ') Fz p b L pl (x_n u1) mu me d V := hT5
    refine hT6.cgn (fun a ha => ?_)
    unfold y_V3
    rw [if_neg (by omega), if_neg (by omega)]
  · have hR4c : y_RW u (x_uc w4 (x_c w5)) (x_n u1) N N 3 (y_rW x) := hR4
    have hR5 := hR4c.fr g1 (fun h => h) (fun _ _ h => h)
    exact hR5
  · refine (e1 _ (fun o217 s219 => x_nwa s219 3 (nI N) fun o222 s223 => x_pr s223 p 12 15 o222 fun s224 => F_L_texts_L722 q_F p x (nI N) o217 _ q_F 0 s224)).trans ?_
    show (x_nwa u1 3 (nI N) fun o222 s223 => _) = _
    rw [p_xnwa, h_xnwaE (by omega) (by omega), p_xpr, h_xprE (by simp (disch := omega) only [xs_k_ui, xs_k_ur, xs_k_uc, xs_k_un, xs_k_ub, xs_r_ui, xs_r_ur, xs_r_uc, xs_r_un, xs_r_ub, xs_t_ui, xs_t_ur, xs_t_uc, xs_t_un, xs_t_ub, xs_n_ui, xs_n_ur, xs_n_uc, xs_n_un, xs_n_ub, xs_m_ui, xs_m_ur, xs_m_uc, xs_m_un, xs_m_ub, xs_c_ui, xs_c_ur, xs_c_uc, xs_c_un, xs_c_ub, x_up_s, x_up_k, x_up_o, x_fU_s, x_fU_o]; exact kp) (by omega)]
    refine (e4 _).trans ?_
    refine (g9 _ _).trans ?_
    rw [show (3 : Int32) = nI 3 from rfl, t1, z_xcalc, if_pos rfl]
end TX
