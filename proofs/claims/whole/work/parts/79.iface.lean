def q_Sim : q_Sto → Prop := fun _ => True
theorem P_state {σ : q_Sto} (h : q_Sim σ) (a0 : Int32)  : ∃ (r : Int32) (σ1 σ2 : q_Sto), f_X11_state q_F 0 a0 σ = some (r, σ1) ∧ f_X12_state q_F 157 a0 σ1 = some (r, σ2) ∧ q_Sim σ2 := sorry
theorem P_mule {σ : q_Sto} (h : q_Sim σ) (a0 : Int32) (a1 : Int32)  : ∃ (r : Int32) (σ1 σ2 : q_Sto), f_X11_mule q_F 0 a0 a1 σ = some (r, σ1) ∧ f_X12_mule q_F 157 a0 a1 σ1 = some (r, σ2) ∧ q_Sim σ2 := sorry
theorem P_man {σ : q_Sto} (h : q_Sim σ) (a0 : Int32) (a1 : Int32) (a2 : Int32)  : ∃ (r : Int32) (σ1 σ2 : q_Sto), f_X11_man q_F 0 a0 a1 a2 σ = some (r, σ1) ∧ f_X12_man q_F 157 a0 a1 a2 σ1 = some (r, σ2) ∧ q_Sim σ2 := sorry
theorem P_set {σ : q_Sto} (h : q_Sim σ) (a0 : Int32) (a1 : Int32) (a2 : Int32)  : ∃ (r : Int32) (σ1 σ2 : q_Sto), f_X11_set q_F 0 a0 a1 a2 σ = some (r, σ1) ∧ f_X12_set q_F 157 a0 a1 a2 σ1 = some (r, σ2) ∧ q_Sim σ2 := sorry
theorem P_like {σ : q_Sto} (h : q_Sim σ) (a0 : Int32) (a1 : Int32) (a2 : Int32)  : ∃ (r : Int32) (σ1 σ2 : q_Sto), f_X11_like q_F 0 a0 a1 a2 σ = some (r, σ1) ∧ f_X12_like q_F 157 a0 a1 a2 σ1 = some (r, σ2) ∧ q_Sim σ2 := sorry
theorem P_vote {σ : q_Sto} (h : q_Sim σ)   : ∃ (r : Int32) (σ1 σ2 : q_Sto), f_X11_vote q_F 0  σ = some (r, σ1) ∧ f_X12_vote q_F 157  σ1 = some (r, σ2) ∧ q_Sim σ2 := sorry
theorem P_act {σ : q_Sto} (h : q_Sim σ) (a0 : Int32) (a1 : Int32) (a2 : Int32)  : ∃ (r : Int32) (σ1 σ2 : q_Sto), f_X11_act q_F 0 a0 a1 a2 σ = some (r, σ1) ∧ f_X12_act q_F 157 a0 a1 a2 σ1 = some (r, σ2) ∧ q_Sim σ2 := sorry
theorem P_go {σ : q_Sto} (h : q_Sim σ) (a0 : Int32)  : ∃ (r : Int32) (σ1 σ2 : q_Sto), f_X11_go q_F 0 a0 σ = some (r, σ1) ∧ f_X12_go q_F 157 a0 σ1 = some (r, σ2) ∧ q_Sim σ2 := sorry
theorem P_rest {σ : q_Sto} (h : q_Sim σ)   : ∃ (r : Int32) (σ1 σ2 : q_Sto), f_X11_rest q_F 0  σ = some (r, σ1) ∧ f_X12_rest q_F 157  σ1 = some (r, σ2) ∧ q_Sim σ2 := sorry
theorem P_days {σ : q_Sto} (h : q_Sim σ) (a0 : Int32)  : ∃ (r : Int32) (σ1 σ2 : q_Sto), f_X11_days q_F 0 a0 σ = some (r, σ1) ∧ f_X12_days q_F 157 a0 σ1 = some (r, σ2) ∧ q_Sim σ2 := sorry
theorem P_feed {σ : q_Sto} (h : q_Sim σ) (a0 : Int32) (a1 : Int32) (a2 : Int32) (a3 : Int32) (a4 : Int32)  : ∃ (r : Int32) (σ1 σ2 : q_Sto), f_X11_feed q_F 0 a0 a1 a2 a3 a4 σ = some (r, σ1) ∧ f_X12_feed q_F 157 a0 a1 a2 a3 a4 σ1 = some (r, σ2) ∧ q_Sim σ2 := sorry
theorem P_end {σ : q_Sto} (h : q_Sim σ) (a0 : Int32)  : ∃ (r : Int32) (σ1 σ2 : q_Sto), f_X11_end q_F 0 a0 σ = some (r, σ1) ∧ f_X12_end q_F 157 a0 σ1 = some (r, σ2) ∧ q_Sim σ2 := sorry
theorem P_text {σ : q_Sto} (h : q_Sim σ) (a0 : Int32)  : ∃ (r : Int32) (σ1 σ2 : q_Sto), f_X11_text q_F 0 a0 σ = some (r, σ1) ∧ f_X12_text q_F 157 a0 σ1 = some (r, σ2) ∧ q_Sim σ2 := sorry
theorem P_fault {σ : q_Sto} (h : q_Sim σ) (a0 : Int32)  : ∃ (r : Int32) (σ1 σ2 : q_Sto), f_X11_fault q_F 0 a0 σ = some (r, σ1) ∧ f_X12_fault q_F 157 a0 σ1 = some (r, σ2) ∧ q_Sim σ2 := sorry
theorem P_of {σ : q_Sto} (h : q_Sim σ) (a0 : Int32) (a1 : Int32)  : ∃ (r : Int32) (σ1 σ2 : q_Sto), f_X11_of q_F 0 a0 a1 σ = some (r, σ1) ∧ f_X12_of q_F 157 a0 a1 σ1 = some (r, σ2) ∧ q_Sim σ2 := sorry
theorem P_manOf {σ : q_Sto} (h : q_Sim σ) (a0 : Int32) (a1 : Int32)  : ∃ (r : Int32) (σ1 σ2 : q_Sto), f_X11_manOf q_F 0 a0 a1 σ = some (r, σ1) ∧ f_X12_manOf q_F 157 a0 a1 σ1 = some (r, σ2) ∧ q_Sim σ2 := sorry
theorem P_path {σ : q_Sto} (h : q_Sim σ) (a0 : Int32) (a1 : Int32)  : ∃ (r : Int32) (σ1 σ2 : q_Sto), f_X11_path q_F 0 a0 a1 σ = some (r, σ1) ∧ f_X12_path q_F 157 a0 a1 σ1 = some (r, σ2) ∧ q_Sim σ2 := sorry
theorem P_book {σ : q_Sto} (h : q_Sim σ) (a0 : Int32) (a1 : Int32)  : ∃ (r : Int32) (σ1 σ2 : q_Sto), f_X11_book q_F 0 a0 a1 σ = some (r, σ1) ∧ f_X12_book q_F 157 a0 a1 σ1 = some (r, σ2) ∧ q_Sim σ2 := sorry
theorem P_stands {σ : q_Sto} (h : q_Sim σ) (a0 : Int32)  : ∃ (r : Int32) (σ1 σ2 : q_Sto), f_X11_stands q_F 0 a0 σ = some (r, σ1) ∧ f_X12_stands q_F 157 a0 σ1 = some (r, σ2) ∧ q_Sim σ2 := sorry
theorem P_settles {σ : q_Sto} (h : q_Sim σ) (a0 : Int32)  : ∃ (r : Int32) (σ1 σ2 : q_Sto), f_X11_settles q_F 0 a0 σ = some (r, σ1) ∧ f_X12_settles q_F 157 a0 σ1 = some (r, σ2) ∧ q_Sim σ2 := sorry
theorem P_goes {σ : q_Sto} (h : q_Sim σ) (a0 : Int32) (a1 : Int32)  : ∃ (r : Int32) (σ1 σ2 : q_Sto), f_X11_goes q_F 0 a0 a1 σ = some (r, σ1) ∧ f_X12_goes q_F 157 a0 a1 σ1 = some (r, σ2) ∧ q_Sim σ2 := sorry
theorem P_wins {σ : q_Sto} (h : q_Sim σ) (a0 : Int32) (a1 : Int32)  : ∃ (r : Int32) (σ1 σ2 : q_Sto), f_X11_wins q_F 0 a0 a1 σ = some (r, σ1) ∧ f_X12_wins q_F 157 a0 a1 σ1 = some (r, σ2) ∧ q_Sim σ2 := sorry
theorem P_turnsBy {σ : q_Sto} (h : q_Sim σ) (a0 : Int32)  : ∃ (r : Int32) (σ1 σ2 : q_Sto), f_X11_turnsBy q_F 0 a0 σ = some (r, σ1) ∧ f_X12_turnsBy q_F 157 a0 σ1 = some (r, σ2) ∧ q_Sim σ2 := sorry
theorem P_way {σ : q_Sto} (h : q_Sim σ) (a0 : Int32) (a1 : Int32) (a2 : Int32)  : ∃ (r : Int32) (σ1 σ2 : q_Sto), f_X11_way q_F 0 a0 a1 a2 σ = some (r, σ1) ∧ f_X12_way q_F 157 a0 a1 a2 σ1 = some (r, σ2) ∧ q_Sim σ2 := sorry
theorem P_packs {σ : q_Sto} (h : q_Sim σ) (a0 : Int32)  : ∃ (r : Int32) (σ1 σ2 : q_Sto), f_X11_packs q_F 0 a0 σ = some (r, σ1) ∧ f_X12_packs q_F 157 a0 σ1 = some (r, σ2) ∧ q_Sim σ2 := sorry
theorem P_row {σ : q_Sto} (h : q_Sim σ)   : ∃ (r : Int32) (σ1 σ2 : q_Sto), f_X11_row q_F 0  σ = some (r, σ1) ∧ f_X12_row q_F 157  σ1 = some (r, σ2) ∧ q_Sim σ2 := sorry
theorem P_seen {σ : q_Sto} (h : q_Sim σ) (a0 : Int32) (a1 : Int32) (a2 : Int32) (h2 : a2 = 0 ∨ a2 = 1) : ∃ (r : Int32) (σ1 σ2 : q_Sto), f_X11_seen q_F 0 a0 a1 a2 σ = some (r, σ1) ∧ f_X12_seen q_F 157 a0 a1 a2 σ1 = some (r, σ2) ∧ q_Sim σ2 := sorry
theorem P_fits {σ : q_Sto} (h : q_Sim σ) (a0 : Int32)  : ∃ (r : Int32) (σ1 σ2 : q_Sto), f_X11_fits q_F 0 a0 σ = some (r, σ1) ∧ f_X12_fits q_F 157 a0 σ1 = some (r, σ2) ∧ q_Sim σ2 := sorry
theorem P_led {σ : q_Sto} (h : q_Sim σ) (a0 : Int32) (a1 : Int32) (a2 : Int32)  : ∃ (r : Int32) (σ1 σ2 : q_Sto), f_X11_led q_F 0 a0 a1 a2 σ = some (r, σ1) ∧ f_X12_led q_F 157 a0 a1 a2 σ1 = some (r, σ2) ∧ q_Sim σ2 := sorry
theorem P_game {σ : q_Sto} (h : q_Sim σ) (a0 : Int32)  : ∃ (r : Int32) (σ1 σ2 : q_Sto), f_X11_game q_F 0 a0 σ = some (r, σ1) ∧ f_X12_game q_F 157 a0 σ1 = some (r, σ2) ∧ q_Sim σ2 := sorry
theorem P_share {σ : q_Sto} (h : q_Sim σ) (a0 : Int32) (a1 : Int32)  : ∃ (r : Int32) (σ1 σ2 : q_Sto), f_X11_share q_F 0 a0 a1 σ = some (r, σ1) ∧ f_X12_share q_F 157 a0 a1 σ1 = some (r, σ2) ∧ q_Sim σ2 := sorry
theorem P_meets {σ : q_Sto} (h : q_Sim σ) (a0 : Int32) (a1 : Int32)  : ∃ (r : Int32) (σ1 σ2 : q_Sto), f_X11_meets q_F 0 a0 a1 σ = some (r, σ1) ∧ f_X12_meets q_F 157 a0 a1 σ1 = some (r, σ2) ∧ q_Sim σ2 := sorry
theorem P_undo {σ : q_Sto} (h : q_Sim σ)   : ∃ (r : Int32) (σ1 σ2 : q_Sto), f_X11_undo q_F 0  σ = some (r, σ1) ∧ f_X12_undo q_F 157  σ1 = some (r, σ2) ∧ q_Sim σ2 := sorry
theorem P_image {σ : q_Sto} (h : q_Sim σ) (a0 : Int32) (h0 : a0 = 0 ∨ a0 = 1) : ∃ (r : Int32) (σ1 σ2 : q_Sto), f_X11_image q_F 0 a0 σ = some (r, σ1) ∧ f_X12_image q_F 157 a0 σ1 = some (r, σ2) ∧ q_Sim σ2 := sorry
theorem P_look {σ : q_Sto} (h : q_Sim σ) (a0 : Int32)  : ∃ (r : Int32) (σ1 σ2 : q_Sto), f_X11_look q_F 0 a0 σ = some (r, σ1) ∧ f_X12_look q_F 157 a0 σ1 = some (r, σ2) ∧ q_Sim σ2 := sorry
