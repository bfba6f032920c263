/-! the law -/
section QL
variable {w : q_Wd} {cx : q_Cx} {own : String} {cc : ByteArray} {nL cells slots c2 s2 : Nat} {ret : Option FieldType} {rm : Room} {Q : State → Prop} {pc pc1 pc2 : Nat} {L : List (Option Value)} {st : List Value} {S : q_Sg}
theorem j_swc {len : Nat} {dflt lo hi : Int} {offs : Array Int} {x c : Int32} {off : Int} (hc : q_ok w cx own cc nL ret rm) (hd : decode cc pc = .ok (.tableswitch dflt lo hi offs, len)) (h1 : ¬ c.toInt < lo) (h2 : ¬ hi < c.toInt) (h3 : offs[(c.toInt - lo).toNat]? = some off) (ht : (pc : Int) + off = (pc1 : Int)) (ka : x = c → q_J w cx nL cells slots Q pc1 L st S) (kb : ¬ x = c → q_J w cx nL cells slots Q pc L (.int x :: st) S) : q_J w cx nL cells slots Q pc L (.int x :: st) S := by
  by_cases hx : x = c
  · have k := ka hx
    subst hx
    intro H locs ls hR hS hL
    exact lv_tableIn hc.1 hc.2.1 hd h1 h2 h3 ht (k H locs ls hR hS hL)
  · exact kb hx
theorem j_swd {len : Nat} {dflt lo hi : Int} {offs : Array Int} {x : Int32} (hc : q_ok w cx own cc nL ret rm) (hd : decode cc pc = .ok (.tableswitch dflt lo hi offs, len)) (h : ∀ i : Int, lo ≤ i → i ≤ hi → x.toInt = i → offs[(i - lo).toNat]? = some dflt) (ht : (pc : Int) + dflt = (pc1 : Int)) (k : q_J w cx nL cells slots Q pc1 L st S) : q_J w cx nL cells slots Q pc L (.int x :: st) S := by
  intro H locs ls hR hS hL
  by_cases h1 : x.toInt < lo
  · exact lv_tableOut hc.1 hc.2.1 hd (Or.inl h1) ht (k H locs ls hR hS hL)
  · by_cases h2 : hi < x.toInt
    · exact lv_tableOut hc.1 hc.2.1 hd (Or.inr h2) ht (k H locs ls hR hS hL)
    · exact lv_tableIn hc.1 hc.2.1 hd h1 h2 (h _ (Int.not_lt.mp h1) (Int.not_lt.mp h2) rfl) ht (k H locs ls hR hS hL)
/-- the script: outside the world -/
def q_scr (w : q_Wd) (cx : q_Cx) (b N : Nat) (xs : Nat → Int32) : Prop := va_X b N xs cx.2.2.2.2.1 cx.2.2.2.2.1.heap ∧ b < cx.2.2.2.2.1.heap.size ∧ w.2.2.1 = cx.2.2.2.2.1.heap.size
theorem j_sld {b N : Nat} {xs : Nat → Int32} {i : Int32} (hc : q_ok w cx own cc nL ret rm) (hX : q_scr w cx b N xs) (hin : q_in i N) (hd : decode cc pc = .ok (.iaload, 1)) (hp : pc + 1 = pc2) (k : q_J w cx nL cells slots Q pc2 L (.int (xs i.toNatClampNeg) :: st) S) : q_J w cx nL cells slots Q pc L (.int i :: .ref b :: st) S := by
  subst hp
  intro H locs ls hR hS hL
  exact va_sld hc.1 hc.2.1 hX.1 hX.2.1 (fun q => by have q : w.2.2.1 ≤ b := q; rw [hX.2.2] at q; exact Nat.not_le.mpr hX.2.1 q) hS (q_in_vp hin) hd (k H locs ls hR hS hL)
theorem j_slen {b N : Nat} {xs : Nat → Int32} (hc : q_ok w cx own cc nL ret rm) (hX : q_scr w cx b N xs) (hd : decode cc pc = .ok (.arraylength, 1)) (hp : pc + 1 = pc2) (k : q_J w cx nL cells slots Q pc2 L (.int (Int32.ofNat N) :: st) S) : q_J w cx nL cells slots Q pc L (.ref b :: st) S := by
  subst hp
  intro H locs ls hR hS hL
  exact va_slen hc.1 hc.2.1 hX.1 hX.2.1 (fun q => by have q : w.2.2.1 ≤ b := q; rw [hX.2.2] at q; exact Nat.not_le.mpr hX.2.1 q) hS hd (k H locs ls hR hS hL)
theorem l_call {idx o ci n nLy f1 l1 : Nat} {y : MethodName} {ccy : ByteArray} {ty : FieldType} {As stack : List Value} {r2 : Int32} {S2 : q_Sg} (hc : q_ok w cx own cc nL ret rm) (hM : q_M cx.2.1 w y ccy nLy (some ty) (q_rm f1 l1) 0 0 (q_rf w o :: As) S r2 S2) (hmv : q_mv y ccy nLy (some ty) ci n) (hlk : Cond.methodLink own idx y ∈ q_big) (hkd : S.2.1 o = .inl ci) (ho : o < S.1)
    (hst : stack = As.reverse ++ q_rf w o :: st) (hn : As.length = n) (hrm : f1 + 1 ≤ rm.frames ∧ 8 + (nLy + 11) + l1 ≤ rm.locals) (hms : cells ≤ rm.cells ∧ slots ≤ rm.slots) (hcat : (st.map fun v => v.category).sum ≤ 8) (hd : decode cc pc = .ok (.invokevirtual idx, 3)) (hp : pc + 3 = pc2)
    (kk : q_J w cx nL cells slots Q pc2 L (.int r2 :: st) S2) : q_J w cx nL cells slots Q pc L stack S :=
  j_callV hc hM hmv hlk hkd ho hst hn ⟨rfl, rfl, hrm⟩ hms hcat hd hp kk
end QL
/-- a place of the script behind i -/
theorem q_pl {i N k : Nat} (hk : k < 6) (hi : i + 6 ≤ N) (hN : N ≤ 3072) {c : Int32} (hc : Int32.ofNat k = c) : q_in (Int32.ofNat i + c) N := by
  subst hc
  have e : Int32.ofNat i + Int32.ofNat k = Int32.ofNat (i + k) := nI_add i k
  have e2 : (Int32.ofNat (i + k)).toInt = ((i + k : Nat) : Int) := nI_toInt (by omega)
  rw [e]
  exact ⟨by rw [e2]; omega, by rw [e2]; omega⟩
theorem q_pl0 {i N : Nat} (hi : i + 6 ≤ N) (hN : N ≤ 3072) : q_in (Int32.ofNat i) N := by
  have e2 : (Int32.ofNat i).toInt = (i : Int) := nI_toInt (by omega)
  exact ⟨by rw [e2]; omega, by rw [e2]; omega⟩
set_option maxRecDepth 100000 in
theorem law_0 {w : q_Wd} {cx : q_Cx} {b N i : Nat} {xs : Nat → Int32} {σ : q_Sto} {Q : State → Prop} (hc : q_ok w cx RL code 4 ret room_1) (hX : q_scr w cx b N xs) (hi : i + 6 ≤ N) (hN : N ≤ 3072) (hσ : q_Sim σ) (hn : ∀ σ2, q_Sim σ2 → q_J w cx 4 172 24195 Q 1255 [some (.ref b), some (q_rf w 0), some (q_rf w 157), some (.int (Int32.ofNat i))] [] (q_sg σ2)) : q_J w cx 4 172 24195 Q 188 [some (.ref b), some (q_rf w 0), some (q_rf w 157), some (.int (Int32.ofNat i))] [] (q_sg σ) := by
  refine k_rl (k := 1) hc dL_law_188 rfl (pc2 := 189) rfl ?_
  refine j_aload_n (k := 0) hc dL_law_189 rfl (pc2 := 190) rfl ?_
  refine j_iload_n (k := 3) hc dL_law_190 rfl (pc2 := 191) rfl ?_
  refine j_iconst hc dL_law_191 ic_1 (pc2 := 192) rfl ?_
  refine j_iadd hc dL_law_192 (pc2 := 193) rfl ?_
  refine j_sld hc hX (q_pl (k := 1) (by decide) hi hN (by decide)) dL_law_193 (pc2 := 194) rfl ?_
  obtain ⟨r, σ1, σ2, e1, e2, hs⟩ := P_state hσ (xs (Int32.ofNat i + 1).toNatClampNeg) 
  refine l_call (As := [.int (xs (Int32.ofNat i + 1).toNatClampNeg)]) hc (C_X11_state (n := q_F) (t := 0) rfl _ _ e1) mv_X11_state ln_L_13 rfl (show 0 < q_N0 by decide) rfl rfl ⟨by decide, by decide⟩ ⟨by decide, by decide⟩ (Nat.le_of_ble_eq_true rfl) dL_law_194 (pc2 := 197) rfl ?_
  refine k_rl (k := 2) hc dL_law_197 rfl (pc2 := 198) rfl ?_
  refine j_aload_n (k := 0) hc dL_law_198 rfl (pc2 := 199) rfl ?_
  refine j_iload_n (k := 3) hc dL_law_199 rfl (pc2 := 200) rfl ?_
  refine j_iconst hc dL_law_200 ic_1 (pc2 := 201) rfl ?_
  refine j_iadd hc dL_law_201 (pc2 := 202) rfl ?_
  refine j_sld hc hX (q_pl (k := 1) (by decide) hi hN (by decide)) dL_law_202 (pc2 := 203) rfl ?_
  refine l_call (As := [.int (xs (Int32.ofNat i + 1).toNatClampNeg)]) hc (C_X12_state (n := q_F) (t := 157) rfl _ _ e2) mv_X12_state ln_L_17 rfl (show 157 < q_N0 by decide) rfl rfl ⟨by decide, by decide⟩ ⟨by decide, by decide⟩ (Nat.le_of_ble_eq_true rfl) dL_law_203 (pc2 := 206) rfl ?_
  refine j_icmp_eq hc dL_law_206 (pc1 := 1255) (pc2 := 209) rfl rfl (fun _ => ?_) (fun z => absurd rfl z)
  exact hn σ2 hs
set_option maxRecDepth 100000 in
theorem law_1 {w : q_Wd} {cx : q_Cx} {b N i : Nat} {xs : Nat → Int32} {σ : q_Sto} {Q : State → Prop} (hc : q_ok w cx RL code 4 ret room_1) (hX : q_scr w cx b N xs) (hi : i + 6 ≤ N) (hN : N ≤ 3072) (hσ : q_Sim σ) (hn : ∀ σ2, q_Sim σ2 → q_J w cx 4 172 24195 Q 1255 [some (.ref b), some (q_rf w 0), some (q_rf w 157), some (.int (Int32.ofNat i))] [] (q_sg σ2)) : q_J w cx 4 172 24195 Q 211 [some (.ref b), some (q_rf w 0), some (q_rf w 157), some (.int (Int32.ofNat i))] [] (q_sg σ) := by
  refine k_rl (k := 1) hc dL_law_211 rfl (pc2 := 212) rfl ?_
  refine j_aload_n (k := 0) hc dL_law_212 rfl (pc2 := 213) rfl ?_
  refine j_iload_n (k := 3) hc dL_law_213 rfl (pc2 := 214) rfl ?_
  refine j_iconst hc dL_law_214 ic_1 (pc2 := 215) rfl ?_
  refine j_iadd hc dL_law_215 (pc2 := 216) rfl ?_
  refine j_sld hc hX (q_pl (k := 1) (by decide) hi hN (by decide)) dL_law_216 (pc2 := 217) rfl ?_
  refine j_aload_n (k := 0) hc dL_law_217 rfl (pc2 := 218) rfl ?_
  refine j_iload_n (k := 3) hc dL_law_218 rfl (pc2 := 219) rfl ?_
  refine j_iconst hc dL_law_219 ic_2 (pc2 := 220) rfl ?_
  refine j_iadd hc dL_law_220 (pc2 := 221) rfl ?_
  refine j_sld hc hX (q_pl (k := 2) (by decide) hi hN (by decide)) dL_law_221 (pc2 := 222) rfl ?_
  obtain ⟨r, σ1, σ2, e1, e2, hs⟩ := P_mule hσ (xs (Int32.ofNat i + 1).toNatClampNeg) (xs (Int32.ofNat i + 2).toNatClampNeg) 
  refine l_call (As := [.int (xs (Int32.ofNat i + 1).toNatClampNeg), .int (xs (Int32.ofNat i + 2).toNatClampNeg)]) hc (C_X11_mule (n := q_F) (t := 0) rfl _ _ e1) mv_X11_mule ln_L_18 rfl (show 0 < q_N0 by decide) rfl rfl ⟨by decide, by decide⟩ ⟨by decide, by decide⟩ (Nat.le_of_ble_eq_true rfl) dL_law_222 (pc2 := 225) rfl ?_
  refine k_rl (k := 2) hc dL_law_225 rfl (pc2 := 226) rfl ?_
  refine j_aload_n (k := 0) hc dL_law_226 rfl (pc2 := 227) rfl ?_
  refine j_iload_n (k := 3) hc dL_law_227 rfl (pc2 := 228) rfl ?_
  refine j_iconst hc dL_law_228 ic_1 (pc2 := 229) rfl ?_
  refine j_iadd hc dL_law_229 (pc2 := 230) rfl ?_
  refine j_sld hc hX (q_pl (k := 1) (by decide) hi hN (by decide)) dL_law_230 (pc2 := 231) rfl ?_
  refine j_aload_n (k := 0) hc dL_law_231 rfl (pc2 := 232) rfl ?_
  refine j_iload_n (k := 3) hc dL_law_232 rfl (pc2 := 233) rfl ?_
  refine j_iconst hc dL_law_233 ic_2 (pc2 := 234) rfl ?_
  refine j_iadd hc dL_law_234 (pc2 := 235) rfl ?_
  refine j_sld hc hX (q_pl (k := 2) (by decide) hi hN (by decide)) dL_law_235 (pc2 := 236) rfl ?_
  refine l_call (As := [.int (xs (Int32.ofNat i + 1).toNatClampNeg), .int (xs (Int32.ofNat i + 2).toNatClampNeg)]) hc (C_X12_mule (n := q_F) (t := 157) rfl _ _ e2) mv_X12_mule ln_L_22 rfl (show 157 < q_N0 by decide) rfl rfl ⟨by decide, by decide⟩ ⟨by decide, by decide⟩ (Nat.le_of_ble_eq_true rfl) dL_law_236 (pc2 := 239) rfl ?_
  refine j_icmp_eq hc dL_law_239 (pc1 := 1255) (pc2 := 242) rfl rfl (fun _ => ?_) (fun z => absurd rfl z)
  exact hn σ2 hs
set_option maxRecDepth 100000 in
theorem law_2 {w : q_Wd} {cx : q_Cx} {b N i : Nat} {xs : Nat → Int32} {σ : q_Sto} {Q : State → Prop} (hc : q_ok w cx RL code 4 ret room_1) (hX : q_scr w cx b N xs) (hi : i + 6 ≤ N) (hN : N ≤ 3072) (hσ : q_Sim σ) (hn : ∀ σ2, q_Sim σ2 → q_J w cx 4 172 24195 Q 1255 [some (.ref b), some (q_rf w 0), some (q_rf w 157), some (.int (Int32.ofNat i))] [] (q_sg σ2)) : q_J w cx 4 172 24195 Q 244 [some (.ref b), some (q_rf w 0), some (q_rf w 157), some (.int (Int32.ofNat i))] [] (q_sg σ) := by
  refine k_rl (k := 1) hc dL_law_244 rfl (pc2 := 245) rfl ?_
  refine j_aload_n (k := 0) hc dL_law_245 rfl (pc2 := 246) rfl ?_
  refine j_iload_n (k := 3) hc dL_law_246 rfl (pc2 := 247) rfl ?_
  refine j_iconst hc dL_law_247 ic_1 (pc2 := 248) rfl ?_
  refine j_iadd hc dL_law_248 (pc2 := 249) rfl ?_
  refine j_sld hc hX (q_pl (k := 1) (by decide) hi hN (by decide)) dL_law_249 (pc2 := 250) rfl ?_
  refine j_aload_n (k := 0) hc dL_law_250 rfl (pc2 := 251) rfl ?_
  refine j_iload_n (k := 3) hc dL_law_251 rfl (pc2 := 252) rfl ?_
  refine j_iconst hc dL_law_252 ic_2 (pc2 := 253) rfl ?_
  refine j_iadd hc dL_law_253 (pc2 := 254) rfl ?_
  refine j_sld hc hX (q_pl (k := 2) (by decide) hi hN (by decide)) dL_law_254 (pc2 := 255) rfl ?_
  refine j_aload_n (k := 0) hc dL_law_255 rfl (pc2 := 256) rfl ?_
  refine j_iload_n (k := 3) hc dL_law_256 rfl (pc2 := 257) rfl ?_
  refine j_iconst hc dL_law_257 ic_3 (pc2 := 258) rfl ?_
  refine j_iadd hc dL_law_258 (pc2 := 259) rfl ?_
  refine j_sld hc hX (q_pl (k := 3) (by decide) hi hN (by decide)) dL_law_259 (pc2 := 260) rfl ?_
  obtain ⟨r, σ1, σ2, e1, e2, hs⟩ := P_man hσ (xs (Int32.ofNat i + 1).toNatClampNeg) (xs (Int32.ofNat i + 2).toNatClampNeg) (xs (Int32.ofNat i + 3).toNatClampNeg) 
  refine l_call (As := [.int (xs (Int32.ofNat i + 1).toNatClampNeg), .int (xs (Int32.ofNat i + 2).toNatClampNeg), .int (xs (Int32.ofNat i + 3).toNatClampNeg)]) hc (C_X11_man (n := q_F) (t := 0) rfl _ _ e1) mv_X11_man ln_L_23 rfl (show 0 < q_N0 by decide) rfl rfl ⟨by decide, by decide⟩ ⟨by decide, by decide⟩ (Nat.le_of_ble_eq_true rfl) dL_law_260 (pc2 := 263) rfl ?_
  refine k_rl (k := 2) hc dL_law_263 rfl (pc2 := 264) rfl ?_
  refine j_aload_n (k := 0) hc dL_law_264 rfl (pc2 := 265) rfl ?_
  refine j_iload_n (k := 3) hc dL_law_265 rfl (pc2 := 266) rfl ?_
  refine j_iconst hc dL_law_266 ic_1 (pc2 := 267) rfl ?_
  refine j_iadd hc dL_law_267 (pc2 := 268) rfl ?_
  refine j_sld hc hX (q_pl (k := 1) (by decide) hi hN (by decide)) dL_law_268 (pc2 := 269) rfl ?_
  refine j_aload_n (k := 0) hc dL_law_269 rfl (pc2 := 270) rfl ?_
  refine j_iload_n (k := 3) hc dL_law_270 rfl (pc2 := 271) rfl ?_
  refine j_iconst hc dL_law_271 ic_2 (pc2 := 272) rfl ?_
  refine j_iadd hc dL_law_272 (pc2 := 273) rfl ?_
  refine j_sld hc hX (q_pl (k := 2) (by decide) hi hN (by decide)) dL_law_273 (pc2 := 274) rfl ?_
  refine j_aload_n (k := 0) hc dL_law_274 rfl (pc2 := 275) rfl ?_
  refine j_iload_n (k := 3) hc dL_law_275 rfl (pc2 := 276) rfl ?_
  refine j_iconst hc dL_law_276 ic_3 (pc2 := 277) rfl ?_
  refine j_iadd hc dL_law_277 (pc2 := 278) rfl ?_
  refine j_sld hc hX (q_pl (k := 3) (by decide) hi hN (by decide)) dL_law_278 (pc2 := 279) rfl ?_
  refine l_call (As := [.int (xs (Int32.ofNat i + 1).toNatClampNeg), .int (xs (Int32.ofNat i + 2).toNatClampNeg), .int (xs (Int32.ofNat i + 3).toNatClampNeg)]) hc (C_X12_man (n := q_F) (t := 157) rfl _ _ e2) mv_X12_man ln_L_27 rfl (show 157 < q_N0 by decide) rfl rfl ⟨by decide, by decide⟩ ⟨by decide, by decide⟩ (Nat.le_of_ble_eq_true rfl) dL_law_279 (pc2 := 282) rfl ?_
  refine j_icmp_eq hc dL_law_282 (pc1 := 1255) (pc2 := 285) rfl rfl (fun _ => ?_) (fun z => absurd rfl z)
  exact hn σ2 hs
set_option maxRecDepth 100000 in
theorem law_3 {w : q_Wd} {cx : q_Cx} {b N i : Nat} {xs : Nat → Int32} {σ : q_Sto} {Q : State → Prop} (hc : q_ok w cx RL code 4 ret room_1) (hX : q_scr w cx b N xs) (hi : i + 6 ≤ N) (hN : N ≤ 3072) (hσ : q_Sim σ) (hn : ∀ σ2, q_Sim σ2 → q_J w cx 4 172 24195 Q 1255 [some (.ref b), some (q_rf w 0), some (q_rf w 157), some (.int (Int32.ofNat i))] [] (q_sg σ2)) : q_J w cx 4 172 24195 Q 287 [some (.ref b), some (q_rf w 0), some (q_rf w 157), some (.int (Int32.ofNat i))] [] (q_sg σ) := by
  refine k_rl (k := 1) hc dL_law_287 rfl (pc2 := 288) rfl ?_
  refine j_aload_n (k := 0) hc dL_law_288 rfl (pc2 := 289) rfl ?_
  refine j_iload_n (k := 3) hc dL_law_289 rfl (pc2 := 290) rfl ?_
  refine j_iconst hc dL_law_290 ic_1 (pc2 := 291) rfl ?_
  refine j_iadd hc dL_law_291 (pc2 := 292) rfl ?_
  refine j_sld hc hX (q_pl (k := 1) (by decide) hi hN (by decide)) dL_law_292 (pc2 := 293) rfl ?_
  refine j_aload_n (k := 0) hc dL_law_293 rfl (pc2 := 294) rfl ?_
  refine j_iload_n (k := 3) hc dL_law_294 rfl (pc2 := 295) rfl ?_
  refine j_iconst hc dL_law_295 ic_2 (pc2 := 296) rfl ?_
  refine j_iadd hc dL_law_296 (pc2 := 297) rfl ?_
  refine j_sld hc hX (q_pl (k := 2) (by decide) hi hN (by decide)) dL_law_297 (pc2 := 298) rfl ?_
  refine j_aload_n (k := 0) hc dL_law_298 rfl (pc2 := 299) rfl ?_
  refine j_iload_n (k := 3) hc dL_law_299 rfl (pc2 := 300) rfl ?_
  refine j_iconst hc dL_law_300 ic_3 (pc2 := 301) rfl ?_
  refine j_iadd hc dL_law_301 (pc2 := 302) rfl ?_
  refine j_sld hc hX (q_pl (k := 3) (by decide) hi hN (by decide)) dL_law_302 (pc2 := 303) rfl ?_
  obtain ⟨r, σ1, σ2, e1, e2, hs⟩ := P_set hσ (xs (Int32.ofNat i + 1).toNatClampNeg) (xs (Int32.ofNat i + 2).toNatClampNeg) (xs (Int32.ofNat i + 3).toNatClampNeg) 
  refine l_call (As := [.int (xs (Int32.ofNat i + 1).toNatClampNeg), .int (xs (Int32.ofNat i + 2).toNatClampNeg), .int (xs (Int32.ofNat i + 3).toNatClampNeg)]) hc (C_X11_set (n := q_F) (t := 0) rfl _ _ e1) mv_X11_set ln_L_28 rfl (show 0 < q_N0 by decide) rfl rfl ⟨by decide, by decide⟩ ⟨by decide, by decide⟩ (Nat.le_of_ble_eq_true rfl) dL_law_303 (pc2 := 306) rfl ?_
  refine k_rl (k := 2) hc dL_law_306 rfl (pc2 := 307) rfl ?_
  refine j_aload_n (k := 0) hc dL_law_307 rfl (pc2 := 308) rfl ?_
  refine j_iload_n (k := 3) hc dL_law_308 rfl (pc2 := 309) rfl ?_
  refine j_iconst hc dL_law_309 ic_1 (pc2 := 310) rfl ?_
  refine j_iadd hc dL_law_310 (pc2 := 311) rfl ?_
  refine j_sld hc hX (q_pl (k := 1) (by decide) hi hN (by decide)) dL_law_311 (pc2 := 312) rfl ?_
  refine j_aload_n (k := 0) hc dL_law_312 rfl (pc2 := 313) rfl ?_
  refine j_iload_n (k := 3) hc dL_law_313 rfl (pc2 := 314) rfl ?_
  refine j_iconst hc dL_law_314 ic_2 (pc2 := 315) rfl ?_
  refine j_iadd hc dL_law_315 (pc2 := 316) rfl ?_
  refine j_sld hc hX (q_pl (k := 2) (by decide) hi hN (by decide)) dL_law_316 (pc2 := 317) rfl ?_
  refine j_aload_n (k := 0) hc dL_law_317 rfl (pc2 := 318) rfl ?_
  refine j_iload_n (k := 3) hc dL_law_318 rfl (pc2 := 319) rfl ?_
  refine j_iconst hc dL_law_319 ic_3 (pc2 := 320) rfl ?_
  refine j_iadd hc dL_law_320 (pc2 := 321) rfl ?_
  refine j_sld hc hX (q_pl (k := 3) (by decide) hi hN (by decide)) dL_law_321 (pc2 := 322) rfl ?_
  refine l_call (As := [.int (xs (Int32.ofNat i + 1).toNatClampNeg), .int (xs (Int32.ofNat i + 2).toNatClampNeg), .int (xs (Int32.ofNat i + 3).toNatClampNeg)]) hc (C_X12_set (n := q_F) (t := 157) rfl _ _ e2) mv_X12_set ln_L_32 rfl (show 157 < q_N0 by decide) rfl rfl ⟨by decide, by decide⟩ ⟨by decide, by decide⟩ (Nat.le_of_ble_eq_true rfl) dL_law_322 (pc2 := 325) rfl ?_
  refine j_icmp_eq hc dL_law_325 (pc1 := 1255) (pc2 := 328) rfl rfl (fun _ => ?_) (fun z => absurd rfl z)
  exact hn σ2 hs
set_option maxRecDepth 100000 in
theorem law_4 {w : q_Wd} {cx : q_Cx} {b N i : Nat} {xs : Nat → Int32} {σ : q_Sto} {Q : State → Prop} (hc : q_ok w cx RL code 4 ret room_1) (hX : q_scr w cx b N xs) (hi : i + 6 ≤ N) (hN : N ≤ 3072) (hσ : q_Sim σ) (hn : ∀ σ2, q_Sim σ2 → q_J w cx 4 172 24195 Q 1255 [some (.ref b), some (q_rf w 0), some (q_rf w 157), some (.int (Int32.ofNat i))] [] (q_sg σ2)) : q_J w cx 4 172 24195 Q 330 [some (.ref b), some (q_rf w 0), some (q_rf w 157), some (.int (Int32.ofNat i))] [] (q_sg σ) := by
  refine k_rl (k := 1) hc dL_law_330 rfl (pc2 := 331) rfl ?_
  refine j_aload_n (k := 0) hc dL_law_331 rfl (pc2 := 332) rfl ?_
  refine j_iload_n (k := 3) hc dL_law_332 rfl (pc2 := 333) rfl ?_
  refine j_iconst hc dL_law_333 ic_1 (pc2 := 334) rfl ?_
  refine j_iadd hc dL_law_334 (pc2 := 335) rfl ?_
  refine j_sld hc hX (q_pl (k := 1) (by decide) hi hN (by decide)) dL_law_335 (pc2 := 336) rfl ?_
  refine j_aload_n (k := 0) hc dL_law_336 rfl (pc2 := 337) rfl ?_
  refine j_iload_n (k := 3) hc dL_law_337 rfl (pc2 := 338) rfl ?_
  refine j_iconst hc dL_law_338 ic_2 (pc2 := 339) rfl ?_
  refine j_iadd hc dL_law_339 (pc2 := 340) rfl ?_
  refine j_sld hc hX (q_pl (k := 2) (by decide) hi hN (by decide)) dL_law_340 (pc2 := 341) rfl ?_
  refine j_aload_n (k := 0) hc dL_law_341 rfl (pc2 := 342) rfl ?_
  refine j_iload_n (k := 3) hc dL_law_342 rfl (pc2 := 343) rfl ?_
  refine j_iconst hc dL_law_343 ic_3 (pc2 := 344) rfl ?_
  refine j_iadd hc dL_law_344 (pc2 := 345) rfl ?_
  refine j_sld hc hX (q_pl (k := 3) (by decide) hi hN (by decide)) dL_law_345 (pc2 := 346) rfl ?_
  obtain ⟨r, σ1, σ2, e1, e2, hs⟩ := P_like hσ (xs (Int32.ofNat i + 1).toNatClampNeg) (xs (Int32.ofNat i + 2).toNatClampNeg) (xs (Int32.ofNat i + 3).toNatClampNeg) 
  refine l_call (As := [.int (xs (Int32.ofNat i + 1).toNatClampNeg), .int (xs (Int32.ofNat i + 2).toNatClampNeg), .int (xs (Int32.ofNat i + 3).toNatClampNeg)]) hc (C_X11_like (n := q_F) (t := 0) rfl _ _ e1) mv_X11_like ln_L_33 rfl (show 0 < q_N0 by decide) rfl rfl ⟨by decide, by decide⟩ ⟨by decide, by decide⟩ (Nat.le_of_ble_eq_true rfl) dL_law_346 (pc2 := 349) rfl ?_
  refine k_rl (k := 2) hc dL_law_349 rfl (pc2 := 350) rfl ?_
  refine j_aload_n (k := 0) hc dL_law_350 rfl (pc2 := 351) rfl ?_
  refine j_iload_n (k := 3) hc dL_law_351 rfl (pc2 := 352) rfl ?_
  refine j_iconst hc dL_law_352 ic_1 (pc2 := 353) rfl ?_
  refine j_iadd hc dL_law_353 (pc2 := 354) rfl ?_
  refine j_sld hc hX (q_pl (k := 1) (by decide) hi hN (by decide)) dL_law_354 (pc2 := 355) rfl ?_
  refine j_aload_n (k := 0) hc dL_law_355 rfl (pc2 := 356) rfl ?_
  refine j_iload_n (k := 3) hc dL_law_356 rfl (pc2 := 357) rfl ?_
  refine j_iconst hc dL_law_357 ic_2 (pc2 := 358) rfl ?_
  refine j_iadd hc dL_law_358 (pc2 := 359) rfl ?_
  refine j_sld hc hX (q_pl (k := 2) (by decide) hi hN (by decide)) dL_law_359 (pc2 := 360) rfl ?_
  refine j_aload_n (k := 0) hc dL_law_360 rfl (pc2 := 361) rfl ?_
  refine j_iload_n (k := 3) hc dL_law_361 rfl (pc2 := 362) rfl ?_
  refine j_iconst hc dL_law_362 ic_3 (pc2 := 363) rfl ?_
  refine j_iadd hc dL_law_363 (pc2 := 364) rfl ?_
  refine j_sld hc hX (q_pl (k := 3) (by decide) hi hN (by decide)) dL_law_364 (pc2 := 365) rfl ?_
  refine l_call (As := [.int (xs (Int32.ofNat i + 1).toNatClampNeg), .int (xs (Int32.ofNat i + 2).toNatClampNeg), .int (xs (Int32.ofNat i + 3).toNatClampNeg)]) hc (C_X12_like (n := q_F) (t := 157) rfl _ _ e2) mv_X12_like ln_L_36 rfl (show 157 < q_N0 by decide) rfl rfl ⟨by decide, by decide⟩ ⟨by decide, by decide⟩ (Nat.le_of_ble_eq_true rfl) dL_law_365 (pc2 := 368) rfl ?_
  refine j_icmp_eq hc dL_law_368 (pc1 := 1255) (pc2 := 371) rfl rfl (fun _ => ?_) (fun z => absurd rfl z)
  exact hn σ2 hs
set_option maxRecDepth 100000 in
theorem law_5 {w : q_Wd} {cx : q_Cx} {b N i : Nat} {xs : Nat → Int32} {σ : q_Sto} {Q : State → Prop} (hc : q_ok w cx RL code 4 ret room_1) (hX : q_scr w cx b N xs) (hi : i + 6 ≤ N) (hN : N ≤ 3072) (hσ : q_Sim σ) (hn : ∀ σ2, q_Sim σ2 → q_J w cx 4 172 24195 Q 1255 [some (.ref b), some (q_rf w 0), some (q_rf w 157), some (.int (Int32.ofNat i))] [] (q_sg σ2)) : q_J w cx 4 172 24195 Q 373 [some (.ref b), some (q_rf w 0), some (q_rf w 157), some (.int (Int32.ofNat i))] [] (q_sg σ) := by
  refine k_rl (k := 1) hc dL_law_373 rfl (pc2 := 374) rfl ?_
  obtain ⟨r, σ1, σ2, e1, e2, hs⟩ := P_vote hσ  
  refine l_call (As := []) hc (C_X11_vote (n := q_F) (t := 0) rfl _ _ e1) mv_X11_vote ln_L_37 rfl (show 0 < q_N0 by decide) rfl rfl ⟨by decide, by decide⟩ ⟨by decide, by decide⟩ (Nat.le_of_ble_eq_true rfl) dL_law_374 (pc2 := 377) rfl ?_
  refine k_rl (k := 2) hc dL_law_377 rfl (pc2 := 378) rfl ?_
  refine l_call (As := []) hc (C_X12_vote (n := q_F) (t := 157) rfl _ _ e2) mv_X12_vote ln_L_41 rfl (show 157 < q_N0 by decide) rfl rfl ⟨by decide, by decide⟩ ⟨by decide, by decide⟩ (Nat.le_of_ble_eq_true rfl) dL_law_378 (pc2 := 381) rfl ?_
  refine j_icmp_eq hc dL_law_381 (pc1 := 1255) (pc2 := 384) rfl rfl (fun _ => ?_) (fun z => absurd rfl z)
  exact hn σ2 hs
set_option maxRecDepth 100000 in
theorem law_6 {w : q_Wd} {cx : q_Cx} {b N i : Nat} {xs : Nat → Int32} {σ : q_Sto} {Q : State → Prop} (hc : q_ok w cx RL code 4 ret room_1) (hX : q_scr w cx b N xs) (hi : i + 6 ≤ N) (hN : N ≤ 3072) (hσ : q_Sim σ) (hn : ∀ σ2, q_Sim σ2 → q_J w cx 4 172 24195 Q 1255 [some (.ref b), some (q_rf w 0), some (q_rf w 157), some (.int (Int32.ofNat i))] [] (q_sg σ2)) : q_J w cx 4 172 24195 Q 386 [some (.ref b), some (q_rf w 0), some (q_rf w 157), some (.int (Int32.ofNat i))] [] (q_sg σ) := by
  refine k_rl (k := 1) hc dL_law_386 rfl (pc2 := 387) rfl ?_
  refine j_aload_n (k := 0) hc dL_law_387 rfl (pc2 := 388) rfl ?_
  refine j_iload_n (k := 3) hc dL_law_388 rfl (pc2 := 389) rfl ?_
  refine j_iconst hc dL_law_389 ic_1 (pc2 := 390) rfl ?_
  refine j_iadd hc dL_law_390 (pc2 := 391) rfl ?_
  refine j_sld hc hX (q_pl (k := 1) (by decide) hi hN (by decide)) dL_law_391 (pc2 := 392) rfl ?_
  refine j_aload_n (k := 0) hc dL_law_392 rfl (pc2 := 393) rfl ?_
  refine j_iload_n (k := 3) hc dL_law_393 rfl (pc2 := 394) rfl ?_
  refine j_iconst hc dL_law_394 ic_2 (pc2 := 395) rfl ?_
  refine j_iadd hc dL_law_395 (pc2 := 396) rfl ?_
  refine j_sld hc hX (q_pl (k := 2) (by decide) hi hN (by decide)) dL_law_396 (pc2 := 397) rfl ?_
  refine j_aload_n (k := 0) hc dL_law_397 rfl (pc2 := 398) rfl ?_
  refine j_iload_n (k := 3) hc dL_law_398 rfl (pc2 := 399) rfl ?_
  refine j_iconst hc dL_law_399 ic_3 (pc2 := 400) rfl ?_
  refine j_iadd hc dL_law_400 (pc2 := 401) rfl ?_
  refine j_sld hc hX (q_pl (k := 3) (by decide) hi hN (by decide)) dL_law_401 (pc2 := 402) rfl ?_
  obtain ⟨r, σ1, σ2, e1, e2, hs⟩ := P_act hσ (xs (Int32.ofNat i + 1).toNatClampNeg) (xs (Int32.ofNat i + 2).toNatClampNeg) (xs (Int32.ofNat i + 3).toNatClampNeg) 
  refine l_call (As := [.int (xs (Int32.ofNat i + 1).toNatClampNeg), .int (xs (Int32.ofNat i + 2).toNatClampNeg), .int (xs (Int32.ofNat i + 3).toNatClampNeg)]) hc (C_X11_act (n := q_F) (t := 0) rfl _ _ e1) mv_X11_act ln_L_42 rfl (show 0 < q_N0 by decide) rfl rfl ⟨by decide, by decide⟩ ⟨by decide, by decide⟩ (Nat.le_of_ble_eq_true rfl) dL_law_402 (pc2 := 405) rfl ?_
  refine k_rl (k := 2) hc dL_law_405 rfl (pc2 := 406) rfl ?_
  refine j_aload_n (k := 0) hc dL_law_406 rfl (pc2 := 407) rfl ?_
  refine j_iload_n (k := 3) hc dL_law_407 rfl (pc2 := 408) rfl ?_
  refine j_iconst hc dL_law_408 ic_1 (pc2 := 409) rfl ?_
  refine j_iadd hc dL_law_409 (pc2 := 410) rfl ?_
  refine j_sld hc hX (q_pl (k := 1) (by decide) hi hN (by decide)) dL_law_410 (pc2 := 411) rfl ?_
  refine j_aload_n (k := 0) hc dL_law_411 rfl (pc2 := 412) rfl ?_
  refine j_iload_n (k := 3) hc dL_law_412 rfl (pc2 := 413) rfl ?_
  refine j_iconst hc dL_law_413 ic_2 (pc2 := 414) rfl ?_
  refine j_iadd hc dL_law_414 (pc2 := 415) rfl ?_
  refine j_sld hc hX (q_pl (k := 2) (by decide) hi hN (by decide)) dL_law_415 (pc2 := 416) rfl ?_
  refine j_aload_n (k := 0) hc dL_law_416 rfl (pc2 := 417) rfl ?_
  refine j_iload_n (k := 3) hc dL_law_417 rfl (pc2 := 418) rfl ?_
  refine j_iconst hc dL_law_418 ic_3 (pc2 := 419) rfl ?_
  refine j_iadd hc dL_law_419 (pc2 := 420) rfl ?_
  refine j_sld hc hX (q_pl (k := 3) (by decide) hi hN (by decide)) dL_law_420 (pc2 := 421) rfl ?_
  refine l_call (As := [.int (xs (Int32.ofNat i + 1).toNatClampNeg), .int (xs (Int32.ofNat i + 2).toNatClampNeg), .int (xs (Int32.ofNat i + 3).toNatClampNeg)]) hc (C_X12_act (n := q_F) (t := 157) rfl _ _ e2) mv_X12_act ln_L_45 rfl (show 157 < q_N0 by decide) rfl rfl ⟨by decide, by decide⟩ ⟨by decide, by decide⟩ (Nat.le_of_ble_eq_true rfl) dL_law_421 (pc2 := 424) rfl ?_
  refine j_icmp_eq hc dL_law_424 (pc1 := 1255) (pc2 := 427) rfl rfl (fun _ => ?_) (fun z => absurd rfl z)
  exact hn σ2 hs
set_option maxRecDepth 100000 in
theorem law_7 {w : q_Wd} {cx : q_Cx} {b N i : Nat} {xs : Nat → Int32} {σ : q_Sto} {Q : State → Prop} (hc : q_ok w cx RL code 4 ret room_1) (hX : q_scr w cx b N xs) (hi : i + 6 ≤ N) (hN : N ≤ 3072) (hσ : q_Sim σ) (hn : ∀ σ2, q_Sim σ2 → q_J w cx 4 172 24195 Q 1255 [some (.ref b), some (q_rf w 0), some (q_rf w 157), some (.int (Int32.ofNat i))] [] (q_sg σ2)) : q_J w cx 4 172 24195 Q 429 [some (.ref b), some (q_rf w 0), some (q_rf w 157), some (.int (Int32.ofNat i))] [] (q_sg σ) := by
  refine k_rl (k := 1) hc dL_law_429 rfl (pc2 := 430) rfl ?_
  refine j_aload_n (k := 0) hc dL_law_430 rfl (pc2 := 431) rfl ?_
  refine j_iload_n (k := 3) hc dL_law_431 rfl (pc2 := 432) rfl ?_
  refine j_iconst hc dL_law_432 ic_1 (pc2 := 433) rfl ?_
  refine j_iadd hc dL_law_433 (pc2 := 434) rfl ?_
  refine j_sld hc hX (q_pl (k := 1) (by decide) hi hN (by decide)) dL_law_434 (pc2 := 435) rfl ?_
  obtain ⟨r, σ1, σ2, e1, e2, hs⟩ := P_go hσ (xs (Int32.ofNat i + 1).toNatClampNeg) 
  refine l_call (As := [.int (xs (Int32.ofNat i + 1).toNatClampNeg)]) hc (C_X11_go (n := q_F) (t := 0) rfl _ _ e1) mv_X11_go ln_L_46 rfl (show 0 < q_N0 by decide) rfl rfl ⟨by decide, by decide⟩ ⟨by decide, by decide⟩ (Nat.le_of_ble_eq_true rfl) dL_law_435 (pc2 := 438) rfl ?_
  refine k_rl (k := 2) hc dL_law_438 rfl (pc2 := 439) rfl ?_
  refine j_aload_n (k := 0) hc dL_law_439 rfl (pc2 := 440) rfl ?_
  refine j_iload_n (k := 3) hc dL_law_440 rfl (pc2 := 441) rfl ?_
  refine j_iconst hc dL_law_441 ic_1 (pc2 := 442) rfl ?_
  refine j_iadd hc dL_law_442 (pc2 := 443) rfl ?_
  refine j_sld hc hX (q_pl (k := 1) (by decide) hi hN (by decide)) dL_law_443 (pc2 := 444) rfl ?_
  refine l_call (As := [.int (xs (Int32.ofNat i + 1).toNatClampNeg)]) hc (C_X12_go (n := q_F) (t := 157) rfl _ _ e2) mv_X12_go ln_L_49 rfl (show 157 < q_N0 by decide) rfl rfl ⟨by decide, by decide⟩ ⟨by decide, by decide⟩ (Nat.le_of_ble_eq_true rfl) dL_law_444 (pc2 := 447) rfl ?_
  refine j_icmp_eq hc dL_law_447 (pc1 := 1255) (pc2 := 450) rfl rfl (fun _ => ?_) (fun z => absurd rfl z)
  exact hn σ2 hs
set_option maxRecDepth 100000 in
theorem law_8 {w : q_Wd} {cx : q_Cx} {b N i : Nat} {xs : Nat → Int32} {σ : q_Sto} {Q : State → Prop} (hc : q_ok w cx RL code 4 ret room_1) (hX : q_scr w cx b N xs) (hi : i + 6 ≤ N) (hN : N ≤ 3072) (hσ : q_Sim σ) (hn : ∀ σ2, q_Sim σ2 → q_J w cx 4 172 24195 Q 1255 [some (.ref b), some (q_rf w 0), some (q_rf w 157), some (.int (Int32.ofNat i))] [] (q_sg σ2)) : q_J w cx 4 172 24195 Q 452 [some (.ref b), some (q_rf w 0), some (q_rf w 157), some (.int (Int32.ofNat i))] [] (q_sg σ) := by
  refine k_rl (k := 1) hc dL_law_452 rfl (pc2 := 453) rfl ?_
  obtain ⟨r, σ1, σ2, e1, e2, hs⟩ := P_rest hσ  
  refine l_call (As := []) hc (C_X11_rest (n := q_F) (t := 0) rfl _ _ e1) mv_X11_rest ln_L_50 rfl (show 0 < q_N0 by decide) rfl rfl ⟨by decide, by decide⟩ ⟨by decide, by decide⟩ (Nat.le_of_ble_eq_true rfl) dL_law_453 (pc2 := 456) rfl ?_
  refine k_rl (k := 2) hc dL_law_456 rfl (pc2 := 457) rfl ?_
  refine l_call (As := []) hc (C_X12_rest (n := q_F) (t := 157) rfl _ _ e2) mv_X12_rest ln_L_53 rfl (show 157 < q_N0 by decide) rfl rfl ⟨by decide, by decide⟩ ⟨by decide, by decide⟩ (Nat.le_of_ble_eq_true rfl) dL_law_457 (pc2 := 460) rfl ?_
  refine j_icmp_eq hc dL_law_460 (pc1 := 1255) (pc2 := 463) rfl rfl (fun _ => ?_) (fun z => absurd rfl z)
  exact hn σ2 hs
set_option maxRecDepth 100000 in
theorem law_9 {w : q_Wd} {cx : q_Cx} {b N i : Nat} {xs : Nat → Int32} {σ : q_Sto} {Q : State → Prop} (hc : q_ok w cx RL code 4 ret room_1) (hX : q_scr w cx b N xs) (hi : i + 6 ≤ N) (hN : N ≤ 3072) (hσ : q_Sim σ) (hn : ∀ σ2, q_Sim σ2 → q_J w cx 4 172 24195 Q 1255 [some (.ref b), some (q_rf w 0), some (q_rf w 157), some (.int (Int32.ofNat i))] [] (q_sg σ2)) : q_J w cx 4 172 24195 Q 465 [some (.ref b), some (q_rf w 0), some (q_rf w 157), some (.int (Int32.ofNat i))] [] (q_sg σ) := by
  refine k_rl (k := 1) hc dL_law_465 rfl (pc2 := 466) rfl ?_
  refine j_aload_n (k := 0) hc dL_law_466 rfl (pc2 := 467) rfl ?_
  refine j_iload_n (k := 3) hc dL_law_467 rfl (pc2 := 468) rfl ?_
  refine j_iconst hc dL_law_468 ic_1 (pc2 := 469) rfl ?_
  refine j_iadd hc dL_law_469 (pc2 := 470) rfl ?_
  refine j_sld hc hX (q_pl (k := 1) (by decide) hi hN (by decide)) dL_law_470 (pc2 := 471) rfl ?_
  obtain ⟨r, σ1, σ2, e1, e2, hs⟩ := P_days hσ (xs (Int32.ofNat i + 1).toNatClampNeg) 
  refine l_call (As := [.int (xs (Int32.ofNat i + 1).toNatClampNeg)]) hc (C_X11_days (n := q_F) (t := 0) rfl _ _ e1) mv_X11_days ln_L_54 rfl (show 0 < q_N0 by decide) rfl rfl ⟨by decide, by decide⟩ ⟨by decide, by decide⟩ (Nat.le_of_ble_eq_true rfl) dL_law_471 (pc2 := 474) rfl ?_
  refine k_rl (k := 2) hc dL_law_474 rfl (pc2 := 475) rfl ?_
  refine j_aload_n (k := 0) hc dL_law_475 rfl (pc2 := 476) rfl ?_
  refine j_iload_n (k := 3) hc dL_law_476 rfl (pc2 := 477) rfl ?_
  refine j_iconst hc dL_law_477 ic_1 (pc2 := 478) rfl ?_
  refine j_iadd hc dL_law_478 (pc2 := 479) rfl ?_
  refine j_sld hc hX (q_pl (k := 1) (by decide) hi hN (by decide)) dL_law_479 (pc2 := 480) rfl ?_
  refine l_call (As := [.int (xs (Int32.ofNat i + 1).toNatClampNeg)]) hc (C_X12_days (n := q_F) (t := 157) rfl _ _ e2) mv_X12_days ln_L_57 rfl (show 157 < q_N0 by decide) rfl rfl ⟨by decide, by decide⟩ ⟨by decide, by decide⟩ (Nat.le_of_ble_eq_true rfl) dL_law_480 (pc2 := 483) rfl ?_
  refine j_icmp_eq hc dL_law_483 (pc1 := 1255) (pc2 := 486) rfl rfl (fun _ => ?_) (fun z => absurd rfl z)
  exact hn σ2 hs
set_option maxRecDepth 100000 in
theorem law_10 {w : q_Wd} {cx : q_Cx} {b N i : Nat} {xs : Nat → Int32} {σ : q_Sto} {Q : State → Prop} (hc : q_ok w cx RL code 4 ret room_1) (hX : q_scr w cx b N xs) (hi : i + 6 ≤ N) (hN : N ≤ 3072) (hσ : q_Sim σ) (hn : ∀ σ2, q_Sim σ2 → q_J w cx 4 172 24195 Q 1255 [some (.ref b), some (q_rf w 0), some (q_rf w 157), some (.int (Int32.ofNat i))] [] (q_sg σ2)) : q_J w cx 4 172 24195 Q 488 [some (.ref b), some (q_rf w 0), some (q_rf w 157), some (.int (Int32.ofNat i))] [] (q_sg σ) := by
  refine k_rl (k := 1) hc dL_law_488 rfl (pc2 := 489) rfl ?_
  refine j_aload_n (k := 0) hc dL_law_489 rfl (pc2 := 490) rfl ?_
  refine j_iload_n (k := 3) hc dL_law_490 rfl (pc2 := 491) rfl ?_
  refine j_iconst hc dL_law_491 ic_1 (pc2 := 492) rfl ?_
  refine j_iadd hc dL_law_492 (pc2 := 493) rfl ?_
  refine j_sld hc hX (q_pl (k := 1) (by decide) hi hN (by decide)) dL_law_493 (pc2 := 494) rfl ?_
  refine j_aload_n (k := 0) hc dL_law_494 rfl (pc2 := 495) rfl ?_
  refine j_iload_n (k := 3) hc dL_law_495 rfl (pc2 := 496) rfl ?_
  refine j_iconst hc dL_law_496 ic_2 (pc2 := 497) rfl ?_
  refine j_iadd hc dL_law_497 (pc2 := 498) rfl ?_
  refine j_sld hc hX (q_pl (k := 2) (by decide) hi hN (by decide)) dL_law_498 (pc2 := 499) rfl ?_
  refine j_aload_n (k := 0) hc dL_law_499 rfl (pc2 := 500) rfl ?_
  refine j_iload_n (k := 3) hc dL_law_500 rfl (pc2 := 501) rfl ?_
  refine j_iconst hc dL_law_501 ic_3 (pc2 := 502) rfl ?_
  refine j_iadd hc dL_law_502 (pc2 := 503) rfl ?_
  refine j_sld hc hX (q_pl (k := 3) (by decide) hi hN (by decide)) dL_law_503 (pc2 := 504) rfl ?_
  refine j_aload_n (k := 0) hc dL_law_504 rfl (pc2 := 505) rfl ?_
  refine j_iload_n (k := 3) hc dL_law_505 rfl (pc2 := 506) rfl ?_
  refine j_iconst hc dL_law_506 ic_4 (pc2 := 507) rfl ?_
  refine j_iadd hc dL_law_507 (pc2 := 508) rfl ?_
  refine j_sld hc hX (q_pl (k := 4) (by decide) hi hN (by decide)) dL_law_508 (pc2 := 509) rfl ?_
  refine j_aload_n (k := 0) hc dL_law_509 rfl (pc2 := 510) rfl ?_
  refine j_iload_n (k := 3) hc dL_law_510 rfl (pc2 := 511) rfl ?_
  refine j_iconst hc dL_law_511 ic_5 (pc2 := 512) rfl ?_
  refine j_iadd hc dL_law_512 (pc2 := 513) rfl ?_
  refine j_sld hc hX (q_pl (k := 5) (by decide) hi hN (by decide)) dL_law_513 (pc2 := 514) rfl ?_
  obtain ⟨r, σ1, σ2, e1, e2, hs⟩ := P_feed hσ (xs (Int32.ofNat i + 1).toNatClampNeg) (xs (Int32.ofNat i + 2).toNatClampNeg) (xs (Int32.ofNat i + 3).toNatClampNeg) (xs (Int32.ofNat i + 4).toNatClampNeg) (xs (Int32.ofNat i + 5).toNatClampNeg) 
  refine l_call (As := [.int (xs (Int32.ofNat i + 1).toNatClampNeg), .int (xs (Int32.ofNat i + 2).toNatClampNeg), .int (xs (Int32.ofNat i + 3).toNatClampNeg), .int (xs (Int32.ofNat i + 4).toNatClampNeg), .int (xs (Int32.ofNat i + 5).toNatClampNeg)]) hc (C_X11_feed (n := q_F) (t := 0) rfl _ _ e1) mv_X11_feed ln_L_58 rfl (show 0 < q_N0 by decide) rfl rfl ⟨by decide, by decide⟩ ⟨by decide, by decide⟩ (Nat.le_of_ble_eq_true rfl) dL_law_514 (pc2 := 517) rfl ?_
  refine k_rl (k := 2) hc dL_law_517 rfl (pc2 := 518) rfl ?_
  refine j_aload_n (k := 0) hc dL_law_518 rfl (pc2 := 519) rfl ?_
  refine j_iload_n (k := 3) hc dL_law_519 rfl (pc2 := 520) rfl ?_
  refine j_iconst hc dL_law_520 ic_1 (pc2 := 521) rfl ?_
  refine j_iadd hc dL_law_521 (pc2 := 522) rfl ?_
  refine j_sld hc hX (q_pl (k := 1) (by decide) hi hN (by decide)) dL_law_522 (pc2 := 523) rfl ?_
  refine j_aload_n (k := 0) hc dL_law_523 rfl (pc2 := 524) rfl ?_
  refine j_iload_n (k := 3) hc dL_law_524 rfl (pc2 := 525) rfl ?_
  refine j_iconst hc dL_law_525 ic_2 (pc2 := 526) rfl ?_
  refine j_iadd hc dL_law_526 (pc2 := 527) rfl ?_
  refine j_sld hc hX (q_pl (k := 2) (by decide) hi hN (by decide)) dL_law_527 (pc2 := 528) rfl ?_
  refine j_aload_n (k := 0) hc dL_law_528 rfl (pc2 := 529) rfl ?_
  refine j_iload_n (k := 3) hc dL_law_529 rfl (pc2 := 530) rfl ?_
  refine j_iconst hc dL_law_530 ic_3 (pc2 := 531) rfl ?_
  refine j_iadd hc dL_law_531 (pc2 := 532) rfl ?_
  refine j_sld hc hX (q_pl (k := 3) (by decide) hi hN (by decide)) dL_law_532 (pc2 := 533) rfl ?_
  refine j_aload_n (k := 0) hc dL_law_533 rfl (pc2 := 534) rfl ?_
  refine j_iload_n (k := 3) hc dL_law_534 rfl (pc2 := 535) rfl ?_
  refine j_iconst hc dL_law_535 ic_4 (pc2 := 536) rfl ?_
  refine j_iadd hc dL_law_536 (pc2 := 537) rfl ?_
  refine j_sld hc hX (q_pl (k := 4) (by decide) hi hN (by decide)) dL_law_537 (pc2 := 538) rfl ?_
  refine j_aload_n (k := 0) hc dL_law_538 rfl (pc2 := 539) rfl ?_
  refine j_iload_n (k := 3) hc dL_law_539 rfl (pc2 := 540) rfl ?_
  refine j_iconst hc dL_law_540 ic_5 (pc2 := 541) rfl ?_
  refine j_iadd hc dL_law_541 (pc2 := 542) rfl ?_
  refine j_sld hc hX (q_pl (k := 5) (by decide) hi hN (by decide)) dL_law_542 (pc2 := 543) rfl ?_
  refine l_call (As := [.int (xs (Int32.ofNat i + 1).toNatClampNeg), .int (xs (Int32.ofNat i + 2).toNatClampNeg), .int (xs (Int32.ofNat i + 3).toNatClampNeg), .int (xs (Int32.ofNat i + 4).toNatClampNeg), .int (xs (Int32.ofNat i + 5).toNatClampNeg)]) hc (C_X12_feed (n := q_F) (t := 157) rfl _ _ e2) mv_X12_feed ln_L_62 rfl (show 157 < q_N0 by decide) rfl rfl ⟨by decide, by decide⟩ ⟨by decide, by decide⟩ (Nat.le_of_ble_eq_true rfl) dL_law_543 (pc2 := 546) rfl ?_
  refine j_icmp_eq hc dL_law_546 (pc1 := 1255) (pc2 := 549) rfl rfl (fun _ => ?_) (fun z => absurd rfl z)
  exact hn σ2 hs
set_option maxRecDepth 100000 in
theorem law_11 {w : q_Wd} {cx : q_Cx} {b N i : Nat} {xs : Nat → Int32} {σ : q_Sto} {Q : State → Prop} (hc : q_ok w cx RL code 4 ret room_1) (hX : q_scr w cx b N xs) (hi : i + 6 ≤ N) (hN : N ≤ 3072) (hσ : q_Sim σ) (hn : ∀ σ2, q_Sim σ2 → q_J w cx 4 172 24195 Q 1255 [some (.ref b), some (q_rf w 0), some (q_rf w 157), some (.int (Int32.ofNat i))] [] (q_sg σ2)) : q_J w cx 4 172 24195 Q 551 [some (.ref b), some (q_rf w 0), some (q_rf w 157), some (.int (Int32.ofNat i))] [] (q_sg σ) := by
  refine k_rl (k := 1) hc dL_law_551 rfl (pc2 := 552) rfl ?_
  refine j_aload_n (k := 0) hc dL_law_552 rfl (pc2 := 553) rfl ?_
  refine j_iload_n (k := 3) hc dL_law_553 rfl (pc2 := 554) rfl ?_
  refine j_iconst hc dL_law_554 ic_1 (pc2 := 555) rfl ?_
  refine j_iadd hc dL_law_555 (pc2 := 556) rfl ?_
  refine j_sld hc hX (q_pl (k := 1) (by decide) hi hN (by decide)) dL_law_556 (pc2 := 557) rfl ?_
  obtain ⟨r, σ1, σ2, e1, e2, hs⟩ := P_end hσ (xs (Int32.ofNat i + 1).toNatClampNeg) 
  refine l_call (As := [.int (xs (Int32.ofNat i + 1).toNatClampNeg)]) hc (C_X11_end (n := q_F) (t := 0) rfl _ _ e1) mv_X11_end ln_L_63 rfl (show 0 < q_N0 by decide) rfl rfl ⟨by decide, by decide⟩ ⟨by decide, by decide⟩ (Nat.le_of_ble_eq_true rfl) dL_law_557 (pc2 := 560) rfl ?_
  refine k_rl (k := 2) hc dL_law_560 rfl (pc2 := 561) rfl ?_
  refine j_aload_n (k := 0) hc dL_law_561 rfl (pc2 := 562) rfl ?_
  refine j_iload_n (k := 3) hc dL_law_562 rfl (pc2 := 563) rfl ?_
  refine j_iconst hc dL_law_563 ic_1 (pc2 := 564) rfl ?_
  refine j_iadd hc dL_law_564 (pc2 := 565) rfl ?_
  refine j_sld hc hX (q_pl (k := 1) (by decide) hi hN (by decide)) dL_law_565 (pc2 := 566) rfl ?_
  refine l_call (As := [.int (xs (Int32.ofNat i + 1).toNatClampNeg)]) hc (C_X12_end (n := q_F) (t := 157) rfl _ _ e2) mv_X12_end ln_L_67 rfl (show 157 < q_N0 by decide) rfl rfl ⟨by decide, by decide⟩ ⟨by decide, by decide⟩ (Nat.le_of_ble_eq_true rfl) dL_law_566 (pc2 := 569) rfl ?_
  refine j_icmp_eq hc dL_law_569 (pc1 := 1255) (pc2 := 572) rfl rfl (fun _ => ?_) (fun z => absurd rfl z)
  exact hn σ2 hs
set_option maxRecDepth 100000 in
theorem law_12 {w : q_Wd} {cx : q_Cx} {b N i : Nat} {xs : Nat → Int32} {σ : q_Sto} {Q : State → Prop} (hc : q_ok w cx RL code 4 ret room_1) (hX : q_scr w cx b N xs) (hi : i + 6 ≤ N) (hN : N ≤ 3072) (hσ : q_Sim σ) (hn : ∀ σ2, q_Sim σ2 → q_J w cx 4 172 24195 Q 1255 [some (.ref b), some (q_rf w 0), some (q_rf w 157), some (.int (Int32.ofNat i))] [] (q_sg σ2)) : q_J w cx 4 172 24195 Q 574 [some (.ref b), some (q_rf w 0), some (q_rf w 157), some (.int (Int32.ofNat i))] [] (q_sg σ) := by
  refine k_rl (k := 1) hc dL_law_574 rfl (pc2 := 575) rfl ?_
  refine j_aload_n (k := 0) hc dL_law_575 rfl (pc2 := 576) rfl ?_
  refine j_iload_n (k := 3) hc dL_law_576 rfl (pc2 := 577) rfl ?_
  refine j_iconst hc dL_law_577 ic_1 (pc2 := 578) rfl ?_
  refine j_iadd hc dL_law_578 (pc2 := 579) rfl ?_
  refine j_sld hc hX (q_pl (k := 1) (by decide) hi hN (by decide)) dL_law_579 (pc2 := 580) rfl ?_
  obtain ⟨r, σ1, σ2, e1, e2, hs⟩ := P_text hσ (xs (Int32.ofNat i + 1).toNatClampNeg) 
  refine l_call (As := [.int (xs (Int32.ofNat i + 1).toNatClampNeg)]) hc (C_X11_text (n := q_F) (t := 0) rfl _ _ e1) mv_X11_text ln_L_68 rfl (show 0 < q_N0 by decide) rfl rfl ⟨by decide, by decide⟩ ⟨by decide, by decide⟩ (Nat.le_of_ble_eq_true rfl) dL_law_580 (pc2 := 583) rfl ?_
  refine k_rl (k := 2) hc dL_law_583 rfl (pc2 := 584) rfl ?_
  refine j_aload_n (k := 0) hc dL_law_584 rfl (pc2 := 585) rfl ?_
  refine j_iload_n (k := 3) hc dL_law_585 rfl (pc2 := 586) rfl ?_
  refine j_iconst hc dL_law_586 ic_1 (pc2 := 587) rfl ?_
  refine j_iadd hc dL_law_587 (pc2 := 588) rfl ?_
  refine j_sld hc hX (q_pl (k := 1) (by decide) hi hN (by decide)) dL_law_588 (pc2 := 589) rfl ?_
  refine l_call (As := [.int (xs (Int32.ofNat i + 1).toNatClampNeg)]) hc (C_X12_text (n := q_F) (t := 157) rfl _ _ e2) mv_X12_text ln_L_71 rfl (show 157 < q_N0 by decide) rfl rfl ⟨by decide, by decide⟩ ⟨by decide, by decide⟩ (Nat.le_of_ble_eq_true rfl) dL_law_589 (pc2 := 592) rfl ?_
  refine j_icmp_eq hc dL_law_592 (pc1 := 1255) (pc2 := 595) rfl rfl (fun _ => ?_) (fun z => absurd rfl z)
  exact hn σ2 hs
set_option maxRecDepth 100000 in
theorem law_13 {w : q_Wd} {cx : q_Cx} {b N i : Nat} {xs : Nat → Int32} {σ : q_Sto} {Q : State → Prop} (hc : q_ok w cx RL code 4 ret room_1) (hX : q_scr w cx b N xs) (hi : i + 6 ≤ N) (hN : N ≤ 3072) (hσ : q_Sim σ) (hn : ∀ σ2, q_Sim σ2 → q_J w cx 4 172 24195 Q 1255 [some (.ref b), some (q_rf w 0), some (q_rf w 157), some (.int (Int32.ofNat i))] [] (q_sg σ2)) : q_J w cx 4 172 24195 Q 597 [some (.ref b), some (q_rf w 0), some (q_rf w 157), some (.int (Int32.ofNat i))] [] (q_sg σ) := by
  refine k_rl (k := 1) hc dL_law_597 rfl (pc2 := 598) rfl ?_
  refine j_aload_n (k := 0) hc dL_law_598 rfl (pc2 := 599) rfl ?_
  refine j_iload_n (k := 3) hc dL_law_599 rfl (pc2 := 600) rfl ?_
  refine j_iconst hc dL_law_600 ic_1 (pc2 := 601) rfl ?_
  refine j_iadd hc dL_law_601 (pc2 := 602) rfl ?_
  refine j_sld hc hX (q_pl (k := 1) (by decide) hi hN (by decide)) dL_law_602 (pc2 := 603) rfl ?_
  obtain ⟨r, σ1, σ2, e1, e2, hs⟩ := P_fault hσ (xs (Int32.ofNat i + 1).toNatClampNeg) 
  refine l_call (As := [.int (xs (Int32.ofNat i + 1).toNatClampNeg)]) hc (C_X11_fault (n := q_F) (t := 0) rfl _ _ e1) mv_X11_fault ln_L_72 rfl (show 0 < q_N0 by decide) rfl rfl ⟨by decide, by decide⟩ ⟨by decide, by decide⟩ (Nat.le_of_ble_eq_true rfl) dL_law_603 (pc2 := 606) rfl ?_
  refine k_rl (k := 2) hc dL_law_606 rfl (pc2 := 607) rfl ?_
  refine j_aload_n (k := 0) hc dL_law_607 rfl (pc2 := 608) rfl ?_
  refine j_iload_n (k := 3) hc dL_law_608 rfl (pc2 := 609) rfl ?_
  refine j_iconst hc dL_law_609 ic_1 (pc2 := 610) rfl ?_
  refine j_iadd hc dL_law_610 (pc2 := 611) rfl ?_
  refine j_sld hc hX (q_pl (k := 1) (by decide) hi hN (by decide)) dL_law_611 (pc2 := 612) rfl ?_
  refine l_call (As := [.int (xs (Int32.ofNat i + 1).toNatClampNeg)]) hc (C_X12_fault (n := q_F) (t := 157) rfl _ _ e2) mv_X12_fault ln_L_75 rfl (show 157 < q_N0 by decide) rfl rfl ⟨by decide, by decide⟩ ⟨by decide, by decide⟩ (Nat.le_of_ble_eq_true rfl) dL_law_612 (pc2 := 615) rfl ?_
  refine j_icmp_eq hc dL_law_615 (pc1 := 1255) (pc2 := 618) rfl rfl (fun _ => ?_) (fun z => absurd rfl z)
  exact hn σ2 hs
set_option maxRecDepth 100000 in
theorem law_14 {w : q_Wd} {cx : q_Cx} {b N i : Nat} {xs : Nat → Int32} {σ : q_Sto} {Q : State → Prop} (hc : q_ok w cx RL code 4 ret room_1) (hX : q_scr w cx b N xs) (hi : i + 6 ≤ N) (hN : N ≤ 3072) (hσ : q_Sim σ) (hn : ∀ σ2, q_Sim σ2 → q_J w cx 4 172 24195 Q 1255 [some (.ref b), some (q_rf w 0), some (q_rf w 157), some (.int (Int32.ofNat i))] [] (q_sg σ2)) : q_J w cx 4 172 24195 Q 620 [some (.ref b), some (q_rf w 0), some (q_rf w 157), some (.int (Int32.ofNat i))] [] (q_sg σ) := by
  refine k_rl (k := 1) hc dL_law_620 rfl (pc2 := 621) rfl ?_
  refine j_aload_n (k := 0) hc dL_law_621 rfl (pc2 := 622) rfl ?_
  refine j_iload_n (k := 3) hc dL_law_622 rfl (pc2 := 623) rfl ?_
  refine j_iconst hc dL_law_623 ic_1 (pc2 := 624) rfl ?_
  refine j_iadd hc dL_law_624 (pc2 := 625) rfl ?_
  refine j_sld hc hX (q_pl (k := 1) (by decide) hi hN (by decide)) dL_law_625 (pc2 := 626) rfl ?_
  refine j_aload_n (k := 0) hc dL_law_626 rfl (pc2 := 627) rfl ?_
  refine j_iload_n (k := 3) hc dL_law_627 rfl (pc2 := 628) rfl ?_
  refine j_iconst hc dL_law_628 ic_2 (pc2 := 629) rfl ?_
  refine j_iadd hc dL_law_629 (pc2 := 630) rfl ?_
  refine j_sld hc hX (q_pl (k := 2) (by decide) hi hN (by decide)) dL_law_630 (pc2 := 631) rfl ?_
  obtain ⟨r, σ1, σ2, e1, e2, hs⟩ := P_of hσ (xs (Int32.ofNat i + 1).toNatClampNeg) (xs (Int32.ofNat i + 2).toNatClampNeg) 
  refine l_call (As := [.int (xs (Int32.ofNat i + 1).toNatClampNeg), .int (xs (Int32.ofNat i + 2).toNatClampNeg)]) hc (C_X11_of (n := q_F) (t := 0) rfl _ _ e1) mv_X11_of ln_L_76 rfl (show 0 < q_N0 by decide) rfl rfl ⟨by decide, by decide⟩ ⟨by decide, by decide⟩ (Nat.le_of_ble_eq_true rfl) dL_law_631 (pc2 := 634) rfl ?_
  refine k_rl (k := 2) hc dL_law_634 rfl (pc2 := 635) rfl ?_
  refine j_aload_n (k := 0) hc dL_law_635 rfl (pc2 := 636) rfl ?_
  refine j_iload_n (k := 3) hc dL_law_636 rfl (pc2 := 637) rfl ?_
  refine j_iconst hc dL_law_637 ic_1 (pc2 := 638) rfl ?_
  refine j_iadd hc dL_law_638 (pc2 := 639) rfl ?_
  refine j_sld hc hX (q_pl (k := 1) (by decide) hi hN (by decide)) dL_law_639 (pc2 := 640) rfl ?_
  refine j_aload_n (k := 0) hc dL_law_640 rfl (pc2 := 641) rfl ?_
  refine j_iload_n (k := 3) hc dL_law_641 rfl (pc2 := 642) rfl ?_
  refine j_iconst hc dL_law_642 ic_2 (pc2 := 643) rfl ?_
  refine j_iadd hc dL_law_643 (pc2 := 644) rfl ?_
  refine j_sld hc hX (q_pl (k := 2) (by decide) hi hN (by decide)) dL_law_644 (pc2 := 645) rfl ?_
  refine l_call (As := [.int (xs (Int32.ofNat i + 1).toNatClampNeg), .int (xs (Int32.ofNat i + 2).toNatClampNeg)]) hc (C_X12_of (n := q_F) (t := 157) rfl _ _ e2) mv_X12_of ln_L_79 rfl (show 157 < q_N0 by decide) rfl rfl ⟨by decide, by decide⟩ ⟨by decide, by decide⟩ (Nat.le_of_ble_eq_true rfl) dL_law_645 (pc2 := 648) rfl ?_
  refine j_icmp_eq hc dL_law_648 (pc1 := 1255) (pc2 := 651) rfl rfl (fun _ => ?_) (fun z => absurd rfl z)
  exact hn σ2 hs
set_option maxRecDepth 100000 in
theorem law_15 {w : q_Wd} {cx : q_Cx} {b N i : Nat} {xs : Nat → Int32} {σ : q_Sto} {Q : State → Prop} (hc : q_ok w cx RL code 4 ret room_1) (hX : q_scr w cx b N xs) (hi : i + 6 ≤ N) (hN : N ≤ 3072) (hσ : q_Sim σ) (hn : ∀ σ2, q_Sim σ2 → q_J w cx 4 172 24195 Q 1255 [some (.ref b), some (q_rf w 0), some (q_rf w 157), some (.int (Int32.ofNat i))] [] (q_sg σ2)) : q_J w cx 4 172 24195 Q 653 [some (.ref b), some (q_rf w 0), some (q_rf w 157), some (.int (Int32.ofNat i))] [] (q_sg σ) := by
  refine k_rl (k := 1) hc dL_law_653 rfl (pc2 := 654) rfl ?_
  refine j_aload_n (k := 0) hc dL_law_654 rfl (pc2 := 655) rfl ?_
  refine j_iload_n (k := 3) hc dL_law_655 rfl (pc2 := 656) rfl ?_
  refine j_iconst hc dL_law_656 ic_1 (pc2 := 657) rfl ?_
  refine j_iadd hc dL_law_657 (pc2 := 658) rfl ?_
  refine j_sld hc hX (q_pl (k := 1) (by decide) hi hN (by decide)) dL_law_658 (pc2 := 659) rfl ?_
  refine j_aload_n (k := 0) hc dL_law_659 rfl (pc2 := 660) rfl ?_
  refine j_iload_n (k := 3) hc dL_law_660 rfl (pc2 := 661) rfl ?_
  refine j_iconst hc dL_law_661 ic_2 (pc2 := 662) rfl ?_
  refine j_iadd hc dL_law_662 (pc2 := 663) rfl ?_
  refine j_sld hc hX (q_pl (k := 2) (by decide) hi hN (by decide)) dL_law_663 (pc2 := 664) rfl ?_
  obtain ⟨r, σ1, σ2, e1, e2, hs⟩ := P_manOf hσ (xs (Int32.ofNat i + 1).toNatClampNeg) (xs (Int32.ofNat i + 2).toNatClampNeg) 
  refine l_call (As := [.int (xs (Int32.ofNat i + 1).toNatClampNeg), .int (xs (Int32.ofNat i + 2).toNatClampNeg)]) hc (C_X11_manOf (n := q_F) (t := 0) rfl _ _ e1) mv_X11_manOf ln_L_80 rfl (show 0 < q_N0 by decide) rfl rfl ⟨by decide, by decide⟩ ⟨by decide, by decide⟩ (Nat.le_of_ble_eq_true rfl) dL_law_664 (pc2 := 667) rfl ?_
  refine k_rl (k := 2) hc dL_law_667 rfl (pc2 := 668) rfl ?_
  refine j_aload_n (k := 0) hc dL_law_668 rfl (pc2 := 669) rfl ?_
  refine j_iload_n (k := 3) hc dL_law_669 rfl (pc2 := 670) rfl ?_
  refine j_iconst hc dL_law_670 ic_1 (pc2 := 671) rfl ?_
  refine j_iadd hc dL_law_671 (pc2 := 672) rfl ?_
  refine j_sld hc hX (q_pl (k := 1) (by decide) hi hN (by decide)) dL_law_672 (pc2 := 673) rfl ?_
  refine j_aload_n (k := 0) hc dL_law_673 rfl (pc2 := 674) rfl ?_
  refine j_iload_n (k := 3) hc dL_law_674 rfl (pc2 := 675) rfl ?_
  refine j_iconst hc dL_law_675 ic_2 (pc2 := 676) rfl ?_
  refine j_iadd hc dL_law_676 (pc2 := 677) rfl ?_
  refine j_sld hc hX (q_pl (k := 2) (by decide) hi hN (by decide)) dL_law_677 (pc2 := 678) rfl ?_
  refine l_call (As := [.int (xs (Int32.ofNat i + 1).toNatClampNeg), .int (xs (Int32.ofNat i + 2).toNatClampNeg)]) hc (C_X12_manOf (n := q_F) (t := 157) rfl _ _ e2) mv_X12_manOf ln_L_83 rfl (show 157 < q_N0 by decide) rfl rfl ⟨by decide, by decide⟩ ⟨by decide, by decide⟩ (Nat.le_of_ble_eq_true rfl) dL_law_678 (pc2 := 681) rfl ?_
  refine j_icmp_eq hc dL_law_681 (pc1 := 1255) (pc2 := 684) rfl rfl (fun _ => ?_) (fun z => absurd rfl z)
  exact hn σ2 hs
set_option maxRecDepth 100000 in
theorem law_16 {w : q_Wd} {cx : q_Cx} {b N i : Nat} {xs : Nat → Int32} {σ : q_Sto} {Q : State → Prop} (hc : q_ok w cx RL code 4 ret room_1) (hX : q_scr w cx b N xs) (hi : i + 6 ≤ N) (hN : N ≤ 3072) (hσ : q_Sim σ) (hn : ∀ σ2, q_Sim σ2 → q_J w cx 4 172 24195 Q 1255 [some (.ref b), some (q_rf w 0), some (q_rf w 157), some (.int (Int32.ofNat i))] [] (q_sg σ2)) : q_J w cx 4 172 24195 Q 686 [some (.ref b), some (q_rf w 0), some (q_rf w 157), some (.int (Int32.ofNat i))] [] (q_sg σ) := by
  refine k_rl (k := 1) hc dL_law_686 rfl (pc2 := 687) rfl ?_
  refine j_aload_n (k := 0) hc dL_law_687 rfl (pc2 := 688) rfl ?_
  refine j_iload_n (k := 3) hc dL_law_688 rfl (pc2 := 689) rfl ?_
  refine j_iconst hc dL_law_689 ic_1 (pc2 := 690) rfl ?_
  refine j_iadd hc dL_law_690 (pc2 := 691) rfl ?_
  refine j_sld hc hX (q_pl (k := 1) (by decide) hi hN (by decide)) dL_law_691 (pc2 := 692) rfl ?_
  refine j_aload_n (k := 0) hc dL_law_692 rfl (pc2 := 693) rfl ?_
  refine j_iload_n (k := 3) hc dL_law_693 rfl (pc2 := 694) rfl ?_
  refine j_iconst hc dL_law_694 ic_2 (pc2 := 695) rfl ?_
  refine j_iadd hc dL_law_695 (pc2 := 696) rfl ?_
  refine j_sld hc hX (q_pl (k := 2) (by decide) hi hN (by decide)) dL_law_696 (pc2 := 697) rfl ?_
  obtain ⟨r, σ1, σ2, e1, e2, hs⟩ := P_path hσ (xs (Int32.ofNat i + 1).toNatClampNeg) (xs (Int32.ofNat i + 2).toNatClampNeg) 
  refine l_call (As := [.int (xs (Int32.ofNat i + 1).toNatClampNeg), .int (xs (Int32.ofNat i + 2).toNatClampNeg)]) hc (C_X11_path (n := q_F) (t := 0) rfl _ _ e1) mv_X11_path ln_L_84 rfl (show 0 < q_N0 by decide) rfl rfl ⟨by decide, by decide⟩ ⟨by decide, by decide⟩ (Nat.le_of_ble_eq_true rfl) dL_law_697 (pc2 := 700) rfl ?_
  refine k_rl (k := 2) hc dL_law_700 rfl (pc2 := 701) rfl ?_
  refine j_aload_n (k := 0) hc dL_law_701 rfl (pc2 := 702) rfl ?_
  refine j_iload_n (k := 3) hc dL_law_702 rfl (pc2 := 703) rfl ?_
  refine j_iconst hc dL_law_703 ic_1 (pc2 := 704) rfl ?_
  refine j_iadd hc dL_law_704 (pc2 := 705) rfl ?_
  refine j_sld hc hX (q_pl (k := 1) (by decide) hi hN (by decide)) dL_law_705 (pc2 := 706) rfl ?_
  refine j_aload_n (k := 0) hc dL_law_706 rfl (pc2 := 707) rfl ?_
  refine j_iload_n (k := 3) hc dL_law_707 rfl (pc2 := 708) rfl ?_
  refine j_iconst hc dL_law_708 ic_2 (pc2 := 709) rfl ?_
  refine j_iadd hc dL_law_709 (pc2 := 710) rfl ?_
  refine j_sld hc hX (q_pl (k := 2) (by decide) hi hN (by decide)) dL_law_710 (pc2 := 711) rfl ?_
  refine l_call (As := [.int (xs (Int32.ofNat i + 1).toNatClampNeg), .int (xs (Int32.ofNat i + 2).toNatClampNeg)]) hc (C_X12_path (n := q_F) (t := 157) rfl _ _ e2) mv_X12_path ln_L_87 rfl (show 157 < q_N0 by decide) rfl rfl ⟨by decide, by decide⟩ ⟨by decide, by decide⟩ (Nat.le_of_ble_eq_true rfl) dL_law_711 (pc2 := 714) rfl ?_
  refine j_icmp_eq hc dL_law_714 (pc1 := 1255) (pc2 := 717) rfl rfl (fun _ => ?_) (fun z => absurd rfl z)
  exact hn σ2 hs
set_option maxRecDepth 100000 in
theorem law_17 {w : q_Wd} {cx : q_Cx} {b N i : Nat} {xs : Nat → Int32} {σ : q_Sto} {Q : State → Prop} (hc : q_ok w cx RL code 4 ret room_1) (hX : q_scr w cx b N xs) (hi : i + 6 ≤ N) (hN : N ≤ 3072) (hσ : q_Sim σ) (hn : ∀ σ2, q_Sim σ2 → q_J w cx 4 172 24195 Q 1255 [some (.ref b), some (q_rf w 0), some (q_rf w 157), some (.int (Int32.ofNat i))] [] (q_sg σ2)) : q_J w cx 4 172 24195 Q 719 [some (.ref b), some (q_rf w 0), some (q_rf w 157), some (.int (Int32.ofNat i))] [] (q_sg σ) := by
  refine k_rl (k := 1) hc dL_law_719 rfl (pc2 := 720) rfl ?_
  refine j_aload_n (k := 0) hc dL_law_720 rfl (pc2 := 721) rfl ?_
  refine j_iload_n (k := 3) hc dL_law_721 rfl (pc2 := 722) rfl ?_
  refine j_iconst hc dL_law_722 ic_1 (pc2 := 723) rfl ?_
  refine j_iadd hc dL_law_723 (pc2 := 724) rfl ?_
  refine j_sld hc hX (q_pl (k := 1) (by decide) hi hN (by decide)) dL_law_724 (pc2 := 725) rfl ?_
  refine j_aload_n (k := 0) hc dL_law_725 rfl (pc2 := 726) rfl ?_
  refine j_iload_n (k := 3) hc dL_law_726 rfl (pc2 := 727) rfl ?_
  refine j_iconst hc dL_law_727 ic_2 (pc2 := 728) rfl ?_
  refine j_iadd hc dL_law_728 (pc2 := 729) rfl ?_
  refine j_sld hc hX (q_pl (k := 2) (by decide) hi hN (by decide)) dL_law_729 (pc2 := 730) rfl ?_
  obtain ⟨r, σ1, σ2, e1, e2, hs⟩ := P_book hσ (xs (Int32.ofNat i + 1).toNatClampNeg) (xs (Int32.ofNat i + 2).toNatClampNeg) 
  refine l_call (As := [.int (xs (Int32.ofNat i + 1).toNatClampNeg), .int (xs (Int32.ofNat i + 2).toNatClampNeg)]) hc (C_X11_book (n := q_F) (t := 0) rfl _ _ e1) mv_X11_book ln_L_88 rfl (show 0 < q_N0 by decide) rfl rfl ⟨by decide, by decide⟩ ⟨by decide, by decide⟩ (Nat.le_of_ble_eq_true rfl) dL_law_730 (pc2 := 733) rfl ?_
  refine k_rl (k := 2) hc dL_law_733 rfl (pc2 := 734) rfl ?_
  refine j_aload_n (k := 0) hc dL_law_734 rfl (pc2 := 735) rfl ?_
  refine j_iload_n (k := 3) hc dL_law_735 rfl (pc2 := 736) rfl ?_
  refine j_iconst hc dL_law_736 ic_1 (pc2 := 737) rfl ?_
  refine j_iadd hc dL_law_737 (pc2 := 738) rfl ?_
  refine j_sld hc hX (q_pl (k := 1) (by decide) hi hN (by decide)) dL_law_738 (pc2 := 739) rfl ?_
  refine j_aload_n (k := 0) hc dL_law_739 rfl (pc2 := 740) rfl ?_
  refine j_iload_n (k := 3) hc dL_law_740 rfl (pc2 := 741) rfl ?_
  refine j_iconst hc dL_law_741 ic_2 (pc2 := 742) rfl ?_
  refine j_iadd hc dL_law_742 (pc2 := 743) rfl ?_
  refine j_sld hc hX (q_pl (k := 2) (by decide) hi hN (by decide)) dL_law_743 (pc2 := 744) rfl ?_
  refine l_call (As := [.int (xs (Int32.ofNat i + 1).toNatClampNeg), .int (xs (Int32.ofNat i + 2).toNatClampNeg)]) hc (C_X12_book (n := q_F) (t := 157) rfl _ _ e2) mv_X12_book ln_L_91 rfl (show 157 < q_N0 by decide) rfl rfl ⟨by decide, by decide⟩ ⟨by decide, by decide⟩ (Nat.le_of_ble_eq_true rfl) dL_law_744 (pc2 := 747) rfl ?_
  refine j_icmp_eq hc dL_law_747 (pc1 := 1255) (pc2 := 750) rfl rfl (fun _ => ?_) (fun z => absurd rfl z)
  exact hn σ2 hs
set_option maxRecDepth 100000 in
theorem law_18 {w : q_Wd} {cx : q_Cx} {b N i : Nat} {xs : Nat → Int32} {σ : q_Sto} {Q : State → Prop} (hc : q_ok w cx RL code 4 ret room_1) (hX : q_scr w cx b N xs) (hi : i + 6 ≤ N) (hN : N ≤ 3072) (hσ : q_Sim σ) (hn : ∀ σ2, q_Sim σ2 → q_J w cx 4 172 24195 Q 1255 [some (.ref b), some (q_rf w 0), some (q_rf w 157), some (.int (Int32.ofNat i))] [] (q_sg σ2)) : q_J w cx 4 172 24195 Q 752 [some (.ref b), some (q_rf w 0), some (q_rf w 157), some (.int (Int32.ofNat i))] [] (q_sg σ) := by
  refine k_rl (k := 1) hc dL_law_752 rfl (pc2 := 753) rfl ?_
  refine j_aload_n (k := 0) hc dL_law_753 rfl (pc2 := 754) rfl ?_
  refine j_iload_n (k := 3) hc dL_law_754 rfl (pc2 := 755) rfl ?_
  refine j_iconst hc dL_law_755 ic_1 (pc2 := 756) rfl ?_
  refine j_iadd hc dL_law_756 (pc2 := 757) rfl ?_
  refine j_sld hc hX (q_pl (k := 1) (by decide) hi hN (by decide)) dL_law_757 (pc2 := 758) rfl ?_
  obtain ⟨r, σ1, σ2, e1, e2, hs⟩ := P_stands hσ (xs (Int32.ofNat i + 1).toNatClampNeg) 
  refine l_call (As := [.int (xs (Int32.ofNat i + 1).toNatClampNeg)]) hc (C_X11_stands (n := q_F) (t := 0) rfl _ _ e1) mv_X11_stands ln_L_92 rfl (show 0 < q_N0 by decide) rfl rfl ⟨by decide, by decide⟩ ⟨by decide, by decide⟩ (Nat.le_of_ble_eq_true rfl) dL_law_758 (pc2 := 761) rfl ?_
  refine k_rl (k := 2) hc dL_law_761 rfl (pc2 := 762) rfl ?_
  refine j_aload_n (k := 0) hc dL_law_762 rfl (pc2 := 763) rfl ?_
  refine j_iload_n (k := 3) hc dL_law_763 rfl (pc2 := 764) rfl ?_
  refine j_iconst hc dL_law_764 ic_1 (pc2 := 765) rfl ?_
  refine j_iadd hc dL_law_765 (pc2 := 766) rfl ?_
  refine j_sld hc hX (q_pl (k := 1) (by decide) hi hN (by decide)) dL_law_766 (pc2 := 767) rfl ?_
  refine l_call (As := [.int (xs (Int32.ofNat i + 1).toNatClampNeg)]) hc (C_X12_stands (n := q_F) (t := 157) rfl _ _ e2) mv_X12_stands ln_L_95 rfl (show 157 < q_N0 by decide) rfl rfl ⟨by decide, by decide⟩ ⟨by decide, by decide⟩ (Nat.le_of_ble_eq_true rfl) dL_law_767 (pc2 := 770) rfl ?_
  refine j_icmp_eq hc dL_law_770 (pc1 := 1255) (pc2 := 773) rfl rfl (fun _ => ?_) (fun z => absurd rfl z)
  exact hn σ2 hs
set_option maxRecDepth 100000 in
theorem law_19 {w : q_Wd} {cx : q_Cx} {b N i : Nat} {xs : Nat → Int32} {σ : q_Sto} {Q : State → Prop} (hc : q_ok w cx RL code 4 ret room_1) (hX : q_scr w cx b N xs) (hi : i + 6 ≤ N) (hN : N ≤ 3072) (hσ : q_Sim σ) (hn : ∀ σ2, q_Sim σ2 → q_J w cx 4 172 24195 Q 1255 [some (.ref b), some (q_rf w 0), some (q_rf w 157), some (.int (Int32.ofNat i))] [] (q_sg σ2)) : q_J w cx 4 172 24195 Q 775 [some (.ref b), some (q_rf w 0), some (q_rf w 157), some (.int (Int32.ofNat i))] [] (q_sg σ) := by
  refine k_rl (k := 1) hc dL_law_775 rfl (pc2 := 776) rfl ?_
  refine j_aload_n (k := 0) hc dL_law_776 rfl (pc2 := 777) rfl ?_
  refine j_iload_n (k := 3) hc dL_law_777 rfl (pc2 := 778) rfl ?_
  refine j_iconst hc dL_law_778 ic_1 (pc2 := 779) rfl ?_
  refine j_iadd hc dL_law_779 (pc2 := 780) rfl ?_
  refine j_sld hc hX (q_pl (k := 1) (by decide) hi hN (by decide)) dL_law_780 (pc2 := 781) rfl ?_
  obtain ⟨r, σ1, σ2, e1, e2, hs⟩ := P_settles hσ (xs (Int32.ofNat i + 1).toNatClampNeg) 
  refine l_call (As := [.int (xs (Int32.ofNat i + 1).toNatClampNeg)]) hc (C_X11_settles (n := q_F) (t := 0) rfl _ _ e1) mv_X11_settles ln_L_96 rfl (show 0 < q_N0 by decide) rfl rfl ⟨by decide, by decide⟩ ⟨by decide, by decide⟩ (Nat.le_of_ble_eq_true rfl) dL_law_781 (pc2 := 784) rfl ?_
  refine k_rl (k := 2) hc dL_law_784 rfl (pc2 := 785) rfl ?_
  refine j_aload_n (k := 0) hc dL_law_785 rfl (pc2 := 786) rfl ?_
  refine j_iload_n (k := 3) hc dL_law_786 rfl (pc2 := 787) rfl ?_
  refine j_iconst hc dL_law_787 ic_1 (pc2 := 788) rfl ?_
  refine j_iadd hc dL_law_788 (pc2 := 789) rfl ?_
  refine j_sld hc hX (q_pl (k := 1) (by decide) hi hN (by decide)) dL_law_789 (pc2 := 790) rfl ?_
  refine l_call (As := [.int (xs (Int32.ofNat i + 1).toNatClampNeg)]) hc (C_X12_settles (n := q_F) (t := 157) rfl _ _ e2) mv_X12_settles ln_L_99 rfl (show 157 < q_N0 by decide) rfl rfl ⟨by decide, by decide⟩ ⟨by decide, by decide⟩ (Nat.le_of_ble_eq_true rfl) dL_law_790 (pc2 := 793) rfl ?_
  refine j_icmp_eq hc dL_law_793 (pc1 := 1255) (pc2 := 796) rfl rfl (fun _ => ?_) (fun z => absurd rfl z)
  exact hn σ2 hs
set_option maxRecDepth 100000 in
theorem law_20 {w : q_Wd} {cx : q_Cx} {b N i : Nat} {xs : Nat → Int32} {σ : q_Sto} {Q : State → Prop} (hc : q_ok w cx RL code 4 ret room_1) (hX : q_scr w cx b N xs) (hi : i + 6 ≤ N) (hN : N ≤ 3072) (hσ : q_Sim σ) (hn : ∀ σ2, q_Sim σ2 → q_J w cx 4 172 24195 Q 1255 [some (.ref b), some (q_rf w 0), some (q_rf w 157), some (.int (Int32.ofNat i))] [] (q_sg σ2)) : q_J w cx 4 172 24195 Q 798 [some (.ref b), some (q_rf w 0), some (q_rf w 157), some (.int (Int32.ofNat i))] [] (q_sg σ) := by
  refine k_rl (k := 1) hc dL_law_798 rfl (pc2 := 799) rfl ?_
  refine j_aload_n (k := 0) hc dL_law_799 rfl (pc2 := 800) rfl ?_
  refine j_iload_n (k := 3) hc dL_law_800 rfl (pc2 := 801) rfl ?_
  refine j_iconst hc dL_law_801 ic_1 (pc2 := 802) rfl ?_
  refine j_iadd hc dL_law_802 (pc2 := 803) rfl ?_
  refine j_sld hc hX (q_pl (k := 1) (by decide) hi hN (by decide)) dL_law_803 (pc2 := 804) rfl ?_
  refine j_aload_n (k := 0) hc dL_law_804 rfl (pc2 := 805) rfl ?_
  refine j_iload_n (k := 3) hc dL_law_805 rfl (pc2 := 806) rfl ?_
  refine j_iconst hc dL_law_806 ic_2 (pc2 := 807) rfl ?_
  refine j_iadd hc dL_law_807 (pc2 := 808) rfl ?_
  refine j_sld hc hX (q_pl (k := 2) (by decide) hi hN (by decide)) dL_law_808 (pc2 := 809) rfl ?_
  obtain ⟨r, σ1, σ2, e1, e2, hs⟩ := P_goes hσ (xs (Int32.ofNat i + 1).toNatClampNeg) (xs (Int32.ofNat i + 2).toNatClampNeg) 
  refine l_call (As := [.int (xs (Int32.ofNat i + 1).toNatClampNeg), .int (xs (Int32.ofNat i + 2).toNatClampNeg)]) hc (C_X11_goes (n := q_F) (t := 0) rfl _ _ e1) mv_X11_goes ln_L_100 rfl (show 0 < q_N0 by decide) rfl rfl ⟨by decide, by decide⟩ ⟨by decide, by decide⟩ (Nat.le_of_ble_eq_true rfl) dL_law_809 (pc2 := 812) rfl ?_
  refine k_rl (k := 2) hc dL_law_812 rfl (pc2 := 813) rfl ?_
  refine j_aload_n (k := 0) hc dL_law_813 rfl (pc2 := 814) rfl ?_
  refine j_iload_n (k := 3) hc dL_law_814 rfl (pc2 := 815) rfl ?_
  refine j_iconst hc dL_law_815 ic_1 (pc2 := 816) rfl ?_
  refine j_iadd hc dL_law_816 (pc2 := 817) rfl ?_
  refine j_sld hc hX (q_pl (k := 1) (by decide) hi hN (by decide)) dL_law_817 (pc2 := 818) rfl ?_
  refine j_aload_n (k := 0) hc dL_law_818 rfl (pc2 := 819) rfl ?_
  refine j_iload_n (k := 3) hc dL_law_819 rfl (pc2 := 820) rfl ?_
  refine j_iconst hc dL_law_820 ic_2 (pc2 := 821) rfl ?_
  refine j_iadd hc dL_law_821 (pc2 := 822) rfl ?_
  refine j_sld hc hX (q_pl (k := 2) (by decide) hi hN (by decide)) dL_law_822 (pc2 := 823) rfl ?_
  refine l_call (As := [.int (xs (Int32.ofNat i + 1).toNatClampNeg), .int (xs (Int32.ofNat i + 2).toNatClampNeg)]) hc (C_X12_goes (n := q_F) (t := 157) rfl _ _ e2) mv_X12_goes ln_L_103 rfl (show 157 < q_N0 by decide) rfl rfl ⟨by decide, by decide⟩ ⟨by decide, by decide⟩ (Nat.le_of_ble_eq_true rfl) dL_law_823 (pc2 := 826) rfl ?_
  refine j_icmp_eq hc dL_law_826 (pc1 := 1255) (pc2 := 829) rfl rfl (fun _ => ?_) (fun z => absurd rfl z)
  exact hn σ2 hs
set_option maxRecDepth 100000 in
theorem law_21 {w : q_Wd} {cx : q_Cx} {b N i : Nat} {xs : Nat → Int32} {σ : q_Sto} {Q : State → Prop} (hc : q_ok w cx RL code 4 ret room_1) (hX : q_scr w cx b N xs) (hi : i + 6 ≤ N) (hN : N ≤ 3072) (hσ : q_Sim σ) (hn : ∀ σ2, q_Sim σ2 → q_J w cx 4 172 24195 Q 1255 [some (.ref b), some (q_rf w 0), some (q_rf w 157), some (.int (Int32.ofNat i))] [] (q_sg σ2)) : q_J w cx 4 172 24195 Q 831 [some (.ref b), some (q_rf w 0), some (q_rf w 157), some (.int (Int32.ofNat i))] [] (q_sg σ) := by
  refine k_rl (k := 1) hc dL_law_831 rfl (pc2 := 832) rfl ?_
  refine j_aload_n (k := 0) hc dL_law_832 rfl (pc2 := 833) rfl ?_
  refine j_iload_n (k := 3) hc dL_law_833 rfl (pc2 := 834) rfl ?_
  refine j_iconst hc dL_law_834 ic_1 (pc2 := 835) rfl ?_
  refine j_iadd hc dL_law_835 (pc2 := 836) rfl ?_
  refine j_sld hc hX (q_pl (k := 1) (by decide) hi hN (by decide)) dL_law_836 (pc2 := 837) rfl ?_
  refine j_aload_n (k := 0) hc dL_law_837 rfl (pc2 := 838) rfl ?_
  refine j_iload_n (k := 3) hc dL_law_838 rfl (pc2 := 839) rfl ?_
  refine j_iconst hc dL_law_839 ic_2 (pc2 := 840) rfl ?_
  refine j_iadd hc dL_law_840 (pc2 := 841) rfl ?_
  refine j_sld hc hX (q_pl (k := 2) (by decide) hi hN (by decide)) dL_law_841 (pc2 := 842) rfl ?_
  obtain ⟨r, σ1, σ2, e1, e2, hs⟩ := P_wins hσ (xs (Int32.ofNat i + 1).toNatClampNeg) (xs (Int32.ofNat i + 2).toNatClampNeg) 
  refine l_call (As := [.int (xs (Int32.ofNat i + 1).toNatClampNeg), .int (xs (Int32.ofNat i + 2).toNatClampNeg)]) hc (C_X11_wins (n := q_F) (t := 0) rfl _ _ e1) mv_X11_wins ln_L_104 rfl (show 0 < q_N0 by decide) rfl rfl ⟨by decide, by decide⟩ ⟨by decide, by decide⟩ (Nat.le_of_ble_eq_true rfl) dL_law_842 (pc2 := 845) rfl ?_
  refine k_rl (k := 2) hc dL_law_845 rfl (pc2 := 846) rfl ?_
  refine j_aload_n (k := 0) hc dL_law_846 rfl (pc2 := 847) rfl ?_
  refine j_iload_n (k := 3) hc dL_law_847 rfl (pc2 := 848) rfl ?_
  refine j_iconst hc dL_law_848 ic_1 (pc2 := 849) rfl ?_
  refine j_iadd hc dL_law_849 (pc2 := 850) rfl ?_
  refine j_sld hc hX (q_pl (k := 1) (by decide) hi hN (by decide)) dL_law_850 (pc2 := 851) rfl ?_
  refine j_aload_n (k := 0) hc dL_law_851 rfl (pc2 := 852) rfl ?_
  refine j_iload_n (k := 3) hc dL_law_852 rfl (pc2 := 853) rfl ?_
  refine j_iconst hc dL_law_853 ic_2 (pc2 := 854) rfl ?_
  refine j_iadd hc dL_law_854 (pc2 := 855) rfl ?_
  refine j_sld hc hX (q_pl (k := 2) (by decide) hi hN (by decide)) dL_law_855 (pc2 := 856) rfl ?_
  refine l_call (As := [.int (xs (Int32.ofNat i + 1).toNatClampNeg), .int (xs (Int32.ofNat i + 2).toNatClampNeg)]) hc (C_X12_wins (n := q_F) (t := 157) rfl _ _ e2) mv_X12_wins ln_L_107 rfl (show 157 < q_N0 by decide) rfl rfl ⟨by decide, by decide⟩ ⟨by decide, by decide⟩ (Nat.le_of_ble_eq_true rfl) dL_law_856 (pc2 := 859) rfl ?_
  refine j_icmp_eq hc dL_law_859 (pc1 := 1255) (pc2 := 862) rfl rfl (fun _ => ?_) (fun z => absurd rfl z)
  exact hn σ2 hs
set_option maxRecDepth 100000 in
theorem law_22 {w : q_Wd} {cx : q_Cx} {b N i : Nat} {xs : Nat → Int32} {σ : q_Sto} {Q : State → Prop} (hc : q_ok w cx RL code 4 ret room_1) (hX : q_scr w cx b N xs) (hi : i + 6 ≤ N) (hN : N ≤ 3072) (hσ : q_Sim σ) (hn : ∀ σ2, q_Sim σ2 → q_J w cx 4 172 24195 Q 1255 [some (.ref b), some (q_rf w 0), some (q_rf w 157), some (.int (Int32.ofNat i))] [] (q_sg σ2)) : q_J w cx 4 172 24195 Q 864 [some (.ref b), some (q_rf w 0), some (q_rf w 157), some (.int (Int32.ofNat i))] [] (q_sg σ) := by
  refine k_rl (k := 1) hc dL_law_864 rfl (pc2 := 865) rfl ?_
  refine j_aload_n (k := 0) hc dL_law_865 rfl (pc2 := 866) rfl ?_
  refine j_iload_n (k := 3) hc dL_law_866 rfl (pc2 := 867) rfl ?_
  refine j_iconst hc dL_law_867 ic_1 (pc2 := 868) rfl ?_
  refine j_iadd hc dL_law_868 (pc2 := 869) rfl ?_
  refine j_sld hc hX (q_pl (k := 1) (by decide) hi hN (by decide)) dL_law_869 (pc2 := 870) rfl ?_
  obtain ⟨r, σ1, σ2, e1, e2, hs⟩ := P_turnsBy hσ (xs (Int32.ofNat i + 1).toNatClampNeg) 
  refine l_call (As := [.int (xs (Int32.ofNat i + 1).toNatClampNeg)]) hc (C_X11_turnsBy (n := q_F) (t := 0) rfl _ _ e1) mv_X11_turnsBy ln_L_108 rfl (show 0 < q_N0 by decide) rfl rfl ⟨by decide, by decide⟩ ⟨by decide, by decide⟩ (Nat.le_of_ble_eq_true rfl) dL_law_870 (pc2 := 873) rfl ?_
  refine k_rl (k := 2) hc dL_law_873 rfl (pc2 := 874) rfl ?_
  refine j_aload_n (k := 0) hc dL_law_874 rfl (pc2 := 875) rfl ?_
  refine j_iload_n (k := 3) hc dL_law_875 rfl (pc2 := 876) rfl ?_
  refine j_iconst hc dL_law_876 ic_1 (pc2 := 877) rfl ?_
  refine j_iadd hc dL_law_877 (pc2 := 878) rfl ?_
  refine j_sld hc hX (q_pl (k := 1) (by decide) hi hN (by decide)) dL_law_878 (pc2 := 879) rfl ?_
  refine l_call (As := [.int (xs (Int32.ofNat i + 1).toNatClampNeg)]) hc (C_X12_turnsBy (n := q_F) (t := 157) rfl _ _ e2) mv_X12_turnsBy ln_L_111 rfl (show 157 < q_N0 by decide) rfl rfl ⟨by decide, by decide⟩ ⟨by decide, by decide⟩ (Nat.le_of_ble_eq_true rfl) dL_law_879 (pc2 := 882) rfl ?_
  refine j_icmp_eq hc dL_law_882 (pc1 := 1255) (pc2 := 885) rfl rfl (fun _ => ?_) (fun z => absurd rfl z)
  exact hn σ2 hs
set_option maxRecDepth 100000 in
theorem law_23 {w : q_Wd} {cx : q_Cx} {b N i : Nat} {xs : Nat → Int32} {σ : q_Sto} {Q : State → Prop} (hc : q_ok w cx RL code 4 ret room_1) (hX : q_scr w cx b N xs) (hi : i + 6 ≤ N) (hN : N ≤ 3072) (hσ : q_Sim σ) (hn : ∀ σ2, q_Sim σ2 → q_J w cx 4 172 24195 Q 1255 [some (.ref b), some (q_rf w 0), some (q_rf w 157), some (.int (Int32.ofNat i))] [] (q_sg σ2)) : q_J w cx 4 172 24195 Q 887 [some (.ref b), some (q_rf w 0), some (q_rf w 157), some (.int (Int32.ofNat i))] [] (q_sg σ) := by
  refine k_rl (k := 1) hc dL_law_887 rfl (pc2 := 888) rfl ?_
  refine j_aload_n (k := 0) hc dL_law_888 rfl (pc2 := 889) rfl ?_
  refine j_iload_n (k := 3) hc dL_law_889 rfl (pc2 := 890) rfl ?_
  refine j_iconst hc dL_law_890 ic_1 (pc2 := 891) rfl ?_
  refine j_iadd hc dL_law_891 (pc2 := 892) rfl ?_
  refine j_sld hc hX (q_pl (k := 1) (by decide) hi hN (by decide)) dL_law_892 (pc2 := 893) rfl ?_
  refine j_aload_n (k := 0) hc dL_law_893 rfl (pc2 := 894) rfl ?_
  refine j_iload_n (k := 3) hc dL_law_894 rfl (pc2 := 895) rfl ?_
  refine j_iconst hc dL_law_895 ic_2 (pc2 := 896) rfl ?_
  refine j_iadd hc dL_law_896 (pc2 := 897) rfl ?_
  refine j_sld hc hX (q_pl (k := 2) (by decide) hi hN (by decide)) dL_law_897 (pc2 := 898) rfl ?_
  refine j_aload_n (k := 0) hc dL_law_898 rfl (pc2 := 899) rfl ?_
  refine j_iload_n (k := 3) hc dL_law_899 rfl (pc2 := 900) rfl ?_
  refine j_iconst hc dL_law_900 ic_3 (pc2 := 901) rfl ?_
  refine j_iadd hc dL_law_901 (pc2 := 902) rfl ?_
  refine j_sld hc hX (q_pl (k := 3) (by decide) hi hN (by decide)) dL_law_902 (pc2 := 903) rfl ?_
  obtain ⟨r, σ1, σ2, e1, e2, hs⟩ := P_way hσ (xs (Int32.ofNat i + 1).toNatClampNeg) (xs (Int32.ofNat i + 2).toNatClampNeg) (xs (Int32.ofNat i + 3).toNatClampNeg) 
  refine l_call (As := [.int (xs (Int32.ofNat i + 1).toNatClampNeg), .int (xs (Int32.ofNat i + 2).toNatClampNeg), .int (xs (Int32.ofNat i + 3).toNatClampNeg)]) hc (C_X11_way (n := q_F) (t := 0) rfl _ _ e1) mv_X11_way ln_L_112 rfl (show 0 < q_N0 by decide) rfl rfl ⟨by decide, by decide⟩ ⟨by decide, by decide⟩ (Nat.le_of_ble_eq_true rfl) dL_law_903 (pc2 := 906) rfl ?_
  refine k_rl (k := 2) hc dL_law_906 rfl (pc2 := 907) rfl ?_
  refine j_aload_n (k := 0) hc dL_law_907 rfl (pc2 := 908) rfl ?_
  refine j_iload_n (k := 3) hc dL_law_908 rfl (pc2 := 909) rfl ?_
  refine j_iconst hc dL_law_909 ic_1 (pc2 := 910) rfl ?_
  refine j_iadd hc dL_law_910 (pc2 := 911) rfl ?_
  refine j_sld hc hX (q_pl (k := 1) (by decide) hi hN (by decide)) dL_law_911 (pc2 := 912) rfl ?_
  refine j_aload_n (k := 0) hc dL_law_912 rfl (pc2 := 913) rfl ?_
  refine j_iload_n (k := 3) hc dL_law_913 rfl (pc2 := 914) rfl ?_
  refine j_iconst hc dL_law_914 ic_2 (pc2 := 915) rfl ?_
  refine j_iadd hc dL_law_915 (pc2 := 916) rfl ?_
  refine j_sld hc hX (q_pl (k := 2) (by decide) hi hN (by decide)) dL_law_916 (pc2 := 917) rfl ?_
  refine j_aload_n (k := 0) hc dL_law_917 rfl (pc2 := 918) rfl ?_
  refine j_iload_n (k := 3) hc dL_law_918 rfl (pc2 := 919) rfl ?_
  refine j_iconst hc dL_law_919 ic_3 (pc2 := 920) rfl ?_
  refine j_iadd hc dL_law_920 (pc2 := 921) rfl ?_
  refine j_sld hc hX (q_pl (k := 3) (by decide) hi hN (by decide)) dL_law_921 (pc2 := 922) rfl ?_
  refine l_call (As := [.int (xs (Int32.ofNat i + 1).toNatClampNeg), .int (xs (Int32.ofNat i + 2).toNatClampNeg), .int (xs (Int32.ofNat i + 3).toNatClampNeg)]) hc (C_X12_way (n := q_F) (t := 157) rfl _ _ e2) mv_X12_way ln_L_115 rfl (show 157 < q_N0 by decide) rfl rfl ⟨by decide, by decide⟩ ⟨by decide, by decide⟩ (Nat.le_of_ble_eq_true rfl) dL_law_922 (pc2 := 925) rfl ?_
  refine j_icmp_eq hc dL_law_925 (pc1 := 1255) (pc2 := 928) rfl rfl (fun _ => ?_) (fun z => absurd rfl z)
  exact hn σ2 hs
set_option maxRecDepth 100000 in
theorem law_24 {w : q_Wd} {cx : q_Cx} {b N i : Nat} {xs : Nat → Int32} {σ : q_Sto} {Q : State → Prop} (hc : q_ok w cx RL code 4 ret room_1) (hX : q_scr w cx b N xs) (hi : i + 6 ≤ N) (hN : N ≤ 3072) (hσ : q_Sim σ) (hn : ∀ σ2, q_Sim σ2 → q_J w cx 4 172 24195 Q 1255 [some (.ref b), some (q_rf w 0), some (q_rf w 157), some (.int (Int32.ofNat i))] [] (q_sg σ2)) : q_J w cx 4 172 24195 Q 930 [some (.ref b), some (q_rf w 0), some (q_rf w 157), some (.int (Int32.ofNat i))] [] (q_sg σ) := by
  refine k_rl (k := 1) hc dL_law_930 rfl (pc2 := 931) rfl ?_
  refine j_aload_n (k := 0) hc dL_law_931 rfl (pc2 := 932) rfl ?_
  refine j_iload_n (k := 3) hc dL_law_932 rfl (pc2 := 933) rfl ?_
  refine j_iconst hc dL_law_933 ic_1 (pc2 := 934) rfl ?_
  refine j_iadd hc dL_law_934 (pc2 := 935) rfl ?_
  refine j_sld hc hX (q_pl (k := 1) (by decide) hi hN (by decide)) dL_law_935 (pc2 := 936) rfl ?_
  obtain ⟨r, σ1, σ2, e1, e2, hs⟩ := P_packs hσ (xs (Int32.ofNat i + 1).toNatClampNeg) 
  refine l_call (As := [.int (xs (Int32.ofNat i + 1).toNatClampNeg)]) hc (C_X11_packs (n := q_F) (t := 0) rfl _ _ e1) mv_X11_packs ln_L_116 rfl (show 0 < q_N0 by decide) rfl rfl ⟨by decide, by decide⟩ ⟨by decide, by decide⟩ (Nat.le_of_ble_eq_true rfl) dL_law_936 (pc2 := 939) rfl ?_
  refine k_rl (k := 2) hc dL_law_939 rfl (pc2 := 940) rfl ?_
  refine j_aload_n (k := 0) hc dL_law_940 rfl (pc2 := 941) rfl ?_
  refine j_iload_n (k := 3) hc dL_law_941 rfl (pc2 := 942) rfl ?_
  refine j_iconst hc dL_law_942 ic_1 (pc2 := 943) rfl ?_
  refine j_iadd hc dL_law_943 (pc2 := 944) rfl ?_
  refine j_sld hc hX (q_pl (k := 1) (by decide) hi hN (by decide)) dL_law_944 (pc2 := 945) rfl ?_
  refine l_call (As := [.int (xs (Int32.ofNat i + 1).toNatClampNeg)]) hc (C_X12_packs (n := q_F) (t := 157) rfl _ _ e2) mv_X12_packs ln_L_119 rfl (show 157 < q_N0 by decide) rfl rfl ⟨by decide, by decide⟩ ⟨by decide, by decide⟩ (Nat.le_of_ble_eq_true rfl) dL_law_945 (pc2 := 948) rfl ?_
  refine j_icmp_eq hc dL_law_948 (pc1 := 1255) (pc2 := 951) rfl rfl (fun _ => ?_) (fun z => absurd rfl z)
  exact hn σ2 hs
set_option maxRecDepth 100000 in
theorem law_25 {w : q_Wd} {cx : q_Cx} {b N i : Nat} {xs : Nat → Int32} {σ : q_Sto} {Q : State → Prop} (hc : q_ok w cx RL code 4 ret room_1) (hX : q_scr w cx b N xs) (hi : i + 6 ≤ N) (hN : N ≤ 3072) (hσ : q_Sim σ) (hn : ∀ σ2, q_Sim σ2 → q_J w cx 4 172 24195 Q 1255 [some (.ref b), some (q_rf w 0), some (q_rf w 157), some (.int (Int32.ofNat i))] [] (q_sg σ2)) : q_J w cx 4 172 24195 Q 953 [some (.ref b), some (q_rf w 0), some (q_rf w 157), some (.int (Int32.ofNat i))] [] (q_sg σ) := by
  refine k_rl (k := 1) hc dL_law_953 rfl (pc2 := 954) rfl ?_
  obtain ⟨r, σ1, σ2, e1, e2, hs⟩ := P_row hσ  
  refine l_call (As := []) hc (C_X11_row (n := q_F) (t := 0) rfl _ _ e1) mv_X11_row ln_L_120 rfl (show 0 < q_N0 by decide) rfl rfl ⟨by decide, by decide⟩ ⟨by decide, by decide⟩ (Nat.le_of_ble_eq_true rfl) dL_law_954 (pc2 := 957) rfl ?_
  refine k_rl (k := 2) hc dL_law_957 rfl (pc2 := 958) rfl ?_
  refine l_call (As := []) hc (C_X12_row (n := q_F) (t := 157) rfl _ _ e2) mv_X12_row ln_L_123 rfl (show 157 < q_N0 by decide) rfl rfl ⟨by decide, by decide⟩ ⟨by decide, by decide⟩ (Nat.le_of_ble_eq_true rfl) dL_law_958 (pc2 := 961) rfl ?_
  refine j_icmp_eq hc dL_law_961 (pc1 := 1255) (pc2 := 964) rfl rfl (fun _ => ?_) (fun z => absurd rfl z)
  exact hn σ2 hs
set_option maxRecDepth 100000 in
theorem law_26 {w : q_Wd} {cx : q_Cx} {b N i : Nat} {xs : Nat → Int32} {σ : q_Sto} {Q : State → Prop} (hc : q_ok w cx RL code 4 ret room_1) (hX : q_scr w cx b N xs) (hi : i + 6 ≤ N) (hN : N ≤ 3072) (hσ : q_Sim σ) (hn : ∀ σ2, q_Sim σ2 → q_J w cx 4 172 24195 Q 1255 [some (.ref b), some (q_rf w 0), some (q_rf w 157), some (.int (Int32.ofNat i))] [] (q_sg σ2)) : q_J w cx 4 172 24195 Q 966 [some (.ref b), some (q_rf w 0), some (q_rf w 157), some (.int (Int32.ofNat i))] [] (q_sg σ) := by
  refine k_rl (k := 1) hc dL_law_966 rfl (pc2 := 967) rfl ?_
  refine j_aload_n (k := 0) hc dL_law_967 rfl (pc2 := 968) rfl ?_
  refine j_iload_n (k := 3) hc dL_law_968 rfl (pc2 := 969) rfl ?_
  refine j_iconst hc dL_law_969 ic_1 (pc2 := 970) rfl ?_
  refine j_iadd hc dL_law_970 (pc2 := 971) rfl ?_
  refine j_sld hc hX (q_pl (k := 1) (by decide) hi hN (by decide)) dL_law_971 (pc2 := 972) rfl ?_
  refine j_aload_n (k := 0) hc dL_law_972 rfl (pc2 := 973) rfl ?_
  refine j_iload_n (k := 3) hc dL_law_973 rfl (pc2 := 974) rfl ?_
  refine j_iconst hc dL_law_974 ic_2 (pc2 := 975) rfl ?_
  refine j_iadd hc dL_law_975 (pc2 := 976) rfl ?_
  refine j_sld hc hX (q_pl (k := 2) (by decide) hi hN (by decide)) dL_law_976 (pc2 := 977) rfl ?_
  refine j_aload_n (k := 0) hc dL_law_977 rfl (pc2 := 978) rfl ?_
  refine j_iload_n (k := 3) hc dL_law_978 rfl (pc2 := 979) rfl ?_
  refine j_iconst hc dL_law_979 ic_3 (pc2 := 980) rfl ?_
  refine j_iadd hc dL_law_980 (pc2 := 981) rfl ?_
  refine j_sld hc hX (q_pl (k := 3) (by decide) hi hN (by decide)) dL_law_981 (pc2 := 982) rfl ?_
  refine j_if_eq hc dL_law_982 (pc1 := 989) (pc2 := 985) rfl rfl (fun hz => ?_) (fun hz => ?_)
  · refine j_iconst hc dL_law_989 ic_0 (pc2 := 990) rfl ?_
    obtain ⟨r, σ1, σ2, e1, e2, hs⟩ := P_seen hσ (xs (Int32.ofNat i + 1).toNatClampNeg) (xs (Int32.ofNat i + 2).toNatClampNeg) 0 (by decide)
    refine l_call (As := [.int (xs (Int32.ofNat i + 1).toNatClampNeg), .int (xs (Int32.ofNat i + 2).toNatClampNeg), .int 0]) hc (C_X11_seen (n := q_F) (t := 0) rfl _ _ e1) mv_X11_seen ln_L_124 rfl (show 0 < q_N0 by decide) rfl rfl ⟨by decide, by decide⟩ ⟨by decide, by decide⟩ (Nat.le_of_ble_eq_true rfl) dL_law_990 (pc2 := 993) rfl ?_
    refine k_rl (k := 2) hc dL_law_993 rfl (pc2 := 994) rfl ?_
    refine j_aload_n (k := 0) hc dL_law_994 rfl (pc2 := 995) rfl ?_
    refine j_iload_n (k := 3) hc dL_law_995 rfl (pc2 := 996) rfl ?_
    refine j_iconst hc dL_law_996 ic_1 (pc2 := 997) rfl ?_
    refine j_iadd hc dL_law_997 (pc2 := 998) rfl ?_
    refine j_sld hc hX (q_pl (k := 1) (by decide) hi hN (by decide)) dL_law_998 (pc2 := 999) rfl ?_
    refine j_aload_n (k := 0) hc dL_law_999 rfl (pc2 := 1000) rfl ?_
    refine j_iload_n (k := 3) hc dL_law_1000 rfl (pc2 := 1001) rfl ?_
    refine j_iconst hc dL_law_1001 ic_2 (pc2 := 1002) rfl ?_
    refine j_iadd hc dL_law_1002 (pc2 := 1003) rfl ?_
    refine j_sld hc hX (q_pl (k := 2) (by decide) hi hN (by decide)) dL_law_1003 (pc2 := 1004) rfl ?_
    refine j_aload_n (k := 0) hc dL_law_1004 rfl (pc2 := 1005) rfl ?_
    refine j_iload_n (k := 3) hc dL_law_1005 rfl (pc2 := 1006) rfl ?_
    refine j_iconst hc dL_law_1006 ic_3 (pc2 := 1007) rfl ?_
    refine j_iadd hc dL_law_1007 (pc2 := 1008) rfl ?_
    refine j_sld hc hX (q_pl (k := 3) (by decide) hi hN (by decide)) dL_law_1008 (pc2 := 1009) rfl ?_
    refine j_if_eq hc dL_law_1009 (pc1 := 1016) (pc2 := 1012) rfl rfl (fun _ => ?_) (fun z => absurd hz z)
    refine j_iconst hc dL_law_1016 ic_0 (pc2 := 1017) rfl ?_
    refine l_call (As := [.int (xs (Int32.ofNat i + 1).toNatClampNeg), .int (xs (Int32.ofNat i + 2).toNatClampNeg), .int 0]) hc (C_X12_seen (n := q_F) (t := 157) rfl _ _ e2) mv_X12_seen ln_L_128 rfl (show 157 < q_N0 by decide) rfl rfl ⟨by decide, by decide⟩ ⟨by decide, by decide⟩ (Nat.le_of_ble_eq_true rfl) dL_law_1017 (pc2 := 1020) rfl ?_
    refine j_icmp_eq hc dL_law_1020 (pc1 := 1255) (pc2 := 1023) rfl rfl (fun _ => ?_) (fun z => absurd rfl z)
    exact hn σ2 hs
  · refine j_iconst hc dL_law_985 ic_1 (pc2 := 986) rfl ?_
    refine j_goto hc dL_law_986 (pc2 := 990) rfl ?_
    obtain ⟨r, σ1, σ2, e1, e2, hs⟩ := P_seen hσ (xs (Int32.ofNat i + 1).toNatClampNeg) (xs (Int32.ofNat i + 2).toNatClampNeg) 1 (by decide)
    refine l_call (As := [.int (xs (Int32.ofNat i + 1).toNatClampNeg), .int (xs (Int32.ofNat i + 2).toNatClampNeg), .int 1]) hc (C_X11_seen (n := q_F) (t := 0) rfl _ _ e1) mv_X11_seen ln_L_124 rfl (show 0 < q_N0 by decide) rfl rfl ⟨by decide, by decide⟩ ⟨by decide, by decide⟩ (Nat.le_of_ble_eq_true rfl) dL_law_990 (pc2 := 993) rfl ?_
    refine k_rl (k := 2) hc dL_law_993 rfl (pc2 := 994) rfl ?_
    refine j_aload_n (k := 0) hc dL_law_994 rfl (pc2 := 995) rfl ?_
    refine j_iload_n (k := 3) hc dL_law_995 rfl (pc2 := 996) rfl ?_
    refine j_iconst hc dL_law_996 ic_1 (pc2 := 997) rfl ?_
    refine j_iadd hc dL_law_997 (pc2 := 998) rfl ?_
    refine j_sld hc hX (q_pl (k := 1) (by decide) hi hN (by decide)) dL_law_998 (pc2 := 999) rfl ?_
    refine j_aload_n (k := 0) hc dL_law_999 rfl (pc2 := 1000) rfl ?_
    refine j_iload_n (k := 3) hc dL_law_1000 rfl (pc2 := 1001) rfl ?_
    refine j_iconst hc dL_law_1001 ic_2 (pc2 := 1002) rfl ?_
    refine j_iadd hc dL_law_1002 (pc2 := 1003) rfl ?_
    refine j_sld hc hX (q_pl (k := 2) (by decide) hi hN (by decide)) dL_law_1003 (pc2 := 1004) rfl ?_
    refine j_aload_n (k := 0) hc dL_law_1004 rfl (pc2 := 1005) rfl ?_
    refine j_iload_n (k := 3) hc dL_law_1005 rfl (pc2 := 1006) rfl ?_
    refine j_iconst hc dL_law_1006 ic_3 (pc2 := 1007) rfl ?_
    refine j_iadd hc dL_law_1007 (pc2 := 1008) rfl ?_
    refine j_sld hc hX (q_pl (k := 3) (by decide) hi hN (by decide)) dL_law_1008 (pc2 := 1009) rfl ?_
    refine j_if_eq hc dL_law_1009 (pc1 := 1016) (pc2 := 1012) rfl rfl (fun z => absurd z hz) (fun _ => ?_)
    refine j_iconst hc dL_law_1012 ic_1 (pc2 := 1013) rfl ?_
    refine j_goto hc dL_law_1013 (pc2 := 1017) rfl ?_
    refine l_call (As := [.int (xs (Int32.ofNat i + 1).toNatClampNeg), .int (xs (Int32.ofNat i + 2).toNatClampNeg), .int 1]) hc (C_X12_seen (n := q_F) (t := 157) rfl _ _ e2) mv_X12_seen ln_L_128 rfl (show 157 < q_N0 by decide) rfl rfl ⟨by decide, by decide⟩ ⟨by decide, by decide⟩ (Nat.le_of_ble_eq_true rfl) dL_law_1017 (pc2 := 1020) rfl ?_
    refine j_icmp_eq hc dL_law_1020 (pc1 := 1255) (pc2 := 1023) rfl rfl (fun _ => ?_) (fun z => absurd rfl z)
    exact hn σ2 hs
set_option maxRecDepth 100000 in
theorem law_27 {w : q_Wd} {cx : q_Cx} {b N i : Nat} {xs : Nat → Int32} {σ : q_Sto} {Q : State → Prop} (hc : q_ok w cx RL code 4 ret room_1) (hX : q_scr w cx b N xs) (hi : i + 6 ≤ N) (hN : N ≤ 3072) (hσ : q_Sim σ) (hn : ∀ σ2, q_Sim σ2 → q_J w cx 4 172 24195 Q 1255 [some (.ref b), some (q_rf w 0), some (q_rf w 157), some (.int (Int32.ofNat i))] [] (q_sg σ2)) : q_J w cx 4 172 24195 Q 1025 [some (.ref b), some (q_rf w 0), some (q_rf w 157), some (.int (Int32.ofNat i))] [] (q_sg σ) := by
  refine k_rl (k := 1) hc dL_law_1025 rfl (pc2 := 1026) rfl ?_
  refine j_aload_n (k := 0) hc dL_law_1026 rfl (pc2 := 1027) rfl ?_
  refine j_iload_n (k := 3) hc dL_law_1027 rfl (pc2 := 1028) rfl ?_
  refine j_iconst hc dL_law_1028 ic_1 (pc2 := 1029) rfl ?_
  refine j_iadd hc dL_law_1029 (pc2 := 1030) rfl ?_
  refine j_sld hc hX (q_pl (k := 1) (by decide) hi hN (by decide)) dL_law_1030 (pc2 := 1031) rfl ?_
  obtain ⟨r, σ1, σ2, e1, e2, hs⟩ := P_fits hσ (xs (Int32.ofNat i + 1).toNatClampNeg) 
  refine l_call (As := [.int (xs (Int32.ofNat i + 1).toNatClampNeg)]) hc (C_X11_fits (n := q_F) (t := 0) rfl _ _ e1) mv_X11_fits ln_L_129 rfl (show 0 < q_N0 by decide) rfl rfl ⟨by decide, by decide⟩ ⟨by decide, by decide⟩ (Nat.le_of_ble_eq_true rfl) dL_law_1031 (pc2 := 1034) rfl ?_
  refine k_rl (k := 2) hc dL_law_1034 rfl (pc2 := 1035) rfl ?_
  refine j_aload_n (k := 0) hc dL_law_1035 rfl (pc2 := 1036) rfl ?_
  refine j_iload_n (k := 3) hc dL_law_1036 rfl (pc2 := 1037) rfl ?_
  refine j_iconst hc dL_law_1037 ic_1 (pc2 := 1038) rfl ?_
  refine j_iadd hc dL_law_1038 (pc2 := 1039) rfl ?_
  refine j_sld hc hX (q_pl (k := 1) (by decide) hi hN (by decide)) dL_law_1039 (pc2 := 1040) rfl ?_
  refine l_call (As := [.int (xs (Int32.ofNat i + 1).toNatClampNeg)]) hc (C_X12_fits (n := q_F) (t := 157) rfl _ _ e2) mv_X12_fits ln_L_132 rfl (show 157 < q_N0 by decide) rfl rfl ⟨by decide, by decide⟩ ⟨by decide, by decide⟩ (Nat.le_of_ble_eq_true rfl) dL_law_1040 (pc2 := 1043) rfl ?_
  refine j_icmp_eq hc dL_law_1043 (pc1 := 1255) (pc2 := 1046) rfl rfl (fun _ => ?_) (fun z => absurd rfl z)
  exact hn σ2 hs
set_option maxRecDepth 100000 in
theorem law_28 {w : q_Wd} {cx : q_Cx} {b N i : Nat} {xs : Nat → Int32} {σ : q_Sto} {Q : State → Prop} (hc : q_ok w cx RL code 4 ret room_1) (hX : q_scr w cx b N xs) (hi : i + 6 ≤ N) (hN : N ≤ 3072) (hσ : q_Sim σ) (hn : ∀ σ2, q_Sim σ2 → q_J w cx 4 172 24195 Q 1255 [some (.ref b), some (q_rf w 0), some (q_rf w 157), some (.int (Int32.ofNat i))] [] (q_sg σ2)) : q_J w cx 4 172 24195 Q 1048 [some (.ref b), some (q_rf w 0), some (q_rf w 157), some (.int (Int32.ofNat i))] [] (q_sg σ) := by
  refine k_rl (k := 1) hc dL_law_1048 rfl (pc2 := 1049) rfl ?_
  refine j_aload_n (k := 0) hc dL_law_1049 rfl (pc2 := 1050) rfl ?_
  refine j_iload_n (k := 3) hc dL_law_1050 rfl (pc2 := 1051) rfl ?_
  refine j_iconst hc dL_law_1051 ic_1 (pc2 := 1052) rfl ?_
  refine j_iadd hc dL_law_1052 (pc2 := 1053) rfl ?_
  refine j_sld hc hX (q_pl (k := 1) (by decide) hi hN (by decide)) dL_law_1053 (pc2 := 1054) rfl ?_
  refine j_aload_n (k := 0) hc dL_law_1054 rfl (pc2 := 1055) rfl ?_
  refine j_iload_n (k := 3) hc dL_law_1055 rfl (pc2 := 1056) rfl ?_
  refine j_iconst hc dL_law_1056 ic_2 (pc2 := 1057) rfl ?_
  refine j_iadd hc dL_law_1057 (pc2 := 1058) rfl ?_
  refine j_sld hc hX (q_pl (k := 2) (by decide) hi hN (by decide)) dL_law_1058 (pc2 := 1059) rfl ?_
  refine j_aload_n (k := 0) hc dL_law_1059 rfl (pc2 := 1060) rfl ?_
  refine j_iload_n (k := 3) hc dL_law_1060 rfl (pc2 := 1061) rfl ?_
  refine j_iconst hc dL_law_1061 ic_3 (pc2 := 1062) rfl ?_
  refine j_iadd hc dL_law_1062 (pc2 := 1063) rfl ?_
  refine j_sld hc hX (q_pl (k := 3) (by decide) hi hN (by decide)) dL_law_1063 (pc2 := 1064) rfl ?_
  obtain ⟨r, σ1, σ2, e1, e2, hs⟩ := P_led hσ (xs (Int32.ofNat i + 1).toNatClampNeg) (xs (Int32.ofNat i + 2).toNatClampNeg) (xs (Int32.ofNat i + 3).toNatClampNeg) 
  refine l_call (As := [.int (xs (Int32.ofNat i + 1).toNatClampNeg), .int (xs (Int32.ofNat i + 2).toNatClampNeg), .int (xs (Int32.ofNat i + 3).toNatClampNeg)]) hc (C_X11_led (n := q_F) (t := 0) rfl _ _ e1) mv_X11_led ln_L_133 rfl (show 0 < q_N0 by decide) rfl rfl ⟨by decide, by decide⟩ ⟨by decide, by decide⟩ (Nat.le_of_ble_eq_true rfl) dL_law_1064 (pc2 := 1067) rfl ?_
  refine k_rl (k := 2) hc dL_law_1067 rfl (pc2 := 1068) rfl ?_
  refine j_aload_n (k := 0) hc dL_law_1068 rfl (pc2 := 1069) rfl ?_
  refine j_iload_n (k := 3) hc dL_law_1069 rfl (pc2 := 1070) rfl ?_
  refine j_iconst hc dL_law_1070 ic_1 (pc2 := 1071) rfl ?_
  refine j_iadd hc dL_law_1071 (pc2 := 1072) rfl ?_
  refine j_sld hc hX (q_pl (k := 1) (by decide) hi hN (by decide)) dL_law_1072 (pc2 := 1073) rfl ?_
  refine j_aload_n (k := 0) hc dL_law_1073 rfl (pc2 := 1074) rfl ?_
  refine j_iload_n (k := 3) hc dL_law_1074 rfl (pc2 := 1075) rfl ?_
  refine j_iconst hc dL_law_1075 ic_2 (pc2 := 1076) rfl ?_
  refine j_iadd hc dL_law_1076 (pc2 := 1077) rfl ?_
  refine j_sld hc hX (q_pl (k := 2) (by decide) hi hN (by decide)) dL_law_1077 (pc2 := 1078) rfl ?_
  refine j_aload_n (k := 0) hc dL_law_1078 rfl (pc2 := 1079) rfl ?_
  refine j_iload_n (k := 3) hc dL_law_1079 rfl (pc2 := 1080) rfl ?_
  refine j_iconst hc dL_law_1080 ic_3 (pc2 := 1081) rfl ?_
  refine j_iadd hc dL_law_1081 (pc2 := 1082) rfl ?_
  refine j_sld hc hX (q_pl (k := 3) (by decide) hi hN (by decide)) dL_law_1082 (pc2 := 1083) rfl ?_
  refine l_call (As := [.int (xs (Int32.ofNat i + 1).toNatClampNeg), .int (xs (Int32.ofNat i + 2).toNatClampNeg), .int (xs (Int32.ofNat i + 3).toNatClampNeg)]) hc (C_X12_led (n := q_F) (t := 157) rfl _ _ e2) mv_X12_led ln_L_136 rfl (show 157 < q_N0 by decide) rfl rfl ⟨by decide, by decide⟩ ⟨by decide, by decide⟩ (Nat.le_of_ble_eq_true rfl) dL_law_1083 (pc2 := 1086) rfl ?_
  refine j_icmp_eq hc dL_law_1086 (pc1 := 1255) (pc2 := 1089) rfl rfl (fun _ => ?_) (fun z => absurd rfl z)
  exact hn σ2 hs
set_option maxRecDepth 100000 in
theorem law_29 {w : q_Wd} {cx : q_Cx} {b N i : Nat} {xs : Nat → Int32} {σ : q_Sto} {Q : State → Prop} (hc : q_ok w cx RL code 4 ret room_1) (hX : q_scr w cx b N xs) (hi : i + 6 ≤ N) (hN : N ≤ 3072) (hσ : q_Sim σ) (hn : ∀ σ2, q_Sim σ2 → q_J w cx 4 172 24195 Q 1255 [some (.ref b), some (q_rf w 0), some (q_rf w 157), some (.int (Int32.ofNat i))] [] (q_sg σ2)) : q_J w cx 4 172 24195 Q 1091 [some (.ref b), some (q_rf w 0), some (q_rf w 157), some (.int (Int32.ofNat i))] [] (q_sg σ) := by
  refine k_rl (k := 1) hc dL_law_1091 rfl (pc2 := 1092) rfl ?_
  refine j_aload_n (k := 0) hc dL_law_1092 rfl (pc2 := 1093) rfl ?_
  refine j_iload_n (k := 3) hc dL_law_1093 rfl (pc2 := 1094) rfl ?_
  refine j_iconst hc dL_law_1094 ic_1 (pc2 := 1095) rfl ?_
  refine j_iadd hc dL_law_1095 (pc2 := 1096) rfl ?_
  refine j_sld hc hX (q_pl (k := 1) (by decide) hi hN (by decide)) dL_law_1096 (pc2 := 1097) rfl ?_
  obtain ⟨r, σ1, σ2, e1, e2, hs⟩ := P_game hσ (xs (Int32.ofNat i + 1).toNatClampNeg) 
  refine l_call (As := [.int (xs (Int32.ofNat i + 1).toNatClampNeg)]) hc (C_X11_game (n := q_F) (t := 0) rfl _ _ e1) mv_X11_game ln_L_137 rfl (show 0 < q_N0 by decide) rfl rfl ⟨by decide, by decide⟩ ⟨by decide, by decide⟩ (Nat.le_of_ble_eq_true rfl) dL_law_1097 (pc2 := 1100) rfl ?_
  refine k_rl (k := 2) hc dL_law_1100 rfl (pc2 := 1101) rfl ?_
  refine j_aload_n (k := 0) hc dL_law_1101 rfl (pc2 := 1102) rfl ?_
  refine j_iload_n (k := 3) hc dL_law_1102 rfl (pc2 := 1103) rfl ?_
  refine j_iconst hc dL_law_1103 ic_1 (pc2 := 1104) rfl ?_
  refine j_iadd hc dL_law_1104 (pc2 := 1105) rfl ?_
  refine j_sld hc hX (q_pl (k := 1) (by decide) hi hN (by decide)) dL_law_1105 (pc2 := 1106) rfl ?_
  refine l_call (As := [.int (xs (Int32.ofNat i + 1).toNatClampNeg)]) hc (C_X12_game (n := q_F) (t := 157) rfl _ _ e2) mv_X12_game ln_L_140 rfl (show 157 < q_N0 by decide) rfl rfl ⟨by decide, by decide⟩ ⟨by decide, by decide⟩ (Nat.le_of_ble_eq_true rfl) dL_law_1106 (pc2 := 1109) rfl ?_
  refine j_icmp_eq hc dL_law_1109 (pc1 := 1255) (pc2 := 1112) rfl rfl (fun _ => ?_) (fun z => absurd rfl z)
  exact hn σ2 hs
set_option maxRecDepth 100000 in
theorem law_30 {w : q_Wd} {cx : q_Cx} {b N i : Nat} {xs : Nat → Int32} {σ : q_Sto} {Q : State → Prop} (hc : q_ok w cx RL code 4 ret room_1) (hX : q_scr w cx b N xs) (hi : i + 6 ≤ N) (hN : N ≤ 3072) (hσ : q_Sim σ) (hn : ∀ σ2, q_Sim σ2 → q_J w cx 4 172 24195 Q 1255 [some (.ref b), some (q_rf w 0), some (q_rf w 157), some (.int (Int32.ofNat i))] [] (q_sg σ2)) : q_J w cx 4 172 24195 Q 1114 [some (.ref b), some (q_rf w 0), some (q_rf w 157), some (.int (Int32.ofNat i))] [] (q_sg σ) := by
  refine k_rl (k := 1) hc dL_law_1114 rfl (pc2 := 1115) rfl ?_
  refine j_aload_n (k := 0) hc dL_law_1115 rfl (pc2 := 1116) rfl ?_
  refine j_iload_n (k := 3) hc dL_law_1116 rfl (pc2 := 1117) rfl ?_
  refine j_iconst hc dL_law_1117 ic_1 (pc2 := 1118) rfl ?_
  refine j_iadd hc dL_law_1118 (pc2 := 1119) rfl ?_
  refine j_sld hc hX (q_pl (k := 1) (by decide) hi hN (by decide)) dL_law_1119 (pc2 := 1120) rfl ?_
  refine j_aload_n (k := 0) hc dL_law_1120 rfl (pc2 := 1121) rfl ?_
  refine j_iload_n (k := 3) hc dL_law_1121 rfl (pc2 := 1122) rfl ?_
  refine j_iconst hc dL_law_1122 ic_2 (pc2 := 1123) rfl ?_
  refine j_iadd hc dL_law_1123 (pc2 := 1124) rfl ?_
  refine j_sld hc hX (q_pl (k := 2) (by decide) hi hN (by decide)) dL_law_1124 (pc2 := 1125) rfl ?_
  obtain ⟨r, σ1, σ2, e1, e2, hs⟩ := P_share hσ (xs (Int32.ofNat i + 1).toNatClampNeg) (xs (Int32.ofNat i + 2).toNatClampNeg) 
  refine l_call (As := [.int (xs (Int32.ofNat i + 1).toNatClampNeg), .int (xs (Int32.ofNat i + 2).toNatClampNeg)]) hc (C_X11_share (n := q_F) (t := 0) rfl _ _ e1) mv_X11_share ln_L_141 rfl (show 0 < q_N0 by decide) rfl rfl ⟨by decide, by decide⟩ ⟨by decide, by decide⟩ (Nat.le_of_ble_eq_true rfl) dL_law_1125 (pc2 := 1128) rfl ?_
  refine k_rl (k := 2) hc dL_law_1128 rfl (pc2 := 1129) rfl ?_
  refine j_aload_n (k := 0) hc dL_law_1129 rfl (pc2 := 1130) rfl ?_
  refine j_iload_n (k := 3) hc dL_law_1130 rfl (pc2 := 1131) rfl ?_
  refine j_iconst hc dL_law_1131 ic_1 (pc2 := 1132) rfl ?_
  refine j_iadd hc dL_law_1132 (pc2 := 1133) rfl ?_
  refine j_sld hc hX (q_pl (k := 1) (by decide) hi hN (by decide)) dL_law_1133 (pc2 := 1134) rfl ?_
  refine j_aload_n (k := 0) hc dL_law_1134 rfl (pc2 := 1135) rfl ?_
  refine j_iload_n (k := 3) hc dL_law_1135 rfl (pc2 := 1136) rfl ?_
  refine j_iconst hc dL_law_1136 ic_2 (pc2 := 1137) rfl ?_
  refine j_iadd hc dL_law_1137 (pc2 := 1138) rfl ?_
  refine j_sld hc hX (q_pl (k := 2) (by decide) hi hN (by decide)) dL_law_1138 (pc2 := 1139) rfl ?_
  refine l_call (As := [.int (xs (Int32.ofNat i + 1).toNatClampNeg), .int (xs (Int32.ofNat i + 2).toNatClampNeg)]) hc (C_X12_share (n := q_F) (t := 157) rfl _ _ e2) mv_X12_share ln_L_144 rfl (show 157 < q_N0 by decide) rfl rfl ⟨by decide, by decide⟩ ⟨by decide, by decide⟩ (Nat.le_of_ble_eq_true rfl) dL_law_1139 (pc2 := 1142) rfl ?_
  refine j_icmp_eq hc dL_law_1142 (pc1 := 1255) (pc2 := 1145) rfl rfl (fun _ => ?_) (fun z => absurd rfl z)
  exact hn σ2 hs
set_option maxRecDepth 100000 in
theorem law_31 {w : q_Wd} {cx : q_Cx} {b N i : Nat} {xs : Nat → Int32} {σ : q_Sto} {Q : State → Prop} (hc : q_ok w cx RL code 4 ret room_1) (hX : q_scr w cx b N xs) (hi : i + 6 ≤ N) (hN : N ≤ 3072) (hσ : q_Sim σ) (hn : ∀ σ2, q_Sim σ2 → q_J w cx 4 172 24195 Q 1255 [some (.ref b), some (q_rf w 0), some (q_rf w 157), some (.int (Int32.ofNat i))] [] (q_sg σ2)) : q_J w cx 4 172 24195 Q 1147 [some (.ref b), some (q_rf w 0), some (q_rf w 157), some (.int (Int32.ofNat i))] [] (q_sg σ) := by
  refine k_rl (k := 1) hc dL_law_1147 rfl (pc2 := 1148) rfl ?_
  refine j_aload_n (k := 0) hc dL_law_1148 rfl (pc2 := 1149) rfl ?_
  refine j_iload_n (k := 3) hc dL_law_1149 rfl (pc2 := 1150) rfl ?_
  refine j_iconst hc dL_law_1150 ic_1 (pc2 := 1151) rfl ?_
  refine j_iadd hc dL_law_1151 (pc2 := 1152) rfl ?_
  refine j_sld hc hX (q_pl (k := 1) (by decide) hi hN (by decide)) dL_law_1152 (pc2 := 1153) rfl ?_
  refine j_aload_n (k := 0) hc dL_law_1153 rfl (pc2 := 1154) rfl ?_
  refine j_iload_n (k := 3) hc dL_law_1154 rfl (pc2 := 1155) rfl ?_
  refine j_iconst hc dL_law_1155 ic_2 (pc2 := 1156) rfl ?_
  refine j_iadd hc dL_law_1156 (pc2 := 1157) rfl ?_
  refine j_sld hc hX (q_pl (k := 2) (by decide) hi hN (by decide)) dL_law_1157 (pc2 := 1158) rfl ?_
  obtain ⟨r, σ1, σ2, e1, e2, hs⟩ := P_meets hσ (xs (Int32.ofNat i + 1).toNatClampNeg) (xs (Int32.ofNat i + 2).toNatClampNeg) 
  refine l_call (As := [.int (xs (Int32.ofNat i + 1).toNatClampNeg), .int (xs (Int32.ofNat i + 2).toNatClampNeg)]) hc (C_X11_meets (n := q_F) (t := 0) rfl _ _ e1) mv_X11_meets ln_L_145 rfl (show 0 < q_N0 by decide) rfl rfl ⟨by decide, by decide⟩ ⟨by decide, by decide⟩ (Nat.le_of_ble_eq_true rfl) dL_law_1158 (pc2 := 1161) rfl ?_
  refine k_rl (k := 2) hc dL_law_1161 rfl (pc2 := 1162) rfl ?_
  refine j_aload_n (k := 0) hc dL_law_1162 rfl (pc2 := 1163) rfl ?_
  refine j_iload_n (k := 3) hc dL_law_1163 rfl (pc2 := 1164) rfl ?_
  refine j_iconst hc dL_law_1164 ic_1 (pc2 := 1165) rfl ?_
  refine j_iadd hc dL_law_1165 (pc2 := 1166) rfl ?_
  refine j_sld hc hX (q_pl (k := 1) (by decide) hi hN (by decide)) dL_law_1166 (pc2 := 1167) rfl ?_
  refine j_aload_n (k := 0) hc dL_law_1167 rfl (pc2 := 1168) rfl ?_
  refine j_iload_n (k := 3) hc dL_law_1168 rfl (pc2 := 1169) rfl ?_
  refine j_iconst hc dL_law_1169 ic_2 (pc2 := 1170) rfl ?_
  refine j_iadd hc dL_law_1170 (pc2 := 1171) rfl ?_
  refine j_sld hc hX (q_pl (k := 2) (by decide) hi hN (by decide)) dL_law_1171 (pc2 := 1172) rfl ?_
  refine l_call (As := [.int (xs (Int32.ofNat i + 1).toNatClampNeg), .int (xs (Int32.ofNat i + 2).toNatClampNeg)]) hc (C_X12_meets (n := q_F) (t := 157) rfl _ _ e2) mv_X12_meets ln_L_148 rfl (show 157 < q_N0 by decide) rfl rfl ⟨by decide, by decide⟩ ⟨by decide, by decide⟩ (Nat.le_of_ble_eq_true rfl) dL_law_1172 (pc2 := 1175) rfl ?_
  refine j_icmp_eq hc dL_law_1175 (pc1 := 1255) (pc2 := 1178) rfl rfl (fun _ => ?_) (fun z => absurd rfl z)
  exact hn σ2 hs
set_option maxRecDepth 100000 in
theorem law_32 {w : q_Wd} {cx : q_Cx} {b N i : Nat} {xs : Nat → Int32} {σ : q_Sto} {Q : State → Prop} (hc : q_ok w cx RL code 4 ret room_1) (hX : q_scr w cx b N xs) (hi : i + 6 ≤ N) (hN : N ≤ 3072) (hσ : q_Sim σ) (hn : ∀ σ2, q_Sim σ2 → q_J w cx 4 172 24195 Q 1255 [some (.ref b), some (q_rf w 0), some (q_rf w 157), some (.int (Int32.ofNat i))] [] (q_sg σ2)) : q_J w cx 4 172 24195 Q 1180 [some (.ref b), some (q_rf w 0), some (q_rf w 157), some (.int (Int32.ofNat i))] [] (q_sg σ) := by
  refine k_rl (k := 1) hc dL_law_1180 rfl (pc2 := 1181) rfl ?_
  obtain ⟨r, σ1, σ2, e1, e2, hs⟩ := P_undo hσ  
  refine l_call (As := []) hc (C_X11_undo (n := q_F) (t := 0) rfl _ _ e1) mv_X11_undo ln_L_149 rfl (show 0 < q_N0 by decide) rfl rfl ⟨by decide, by decide⟩ ⟨by decide, by decide⟩ (Nat.le_of_ble_eq_true rfl) dL_law_1181 (pc2 := 1184) rfl ?_
  refine k_rl (k := 2) hc dL_law_1184 rfl (pc2 := 1185) rfl ?_
  refine l_call (As := []) hc (C_X12_undo (n := q_F) (t := 157) rfl _ _ e2) mv_X12_undo ln_L_153 rfl (show 157 < q_N0 by decide) rfl rfl ⟨by decide, by decide⟩ ⟨by decide, by decide⟩ (Nat.le_of_ble_eq_true rfl) dL_law_1185 (pc2 := 1188) rfl ?_
  refine j_icmp_eq hc dL_law_1188 (pc1 := 1255) (pc2 := 1191) rfl rfl (fun _ => ?_) (fun z => absurd rfl z)
  exact hn σ2 hs
set_option maxRecDepth 100000 in
theorem law_33 {w : q_Wd} {cx : q_Cx} {b N i : Nat} {xs : Nat → Int32} {σ : q_Sto} {Q : State → Prop} (hc : q_ok w cx RL code 4 ret room_1) (hX : q_scr w cx b N xs) (hi : i + 6 ≤ N) (hN : N ≤ 3072) (hσ : q_Sim σ) (hn : ∀ σ2, q_Sim σ2 → q_J w cx 4 172 24195 Q 1255 [some (.ref b), some (q_rf w 0), some (q_rf w 157), some (.int (Int32.ofNat i))] [] (q_sg σ2)) : q_J w cx 4 172 24195 Q 1193 [some (.ref b), some (q_rf w 0), some (q_rf w 157), some (.int (Int32.ofNat i))] [] (q_sg σ) := by
  refine k_rl (k := 1) hc dL_law_1193 rfl (pc2 := 1194) rfl ?_
  refine j_aload_n (k := 0) hc dL_law_1194 rfl (pc2 := 1195) rfl ?_
  refine j_iload_n (k := 3) hc dL_law_1195 rfl (pc2 := 1196) rfl ?_
  refine j_iconst hc dL_law_1196 ic_1 (pc2 := 1197) rfl ?_
  refine j_iadd hc dL_law_1197 (pc2 := 1198) rfl ?_
  refine j_sld hc hX (q_pl (k := 1) (by decide) hi hN (by decide)) dL_law_1198 (pc2 := 1199) rfl ?_
  refine j_if_eq hc dL_law_1199 (pc1 := 1206) (pc2 := 1202) rfl rfl (fun hz => ?_) (fun hz => ?_)
  · refine j_iconst hc dL_law_1206 ic_0 (pc2 := 1207) rfl ?_
    obtain ⟨r, σ1, σ2, e1, e2, hs⟩ := P_image hσ 0 (by decide)
    refine l_call (As := [.int 0]) hc (C_X11_image (n := q_F) (t := 0) rfl _ _ e1) mv_X11_image ln_L_154 rfl (show 0 < q_N0 by decide) rfl rfl ⟨by decide, by decide⟩ ⟨by decide, by decide⟩ (Nat.le_of_ble_eq_true rfl) dL_law_1207 (pc2 := 1210) rfl ?_
    refine k_rl (k := 2) hc dL_law_1210 rfl (pc2 := 1211) rfl ?_
    refine j_aload_n (k := 0) hc dL_law_1211 rfl (pc2 := 1212) rfl ?_
    refine j_iload_n (k := 3) hc dL_law_1212 rfl (pc2 := 1213) rfl ?_
    refine j_iconst hc dL_law_1213 ic_1 (pc2 := 1214) rfl ?_
    refine j_iadd hc dL_law_1214 (pc2 := 1215) rfl ?_
    refine j_sld hc hX (q_pl (k := 1) (by decide) hi hN (by decide)) dL_law_1215 (pc2 := 1216) rfl ?_
    refine j_if_eq hc dL_law_1216 (pc1 := 1223) (pc2 := 1219) rfl rfl (fun _ => ?_) (fun z => absurd hz z)
    refine j_iconst hc dL_law_1223 ic_0 (pc2 := 1224) rfl ?_
    refine l_call (As := [.int 0]) hc (C_X12_image (n := q_F) (t := 157) rfl _ _ e2) mv_X12_image ln_L_158 rfl (show 157 < q_N0 by decide) rfl rfl ⟨by decide, by decide⟩ ⟨by decide, by decide⟩ (Nat.le_of_ble_eq_true rfl) dL_law_1224 (pc2 := 1227) rfl ?_
    refine j_icmp_eq hc dL_law_1227 (pc1 := 1255) (pc2 := 1230) rfl rfl (fun _ => ?_) (fun z => absurd rfl z)
    exact hn σ2 hs
  · refine j_iconst hc dL_law_1202 ic_1 (pc2 := 1203) rfl ?_
    refine j_goto hc dL_law_1203 (pc2 := 1207) rfl ?_
    obtain ⟨r, σ1, σ2, e1, e2, hs⟩ := P_image hσ 1 (by decide)
    refine l_call (As := [.int 1]) hc (C_X11_image (n := q_F) (t := 0) rfl _ _ e1) mv_X11_image ln_L_154 rfl (show 0 < q_N0 by decide) rfl rfl ⟨by decide, by decide⟩ ⟨by decide, by decide⟩ (Nat.le_of_ble_eq_true rfl) dL_law_1207 (pc2 := 1210) rfl ?_
    refine k_rl (k := 2) hc dL_law_1210 rfl (pc2 := 1211) rfl ?_
    refine j_aload_n (k := 0) hc dL_law_1211 rfl (pc2 := 1212) rfl ?_
    refine j_iload_n (k := 3) hc dL_law_1212 rfl (pc2 := 1213) rfl ?_
    refine j_iconst hc dL_law_1213 ic_1 (pc2 := 1214) rfl ?_
    refine j_iadd hc dL_law_1214 (pc2 := 1215) rfl ?_
    refine j_sld hc hX (q_pl (k := 1) (by decide) hi hN (by decide)) dL_law_1215 (pc2 := 1216) rfl ?_
    refine j_if_eq hc dL_law_1216 (pc1 := 1223) (pc2 := 1219) rfl rfl (fun z => absurd z hz) (fun _ => ?_)
    refine j_iconst hc dL_law_1219 ic_1 (pc2 := 1220) rfl ?_
    refine j_goto hc dL_law_1220 (pc2 := 1224) rfl ?_
    refine l_call (As := [.int 1]) hc (C_X12_image (n := q_F) (t := 157) rfl _ _ e2) mv_X12_image ln_L_158 rfl (show 157 < q_N0 by decide) rfl rfl ⟨by decide, by decide⟩ ⟨by decide, by decide⟩ (Nat.le_of_ble_eq_true rfl) dL_law_1224 (pc2 := 1227) rfl ?_
    refine j_icmp_eq hc dL_law_1227 (pc1 := 1255) (pc2 := 1230) rfl rfl (fun _ => ?_) (fun z => absurd rfl z)
    exact hn σ2 hs
set_option maxRecDepth 100000 in
theorem law_34 {w : q_Wd} {cx : q_Cx} {b N i : Nat} {xs : Nat → Int32} {σ : q_Sto} {Q : State → Prop} (hc : q_ok w cx RL code 4 ret room_1) (hX : q_scr w cx b N xs) (hi : i + 6 ≤ N) (hN : N ≤ 3072) (hσ : q_Sim σ) (hn : ∀ σ2, q_Sim σ2 → q_J w cx 4 172 24195 Q 1255 [some (.ref b), some (q_rf w 0), some (q_rf w 157), some (.int (Int32.ofNat i))] [] (q_sg σ2)) : q_J w cx 4 172 24195 Q 1232 [some (.ref b), some (q_rf w 0), some (q_rf w 157), some (.int (Int32.ofNat i))] [] (q_sg σ) := by
  refine k_rl (k := 1) hc dL_law_1232 rfl (pc2 := 1233) rfl ?_
  refine j_aload_n (k := 0) hc dL_law_1233 rfl (pc2 := 1234) rfl ?_
  refine j_iload_n (k := 3) hc dL_law_1234 rfl (pc2 := 1235) rfl ?_
  refine j_iconst hc dL_law_1235 ic_1 (pc2 := 1236) rfl ?_
  refine j_iadd hc dL_law_1236 (pc2 := 1237) rfl ?_
  refine j_sld hc hX (q_pl (k := 1) (by decide) hi hN (by decide)) dL_law_1237 (pc2 := 1238) rfl ?_
  obtain ⟨r, σ1, σ2, e1, e2, hs⟩ := P_look hσ (xs (Int32.ofNat i + 1).toNatClampNeg) 
  refine l_call (As := [.int (xs (Int32.ofNat i + 1).toNatClampNeg)]) hc (C_X11_look (n := q_F) (t := 0) rfl _ _ e1) mv_X11_look ln_L_159 rfl (show 0 < q_N0 by decide) rfl rfl ⟨by decide, by decide⟩ ⟨by decide, by decide⟩ (Nat.le_of_ble_eq_true rfl) dL_law_1238 (pc2 := 1241) rfl ?_
  refine k_rl (k := 2) hc dL_law_1241 rfl (pc2 := 1242) rfl ?_
  refine j_aload_n (k := 0) hc dL_law_1242 rfl (pc2 := 1243) rfl ?_
  refine j_iload_n (k := 3) hc dL_law_1243 rfl (pc2 := 1244) rfl ?_
  refine j_iconst hc dL_law_1244 ic_1 (pc2 := 1245) rfl ?_
  refine j_iadd hc dL_law_1245 (pc2 := 1246) rfl ?_
  refine j_sld hc hX (q_pl (k := 1) (by decide) hi hN (by decide)) dL_law_1246 (pc2 := 1247) rfl ?_
  refine l_call (As := [.int (xs (Int32.ofNat i + 1).toNatClampNeg)]) hc (C_X12_look (n := q_F) (t := 157) rfl _ _ e2) mv_X12_look ln_L_162 rfl (show 157 < q_N0 by decide) rfl rfl ⟨by decide, by decide⟩ ⟨by decide, by decide⟩ (Nat.le_of_ble_eq_true rfl) dL_law_1247 (pc2 := 1250) rfl ?_
  refine j_icmp_eq hc dL_law_1250 (pc1 := 1255) (pc2 := 1253) rfl rfl (fun _ => ?_) (fun z => absurd rfl z)
  exact hn σ2 hs
set_option maxRecDepth 100000 in
theorem law_sw {w : q_Wd} {cx : q_Cx} {b N i : Nat} {xs : Nat → Int32} {σ : q_Sto} {Q : State → Prop} (hc : q_ok w cx RL code 4 ret room_1) (hX : q_scr w cx b N xs) (hi : i + 6 ≤ N) (hN : N ≤ 3072) {v : Int32} (hσ : q_Sim σ) (hn : ∀ σ2, q_Sim σ2 → q_J w cx 4 172 24195 Q 1255 [some (.ref b), some (q_rf w 0), some (q_rf w 157), some (.int (Int32.ofNat i))] [] (q_sg σ2)) : q_J w cx 4 172 24195 Q 33 [some (.ref b), some (q_rf w 0), some (q_rf w 157), some (.int (Int32.ofNat i))] [.int v] (q_sg σ) := by
  refine j_swc hc dL_law_33 (c := 0) (by decide) (by decide) rfl (pc1 := 188) rfl (fun _ => law_0 hc hX hi hN hσ hn) (fun c0 => ?_)
  refine j_swc hc dL_law_33 (c := 1) (by decide) (by decide) rfl (pc1 := 211) rfl (fun _ => law_1 hc hX hi hN hσ hn) (fun c1 => ?_)
  refine j_swc hc dL_law_33 (c := 2) (by decide) (by decide) rfl (pc1 := 244) rfl (fun _ => law_2 hc hX hi hN hσ hn) (fun c2 => ?_)
  refine j_swc hc dL_law_33 (c := 3) (by decide) (by decide) rfl (pc1 := 287) rfl (fun _ => law_3 hc hX hi hN hσ hn) (fun c3 => ?_)
  refine j_swc hc dL_law_33 (c := 4) (by decide) (by decide) rfl (pc1 := 330) rfl (fun _ => law_4 hc hX hi hN hσ hn) (fun c4 => ?_)
  refine j_swc hc dL_law_33 (c := 5) (by decide) (by decide) rfl (pc1 := 373) rfl (fun _ => law_5 hc hX hi hN hσ hn) (fun c5 => ?_)
  refine j_swc hc dL_law_33 (c := 6) (by decide) (by decide) rfl (pc1 := 386) rfl (fun _ => law_6 hc hX hi hN hσ hn) (fun c6 => ?_)
  refine j_swc hc dL_law_33 (c := 7) (by decide) (by decide) rfl (pc1 := 429) rfl (fun _ => law_7 hc hX hi hN hσ hn) (fun c7 => ?_)
  refine j_swc hc dL_law_33 (c := 8) (by decide) (by decide) rfl (pc1 := 452) rfl (fun _ => law_8 hc hX hi hN hσ hn) (fun c8 => ?_)
  refine j_swc hc dL_law_33 (c := 9) (by decide) (by decide) rfl (pc1 := 465) rfl (fun _ => law_9 hc hX hi hN hσ hn) (fun c9 => ?_)
  refine j_swc hc dL_law_33 (c := 10) (by decide) (by decide) rfl (pc1 := 488) rfl (fun _ => law_10 hc hX hi hN hσ hn) (fun c10 => ?_)
  refine j_swc hc dL_law_33 (c := 11) (by decide) (by decide) rfl (pc1 := 551) rfl (fun _ => law_11 hc hX hi hN hσ hn) (fun c11 => ?_)
  refine j_swc hc dL_law_33 (c := 12) (by decide) (by decide) rfl (pc1 := 574) rfl (fun _ => law_12 hc hX hi hN hσ hn) (fun c12 => ?_)
  refine j_swc hc dL_law_33 (c := 13) (by decide) (by decide) rfl (pc1 := 597) rfl (fun _ => law_13 hc hX hi hN hσ hn) (fun c13 => ?_)
  refine j_swc hc dL_law_33 (c := 14) (by decide) (by decide) rfl (pc1 := 620) rfl (fun _ => law_14 hc hX hi hN hσ hn) (fun c14 => ?_)
  refine j_swc hc dL_law_33 (c := 15) (by decide) (by decide) rfl (pc1 := 653) rfl (fun _ => law_15 hc hX hi hN hσ hn) (fun c15 => ?_)
  refine j_swc hc dL_law_33 (c := 16) (by decide) (by decide) rfl (pc1 := 686) rfl (fun _ => law_16 hc hX hi hN hσ hn) (fun c16 => ?_)
  refine j_swc hc dL_law_33 (c := 17) (by decide) (by decide) rfl (pc1 := 719) rfl (fun _ => law_17 hc hX hi hN hσ hn) (fun c17 => ?_)
  refine j_swc hc dL_law_33 (c := 18) (by decide) (by decide) rfl (pc1 := 752) rfl (fun _ => law_18 hc hX hi hN hσ hn) (fun c18 => ?_)
  refine j_swc hc dL_law_33 (c := 19) (by decide) (by decide) rfl (pc1 := 775) rfl (fun _ => law_19 hc hX hi hN hσ hn) (fun c19 => ?_)
  refine j_swc hc dL_law_33 (c := 20) (by decide) (by decide) rfl (pc1 := 798) rfl (fun _ => law_20 hc hX hi hN hσ hn) (fun c20 => ?_)
  refine j_swc hc dL_law_33 (c := 21) (by decide) (by decide) rfl (pc1 := 831) rfl (fun _ => law_21 hc hX hi hN hσ hn) (fun c21 => ?_)
  refine j_swc hc dL_law_33 (c := 22) (by decide) (by decide) rfl (pc1 := 864) rfl (fun _ => law_22 hc hX hi hN hσ hn) (fun c22 => ?_)
  refine j_swc hc dL_law_33 (c := 23) (by decide) (by decide) rfl (pc1 := 887) rfl (fun _ => law_23 hc hX hi hN hσ hn) (fun c23 => ?_)
  refine j_swc hc dL_law_33 (c := 24) (by decide) (by decide) rfl (pc1 := 930) rfl (fun _ => law_24 hc hX hi hN hσ hn) (fun c24 => ?_)
  refine j_swc hc dL_law_33 (c := 25) (by decide) (by decide) rfl (pc1 := 953) rfl (fun _ => law_25 hc hX hi hN hσ hn) (fun c25 => ?_)
  refine j_swc hc dL_law_33 (c := 26) (by decide) (by decide) rfl (pc1 := 966) rfl (fun _ => law_26 hc hX hi hN hσ hn) (fun c26 => ?_)
  refine j_swc hc dL_law_33 (c := 27) (by decide) (by decide) rfl (pc1 := 1025) rfl (fun _ => law_27 hc hX hi hN hσ hn) (fun c27 => ?_)
  refine j_swc hc dL_law_33 (c := 28) (by decide) (by decide) rfl (pc1 := 1048) rfl (fun _ => law_28 hc hX hi hN hσ hn) (fun c28 => ?_)
  refine j_swc hc dL_law_33 (c := 29) (by decide) (by decide) rfl (pc1 := 1091) rfl (fun _ => law_29 hc hX hi hN hσ hn) (fun c29 => ?_)
  refine j_swc hc dL_law_33 (c := 30) (by decide) (by decide) rfl (pc1 := 1114) rfl (fun _ => law_30 hc hX hi hN hσ hn) (fun c30 => ?_)
  refine j_swc hc dL_law_33 (c := 31) (by decide) (by decide) rfl (pc1 := 1147) rfl (fun _ => law_31 hc hX hi hN hσ hn) (fun c31 => ?_)
  refine j_swc hc dL_law_33 (c := 32) (by decide) (by decide) rfl (pc1 := 1180) rfl (fun _ => law_32 hc hX hi hN hσ hn) (fun c32 => ?_)
  refine j_swc hc dL_law_33 (c := 33) (by decide) (by decide) rfl (pc1 := 1193) rfl (fun _ => law_33 hc hX hi hN hσ hn) (fun c33 => ?_)
  refine j_swc hc dL_law_33 (c := 34) (by decide) (by decide) rfl (pc1 := 1232) rfl (fun _ => law_34 hc hX hi hN hσ hn) (fun c34 => ?_)
  refine j_swd hc dL_law_33 (fun i a b e => ?_) (pc1 := 1255) rfl (hn σ hσ)
  rcases (show i = 0 ∨ i = 1 ∨ i = 2 ∨ i = 3 ∨ i = 4 ∨ i = 5 ∨ i = 6 ∨ i = 7 ∨ i = 8 ∨ i = 9 ∨ i = 10 ∨ i = 11 ∨ i = 12 ∨ i = 13 ∨ i = 14 ∨ i = 15 ∨ i = 16 ∨ i = 17 ∨ i = 18 ∨ i = 19 ∨ i = 20 ∨ i = 21 ∨ i = 22 ∨ i = 23 ∨ i = 24 ∨ i = 25 ∨ i = 26 ∨ i = 27 ∨ i = 28 ∨ i = 29 ∨ i = 30 ∨ i = 31 ∨ i = 32 ∨ i = 33 ∨ i = 34 by omega) with rfl | rfl | rfl | rfl | rfl | rfl | rfl | rfl | rfl | rfl | rfl | rfl | rfl | rfl | rfl | rfl | rfl | rfl | rfl | rfl | rfl | rfl | rfl | rfl | rfl | rfl | rfl | rfl | rfl | rfl | rfl | rfl | rfl | rfl | rfl
  · exact q_swx (c := 0) (by decide) c0 e
  · exact q_swx (c := 1) (by decide) c1 e
  · exact q_swx (c := 2) (by decide) c2 e
  · exact q_swx (c := 3) (by decide) c3 e
  · exact q_swx (c := 4) (by decide) c4 e
  · exact q_swx (c := 5) (by decide) c5 e
  · exact q_swx (c := 6) (by decide) c6 e
  · exact q_swx (c := 7) (by decide) c7 e
  · exact q_swx (c := 8) (by decide) c8 e
  · exact q_swx (c := 9) (by decide) c9 e
  · exact q_swx (c := 10) (by decide) c10 e
  · exact q_swx (c := 11) (by decide) c11 e
  · exact q_swx (c := 12) (by decide) c12 e
  · exact q_swx (c := 13) (by decide) c13 e
  · exact q_swx (c := 14) (by decide) c14 e
  · exact q_swx (c := 15) (by decide) c15 e
  · exact q_swx (c := 16) (by decide) c16 e
  · exact q_swx (c := 17) (by decide) c17 e
  · exact q_swx (c := 18) (by decide) c18 e
  · exact q_swx (c := 19) (by decide) c19 e
  · exact q_swx (c := 20) (by decide) c20 e
  · exact q_swx (c := 21) (by decide) c21 e
  · exact q_swx (c := 22) (by decide) c22 e
  · exact q_swx (c := 23) (by decide) c23 e
  · exact q_swx (c := 24) (by decide) c24 e
  · exact q_swx (c := 25) (by decide) c25 e
  · exact q_swx (c := 26) (by decide) c26 e
  · exact q_swx (c := 27) (by decide) c27 e
  · exact q_swx (c := 28) (by decide) c28 e
  · exact q_swx (c := 29) (by decide) c29 e
  · exact q_swx (c := 30) (by decide) c30 e
  · exact q_swx (c := 31) (by decide) c31 e
  · exact q_swx (c := 32) (by decide) c32 e
  · exact q_swx (c := 33) (by decide) c33 e
  · exact q_swx (c := 34) (by decide) c34 e
set_option maxRecDepth 100000 in
theorem law_loop {w : q_Wd} {cx : q_Cx} {b N : Nat} {xs : Nat → Int32} {Q : State → Prop} (hc : q_ok w cx RL code 4 ret room_1) (hX : q_scr w cx b N xs) (hN : N ≤ 3072) (hend : ∀ i σ, q_J w cx 4 172 24195 Q 1261 [some (.ref b), some (q_rf w 0), some (q_rf w 157), some (.int (Int32.ofNat i))] [] (q_sg σ)) : ∀ (k i : Nat) (σ : q_Sto), N < i + 6 * k → i ≤ N + 6 → q_Sim σ → q_J w cx 4 172 24195 Q 18 [some (.ref b), some (q_rf w 0), some (q_rf w 157), some (.int (Int32.ofNat i))] [] (q_sg σ) := by
  have step : ∀ (k i : Nat) (σ : q_Sto), (i + 6 ≤ N → ∀ σ2, q_Sim σ2 → q_J w cx 4 172 24195 Q 18 [some (.ref b), some (q_rf w 0), some (q_rf w 157), some (.int (Int32.ofNat (i + 6)))] [] (q_sg σ2)) → i ≤ N + 6 → q_Sim σ → q_J w cx 4 172 24195 Q 18 [some (.ref b), some (q_rf w 0), some (q_rf w 157), some (.int (Int32.ofNat i))] [] (q_sg σ) := by
    intro k i σ ih hiN hσ
    have e1 : (Int32.ofNat N - 6).toInt = (N : Int) - 6 := by
      have h1 : (Int32.ofNat N).toInt = (N : Int) := nI_toInt (by omega)
      have h6 : (6 : Int32).toInt = 6 := by decide
      rw [Int32.toInt_sub, h1, h6]
      exact Int.bmod_eq_of_le (by omega) (by omega)
    have e2 : (Int32.ofNat i).toInt = (i : Int) := nI_toInt (by omega)
    refine j_iload_n (k := 3) hc dL_law_18 rfl (pc2 := 19) rfl ?_
    refine j_aload_n (k := 0) hc dL_law_19 rfl (pc2 := 20) rfl ?_
    refine j_slen hc hX dL_law_20 (pc2 := 21) rfl ?_
    refine j_bipush hc dL_law_21 bp_6 (pc2 := 23) rfl ?_
    refine j_isub hc dL_law_23 (pc2 := 24) rfl ?_
    refine j_icmp_gt hc dL_law_24 (pc1 := 27) (pc2 := 1261) rfl rfl (fun hle => ?_) (fun _ => hend i σ)
    have hi : i + 6 ≤ N := by
      have := Int32.le_iff_toInt_le.mp hle
      rw [e1, e2] at this
      omega
    refine j_aload_n (k := 0) hc dL_law_27 rfl (pc2 := 28) rfl ?_
    refine j_iload_n (k := 3) hc dL_law_28 rfl (pc2 := 29) rfl ?_
    refine j_sld hc hX (q_pl0 hi hN) dL_law_29 (pc2 := 30) rfl ?_
    refine j_bipush hc dL_law_30 bp_63 (pc2 := 32) rfl ?_
    refine j_iand hc dL_law_32 (pc2 := 33) rfl ?_
    refine law_sw hc hX hi hN hσ (fun σ2 hs => ?_)
    have e3 : Int32.ofNat i + 6 = Int32.ofNat (i + 6) := nI_add i 6
    refine j_iinc (v := Int32.ofNat (i + 6)) hc dL_law_1255 rfl (by rw [ic_6]; exact e3) (by decide) (L2 := [some (.ref b), some (q_rf w 0), some (q_rf w 157), some (.int (Int32.ofNat (i + 6)))]) rfl (pc2 := 1258) rfl ?_
    refine j_goto hc dL_law_1258 (pc2 := 18) rfl ?_
    exact ih hi σ2 hs
  intro k
  induction k with
  | zero =>
    intro i σ hik hb hσ
    exact step 0 i σ (fun h => absurd h (by omega)) hb hσ
  | succ k ih =>
    intro i σ hik hb hσ
    exact step k i σ (fun h σ2 hs => ih (i + 6) σ2 (by omega) (by omega) hs) hb hσ
