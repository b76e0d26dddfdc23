abbrev mi_L_law : jr_MI := (yL_law, (cL_law, (4, some .boolean)))
theorem lg_cmp_rf (x : Int64) : lg_cmp x x = 0 := by
  unfold lg_cmp
  rw [if_neg (by simp [Int64.lt_iff_toInt_lt]), if_pos rfl]
section LAW
variable {p : Program} {l : Launch} {e : Env} {rm : Room} {s : State} {m : MethodId} {args : Array Value} {below : List Frame} {meth : Method} {c : Code} {A : Nat → Prop} {nc ns : Nat} {Q : State → Prop} {G : jr_G} {mi : jr_MI} {pc : Nat} {L : List (Option Value)} {st : List Value} {σ : jr_Sg}
theorem jz_sld (hC : jz_C p s m args c A (jq_up G) mi) {b N k : Nat} {xs : Nat → Int32} {j : Int32} (hX : va_X b N xs s s.heap) (hbl : b < s.heap.size) (hbA : ¬ A b) (hb0 : G.2.2 1400 = b) (hj : j = nI k) (hk : k < N) (hN : N < 2 ^ 31) (pc' : Nat) (hdg : decode mi.2.1 pc = .ok (.iaload, 1)) (hp : pc + 1 = pc') (kk : jz_R p l e rm s m args below meth c A nc ns Q (jq_up G) mi pc' L (.int (xs k) :: st) σ) : jz_R p l e rm s m args below meth c A nc ns Q (jq_up G) mi pc L (.int j :: .ref 1400 :: st) σ := by
  subst hp
  subst hj
  subst hb0
  obtain ⟨hx, hb, hml, hown, hts, hF⟩ := hC
  intro H locs ls hP hS hl
  refine va_sld hx hb hX hbl hbA hS (vp_in_nI hk hN) hdg ?_
  rw [nI_clamp (by omega)]
  exact kk H locs ls hP hS hl
theorem jz_slen (hC : jz_C p s m args c A (jq_up G) mi) {b N : Nat} {xs : Nat → Int32} (hX : va_X b N xs s s.heap) (hbl : b < s.heap.size) (hbA : ¬ A b) (hb0 : G.2.2 1400 = b) (pc' : Nat) (hdg : decode mi.2.1 pc = .ok (.arraylength, 1)) (hp : pc + 1 = pc') (kk : jz_R p l e rm s m args below meth c A nc ns Q (jq_up G) mi pc' L (.int (nI N) :: st) σ) : jz_R p l e rm s m args below meth c A nc ns Q (jq_up G) mi pc L (.ref 1400 :: st) σ := by
  subst hp
  subst hb0
  obtain ⟨hx, hb, hml, hown, hts, hF⟩ := hC
  intro H locs ls hP hS hl
  exact va_slen hx hb hX hbl hbA hS hdg (kk H locs ls hP hS hl)
theorem jz_P (hC : jz_C p s m args c A (jq_up G) mi) {idx n d N : Nat} {T : u_T} {mX mR : jr_MI} {As rest : List Value} (ok : jr_okV mi.1.cls idx mX n) (hcl : vwCl[7]? = some (mX.1.cls, T, N)) (hr : mX.2.2.2 = some .int) (hn : As.length = n) (hst : (rest.map fun v => v.category).sum ≤ 8) (hR : d + 2 ≤ rm.frames ∧ 64 * (d + 2) ≤ rm.locals ∧ nc ≤ rm.cells ∧ ns ≤ rm.slots) (pc' : Nat) (hdg : decode mi.2.1 pc = .ok (.invokevirtual idx, 3)) (hp : pc + 3 = pc') (hs : st = As.reverse ++ .ref 0 :: rest) (hpair : jr_pair G d mX mR As σ) (kk : ∀ (x : Int32) (σ1 : jr_Sg), jr_M G d mR (.ref 46 :: As) σ1 (jr_k (fun v' σ2 => v' = .int x ∧ IV σ2)) → jz_R p l e rm s m args below meth c A nc ns Q (jq_up G) mi pc' L (.int x :: rest) σ1) : jz_R p l e rm s m args below meth c A nc ns Q (jq_up G) mi pc L st σ := by
  refine jz_callV hC ok hcl rfl hn hst hR pc' hdg hp hs (jq_M_mono (fun v σ1 h => ?_) (jq_of hpair))
  cases v with
  | none => exact h.elim
  | some v =>
    have h2 : jr_ty mX.2.2.2 v (jr_M G d mR (.ref 46 :: As) σ1 (jr_k (fun v' σ2 => v' = v ∧ IV σ2))) := h
    rw [hr] at h2
    cases v with
    | int x => exact kk x σ1 h2
    | _ => exact h2.elim
theorem jz_PL (hC : jz_C p s m args c A (jq_up G) mi) {idx n d N : Nat} {T : u_T} {mX mR : jr_MI} {As rest : List Value} (ok : jr_okV mi.1.cls idx mX n) (hcl : vwCl[7]? = some (mX.1.cls, T, N)) (hr : mX.2.2.2 = some .long) (hn : As.length = n) (hst : (rest.map fun v => v.category).sum ≤ 8) (hR : d + 2 ≤ rm.frames ∧ 64 * (d + 2) ≤ rm.locals ∧ nc ≤ rm.cells ∧ ns ≤ rm.slots) (pc' : Nat) (hdg : decode mi.2.1 pc = .ok (.invokevirtual idx, 3)) (hp : pc + 3 = pc') (hs : st = As.reverse ++ .ref 0 :: rest) (hpair : jr_pair G d mX mR As σ) (kk : ∀ (x : Int64) (σ1 : jr_Sg), jr_M G d mR (.ref 46 :: As) σ1 (jr_k (fun v' σ2 => v' = .long x ∧ IV σ2)) → jz_R p l e rm s m args below meth c A nc ns Q (jq_up G) mi pc' L (.long x :: rest) σ1) : jz_R p l e rm s m args below meth c A nc ns Q (jq_up G) mi pc L st σ := by
  refine jz_callV hC ok hcl rfl hn hst hR pc' hdg hp hs (jq_M_mono (fun v σ1 h => ?_) (jq_of hpair))
  cases v with
  | none => exact h.elim
  | some v =>
    have h2 : jr_ty mX.2.2.2 v (jr_M G d mR (.ref 46 :: As) σ1 (jr_k (fun v' σ2 => v' = v ∧ IV σ2))) := h
    rw [hr] at h2
    cases v with
    | long x => exact kk x σ1 h2
    | _ => exact h2.elim
theorem jz_Q (hC : jz_C p s m args c A (jq_up G) mi) {idx n d N : Nat} {T : u_T} {mR : jr_MI} {v : Value} {As rest : List Value} (ok : jr_okV mi.1.cls idx mR n) (hcl : vwCl[8]? = some (mR.1.cls, T, N)) (hn : As.length = n) (hst : (rest.map fun v => v.category).sum ≤ 8) (hR : d + 2 ≤ rm.frames ∧ 64 * (d + 2) ≤ rm.locals ∧ nc ≤ rm.cells ∧ ns ≤ rm.slots) (pc' : Nat) (hdg : decode mi.2.1 pc = .ok (.invokevirtual idx, 3)) (hp : pc + 3 = pc') (hs : st = As.reverse ++ .ref 46 :: rest) (hm : jr_M G d mR (.ref 46 :: As) σ (jr_k (fun v' σ2 => v' = v ∧ IV σ2))) (kk : ∀ σ2 : jr_Sg, IV σ2 → jz_R p l e rm s m args below meth c A nc ns Q (jq_up G) mi pc' L (v :: rest) σ2) : jz_R p l e rm s m args below meth c A nc ns Q (jq_up G) mi pc L st σ := by
  refine jz_callV hC ok hcl rfl hn hst hR pc' hdg hp hs (jq_M_mono (fun v' σ2 h => ?_) (jq_of hm))
  cases v' with
  | none => exact h.elim
  | some v' =>
    obtain ⟨h1, h2⟩ : v' = v ∧ IV σ2 := h
    subst h1
    exact kk σ2 h2
theorem law_0 (hC : jz_C p s m args c A (jq_up G) mi_L_law) {b N i : Nat} {xs : Nat → Int32} (hX : va_X b N xs s s.heap) (hbl : b < s.heap.size) (hbA : ¬ A b) (hb0 : G.2.2 1400 = b) (hN : N ≤ 3584) (hi : i + 7 ≤ N) (hR : ∀ d, d ≤ 200 → d + 2 ≤ rm.frames ∧ 64 * (d + 2) ≤ rm.locals ∧ nc ≤ rm.cells ∧ ns ≤ rm.slots) (h : IV σ) (next : ∀ σ2 : jr_Sg, IV σ2 → jz_R p l e rm s m args below meth c A nc ns Q (jq_up G) mi_L_law 1919 [some (.ref 1400), some (.ref 0), some (.ref 46), some (.int (nI i))] [] σ2) : jz_R p l e rm s m args below meth c A nc ns Q (jq_up G) mi_L_law 240 [some (.ref 1400), some (.ref 0), some (.ref 46), some (.int (nI i))] [] σ := by
  refine jz_aload_n hC 1 241 dL_law_240 rfl rfl rfl ?_
  refine jz_aload_n hC 0 242 dL_law_241 rfl rfl rfl ?_
  refine jz_iload_n hC 3 243 dL_law_242 rfl rfl rfl ?_
  refine jz_iconst hC (nI 1) 244 dL_law_243 rfl rfl ?_
  refine jz_iadd hC 245 dL_law_244 rfl ?_
  rw [nI_add]
  refine jz_sld hC hX hbl hbA hb0 rfl (by omega) (by omega) 246 dL_law_245 rfl ?_
  refine jz_P hC (d := 110) (As := [.int (xs (i + 1))]) ok_L_13 rfl rfl rfl (Nat.le_of_ble_eq_true rfl) (hR 110 (by decide)) 249 dL_law_246 rfl rfl (pp_count (d := 90) h) (fun x σ1 h1 => ?_)
  refine jz_aload_n hC 2 250 dL_law_249 rfl rfl rfl ?_
  refine jz_aload_n hC 0 251 dL_law_250 rfl rfl rfl ?_
  refine jz_iload_n hC 3 252 dL_law_251 rfl rfl rfl ?_
  refine jz_iconst hC (nI 1) 253 dL_law_252 rfl rfl ?_
  refine jz_iadd hC 254 dL_law_253 rfl ?_
  rw [nI_add]
  refine jz_sld hC hX hbl hbA hb0 rfl (by omega) (by omega) 255 dL_law_254 rfl ?_
  refine jz_Q hC (d := 110) (As := [.int (xs (i + 1))]) ok_L_17 rfl rfl (Nat.le_of_ble_eq_true rfl) (hR 110 (by decide)) 258 dL_law_255 rfl rfl h1 (fun σ2 h2 => ?_)
  refine jz_icmp_eq hC 1919 261 dL_law_258 rfl rfl (fun q258 => ?_) (fun q => absurd rfl q)
  exact next σ2 h2
theorem law_1 (hC : jz_C p s m args c A (jq_up G) mi_L_law) {b N i : Nat} {xs : Nat → Int32} (hX : va_X b N xs s s.heap) (hbl : b < s.heap.size) (hbA : ¬ A b) (hb0 : G.2.2 1400 = b) (hN : N ≤ 3584) (hi : i + 7 ≤ N) (hR : ∀ d, d ≤ 200 → d + 2 ≤ rm.frames ∧ 64 * (d + 2) ≤ rm.locals ∧ nc ≤ rm.cells ∧ ns ≤ rm.slots) (h : IV σ) (next : ∀ σ2 : jr_Sg, IV σ2 → jz_R p l e rm s m args below meth c A nc ns Q (jq_up G) mi_L_law 1919 [some (.ref 1400), some (.ref 0), some (.ref 46), some (.int (nI i))] [] σ2) : jz_R p l e rm s m args below meth c A nc ns Q (jq_up G) mi_L_law 263 [some (.ref 1400), some (.ref 0), some (.ref 46), some (.int (nI i))] [] σ := by
  refine jz_aload_n hC 1 264 dL_law_263 rfl rfl rfl ?_
  refine jz_aload_n hC 0 265 dL_law_264 rfl rfl rfl ?_
  refine jz_iload_n hC 3 266 dL_law_265 rfl rfl rfl ?_
  refine jz_iconst hC (nI 1) 267 dL_law_266 rfl rfl ?_
  refine jz_iadd hC 268 dL_law_267 rfl ?_
  rw [nI_add]
  refine jz_sld hC hX hbl hbA hb0 rfl (by omega) (by omega) 269 dL_law_268 rfl ?_
  refine jz_aload_n hC 0 270 dL_law_269 rfl rfl rfl ?_
  refine jz_iload_n hC 3 271 dL_law_270 rfl rfl rfl ?_
  refine jz_iconst hC (nI 2) 272 dL_law_271 rfl rfl ?_
  refine jz_iadd hC 273 dL_law_272 rfl ?_
  rw [nI_add]
  refine jz_sld hC hX hbl hbA hb0 rfl (by omega) (by omega) 274 dL_law_273 rfl ?_
  refine jz_aload_n hC 0 275 dL_law_274 rfl rfl rfl ?_
  refine jz_iload_n hC 3 276 dL_law_275 rfl rfl rfl ?_
  refine jz_iconst hC (nI 3) 277 dL_law_276 rfl rfl ?_
  refine jz_iadd hC 278 dL_law_277 rfl ?_
  rw [nI_add]
  refine jz_sld hC hX hbl hbA hb0 rfl (by omega) (by omega) 279 dL_law_278 rfl ?_
  refine jz_aload_n hC 0 280 dL_law_279 rfl rfl rfl ?_
  refine jz_iload_n hC 3 281 dL_law_280 rfl rfl rfl ?_
  refine jz_iconst hC (nI 4) 282 dL_law_281 rfl rfl ?_
  refine jz_iadd hC 283 dL_law_282 rfl ?_
  rw [nI_add]
  refine jz_sld hC hX hbl hbA hb0 rfl (by omega) (by omega) 284 dL_law_283 rfl ?_
  refine jz_aload_n hC 0 285 dL_law_284 rfl rfl rfl ?_
  refine jz_iload_n hC 3 286 dL_law_285 rfl rfl rfl ?_
  refine jz_iconst hC (nI 5) 287 dL_law_286 rfl rfl ?_
  refine jz_iadd hC 288 dL_law_287 rfl ?_
  rw [nI_add]
  refine jz_sld hC hX hbl hbA hb0 rfl (by omega) (by omega) 289 dL_law_288 rfl ?_
  refine jz_aload_n hC 0 290 dL_law_289 rfl rfl rfl ?_
  refine jz_iload_n hC 3 291 dL_law_290 rfl rfl rfl ?_
  refine jz_bipush hC (nI 6) 293 dL_law_291 rfl rfl ?_
  refine jz_iadd hC 294 dL_law_293 rfl ?_
  rw [nI_add]
  refine jz_sld hC hX hbl hbA hb0 rfl (by omega) (by omega) 295 dL_law_294 rfl ?_
  refine jz_P hC (d := 110) (As := [.int (xs (i + 1)), .int (xs (i + 2)), .int (xs (i + 3)), .int (xs (i + 4)), .int (xs (i + 5)), .int (xs (i + 6))]) ok_L_18 rfl rfl rfl (Nat.le_of_ble_eq_true rfl) (hR 110 (by decide)) 298 dL_law_295 rfl rfl (pp_feed (d := 90) h) (fun x σ1 h1 => ?_)
  refine jz_aload_n hC 2 299 dL_law_298 rfl rfl rfl ?_
  refine jz_aload_n hC 0 300 dL_law_299 rfl rfl rfl ?_
  refine jz_iload_n hC 3 301 dL_law_300 rfl rfl rfl ?_
  refine jz_iconst hC (nI 1) 302 dL_law_301 rfl rfl ?_
  refine jz_iadd hC 303 dL_law_302 rfl ?_
  rw [nI_add]
  refine jz_sld hC hX hbl hbA hb0 rfl (by omega) (by omega) 304 dL_law_303 rfl ?_
  refine jz_aload_n hC 0 305 dL_law_304 rfl rfl rfl ?_
  refine jz_iload_n hC 3 306 dL_law_305 rfl rfl rfl ?_
  refine jz_iconst hC (nI 2) 307 dL_law_306 rfl rfl ?_
  refine jz_iadd hC 308 dL_law_307 rfl ?_
  rw [nI_add]
  refine jz_sld hC hX hbl hbA hb0 rfl (by omega) (by omega) 309 dL_law_308 rfl ?_
  refine jz_aload_n hC 0 310 dL_law_309 rfl rfl rfl ?_
  refine jz_iload_n hC 3 311 dL_law_310 rfl rfl rfl ?_
  refine jz_iconst hC (nI 3) 312 dL_law_311 rfl rfl ?_
  refine jz_iadd hC 313 dL_law_312 rfl ?_
  rw [nI_add]
  refine jz_sld hC hX hbl hbA hb0 rfl (by omega) (by omega) 314 dL_law_313 rfl ?_
  refine jz_aload_n hC 0 315 dL_law_314 rfl rfl rfl ?_
  refine jz_iload_n hC 3 316 dL_law_315 rfl rfl rfl ?_
  refine jz_iconst hC (nI 4) 317 dL_law_316 rfl rfl ?_
  refine jz_iadd hC 318 dL_law_317 rfl ?_
  rw [nI_add]
  refine jz_sld hC hX hbl hbA hb0 rfl (by omega) (by omega) 319 dL_law_318 rfl ?_
  refine jz_aload_n hC 0 320 dL_law_319 rfl rfl rfl ?_
  refine jz_iload_n hC 3 321 dL_law_320 rfl rfl rfl ?_
  refine jz_iconst hC (nI 5) 322 dL_law_321 rfl rfl ?_
  refine jz_iadd hC 323 dL_law_322 rfl ?_
  rw [nI_add]
  refine jz_sld hC hX hbl hbA hb0 rfl (by omega) (by omega) 324 dL_law_323 rfl ?_
  refine jz_aload_n hC 0 325 dL_law_324 rfl rfl rfl ?_
  refine jz_iload_n hC 3 326 dL_law_325 rfl rfl rfl ?_
  refine jz_bipush hC (nI 6) 328 dL_law_326 rfl rfl ?_
  refine jz_iadd hC 329 dL_law_328 rfl ?_
  rw [nI_add]
  refine jz_sld hC hX hbl hbA hb0 rfl (by omega) (by omega) 330 dL_law_329 rfl ?_
  refine jz_Q hC (d := 110) (As := [.int (xs (i + 1)), .int (xs (i + 2)), .int (xs (i + 3)), .int (xs (i + 4)), .int (xs (i + 5)), .int (xs (i + 6))]) ok_L_22 rfl rfl (Nat.le_of_ble_eq_true rfl) (hR 110 (by decide)) 333 dL_law_330 rfl rfl h1 (fun σ2 h2 => ?_)
  refine jz_icmp_eq hC 1919 336 dL_law_333 rfl rfl (fun q333 => ?_) (fun q => absurd rfl q)
  exact next σ2 h2
theorem law_2 (hC : jz_C p s m args c A (jq_up G) mi_L_law) {b N i : Nat} {xs : Nat → Int32} (hX : va_X b N xs s s.heap) (hbl : b < s.heap.size) (hbA : ¬ A b) (hb0 : G.2.2 1400 = b) (hN : N ≤ 3584) (hi : i + 7 ≤ N) (hR : ∀ d, d ≤ 200 → d + 2 ≤ rm.frames ∧ 64 * (d + 2) ≤ rm.locals ∧ nc ≤ rm.cells ∧ ns ≤ rm.slots) (h : IV σ) (next : ∀ σ2 : jr_Sg, IV σ2 → jz_R p l e rm s m args below meth c A nc ns Q (jq_up G) mi_L_law 1919 [some (.ref 1400), some (.ref 0), some (.ref 46), some (.int (nI i))] [] σ2) : jz_R p l e rm s m args below meth c A nc ns Q (jq_up G) mi_L_law 338 [some (.ref 1400), some (.ref 0), some (.ref 46), some (.int (nI i))] [] σ := by
  refine jz_aload_n hC 1 339 dL_law_338 rfl rfl rfl ?_
  refine jz_P hC (d := 110) (As := []) ok_L_23 rfl rfl rfl (Nat.le_of_ble_eq_true rfl) (hR 110 (by decide)) 342 dL_law_339 rfl rfl (pp_text (d := 20) h) (fun x σ1 h1 => ?_)
  refine jz_aload_n hC 2 343 dL_law_342 rfl rfl rfl ?_
  refine jz_Q hC (d := 110) (As := []) ok_L_27 rfl rfl (Nat.le_of_ble_eq_true rfl) (hR 110 (by decide)) 346 dL_law_343 rfl rfl h1 (fun σ2 h2 => ?_)
  refine jz_icmp_eq hC 1919 349 dL_law_346 rfl rfl (fun q346 => ?_) (fun q => absurd rfl q)
  exact next σ2 h2
theorem law_3 (hC : jz_C p s m args c A (jq_up G) mi_L_law) {b N i : Nat} {xs : Nat → Int32} (hX : va_X b N xs s s.heap) (hbl : b < s.heap.size) (hbA : ¬ A b) (hb0 : G.2.2 1400 = b) (hN : N ≤ 3584) (hi : i + 7 ≤ N) (hR : ∀ d, d ≤ 200 → d + 2 ≤ rm.frames ∧ 64 * (d + 2) ≤ rm.locals ∧ nc ≤ rm.cells ∧ ns ≤ rm.slots) (h : IV σ) (next : ∀ σ2 : jr_Sg, IV σ2 → jz_R p l e rm s m args below meth c A nc ns Q (jq_up G) mi_L_law 1919 [some (.ref 1400), some (.ref 0), some (.ref 46), some (.int (nI i))] [] σ2) : jz_R p l e rm s m args below meth c A nc ns Q (jq_up G) mi_L_law 351 [some (.ref 1400), some (.ref 0), some (.ref 46), some (.int (nI i))] [] σ := by
  refine jz_aload_n hC 1 352 dL_law_351 rfl rfl rfl ?_
  refine jz_aload_n hC 0 353 dL_law_352 rfl rfl rfl ?_
  refine jz_iload_n hC 3 354 dL_law_353 rfl rfl rfl ?_
  refine jz_iconst hC (nI 1) 355 dL_law_354 rfl rfl ?_
  refine jz_iadd hC 356 dL_law_355 rfl ?_
  rw [nI_add]
  refine jz_sld hC hX hbl hbA hb0 rfl (by omega) (by omega) 357 dL_law_356 rfl ?_
  refine jz_P hC (d := 110) (As := [.int (xs (i + 1))]) ok_L_28 rfl rfl rfl (Nat.le_of_ble_eq_true rfl) (hR 110 (by decide)) 360 dL_law_357 rfl rfl (pp_force (d := 90) h) (fun x σ1 h1 => ?_)
  refine jz_aload_n hC 2 361 dL_law_360 rfl rfl rfl ?_
  refine jz_aload_n hC 0 362 dL_law_361 rfl rfl rfl ?_
  refine jz_iload_n hC 3 363 dL_law_362 rfl rfl rfl ?_
  refine jz_iconst hC (nI 1) 364 dL_law_363 rfl rfl ?_
  refine jz_iadd hC 365 dL_law_364 rfl ?_
  rw [nI_add]
  refine jz_sld hC hX hbl hbA hb0 rfl (by omega) (by omega) 366 dL_law_365 rfl ?_
  refine jz_Q hC (d := 110) (As := [.int (xs (i + 1))]) ok_L_31 rfl rfl (Nat.le_of_ble_eq_true rfl) (hR 110 (by decide)) 369 dL_law_366 rfl rfl h1 (fun σ2 h2 => ?_)
  refine jz_icmp_eq hC 1919 372 dL_law_369 rfl rfl (fun q369 => ?_) (fun q => absurd rfl q)
  exact next σ2 h2
theorem law_4 (hC : jz_C p s m args c A (jq_up G) mi_L_law) {b N i : Nat} {xs : Nat → Int32} (hX : va_X b N xs s s.heap) (hbl : b < s.heap.size) (hbA : ¬ A b) (hb0 : G.2.2 1400 = b) (hN : N ≤ 3584) (hi : i + 7 ≤ N) (hR : ∀ d, d ≤ 200 → d + 2 ≤ rm.frames ∧ 64 * (d + 2) ≤ rm.locals ∧ nc ≤ rm.cells ∧ ns ≤ rm.slots) (h : IV σ) (next : ∀ σ2 : jr_Sg, IV σ2 → jz_R p l e rm s m args below meth c A nc ns Q (jq_up G) mi_L_law 1919 [some (.ref 1400), some (.ref 0), some (.ref 46), some (.int (nI i))] [] σ2) : jz_R p l e rm s m args below meth c A nc ns Q (jq_up G) mi_L_law 374 [some (.ref 1400), some (.ref 0), some (.ref 46), some (.int (nI i))] [] σ := by
  refine jz_aload_n hC 1 375 dL_law_374 rfl rfl rfl ?_
  refine jz_aload_n hC 0 376 dL_law_375 rfl rfl rfl ?_
  refine jz_iload_n hC 3 377 dL_law_376 rfl rfl rfl ?_
  refine jz_iconst hC (nI 1) 378 dL_law_377 rfl rfl ?_
  refine jz_iadd hC 379 dL_law_378 rfl ?_
  rw [nI_add]
  refine jz_sld hC hX hbl hbA hb0 rfl (by omega) (by omega) 380 dL_law_379 rfl ?_
  refine jz_aload_n hC 0 381 dL_law_380 rfl rfl rfl ?_
  refine jz_iload_n hC 3 382 dL_law_381 rfl rfl rfl ?_
  refine jz_iconst hC (nI 2) 383 dL_law_382 rfl rfl ?_
  refine jz_iadd hC 384 dL_law_383 rfl ?_
  rw [nI_add]
  refine jz_sld hC hX hbl hbA hb0 rfl (by omega) (by omega) 385 dL_law_384 rfl ?_
  refine jz_aload_n hC 0 386 dL_law_385 rfl rfl rfl ?_
  refine jz_iload_n hC 3 387 dL_law_386 rfl rfl rfl ?_
  refine jz_iconst hC (nI 3) 388 dL_law_387 rfl rfl ?_
  refine jz_iadd hC 389 dL_law_388 rfl ?_
  rw [nI_add]
  refine jz_sld hC hX hbl hbA hb0 rfl (by omega) (by omega) 390 dL_law_389 rfl ?_
  refine jz_aload_n hC 0 391 dL_law_390 rfl rfl rfl ?_
  refine jz_iload_n hC 3 392 dL_law_391 rfl rfl rfl ?_
  refine jz_iconst hC (nI 4) 393 dL_law_392 rfl rfl ?_
  refine jz_iadd hC 394 dL_law_393 rfl ?_
  rw [nI_add]
  refine jz_sld hC hX hbl hbA hb0 rfl (by omega) (by omega) 395 dL_law_394 rfl ?_
  refine jz_aload_n hC 0 396 dL_law_395 rfl rfl rfl ?_
  refine jz_iload_n hC 3 397 dL_law_396 rfl rfl rfl ?_
  refine jz_iconst hC (nI 5) 398 dL_law_397 rfl rfl ?_
  refine jz_iadd hC 399 dL_law_398 rfl ?_
  rw [nI_add]
  refine jz_sld hC hX hbl hbA hb0 rfl (by omega) (by omega) 400 dL_law_399 rfl ?_
  refine jz_P hC (d := 110) (As := [.int (xs (i + 1)), .int (xs (i + 2)), .int (xs (i + 3)), .int (xs (i + 4)), .int (xs (i + 5))]) ok_L_32 rfl rfl rfl (Nat.le_of_ble_eq_true rfl) (hR 110 (by decide)) 403 dL_law_400 rfl rfl (pp_asks (d := 90) h) (fun x σ1 h1 => ?_)
  refine jz_aload_n hC 2 404 dL_law_403 rfl rfl rfl ?_
  refine jz_aload_n hC 0 405 dL_law_404 rfl rfl rfl ?_
  refine jz_iload_n hC 3 406 dL_law_405 rfl rfl rfl ?_
  refine jz_iconst hC (nI 1) 407 dL_law_406 rfl rfl ?_
  refine jz_iadd hC 408 dL_law_407 rfl ?_
  rw [nI_add]
  refine jz_sld hC hX hbl hbA hb0 rfl (by omega) (by omega) 409 dL_law_408 rfl ?_
  refine jz_aload_n hC 0 410 dL_law_409 rfl rfl rfl ?_
  refine jz_iload_n hC 3 411 dL_law_410 rfl rfl rfl ?_
  refine jz_iconst hC (nI 2) 412 dL_law_411 rfl rfl ?_
  refine jz_iadd hC 413 dL_law_412 rfl ?_
  rw [nI_add]
  refine jz_sld hC hX hbl hbA hb0 rfl (by omega) (by omega) 414 dL_law_413 rfl ?_
  refine jz_aload_n hC 0 415 dL_law_414 rfl rfl rfl ?_
  refine jz_iload_n hC 3 416 dL_law_415 rfl rfl rfl ?_
  refine jz_iconst hC (nI 3) 417 dL_law_416 rfl rfl ?_
  refine jz_iadd hC 418 dL_law_417 rfl ?_
  rw [nI_add]
  refine jz_sld hC hX hbl hbA hb0 rfl (by omega) (by omega) 419 dL_law_418 rfl ?_
  refine jz_aload_n hC 0 420 dL_law_419 rfl rfl rfl ?_
  refine jz_iload_n hC 3 421 dL_law_420 rfl rfl rfl ?_
  refine jz_iconst hC (nI 4) 422 dL_law_421 rfl rfl ?_
  refine jz_iadd hC 423 dL_law_422 rfl ?_
  rw [nI_add]
  refine jz_sld hC hX hbl hbA hb0 rfl (by omega) (by omega) 424 dL_law_423 rfl ?_
  refine jz_aload_n hC 0 425 dL_law_424 rfl rfl rfl ?_
  refine jz_iload_n hC 3 426 dL_law_425 rfl rfl rfl ?_
  refine jz_iconst hC (nI 5) 427 dL_law_426 rfl rfl ?_
  refine jz_iadd hC 428 dL_law_427 rfl ?_
  rw [nI_add]
  refine jz_sld hC hX hbl hbA hb0 rfl (by omega) (by omega) 429 dL_law_428 rfl ?_
  refine jz_Q hC (d := 110) (As := [.int (xs (i + 1)), .int (xs (i + 2)), .int (xs (i + 3)), .int (xs (i + 4)), .int (xs (i + 5))]) ok_L_36 rfl rfl (Nat.le_of_ble_eq_true rfl) (hR 110 (by decide)) 432 dL_law_429 rfl rfl h1 (fun σ2 h2 => ?_)
  refine jz_icmp_eq hC 1919 435 dL_law_432 rfl rfl (fun q432 => ?_) (fun q => absurd rfl q)
  exact next σ2 h2
theorem law_5 (hC : jz_C p s m args c A (jq_up G) mi_L_law) {b N i : Nat} {xs : Nat → Int32} (hX : va_X b N xs s s.heap) (hbl : b < s.heap.size) (hbA : ¬ A b) (hb0 : G.2.2 1400 = b) (hN : N ≤ 3584) (hi : i + 7 ≤ N) (hR : ∀ d, d ≤ 200 → d + 2 ≤ rm.frames ∧ 64 * (d + 2) ≤ rm.locals ∧ nc ≤ rm.cells ∧ ns ≤ rm.slots) (h : IV σ) (next : ∀ σ2 : jr_Sg, IV σ2 → jz_R p l e rm s m args below meth c A nc ns Q (jq_up G) mi_L_law 1919 [some (.ref 1400), some (.ref 0), some (.ref 46), some (.int (nI i))] [] σ2) : jz_R p l e rm s m args below meth c A nc ns Q (jq_up G) mi_L_law 437 [some (.ref 1400), some (.ref 0), some (.ref 46), some (.int (nI i))] [] σ := by
  refine jz_aload_n hC 1 438 dL_law_437 rfl rfl rfl ?_
  refine jz_aload_n hC 0 439 dL_law_438 rfl rfl rfl ?_
  refine jz_iload_n hC 3 440 dL_law_439 rfl rfl rfl ?_
  refine jz_iconst hC (nI 1) 441 dL_law_440 rfl rfl ?_
  refine jz_iadd hC 442 dL_law_441 rfl ?_
  rw [nI_add]
  refine jz_sld hC hX hbl hbA hb0 rfl (by omega) (by omega) 443 dL_law_442 rfl ?_
  refine jz_aload_n hC 0 444 dL_law_443 rfl rfl rfl ?_
  refine jz_iload_n hC 3 445 dL_law_444 rfl rfl rfl ?_
  refine jz_iconst hC (nI 2) 446 dL_law_445 rfl rfl ?_
  refine jz_iadd hC 447 dL_law_446 rfl ?_
  rw [nI_add]
  refine jz_sld hC hX hbl hbA hb0 rfl (by omega) (by omega) 448 dL_law_447 rfl ?_
  refine jz_aload_n hC 0 449 dL_law_448 rfl rfl rfl ?_
  refine jz_iload_n hC 3 450 dL_law_449 rfl rfl rfl ?_
  refine jz_iconst hC (nI 3) 451 dL_law_450 rfl rfl ?_
  refine jz_iadd hC 452 dL_law_451 rfl ?_
  rw [nI_add]
  refine jz_sld hC hX hbl hbA hb0 rfl (by omega) (by omega) 453 dL_law_452 rfl ?_
  refine jz_P hC (d := 110) (As := [.int (xs (i + 1)), .int (xs (i + 2)), .int (xs (i + 3))]) ok_L_37 rfl rfl rfl (Nat.le_of_ble_eq_true rfl) (hR 110 (by decide)) 456 dL_law_453 rfl rfl (pp_face (d := 90) h) (fun x σ1 h1 => ?_)
  refine jz_aload_n hC 2 457 dL_law_456 rfl rfl rfl ?_
  refine jz_aload_n hC 0 458 dL_law_457 rfl rfl rfl ?_
  refine jz_iload_n hC 3 459 dL_law_458 rfl rfl rfl ?_
  refine jz_iconst hC (nI 1) 460 dL_law_459 rfl rfl ?_
  refine jz_iadd hC 461 dL_law_460 rfl ?_
  rw [nI_add]
  refine jz_sld hC hX hbl hbA hb0 rfl (by omega) (by omega) 462 dL_law_461 rfl ?_
  refine jz_aload_n hC 0 463 dL_law_462 rfl rfl rfl ?_
  refine jz_iload_n hC 3 464 dL_law_463 rfl rfl rfl ?_
  refine jz_iconst hC (nI 2) 465 dL_law_464 rfl rfl ?_
  refine jz_iadd hC 466 dL_law_465 rfl ?_
  rw [nI_add]
  refine jz_sld hC hX hbl hbA hb0 rfl (by omega) (by omega) 467 dL_law_466 rfl ?_
  refine jz_aload_n hC 0 468 dL_law_467 rfl rfl rfl ?_
  refine jz_iload_n hC 3 469 dL_law_468 rfl rfl rfl ?_
  refine jz_iconst hC (nI 3) 470 dL_law_469 rfl rfl ?_
  refine jz_iadd hC 471 dL_law_470 rfl ?_
  rw [nI_add]
  refine jz_sld hC hX hbl hbA hb0 rfl (by omega) (by omega) 472 dL_law_471 rfl ?_
  refine jz_Q hC (d := 110) (As := [.int (xs (i + 1)), .int (xs (i + 2)), .int (xs (i + 3))]) ok_L_41 rfl rfl (Nat.le_of_ble_eq_true rfl) (hR 110 (by decide)) 475 dL_law_472 rfl rfl h1 (fun σ2 h2 => ?_)
  refine jz_icmp_eq hC 1919 478 dL_law_475 rfl rfl (fun q475 => ?_) (fun q => absurd rfl q)
  exact next σ2 h2
theorem law_6 (hC : jz_C p s m args c A (jq_up G) mi_L_law) {b N i : Nat} {xs : Nat → Int32} (hX : va_X b N xs s s.heap) (hbl : b < s.heap.size) (hbA : ¬ A b) (hb0 : G.2.2 1400 = b) (hN : N ≤ 3584) (hi : i + 7 ≤ N) (hR : ∀ d, d ≤ 200 → d + 2 ≤ rm.frames ∧ 64 * (d + 2) ≤ rm.locals ∧ nc ≤ rm.cells ∧ ns ≤ rm.slots) (h : IV σ) (next : ∀ σ2 : jr_Sg, IV σ2 → jz_R p l e rm s m args below meth c A nc ns Q (jq_up G) mi_L_law 1919 [some (.ref 1400), some (.ref 0), some (.ref 46), some (.int (nI i))] [] σ2) : jz_R p l e rm s m args below meth c A nc ns Q (jq_up G) mi_L_law 480 [some (.ref 1400), some (.ref 0), some (.ref 46), some (.int (nI i))] [] σ := by
  refine jz_aload_n hC 1 481 dL_law_480 rfl rfl rfl ?_
  refine jz_aload_n hC 0 482 dL_law_481 rfl rfl rfl ?_
  refine jz_iload_n hC 3 483 dL_law_482 rfl rfl rfl ?_
  refine jz_iconst hC (nI 1) 484 dL_law_483 rfl rfl ?_
  refine jz_iadd hC 485 dL_law_484 rfl ?_
  rw [nI_add]
  refine jz_sld hC hX hbl hbA hb0 rfl (by omega) (by omega) 486 dL_law_485 rfl ?_
  refine jz_aload_n hC 0 487 dL_law_486 rfl rfl rfl ?_
  refine jz_iload_n hC 3 488 dL_law_487 rfl rfl rfl ?_
  refine jz_iconst hC (nI 2) 489 dL_law_488 rfl rfl ?_
  refine jz_iadd hC 490 dL_law_489 rfl ?_
  rw [nI_add]
  refine jz_sld hC hX hbl hbA hb0 rfl (by omega) (by omega) 491 dL_law_490 rfl ?_
  refine jz_P hC (d := 110) (As := [.int (xs (i + 1)), .int (xs (i + 2))]) ok_L_42 rfl rfl rfl (Nat.le_of_ble_eq_true rfl) (hR 110 (by decide)) 494 dL_law_491 rfl rfl (pp_warm (d := 90) h) (fun x σ1 h1 => ?_)
  refine jz_aload_n hC 2 495 dL_law_494 rfl rfl rfl ?_
  refine jz_aload_n hC 0 496 dL_law_495 rfl rfl rfl ?_
  refine jz_iload_n hC 3 497 dL_law_496 rfl rfl rfl ?_
  refine jz_iconst hC (nI 1) 498 dL_law_497 rfl rfl ?_
  refine jz_iadd hC 499 dL_law_498 rfl ?_
  rw [nI_add]
  refine jz_sld hC hX hbl hbA hb0 rfl (by omega) (by omega) 500 dL_law_499 rfl ?_
  refine jz_aload_n hC 0 501 dL_law_500 rfl rfl rfl ?_
  refine jz_iload_n hC 3 502 dL_law_501 rfl rfl rfl ?_
  refine jz_iconst hC (nI 2) 503 dL_law_502 rfl rfl ?_
  refine jz_iadd hC 504 dL_law_503 rfl ?_
  rw [nI_add]
  refine jz_sld hC hX hbl hbA hb0 rfl (by omega) (by omega) 505 dL_law_504 rfl ?_
  refine jz_Q hC (d := 110) (As := [.int (xs (i + 1)), .int (xs (i + 2))]) ok_L_46 rfl rfl (Nat.le_of_ble_eq_true rfl) (hR 110 (by decide)) 508 dL_law_505 rfl rfl h1 (fun σ2 h2 => ?_)
  refine jz_icmp_eq hC 1919 511 dL_law_508 rfl rfl (fun q508 => ?_) (fun q => absurd rfl q)
  exact next σ2 h2
theorem law_7 (hC : jz_C p s m args c A (jq_up G) mi_L_law) {b N i : Nat} {xs : Nat → Int32} (hX : va_X b N xs s s.heap) (hbl : b < s.heap.size) (hbA : ¬ A b) (hb0 : G.2.2 1400 = b) (hN : N ≤ 3584) (hi : i + 7 ≤ N) (hR : ∀ d, d ≤ 200 → d + 2 ≤ rm.frames ∧ 64 * (d + 2) ≤ rm.locals ∧ nc ≤ rm.cells ∧ ns ≤ rm.slots) (h : IV σ) (next : ∀ σ2 : jr_Sg, IV σ2 → jz_R p l e rm s m args below meth c A nc ns Q (jq_up G) mi_L_law 1919 [some (.ref 1400), some (.ref 0), some (.ref 46), some (.int (nI i))] [] σ2) : jz_R p l e rm s m args below meth c A nc ns Q (jq_up G) mi_L_law 513 [some (.ref 1400), some (.ref 0), some (.ref 46), some (.int (nI i))] [] σ := by
  refine jz_aload_n hC 1 514 dL_law_513 rfl rfl rfl ?_
  refine jz_aload_n hC 0 515 dL_law_514 rfl rfl rfl ?_
  refine jz_iload_n hC 3 516 dL_law_515 rfl rfl rfl ?_
  refine jz_iconst hC (nI 1) 517 dL_law_516 rfl rfl ?_
  refine jz_iadd hC 518 dL_law_517 rfl ?_
  rw [nI_add]
  refine jz_sld hC hX hbl hbA hb0 rfl (by omega) (by omega) 519 dL_law_518 rfl ?_
  refine jz_aload_n hC 0 520 dL_law_519 rfl rfl rfl ?_
  refine jz_iload_n hC 3 521 dL_law_520 rfl rfl rfl ?_
  refine jz_iconst hC (nI 2) 522 dL_law_521 rfl rfl ?_
  refine jz_iadd hC 523 dL_law_522 rfl ?_
  rw [nI_add]
  refine jz_sld hC hX hbl hbA hb0 rfl (by omega) (by omega) 524 dL_law_523 rfl ?_
  refine jz_P hC (d := 110) (As := [.int (xs (i + 1)), .int (xs (i + 2))]) ok_L_47 rfl rfl rfl (Nat.le_of_ble_eq_true rfl) (hR 110 (by decide)) 527 dL_law_524 rfl rfl (pp_sit (d := 90) h) (fun x σ1 h1 => ?_)
  refine jz_aload_n hC 2 528 dL_law_527 rfl rfl rfl ?_
  refine jz_aload_n hC 0 529 dL_law_528 rfl rfl rfl ?_
  refine jz_iload_n hC 3 530 dL_law_529 rfl rfl rfl ?_
  refine jz_iconst hC (nI 1) 531 dL_law_530 rfl rfl ?_
  refine jz_iadd hC 532 dL_law_531 rfl ?_
  rw [nI_add]
  refine jz_sld hC hX hbl hbA hb0 rfl (by omega) (by omega) 533 dL_law_532 rfl ?_
  refine jz_aload_n hC 0 534 dL_law_533 rfl rfl rfl ?_
  refine jz_iload_n hC 3 535 dL_law_534 rfl rfl rfl ?_
  refine jz_iconst hC (nI 2) 536 dL_law_535 rfl rfl ?_
  refine jz_iadd hC 537 dL_law_536 rfl ?_
  rw [nI_add]
  refine jz_sld hC hX hbl hbA hb0 rfl (by omega) (by omega) 538 dL_law_537 rfl ?_
  refine jz_Q hC (d := 110) (As := [.int (xs (i + 1)), .int (xs (i + 2))]) ok_L_50 rfl rfl (Nat.le_of_ble_eq_true rfl) (hR 110 (by decide)) 541 dL_law_538 rfl rfl h1 (fun σ2 h2 => ?_)
  refine jz_icmp_eq hC 1919 544 dL_law_541 rfl rfl (fun q541 => ?_) (fun q => absurd rfl q)
  exact next σ2 h2
theorem law_8 (hC : jz_C p s m args c A (jq_up G) mi_L_law) {b N i : Nat} {xs : Nat → Int32} (hX : va_X b N xs s s.heap) (hbl : b < s.heap.size) (hbA : ¬ A b) (hb0 : G.2.2 1400 = b) (hN : N ≤ 3584) (hi : i + 7 ≤ N) (hR : ∀ d, d ≤ 200 → d + 2 ≤ rm.frames ∧ 64 * (d + 2) ≤ rm.locals ∧ nc ≤ rm.cells ∧ ns ≤ rm.slots) (h : IV σ) (next : ∀ σ2 : jr_Sg, IV σ2 → jz_R p l e rm s m args below meth c A nc ns Q (jq_up G) mi_L_law 1919 [some (.ref 1400), some (.ref 0), some (.ref 46), some (.int (nI i))] [] σ2) : jz_R p l e rm s m args below meth c A nc ns Q (jq_up G) mi_L_law 546 [some (.ref 1400), some (.ref 0), some (.ref 46), some (.int (nI i))] [] σ := by
  refine jz_aload_n hC 1 547 dL_law_546 rfl rfl rfl ?_
  refine jz_aload_n hC 0 548 dL_law_547 rfl rfl rfl ?_
  refine jz_iload_n hC 3 549 dL_law_548 rfl rfl rfl ?_
  refine jz_iconst hC (nI 1) 550 dL_law_549 rfl rfl ?_
  refine jz_iadd hC 551 dL_law_550 rfl ?_
  rw [nI_add]
  refine jz_sld hC hX hbl hbA hb0 rfl (by omega) (by omega) 552 dL_law_551 rfl ?_
  refine jz_aload_n hC 0 553 dL_law_552 rfl rfl rfl ?_
  refine jz_iload_n hC 3 554 dL_law_553 rfl rfl rfl ?_
  refine jz_iconst hC (nI 2) 555 dL_law_554 rfl rfl ?_
  refine jz_iadd hC 556 dL_law_555 rfl ?_
  rw [nI_add]
  refine jz_sld hC hX hbl hbA hb0 rfl (by omega) (by omega) 557 dL_law_556 rfl ?_
  refine jz_P hC (d := 110) (As := [.int (xs (i + 1)), .int (xs (i + 2))]) ok_L_51 rfl rfl rfl (Nat.le_of_ble_eq_true rfl) (hR 110 (by decide)) 560 dL_law_557 rfl rfl (pp_lamp (d := 90) h) (fun x σ1 h1 => ?_)
  refine jz_aload_n hC 2 561 dL_law_560 rfl rfl rfl ?_
  refine jz_aload_n hC 0 562 dL_law_561 rfl rfl rfl ?_
  refine jz_iload_n hC 3 563 dL_law_562 rfl rfl rfl ?_
  refine jz_iconst hC (nI 1) 564 dL_law_563 rfl rfl ?_
  refine jz_iadd hC 565 dL_law_564 rfl ?_
  rw [nI_add]
  refine jz_sld hC hX hbl hbA hb0 rfl (by omega) (by omega) 566 dL_law_565 rfl ?_
  refine jz_aload_n hC 0 567 dL_law_566 rfl rfl rfl ?_
  refine jz_iload_n hC 3 568 dL_law_567 rfl rfl rfl ?_
  refine jz_iconst hC (nI 2) 569 dL_law_568 rfl rfl ?_
  refine jz_iadd hC 570 dL_law_569 rfl ?_
  rw [nI_add]
  refine jz_sld hC hX hbl hbA hb0 rfl (by omega) (by omega) 571 dL_law_570 rfl ?_
  refine jz_Q hC (d := 110) (As := [.int (xs (i + 1)), .int (xs (i + 2))]) ok_L_54 rfl rfl (Nat.le_of_ble_eq_true rfl) (hR 110 (by decide)) 574 dL_law_571 rfl rfl h1 (fun σ2 h2 => ?_)
  refine jz_icmp_eq hC 1919 577 dL_law_574 rfl rfl (fun q574 => ?_) (fun q => absurd rfl q)
  exact next σ2 h2
theorem law_9 (hC : jz_C p s m args c A (jq_up G) mi_L_law) {b N i : Nat} {xs : Nat → Int32} (hX : va_X b N xs s s.heap) (hbl : b < s.heap.size) (hbA : ¬ A b) (hb0 : G.2.2 1400 = b) (hN : N ≤ 3584) (hi : i + 7 ≤ N) (hR : ∀ d, d ≤ 200 → d + 2 ≤ rm.frames ∧ 64 * (d + 2) ≤ rm.locals ∧ nc ≤ rm.cells ∧ ns ≤ rm.slots) (h : IV σ) (next : ∀ σ2 : jr_Sg, IV σ2 → jz_R p l e rm s m args below meth c A nc ns Q (jq_up G) mi_L_law 1919 [some (.ref 1400), some (.ref 0), some (.ref 46), some (.int (nI i))] [] σ2) : jz_R p l e rm s m args below meth c A nc ns Q (jq_up G) mi_L_law 579 [some (.ref 1400), some (.ref 0), some (.ref 46), some (.int (nI i))] [] σ := by
  refine jz_aload_n hC 1 580 dL_law_579 rfl rfl rfl ?_
  refine jz_aload_n hC 0 581 dL_law_580 rfl rfl rfl ?_
  refine jz_iload_n hC 3 582 dL_law_581 rfl rfl rfl ?_
  refine jz_iconst hC (nI 1) 583 dL_law_582 rfl rfl ?_
  refine jz_iadd hC 584 dL_law_583 rfl ?_
  rw [nI_add]
  refine jz_sld hC hX hbl hbA hb0 rfl (by omega) (by omega) 585 dL_law_584 rfl ?_
  refine jz_aload_n hC 0 586 dL_law_585 rfl rfl rfl ?_
  refine jz_iload_n hC 3 587 dL_law_586 rfl rfl rfl ?_
  refine jz_iconst hC (nI 2) 588 dL_law_587 rfl rfl ?_
  refine jz_iadd hC 589 dL_law_588 rfl ?_
  rw [nI_add]
  refine jz_sld hC hX hbl hbA hb0 rfl (by omega) (by omega) 590 dL_law_589 rfl ?_
  refine jz_P hC (d := 110) (As := [.int (xs (i + 1)), .int (xs (i + 2))]) ok_L_55 rfl rfl rfl (Nat.le_of_ble_eq_true rfl) (hR 110 (by decide)) 593 dL_law_590 rfl rfl (pp_told (d := 90) h) (fun x σ1 h1 => ?_)
  refine jz_aload_n hC 2 594 dL_law_593 rfl rfl rfl ?_
  refine jz_aload_n hC 0 595 dL_law_594 rfl rfl rfl ?_
  refine jz_iload_n hC 3 596 dL_law_595 rfl rfl rfl ?_
  refine jz_iconst hC (nI 1) 597 dL_law_596 rfl rfl ?_
  refine jz_iadd hC 598 dL_law_597 rfl ?_
  rw [nI_add]
  refine jz_sld hC hX hbl hbA hb0 rfl (by omega) (by omega) 599 dL_law_598 rfl ?_
  refine jz_aload_n hC 0 600 dL_law_599 rfl rfl rfl ?_
  refine jz_iload_n hC 3 601 dL_law_600 rfl rfl rfl ?_
  refine jz_iconst hC (nI 2) 602 dL_law_601 rfl rfl ?_
  refine jz_iadd hC 603 dL_law_602 rfl ?_
  rw [nI_add]
  refine jz_sld hC hX hbl hbA hb0 rfl (by omega) (by omega) 604 dL_law_603 rfl ?_
  refine jz_Q hC (d := 110) (As := [.int (xs (i + 1)), .int (xs (i + 2))]) ok_L_58 rfl rfl (Nat.le_of_ble_eq_true rfl) (hR 110 (by decide)) 607 dL_law_604 rfl rfl h1 (fun σ2 h2 => ?_)
  refine jz_icmp_eq hC 1919 610 dL_law_607 rfl rfl (fun q607 => ?_) (fun q => absurd rfl q)
  exact next σ2 h2
theorem law_10 (hC : jz_C p s m args c A (jq_up G) mi_L_law) {b N i : Nat} {xs : Nat → Int32} (hX : va_X b N xs s s.heap) (hbl : b < s.heap.size) (hbA : ¬ A b) (hb0 : G.2.2 1400 = b) (hN : N ≤ 3584) (hi : i + 7 ≤ N) (hR : ∀ d, d ≤ 200 → d + 2 ≤ rm.frames ∧ 64 * (d + 2) ≤ rm.locals ∧ nc ≤ rm.cells ∧ ns ≤ rm.slots) (h : IV σ) (next : ∀ σ2 : jr_Sg, IV σ2 → jz_R p l e rm s m args below meth c A nc ns Q (jq_up G) mi_L_law 1919 [some (.ref 1400), some (.ref 0), some (.ref 46), some (.int (nI i))] [] σ2) : jz_R p l e rm s m args below meth c A nc ns Q (jq_up G) mi_L_law 612 [some (.ref 1400), some (.ref 0), some (.ref 46), some (.int (nI i))] [] σ := by
  refine jz_aload_n hC 1 613 dL_law_612 rfl rfl rfl ?_
  refine jz_aload_n hC 0 614 dL_law_613 rfl rfl rfl ?_
  refine jz_iload_n hC 3 615 dL_law_614 rfl rfl rfl ?_
  refine jz_iconst hC (nI 1) 616 dL_law_615 rfl rfl ?_
  refine jz_iadd hC 617 dL_law_616 rfl ?_
  rw [nI_add]
  refine jz_sld hC hX hbl hbA hb0 rfl (by omega) (by omega) 618 dL_law_617 rfl ?_
  refine jz_aload_n hC 0 619 dL_law_618 rfl rfl rfl ?_
  refine jz_iload_n hC 3 620 dL_law_619 rfl rfl rfl ?_
  refine jz_iconst hC (nI 2) 621 dL_law_620 rfl rfl ?_
  refine jz_iadd hC 622 dL_law_621 rfl ?_
  rw [nI_add]
  refine jz_sld hC hX hbl hbA hb0 rfl (by omega) (by omega) 623 dL_law_622 rfl ?_
  refine jz_aload_n hC 0 624 dL_law_623 rfl rfl rfl ?_
  refine jz_iload_n hC 3 625 dL_law_624 rfl rfl rfl ?_
  refine jz_iconst hC (nI 3) 626 dL_law_625 rfl rfl ?_
  refine jz_iadd hC 627 dL_law_626 rfl ?_
  rw [nI_add]
  refine jz_sld hC hX hbl hbA hb0 rfl (by omega) (by omega) 628 dL_law_627 rfl ?_
  refine jz_P hC (d := 110) (As := [.int (xs (i + 1)), .int (xs (i + 2)), .int (xs (i + 3))]) ok_L_59 rfl rfl rfl (Nat.le_of_ble_eq_true rfl) (hR 110 (by decide)) 631 dL_law_628 rfl rfl (pp_cause (d := 90) h) (fun x σ1 h1 => ?_)
  refine jz_aload_n hC 2 632 dL_law_631 rfl rfl rfl ?_
  refine jz_aload_n hC 0 633 dL_law_632 rfl rfl rfl ?_
  refine jz_iload_n hC 3 634 dL_law_633 rfl rfl rfl ?_
  refine jz_iconst hC (nI 1) 635 dL_law_634 rfl rfl ?_
  refine jz_iadd hC 636 dL_law_635 rfl ?_
  rw [nI_add]
  refine jz_sld hC hX hbl hbA hb0 rfl (by omega) (by omega) 637 dL_law_636 rfl ?_
  refine jz_aload_n hC 0 638 dL_law_637 rfl rfl rfl ?_
  refine jz_iload_n hC 3 639 dL_law_638 rfl rfl rfl ?_
  refine jz_iconst hC (nI 2) 640 dL_law_639 rfl rfl ?_
  refine jz_iadd hC 641 dL_law_640 rfl ?_
  rw [nI_add]
  refine jz_sld hC hX hbl hbA hb0 rfl (by omega) (by omega) 642 dL_law_641 rfl ?_
  refine jz_aload_n hC 0 643 dL_law_642 rfl rfl rfl ?_
  refine jz_iload_n hC 3 644 dL_law_643 rfl rfl rfl ?_
  refine jz_iconst hC (nI 3) 645 dL_law_644 rfl rfl ?_
  refine jz_iadd hC 646 dL_law_645 rfl ?_
  rw [nI_add]
  refine jz_sld hC hX hbl hbA hb0 rfl (by omega) (by omega) 647 dL_law_646 rfl ?_
  refine jz_Q hC (d := 110) (As := [.int (xs (i + 1)), .int (xs (i + 2)), .int (xs (i + 3))]) ok_L_62 rfl rfl (Nat.le_of_ble_eq_true rfl) (hR 110 (by decide)) 650 dL_law_647 rfl rfl h1 (fun σ2 h2 => ?_)
  refine jz_icmp_eq hC 1919 653 dL_law_650 rfl rfl (fun q650 => ?_) (fun q => absurd rfl q)
  exact next σ2 h2
theorem law_11 (hC : jz_C p s m args c A (jq_up G) mi_L_law) {b N i : Nat} {xs : Nat → Int32} (hX : va_X b N xs s s.heap) (hbl : b < s.heap.size) (hbA : ¬ A b) (hb0 : G.2.2 1400 = b) (hN : N ≤ 3584) (hi : i + 7 ≤ N) (hR : ∀ d, d ≤ 200 → d + 2 ≤ rm.frames ∧ 64 * (d + 2) ≤ rm.locals ∧ nc ≤ rm.cells ∧ ns ≤ rm.slots) (h : IV σ) (next : ∀ σ2 : jr_Sg, IV σ2 → jz_R p l e rm s m args below meth c A nc ns Q (jq_up G) mi_L_law 1919 [some (.ref 1400), some (.ref 0), some (.ref 46), some (.int (nI i))] [] σ2) : jz_R p l e rm s m args below meth c A nc ns Q (jq_up G) mi_L_law 655 [some (.ref 1400), some (.ref 0), some (.ref 46), some (.int (nI i))] [] σ := by
  refine jz_aload_n hC 1 656 dL_law_655 rfl rfl rfl ?_
  refine jz_P hC (d := 110) (As := []) ok_L_63 rfl rfl rfl (Nat.le_of_ble_eq_true rfl) (hR 110 (by decide)) 659 dL_law_656 rfl rfl (pp_uncause (d := 90) h) (fun x σ1 h1 => ?_)
  refine jz_aload_n hC 2 660 dL_law_659 rfl rfl rfl ?_
  refine jz_Q hC (d := 110) (As := []) ok_L_66 rfl rfl (Nat.le_of_ble_eq_true rfl) (hR 110 (by decide)) 663 dL_law_660 rfl rfl h1 (fun σ2 h2 => ?_)
  refine jz_icmp_eq hC 1919 666 dL_law_663 rfl rfl (fun q663 => ?_) (fun q => absurd rfl q)
  exact next σ2 h2
theorem law_12 (hC : jz_C p s m args c A (jq_up G) mi_L_law) {b N i : Nat} {xs : Nat → Int32} (hX : va_X b N xs s s.heap) (hbl : b < s.heap.size) (hbA : ¬ A b) (hb0 : G.2.2 1400 = b) (hN : N ≤ 3584) (hi : i + 7 ≤ N) (hR : ∀ d, d ≤ 200 → d + 2 ≤ rm.frames ∧ 64 * (d + 2) ≤ rm.locals ∧ nc ≤ rm.cells ∧ ns ≤ rm.slots) (h : IV σ) (next : ∀ σ2 : jr_Sg, IV σ2 → jz_R p l e rm s m args below meth c A nc ns Q (jq_up G) mi_L_law 1919 [some (.ref 1400), some (.ref 0), some (.ref 46), some (.int (nI i))] [] σ2) : jz_R p l e rm s m args below meth c A nc ns Q (jq_up G) mi_L_law 668 [some (.ref 1400), some (.ref 0), some (.ref 46), some (.int (nI i))] [] σ := by
  refine jz_aload_n hC 1 669 dL_law_668 rfl rfl rfl ?_
  refine jz_aload_n hC 0 670 dL_law_669 rfl rfl rfl ?_
  refine jz_iload_n hC 3 671 dL_law_670 rfl rfl rfl ?_
  refine jz_iconst hC (nI 1) 672 dL_law_671 rfl rfl ?_
  refine jz_iadd hC 673 dL_law_672 rfl ?_
  rw [nI_add]
  refine jz_sld hC hX hbl hbA hb0 rfl (by omega) (by omega) 674 dL_law_673 rfl ?_
  refine jz_aload_n hC 0 675 dL_law_674 rfl rfl rfl ?_
  refine jz_iload_n hC 3 676 dL_law_675 rfl rfl rfl ?_
  refine jz_iconst hC (nI 2) 677 dL_law_676 rfl rfl ?_
  refine jz_iadd hC 678 dL_law_677 rfl ?_
  rw [nI_add]
  refine jz_sld hC hX hbl hbA hb0 rfl (by omega) (by omega) 679 dL_law_678 rfl ?_
  refine jz_P hC (d := 110) (As := [.int (xs (i + 1)), .int (xs (i + 2))]) ok_L_67 rfl rfl rfl (Nat.le_of_ble_eq_true rfl) (hR 110 (by decide)) 682 dL_law_679 rfl rfl (pp_causeTold (d := 90) h) (fun x σ1 h1 => ?_)
  refine jz_aload_n hC 2 683 dL_law_682 rfl rfl rfl ?_
  refine jz_aload_n hC 0 684 dL_law_683 rfl rfl rfl ?_
  refine jz_iload_n hC 3 685 dL_law_684 rfl rfl rfl ?_
  refine jz_iconst hC (nI 1) 686 dL_law_685 rfl rfl ?_
  refine jz_iadd hC 687 dL_law_686 rfl ?_
  rw [nI_add]
  refine jz_sld hC hX hbl hbA hb0 rfl (by omega) (by omega) 688 dL_law_687 rfl ?_
  refine jz_aload_n hC 0 689 dL_law_688 rfl rfl rfl ?_
  refine jz_iload_n hC 3 690 dL_law_689 rfl rfl rfl ?_
  refine jz_iconst hC (nI 2) 691 dL_law_690 rfl rfl ?_
  refine jz_iadd hC 692 dL_law_691 rfl ?_
  rw [nI_add]
  refine jz_sld hC hX hbl hbA hb0 rfl (by omega) (by omega) 693 dL_law_692 rfl ?_
  refine jz_Q hC (d := 110) (As := [.int (xs (i + 1)), .int (xs (i + 2))]) ok_L_70 rfl rfl (Nat.le_of_ble_eq_true rfl) (hR 110 (by decide)) 696 dL_law_693 rfl rfl h1 (fun σ2 h2 => ?_)
  refine jz_icmp_eq hC 1919 699 dL_law_696 rfl rfl (fun q696 => ?_) (fun q => absurd rfl q)
  exact next σ2 h2
theorem law_13 (hC : jz_C p s m args c A (jq_up G) mi_L_law) {b N i : Nat} {xs : Nat → Int32} (hX : va_X b N xs s s.heap) (hbl : b < s.heap.size) (hbA : ¬ A b) (hb0 : G.2.2 1400 = b) (hN : N ≤ 3584) (hi : i + 7 ≤ N) (hR : ∀ d, d ≤ 200 → d + 2 ≤ rm.frames ∧ 64 * (d + 2) ≤ rm.locals ∧ nc ≤ rm.cells ∧ ns ≤ rm.slots) (h : IV σ) (next : ∀ σ2 : jr_Sg, IV σ2 → jz_R p l e rm s m args below meth c A nc ns Q (jq_up G) mi_L_law 1919 [some (.ref 1400), some (.ref 0), some (.ref 46), some (.int (nI i))] [] σ2) : jz_R p l e rm s m args below meth c A nc ns Q (jq_up G) mi_L_law 701 [some (.ref 1400), some (.ref 0), some (.ref 46), some (.int (nI i))] [] σ := by
  refine jz_aload_n hC 1 702 dL_law_701 rfl rfl rfl ?_
  refine jz_aload_n hC 0 703 dL_law_702 rfl rfl rfl ?_
  refine jz_iload_n hC 3 704 dL_law_703 rfl rfl rfl ?_
  refine jz_iconst hC (nI 1) 705 dL_law_704 rfl rfl ?_
  refine jz_iadd hC 706 dL_law_705 rfl ?_
  rw [nI_add]
  refine jz_sld hC hX hbl hbA hb0 rfl (by omega) (by omega) 707 dL_law_706 rfl ?_
  refine jz_aload_n hC 0 708 dL_law_707 rfl rfl rfl ?_
  refine jz_iload_n hC 3 709 dL_law_708 rfl rfl rfl ?_
  refine jz_iconst hC (nI 2) 710 dL_law_709 rfl rfl ?_
  refine jz_iadd hC 711 dL_law_710 rfl ?_
  rw [nI_add]
  refine jz_sld hC hX hbl hbA hb0 rfl (by omega) (by omega) 712 dL_law_711 rfl ?_
  refine jz_aload_n hC 0 713 dL_law_712 rfl rfl rfl ?_
  refine jz_iload_n hC 3 714 dL_law_713 rfl rfl rfl ?_
  refine jz_iconst hC (nI 3) 715 dL_law_714 rfl rfl ?_
  refine jz_iadd hC 716 dL_law_715 rfl ?_
  rw [nI_add]
  refine jz_sld hC hX hbl hbA hb0 rfl (by omega) (by omega) 717 dL_law_716 rfl ?_
  refine jz_P hC (d := 110) (As := [.int (xs (i + 1)), .int (xs (i + 2)), .int (xs (i + 3))]) ok_L_71 rfl rfl rfl (Nat.le_of_ble_eq_true rfl) (hR 110 (by decide)) 720 dL_law_717 rfl rfl (pp_at (d := 90) h) (fun x σ1 h1 => ?_)
  refine jz_aload_n hC 2 721 dL_law_720 rfl rfl rfl ?_
  refine jz_aload_n hC 0 722 dL_law_721 rfl rfl rfl ?_
  refine jz_iload_n hC 3 723 dL_law_722 rfl rfl rfl ?_
  refine jz_iconst hC (nI 1) 724 dL_law_723 rfl rfl ?_
  refine jz_iadd hC 725 dL_law_724 rfl ?_
  rw [nI_add]
  refine jz_sld hC hX hbl hbA hb0 rfl (by omega) (by omega) 726 dL_law_725 rfl ?_
  refine jz_aload_n hC 0 727 dL_law_726 rfl rfl rfl ?_
  refine jz_iload_n hC 3 728 dL_law_727 rfl rfl rfl ?_
  refine jz_iconst hC (nI 2) 729 dL_law_728 rfl rfl ?_
  refine jz_iadd hC 730 dL_law_729 rfl ?_
  rw [nI_add]
  refine jz_sld hC hX hbl hbA hb0 rfl (by omega) (by omega) 731 dL_law_730 rfl ?_
  refine jz_aload_n hC 0 732 dL_law_731 rfl rfl rfl ?_
  refine jz_iload_n hC 3 733 dL_law_732 rfl rfl rfl ?_
  refine jz_iconst hC (nI 3) 734 dL_law_733 rfl rfl ?_
  refine jz_iadd hC 735 dL_law_734 rfl ?_
  rw [nI_add]
  refine jz_sld hC hX hbl hbA hb0 rfl (by omega) (by omega) 736 dL_law_735 rfl ?_
  refine jz_Q hC (d := 110) (As := [.int (xs (i + 1)), .int (xs (i + 2)), .int (xs (i + 3))]) ok_L_74 rfl rfl (Nat.le_of_ble_eq_true rfl) (hR 110 (by decide)) 739 dL_law_736 rfl rfl h1 (fun σ2 h2 => ?_)
  refine jz_icmp_eq hC 1919 742 dL_law_739 rfl rfl (fun q739 => ?_) (fun q => absurd rfl q)
  exact next σ2 h2
theorem law_14 (hC : jz_C p s m args c A (jq_up G) mi_L_law) {b N i : Nat} {xs : Nat → Int32} (hX : va_X b N xs s s.heap) (hbl : b < s.heap.size) (hbA : ¬ A b) (hb0 : G.2.2 1400 = b) (hN : N ≤ 3584) (hi : i + 7 ≤ N) (hR : ∀ d, d ≤ 200 → d + 2 ≤ rm.frames ∧ 64 * (d + 2) ≤ rm.locals ∧ nc ≤ rm.cells ∧ ns ≤ rm.slots) (h : IV σ) (next : ∀ σ2 : jr_Sg, IV σ2 → jz_R p l e rm s m args below meth c A nc ns Q (jq_up G) mi_L_law 1919 [some (.ref 1400), some (.ref 0), some (.ref 46), some (.int (nI i))] [] σ2) : jz_R p l e rm s m args below meth c A nc ns Q (jq_up G) mi_L_law 744 [some (.ref 1400), some (.ref 0), some (.ref 46), some (.int (nI i))] [] σ := by
  refine jz_aload_n hC 1 745 dL_law_744 rfl rfl rfl ?_
  refine jz_aload_n hC 0 746 dL_law_745 rfl rfl rfl ?_
  refine jz_iload_n hC 3 747 dL_law_746 rfl rfl rfl ?_
  refine jz_iconst hC (nI 1) 748 dL_law_747 rfl rfl ?_
  refine jz_iadd hC 749 dL_law_748 rfl ?_
  rw [nI_add]
  refine jz_sld hC hX hbl hbA hb0 rfl (by omega) (by omega) 750 dL_law_749 rfl ?_
  refine jz_aload_n hC 0 751 dL_law_750 rfl rfl rfl ?_
  refine jz_iload_n hC 3 752 dL_law_751 rfl rfl rfl ?_
  refine jz_iconst hC (nI 2) 753 dL_law_752 rfl rfl ?_
  refine jz_iadd hC 754 dL_law_753 rfl ?_
  rw [nI_add]
  refine jz_sld hC hX hbl hbA hb0 rfl (by omega) (by omega) 755 dL_law_754 rfl ?_
  refine jz_P hC (d := 110) (As := [.int (xs (i + 1)), .int (xs (i + 2))]) ok_L_75 rfl rfl rfl (Nat.le_of_ble_eq_true rfl) (hR 110 (by decide)) 758 dL_law_755 rfl rfl (pp_red (d := 90) h) (fun x σ1 h1 => ?_)
  refine jz_aload_n hC 2 759 dL_law_758 rfl rfl rfl ?_
  refine jz_aload_n hC 0 760 dL_law_759 rfl rfl rfl ?_
  refine jz_iload_n hC 3 761 dL_law_760 rfl rfl rfl ?_
  refine jz_iconst hC (nI 1) 762 dL_law_761 rfl rfl ?_
  refine jz_iadd hC 763 dL_law_762 rfl ?_
  rw [nI_add]
  refine jz_sld hC hX hbl hbA hb0 rfl (by omega) (by omega) 764 dL_law_763 rfl ?_
  refine jz_aload_n hC 0 765 dL_law_764 rfl rfl rfl ?_
  refine jz_iload_n hC 3 766 dL_law_765 rfl rfl rfl ?_
  refine jz_iconst hC (nI 2) 767 dL_law_766 rfl rfl ?_
  refine jz_iadd hC 768 dL_law_767 rfl ?_
  rw [nI_add]
  refine jz_sld hC hX hbl hbA hb0 rfl (by omega) (by omega) 769 dL_law_768 rfl ?_
  refine jz_Q hC (d := 110) (As := [.int (xs (i + 1)), .int (xs (i + 2))]) ok_L_78 rfl rfl (Nat.le_of_ble_eq_true rfl) (hR 110 (by decide)) 772 dL_law_769 rfl rfl h1 (fun σ2 h2 => ?_)
  refine jz_icmp_eq hC 1919 775 dL_law_772 rfl rfl (fun q772 => ?_) (fun q => absurd rfl q)
  exact next σ2 h2
theorem law_15 (hC : jz_C p s m args c A (jq_up G) mi_L_law) {b N i : Nat} {xs : Nat → Int32} (hX : va_X b N xs s s.heap) (hbl : b < s.heap.size) (hbA : ¬ A b) (hb0 : G.2.2 1400 = b) (hN : N ≤ 3584) (hi : i + 7 ≤ N) (hR : ∀ d, d ≤ 200 → d + 2 ≤ rm.frames ∧ 64 * (d + 2) ≤ rm.locals ∧ nc ≤ rm.cells ∧ ns ≤ rm.slots) (h : IV σ) (next : ∀ σ2 : jr_Sg, IV σ2 → jz_R p l e rm s m args below meth c A nc ns Q (jq_up G) mi_L_law 1919 [some (.ref 1400), some (.ref 0), some (.ref 46), some (.int (nI i))] [] σ2) : jz_R p l e rm s m args below meth c A nc ns Q (jq_up G) mi_L_law 777 [some (.ref 1400), some (.ref 0), some (.ref 46), some (.int (nI i))] [] σ := by
  refine jz_aload_n hC 1 778 dL_law_777 rfl rfl rfl ?_
  refine jz_aload_n hC 0 779 dL_law_778 rfl rfl rfl ?_
  refine jz_iload_n hC 3 780 dL_law_779 rfl rfl rfl ?_
  refine jz_iconst hC (nI 1) 781 dL_law_780 rfl rfl ?_
  refine jz_iadd hC 782 dL_law_781 rfl ?_
  rw [nI_add]
  refine jz_sld hC hX hbl hbA hb0 rfl (by omega) (by omega) 783 dL_law_782 rfl ?_
  refine jz_aload_n hC 0 784 dL_law_783 rfl rfl rfl ?_
  refine jz_iload_n hC 3 785 dL_law_784 rfl rfl rfl ?_
  refine jz_iconst hC (nI 2) 786 dL_law_785 rfl rfl ?_
  refine jz_iadd hC 787 dL_law_786 rfl ?_
  rw [nI_add]
  refine jz_sld hC hX hbl hbA hb0 rfl (by omega) (by omega) 788 dL_law_787 rfl ?_
  refine jz_P hC (d := 110) (As := [.int (xs (i + 1)), .int (xs (i + 2))]) ok_L_79 rfl rfl rfl (Nat.le_of_ble_eq_true rfl) (hR 110 (by decide)) 791 dL_law_788 rfl rfl (pp_row (d := 90) h) (fun x σ1 h1 => ?_)
  refine jz_aload_n hC 2 792 dL_law_791 rfl rfl rfl ?_
  refine jz_aload_n hC 0 793 dL_law_792 rfl rfl rfl ?_
  refine jz_iload_n hC 3 794 dL_law_793 rfl rfl rfl ?_
  refine jz_iconst hC (nI 1) 795 dL_law_794 rfl rfl ?_
  refine jz_iadd hC 796 dL_law_795 rfl ?_
  rw [nI_add]
  refine jz_sld hC hX hbl hbA hb0 rfl (by omega) (by omega) 797 dL_law_796 rfl ?_
  refine jz_aload_n hC 0 798 dL_law_797 rfl rfl rfl ?_
  refine jz_iload_n hC 3 799 dL_law_798 rfl rfl rfl ?_
  refine jz_iconst hC (nI 2) 800 dL_law_799 rfl rfl ?_
  refine jz_iadd hC 801 dL_law_800 rfl ?_
  rw [nI_add]
  refine jz_sld hC hX hbl hbA hb0 rfl (by omega) (by omega) 802 dL_law_801 rfl ?_
  refine jz_Q hC (d := 110) (As := [.int (xs (i + 1)), .int (xs (i + 2))]) ok_L_82 rfl rfl (Nat.le_of_ble_eq_true rfl) (hR 110 (by decide)) 805 dL_law_802 rfl rfl h1 (fun σ2 h2 => ?_)
  refine jz_icmp_eq hC 1919 808 dL_law_805 rfl rfl (fun q805 => ?_) (fun q => absurd rfl q)
  exact next σ2 h2
theorem law_16 (hC : jz_C p s m args c A (jq_up G) mi_L_law) {b N i : Nat} {xs : Nat → Int32} (hX : va_X b N xs s s.heap) (hbl : b < s.heap.size) (hbA : ¬ A b) (hb0 : G.2.2 1400 = b) (hN : N ≤ 3584) (hi : i + 7 ≤ N) (hR : ∀ d, d ≤ 200 → d + 2 ≤ rm.frames ∧ 64 * (d + 2) ≤ rm.locals ∧ nc ≤ rm.cells ∧ ns ≤ rm.slots) (h : IV σ) (next : ∀ σ2 : jr_Sg, IV σ2 → jz_R p l e rm s m args below meth c A nc ns Q (jq_up G) mi_L_law 1919 [some (.ref 1400), some (.ref 0), some (.ref 46), some (.int (nI i))] [] σ2) : jz_R p l e rm s m args below meth c A nc ns Q (jq_up G) mi_L_law 810 [some (.ref 1400), some (.ref 0), some (.ref 46), some (.int (nI i))] [] σ := by
  refine jz_aload_n hC 1 811 dL_law_810 rfl rfl rfl ?_
  refine jz_aload_n hC 0 812 dL_law_811 rfl rfl rfl ?_
  refine jz_iload_n hC 3 813 dL_law_812 rfl rfl rfl ?_
  refine jz_iconst hC (nI 1) 814 dL_law_813 rfl rfl ?_
  refine jz_iadd hC 815 dL_law_814 rfl ?_
  rw [nI_add]
  refine jz_sld hC hX hbl hbA hb0 rfl (by omega) (by omega) 816 dL_law_815 rfl ?_
  refine jz_P hC (d := 110) (As := [.int (xs (i + 1))]) ok_L_83 rfl rfl rfl (Nat.le_of_ble_eq_true rfl) (hR 110 (by decide)) 819 dL_law_816 rfl rfl (pp_pass (d := 90) h) (fun x σ1 h1 => ?_)
  refine jz_aload_n hC 2 820 dL_law_819 rfl rfl rfl ?_
  refine jz_aload_n hC 0 821 dL_law_820 rfl rfl rfl ?_
  refine jz_iload_n hC 3 822 dL_law_821 rfl rfl rfl ?_
  refine jz_iconst hC (nI 1) 823 dL_law_822 rfl rfl ?_
  refine jz_iadd hC 824 dL_law_823 rfl ?_
  rw [nI_add]
  refine jz_sld hC hX hbl hbA hb0 rfl (by omega) (by omega) 825 dL_law_824 rfl ?_
  refine jz_Q hC (d := 110) (As := [.int (xs (i + 1))]) ok_L_86 rfl rfl (Nat.le_of_ble_eq_true rfl) (hR 110 (by decide)) 828 dL_law_825 rfl rfl h1 (fun σ2 h2 => ?_)
  refine jz_icmp_eq hC 1919 831 dL_law_828 rfl rfl (fun q828 => ?_) (fun q => absurd rfl q)
  exact next σ2 h2
theorem law_17 (hC : jz_C p s m args c A (jq_up G) mi_L_law) {b N i : Nat} {xs : Nat → Int32} (hX : va_X b N xs s s.heap) (hbl : b < s.heap.size) (hbA : ¬ A b) (hb0 : G.2.2 1400 = b) (hN : N ≤ 3584) (hi : i + 7 ≤ N) (hR : ∀ d, d ≤ 200 → d + 2 ≤ rm.frames ∧ 64 * (d + 2) ≤ rm.locals ∧ nc ≤ rm.cells ∧ ns ≤ rm.slots) (h : IV σ) (next : ∀ σ2 : jr_Sg, IV σ2 → jz_R p l e rm s m args below meth c A nc ns Q (jq_up G) mi_L_law 1919 [some (.ref 1400), some (.ref 0), some (.ref 46), some (.int (nI i))] [] σ2) : jz_R p l e rm s m args below meth c A nc ns Q (jq_up G) mi_L_law 833 [some (.ref 1400), some (.ref 0), some (.ref 46), some (.int (nI i))] [] σ := by
  refine jz_aload_n hC 1 834 dL_law_833 rfl rfl rfl ?_
  refine jz_aload_n hC 0 835 dL_law_834 rfl rfl rfl ?_
  refine jz_iload_n hC 3 836 dL_law_835 rfl rfl rfl ?_
  refine jz_iconst hC (nI 1) 837 dL_law_836 rfl rfl ?_
  refine jz_iadd hC 838 dL_law_837 rfl ?_
  rw [nI_add]
  refine jz_sld hC hX hbl hbA hb0 rfl (by omega) (by omega) 839 dL_law_838 rfl ?_
  refine jz_P hC (d := 110) (As := [.int (xs (i + 1))]) ok_L_87 rfl rfl rfl (Nat.le_of_ble_eq_true rfl) (hR 110 (by decide)) 842 dL_law_839 rfl rfl (pp_dies (d := 90) h) (fun x σ1 h1 => ?_)
  refine jz_aload_n hC 2 843 dL_law_842 rfl rfl rfl ?_
  refine jz_aload_n hC 0 844 dL_law_843 rfl rfl rfl ?_
  refine jz_iload_n hC 3 845 dL_law_844 rfl rfl rfl ?_
  refine jz_iconst hC (nI 1) 846 dL_law_845 rfl rfl ?_
  refine jz_iadd hC 847 dL_law_846 rfl ?_
  rw [nI_add]
  refine jz_sld hC hX hbl hbA hb0 rfl (by omega) (by omega) 848 dL_law_847 rfl ?_
  refine jz_Q hC (d := 110) (As := [.int (xs (i + 1))]) ok_L_90 rfl rfl (Nat.le_of_ble_eq_true rfl) (hR 110 (by decide)) 851 dL_law_848 rfl rfl h1 (fun σ2 h2 => ?_)
  refine jz_icmp_eq hC 1919 854 dL_law_851 rfl rfl (fun q851 => ?_) (fun q => absurd rfl q)
  exact next σ2 h2
theorem law_18 (hC : jz_C p s m args c A (jq_up G) mi_L_law) {b N i : Nat} {xs : Nat → Int32} (hX : va_X b N xs s s.heap) (hbl : b < s.heap.size) (hbA : ¬ A b) (hb0 : G.2.2 1400 = b) (hN : N ≤ 3584) (hi : i + 7 ≤ N) (hR : ∀ d, d ≤ 200 → d + 2 ≤ rm.frames ∧ 64 * (d + 2) ≤ rm.locals ∧ nc ≤ rm.cells ∧ ns ≤ rm.slots) (h : IV σ) (next : ∀ σ2 : jr_Sg, IV σ2 → jz_R p l e rm s m args below meth c A nc ns Q (jq_up G) mi_L_law 1919 [some (.ref 1400), some (.ref 0), some (.ref 46), some (.int (nI i))] [] σ2) : jz_R p l e rm s m args below meth c A nc ns Q (jq_up G) mi_L_law 856 [some (.ref 1400), some (.ref 0), some (.ref 46), some (.int (nI i))] [] σ := by
  refine jz_aload_n hC 1 857 dL_law_856 rfl rfl rfl ?_
  refine jz_aload_n hC 0 858 dL_law_857 rfl rfl rfl ?_
  refine jz_iload_n hC 3 859 dL_law_858 rfl rfl rfl ?_
  refine jz_iconst hC (nI 1) 860 dL_law_859 rfl rfl ?_
  refine jz_iadd hC 861 dL_law_860 rfl ?_
  rw [nI_add]
  refine jz_sld hC hX hbl hbA hb0 rfl (by omega) (by omega) 862 dL_law_861 rfl ?_
  refine jz_P hC (d := 110) (As := [.int (xs (i + 1))]) ok_L_91 rfl rfl rfl (Nat.le_of_ble_eq_true rfl) (hR 110 (by decide)) 865 dL_law_862 rfl rfl (pp_line (d := 90) h) (fun x σ1 h1 => ?_)
  refine jz_aload_n hC 2 866 dL_law_865 rfl rfl rfl ?_
  refine jz_aload_n hC 0 867 dL_law_866 rfl rfl rfl ?_
  refine jz_iload_n hC 3 868 dL_law_867 rfl rfl rfl ?_
  refine jz_iconst hC (nI 1) 869 dL_law_868 rfl rfl ?_
  refine jz_iadd hC 870 dL_law_869 rfl ?_
  rw [nI_add]
  refine jz_sld hC hX hbl hbA hb0 rfl (by omega) (by omega) 871 dL_law_870 rfl ?_
  refine jz_Q hC (d := 110) (As := [.int (xs (i + 1))]) ok_L_94 rfl rfl (Nat.le_of_ble_eq_true rfl) (hR 110 (by decide)) 874 dL_law_871 rfl rfl h1 (fun σ2 h2 => ?_)
  refine jz_icmp_eq hC 1919 877 dL_law_874 rfl rfl (fun q874 => ?_) (fun q => absurd rfl q)
  exact next σ2 h2
theorem law_19 (hC : jz_C p s m args c A (jq_up G) mi_L_law) {b N i : Nat} {xs : Nat → Int32} (hX : va_X b N xs s s.heap) (hbl : b < s.heap.size) (hbA : ¬ A b) (hb0 : G.2.2 1400 = b) (hN : N ≤ 3584) (hi : i + 7 ≤ N) (hR : ∀ d, d ≤ 200 → d + 2 ≤ rm.frames ∧ 64 * (d + 2) ≤ rm.locals ∧ nc ≤ rm.cells ∧ ns ≤ rm.slots) (h : IV σ) (next : ∀ σ2 : jr_Sg, IV σ2 → jz_R p l e rm s m args below meth c A nc ns Q (jq_up G) mi_L_law 1919 [some (.ref 1400), some (.ref 0), some (.ref 46), some (.int (nI i))] [] σ2) : jz_R p l e rm s m args below meth c A nc ns Q (jq_up G) mi_L_law 879 [some (.ref 1400), some (.ref 0), some (.ref 46), some (.int (nI i))] [] σ := by
  refine jz_aload_n hC 1 880 dL_law_879 rfl rfl rfl ?_
  refine jz_aload_n hC 0 881 dL_law_880 rfl rfl rfl ?_
  refine jz_iload_n hC 3 882 dL_law_881 rfl rfl rfl ?_
  refine jz_iconst hC (nI 1) 883 dL_law_882 rfl rfl ?_
  refine jz_iadd hC 884 dL_law_883 rfl ?_
  rw [nI_add]
  refine jz_sld hC hX hbl hbA hb0 rfl (by omega) (by omega) 885 dL_law_884 rfl ?_
  refine jz_aload_n hC 0 886 dL_law_885 rfl rfl rfl ?_
  refine jz_iload_n hC 3 887 dL_law_886 rfl rfl rfl ?_
  refine jz_iconst hC (nI 2) 888 dL_law_887 rfl rfl ?_
  refine jz_iadd hC 889 dL_law_888 rfl ?_
  rw [nI_add]
  refine jz_sld hC hX hbl hbA hb0 rfl (by omega) (by omega) 890 dL_law_889 rfl ?_
  refine jz_aload_n hC 0 891 dL_law_890 rfl rfl rfl ?_
  refine jz_iload_n hC 3 892 dL_law_891 rfl rfl rfl ?_
  refine jz_iconst hC (nI 3) 893 dL_law_892 rfl rfl ?_
  refine jz_iadd hC 894 dL_law_893 rfl ?_
  rw [nI_add]
  refine jz_sld hC hX hbl hbA hb0 rfl (by omega) (by omega) 895 dL_law_894 rfl ?_
  refine jz_P hC (d := 110) (As := [.int (xs (i + 1)), .int (xs (i + 2)), .int (xs (i + 3))]) ok_L_95 rfl rfl rfl (Nat.le_of_ble_eq_true rfl) (hR 110 (by decide)) 898 dL_law_895 rfl rfl (pp_stops (d := 90) h) (fun x σ1 h1 => ?_)
  refine jz_aload_n hC 2 899 dL_law_898 rfl rfl rfl ?_
  refine jz_aload_n hC 0 900 dL_law_899 rfl rfl rfl ?_
  refine jz_iload_n hC 3 901 dL_law_900 rfl rfl rfl ?_
  refine jz_iconst hC (nI 1) 902 dL_law_901 rfl rfl ?_
  refine jz_iadd hC 903 dL_law_902 rfl ?_
  rw [nI_add]
  refine jz_sld hC hX hbl hbA hb0 rfl (by omega) (by omega) 904 dL_law_903 rfl ?_
  refine jz_aload_n hC 0 905 dL_law_904 rfl rfl rfl ?_
  refine jz_iload_n hC 3 906 dL_law_905 rfl rfl rfl ?_
  refine jz_iconst hC (nI 2) 907 dL_law_906 rfl rfl ?_
  refine jz_iadd hC 908 dL_law_907 rfl ?_
  rw [nI_add]
  refine jz_sld hC hX hbl hbA hb0 rfl (by omega) (by omega) 909 dL_law_908 rfl ?_
  refine jz_aload_n hC 0 910 dL_law_909 rfl rfl rfl ?_
  refine jz_iload_n hC 3 911 dL_law_910 rfl rfl rfl ?_
  refine jz_iconst hC (nI 3) 912 dL_law_911 rfl rfl ?_
  refine jz_iadd hC 913 dL_law_912 rfl ?_
  rw [nI_add]
  refine jz_sld hC hX hbl hbA hb0 rfl (by omega) (by omega) 914 dL_law_913 rfl ?_
  refine jz_Q hC (d := 110) (As := [.int (xs (i + 1)), .int (xs (i + 2)), .int (xs (i + 3))]) ok_L_98 rfl rfl (Nat.le_of_ble_eq_true rfl) (hR 110 (by decide)) 917 dL_law_914 rfl rfl h1 (fun σ2 h2 => ?_)
  refine jz_icmp_eq hC 1919 920 dL_law_917 rfl rfl (fun q917 => ?_) (fun q => absurd rfl q)
  exact next σ2 h2
theorem law_20 (hC : jz_C p s m args c A (jq_up G) mi_L_law) {b N i : Nat} {xs : Nat → Int32} (hX : va_X b N xs s s.heap) (hbl : b < s.heap.size) (hbA : ¬ A b) (hb0 : G.2.2 1400 = b) (hN : N ≤ 3584) (hi : i + 7 ≤ N) (hR : ∀ d, d ≤ 200 → d + 2 ≤ rm.frames ∧ 64 * (d + 2) ≤ rm.locals ∧ nc ≤ rm.cells ∧ ns ≤ rm.slots) (h : IV σ) (next : ∀ σ2 : jr_Sg, IV σ2 → jz_R p l e rm s m args below meth c A nc ns Q (jq_up G) mi_L_law 1919 [some (.ref 1400), some (.ref 0), some (.ref 46), some (.int (nI i))] [] σ2) : jz_R p l e rm s m args below meth c A nc ns Q (jq_up G) mi_L_law 922 [some (.ref 1400), some (.ref 0), some (.ref 46), some (.int (nI i))] [] σ := by
  refine jz_aload_n hC 1 923 dL_law_922 rfl rfl rfl ?_
  refine jz_aload_n hC 0 924 dL_law_923 rfl rfl rfl ?_
  refine jz_iload_n hC 3 925 dL_law_924 rfl rfl rfl ?_
  refine jz_iconst hC (nI 1) 926 dL_law_925 rfl rfl ?_
  refine jz_iadd hC 927 dL_law_926 rfl ?_
  rw [nI_add]
  refine jz_sld hC hX hbl hbA hb0 rfl (by omega) (by omega) 928 dL_law_927 rfl ?_
  refine jz_aload_n hC 0 929 dL_law_928 rfl rfl rfl ?_
  refine jz_iload_n hC 3 930 dL_law_929 rfl rfl rfl ?_
  refine jz_iconst hC (nI 2) 931 dL_law_930 rfl rfl ?_
  refine jz_iadd hC 932 dL_law_931 rfl ?_
  rw [nI_add]
  refine jz_sld hC hX hbl hbA hb0 rfl (by omega) (by omega) 933 dL_law_932 rfl ?_
  refine jz_P hC (d := 110) (As := [.int (xs (i + 1)), .int (xs (i + 2))]) ok_L_99 rfl rfl rfl (Nat.le_of_ble_eq_true rfl) (hR 110 (by decide)) 936 dL_law_933 rfl rfl (pp_best (d := 90) h) (fun x σ1 h1 => ?_)
  refine jz_aload_n hC 2 937 dL_law_936 rfl rfl rfl ?_
  refine jz_aload_n hC 0 938 dL_law_937 rfl rfl rfl ?_
  refine jz_iload_n hC 3 939 dL_law_938 rfl rfl rfl ?_
  refine jz_iconst hC (nI 1) 940 dL_law_939 rfl rfl ?_
  refine jz_iadd hC 941 dL_law_940 rfl ?_
  rw [nI_add]
  refine jz_sld hC hX hbl hbA hb0 rfl (by omega) (by omega) 942 dL_law_941 rfl ?_
  refine jz_aload_n hC 0 943 dL_law_942 rfl rfl rfl ?_
  refine jz_iload_n hC 3 944 dL_law_943 rfl rfl rfl ?_
  refine jz_iconst hC (nI 2) 945 dL_law_944 rfl rfl ?_
  refine jz_iadd hC 946 dL_law_945 rfl ?_
  rw [nI_add]
  refine jz_sld hC hX hbl hbA hb0 rfl (by omega) (by omega) 947 dL_law_946 rfl ?_
  refine jz_Q hC (d := 110) (As := [.int (xs (i + 1)), .int (xs (i + 2))]) ok_L_102 rfl rfl (Nat.le_of_ble_eq_true rfl) (hR 110 (by decide)) 950 dL_law_947 rfl rfl h1 (fun σ2 h2 => ?_)
  refine jz_icmp_eq hC 1919 953 dL_law_950 rfl rfl (fun q950 => ?_) (fun q => absurd rfl q)
  exact next σ2 h2
theorem law_21 (hC : jz_C p s m args c A (jq_up G) mi_L_law) {b N i : Nat} {xs : Nat → Int32} (hX : va_X b N xs s s.heap) (hbl : b < s.heap.size) (hbA : ¬ A b) (hb0 : G.2.2 1400 = b) (hN : N ≤ 3584) (hi : i + 7 ≤ N) (hR : ∀ d, d ≤ 200 → d + 2 ≤ rm.frames ∧ 64 * (d + 2) ≤ rm.locals ∧ nc ≤ rm.cells ∧ ns ≤ rm.slots) (h : IV σ) (next : ∀ σ2 : jr_Sg, IV σ2 → jz_R p l e rm s m args below meth c A nc ns Q (jq_up G) mi_L_law 1919 [some (.ref 1400), some (.ref 0), some (.ref 46), some (.int (nI i))] [] σ2) : jz_R p l e rm s m args below meth c A nc ns Q (jq_up G) mi_L_law 955 [some (.ref 1400), some (.ref 0), some (.ref 46), some (.int (nI i))] [] σ := by
  refine jz_aload_n hC 1 956 dL_law_955 rfl rfl rfl ?_
  refine jz_aload_n hC 0 957 dL_law_956 rfl rfl rfl ?_
  refine jz_iload_n hC 3 958 dL_law_957 rfl rfl rfl ?_
  refine jz_iconst hC (nI 1) 959 dL_law_958 rfl rfl ?_
  refine jz_iadd hC 960 dL_law_959 rfl ?_
  rw [nI_add]
  refine jz_sld hC hX hbl hbA hb0 rfl (by omega) (by omega) 961 dL_law_960 rfl ?_
  refine jz_aload_n hC 0 962 dL_law_961 rfl rfl rfl ?_
  refine jz_iload_n hC 3 963 dL_law_962 rfl rfl rfl ?_
  refine jz_iconst hC (nI 2) 964 dL_law_963 rfl rfl ?_
  refine jz_iadd hC 965 dL_law_964 rfl ?_
  rw [nI_add]
  refine jz_sld hC hX hbl hbA hb0 rfl (by omega) (by omega) 966 dL_law_965 rfl ?_
  refine jz_P hC (d := 110) (As := [.int (xs (i + 1)), .int (xs (i + 2))]) ok_L_103 rfl rfl rfl (Nat.le_of_ble_eq_true rfl) (hR 110 (by decide)) 969 dL_law_966 rfl rfl (pp_latest (d := 90) h) (fun x σ1 h1 => ?_)
  refine jz_aload_n hC 2 970 dL_law_969 rfl rfl rfl ?_
  refine jz_aload_n hC 0 971 dL_law_970 rfl rfl rfl ?_
  refine jz_iload_n hC 3 972 dL_law_971 rfl rfl rfl ?_
  refine jz_iconst hC (nI 1) 973 dL_law_972 rfl rfl ?_
  refine jz_iadd hC 974 dL_law_973 rfl ?_
  rw [nI_add]
  refine jz_sld hC hX hbl hbA hb0 rfl (by omega) (by omega) 975 dL_law_974 rfl ?_
  refine jz_aload_n hC 0 976 dL_law_975 rfl rfl rfl ?_
  refine jz_iload_n hC 3 977 dL_law_976 rfl rfl rfl ?_
  refine jz_iconst hC (nI 2) 978 dL_law_977 rfl rfl ?_
  refine jz_iadd hC 979 dL_law_978 rfl ?_
  rw [nI_add]
  refine jz_sld hC hX hbl hbA hb0 rfl (by omega) (by omega) 980 dL_law_979 rfl ?_
  refine jz_Q hC (d := 110) (As := [.int (xs (i + 1)), .int (xs (i + 2))]) ok_L_106 rfl rfl (Nat.le_of_ble_eq_true rfl) (hR 110 (by decide)) 983 dL_law_980 rfl rfl h1 (fun σ2 h2 => ?_)
  refine jz_icmp_eq hC 1919 986 dL_law_983 rfl rfl (fun q983 => ?_) (fun q => absurd rfl q)
  exact next σ2 h2
theorem law_22 (hC : jz_C p s m args c A (jq_up G) mi_L_law) {b N i : Nat} {xs : Nat → Int32} (hX : va_X b N xs s s.heap) (hbl : b < s.heap.size) (hbA : ¬ A b) (hb0 : G.2.2 1400 = b) (hN : N ≤ 3584) (hi : i + 7 ≤ N) (hR : ∀ d, d ≤ 200 → d + 2 ≤ rm.frames ∧ 64 * (d + 2) ≤ rm.locals ∧ nc ≤ rm.cells ∧ ns ≤ rm.slots) (h : IV σ) (next : ∀ σ2 : jr_Sg, IV σ2 → jz_R p l e rm s m args below meth c A nc ns Q (jq_up G) mi_L_law 1919 [some (.ref 1400), some (.ref 0), some (.ref 46), some (.int (nI i))] [] σ2) : jz_R p l e rm s m args below meth c A nc ns Q (jq_up G) mi_L_law 988 [some (.ref 1400), some (.ref 0), some (.ref 46), some (.int (nI i))] [] σ := by
  refine jz_aload_n hC 1 989 dL_law_988 rfl rfl rfl ?_
  refine jz_aload_n hC 0 990 dL_law_989 rfl rfl rfl ?_
  refine jz_iload_n hC 3 991 dL_law_990 rfl rfl rfl ?_
  refine jz_iconst hC (nI 1) 992 dL_law_991 rfl rfl ?_
  refine jz_iadd hC 993 dL_law_992 rfl ?_
  rw [nI_add]
  refine jz_sld hC hX hbl hbA hb0 rfl (by omega) (by omega) 994 dL_law_993 rfl ?_
  refine jz_aload_n hC 0 995 dL_law_994 rfl rfl rfl ?_
  refine jz_iload_n hC 3 996 dL_law_995 rfl rfl rfl ?_
  refine jz_iconst hC (nI 2) 997 dL_law_996 rfl rfl ?_
  refine jz_iadd hC 998 dL_law_997 rfl ?_
  rw [nI_add]
  refine jz_sld hC hX hbl hbA hb0 rfl (by omega) (by omega) 999 dL_law_998 rfl ?_
  refine jz_P hC (d := 110) (As := [.int (xs (i + 1)), .int (xs (i + 2))]) ok_L_107 rfl rfl rfl (Nat.le_of_ble_eq_true rfl) (hR 110 (by decide)) 1002 dL_law_999 rfl rfl (pp_adds (d := 90) h) (fun x σ1 h1 => ?_)
  refine jz_aload_n hC 2 1003 dL_law_1002 rfl rfl rfl ?_
  refine jz_aload_n hC 0 1004 dL_law_1003 rfl rfl rfl ?_
  refine jz_iload_n hC 3 1005 dL_law_1004 rfl rfl rfl ?_
  refine jz_iconst hC (nI 1) 1006 dL_law_1005 rfl rfl ?_
  refine jz_iadd hC 1007 dL_law_1006 rfl ?_
  rw [nI_add]
  refine jz_sld hC hX hbl hbA hb0 rfl (by omega) (by omega) 1008 dL_law_1007 rfl ?_
  refine jz_aload_n hC 0 1009 dL_law_1008 rfl rfl rfl ?_
  refine jz_iload_n hC 3 1010 dL_law_1009 rfl rfl rfl ?_
  refine jz_iconst hC (nI 2) 1011 dL_law_1010 rfl rfl ?_
  refine jz_iadd hC 1012 dL_law_1011 rfl ?_
  rw [nI_add]
  refine jz_sld hC hX hbl hbA hb0 rfl (by omega) (by omega) 1013 dL_law_1012 rfl ?_
  refine jz_Q hC (d := 110) (As := [.int (xs (i + 1)), .int (xs (i + 2))]) ok_L_110 rfl rfl (Nat.le_of_ble_eq_true rfl) (hR 110 (by decide)) 1016 dL_law_1013 rfl rfl h1 (fun σ2 h2 => ?_)
  refine jz_icmp_eq hC 1919 1019 dL_law_1016 rfl rfl (fun q1016 => ?_) (fun q => absurd rfl q)
  exact next σ2 h2
theorem law_23 (hC : jz_C p s m args c A (jq_up G) mi_L_law) {b N i : Nat} {xs : Nat → Int32} (hX : va_X b N xs s s.heap) (hbl : b < s.heap.size) (hbA : ¬ A b) (hb0 : G.2.2 1400 = b) (hN : N ≤ 3584) (hi : i + 7 ≤ N) (hR : ∀ d, d ≤ 200 → d + 2 ≤ rm.frames ∧ 64 * (d + 2) ≤ rm.locals ∧ nc ≤ rm.cells ∧ ns ≤ rm.slots) (h : IV σ) (next : ∀ σ2 : jr_Sg, IV σ2 → jz_R p l e rm s m args below meth c A nc ns Q (jq_up G) mi_L_law 1919 [some (.ref 1400), some (.ref 0), some (.ref 46), some (.int (nI i))] [] σ2) : jz_R p l e rm s m args below meth c A nc ns Q (jq_up G) mi_L_law 1021 [some (.ref 1400), some (.ref 0), some (.ref 46), some (.int (nI i))] [] σ := by
  refine jz_aload_n hC 1 1022 dL_law_1021 rfl rfl rfl ?_
  refine jz_aload_n hC 0 1023 dL_law_1022 rfl rfl rfl ?_
  refine jz_iload_n hC 3 1024 dL_law_1023 rfl rfl rfl ?_
  refine jz_iconst hC (nI 1) 1025 dL_law_1024 rfl rfl ?_
  refine jz_iadd hC 1026 dL_law_1025 rfl ?_
  rw [nI_add]
  refine jz_sld hC hX hbl hbA hb0 rfl (by omega) (by omega) 1027 dL_law_1026 rfl ?_
  refine jz_aload_n hC 0 1028 dL_law_1027 rfl rfl rfl ?_
  refine jz_iload_n hC 3 1029 dL_law_1028 rfl rfl rfl ?_
  refine jz_iconst hC (nI 2) 1030 dL_law_1029 rfl rfl ?_
  refine jz_iadd hC 1031 dL_law_1030 rfl ?_
  rw [nI_add]
  refine jz_sld hC hX hbl hbA hb0 rfl (by omega) (by omega) 1032 dL_law_1031 rfl ?_
  refine jz_P hC (d := 110) (As := [.int (xs (i + 1)), .int (xs (i + 2))]) ok_L_111 rfl rfl rfl (Nat.le_of_ble_eq_true rfl) (hR 110 (by decide)) 1035 dL_law_1032 rfl rfl (pp_turn (d := 90) h) (fun x σ1 h1 => ?_)
  refine jz_aload_n hC 2 1036 dL_law_1035 rfl rfl rfl ?_
  refine jz_aload_n hC 0 1037 dL_law_1036 rfl rfl rfl ?_
  refine jz_iload_n hC 3 1038 dL_law_1037 rfl rfl rfl ?_
  refine jz_iconst hC (nI 1) 1039 dL_law_1038 rfl rfl ?_
  refine jz_iadd hC 1040 dL_law_1039 rfl ?_
  rw [nI_add]
  refine jz_sld hC hX hbl hbA hb0 rfl (by omega) (by omega) 1041 dL_law_1040 rfl ?_
  refine jz_aload_n hC 0 1042 dL_law_1041 rfl rfl rfl ?_
  refine jz_iload_n hC 3 1043 dL_law_1042 rfl rfl rfl ?_
  refine jz_iconst hC (nI 2) 1044 dL_law_1043 rfl rfl ?_
  refine jz_iadd hC 1045 dL_law_1044 rfl ?_
  rw [nI_add]
  refine jz_sld hC hX hbl hbA hb0 rfl (by omega) (by omega) 1046 dL_law_1045 rfl ?_
  refine jz_Q hC (d := 110) (As := [.int (xs (i + 1)), .int (xs (i + 2))]) ok_L_114 rfl rfl (Nat.le_of_ble_eq_true rfl) (hR 110 (by decide)) 1049 dL_law_1046 rfl rfl h1 (fun σ2 h2 => ?_)
  refine jz_icmp_eq hC 1919 1052 dL_law_1049 rfl rfl (fun q1049 => ?_) (fun q => absurd rfl q)
  exact next σ2 h2
theorem law_24 (hC : jz_C p s m args c A (jq_up G) mi_L_law) {b N i : Nat} {xs : Nat → Int32} (hX : va_X b N xs s s.heap) (hbl : b < s.heap.size) (hbA : ¬ A b) (hb0 : G.2.2 1400 = b) (hN : N ≤ 3584) (hi : i + 7 ≤ N) (hR : ∀ d, d ≤ 200 → d + 2 ≤ rm.frames ∧ 64 * (d + 2) ≤ rm.locals ∧ nc ≤ rm.cells ∧ ns ≤ rm.slots) (h : IV σ) (next : ∀ σ2 : jr_Sg, IV σ2 → jz_R p l e rm s m args below meth c A nc ns Q (jq_up G) mi_L_law 1919 [some (.ref 1400), some (.ref 0), some (.ref 46), some (.int (nI i))] [] σ2) : jz_R p l e rm s m args below meth c A nc ns Q (jq_up G) mi_L_law 1054 [some (.ref 1400), some (.ref 0), some (.ref 46), some (.int (nI i))] [] σ := by
  refine jz_aload_n hC 1 1055 dL_law_1054 rfl rfl rfl ?_
  refine jz_aload_n hC 0 1056 dL_law_1055 rfl rfl rfl ?_
  refine jz_iload_n hC 3 1057 dL_law_1056 rfl rfl rfl ?_
  refine jz_iconst hC (nI 1) 1058 dL_law_1057 rfl rfl ?_
  refine jz_iadd hC 1059 dL_law_1058 rfl ?_
  rw [nI_add]
  refine jz_sld hC hX hbl hbA hb0 rfl (by omega) (by omega) 1060 dL_law_1059 rfl ?_
  refine jz_P hC (d := 110) (As := [.int (xs (i + 1))]) ok_L_115 rfl rfl rfl (Nat.le_of_ble_eq_true rfl) (hR 110 (by decide)) 1063 dL_law_1060 rfl rfl (pp_stares (d := 90) h) (fun x σ1 h1 => ?_)
  refine jz_aload_n hC 2 1064 dL_law_1063 rfl rfl rfl ?_
  refine jz_aload_n hC 0 1065 dL_law_1064 rfl rfl rfl ?_
  refine jz_iload_n hC 3 1066 dL_law_1065 rfl rfl rfl ?_
  refine jz_iconst hC (nI 1) 1067 dL_law_1066 rfl rfl ?_
  refine jz_iadd hC 1068 dL_law_1067 rfl ?_
  rw [nI_add]
  refine jz_sld hC hX hbl hbA hb0 rfl (by omega) (by omega) 1069 dL_law_1068 rfl ?_
  refine jz_Q hC (d := 110) (As := [.int (xs (i + 1))]) ok_L_118 rfl rfl (Nat.le_of_ble_eq_true rfl) (hR 110 (by decide)) 1072 dL_law_1069 rfl rfl h1 (fun σ2 h2 => ?_)
  refine jz_icmp_eq hC 1919 1075 dL_law_1072 rfl rfl (fun q1072 => ?_) (fun q => absurd rfl q)
  exact next σ2 h2
theorem law_25 (hC : jz_C p s m args c A (jq_up G) mi_L_law) {b N i : Nat} {xs : Nat → Int32} (hX : va_X b N xs s s.heap) (hbl : b < s.heap.size) (hbA : ¬ A b) (hb0 : G.2.2 1400 = b) (hN : N ≤ 3584) (hi : i + 7 ≤ N) (hR : ∀ d, d ≤ 200 → d + 2 ≤ rm.frames ∧ 64 * (d + 2) ≤ rm.locals ∧ nc ≤ rm.cells ∧ ns ≤ rm.slots) (h : IV σ) (next : ∀ σ2 : jr_Sg, IV σ2 → jz_R p l e rm s m args below meth c A nc ns Q (jq_up G) mi_L_law 1919 [some (.ref 1400), some (.ref 0), some (.ref 46), some (.int (nI i))] [] σ2) : jz_R p l e rm s m args below meth c A nc ns Q (jq_up G) mi_L_law 1077 [some (.ref 1400), some (.ref 0), some (.ref 46), some (.int (nI i))] [] σ := by
  refine jz_aload_n hC 1 1078 dL_law_1077 rfl rfl rfl ?_
  refine jz_aload_n hC 0 1079 dL_law_1078 rfl rfl rfl ?_
  refine jz_iload_n hC 3 1080 dL_law_1079 rfl rfl rfl ?_
  refine jz_iconst hC (nI 1) 1081 dL_law_1080 rfl rfl ?_
  refine jz_iadd hC 1082 dL_law_1081 rfl ?_
  rw [nI_add]
  refine jz_sld hC hX hbl hbA hb0 rfl (by omega) (by omega) 1083 dL_law_1082 rfl ?_
  refine jz_aload_n hC 0 1084 dL_law_1083 rfl rfl rfl ?_
  refine jz_iload_n hC 3 1085 dL_law_1084 rfl rfl rfl ?_
  refine jz_iconst hC (nI 2) 1086 dL_law_1085 rfl rfl ?_
  refine jz_iadd hC 1087 dL_law_1086 rfl ?_
  rw [nI_add]
  refine jz_sld hC hX hbl hbA hb0 rfl (by omega) (by omega) 1088 dL_law_1087 rfl ?_
  refine jz_P hC (d := 110) (As := [.int (xs (i + 1)), .int (xs (i + 2))]) ok_L_119 rfl rfl rfl (Nat.le_of_ble_eq_true rfl) (hR 110 (by decide)) 1091 dL_law_1088 rfl rfl (pp_where (d := 90) h) (fun x σ1 h1 => ?_)
  refine jz_aload_n hC 2 1092 dL_law_1091 rfl rfl rfl ?_
  refine jz_aload_n hC 0 1093 dL_law_1092 rfl rfl rfl ?_
  refine jz_iload_n hC 3 1094 dL_law_1093 rfl rfl rfl ?_
  refine jz_iconst hC (nI 1) 1095 dL_law_1094 rfl rfl ?_
  refine jz_iadd hC 1096 dL_law_1095 rfl ?_
  rw [nI_add]
  refine jz_sld hC hX hbl hbA hb0 rfl (by omega) (by omega) 1097 dL_law_1096 rfl ?_
  refine jz_aload_n hC 0 1098 dL_law_1097 rfl rfl rfl ?_
  refine jz_iload_n hC 3 1099 dL_law_1098 rfl rfl rfl ?_
  refine jz_iconst hC (nI 2) 1100 dL_law_1099 rfl rfl ?_
  refine jz_iadd hC 1101 dL_law_1100 rfl ?_
  rw [nI_add]
  refine jz_sld hC hX hbl hbA hb0 rfl (by omega) (by omega) 1102 dL_law_1101 rfl ?_
  refine jz_Q hC (d := 110) (As := [.int (xs (i + 1)), .int (xs (i + 2))]) ok_L_122 rfl rfl (Nat.le_of_ble_eq_true rfl) (hR 110 (by decide)) 1105 dL_law_1102 rfl rfl h1 (fun σ2 h2 => ?_)
  refine jz_icmp_eq hC 1919 1108 dL_law_1105 rfl rfl (fun q1105 => ?_) (fun q => absurd rfl q)
  exact next σ2 h2
theorem law_26 (hC : jz_C p s m args c A (jq_up G) mi_L_law) {b N i : Nat} {xs : Nat → Int32} (hX : va_X b N xs s s.heap) (hbl : b < s.heap.size) (hbA : ¬ A b) (hb0 : G.2.2 1400 = b) (hN : N ≤ 3584) (hi : i + 7 ≤ N) (hR : ∀ d, d ≤ 200 → d + 2 ≤ rm.frames ∧ 64 * (d + 2) ≤ rm.locals ∧ nc ≤ rm.cells ∧ ns ≤ rm.slots) (h : IV σ) (next : ∀ σ2 : jr_Sg, IV σ2 → jz_R p l e rm s m args below meth c A nc ns Q (jq_up G) mi_L_law 1919 [some (.ref 1400), some (.ref 0), some (.ref 46), some (.int (nI i))] [] σ2) : jz_R p l e rm s m args below meth c A nc ns Q (jq_up G) mi_L_law 1110 [some (.ref 1400), some (.ref 0), some (.ref 46), some (.int (nI i))] [] σ := by
  refine jz_aload_n hC 1 1111 dL_law_1110 rfl rfl rfl ?_
  refine jz_aload_n hC 0 1112 dL_law_1111 rfl rfl rfl ?_
  refine jz_iload_n hC 3 1113 dL_law_1112 rfl rfl rfl ?_
  refine jz_iconst hC (nI 1) 1114 dL_law_1113 rfl rfl ?_
  refine jz_iadd hC 1115 dL_law_1114 rfl ?_
  rw [nI_add]
  refine jz_sld hC hX hbl hbA hb0 rfl (by omega) (by omega) 1116 dL_law_1115 rfl ?_
  refine jz_P hC (d := 110) (As := [.int (xs (i + 1))]) ok_L_123 rfl rfl rfl (Nat.le_of_ble_eq_true rfl) (hR 110 (by decide)) 1119 dL_law_1116 rfl rfl (pp_change (d := 90) h) (fun x σ1 h1 => ?_)
  refine jz_aload_n hC 2 1120 dL_law_1119 rfl rfl rfl ?_
  refine jz_aload_n hC 0 1121 dL_law_1120 rfl rfl rfl ?_
  refine jz_iload_n hC 3 1122 dL_law_1121 rfl rfl rfl ?_
  refine jz_iconst hC (nI 1) 1123 dL_law_1122 rfl rfl ?_
  refine jz_iadd hC 1124 dL_law_1123 rfl ?_
  rw [nI_add]
  refine jz_sld hC hX hbl hbA hb0 rfl (by omega) (by omega) 1125 dL_law_1124 rfl ?_
  refine jz_Q hC (d := 110) (As := [.int (xs (i + 1))]) ok_L_126 rfl rfl (Nat.le_of_ble_eq_true rfl) (hR 110 (by decide)) 1128 dL_law_1125 rfl rfl h1 (fun σ2 h2 => ?_)
  refine jz_icmp_eq hC 1919 1131 dL_law_1128 rfl rfl (fun q1128 => ?_) (fun q => absurd rfl q)
  exact next σ2 h2
theorem law_27 (hC : jz_C p s m args c A (jq_up G) mi_L_law) {b N i : Nat} {xs : Nat → Int32} (hX : va_X b N xs s s.heap) (hbl : b < s.heap.size) (hbA : ¬ A b) (hb0 : G.2.2 1400 = b) (hN : N ≤ 3584) (hi : i + 7 ≤ N) (hR : ∀ d, d ≤ 200 → d + 2 ≤ rm.frames ∧ 64 * (d + 2) ≤ rm.locals ∧ nc ≤ rm.cells ∧ ns ≤ rm.slots) (h : IV σ) (next : ∀ σ2 : jr_Sg, IV σ2 → jz_R p l e rm s m args below meth c A nc ns Q (jq_up G) mi_L_law 1919 [some (.ref 1400), some (.ref 0), some (.ref 46), some (.int (nI i))] [] σ2) : jz_R p l e rm s m args below meth c A nc ns Q (jq_up G) mi_L_law 1133 [some (.ref 1400), some (.ref 0), some (.ref 46), some (.int (nI i))] [] σ := by
  refine jz_aload_n hC 1 1134 dL_law_1133 rfl rfl rfl ?_
  refine jz_aload_n hC 0 1135 dL_law_1134 rfl rfl rfl ?_
  refine jz_iload_n hC 3 1136 dL_law_1135 rfl rfl rfl ?_
  refine jz_iconst hC (nI 1) 1137 dL_law_1136 rfl rfl ?_
  refine jz_iadd hC 1138 dL_law_1137 rfl ?_
  rw [nI_add]
  refine jz_sld hC hX hbl hbA hb0 rfl (by omega) (by omega) 1139 dL_law_1138 rfl ?_
  refine jz_aload_n hC 0 1140 dL_law_1139 rfl rfl rfl ?_
  refine jz_iload_n hC 3 1141 dL_law_1140 rfl rfl rfl ?_
  refine jz_iconst hC (nI 2) 1142 dL_law_1141 rfl rfl ?_
  refine jz_iadd hC 1143 dL_law_1142 rfl ?_
  rw [nI_add]
  refine jz_sld hC hX hbl hbA hb0 rfl (by omega) (by omega) 1144 dL_law_1143 rfl ?_
  refine jz_P hC (d := 110) (As := [.int (xs (i + 1)), .int (xs (i + 2))]) ok_L_127 rfl rfl rfl (Nat.le_of_ble_eq_true rfl) (hR 110 (by decide)) 1147 dL_law_1144 rfl rfl (pp_shade (d := 90) h) (fun x σ1 h1 => ?_)
  refine jz_aload_n hC 2 1148 dL_law_1147 rfl rfl rfl ?_
  refine jz_aload_n hC 0 1149 dL_law_1148 rfl rfl rfl ?_
  refine jz_iload_n hC 3 1150 dL_law_1149 rfl rfl rfl ?_
  refine jz_iconst hC (nI 1) 1151 dL_law_1150 rfl rfl ?_
  refine jz_iadd hC 1152 dL_law_1151 rfl ?_
  rw [nI_add]
  refine jz_sld hC hX hbl hbA hb0 rfl (by omega) (by omega) 1153 dL_law_1152 rfl ?_
  refine jz_aload_n hC 0 1154 dL_law_1153 rfl rfl rfl ?_
  refine jz_iload_n hC 3 1155 dL_law_1154 rfl rfl rfl ?_
  refine jz_iconst hC (nI 2) 1156 dL_law_1155 rfl rfl ?_
  refine jz_iadd hC 1157 dL_law_1156 rfl ?_
  rw [nI_add]
  refine jz_sld hC hX hbl hbA hb0 rfl (by omega) (by omega) 1158 dL_law_1157 rfl ?_
  refine jz_Q hC (d := 110) (As := [.int (xs (i + 1)), .int (xs (i + 2))]) ok_L_130 rfl rfl (Nat.le_of_ble_eq_true rfl) (hR 110 (by decide)) 1161 dL_law_1158 rfl rfl h1 (fun σ2 h2 => ?_)
  refine jz_icmp_eq hC 1919 1164 dL_law_1161 rfl rfl (fun q1161 => ?_) (fun q => absurd rfl q)
  exact next σ2 h2
theorem law_28 (hC : jz_C p s m args c A (jq_up G) mi_L_law) {b N i : Nat} {xs : Nat → Int32} (hX : va_X b N xs s s.heap) (hbl : b < s.heap.size) (hbA : ¬ A b) (hb0 : G.2.2 1400 = b) (hN : N ≤ 3584) (hi : i + 7 ≤ N) (hR : ∀ d, d ≤ 200 → d + 2 ≤ rm.frames ∧ 64 * (d + 2) ≤ rm.locals ∧ nc ≤ rm.cells ∧ ns ≤ rm.slots) (h : IV σ) (next : ∀ σ2 : jr_Sg, IV σ2 → jz_R p l e rm s m args below meth c A nc ns Q (jq_up G) mi_L_law 1919 [some (.ref 1400), some (.ref 0), some (.ref 46), some (.int (nI i))] [] σ2) : jz_R p l e rm s m args below meth c A nc ns Q (jq_up G) mi_L_law 1166 [some (.ref 1400), some (.ref 0), some (.ref 46), some (.int (nI i))] [] σ := by
  refine jz_aload_n hC 1 1167 dL_law_1166 rfl rfl rfl ?_
  refine jz_aload_n hC 0 1168 dL_law_1167 rfl rfl rfl ?_
  refine jz_iload_n hC 3 1169 dL_law_1168 rfl rfl rfl ?_
  refine jz_iconst hC (nI 1) 1170 dL_law_1169 rfl rfl ?_
  refine jz_iadd hC 1171 dL_law_1170 rfl ?_
  rw [nI_add]
  refine jz_sld hC hX hbl hbA hb0 rfl (by omega) (by omega) 1172 dL_law_1171 rfl ?_
  refine jz_aload_n hC 0 1173 dL_law_1172 rfl rfl rfl ?_
  refine jz_iload_n hC 3 1174 dL_law_1173 rfl rfl rfl ?_
  refine jz_iconst hC (nI 2) 1175 dL_law_1174 rfl rfl ?_
  refine jz_iadd hC 1176 dL_law_1175 rfl ?_
  rw [nI_add]
  refine jz_sld hC hX hbl hbA hb0 rfl (by omega) (by omega) 1177 dL_law_1176 rfl ?_
  refine jz_P hC (d := 110) (As := [.int (xs (i + 1)), .int (xs (i + 2))]) ok_L_131 rfl rfl rfl (Nat.le_of_ble_eq_true rfl) (hR 110 (by decide)) 1180 dL_law_1177 rfl rfl (pp_sets (d := 90) h) (fun x σ1 h1 => ?_)
  refine jz_aload_n hC 2 1181 dL_law_1180 rfl rfl rfl ?_
  refine jz_aload_n hC 0 1182 dL_law_1181 rfl rfl rfl ?_
  refine jz_iload_n hC 3 1183 dL_law_1182 rfl rfl rfl ?_
  refine jz_iconst hC (nI 1) 1184 dL_law_1183 rfl rfl ?_
  refine jz_iadd hC 1185 dL_law_1184 rfl ?_
  rw [nI_add]
  refine jz_sld hC hX hbl hbA hb0 rfl (by omega) (by omega) 1186 dL_law_1185 rfl ?_
  refine jz_aload_n hC 0 1187 dL_law_1186 rfl rfl rfl ?_
  refine jz_iload_n hC 3 1188 dL_law_1187 rfl rfl rfl ?_
  refine jz_iconst hC (nI 2) 1189 dL_law_1188 rfl rfl ?_
  refine jz_iadd hC 1190 dL_law_1189 rfl ?_
  rw [nI_add]
  refine jz_sld hC hX hbl hbA hb0 rfl (by omega) (by omega) 1191 dL_law_1190 rfl ?_
  refine jz_Q hC (d := 110) (As := [.int (xs (i + 1)), .int (xs (i + 2))]) ok_L_134 rfl rfl (Nat.le_of_ble_eq_true rfl) (hR 110 (by decide)) 1194 dL_law_1191 rfl rfl h1 (fun σ2 h2 => ?_)
  refine jz_icmp_eq hC 1919 1197 dL_law_1194 rfl rfl (fun q1194 => ?_) (fun q => absurd rfl q)
  exact next σ2 h2
theorem law_29 (hC : jz_C p s m args c A (jq_up G) mi_L_law) {b N i : Nat} {xs : Nat → Int32} (hX : va_X b N xs s s.heap) (hbl : b < s.heap.size) (hbA : ¬ A b) (hb0 : G.2.2 1400 = b) (hN : N ≤ 3584) (hi : i + 7 ≤ N) (hR : ∀ d, d ≤ 200 → d + 2 ≤ rm.frames ∧ 64 * (d + 2) ≤ rm.locals ∧ nc ≤ rm.cells ∧ ns ≤ rm.slots) (h : IV σ) (next : ∀ σ2 : jr_Sg, IV σ2 → jz_R p l e rm s m args below meth c A nc ns Q (jq_up G) mi_L_law 1919 [some (.ref 1400), some (.ref 0), some (.ref 46), some (.int (nI i))] [] σ2) : jz_R p l e rm s m args below meth c A nc ns Q (jq_up G) mi_L_law 1199 [some (.ref 1400), some (.ref 0), some (.ref 46), some (.int (nI i))] [] σ := by
  refine jz_aload_n hC 1 1200 dL_law_1199 rfl rfl rfl ?_
  refine jz_aload_n hC 0 1201 dL_law_1200 rfl rfl rfl ?_
  refine jz_iload_n hC 3 1202 dL_law_1201 rfl rfl rfl ?_
  refine jz_iconst hC (nI 1) 1203 dL_law_1202 rfl rfl ?_
  refine jz_iadd hC 1204 dL_law_1203 rfl ?_
  rw [nI_add]
  refine jz_sld hC hX hbl hbA hb0 rfl (by omega) (by omega) 1205 dL_law_1204 rfl ?_
  refine jz_P hC (d := 110) (As := [.int (xs (i + 1))]) ok_L_135 rfl rfl rfl (Nat.le_of_ble_eq_true rfl) (hR 110 (by decide)) 1208 dL_law_1205 rfl rfl (pp_needs (d := 90) h) (fun x σ1 h1 => ?_)
  refine jz_aload_n hC 2 1209 dL_law_1208 rfl rfl rfl ?_
  refine jz_aload_n hC 0 1210 dL_law_1209 rfl rfl rfl ?_
  refine jz_iload_n hC 3 1211 dL_law_1210 rfl rfl rfl ?_
  refine jz_iconst hC (nI 1) 1212 dL_law_1211 rfl rfl ?_
  refine jz_iadd hC 1213 dL_law_1212 rfl ?_
  rw [nI_add]
  refine jz_sld hC hX hbl hbA hb0 rfl (by omega) (by omega) 1214 dL_law_1213 rfl ?_
  refine jz_Q hC (d := 110) (As := [.int (xs (i + 1))]) ok_L_138 rfl rfl (Nat.le_of_ble_eq_true rfl) (hR 110 (by decide)) 1217 dL_law_1214 rfl rfl h1 (fun σ2 h2 => ?_)
  refine jz_icmp_eq hC 1919 1220 dL_law_1217 rfl rfl (fun q1217 => ?_) (fun q => absurd rfl q)
  exact next σ2 h2
theorem law_30 (hC : jz_C p s m args c A (jq_up G) mi_L_law) {b N i : Nat} {xs : Nat → Int32} (hX : va_X b N xs s s.heap) (hbl : b < s.heap.size) (hbA : ¬ A b) (hb0 : G.2.2 1400 = b) (hN : N ≤ 3584) (hi : i + 7 ≤ N) (hR : ∀ d, d ≤ 200 → d + 2 ≤ rm.frames ∧ 64 * (d + 2) ≤ rm.locals ∧ nc ≤ rm.cells ∧ ns ≤ rm.slots) (h : IV σ) (next : ∀ σ2 : jr_Sg, IV σ2 → jz_R p l e rm s m args below meth c A nc ns Q (jq_up G) mi_L_law 1919 [some (.ref 1400), some (.ref 0), some (.ref 46), some (.int (nI i))] [] σ2) : jz_R p l e rm s m args below meth c A nc ns Q (jq_up G) mi_L_law 1222 [some (.ref 1400), some (.ref 0), some (.ref 46), some (.int (nI i))] [] σ := by
  refine jz_aload_n hC 1 1223 dL_law_1222 rfl rfl rfl ?_
  refine jz_aload_n hC 0 1224 dL_law_1223 rfl rfl rfl ?_
  refine jz_iload_n hC 3 1225 dL_law_1224 rfl rfl rfl ?_
  refine jz_iconst hC (nI 1) 1226 dL_law_1225 rfl rfl ?_
  refine jz_iadd hC 1227 dL_law_1226 rfl ?_
  rw [nI_add]
  refine jz_sld hC hX hbl hbA hb0 rfl (by omega) (by omega) 1228 dL_law_1227 rfl ?_
  refine jz_aload_n hC 0 1229 dL_law_1228 rfl rfl rfl ?_
  refine jz_iload_n hC 3 1230 dL_law_1229 rfl rfl rfl ?_
  refine jz_iconst hC (nI 2) 1231 dL_law_1230 rfl rfl ?_
  refine jz_iadd hC 1232 dL_law_1231 rfl ?_
  rw [nI_add]
  refine jz_sld hC hX hbl hbA hb0 rfl (by omega) (by omega) 1233 dL_law_1232 rfl ?_
  refine jz_P hC (d := 110) (As := [.int (xs (i + 1)), .int (xs (i + 2))]) ok_L_139 rfl rfl rfl (Nat.le_of_ble_eq_true rfl) (hR 110 (by decide)) 1236 dL_law_1233 rfl rfl (pp_asked (d := 90) h) (fun x σ1 h1 => ?_)
  refine jz_aload_n hC 2 1237 dL_law_1236 rfl rfl rfl ?_
  refine jz_aload_n hC 0 1238 dL_law_1237 rfl rfl rfl ?_
  refine jz_iload_n hC 3 1239 dL_law_1238 rfl rfl rfl ?_
  refine jz_iconst hC (nI 1) 1240 dL_law_1239 rfl rfl ?_
  refine jz_iadd hC 1241 dL_law_1240 rfl ?_
  rw [nI_add]
  refine jz_sld hC hX hbl hbA hb0 rfl (by omega) (by omega) 1242 dL_law_1241 rfl ?_
  refine jz_aload_n hC 0 1243 dL_law_1242 rfl rfl rfl ?_
  refine jz_iload_n hC 3 1244 dL_law_1243 rfl rfl rfl ?_
  refine jz_iconst hC (nI 2) 1245 dL_law_1244 rfl rfl ?_
  refine jz_iadd hC 1246 dL_law_1245 rfl ?_
  rw [nI_add]
  refine jz_sld hC hX hbl hbA hb0 rfl (by omega) (by omega) 1247 dL_law_1246 rfl ?_
  refine jz_Q hC (d := 110) (As := [.int (xs (i + 1)), .int (xs (i + 2))]) ok_L_142 rfl rfl (Nat.le_of_ble_eq_true rfl) (hR 110 (by decide)) 1250 dL_law_1247 rfl rfl h1 (fun σ2 h2 => ?_)
  refine jz_icmp_eq hC 1919 1253 dL_law_1250 rfl rfl (fun q1250 => ?_) (fun q => absurd rfl q)
  exact next σ2 h2
theorem law_31 (hC : jz_C p s m args c A (jq_up G) mi_L_law) {b N i : Nat} {xs : Nat → Int32} (hX : va_X b N xs s s.heap) (hbl : b < s.heap.size) (hbA : ¬ A b) (hb0 : G.2.2 1400 = b) (hN : N ≤ 3584) (hi : i + 7 ≤ N) (hR : ∀ d, d ≤ 200 → d + 2 ≤ rm.frames ∧ 64 * (d + 2) ≤ rm.locals ∧ nc ≤ rm.cells ∧ ns ≤ rm.slots) (h : IV σ) (next : ∀ σ2 : jr_Sg, IV σ2 → jz_R p l e rm s m args below meth c A nc ns Q (jq_up G) mi_L_law 1919 [some (.ref 1400), some (.ref 0), some (.ref 46), some (.int (nI i))] [] σ2) : jz_R p l e rm s m args below meth c A nc ns Q (jq_up G) mi_L_law 1255 [some (.ref 1400), some (.ref 0), some (.ref 46), some (.int (nI i))] [] σ := by
  refine jz_aload_n hC 1 1256 dL_law_1255 rfl rfl rfl ?_
  refine jz_aload_n hC 0 1257 dL_law_1256 rfl rfl rfl ?_
  refine jz_iload_n hC 3 1258 dL_law_1257 rfl rfl rfl ?_
  refine jz_iconst hC (nI 1) 1259 dL_law_1258 rfl rfl ?_
  refine jz_iadd hC 1260 dL_law_1259 rfl ?_
  rw [nI_add]
  refine jz_sld hC hX hbl hbA hb0 rfl (by omega) (by omega) 1261 dL_law_1260 rfl ?_
  refine jz_aload_n hC 0 1262 dL_law_1261 rfl rfl rfl ?_
  refine jz_iload_n hC 3 1263 dL_law_1262 rfl rfl rfl ?_
  refine jz_iconst hC (nI 2) 1264 dL_law_1263 rfl rfl ?_
  refine jz_iadd hC 1265 dL_law_1264 rfl ?_
  rw [nI_add]
  refine jz_sld hC hX hbl hbA hb0 rfl (by omega) (by omega) 1266 dL_law_1265 rfl ?_
  refine jz_aload_n hC 0 1267 dL_law_1266 rfl rfl rfl ?_
  refine jz_iload_n hC 3 1268 dL_law_1267 rfl rfl rfl ?_
  refine jz_iconst hC (nI 3) 1269 dL_law_1268 rfl rfl ?_
  refine jz_iadd hC 1270 dL_law_1269 rfl ?_
  rw [nI_add]
  refine jz_sld hC hX hbl hbA hb0 rfl (by omega) (by omega) 1271 dL_law_1270 rfl ?_
  refine jz_aload_n hC 0 1272 dL_law_1271 rfl rfl rfl ?_
  refine jz_iload_n hC 3 1273 dL_law_1272 rfl rfl rfl ?_
  refine jz_iconst hC (nI 4) 1274 dL_law_1273 rfl rfl ?_
  refine jz_iadd hC 1275 dL_law_1274 rfl ?_
  rw [nI_add]
  refine jz_sld hC hX hbl hbA hb0 rfl (by omega) (by omega) 1276 dL_law_1275 rfl ?_
  refine jz_PL hC (d := 110) (As := [.int (xs (i + 1)), .int (xs (i + 2)), .int (xs (i + 3)), .int (xs (i + 4))]) ok_L_143 rfl rfl rfl (Nat.le_of_ble_eq_true rfl) (hR 110 (by decide)) 1279 dL_law_1276 rfl rfl (pp_guilty (d := 90) h) (fun x σ1 h1 => ?_)
  refine jz_aload_n hC 2 1280 dL_law_1279 rfl rfl rfl ?_
  refine jz_aload_n hC 0 1281 dL_law_1280 rfl rfl rfl ?_
  refine jz_iload_n hC 3 1282 dL_law_1281 rfl rfl rfl ?_
  refine jz_iconst hC (nI 1) 1283 dL_law_1282 rfl rfl ?_
  refine jz_iadd hC 1284 dL_law_1283 rfl ?_
  rw [nI_add]
  refine jz_sld hC hX hbl hbA hb0 rfl (by omega) (by omega) 1285 dL_law_1284 rfl ?_
  refine jz_aload_n hC 0 1286 dL_law_1285 rfl rfl rfl ?_
  refine jz_iload_n hC 3 1287 dL_law_1286 rfl rfl rfl ?_
  refine jz_iconst hC (nI 2) 1288 dL_law_1287 rfl rfl ?_
  refine jz_iadd hC 1289 dL_law_1288 rfl ?_
  rw [nI_add]
  refine jz_sld hC hX hbl hbA hb0 rfl (by omega) (by omega) 1290 dL_law_1289 rfl ?_
  refine jz_aload_n hC 0 1291 dL_law_1290 rfl rfl rfl ?_
  refine jz_iload_n hC 3 1292 dL_law_1291 rfl rfl rfl ?_
  refine jz_iconst hC (nI 3) 1293 dL_law_1292 rfl rfl ?_
  refine jz_iadd hC 1294 dL_law_1293 rfl ?_
  rw [nI_add]
  refine jz_sld hC hX hbl hbA hb0 rfl (by omega) (by omega) 1295 dL_law_1294 rfl ?_
  refine jz_aload_n hC 0 1296 dL_law_1295 rfl rfl rfl ?_
  refine jz_iload_n hC 3 1297 dL_law_1296 rfl rfl rfl ?_
  refine jz_iconst hC (nI 4) 1298 dL_law_1297 rfl rfl ?_
  refine jz_iadd hC 1299 dL_law_1298 rfl ?_
  rw [nI_add]
  refine jz_sld hC hX hbl hbA hb0 rfl (by omega) (by omega) 1300 dL_law_1299 rfl ?_
  refine jz_Q hC (d := 110) (As := [.int (xs (i + 1)), .int (xs (i + 2)), .int (xs (i + 3)), .int (xs (i + 4))]) ok_L_147 rfl rfl (Nat.le_of_ble_eq_true rfl) (hR 110 (by decide)) 1303 dL_law_1300 rfl rfl h1 (fun σ2 h2 => ?_)
  refine jz_lcmp hC 1304 dL_law_1303 rfl ?_
  refine jz_if_eq hC 1919 1307 dL_law_1304 rfl rfl (fun q1304 => ?_) (fun q => absurd (lg_cmp_rf _) q)
  exact next σ2 h2
theorem law_32 (hC : jz_C p s m args c A (jq_up G) mi_L_law) {b N i : Nat} {xs : Nat → Int32} (hX : va_X b N xs s s.heap) (hbl : b < s.heap.size) (hbA : ¬ A b) (hb0 : G.2.2 1400 = b) (hN : N ≤ 3584) (hi : i + 7 ≤ N) (hR : ∀ d, d ≤ 200 → d + 2 ≤ rm.frames ∧ 64 * (d + 2) ≤ rm.locals ∧ nc ≤ rm.cells ∧ ns ≤ rm.slots) (h : IV σ) (next : ∀ σ2 : jr_Sg, IV σ2 → jz_R p l e rm s m args below meth c A nc ns Q (jq_up G) mi_L_law 1919 [some (.ref 1400), some (.ref 0), some (.ref 46), some (.int (nI i))] [] σ2) : jz_R p l e rm s m args below meth c A nc ns Q (jq_up G) mi_L_law 1309 [some (.ref 1400), some (.ref 0), some (.ref 46), some (.int (nI i))] [] σ := by
  refine jz_aload_n hC 1 1310 dL_law_1309 rfl rfl rfl ?_
  refine jz_aload_n hC 0 1311 dL_law_1310 rfl rfl rfl ?_
  refine jz_iload_n hC 3 1312 dL_law_1311 rfl rfl rfl ?_
  refine jz_iconst hC (nI 1) 1313 dL_law_1312 rfl rfl ?_
  refine jz_iadd hC 1314 dL_law_1313 rfl ?_
  rw [nI_add]
  refine jz_sld hC hX hbl hbA hb0 rfl (by omega) (by omega) 1315 dL_law_1314 rfl ?_
  refine jz_aload_n hC 0 1316 dL_law_1315 rfl rfl rfl ?_
  refine jz_iload_n hC 3 1317 dL_law_1316 rfl rfl rfl ?_
  refine jz_iconst hC (nI 2) 1318 dL_law_1317 rfl rfl ?_
  refine jz_iadd hC 1319 dL_law_1318 rfl ?_
  rw [nI_add]
  refine jz_sld hC hX hbl hbA hb0 rfl (by omega) (by omega) 1320 dL_law_1319 rfl ?_
  refine jz_P hC (d := 110) (As := [.int (xs (i + 1)), .int (xs (i + 2))]) ok_L_148 rfl rfl rfl (Nat.le_of_ble_eq_true rfl) (hR 110 (by decide)) 1323 dL_law_1320 rfl rfl (pp_judge (d := 90) h) (fun x σ1 h1 => ?_)
  refine jz_aload_n hC 2 1324 dL_law_1323 rfl rfl rfl ?_
  refine jz_aload_n hC 0 1325 dL_law_1324 rfl rfl rfl ?_
  refine jz_iload_n hC 3 1326 dL_law_1325 rfl rfl rfl ?_
  refine jz_iconst hC (nI 1) 1327 dL_law_1326 rfl rfl ?_
  refine jz_iadd hC 1328 dL_law_1327 rfl ?_
  rw [nI_add]
  refine jz_sld hC hX hbl hbA hb0 rfl (by omega) (by omega) 1329 dL_law_1328 rfl ?_
  refine jz_aload_n hC 0 1330 dL_law_1329 rfl rfl rfl ?_
  refine jz_iload_n hC 3 1331 dL_law_1330 rfl rfl rfl ?_
  refine jz_iconst hC (nI 2) 1332 dL_law_1331 rfl rfl ?_
  refine jz_iadd hC 1333 dL_law_1332 rfl ?_
  rw [nI_add]
  refine jz_sld hC hX hbl hbA hb0 rfl (by omega) (by omega) 1334 dL_law_1333 rfl ?_
  refine jz_Q hC (d := 110) (As := [.int (xs (i + 1)), .int (xs (i + 2))]) ok_L_151 rfl rfl (Nat.le_of_ble_eq_true rfl) (hR 110 (by decide)) 1337 dL_law_1334 rfl rfl h1 (fun σ2 h2 => ?_)
  refine jz_icmp_eq hC 1919 1340 dL_law_1337 rfl rfl (fun q1337 => ?_) (fun q => absurd rfl q)
  exact next σ2 h2
theorem law_33 (hC : jz_C p s m args c A (jq_up G) mi_L_law) {b N i : Nat} {xs : Nat → Int32} (hX : va_X b N xs s s.heap) (hbl : b < s.heap.size) (hbA : ¬ A b) (hb0 : G.2.2 1400 = b) (hN : N ≤ 3584) (hi : i + 7 ≤ N) (hR : ∀ d, d ≤ 200 → d + 2 ≤ rm.frames ∧ 64 * (d + 2) ≤ rm.locals ∧ nc ≤ rm.cells ∧ ns ≤ rm.slots) (h : IV σ) (next : ∀ σ2 : jr_Sg, IV σ2 → jz_R p l e rm s m args below meth c A nc ns Q (jq_up G) mi_L_law 1919 [some (.ref 1400), some (.ref 0), some (.ref 46), some (.int (nI i))] [] σ2) : jz_R p l e rm s m args below meth c A nc ns Q (jq_up G) mi_L_law 1342 [some (.ref 1400), some (.ref 0), some (.ref 46), some (.int (nI i))] [] σ := by
  refine jz_aload_n hC 1 1343 dL_law_1342 rfl rfl rfl ?_
  refine jz_aload_n hC 0 1344 dL_law_1343 rfl rfl rfl ?_
  refine jz_iload_n hC 3 1345 dL_law_1344 rfl rfl rfl ?_
  refine jz_iconst hC (nI 1) 1346 dL_law_1345 rfl rfl ?_
  refine jz_iadd hC 1347 dL_law_1346 rfl ?_
  rw [nI_add]
  refine jz_sld hC hX hbl hbA hb0 rfl (by omega) (by omega) 1348 dL_law_1347 rfl ?_
  refine jz_P hC (d := 110) (As := [.int (xs (i + 1))]) ok_L_152 rfl rfl rfl (Nat.le_of_ble_eq_true rfl) (hR 110 (by decide)) 1351 dL_law_1348 rfl rfl (pp_whose (d := 90) h) (fun x σ1 h1 => ?_)
  refine jz_aload_n hC 2 1352 dL_law_1351 rfl rfl rfl ?_
  refine jz_aload_n hC 0 1353 dL_law_1352 rfl rfl rfl ?_
  refine jz_iload_n hC 3 1354 dL_law_1353 rfl rfl rfl ?_
  refine jz_iconst hC (nI 1) 1355 dL_law_1354 rfl rfl ?_
  refine jz_iadd hC 1356 dL_law_1355 rfl ?_
  rw [nI_add]
  refine jz_sld hC hX hbl hbA hb0 rfl (by omega) (by omega) 1357 dL_law_1356 rfl ?_
  refine jz_Q hC (d := 110) (As := [.int (xs (i + 1))]) ok_L_155 rfl rfl (Nat.le_of_ble_eq_true rfl) (hR 110 (by decide)) 1360 dL_law_1357 rfl rfl h1 (fun σ2 h2 => ?_)
  refine jz_icmp_eq hC 1919 1363 dL_law_1360 rfl rfl (fun q1360 => ?_) (fun q => absurd rfl q)
  exact next σ2 h2
theorem law_34 (hC : jz_C p s m args c A (jq_up G) mi_L_law) {b N i : Nat} {xs : Nat → Int32} (hX : va_X b N xs s s.heap) (hbl : b < s.heap.size) (hbA : ¬ A b) (hb0 : G.2.2 1400 = b) (hN : N ≤ 3584) (hi : i + 7 ≤ N) (hR : ∀ d, d ≤ 200 → d + 2 ≤ rm.frames ∧ 64 * (d + 2) ≤ rm.locals ∧ nc ≤ rm.cells ∧ ns ≤ rm.slots) (h : IV σ) (next : ∀ σ2 : jr_Sg, IV σ2 → jz_R p l e rm s m args below meth c A nc ns Q (jq_up G) mi_L_law 1919 [some (.ref 1400), some (.ref 0), some (.ref 46), some (.int (nI i))] [] σ2) : jz_R p l e rm s m args below meth c A nc ns Q (jq_up G) mi_L_law 1365 [some (.ref 1400), some (.ref 0), some (.ref 46), some (.int (nI i))] [] σ := by
  refine jz_aload_n hC 1 1366 dL_law_1365 rfl rfl rfl ?_
  refine jz_aload_n hC 0 1367 dL_law_1366 rfl rfl rfl ?_
  refine jz_iload_n hC 3 1368 dL_law_1367 rfl rfl rfl ?_
  refine jz_iconst hC (nI 1) 1369 dL_law_1368 rfl rfl ?_
  refine jz_iadd hC 1370 dL_law_1369 rfl ?_
  rw [nI_add]
  refine jz_sld hC hX hbl hbA hb0 rfl (by omega) (by omega) 1371 dL_law_1370 rfl ?_
  refine jz_aload_n hC 0 1372 dL_law_1371 rfl rfl rfl ?_
  refine jz_iload_n hC 3 1373 dL_law_1372 rfl rfl rfl ?_
  refine jz_iconst hC (nI 2) 1374 dL_law_1373 rfl rfl ?_
  refine jz_iadd hC 1375 dL_law_1374 rfl ?_
  rw [nI_add]
  refine jz_sld hC hX hbl hbA hb0 rfl (by omega) (by omega) 1376 dL_law_1375 rfl ?_
  refine jz_aload_n hC 0 1377 dL_law_1376 rfl rfl rfl ?_
  refine jz_iload_n hC 3 1378 dL_law_1377 rfl rfl rfl ?_
  refine jz_iconst hC (nI 3) 1379 dL_law_1378 rfl rfl ?_
  refine jz_iadd hC 1380 dL_law_1379 rfl ?_
  rw [nI_add]
  refine jz_sld hC hX hbl hbA hb0 rfl (by omega) (by omega) 1381 dL_law_1380 rfl ?_
  refine jz_PL hC (d := 110) (As := [.int (xs (i + 1)), .int (xs (i + 2)), .int (xs (i + 3))]) ok_L_156 rfl rfl rfl (Nat.le_of_ble_eq_true rfl) (hR 110 (by decide)) 1384 dL_law_1381 rfl rfl (pp_began (d := 90) h) (fun x σ1 h1 => ?_)
  refine jz_aload_n hC 2 1385 dL_law_1384 rfl rfl rfl ?_
  refine jz_aload_n hC 0 1386 dL_law_1385 rfl rfl rfl ?_
  refine jz_iload_n hC 3 1387 dL_law_1386 rfl rfl rfl ?_
  refine jz_iconst hC (nI 1) 1388 dL_law_1387 rfl rfl ?_
  refine jz_iadd hC 1389 dL_law_1388 rfl ?_
  rw [nI_add]
  refine jz_sld hC hX hbl hbA hb0 rfl (by omega) (by omega) 1390 dL_law_1389 rfl ?_
  refine jz_aload_n hC 0 1391 dL_law_1390 rfl rfl rfl ?_
  refine jz_iload_n hC 3 1392 dL_law_1391 rfl rfl rfl ?_
  refine jz_iconst hC (nI 2) 1393 dL_law_1392 rfl rfl ?_
  refine jz_iadd hC 1394 dL_law_1393 rfl ?_
  rw [nI_add]
  refine jz_sld hC hX hbl hbA hb0 rfl (by omega) (by omega) 1395 dL_law_1394 rfl ?_
  refine jz_aload_n hC 0 1396 dL_law_1395 rfl rfl rfl ?_
  refine jz_iload_n hC 3 1397 dL_law_1396 rfl rfl rfl ?_
  refine jz_iconst hC (nI 3) 1398 dL_law_1397 rfl rfl ?_
  refine jz_iadd hC 1399 dL_law_1398 rfl ?_
  rw [nI_add]
  refine jz_sld hC hX hbl hbA hb0 rfl (by omega) (by omega) 1400 dL_law_1399 rfl ?_
  refine jz_Q hC (d := 110) (As := [.int (xs (i + 1)), .int (xs (i + 2)), .int (xs (i + 3))]) ok_L_160 rfl rfl (Nat.le_of_ble_eq_true rfl) (hR 110 (by decide)) 1403 dL_law_1400 rfl rfl h1 (fun σ2 h2 => ?_)
  refine jz_lcmp hC 1404 dL_law_1403 rfl ?_
  refine jz_if_eq hC 1919 1407 dL_law_1404 rfl rfl (fun q1404 => ?_) (fun q => absurd (lg_cmp_rf _) q)
  exact next σ2 h2
theorem law_35 (hC : jz_C p s m args c A (jq_up G) mi_L_law) {b N i : Nat} {xs : Nat → Int32} (hX : va_X b N xs s s.heap) (hbl : b < s.heap.size) (hbA : ¬ A b) (hb0 : G.2.2 1400 = b) (hN : N ≤ 3584) (hi : i + 7 ≤ N) (hR : ∀ d, d ≤ 200 → d + 2 ≤ rm.frames ∧ 64 * (d + 2) ≤ rm.locals ∧ nc ≤ rm.cells ∧ ns ≤ rm.slots) (h : IV σ) (next : ∀ σ2 : jr_Sg, IV σ2 → jz_R p l e rm s m args below meth c A nc ns Q (jq_up G) mi_L_law 1919 [some (.ref 1400), some (.ref 0), some (.ref 46), some (.int (nI i))] [] σ2) : jz_R p l e rm s m args below meth c A nc ns Q (jq_up G) mi_L_law 1409 [some (.ref 1400), some (.ref 0), some (.ref 46), some (.int (nI i))] [] σ := by
  refine jz_aload_n hC 1 1410 dL_law_1409 rfl rfl rfl ?_
  refine jz_aload_n hC 0 1411 dL_law_1410 rfl rfl rfl ?_
  refine jz_iload_n hC 3 1412 dL_law_1411 rfl rfl rfl ?_
  refine jz_iconst hC (nI 1) 1413 dL_law_1412 rfl rfl ?_
  refine jz_iadd hC 1414 dL_law_1413 rfl ?_
  rw [nI_add]
  refine jz_sld hC hX hbl hbA hb0 rfl (by omega) (by omega) 1415 dL_law_1414 rfl ?_
  refine jz_aload_n hC 0 1416 dL_law_1415 rfl rfl rfl ?_
  refine jz_iload_n hC 3 1417 dL_law_1416 rfl rfl rfl ?_
  refine jz_iconst hC (nI 2) 1418 dL_law_1417 rfl rfl ?_
  refine jz_iadd hC 1419 dL_law_1418 rfl ?_
  rw [nI_add]
  refine jz_sld hC hX hbl hbA hb0 rfl (by omega) (by omega) 1420 dL_law_1419 rfl ?_
  refine jz_aload_n hC 0 1421 dL_law_1420 rfl rfl rfl ?_
  refine jz_iload_n hC 3 1422 dL_law_1421 rfl rfl rfl ?_
  refine jz_iconst hC (nI 3) 1423 dL_law_1422 rfl rfl ?_
  refine jz_iadd hC 1424 dL_law_1423 rfl ?_
  rw [nI_add]
  refine jz_sld hC hX hbl hbA hb0 rfl (by omega) (by omega) 1425 dL_law_1424 rfl ?_
  refine jz_P hC (d := 110) (As := [.int (xs (i + 1)), .int (xs (i + 2)), .int (xs (i + 3))]) ok_L_161 rfl rfl rfl (Nat.le_of_ble_eq_true rfl) (hR 110 (by decide)) 1428 dL_law_1425 rfl rfl (pp_through (d := 90) h) (fun x σ1 h1 => ?_)
  refine jz_aload_n hC 2 1429 dL_law_1428 rfl rfl rfl ?_
  refine jz_aload_n hC 0 1430 dL_law_1429 rfl rfl rfl ?_
  refine jz_iload_n hC 3 1431 dL_law_1430 rfl rfl rfl ?_
  refine jz_iconst hC (nI 1) 1432 dL_law_1431 rfl rfl ?_
  refine jz_iadd hC 1433 dL_law_1432 rfl ?_
  rw [nI_add]
  refine jz_sld hC hX hbl hbA hb0 rfl (by omega) (by omega) 1434 dL_law_1433 rfl ?_
  refine jz_aload_n hC 0 1435 dL_law_1434 rfl rfl rfl ?_
  refine jz_iload_n hC 3 1436 dL_law_1435 rfl rfl rfl ?_
  refine jz_iconst hC (nI 2) 1437 dL_law_1436 rfl rfl ?_
  refine jz_iadd hC 1438 dL_law_1437 rfl ?_
  rw [nI_add]
  refine jz_sld hC hX hbl hbA hb0 rfl (by omega) (by omega) 1439 dL_law_1438 rfl ?_
  refine jz_aload_n hC 0 1440 dL_law_1439 rfl rfl rfl ?_
  refine jz_iload_n hC 3 1441 dL_law_1440 rfl rfl rfl ?_
  refine jz_iconst hC (nI 3) 1442 dL_law_1441 rfl rfl ?_
  refine jz_iadd hC 1443 dL_law_1442 rfl ?_
  rw [nI_add]
  refine jz_sld hC hX hbl hbA hb0 rfl (by omega) (by omega) 1444 dL_law_1443 rfl ?_
  refine jz_Q hC (d := 110) (As := [.int (xs (i + 1)), .int (xs (i + 2)), .int (xs (i + 3))]) ok_L_164 rfl rfl (Nat.le_of_ble_eq_true rfl) (hR 110 (by decide)) 1447 dL_law_1444 rfl rfl h1 (fun σ2 h2 => ?_)
  refine jz_icmp_eq hC 1919 1450 dL_law_1447 rfl rfl (fun q1447 => ?_) (fun q => absurd rfl q)
  exact next σ2 h2
theorem law_36 (hC : jz_C p s m args c A (jq_up G) mi_L_law) {b N i : Nat} {xs : Nat → Int32} (hX : va_X b N xs s s.heap) (hbl : b < s.heap.size) (hbA : ¬ A b) (hb0 : G.2.2 1400 = b) (hN : N ≤ 3584) (hi : i + 7 ≤ N) (hR : ∀ d, d ≤ 200 → d + 2 ≤ rm.frames ∧ 64 * (d + 2) ≤ rm.locals ∧ nc ≤ rm.cells ∧ ns ≤ rm.slots) (h : IV σ) (next : ∀ σ2 : jr_Sg, IV σ2 → jz_R p l e rm s m args below meth c A nc ns Q (jq_up G) mi_L_law 1919 [some (.ref 1400), some (.ref 0), some (.ref 46), some (.int (nI i))] [] σ2) : jz_R p l e rm s m args below meth c A nc ns Q (jq_up G) mi_L_law 1452 [some (.ref 1400), some (.ref 0), some (.ref 46), some (.int (nI i))] [] σ := by
  refine jz_aload_n hC 1 1453 dL_law_1452 rfl rfl rfl ?_
  refine jz_aload_n hC 0 1454 dL_law_1453 rfl rfl rfl ?_
  refine jz_iload_n hC 3 1455 dL_law_1454 rfl rfl rfl ?_
  refine jz_iconst hC (nI 1) 1456 dL_law_1455 rfl rfl ?_
  refine jz_iadd hC 1457 dL_law_1456 rfl ?_
  rw [nI_add]
  refine jz_sld hC hX hbl hbA hb0 rfl (by omega) (by omega) 1458 dL_law_1457 rfl ?_
  refine jz_aload_n hC 0 1459 dL_law_1458 rfl rfl rfl ?_
  refine jz_iload_n hC 3 1460 dL_law_1459 rfl rfl rfl ?_
  refine jz_iconst hC (nI 2) 1461 dL_law_1460 rfl rfl ?_
  refine jz_iadd hC 1462 dL_law_1461 rfl ?_
  rw [nI_add]
  refine jz_sld hC hX hbl hbA hb0 rfl (by omega) (by omega) 1463 dL_law_1462 rfl ?_
  refine jz_aload_n hC 0 1464 dL_law_1463 rfl rfl rfl ?_
  refine jz_iload_n hC 3 1465 dL_law_1464 rfl rfl rfl ?_
  refine jz_iconst hC (nI 3) 1466 dL_law_1465 rfl rfl ?_
  refine jz_iadd hC 1467 dL_law_1466 rfl ?_
  rw [nI_add]
  refine jz_sld hC hX hbl hbA hb0 rfl (by omega) (by omega) 1468 dL_law_1467 rfl ?_
  refine jz_P hC (d := 110) (As := [.int (xs (i + 1)), .int (xs (i + 2)), .int (xs (i + 3))]) ok_L_165 rfl rfl rfl (Nat.le_of_ble_eq_true rfl) (hR 110 (by decide)) 1471 dL_law_1468 rfl rfl (pp_kinds (d := 90) h) (fun x σ1 h1 => ?_)
  refine jz_aload_n hC 2 1472 dL_law_1471 rfl rfl rfl ?_
  refine jz_aload_n hC 0 1473 dL_law_1472 rfl rfl rfl ?_
  refine jz_iload_n hC 3 1474 dL_law_1473 rfl rfl rfl ?_
  refine jz_iconst hC (nI 1) 1475 dL_law_1474 rfl rfl ?_
  refine jz_iadd hC 1476 dL_law_1475 rfl ?_
  rw [nI_add]
  refine jz_sld hC hX hbl hbA hb0 rfl (by omega) (by omega) 1477 dL_law_1476 rfl ?_
  refine jz_aload_n hC 0 1478 dL_law_1477 rfl rfl rfl ?_
  refine jz_iload_n hC 3 1479 dL_law_1478 rfl rfl rfl ?_
  refine jz_iconst hC (nI 2) 1480 dL_law_1479 rfl rfl ?_
  refine jz_iadd hC 1481 dL_law_1480 rfl ?_
  rw [nI_add]
  refine jz_sld hC hX hbl hbA hb0 rfl (by omega) (by omega) 1482 dL_law_1481 rfl ?_
  refine jz_aload_n hC 0 1483 dL_law_1482 rfl rfl rfl ?_
  refine jz_iload_n hC 3 1484 dL_law_1483 rfl rfl rfl ?_
  refine jz_iconst hC (nI 3) 1485 dL_law_1484 rfl rfl ?_
  refine jz_iadd hC 1486 dL_law_1485 rfl ?_
  rw [nI_add]
  refine jz_sld hC hX hbl hbA hb0 rfl (by omega) (by omega) 1487 dL_law_1486 rfl ?_
  refine jz_Q hC (d := 110) (As := [.int (xs (i + 1)), .int (xs (i + 2)), .int (xs (i + 3))]) ok_L_168 rfl rfl (Nat.le_of_ble_eq_true rfl) (hR 110 (by decide)) 1490 dL_law_1487 rfl rfl h1 (fun σ2 h2 => ?_)
  refine jz_icmp_eq hC 1919 1493 dL_law_1490 rfl rfl (fun q1490 => ?_) (fun q => absurd rfl q)
  exact next σ2 h2
theorem law_37 (hC : jz_C p s m args c A (jq_up G) mi_L_law) {b N i : Nat} {xs : Nat → Int32} (hX : va_X b N xs s s.heap) (hbl : b < s.heap.size) (hbA : ¬ A b) (hb0 : G.2.2 1400 = b) (hN : N ≤ 3584) (hi : i + 7 ≤ N) (hR : ∀ d, d ≤ 200 → d + 2 ≤ rm.frames ∧ 64 * (d + 2) ≤ rm.locals ∧ nc ≤ rm.cells ∧ ns ≤ rm.slots) (h : IV σ) (next : ∀ σ2 : jr_Sg, IV σ2 → jz_R p l e rm s m args below meth c A nc ns Q (jq_up G) mi_L_law 1919 [some (.ref 1400), some (.ref 0), some (.ref 46), some (.int (nI i))] [] σ2) : jz_R p l e rm s m args below meth c A nc ns Q (jq_up G) mi_L_law 1495 [some (.ref 1400), some (.ref 0), some (.ref 46), some (.int (nI i))] [] σ := by
  refine jz_aload_n hC 1 1496 dL_law_1495 rfl rfl rfl ?_
  refine jz_aload_n hC 0 1497 dL_law_1496 rfl rfl rfl ?_
  refine jz_iload_n hC 3 1498 dL_law_1497 rfl rfl rfl ?_
  refine jz_iconst hC (nI 1) 1499 dL_law_1498 rfl rfl ?_
  refine jz_iadd hC 1500 dL_law_1499 rfl ?_
  rw [nI_add]
  refine jz_sld hC hX hbl hbA hb0 rfl (by omega) (by omega) 1501 dL_law_1500 rfl ?_
  refine jz_aload_n hC 0 1502 dL_law_1501 rfl rfl rfl ?_
  refine jz_iload_n hC 3 1503 dL_law_1502 rfl rfl rfl ?_
  refine jz_iconst hC (nI 2) 1504 dL_law_1503 rfl rfl ?_
  refine jz_iadd hC 1505 dL_law_1504 rfl ?_
  rw [nI_add]
  refine jz_sld hC hX hbl hbA hb0 rfl (by omega) (by omega) 1506 dL_law_1505 rfl ?_
  refine jz_P hC (d := 110) (As := [.int (xs (i + 1)), .int (xs (i + 2))]) ok_L_169 rfl rfl rfl (Nat.le_of_ble_eq_true rfl) (hR 110 (by decide)) 1509 dL_law_1506 rfl rfl (pp_laws (d := 90) h) (fun x σ1 h1 => ?_)
  refine jz_aload_n hC 2 1510 dL_law_1509 rfl rfl rfl ?_
  refine jz_aload_n hC 0 1511 dL_law_1510 rfl rfl rfl ?_
  refine jz_iload_n hC 3 1512 dL_law_1511 rfl rfl rfl ?_
  refine jz_iconst hC (nI 1) 1513 dL_law_1512 rfl rfl ?_
  refine jz_iadd hC 1514 dL_law_1513 rfl ?_
  rw [nI_add]
  refine jz_sld hC hX hbl hbA hb0 rfl (by omega) (by omega) 1515 dL_law_1514 rfl ?_
  refine jz_aload_n hC 0 1516 dL_law_1515 rfl rfl rfl ?_
  refine jz_iload_n hC 3 1517 dL_law_1516 rfl rfl rfl ?_
  refine jz_iconst hC (nI 2) 1518 dL_law_1517 rfl rfl ?_
  refine jz_iadd hC 1519 dL_law_1518 rfl ?_
  rw [nI_add]
  refine jz_sld hC hX hbl hbA hb0 rfl (by omega) (by omega) 1520 dL_law_1519 rfl ?_
  refine jz_Q hC (d := 110) (As := [.int (xs (i + 1)), .int (xs (i + 2))]) ok_L_172 rfl rfl (Nat.le_of_ble_eq_true rfl) (hR 110 (by decide)) 1523 dL_law_1520 rfl rfl h1 (fun σ2 h2 => ?_)
  refine jz_icmp_eq hC 1919 1526 dL_law_1523 rfl rfl (fun q1523 => ?_) (fun q => absurd rfl q)
  exact next σ2 h2
theorem law_38 (hC : jz_C p s m args c A (jq_up G) mi_L_law) {b N i : Nat} {xs : Nat → Int32} (hX : va_X b N xs s s.heap) (hbl : b < s.heap.size) (hbA : ¬ A b) (hb0 : G.2.2 1400 = b) (hN : N ≤ 3584) (hi : i + 7 ≤ N) (hR : ∀ d, d ≤ 200 → d + 2 ≤ rm.frames ∧ 64 * (d + 2) ≤ rm.locals ∧ nc ≤ rm.cells ∧ ns ≤ rm.slots) (h : IV σ) (next : ∀ σ2 : jr_Sg, IV σ2 → jz_R p l e rm s m args below meth c A nc ns Q (jq_up G) mi_L_law 1919 [some (.ref 1400), some (.ref 0), some (.ref 46), some (.int (nI i))] [] σ2) : jz_R p l e rm s m args below meth c A nc ns Q (jq_up G) mi_L_law 1528 [some (.ref 1400), some (.ref 0), some (.ref 46), some (.int (nI i))] [] σ := by
  refine jz_aload_n hC 1 1529 dL_law_1528 rfl rfl rfl ?_
  refine jz_aload_n hC 0 1530 dL_law_1529 rfl rfl rfl ?_
  refine jz_iload_n hC 3 1531 dL_law_1530 rfl rfl rfl ?_
  refine jz_iconst hC (nI 1) 1532 dL_law_1531 rfl rfl ?_
  refine jz_iadd hC 1533 dL_law_1532 rfl ?_
  rw [nI_add]
  refine jz_sld hC hX hbl hbA hb0 rfl (by omega) (by omega) 1534 dL_law_1533 rfl ?_
  refine jz_aload_n hC 0 1535 dL_law_1534 rfl rfl rfl ?_
  refine jz_iload_n hC 3 1536 dL_law_1535 rfl rfl rfl ?_
  refine jz_iconst hC (nI 2) 1537 dL_law_1536 rfl rfl ?_
  refine jz_iadd hC 1538 dL_law_1537 rfl ?_
  rw [nI_add]
  refine jz_sld hC hX hbl hbA hb0 rfl (by omega) (by omega) 1539 dL_law_1538 rfl ?_
  refine jz_aload_n hC 0 1540 dL_law_1539 rfl rfl rfl ?_
  refine jz_iload_n hC 3 1541 dL_law_1540 rfl rfl rfl ?_
  refine jz_iconst hC (nI 3) 1542 dL_law_1541 rfl rfl ?_
  refine jz_iadd hC 1543 dL_law_1542 rfl ?_
  rw [nI_add]
  refine jz_sld hC hX hbl hbA hb0 rfl (by omega) (by omega) 1544 dL_law_1543 rfl ?_
  refine jz_P hC (d := 110) (As := [.int (xs (i + 1)), .int (xs (i + 2)), .int (xs (i + 3))]) ok_L_173 rfl rfl rfl (Nat.le_of_ble_eq_true rfl) (hR 110 (by decide)) 1547 dL_law_1544 rfl rfl (pp_film (d := 90) h) (fun x σ1 h1 => ?_)
  refine jz_aload_n hC 2 1548 dL_law_1547 rfl rfl rfl ?_
  refine jz_aload_n hC 0 1549 dL_law_1548 rfl rfl rfl ?_
  refine jz_iload_n hC 3 1550 dL_law_1549 rfl rfl rfl ?_
  refine jz_iconst hC (nI 1) 1551 dL_law_1550 rfl rfl ?_
  refine jz_iadd hC 1552 dL_law_1551 rfl ?_
  rw [nI_add]
  refine jz_sld hC hX hbl hbA hb0 rfl (by omega) (by omega) 1553 dL_law_1552 rfl ?_
  refine jz_aload_n hC 0 1554 dL_law_1553 rfl rfl rfl ?_
  refine jz_iload_n hC 3 1555 dL_law_1554 rfl rfl rfl ?_
  refine jz_iconst hC (nI 2) 1556 dL_law_1555 rfl rfl ?_
  refine jz_iadd hC 1557 dL_law_1556 rfl ?_
  rw [nI_add]
  refine jz_sld hC hX hbl hbA hb0 rfl (by omega) (by omega) 1558 dL_law_1557 rfl ?_
  refine jz_aload_n hC 0 1559 dL_law_1558 rfl rfl rfl ?_
  refine jz_iload_n hC 3 1560 dL_law_1559 rfl rfl rfl ?_
  refine jz_iconst hC (nI 3) 1561 dL_law_1560 rfl rfl ?_
  refine jz_iadd hC 1562 dL_law_1561 rfl ?_
  rw [nI_add]
  refine jz_sld hC hX hbl hbA hb0 rfl (by omega) (by omega) 1563 dL_law_1562 rfl ?_
  refine jz_Q hC (d := 110) (As := [.int (xs (i + 1)), .int (xs (i + 2)), .int (xs (i + 3))]) ok_L_176 rfl rfl (Nat.le_of_ble_eq_true rfl) (hR 110 (by decide)) 1566 dL_law_1563 rfl rfl h1 (fun σ2 h2 => ?_)
  refine jz_icmp_eq hC 1919 1569 dL_law_1566 rfl rfl (fun q1566 => ?_) (fun q => absurd rfl q)
  exact next σ2 h2
theorem law_39 (hC : jz_C p s m args c A (jq_up G) mi_L_law) {b N i : Nat} {xs : Nat → Int32} (hX : va_X b N xs s s.heap) (hbl : b < s.heap.size) (hbA : ¬ A b) (hb0 : G.2.2 1400 = b) (hN : N ≤ 3584) (hi : i + 7 ≤ N) (hR : ∀ d, d ≤ 200 → d + 2 ≤ rm.frames ∧ 64 * (d + 2) ≤ rm.locals ∧ nc ≤ rm.cells ∧ ns ≤ rm.slots) (h : IV σ) (next : ∀ σ2 : jr_Sg, IV σ2 → jz_R p l e rm s m args below meth c A nc ns Q (jq_up G) mi_L_law 1919 [some (.ref 1400), some (.ref 0), some (.ref 46), some (.int (nI i))] [] σ2) : jz_R p l e rm s m args below meth c A nc ns Q (jq_up G) mi_L_law 1571 [some (.ref 1400), some (.ref 0), some (.ref 46), some (.int (nI i))] [] σ := by
  refine jz_aload_n hC 1 1572 dL_law_1571 rfl rfl rfl ?_
  refine jz_aload_n hC 0 1573 dL_law_1572 rfl rfl rfl ?_
  refine jz_iload_n hC 3 1574 dL_law_1573 rfl rfl rfl ?_
  refine jz_iconst hC (nI 1) 1575 dL_law_1574 rfl rfl ?_
  refine jz_iadd hC 1576 dL_law_1575 rfl ?_
  rw [nI_add]
  refine jz_sld hC hX hbl hbA hb0 rfl (by omega) (by omega) 1577 dL_law_1576 rfl ?_
  refine jz_aload_n hC 0 1578 dL_law_1577 rfl rfl rfl ?_
  refine jz_iload_n hC 3 1579 dL_law_1578 rfl rfl rfl ?_
  refine jz_iconst hC (nI 2) 1580 dL_law_1579 rfl rfl ?_
  refine jz_iadd hC 1581 dL_law_1580 rfl ?_
  rw [nI_add]
  refine jz_sld hC hX hbl hbA hb0 rfl (by omega) (by omega) 1582 dL_law_1581 rfl ?_
  refine jz_P hC (d := 110) (As := [.int (xs (i + 1)), .int (xs (i + 2))]) ok_L_177 rfl rfl rfl (Nat.le_of_ble_eq_true rfl) (hR 110 (by decide)) 1585 dL_law_1582 rfl rfl (pp_drawn (d := 90) h) (fun x σ1 h1 => ?_)
  refine jz_aload_n hC 2 1586 dL_law_1585 rfl rfl rfl ?_
  refine jz_aload_n hC 0 1587 dL_law_1586 rfl rfl rfl ?_
  refine jz_iload_n hC 3 1588 dL_law_1587 rfl rfl rfl ?_
  refine jz_iconst hC (nI 1) 1589 dL_law_1588 rfl rfl ?_
  refine jz_iadd hC 1590 dL_law_1589 rfl ?_
  rw [nI_add]
  refine jz_sld hC hX hbl hbA hb0 rfl (by omega) (by omega) 1591 dL_law_1590 rfl ?_
  refine jz_aload_n hC 0 1592 dL_law_1591 rfl rfl rfl ?_
  refine jz_iload_n hC 3 1593 dL_law_1592 rfl rfl rfl ?_
  refine jz_iconst hC (nI 2) 1594 dL_law_1593 rfl rfl ?_
  refine jz_iadd hC 1595 dL_law_1594 rfl ?_
  rw [nI_add]
  refine jz_sld hC hX hbl hbA hb0 rfl (by omega) (by omega) 1596 dL_law_1595 rfl ?_
  refine jz_Q hC (d := 110) (As := [.int (xs (i + 1)), .int (xs (i + 2))]) ok_L_180 rfl rfl (Nat.le_of_ble_eq_true rfl) (hR 110 (by decide)) 1599 dL_law_1596 rfl rfl h1 (fun σ2 h2 => ?_)
  refine jz_icmp_eq hC 1919 1602 dL_law_1599 rfl rfl (fun q1599 => ?_) (fun q => absurd rfl q)
  exact next σ2 h2
theorem law_40 (hC : jz_C p s m args c A (jq_up G) mi_L_law) {b N i : Nat} {xs : Nat → Int32} (hX : va_X b N xs s s.heap) (hbl : b < s.heap.size) (hbA : ¬ A b) (hb0 : G.2.2 1400 = b) (hN : N ≤ 3584) (hi : i + 7 ≤ N) (hR : ∀ d, d ≤ 200 → d + 2 ≤ rm.frames ∧ 64 * (d + 2) ≤ rm.locals ∧ nc ≤ rm.cells ∧ ns ≤ rm.slots) (h : IV σ) (next : ∀ σ2 : jr_Sg, IV σ2 → jz_R p l e rm s m args below meth c A nc ns Q (jq_up G) mi_L_law 1919 [some (.ref 1400), some (.ref 0), some (.ref 46), some (.int (nI i))] [] σ2) : jz_R p l e rm s m args below meth c A nc ns Q (jq_up G) mi_L_law 1604 [some (.ref 1400), some (.ref 0), some (.ref 46), some (.int (nI i))] [] σ := by
  refine jz_aload_n hC 1 1605 dL_law_1604 rfl rfl rfl ?_
  refine jz_aload_n hC 0 1606 dL_law_1605 rfl rfl rfl ?_
  refine jz_iload_n hC 3 1607 dL_law_1606 rfl rfl rfl ?_
  refine jz_iconst hC (nI 1) 1608 dL_law_1607 rfl rfl ?_
  refine jz_iadd hC 1609 dL_law_1608 rfl ?_
  rw [nI_add]
  refine jz_sld hC hX hbl hbA hb0 rfl (by omega) (by omega) 1610 dL_law_1609 rfl ?_
  refine jz_aload_n hC 0 1611 dL_law_1610 rfl rfl rfl ?_
  refine jz_iload_n hC 3 1612 dL_law_1611 rfl rfl rfl ?_
  refine jz_iconst hC (nI 2) 1613 dL_law_1612 rfl rfl ?_
  refine jz_iadd hC 1614 dL_law_1613 rfl ?_
  rw [nI_add]
  refine jz_sld hC hX hbl hbA hb0 rfl (by omega) (by omega) 1615 dL_law_1614 rfl ?_
  refine jz_aload_n hC 0 1616 dL_law_1615 rfl rfl rfl ?_
  refine jz_iload_n hC 3 1617 dL_law_1616 rfl rfl rfl ?_
  refine jz_iconst hC (nI 3) 1618 dL_law_1617 rfl rfl ?_
  refine jz_iadd hC 1619 dL_law_1618 rfl ?_
  rw [nI_add]
  refine jz_sld hC hX hbl hbA hb0 rfl (by omega) (by omega) 1620 dL_law_1619 rfl ?_
  refine jz_aload_n hC 0 1621 dL_law_1620 rfl rfl rfl ?_
  refine jz_iload_n hC 3 1622 dL_law_1621 rfl rfl rfl ?_
  refine jz_iconst hC (nI 4) 1623 dL_law_1622 rfl rfl ?_
  refine jz_iadd hC 1624 dL_law_1623 rfl ?_
  rw [nI_add]
  refine jz_sld hC hX hbl hbA hb0 rfl (by omega) (by omega) 1625 dL_law_1624 rfl ?_
  refine jz_PL hC (d := 110) (As := [.int (xs (i + 1)), .int (xs (i + 2)), .int (xs (i + 3)), .int (xs (i + 4))]) ok_L_181 rfl rfl rfl (Nat.le_of_ble_eq_true rfl) (hR 110 (by decide)) 1628 dL_law_1625 rfl rfl (pp_odds (d := 90) h) (fun x σ1 h1 => ?_)
  refine jz_aload_n hC 2 1629 dL_law_1628 rfl rfl rfl ?_
  refine jz_aload_n hC 0 1630 dL_law_1629 rfl rfl rfl ?_
  refine jz_iload_n hC 3 1631 dL_law_1630 rfl rfl rfl ?_
  refine jz_iconst hC (nI 1) 1632 dL_law_1631 rfl rfl ?_
  refine jz_iadd hC 1633 dL_law_1632 rfl ?_
  rw [nI_add]
  refine jz_sld hC hX hbl hbA hb0 rfl (by omega) (by omega) 1634 dL_law_1633 rfl ?_
  refine jz_aload_n hC 0 1635 dL_law_1634 rfl rfl rfl ?_
  refine jz_iload_n hC 3 1636 dL_law_1635 rfl rfl rfl ?_
  refine jz_iconst hC (nI 2) 1637 dL_law_1636 rfl rfl ?_
  refine jz_iadd hC 1638 dL_law_1637 rfl ?_
  rw [nI_add]
  refine jz_sld hC hX hbl hbA hb0 rfl (by omega) (by omega) 1639 dL_law_1638 rfl ?_
  refine jz_aload_n hC 0 1640 dL_law_1639 rfl rfl rfl ?_
  refine jz_iload_n hC 3 1641 dL_law_1640 rfl rfl rfl ?_
  refine jz_iconst hC (nI 3) 1642 dL_law_1641 rfl rfl ?_
  refine jz_iadd hC 1643 dL_law_1642 rfl ?_
  rw [nI_add]
  refine jz_sld hC hX hbl hbA hb0 rfl (by omega) (by omega) 1644 dL_law_1643 rfl ?_
  refine jz_aload_n hC 0 1645 dL_law_1644 rfl rfl rfl ?_
  refine jz_iload_n hC 3 1646 dL_law_1645 rfl rfl rfl ?_
  refine jz_iconst hC (nI 4) 1647 dL_law_1646 rfl rfl ?_
  refine jz_iadd hC 1648 dL_law_1647 rfl ?_
  rw [nI_add]
  refine jz_sld hC hX hbl hbA hb0 rfl (by omega) (by omega) 1649 dL_law_1648 rfl ?_
  refine jz_Q hC (d := 110) (As := [.int (xs (i + 1)), .int (xs (i + 2)), .int (xs (i + 3)), .int (xs (i + 4))]) ok_L_184 rfl rfl (Nat.le_of_ble_eq_true rfl) (hR 110 (by decide)) 1652 dL_law_1649 rfl rfl h1 (fun σ2 h2 => ?_)
  refine jz_lcmp hC 1653 dL_law_1652 rfl ?_
  refine jz_if_eq hC 1919 1656 dL_law_1653 rfl rfl (fun q1653 => ?_) (fun q => absurd (lg_cmp_rf _) q)
  exact next σ2 h2
theorem law_41 (hC : jz_C p s m args c A (jq_up G) mi_L_law) {b N i : Nat} {xs : Nat → Int32} (hX : va_X b N xs s s.heap) (hbl : b < s.heap.size) (hbA : ¬ A b) (hb0 : G.2.2 1400 = b) (hN : N ≤ 3584) (hi : i + 7 ≤ N) (hR : ∀ d, d ≤ 200 → d + 2 ≤ rm.frames ∧ 64 * (d + 2) ≤ rm.locals ∧ nc ≤ rm.cells ∧ ns ≤ rm.slots) (h : IV σ) (next : ∀ σ2 : jr_Sg, IV σ2 → jz_R p l e rm s m args below meth c A nc ns Q (jq_up G) mi_L_law 1919 [some (.ref 1400), some (.ref 0), some (.ref 46), some (.int (nI i))] [] σ2) : jz_R p l e rm s m args below meth c A nc ns Q (jq_up G) mi_L_law 1658 [some (.ref 1400), some (.ref 0), some (.ref 46), some (.int (nI i))] [] σ := by
  refine jz_aload_n hC 1 1659 dL_law_1658 rfl rfl rfl ?_
  refine jz_P hC (d := 110) (As := []) ok_L_185 rfl rfl rfl (Nat.le_of_ble_eq_true rfl) (hR 110 (by decide)) 1662 dL_law_1659 rfl rfl (pp_image (d := 90) h) (fun x σ1 h1 => ?_)
  refine jz_aload_n hC 2 1663 dL_law_1662 rfl rfl rfl ?_
  refine jz_Q hC (d := 110) (As := []) ok_L_188 rfl rfl (Nat.le_of_ble_eq_true rfl) (hR 110 (by decide)) 1666 dL_law_1663 rfl rfl h1 (fun σ2 h2 => ?_)
  refine jz_icmp_eq hC 1919 1669 dL_law_1666 rfl rfl (fun q1666 => ?_) (fun q => absurd rfl q)
  exact next σ2 h2
theorem law_42 (hC : jz_C p s m args c A (jq_up G) mi_L_law) {b N i : Nat} {xs : Nat → Int32} (hX : va_X b N xs s s.heap) (hbl : b < s.heap.size) (hbA : ¬ A b) (hb0 : G.2.2 1400 = b) (hN : N ≤ 3584) (hi : i + 7 ≤ N) (hR : ∀ d, d ≤ 200 → d + 2 ≤ rm.frames ∧ 64 * (d + 2) ≤ rm.locals ∧ nc ≤ rm.cells ∧ ns ≤ rm.slots) (h : IV σ) (next : ∀ σ2 : jr_Sg, IV σ2 → jz_R p l e rm s m args below meth c A nc ns Q (jq_up G) mi_L_law 1919 [some (.ref 1400), some (.ref 0), some (.ref 46), some (.int (nI i))] [] σ2) : jz_R p l e rm s m args below meth c A nc ns Q (jq_up G) mi_L_law 1671 [some (.ref 1400), some (.ref 0), some (.ref 46), some (.int (nI i))] [] σ := by
  refine jz_aload_n hC 1 1672 dL_law_1671 rfl rfl rfl ?_
  refine jz_P hC (d := 110) (As := []) ok_L_189 rfl rfl rfl (Nat.le_of_ble_eq_true rfl) (hR 110 (by decide)) 1675 dL_law_1672 rfl rfl (pp_back (d := 90) h) (fun x σ1 h1 => ?_)
  refine jz_aload_n hC 2 1676 dL_law_1675 rfl rfl rfl ?_
  refine jz_Q hC (d := 110) (As := []) ok_L_192 rfl rfl (Nat.le_of_ble_eq_true rfl) (hR 110 (by decide)) 1679 dL_law_1676 rfl rfl h1 (fun σ2 h2 => ?_)
  refine jz_icmp_eq hC 1919 1682 dL_law_1679 rfl rfl (fun q1679 => ?_) (fun q => absurd rfl q)
  exact next σ2 h2
theorem law_43 (hC : jz_C p s m args c A (jq_up G) mi_L_law) {b N i : Nat} {xs : Nat → Int32} (hX : va_X b N xs s s.heap) (hbl : b < s.heap.size) (hbA : ¬ A b) (hb0 : G.2.2 1400 = b) (hN : N ≤ 3584) (hi : i + 7 ≤ N) (hR : ∀ d, d ≤ 200 → d + 2 ≤ rm.frames ∧ 64 * (d + 2) ≤ rm.locals ∧ nc ≤ rm.cells ∧ ns ≤ rm.slots) (h : IV σ) (next : ∀ σ2 : jr_Sg, IV σ2 → jz_R p l e rm s m args below meth c A nc ns Q (jq_up G) mi_L_law 1919 [some (.ref 1400), some (.ref 0), some (.ref 46), some (.int (nI i))] [] σ2) : jz_R p l e rm s m args below meth c A nc ns Q (jq_up G) mi_L_law 1684 [some (.ref 1400), some (.ref 0), some (.ref 46), some (.int (nI i))] [] σ := by
  refine jz_aload_n hC 1 1685 dL_law_1684 rfl rfl rfl ?_
  refine jz_aload_n hC 0 1686 dL_law_1685 rfl rfl rfl ?_
  refine jz_iload_n hC 3 1687 dL_law_1686 rfl rfl rfl ?_
  refine jz_iconst hC (nI 1) 1688 dL_law_1687 rfl rfl ?_
  refine jz_iadd hC 1689 dL_law_1688 rfl ?_
  rw [nI_add]
  refine jz_sld hC hX hbl hbA hb0 rfl (by omega) (by omega) 1690 dL_law_1689 rfl ?_
  refine jz_aload_n hC 0 1691 dL_law_1690 rfl rfl rfl ?_
  refine jz_iload_n hC 3 1692 dL_law_1691 rfl rfl rfl ?_
  refine jz_iconst hC (nI 2) 1693 dL_law_1692 rfl rfl ?_
  refine jz_iadd hC 1694 dL_law_1693 rfl ?_
  rw [nI_add]
  refine jz_sld hC hX hbl hbA hb0 rfl (by omega) (by omega) 1695 dL_law_1694 rfl ?_
  refine jz_aload_n hC 0 1696 dL_law_1695 rfl rfl rfl ?_
  refine jz_iload_n hC 3 1697 dL_law_1696 rfl rfl rfl ?_
  refine jz_iconst hC (nI 3) 1698 dL_law_1697 rfl rfl ?_
  refine jz_iadd hC 1699 dL_law_1698 rfl ?_
  rw [nI_add]
  refine jz_sld hC hX hbl hbA hb0 rfl (by omega) (by omega) 1700 dL_law_1699 rfl ?_
  refine jz_P hC (d := 110) (As := [.int (xs (i + 1)), .int (xs (i + 2)), .int (xs (i + 3))]) ok_L_193 rfl rfl rfl (Nat.le_of_ble_eq_true rfl) (hR 110 (by decide)) 1703 dL_law_1700 rfl rfl (pp_sheet (d := 90) h) (fun x σ1 h1 => ?_)
  refine jz_aload_n hC 2 1704 dL_law_1703 rfl rfl rfl ?_
  refine jz_aload_n hC 0 1705 dL_law_1704 rfl rfl rfl ?_
  refine jz_iload_n hC 3 1706 dL_law_1705 rfl rfl rfl ?_
  refine jz_iconst hC (nI 1) 1707 dL_law_1706 rfl rfl ?_
  refine jz_iadd hC 1708 dL_law_1707 rfl ?_
  rw [nI_add]
  refine jz_sld hC hX hbl hbA hb0 rfl (by omega) (by omega) 1709 dL_law_1708 rfl ?_
  refine jz_aload_n hC 0 1710 dL_law_1709 rfl rfl rfl ?_
  refine jz_iload_n hC 3 1711 dL_law_1710 rfl rfl rfl ?_
  refine jz_iconst hC (nI 2) 1712 dL_law_1711 rfl rfl ?_
  refine jz_iadd hC 1713 dL_law_1712 rfl ?_
  rw [nI_add]
  refine jz_sld hC hX hbl hbA hb0 rfl (by omega) (by omega) 1714 dL_law_1713 rfl ?_
  refine jz_aload_n hC 0 1715 dL_law_1714 rfl rfl rfl ?_
  refine jz_iload_n hC 3 1716 dL_law_1715 rfl rfl rfl ?_
  refine jz_iconst hC (nI 3) 1717 dL_law_1716 rfl rfl ?_
  refine jz_iadd hC 1718 dL_law_1717 rfl ?_
  rw [nI_add]
  refine jz_sld hC hX hbl hbA hb0 rfl (by omega) (by omega) 1719 dL_law_1718 rfl ?_
  refine jz_Q hC (d := 110) (As := [.int (xs (i + 1)), .int (xs (i + 2)), .int (xs (i + 3))]) ok_L_196 rfl rfl (Nat.le_of_ble_eq_true rfl) (hR 110 (by decide)) 1722 dL_law_1719 rfl rfl h1 (fun σ2 h2 => ?_)
  refine jz_icmp_eq hC 1919 1725 dL_law_1722 rfl rfl (fun q1722 => ?_) (fun q => absurd rfl q)
  exact next σ2 h2
theorem law_44 (hC : jz_C p s m args c A (jq_up G) mi_L_law) {b N i : Nat} {xs : Nat → Int32} (hX : va_X b N xs s s.heap) (hbl : b < s.heap.size) (hbA : ¬ A b) (hb0 : G.2.2 1400 = b) (hN : N ≤ 3584) (hi : i + 7 ≤ N) (hR : ∀ d, d ≤ 200 → d + 2 ≤ rm.frames ∧ 64 * (d + 2) ≤ rm.locals ∧ nc ≤ rm.cells ∧ ns ≤ rm.slots) (h : IV σ) (next : ∀ σ2 : jr_Sg, IV σ2 → jz_R p l e rm s m args below meth c A nc ns Q (jq_up G) mi_L_law 1919 [some (.ref 1400), some (.ref 0), some (.ref 46), some (.int (nI i))] [] σ2) : jz_R p l e rm s m args below meth c A nc ns Q (jq_up G) mi_L_law 1727 [some (.ref 1400), some (.ref 0), some (.ref 46), some (.int (nI i))] [] σ := by
  refine jz_aload_n hC 1 1728 dL_law_1727 rfl rfl rfl ?_
  refine jz_aload_n hC 0 1729 dL_law_1728 rfl rfl rfl ?_
  refine jz_iload_n hC 3 1730 dL_law_1729 rfl rfl rfl ?_
  refine jz_iconst hC (nI 1) 1731 dL_law_1730 rfl rfl ?_
  refine jz_iadd hC 1732 dL_law_1731 rfl ?_
  rw [nI_add]
  refine jz_sld hC hX hbl hbA hb0 rfl (by omega) (by omega) 1733 dL_law_1732 rfl ?_
  refine jz_aload_n hC 0 1734 dL_law_1733 rfl rfl rfl ?_
  refine jz_iload_n hC 3 1735 dL_law_1734 rfl rfl rfl ?_
  refine jz_iconst hC (nI 2) 1736 dL_law_1735 rfl rfl ?_
  refine jz_iadd hC 1737 dL_law_1736 rfl ?_
  rw [nI_add]
  refine jz_sld hC hX hbl hbA hb0 rfl (by omega) (by omega) 1738 dL_law_1737 rfl ?_
  refine jz_aload_n hC 0 1739 dL_law_1738 rfl rfl rfl ?_
  refine jz_iload_n hC 3 1740 dL_law_1739 rfl rfl rfl ?_
  refine jz_iconst hC (nI 3) 1741 dL_law_1740 rfl rfl ?_
  refine jz_iadd hC 1742 dL_law_1741 rfl ?_
  rw [nI_add]
  refine jz_sld hC hX hbl hbA hb0 rfl (by omega) (by omega) 1743 dL_law_1742 rfl ?_
  refine jz_P hC (d := 110) (As := [.int (xs (i + 1)), .int (xs (i + 2)), .int (xs (i + 3))]) ok_L_197 rfl rfl rfl (Nat.le_of_ble_eq_true rfl) (hR 110 (by decide)) 1746 dL_law_1743 rfl rfl (pp_cell (d := 90) h) (fun x σ1 h1 => ?_)
  refine jz_aload_n hC 2 1747 dL_law_1746 rfl rfl rfl ?_
  refine jz_aload_n hC 0 1748 dL_law_1747 rfl rfl rfl ?_
  refine jz_iload_n hC 3 1749 dL_law_1748 rfl rfl rfl ?_
  refine jz_iconst hC (nI 1) 1750 dL_law_1749 rfl rfl ?_
  refine jz_iadd hC 1751 dL_law_1750 rfl ?_
  rw [nI_add]
  refine jz_sld hC hX hbl hbA hb0 rfl (by omega) (by omega) 1752 dL_law_1751 rfl ?_
  refine jz_aload_n hC 0 1753 dL_law_1752 rfl rfl rfl ?_
  refine jz_iload_n hC 3 1754 dL_law_1753 rfl rfl rfl ?_
  refine jz_iconst hC (nI 2) 1755 dL_law_1754 rfl rfl ?_
  refine jz_iadd hC 1756 dL_law_1755 rfl ?_
  rw [nI_add]
  refine jz_sld hC hX hbl hbA hb0 rfl (by omega) (by omega) 1757 dL_law_1756 rfl ?_
  refine jz_aload_n hC 0 1758 dL_law_1757 rfl rfl rfl ?_
  refine jz_iload_n hC 3 1759 dL_law_1758 rfl rfl rfl ?_
  refine jz_iconst hC (nI 3) 1760 dL_law_1759 rfl rfl ?_
  refine jz_iadd hC 1761 dL_law_1760 rfl ?_
  rw [nI_add]
  refine jz_sld hC hX hbl hbA hb0 rfl (by omega) (by omega) 1762 dL_law_1761 rfl ?_
  refine jz_Q hC (d := 110) (As := [.int (xs (i + 1)), .int (xs (i + 2)), .int (xs (i + 3))]) ok_L_200 rfl rfl (Nat.le_of_ble_eq_true rfl) (hR 110 (by decide)) 1765 dL_law_1762 rfl rfl h1 (fun σ2 h2 => ?_)
  refine jz_icmp_eq hC 1919 1768 dL_law_1765 rfl rfl (fun q1765 => ?_) (fun q => absurd rfl q)
  exact next σ2 h2
theorem law_45 (hC : jz_C p s m args c A (jq_up G) mi_L_law) {b N i : Nat} {xs : Nat → Int32} (hX : va_X b N xs s s.heap) (hbl : b < s.heap.size) (hbA : ¬ A b) (hb0 : G.2.2 1400 = b) (hN : N ≤ 3584) (hi : i + 7 ≤ N) (hR : ∀ d, d ≤ 200 → d + 2 ≤ rm.frames ∧ 64 * (d + 2) ≤ rm.locals ∧ nc ≤ rm.cells ∧ ns ≤ rm.slots) (h : IV σ) (next : ∀ σ2 : jr_Sg, IV σ2 → jz_R p l e rm s m args below meth c A nc ns Q (jq_up G) mi_L_law 1919 [some (.ref 1400), some (.ref 0), some (.ref 46), some (.int (nI i))] [] σ2) : jz_R p l e rm s m args below meth c A nc ns Q (jq_up G) mi_L_law 1770 [some (.ref 1400), some (.ref 0), some (.ref 46), some (.int (nI i))] [] σ := by
  refine jz_aload_n hC 1 1771 dL_law_1770 rfl rfl rfl ?_
  refine jz_aload_n hC 0 1772 dL_law_1771 rfl rfl rfl ?_
  refine jz_iload_n hC 3 1773 dL_law_1772 rfl rfl rfl ?_
  refine jz_iconst hC (nI 1) 1774 dL_law_1773 rfl rfl ?_
  refine jz_iadd hC 1775 dL_law_1774 rfl ?_
  rw [nI_add]
  refine jz_sld hC hX hbl hbA hb0 rfl (by omega) (by omega) 1776 dL_law_1775 rfl ?_
  refine jz_aload_n hC 0 1777 dL_law_1776 rfl rfl rfl ?_
  refine jz_iload_n hC 3 1778 dL_law_1777 rfl rfl rfl ?_
  refine jz_iconst hC (nI 2) 1779 dL_law_1778 rfl rfl ?_
  refine jz_iadd hC 1780 dL_law_1779 rfl ?_
  rw [nI_add]
  refine jz_sld hC hX hbl hbA hb0 rfl (by omega) (by omega) 1781 dL_law_1780 rfl ?_
  refine jz_aload_n hC 0 1782 dL_law_1781 rfl rfl rfl ?_
  refine jz_iload_n hC 3 1783 dL_law_1782 rfl rfl rfl ?_
  refine jz_iconst hC (nI 3) 1784 dL_law_1783 rfl rfl ?_
  refine jz_iadd hC 1785 dL_law_1784 rfl ?_
  rw [nI_add]
  refine jz_sld hC hX hbl hbA hb0 rfl (by omega) (by omega) 1786 dL_law_1785 rfl ?_
  refine jz_aload_n hC 0 1787 dL_law_1786 rfl rfl rfl ?_
  refine jz_iload_n hC 3 1788 dL_law_1787 rfl rfl rfl ?_
  refine jz_iconst hC (nI 4) 1789 dL_law_1788 rfl rfl ?_
  refine jz_iadd hC 1790 dL_law_1789 rfl ?_
  rw [nI_add]
  refine jz_sld hC hX hbl hbA hb0 rfl (by omega) (by omega) 1791 dL_law_1790 rfl ?_
  refine jz_aload_n hC 0 1792 dL_law_1791 rfl rfl rfl ?_
  refine jz_iload_n hC 3 1793 dL_law_1792 rfl rfl rfl ?_
  refine jz_iconst hC (nI 5) 1794 dL_law_1793 rfl rfl ?_
  refine jz_iadd hC 1795 dL_law_1794 rfl ?_
  rw [nI_add]
  refine jz_sld hC hX hbl hbA hb0 rfl (by omega) (by omega) 1796 dL_law_1795 rfl ?_
  refine jz_P hC (d := 110) (As := [.int (xs (i + 1)), .int (xs (i + 2)), .int (xs (i + 3)), .int (xs (i + 4)), .int (xs (i + 5))]) ok_L_201 rfl rfl rfl (Nat.le_of_ble_eq_true rfl) (hR 110 (by decide)) 1799 dL_law_1796 rfl rfl (pp_copy (d := 90) h) (fun x σ1 h1 => ?_)
  refine jz_aload_n hC 2 1800 dL_law_1799 rfl rfl rfl ?_
  refine jz_aload_n hC 0 1801 dL_law_1800 rfl rfl rfl ?_
  refine jz_iload_n hC 3 1802 dL_law_1801 rfl rfl rfl ?_
  refine jz_iconst hC (nI 1) 1803 dL_law_1802 rfl rfl ?_
  refine jz_iadd hC 1804 dL_law_1803 rfl ?_
  rw [nI_add]
  refine jz_sld hC hX hbl hbA hb0 rfl (by omega) (by omega) 1805 dL_law_1804 rfl ?_
  refine jz_aload_n hC 0 1806 dL_law_1805 rfl rfl rfl ?_
  refine jz_iload_n hC 3 1807 dL_law_1806 rfl rfl rfl ?_
  refine jz_iconst hC (nI 2) 1808 dL_law_1807 rfl rfl ?_
  refine jz_iadd hC 1809 dL_law_1808 rfl ?_
  rw [nI_add]
  refine jz_sld hC hX hbl hbA hb0 rfl (by omega) (by omega) 1810 dL_law_1809 rfl ?_
  refine jz_aload_n hC 0 1811 dL_law_1810 rfl rfl rfl ?_
  refine jz_iload_n hC 3 1812 dL_law_1811 rfl rfl rfl ?_
  refine jz_iconst hC (nI 3) 1813 dL_law_1812 rfl rfl ?_
  refine jz_iadd hC 1814 dL_law_1813 rfl ?_
  rw [nI_add]
  refine jz_sld hC hX hbl hbA hb0 rfl (by omega) (by omega) 1815 dL_law_1814 rfl ?_
  refine jz_aload_n hC 0 1816 dL_law_1815 rfl rfl rfl ?_
  refine jz_iload_n hC 3 1817 dL_law_1816 rfl rfl rfl ?_
  refine jz_iconst hC (nI 4) 1818 dL_law_1817 rfl rfl ?_
  refine jz_iadd hC 1819 dL_law_1818 rfl ?_
  rw [nI_add]
  refine jz_sld hC hX hbl hbA hb0 rfl (by omega) (by omega) 1820 dL_law_1819 rfl ?_
  refine jz_aload_n hC 0 1821 dL_law_1820 rfl rfl rfl ?_
  refine jz_iload_n hC 3 1822 dL_law_1821 rfl rfl rfl ?_
  refine jz_iconst hC (nI 5) 1823 dL_law_1822 rfl rfl ?_
  refine jz_iadd hC 1824 dL_law_1823 rfl ?_
  rw [nI_add]
  refine jz_sld hC hX hbl hbA hb0 rfl (by omega) (by omega) 1825 dL_law_1824 rfl ?_
  refine jz_Q hC (d := 110) (As := [.int (xs (i + 1)), .int (xs (i + 2)), .int (xs (i + 3)), .int (xs (i + 4)), .int (xs (i + 5))]) ok_L_204 rfl rfl (Nat.le_of_ble_eq_true rfl) (hR 110 (by decide)) 1828 dL_law_1825 rfl rfl h1 (fun σ2 h2 => ?_)
  refine jz_icmp_eq hC 1919 1831 dL_law_1828 rfl rfl (fun q1828 => ?_) (fun q => absurd rfl q)
  exact next σ2 h2
theorem law_46 (hC : jz_C p s m args c A (jq_up G) mi_L_law) {b N i : Nat} {xs : Nat → Int32} (hX : va_X b N xs s s.heap) (hbl : b < s.heap.size) (hbA : ¬ A b) (hb0 : G.2.2 1400 = b) (hN : N ≤ 3584) (hi : i + 7 ≤ N) (hR : ∀ d, d ≤ 200 → d + 2 ≤ rm.frames ∧ 64 * (d + 2) ≤ rm.locals ∧ nc ≤ rm.cells ∧ ns ≤ rm.slots) (h : IV σ) (next : ∀ σ2 : jr_Sg, IV σ2 → jz_R p l e rm s m args below meth c A nc ns Q (jq_up G) mi_L_law 1919 [some (.ref 1400), some (.ref 0), some (.ref 46), some (.int (nI i))] [] σ2) : jz_R p l e rm s m args below meth c A nc ns Q (jq_up G) mi_L_law 1833 [some (.ref 1400), some (.ref 0), some (.ref 46), some (.int (nI i))] [] σ := by
  refine jz_aload_n hC 1 1834 dL_law_1833 rfl rfl rfl ?_
  refine jz_aload_n hC 0 1835 dL_law_1834 rfl rfl rfl ?_
  refine jz_iload_n hC 3 1836 dL_law_1835 rfl rfl rfl ?_
  refine jz_iconst hC (nI 1) 1837 dL_law_1836 rfl rfl ?_
  refine jz_iadd hC 1838 dL_law_1837 rfl ?_
  rw [nI_add]
  refine jz_sld hC hX hbl hbA hb0 rfl (by omega) (by omega) 1839 dL_law_1838 rfl ?_
  refine jz_aload_n hC 0 1840 dL_law_1839 rfl rfl rfl ?_
  refine jz_iload_n hC 3 1841 dL_law_1840 rfl rfl rfl ?_
  refine jz_iconst hC (nI 2) 1842 dL_law_1841 rfl rfl ?_
  refine jz_iadd hC 1843 dL_law_1842 rfl ?_
  rw [nI_add]
  refine jz_sld hC hX hbl hbA hb0 rfl (by omega) (by omega) 1844 dL_law_1843 rfl ?_
  refine jz_aload_n hC 0 1845 dL_law_1844 rfl rfl rfl ?_
  refine jz_iload_n hC 3 1846 dL_law_1845 rfl rfl rfl ?_
  refine jz_iconst hC (nI 3) 1847 dL_law_1846 rfl rfl ?_
  refine jz_iadd hC 1848 dL_law_1847 rfl ?_
  rw [nI_add]
  refine jz_sld hC hX hbl hbA hb0 rfl (by omega) (by omega) 1849 dL_law_1848 rfl ?_
  refine jz_aload_n hC 0 1850 dL_law_1849 rfl rfl rfl ?_
  refine jz_iload_n hC 3 1851 dL_law_1850 rfl rfl rfl ?_
  refine jz_iconst hC (nI 4) 1852 dL_law_1851 rfl rfl ?_
  refine jz_iadd hC 1853 dL_law_1852 rfl ?_
  rw [nI_add]
  refine jz_sld hC hX hbl hbA hb0 rfl (by omega) (by omega) 1854 dL_law_1853 rfl ?_
  refine jz_P hC (d := 110) (As := [.int (xs (i + 1)), .int (xs (i + 2)), .int (xs (i + 3)), .int (xs (i + 4))]) ok_L_205 rfl rfl rfl (Nat.le_of_ble_eq_true rfl) (hR 110 (by decide)) 1857 dL_law_1854 rfl rfl (pp_facesBy (d := 90) h) (fun x σ1 h1 => ?_)
  refine jz_aload_n hC 2 1858 dL_law_1857 rfl rfl rfl ?_
  refine jz_aload_n hC 0 1859 dL_law_1858 rfl rfl rfl ?_
  refine jz_iload_n hC 3 1860 dL_law_1859 rfl rfl rfl ?_
  refine jz_iconst hC (nI 1) 1861 dL_law_1860 rfl rfl ?_
  refine jz_iadd hC 1862 dL_law_1861 rfl ?_
  rw [nI_add]
  refine jz_sld hC hX hbl hbA hb0 rfl (by omega) (by omega) 1863 dL_law_1862 rfl ?_
  refine jz_aload_n hC 0 1864 dL_law_1863 rfl rfl rfl ?_
  refine jz_iload_n hC 3 1865 dL_law_1864 rfl rfl rfl ?_
  refine jz_iconst hC (nI 2) 1866 dL_law_1865 rfl rfl ?_
  refine jz_iadd hC 1867 dL_law_1866 rfl ?_
  rw [nI_add]
  refine jz_sld hC hX hbl hbA hb0 rfl (by omega) (by omega) 1868 dL_law_1867 rfl ?_
  refine jz_aload_n hC 0 1869 dL_law_1868 rfl rfl rfl ?_
  refine jz_iload_n hC 3 1870 dL_law_1869 rfl rfl rfl ?_
  refine jz_iconst hC (nI 3) 1871 dL_law_1870 rfl rfl ?_
  refine jz_iadd hC 1872 dL_law_1871 rfl ?_
  rw [nI_add]
  refine jz_sld hC hX hbl hbA hb0 rfl (by omega) (by omega) 1873 dL_law_1872 rfl ?_
  refine jz_aload_n hC 0 1874 dL_law_1873 rfl rfl rfl ?_
  refine jz_iload_n hC 3 1875 dL_law_1874 rfl rfl rfl ?_
  refine jz_iconst hC (nI 4) 1876 dL_law_1875 rfl rfl ?_
  refine jz_iadd hC 1877 dL_law_1876 rfl ?_
  rw [nI_add]
  refine jz_sld hC hX hbl hbA hb0 rfl (by omega) (by omega) 1878 dL_law_1877 rfl ?_
  refine jz_Q hC (d := 110) (As := [.int (xs (i + 1)), .int (xs (i + 2)), .int (xs (i + 3)), .int (xs (i + 4))]) ok_L_209 rfl rfl (Nat.le_of_ble_eq_true rfl) (hR 110 (by decide)) 1881 dL_law_1878 rfl rfl h1 (fun σ2 h2 => ?_)
  refine jz_icmp_eq hC 1919 1884 dL_law_1881 rfl rfl (fun q1881 => ?_) (fun q => absurd rfl q)
  exact next σ2 h2
theorem law_47 (hC : jz_C p s m args c A (jq_up G) mi_L_law) {b N i : Nat} {xs : Nat → Int32} (hX : va_X b N xs s s.heap) (hbl : b < s.heap.size) (hbA : ¬ A b) (hb0 : G.2.2 1400 = b) (hN : N ≤ 3584) (hi : i + 7 ≤ N) (hR : ∀ d, d ≤ 200 → d + 2 ≤ rm.frames ∧ 64 * (d + 2) ≤ rm.locals ∧ nc ≤ rm.cells ∧ ns ≤ rm.slots) (h : IV σ) (next : ∀ σ2 : jr_Sg, IV σ2 → jz_R p l e rm s m args below meth c A nc ns Q (jq_up G) mi_L_law 1919 [some (.ref 1400), some (.ref 0), some (.ref 46), some (.int (nI i))] [] σ2) : jz_R p l e rm s m args below meth c A nc ns Q (jq_up G) mi_L_law 1886 [some (.ref 1400), some (.ref 0), some (.ref 46), some (.int (nI i))] [] σ := by
  refine jz_aload_n hC 1 1887 dL_law_1886 rfl rfl rfl ?_
  refine jz_aload_n hC 0 1888 dL_law_1887 rfl rfl rfl ?_
  refine jz_iload_n hC 3 1889 dL_law_1888 rfl rfl rfl ?_
  refine jz_iconst hC (nI 1) 1890 dL_law_1889 rfl rfl ?_
  refine jz_iadd hC 1891 dL_law_1890 rfl ?_
  rw [nI_add]
  refine jz_sld hC hX hbl hbA hb0 rfl (by omega) (by omega) 1892 dL_law_1891 rfl ?_
  refine jz_aload_n hC 0 1893 dL_law_1892 rfl rfl rfl ?_
  refine jz_iload_n hC 3 1894 dL_law_1893 rfl rfl rfl ?_
  refine jz_iconst hC (nI 2) 1895 dL_law_1894 rfl rfl ?_
  refine jz_iadd hC 1896 dL_law_1895 rfl ?_
  rw [nI_add]
  refine jz_sld hC hX hbl hbA hb0 rfl (by omega) (by omega) 1897 dL_law_1896 rfl ?_
  refine jz_P hC (d := 110) (As := [.int (xs (i + 1)), .int (xs (i + 2))]) ok_L_210 rfl rfl rfl (Nat.le_of_ble_eq_true rfl) (hR 110 (by decide)) 1900 dL_law_1897 rfl rfl (pp_taken (d := 90) h) (fun x σ1 h1 => ?_)
  refine jz_aload_n hC 2 1901 dL_law_1900 rfl rfl rfl ?_
  refine jz_aload_n hC 0 1902 dL_law_1901 rfl rfl rfl ?_
  refine jz_iload_n hC 3 1903 dL_law_1902 rfl rfl rfl ?_
  refine jz_iconst hC (nI 1) 1904 dL_law_1903 rfl rfl ?_
  refine jz_iadd hC 1905 dL_law_1904 rfl ?_
  rw [nI_add]
  refine jz_sld hC hX hbl hbA hb0 rfl (by omega) (by omega) 1906 dL_law_1905 rfl ?_
  refine jz_aload_n hC 0 1907 dL_law_1906 rfl rfl rfl ?_
  refine jz_iload_n hC 3 1908 dL_law_1907 rfl rfl rfl ?_
  refine jz_iconst hC (nI 2) 1909 dL_law_1908 rfl rfl ?_
  refine jz_iadd hC 1910 dL_law_1909 rfl ?_
  rw [nI_add]
  refine jz_sld hC hX hbl hbA hb0 rfl (by omega) (by omega) 1911 dL_law_1910 rfl ?_
  refine jz_Q hC (d := 110) (As := [.int (xs (i + 1)), .int (xs (i + 2))]) ok_L_213 rfl rfl (Nat.le_of_ble_eq_true rfl) (hR 110 (by decide)) 1914 dL_law_1911 rfl rfl h1 (fun σ2 h2 => ?_)
  refine jz_icmp_eq hC 1919 1917 dL_law_1914 rfl rfl (fun q1914 => ?_) (fun q => absurd rfl q)
  exact next σ2 h2
theorem law_loop (hC : jz_C p s m args c A (jq_up G) mi_L_law) {b N : Nat} {xs : Nat → Int32} (hX : va_X b N xs s s.heap) (hbl : b < s.heap.size) (hbA : ¬ A b) (hb0 : G.2.2 1400 = b) (hN : N ≤ 3584) (hR : ∀ d, d ≤ 200 → d + 2 ≤ rm.frames ∧ 64 * (d + 2) ≤ rm.locals ∧ nc ≤ rm.cells ∧ ns ≤ rm.slots)
  (fin : ∀ (i : Nat) (σ : jr_Sg), jz_R p l e rm s m args below meth c A nc ns Q (jq_up G) mi_L_law 1926 [some (.ref 1400), some (.ref 0), some (.ref 46), some (.int (nI i))] [.int 1] σ) : ∀ (K i : Nat) (σ : jr_Sg), N < i + K → i < 2 ^ 30 → IV σ → jz_R p l e rm s m args below meth c A nc ns Q (jq_up G) mi_L_law 18 [some (.ref 1400), some (.ref 0), some (.ref 46), some (.int (nI i))] [] σ := by
  intro K
  induction K with
  | zero =>
    intro i σ hK hi30 h
    have hgt : nI N - nI 7 < nI i := by
      by_cases h7 : 7 ≤ N
      · rw [pk_sub h7]
        exact nI_lt (by omega) (by omega)
      · exact Int32.lt_of_lt_of_le (pk_sneg (by decide) (by omega)) (nI_pos' (by omega))
    refine jz_iload_n hC 3 19 dL_law_18 rfl rfl rfl ?_
    refine jz_aload_n hC 0 20 dL_law_19 rfl rfl rfl ?_
    refine jz_slen hC hX hbl hbA hb0 21 dL_law_20 rfl ?_
    refine jz_bipush hC (nI 7) 23 dL_law_21 rfl rfl ?_
    refine jz_isub hC 24 dL_law_23 rfl ?_
    refine jz_icmp_gt hC 1925 27 dL_law_24 rfl rfl (fun q24 => ?_) (fun q => absurd hgt q)
    refine jz_iconst hC (1) 1926 dL_law_1925 rfl rfl ?_
    exact fin i σ
  | succ K ih =>
    intro i σ hK hi30 h
    by_cases h7 : i + 7 ≤ N
    · have hngt : ¬ nI N - nI 7 < nI i := by
        rw [pk_sub (by omega)]
        exact nI_nlt (by omega) (by omega)
      obtain ⟨j, hj, ej⟩ := pk_andE (xs i) (m := 63) 6 rfl
      have next : ∀ σ2 : jr_Sg, IV σ2 → jz_R p l e rm s m args below meth c A nc ns Q (jq_up G) mi_L_law 1919 [some (.ref 1400), some (.ref 0), some (.ref 46), some (.int (nI i))] [] σ2 := fun σ2 h2 => by
        refine jz_iinc hC (v := nI (i + 7)) (L' := [_, _, _, _]) 1922 dL_law_1919 rfl rfl (nI_add i 7) (by decide) rfl ?_
        refine jz_goto hC 18 dL_law_1922 rfl ?_
        exact ih (i + 7) σ2 (by omega) (by omega) h2
      refine jz_iload_n hC 3 19 dL_law_18 rfl rfl rfl ?_
      refine jz_aload_n hC 0 20 dL_law_19 rfl rfl rfl ?_
      refine jz_slen hC hX hbl hbA hb0 21 dL_law_20 rfl ?_
      refine jz_bipush hC ((nI 7)) 23 dL_law_21 rfl rfl ?_
      refine jz_isub hC 24 dL_law_23 rfl ?_
      refine jz_icmp_gt hC 1925 27 dL_law_24 rfl rfl (fun q => absurd q hngt) (fun q24 => ?_)
      refine jz_aload_n hC 0 28 dL_law_27 rfl rfl rfl ?_
      refine jz_iload_n hC 3 29 dL_law_28 rfl rfl rfl ?_
      refine jz_sld hC hX hbl hbA hb0 rfl (by omega) (by omega) 30 dL_law_29 rfl ?_
      refine jz_bipush hC (63) 32 dL_law_30 rfl rfl ?_
      refine jz_iand hC 33 dL_law_32 rfl ?_
      refine jz_topi (y := nI j) ej ?_

      rcases (by omega : j = 0 ∨ j = 1 ∨ j = 2 ∨ j = 3 ∨ j = 4 ∨ j = 5 ∨ j = 6 ∨ j = 7 ∨ j = 8 ∨ j = 9 ∨ j = 10 ∨ j = 11 ∨ j = 12 ∨ j = 13 ∨ j = 14 ∨ j = 15 ∨ j = 16 ∨ j = 17 ∨ j = 18 ∨ j = 19 ∨ j = 20 ∨ j = 21 ∨ j = 22 ∨ j = 23 ∨ j = 24 ∨ j = 25 ∨ j = 26 ∨ j = 27 ∨ j = 28 ∨ j = 29 ∨ j = 30 ∨ j = 31 ∨ j = 32 ∨ j = 33 ∨ j = 34 ∨ j = 35 ∨ j = 36 ∨ j = 37 ∨ j = 38 ∨ j = 39 ∨ j = 40 ∨ j = 41 ∨ j = 42 ∨ j = 43 ∨ j = 44 ∨ j = 45 ∨ j = 46 ∨ j = 47 ∨ 48 ≤ j) with rfl | rfl | rfl | rfl | rfl | rfl | rfl | rfl | rfl | rfl | rfl | rfl | rfl | rfl | rfl | rfl | rfl | rfl | rfl | rfl | rfl | rfl | rfl | rfl | rfl | rfl | rfl | rfl | rfl | rfl | rfl | rfl | rfl | rfl | rfl | rfl | rfl | rfl | rfl | rfl | rfl | rfl | rfl | rfl | rfl | rfl | rfl | rfl | h48
      · refine jz_tableIn hC (off := 207) 240 dL_law_33 (by decide) (by decide) (by decide) rfl ?_
        exact law_0 hC hX hbl hbA hb0 hN h7 hR h next
      · refine jz_tableIn hC (off := 230) 263 dL_law_33 (by decide) (by decide) (by decide) rfl ?_
        exact law_1 hC hX hbl hbA hb0 hN h7 hR h next
      · refine jz_tableIn hC (off := 305) 338 dL_law_33 (by decide) (by decide) (by decide) rfl ?_
        exact law_2 hC hX hbl hbA hb0 hN h7 hR h next
      · refine jz_tableIn hC (off := 318) 351 dL_law_33 (by decide) (by decide) (by decide) rfl ?_
        exact law_3 hC hX hbl hbA hb0 hN h7 hR h next
      · refine jz_tableIn hC (off := 341) 374 dL_law_33 (by decide) (by decide) (by decide) rfl ?_
        exact law_4 hC hX hbl hbA hb0 hN h7 hR h next
      · refine jz_tableIn hC (off := 404) 437 dL_law_33 (by decide) (by decide) (by decide) rfl ?_
        exact law_5 hC hX hbl hbA hb0 hN h7 hR h next
      · refine jz_tableIn hC (off := 447) 480 dL_law_33 (by decide) (by decide) (by decide) rfl ?_
        exact law_6 hC hX hbl hbA hb0 hN h7 hR h next
      · refine jz_tableIn hC (off := 480) 513 dL_law_33 (by decide) (by decide) (by decide) rfl ?_
        exact law_7 hC hX hbl hbA hb0 hN h7 hR h next
      · refine jz_tableIn hC (off := 513) 546 dL_law_33 (by decide) (by decide) (by decide) rfl ?_
        exact law_8 hC hX hbl hbA hb0 hN h7 hR h next
      · refine jz_tableIn hC (off := 546) 579 dL_law_33 (by decide) (by decide) (by decide) rfl ?_
        exact law_9 hC hX hbl hbA hb0 hN h7 hR h next
      · refine jz_tableIn hC (off := 579) 612 dL_law_33 (by decide) (by decide) (by decide) rfl ?_
        exact law_10 hC hX hbl hbA hb0 hN h7 hR h next
      · refine jz_tableIn hC (off := 622) 655 dL_law_33 (by decide) (by decide) (by decide) rfl ?_
        exact law_11 hC hX hbl hbA hb0 hN h7 hR h next
      · refine jz_tableIn hC (off := 635) 668 dL_law_33 (by decide) (by decide) (by decide) rfl ?_
        exact law_12 hC hX hbl hbA hb0 hN h7 hR h next
      · refine jz_tableIn hC (off := 668) 701 dL_law_33 (by decide) (by decide) (by decide) rfl ?_
        exact law_13 hC hX hbl hbA hb0 hN h7 hR h next
      · refine jz_tableIn hC (off := 711) 744 dL_law_33 (by decide) (by decide) (by decide) rfl ?_
        exact law_14 hC hX hbl hbA hb0 hN h7 hR h next
      · refine jz_tableIn hC (off := 744) 777 dL_law_33 (by decide) (by decide) (by decide) rfl ?_
        exact law_15 hC hX hbl hbA hb0 hN h7 hR h next
      · refine jz_tableIn hC (off := 777) 810 dL_law_33 (by decide) (by decide) (by decide) rfl ?_
        exact law_16 hC hX hbl hbA hb0 hN h7 hR h next
      · refine jz_tableIn hC (off := 800) 833 dL_law_33 (by decide) (by decide) (by decide) rfl ?_
        exact law_17 hC hX hbl hbA hb0 hN h7 hR h next
      · refine jz_tableIn hC (off := 823) 856 dL_law_33 (by decide) (by decide) (by decide) rfl ?_
        exact law_18 hC hX hbl hbA hb0 hN h7 hR h next
      · refine jz_tableIn hC (off := 846) 879 dL_law_33 (by decide) (by decide) (by decide) rfl ?_
        exact law_19 hC hX hbl hbA hb0 hN h7 hR h next
      · refine jz_tableIn hC (off := 889) 922 dL_law_33 (by decide) (by decide) (by decide) rfl ?_
        exact law_20 hC hX hbl hbA hb0 hN h7 hR h next
      · refine jz_tableIn hC (off := 922) 955 dL_law_33 (by decide) (by decide) (by decide) rfl ?_
        exact law_21 hC hX hbl hbA hb0 hN h7 hR h next
      · refine jz_tableIn hC (off := 955) 988 dL_law_33 (by decide) (by decide) (by decide) rfl ?_
        exact law_22 hC hX hbl hbA hb0 hN h7 hR h next
      · refine jz_tableIn hC (off := 988) 1021 dL_law_33 (by decide) (by decide) (by decide) rfl ?_
        exact law_23 hC hX hbl hbA hb0 hN h7 hR h next
      · refine jz_tableIn hC (off := 1021) 1054 dL_law_33 (by decide) (by decide) (by decide) rfl ?_
        exact law_24 hC hX hbl hbA hb0 hN h7 hR h next
      · refine jz_tableIn hC (off := 1044) 1077 dL_law_33 (by decide) (by decide) (by decide) rfl ?_
        exact law_25 hC hX hbl hbA hb0 hN h7 hR h next
      · refine jz_tableIn hC (off := 1077) 1110 dL_law_33 (by decide) (by decide) (by decide) rfl ?_
        exact law_26 hC hX hbl hbA hb0 hN h7 hR h next
      · refine jz_tableIn hC (off := 1100) 1133 dL_law_33 (by decide) (by decide) (by decide) rfl ?_
        exact law_27 hC hX hbl hbA hb0 hN h7 hR h next
      · refine jz_tableIn hC (off := 1133) 1166 dL_law_33 (by decide) (by decide) (by decide) rfl ?_
        exact law_28 hC hX hbl hbA hb0 hN h7 hR h next
      · refine jz_tableIn hC (off := 1166) 1199 dL_law_33 (by decide) (by decide) (by decide) rfl ?_
        exact law_29 hC hX hbl hbA hb0 hN h7 hR h next
      · refine jz_tableIn hC (off := 1189) 1222 dL_law_33 (by decide) (by decide) (by decide) rfl ?_
        exact law_30 hC hX hbl hbA hb0 hN h7 hR h next
      · refine jz_tableIn hC (off := 1222) 1255 dL_law_33 (by decide) (by decide) (by decide) rfl ?_
        exact law_31 hC hX hbl hbA hb0 hN h7 hR h next
      · refine jz_tableIn hC (off := 1276) 1309 dL_law_33 (by decide) (by decide) (by decide) rfl ?_
        exact law_32 hC hX hbl hbA hb0 hN h7 hR h next
      · refine jz_tableIn hC (off := 1309) 1342 dL_law_33 (by decide) (by decide) (by decide) rfl ?_
        exact law_33 hC hX hbl hbA hb0 hN h7 hR h next
      · refine jz_tableIn hC (off := 1332) 1365 dL_law_33 (by decide) (by decide) (by decide) rfl ?_
        exact law_34 hC hX hbl hbA hb0 hN h7 hR h next
      · refine jz_tableIn hC (off := 1376) 1409 dL_law_33 (by decide) (by decide) (by decide) rfl ?_
        exact law_35 hC hX hbl hbA hb0 hN h7 hR h next
      · refine jz_tableIn hC (off := 1419) 1452 dL_law_33 (by decide) (by decide) (by decide) rfl ?_
        exact law_36 hC hX hbl hbA hb0 hN h7 hR h next
      · refine jz_tableIn hC (off := 1462) 1495 dL_law_33 (by decide) (by decide) (by decide) rfl ?_
        exact law_37 hC hX hbl hbA hb0 hN h7 hR h next
      · refine jz_tableIn hC (off := 1495) 1528 dL_law_33 (by decide) (by decide) (by decide) rfl ?_
        exact law_38 hC hX hbl hbA hb0 hN h7 hR h next
      · refine jz_tableIn hC (off := 1538) 1571 dL_law_33 (by decide) (by decide) (by decide) rfl ?_
        exact law_39 hC hX hbl hbA hb0 hN h7 hR h next
      · refine jz_tableIn hC (off := 1571) 1604 dL_law_33 (by decide) (by decide) (by decide) rfl ?_
        exact law_40 hC hX hbl hbA hb0 hN h7 hR h next
      · refine jz_tableIn hC (off := 1625) 1658 dL_law_33 (by decide) (by decide) (by decide) rfl ?_
        exact law_41 hC hX hbl hbA hb0 hN h7 hR h next
      · refine jz_tableIn hC (off := 1638) 1671 dL_law_33 (by decide) (by decide) (by decide) rfl ?_
        exact law_42 hC hX hbl hbA hb0 hN h7 hR h next
      · refine jz_tableIn hC (off := 1651) 1684 dL_law_33 (by decide) (by decide) (by decide) rfl ?_
        exact law_43 hC hX hbl hbA hb0 hN h7 hR h next
      · refine jz_tableIn hC (off := 1694) 1727 dL_law_33 (by decide) (by decide) (by decide) rfl ?_
        exact law_44 hC hX hbl hbA hb0 hN h7 hR h next
      · refine jz_tableIn hC (off := 1737) 1770 dL_law_33 (by decide) (by decide) (by decide) rfl ?_
        exact law_45 hC hX hbl hbA hb0 hN h7 hR h next
      · refine jz_tableIn hC (off := 1800) 1833 dL_law_33 (by decide) (by decide) (by decide) rfl ?_
        exact law_46 hC hX hbl hbA hb0 hN h7 hR h next
      · refine jz_tableIn hC (off := 1853) 1886 dL_law_33 (by decide) (by decide) (by decide) rfl ?_
        exact law_47 hC hX hbl hbA hb0 hN h7 hR h next
      · refine jz_tableOut hC 1919 dL_law_33 (Or.inr (by rw [nI_toInt (by omega)]; omega)) rfl ?_
        exact next σ h
    · have hgt : nI N - nI 7 < nI i := by
        by_cases h7 : 7 ≤ N
        · rw [pk_sub h7]
          exact nI_lt (by omega) (by omega)
        · exact Int32.lt_of_lt_of_le (pk_sneg (by decide) (by omega)) (nI_pos' (by omega))
      refine jz_iload_n hC 3 19 dL_law_18 rfl rfl rfl ?_
      refine jz_aload_n hC 0 20 dL_law_19 rfl rfl rfl ?_
      refine jz_slen hC hX hbl hbA hb0 21 dL_law_20 rfl ?_
      refine jz_bipush hC (nI 7) 23 dL_law_21 rfl rfl ?_
      refine jz_isub hC 24 dL_law_23 rfl ?_
      refine jz_icmp_gt hC 1925 27 dL_law_24 rfl rfl (fun q24 => ?_) (fun q => absurd hgt q)
      refine jz_iconst hC (1) 1926 dL_law_1925 rfl rfl ?_
      exact fin i σ
end LAW
