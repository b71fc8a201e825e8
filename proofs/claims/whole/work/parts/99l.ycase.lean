section YCS
abbrev mL_law : Mi := (yL_law, cL_law, 7, some .boolean)
/-- all that holds between two calls -/
def INV (M : Mm) (E : Gs) (T : Nat) : Prop := XI M E ∧ RJ M E ∧ IV E T
abbrev lsL (j : Nat) (u5 u6 : Value) : List Value := [.ref 2200, .ref 0, .ref 238, .ref 285, .int (nI (7 * j)), u5, u6]
/-- an int of the script -/
def sx (G : Gt) (n : Nat) : Int32 := G.xs (Int32.toNatClampNeg (nI n))
/-- two ints of the script, a long -/
def sl (G : Gt) (n m : Nat) : Int64 := ((sx G n).toInt64 <<< (((32 : Int32).toInt64) &&& 63)) ||| ((sx G m).toInt64 &&& 4294967295)
theorem lw_in {n L : Nat} (h : n < L) (hL : L ≤ 3584) : vp_in (nI n) L := in_of (by omega) h
theorem RJ.x {M M1 : Mm} {E E' : Gs} (h : RJ M E) (hx : XF M M1 E') : RJ M1 E := h.fr (fun i a _ => (hx.2 i a).1) (fun i a _ => (hx.2 i a).2)
theorem XI.r {M M1 : Mm} {E E' : Gs} (h : XI M E) (hx : RFn M M1 E') : XI M1 E := h.fr (fun i a => (hx.2.1 i (Or.inl a)).1) (fun i a => (hx.2.1 i (Or.inl a)).2) (by rw [hx.2.2])
set_option maxHeartbeats 1000000 in
set_option maxRecDepth 20000 in
theorem w_feed {tb9 : List ExceptionTableEntry} {G : Gt} {M : Mm} {E : Gs} {T j b9 : Nat} {u5 u6 : Value} {Q : Option Value → Mm → Prop} (hI : INV M E T) (hT : T < 2 ^ 29) (hj : 7 * j + 6 < G.L) (hL : G.L ≤ 3584) (k : ∀ M' E' T', T' ≤ T + 1 → XI M' E' → RJ M' E' → IV E' T' → EvL tb9 b9 G 110 mL_law 1473 (lsL j u5 u6) [] M' Q) : EvL tb9 b9 G 110 mL_law 216 (lsL j u5 u6) [] M Q := by
  refine y_aload_n (x := 0) dL_law_216 rfl ?_
  refine y_aload_n (x := 2200) dL_law_217 rfl ?_
  refine y_iload (x := nI (7 * j)) dL_law_218 rfl ?_
  refine y_iconst (v := nI 1) dL_law_220 (by decide) ?_
  refine y_iaddN dL_law_221 ?_
  refine y_sld dL_law_222 (lw_in (by omega) hL) ?_
  refine y_i2l dL_law_223 ?_
  refine y_bipush (v := 32) dL_law_224 (by decide) ?_
  refine y_lshl dL_law_226 ?_
  refine y_aload_n (x := 2200) dL_law_227 rfl ?_
  refine y_iload (x := nI (7 * j)) dL_law_228 rfl ?_
  refine y_iconst (v := nI 2) dL_law_230 (by decide) ?_
  refine y_iaddN dL_law_231 ?_
  refine y_sld dL_law_232 (lw_in (by omega) hL) ?_
  refine y_i2l dL_law_233 ?_
  refine y_ldc2 dL_law_234 kl_L_19 ?_
  refine y_land dL_law_237 ?_
  refine y_lor dL_law_238 ?_
  refine y_aload_n (x := 2200) dL_law_239 rfl ?_
  refine y_iload (x := nI (7 * j)) dL_law_240 rfl ?_
  refine y_iconst (v := nI 3) dL_law_242 (by decide) ?_
  refine y_iaddN dL_law_243 ?_
  refine y_sld dL_law_244 (lw_in (by omega) hL) ?_
  refine y_i2l dL_law_245 ?_
  refine y_bipush (v := 32) dL_law_246 (by decide) ?_
  refine y_lshl dL_law_248 ?_
  refine y_aload_n (x := 2200) dL_law_249 rfl ?_
  refine y_iload (x := nI (7 * j)) dL_law_250 rfl ?_
  refine y_iconst (v := nI 4) dL_law_252 (by decide) ?_
  refine y_iaddN dL_law_253 ?_
  refine y_sld dL_law_254 (lw_in (by omega) hL) ?_
  refine y_i2l dL_law_255 ?_
  refine y_ldc2 dL_law_256 kl_L_19 ?_
  refine y_land dL_law_259 ?_
  refine y_lor dL_law_260 ?_
  refine y_aload_n (x := 2200) dL_law_261 rfl ?_
  refine y_iload (x := nI (7 * j)) dL_law_262 rfl ?_
  refine y_iconst (v := nI 5) dL_law_264 (by decide) ?_
  refine y_iaddN dL_law_265 ?_
  refine y_sld dL_law_266 (lw_in (by omega) hL) ?_
  refine y_i2l dL_law_267 ?_
  refine y_bipush (v := 32) dL_law_268 (by decide) ?_
  refine y_lshl dL_law_270 ?_
  refine y_aload_n (x := 2200) dL_law_271 rfl ?_
  refine y_iload (x := nI (7 * j)) dL_law_272 rfl ?_
  refine y_bipush (v := nI 6) dL_law_274 (by decide) ?_
  refine y_iaddN dL_law_276 ?_
  refine y_sld dL_law_277 (lw_in (by omega) hL) ?_
  refine y_i2l dL_law_278 ?_
  refine y_ldc2 dL_law_279 kl_L_19 ?_
  refine y_land dL_law_282 ?_
  refine y_lor dL_law_283 ?_
  refine ycV3x dL_law_284 mo_X10_feed ml_L_21 rfl rfl (Nat.le_of_ble_eq_true rfl) (by omega) (ux_feed hI.1 hI.2.2 hT) ?_
  rintro r M1 ⟨rfl, hx⟩
  have hJ1 := hI.2.1.x hx
  dsimp only [Option.toList, List.cons_append, List.nil_append]
  refine y_aload_n (x := 238) dL_law_287 rfl ?_
  refine y_aload_n (x := 2200) dL_law_288 rfl ?_
  refine y_iload (x := nI (7 * j)) dL_law_289 rfl ?_
  refine y_iconst (v := nI 1) dL_law_291 (by decide) ?_
  refine y_iaddN dL_law_292 ?_
  refine y_sld dL_law_293 (lw_in (by omega) hL) ?_
  refine y_i2l dL_law_294 ?_
  refine y_bipush (v := 32) dL_law_295 (by decide) ?_
  refine y_lshl dL_law_297 ?_
  refine y_aload_n (x := 2200) dL_law_298 rfl ?_
  refine y_iload (x := nI (7 * j)) dL_law_299 rfl ?_
  refine y_iconst (v := nI 2) dL_law_301 (by decide) ?_
  refine y_iaddN dL_law_302 ?_
  refine y_sld dL_law_303 (lw_in (by omega) hL) ?_
  refine y_i2l dL_law_304 ?_
  refine y_ldc2 dL_law_305 kl_L_19 ?_
  refine y_land dL_law_308 ?_
  refine y_lor dL_law_309 ?_
  refine y_aload_n (x := 2200) dL_law_310 rfl ?_
  refine y_iload (x := nI (7 * j)) dL_law_311 rfl ?_
  refine y_iconst (v := nI 3) dL_law_313 (by decide) ?_
  refine y_iaddN dL_law_314 ?_
  refine y_sld dL_law_315 (lw_in (by omega) hL) ?_
  refine y_i2l dL_law_316 ?_
  refine y_bipush (v := 32) dL_law_317 (by decide) ?_
  refine y_lshl dL_law_319 ?_
  refine y_aload_n (x := 2200) dL_law_320 rfl ?_
  refine y_iload (x := nI (7 * j)) dL_law_321 rfl ?_
  refine y_iconst (v := nI 4) dL_law_323 (by decide) ?_
  refine y_iaddN dL_law_324 ?_
  refine y_sld dL_law_325 (lw_in (by omega) hL) ?_
  refine y_i2l dL_law_326 ?_
  refine y_ldc2 dL_law_327 kl_L_19 ?_
  refine y_land dL_law_330 ?_
  refine y_lor dL_law_331 ?_
  refine y_aload_n (x := 2200) dL_law_332 rfl ?_
  refine y_iload (x := nI (7 * j)) dL_law_333 rfl ?_
  refine y_iconst (v := nI 5) dL_law_335 (by decide) ?_
  refine y_iaddN dL_law_336 ?_
  refine y_sld dL_law_337 (lw_in (by omega) hL) ?_
  refine y_i2l dL_law_338 ?_
  refine y_bipush (v := 32) dL_law_339 (by decide) ?_
  refine y_lshl dL_law_341 ?_
  refine y_aload_n (x := 2200) dL_law_342 rfl ?_
  refine y_iload (x := nI (7 * j)) dL_law_343 rfl ?_
  refine y_bipush (v := nI 6) dL_law_345 (by decide) ?_
  refine y_iaddN dL_law_347 ?_
  refine y_sld dL_law_348 (lw_in (by omega) hL) ?_
  refine y_i2l dL_law_349 ?_
  refine y_ldc2 dL_law_350 kl_L_19 ?_
  refine y_land dL_law_353 ?_
  refine y_lor dL_law_354 ?_
  refine ycV3x dL_law_355 mo_X11_feed ml_L_25 rfl rfl (Nat.le_of_ble_eq_true rfl) (by omega) (ur_feed hJ1 hI.2.2 hT) ?_
  rintro r M2 ⟨rfl, hy⟩
  dsimp only [Option.toList, List.cons_append, List.nil_append]
  refine y_icmp_eq (tgt := 1473) dL_law_358 (by decide) (fun _ => ?_) (fun c => absurd rfl c)
  exact k _ _ _ (by omega) (hx.1.r hy) hy.1 (hI.2.2.feed)
set_option maxHeartbeats 1000000 in
set_option maxRecDepth 20000 in
theorem w_yard {tb9 : List ExceptionTableEntry} {G : Gt} {M : Mm} {E : Gs} {T j b9 : Nat} {u5 u6 : Value} {Q : Option Value → Mm → Prop} {b : Nat} (hb9 : 35 ≤ b ∧ b ≤ 40) (hI : INV M E T) (hT : T < 2 ^ 29) (hj : 7 * j + 6 < G.L) (hL : G.L ≤ 3584) (k : ∀ M' E' T', T' ≤ T + 1 → XI M' E' → RJ M' E' → IV E' T' → EvL tb9 b9 G 110 mL_law 1473 (lsL j u5 u6) [] M' Q) : EvL tb9 b9 G 110 mL_law 363 (lsL j u5 u6) [] M Q := by
  refine y_aload_n (x := 0) dL_law_363 rfl ?_
  refine ycV0x dL_law_364 mo_X10_yard ml_L_26 rfl rfl (Nat.le_of_ble_eq_true rfl) (by omega) (ux_yard hI.1 hI.2.2 hT hb9) ?_
  rintro r M1 ⟨rfl, hx⟩
  have hJ1 := hI.2.1.x hx
  dsimp only [Option.toList, List.cons_append, List.nil_append]
  refine y_aload_n (x := 238) dL_law_367 rfl ?_
  refine ycV0x dL_law_368 mo_X11_yard ml_L_30 rfl rfl (Nat.le_of_ble_eq_true rfl) (by omega) (ur_yard hJ1 hI.2.2 hT hb9) ?_
  rintro r M2 ⟨rfl, hy⟩
  dsimp only [Option.toList, List.cons_append, List.nil_append]
  refine y_icmp_eq (tgt := 1473) dL_law_371 (by decide) (fun _ => ?_) (fun c => absurd rfl c)
  exact k _ _ _ (by omega) (hx.1.r hy) hy.1 (hI.2.2.yard hb9)
set_option maxHeartbeats 1000000 in
set_option maxRecDepth 20000 in
theorem w_week {tb9 : List ExceptionTableEntry} {G : Gt} {M : Mm} {E : Gs} {T j b9 : Nat} {u5 u6 : Value} {Q : Option Value → Mm → Prop} (hI : INV M E T) (hT : T < 2 ^ 29) (hj : 7 * j + 6 < G.L) (hL : G.L ≤ 3584) (k : ∀ M' E' T', T' ≤ T + 1 → XI M' E' → RJ M' E' → IV E' T' → EvL tb9 b9 G 110 mL_law 1473 (lsL j u5 u6) [] M' Q) : EvL tb9 b9 G 110 mL_law 376 (lsL j u5 u6) [] M Q := by
  refine y_aload_n (x := 0) dL_law_376 rfl ?_
  refine ycV0x dL_law_377 mo_X10_week ml_L_31 rfl rfl (Nat.le_of_ble_eq_true rfl) (by omega) (ux_week hI.1 hI.2.2 hT) ?_
  rintro r M1 ⟨rfl, hx⟩
  have hJ1 := hI.2.1.x hx
  dsimp only [Option.toList, List.cons_append, List.nil_append]
  refine y_aload_n (x := 238) dL_law_380 rfl ?_
  refine ycV0x dL_law_381 mo_X11_week ml_L_34 rfl rfl (Nat.le_of_ble_eq_true rfl) (by omega) (ur_week hJ1 hI.2.2 hT) ?_
  rintro r M2 ⟨rfl, hy⟩
  dsimp only [Option.toList, List.cons_append, List.nil_append]
  refine y_icmp_eq (tgt := 1473) dL_law_384 (by decide) (fun _ => ?_) (fun c => absurd rfl c)
  exact k _ _ _ (by omega) (hx.1.r hy) hy.1 (hI.2.2.week)
set_option maxHeartbeats 1000000 in
set_option maxRecDepth 20000 in
theorem w_shed {tb9 : List ExceptionTableEntry} {G : Gt} {M : Mm} {E : Gs} {T j b9 : Nat} {u5 u6 : Value} {Q : Option Value → Mm → Prop} (hI : INV M E T) (hT : T < 2 ^ 29) (hj : 7 * j + 6 < G.L) (hL : G.L ≤ 3584) (k : ∀ M' E' T', T' ≤ T + 1 → XI M' E' → RJ M' E' → IV E' T' → EvL tb9 b9 G 110 mL_law 1473 (lsL j u5 u6) [] M' Q) : EvL tb9 b9 G 110 mL_law 389 (lsL j u5 u6) [] M Q := by
  refine y_aload_n (x := 0) dL_law_389 rfl ?_
  refine y_aload_n (x := 2200) dL_law_390 rfl ?_
  refine y_iload (x := nI (7 * j)) dL_law_391 rfl ?_
  refine y_iconst (v := nI 1) dL_law_393 (by decide) ?_
  refine y_iaddN dL_law_394 ?_
  refine y_sld dL_law_395 (lw_in (by omega) hL) ?_
  refine y_aload_n (x := 2200) dL_law_396 rfl ?_
  refine y_iload (x := nI (7 * j)) dL_law_397 rfl ?_
  refine y_iconst (v := nI 2) dL_law_399 (by decide) ?_
  refine y_iaddN dL_law_400 ?_
  refine y_sld dL_law_401 (lw_in (by omega) hL) ?_
  refine ycV2x dL_law_402 mo_X10_shed ml_L_35 rfl rfl (Nat.le_of_ble_eq_true rfl) (by omega) (ux_shed hI.1 hI.2.2 hT) ?_
  rintro r M1 ⟨rfl, hx⟩
  have hJ1 := hI.2.1.x hx
  dsimp only [Option.toList, List.cons_append, List.nil_append]
  refine y_aload_n (x := 238) dL_law_405 rfl ?_
  refine y_aload_n (x := 2200) dL_law_406 rfl ?_
  refine y_iload (x := nI (7 * j)) dL_law_407 rfl ?_
  refine y_iconst (v := nI 1) dL_law_409 (by decide) ?_
  refine y_iaddN dL_law_410 ?_
  refine y_sld dL_law_411 (lw_in (by omega) hL) ?_
  refine y_aload_n (x := 2200) dL_law_412 rfl ?_
  refine y_iload (x := nI (7 * j)) dL_law_413 rfl ?_
  refine y_iconst (v := nI 2) dL_law_415 (by decide) ?_
  refine y_iaddN dL_law_416 ?_
  refine y_sld dL_law_417 (lw_in (by omega) hL) ?_
  refine ycV2x dL_law_418 mo_X11_shed ml_L_39 rfl rfl (Nat.le_of_ble_eq_true rfl) (by omega) (ur_shed hJ1 hI.2.2 hT) ?_
  rintro r M2 ⟨rfl, hy⟩
  dsimp only [Option.toList, List.cons_append, List.nil_append]
  refine y_icmp_eq (tgt := 1473) dL_law_421 (by decide) (fun _ => ?_) (fun c => absurd rfl c)
  exact k _ _ _ (by omega) (hx.1.r hy) hy.1 (hI.2.2)
set_option maxHeartbeats 1000000 in
set_option maxRecDepth 20000 in
theorem w_stage {tb9 : List ExceptionTableEntry} {G : Gt} {M : Mm} {E : Gs} {T j b9 : Nat} {u5 u6 : Value} {Q : Option Value → Mm → Prop} (hI : INV M E T) (hT : T < 2 ^ 29) (hj : 7 * j + 6 < G.L) (hL : G.L ≤ 3584) (k : ∀ M' E' T', T' ≤ T + 1 → XI M' E' → RJ M' E' → IV E' T' → EvL tb9 b9 G 110 mL_law 1473 (lsL j u5 u6) [] M' Q) : EvL tb9 b9 G 110 mL_law 426 (lsL j u5 u6) [] M Q := by
  refine y_aload_n (x := 0) dL_law_426 rfl ?_
  refine y_aload_n (x := 2200) dL_law_427 rfl ?_
  refine y_iload (x := nI (7 * j)) dL_law_428 rfl ?_
  refine y_iconst (v := nI 1) dL_law_430 (by decide) ?_
  refine y_iaddN dL_law_431 ?_
  refine y_sld dL_law_432 (lw_in (by omega) hL) ?_
  refine y_aload_n (x := 2200) dL_law_433 rfl ?_
  refine y_iload (x := nI (7 * j)) dL_law_434 rfl ?_
  refine y_iconst (v := nI 2) dL_law_436 (by decide) ?_
  refine y_iaddN dL_law_437 ?_
  refine y_sld dL_law_438 (lw_in (by omega) hL) ?_
  refine ycV2x dL_law_439 mo_X10_stage ml_L_40 rfl rfl (Nat.le_of_ble_eq_true rfl) (by omega) (ux_stage hI.1 hI.2.2 hT) ?_
  rintro r M1 ⟨rfl, hx⟩
  have hJ1 := hI.2.1.x hx
  dsimp only [Option.toList, List.cons_append, List.nil_append]
  refine y_aload_n (x := 238) dL_law_442 rfl ?_
  refine y_aload_n (x := 2200) dL_law_443 rfl ?_
  refine y_iload (x := nI (7 * j)) dL_law_444 rfl ?_
  refine y_iconst (v := nI 1) dL_law_446 (by decide) ?_
  refine y_iaddN dL_law_447 ?_
  refine y_sld dL_law_448 (lw_in (by omega) hL) ?_
  refine y_aload_n (x := 2200) dL_law_449 rfl ?_
  refine y_iload (x := nI (7 * j)) dL_law_450 rfl ?_
  refine y_iconst (v := nI 2) dL_law_452 (by decide) ?_
  refine y_iaddN dL_law_453 ?_
  refine y_sld dL_law_454 (lw_in (by omega) hL) ?_
  refine ycV2x dL_law_455 mo_X11_stage ml_L_43 rfl rfl (Nat.le_of_ble_eq_true rfl) (by omega) (ur_stage hJ1 hI.2.2 hT) ?_
  rintro r M2 ⟨rfl, hy⟩
  dsimp only [Option.toList, List.cons_append, List.nil_append]
  refine y_icmp_eq (tgt := 1473) dL_law_458 (by decide) (fun _ => ?_) (fun c => absurd rfl c)
  exact k _ _ _ (by omega) (hx.1.r hy) hy.1 (hI.2.2)
set_option maxHeartbeats 1000000 in
set_option maxRecDepth 20000 in
theorem w_night {tb9 : List ExceptionTableEntry} {G : Gt} {M : Mm} {E : Gs} {T j b9 : Nat} {u5 u6 : Value} {Q : Option Value → Mm → Prop} (hI : INV M E T) (hT : T < 2 ^ 29) (hj : 7 * j + 6 < G.L) (hL : G.L ≤ 3584) (k : ∀ M' E' T', T' ≤ T + 1 → XI M' E' → RJ M' E' → IV E' T' → EvL tb9 b9 G 110 mL_law 1473 (lsL j u5 u6) [] M' Q) : EvL tb9 b9 G 110 mL_law 463 (lsL j u5 u6) [] M Q := by
  refine y_aload_n (x := 0) dL_law_463 rfl ?_
  refine ycV0x dL_law_464 mo_X10_night ml_L_44 rfl rfl (Nat.le_of_ble_eq_true rfl) (by omega) (ux_night hI.1 hI.2.2 hT) ?_
  rintro r M1 ⟨rfl, hx⟩
  have hJ1 := hI.2.1.x hx
  dsimp only [Option.toList, List.cons_append, List.nil_append]
  refine y_aload_n (x := 238) dL_law_467 rfl ?_
  refine ycV0x dL_law_468 mo_X11_night ml_L_47 rfl rfl (Nat.le_of_ble_eq_true rfl) (by omega) (ur_night hJ1 hI.2.2 hT) ?_
  rintro r M2 ⟨rfl, hy⟩
  dsimp only [Option.toList, List.cons_append, List.nil_append]
  refine y_icmp_eq (tgt := 1473) dL_law_471 (by decide) (fun _ => ?_) (fun c => absurd rfl c)
  exact k _ _ _ (by omega) (hx.1.r hy) hy.1 (hI.2.2.night)
set_option maxHeartbeats 1000000 in
set_option maxRecDepth 20000 in
theorem w_heat {tb9 : List ExceptionTableEntry} {G : Gt} {M : Mm} {E : Gs} {T j b9 : Nat} {u5 u6 : Value} {Q : Option Value → Mm → Prop} (hI : INV M E T) (hT : T < 2 ^ 29) (hj : 7 * j + 6 < G.L) (hL : G.L ≤ 3584) (k : ∀ M' E' T', T' ≤ T + 1 → XI M' E' → RJ M' E' → IV E' T' → EvL tb9 b9 G 110 mL_law 1473 (lsL j u5 u6) [] M' Q) : EvL tb9 b9 G 110 mL_law 476 (lsL j u5 u6) [] M Q := by
  refine y_aload_n (x := 0) dL_law_476 rfl ?_
  refine y_aload_n (x := 2200) dL_law_477 rfl ?_
  refine y_iload (x := nI (7 * j)) dL_law_478 rfl ?_
  refine y_iconst (v := nI 1) dL_law_480 (by decide) ?_
  refine y_iaddN dL_law_481 ?_
  refine y_sld dL_law_482 (lw_in (by omega) hL) ?_
  refine y_aload_n (x := 2200) dL_law_483 rfl ?_
  refine y_iload (x := nI (7 * j)) dL_law_484 rfl ?_
  refine y_iconst (v := nI 2) dL_law_486 (by decide) ?_
  refine y_iaddN dL_law_487 ?_
  refine y_sld dL_law_488 (lw_in (by omega) hL) ?_
  refine ycV2x dL_law_489 mo_X10_heat ml_L_48 rfl rfl (Nat.le_of_ble_eq_true rfl) (by omega) (ux_heat hI.1 hI.2.2 hT) ?_
  rintro r M1 ⟨rfl, hx⟩
  have hJ1 := hI.2.1.x hx
  dsimp only [Option.toList, List.cons_append, List.nil_append]
  refine y_aload_n (x := 238) dL_law_492 rfl ?_
  refine y_aload_n (x := 2200) dL_law_493 rfl ?_
  refine y_iload (x := nI (7 * j)) dL_law_494 rfl ?_
  refine y_iconst (v := nI 1) dL_law_496 (by decide) ?_
  refine y_iaddN dL_law_497 ?_
  refine y_sld dL_law_498 (lw_in (by omega) hL) ?_
  refine y_aload_n (x := 2200) dL_law_499 rfl ?_
  refine y_iload (x := nI (7 * j)) dL_law_500 rfl ?_
  refine y_iconst (v := nI 2) dL_law_502 (by decide) ?_
  refine y_iaddN dL_law_503 ?_
  refine y_sld dL_law_504 (lw_in (by omega) hL) ?_
  refine ycV2x dL_law_505 mo_X11_heat ml_L_51 rfl rfl (Nat.le_of_ble_eq_true rfl) (by omega) (ur_heat hJ1 hI.2.2 hT) ?_
  rintro r M2 ⟨rfl, hy⟩
  dsimp only [Option.toList, List.cons_append, List.nil_append]
  refine y_icmp_eq (tgt := 1473) dL_law_508 (by decide) (fun _ => ?_) (fun c => absurd rfl c)
  exact k _ _ _ (by omega) (hx.1.r hy) hy.1 (hI.2.2.heat)
set_option maxHeartbeats 1000000 in
set_option maxRecDepth 20000 in
theorem w_light {tb9 : List ExceptionTableEntry} {G : Gt} {M : Mm} {E : Gs} {T j b9 : Nat} {u5 u6 : Value} {Q : Option Value → Mm → Prop} (hI : INV M E T) (hT : T < 2 ^ 29) (hj : 7 * j + 6 < G.L) (hL : G.L ≤ 3584) (k : ∀ M' E' T', T' ≤ T + 1 → XI M' E' → RJ M' E' → IV E' T' → EvL tb9 b9 G 110 mL_law 1473 (lsL j u5 u6) [] M' Q) : EvL tb9 b9 G 110 mL_law 513 (lsL j u5 u6) [] M Q := by
  refine y_aload_n (x := 0) dL_law_513 rfl ?_
  refine y_aload_n (x := 2200) dL_law_514 rfl ?_
  refine y_iload (x := nI (7 * j)) dL_law_515 rfl ?_
  refine y_iconst (v := nI 1) dL_law_517 (by decide) ?_
  refine y_iaddN dL_law_518 ?_
  refine y_sld dL_law_519 (lw_in (by omega) hL) ?_
  refine ycV1x dL_law_520 mo_X10_light ml_L_52 rfl rfl (Nat.le_of_ble_eq_true rfl) (by omega) (ux_light hI.1 hI.2.2 hT) ?_
  rintro r M1 ⟨rfl, hx⟩
  have hJ1 := hI.2.1.x hx
  dsimp only [Option.toList, List.cons_append, List.nil_append]
  refine y_aload_n (x := 238) dL_law_523 rfl ?_
  refine y_aload_n (x := 2200) dL_law_524 rfl ?_
  refine y_iload (x := nI (7 * j)) dL_law_525 rfl ?_
  refine y_iconst (v := nI 1) dL_law_527 (by decide) ?_
  refine y_iaddN dL_law_528 ?_
  refine y_sld dL_law_529 (lw_in (by omega) hL) ?_
  refine ycV1x dL_law_530 mo_X11_light ml_L_56 rfl rfl (Nat.le_of_ble_eq_true rfl) (by omega) (ur_light hJ1 hI.2.2 hT) ?_
  rintro r M2 ⟨rfl, hy⟩
  dsimp only [Option.toList, List.cons_append, List.nil_append]
  refine y_icmp_eq (tgt := 1473) dL_law_533 (by decide) (fun _ => ?_) (fun c => absurd rfl c)
  exact k _ _ _ (by omega) (hx.1.r hy) hy.1 (hI.2.2.light)
set_option maxHeartbeats 1000000 in
set_option maxRecDepth 20000 in
theorem w_pull {tb9 : List ExceptionTableEntry} {G : Gt} {M : Mm} {E : Gs} {T j b9 : Nat} {u5 u6 : Value} {Q : Option Value → Mm → Prop} (hI : INV M E T) (hT : T < 2 ^ 29) (hj : 7 * j + 6 < G.L) (hL : G.L ≤ 3584) (k : ∀ M' E' T', T' ≤ T + 1 → XI M' E' → RJ M' E' → IV E' T' → EvL tb9 b9 G 110 mL_law 1473 (lsL j u5 u6) [] M' Q) : EvL tb9 b9 G 110 mL_law 538 (lsL j u5 u6) [] M Q := by
  refine y_aload_n (x := 0) dL_law_538 rfl ?_
  refine y_aload_n (x := 2200) dL_law_539 rfl ?_
  refine y_iload (x := nI (7 * j)) dL_law_540 rfl ?_
  refine y_iconst (v := nI 1) dL_law_542 (by decide) ?_
  refine y_iaddN dL_law_543 ?_
  refine y_sld dL_law_544 (lw_in (by omega) hL) ?_
  refine y_aload_n (x := 2200) dL_law_545 rfl ?_
  refine y_iload (x := nI (7 * j)) dL_law_546 rfl ?_
  refine y_iconst (v := nI 2) dL_law_548 (by decide) ?_
  refine y_iaddN dL_law_549 ?_
  refine y_sld dL_law_550 (lw_in (by omega) hL) ?_
  refine ycV2x dL_law_551 mo_X10_pull ml_L_57 rfl rfl (Nat.le_of_ble_eq_true rfl) (by omega) (ux_pull hI.1 hI.2.2 hT) ?_
  rintro r M1 ⟨rfl, hx⟩
  have hJ1 := hI.2.1.x hx
  dsimp only [Option.toList, List.cons_append, List.nil_append]
  refine y_aload_n (x := 238) dL_law_554 rfl ?_
  refine y_aload_n (x := 2200) dL_law_555 rfl ?_
  refine y_iload (x := nI (7 * j)) dL_law_556 rfl ?_
  refine y_iconst (v := nI 1) dL_law_558 (by decide) ?_
  refine y_iaddN dL_law_559 ?_
  refine y_sld dL_law_560 (lw_in (by omega) hL) ?_
  refine y_aload_n (x := 2200) dL_law_561 rfl ?_
  refine y_iload (x := nI (7 * j)) dL_law_562 rfl ?_
  refine y_iconst (v := nI 2) dL_law_564 (by decide) ?_
  refine y_iaddN dL_law_565 ?_
  refine y_sld dL_law_566 (lw_in (by omega) hL) ?_
  refine ycV2x dL_law_567 mo_X11_pull ml_L_60 rfl rfl (Nat.le_of_ble_eq_true rfl) (by omega) (ur_pull hJ1 hI.2.2 hT) ?_
  rintro r M2 ⟨rfl, hy⟩
  dsimp only [Option.toList, List.cons_append, List.nil_append]
  refine y_icmp_eq (tgt := 1473) dL_law_570 (by decide) (fun _ => ?_) (fun c => absurd rfl c)
  exact k _ _ _ (by omega) (hx.1.r hy) hy.1 (hI.2.2.pull)
set_option maxHeartbeats 1000000 in
set_option maxRecDepth 20000 in
theorem w_undo {tb9 : List ExceptionTableEntry} {G : Gt} {M : Mm} {E : Gs} {T j b9 : Nat} {u5 u6 : Value} {Q : Option Value → Mm → Prop} (hI : INV M E T) (hT : T < 2 ^ 29) (hj : 7 * j + 6 < G.L) (hL : G.L ≤ 3584) (k : ∀ M' E' T', T' ≤ T + 1 → XI M' E' → RJ M' E' → IV E' T' → EvL tb9 b9 G 110 mL_law 1473 (lsL j u5 u6) [] M' Q) : EvL tb9 b9 G 110 mL_law 575 (lsL j u5 u6) [] M Q := by
  refine y_aload_n (x := 0) dL_law_575 rfl ?_
  refine ycV0x dL_law_576 mo_X10_undo ml_L_61 rfl rfl (Nat.le_of_ble_eq_true rfl) (by omega) (ux_undo hI.1 hI.2.2 hT) ?_
  rintro r M1 ⟨rfl, hx⟩
  have hJ1 := hI.2.1.x hx
  dsimp only [Option.toList, List.cons_append, List.nil_append]
  refine y_aload_n (x := 238) dL_law_579 rfl ?_
  refine ycV0x dL_law_580 mo_X11_undo ml_L_65 rfl rfl (Nat.le_of_ble_eq_true rfl) (by omega) (ur_undo hJ1 hI.2.2 hT) ?_
  rintro r M2 ⟨rfl, hy⟩
  dsimp only [Option.toList, List.cons_append, List.nil_append]
  refine y_icmp_eq (tgt := 1473) dL_law_583 (by decide) (fun _ => ?_) (fun c => absurd rfl c)
  exact k _ _ _ (by omega) (hx.1.r hy) hy.1 (hI.2.2.undoX)
set_option maxHeartbeats 1000000 in
set_option maxRecDepth 20000 in
theorem w_judged {tb9 : List ExceptionTableEntry} {G : Gt} {M : Mm} {E : Gs} {T j b9 : Nat} {u5 u6 : Value} {Q : Option Value → Mm → Prop} (hI : INV M E T) (hT : T < 2 ^ 29) (hj : 7 * j + 6 < G.L) (hL : G.L ≤ 3584) (k : ∀ M' E' T', T' ≤ T + 1 → XI M' E' → RJ M' E' → IV E' T' → EvL tb9 b9 G 110 mL_law 1473 (lsL j u5 u6) [] M' Q) : EvL tb9 b9 G 110 mL_law 588 (lsL j u5 u6) [] M Q := by
  refine y_aload_n (x := 0) dL_law_588 rfl ?_
  refine y_aload_n (x := 2200) dL_law_589 rfl ?_
  refine y_iload (x := nI (7 * j)) dL_law_590 rfl ?_
  refine y_iconst (v := nI 1) dL_law_592 (by decide) ?_
  refine y_iaddN dL_law_593 ?_
  refine y_sld dL_law_594 (lw_in (by omega) hL) ?_
  refine ycV1x dL_law_595 mo_X10_judged ml_L_66 rfl rfl (Nat.le_of_ble_eq_true rfl) (by omega) (ux_judged hI.1 hI.2.2 hT) ?_
  rintro r M1 ⟨rfl, hx⟩
  have hJ1 := hI.2.1.x hx
  dsimp only [Option.toList, List.cons_append, List.nil_append]
  refine y_aload_n (x := 238) dL_law_598 rfl ?_
  refine y_aload_n (x := 2200) dL_law_599 rfl ?_
  refine y_iload (x := nI (7 * j)) dL_law_600 rfl ?_
  refine y_iconst (v := nI 1) dL_law_602 (by decide) ?_
  refine y_iaddN dL_law_603 ?_
  refine y_sld dL_law_604 (lw_in (by omega) hL) ?_
  refine ycV1x dL_law_605 mo_X11_judged ml_L_70 rfl rfl (Nat.le_of_ble_eq_true rfl) (by omega) (ur_judged hJ1 hI.2.2 hT) ?_
  rintro r M2 ⟨rfl, hy⟩
  dsimp only [Option.toList, List.cons_append, List.nil_append]
  refine y_icmp_eq (tgt := 1473) dL_law_608 (by decide) (fun _ => ?_) (fun c => absurd rfl c)
  exact k _ _ _ (by omega) (hx.1.r hy) hy.1 (hI.2.2)
set_option maxHeartbeats 1000000 in
set_option maxRecDepth 20000 in
theorem w_later {tb9 : List ExceptionTableEntry} {G : Gt} {M : Mm} {E : Gs} {T j b9 : Nat} {u5 u6 : Value} {Q : Option Value → Mm → Prop} (hI : INV M E T) (hT : T < 2 ^ 29) (hj : 7 * j + 6 < G.L) (hL : G.L ≤ 3584) (k : ∀ M' E' T', T' ≤ T + 1 → XI M' E' → RJ M' E' → IV E' T' → EvL tb9 b9 G 110 mL_law 1473 (lsL j u5 u6) [] M' Q) : EvL tb9 b9 G 110 mL_law 613 (lsL j u5 u6) [] M Q := by
  refine y_aload_n (x := 0) dL_law_613 rfl ?_
  refine y_aload_n (x := 2200) dL_law_614 rfl ?_
  refine y_iload (x := nI (7 * j)) dL_law_615 rfl ?_
  refine y_iconst (v := nI 1) dL_law_617 (by decide) ?_
  refine y_iaddN dL_law_618 ?_
  refine y_sld dL_law_619 (lw_in (by omega) hL) ?_
  refine y_aload_n (x := 2200) dL_law_620 rfl ?_
  refine y_iload (x := nI (7 * j)) dL_law_621 rfl ?_
  refine y_iconst (v := nI 2) dL_law_623 (by decide) ?_
  refine y_iaddN dL_law_624 ?_
  refine y_sld dL_law_625 (lw_in (by omega) hL) ?_
  refine ycV2x dL_law_626 mo_X10_later ml_L_71 rfl rfl (Nat.le_of_ble_eq_true rfl) (by omega) (ux_later hI.1 hI.2.2 hT) ?_
  rintro r M1 ⟨rfl, hx⟩
  have hJ1 := hI.2.1.x hx
  dsimp only [Option.toList, List.cons_append, List.nil_append]
  refine y_aload_n (x := 238) dL_law_629 rfl ?_
  refine y_aload_n (x := 2200) dL_law_630 rfl ?_
  refine y_iload (x := nI (7 * j)) dL_law_631 rfl ?_
  refine y_iconst (v := nI 1) dL_law_633 (by decide) ?_
  refine y_iaddN dL_law_634 ?_
  refine y_sld dL_law_635 (lw_in (by omega) hL) ?_
  refine y_aload_n (x := 2200) dL_law_636 rfl ?_
  refine y_iload (x := nI (7 * j)) dL_law_637 rfl ?_
  refine y_iconst (v := nI 2) dL_law_639 (by decide) ?_
  refine y_iaddN dL_law_640 ?_
  refine y_sld dL_law_641 (lw_in (by omega) hL) ?_
  refine ycV2x dL_law_642 mo_X11_later ml_L_74 rfl rfl (Nat.le_of_ble_eq_true rfl) (by omega) (ur_later hJ1 hI.2.2 hT) ?_
  rintro r M2 ⟨rfl, hy⟩
  dsimp only [Option.toList, List.cons_append, List.nil_append]
  refine y_icmp_eq (tgt := 1473) dL_law_645 (by decide) (fun _ => ?_) (fun c => absurd rfl c)
  exact k _ _ _ (by omega) (hx.1.r hy) hy.1 (hI.2.2)
set_option maxHeartbeats 1000000 in
set_option maxRecDepth 20000 in
theorem w_creak {tb9 : List ExceptionTableEntry} {G : Gt} {M : Mm} {E : Gs} {T j b9 : Nat} {u5 u6 : Value} {Q : Option Value → Mm → Prop} (hI : INV M E T) (hT : T < 2 ^ 29) (hj : 7 * j + 6 < G.L) (hL : G.L ≤ 3584) (k : ∀ M' E' T', T' ≤ T + 1 → XI M' E' → RJ M' E' → IV E' T' → EvL tb9 b9 G 110 mL_law 1473 (lsL j u5 u6) [] M' Q) : EvL tb9 b9 G 110 mL_law 650 (lsL j u5 u6) [] M Q := by
  refine y_aload_n (x := 0) dL_law_650 rfl ?_
  refine y_aload_n (x := 2200) dL_law_651 rfl ?_
  refine y_iload (x := nI (7 * j)) dL_law_652 rfl ?_
  refine y_iconst (v := nI 1) dL_law_654 (by decide) ?_
  refine y_iaddN dL_law_655 ?_
  refine y_sld dL_law_656 (lw_in (by omega) hL) ?_
  refine y_aload_n (x := 2200) dL_law_657 rfl ?_
  refine y_iload (x := nI (7 * j)) dL_law_658 rfl ?_
  refine y_iconst (v := nI 2) dL_law_660 (by decide) ?_
  refine y_iaddN dL_law_661 ?_
  refine y_sld dL_law_662 (lw_in (by omega) hL) ?_
  refine ycV2x dL_law_663 mo_X10_creak ml_L_75 rfl rfl (Nat.le_of_ble_eq_true rfl) (by omega) (ux_creak hI.1 hI.2.2 hT) ?_
  rintro r M1 ⟨rfl, hx⟩
  have hJ1 := hI.2.1.x hx
  dsimp only [Option.toList, List.cons_append, List.nil_append]
  refine y_aload_n (x := 238) dL_law_666 rfl ?_
  refine y_aload_n (x := 2200) dL_law_667 rfl ?_
  refine y_iload (x := nI (7 * j)) dL_law_668 rfl ?_
  refine y_iconst (v := nI 1) dL_law_670 (by decide) ?_
  refine y_iaddN dL_law_671 ?_
  refine y_sld dL_law_672 (lw_in (by omega) hL) ?_
  refine y_aload_n (x := 2200) dL_law_673 rfl ?_
  refine y_iload (x := nI (7 * j)) dL_law_674 rfl ?_
  refine y_iconst (v := nI 2) dL_law_676 (by decide) ?_
  refine y_iaddN dL_law_677 ?_
  refine y_sld dL_law_678 (lw_in (by omega) hL) ?_
  refine ycV2x dL_law_679 mo_X11_creak ml_L_78 rfl rfl (Nat.le_of_ble_eq_true rfl) (by omega) (ur_creak hJ1 hI.2.2 hT) ?_
  rintro r M2 ⟨rfl, hy⟩
  dsimp only [Option.toList, List.cons_append, List.nil_append]
  refine y_icmp_eq (tgt := 1473) dL_law_682 (by decide) (fun _ => ?_) (fun c => absurd rfl c)
  exact k _ _ _ (by omega) (hx.1.r hy) hy.1 (hI.2.2)
set_option maxHeartbeats 1000000 in
set_option maxRecDepth 20000 in
theorem w_pops {tb9 : List ExceptionTableEntry} {G : Gt} {M : Mm} {E : Gs} {T j b9 : Nat} {u5 u6 : Value} {Q : Option Value → Mm → Prop} (hI : INV M E T) (hT : T < 2 ^ 29) (hj : 7 * j + 6 < G.L) (hL : G.L ≤ 3584) (k : ∀ M' E' T', T' ≤ T + 1 → XI M' E' → RJ M' E' → IV E' T' → EvL tb9 b9 G 110 mL_law 1473 (lsL j u5 u6) [] M' Q) : EvL tb9 b9 G 110 mL_law 687 (lsL j u5 u6) [] M Q := by
  refine y_aload_n (x := 0) dL_law_687 rfl ?_
  refine y_aload_n (x := 2200) dL_law_688 rfl ?_
  refine y_iload (x := nI (7 * j)) dL_law_689 rfl ?_
  refine y_iconst (v := nI 1) dL_law_691 (by decide) ?_
  refine y_iaddN dL_law_692 ?_
  refine y_sld dL_law_693 (lw_in (by omega) hL) ?_
  refine ycV1x dL_law_694 mo_X10_pops ml_L_79 rfl rfl (Nat.le_of_ble_eq_true rfl) (by omega) (ux_pops hI.1 hI.2.2 hT) ?_
  rintro r M1 ⟨rfl, hx⟩
  have hJ1 := hI.2.1.x hx
  dsimp only [Option.toList, List.cons_append, List.nil_append]
  refine y_aload_n (x := 238) dL_law_697 rfl ?_
  refine y_aload_n (x := 2200) dL_law_698 rfl ?_
  refine y_iload (x := nI (7 * j)) dL_law_699 rfl ?_
  refine y_iconst (v := nI 1) dL_law_701 (by decide) ?_
  refine y_iaddN dL_law_702 ?_
  refine y_sld dL_law_703 (lw_in (by omega) hL) ?_
  refine ycV1x dL_law_704 mo_X11_pops ml_L_82 rfl rfl (Nat.le_of_ble_eq_true rfl) (by omega) (ur_pops hJ1 hI.2.2 hT) ?_
  rintro r M2 ⟨rfl, hy⟩
  dsimp only [Option.toList, List.cons_append, List.nil_append]
  refine y_icmp_eq (tgt := 1473) dL_law_707 (by decide) (fun _ => ?_) (fun c => absurd rfl c)
  exact k _ _ _ (by omega) (hx.1.r hy) hy.1 (hI.2.2)
set_option maxHeartbeats 1000000 in
set_option maxRecDepth 20000 in
theorem w_first {tb9 : List ExceptionTableEntry} {G : Gt} {M : Mm} {E : Gs} {T j b9 : Nat} {u5 u6 : Value} {Q : Option Value → Mm → Prop} (hI : INV M E T) (hT : T < 2 ^ 29) (hj : 7 * j + 6 < G.L) (hL : G.L ≤ 3584) (k : ∀ M' E' T', T' ≤ T + 1 → XI M' E' → RJ M' E' → IV E' T' → EvL tb9 b9 G 110 mL_law 1473 (lsL j u5 u6) [] M' Q) : EvL tb9 b9 G 110 mL_law 712 (lsL j u5 u6) [] M Q := by
  refine y_aload_n (x := 0) dL_law_712 rfl ?_
  refine ycV0x dL_law_713 mo_X10_first ml_L_83 rfl rfl (Nat.le_of_ble_eq_true rfl) (by omega) (ux_first hI.1 hI.2.2 hT) ?_
  rintro r M1 ⟨rfl, hx⟩
  have hJ1 := hI.2.1.x hx
  dsimp only [Option.toList, List.cons_append, List.nil_append]
  refine y_aload_n (x := 238) dL_law_716 rfl ?_
  refine ycV0x dL_law_717 mo_X11_first ml_L_86 rfl rfl (Nat.le_of_ble_eq_true rfl) (by omega) (ur_first hJ1 hI.2.2 hT) ?_
  rintro r M2 ⟨rfl, hy⟩
  dsimp only [Option.toList, List.cons_append, List.nil_append]
  refine y_icmp_eq (tgt := 1473) dL_law_720 (by decide) (fun _ => ?_) (fun c => absurd rfl c)
  exact k _ _ _ (by omega) (hx.1.r hy) hy.1 (hI.2.2)
set_option maxHeartbeats 1000000 in
set_option maxRecDepth 20000 in
theorem w_riot {tb9 : List ExceptionTableEntry} {G : Gt} {M : Mm} {E : Gs} {T j b9 : Nat} {u5 u6 : Value} {Q : Option Value → Mm → Prop} (hI : INV M E T) (hT : T < 2 ^ 29) (hj : 7 * j + 6 < G.L) (hL : G.L ≤ 3584) (k : ∀ M' E' T', T' ≤ T + 1 → XI M' E' → RJ M' E' → IV E' T' → EvL tb9 b9 G 110 mL_law 1473 (lsL j u5 u6) [] M' Q) : EvL tb9 b9 G 110 mL_law 725 (lsL j u5 u6) [] M Q := by
  refine y_aload_n (x := 0) dL_law_725 rfl ?_
  refine y_aload_n (x := 2200) dL_law_726 rfl ?_
  refine y_iload (x := nI (7 * j)) dL_law_727 rfl ?_
  refine y_iconst (v := nI 1) dL_law_729 (by decide) ?_
  refine y_iaddN dL_law_730 ?_
  refine y_sld dL_law_731 (lw_in (by omega) hL) ?_
  refine ycV1x dL_law_732 mo_X10_riot ml_L_87 rfl rfl (Nat.le_of_ble_eq_true rfl) (by omega) (ux_riot hI.1 hI.2.2 hT) ?_
  rintro r M1 ⟨rfl, hx⟩
  have hJ1 := hI.2.1.x hx
  dsimp only [Option.toList, List.cons_append, List.nil_append]
  refine y_aload_n (x := 238) dL_law_735 rfl ?_
  refine y_aload_n (x := 2200) dL_law_736 rfl ?_
  refine y_iload (x := nI (7 * j)) dL_law_737 rfl ?_
  refine y_iconst (v := nI 1) dL_law_739 (by decide) ?_
  refine y_iaddN dL_law_740 ?_
  refine y_sld dL_law_741 (lw_in (by omega) hL) ?_
  refine ycV1x dL_law_742 mo_X11_riot ml_L_90 rfl rfl (Nat.le_of_ble_eq_true rfl) (by omega) (ur_riot hJ1 hI.2.2 hT) ?_
  rintro r M2 ⟨rfl, hy⟩
  dsimp only [Option.toList, List.cons_append, List.nil_append]
  refine y_icmp_eq (tgt := 1473) dL_law_745 (by decide) (fun _ => ?_) (fun c => absurd rfl c)
  exact k _ _ _ (by omega) (hx.1.r hy) hy.1 (hI.2.2)
set_option maxHeartbeats 1000000 in
set_option maxRecDepth 20000 in
theorem w_calm {tb9 : List ExceptionTableEntry} {G : Gt} {M : Mm} {E : Gs} {T j b9 : Nat} {u5 u6 : Value} {Q : Option Value → Mm → Prop} (hI : INV M E T) (hT : T < 2 ^ 29) (hj : 7 * j + 6 < G.L) (hL : G.L ≤ 3584) (k : ∀ M' E' T', T' ≤ T + 1 → XI M' E' → RJ M' E' → IV E' T' → EvL tb9 b9 G 110 mL_law 1473 (lsL j u5 u6) [] M' Q) : EvL tb9 b9 G 110 mL_law 750 (lsL j u5 u6) [] M Q := by
  refine y_aload_n (x := 0) dL_law_750 rfl ?_
  refine y_aload_n (x := 2200) dL_law_751 rfl ?_
  refine y_iload (x := nI (7 * j)) dL_law_752 rfl ?_
  refine y_iconst (v := nI 1) dL_law_754 (by decide) ?_
  refine y_iaddN dL_law_755 ?_
  refine y_sld dL_law_756 (lw_in (by omega) hL) ?_
  refine ycV1x dL_law_757 mo_X10_calm ml_L_91 rfl rfl (Nat.le_of_ble_eq_true rfl) (by omega) (ux_calm hI.1 hI.2.2 hT) ?_
  rintro r M1 ⟨rfl, hx⟩
  have hJ1 := hI.2.1.x hx
  dsimp only [Option.toList, List.cons_append, List.nil_append]
  refine y_aload_n (x := 238) dL_law_760 rfl ?_
  refine y_aload_n (x := 2200) dL_law_761 rfl ?_
  refine y_iload (x := nI (7 * j)) dL_law_762 rfl ?_
  refine y_iconst (v := nI 1) dL_law_764 (by decide) ?_
  refine y_iaddN dL_law_765 ?_
  refine y_sld dL_law_766 (lw_in (by omega) hL) ?_
  refine ycV1x dL_law_767 mo_X11_calm ml_L_94 rfl rfl (Nat.le_of_ble_eq_true rfl) (by omega) (ur_calm hJ1 hI.2.2 hT) ?_
  rintro r M2 ⟨rfl, hy⟩
  dsimp only [Option.toList, List.cons_append, List.nil_append]
  refine y_icmp_eq (tgt := 1473) dL_law_770 (by decide) (fun _ => ?_) (fun c => absurd rfl c)
  exact k _ _ _ (by omega) (hx.1.r hy) hy.1 (hI.2.2)
set_option maxHeartbeats 1000000 in
set_option maxRecDepth 20000 in
theorem w_roofed {tb9 : List ExceptionTableEntry} {G : Gt} {M : Mm} {E : Gs} {T j b9 : Nat} {u5 u6 : Value} {Q : Option Value → Mm → Prop} (hI : INV M E T) (hT : T < 2 ^ 29) (hj : 7 * j + 6 < G.L) (hL : G.L ≤ 3584) (k : ∀ M' E' T', T' ≤ T + 1 → XI M' E' → RJ M' E' → IV E' T' → EvL tb9 b9 G 110 mL_law 1473 (lsL j u5 u6) [] M' Q) : EvL tb9 b9 G 110 mL_law 775 (lsL j u5 u6) [] M Q := by
  refine y_aload_n (x := 0) dL_law_775 rfl ?_
  refine ycV0x dL_law_776 mo_X10_roofed ml_L_95 rfl rfl (Nat.le_of_ble_eq_true rfl) (by omega) (ux_roofed hI.1 hI.2.2 hT) ?_
  rintro r M1 ⟨rfl, hx⟩
  have hJ1 := hI.2.1.x hx
  dsimp only [Option.toList, List.cons_append, List.nil_append]
  refine y_aload_n (x := 238) dL_law_779 rfl ?_
  refine ycV0x dL_law_780 mo_X11_roofed ml_L_98 rfl rfl (Nat.le_of_ble_eq_true rfl) (by omega) (ur_roofed hJ1 hI.2.2 hT) ?_
  rintro r M2 ⟨rfl, hy⟩
  dsimp only [Option.toList, List.cons_append, List.nil_append]
  refine y_icmp_eq (tgt := 1473) dL_law_783 (by decide) (fun _ => ?_) (fun c => absurd rfl c)
  exact k _ _ _ (by omega) (hx.1.r hy) hy.1 (hI.2.2)
set_option maxHeartbeats 1000000 in
set_option maxRecDepth 20000 in
theorem w_had {tb9 : List ExceptionTableEntry} {G : Gt} {M : Mm} {E : Gs} {T j b9 : Nat} {u5 u6 : Value} {Q : Option Value → Mm → Prop} (hI : INV M E T) (hT : T < 2 ^ 29) (hj : 7 * j + 6 < G.L) (hL : G.L ≤ 3584) (k : ∀ M' E' T', T' ≤ T + 1 → XI M' E' → RJ M' E' → IV E' T' → EvL tb9 b9 G 110 mL_law 1473 (lsL j u5 u6) [] M' Q) : EvL tb9 b9 G 110 mL_law 788 (lsL j u5 u6) [] M Q := by
  refine y_aload_n (x := 0) dL_law_788 rfl ?_
  refine y_aload_n (x := 2200) dL_law_789 rfl ?_
  refine y_iload (x := nI (7 * j)) dL_law_790 rfl ?_
  refine y_iconst (v := nI 1) dL_law_792 (by decide) ?_
  refine y_iaddN dL_law_793 ?_
  refine y_sld dL_law_794 (lw_in (by omega) hL) ?_
  refine ycV1x dL_law_795 mo_X10_had ml_L_99 rfl rfl (Nat.le_of_ble_eq_true rfl) (by omega) (ux_had hI.1 hI.2.2 hT) ?_
  rintro r M1 ⟨rfl, hx⟩
  have hJ1 := hI.2.1.x hx
  dsimp only [Option.toList, List.cons_append, List.nil_append]
  refine y_aload_n (x := 238) dL_law_798 rfl ?_
  refine y_aload_n (x := 2200) dL_law_799 rfl ?_
  refine y_iload (x := nI (7 * j)) dL_law_800 rfl ?_
  refine y_iconst (v := nI 1) dL_law_802 (by decide) ?_
  refine y_iaddN dL_law_803 ?_
  refine y_sld dL_law_804 (lw_in (by omega) hL) ?_
  refine ycV1x dL_law_805 mo_X11_had ml_L_102 rfl rfl (Nat.le_of_ble_eq_true rfl) (by omega) (ur_had hJ1 hI.2.2 hT) ?_
  rintro r M2 ⟨rfl, hy⟩
  dsimp only [Option.toList, List.cons_append, List.nil_append]
  refine y_icmp_eq (tgt := 1473) dL_law_808 (by decide) (fun _ => ?_) (fun c => absurd rfl c)
  exact k _ _ _ (by omega) (hx.1.r hy) hy.1 (hI.2.2)
set_option maxHeartbeats 1000000 in
set_option maxRecDepth 20000 in
theorem w_waits {tb9 : List ExceptionTableEntry} {G : Gt} {M : Mm} {E : Gs} {T j b9 : Nat} {u5 u6 : Value} {Q : Option Value → Mm → Prop} (hI : INV M E T) (hT : T < 2 ^ 29) (hj : 7 * j + 6 < G.L) (hL : G.L ≤ 3584) (k : ∀ M' E' T', T' ≤ T + 1 → XI M' E' → RJ M' E' → IV E' T' → EvL tb9 b9 G 110 mL_law 1473 (lsL j u5 u6) [] M' Q) : EvL tb9 b9 G 110 mL_law 813 (lsL j u5 u6) [] M Q := by
  refine y_aload_n (x := 0) dL_law_813 rfl ?_
  refine y_aload_n (x := 2200) dL_law_814 rfl ?_
  refine y_iload (x := nI (7 * j)) dL_law_815 rfl ?_
  refine y_iconst (v := nI 1) dL_law_817 (by decide) ?_
  refine y_iaddN dL_law_818 ?_
  refine y_sld dL_law_819 (lw_in (by omega) hL) ?_
  refine ycV1x dL_law_820 mo_X10_waits ml_L_103 rfl rfl (Nat.le_of_ble_eq_true rfl) (by omega) (ux_waits hI.1 hI.2.2 hT) ?_
  rintro r M1 ⟨rfl, hx⟩
  have hJ1 := hI.2.1.x hx
  dsimp only [Option.toList, List.cons_append, List.nil_append]
  refine y_aload_n (x := 238) dL_law_823 rfl ?_
  refine y_aload_n (x := 2200) dL_law_824 rfl ?_
  refine y_iload (x := nI (7 * j)) dL_law_825 rfl ?_
  refine y_iconst (v := nI 1) dL_law_827 (by decide) ?_
  refine y_iaddN dL_law_828 ?_
  refine y_sld dL_law_829 (lw_in (by omega) hL) ?_
  refine ycV1x dL_law_830 mo_X11_waits ml_L_106 rfl rfl (Nat.le_of_ble_eq_true rfl) (by omega) (ur_waits hJ1 hI.2.2 hT) ?_
  rintro r M2 ⟨rfl, hy⟩
  dsimp only [Option.toList, List.cons_append, List.nil_append]
  refine y_icmp_eq (tgt := 1473) dL_law_833 (by decide) (fun _ => ?_) (fun c => absurd rfl c)
  exact k _ _ _ (by omega) (hx.1.r hy) hy.1 (hI.2.2)
set_option maxHeartbeats 1000000 in
set_option maxRecDepth 20000 in
theorem w_plays {tb9 : List ExceptionTableEntry} {G : Gt} {M : Mm} {E : Gs} {T j b9 : Nat} {u5 u6 : Value} {Q : Option Value → Mm → Prop} (hI : INV M E T) (hT : T < 2 ^ 29) (hj : 7 * j + 6 < G.L) (hL : G.L ≤ 3584) (k : ∀ M' E' T', T' ≤ T + 1 → XI M' E' → RJ M' E' → IV E' T' → EvL tb9 b9 G 110 mL_law 1473 (lsL j u5 u6) [] M' Q) : EvL tb9 b9 G 110 mL_law 838 (lsL j u5 u6) [] M Q := by
  refine y_aload_n (x := 0) dL_law_838 rfl ?_
  refine y_aload_n (x := 2200) dL_law_839 rfl ?_
  refine y_iload (x := nI (7 * j)) dL_law_840 rfl ?_
  refine y_iconst (v := nI 1) dL_law_842 (by decide) ?_
  refine y_iaddN dL_law_843 ?_
  refine y_sld dL_law_844 (lw_in (by omega) hL) ?_
  refine ycV1x dL_law_845 mo_X10_plays ml_L_107 rfl rfl (Nat.le_of_ble_eq_true rfl) (by omega) (ux_plays hI.1 hI.2.2 hT) ?_
  rintro r M1 ⟨rfl, hx⟩
  have hJ1 := hI.2.1.x hx
  dsimp only [Option.toList, List.cons_append, List.nil_append]
  refine y_aload_n (x := 238) dL_law_848 rfl ?_
  refine y_aload_n (x := 2200) dL_law_849 rfl ?_
  refine y_iload (x := nI (7 * j)) dL_law_850 rfl ?_
  refine y_iconst (v := nI 1) dL_law_852 (by decide) ?_
  refine y_iaddN dL_law_853 ?_
  refine y_sld dL_law_854 (lw_in (by omega) hL) ?_
  refine ycV1x dL_law_855 mo_X11_plays ml_L_110 rfl rfl (Nat.le_of_ble_eq_true rfl) (by omega) (ur_plays hJ1 hI.2.2 hT) ?_
  rintro r M2 ⟨rfl, hy⟩
  dsimp only [Option.toList, List.cons_append, List.nil_append]
  refine y_icmp_eq (tgt := 1473) dL_law_858 (by decide) (fun _ => ?_) (fun c => absurd rfl c)
  exact k _ _ _ (by omega) (hx.1.r hy) hy.1 (hI.2.2)
set_option maxHeartbeats 1000000 in
set_option maxRecDepth 20000 in
theorem w_blend {tb9 : List ExceptionTableEntry} {G : Gt} {M : Mm} {E : Gs} {T j b9 : Nat} {u5 u6 : Value} {Q : Option Value → Mm → Prop} (hI : INV M E T) (hT : T < 2 ^ 29) (hj : 7 * j + 6 < G.L) (hL : G.L ≤ 3584) (k : ∀ M' E' T', T' ≤ T + 1 → XI M' E' → RJ M' E' → IV E' T' → EvL tb9 b9 G 110 mL_law 1473 (lsL j u5 u6) [] M' Q) : EvL tb9 b9 G 110 mL_law 863 (lsL j u5 u6) [] M Q := by
  refine y_aload_n (x := 0) dL_law_863 rfl ?_
  refine y_aload_n (x := 2200) dL_law_864 rfl ?_
  refine y_iload (x := nI (7 * j)) dL_law_865 rfl ?_
  refine y_iconst (v := nI 1) dL_law_867 (by decide) ?_
  refine y_iaddN dL_law_868 ?_
  refine y_sld dL_law_869 (lw_in (by omega) hL) ?_
  refine ycV1x dL_law_870 mo_X10_blend ml_L_111 rfl rfl (Nat.le_of_ble_eq_true rfl) (by omega) (ux_blend hI.1 hI.2.2 hT) ?_
  rintro r M1 ⟨rfl, hx⟩
  have hJ1 := hI.2.1.x hx
  dsimp only [Option.toList, List.cons_append, List.nil_append]
  refine y_aload_n (x := 238) dL_law_873 rfl ?_
  refine y_aload_n (x := 2200) dL_law_874 rfl ?_
  refine y_iload (x := nI (7 * j)) dL_law_875 rfl ?_
  refine y_iconst (v := nI 1) dL_law_877 (by decide) ?_
  refine y_iaddN dL_law_878 ?_
  refine y_sld dL_law_879 (lw_in (by omega) hL) ?_
  refine ycV1x dL_law_880 mo_X11_blend ml_L_114 rfl rfl (Nat.le_of_ble_eq_true rfl) (by omega) (ur_blend hJ1 hI.2.2 hT) ?_
  rintro r M2 ⟨rfl, hy⟩
  dsimp only [Option.toList, List.cons_append, List.nil_append]
  refine y_icmp_eq (tgt := 1473) dL_law_883 (by decide) (fun _ => ?_) (fun c => absurd rfl c)
  exact k _ _ _ (by omega) (hx.1.r hy) hy.1 (hI.2.2)
set_option maxHeartbeats 1000000 in
set_option maxRecDepth 20000 in
theorem w_aim {tb9 : List ExceptionTableEntry} {G : Gt} {M : Mm} {E : Gs} {T j b9 : Nat} {u5 u6 : Value} {Q : Option Value → Mm → Prop} (hI : INV M E T) (hT : T < 2 ^ 29) (hj : 7 * j + 6 < G.L) (hL : G.L ≤ 3584) (k : ∀ M' E' T', T' ≤ T + 1 → XI M' E' → RJ M' E' → IV E' T' → EvL tb9 b9 G 110 mL_law 1473 (lsL j u5 u6) [] M' Q) : EvL tb9 b9 G 110 mL_law 888 (lsL j u5 u6) [] M Q := by
  refine y_aload_n (x := 0) dL_law_888 rfl ?_
  refine y_aload_n (x := 2200) dL_law_889 rfl ?_
  refine y_iload (x := nI (7 * j)) dL_law_890 rfl ?_
  refine y_iconst (v := nI 1) dL_law_892 (by decide) ?_
  refine y_iaddN dL_law_893 ?_
  refine y_sld dL_law_894 (lw_in (by omega) hL) ?_
  refine y_aload_n (x := 2200) dL_law_895 rfl ?_
  refine y_iload (x := nI (7 * j)) dL_law_896 rfl ?_
  refine y_iconst (v := nI 2) dL_law_898 (by decide) ?_
  refine y_iaddN dL_law_899 ?_
  refine y_sld dL_law_900 (lw_in (by omega) hL) ?_
  refine y_aload_n (x := 2200) dL_law_901 rfl ?_
  refine y_iload (x := nI (7 * j)) dL_law_902 rfl ?_
  refine y_iconst (v := nI 3) dL_law_904 (by decide) ?_
  refine y_iaddN dL_law_905 ?_
  refine y_sld dL_law_906 (lw_in (by omega) hL) ?_
  refine ycV3x dL_law_907 mo_X10_aim ml_L_115 rfl rfl (Nat.le_of_ble_eq_true rfl) (by omega) (ux_aim hI.1 hI.2.2 hT) ?_
  rintro r M1 ⟨rfl, hx⟩
  have hJ1 := hI.2.1.x hx
  dsimp only [Option.toList, List.cons_append, List.nil_append]
  refine y_aload_n (x := 238) dL_law_910 rfl ?_
  refine y_aload_n (x := 2200) dL_law_911 rfl ?_
  refine y_iload (x := nI (7 * j)) dL_law_912 rfl ?_
  refine y_iconst (v := nI 1) dL_law_914 (by decide) ?_
  refine y_iaddN dL_law_915 ?_
  refine y_sld dL_law_916 (lw_in (by omega) hL) ?_
  refine y_aload_n (x := 2200) dL_law_917 rfl ?_
  refine y_iload (x := nI (7 * j)) dL_law_918 rfl ?_
  refine y_iconst (v := nI 2) dL_law_920 (by decide) ?_
  refine y_iaddN dL_law_921 ?_
  refine y_sld dL_law_922 (lw_in (by omega) hL) ?_
  refine y_aload_n (x := 2200) dL_law_923 rfl ?_
  refine y_iload (x := nI (7 * j)) dL_law_924 rfl ?_
  refine y_iconst (v := nI 3) dL_law_926 (by decide) ?_
  refine y_iaddN dL_law_927 ?_
  refine y_sld dL_law_928 (lw_in (by omega) hL) ?_
  refine ycV3x dL_law_929 mo_X11_aim ml_L_119 rfl rfl (Nat.le_of_ble_eq_true rfl) (by omega) (ur_aim hJ1 hI.2.2 hT) ?_
  rintro r M2 ⟨rfl, hy⟩
  dsimp only [Option.toList, List.cons_append, List.nil_append]
  refine y_icmp_eq (tgt := 1473) dL_law_932 (by decide) (fun _ => ?_) (fun c => absurd rfl c)
  exact k _ _ _ (by omega) (hx.1.r hy) hy.1 (hI.2.2)
set_option maxHeartbeats 1000000 in
set_option maxRecDepth 20000 in
theorem w_reach {tb9 : List ExceptionTableEntry} {G : Gt} {M : Mm} {E : Gs} {T j b9 : Nat} {u5 u6 : Value} {Q : Option Value → Mm → Prop} (hI : INV M E T) (hT : T < 2 ^ 29) (hj : 7 * j + 6 < G.L) (hL : G.L ≤ 3584) (k : ∀ M' E' T', T' ≤ T + 1 → XI M' E' → RJ M' E' → IV E' T' → EvL tb9 b9 G 110 mL_law 1473 (lsL j u5 u6) [] M' Q) : EvL tb9 b9 G 110 mL_law 937 (lsL j u5 u6) [] M Q := by
  refine y_aload_n (x := 0) dL_law_937 rfl ?_
  refine y_aload_n (x := 2200) dL_law_938 rfl ?_
  refine y_iload (x := nI (7 * j)) dL_law_939 rfl ?_
  refine y_iconst (v := nI 1) dL_law_941 (by decide) ?_
  refine y_iaddN dL_law_942 ?_
  refine y_sld dL_law_943 (lw_in (by omega) hL) ?_
  refine ycV1x dL_law_944 mo_X10_reach ml_L_120 rfl rfl (Nat.le_of_ble_eq_true rfl) (by omega) (ux_reach hI.1 hI.2.2 hT) ?_
  rintro r M1 ⟨rfl, hx⟩
  have hJ1 := hI.2.1.x hx
  dsimp only [Option.toList, List.cons_append, List.nil_append]
  refine y_aload_n (x := 238) dL_law_947 rfl ?_
  refine y_aload_n (x := 2200) dL_law_948 rfl ?_
  refine y_iload (x := nI (7 * j)) dL_law_949 rfl ?_
  refine y_iconst (v := nI 1) dL_law_951 (by decide) ?_
  refine y_iaddN dL_law_952 ?_
  refine y_sld dL_law_953 (lw_in (by omega) hL) ?_
  refine ycV1x dL_law_954 mo_X11_reach ml_L_123 rfl rfl (Nat.le_of_ble_eq_true rfl) (by omega) (ur_reach hJ1 hI.2.2 hT) ?_
  rintro r M2 ⟨rfl, hy⟩
  dsimp only [Option.toList, List.cons_append, List.nil_append]
  refine y_icmp_eq (tgt := 1473) dL_law_957 (by decide) (fun _ => ?_) (fun c => absurd rfl c)
  exact k _ _ _ (by omega) (hx.1.r hy) hy.1 (hI.2.2)
set_option maxHeartbeats 1000000 in
set_option maxRecDepth 20000 in
theorem w_far {tb9 : List ExceptionTableEntry} {G : Gt} {M : Mm} {E : Gs} {T j b9 : Nat} {u5 u6 : Value} {Q : Option Value → Mm → Prop} (hI : INV M E T) (hT : T < 2 ^ 29) (hj : 7 * j + 6 < G.L) (hL : G.L ≤ 3584) (k : ∀ M' E' T', T' ≤ T + 1 → XI M' E' → RJ M' E' → IV E' T' → EvL tb9 b9 G 110 mL_law 1473 (lsL j u5 u6) [] M' Q) : EvL tb9 b9 G 110 mL_law 962 (lsL j u5 u6) [] M Q := by
  refine y_aload_n (x := 0) dL_law_962 rfl ?_
  refine y_aload_n (x := 2200) dL_law_963 rfl ?_
  refine y_iload (x := nI (7 * j)) dL_law_964 rfl ?_
  refine y_iconst (v := nI 1) dL_law_966 (by decide) ?_
  refine y_iaddN dL_law_967 ?_
  refine y_sld dL_law_968 (lw_in (by omega) hL) ?_
  refine y_aload_n (x := 2200) dL_law_969 rfl ?_
  refine y_iload (x := nI (7 * j)) dL_law_970 rfl ?_
  refine y_iconst (v := nI 2) dL_law_972 (by decide) ?_
  refine y_iaddN dL_law_973 ?_
  refine y_sld dL_law_974 (lw_in (by omega) hL) ?_
  refine ycV2x dL_law_975 mo_X10_far ml_L_124 rfl rfl (Nat.le_of_ble_eq_true rfl) (by omega) (ux_far hI.1 hI.2.2 hT) ?_
  rintro r M1 ⟨rfl, hx⟩
  have hJ1 := hI.2.1.x hx
  dsimp only [Option.toList, List.cons_append, List.nil_append]
  refine y_aload_n (x := 238) dL_law_978 rfl ?_
  refine y_aload_n (x := 2200) dL_law_979 rfl ?_
  refine y_iload (x := nI (7 * j)) dL_law_980 rfl ?_
  refine y_iconst (v := nI 1) dL_law_982 (by decide) ?_
  refine y_iaddN dL_law_983 ?_
  refine y_sld dL_law_984 (lw_in (by omega) hL) ?_
  refine y_aload_n (x := 2200) dL_law_985 rfl ?_
  refine y_iload (x := nI (7 * j)) dL_law_986 rfl ?_
  refine y_iconst (v := nI 2) dL_law_988 (by decide) ?_
  refine y_iaddN dL_law_989 ?_
  refine y_sld dL_law_990 (lw_in (by omega) hL) ?_
  refine ycV2x dL_law_991 mo_X11_far ml_L_127 rfl rfl (Nat.le_of_ble_eq_true rfl) (by omega) (ur_far hJ1 hI.2.2 hT) ?_
  rintro r M2 ⟨rfl, hy⟩
  dsimp only [Option.toList, List.cons_append, List.nil_append]
  refine y_icmp_eq (tgt := 1473) dL_law_994 (by decide) (fun _ => ?_) (fun c => absurd rfl c)
  exact k _ _ _ (by omega) (hx.1.r hy) hy.1 (hI.2.2)
set_option maxHeartbeats 1000000 in
set_option maxRecDepth 20000 in
theorem w_parts {tb9 : List ExceptionTableEntry} {G : Gt} {M : Mm} {E : Gs} {T j b9 : Nat} {u5 u6 : Value} {Q : Option Value → Mm → Prop} (hI : INV M E T) (hT : T < 2 ^ 29) (hj : 7 * j + 6 < G.L) (hL : G.L ≤ 3584) (k : ∀ M' E' T', T' ≤ T + 1 → XI M' E' → RJ M' E' → IV E' T' → EvL tb9 b9 G 110 mL_law 1473 (lsL j u5 u6) [] M' Q) : EvL tb9 b9 G 110 mL_law 999 (lsL j u5 u6) [] M Q := by
  refine y_aload_n (x := 0) dL_law_999 rfl ?_
  refine ycV0x dL_law_1000 mo_X10_parts ml_L_128 rfl rfl (Nat.le_of_ble_eq_true rfl) (by omega) (ux_parts hI.1 hI.2.2 hT) ?_
  rintro r M1 ⟨rfl, hx⟩
  have hJ1 := hI.2.1.x hx
  dsimp only [Option.toList, List.cons_append, List.nil_append]
  refine y_aload_n (x := 238) dL_law_1003 rfl ?_
  refine ycV0x dL_law_1004 mo_X11_parts ml_L_131 rfl rfl (Nat.le_of_ble_eq_true rfl) (by omega) (ur_parts hJ1 hI.2.2 hT) ?_
  rintro r M2 ⟨rfl, hy⟩
  dsimp only [Option.toList, List.cons_append, List.nil_append]
  refine y_icmp_eq (tgt := 1473) dL_law_1007 (by decide) (fun _ => ?_) (fun c => absurd rfl c)
  exact k _ _ _ (by omega) (hx.1.r hy) hy.1 (hI.2.2)
set_option maxHeartbeats 1000000 in
set_option maxRecDepth 20000 in
theorem w_heard {tb9 : List ExceptionTableEntry} {G : Gt} {M : Mm} {E : Gs} {T j b9 : Nat} {u5 u6 : Value} {Q : Option Value → Mm → Prop} (hI : INV M E T) (hT : T < 2 ^ 29) (hj : 7 * j + 6 < G.L) (hL : G.L ≤ 3584) (k : ∀ M' E' T', T' ≤ T + 1 → XI M' E' → RJ M' E' → IV E' T' → EvL tb9 b9 G 110 mL_law 1473 (lsL j u5 u6) [] M' Q) : EvL tb9 b9 G 110 mL_law 1012 (lsL j u5 u6) [] M Q := by
  refine y_aload_n (x := 0) dL_law_1012 rfl ?_
  refine y_aload_n (x := 2200) dL_law_1013 rfl ?_
  refine y_iload (x := nI (7 * j)) dL_law_1014 rfl ?_
  refine y_iconst (v := nI 1) dL_law_1016 (by decide) ?_
  refine y_iaddN dL_law_1017 ?_
  refine y_sld dL_law_1018 (lw_in (by omega) hL) ?_
  refine ycV1x dL_law_1019 mo_X10_heard ml_L_132 rfl rfl (Nat.le_of_ble_eq_true rfl) (by omega) (ux_heard hI.1 hI.2.2 hT) ?_
  rintro r M1 ⟨rfl, hx⟩
  have hJ1 := hI.2.1.x hx
  dsimp only [Option.toList, List.cons_append, List.nil_append]
  refine y_aload_n (x := 238) dL_law_1022 rfl ?_
  refine y_aload_n (x := 2200) dL_law_1023 rfl ?_
  refine y_iload (x := nI (7 * j)) dL_law_1024 rfl ?_
  refine y_iconst (v := nI 1) dL_law_1026 (by decide) ?_
  refine y_iaddN dL_law_1027 ?_
  refine y_sld dL_law_1028 (lw_in (by omega) hL) ?_
  refine ycV1x dL_law_1029 mo_X11_heard ml_L_135 rfl rfl (Nat.le_of_ble_eq_true rfl) (by omega) (ur_heard hJ1 hI.2.2 hT) ?_
  rintro r M2 ⟨rfl, hy⟩
  dsimp only [Option.toList, List.cons_append, List.nil_append]
  refine y_icmp_eq (tgt := 1473) dL_law_1032 (by decide) (fun _ => ?_) (fun c => absurd rfl c)
  exact k _ _ _ (by omega) (hx.1.r hy) hy.1 (hI.2.2)
set_option maxHeartbeats 1000000 in
set_option maxRecDepth 20000 in
theorem w_news {tb9 : List ExceptionTableEntry} {G : Gt} {M : Mm} {E : Gs} {T j b9 : Nat} {u5 u6 : Value} {Q : Option Value → Mm → Prop} (hI : INV M E T) (hT : T < 2 ^ 29) (hj : 7 * j + 6 < G.L) (hL : G.L ≤ 3584) (k : ∀ M' E' T', T' ≤ T + 1 → XI M' E' → RJ M' E' → IV E' T' → EvL tb9 b9 G 110 mL_law 1473 (lsL j u5 u6) [] M' Q) : EvL tb9 b9 G 110 mL_law 1037 (lsL j u5 u6) [] M Q := by
  refine y_aload_n (x := 0) dL_law_1037 rfl ?_
  refine ycV0x dL_law_1038 mo_X10_news ml_L_136 rfl rfl (Nat.le_of_ble_eq_true rfl) (by omega) (ux_news hI.1 hI.2.2 hT) ?_
  rintro r M1 ⟨rfl, hx⟩
  have hJ1 := hI.2.1.x hx
  dsimp only [Option.toList, List.cons_append, List.nil_append]
  refine y_aload_n (x := 238) dL_law_1041 rfl ?_
  refine ycV0x dL_law_1042 mo_X11_news ml_L_139 rfl rfl (Nat.le_of_ble_eq_true rfl) (by omega) (ur_news hJ1 hI.2.2 hT) ?_
  rintro r M2 ⟨rfl, hy⟩
  dsimp only [Option.toList, List.cons_append, List.nil_append]
  refine y_icmp_eq (tgt := 1473) dL_law_1045 (by decide) (fun _ => ?_) (fun c => absurd rfl c)
  exact k _ _ _ (by omega) (hx.1.r hy) hy.1 (hI.2.2)
set_option maxHeartbeats 1000000 in
set_option maxRecDepth 20000 in
theorem w_loud {tb9 : List ExceptionTableEntry} {G : Gt} {M : Mm} {E : Gs} {T j b9 : Nat} {u5 u6 : Value} {Q : Option Value → Mm → Prop} (hI : INV M E T) (hT : T < 2 ^ 29) (hj : 7 * j + 6 < G.L) (hL : G.L ≤ 3584) (k : ∀ M' E' T', T' ≤ T + 1 → XI M' E' → RJ M' E' → IV E' T' → EvL tb9 b9 G 110 mL_law 1473 (lsL j u5 u6) [] M' Q) : EvL tb9 b9 G 110 mL_law 1050 (lsL j u5 u6) [] M Q := by
  refine y_aload_n (x := 0) dL_law_1050 rfl ?_
  refine ycV0x dL_law_1051 mo_X10_loud ml_L_140 rfl rfl (Nat.le_of_ble_eq_true rfl) (by omega) (ux_loud hI.1 hI.2.2 hT) ?_
  rintro r M1 ⟨rfl, hx⟩
  have hJ1 := hI.2.1.x hx
  dsimp only [Option.toList, List.cons_append, List.nil_append]
  refine y_aload_n (x := 238) dL_law_1054 rfl ?_
  refine ycV0x dL_law_1055 mo_X11_loud ml_L_143 rfl rfl (Nat.le_of_ble_eq_true rfl) (by omega) (ur_loud hJ1 hI.2.2 hT) ?_
  rintro r M2 ⟨rfl, hy⟩
  dsimp only [Option.toList, List.cons_append, List.nil_append]
  refine y_icmp_eq (tgt := 1473) dL_law_1058 (by decide) (fun _ => ?_) (fun c => absurd rfl c)
  exact k _ _ _ (by omega) (hx.1.r hy) hy.1 (hI.2.2)
set_option maxHeartbeats 1000000 in
set_option maxRecDepth 20000 in
theorem w_tall {tb9 : List ExceptionTableEntry} {G : Gt} {M : Mm} {E : Gs} {T j b9 : Nat} {u5 u6 : Value} {Q : Option Value → Mm → Prop} (hI : INV M E T) (hT : T < 2 ^ 29) (hj : 7 * j + 6 < G.L) (hL : G.L ≤ 3584) (k : ∀ M' E' T', T' ≤ T + 1 → XI M' E' → RJ M' E' → IV E' T' → EvL tb9 b9 G 110 mL_law 1473 (lsL j u5 u6) [] M' Q) : EvL tb9 b9 G 110 mL_law 1063 (lsL j u5 u6) [] M Q := by
  refine y_aload_n (x := 0) dL_law_1063 rfl ?_
  refine ycV0x dL_law_1064 mo_X10_tall ml_L_144 rfl rfl (Nat.le_of_ble_eq_true rfl) (by omega) (ux_tall hI.1 hI.2.2 hT) ?_
  rintro r M1 ⟨rfl, hx⟩
  have hJ1 := hI.2.1.x hx
  dsimp only [Option.toList, List.cons_append, List.nil_append]
  refine y_aload_n (x := 238) dL_law_1067 rfl ?_
  refine ycV0x dL_law_1068 mo_X11_tall ml_L_147 rfl rfl (Nat.le_of_ble_eq_true rfl) (by omega) (ur_tall hJ1 hI.2.2 hT) ?_
  rintro r M2 ⟨rfl, hy⟩
  dsimp only [Option.toList, List.cons_append, List.nil_append]
  refine y_icmp_eq (tgt := 1473) dL_law_1071 (by decide) (fun _ => ?_) (fun c => absurd rfl c)
  exact k _ _ _ (by omega) (hx.1.r hy) hy.1 (hI.2.2)
set_option maxHeartbeats 1000000 in
set_option maxRecDepth 20000 in
theorem w_yields {tb9 : List ExceptionTableEntry} {G : Gt} {M : Mm} {E : Gs} {T j b9 : Nat} {u5 u6 : Value} {Q : Option Value → Mm → Prop} (hI : INV M E T) (hT : T < 2 ^ 29) (hj : 7 * j + 6 < G.L) (hL : G.L ≤ 3584) (k : ∀ M' E' T', T' ≤ T + 1 → XI M' E' → RJ M' E' → IV E' T' → EvL tb9 b9 G 110 mL_law 1473 (lsL j u5 u6) [] M' Q) : EvL tb9 b9 G 110 mL_law 1076 (lsL j u5 u6) [] M Q := by
  refine y_aload_n (x := 0) dL_law_1076 rfl ?_
  refine y_aload_n (x := 2200) dL_law_1077 rfl ?_
  refine y_iload (x := nI (7 * j)) dL_law_1078 rfl ?_
  refine y_iconst (v := nI 1) dL_law_1080 (by decide) ?_
  refine y_iaddN dL_law_1081 ?_
  refine y_sld dL_law_1082 (lw_in (by omega) hL) ?_
  refine ycV1x dL_law_1083 mo_X10_yields ml_L_148 rfl rfl (Nat.le_of_ble_eq_true rfl) (by omega) (ux_yields hI.1 hI.2.2 hT) ?_
  rintro r M1 ⟨rfl, hx⟩
  have hJ1 := hI.2.1.x hx
  dsimp only [Option.toList, List.cons_append, List.nil_append]
  refine y_aload_n (x := 238) dL_law_1086 rfl ?_
  refine y_aload_n (x := 2200) dL_law_1087 rfl ?_
  refine y_iload (x := nI (7 * j)) dL_law_1088 rfl ?_
  refine y_iconst (v := nI 1) dL_law_1090 (by decide) ?_
  refine y_iaddN dL_law_1091 ?_
  refine y_sld dL_law_1092 (lw_in (by omega) hL) ?_
  refine ycV1x dL_law_1093 mo_X11_yields ml_L_151 rfl rfl (Nat.le_of_ble_eq_true rfl) (by omega) (ur_yields hJ1 hI.2.2 hT) ?_
  rintro r M2 ⟨rfl, hy⟩
  dsimp only [Option.toList, List.cons_append, List.nil_append]
  refine y_icmp_eq (tgt := 1473) dL_law_1096 (by decide) (fun _ => ?_) (fun c => absurd rfl c)
  exact k _ _ _ (by omega) (hx.1.r hy) hy.1 (hI.2.2)
set_option maxHeartbeats 1000000 in
set_option maxRecDepth 20000 in
theorem w_see {tb9 : List ExceptionTableEntry} {G : Gt} {M : Mm} {E : Gs} {T j b9 : Nat} {u5 u6 : Value} {Q : Option Value → Mm → Prop} (hI : INV M E T) (hT : T < 2 ^ 29) (hj : 7 * j + 6 < G.L) (hL : G.L ≤ 3584) (k : ∀ M' E' T', T' ≤ T + 1 → XI M' E' → RJ M' E' → IV E' T' → EvL tb9 b9 G 110 mL_law 1473 (lsL j u5 u6) [] M' Q) : EvL tb9 b9 G 110 mL_law 1101 (lsL j u5 u6) [] M Q := by
  refine y_aload_n (x := 0) dL_law_1101 rfl ?_
  refine y_aload_n (x := 2200) dL_law_1102 rfl ?_
  refine y_iload (x := nI (7 * j)) dL_law_1103 rfl ?_
  refine y_iconst (v := nI 1) dL_law_1105 (by decide) ?_
  refine y_iaddN dL_law_1106 ?_
  refine y_sld dL_law_1107 (lw_in (by omega) hL) ?_
  refine y_aload_n (x := 2200) dL_law_1108 rfl ?_
  refine y_iload (x := nI (7 * j)) dL_law_1109 rfl ?_
  refine y_iconst (v := nI 2) dL_law_1111 (by decide) ?_
  refine y_iaddN dL_law_1112 ?_
  refine y_sld dL_law_1113 (lw_in (by omega) hL) ?_
  refine y_aload_n (x := 2200) dL_law_1114 rfl ?_
  refine y_iload (x := nI (7 * j)) dL_law_1115 rfl ?_
  refine y_iconst (v := nI 3) dL_law_1117 (by decide) ?_
  refine y_iaddN dL_law_1118 ?_
  refine y_sld dL_law_1119 (lw_in (by omega) hL) ?_
  refine y_if_eq (tgt := 1127) dL_law_1120 (by decide) (fun hb => ?_) (fun hb => ?_)
  · refine y_iconst (v := 0) dL_law_1127 (by decide) ?_
    refine ycV3x dL_law_1128 mo_X10_see ml_L_152 rfl rfl (Nat.le_of_ble_eq_true rfl) (by omega) (ux_see hI.1 hI.2.2 hT (Or.inl rfl)) ?_
    rintro r M1 ⟨rfl, hx⟩
    have hJ1 := hI.2.1.x hx
    dsimp only [Option.toList, List.cons_append, List.nil_append]
    refine y_aload_n (x := 238) dL_law_1131 rfl ?_
    refine y_aload_n (x := 2200) dL_law_1132 rfl ?_
    refine y_iload (x := nI (7 * j)) dL_law_1133 rfl ?_
    refine y_iconst (v := nI 1) dL_law_1135 (by decide) ?_
    refine y_iaddN dL_law_1136 ?_
    refine y_sld dL_law_1137 (lw_in (by omega) hL) ?_
    refine y_aload_n (x := 2200) dL_law_1138 rfl ?_
    refine y_iload (x := nI (7 * j)) dL_law_1139 rfl ?_
    refine y_iconst (v := nI 2) dL_law_1141 (by decide) ?_
    refine y_iaddN dL_law_1142 ?_
    refine y_sld dL_law_1143 (lw_in (by omega) hL) ?_
    refine y_aload_n (x := 2200) dL_law_1144 rfl ?_
    refine y_iload (x := nI (7 * j)) dL_law_1145 rfl ?_
    refine y_iconst (v := nI 3) dL_law_1147 (by decide) ?_
    refine y_iaddN dL_law_1148 ?_
    refine y_sld dL_law_1149 (lw_in (by omega) hL) ?_
    refine y_if_eq (tgt := 1157) dL_law_1150 (by decide) (fun _ => ?_) (fun c => absurd hb c)
    refine y_iconst (v := 0) dL_law_1157 (by decide) ?_
    refine ycV3x dL_law_1158 mo_X11_see ml_L_156 rfl rfl (Nat.le_of_ble_eq_true rfl) (by omega) (ur_see hJ1 hI.2.2 hT (Or.inl rfl)) ?_
    rintro r M2 ⟨rfl, hy⟩
    dsimp only [Option.toList, List.cons_append, List.nil_append]
    refine y_icmp_eq (tgt := 1473) dL_law_1161 (by decide) (fun _ => ?_) (fun c => absurd rfl c)
    exact k _ _ _ (by omega) (hx.1.r hy) hy.1 (hI.2.2.see ((Or.inl rfl)))
  · refine y_iconst (v := 1) dL_law_1123 (by decide) ?_
    refine y_goto (tgt := 1128) dL_law_1124 (by decide) ?_
    refine ycV3x dL_law_1128 mo_X10_see ml_L_152 rfl rfl (Nat.le_of_ble_eq_true rfl) (by omega) (ux_see hI.1 hI.2.2 hT (Or.inr rfl)) ?_
    rintro r M1 ⟨rfl, hx⟩
    have hJ1 := hI.2.1.x hx
    dsimp only [Option.toList, List.cons_append, List.nil_append]
    refine y_aload_n (x := 238) dL_law_1131 rfl ?_
    refine y_aload_n (x := 2200) dL_law_1132 rfl ?_
    refine y_iload (x := nI (7 * j)) dL_law_1133 rfl ?_
    refine y_iconst (v := nI 1) dL_law_1135 (by decide) ?_
    refine y_iaddN dL_law_1136 ?_
    refine y_sld dL_law_1137 (lw_in (by omega) hL) ?_
    refine y_aload_n (x := 2200) dL_law_1138 rfl ?_
    refine y_iload (x := nI (7 * j)) dL_law_1139 rfl ?_
    refine y_iconst (v := nI 2) dL_law_1141 (by decide) ?_
    refine y_iaddN dL_law_1142 ?_
    refine y_sld dL_law_1143 (lw_in (by omega) hL) ?_
    refine y_aload_n (x := 2200) dL_law_1144 rfl ?_
    refine y_iload (x := nI (7 * j)) dL_law_1145 rfl ?_
    refine y_iconst (v := nI 3) dL_law_1147 (by decide) ?_
    refine y_iaddN dL_law_1148 ?_
    refine y_sld dL_law_1149 (lw_in (by omega) hL) ?_
    refine y_if_eq (tgt := 1157) dL_law_1150 (by decide) (fun c => absurd c hb) (fun _ => ?_)
    refine y_iconst (v := 1) dL_law_1153 (by decide) ?_
    refine y_goto (tgt := 1158) dL_law_1154 (by decide) ?_
    refine ycV3x dL_law_1158 mo_X11_see ml_L_156 rfl rfl (Nat.le_of_ble_eq_true rfl) (by omega) (ur_see hJ1 hI.2.2 hT (Or.inr rfl)) ?_
    rintro r M2 ⟨rfl, hy⟩
    dsimp only [Option.toList, List.cons_append, List.nil_append]
    refine y_icmp_eq (tgt := 1473) dL_law_1161 (by decide) (fun _ => ?_) (fun c => absurd rfl c)
    exact k _ _ _ (by omega) (hx.1.r hy) hy.1 (hI.2.2.see ((Or.inr rfl)))
set_option maxHeartbeats 1000000 in
set_option maxRecDepth 20000 in
theorem w_who {tb9 : List ExceptionTableEntry} {G : Gt} {M : Mm} {E : Gs} {T j b9 : Nat} {u5 u6 : Value} {Q : Option Value → Mm → Prop} (hI : INV M E T) (hT : T < 2 ^ 29) (hj : 7 * j + 6 < G.L) (hL : G.L ≤ 3584) (k : ∀ M' E' T', T' ≤ T + 1 → XI M' E' → RJ M' E' → IV E' T' → EvL tb9 b9 G 110 mL_law 1473 (lsL j u5 u6) [] M' Q) : EvL tb9 b9 G 110 mL_law 1166 (lsL j u5 u6) [] M Q := by
  refine y_aload_n (x := 0) dL_law_1166 rfl ?_
  refine ycV0x dL_law_1167 mo_X10_who ml_L_157 rfl rfl (Nat.le_of_ble_eq_true rfl) (by omega) (ux_who hI.1 hI.2.2 hT) ?_
  rintro r M1 ⟨rfl, hx⟩
  have hJ1 := hI.2.1.x hx
  dsimp only [Option.toList, List.cons_append, List.nil_append]
  refine y_aload_n (x := 238) dL_law_1170 rfl ?_
  refine ycV0x dL_law_1171 mo_X11_who ml_L_160 rfl rfl (Nat.le_of_ble_eq_true rfl) (by omega) (ur_who hJ1 hI.2.2 hT) ?_
  rintro r M2 ⟨rfl, hy⟩
  dsimp only [Option.toList, List.cons_append, List.nil_append]
  refine y_icmp_eq (tgt := 1473) dL_law_1174 (by decide) (fun _ => ?_) (fun c => absurd rfl c)
  exact k _ _ _ (by omega) (hx.1.r hy) hy.1 (hI.2.2)
set_option maxHeartbeats 1000000 in
set_option maxRecDepth 20000 in
theorem w_ask {tb9 : List ExceptionTableEntry} {G : Gt} {M : Mm} {E : Gs} {T j b9 : Nat} {u5 u6 : Value} {Q : Option Value → Mm → Prop} (hI : INV M E T) (hT : T < 2 ^ 29) (hj : 7 * j + 6 < G.L) (hL : G.L ≤ 3584) (k : ∀ M' E' T', T' ≤ T + 1 → XI M' E' → RJ M' E' → IV E' T' → EvL tb9 b9 G 110 mL_law 1473 (lsL j u5 u6) [] M' Q) : EvL tb9 b9 G 110 mL_law 1179 (lsL j u5 u6) [] M Q := by
  refine y_aload_n (x := 0) dL_law_1179 rfl ?_
  refine ycV0x dL_law_1180 mo_X10_ask ml_L_161 rfl rfl (Nat.le_of_ble_eq_true rfl) (by omega) (ux_ask hI.1 hI.2.2 hT) ?_
  rintro r M1 ⟨rfl, hx⟩
  have hJ1 := hI.2.1.x hx
  dsimp only [Option.toList, List.cons_append, List.nil_append]
  refine y_aload_n (x := 238) dL_law_1183 rfl ?_
  refine ycV0x dL_law_1184 mo_X11_ask ml_L_164 rfl rfl (Nat.le_of_ble_eq_true rfl) (by omega) (ur_ask hJ1 hI.2.2 hT) ?_
  rintro r M2 ⟨rfl, hy⟩
  dsimp only [Option.toList, List.cons_append, List.nil_append]
  refine y_icmp_eq (tgt := 1473) dL_law_1187 (by decide) (fun _ => ?_) (fun c => absurd rfl c)
  exact k _ _ _ (by omega) (hx.1.r hy) hy.1 (hI.2.2)
set_option maxHeartbeats 1000000 in
set_option maxRecDepth 20000 in
theorem w_stick {tb9 : List ExceptionTableEntry} {G : Gt} {M : Mm} {E : Gs} {T j b9 : Nat} {u5 u6 : Value} {Q : Option Value → Mm → Prop} (hI : INV M E T) (hT : T < 2 ^ 29) (hj : 7 * j + 6 < G.L) (hL : G.L ≤ 3584) (k : ∀ M' E' T', T' ≤ T + 1 → XI M' E' → RJ M' E' → IV E' T' → EvL tb9 b9 G 110 mL_law 1473 (lsL j u5 u6) [] M' Q) : EvL tb9 b9 G 110 mL_law 1192 (lsL j u5 u6) [] M Q := by
  refine y_aload_n (x := 0) dL_law_1192 rfl ?_
  refine ycV0x dL_law_1193 mo_X10_stick ml_L_165 rfl rfl (Nat.le_of_ble_eq_true rfl) (by omega) (ux_stick hI.1 hI.2.2 hT) ?_
  rintro r M1 ⟨rfl, hx⟩
  have hJ1 := hI.2.1.x hx
  dsimp only [Option.toList, List.cons_append, List.nil_append]
  refine y_aload_n (x := 238) dL_law_1196 rfl ?_
  refine ycV0x dL_law_1197 mo_X11_stick ml_L_168 rfl rfl (Nat.le_of_ble_eq_true rfl) (by omega) (ur_stick hJ1 hI.2.2 hT) ?_
  rintro r M2 ⟨rfl, hy⟩
  dsimp only [Option.toList, List.cons_append, List.nil_append]
  refine y_icmp_eq (tgt := 1473) dL_law_1200 (by decide) (fun _ => ?_) (fun c => absurd rfl c)
  exact k _ _ _ (by omega) (hx.1.r hy) hy.1 (hI.2.2)
set_option maxHeartbeats 1000000 in
set_option maxRecDepth 20000 in
theorem w_chance {tb9 : List ExceptionTableEntry} {G : Gt} {M : Mm} {E : Gs} {T j b9 : Nat} {u5 u6 : Value} {Q : Option Value → Mm → Prop} (hI : INV M E T) (hT : T < 2 ^ 29) (hj : 7 * j + 6 < G.L) (hL : G.L ≤ 3584) (k : ∀ M' E' T', T' ≤ T + 1 → XI M' E' → RJ M' E' → IV E' T' → EvL tb9 b9 G 110 mL_law 1473 (lsL j u5 u6) [] M' Q) : EvL tb9 b9 G 110 mL_law 1205 (lsL j u5 u6) [] M Q := by
  refine y_aload_n (x := 0) dL_law_1205 rfl ?_
  refine y_aload_n (x := 2200) dL_law_1206 rfl ?_
  refine y_iload (x := nI (7 * j)) dL_law_1207 rfl ?_
  refine y_iconst (v := nI 1) dL_law_1209 (by decide) ?_
  refine y_iaddN dL_law_1210 ?_
  refine y_sld dL_law_1211 (lw_in (by omega) hL) ?_
  refine y_aload_n (x := 2200) dL_law_1212 rfl ?_
  refine y_iload (x := nI (7 * j)) dL_law_1213 rfl ?_
  refine y_iconst (v := nI 2) dL_law_1215 (by decide) ?_
  refine y_iaddN dL_law_1216 ?_
  refine y_sld dL_law_1217 (lw_in (by omega) hL) ?_
  refine y_aload_n (x := 2200) dL_law_1218 rfl ?_
  refine y_iload (x := nI (7 * j)) dL_law_1219 rfl ?_
  refine y_iconst (v := nI 3) dL_law_1221 (by decide) ?_
  refine y_iaddN dL_law_1222 ?_
  refine y_sld dL_law_1223 (lw_in (by omega) hL) ?_
  refine ycV3x dL_law_1224 mo_X10_chance ml_L_169 rfl rfl (Nat.le_of_ble_eq_true rfl) (by omega) (ux_chance hI.1 hI.2.2 hT) ?_
  rintro r M1 ⟨rfl, hx⟩
  have hJ1 := hI.2.1.x hx
  dsimp only [Option.toList, List.cons_append, List.nil_append]
  refine y_aload_n (x := 238) dL_law_1227 rfl ?_
  refine y_aload_n (x := 2200) dL_law_1228 rfl ?_
  refine y_iload (x := nI (7 * j)) dL_law_1229 rfl ?_
  refine y_iconst (v := nI 1) dL_law_1231 (by decide) ?_
  refine y_iaddN dL_law_1232 ?_
  refine y_sld dL_law_1233 (lw_in (by omega) hL) ?_
  refine y_aload_n (x := 2200) dL_law_1234 rfl ?_
  refine y_iload (x := nI (7 * j)) dL_law_1235 rfl ?_
  refine y_iconst (v := nI 2) dL_law_1237 (by decide) ?_
  refine y_iaddN dL_law_1238 ?_
  refine y_sld dL_law_1239 (lw_in (by omega) hL) ?_
  refine y_aload_n (x := 2200) dL_law_1240 rfl ?_
  refine y_iload (x := nI (7 * j)) dL_law_1241 rfl ?_
  refine y_iconst (v := nI 3) dL_law_1243 (by decide) ?_
  refine y_iaddN dL_law_1244 ?_
  refine y_sld dL_law_1245 (lw_in (by omega) hL) ?_
  refine ycV3x dL_law_1246 mo_X11_chance ml_L_172 rfl rfl (Nat.le_of_ble_eq_true rfl) (by omega) (ur_chance hJ1 hI.2.2 hT) ?_
  rintro r M2 ⟨rfl, hy⟩
  dsimp only [Option.toList, List.cons_append, List.nil_append]
  refine y_icmp_eq (tgt := 1473) dL_law_1249 (by decide) (fun _ => ?_) (fun c => absurd rfl c)
  exact k _ _ _ (by omega) (hx.1.r hy) hy.1 (hI.2.2)
set_option maxHeartbeats 1000000 in
set_option maxRecDepth 20000 in
theorem w_weeks {tb9 : List ExceptionTableEntry} {G : Gt} {M : Mm} {E : Gs} {T j b9 : Nat} {u5 u6 : Value} {Q : Option Value → Mm → Prop} (hI : INV M E T) (hT : T < 2 ^ 29) (hj : 7 * j + 6 < G.L) (hL : G.L ≤ 3584) (k : ∀ M' E' T', T' ≤ T + 1 → XI M' E' → RJ M' E' → IV E' T' → EvL tb9 b9 G 110 mL_law 1473 (lsL j u5 u6) [] M' Q) : EvL tb9 b9 G 110 mL_law 1346 (lsL j u5 u6) [] M Q := by
  refine y_aload_n (x := 0) dL_law_1346 rfl ?_
  refine y_aload_n (x := 2200) dL_law_1347 rfl ?_
  refine y_iload (x := nI (7 * j)) dL_law_1348 rfl ?_
  refine y_iconst (v := nI 1) dL_law_1350 (by decide) ?_
  refine y_iaddN dL_law_1351 ?_
  refine y_sld dL_law_1352 (lw_in (by omega) hL) ?_
  refine y_aload_n (x := 2200) dL_law_1353 rfl ?_
  refine y_iload (x := nI (7 * j)) dL_law_1354 rfl ?_
  refine y_iconst (v := nI 2) dL_law_1356 (by decide) ?_
  refine y_iaddN dL_law_1357 ?_
  refine y_sld dL_law_1358 (lw_in (by omega) hL) ?_
  refine y_aload_n (x := 2200) dL_law_1359 rfl ?_
  refine y_iload (x := nI (7 * j)) dL_law_1360 rfl ?_
  refine y_iconst (v := nI 3) dL_law_1362 (by decide) ?_
  refine y_iaddN dL_law_1363 ?_
  refine y_sld dL_law_1364 (lw_in (by omega) hL) ?_
  refine ycV3x dL_law_1365 mo_X10_weeks ml_L_182 rfl rfl (Nat.le_of_ble_eq_true rfl) (by omega) (ux_weeks hI.1 hI.2.2 hT) ?_
  rintro r M1 ⟨rfl, hx⟩
  have hJ1 := hI.2.1.x hx
  dsimp only [Option.toList, List.cons_append, List.nil_append]
  refine y_aload_n (x := 238) dL_law_1368 rfl ?_
  refine y_aload_n (x := 2200) dL_law_1369 rfl ?_
  refine y_iload (x := nI (7 * j)) dL_law_1370 rfl ?_
  refine y_iconst (v := nI 1) dL_law_1372 (by decide) ?_
  refine y_iaddN dL_law_1373 ?_
  refine y_sld dL_law_1374 (lw_in (by omega) hL) ?_
  refine y_aload_n (x := 2200) dL_law_1375 rfl ?_
  refine y_iload (x := nI (7 * j)) dL_law_1376 rfl ?_
  refine y_iconst (v := nI 2) dL_law_1378 (by decide) ?_
  refine y_iaddN dL_law_1379 ?_
  refine y_sld dL_law_1380 (lw_in (by omega) hL) ?_
  refine y_aload_n (x := 2200) dL_law_1381 rfl ?_
  refine y_iload (x := nI (7 * j)) dL_law_1382 rfl ?_
  refine y_iconst (v := nI 3) dL_law_1384 (by decide) ?_
  refine y_iaddN dL_law_1385 ?_
  refine y_sld dL_law_1386 (lw_in (by omega) hL) ?_
  refine ycV3x dL_law_1387 mo_X11_weeks ml_L_185 rfl rfl (Nat.le_of_ble_eq_true rfl) (by omega) (ur_weeks hJ1 hI.2.2 hT) ?_
  rintro r M2 ⟨rfl, hy⟩
  dsimp only [Option.toList, List.cons_append, List.nil_append]
  refine y_icmp_eq (tgt := 1473) dL_law_1390 (by decide) (fun _ => ?_) (fun c => absurd rfl c)
  exact k _ _ _ (by omega) (hx.1.r hy) hy.1 (hI.2.2)
set_option maxHeartbeats 1000000 in
set_option maxRecDepth 20000 in
theorem w_mark {tb9 : List ExceptionTableEntry} {G : Gt} {M : Mm} {E : Gs} {T j b9 : Nat} {u5 u6 : Value} {Q : Option Value → Mm → Prop} (hI : INV M E T) (hT : T < 2 ^ 29) (hj : 7 * j + 6 < G.L) (hL : G.L ≤ 3584) (k : ∀ M' E' T', T' ≤ T + 1 → XI M' E' → RJ M' E' → IV E' T' → EvL tb9 b9 G 110 mL_law 1473 (lsL j u5 u6) [] M' Q) : EvL tb9 b9 G 110 mL_law 1395 (lsL j u5 u6) [] M Q := by
  refine y_aload_n (x := 0) dL_law_1395 rfl ?_
  refine y_aload_n (x := 2200) dL_law_1396 rfl ?_
  refine y_iload (x := nI (7 * j)) dL_law_1397 rfl ?_
  refine y_iconst (v := nI 1) dL_law_1399 (by decide) ?_
  refine y_iaddN dL_law_1400 ?_
  refine y_sld dL_law_1401 (lw_in (by omega) hL) ?_
  refine y_aload_n (x := 2200) dL_law_1402 rfl ?_
  refine y_iload (x := nI (7 * j)) dL_law_1403 rfl ?_
  refine y_iconst (v := nI 2) dL_law_1405 (by decide) ?_
  refine y_iaddN dL_law_1406 ?_
  refine y_sld dL_law_1407 (lw_in (by omega) hL) ?_
  refine y_if_eq (tgt := 1415) dL_law_1408 (by decide) (fun hb => ?_) (fun hb => ?_)
  · refine y_iconst (v := 0) dL_law_1415 (by decide) ?_
    refine ycV2x dL_law_1416 mo_X10_mark ml_L_186 rfl rfl (Nat.le_of_ble_eq_true rfl) (by omega) (ux_mark hI.1 hI.2.2 hT (Or.inl rfl)) ?_
    rintro r M1 ⟨rfl, hx⟩
    have hJ1 := hI.2.1.x hx
    dsimp only [Option.toList, List.cons_append, List.nil_append]
    refine y_aload_n (x := 238) dL_law_1419 rfl ?_
    refine y_aload_n (x := 2200) dL_law_1420 rfl ?_
    refine y_iload (x := nI (7 * j)) dL_law_1421 rfl ?_
    refine y_iconst (v := nI 1) dL_law_1423 (by decide) ?_
    refine y_iaddN dL_law_1424 ?_
    refine y_sld dL_law_1425 (lw_in (by omega) hL) ?_
    refine y_aload_n (x := 2200) dL_law_1426 rfl ?_
    refine y_iload (x := nI (7 * j)) dL_law_1427 rfl ?_
    refine y_iconst (v := nI 2) dL_law_1429 (by decide) ?_
    refine y_iaddN dL_law_1430 ?_
    refine y_sld dL_law_1431 (lw_in (by omega) hL) ?_
    refine y_if_eq (tgt := 1439) dL_law_1432 (by decide) (fun _ => ?_) (fun c => absurd hb c)
    refine y_iconst (v := 0) dL_law_1439 (by decide) ?_
    refine ycV2x dL_law_1440 mo_X11_mark ml_L_190 rfl rfl (Nat.le_of_ble_eq_true rfl) (by omega) (ur_mark hJ1 hI.2.2 hT (Or.inl rfl)) ?_
    rintro r M2 ⟨rfl, hy⟩
    dsimp only [Option.toList, List.cons_append, List.nil_append]
    refine y_icmp_eq (tgt := 1473) dL_law_1443 (by decide) (fun _ => ?_) (fun c => absurd rfl c)
    exact k _ _ _ (by omega) (hx.1.r hy) hy.1 (hI.2.2.mark)
  · refine y_iconst (v := 1) dL_law_1411 (by decide) ?_
    refine y_goto (tgt := 1416) dL_law_1412 (by decide) ?_
    refine ycV2x dL_law_1416 mo_X10_mark ml_L_186 rfl rfl (Nat.le_of_ble_eq_true rfl) (by omega) (ux_mark hI.1 hI.2.2 hT (Or.inr rfl)) ?_
    rintro r M1 ⟨rfl, hx⟩
    have hJ1 := hI.2.1.x hx
    dsimp only [Option.toList, List.cons_append, List.nil_append]
    refine y_aload_n (x := 238) dL_law_1419 rfl ?_
    refine y_aload_n (x := 2200) dL_law_1420 rfl ?_
    refine y_iload (x := nI (7 * j)) dL_law_1421 rfl ?_
    refine y_iconst (v := nI 1) dL_law_1423 (by decide) ?_
    refine y_iaddN dL_law_1424 ?_
    refine y_sld dL_law_1425 (lw_in (by omega) hL) ?_
    refine y_aload_n (x := 2200) dL_law_1426 rfl ?_
    refine y_iload (x := nI (7 * j)) dL_law_1427 rfl ?_
    refine y_iconst (v := nI 2) dL_law_1429 (by decide) ?_
    refine y_iaddN dL_law_1430 ?_
    refine y_sld dL_law_1431 (lw_in (by omega) hL) ?_
    refine y_if_eq (tgt := 1439) dL_law_1432 (by decide) (fun c => absurd c hb) (fun _ => ?_)
    refine y_iconst (v := 1) dL_law_1435 (by decide) ?_
    refine y_goto (tgt := 1440) dL_law_1436 (by decide) ?_
    refine ycV2x dL_law_1440 mo_X11_mark ml_L_190 rfl rfl (Nat.le_of_ble_eq_true rfl) (by omega) (ur_mark hJ1 hI.2.2 hT (Or.inr rfl)) ?_
    rintro r M2 ⟨rfl, hy⟩
    dsimp only [Option.toList, List.cons_append, List.nil_append]
    refine y_icmp_eq (tgt := 1473) dL_law_1443 (by decide) (fun _ => ?_) (fun c => absurd rfl c)
    exact k _ _ _ (by omega) (hx.1.r hy) hy.1 (hI.2.2.mark)
set_option maxHeartbeats 1000000 in
set_option maxRecDepth 20000 in
theorem w_count {tb9 : List ExceptionTableEntry} {G : Gt} {M : Mm} {E : Gs} {T j b9 : Nat} {u5 u6 : Value} {Q : Option Value → Mm → Prop} (hI : INV M E T) (hT : T < 2 ^ 29) (hj : 7 * j + 6 < G.L) (hL : G.L ≤ 3584) (k : ∀ M' E' T', T' ≤ T + 1 → XI M' E' → RJ M' E' → IV E' T' → EvL tb9 b9 G 110 mL_law 1473 (lsL j u5 u6) [] M' Q) : EvL tb9 b9 G 110 mL_law 1448 (lsL j u5 u6) [] M Q := by
  refine y_aload_n (x := 0) dL_law_1448 rfl ?_
  refine y_aload_n (x := 2200) dL_law_1449 rfl ?_
  refine y_iload (x := nI (7 * j)) dL_law_1450 rfl ?_
  refine y_iconst (v := nI 1) dL_law_1452 (by decide) ?_
  refine y_iaddN dL_law_1453 ?_
  refine y_sld dL_law_1454 (lw_in (by omega) hL) ?_
  refine ycV1x dL_law_1455 mo_X10_count ml_L_191 rfl rfl (Nat.le_of_ble_eq_true rfl) (by omega) (ux_count hI.1 hI.2.2 hT) ?_
  rintro r M1 ⟨rfl, hx⟩
  have hJ1 := hI.2.1.x hx
  dsimp only [Option.toList, List.cons_append, List.nil_append]
  refine y_aload_n (x := 238) dL_law_1458 rfl ?_
  refine y_aload_n (x := 2200) dL_law_1459 rfl ?_
  refine y_iload (x := nI (7 * j)) dL_law_1460 rfl ?_
  refine y_iconst (v := nI 1) dL_law_1462 (by decide) ?_
  refine y_iaddN dL_law_1463 ?_
  refine y_sld dL_law_1464 (lw_in (by omega) hL) ?_
  refine ycV1x dL_law_1465 mo_X11_count ml_L_194 rfl rfl (Nat.le_of_ble_eq_true rfl) (by omega) (ur_count hJ1 hI.2.2 hT) ?_
  rintro r M2 ⟨rfl, hy⟩
  dsimp only [Option.toList, List.cons_append, List.nil_append]
  refine y_icmp_eq (tgt := 1473) dL_law_1468 (by decide) (fun _ => ?_) (fun c => absurd rfl c)
  exact k _ _ _ (by omega) (hx.1.r hy) hy.1 (hI.2.2)
end YCS
