section R54
variable {G : Gp} {I : Im} {L : Nat → Nat → Int64} {t : Nat}
section
variable {P : Option Value → Mem → Prop}
/-- the law's own frame, with the room that it takes -/
abbrev mdL2 : Md := (yL_law, cL_law, 4, some .boolean, { frames := 10, cells := 223, slots := 5127, locals := 378 })
theorem ai {k j : Nat} (h : 7 * k + 7 ≤ gN G) (hN : gN G ≤ 3584) (hj : j < 7) : vp_in (nI (7 * k) + nI j) (gN G) := by
  rw [nI_add]
  exact vp_in_nI (by omega) (by omega)
abbrev lls (k : Nat) : List (Option Value) := [some (.ref 999999), some (.ref 0), some (.ref 200), some (.int (nI (7 * k)))]
abbrev xa (G : Gp) (k j : Nat) : Int32 := gX G (nI (7 * k) + nI j).toNatClampNeg
set_option maxHeartbeats 4000000 in
theorem lc_row {k : Nat} (hk : 7 * k + 7 ≤ gN G) (hN : gN G ≤ 3584) (hI : Inv I L t) (kont : ∀ I' L' t', Inv I' L' t' → Ex G mdL2 1976 (lls k) [] (mk I' L' t') 223 5127 P) : Ex G mdL2 252 (lls k) [] (mk I L t) 223 5127 P := by
  obtain ⟨v, I1, L1, t1, h1, h2⟩ := T_row (G := G) (a0 := (xa G k 1)) (a1 := (xa G k 2)) hI
  refine ex_aload_n dL_law_252 rfl ?_
  refine ex_aload_n dL_law_253 rfl ?_
  refine ex_iload_n dL_law_254 rfl ?_
  refine ex_iconst (v := 1) dL_law_255 (by decide) ?_
  refine ex_iadd dL_law_256 ?_
  refine ex_sld dL_law_257 (ai (j := 1) hk hN (by decide)) ?_
  refine ex_aload_n dL_law_258 rfl ?_
  refine ex_iload_n dL_law_259 rfl ?_
  refine ex_iconst (v := 2) dL_law_260 (by decide) ?_
  refine ex_iadd dL_law_261 ?_
  refine ex_sld dL_law_262 (ai (j := 2) hk hN (by decide)) ?_
  refine ex_cV (a := 0) (kd := 11) (N := 20) (T := TX11) (vs := [.int (xa G k 1), .int (xa G k 2)]) dL_law_263 rfl lk_L_13 rfl (by decide) (show K0 0 = (11, 20) from rfl) (show 0 < 223 by decide) ⟨⟨by decide, by decide⟩, by decide, by decide⟩ rfl (Nat.le_of_ble_eq_true rfl) rfl h1 (Rs.k ?_)
  show Ex G mdL2 266 (lls k) [.int v] (mk I1 L1 t1) 223 5127 P
  refine ex_aload_n dL_law_266 rfl ?_
  refine ex_aload_n dL_law_267 rfl ?_
  refine ex_iload_n dL_law_268 rfl ?_
  refine ex_iconst (v := 1) dL_law_269 (by decide) ?_
  refine ex_iadd dL_law_270 ?_
  refine ex_sld dL_law_271 (ai (j := 1) hk hN (by decide)) ?_
  refine ex_aload_n dL_law_272 rfl ?_
  refine ex_iload_n dL_law_273 rfl ?_
  refine ex_iconst (v := 2) dL_law_274 (by decide) ?_
  refine ex_iadd dL_law_275 ?_
  refine ex_sld dL_law_276 (ai (j := 2) hk hN (by decide)) ?_
  refine ex_cV (a := 200) (kd := 12) (N := 40) (T := TX12) (vs := [.int (xa G k 1), .int (xa G k 2)]) dL_law_277 rfl lk_L_17 rfl (by decide) (show K0 200 = (12, 40) from rfl) (show 200 < 223 by decide) ⟨⟨by decide, by decide⟩, by decide, by decide⟩ rfl (Nat.le_of_ble_eq_true rfl) rfl h2 ?_
  rintro r M1 ⟨rfl, I2, L2, t2, rfl, hI2⟩
  show Ex G mdL2 280 (lls k) [.int v, .int v] (mk I2 L2 t2) 223 5127 P
  exact ex_icmp_eq 1976 dL_law_280 (by decide) (fun _ => kont _ _ _ hI2) (fun z => absurd rfl z)
set_option maxHeartbeats 4000000 in
theorem lc_lay {k : Nat} (hk : 7 * k + 7 ≤ gN G) (hN : gN G ≤ 3584) (hI : Inv I L t) (kont : ∀ I' L' t', Inv I' L' t' → Ex G mdL2 1976 (lls k) [] (mk I' L' t') 223 5127 P) : Ex G mdL2 285 (lls k) [] (mk I L t) 223 5127 P := by
  obtain ⟨v, I1, L1, t1, h1, h2⟩ := T_lay (G := G) (a0 := (xa G k 1)) (a1 := (xa G k 2)) (a2 := (xa G k 3)) hI
  refine ex_aload_n dL_law_285 rfl ?_
  refine ex_aload_n dL_law_286 rfl ?_
  refine ex_iload_n dL_law_287 rfl ?_
  refine ex_iconst (v := 1) dL_law_288 (by decide) ?_
  refine ex_iadd dL_law_289 ?_
  refine ex_sld dL_law_290 (ai (j := 1) hk hN (by decide)) ?_
  refine ex_aload_n dL_law_291 rfl ?_
  refine ex_iload_n dL_law_292 rfl ?_
  refine ex_iconst (v := 2) dL_law_293 (by decide) ?_
  refine ex_iadd dL_law_294 ?_
  refine ex_sld dL_law_295 (ai (j := 2) hk hN (by decide)) ?_
  refine ex_aload_n dL_law_296 rfl ?_
  refine ex_iload_n dL_law_297 rfl ?_
  refine ex_iconst (v := 3) dL_law_298 (by decide) ?_
  refine ex_iadd dL_law_299 ?_
  refine ex_sld dL_law_300 (ai (j := 3) hk hN (by decide)) ?_
  refine ex_cV (a := 0) (kd := 11) (N := 20) (T := TX11) (vs := [.int (xa G k 1), .int (xa G k 2), .int (xa G k 3)]) dL_law_301 rfl lk_L_18 rfl (by decide) (show K0 0 = (11, 20) from rfl) (show 0 < 223 by decide) ⟨⟨by decide, by decide⟩, by decide, by decide⟩ rfl (Nat.le_of_ble_eq_true rfl) rfl h1 (Rs.k ?_)
  show Ex G mdL2 304 (lls k) [.int v] (mk I1 L1 t1) 223 5127 P
  refine ex_aload_n dL_law_304 rfl ?_
  refine ex_aload_n dL_law_305 rfl ?_
  refine ex_iload_n dL_law_306 rfl ?_
  refine ex_iconst (v := 1) dL_law_307 (by decide) ?_
  refine ex_iadd dL_law_308 ?_
  refine ex_sld dL_law_309 (ai (j := 1) hk hN (by decide)) ?_
  refine ex_aload_n dL_law_310 rfl ?_
  refine ex_iload_n dL_law_311 rfl ?_
  refine ex_iconst (v := 2) dL_law_312 (by decide) ?_
  refine ex_iadd dL_law_313 ?_
  refine ex_sld dL_law_314 (ai (j := 2) hk hN (by decide)) ?_
  refine ex_aload_n dL_law_315 rfl ?_
  refine ex_iload_n dL_law_316 rfl ?_
  refine ex_iconst (v := 3) dL_law_317 (by decide) ?_
  refine ex_iadd dL_law_318 ?_
  refine ex_sld dL_law_319 (ai (j := 3) hk hN (by decide)) ?_
  refine ex_cV (a := 200) (kd := 12) (N := 40) (T := TX12) (vs := [.int (xa G k 1), .int (xa G k 2), .int (xa G k 3)]) dL_law_320 rfl lk_L_22 rfl (by decide) (show K0 200 = (12, 40) from rfl) (show 200 < 223 by decide) ⟨⟨by decide, by decide⟩, by decide, by decide⟩ rfl (Nat.le_of_ble_eq_true rfl) rfl h2 ?_
  rintro r M1 ⟨rfl, I2, L2, t2, rfl, hI2⟩
  show Ex G mdL2 323 (lls k) [.int v, .int v] (mk I2 L2 t2) 223 5127 P
  exact ex_icmp_eq 1976 dL_law_323 (by decide) (fun _ => kont _ _ _ hI2) (fun z => absurd rfl z)
set_option maxHeartbeats 4000000 in
theorem lc_at {k : Nat} (hk : 7 * k + 7 ≤ gN G) (hN : gN G ≤ 3584) (hI : Inv I L t) (kont : ∀ I' L' t', Inv I' L' t' → Ex G mdL2 1976 (lls k) [] (mk I' L' t') 223 5127 P) : Ex G mdL2 328 (lls k) [] (mk I L t) 223 5127 P := by
  obtain ⟨v, I1, L1, t1, h1, h2⟩ := T_at (G := G) (a0 := (xa G k 1)) (a1 := (xa G k 2)) hI
  refine ex_aload_n dL_law_328 rfl ?_
  refine ex_aload_n dL_law_329 rfl ?_
  refine ex_iload_n dL_law_330 rfl ?_
  refine ex_iconst (v := 1) dL_law_331 (by decide) ?_
  refine ex_iadd dL_law_332 ?_
  refine ex_sld dL_law_333 (ai (j := 1) hk hN (by decide)) ?_
  refine ex_aload_n dL_law_334 rfl ?_
  refine ex_iload_n dL_law_335 rfl ?_
  refine ex_iconst (v := 2) dL_law_336 (by decide) ?_
  refine ex_iadd dL_law_337 ?_
  refine ex_sld dL_law_338 (ai (j := 2) hk hN (by decide)) ?_
  refine ex_cV (a := 0) (kd := 11) (N := 20) (T := TX11) (vs := [.int (xa G k 1), .int (xa G k 2)]) dL_law_339 rfl lk_L_23 rfl (by decide) (show K0 0 = (11, 20) from rfl) (show 0 < 223 by decide) ⟨⟨by decide, by decide⟩, by decide, by decide⟩ rfl (Nat.le_of_ble_eq_true rfl) rfl h1 (Rs.k ?_)
  show Ex G mdL2 342 (lls k) [.int v] (mk I1 L1 t1) 223 5127 P
  refine ex_aload_n dL_law_342 rfl ?_
  refine ex_aload_n dL_law_343 rfl ?_
  refine ex_iload_n dL_law_344 rfl ?_
  refine ex_iconst (v := 1) dL_law_345 (by decide) ?_
  refine ex_iadd dL_law_346 ?_
  refine ex_sld dL_law_347 (ai (j := 1) hk hN (by decide)) ?_
  refine ex_aload_n dL_law_348 rfl ?_
  refine ex_iload_n dL_law_349 rfl ?_
  refine ex_iconst (v := 2) dL_law_350 (by decide) ?_
  refine ex_iadd dL_law_351 ?_
  refine ex_sld dL_law_352 (ai (j := 2) hk hN (by decide)) ?_
  refine ex_cV (a := 200) (kd := 12) (N := 40) (T := TX12) (vs := [.int (xa G k 1), .int (xa G k 2)]) dL_law_353 rfl lk_L_26 rfl (by decide) (show K0 200 = (12, 40) from rfl) (show 200 < 223 by decide) ⟨⟨by decide, by decide⟩, by decide, by decide⟩ rfl (Nat.le_of_ble_eq_true rfl) rfl h2 ?_
  rintro r M1 ⟨rfl, I2, L2, t2, rfl, hI2⟩
  show Ex G mdL2 356 (lls k) [.int v, .int v] (mk I2 L2 t2) 223 5127 P
  exact ex_icmp_eq 1976 dL_law_356 (by decide) (fun _ => kont _ _ _ hI2) (fun z => absurd rfl z)
set_option maxHeartbeats 4000000 in
theorem lc_tear {k : Nat} (hk : 7 * k + 7 ≤ gN G) (hN : gN G ≤ 3584) (hI : Inv I L t) (kont : ∀ I' L' t', Inv I' L' t' → Ex G mdL2 1976 (lls k) [] (mk I' L' t') 223 5127 P) : Ex G mdL2 361 (lls k) [] (mk I L t) 223 5127 P := by
  obtain ⟨v, I1, L1, t1, h1, h2⟩ := T_tear (G := G) (a0 := (xa G k 1)) hI
  refine ex_aload_n dL_law_361 rfl ?_
  refine ex_aload_n dL_law_362 rfl ?_
  refine ex_iload_n dL_law_363 rfl ?_
  refine ex_iconst (v := 1) dL_law_364 (by decide) ?_
  refine ex_iadd dL_law_365 ?_
  refine ex_sld dL_law_366 (ai (j := 1) hk hN (by decide)) ?_
  refine ex_cV (a := 0) (kd := 11) (N := 20) (T := TX11) (vs := [.int (xa G k 1)]) dL_law_367 rfl lk_L_27 rfl (by decide) (show K0 0 = (11, 20) from rfl) (show 0 < 223 by decide) ⟨⟨by decide, by decide⟩, by decide, by decide⟩ rfl (Nat.le_of_ble_eq_true rfl) rfl h1 (Rs.k ?_)
  show Ex G mdL2 370 (lls k) [.int v] (mk I1 L1 t1) 223 5127 P
  refine ex_aload_n dL_law_370 rfl ?_
  refine ex_aload_n dL_law_371 rfl ?_
  refine ex_iload_n dL_law_372 rfl ?_
  refine ex_iconst (v := 1) dL_law_373 (by decide) ?_
  refine ex_iadd dL_law_374 ?_
  refine ex_sld dL_law_375 (ai (j := 1) hk hN (by decide)) ?_
  refine ex_cV (a := 200) (kd := 12) (N := 40) (T := TX12) (vs := [.int (xa G k 1)]) dL_law_376 rfl lk_L_31 rfl (by decide) (show K0 200 = (12, 40) from rfl) (show 200 < 223 by decide) ⟨⟨by decide, by decide⟩, by decide, by decide⟩ rfl (Nat.le_of_ble_eq_true rfl) rfl h2 ?_
  rintro r M1 ⟨rfl, I2, L2, t2, rfl, hI2⟩
  show Ex G mdL2 379 (lls k) [.int v, .int v] (mk I2 L2 t2) 223 5127 P
  exact ex_icmp_eq 1976 dL_law_379 (by decide) (fun _ => kont _ _ _ hI2) (fun z => absurd rfl z)
set_option maxHeartbeats 4000000 in
theorem lc_copy {k : Nat} (hk : 7 * k + 7 ≤ gN G) (hN : gN G ≤ 3584) (hI : Inv I L t) (kont : ∀ I' L' t', Inv I' L' t' → Ex G mdL2 1976 (lls k) [] (mk I' L' t') 223 5127 P) : Ex G mdL2 384 (lls k) [] (mk I L t) 223 5127 P := by
  obtain ⟨v, I1, L1, t1, h1, h2⟩ := T_copy (G := G) (a0 := (xa G k 1)) (a1 := (xa G k 2)) (a2 := (xa G k 3)) (a3 := (xa G k 4)) (a4 := (xa G k 5)) hI
  refine ex_aload_n dL_law_384 rfl ?_
  refine ex_aload_n dL_law_385 rfl ?_
  refine ex_iload_n dL_law_386 rfl ?_
  refine ex_iconst (v := 1) dL_law_387 (by decide) ?_
  refine ex_iadd dL_law_388 ?_
  refine ex_sld dL_law_389 (ai (j := 1) hk hN (by decide)) ?_
  refine ex_aload_n dL_law_390 rfl ?_
  refine ex_iload_n dL_law_391 rfl ?_
  refine ex_iconst (v := 2) dL_law_392 (by decide) ?_
  refine ex_iadd dL_law_393 ?_
  refine ex_sld dL_law_394 (ai (j := 2) hk hN (by decide)) ?_
  refine ex_aload_n dL_law_395 rfl ?_
  refine ex_iload_n dL_law_396 rfl ?_
  refine ex_iconst (v := 3) dL_law_397 (by decide) ?_
  refine ex_iadd dL_law_398 ?_
  refine ex_sld dL_law_399 (ai (j := 3) hk hN (by decide)) ?_
  refine ex_aload_n dL_law_400 rfl ?_
  refine ex_iload_n dL_law_401 rfl ?_
  refine ex_iconst (v := 4) dL_law_402 (by decide) ?_
  refine ex_iadd dL_law_403 ?_
  refine ex_sld dL_law_404 (ai (j := 4) hk hN (by decide)) ?_
  refine ex_aload_n dL_law_405 rfl ?_
  refine ex_iload_n dL_law_406 rfl ?_
  refine ex_iconst (v := 5) dL_law_407 (by decide) ?_
  refine ex_iadd dL_law_408 ?_
  refine ex_sld dL_law_409 (ai (j := 5) hk hN (by decide)) ?_
  refine ex_cV (a := 0) (kd := 11) (N := 20) (T := TX11) (vs := [.int (xa G k 1), .int (xa G k 2), .int (xa G k 3), .int (xa G k 4), .int (xa G k 5)]) dL_law_410 rfl lk_L_32 rfl (by decide) (show K0 0 = (11, 20) from rfl) (show 0 < 223 by decide) ⟨⟨by decide, by decide⟩, by decide, by decide⟩ rfl (Nat.le_of_ble_eq_true rfl) rfl h1 (Rs.k ?_)
  show Ex G mdL2 413 (lls k) [.int v] (mk I1 L1 t1) 223 5127 P
  refine ex_aload_n dL_law_413 rfl ?_
  refine ex_aload_n dL_law_414 rfl ?_
  refine ex_iload_n dL_law_415 rfl ?_
  refine ex_iconst (v := 1) dL_law_416 (by decide) ?_
  refine ex_iadd dL_law_417 ?_
  refine ex_sld dL_law_418 (ai (j := 1) hk hN (by decide)) ?_
  refine ex_aload_n dL_law_419 rfl ?_
  refine ex_iload_n dL_law_420 rfl ?_
  refine ex_iconst (v := 2) dL_law_421 (by decide) ?_
  refine ex_iadd dL_law_422 ?_
  refine ex_sld dL_law_423 (ai (j := 2) hk hN (by decide)) ?_
  refine ex_aload_n dL_law_424 rfl ?_
  refine ex_iload_n dL_law_425 rfl ?_
  refine ex_iconst (v := 3) dL_law_426 (by decide) ?_
  refine ex_iadd dL_law_427 ?_
  refine ex_sld dL_law_428 (ai (j := 3) hk hN (by decide)) ?_
  refine ex_aload_n dL_law_429 rfl ?_
  refine ex_iload_n dL_law_430 rfl ?_
  refine ex_iconst (v := 4) dL_law_431 (by decide) ?_
  refine ex_iadd dL_law_432 ?_
  refine ex_sld dL_law_433 (ai (j := 4) hk hN (by decide)) ?_
  refine ex_aload_n dL_law_434 rfl ?_
  refine ex_iload_n dL_law_435 rfl ?_
  refine ex_iconst (v := 5) dL_law_436 (by decide) ?_
  refine ex_iadd dL_law_437 ?_
  refine ex_sld dL_law_438 (ai (j := 5) hk hN (by decide)) ?_
  refine ex_cV (a := 200) (kd := 12) (N := 40) (T := TX12) (vs := [.int (xa G k 1), .int (xa G k 2), .int (xa G k 3), .int (xa G k 4), .int (xa G k 5)]) dL_law_439 rfl lk_L_36 rfl (by decide) (show K0 200 = (12, 40) from rfl) (show 200 < 223 by decide) ⟨⟨by decide, by decide⟩, by decide, by decide⟩ rfl (Nat.le_of_ble_eq_true rfl) rfl h2 ?_
  rintro r M1 ⟨rfl, I2, L2, t2, rfl, hI2⟩
  show Ex G mdL2 442 (lls k) [.int v, .int v] (mk I2 L2 t2) 223 5127 P
  exact ex_icmp_eq 1976 dL_law_442 (by decide) (fun _ => kont _ _ _ hI2) (fun z => absurd rfl z)
set_option maxHeartbeats 4000000 in
theorem lc_mean {k : Nat} (hk : 7 * k + 7 ≤ gN G) (hN : gN G ≤ 3584) (hI : Inv I L t) (kont : ∀ I' L' t', Inv I' L' t' → Ex G mdL2 1976 (lls k) [] (mk I' L' t') 223 5127 P) : Ex G mdL2 447 (lls k) [] (mk I L t) 223 5127 P := by
  obtain ⟨v, I1, L1, t1, h1, h2⟩ := T_mean (G := G) (a0 := (xa G k 1)) hI
  refine ex_aload_n dL_law_447 rfl ?_
  refine ex_aload_n dL_law_448 rfl ?_
  refine ex_iload_n dL_law_449 rfl ?_
  refine ex_iconst (v := 1) dL_law_450 (by decide) ?_
  refine ex_iadd dL_law_451 ?_
  refine ex_sld dL_law_452 (ai (j := 1) hk hN (by decide)) ?_
  refine ex_cV (a := 0) (kd := 11) (N := 20) (T := TX11) (vs := [.int (xa G k 1)]) dL_law_453 rfl lk_L_37 rfl (by decide) (show K0 0 = (11, 20) from rfl) (show 0 < 223 by decide) ⟨⟨by decide, by decide⟩, by decide, by decide⟩ rfl (Nat.le_of_ble_eq_true rfl) rfl h1 (Rs.k ?_)
  show Ex G mdL2 456 (lls k) [.int v] (mk I1 L1 t1) 223 5127 P
  refine ex_aload_n dL_law_456 rfl ?_
  refine ex_aload_n dL_law_457 rfl ?_
  refine ex_iload_n dL_law_458 rfl ?_
  refine ex_iconst (v := 1) dL_law_459 (by decide) ?_
  refine ex_iadd dL_law_460 ?_
  refine ex_sld dL_law_461 (ai (j := 1) hk hN (by decide)) ?_
  refine ex_cV (a := 200) (kd := 12) (N := 40) (T := TX12) (vs := [.int (xa G k 1)]) dL_law_462 rfl lk_L_40 rfl (by decide) (show K0 200 = (12, 40) from rfl) (show 200 < 223 by decide) ⟨⟨by decide, by decide⟩, by decide, by decide⟩ rfl (Nat.le_of_ble_eq_true rfl) rfl h2 ?_
  rintro r M1 ⟨rfl, I2, L2, t2, rfl, hI2⟩
  show Ex G mdL2 465 (lls k) [.int v, .int v] (mk I2 L2 t2) 223 5127 P
  exact ex_icmp_eq 1976 dL_law_465 (by decide) (fun _ => kont _ _ _ hI2) (fun z => absurd rfl z)
set_option maxHeartbeats 4000000 in
theorem lc_text {k : Nat} (hk : 7 * k + 7 ≤ gN G) (hN : gN G ≤ 3584) (hI : Inv I L t) (kont : ∀ I' L' t', Inv I' L' t' → Ex G mdL2 1976 (lls k) [] (mk I' L' t') 223 5127 P) : Ex G mdL2 470 (lls k) [] (mk I L t) 223 5127 P := by
  obtain ⟨v, I1, L1, t1, h1, h2⟩ := T_text (G := G) (a0 := (xa G k 1)) (a1 := (xa G k 2)) hI
  refine ex_aload_n dL_law_470 rfl ?_
  refine ex_aload_n dL_law_471 rfl ?_
  refine ex_iload_n dL_law_472 rfl ?_
  refine ex_iconst (v := 1) dL_law_473 (by decide) ?_
  refine ex_iadd dL_law_474 ?_
  refine ex_sld dL_law_475 (ai (j := 1) hk hN (by decide)) ?_
  refine ex_aload_n dL_law_476 rfl ?_
  refine ex_iload_n dL_law_477 rfl ?_
  refine ex_iconst (v := 2) dL_law_478 (by decide) ?_
  refine ex_iadd dL_law_479 ?_
  refine ex_sld dL_law_480 (ai (j := 2) hk hN (by decide)) ?_
  refine ex_cV (a := 0) (kd := 11) (N := 20) (T := TX11) (vs := [.int (xa G k 1), .int (xa G k 2)]) dL_law_481 rfl lk_L_41 rfl (by decide) (show K0 0 = (11, 20) from rfl) (show 0 < 223 by decide) ⟨⟨by decide, by decide⟩, by decide, by decide⟩ rfl (Nat.le_of_ble_eq_true rfl) rfl h1 (Rs.k ?_)
  show Ex G mdL2 484 (lls k) [.int v] (mk I1 L1 t1) 223 5127 P
  refine ex_aload_n dL_law_484 rfl ?_
  refine ex_aload_n dL_law_485 rfl ?_
  refine ex_iload_n dL_law_486 rfl ?_
  refine ex_iconst (v := 1) dL_law_487 (by decide) ?_
  refine ex_iadd dL_law_488 ?_
  refine ex_sld dL_law_489 (ai (j := 1) hk hN (by decide)) ?_
  refine ex_aload_n dL_law_490 rfl ?_
  refine ex_iload_n dL_law_491 rfl ?_
  refine ex_iconst (v := 2) dL_law_492 (by decide) ?_
  refine ex_iadd dL_law_493 ?_
  refine ex_sld dL_law_494 (ai (j := 2) hk hN (by decide)) ?_
  refine ex_cV (a := 200) (kd := 12) (N := 40) (T := TX12) (vs := [.int (xa G k 1), .int (xa G k 2)]) dL_law_495 rfl lk_L_44 rfl (by decide) (show K0 200 = (12, 40) from rfl) (show 200 < 223 by decide) ⟨⟨by decide, by decide⟩, by decide, by decide⟩ rfl (Nat.le_of_ble_eq_true rfl) rfl h2 ?_
  rintro r M1 ⟨rfl, I2, L2, t2, rfl, hI2⟩
  show Ex G mdL2 498 (lls k) [.int v, .int v] (mk I2 L2 t2) 223 5127 P
  exact ex_icmp_eq 1976 dL_law_498 (by decide) (fun _ => kont _ _ _ hI2) (fun z => absurd rfl z)
set_option maxHeartbeats 4000000 in
theorem lc_put {k : Nat} (hk : 7 * k + 7 ≤ gN G) (hN : gN G ≤ 3584) (hI : Inv I L t) (kont : ∀ I' L' t', Inv I' L' t' → Ex G mdL2 1976 (lls k) [] (mk I' L' t') 223 5127 P) : Ex G mdL2 503 (lls k) [] (mk I L t) 223 5127 P := by
  obtain ⟨v, I1, L1, t1, h1, h2⟩ := T_put (G := G) (a0 := (xa G k 1)) (a1 := (xa G k 2)) (a2 := (xa G k 3)) hI
  refine ex_aload_n dL_law_503 rfl ?_
  refine ex_aload_n dL_law_504 rfl ?_
  refine ex_iload_n dL_law_505 rfl ?_
  refine ex_iconst (v := 1) dL_law_506 (by decide) ?_
  refine ex_iadd dL_law_507 ?_
  refine ex_sld dL_law_508 (ai (j := 1) hk hN (by decide)) ?_
  refine ex_aload_n dL_law_509 rfl ?_
  refine ex_iload_n dL_law_510 rfl ?_
  refine ex_iconst (v := 2) dL_law_511 (by decide) ?_
  refine ex_iadd dL_law_512 ?_
  refine ex_sld dL_law_513 (ai (j := 2) hk hN (by decide)) ?_
  refine ex_aload_n dL_law_514 rfl ?_
  refine ex_iload_n dL_law_515 rfl ?_
  refine ex_iconst (v := 3) dL_law_516 (by decide) ?_
  refine ex_iadd dL_law_517 ?_
  refine ex_sld dL_law_518 (ai (j := 3) hk hN (by decide)) ?_
  refine ex_cV (a := 0) (kd := 11) (N := 20) (T := TX11) (vs := [.int (xa G k 1), .int (xa G k 2), .int (xa G k 3)]) dL_law_519 rfl lk_L_45 rfl (by decide) (show K0 0 = (11, 20) from rfl) (show 0 < 223 by decide) ⟨⟨by decide, by decide⟩, by decide, by decide⟩ rfl (Nat.le_of_ble_eq_true rfl) rfl h1 (Rs.k ?_)
  show Ex G mdL2 522 (lls k) [.int v] (mk I1 L1 t1) 223 5127 P
  refine ex_aload_n dL_law_522 rfl ?_
  refine ex_aload_n dL_law_523 rfl ?_
  refine ex_iload_n dL_law_524 rfl ?_
  refine ex_iconst (v := 1) dL_law_525 (by decide) ?_
  refine ex_iadd dL_law_526 ?_
  refine ex_sld dL_law_527 (ai (j := 1) hk hN (by decide)) ?_
  refine ex_aload_n dL_law_528 rfl ?_
  refine ex_iload_n dL_law_529 rfl ?_
  refine ex_iconst (v := 2) dL_law_530 (by decide) ?_
  refine ex_iadd dL_law_531 ?_
  refine ex_sld dL_law_532 (ai (j := 2) hk hN (by decide)) ?_
  refine ex_aload_n dL_law_533 rfl ?_
  refine ex_iload_n dL_law_534 rfl ?_
  refine ex_iconst (v := 3) dL_law_535 (by decide) ?_
  refine ex_iadd dL_law_536 ?_
  refine ex_sld dL_law_537 (ai (j := 3) hk hN (by decide)) ?_
  refine ex_cV (a := 200) (kd := 12) (N := 40) (T := TX12) (vs := [.int (xa G k 1), .int (xa G k 2), .int (xa G k 3)]) dL_law_538 rfl lk_L_48 rfl (by decide) (show K0 200 = (12, 40) from rfl) (show 200 < 223 by decide) ⟨⟨by decide, by decide⟩, by decide, by decide⟩ rfl (Nat.le_of_ble_eq_true rfl) rfl h2 ?_
  rintro r M1 ⟨rfl, I2, L2, t2, rfl, hI2⟩
  show Ex G mdL2 541 (lls k) [.int v, .int v] (mk I2 L2 t2) 223 5127 P
  exact ex_icmp_eq 1976 dL_law_541 (by decide) (fun _ => kont _ _ _ hI2) (fun z => absurd rfl z)
set_option maxHeartbeats 4000000 in
theorem lc_fault {k : Nat} (hk : 7 * k + 7 ≤ gN G) (hN : gN G ≤ 3584) (hI : Inv I L t) (kont : ∀ I' L' t', Inv I' L' t' → Ex G mdL2 1976 (lls k) [] (mk I' L' t') 223 5127 P) : Ex G mdL2 546 (lls k) [] (mk I L t) 223 5127 P := by
  by_cases hz : xa G k 2 = 0
  · skip
    obtain ⟨v, I1, L1, t1, h1, h2⟩ := T_fault (G := G) (x := (xa G k 1)) (z := 0) hI
    refine ex_aload_n dL_law_546 rfl ?_
    refine ex_aload_n dL_law_547 rfl ?_
    refine ex_iload_n dL_law_548 rfl ?_
    refine ex_iconst (v := 1) dL_law_549 (by decide) ?_
    refine ex_iadd dL_law_550 ?_
    refine ex_sld dL_law_551 (ai (j := 1) hk hN (by decide)) ?_
    refine ex_aload_n dL_law_552 rfl ?_
    refine ex_iload_n dL_law_553 rfl ?_
    refine ex_iconst (v := 2) dL_law_554 (by decide) ?_
    refine ex_iadd dL_law_555 ?_
    refine ex_sld dL_law_556 (ai (j := 2) hk hN (by decide)) ?_
    refine ex_if_eq 564 dL_law_557 (by decide) (fun _ => ?_) (fun z => absurd hz z)
    refine ex_iconst (v := 0) dL_law_564 (by decide) ?_
    refine ex_cV (a := 0) (kd := 11) (N := 20) (T := TX11) (vs := [.int (xa G k 1), .int 0]) dL_law_565 rfl lk_L_49 rfl (by decide) (show K0 0 = (11, 20) from rfl) (show 0 < 223 by decide) ⟨⟨by decide, by decide⟩, by decide, by decide⟩ rfl (Nat.le_of_ble_eq_true rfl) rfl h1 (Rs.k ?_)
    show Ex G mdL2 568 (lls k) [.int v] (mk I1 L1 t1) 223 5127 P
    refine ex_aload_n dL_law_568 rfl ?_
    refine ex_aload_n dL_law_569 rfl ?_
    refine ex_iload_n dL_law_570 rfl ?_
    refine ex_iconst (v := 1) dL_law_571 (by decide) ?_
    refine ex_iadd dL_law_572 ?_
    refine ex_sld dL_law_573 (ai (j := 1) hk hN (by decide)) ?_
    refine ex_aload_n dL_law_574 rfl ?_
    refine ex_iload_n dL_law_575 rfl ?_
    refine ex_iconst (v := 2) dL_law_576 (by decide) ?_
    refine ex_iadd dL_law_577 ?_
    refine ex_sld dL_law_578 (ai (j := 2) hk hN (by decide)) ?_
    refine ex_if_eq 586 dL_law_579 (by decide) (fun _ => ?_) (fun z => absurd hz z)
    refine ex_iconst (v := 0) dL_law_586 (by decide) ?_
    refine ex_cV (a := 200) (kd := 12) (N := 40) (T := TX12) (vs := [.int (xa G k 1), .int 0]) dL_law_587 rfl lk_L_53 rfl (by decide) (show K0 200 = (12, 40) from rfl) (show 200 < 223 by decide) ⟨⟨by decide, by decide⟩, by decide, by decide⟩ rfl (Nat.le_of_ble_eq_true rfl) rfl h2 ?_
    rintro r M1 ⟨rfl, I2, L2, t2, rfl, hI2⟩
    show Ex G mdL2 590 (lls k) [.int v, .int v] (mk I2 L2 t2) 223 5127 P
    exact ex_icmp_eq 1976 dL_law_590 (by decide) (fun _ => kont _ _ _ hI2) (fun z => absurd rfl z)
  · skip
    obtain ⟨v, I1, L1, t1, h1, h2⟩ := T_fault (G := G) (x := (xa G k 1)) (z := 1) hI
    refine ex_aload_n dL_law_546 rfl ?_
    refine ex_aload_n dL_law_547 rfl ?_
    refine ex_iload_n dL_law_548 rfl ?_
    refine ex_iconst (v := 1) dL_law_549 (by decide) ?_
    refine ex_iadd dL_law_550 ?_
    refine ex_sld dL_law_551 (ai (j := 1) hk hN (by decide)) ?_
    refine ex_aload_n dL_law_552 rfl ?_
    refine ex_iload_n dL_law_553 rfl ?_
    refine ex_iconst (v := 2) dL_law_554 (by decide) ?_
    refine ex_iadd dL_law_555 ?_
    refine ex_sld dL_law_556 (ai (j := 2) hk hN (by decide)) ?_
    refine ex_if_eq 564 dL_law_557 (by decide) (fun z => absurd z hz) (fun _ => ?_)
    refine ex_iconst (v := 1) dL_law_560 (by decide) ?_
    refine ex_goto 565 dL_law_561 (by decide) ?_
    refine ex_cV (a := 0) (kd := 11) (N := 20) (T := TX11) (vs := [.int (xa G k 1), .int 1]) dL_law_565 rfl lk_L_49 rfl (by decide) (show K0 0 = (11, 20) from rfl) (show 0 < 223 by decide) ⟨⟨by decide, by decide⟩, by decide, by decide⟩ rfl (Nat.le_of_ble_eq_true rfl) rfl h1 (Rs.k ?_)
    show Ex G mdL2 568 (lls k) [.int v] (mk I1 L1 t1) 223 5127 P
    refine ex_aload_n dL_law_568 rfl ?_
    refine ex_aload_n dL_law_569 rfl ?_
    refine ex_iload_n dL_law_570 rfl ?_
    refine ex_iconst (v := 1) dL_law_571 (by decide) ?_
    refine ex_iadd dL_law_572 ?_
    refine ex_sld dL_law_573 (ai (j := 1) hk hN (by decide)) ?_
    refine ex_aload_n dL_law_574 rfl ?_
    refine ex_iload_n dL_law_575 rfl ?_
    refine ex_iconst (v := 2) dL_law_576 (by decide) ?_
    refine ex_iadd dL_law_577 ?_
    refine ex_sld dL_law_578 (ai (j := 2) hk hN (by decide)) ?_
    refine ex_if_eq 586 dL_law_579 (by decide) (fun z => absurd z hz) (fun _ => ?_)
    refine ex_iconst (v := 1) dL_law_582 (by decide) ?_
    refine ex_goto 587 dL_law_583 (by decide) ?_
    refine ex_cV (a := 200) (kd := 12) (N := 40) (T := TX12) (vs := [.int (xa G k 1), .int 1]) dL_law_587 rfl lk_L_53 rfl (by decide) (show K0 200 = (12, 40) from rfl) (show 200 < 223 by decide) ⟨⟨by decide, by decide⟩, by decide, by decide⟩ rfl (Nat.le_of_ble_eq_true rfl) rfl h2 ?_
    rintro r M1 ⟨rfl, I2, L2, t2, rfl, hI2⟩
    show Ex G mdL2 590 (lls k) [.int v, .int v] (mk I2 L2 t2) 223 5127 P
    exact ex_icmp_eq 1976 dL_law_590 (by decide) (fun _ => kont _ _ _ hI2) (fun z => absurd rfl z)
set_option maxHeartbeats 4000000 in
theorem lc_harbour {k : Nat} (hk : 7 * k + 7 ≤ gN G) (hN : gN G ≤ 3584) (hI : Inv I L t) (kont : ∀ I' L' t', Inv I' L' t' → Ex G mdL2 1976 (lls k) [] (mk I' L' t') 223 5127 P) : Ex G mdL2 595 (lls k) [] (mk I L t) 223 5127 P := by
  obtain ⟨v, I1, L1, t1, h1, h2⟩ := T_harbour (G := G) (k := (xa G k 1)) (x := (xa G k 2)) hI
  refine ex_aload_n dL_law_595 rfl ?_
  refine ex_aload_n dL_law_596 rfl ?_
  refine ex_iload_n dL_law_597 rfl ?_
  refine ex_iconst (v := 1) dL_law_598 (by decide) ?_
  refine ex_iadd dL_law_599 ?_
  refine ex_sld dL_law_600 (ai (j := 1) hk hN (by decide)) ?_
  refine ex_aload_n dL_law_601 rfl ?_
  refine ex_iload_n dL_law_602 rfl ?_
  refine ex_iconst (v := 2) dL_law_603 (by decide) ?_
  refine ex_iadd dL_law_604 ?_
  refine ex_sld dL_law_605 (ai (j := 2) hk hN (by decide)) ?_
  refine ex_cV (a := 0) (kd := 11) (N := 20) (T := TX11) (vs := [.int (xa G k 1), .int (xa G k 2)]) dL_law_606 rfl lk_L_54 rfl (by decide) (show K0 0 = (11, 20) from rfl) (show 0 < 223 by decide) ⟨⟨by decide, by decide⟩, by decide, by decide⟩ rfl (Nat.le_of_ble_eq_true rfl) rfl h1 (Rs.k ?_)
  show Ex G mdL2 609 (lls k) [.int v] (mk I1 L1 t1) 223 5127 P
  refine ex_aload_n dL_law_609 rfl ?_
  refine ex_aload_n dL_law_610 rfl ?_
  refine ex_iload_n dL_law_611 rfl ?_
  refine ex_iconst (v := 1) dL_law_612 (by decide) ?_
  refine ex_iadd dL_law_613 ?_
  refine ex_sld dL_law_614 (ai (j := 1) hk hN (by decide)) ?_
  refine ex_aload_n dL_law_615 rfl ?_
  refine ex_iload_n dL_law_616 rfl ?_
  refine ex_iconst (v := 2) dL_law_617 (by decide) ?_
  refine ex_iadd dL_law_618 ?_
  refine ex_sld dL_law_619 (ai (j := 2) hk hN (by decide)) ?_
  refine ex_cV (a := 200) (kd := 12) (N := 40) (T := TX12) (vs := [.int (xa G k 1), .int (xa G k 2)]) dL_law_620 rfl lk_L_57 rfl (by decide) (show K0 200 = (12, 40) from rfl) (show 200 < 223 by decide) ⟨⟨by decide, by decide⟩, by decide, by decide⟩ rfl (Nat.le_of_ble_eq_true rfl) rfl h2 ?_
  rintro r M1 ⟨rfl, I2, L2, t2, rfl, hI2⟩
  show Ex G mdL2 623 (lls k) [.int v, .int v] (mk I2 L2 t2) 223 5127 P
  exact ex_icmp_eq 1976 dL_law_623 (by decide) (fun _ => kont _ _ _ hI2) (fun z => absurd rfl z)
set_option maxHeartbeats 4000000 in
theorem lc_sea {k : Nat} (hk : 7 * k + 7 ≤ gN G) (hN : gN G ≤ 3584) (hI : Inv I L t) (kont : ∀ I' L' t', Inv I' L' t' → Ex G mdL2 1976 (lls k) [] (mk I' L' t') 223 5127 P) : Ex G mdL2 628 (lls k) [] (mk I L t) 223 5127 P := by
  obtain ⟨v, I1, L1, t1, h1, h2⟩ := T_sea (G := G) (k := (xa G k 1)) (x := (xa G k 2)) hI
  refine ex_aload_n dL_law_628 rfl ?_
  refine ex_aload_n dL_law_629 rfl ?_
  refine ex_iload_n dL_law_630 rfl ?_
  refine ex_iconst (v := 1) dL_law_631 (by decide) ?_
  refine ex_iadd dL_law_632 ?_
  refine ex_sld dL_law_633 (ai (j := 1) hk hN (by decide)) ?_
  refine ex_aload_n dL_law_634 rfl ?_
  refine ex_iload_n dL_law_635 rfl ?_
  refine ex_iconst (v := 2) dL_law_636 (by decide) ?_
  refine ex_iadd dL_law_637 ?_
  refine ex_sld dL_law_638 (ai (j := 2) hk hN (by decide)) ?_
  refine ex_cV (a := 0) (kd := 11) (N := 20) (T := TX11) (vs := [.int (xa G k 1), .int (xa G k 2)]) dL_law_639 rfl lk_L_58 rfl (by decide) (show K0 0 = (11, 20) from rfl) (show 0 < 223 by decide) ⟨⟨by decide, by decide⟩, by decide, by decide⟩ rfl (Nat.le_of_ble_eq_true rfl) rfl h1 (Rs.k ?_)
  show Ex G mdL2 642 (lls k) [.int v] (mk I1 L1 t1) 223 5127 P
  refine ex_aload_n dL_law_642 rfl ?_
  refine ex_aload_n dL_law_643 rfl ?_
  refine ex_iload_n dL_law_644 rfl ?_
  refine ex_iconst (v := 1) dL_law_645 (by decide) ?_
  refine ex_iadd dL_law_646 ?_
  refine ex_sld dL_law_647 (ai (j := 1) hk hN (by decide)) ?_
  refine ex_aload_n dL_law_648 rfl ?_
  refine ex_iload_n dL_law_649 rfl ?_
  refine ex_iconst (v := 2) dL_law_650 (by decide) ?_
  refine ex_iadd dL_law_651 ?_
  refine ex_sld dL_law_652 (ai (j := 2) hk hN (by decide)) ?_
  refine ex_cV (a := 200) (kd := 12) (N := 40) (T := TX12) (vs := [.int (xa G k 1), .int (xa G k 2)]) dL_law_653 rfl lk_L_61 rfl (by decide) (show K0 200 = (12, 40) from rfl) (show 200 < 223 by decide) ⟨⟨by decide, by decide⟩, by decide, by decide⟩ rfl (Nat.le_of_ble_eq_true rfl) rfl h2 ?_
  rintro r M1 ⟨rfl, I2, L2, t2, rfl, hI2⟩
  show Ex G mdL2 656 (lls k) [.int v, .int v] (mk I2 L2 t2) 223 5127 P
  exact ex_icmp_eq 1976 dL_law_656 (by decide) (fun _ => kont _ _ _ hI2) (fun z => absurd rfl z)
set_option maxHeartbeats 4000000 in
theorem lc_about {k : Nat} (hk : 7 * k + 7 ≤ gN G) (hN : gN G ≤ 3584) (hI : Inv I L t) (kont : ∀ I' L' t', Inv I' L' t' → Ex G mdL2 1976 (lls k) [] (mk I' L' t') 223 5127 P) : Ex G mdL2 661 (lls k) [] (mk I L t) 223 5127 P := by
  obtain ⟨v, I1, L1, t1, h1, h2⟩ := T_about (G := G) (a0 := (xa G k 1)) (a1 := (xa G k 2)) hI
  refine ex_aload_n dL_law_661 rfl ?_
  refine ex_aload_n dL_law_662 rfl ?_
  refine ex_iload_n dL_law_663 rfl ?_
  refine ex_iconst (v := 1) dL_law_664 (by decide) ?_
  refine ex_iadd dL_law_665 ?_
  refine ex_sld dL_law_666 (ai (j := 1) hk hN (by decide)) ?_
  refine ex_aload_n dL_law_667 rfl ?_
  refine ex_iload_n dL_law_668 rfl ?_
  refine ex_iconst (v := 2) dL_law_669 (by decide) ?_
  refine ex_iadd dL_law_670 ?_
  refine ex_sld dL_law_671 (ai (j := 2) hk hN (by decide)) ?_
  refine ex_cV (a := 0) (kd := 11) (N := 20) (T := TX11) (vs := [.int (xa G k 1), .int (xa G k 2)]) dL_law_672 rfl lk_L_62 rfl (by decide) (show K0 0 = (11, 20) from rfl) (show 0 < 223 by decide) ⟨⟨by decide, by decide⟩, by decide, by decide⟩ rfl (Nat.le_of_ble_eq_true rfl) rfl h1 (Rs.k ?_)
  show Ex G mdL2 675 (lls k) [.int v] (mk I1 L1 t1) 223 5127 P
  refine ex_aload_n dL_law_675 rfl ?_
  refine ex_aload_n dL_law_676 rfl ?_
  refine ex_iload_n dL_law_677 rfl ?_
  refine ex_iconst (v := 1) dL_law_678 (by decide) ?_
  refine ex_iadd dL_law_679 ?_
  refine ex_sld dL_law_680 (ai (j := 1) hk hN (by decide)) ?_
  refine ex_aload_n dL_law_681 rfl ?_
  refine ex_iload_n dL_law_682 rfl ?_
  refine ex_iconst (v := 2) dL_law_683 (by decide) ?_
  refine ex_iadd dL_law_684 ?_
  refine ex_sld dL_law_685 (ai (j := 2) hk hN (by decide)) ?_
  refine ex_cV (a := 200) (kd := 12) (N := 40) (T := TX12) (vs := [.int (xa G k 1), .int (xa G k 2)]) dL_law_686 rfl lk_L_65 rfl (by decide) (show K0 200 = (12, 40) from rfl) (show 200 < 223 by decide) ⟨⟨by decide, by decide⟩, by decide, by decide⟩ rfl (Nat.le_of_ble_eq_true rfl) rfl h2 ?_
  rintro r M1 ⟨rfl, I2, L2, t2, rfl, hI2⟩
  show Ex G mdL2 689 (lls k) [.int v, .int v] (mk I2 L2 t2) 223 5127 P
  exact ex_icmp_eq 1976 dL_law_689 (by decide) (fun _ => kont _ _ _ hI2) (fun z => absurd rfl z)
set_option maxHeartbeats 4000000 in
theorem lc_set {k : Nat} (hk : 7 * k + 7 ≤ gN G) (hN : gN G ≤ 3584) (hI : Inv I L t) (kont : ∀ I' L' t', Inv I' L' t' → Ex G mdL2 1976 (lls k) [] (mk I' L' t') 223 5127 P) : Ex G mdL2 694 (lls k) [] (mk I L t) 223 5127 P := by
  obtain ⟨v, I1, L1, t1, h1, h2⟩ := T_set (G := G) (a0 := (xa G k 1)) (a1 := (xa G k 2)) hI
  refine ex_aload_n dL_law_694 rfl ?_
  refine ex_aload_n dL_law_695 rfl ?_
  refine ex_iload_n dL_law_696 rfl ?_
  refine ex_iconst (v := 1) dL_law_697 (by decide) ?_
  refine ex_iadd dL_law_698 ?_
  refine ex_sld dL_law_699 (ai (j := 1) hk hN (by decide)) ?_
  refine ex_aload_n dL_law_700 rfl ?_
  refine ex_iload_n dL_law_701 rfl ?_
  refine ex_iconst (v := 2) dL_law_702 (by decide) ?_
  refine ex_iadd dL_law_703 ?_
  refine ex_sld dL_law_704 (ai (j := 2) hk hN (by decide)) ?_
  refine ex_cV (a := 0) (kd := 11) (N := 20) (T := TX11) (vs := [.int (xa G k 1), .int (xa G k 2)]) dL_law_705 rfl lk_L_66 rfl (by decide) (show K0 0 = (11, 20) from rfl) (show 0 < 223 by decide) ⟨⟨by decide, by decide⟩, by decide, by decide⟩ rfl (Nat.le_of_ble_eq_true rfl) rfl h1 (Rs.k ?_)
  show Ex G mdL2 708 (lls k) [.int v] (mk I1 L1 t1) 223 5127 P
  refine ex_aload_n dL_law_708 rfl ?_
  refine ex_aload_n dL_law_709 rfl ?_
  refine ex_iload_n dL_law_710 rfl ?_
  refine ex_iconst (v := 1) dL_law_711 (by decide) ?_
  refine ex_iadd dL_law_712 ?_
  refine ex_sld dL_law_713 (ai (j := 1) hk hN (by decide)) ?_
  refine ex_aload_n dL_law_714 rfl ?_
  refine ex_iload_n dL_law_715 rfl ?_
  refine ex_iconst (v := 2) dL_law_716 (by decide) ?_
  refine ex_iadd dL_law_717 ?_
  refine ex_sld dL_law_718 (ai (j := 2) hk hN (by decide)) ?_
  refine ex_cV (a := 200) (kd := 12) (N := 40) (T := TX12) (vs := [.int (xa G k 1), .int (xa G k 2)]) dL_law_719 rfl lk_L_69 rfl (by decide) (show K0 200 = (12, 40) from rfl) (show 200 < 223 by decide) ⟨⟨by decide, by decide⟩, by decide, by decide⟩ rfl (Nat.le_of_ble_eq_true rfl) rfl h2 ?_
  rintro r M1 ⟨rfl, I2, L2, t2, rfl, hI2⟩
  show Ex G mdL2 722 (lls k) [.int v, .int v] (mk I2 L2 t2) 223 5127 P
  exact ex_icmp_eq 1976 dL_law_722 (by decide) (fun _ => kont _ _ _ hI2) (fun z => absurd rfl z)
set_option maxHeartbeats 4000000 in
theorem lc_ship {k : Nat} (hk : 7 * k + 7 ≤ gN G) (hN : gN G ≤ 3584) (hI : Inv I L t) (kont : ∀ I' L' t', Inv I' L' t' → Ex G mdL2 1976 (lls k) [] (mk I' L' t') 223 5127 P) : Ex G mdL2 727 (lls k) [] (mk I L t) 223 5127 P := by
  obtain ⟨v, I1, L1, t1, h1, h2⟩ := T_ship (G := G) (a0 := (xa G k 1)) (a1 := (xa G k 2)) (a2 := (xa G k 3)) (a3 := (xa G k 4)) (a4 := (xa G k 5)) (a5 := (xa G k 6)) hI
  refine ex_aload_n dL_law_727 rfl ?_
  refine ex_aload_n dL_law_728 rfl ?_
  refine ex_iload_n dL_law_729 rfl ?_
  refine ex_iconst (v := 1) dL_law_730 (by decide) ?_
  refine ex_iadd dL_law_731 ?_
  refine ex_sld dL_law_732 (ai (j := 1) hk hN (by decide)) ?_
  refine ex_aload_n dL_law_733 rfl ?_
  refine ex_iload_n dL_law_734 rfl ?_
  refine ex_iconst (v := 2) dL_law_735 (by decide) ?_
  refine ex_iadd dL_law_736 ?_
  refine ex_sld dL_law_737 (ai (j := 2) hk hN (by decide)) ?_
  refine ex_aload_n dL_law_738 rfl ?_
  refine ex_iload_n dL_law_739 rfl ?_
  refine ex_iconst (v := 3) dL_law_740 (by decide) ?_
  refine ex_iadd dL_law_741 ?_
  refine ex_sld dL_law_742 (ai (j := 3) hk hN (by decide)) ?_
  refine ex_aload_n dL_law_743 rfl ?_
  refine ex_iload_n dL_law_744 rfl ?_
  refine ex_iconst (v := 4) dL_law_745 (by decide) ?_
  refine ex_iadd dL_law_746 ?_
  refine ex_sld dL_law_747 (ai (j := 4) hk hN (by decide)) ?_
  refine ex_aload_n dL_law_748 rfl ?_
  refine ex_iload_n dL_law_749 rfl ?_
  refine ex_iconst (v := 5) dL_law_750 (by decide) ?_
  refine ex_iadd dL_law_751 ?_
  refine ex_sld dL_law_752 (ai (j := 5) hk hN (by decide)) ?_
  refine ex_aload_n dL_law_753 rfl ?_
  refine ex_iload_n dL_law_754 rfl ?_
  refine ex_bipush (v := 6) dL_law_755 (by decide) ?_
  refine ex_iadd dL_law_757 ?_
  refine ex_sld dL_law_758 (ai (j := 6) hk hN (by decide)) ?_
  refine ex_cV (a := 0) (kd := 11) (N := 20) (T := TX11) (vs := [.int (xa G k 1), .int (xa G k 2), .int (xa G k 3), .int (xa G k 4), .int (xa G k 5), .int (xa G k 6)]) dL_law_759 rfl lk_L_70 rfl (by decide) (show K0 0 = (11, 20) from rfl) (show 0 < 223 by decide) ⟨⟨by decide, by decide⟩, by decide, by decide⟩ rfl (Nat.le_of_ble_eq_true rfl) rfl h1 (Rs.k ?_)
  show Ex G mdL2 762 (lls k) [.int v] (mk I1 L1 t1) 223 5127 P
  refine ex_aload_n dL_law_762 rfl ?_
  refine ex_aload_n dL_law_763 rfl ?_
  refine ex_iload_n dL_law_764 rfl ?_
  refine ex_iconst (v := 1) dL_law_765 (by decide) ?_
  refine ex_iadd dL_law_766 ?_
  refine ex_sld dL_law_767 (ai (j := 1) hk hN (by decide)) ?_
  refine ex_aload_n dL_law_768 rfl ?_
  refine ex_iload_n dL_law_769 rfl ?_
  refine ex_iconst (v := 2) dL_law_770 (by decide) ?_
  refine ex_iadd dL_law_771 ?_
  refine ex_sld dL_law_772 (ai (j := 2) hk hN (by decide)) ?_
  refine ex_aload_n dL_law_773 rfl ?_
  refine ex_iload_n dL_law_774 rfl ?_
  refine ex_iconst (v := 3) dL_law_775 (by decide) ?_
  refine ex_iadd dL_law_776 ?_
  refine ex_sld dL_law_777 (ai (j := 3) hk hN (by decide)) ?_
  refine ex_aload_n dL_law_778 rfl ?_
  refine ex_iload_n dL_law_779 rfl ?_
  refine ex_iconst (v := 4) dL_law_780 (by decide) ?_
  refine ex_iadd dL_law_781 ?_
  refine ex_sld dL_law_782 (ai (j := 4) hk hN (by decide)) ?_
  refine ex_aload_n dL_law_783 rfl ?_
  refine ex_iload_n dL_law_784 rfl ?_
  refine ex_iconst (v := 5) dL_law_785 (by decide) ?_
  refine ex_iadd dL_law_786 ?_
  refine ex_sld dL_law_787 (ai (j := 5) hk hN (by decide)) ?_
  refine ex_aload_n dL_law_788 rfl ?_
  refine ex_iload_n dL_law_789 rfl ?_
  refine ex_bipush (v := 6) dL_law_790 (by decide) ?_
  refine ex_iadd dL_law_792 ?_
  refine ex_sld dL_law_793 (ai (j := 6) hk hN (by decide)) ?_
  refine ex_cV (a := 200) (kd := 12) (N := 40) (T := TX12) (vs := [.int (xa G k 1), .int (xa G k 2), .int (xa G k 3), .int (xa G k 4), .int (xa G k 5), .int (xa G k 6)]) dL_law_794 rfl lk_L_74 rfl (by decide) (show K0 200 = (12, 40) from rfl) (show 200 < 223 by decide) ⟨⟨by decide, by decide⟩, by decide, by decide⟩ rfl (Nat.le_of_ble_eq_true rfl) rfl h2 ?_
  rintro r M1 ⟨rfl, I2, L2, t2, rfl, hI2⟩
  show Ex G mdL2 797 (lls k) [.int v, .int v] (mk I2 L2 t2) 223 5127 P
  exact ex_icmp_eq 1976 dL_law_797 (by decide) (fun _ => kont _ _ _ hI2) (fun z => absurd rfl z)
set_option maxHeartbeats 4000000 in
theorem lc_leave {k : Nat} (hk : 7 * k + 7 ≤ gN G) (hN : gN G ≤ 3584) (hI : Inv I L t) (kont : ∀ I' L' t', Inv I' L' t' → Ex G mdL2 1976 (lls k) [] (mk I' L' t') 223 5127 P) : Ex G mdL2 802 (lls k) [] (mk I L t) 223 5127 P := by
  obtain ⟨v, I1, L1, t1, h1, h2⟩ := T_leave (G := G) (a0 := (xa G k 1)) hI
  refine ex_aload_n dL_law_802 rfl ?_
  refine ex_aload_n dL_law_803 rfl ?_
  refine ex_iload_n dL_law_804 rfl ?_
  refine ex_iconst (v := 1) dL_law_805 (by decide) ?_
  refine ex_iadd dL_law_806 ?_
  refine ex_sld dL_law_807 (ai (j := 1) hk hN (by decide)) ?_
  refine ex_cV (a := 0) (kd := 11) (N := 20) (T := TX11) (vs := [.int (xa G k 1)]) dL_law_808 rfl lk_L_75 rfl (by decide) (show K0 0 = (11, 20) from rfl) (show 0 < 223 by decide) ⟨⟨by decide, by decide⟩, by decide, by decide⟩ rfl (Nat.le_of_ble_eq_true rfl) rfl h1 (Rs.k ?_)
  show Ex G mdL2 811 (lls k) [.int v] (mk I1 L1 t1) 223 5127 P
  refine ex_aload_n dL_law_811 rfl ?_
  refine ex_aload_n dL_law_812 rfl ?_
  refine ex_iload_n dL_law_813 rfl ?_
  refine ex_iconst (v := 1) dL_law_814 (by decide) ?_
  refine ex_iadd dL_law_815 ?_
  refine ex_sld dL_law_816 (ai (j := 1) hk hN (by decide)) ?_
  refine ex_cV (a := 200) (kd := 12) (N := 40) (T := TX12) (vs := [.int (xa G k 1)]) dL_law_817 rfl lk_L_78 rfl (by decide) (show K0 200 = (12, 40) from rfl) (show 200 < 223 by decide) ⟨⟨by decide, by decide⟩, by decide, by decide⟩ rfl (Nat.le_of_ble_eq_true rfl) rfl h2 ?_
  rintro r M1 ⟨rfl, I2, L2, t2, rfl, hI2⟩
  show Ex G mdL2 820 (lls k) [.int v, .int v] (mk I2 L2 t2) 223 5127 P
  exact ex_icmp_eq 1976 dL_law_820 (by decide) (fun _ => kont _ _ _ hI2) (fun z => absurd rfl z)
set_option maxHeartbeats 4000000 in
theorem lc_night {k : Nat} (hk : 7 * k + 7 ≤ gN G) (hN : gN G ≤ 3584) (hI : Inv I L t) (kont : ∀ I' L' t', Inv I' L' t' → Ex G mdL2 1976 (lls k) [] (mk I' L' t') 223 5127 P) : Ex G mdL2 825 (lls k) [] (mk I L t) 223 5127 P := by
  obtain ⟨v, I1, L1, t1, h1, h2⟩ := T_night (G := G) (a0 := (xa G k 1)) (a1 := (xa G k 2)) hI
  refine ex_aload_n dL_law_825 rfl ?_
  refine ex_aload_n dL_law_826 rfl ?_
  refine ex_iload_n dL_law_827 rfl ?_
  refine ex_iconst (v := 1) dL_law_828 (by decide) ?_
  refine ex_iadd dL_law_829 ?_
  refine ex_sld dL_law_830 (ai (j := 1) hk hN (by decide)) ?_
  refine ex_aload_n dL_law_831 rfl ?_
  refine ex_iload_n dL_law_832 rfl ?_
  refine ex_iconst (v := 2) dL_law_833 (by decide) ?_
  refine ex_iadd dL_law_834 ?_
  refine ex_sld dL_law_835 (ai (j := 2) hk hN (by decide)) ?_
  refine ex_cV (a := 0) (kd := 11) (N := 20) (T := TX11) (vs := [.int (xa G k 1), .int (xa G k 2)]) dL_law_836 rfl lk_L_79 rfl (by decide) (show K0 0 = (11, 20) from rfl) (show 0 < 223 by decide) ⟨⟨by decide, by decide⟩, by decide, by decide⟩ rfl (Nat.le_of_ble_eq_true rfl) rfl h1 (Rs.k ?_)
  show Ex G mdL2 839 (lls k) [.int v] (mk I1 L1 t1) 223 5127 P
  refine ex_aload_n dL_law_839 rfl ?_
  refine ex_aload_n dL_law_840 rfl ?_
  refine ex_iload_n dL_law_841 rfl ?_
  refine ex_iconst (v := 1) dL_law_842 (by decide) ?_
  refine ex_iadd dL_law_843 ?_
  refine ex_sld dL_law_844 (ai (j := 1) hk hN (by decide)) ?_
  refine ex_aload_n dL_law_845 rfl ?_
  refine ex_iload_n dL_law_846 rfl ?_
  refine ex_iconst (v := 2) dL_law_847 (by decide) ?_
  refine ex_iadd dL_law_848 ?_
  refine ex_sld dL_law_849 (ai (j := 2) hk hN (by decide)) ?_
  refine ex_cV (a := 200) (kd := 12) (N := 40) (T := TX12) (vs := [.int (xa G k 1), .int (xa G k 2)]) dL_law_850 rfl lk_L_82 rfl (by decide) (show K0 200 = (12, 40) from rfl) (show 200 < 223 by decide) ⟨⟨by decide, by decide⟩, by decide, by decide⟩ rfl (Nat.le_of_ble_eq_true rfl) rfl h2 ?_
  rintro r M1 ⟨rfl, I2, L2, t2, rfl, hI2⟩
  show Ex G mdL2 853 (lls k) [.int v, .int v] (mk I2 L2 t2) 223 5127 P
  exact ex_icmp_eq 1976 dL_law_853 (by decide) (fun _ => kont _ _ _ hI2) (fun z => absurd rfl z)
set_option maxHeartbeats 4000000 in
theorem lc_go {k : Nat} (hk : 7 * k + 7 ≤ gN G) (hN : gN G ≤ 3584) (hI : Inv I L t) (kont : ∀ I' L' t', Inv I' L' t' → Ex G mdL2 1976 (lls k) [] (mk I' L' t') 223 5127 P) : Ex G mdL2 858 (lls k) [] (mk I L t) 223 5127 P := by
  obtain ⟨v, I1, L1, t1, h1, h2⟩ := T_go (G := G) (a0 := (xa G k 1)) hI
  refine ex_aload_n dL_law_858 rfl ?_
  refine ex_aload_n dL_law_859 rfl ?_
  refine ex_iload_n dL_law_860 rfl ?_
  refine ex_iconst (v := 1) dL_law_861 (by decide) ?_
  refine ex_iadd dL_law_862 ?_
  refine ex_sld dL_law_863 (ai (j := 1) hk hN (by decide)) ?_
  refine ex_cV (a := 0) (kd := 11) (N := 20) (T := TX11) (vs := [.int (xa G k 1)]) dL_law_864 rfl lk_L_83 rfl (by decide) (show K0 0 = (11, 20) from rfl) (show 0 < 223 by decide) ⟨⟨by decide, by decide⟩, by decide, by decide⟩ rfl (Nat.le_of_ble_eq_true rfl) rfl h1 (Rs.k ?_)
  show Ex G mdL2 867 (lls k) [.int v] (mk I1 L1 t1) 223 5127 P
  refine ex_aload_n dL_law_867 rfl ?_
  refine ex_aload_n dL_law_868 rfl ?_
  refine ex_iload_n dL_law_869 rfl ?_
  refine ex_iconst (v := 1) dL_law_870 (by decide) ?_
  refine ex_iadd dL_law_871 ?_
  refine ex_sld dL_law_872 (ai (j := 1) hk hN (by decide)) ?_
  refine ex_cV (a := 200) (kd := 12) (N := 40) (T := TX12) (vs := [.int (xa G k 1)]) dL_law_873 rfl lk_L_86 rfl (by decide) (show K0 200 = (12, 40) from rfl) (show 200 < 223 by decide) ⟨⟨by decide, by decide⟩, by decide, by decide⟩ rfl (Nat.le_of_ble_eq_true rfl) rfl h2 ?_
  rintro r M1 ⟨rfl, I2, L2, t2, rfl, hI2⟩
  show Ex G mdL2 876 (lls k) [.int v, .int v] (mk I2 L2 t2) 223 5127 P
  exact ex_icmp_eq 1976 dL_law_876 (by decide) (fun _ => kont _ _ _ hI2) (fun z => absurd rfl z)
set_option maxHeartbeats 4000000 in
theorem lc_cell {k : Nat} (hk : 7 * k + 7 ≤ gN G) (hN : gN G ≤ 3584) (hI : Inv I L t) (kont : ∀ I' L' t', Inv I' L' t' → Ex G mdL2 1976 (lls k) [] (mk I' L' t') 223 5127 P) : Ex G mdL2 881 (lls k) [] (mk I L t) 223 5127 P := by
  obtain ⟨v, I1, L1, t1, h1, h2⟩ := T_cell (G := G) (a0 := (xa G k 1)) (a1 := (xa G k 2)) hI
  refine ex_aload_n dL_law_881 rfl ?_
  refine ex_aload_n dL_law_882 rfl ?_
  refine ex_iload_n dL_law_883 rfl ?_
  refine ex_iconst (v := 1) dL_law_884 (by decide) ?_
  refine ex_iadd dL_law_885 ?_
  refine ex_sld dL_law_886 (ai (j := 1) hk hN (by decide)) ?_
  refine ex_aload_n dL_law_887 rfl ?_
  refine ex_iload_n dL_law_888 rfl ?_
  refine ex_iconst (v := 2) dL_law_889 (by decide) ?_
  refine ex_iadd dL_law_890 ?_
  refine ex_sld dL_law_891 (ai (j := 2) hk hN (by decide)) ?_
  refine ex_cV (a := 0) (kd := 11) (N := 20) (T := TX11) (vs := [.int (xa G k 1), .int (xa G k 2)]) dL_law_892 rfl lk_L_87 rfl (by decide) (show K0 0 = (11, 20) from rfl) (show 0 < 223 by decide) ⟨⟨by decide, by decide⟩, by decide, by decide⟩ rfl (Nat.le_of_ble_eq_true rfl) rfl h1 (Rs.k ?_)
  show Ex G mdL2 895 (lls k) [.int v] (mk I1 L1 t1) 223 5127 P
  refine ex_aload_n dL_law_895 rfl ?_
  refine ex_aload_n dL_law_896 rfl ?_
  refine ex_iload_n dL_law_897 rfl ?_
  refine ex_iconst (v := 1) dL_law_898 (by decide) ?_
  refine ex_iadd dL_law_899 ?_
  refine ex_sld dL_law_900 (ai (j := 1) hk hN (by decide)) ?_
  refine ex_aload_n dL_law_901 rfl ?_
  refine ex_iload_n dL_law_902 rfl ?_
  refine ex_iconst (v := 2) dL_law_903 (by decide) ?_
  refine ex_iadd dL_law_904 ?_
  refine ex_sld dL_law_905 (ai (j := 2) hk hN (by decide)) ?_
  refine ex_cV (a := 200) (kd := 12) (N := 40) (T := TX12) (vs := [.int (xa G k 1), .int (xa G k 2)]) dL_law_906 rfl lk_L_90 rfl (by decide) (show K0 200 = (12, 40) from rfl) (show 200 < 223 by decide) ⟨⟨by decide, by decide⟩, by decide, by decide⟩ rfl (Nat.le_of_ble_eq_true rfl) rfl h2 ?_
  rintro r M1 ⟨rfl, I2, L2, t2, rfl, hI2⟩
  show Ex G mdL2 909 (lls k) [.int v, .int v] (mk I2 L2 t2) 223 5127 P
  exact ex_icmp_eq 1976 dL_law_909 (by decide) (fun _ => kont _ _ _ hI2) (fun z => absurd rfl z)
set_option maxHeartbeats 4000000 in
theorem lc_rides {k : Nat} (hk : 7 * k + 7 ≤ gN G) (hN : gN G ≤ 3584) (hI : Inv I L t) (kont : ∀ I' L' t', Inv I' L' t' → Ex G mdL2 1976 (lls k) [] (mk I' L' t') 223 5127 P) : Ex G mdL2 914 (lls k) [] (mk I L t) 223 5127 P := by
  obtain ⟨v, I1, L1, t1, h1, h2⟩ := T_rides (G := G) (a0 := (xa G k 1)) (a1 := (xa G k 2)) hI
  refine ex_aload_n dL_law_914 rfl ?_
  refine ex_aload_n dL_law_915 rfl ?_
  refine ex_iload_n dL_law_916 rfl ?_
  refine ex_iconst (v := 1) dL_law_917 (by decide) ?_
  refine ex_iadd dL_law_918 ?_
  refine ex_sld dL_law_919 (ai (j := 1) hk hN (by decide)) ?_
  refine ex_aload_n dL_law_920 rfl ?_
  refine ex_iload_n dL_law_921 rfl ?_
  refine ex_iconst (v := 2) dL_law_922 (by decide) ?_
  refine ex_iadd dL_law_923 ?_
  refine ex_sld dL_law_924 (ai (j := 2) hk hN (by decide)) ?_
  refine ex_cV (a := 0) (kd := 11) (N := 20) (T := TX11) (vs := [.int (xa G k 1), .int (xa G k 2)]) dL_law_925 rfl lk_L_91 rfl (by decide) (show K0 0 = (11, 20) from rfl) (show 0 < 223 by decide) ⟨⟨by decide, by decide⟩, by decide, by decide⟩ rfl (Nat.le_of_ble_eq_true rfl) rfl h1 (Rs.k ?_)
  show Ex G mdL2 928 (lls k) [.int v] (mk I1 L1 t1) 223 5127 P
  refine ex_aload_n dL_law_928 rfl ?_
  refine ex_aload_n dL_law_929 rfl ?_
  refine ex_iload_n dL_law_930 rfl ?_
  refine ex_iconst (v := 1) dL_law_931 (by decide) ?_
  refine ex_iadd dL_law_932 ?_
  refine ex_sld dL_law_933 (ai (j := 1) hk hN (by decide)) ?_
  refine ex_aload_n dL_law_934 rfl ?_
  refine ex_iload_n dL_law_935 rfl ?_
  refine ex_iconst (v := 2) dL_law_936 (by decide) ?_
  refine ex_iadd dL_law_937 ?_
  refine ex_sld dL_law_938 (ai (j := 2) hk hN (by decide)) ?_
  refine ex_cV (a := 200) (kd := 12) (N := 40) (T := TX12) (vs := [.int (xa G k 1), .int (xa G k 2)]) dL_law_939 rfl lk_L_94 rfl (by decide) (show K0 200 = (12, 40) from rfl) (show 200 < 223 by decide) ⟨⟨by decide, by decide⟩, by decide, by decide⟩ rfl (Nat.le_of_ble_eq_true rfl) rfl h2 ?_
  rintro r M1 ⟨rfl, I2, L2, t2, rfl, hI2⟩
  show Ex G mdL2 942 (lls k) [.int v, .int v] (mk I2 L2 t2) 223 5127 P
  exact ex_icmp_eq 1976 dL_law_942 (by decide) (fun _ => kont _ _ _ hI2) (fun z => absurd rfl z)
set_option maxHeartbeats 4000000 in
theorem lc_gauge {k : Nat} (hk : 7 * k + 7 ≤ gN G) (hN : gN G ≤ 3584) (hI : Inv I L t) (kont : ∀ I' L' t', Inv I' L' t' → Ex G mdL2 1976 (lls k) [] (mk I' L' t') 223 5127 P) : Ex G mdL2 947 (lls k) [] (mk I L t) 223 5127 P := by
  obtain ⟨v, I1, L1, t1, h1, h2⟩ := T_gauge (G := G) (a0 := (xa G k 1)) (a1 := (xa G k 2)) (a2 := (xa G k 3)) hI
  refine ex_aload_n dL_law_947 rfl ?_
  refine ex_aload_n dL_law_948 rfl ?_
  refine ex_iload_n dL_law_949 rfl ?_
  refine ex_iconst (v := 1) dL_law_950 (by decide) ?_
  refine ex_iadd dL_law_951 ?_
  refine ex_sld dL_law_952 (ai (j := 1) hk hN (by decide)) ?_
  refine ex_aload_n dL_law_953 rfl ?_
  refine ex_iload_n dL_law_954 rfl ?_
  refine ex_iconst (v := 2) dL_law_955 (by decide) ?_
  refine ex_iadd dL_law_956 ?_
  refine ex_sld dL_law_957 (ai (j := 2) hk hN (by decide)) ?_
  refine ex_aload_n dL_law_958 rfl ?_
  refine ex_iload_n dL_law_959 rfl ?_
  refine ex_iconst (v := 3) dL_law_960 (by decide) ?_
  refine ex_iadd dL_law_961 ?_
  refine ex_sld dL_law_962 (ai (j := 3) hk hN (by decide)) ?_
  refine ex_cV (a := 0) (kd := 11) (N := 20) (T := TX11) (vs := [.int (xa G k 1), .int (xa G k 2), .int (xa G k 3)]) dL_law_963 rfl lk_L_95 rfl (by decide) (show K0 0 = (11, 20) from rfl) (show 0 < 223 by decide) ⟨⟨by decide, by decide⟩, by decide, by decide⟩ rfl (Nat.le_of_ble_eq_true rfl) rfl h1 (Rs.k ?_)
  show Ex G mdL2 966 (lls k) [.int v] (mk I1 L1 t1) 223 5127 P
  refine ex_aload_n dL_law_966 rfl ?_
  refine ex_aload_n dL_law_967 rfl ?_
  refine ex_iload_n dL_law_968 rfl ?_
  refine ex_iconst (v := 1) dL_law_969 (by decide) ?_
  refine ex_iadd dL_law_970 ?_
  refine ex_sld dL_law_971 (ai (j := 1) hk hN (by decide)) ?_
  refine ex_aload_n dL_law_972 rfl ?_
  refine ex_iload_n dL_law_973 rfl ?_
  refine ex_iconst (v := 2) dL_law_974 (by decide) ?_
  refine ex_iadd dL_law_975 ?_
  refine ex_sld dL_law_976 (ai (j := 2) hk hN (by decide)) ?_
  refine ex_aload_n dL_law_977 rfl ?_
  refine ex_iload_n dL_law_978 rfl ?_
  refine ex_iconst (v := 3) dL_law_979 (by decide) ?_
  refine ex_iadd dL_law_980 ?_
  refine ex_sld dL_law_981 (ai (j := 3) hk hN (by decide)) ?_
  refine ex_cV (a := 200) (kd := 12) (N := 40) (T := TX12) (vs := [.int (xa G k 1), .int (xa G k 2), .int (xa G k 3)]) dL_law_982 rfl lk_L_98 rfl (by decide) (show K0 200 = (12, 40) from rfl) (show 200 < 223 by decide) ⟨⟨by decide, by decide⟩, by decide, by decide⟩ rfl (Nat.le_of_ble_eq_true rfl) rfl h2 ?_
  rintro r M1 ⟨rfl, I2, L2, t2, rfl, hI2⟩
  show Ex G mdL2 985 (lls k) [.int v, .int v] (mk I2 L2 t2) 223 5127 P
  exact ex_icmp_eq 1976 dL_law_985 (by decide) (fun _ => kont _ _ _ hI2) (fun z => absurd rfl z)
set_option maxHeartbeats 4000000 in
theorem lc_keep {k : Nat} (hk : 7 * k + 7 ≤ gN G) (hN : gN G ≤ 3584) (hI : Inv I L t) (kont : ∀ I' L' t', Inv I' L' t' → Ex G mdL2 1976 (lls k) [] (mk I' L' t') 223 5127 P) : Ex G mdL2 990 (lls k) [] (mk I L t) 223 5127 P := by
  obtain ⟨v, I1, L1, t1, h1, h2⟩ := T_keep (G := G) (a0 := (xa G k 1)) hI
  refine ex_aload_n dL_law_990 rfl ?_
  refine ex_aload_n dL_law_991 rfl ?_
  refine ex_iload_n dL_law_992 rfl ?_
  refine ex_iconst (v := 1) dL_law_993 (by decide) ?_
  refine ex_iadd dL_law_994 ?_
  refine ex_sld dL_law_995 (ai (j := 1) hk hN (by decide)) ?_
  refine ex_cV (a := 0) (kd := 11) (N := 20) (T := TX11) (vs := [.int (xa G k 1)]) dL_law_996 rfl lk_L_99 rfl (by decide) (show K0 0 = (11, 20) from rfl) (show 0 < 223 by decide) ⟨⟨by decide, by decide⟩, by decide, by decide⟩ rfl (Nat.le_of_ble_eq_true rfl) rfl h1 (Rs.k ?_)
  show Ex G mdL2 999 (lls k) [.int v] (mk I1 L1 t1) 223 5127 P
  refine ex_aload_n dL_law_999 rfl ?_
  refine ex_aload_n dL_law_1000 rfl ?_
  refine ex_iload_n dL_law_1001 rfl ?_
  refine ex_iconst (v := 1) dL_law_1002 (by decide) ?_
  refine ex_iadd dL_law_1003 ?_
  refine ex_sld dL_law_1004 (ai (j := 1) hk hN (by decide)) ?_
  refine ex_cV (a := 200) (kd := 12) (N := 40) (T := TX12) (vs := [.int (xa G k 1)]) dL_law_1005 rfl lk_L_102 rfl (by decide) (show K0 200 = (12, 40) from rfl) (show 200 < 223 by decide) ⟨⟨by decide, by decide⟩, by decide, by decide⟩ rfl (Nat.le_of_ble_eq_true rfl) rfl h2 ?_
  rintro r M1 ⟨rfl, I2, L2, t2, rfl, hI2⟩
  show Ex G mdL2 1008 (lls k) [.int v, .int v] (mk I2 L2 t2) 223 5127 P
  exact ex_icmp_eq 1976 dL_law_1008 (by decide) (fun _ => kont _ _ _ hI2) (fun z => absurd rfl z)
set_option maxHeartbeats 4000000 in
theorem lc_on {k : Nat} (hk : 7 * k + 7 ≤ gN G) (hN : gN G ≤ 3584) (hI : Inv I L t) (kont : ∀ I' L' t', Inv I' L' t' → Ex G mdL2 1976 (lls k) [] (mk I' L' t') 223 5127 P) : Ex G mdL2 1013 (lls k) [] (mk I L t) 223 5127 P := by
  obtain ⟨v, I1, L1, t1, h1, h2⟩ := T_on (G := G) (a0 := (xa G k 1)) hI
  refine ex_aload_n dL_law_1013 rfl ?_
  refine ex_aload_n dL_law_1014 rfl ?_
  refine ex_iload_n dL_law_1015 rfl ?_
  refine ex_iconst (v := 1) dL_law_1016 (by decide) ?_
  refine ex_iadd dL_law_1017 ?_
  refine ex_sld dL_law_1018 (ai (j := 1) hk hN (by decide)) ?_
  refine ex_cV (a := 0) (kd := 11) (N := 20) (T := TX11) (vs := [.int (xa G k 1)]) dL_law_1019 rfl lk_L_103 rfl (by decide) (show K0 0 = (11, 20) from rfl) (show 0 < 223 by decide) ⟨⟨by decide, by decide⟩, by decide, by decide⟩ rfl (Nat.le_of_ble_eq_true rfl) rfl h1 (Rs.k ?_)
  show Ex G mdL2 1022 (lls k) [.int v] (mk I1 L1 t1) 223 5127 P
  refine ex_aload_n dL_law_1022 rfl ?_
  refine ex_aload_n dL_law_1023 rfl ?_
  refine ex_iload_n dL_law_1024 rfl ?_
  refine ex_iconst (v := 1) dL_law_1025 (by decide) ?_
  refine ex_iadd dL_law_1026 ?_
  refine ex_sld dL_law_1027 (ai (j := 1) hk hN (by decide)) ?_
  refine ex_cV (a := 200) (kd := 12) (N := 40) (T := TX12) (vs := [.int (xa G k 1)]) dL_law_1028 rfl lk_L_106 rfl (by decide) (show K0 200 = (12, 40) from rfl) (show 200 < 223 by decide) ⟨⟨by decide, by decide⟩, by decide, by decide⟩ rfl (Nat.le_of_ble_eq_true rfl) rfl h2 ?_
  rintro r M1 ⟨rfl, I2, L2, t2, rfl, hI2⟩
  show Ex G mdL2 1031 (lls k) [.int v, .int v] (mk I2 L2 t2) 223 5127 P
  exact ex_icmp_eq 1976 dL_law_1031 (by decide) (fun _ => kont _ _ _ hI2) (fun z => absurd rfl z)
set_option maxHeartbeats 4000000 in
theorem lc_water {k : Nat} (hk : 7 * k + 7 ≤ gN G) (hN : gN G ≤ 3584) (hI : Inv I L t) (kont : ∀ I' L' t', Inv I' L' t' → Ex G mdL2 1976 (lls k) [] (mk I' L' t') 223 5127 P) : Ex G mdL2 1036 (lls k) [] (mk I L t) 223 5127 P := by
  obtain ⟨v, I1, L1, t1, h1, h2⟩ := T_water (G := G)  hI
  refine ex_aload_n dL_law_1036 rfl ?_
  refine ex_cV (a := 0) (kd := 11) (N := 20) (T := TX11) (vs := []) dL_law_1037 rfl lk_L_107 rfl (by decide) (show K0 0 = (11, 20) from rfl) (show 0 < 223 by decide) ⟨⟨by decide, by decide⟩, by decide, by decide⟩ rfl (Nat.le_of_ble_eq_true rfl) rfl h1 (Rs.k ?_)
  show Ex G mdL2 1040 (lls k) [.int v] (mk I1 L1 t1) 223 5127 P
  refine ex_aload_n dL_law_1040 rfl ?_
  refine ex_cV (a := 200) (kd := 12) (N := 40) (T := TX12) (vs := []) dL_law_1041 rfl lk_L_111 rfl (by decide) (show K0 200 = (12, 40) from rfl) (show 200 < 223 by decide) ⟨⟨by decide, by decide⟩, by decide, by decide⟩ rfl (Nat.le_of_ble_eq_true rfl) rfl h2 ?_
  rintro r M1 ⟨rfl, I2, L2, t2, rfl, hI2⟩
  show Ex G mdL2 1044 (lls k) [.int v, .int v] (mk I2 L2 t2) 223 5127 P
  exact ex_icmp_eq 1976 dL_law_1044 (by decide) (fun _ => kont _ _ _ hI2) (fun z => absurd rfl z)
set_option maxHeartbeats 4000000 in
theorem lc_beat {k : Nat} (hk : 7 * k + 7 ≤ gN G) (hN : gN G ≤ 3584) (hI : Inv I L t) (kont : ∀ I' L' t', Inv I' L' t' → Ex G mdL2 1976 (lls k) [] (mk I' L' t') 223 5127 P) : Ex G mdL2 1049 (lls k) [] (mk I L t) 223 5127 P := by
  obtain ⟨v, I1, L1, t1, h1, h2⟩ := T_beat (G := G) (a0 := (xa G k 1)) hI
  refine ex_aload_n dL_law_1049 rfl ?_
  refine ex_aload_n dL_law_1050 rfl ?_
  refine ex_iload_n dL_law_1051 rfl ?_
  refine ex_iconst (v := 1) dL_law_1052 (by decide) ?_
  refine ex_iadd dL_law_1053 ?_
  refine ex_sld dL_law_1054 (ai (j := 1) hk hN (by decide)) ?_
  refine ex_cV (a := 0) (kd := 11) (N := 20) (T := TX11) (vs := [.int (xa G k 1)]) dL_law_1055 rfl lk_L_112 rfl (by decide) (show K0 0 = (11, 20) from rfl) (show 0 < 223 by decide) ⟨⟨by decide, by decide⟩, by decide, by decide⟩ rfl (Nat.le_of_ble_eq_true rfl) rfl h1 (Rs.k ?_)
  show Ex G mdL2 1058 (lls k) [.int v] (mk I1 L1 t1) 223 5127 P
  refine ex_aload_n dL_law_1058 rfl ?_
  refine ex_aload_n dL_law_1059 rfl ?_
  refine ex_iload_n dL_law_1060 rfl ?_
  refine ex_iconst (v := 1) dL_law_1061 (by decide) ?_
  refine ex_iadd dL_law_1062 ?_
  refine ex_sld dL_law_1063 (ai (j := 1) hk hN (by decide)) ?_
  refine ex_cV (a := 200) (kd := 12) (N := 40) (T := TX12) (vs := [.int (xa G k 1)]) dL_law_1064 rfl lk_L_115 rfl (by decide) (show K0 200 = (12, 40) from rfl) (show 200 < 223 by decide) ⟨⟨by decide, by decide⟩, by decide, by decide⟩ rfl (Nat.le_of_ble_eq_true rfl) rfl h2 ?_
  rintro r M1 ⟨rfl, I2, L2, t2, rfl, hI2⟩
  show Ex G mdL2 1067 (lls k) [.int v, .int v] (mk I2 L2 t2) 223 5127 P
  exact ex_icmp_eq 1976 dL_law_1067 (by decide) (fun _ => kont _ _ _ hI2) (fun z => absurd rfl z)
set_option maxHeartbeats 4000000 in
theorem lc_span {k : Nat} (hk : 7 * k + 7 ≤ gN G) (hN : gN G ≤ 3584) (hI : Inv I L t) (kont : ∀ I' L' t', Inv I' L' t' → Ex G mdL2 1976 (lls k) [] (mk I' L' t') 223 5127 P) : Ex G mdL2 1072 (lls k) [] (mk I L t) 223 5127 P := by
  obtain ⟨v, I1, L1, t1, h1, h2⟩ := T_span (G := G) (a0 := (xa G k 1)) hI
  refine ex_aload_n dL_law_1072 rfl ?_
  refine ex_aload_n dL_law_1073 rfl ?_
  refine ex_iload_n dL_law_1074 rfl ?_
  refine ex_iconst (v := 1) dL_law_1075 (by decide) ?_
  refine ex_iadd dL_law_1076 ?_
  refine ex_sld dL_law_1077 (ai (j := 1) hk hN (by decide)) ?_
  refine ex_cV (a := 0) (kd := 11) (N := 20) (T := TX11) (vs := [.int (xa G k 1)]) dL_law_1078 rfl lk_L_116 rfl (by decide) (show K0 0 = (11, 20) from rfl) (show 0 < 223 by decide) ⟨⟨by decide, by decide⟩, by decide, by decide⟩ rfl (Nat.le_of_ble_eq_true rfl) rfl h1 (Rs.k ?_)
  show Ex G mdL2 1081 (lls k) [.int v] (mk I1 L1 t1) 223 5127 P
  refine ex_aload_n dL_law_1081 rfl ?_
  refine ex_aload_n dL_law_1082 rfl ?_
  refine ex_iload_n dL_law_1083 rfl ?_
  refine ex_iconst (v := 1) dL_law_1084 (by decide) ?_
  refine ex_iadd dL_law_1085 ?_
  refine ex_sld dL_law_1086 (ai (j := 1) hk hN (by decide)) ?_
  refine ex_cV (a := 200) (kd := 12) (N := 40) (T := TX12) (vs := [.int (xa G k 1)]) dL_law_1087 rfl lk_L_119 rfl (by decide) (show K0 200 = (12, 40) from rfl) (show 200 < 223 by decide) ⟨⟨by decide, by decide⟩, by decide, by decide⟩ rfl (Nat.le_of_ble_eq_true rfl) rfl h2 ?_
  rintro r M1 ⟨rfl, I2, L2, t2, rfl, hI2⟩
  show Ex G mdL2 1090 (lls k) [.int v, .int v] (mk I2 L2 t2) 223 5127 P
  exact ex_icmp_eq 1976 dL_law_1090 (by decide) (fun _ => kont _ _ _ hI2) (fun z => absurd rfl z)
set_option maxHeartbeats 4000000 in
theorem lc_ring {k : Nat} (hk : 7 * k + 7 ≤ gN G) (hN : gN G ≤ 3584) (hI : Inv I L t) (kont : ∀ I' L' t', Inv I' L' t' → Ex G mdL2 1976 (lls k) [] (mk I' L' t') 223 5127 P) : Ex G mdL2 1095 (lls k) [] (mk I L t) 223 5127 P := by
  obtain ⟨v, I1, L1, t1, h1, h2⟩ := T_ring (G := G) (a0 := (xa G k 1)) (a1 := (xa G k 2)) hI
  refine ex_aload_n dL_law_1095 rfl ?_
  refine ex_aload_n dL_law_1096 rfl ?_
  refine ex_iload_n dL_law_1097 rfl ?_
  refine ex_iconst (v := 1) dL_law_1098 (by decide) ?_
  refine ex_iadd dL_law_1099 ?_
  refine ex_sld dL_law_1100 (ai (j := 1) hk hN (by decide)) ?_
  refine ex_aload_n dL_law_1101 rfl ?_
  refine ex_iload_n dL_law_1102 rfl ?_
  refine ex_iconst (v := 2) dL_law_1103 (by decide) ?_
  refine ex_iadd dL_law_1104 ?_
  refine ex_sld dL_law_1105 (ai (j := 2) hk hN (by decide)) ?_
  refine ex_cV (a := 0) (kd := 11) (N := 20) (T := TX11) (vs := [.int (xa G k 1), .int (xa G k 2)]) dL_law_1106 rfl lk_L_120 rfl (by decide) (show K0 0 = (11, 20) from rfl) (show 0 < 223 by decide) ⟨⟨by decide, by decide⟩, by decide, by decide⟩ rfl (Nat.le_of_ble_eq_true rfl) rfl h1 (Rs.k ?_)
  show Ex G mdL2 1109 (lls k) [.int v] (mk I1 L1 t1) 223 5127 P
  refine ex_aload_n dL_law_1109 rfl ?_
  refine ex_aload_n dL_law_1110 rfl ?_
  refine ex_iload_n dL_law_1111 rfl ?_
  refine ex_iconst (v := 1) dL_law_1112 (by decide) ?_
  refine ex_iadd dL_law_1113 ?_
  refine ex_sld dL_law_1114 (ai (j := 1) hk hN (by decide)) ?_
  refine ex_aload_n dL_law_1115 rfl ?_
  refine ex_iload_n dL_law_1116 rfl ?_
  refine ex_iconst (v := 2) dL_law_1117 (by decide) ?_
  refine ex_iadd dL_law_1118 ?_
  refine ex_sld dL_law_1119 (ai (j := 2) hk hN (by decide)) ?_
  refine ex_cV (a := 200) (kd := 12) (N := 40) (T := TX12) (vs := [.int (xa G k 1), .int (xa G k 2)]) dL_law_1120 rfl lk_L_123 rfl (by decide) (show K0 200 = (12, 40) from rfl) (show 200 < 223 by decide) ⟨⟨by decide, by decide⟩, by decide, by decide⟩ rfl (Nat.le_of_ble_eq_true rfl) rfl h2 ?_
  rintro r M1 ⟨rfl, I2, L2, t2, rfl, hI2⟩
  show Ex G mdL2 1123 (lls k) [.int v, .int v] (mk I2 L2 t2) 223 5127 P
  exact ex_icmp_eq 1976 dL_law_1123 (by decide) (fun _ => kont _ _ _ hI2) (fun z => absurd rfl z)
set_option maxHeartbeats 4000000 in
theorem lc_roll {k : Nat} (hk : 7 * k + 7 ≤ gN G) (hN : gN G ≤ 3584) (hI : Inv I L t) (kont : ∀ I' L' t', Inv I' L' t' → Ex G mdL2 1976 (lls k) [] (mk I' L' t') 223 5127 P) : Ex G mdL2 1128 (lls k) [] (mk I L t) 223 5127 P := by
  obtain ⟨v, I1, L1, t1, h1, h2⟩ := T_roll (G := G) (a0 := (xa G k 1)) hI
  refine ex_aload_n dL_law_1128 rfl ?_
  refine ex_aload_n dL_law_1129 rfl ?_
  refine ex_iload_n dL_law_1130 rfl ?_
  refine ex_iconst (v := 1) dL_law_1131 (by decide) ?_
  refine ex_iadd dL_law_1132 ?_
  refine ex_sld dL_law_1133 (ai (j := 1) hk hN (by decide)) ?_
  refine ex_cV (a := 0) (kd := 11) (N := 20) (T := TX11) (vs := [.int (xa G k 1)]) dL_law_1134 rfl lk_L_124 rfl (by decide) (show K0 0 = (11, 20) from rfl) (show 0 < 223 by decide) ⟨⟨by decide, by decide⟩, by decide, by decide⟩ rfl (Nat.le_of_ble_eq_true rfl) rfl h1 (Rs.k ?_)
  show Ex G mdL2 1137 (lls k) [.int v] (mk I1 L1 t1) 223 5127 P
  refine ex_aload_n dL_law_1137 rfl ?_
  refine ex_aload_n dL_law_1138 rfl ?_
  refine ex_iload_n dL_law_1139 rfl ?_
  refine ex_iconst (v := 1) dL_law_1140 (by decide) ?_
  refine ex_iadd dL_law_1141 ?_
  refine ex_sld dL_law_1142 (ai (j := 1) hk hN (by decide)) ?_
  refine ex_cV (a := 200) (kd := 12) (N := 40) (T := TX12) (vs := [.int (xa G k 1)]) dL_law_1143 rfl lk_L_127 rfl (by decide) (show K0 200 = (12, 40) from rfl) (show 200 < 223 by decide) ⟨⟨by decide, by decide⟩, by decide, by decide⟩ rfl (Nat.le_of_ble_eq_true rfl) rfl h2 ?_
  rintro r M1 ⟨rfl, I2, L2, t2, rfl, hI2⟩
  show Ex G mdL2 1146 (lls k) [.int v, .int v] (mk I2 L2 t2) 223 5127 P
  exact ex_icmp_eq 1976 dL_law_1146 (by decide) (fun _ => kont _ _ _ hI2) (fun z => absurd rfl z)
set_option maxHeartbeats 4000000 in
theorem lc_kind {k : Nat} (hk : 7 * k + 7 ≤ gN G) (hN : gN G ≤ 3584) (hI : Inv I L t) (kont : ∀ I' L' t', Inv I' L' t' → Ex G mdL2 1976 (lls k) [] (mk I' L' t') 223 5127 P) : Ex G mdL2 1151 (lls k) [] (mk I L t) 223 5127 P := by
  obtain ⟨v, I1, L1, t1, h1, h2⟩ := T_kind (G := G) (a0 := (xa G k 1)) (a1 := (xa G k 2)) (a2 := (xa G k 3)) (a3 := (xa G k 4)) hI
  refine ex_aload_n dL_law_1151 rfl ?_
  refine ex_aload_n dL_law_1152 rfl ?_
  refine ex_iload_n dL_law_1153 rfl ?_
  refine ex_iconst (v := 1) dL_law_1154 (by decide) ?_
  refine ex_iadd dL_law_1155 ?_
  refine ex_sld dL_law_1156 (ai (j := 1) hk hN (by decide)) ?_
  refine ex_aload_n dL_law_1157 rfl ?_
  refine ex_iload_n dL_law_1158 rfl ?_
  refine ex_iconst (v := 2) dL_law_1159 (by decide) ?_
  refine ex_iadd dL_law_1160 ?_
  refine ex_sld dL_law_1161 (ai (j := 2) hk hN (by decide)) ?_
  refine ex_aload_n dL_law_1162 rfl ?_
  refine ex_iload_n dL_law_1163 rfl ?_
  refine ex_iconst (v := 3) dL_law_1164 (by decide) ?_
  refine ex_iadd dL_law_1165 ?_
  refine ex_sld dL_law_1166 (ai (j := 3) hk hN (by decide)) ?_
  refine ex_aload_n dL_law_1167 rfl ?_
  refine ex_iload_n dL_law_1168 rfl ?_
  refine ex_iconst (v := 4) dL_law_1169 (by decide) ?_
  refine ex_iadd dL_law_1170 ?_
  refine ex_sld dL_law_1171 (ai (j := 4) hk hN (by decide)) ?_
  refine ex_cV (a := 0) (kd := 11) (N := 20) (T := TX11) (vs := [.int (xa G k 1), .int (xa G k 2), .int (xa G k 3), .int (xa G k 4)]) dL_law_1172 rfl lk_L_128 rfl (by decide) (show K0 0 = (11, 20) from rfl) (show 0 < 223 by decide) ⟨⟨by decide, by decide⟩, by decide, by decide⟩ rfl (Nat.le_of_ble_eq_true rfl) rfl h1 (Rs.k ?_)
  show Ex G mdL2 1175 (lls k) [.int v] (mk I1 L1 t1) 223 5127 P
  refine ex_aload_n dL_law_1175 rfl ?_
  refine ex_aload_n dL_law_1176 rfl ?_
  refine ex_iload_n dL_law_1177 rfl ?_
  refine ex_iconst (v := 1) dL_law_1178 (by decide) ?_
  refine ex_iadd dL_law_1179 ?_
  refine ex_sld dL_law_1180 (ai (j := 1) hk hN (by decide)) ?_
  refine ex_aload_n dL_law_1181 rfl ?_
  refine ex_iload_n dL_law_1182 rfl ?_
  refine ex_iconst (v := 2) dL_law_1183 (by decide) ?_
  refine ex_iadd dL_law_1184 ?_
  refine ex_sld dL_law_1185 (ai (j := 2) hk hN (by decide)) ?_
  refine ex_aload_n dL_law_1186 rfl ?_
  refine ex_iload_n dL_law_1187 rfl ?_
  refine ex_iconst (v := 3) dL_law_1188 (by decide) ?_
  refine ex_iadd dL_law_1189 ?_
  refine ex_sld dL_law_1190 (ai (j := 3) hk hN (by decide)) ?_
  refine ex_aload_n dL_law_1191 rfl ?_
  refine ex_iload_n dL_law_1192 rfl ?_
  refine ex_iconst (v := 4) dL_law_1193 (by decide) ?_
  refine ex_iadd dL_law_1194 ?_
  refine ex_sld dL_law_1195 (ai (j := 4) hk hN (by decide)) ?_
  refine ex_cV (a := 200) (kd := 12) (N := 40) (T := TX12) (vs := [.int (xa G k 1), .int (xa G k 2), .int (xa G k 3), .int (xa G k 4)]) dL_law_1196 rfl lk_L_132 rfl (by decide) (show K0 200 = (12, 40) from rfl) (show 200 < 223 by decide) ⟨⟨by decide, by decide⟩, by decide, by decide⟩ rfl (Nat.le_of_ble_eq_true rfl) rfl h2 ?_
  rintro r M1 ⟨rfl, I2, L2, t2, rfl, hI2⟩
  show Ex G mdL2 1199 (lls k) [.int v, .int v] (mk I2 L2 t2) 223 5127 P
  exact ex_icmp_eq 1976 dL_law_1199 (by decide) (fun _ => kont _ _ _ hI2) (fun z => absurd rfl z)
set_option maxHeartbeats 4000000 in
theorem lc_mark {k : Nat} (hk : 7 * k + 7 ≤ gN G) (hN : gN G ≤ 3584) (hI : Inv I L t) (kont : ∀ I' L' t', Inv I' L' t' → Ex G mdL2 1976 (lls k) [] (mk I' L' t') 223 5127 P) : Ex G mdL2 1204 (lls k) [] (mk I L t) 223 5127 P := by
  obtain ⟨v, I1, L1, t1, h1, h2⟩ := T_mark (G := G) (a0 := (xa G k 1)) (a1 := (xa G k 2)) (a2 := (xa G k 3)) (a3 := (xa G k 4)) (a4 := (xa G k 5)) hI
  refine ex_aload_n dL_law_1204 rfl ?_
  refine ex_aload_n dL_law_1205 rfl ?_
  refine ex_iload_n dL_law_1206 rfl ?_
  refine ex_iconst (v := 1) dL_law_1207 (by decide) ?_
  refine ex_iadd dL_law_1208 ?_
  refine ex_sld dL_law_1209 (ai (j := 1) hk hN (by decide)) ?_
  refine ex_aload_n dL_law_1210 rfl ?_
  refine ex_iload_n dL_law_1211 rfl ?_
  refine ex_iconst (v := 2) dL_law_1212 (by decide) ?_
  refine ex_iadd dL_law_1213 ?_
  refine ex_sld dL_law_1214 (ai (j := 2) hk hN (by decide)) ?_
  refine ex_aload_n dL_law_1215 rfl ?_
  refine ex_iload_n dL_law_1216 rfl ?_
  refine ex_iconst (v := 3) dL_law_1217 (by decide) ?_
  refine ex_iadd dL_law_1218 ?_
  refine ex_sld dL_law_1219 (ai (j := 3) hk hN (by decide)) ?_
  refine ex_aload_n dL_law_1220 rfl ?_
  refine ex_iload_n dL_law_1221 rfl ?_
  refine ex_iconst (v := 4) dL_law_1222 (by decide) ?_
  refine ex_iadd dL_law_1223 ?_
  refine ex_sld dL_law_1224 (ai (j := 4) hk hN (by decide)) ?_
  refine ex_aload_n dL_law_1225 rfl ?_
  refine ex_iload_n dL_law_1226 rfl ?_
  refine ex_iconst (v := 5) dL_law_1227 (by decide) ?_
  refine ex_iadd dL_law_1228 ?_
  refine ex_sld dL_law_1229 (ai (j := 5) hk hN (by decide)) ?_
  refine ex_cV (a := 0) (kd := 11) (N := 20) (T := TX11) (vs := [.int (xa G k 1), .int (xa G k 2), .int (xa G k 3), .int (xa G k 4), .int (xa G k 5)]) dL_law_1230 rfl lk_L_133 rfl (by decide) (show K0 0 = (11, 20) from rfl) (show 0 < 223 by decide) ⟨⟨by decide, by decide⟩, by decide, by decide⟩ rfl (Nat.le_of_ble_eq_true rfl) rfl h1 (Rs.k ?_)
  show Ex G mdL2 1233 (lls k) [.int v] (mk I1 L1 t1) 223 5127 P
  refine ex_aload_n dL_law_1233 rfl ?_
  refine ex_aload_n dL_law_1234 rfl ?_
  refine ex_iload_n dL_law_1235 rfl ?_
  refine ex_iconst (v := 1) dL_law_1236 (by decide) ?_
  refine ex_iadd dL_law_1237 ?_
  refine ex_sld dL_law_1238 (ai (j := 1) hk hN (by decide)) ?_
  refine ex_aload_n dL_law_1239 rfl ?_
  refine ex_iload_n dL_law_1240 rfl ?_
  refine ex_iconst (v := 2) dL_law_1241 (by decide) ?_
  refine ex_iadd dL_law_1242 ?_
  refine ex_sld dL_law_1243 (ai (j := 2) hk hN (by decide)) ?_
  refine ex_aload_n dL_law_1244 rfl ?_
  refine ex_iload_n dL_law_1245 rfl ?_
  refine ex_iconst (v := 3) dL_law_1246 (by decide) ?_
  refine ex_iadd dL_law_1247 ?_
  refine ex_sld dL_law_1248 (ai (j := 3) hk hN (by decide)) ?_
  refine ex_aload_n dL_law_1249 rfl ?_
  refine ex_iload_n dL_law_1250 rfl ?_
  refine ex_iconst (v := 4) dL_law_1251 (by decide) ?_
  refine ex_iadd dL_law_1252 ?_
  refine ex_sld dL_law_1253 (ai (j := 4) hk hN (by decide)) ?_
  refine ex_aload_n dL_law_1254 rfl ?_
  refine ex_iload_n dL_law_1255 rfl ?_
  refine ex_iconst (v := 5) dL_law_1256 (by decide) ?_
  refine ex_iadd dL_law_1257 ?_
  refine ex_sld dL_law_1258 (ai (j := 5) hk hN (by decide)) ?_
  refine ex_cV (a := 200) (kd := 12) (N := 40) (T := TX12) (vs := [.int (xa G k 1), .int (xa G k 2), .int (xa G k 3), .int (xa G k 4), .int (xa G k 5)]) dL_law_1259 rfl lk_L_136 rfl (by decide) (show K0 200 = (12, 40) from rfl) (show 200 < 223 by decide) ⟨⟨by decide, by decide⟩, by decide, by decide⟩ rfl (Nat.le_of_ble_eq_true rfl) rfl h2 ?_
  rintro r M1 ⟨rfl, I2, L2, t2, rfl, hI2⟩
  show Ex G mdL2 1262 (lls k) [.int v, .int v] (mk I2 L2 t2) 223 5127 P
  exact ex_icmp_eq 1976 dL_law_1262 (by decide) (fun _ => kont _ _ _ hI2) (fun z => absurd rfl z)
set_option maxHeartbeats 4000000 in
theorem lc_quiet {k : Nat} (hk : 7 * k + 7 ≤ gN G) (hN : gN G ≤ 3584) (hI : Inv I L t) (kont : ∀ I' L' t', Inv I' L' t' → Ex G mdL2 1976 (lls k) [] (mk I' L' t') 223 5127 P) : Ex G mdL2 1267 (lls k) [] (mk I L t) 223 5127 P := by
  obtain ⟨v, I1, L1, t1, h1, h2⟩ := T_quiet (G := G) (a0 := (xa G k 1)) (a1 := (xa G k 2)) hI
  refine ex_aload_n dL_law_1267 rfl ?_
  refine ex_aload_n dL_law_1268 rfl ?_
  refine ex_iload_n dL_law_1269 rfl ?_
  refine ex_iconst (v := 1) dL_law_1270 (by decide) ?_
  refine ex_iadd dL_law_1271 ?_
  refine ex_sld dL_law_1272 (ai (j := 1) hk hN (by decide)) ?_
  refine ex_aload_n dL_law_1273 rfl ?_
  refine ex_iload_n dL_law_1274 rfl ?_
  refine ex_iconst (v := 2) dL_law_1275 (by decide) ?_
  refine ex_iadd dL_law_1276 ?_
  refine ex_sld dL_law_1277 (ai (j := 2) hk hN (by decide)) ?_
  refine ex_cV (a := 0) (kd := 11) (N := 20) (T := TX11) (vs := [.int (xa G k 1), .int (xa G k 2)]) dL_law_1278 rfl lk_L_137 rfl (by decide) (show K0 0 = (11, 20) from rfl) (show 0 < 223 by decide) ⟨⟨by decide, by decide⟩, by decide, by decide⟩ rfl (Nat.le_of_ble_eq_true rfl) rfl h1 (Rs.k ?_)
  show Ex G mdL2 1281 (lls k) [.int v] (mk I1 L1 t1) 223 5127 P
  refine ex_aload_n dL_law_1281 rfl ?_
  refine ex_aload_n dL_law_1282 rfl ?_
  refine ex_iload_n dL_law_1283 rfl ?_
  refine ex_iconst (v := 1) dL_law_1284 (by decide) ?_
  refine ex_iadd dL_law_1285 ?_
  refine ex_sld dL_law_1286 (ai (j := 1) hk hN (by decide)) ?_
  refine ex_aload_n dL_law_1287 rfl ?_
  refine ex_iload_n dL_law_1288 rfl ?_
  refine ex_iconst (v := 2) dL_law_1289 (by decide) ?_
  refine ex_iadd dL_law_1290 ?_
  refine ex_sld dL_law_1291 (ai (j := 2) hk hN (by decide)) ?_
  refine ex_cV (a := 200) (kd := 12) (N := 40) (T := TX12) (vs := [.int (xa G k 1), .int (xa G k 2)]) dL_law_1292 rfl lk_L_140 rfl (by decide) (show K0 200 = (12, 40) from rfl) (show 200 < 223 by decide) ⟨⟨by decide, by decide⟩, by decide, by decide⟩ rfl (Nat.le_of_ble_eq_true rfl) rfl h2 ?_
  rintro r M1 ⟨rfl, I2, L2, t2, rfl, hI2⟩
  show Ex G mdL2 1295 (lls k) [.int v, .int v] (mk I2 L2 t2) 223 5127 P
  exact ex_icmp_eq 1976 dL_law_1295 (by decide) (fun _ => kont _ _ _ hI2) (fun z => absurd rfl z)
set_option maxHeartbeats 4000000 in
theorem lc_still {k : Nat} (hk : 7 * k + 7 ≤ gN G) (hN : gN G ≤ 3584) (hI : Inv I L t) (kont : ∀ I' L' t', Inv I' L' t' → Ex G mdL2 1976 (lls k) [] (mk I' L' t') 223 5127 P) : Ex G mdL2 1300 (lls k) [] (mk I L t) 223 5127 P := by
  obtain ⟨v, I1, L1, t1, h1, h2⟩ := T_still (G := G) (a0 := (xa G k 1)) (a1 := (xa G k 2)) hI
  refine ex_aload_n dL_law_1300 rfl ?_
  refine ex_aload_n dL_law_1301 rfl ?_
  refine ex_iload_n dL_law_1302 rfl ?_
  refine ex_iconst (v := 1) dL_law_1303 (by decide) ?_
  refine ex_iadd dL_law_1304 ?_
  refine ex_sld dL_law_1305 (ai (j := 1) hk hN (by decide)) ?_
  refine ex_aload_n dL_law_1306 rfl ?_
  refine ex_iload_n dL_law_1307 rfl ?_
  refine ex_iconst (v := 2) dL_law_1308 (by decide) ?_
  refine ex_iadd dL_law_1309 ?_
  refine ex_sld dL_law_1310 (ai (j := 2) hk hN (by decide)) ?_
  refine ex_cV (a := 0) (kd := 11) (N := 20) (T := TX11) (vs := [.int (xa G k 1), .int (xa G k 2)]) dL_law_1311 rfl lk_L_141 rfl (by decide) (show K0 0 = (11, 20) from rfl) (show 0 < 223 by decide) ⟨⟨by decide, by decide⟩, by decide, by decide⟩ rfl (Nat.le_of_ble_eq_true rfl) rfl h1 (Rs.k ?_)
  show Ex G mdL2 1314 (lls k) [.int v] (mk I1 L1 t1) 223 5127 P
  refine ex_aload_n dL_law_1314 rfl ?_
  refine ex_aload_n dL_law_1315 rfl ?_
  refine ex_iload_n dL_law_1316 rfl ?_
  refine ex_iconst (v := 1) dL_law_1317 (by decide) ?_
  refine ex_iadd dL_law_1318 ?_
  refine ex_sld dL_law_1319 (ai (j := 1) hk hN (by decide)) ?_
  refine ex_aload_n dL_law_1320 rfl ?_
  refine ex_iload_n dL_law_1321 rfl ?_
  refine ex_iconst (v := 2) dL_law_1322 (by decide) ?_
  refine ex_iadd dL_law_1323 ?_
  refine ex_sld dL_law_1324 (ai (j := 2) hk hN (by decide)) ?_
  refine ex_cV (a := 200) (kd := 12) (N := 40) (T := TX12) (vs := [.int (xa G k 1), .int (xa G k 2)]) dL_law_1325 rfl lk_L_144 rfl (by decide) (show K0 200 = (12, 40) from rfl) (show 200 < 223 by decide) ⟨⟨by decide, by decide⟩, by decide, by decide⟩ rfl (Nat.le_of_ble_eq_true rfl) rfl h2 ?_
  rintro r M1 ⟨rfl, I2, L2, t2, rfl, hI2⟩
  show Ex G mdL2 1328 (lls k) [.int v, .int v] (mk I2 L2 t2) 223 5127 P
  exact ex_icmp_eq 1976 dL_law_1328 (by decide) (fun _ => kont _ _ _ hI2) (fun z => absurd rfl z)
set_option maxHeartbeats 4000000 in
theorem lc_wakes {k : Nat} (hk : 7 * k + 7 ≤ gN G) (hN : gN G ≤ 3584) (hI : Inv I L t) (kont : ∀ I' L' t', Inv I' L' t' → Ex G mdL2 1976 (lls k) [] (mk I' L' t') 223 5127 P) : Ex G mdL2 1333 (lls k) [] (mk I L t) 223 5127 P := by
  obtain ⟨v, I1, L1, t1, h1, h2⟩ := T_wakes (G := G) (a0 := (xa G k 1)) hI
  refine ex_aload_n dL_law_1333 rfl ?_
  refine ex_aload_n dL_law_1334 rfl ?_
  refine ex_iload_n dL_law_1335 rfl ?_
  refine ex_iconst (v := 1) dL_law_1336 (by decide) ?_
  refine ex_iadd dL_law_1337 ?_
  refine ex_sld dL_law_1338 (ai (j := 1) hk hN (by decide)) ?_
  refine ex_cV (a := 0) (kd := 11) (N := 20) (T := TX11) (vs := [.int (xa G k 1)]) dL_law_1339 rfl lk_L_145 rfl (by decide) (show K0 0 = (11, 20) from rfl) (show 0 < 223 by decide) ⟨⟨by decide, by decide⟩, by decide, by decide⟩ rfl (Nat.le_of_ble_eq_true rfl) rfl h1 (Rs.k ?_)
  show Ex G mdL2 1342 (lls k) [.int v] (mk I1 L1 t1) 223 5127 P
  refine ex_aload_n dL_law_1342 rfl ?_
  refine ex_aload_n dL_law_1343 rfl ?_
  refine ex_iload_n dL_law_1344 rfl ?_
  refine ex_iconst (v := 1) dL_law_1345 (by decide) ?_
  refine ex_iadd dL_law_1346 ?_
  refine ex_sld dL_law_1347 (ai (j := 1) hk hN (by decide)) ?_
  refine ex_cV (a := 200) (kd := 12) (N := 40) (T := TX12) (vs := [.int (xa G k 1)]) dL_law_1348 rfl lk_L_148 rfl (by decide) (show K0 200 = (12, 40) from rfl) (show 200 < 223 by decide) ⟨⟨by decide, by decide⟩, by decide, by decide⟩ rfl (Nat.le_of_ble_eq_true rfl) rfl h2 ?_
  rintro r M1 ⟨rfl, I2, L2, t2, rfl, hI2⟩
  show Ex G mdL2 1351 (lls k) [.int v, .int v] (mk I2 L2 t2) 223 5127 P
  exact ex_icmp_eq 1976 dL_law_1351 (by decide) (fun _ => kont _ _ _ hI2) (fun z => absurd rfl z)
set_option maxHeartbeats 4000000 in
theorem lc_pull {k : Nat} (hk : 7 * k + 7 ≤ gN G) (hN : gN G ≤ 3584) (hI : Inv I L t) (kont : ∀ I' L' t', Inv I' L' t' → Ex G mdL2 1976 (lls k) [] (mk I' L' t') 223 5127 P) : Ex G mdL2 1356 (lls k) [] (mk I L t) 223 5127 P := by
  obtain ⟨v, I1, L1, t1, h1, h2⟩ := T_pull (G := G) (a0 := (xa G k 1)) (a1 := (xa G k 2)) (a2 := (xa G k 3)) hI
  refine ex_aload_n dL_law_1356 rfl ?_
  refine ex_aload_n dL_law_1357 rfl ?_
  refine ex_iload_n dL_law_1358 rfl ?_
  refine ex_iconst (v := 1) dL_law_1359 (by decide) ?_
  refine ex_iadd dL_law_1360 ?_
  refine ex_sld dL_law_1361 (ai (j := 1) hk hN (by decide)) ?_
  refine ex_aload_n dL_law_1362 rfl ?_
  refine ex_iload_n dL_law_1363 rfl ?_
  refine ex_iconst (v := 2) dL_law_1364 (by decide) ?_
  refine ex_iadd dL_law_1365 ?_
  refine ex_sld dL_law_1366 (ai (j := 2) hk hN (by decide)) ?_
  refine ex_aload_n dL_law_1367 rfl ?_
  refine ex_iload_n dL_law_1368 rfl ?_
  refine ex_iconst (v := 3) dL_law_1369 (by decide) ?_
  refine ex_iadd dL_law_1370 ?_
  refine ex_sld dL_law_1371 (ai (j := 3) hk hN (by decide)) ?_
  refine ex_cV (a := 0) (kd := 11) (N := 20) (T := TX11) (vs := [.int (xa G k 1), .int (xa G k 2), .int (xa G k 3)]) dL_law_1372 rfl lk_L_149 rfl (by decide) (show K0 0 = (11, 20) from rfl) (show 0 < 223 by decide) ⟨⟨by decide, by decide⟩, by decide, by decide⟩ rfl (Nat.le_of_ble_eq_true rfl) rfl h1 (Rs.k ?_)
  show Ex G mdL2 1375 (lls k) [.int v] (mk I1 L1 t1) 223 5127 P
  refine ex_aload_n dL_law_1375 rfl ?_
  refine ex_aload_n dL_law_1376 rfl ?_
  refine ex_iload_n dL_law_1377 rfl ?_
  refine ex_iconst (v := 1) dL_law_1378 (by decide) ?_
  refine ex_iadd dL_law_1379 ?_
  refine ex_sld dL_law_1380 (ai (j := 1) hk hN (by decide)) ?_
  refine ex_aload_n dL_law_1381 rfl ?_
  refine ex_iload_n dL_law_1382 rfl ?_
  refine ex_iconst (v := 2) dL_law_1383 (by decide) ?_
  refine ex_iadd dL_law_1384 ?_
  refine ex_sld dL_law_1385 (ai (j := 2) hk hN (by decide)) ?_
  refine ex_aload_n dL_law_1386 rfl ?_
  refine ex_iload_n dL_law_1387 rfl ?_
  refine ex_iconst (v := 3) dL_law_1388 (by decide) ?_
  refine ex_iadd dL_law_1389 ?_
  refine ex_sld dL_law_1390 (ai (j := 3) hk hN (by decide)) ?_
  refine ex_cV (a := 200) (kd := 12) (N := 40) (T := TX12) (vs := [.int (xa G k 1), .int (xa G k 2), .int (xa G k 3)]) dL_law_1391 rfl lk_L_152 rfl (by decide) (show K0 200 = (12, 40) from rfl) (show 200 < 223 by decide) ⟨⟨by decide, by decide⟩, by decide, by decide⟩ rfl (Nat.le_of_ble_eq_true rfl) rfl h2 ?_
  rintro r M1 ⟨rfl, I2, L2, t2, rfl, hI2⟩
  show Ex G mdL2 1394 (lls k) [.int v, .int v] (mk I2 L2 t2) 223 5127 P
  exact ex_icmp_eq 1976 dL_law_1394 (by decide) (fun _ => kont _ _ _ hI2) (fun z => absurd rfl z)
set_option maxHeartbeats 4000000 in
theorem lc_tight {k : Nat} (hk : 7 * k + 7 ≤ gN G) (hN : gN G ≤ 3584) (hI : Inv I L t) (kont : ∀ I' L' t', Inv I' L' t' → Ex G mdL2 1976 (lls k) [] (mk I' L' t') 223 5127 P) : Ex G mdL2 1399 (lls k) [] (mk I L t) 223 5127 P := by
  obtain ⟨v, I1, L1, t1, h1, h2⟩ := T_tight (G := G) (a0 := (xa G k 1)) (a1 := (xa G k 2)) (a2 := (xa G k 3)) hI
  refine ex_aload_n dL_law_1399 rfl ?_
  refine ex_aload_n dL_law_1400 rfl ?_
  refine ex_iload_n dL_law_1401 rfl ?_
  refine ex_iconst (v := 1) dL_law_1402 (by decide) ?_
  refine ex_iadd dL_law_1403 ?_
  refine ex_sld dL_law_1404 (ai (j := 1) hk hN (by decide)) ?_
  refine ex_aload_n dL_law_1405 rfl ?_
  refine ex_iload_n dL_law_1406 rfl ?_
  refine ex_iconst (v := 2) dL_law_1407 (by decide) ?_
  refine ex_iadd dL_law_1408 ?_
  refine ex_sld dL_law_1409 (ai (j := 2) hk hN (by decide)) ?_
  refine ex_aload_n dL_law_1410 rfl ?_
  refine ex_iload_n dL_law_1411 rfl ?_
  refine ex_iconst (v := 3) dL_law_1412 (by decide) ?_
  refine ex_iadd dL_law_1413 ?_
  refine ex_sld dL_law_1414 (ai (j := 3) hk hN (by decide)) ?_
  refine ex_cV (a := 0) (kd := 11) (N := 20) (T := TX11) (vs := [.int (xa G k 1), .int (xa G k 2), .int (xa G k 3)]) dL_law_1415 rfl lk_L_153 rfl (by decide) (show K0 0 = (11, 20) from rfl) (show 0 < 223 by decide) ⟨⟨by decide, by decide⟩, by decide, by decide⟩ rfl (Nat.le_of_ble_eq_true rfl) rfl h1 (Rs.k ?_)
  show Ex G mdL2 1418 (lls k) [.int v] (mk I1 L1 t1) 223 5127 P
  refine ex_aload_n dL_law_1418 rfl ?_
  refine ex_aload_n dL_law_1419 rfl ?_
  refine ex_iload_n dL_law_1420 rfl ?_
  refine ex_iconst (v := 1) dL_law_1421 (by decide) ?_
  refine ex_iadd dL_law_1422 ?_
  refine ex_sld dL_law_1423 (ai (j := 1) hk hN (by decide)) ?_
  refine ex_aload_n dL_law_1424 rfl ?_
  refine ex_iload_n dL_law_1425 rfl ?_
  refine ex_iconst (v := 2) dL_law_1426 (by decide) ?_
  refine ex_iadd dL_law_1427 ?_
  refine ex_sld dL_law_1428 (ai (j := 2) hk hN (by decide)) ?_
  refine ex_aload_n dL_law_1429 rfl ?_
  refine ex_iload_n dL_law_1430 rfl ?_
  refine ex_iconst (v := 3) dL_law_1431 (by decide) ?_
  refine ex_iadd dL_law_1432 ?_
  refine ex_sld dL_law_1433 (ai (j := 3) hk hN (by decide)) ?_
  refine ex_cV (a := 200) (kd := 12) (N := 40) (T := TX12) (vs := [.int (xa G k 1), .int (xa G k 2), .int (xa G k 3)]) dL_law_1434 rfl lk_L_156 rfl (by decide) (show K0 200 = (12, 40) from rfl) (show 200 < 223 by decide) ⟨⟨by decide, by decide⟩, by decide, by decide⟩ rfl (Nat.le_of_ble_eq_true rfl) rfl h2 ?_
  rintro r M1 ⟨rfl, I2, L2, t2, rfl, hI2⟩
  show Ex G mdL2 1437 (lls k) [.int v, .int v] (mk I2 L2 t2) 223 5127 P
  exact ex_icmp_eq 1976 dL_law_1437 (by decide) (fun _ => kont _ _ _ hI2) (fun z => absurd rfl z)
set_option maxHeartbeats 4000000 in
theorem lc_where {k : Nat} (hk : 7 * k + 7 ≤ gN G) (hN : gN G ≤ 3584) (hI : Inv I L t) (kont : ∀ I' L' t', Inv I' L' t' → Ex G mdL2 1976 (lls k) [] (mk I' L' t') 223 5127 P) : Ex G mdL2 1442 (lls k) [] (mk I L t) 223 5127 P := by
  obtain ⟨v, I1, L1, t1, h1, h2⟩ := T_where (G := G) (a0 := (xa G k 1)) (a1 := (xa G k 2)) (a2 := (xa G k 3)) hI
  refine ex_aload_n dL_law_1442 rfl ?_
  refine ex_aload_n dL_law_1443 rfl ?_
  refine ex_iload_n dL_law_1444 rfl ?_
  refine ex_iconst (v := 1) dL_law_1445 (by decide) ?_
  refine ex_iadd dL_law_1446 ?_
  refine ex_sld dL_law_1447 (ai (j := 1) hk hN (by decide)) ?_
  refine ex_aload_n dL_law_1448 rfl ?_
  refine ex_iload_n dL_law_1449 rfl ?_
  refine ex_iconst (v := 2) dL_law_1450 (by decide) ?_
  refine ex_iadd dL_law_1451 ?_
  refine ex_sld dL_law_1452 (ai (j := 2) hk hN (by decide)) ?_
  refine ex_aload_n dL_law_1453 rfl ?_
  refine ex_iload_n dL_law_1454 rfl ?_
  refine ex_iconst (v := 3) dL_law_1455 (by decide) ?_
  refine ex_iadd dL_law_1456 ?_
  refine ex_sld dL_law_1457 (ai (j := 3) hk hN (by decide)) ?_
  refine ex_cV (a := 0) (kd := 11) (N := 20) (T := TX11) (vs := [.int (xa G k 1), .int (xa G k 2), .int (xa G k 3)]) dL_law_1458 rfl lk_L_157 rfl (by decide) (show K0 0 = (11, 20) from rfl) (show 0 < 223 by decide) ⟨⟨by decide, by decide⟩, by decide, by decide⟩ rfl (Nat.le_of_ble_eq_true rfl) rfl h1 (Rs.k ?_)
  show Ex G mdL2 1461 (lls k) [.int v] (mk I1 L1 t1) 223 5127 P
  refine ex_aload_n dL_law_1461 rfl ?_
  refine ex_aload_n dL_law_1462 rfl ?_
  refine ex_iload_n dL_law_1463 rfl ?_
  refine ex_iconst (v := 1) dL_law_1464 (by decide) ?_
  refine ex_iadd dL_law_1465 ?_
  refine ex_sld dL_law_1466 (ai (j := 1) hk hN (by decide)) ?_
  refine ex_aload_n dL_law_1467 rfl ?_
  refine ex_iload_n dL_law_1468 rfl ?_
  refine ex_iconst (v := 2) dL_law_1469 (by decide) ?_
  refine ex_iadd dL_law_1470 ?_
  refine ex_sld dL_law_1471 (ai (j := 2) hk hN (by decide)) ?_
  refine ex_aload_n dL_law_1472 rfl ?_
  refine ex_iload_n dL_law_1473 rfl ?_
  refine ex_iconst (v := 3) dL_law_1474 (by decide) ?_
  refine ex_iadd dL_law_1475 ?_
  refine ex_sld dL_law_1476 (ai (j := 3) hk hN (by decide)) ?_
  refine ex_cV (a := 200) (kd := 12) (N := 40) (T := TX12) (vs := [.int (xa G k 1), .int (xa G k 2), .int (xa G k 3)]) dL_law_1477 rfl lk_L_160 rfl (by decide) (show K0 200 = (12, 40) from rfl) (show 200 < 223 by decide) ⟨⟨by decide, by decide⟩, by decide, by decide⟩ rfl (Nat.le_of_ble_eq_true rfl) rfl h2 ?_
  rintro r M1 ⟨rfl, I2, L2, t2, rfl, hI2⟩
  show Ex G mdL2 1480 (lls k) [.int v, .int v] (mk I2 L2 t2) 223 5127 P
  exact ex_icmp_eq 1976 dL_law_1480 (by decide) (fun _ => kont _ _ _ hI2) (fun z => absurd rfl z)
set_option maxHeartbeats 4000000 in
theorem lc_tonight {k : Nat} (hk : 7 * k + 7 ≤ gN G) (hN : gN G ≤ 3584) (hI : Inv I L t) (kont : ∀ I' L' t', Inv I' L' t' → Ex G mdL2 1976 (lls k) [] (mk I' L' t') 223 5127 P) : Ex G mdL2 1485 (lls k) [] (mk I L t) 223 5127 P := by
  obtain ⟨v, I1, L1, t1, h1, h2⟩ := T_tonight (G := G) (a0 := (xa G k 1)) (a1 := (xa G k 2)) (a2 := (xa G k 3)) hI
  refine ex_aload_n dL_law_1485 rfl ?_
  refine ex_aload_n dL_law_1486 rfl ?_
  refine ex_iload_n dL_law_1487 rfl ?_
  refine ex_iconst (v := 1) dL_law_1488 (by decide) ?_
  refine ex_iadd dL_law_1489 ?_
  refine ex_sld dL_law_1490 (ai (j := 1) hk hN (by decide)) ?_
  refine ex_aload_n dL_law_1491 rfl ?_
  refine ex_iload_n dL_law_1492 rfl ?_
  refine ex_iconst (v := 2) dL_law_1493 (by decide) ?_
  refine ex_iadd dL_law_1494 ?_
  refine ex_sld dL_law_1495 (ai (j := 2) hk hN (by decide)) ?_
  refine ex_aload_n dL_law_1496 rfl ?_
  refine ex_iload_n dL_law_1497 rfl ?_
  refine ex_iconst (v := 3) dL_law_1498 (by decide) ?_
  refine ex_iadd dL_law_1499 ?_
  refine ex_sld dL_law_1500 (ai (j := 3) hk hN (by decide)) ?_
  refine ex_cV (a := 0) (kd := 11) (N := 20) (T := TX11) (vs := [.int (xa G k 1), .int (xa G k 2), .int (xa G k 3)]) dL_law_1501 rfl lk_L_161 rfl (by decide) (show K0 0 = (11, 20) from rfl) (show 0 < 223 by decide) ⟨⟨by decide, by decide⟩, by decide, by decide⟩ rfl (Nat.le_of_ble_eq_true rfl) rfl h1 (Rs.k ?_)
  show Ex G mdL2 1504 (lls k) [.int v] (mk I1 L1 t1) 223 5127 P
  refine ex_aload_n dL_law_1504 rfl ?_
  refine ex_aload_n dL_law_1505 rfl ?_
  refine ex_iload_n dL_law_1506 rfl ?_
  refine ex_iconst (v := 1) dL_law_1507 (by decide) ?_
  refine ex_iadd dL_law_1508 ?_
  refine ex_sld dL_law_1509 (ai (j := 1) hk hN (by decide)) ?_
  refine ex_aload_n dL_law_1510 rfl ?_
  refine ex_iload_n dL_law_1511 rfl ?_
  refine ex_iconst (v := 2) dL_law_1512 (by decide) ?_
  refine ex_iadd dL_law_1513 ?_
  refine ex_sld dL_law_1514 (ai (j := 2) hk hN (by decide)) ?_
  refine ex_aload_n dL_law_1515 rfl ?_
  refine ex_iload_n dL_law_1516 rfl ?_
  refine ex_iconst (v := 3) dL_law_1517 (by decide) ?_
  refine ex_iadd dL_law_1518 ?_
  refine ex_sld dL_law_1519 (ai (j := 3) hk hN (by decide)) ?_
  refine ex_cV (a := 200) (kd := 12) (N := 40) (T := TX12) (vs := [.int (xa G k 1), .int (xa G k 2), .int (xa G k 3)]) dL_law_1520 rfl lk_L_164 rfl (by decide) (show K0 200 = (12, 40) from rfl) (show 200 < 223 by decide) ⟨⟨by decide, by decide⟩, by decide, by decide⟩ rfl (Nat.le_of_ble_eq_true rfl) rfl h2 ?_
  rintro r M1 ⟨rfl, I2, L2, t2, rfl, hI2⟩
  show Ex G mdL2 1523 (lls k) [.int v, .int v] (mk I2 L2 t2) 223 5127 P
  exact ex_icmp_eq 1976 dL_law_1523 (by decide) (fun _ => kont _ _ _ hI2) (fun z => absurd rfl z)
set_option maxHeartbeats 4000000 in
theorem lc_odds {k : Nat} (hk : 7 * k + 7 ≤ gN G) (hN : gN G ≤ 3584) (hI : Inv I L t) (kont : ∀ I' L' t', Inv I' L' t' → Ex G mdL2 1976 (lls k) [] (mk I' L' t') 223 5127 P) : Ex G mdL2 1528 (lls k) [] (mk I L t) 223 5127 P := by
  obtain ⟨v, I1, L1, t1, h1, h2⟩ := T_odds (G := G) (a0 := (xa G k 1)) (a1 := (xa G k 2)) hI
  refine ex_aload_n dL_law_1528 rfl ?_
  refine ex_aload_n dL_law_1529 rfl ?_
  refine ex_iload_n dL_law_1530 rfl ?_
  refine ex_iconst (v := 1) dL_law_1531 (by decide) ?_
  refine ex_iadd dL_law_1532 ?_
  refine ex_sld dL_law_1533 (ai (j := 1) hk hN (by decide)) ?_
  refine ex_aload_n dL_law_1534 rfl ?_
  refine ex_iload_n dL_law_1535 rfl ?_
  refine ex_iconst (v := 2) dL_law_1536 (by decide) ?_
  refine ex_iadd dL_law_1537 ?_
  refine ex_sld dL_law_1538 (ai (j := 2) hk hN (by decide)) ?_
  refine ex_cV (a := 0) (kd := 11) (N := 20) (T := TX11) (vs := [.int (xa G k 1), .int (xa G k 2)]) dL_law_1539 rfl lk_L_165 rfl (by decide) (show K0 0 = (11, 20) from rfl) (show 0 < 223 by decide) ⟨⟨by decide, by decide⟩, by decide, by decide⟩ rfl (Nat.le_of_ble_eq_true rfl) rfl h1 (Rs.k ?_)
  show Ex G mdL2 1542 (lls k) [.int v] (mk I1 L1 t1) 223 5127 P
  refine ex_aload_n dL_law_1542 rfl ?_
  refine ex_aload_n dL_law_1543 rfl ?_
  refine ex_iload_n dL_law_1544 rfl ?_
  refine ex_iconst (v := 1) dL_law_1545 (by decide) ?_
  refine ex_iadd dL_law_1546 ?_
  refine ex_sld dL_law_1547 (ai (j := 1) hk hN (by decide)) ?_
  refine ex_aload_n dL_law_1548 rfl ?_
  refine ex_iload_n dL_law_1549 rfl ?_
  refine ex_iconst (v := 2) dL_law_1550 (by decide) ?_
  refine ex_iadd dL_law_1551 ?_
  refine ex_sld dL_law_1552 (ai (j := 2) hk hN (by decide)) ?_
  refine ex_cV (a := 200) (kd := 12) (N := 40) (T := TX12) (vs := [.int (xa G k 1), .int (xa G k 2)]) dL_law_1553 rfl lk_L_168 rfl (by decide) (show K0 200 = (12, 40) from rfl) (show 200 < 223 by decide) ⟨⟨by decide, by decide⟩, by decide, by decide⟩ rfl (Nat.le_of_ble_eq_true rfl) rfl h2 ?_
  rintro r M1 ⟨rfl, I2, L2, t2, rfl, hI2⟩
  show Ex G mdL2 1556 (lls k) [.int v, .int v] (mk I2 L2 t2) 223 5127 P
  exact ex_icmp_eq 1976 dL_law_1556 (by decide) (fun _ => kont _ _ _ hI2) (fun z => absurd rfl z)
set_option maxHeartbeats 4000000 in
theorem lc_work {k : Nat} (hk : 7 * k + 7 ≤ gN G) (hN : gN G ≤ 3584) (hI : Inv I L t) (kont : ∀ I' L' t', Inv I' L' t' → Ex G mdL2 1976 (lls k) [] (mk I' L' t') 223 5127 P) : Ex G mdL2 1561 (lls k) [] (mk I L t) 223 5127 P := by
  obtain ⟨v, I1, L1, t1, h1, h2⟩ := T_work (G := G) (a0 := (xa G k 1)) (a1 := (xa G k 2)) (a2 := (xa G k 3)) (a3 := (xa G k 4)) hI
  refine ex_aload_n dL_law_1561 rfl ?_
  refine ex_aload_n dL_law_1562 rfl ?_
  refine ex_iload_n dL_law_1563 rfl ?_
  refine ex_iconst (v := 1) dL_law_1564 (by decide) ?_
  refine ex_iadd dL_law_1565 ?_
  refine ex_sld dL_law_1566 (ai (j := 1) hk hN (by decide)) ?_
  refine ex_aload_n dL_law_1567 rfl ?_
  refine ex_iload_n dL_law_1568 rfl ?_
  refine ex_iconst (v := 2) dL_law_1569 (by decide) ?_
  refine ex_iadd dL_law_1570 ?_
  refine ex_sld dL_law_1571 (ai (j := 2) hk hN (by decide)) ?_
  refine ex_aload_n dL_law_1572 rfl ?_
  refine ex_iload_n dL_law_1573 rfl ?_
  refine ex_iconst (v := 3) dL_law_1574 (by decide) ?_
  refine ex_iadd dL_law_1575 ?_
  refine ex_sld dL_law_1576 (ai (j := 3) hk hN (by decide)) ?_
  refine ex_aload_n dL_law_1577 rfl ?_
  refine ex_iload_n dL_law_1578 rfl ?_
  refine ex_iconst (v := 4) dL_law_1579 (by decide) ?_
  refine ex_iadd dL_law_1580 ?_
  refine ex_sld dL_law_1581 (ai (j := 4) hk hN (by decide)) ?_
  refine ex_cV (a := 0) (kd := 11) (N := 20) (T := TX11) (vs := [.int (xa G k 1), .int (xa G k 2), .int (xa G k 3), .int (xa G k 4)]) dL_law_1582 rfl lk_L_169 rfl (by decide) (show K0 0 = (11, 20) from rfl) (show 0 < 223 by decide) ⟨⟨by decide, by decide⟩, by decide, by decide⟩ rfl (Nat.le_of_ble_eq_true rfl) rfl h1 (Rs.k ?_)
  show Ex G mdL2 1585 (lls k) [.int v] (mk I1 L1 t1) 223 5127 P
  refine ex_aload_n dL_law_1585 rfl ?_
  refine ex_aload_n dL_law_1586 rfl ?_
  refine ex_iload_n dL_law_1587 rfl ?_
  refine ex_iconst (v := 1) dL_law_1588 (by decide) ?_
  refine ex_iadd dL_law_1589 ?_
  refine ex_sld dL_law_1590 (ai (j := 1) hk hN (by decide)) ?_
  refine ex_aload_n dL_law_1591 rfl ?_
  refine ex_iload_n dL_law_1592 rfl ?_
  refine ex_iconst (v := 2) dL_law_1593 (by decide) ?_
  refine ex_iadd dL_law_1594 ?_
  refine ex_sld dL_law_1595 (ai (j := 2) hk hN (by decide)) ?_
  refine ex_aload_n dL_law_1596 rfl ?_
  refine ex_iload_n dL_law_1597 rfl ?_
  refine ex_iconst (v := 3) dL_law_1598 (by decide) ?_
  refine ex_iadd dL_law_1599 ?_
  refine ex_sld dL_law_1600 (ai (j := 3) hk hN (by decide)) ?_
  refine ex_aload_n dL_law_1601 rfl ?_
  refine ex_iload_n dL_law_1602 rfl ?_
  refine ex_iconst (v := 4) dL_law_1603 (by decide) ?_
  refine ex_iadd dL_law_1604 ?_
  refine ex_sld dL_law_1605 (ai (j := 4) hk hN (by decide)) ?_
  refine ex_cV (a := 200) (kd := 12) (N := 40) (T := TX12) (vs := [.int (xa G k 1), .int (xa G k 2), .int (xa G k 3), .int (xa G k 4)]) dL_law_1606 rfl lk_L_172 rfl (by decide) (show K0 200 = (12, 40) from rfl) (show 200 < 223 by decide) ⟨⟨by decide, by decide⟩, by decide, by decide⟩ rfl (Nat.le_of_ble_eq_true rfl) rfl h2 ?_
  rintro r M1 ⟨rfl, I2, L2, t2, rfl, hI2⟩
  show Ex G mdL2 1609 (lls k) [.int v, .int v] (mk I2 L2 t2) 223 5127 P
  exact ex_icmp_eq 1976 dL_law_1609 (by decide) (fun _ => kont _ _ _ hI2) (fun z => absurd rfl z)
set_option maxHeartbeats 4000000 in
theorem lc_back {k : Nat} (hk : 7 * k + 7 ≤ gN G) (hN : gN G ≤ 3584) (hI : Inv I L t) (kont : ∀ I' L' t', Inv I' L' t' → Ex G mdL2 1976 (lls k) [] (mk I' L' t') 223 5127 P) : Ex G mdL2 1614 (lls k) [] (mk I L t) 223 5127 P := by
  obtain ⟨v, I1, L1, t1, h1, h2⟩ := T_back (G := G) (a0 := (xa G k 1)) hI
  refine ex_aload_n dL_law_1614 rfl ?_
  refine ex_aload_n dL_law_1615 rfl ?_
  refine ex_iload_n dL_law_1616 rfl ?_
  refine ex_iconst (v := 1) dL_law_1617 (by decide) ?_
  refine ex_iadd dL_law_1618 ?_
  refine ex_sld dL_law_1619 (ai (j := 1) hk hN (by decide)) ?_
  refine ex_cV (a := 0) (kd := 11) (N := 20) (T := TX11) (vs := [.int (xa G k 1)]) dL_law_1620 rfl lk_L_173 rfl (by decide) (show K0 0 = (11, 20) from rfl) (show 0 < 223 by decide) ⟨⟨by decide, by decide⟩, by decide, by decide⟩ rfl (Nat.le_of_ble_eq_true rfl) rfl h1 (Rs.k ?_)
  show Ex G mdL2 1623 (lls k) [.int v] (mk I1 L1 t1) 223 5127 P
  refine ex_aload_n dL_law_1623 rfl ?_
  refine ex_aload_n dL_law_1624 rfl ?_
  refine ex_iload_n dL_law_1625 rfl ?_
  refine ex_iconst (v := 1) dL_law_1626 (by decide) ?_
  refine ex_iadd dL_law_1627 ?_
  refine ex_sld dL_law_1628 (ai (j := 1) hk hN (by decide)) ?_
  refine ex_cV (a := 200) (kd := 12) (N := 40) (T := TX12) (vs := [.int (xa G k 1)]) dL_law_1629 rfl lk_L_176 rfl (by decide) (show K0 200 = (12, 40) from rfl) (show 200 < 223 by decide) ⟨⟨by decide, by decide⟩, by decide, by decide⟩ rfl (Nat.le_of_ble_eq_true rfl) rfl h2 ?_
  rintro r M1 ⟨rfl, I2, L2, t2, rfl, hI2⟩
  show Ex G mdL2 1632 (lls k) [.int v, .int v] (mk I2 L2 t2) 223 5127 P
  exact ex_icmp_eq 1976 dL_law_1632 (by decide) (fun _ => kont _ _ _ hI2) (fun z => absurd rfl z)
set_option maxHeartbeats 4000000 in
theorem lc_does {k : Nat} (hk : 7 * k + 7 ≤ gN G) (hN : gN G ≤ 3584) (hI : Inv I L t) (kont : ∀ I' L' t', Inv I' L' t' → Ex G mdL2 1976 (lls k) [] (mk I' L' t') 223 5127 P) : Ex G mdL2 1637 (lls k) [] (mk I L t) 223 5127 P := by
  obtain ⟨v, I1, L1, t1, h1, h2⟩ := T_does (G := G) (a0 := (xa G k 1)) (a1 := (xa G k 2)) (a2 := (xa G k 3)) hI
  refine ex_aload_n dL_law_1637 rfl ?_
  refine ex_aload_n dL_law_1638 rfl ?_
  refine ex_iload_n dL_law_1639 rfl ?_
  refine ex_iconst (v := 1) dL_law_1640 (by decide) ?_
  refine ex_iadd dL_law_1641 ?_
  refine ex_sld dL_law_1642 (ai (j := 1) hk hN (by decide)) ?_
  refine ex_aload_n dL_law_1643 rfl ?_
  refine ex_iload_n dL_law_1644 rfl ?_
  refine ex_iconst (v := 2) dL_law_1645 (by decide) ?_
  refine ex_iadd dL_law_1646 ?_
  refine ex_sld dL_law_1647 (ai (j := 2) hk hN (by decide)) ?_
  refine ex_aload_n dL_law_1648 rfl ?_
  refine ex_iload_n dL_law_1649 rfl ?_
  refine ex_iconst (v := 3) dL_law_1650 (by decide) ?_
  refine ex_iadd dL_law_1651 ?_
  refine ex_sld dL_law_1652 (ai (j := 3) hk hN (by decide)) ?_
  refine ex_cV (a := 0) (kd := 11) (N := 20) (T := TX11) (vs := [.int (xa G k 1), .int (xa G k 2), .int (xa G k 3)]) dL_law_1653 rfl lk_L_177 rfl (by decide) (show K0 0 = (11, 20) from rfl) (show 0 < 223 by decide) ⟨⟨by decide, by decide⟩, by decide, by decide⟩ rfl (Nat.le_of_ble_eq_true rfl) rfl h1 (Rs.k ?_)
  show Ex G mdL2 1656 (lls k) [.int v] (mk I1 L1 t1) 223 5127 P
  refine ex_aload_n dL_law_1656 rfl ?_
  refine ex_aload_n dL_law_1657 rfl ?_
  refine ex_iload_n dL_law_1658 rfl ?_
  refine ex_iconst (v := 1) dL_law_1659 (by decide) ?_
  refine ex_iadd dL_law_1660 ?_
  refine ex_sld dL_law_1661 (ai (j := 1) hk hN (by decide)) ?_
  refine ex_aload_n dL_law_1662 rfl ?_
  refine ex_iload_n dL_law_1663 rfl ?_
  refine ex_iconst (v := 2) dL_law_1664 (by decide) ?_
  refine ex_iadd dL_law_1665 ?_
  refine ex_sld dL_law_1666 (ai (j := 2) hk hN (by decide)) ?_
  refine ex_aload_n dL_law_1667 rfl ?_
  refine ex_iload_n dL_law_1668 rfl ?_
  refine ex_iconst (v := 3) dL_law_1669 (by decide) ?_
  refine ex_iadd dL_law_1670 ?_
  refine ex_sld dL_law_1671 (ai (j := 3) hk hN (by decide)) ?_
  refine ex_cV (a := 200) (kd := 12) (N := 40) (T := TX12) (vs := [.int (xa G k 1), .int (xa G k 2), .int (xa G k 3)]) dL_law_1672 rfl lk_L_180 rfl (by decide) (show K0 200 = (12, 40) from rfl) (show 200 < 223 by decide) ⟨⟨by decide, by decide⟩, by decide, by decide⟩ rfl (Nat.le_of_ble_eq_true rfl) rfl h2 ?_
  rintro r M1 ⟨rfl, I2, L2, t2, rfl, hI2⟩
  show Ex G mdL2 1675 (lls k) [.int v, .int v] (mk I2 L2 t2) 223 5127 P
  exact ex_icmp_eq 1976 dL_law_1675 (by decide) (fun _ => kont _ _ _ hI2) (fun z => absurd rfl z)
set_option maxHeartbeats 4000000 in
theorem lc_worse {k : Nat} (hk : 7 * k + 7 ≤ gN G) (hN : gN G ≤ 3584) (hI : Inv I L t) (kont : ∀ I' L' t', Inv I' L' t' → Ex G mdL2 1976 (lls k) [] (mk I' L' t') 223 5127 P) : Ex G mdL2 1680 (lls k) [] (mk I L t) 223 5127 P := by
  obtain ⟨v, I1, L1, t1, h1, h2⟩ := T_worse (G := G) (a0 := (xa G k 1)) (a1 := (xa G k 2)) hI
  refine ex_aload_n dL_law_1680 rfl ?_
  refine ex_aload_n dL_law_1681 rfl ?_
  refine ex_iload_n dL_law_1682 rfl ?_
  refine ex_iconst (v := 1) dL_law_1683 (by decide) ?_
  refine ex_iadd dL_law_1684 ?_
  refine ex_sld dL_law_1685 (ai (j := 1) hk hN (by decide)) ?_
  refine ex_aload_n dL_law_1686 rfl ?_
  refine ex_iload_n dL_law_1687 rfl ?_
  refine ex_iconst (v := 2) dL_law_1688 (by decide) ?_
  refine ex_iadd dL_law_1689 ?_
  refine ex_sld dL_law_1690 (ai (j := 2) hk hN (by decide)) ?_
  refine ex_cV (a := 0) (kd := 11) (N := 20) (T := TX11) (vs := [.int (xa G k 1), .int (xa G k 2)]) dL_law_1691 rfl lk_L_181 rfl (by decide) (show K0 0 = (11, 20) from rfl) (show 0 < 223 by decide) ⟨⟨by decide, by decide⟩, by decide, by decide⟩ rfl (Nat.le_of_ble_eq_true rfl) rfl h1 (Rs.k ?_)
  show Ex G mdL2 1694 (lls k) [.int v] (mk I1 L1 t1) 223 5127 P
  refine ex_aload_n dL_law_1694 rfl ?_
  refine ex_aload_n dL_law_1695 rfl ?_
  refine ex_iload_n dL_law_1696 rfl ?_
  refine ex_iconst (v := 1) dL_law_1697 (by decide) ?_
  refine ex_iadd dL_law_1698 ?_
  refine ex_sld dL_law_1699 (ai (j := 1) hk hN (by decide)) ?_
  refine ex_aload_n dL_law_1700 rfl ?_
  refine ex_iload_n dL_law_1701 rfl ?_
  refine ex_iconst (v := 2) dL_law_1702 (by decide) ?_
  refine ex_iadd dL_law_1703 ?_
  refine ex_sld dL_law_1704 (ai (j := 2) hk hN (by decide)) ?_
  refine ex_cV (a := 200) (kd := 12) (N := 40) (T := TX12) (vs := [.int (xa G k 1), .int (xa G k 2)]) dL_law_1705 rfl lk_L_184 rfl (by decide) (show K0 200 = (12, 40) from rfl) (show 200 < 223 by decide) ⟨⟨by decide, by decide⟩, by decide, by decide⟩ rfl (Nat.le_of_ble_eq_true rfl) rfl h2 ?_
  rintro r M1 ⟨rfl, I2, L2, t2, rfl, hI2⟩
  show Ex G mdL2 1708 (lls k) [.int v, .int v] (mk I2 L2 t2) 223 5127 P
  exact ex_icmp_eq 1976 dL_law_1708 (by decide) (fun _ => kont _ _ _ hI2) (fun z => absurd rfl z)
set_option maxHeartbeats 4000000 in
theorem lc_least {k : Nat} (hk : 7 * k + 7 ≤ gN G) (hN : gN G ≤ 3584) (hI : Inv I L t) (kont : ∀ I' L' t', Inv I' L' t' → Ex G mdL2 1976 (lls k) [] (mk I' L' t') 223 5127 P) : Ex G mdL2 1713 (lls k) [] (mk I L t) 223 5127 P := by
  obtain ⟨v, I1, L1, t1, h1, h2⟩ := T_least (G := G) (a0 := (xa G k 1)) (a1 := (xa G k 2)) (a2 := (xa G k 3)) hI
  refine ex_aload_n dL_law_1713 rfl ?_
  refine ex_aload_n dL_law_1714 rfl ?_
  refine ex_iload_n dL_law_1715 rfl ?_
  refine ex_iconst (v := 1) dL_law_1716 (by decide) ?_
  refine ex_iadd dL_law_1717 ?_
  refine ex_sld dL_law_1718 (ai (j := 1) hk hN (by decide)) ?_
  refine ex_aload_n dL_law_1719 rfl ?_
  refine ex_iload_n dL_law_1720 rfl ?_
  refine ex_iconst (v := 2) dL_law_1721 (by decide) ?_
  refine ex_iadd dL_law_1722 ?_
  refine ex_sld dL_law_1723 (ai (j := 2) hk hN (by decide)) ?_
  refine ex_aload_n dL_law_1724 rfl ?_
  refine ex_iload_n dL_law_1725 rfl ?_
  refine ex_iconst (v := 3) dL_law_1726 (by decide) ?_
  refine ex_iadd dL_law_1727 ?_
  refine ex_sld dL_law_1728 (ai (j := 3) hk hN (by decide)) ?_
  refine ex_cV (a := 0) (kd := 11) (N := 20) (T := TX11) (vs := [.int (xa G k 1), .int (xa G k 2), .int (xa G k 3)]) dL_law_1729 rfl lk_L_185 rfl (by decide) (show K0 0 = (11, 20) from rfl) (show 0 < 223 by decide) ⟨⟨by decide, by decide⟩, by decide, by decide⟩ rfl (Nat.le_of_ble_eq_true rfl) rfl h1 (Rs.k ?_)
  show Ex G mdL2 1732 (lls k) [.int v] (mk I1 L1 t1) 223 5127 P
  refine ex_aload_n dL_law_1732 rfl ?_
  refine ex_aload_n dL_law_1733 rfl ?_
  refine ex_iload_n dL_law_1734 rfl ?_
  refine ex_iconst (v := 1) dL_law_1735 (by decide) ?_
  refine ex_iadd dL_law_1736 ?_
  refine ex_sld dL_law_1737 (ai (j := 1) hk hN (by decide)) ?_
  refine ex_aload_n dL_law_1738 rfl ?_
  refine ex_iload_n dL_law_1739 rfl ?_
  refine ex_iconst (v := 2) dL_law_1740 (by decide) ?_
  refine ex_iadd dL_law_1741 ?_
  refine ex_sld dL_law_1742 (ai (j := 2) hk hN (by decide)) ?_
  refine ex_aload_n dL_law_1743 rfl ?_
  refine ex_iload_n dL_law_1744 rfl ?_
  refine ex_iconst (v := 3) dL_law_1745 (by decide) ?_
  refine ex_iadd dL_law_1746 ?_
  refine ex_sld dL_law_1747 (ai (j := 3) hk hN (by decide)) ?_
  refine ex_cV (a := 200) (kd := 12) (N := 40) (T := TX12) (vs := [.int (xa G k 1), .int (xa G k 2), .int (xa G k 3)]) dL_law_1748 rfl lk_L_188 rfl (by decide) (show K0 200 = (12, 40) from rfl) (show 200 < 223 by decide) ⟨⟨by decide, by decide⟩, by decide, by decide⟩ rfl (Nat.le_of_ble_eq_true rfl) rfl h2 ?_
  rintro r M1 ⟨rfl, I2, L2, t2, rfl, hI2⟩
  show Ex G mdL2 1751 (lls k) [.int v, .int v] (mk I2 L2 t2) 223 5127 P
  exact ex_icmp_eq 1976 dL_law_1751 (by decide) (fun _ => kont _ _ _ hI2) (fun z => absurd rfl z)
set_option maxHeartbeats 4000000 in
theorem lc_since {k : Nat} (hk : 7 * k + 7 ≤ gN G) (hN : gN G ≤ 3584) (hI : Inv I L t) (kont : ∀ I' L' t', Inv I' L' t' → Ex G mdL2 1976 (lls k) [] (mk I' L' t') 223 5127 P) : Ex G mdL2 1756 (lls k) [] (mk I L t) 223 5127 P := by
  obtain ⟨v, I1, L1, t1, h1, h2⟩ := T_since (G := G) (a0 := (xa G k 1)) (a1 := (xa G k 2)) (a2 := (xa G k 3)) (a3 := (xa G k 4)) (a4 := (xa G k 5)) hI
  refine ex_aload_n dL_law_1756 rfl ?_
  refine ex_aload_n dL_law_1757 rfl ?_
  refine ex_iload_n dL_law_1758 rfl ?_
  refine ex_iconst (v := 1) dL_law_1759 (by decide) ?_
  refine ex_iadd dL_law_1760 ?_
  refine ex_sld dL_law_1761 (ai (j := 1) hk hN (by decide)) ?_
  refine ex_aload_n dL_law_1762 rfl ?_
  refine ex_iload_n dL_law_1763 rfl ?_
  refine ex_iconst (v := 2) dL_law_1764 (by decide) ?_
  refine ex_iadd dL_law_1765 ?_
  refine ex_sld dL_law_1766 (ai (j := 2) hk hN (by decide)) ?_
  refine ex_aload_n dL_law_1767 rfl ?_
  refine ex_iload_n dL_law_1768 rfl ?_
  refine ex_iconst (v := 3) dL_law_1769 (by decide) ?_
  refine ex_iadd dL_law_1770 ?_
  refine ex_sld dL_law_1771 (ai (j := 3) hk hN (by decide)) ?_
  refine ex_aload_n dL_law_1772 rfl ?_
  refine ex_iload_n dL_law_1773 rfl ?_
  refine ex_iconst (v := 4) dL_law_1774 (by decide) ?_
  refine ex_iadd dL_law_1775 ?_
  refine ex_sld dL_law_1776 (ai (j := 4) hk hN (by decide)) ?_
  refine ex_aload_n dL_law_1777 rfl ?_
  refine ex_iload_n dL_law_1778 rfl ?_
  refine ex_iconst (v := 5) dL_law_1779 (by decide) ?_
  refine ex_iadd dL_law_1780 ?_
  refine ex_sld dL_law_1781 (ai (j := 5) hk hN (by decide)) ?_
  refine ex_cV (a := 0) (kd := 11) (N := 20) (T := TX11) (vs := [.int (xa G k 1), .int (xa G k 2), .int (xa G k 3), .int (xa G k 4), .int (xa G k 5)]) dL_law_1782 rfl lk_L_189 rfl (by decide) (show K0 0 = (11, 20) from rfl) (show 0 < 223 by decide) ⟨⟨by decide, by decide⟩, by decide, by decide⟩ rfl (Nat.le_of_ble_eq_true rfl) rfl h1 (Rs.k ?_)
  show Ex G mdL2 1785 (lls k) [.int v] (mk I1 L1 t1) 223 5127 P
  refine ex_aload_n dL_law_1785 rfl ?_
  refine ex_aload_n dL_law_1786 rfl ?_
  refine ex_iload_n dL_law_1787 rfl ?_
  refine ex_iconst (v := 1) dL_law_1788 (by decide) ?_
  refine ex_iadd dL_law_1789 ?_
  refine ex_sld dL_law_1790 (ai (j := 1) hk hN (by decide)) ?_
  refine ex_aload_n dL_law_1791 rfl ?_
  refine ex_iload_n dL_law_1792 rfl ?_
  refine ex_iconst (v := 2) dL_law_1793 (by decide) ?_
  refine ex_iadd dL_law_1794 ?_
  refine ex_sld dL_law_1795 (ai (j := 2) hk hN (by decide)) ?_
  refine ex_aload_n dL_law_1796 rfl ?_
  refine ex_iload_n dL_law_1797 rfl ?_
  refine ex_iconst (v := 3) dL_law_1798 (by decide) ?_
  refine ex_iadd dL_law_1799 ?_
  refine ex_sld dL_law_1800 (ai (j := 3) hk hN (by decide)) ?_
  refine ex_aload_n dL_law_1801 rfl ?_
  refine ex_iload_n dL_law_1802 rfl ?_
  refine ex_iconst (v := 4) dL_law_1803 (by decide) ?_
  refine ex_iadd dL_law_1804 ?_
  refine ex_sld dL_law_1805 (ai (j := 4) hk hN (by decide)) ?_
  refine ex_aload_n dL_law_1806 rfl ?_
  refine ex_iload_n dL_law_1807 rfl ?_
  refine ex_iconst (v := 5) dL_law_1808 (by decide) ?_
  refine ex_iadd dL_law_1809 ?_
  refine ex_sld dL_law_1810 (ai (j := 5) hk hN (by decide)) ?_
  refine ex_cV (a := 200) (kd := 12) (N := 40) (T := TX12) (vs := [.int (xa G k 1), .int (xa G k 2), .int (xa G k 3), .int (xa G k 4), .int (xa G k 5)]) dL_law_1811 rfl lk_L_192 rfl (by decide) (show K0 200 = (12, 40) from rfl) (show 200 < 223 by decide) ⟨⟨by decide, by decide⟩, by decide, by decide⟩ rfl (Nat.le_of_ble_eq_true rfl) rfl h2 ?_
  rintro r M1 ⟨rfl, I2, L2, t2, rfl, hI2⟩
  show Ex G mdL2 1814 (lls k) [.int v, .int v] (mk I2 L2 t2) 223 5127 P
  exact ex_icmp_eq 1976 dL_law_1814 (by decide) (fun _ => kont _ _ _ hI2) (fun z => absurd rfl z)
set_option maxHeartbeats 4000000 in
theorem lc_which {k : Nat} (hk : 7 * k + 7 ≤ gN G) (hN : gN G ≤ 3584) (hI : Inv I L t) (kont : ∀ I' L' t', Inv I' L' t' → Ex G mdL2 1976 (lls k) [] (mk I' L' t') 223 5127 P) : Ex G mdL2 1819 (lls k) [] (mk I L t) 223 5127 P := by
  obtain ⟨v, I1, L1, t1, h1, h2⟩ := T_which (G := G) (a0 := (xa G k 1)) (a1 := (xa G k 2)) (a2 := (xa G k 3)) hI
  refine ex_aload_n dL_law_1819 rfl ?_
  refine ex_aload_n dL_law_1820 rfl ?_
  refine ex_iload_n dL_law_1821 rfl ?_
  refine ex_iconst (v := 1) dL_law_1822 (by decide) ?_
  refine ex_iadd dL_law_1823 ?_
  refine ex_sld dL_law_1824 (ai (j := 1) hk hN (by decide)) ?_
  refine ex_aload_n dL_law_1825 rfl ?_
  refine ex_iload_n dL_law_1826 rfl ?_
  refine ex_iconst (v := 2) dL_law_1827 (by decide) ?_
  refine ex_iadd dL_law_1828 ?_
  refine ex_sld dL_law_1829 (ai (j := 2) hk hN (by decide)) ?_
  refine ex_aload_n dL_law_1830 rfl ?_
  refine ex_iload_n dL_law_1831 rfl ?_
  refine ex_iconst (v := 3) dL_law_1832 (by decide) ?_
  refine ex_iadd dL_law_1833 ?_
  refine ex_sld dL_law_1834 (ai (j := 3) hk hN (by decide)) ?_
  refine ex_cV (a := 0) (kd := 11) (N := 20) (T := TX11) (vs := [.int (xa G k 1), .int (xa G k 2), .int (xa G k 3)]) dL_law_1835 rfl lk_L_193 rfl (by decide) (show K0 0 = (11, 20) from rfl) (show 0 < 223 by decide) ⟨⟨by decide, by decide⟩, by decide, by decide⟩ rfl (Nat.le_of_ble_eq_true rfl) rfl h1 (Rs.k ?_)
  show Ex G mdL2 1838 (lls k) [.int v] (mk I1 L1 t1) 223 5127 P
  refine ex_aload_n dL_law_1838 rfl ?_
  refine ex_aload_n dL_law_1839 rfl ?_
  refine ex_iload_n dL_law_1840 rfl ?_
  refine ex_iconst (v := 1) dL_law_1841 (by decide) ?_
  refine ex_iadd dL_law_1842 ?_
  refine ex_sld dL_law_1843 (ai (j := 1) hk hN (by decide)) ?_
  refine ex_aload_n dL_law_1844 rfl ?_
  refine ex_iload_n dL_law_1845 rfl ?_
  refine ex_iconst (v := 2) dL_law_1846 (by decide) ?_
  refine ex_iadd dL_law_1847 ?_
  refine ex_sld dL_law_1848 (ai (j := 2) hk hN (by decide)) ?_
  refine ex_aload_n dL_law_1849 rfl ?_
  refine ex_iload_n dL_law_1850 rfl ?_
  refine ex_iconst (v := 3) dL_law_1851 (by decide) ?_
  refine ex_iadd dL_law_1852 ?_
  refine ex_sld dL_law_1853 (ai (j := 3) hk hN (by decide)) ?_
  refine ex_cV (a := 200) (kd := 12) (N := 40) (T := TX12) (vs := [.int (xa G k 1), .int (xa G k 2), .int (xa G k 3)]) dL_law_1854 rfl lk_L_196 rfl (by decide) (show K0 200 = (12, 40) from rfl) (show 200 < 223 by decide) ⟨⟨by decide, by decide⟩, by decide, by decide⟩ rfl (Nat.le_of_ble_eq_true rfl) rfl h2 ?_
  rintro r M1 ⟨rfl, I2, L2, t2, rfl, hI2⟩
  show Ex G mdL2 1857 (lls k) [.int v, .int v] (mk I2 L2 t2) 223 5127 P
  exact ex_icmp_eq 1976 dL_law_1857 (by decide) (fun _ => kont _ _ _ hI2) (fun z => absurd rfl z)
set_option maxHeartbeats 4000000 in
theorem lc_asked {k : Nat} (hk : 7 * k + 7 ≤ gN G) (hN : gN G ≤ 3584) (hI : Inv I L t) (kont : ∀ I' L' t', Inv I' L' t' → Ex G mdL2 1976 (lls k) [] (mk I' L' t') 223 5127 P) : Ex G mdL2 1862 (lls k) [] (mk I L t) 223 5127 P := by
  obtain ⟨v, I1, L1, t1, h1, h2⟩ := T_asked (G := G)  hI
  refine ex_aload_n dL_law_1862 rfl ?_
  refine ex_cV (a := 0) (kd := 11) (N := 20) (T := TX11) (vs := []) dL_law_1863 rfl lk_L_197 rfl (by decide) (show K0 0 = (11, 20) from rfl) (show 0 < 223 by decide) ⟨⟨by decide, by decide⟩, by decide, by decide⟩ rfl (Nat.le_of_ble_eq_true rfl) rfl h1 (Rs.k ?_)
  show Ex G mdL2 1866 (lls k) [.int v] (mk I1 L1 t1) 223 5127 P
  refine ex_aload_n dL_law_1866 rfl ?_
  refine ex_cV (a := 200) (kd := 12) (N := 40) (T := TX12) (vs := []) dL_law_1867 rfl lk_L_200 rfl (by decide) (show K0 200 = (12, 40) from rfl) (show 200 < 223 by decide) ⟨⟨by decide, by decide⟩, by decide, by decide⟩ rfl (Nat.le_of_ble_eq_true rfl) rfl h2 ?_
  rintro r M1 ⟨rfl, I2, L2, t2, rfl, hI2⟩
  show Ex G mdL2 1870 (lls k) [.int v, .int v] (mk I2 L2 t2) 223 5127 P
  exact ex_icmp_eq 1976 dL_law_1870 (by decide) (fun _ => kont _ _ _ hI2) (fun z => absurd rfl z)
set_option maxHeartbeats 4000000 in
theorem lc_upper {k : Nat} (hk : 7 * k + 7 ≤ gN G) (hN : gN G ≤ 3584) (hI : Inv I L t) (kont : ∀ I' L' t', Inv I' L' t' → Ex G mdL2 1976 (lls k) [] (mk I' L' t') 223 5127 P) : Ex G mdL2 1875 (lls k) [] (mk I L t) 223 5127 P := by
  obtain ⟨v, I1, L1, t1, h1, h2⟩ := T_upper (G := G)  hI
  refine ex_aload_n dL_law_1875 rfl ?_
  refine ex_cV (a := 0) (kd := 11) (N := 20) (T := TX11) (vs := []) dL_law_1876 rfl lk_L_201 rfl (by decide) (show K0 0 = (11, 20) from rfl) (show 0 < 223 by decide) ⟨⟨by decide, by decide⟩, by decide, by decide⟩ rfl (Nat.le_of_ble_eq_true rfl) rfl h1 (Rs.k ?_)
  show Ex G mdL2 1879 (lls k) [.long v] (mk I1 L1 t1) 223 5127 P
  refine ex_aload_n dL_law_1879 rfl ?_
  refine ex_cV (a := 200) (kd := 12) (N := 40) (T := TX12) (vs := []) dL_law_1880 rfl lk_L_205 rfl (by decide) (show K0 200 = (12, 40) from rfl) (show 200 < 223 by decide) ⟨⟨by decide, by decide⟩, by decide, by decide⟩ rfl (Nat.le_of_ble_eq_true rfl) rfl h2 ?_
  rintro r M1 ⟨rfl, I2, L2, t2, rfl, hI2⟩
  show Ex G mdL2 1883 (lls k) [.long v, .long v] (mk I2 L2 t2) 223 5127 P
  refine ex_lcmp dL_law_1883 ?_
  exact ex_if_eq 1976 dL_law_1884 (by decide) (fun _ => kont _ _ _ hI2) (fun z => absurd ((lg_cmp_eq v v).mpr rfl) z)
set_option maxHeartbeats 4000000 in
theorem lc_lower {k : Nat} (hk : 7 * k + 7 ≤ gN G) (hN : gN G ≤ 3584) (hI : Inv I L t) (kont : ∀ I' L' t', Inv I' L' t' → Ex G mdL2 1976 (lls k) [] (mk I' L' t') 223 5127 P) : Ex G mdL2 1889 (lls k) [] (mk I L t) 223 5127 P := by
  obtain ⟨v, I1, L1, t1, h1, h2⟩ := T_lower (G := G)  hI
  refine ex_aload_n dL_law_1889 rfl ?_
  refine ex_cV (a := 0) (kd := 11) (N := 20) (T := TX11) (vs := []) dL_law_1890 rfl lk_L_206 rfl (by decide) (show K0 0 = (11, 20) from rfl) (show 0 < 223 by decide) ⟨⟨by decide, by decide⟩, by decide, by decide⟩ rfl (Nat.le_of_ble_eq_true rfl) rfl h1 (Rs.k ?_)
  show Ex G mdL2 1893 (lls k) [.long v] (mk I1 L1 t1) 223 5127 P
  refine ex_aload_n dL_law_1893 rfl ?_
  refine ex_cV (a := 200) (kd := 12) (N := 40) (T := TX12) (vs := []) dL_law_1894 rfl lk_L_209 rfl (by decide) (show K0 200 = (12, 40) from rfl) (show 200 < 223 by decide) ⟨⟨by decide, by decide⟩, by decide, by decide⟩ rfl (Nat.le_of_ble_eq_true rfl) rfl h2 ?_
  rintro r M1 ⟨rfl, I2, L2, t2, rfl, hI2⟩
  show Ex G mdL2 1897 (lls k) [.long v, .long v] (mk I2 L2 t2) 223 5127 P
  refine ex_lcmp dL_law_1897 ?_
  exact ex_if_eq 1976 dL_law_1898 (by decide) (fun _ => kont _ _ _ hI2) (fun z => absurd ((lg_cmp_eq v v).mpr rfl) z)
set_option maxHeartbeats 4000000 in
theorem lc_count {k : Nat} (hk : 7 * k + 7 ≤ gN G) (hN : gN G ≤ 3584) (hI : Inv I L t) (kont : ∀ I' L' t', Inv I' L' t' → Ex G mdL2 1976 (lls k) [] (mk I' L' t') 223 5127 P) : Ex G mdL2 1903 (lls k) [] (mk I L t) 223 5127 P := by
  obtain ⟨v, I1, L1, t1, h1, h2⟩ := T_count (G := G) (w := (xa G k 1)) hI
  refine ex_aload_n dL_law_1903 rfl ?_
  refine ex_aload_n dL_law_1904 rfl ?_
  refine ex_iload_n dL_law_1905 rfl ?_
  refine ex_iconst (v := 1) dL_law_1906 (by decide) ?_
  refine ex_iadd dL_law_1907 ?_
  refine ex_sld dL_law_1908 (ai (j := 1) hk hN (by decide)) ?_
  refine ex_cV (a := 0) (kd := 11) (N := 20) (T := TX11) (vs := [.int (xa G k 1)]) dL_law_1909 rfl lk_L_210 rfl (by decide) (show K0 0 = (11, 20) from rfl) (show 0 < 223 by decide) ⟨⟨by decide, by decide⟩, by decide, by decide⟩ rfl (Nat.le_of_ble_eq_true rfl) rfl h1 (Rs.k ?_)
  show Ex G mdL2 1912 (lls k) [.int v] (mk I1 L1 t1) 223 5127 P
  refine ex_aload_n dL_law_1912 rfl ?_
  refine ex_aload_n dL_law_1913 rfl ?_
  refine ex_iload_n dL_law_1914 rfl ?_
  refine ex_iconst (v := 1) dL_law_1915 (by decide) ?_
  refine ex_iadd dL_law_1916 ?_
  refine ex_sld dL_law_1917 (ai (j := 1) hk hN (by decide)) ?_
  refine ex_cV (a := 200) (kd := 12) (N := 40) (T := TX12) (vs := [.int (xa G k 1)]) dL_law_1918 rfl lk_L_213 rfl (by decide) (show K0 200 = (12, 40) from rfl) (show 200 < 223 by decide) ⟨⟨by decide, by decide⟩, by decide, by decide⟩ rfl (Nat.le_of_ble_eq_true rfl) rfl h2 ?_
  rintro r M1 ⟨rfl, I2, L2, t2, rfl, hI2⟩
  show Ex G mdL2 1921 (lls k) [.int v, .int v] (mk I2 L2 t2) 223 5127 P
  exact ex_icmp_eq 1976 dL_law_1921 (by decide) (fun _ => kont _ _ _ hI2) (fun z => absurd rfl z)
set_option maxHeartbeats 4000000 in
theorem lc_finding {k : Nat} (hk : 7 * k + 7 ≤ gN G) (hN : gN G ≤ 3584) (hI : Inv I L t) (kont : ∀ I' L' t', Inv I' L' t' → Ex G mdL2 1976 (lls k) [] (mk I' L' t') 223 5127 P) : Ex G mdL2 1926 (lls k) [] (mk I L t) 223 5127 P := by
  obtain ⟨v, I1, L1, t1, h1, h2⟩ := T_finding (G := G)  hI
  refine ex_aload_n dL_law_1926 rfl ?_
  refine ex_cV (a := 0) (kd := 11) (N := 20) (T := TX11) (vs := []) dL_law_1927 rfl lk_L_214 rfl (by decide) (show K0 0 = (11, 20) from rfl) (show 0 < 223 by decide) ⟨⟨by decide, by decide⟩, by decide, by decide⟩ rfl (Nat.le_of_ble_eq_true rfl) rfl h1 (Rs.k ?_)
  show Ex G mdL2 1930 (lls k) [.int v] (mk I1 L1 t1) 223 5127 P
  refine ex_aload_n dL_law_1930 rfl ?_
  refine ex_cV (a := 200) (kd := 12) (N := 40) (T := TX12) (vs := []) dL_law_1931 rfl lk_L_217 rfl (by decide) (show K0 200 = (12, 40) from rfl) (show 200 < 223 by decide) ⟨⟨by decide, by decide⟩, by decide, by decide⟩ rfl (Nat.le_of_ble_eq_true rfl) rfl h2 ?_
  rintro r M1 ⟨rfl, I2, L2, t2, rfl, hI2⟩
  show Ex G mdL2 1934 (lls k) [.int v, .int v] (mk I2 L2 t2) 223 5127 P
  exact ex_icmp_eq 1976 dL_law_1934 (by decide) (fun _ => kont _ _ _ hI2) (fun z => absurd rfl z)
set_option maxHeartbeats 4000000 in
theorem lc_findings {k : Nat} (hk : 7 * k + 7 ≤ gN G) (hN : gN G ≤ 3584) (hI : Inv I L t) (kont : ∀ I' L' t', Inv I' L' t' → Ex G mdL2 1976 (lls k) [] (mk I' L' t') 223 5127 P) : Ex G mdL2 1939 (lls k) [] (mk I L t) 223 5127 P := by
  obtain ⟨v, I1, L1, t1, h1, h2⟩ := T_findings (G := G) (f := (xa G k 1)) hI
  refine ex_aload_n dL_law_1939 rfl ?_
  refine ex_aload_n dL_law_1940 rfl ?_
  refine ex_iload_n dL_law_1941 rfl ?_
  refine ex_iconst (v := 1) dL_law_1942 (by decide) ?_
  refine ex_iadd dL_law_1943 ?_
  refine ex_sld dL_law_1944 (ai (j := 1) hk hN (by decide)) ?_
  refine ex_cV (a := 0) (kd := 11) (N := 20) (T := TX11) (vs := [.int (xa G k 1)]) dL_law_1945 rfl lk_L_218 rfl (by decide) (show K0 0 = (11, 20) from rfl) (show 0 < 223 by decide) ⟨⟨by decide, by decide⟩, by decide, by decide⟩ rfl (Nat.le_of_ble_eq_true rfl) rfl h1 (Rs.k ?_)
  show Ex G mdL2 1948 (lls k) [.int v] (mk I1 L1 t1) 223 5127 P
  refine ex_aload_n dL_law_1948 rfl ?_
  refine ex_aload_n dL_law_1949 rfl ?_
  refine ex_iload_n dL_law_1950 rfl ?_
  refine ex_iconst (v := 1) dL_law_1951 (by decide) ?_
  refine ex_iadd dL_law_1952 ?_
  refine ex_sld dL_law_1953 (ai (j := 1) hk hN (by decide)) ?_
  refine ex_cV (a := 200) (kd := 12) (N := 40) (T := TX12) (vs := [.int (xa G k 1)]) dL_law_1954 rfl lk_L_221 rfl (by decide) (show K0 200 = (12, 40) from rfl) (show 200 < 223 by decide) ⟨⟨by decide, by decide⟩, by decide, by decide⟩ rfl (Nat.le_of_ble_eq_true rfl) rfl h2 ?_
  rintro r M1 ⟨rfl, I2, L2, t2, rfl, hI2⟩
  show Ex G mdL2 1957 (lls k) [.int v, .int v] (mk I2 L2 t2) 223 5127 P
  exact ex_icmp_eq 1976 dL_law_1957 (by decide) (fun _ => kont _ _ _ hI2) (fun z => absurd rfl z)
set_option maxHeartbeats 4000000 in
theorem lc_digest {k : Nat} (hk : 7 * k + 7 ≤ gN G) (hN : gN G ≤ 3584) (hI : Inv I L t) (kont : ∀ I' L' t', Inv I' L' t' → Ex G mdL2 1976 (lls k) [] (mk I' L' t') 223 5127 P) : Ex G mdL2 1962 (lls k) [] (mk I L t) 223 5127 P := by
  obtain ⟨v, I1, L1, t1, h1, h2⟩ := T_digest (G := G)  hI
  refine ex_aload_n dL_law_1962 rfl ?_
  refine ex_cV (a := 0) (kd := 11) (N := 20) (T := TX11) (vs := []) dL_law_1963 rfl lk_L_222 rfl (by decide) (show K0 0 = (11, 20) from rfl) (show 0 < 223 by decide) ⟨⟨by decide, by decide⟩, by decide, by decide⟩ rfl (Nat.le_of_ble_eq_true rfl) rfl h1 (Rs.k ?_)
  show Ex G mdL2 1966 (lls k) [.long v] (mk I1 L1 t1) 223 5127 P
  refine ex_aload_n dL_law_1966 rfl ?_
  refine ex_cV (a := 200) (kd := 12) (N := 40) (T := TX12) (vs := []) dL_law_1967 rfl lk_L_225 rfl (by decide) (show K0 200 = (12, 40) from rfl) (show 200 < 223 by decide) ⟨⟨by decide, by decide⟩, by decide, by decide⟩ rfl (Nat.le_of_ble_eq_true rfl) rfl h2 ?_
  rintro r M1 ⟨rfl, I2, L2, t2, rfl, hI2⟩
  show Ex G mdL2 1970 (lls k) [.long v, .long v] (mk I2 L2 t2) 223 5127 P
  refine ex_lcmp dL_law_1970 ?_
  exact ex_if_eq 1976 dL_law_1971 (by decide) (fun _ => kont _ _ _ hI2) (fun z => absurd ((lg_cmp_eq v v).mpr rfl) z)
theorem and63 (x : Int32) : ∃ i, i < 64 ∧ x &&& 63 = nI i := by
  have h : (x &&& 63).toBitVec = x.toBitVec &&& 63#32 := rfl
  have h2 : (x &&& 63).toBitVec.toNat < 64 := by
    rw [h, BitVec.toNat_and]
    exact Nat.lt_of_le_of_lt Nat.and_le_right (by decide)
  refine ⟨(x &&& 63).toBitVec.toNat, h2, ?_⟩
  rw [← Int32.toBitVec_inj]
  have e : (nI (x &&& 63).toBitVec.toNat).toBitVec = BitVec.ofNat 32 (x &&& 63).toBitVec.toNat := rfl
  rw [e, BitVec.ofNat_toNat, BitVec.setWidth_eq]
set_option maxHeartbeats 4000000 in
theorem law_loop (hN : gN G ≤ 3584) : ∀ k, k ≤ gN G / 7 → ∀ I L t, Inv I L t → Ex G mdL2 18 (lls k) [] (mk I L t) 223 5127 (fun r _ => r = some (.int 1)) := by
  have eN : (nI (gN G) - 7).toInt = (gN G : Int) - 7 := by
    rw [Int32.toInt_sub, nI_toInt (by omega), (by decide : (7 : Int32).toInt = 7), Int.bmod_eq_of_le (by omega) (by omega)]
  refine dn ?_ ?_
  · intro I L t hI
    refine ex_iload_n dL_law_18 rfl ?_
    refine ex_aload_n dL_law_19 rfl ?_
    refine ex_slen dL_law_20 ?_
    refine ex_bipush (v := 7) dL_law_21 (by decide) ?_
    refine ex_isub dL_law_23 ?_
    refine ex_icmp_gt 1982 dL_law_24 (by decide) (fun _ => ?_) (fun z => absurd ?_ z)
    · refine ex_iconst (v := 1) dL_law_1982 (by decide) ?_
      exact ex_iret dL_law_1983 rfl rfl ⟨rfl, Nat.le_refl _⟩ rfl
    · rw [Int32.lt_iff_toInt_lt, eN, nI_toInt (by omega)]
      omega
  · intro k hk ih I L t hI
    have h7 : 7 * k + 7 ≤ gN G := by omega
    have kont : ∀ I' L' t', Inv I' L' t' → Ex G mdL2 1976 (lls k) [] (mk I' L' t') 223 5127 (fun r _ => r = some (.int 1)) := by
      intro I' L' t' hI'
      refine inc3 (v := nI (7 * (k + 1))) dL_law_1976 (nI_add (7 * k) 7) (by first | exact rfl | exact trivial) ?_
      refine ex_goto 18 dL_law_1979 (by decide) ?_
      exact ih I' L' t' hI'
    refine ex_iload_n dL_law_18 rfl ?_
    refine ex_aload_n dL_law_19 rfl ?_
    refine ex_slen dL_law_20 ?_
    refine ex_bipush (v := 7) dL_law_21 (by decide) ?_
    refine ex_isub dL_law_23 ?_
    refine ex_icmp_gt 1982 dL_law_24 (by decide) (fun z => absurd z ?_) (fun _ => ?_)
    · rw [Int32.lt_iff_toInt_lt, eN, nI_toInt (by omega)]
      omega
    refine ex_aload_n dL_law_27 rfl ?_
    refine ex_iload_n dL_law_28 rfl ?_
    refine ex_sld dL_law_29 (vp_in_nI (by omega) (by omega)) ?_
    refine ex_bipush (v := 63) dL_law_30 (by decide) ?_
    refine ex_iand dL_law_32 ?_
    refine ex_tsw 0 50 [252, 285, 328, 361, 384, 447, 470, 503, 546, 595, 628, 661, 694, 727, 802, 825, 858, 881, 914, 947, 990, 1013, 1036, 1049, 1072, 1095, 1128, 1151, 1204, 1267, 1300, 1333, 1356, 1399, 1442, 1485, 1528, 1561, 1614, 1637, 1680, 1713, 1756, 1819, 1862, 1875, 1889, 1903, 1926, 1939, 1962] 1976 dL_law_33 (by decide) (by decide) (by decide) (by decide) (by decide) (fun i hi hs => ?_) (fun hs => kont _ _ _ hI)
    have hi' : i = 0 ∨ i = 1 ∨ i = 2 ∨ i = 3 ∨ i = 4 ∨ i = 5 ∨ i = 6 ∨ i = 7 ∨ i = 8 ∨ i = 9 ∨ i = 10 ∨ i = 11 ∨ i = 12 ∨ i = 13 ∨ i = 14 ∨ i = 15 ∨ i = 16 ∨ i = 17 ∨ i = 18 ∨ i = 19 ∨ i = 20 ∨ i = 21 ∨ i = 22 ∨ i = 23 ∨ i = 24 ∨ i = 25 ∨ i = 26 ∨ i = 27 ∨ i = 28 ∨ i = 29 ∨ i = 30 ∨ i = 31 ∨ i = 32 ∨ i = 33 ∨ i = 34 ∨ i = 35 ∨ i = 36 ∨ i = 37 ∨ i = 38 ∨ i = 39 ∨ i = 40 ∨ i = 41 ∨ i = 42 ∨ i = 43 ∨ i = 44 ∨ i = 45 ∨ i = 46 ∨ i = 47 ∨ i = 48 ∨ i = 49 ∨ i = 50 := by omega
    rcases hi' with rfl | rfl | rfl | rfl | rfl | rfl | rfl | rfl | rfl | rfl | rfl | rfl | rfl | rfl | rfl | rfl | rfl | rfl | rfl | rfl | rfl | rfl | rfl | rfl | rfl | rfl | rfl | rfl | rfl | rfl | rfl | rfl | rfl | rfl | rfl | rfl | rfl | rfl | rfl | rfl | rfl | rfl | rfl | rfl | rfl | rfl | rfl | rfl | rfl | rfl | rfl
    · exact lc_row h7 hN hI kont
    · exact lc_lay h7 hN hI kont
    · exact lc_at h7 hN hI kont
    · exact lc_tear h7 hN hI kont
    · exact lc_copy h7 hN hI kont
    · exact lc_mean h7 hN hI kont
    · exact lc_text h7 hN hI kont
    · exact lc_put h7 hN hI kont
    · exact lc_fault h7 hN hI kont
    · exact lc_harbour h7 hN hI kont
    · exact lc_sea h7 hN hI kont
    · exact lc_about h7 hN hI kont
    · exact lc_set h7 hN hI kont
    · exact lc_ship h7 hN hI kont
    · exact lc_leave h7 hN hI kont
    · exact lc_night h7 hN hI kont
    · exact lc_go h7 hN hI kont
    · exact lc_cell h7 hN hI kont
    · exact lc_rides h7 hN hI kont
    · exact lc_gauge h7 hN hI kont
    · exact lc_keep h7 hN hI kont
    · exact lc_on h7 hN hI kont
    · exact lc_water h7 hN hI kont
    · exact lc_beat h7 hN hI kont
    · exact lc_span h7 hN hI kont
    · exact lc_ring h7 hN hI kont
    · exact lc_roll h7 hN hI kont
    · exact lc_kind h7 hN hI kont
    · exact lc_mark h7 hN hI kont
    · exact lc_quiet h7 hN hI kont
    · exact lc_still h7 hN hI kont
    · exact lc_wakes h7 hN hI kont
    · exact lc_pull h7 hN hI kont
    · exact lc_tight h7 hN hI kont
    · exact lc_where h7 hN hI kont
    · exact lc_tonight h7 hN hI kont
    · exact lc_odds h7 hN hI kont
    · exact lc_work h7 hN hI kont
    · exact lc_back h7 hN hI kont
    · exact lc_does h7 hN hI kont
    · exact lc_worse h7 hN hI kont
    · exact lc_least h7 hN hI kont
    · exact lc_since h7 hN hI kont
    · exact lc_which h7 hN hI kont
    · exact lc_asked h7 hN hI kont
    · exact lc_upper h7 hN hI kont
    · exact lc_lower h7 hN hI kont
    · exact lc_count h7 hN hI kont
    · exact lc_finding h7 hN hI kont
    · exact lc_findings h7 hN hI kont
    · exact lc_digest h7 hN hI kont
end
end R54
