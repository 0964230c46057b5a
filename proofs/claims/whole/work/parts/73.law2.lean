set_option maxHeartbeats 4000000 in
theorem lc_row {g : WG} {x : CX} {b L : Nat} {X : Nat → Int} {T : TT} {M : MM} {o sz i n kk : Nat} {S : ST} (hx : OKx g x RL cL_law 20) (hS : SCR g x b L X) (hi : i + 6 ≤ L) (hs : SIM T M o sz S) (hw : WFn kk S) (hk : kk < 1000000) (hK : ∀ T' M' sz' S', SIM T' M' o sz' S' → WFn (kk + 1) S' → Jd g x 1743 [vR (b), vR (o), vR (o + 83), vI (((i : Nat) : Int))] [] T' M' sz' (261 * n) (6993 * n)) : Jd g x 256 [vR (b), vR (o), vR (o + 83), vI (((i : Nat) : Int))] [] T M sz (261 + 261 * n) (6993 + 6993 * n) := by
  have hL := hS.l
  have hW := hw.s hk
  refine J_aload_n hx dL_law_256 (i := 1) rfl rfl ?_
  refine J_aload_n hx dL_law_257 (i := 0) rfl rfl ?_
  refine J_iload_n hx dL_law_258 (i := 3) rfl rfl ?_
  refine J_iconst (v := 1) hx dL_law_259 (by decide) ?_
  refine J_iadd (v := ((i : Nat) : Int) + 1) hx dL_law_260 (w32_id (by omega) (by omega)) ?_
  refine J_sld hx hS (i + 1) dL_law_261 (by omega) (by omega) ?_
  refine J_aload_n hx dL_law_262 (i := 0) rfl rfl ?_
  refine J_iload_n hx dL_law_263 (i := 3) rfl rfl ?_
  refine J_iconst (v := 2) hx dL_law_264 (by decide) ?_
  refine J_iadd (v := ((i : Nat) : Int) + 2) hx dL_law_265 (w32_id (by omega) (by omega)) ?_
  refine J_sld hx hS (i + 2) dL_law_266 (by omega) (by omega) ?_
  refine J_aload_n hx dL_law_267 (i := 0) rfl rfl ?_
  refine J_iload_n hx dL_law_268 (i := 3) rfl rfl ?_
  refine J_iconst (v := 3) hx dL_law_269 (by decide) ?_
  refine J_iadd (v := ((i : Nat) : Int) + 3) hx dL_law_270 (w32_id (by omega) (by omega)) ?_
  refine J_sld hx hS (i + 3) dL_law_271 (by omega) (by omega) ?_
  refine J_invV (As := [vI (X (i + 1)), vI (X (i + 2)), vI (X (i + 3))]) (st := []) hx lk_L_13 okX6_row dL_law_272 hs.1.o (by decide) rfl rfl rfl (Nat.le_of_ble_eq_true rfl) (Nat.zero_add _).symm (Nat.zero_add _).symm rfl (c_X6_row hs.1 hs.2.1 hW (hS.rg _) (hS.rg _) (hS.rg _) (simC hs (fun T1 M1 hC1 hN1 hX1 => ?_)))
  refine J_aload_n hx dL_law_275 (i := 2) rfl rfl ?_
  refine J_aload_n hx dL_law_276 (i := 0) rfl rfl ?_
  refine J_iload_n hx dL_law_277 (i := 3) rfl rfl ?_
  refine J_iconst (v := 1) hx dL_law_278 (by decide) ?_
  refine J_iadd (v := ((i : Nat) : Int) + 1) hx dL_law_279 (w32_id (by omega) (by omega)) ?_
  refine J_sld hx hS (i + 1) dL_law_280 (by omega) (by omega) ?_
  refine J_aload_n hx dL_law_281 (i := 0) rfl rfl ?_
  refine J_iload_n hx dL_law_282 (i := 3) rfl rfl ?_
  refine J_iconst (v := 2) hx dL_law_283 (by decide) ?_
  refine J_iadd (v := ((i : Nat) : Int) + 2) hx dL_law_284 (w32_id (by omega) (by omega)) ?_
  refine J_sld hx hS (i + 2) dL_law_285 (by omega) (by omega) ?_
  refine J_aload_n hx dL_law_286 (i := 0) rfl rfl ?_
  refine J_iload_n hx dL_law_287 (i := 3) rfl rfl ?_
  refine J_iconst (v := 3) hx dL_law_288 (by decide) ?_
  refine J_iadd (v := ((i : Nat) : Int) + 3) hx dL_law_289 (w32_id (by omega) (by omega)) ?_
  refine J_sld hx hS (i + 3) dL_law_290 (by omega) (by omega) ?_
  refine J_invV (As := [vI (X (i + 1)), vI (X (i + 2)), vI (X (i + 3))]) (st := [vI ((a_row S (X (i + 1)) (X (i + 2)) (X (i + 3))).1)]) hx lk_L_17 okX7_row dL_law_291 hX1.t.o (by decide) rfl rfl rfl (Nat.le_of_ble_eq_true rfl) (Nat.zero_add _).symm (Nat.zero_add _).symm rfl (c_X7_row hX1.t hX1.n hW (hS.rg _) (hS.rg _) (hS.rg _) (simR hC1 hN1 hX1 (k_row _ _ _ _) (fun M2 hs2 => ?_)))
  refine J_icmp_eq (tgt := 1743) hx dL_law_294 (by decide) (fun c1 => ?_) (fun c1 => ?_)
  · exact J_weak (hK _ _ _ _ hs2 (w_row _ _ _ hw)) (by omega) (by omega)
  · exact absurd rfl c1

set_option maxHeartbeats 4000000 in
theorem lc_set {g : WG} {x : CX} {b L : Nat} {X : Nat → Int} {T : TT} {M : MM} {o sz i n kk : Nat} {S : ST} (hx : OKx g x RL cL_law 20) (hS : SCR g x b L X) (hi : i + 6 ≤ L) (hs : SIM T M o sz S) (hw : WFn kk S) (hk : kk < 1000000) (hK : ∀ T' M' sz' S', SIM T' M' o sz' S' → WFn (kk + 1) S' → Jd g x 1743 [vR (b), vR (o), vR (o + 83), vI (((i : Nat) : Int))] [] T' M' sz' (261 * n) (6993 * n)) : Jd g x 299 [vR (b), vR (o), vR (o + 83), vI (((i : Nat) : Int))] [] T M sz (261 + 261 * n) (6993 + 6993 * n) := by
  have hL := hS.l
  have hW := hw.s hk
  refine J_aload_n hx dL_law_299 (i := 1) rfl rfl ?_
  refine J_aload_n hx dL_law_300 (i := 0) rfl rfl ?_
  refine J_iload_n hx dL_law_301 (i := 3) rfl rfl ?_
  refine J_iconst (v := 1) hx dL_law_302 (by decide) ?_
  refine J_iadd (v := ((i : Nat) : Int) + 1) hx dL_law_303 (w32_id (by omega) (by omega)) ?_
  refine J_sld hx hS (i + 1) dL_law_304 (by omega) (by omega) ?_
  refine J_aload_n hx dL_law_305 (i := 0) rfl rfl ?_
  refine J_iload_n hx dL_law_306 (i := 3) rfl rfl ?_
  refine J_iconst (v := 2) hx dL_law_307 (by decide) ?_
  refine J_iadd (v := ((i : Nat) : Int) + 2) hx dL_law_308 (w32_id (by omega) (by omega)) ?_
  refine J_sld hx hS (i + 2) dL_law_309 (by omega) (by omega) ?_
  refine J_aload_n hx dL_law_310 (i := 0) rfl rfl ?_
  refine J_iload_n hx dL_law_311 (i := 3) rfl rfl ?_
  refine J_iconst (v := 3) hx dL_law_312 (by decide) ?_
  refine J_iadd (v := ((i : Nat) : Int) + 3) hx dL_law_313 (w32_id (by omega) (by omega)) ?_
  refine J_sld hx hS (i + 3) dL_law_314 (by omega) (by omega) ?_
  refine J_i2l hx dL_law_315 ?_
  refine J_bipush (v := 32) hx dL_law_316 (by decide) ?_
  refine J_lshl (v := jlshl (X (i + 3)) 32) hx dL_law_318 rfl ?_
  refine J_aload_n hx dL_law_319 (i := 0) rfl rfl ?_
  refine J_iload_n hx dL_law_320 (i := 3) rfl rfl ?_
  refine J_iconst (v := 4) hx dL_law_321 (by decide) ?_
  refine J_iadd (v := ((i : Nat) : Int) + 4) hx dL_law_322 (w32_id (by omega) (by omega)) ?_
  refine J_sld hx hS (i + 4) dL_law_323 (by omega) (by omega) ?_
  refine J_i2l hx dL_law_324 ?_
  refine J_ldc2 (v := 4294967295) hx ct_L_18 dL_law_325 (by decide) ?_
  refine J_land (v := jland (X (i + 4)) 4294967295) hx dL_law_328 rfl ?_
  refine J_lor (v := jlor (jlshl (X (i + 3)) 32) (jland (X (i + 4)) 4294967295)) hx dL_law_329 rfl ?_
  refine J_invV (As := [vI (X (i + 1)), vI (X (i + 2)), vL (jlor (jlshl (X (i + 3)) 32) (jland (X (i + 4)) 4294967295))]) (st := []) hx lk_L_20 okX6_set dL_law_330 hs.1.o (by decide) rfl rfl rfl (Nat.le_of_ble_eq_true rfl) (Nat.zero_add _).symm (Nat.zero_add _).symm rfl (c_X6_set hs.1 hs.2.1 hW (hS.rg _) (hS.rg _) (simC hs (fun T1 M1 hC1 hN1 hX1 => ?_)))
  refine J_aload_n hx dL_law_333 (i := 2) rfl rfl ?_
  refine J_aload_n hx dL_law_334 (i := 0) rfl rfl ?_
  refine J_iload_n hx dL_law_335 (i := 3) rfl rfl ?_
  refine J_iconst (v := 1) hx dL_law_336 (by decide) ?_
  refine J_iadd (v := ((i : Nat) : Int) + 1) hx dL_law_337 (w32_id (by omega) (by omega)) ?_
  refine J_sld hx hS (i + 1) dL_law_338 (by omega) (by omega) ?_
  refine J_aload_n hx dL_law_339 (i := 0) rfl rfl ?_
  refine J_iload_n hx dL_law_340 (i := 3) rfl rfl ?_
  refine J_iconst (v := 2) hx dL_law_341 (by decide) ?_
  refine J_iadd (v := ((i : Nat) : Int) + 2) hx dL_law_342 (w32_id (by omega) (by omega)) ?_
  refine J_sld hx hS (i + 2) dL_law_343 (by omega) (by omega) ?_
  refine J_aload_n hx dL_law_344 (i := 0) rfl rfl ?_
  refine J_iload_n hx dL_law_345 (i := 3) rfl rfl ?_
  refine J_iconst (v := 3) hx dL_law_346 (by decide) ?_
  refine J_iadd (v := ((i : Nat) : Int) + 3) hx dL_law_347 (w32_id (by omega) (by omega)) ?_
  refine J_sld hx hS (i + 3) dL_law_348 (by omega) (by omega) ?_
  refine J_i2l hx dL_law_349 ?_
  refine J_bipush (v := 32) hx dL_law_350 (by decide) ?_
  refine J_lshl (v := jlshl (X (i + 3)) 32) hx dL_law_352 rfl ?_
  refine J_aload_n hx dL_law_353 (i := 0) rfl rfl ?_
  refine J_iload_n hx dL_law_354 (i := 3) rfl rfl ?_
  refine J_iconst (v := 4) hx dL_law_355 (by decide) ?_
  refine J_iadd (v := ((i : Nat) : Int) + 4) hx dL_law_356 (w32_id (by omega) (by omega)) ?_
  refine J_sld hx hS (i + 4) dL_law_357 (by omega) (by omega) ?_
  refine J_i2l hx dL_law_358 ?_
  refine J_ldc2 (v := 4294967295) hx ct_L_18 dL_law_359 (by decide) ?_
  refine J_land (v := jland (X (i + 4)) 4294967295) hx dL_law_362 rfl ?_
  refine J_lor (v := jlor (jlshl (X (i + 3)) 32) (jland (X (i + 4)) 4294967295)) hx dL_law_363 rfl ?_
  refine J_invV (As := [vI (X (i + 1)), vI (X (i + 2)), vL (jlor (jlshl (X (i + 3)) 32) (jland (X (i + 4)) 4294967295))]) (st := [vI ((a_set S (X (i + 1)) (X (i + 2)) (jlor (jlshl (X (i + 3)) 32) (jland (X (i + 4)) 4294967295))).1)]) hx lk_L_24 okX7_set dL_law_364 hX1.t.o (by decide) rfl rfl rfl (Nat.le_of_ble_eq_true rfl) (Nat.zero_add _).symm (Nat.zero_add _).symm rfl (c_X7_set hX1.t hX1.n hW (hS.rg _) (hS.rg _) (simR hC1 hN1 hX1 (k_set _ _ _ _) (fun M2 hs2 => ?_)))
  refine J_icmp_eq (tgt := 1743) hx dL_law_367 (by decide) (fun c1 => ?_) (fun c1 => ?_)
  · exact J_weak (hK _ _ _ _ hs2 (w_set _ _ _ hw)) (by omega) (by omega)
  · exact absurd rfl c1

set_option maxHeartbeats 4000000 in
theorem lc_copy {g : WG} {x : CX} {b L : Nat} {X : Nat → Int} {T : TT} {M : MM} {o sz i n kk : Nat} {S : ST} (hx : OKx g x RL cL_law 20) (hS : SCR g x b L X) (hi : i + 6 ≤ L) (hs : SIM T M o sz S) (hw : WFn kk S) (hk : kk < 1000000) (hK : ∀ T' M' sz' S', SIM T' M' o sz' S' → WFn (kk + 1) S' → Jd g x 1743 [vR (b), vR (o), vR (o + 83), vI (((i : Nat) : Int))] [] T' M' sz' (261 * n) (6993 * n)) : Jd g x 372 [vR (b), vR (o), vR (o + 83), vI (((i : Nat) : Int))] [] T M sz (261 + 261 * n) (6993 + 6993 * n) := by
  have hL := hS.l
  have hW := hw.s hk
  refine J_aload_n hx dL_law_372 (i := 1) rfl rfl ?_
  refine J_aload_n hx dL_law_373 (i := 0) rfl rfl ?_
  refine J_iload_n hx dL_law_374 (i := 3) rfl rfl ?_
  refine J_iconst (v := 1) hx dL_law_375 (by decide) ?_
  refine J_iadd (v := ((i : Nat) : Int) + 1) hx dL_law_376 (w32_id (by omega) (by omega)) ?_
  refine J_sld hx hS (i + 1) dL_law_377 (by omega) (by omega) ?_
  refine J_aload_n hx dL_law_378 (i := 0) rfl rfl ?_
  refine J_iload_n hx dL_law_379 (i := 3) rfl rfl ?_
  refine J_iconst (v := 2) hx dL_law_380 (by decide) ?_
  refine J_iadd (v := ((i : Nat) : Int) + 2) hx dL_law_381 (w32_id (by omega) (by omega)) ?_
  refine J_sld hx hS (i + 2) dL_law_382 (by omega) (by omega) ?_
  refine J_aload_n hx dL_law_383 (i := 0) rfl rfl ?_
  refine J_iload_n hx dL_law_384 (i := 3) rfl rfl ?_
  refine J_iconst (v := 3) hx dL_law_385 (by decide) ?_
  refine J_iadd (v := ((i : Nat) : Int) + 3) hx dL_law_386 (w32_id (by omega) (by omega)) ?_
  refine J_sld hx hS (i + 3) dL_law_387 (by omega) (by omega) ?_
  refine J_aload_n hx dL_law_388 (i := 0) rfl rfl ?_
  refine J_iload_n hx dL_law_389 (i := 3) rfl rfl ?_
  refine J_iconst (v := 4) hx dL_law_390 (by decide) ?_
  refine J_iadd (v := ((i : Nat) : Int) + 4) hx dL_law_391 (w32_id (by omega) (by omega)) ?_
  refine J_sld hx hS (i + 4) dL_law_392 (by omega) (by omega) ?_
  refine J_aload_n hx dL_law_393 (i := 0) rfl rfl ?_
  refine J_iload_n hx dL_law_394 (i := 3) rfl rfl ?_
  refine J_iconst (v := 5) hx dL_law_395 (by decide) ?_
  refine J_iadd (v := ((i : Nat) : Int) + 5) hx dL_law_396 (w32_id (by omega) (by omega)) ?_
  refine J_sld hx hS (i + 5) dL_law_397 (by omega) (by omega) ?_
  refine J_invV (As := [vI (X (i + 1)), vI (X (i + 2)), vI (X (i + 3)), vI (X (i + 4)), vI (X (i + 5))]) (st := []) hx lk_L_25 okX6_copy dL_law_398 hs.1.o (by decide) rfl rfl rfl (Nat.le_of_ble_eq_true rfl) (Nat.zero_add _).symm (Nat.zero_add _).symm rfl (c_X6_copy hs.1 hs.2.1 hW (hS.rg _) (hS.rg _) (hS.rg _) (hS.rg _) (hS.rg _) (simC hs (fun T1 M1 hC1 hN1 hX1 => ?_)))
  refine J_aload_n hx dL_law_401 (i := 2) rfl rfl ?_
  refine J_aload_n hx dL_law_402 (i := 0) rfl rfl ?_
  refine J_iload_n hx dL_law_403 (i := 3) rfl rfl ?_
  refine J_iconst (v := 1) hx dL_law_404 (by decide) ?_
  refine J_iadd (v := ((i : Nat) : Int) + 1) hx dL_law_405 (w32_id (by omega) (by omega)) ?_
  refine J_sld hx hS (i + 1) dL_law_406 (by omega) (by omega) ?_
  refine J_aload_n hx dL_law_407 (i := 0) rfl rfl ?_
  refine J_iload_n hx dL_law_408 (i := 3) rfl rfl ?_
  refine J_iconst (v := 2) hx dL_law_409 (by decide) ?_
  refine J_iadd (v := ((i : Nat) : Int) + 2) hx dL_law_410 (w32_id (by omega) (by omega)) ?_
  refine J_sld hx hS (i + 2) dL_law_411 (by omega) (by omega) ?_
  refine J_aload_n hx dL_law_412 (i := 0) rfl rfl ?_
  refine J_iload_n hx dL_law_413 (i := 3) rfl rfl ?_
  refine J_iconst (v := 3) hx dL_law_414 (by decide) ?_
  refine J_iadd (v := ((i : Nat) : Int) + 3) hx dL_law_415 (w32_id (by omega) (by omega)) ?_
  refine J_sld hx hS (i + 3) dL_law_416 (by omega) (by omega) ?_
  refine J_aload_n hx dL_law_417 (i := 0) rfl rfl ?_
  refine J_iload_n hx dL_law_418 (i := 3) rfl rfl ?_
  refine J_iconst (v := 4) hx dL_law_419 (by decide) ?_
  refine J_iadd (v := ((i : Nat) : Int) + 4) hx dL_law_420 (w32_id (by omega) (by omega)) ?_
  refine J_sld hx hS (i + 4) dL_law_421 (by omega) (by omega) ?_
  refine J_aload_n hx dL_law_422 (i := 0) rfl rfl ?_
  refine J_iload_n hx dL_law_423 (i := 3) rfl rfl ?_
  refine J_iconst (v := 5) hx dL_law_424 (by decide) ?_
  refine J_iadd (v := ((i : Nat) : Int) + 5) hx dL_law_425 (w32_id (by omega) (by omega)) ?_
  refine J_sld hx hS (i + 5) dL_law_426 (by omega) (by omega) ?_
  refine J_invV (As := [vI (X (i + 1)), vI (X (i + 2)), vI (X (i + 3)), vI (X (i + 4)), vI (X (i + 5))]) (st := [vI ((a_copy S (X (i + 1)) (X (i + 2)) (X (i + 3)) (X (i + 4)) (X (i + 5))).1)]) hx lk_L_29 okX7_copy dL_law_427 hX1.t.o (by decide) rfl rfl rfl (Nat.le_of_ble_eq_true rfl) (Nat.zero_add _).symm (Nat.zero_add _).symm rfl (c_X7_copy hX1.t hX1.n hW (hS.rg _) (hS.rg _) (hS.rg _) (hS.rg _) (hS.rg _) (simR hC1 hN1 hX1 (k_copy _ _ _ _ _ _) (fun M2 hs2 => ?_)))
  refine J_icmp_eq (tgt := 1743) hx dL_law_430 (by decide) (fun c1 => ?_) (fun c1 => ?_)
  · exact J_weak (hK _ _ _ _ hs2 (w_copy _ _ _ _ _ hw)) (by omega) (by omega)
  · exact absurd rfl c1

set_option maxHeartbeats 4000000 in
theorem lc_element {g : WG} {x : CX} {b L : Nat} {X : Nat → Int} {T : TT} {M : MM} {o sz i n kk : Nat} {S : ST} (hx : OKx g x RL cL_law 20) (hS : SCR g x b L X) (hi : i + 6 ≤ L) (hs : SIM T M o sz S) (hw : WFn kk S) (hk : kk < 1000000) (hK : ∀ T' M' sz' S', SIM T' M' o sz' S' → WFn (kk + 1) S' → Jd g x 1743 [vR (b), vR (o), vR (o + 83), vI (((i : Nat) : Int))] [] T' M' sz' (261 * n) (6993 * n)) : Jd g x 435 [vR (b), vR (o), vR (o + 83), vI (((i : Nat) : Int))] [] T M sz (261 + 261 * n) (6993 + 6993 * n) := by
  have hL := hS.l
  have hW := hw.s hk
  refine J_aload_n hx dL_law_435 (i := 1) rfl rfl ?_
  refine J_aload_n hx dL_law_436 (i := 0) rfl rfl ?_
  refine J_iload_n hx dL_law_437 (i := 3) rfl rfl ?_
  refine J_iconst (v := 1) hx dL_law_438 (by decide) ?_
  refine J_iadd (v := ((i : Nat) : Int) + 1) hx dL_law_439 (w32_id (by omega) (by omega)) ?_
  refine J_sld hx hS (i + 1) dL_law_440 (by omega) (by omega) ?_
  refine J_aload_n hx dL_law_441 (i := 0) rfl rfl ?_
  refine J_iload_n hx dL_law_442 (i := 3) rfl rfl ?_
  refine J_iconst (v := 2) hx dL_law_443 (by decide) ?_
  refine J_iadd (v := ((i : Nat) : Int) + 2) hx dL_law_444 (w32_id (by omega) (by omega)) ?_
  refine J_sld hx hS (i + 2) dL_law_445 (by omega) (by omega) ?_
  refine J_invV (As := [vI (X (i + 1)), vI (X (i + 2))]) (st := []) hx lk_L_30 okX6_element dL_law_446 hs.1.o (by decide) rfl rfl rfl (Nat.le_of_ble_eq_true rfl) (Nat.zero_add _).symm (Nat.zero_add _).symm rfl (c_X6_element hs.1 hs.2.1 hW ?_)
  refine J_aload_n hx dL_law_449 (i := 2) rfl rfl ?_
  refine J_aload_n hx dL_law_450 (i := 0) rfl rfl ?_
  refine J_iload_n hx dL_law_451 (i := 3) rfl rfl ?_
  refine J_iconst (v := 1) hx dL_law_452 (by decide) ?_
  refine J_iadd (v := ((i : Nat) : Int) + 1) hx dL_law_453 (w32_id (by omega) (by omega)) ?_
  refine J_sld hx hS (i + 1) dL_law_454 (by omega) (by omega) ?_
  refine J_aload_n hx dL_law_455 (i := 0) rfl rfl ?_
  refine J_iload_n hx dL_law_456 (i := 3) rfl rfl ?_
  refine J_iconst (v := 2) hx dL_law_457 (by decide) ?_
  refine J_iadd (v := ((i : Nat) : Int) + 2) hx dL_law_458 (w32_id (by omega) (by omega)) ?_
  refine J_sld hx hS (i + 2) dL_law_459 (by omega) (by omega) ?_
  refine J_invV (As := [vI (X (i + 1)), vI (X (i + 2))]) (st := [vL (elmS S (X (i + 1)) (X (i + 2)))]) hx lk_L_34 okX7_element dL_law_460 hs.2.2.t.o (by decide) rfl rfl rfl (Nat.le_of_ble_eq_true rfl) (Nat.zero_add _).symm (Nat.zero_add _).symm rfl (c_X7_element hs.2.2.t hs.2.2.n hW ?_)
  refine J_lc_eq (tgt := 1743) hx dL_law_463 dL_law_464 (by decide) (fun c1 => ?_) (fun c1 => ?_)
  · exact J_weak (hK _ _ _ _ hs (hw.up)) (by omega) (by omega)
  · exact absurd rfl c1

set_option maxHeartbeats 4000000 in
theorem lc_holds {g : WG} {x : CX} {b L : Nat} {X : Nat → Int} {T : TT} {M : MM} {o sz i n kk : Nat} {S : ST} (hx : OKx g x RL cL_law 20) (hS : SCR g x b L X) (hi : i + 6 ≤ L) (hs : SIM T M o sz S) (hw : WFn kk S) (hk : kk < 1000000) (hK : ∀ T' M' sz' S', SIM T' M' o sz' S' → WFn (kk + 1) S' → Jd g x 1743 [vR (b), vR (o), vR (o + 83), vI (((i : Nat) : Int))] [] T' M' sz' (261 * n) (6993 * n)) : Jd g x 469 [vR (b), vR (o), vR (o + 83), vI (((i : Nat) : Int))] [] T M sz (261 + 261 * n) (6993 + 6993 * n) := by
  have hL := hS.l
  have hW := hw.s hk
  refine J_aload_n hx dL_law_469 (i := 1) rfl rfl ?_
  refine J_aload_n hx dL_law_470 (i := 0) rfl rfl ?_
  refine J_iload_n hx dL_law_471 (i := 3) rfl rfl ?_
  refine J_iconst (v := 1) hx dL_law_472 (by decide) ?_
  refine J_iadd (v := ((i : Nat) : Int) + 1) hx dL_law_473 (w32_id (by omega) (by omega)) ?_
  refine J_sld hx hS (i + 1) dL_law_474 (by omega) (by omega) ?_
  refine J_invV (As := [vI (X (i + 1))]) (st := []) hx lk_L_35 okX6_holds dL_law_475 hs.1.o (by decide) rfl rfl rfl (Nat.le_of_ble_eq_true rfl) (Nat.zero_add _).symm (Nat.zero_add _).symm rfl (c_X6_holds hs.1 hs.2.1 hW (hS.rg _) (simC hs (fun T1 M1 hC1 hN1 hX1 => ?_)))
  refine J_aload_n hx dL_law_478 (i := 2) rfl rfl ?_
  refine J_aload_n hx dL_law_479 (i := 0) rfl rfl ?_
  refine J_iload_n hx dL_law_480 (i := 3) rfl rfl ?_
  refine J_iconst (v := 1) hx dL_law_481 (by decide) ?_
  refine J_iadd (v := ((i : Nat) : Int) + 1) hx dL_law_482 (w32_id (by omega) (by omega)) ?_
  refine J_sld hx hS (i + 1) dL_law_483 (by omega) (by omega) ?_
  refine J_invV (As := [vI (X (i + 1))]) (st := [vI ((a_holds S (X (i + 1))).1)]) hx lk_L_39 okX7_holds dL_law_484 hX1.t.o (by decide) rfl rfl rfl (Nat.le_of_ble_eq_true rfl) (Nat.zero_add _).symm (Nat.zero_add _).symm rfl (c_X7_holds hX1.t hX1.n hW (hS.rg _) (simR hC1 hN1 hX1 (k_holds _ _) (fun M2 hs2 => ?_)))
  refine J_icmp_eq (tgt := 1743) hx dL_law_487 (by decide) (fun c1 => ?_) (fun c1 => ?_)
  · exact J_weak (hK _ _ _ _ hs2 (w_holds _ hw)) (by omega) (by omega)
  · exact absurd rfl c1

set_option maxHeartbeats 4000000 in
theorem lc_show {g : WG} {x : CX} {b L : Nat} {X : Nat → Int} {T : TT} {M : MM} {o sz i n kk : Nat} {S : ST} (hx : OKx g x RL cL_law 20) (hS : SCR g x b L X) (hi : i + 6 ≤ L) (hs : SIM T M o sz S) (hw : WFn kk S) (hk : kk < 1000000) (hK : ∀ T' M' sz' S', SIM T' M' o sz' S' → WFn (kk + 1) S' → Jd g x 1743 [vR (b), vR (o), vR (o + 83), vI (((i : Nat) : Int))] [] T' M' sz' (261 * n) (6993 * n)) : Jd g x 492 [vR (b), vR (o), vR (o + 83), vI (((i : Nat) : Int))] [] T M sz (261 + 261 * n) (6993 + 6993 * n) := by
  have hL := hS.l
  have hW := hw.s hk
  refine J_aload_n hx dL_law_492 (i := 1) rfl rfl ?_
  refine J_aload_n hx dL_law_493 (i := 0) rfl rfl ?_
  refine J_iload_n hx dL_law_494 (i := 3) rfl rfl ?_
  refine J_iconst (v := 1) hx dL_law_495 (by decide) ?_
  refine J_iadd (v := ((i : Nat) : Int) + 1) hx dL_law_496 (w32_id (by omega) (by omega)) ?_
  refine J_sld hx hS (i + 1) dL_law_497 (by omega) (by omega) ?_
  refine J_aload_n hx dL_law_498 (i := 0) rfl rfl ?_
  refine J_iload_n hx dL_law_499 (i := 3) rfl rfl ?_
  refine J_iconst (v := 2) hx dL_law_500 (by decide) ?_
  refine J_iadd (v := ((i : Nat) : Int) + 2) hx dL_law_501 (w32_id (by omega) (by omega)) ?_
  refine J_sld hx hS (i + 2) dL_law_502 (by omega) (by omega) ?_
  refine J_invV (As := [vI (X (i + 1)), vI (X (i + 2))]) (st := []) hx lk_L_40 okX6_show dL_law_503 hs.1.o (by decide) rfl rfl rfl (Nat.le_of_ble_eq_true rfl) (Nat.zero_add _).symm (Nat.zero_add _).symm rfl (c_X6_show hs.1 hs.2.1 hW (hS.rg _) (hS.rg _) (simC hs (fun T1 M1 hC1 hN1 hX1 => ?_)))
  refine J_aload_n hx dL_law_506 (i := 2) rfl rfl ?_
  refine J_aload_n hx dL_law_507 (i := 0) rfl rfl ?_
  refine J_iload_n hx dL_law_508 (i := 3) rfl rfl ?_
  refine J_iconst (v := 1) hx dL_law_509 (by decide) ?_
  refine J_iadd (v := ((i : Nat) : Int) + 1) hx dL_law_510 (w32_id (by omega) (by omega)) ?_
  refine J_sld hx hS (i + 1) dL_law_511 (by omega) (by omega) ?_
  refine J_aload_n hx dL_law_512 (i := 0) rfl rfl ?_
  refine J_iload_n hx dL_law_513 (i := 3) rfl rfl ?_
  refine J_iconst (v := 2) hx dL_law_514 (by decide) ?_
  refine J_iadd (v := ((i : Nat) : Int) + 2) hx dL_law_515 (w32_id (by omega) (by omega)) ?_
  refine J_sld hx hS (i + 2) dL_law_516 (by omega) (by omega) ?_
  refine J_invV (As := [vI (X (i + 1)), vI (X (i + 2))]) (st := [vI ((a_show S (X (i + 1)) (X (i + 2))).1)]) hx lk_L_44 okX7_show dL_law_517 hX1.t.o (by decide) rfl rfl rfl (Nat.le_of_ble_eq_true rfl) (Nat.zero_add _).symm (Nat.zero_add _).symm rfl (c_X7_show hX1.t hX1.n hW (hS.rg _) (hS.rg _) (simR hC1 hN1 hX1 (k_show _ _ _) (fun M2 hs2 => ?_)))
  refine J_icmp_eq (tgt := 1743) hx dL_law_520 (by decide) (fun c1 => ?_) (fun c1 => ?_)
  · exact J_weak (hK _ _ _ _ hs2 (w_show _ _ hw)) (by omega) (by omega)
  · exact absurd rfl c1

set_option maxHeartbeats 4000000 in
theorem lc_says {g : WG} {x : CX} {b L : Nat} {X : Nat → Int} {T : TT} {M : MM} {o sz i n kk : Nat} {S : ST} (hx : OKx g x RL cL_law 20) (hS : SCR g x b L X) (hi : i + 6 ≤ L) (hs : SIM T M o sz S) (hw : WFn kk S) (hk : kk < 1000000) (hK : ∀ T' M' sz' S', SIM T' M' o sz' S' → WFn (kk + 1) S' → Jd g x 1743 [vR (b), vR (o), vR (o + 83), vI (((i : Nat) : Int))] [] T' M' sz' (261 * n) (6993 * n)) : Jd g x 525 [vR (b), vR (o), vR (o + 83), vI (((i : Nat) : Int))] [] T M sz (261 + 261 * n) (6993 + 6993 * n) := by
  have hL := hS.l
  have hW := hw.s hk
  refine J_aload_n hx dL_law_525 (i := 1) rfl rfl ?_
  refine J_aload_n hx dL_law_526 (i := 0) rfl rfl ?_
  refine J_iload_n hx dL_law_527 (i := 3) rfl rfl ?_
  refine J_iconst (v := 1) hx dL_law_528 (by decide) ?_
  refine J_iadd (v := ((i : Nat) : Int) + 1) hx dL_law_529 (w32_id (by omega) (by omega)) ?_
  refine J_sld hx hS (i + 1) dL_law_530 (by omega) (by omega) ?_
  refine J_aload_n hx dL_law_531 (i := 0) rfl rfl ?_
  refine J_iload_n hx dL_law_532 (i := 3) rfl rfl ?_
  refine J_iconst (v := 2) hx dL_law_533 (by decide) ?_
  refine J_iadd (v := ((i : Nat) : Int) + 2) hx dL_law_534 (w32_id (by omega) (by omega)) ?_
  refine J_sld hx hS (i + 2) dL_law_535 (by omega) (by omega) ?_
  refine J_invV (As := [vI (X (i + 1)), vI (X (i + 2))]) (st := []) hx lk_L_45 okX6_says dL_law_536 hs.1.o (by decide) rfl rfl rfl (Nat.le_of_ble_eq_true rfl) (Nat.zero_add _).symm (Nat.zero_add _).symm rfl (c_X6_says hs.1 hs.2.1 hW (hS.rg _) (hS.rg _) (simC hs (fun T1 M1 hC1 hN1 hX1 => ?_)))
  refine J_aload_n hx dL_law_539 (i := 2) rfl rfl ?_
  refine J_aload_n hx dL_law_540 (i := 0) rfl rfl ?_
  refine J_iload_n hx dL_law_541 (i := 3) rfl rfl ?_
  refine J_iconst (v := 1) hx dL_law_542 (by decide) ?_
  refine J_iadd (v := ((i : Nat) : Int) + 1) hx dL_law_543 (w32_id (by omega) (by omega)) ?_
  refine J_sld hx hS (i + 1) dL_law_544 (by omega) (by omega) ?_
  refine J_aload_n hx dL_law_545 (i := 0) rfl rfl ?_
  refine J_iload_n hx dL_law_546 (i := 3) rfl rfl ?_
  refine J_iconst (v := 2) hx dL_law_547 (by decide) ?_
  refine J_iadd (v := ((i : Nat) : Int) + 2) hx dL_law_548 (w32_id (by omega) (by omega)) ?_
  refine J_sld hx hS (i + 2) dL_law_549 (by omega) (by omega) ?_
  refine J_invV (As := [vI (X (i + 1)), vI (X (i + 2))]) (st := [vI ((a_says S (X (i + 1)) (X (i + 2))).1)]) hx lk_L_48 okX7_says dL_law_550 hX1.t.o (by decide) rfl rfl rfl (Nat.le_of_ble_eq_true rfl) (Nat.zero_add _).symm (Nat.zero_add _).symm rfl (c_X7_says hX1.t hX1.n hW (hS.rg _) (hS.rg _) (simR hC1 hN1 hX1 (k_says _ _ _) (fun M2 hs2 => ?_)))
  refine J_icmp_eq (tgt := 1743) hx dL_law_553 (by decide) (fun c1 => ?_) (fun c1 => ?_)
  · exact J_weak (hK _ _ _ _ hs2 (w_says _ _ hw)) (by omega) (by omega)
  · exact absurd rfl c1

set_option maxHeartbeats 4000000 in
theorem lc_one {g : WG} {x : CX} {b L : Nat} {X : Nat → Int} {T : TT} {M : MM} {o sz i n kk : Nat} {S : ST} (hx : OKx g x RL cL_law 20) (hS : SCR g x b L X) (hi : i + 6 ≤ L) (hs : SIM T M o sz S) (hw : WFn kk S) (hk : kk < 1000000) (hK : ∀ T' M' sz' S', SIM T' M' o sz' S' → WFn (kk + 1) S' → Jd g x 1743 [vR (b), vR (o), vR (o + 83), vI (((i : Nat) : Int))] [] T' M' sz' (261 * n) (6993 * n)) : Jd g x 558 [vR (b), vR (o), vR (o + 83), vI (((i : Nat) : Int))] [] T M sz (261 + 261 * n) (6993 + 6993 * n) := by
  have hL := hS.l
  have hW := hw.s hk
  refine J_aload_n hx dL_law_558 (i := 1) rfl rfl ?_
  refine J_aload_n hx dL_law_559 (i := 0) rfl rfl ?_
  refine J_iload_n hx dL_law_560 (i := 3) rfl rfl ?_
  refine J_iconst (v := 1) hx dL_law_561 (by decide) ?_
  refine J_iadd (v := ((i : Nat) : Int) + 1) hx dL_law_562 (w32_id (by omega) (by omega)) ?_
  refine J_sld hx hS (i + 1) dL_law_563 (by omega) (by omega) ?_
  refine J_aload_n hx dL_law_564 (i := 0) rfl rfl ?_
  refine J_iload_n hx dL_law_565 (i := 3) rfl rfl ?_
  refine J_iconst (v := 2) hx dL_law_566 (by decide) ?_
  refine J_iadd (v := ((i : Nat) : Int) + 2) hx dL_law_567 (w32_id (by omega) (by omega)) ?_
  refine J_sld hx hS (i + 2) dL_law_568 (by omega) (by omega) ?_
  refine J_aload_n hx dL_law_569 (i := 0) rfl rfl ?_
  refine J_iload_n hx dL_law_570 (i := 3) rfl rfl ?_
  refine J_iconst (v := 3) hx dL_law_571 (by decide) ?_
  refine J_iadd (v := ((i : Nat) : Int) + 3) hx dL_law_572 (w32_id (by omega) (by omega)) ?_
  refine J_sld hx hS (i + 3) dL_law_573 (by omega) (by omega) ?_
  refine J_aload_n hx dL_law_574 (i := 0) rfl rfl ?_
  refine J_iload_n hx dL_law_575 (i := 3) rfl rfl ?_
  refine J_iconst (v := 4) hx dL_law_576 (by decide) ?_
  refine J_iadd (v := ((i : Nat) : Int) + 4) hx dL_law_577 (w32_id (by omega) (by omega)) ?_
  refine J_sld hx hS (i + 4) dL_law_578 (by omega) (by omega) ?_
  refine J_aload_n hx dL_law_579 (i := 0) rfl rfl ?_
  refine J_iload_n hx dL_law_580 (i := 3) rfl rfl ?_
  refine J_iconst (v := 5) hx dL_law_581 (by decide) ?_
  refine J_iadd (v := ((i : Nat) : Int) + 5) hx dL_law_582 (w32_id (by omega) (by omega)) ?_
  refine J_sld hx hS (i + 5) dL_law_583 (by omega) (by omega) ?_
  refine J_invV (As := [vI (X (i + 1)), vI (X (i + 2)), vI (X (i + 3)), vI (X (i + 4)), vI (X (i + 5))]) (st := []) hx lk_L_49 okX6_one dL_law_584 hs.1.o (by decide) rfl rfl rfl (Nat.le_of_ble_eq_true rfl) (Nat.zero_add _).symm (Nat.zero_add _).symm rfl (c_X6_one hs.1 hs.2.1 hW (hS.rg _) (hS.rg _) (hS.rg _) (hS.rg _) (hS.rg _) (simC hs (fun T1 M1 hC1 hN1 hX1 => ?_)))
  refine J_aload_n hx dL_law_587 (i := 2) rfl rfl ?_
  refine J_aload_n hx dL_law_588 (i := 0) rfl rfl ?_
  refine J_iload_n hx dL_law_589 (i := 3) rfl rfl ?_
  refine J_iconst (v := 1) hx dL_law_590 (by decide) ?_
  refine J_iadd (v := ((i : Nat) : Int) + 1) hx dL_law_591 (w32_id (by omega) (by omega)) ?_
  refine J_sld hx hS (i + 1) dL_law_592 (by omega) (by omega) ?_
  refine J_aload_n hx dL_law_593 (i := 0) rfl rfl ?_
  refine J_iload_n hx dL_law_594 (i := 3) rfl rfl ?_
  refine J_iconst (v := 2) hx dL_law_595 (by decide) ?_
  refine J_iadd (v := ((i : Nat) : Int) + 2) hx dL_law_596 (w32_id (by omega) (by omega)) ?_
  refine J_sld hx hS (i + 2) dL_law_597 (by omega) (by omega) ?_
  refine J_aload_n hx dL_law_598 (i := 0) rfl rfl ?_
  refine J_iload_n hx dL_law_599 (i := 3) rfl rfl ?_
  refine J_iconst (v := 3) hx dL_law_600 (by decide) ?_
  refine J_iadd (v := ((i : Nat) : Int) + 3) hx dL_law_601 (w32_id (by omega) (by omega)) ?_
  refine J_sld hx hS (i + 3) dL_law_602 (by omega) (by omega) ?_
  refine J_aload_n hx dL_law_603 (i := 0) rfl rfl ?_
  refine J_iload_n hx dL_law_604 (i := 3) rfl rfl ?_
  refine J_iconst (v := 4) hx dL_law_605 (by decide) ?_
  refine J_iadd (v := ((i : Nat) : Int) + 4) hx dL_law_606 (w32_id (by omega) (by omega)) ?_
  refine J_sld hx hS (i + 4) dL_law_607 (by omega) (by omega) ?_
  refine J_aload_n hx dL_law_608 (i := 0) rfl rfl ?_
  refine J_iload_n hx dL_law_609 (i := 3) rfl rfl ?_
  refine J_iconst (v := 5) hx dL_law_610 (by decide) ?_
  refine J_iadd (v := ((i : Nat) : Int) + 5) hx dL_law_611 (w32_id (by omega) (by omega)) ?_
  refine J_sld hx hS (i + 5) dL_law_612 (by omega) (by omega) ?_
  refine J_invV (As := [vI (X (i + 1)), vI (X (i + 2)), vI (X (i + 3)), vI (X (i + 4)), vI (X (i + 5))]) (st := [vI ((a_one S (X (i + 1)) (X (i + 2)) (X (i + 3)) (X (i + 4)) (X (i + 5))).1)]) hx lk_L_52 okX7_one dL_law_613 hX1.t.o (by decide) rfl rfl rfl (Nat.le_of_ble_eq_true rfl) (Nat.zero_add _).symm (Nat.zero_add _).symm rfl (c_X7_one hX1.t hX1.n hW (hS.rg _) (hS.rg _) (hS.rg _) (hS.rg _) (hS.rg _) (simR hC1 hN1 hX1 (k_one _ _ _ _ _ _) (fun M2 hs2 => ?_)))
  refine J_icmp_eq (tgt := 1743) hx dL_law_616 (by decide) (fun c1 => ?_) (fun c1 => ?_)
  · exact J_weak (hK _ _ _ _ hs2 (w_one _ _ _ _ _ hw)) (by omega) (by omega)
  · exact absurd rfl c1

set_option maxHeartbeats 4000000 in
theorem lc_tell {g : WG} {x : CX} {b L : Nat} {X : Nat → Int} {T : TT} {M : MM} {o sz i n kk : Nat} {S : ST} (hx : OKx g x RL cL_law 20) (hS : SCR g x b L X) (hi : i + 6 ≤ L) (hs : SIM T M o sz S) (hw : WFn kk S) (hk : kk < 1000000) (hK : ∀ T' M' sz' S', SIM T' M' o sz' S' → WFn (kk + 1) S' → Jd g x 1743 [vR (b), vR (o), vR (o + 83), vI (((i : Nat) : Int))] [] T' M' sz' (261 * n) (6993 * n)) : Jd g x 621 [vR (b), vR (o), vR (o + 83), vI (((i : Nat) : Int))] [] T M sz (261 + 261 * n) (6993 + 6993 * n) := by
  have hL := hS.l
  have hW := hw.s hk
  refine J_aload_n hx dL_law_621 (i := 1) rfl rfl ?_
  refine J_aload_n hx dL_law_622 (i := 0) rfl rfl ?_
  refine J_iload_n hx dL_law_623 (i := 3) rfl rfl ?_
  refine J_iconst (v := 1) hx dL_law_624 (by decide) ?_
  refine J_iadd (v := ((i : Nat) : Int) + 1) hx dL_law_625 (w32_id (by omega) (by omega)) ?_
  refine J_sld hx hS (i + 1) dL_law_626 (by omega) (by omega) ?_
  refine J_aload_n hx dL_law_627 (i := 0) rfl rfl ?_
  refine J_iload_n hx dL_law_628 (i := 3) rfl rfl ?_
  refine J_iconst (v := 2) hx dL_law_629 (by decide) ?_
  refine J_iadd (v := ((i : Nat) : Int) + 2) hx dL_law_630 (w32_id (by omega) (by omega)) ?_
  refine J_sld hx hS (i + 2) dL_law_631 (by omega) (by omega) ?_
  refine J_aload_n hx dL_law_632 (i := 0) rfl rfl ?_
  refine J_iload_n hx dL_law_633 (i := 3) rfl rfl ?_
  refine J_iconst (v := 3) hx dL_law_634 (by decide) ?_
  refine J_iadd (v := ((i : Nat) : Int) + 3) hx dL_law_635 (w32_id (by omega) (by omega)) ?_
  refine J_sld hx hS (i + 3) dL_law_636 (by omega) (by omega) ?_
  refine J_invV (As := [vI (X (i + 1)), vI (X (i + 2)), vI (X (i + 3))]) (st := []) hx lk_L_53 okX6_tell dL_law_637 hs.1.o (by decide) rfl rfl rfl (Nat.le_of_ble_eq_true rfl) (Nat.zero_add _).symm (Nat.zero_add _).symm rfl (c_X6_tell hs.1 hs.2.1 hW (hS.rg _) (hS.rg _) (hS.rg _) (simC hs (fun T1 M1 hC1 hN1 hX1 => ?_)))
  refine J_aload_n hx dL_law_640 (i := 2) rfl rfl ?_
  refine J_aload_n hx dL_law_641 (i := 0) rfl rfl ?_
  refine J_iload_n hx dL_law_642 (i := 3) rfl rfl ?_
  refine J_iconst (v := 1) hx dL_law_643 (by decide) ?_
  refine J_iadd (v := ((i : Nat) : Int) + 1) hx dL_law_644 (w32_id (by omega) (by omega)) ?_
  refine J_sld hx hS (i + 1) dL_law_645 (by omega) (by omega) ?_
  refine J_aload_n hx dL_law_646 (i := 0) rfl rfl ?_
  refine J_iload_n hx dL_law_647 (i := 3) rfl rfl ?_
  refine J_iconst (v := 2) hx dL_law_648 (by decide) ?_
  refine J_iadd (v := ((i : Nat) : Int) + 2) hx dL_law_649 (w32_id (by omega) (by omega)) ?_
  refine J_sld hx hS (i + 2) dL_law_650 (by omega) (by omega) ?_
  refine J_aload_n hx dL_law_651 (i := 0) rfl rfl ?_
  refine J_iload_n hx dL_law_652 (i := 3) rfl rfl ?_
  refine J_iconst (v := 3) hx dL_law_653 (by decide) ?_
  refine J_iadd (v := ((i : Nat) : Int) + 3) hx dL_law_654 (w32_id (by omega) (by omega)) ?_
  refine J_sld hx hS (i + 3) dL_law_655 (by omega) (by omega) ?_
  refine J_invV (As := [vI (X (i + 1)), vI (X (i + 2)), vI (X (i + 3))]) (st := [vI ((a_tell S (X (i + 1)) (X (i + 2)) (X (i + 3))).1)]) hx lk_L_56 okX7_tell dL_law_656 hX1.t.o (by decide) rfl rfl rfl (Nat.le_of_ble_eq_true rfl) (Nat.zero_add _).symm (Nat.zero_add _).symm rfl (c_X7_tell hX1.t hX1.n hW (hS.rg _) (hS.rg _) (hS.rg _) (simR hC1 hN1 hX1 (k_tell _ _ _ _) (fun M2 hs2 => ?_)))
  refine J_icmp_eq (tgt := 1743) hx dL_law_659 (by decide) (fun c1 => ?_) (fun c1 => ?_)
  · exact J_weak (hK _ _ _ _ hs2 (w_tell _ _ _ hw)) (by omega) (by omega)
  · exact absurd rfl c1

set_option maxHeartbeats 4000000 in
theorem lc_ask {g : WG} {x : CX} {b L : Nat} {X : Nat → Int} {T : TT} {M : MM} {o sz i n kk : Nat} {S : ST} (hx : OKx g x RL cL_law 20) (hS : SCR g x b L X) (hi : i + 6 ≤ L) (hs : SIM T M o sz S) (hw : WFn kk S) (hk : kk < 1000000) (hK : ∀ T' M' sz' S', SIM T' M' o sz' S' → WFn (kk + 1) S' → Jd g x 1743 [vR (b), vR (o), vR (o + 83), vI (((i : Nat) : Int))] [] T' M' sz' (261 * n) (6993 * n)) : Jd g x 664 [vR (b), vR (o), vR (o + 83), vI (((i : Nat) : Int))] [] T M sz (261 + 261 * n) (6993 + 6993 * n) := by
  have hL := hS.l
  have hW := hw.s hk
  refine J_aload_n hx dL_law_664 (i := 1) rfl rfl ?_
  refine J_aload_n hx dL_law_665 (i := 0) rfl rfl ?_
  refine J_iload_n hx dL_law_666 (i := 3) rfl rfl ?_
  refine J_iconst (v := 1) hx dL_law_667 (by decide) ?_
  refine J_iadd (v := ((i : Nat) : Int) + 1) hx dL_law_668 (w32_id (by omega) (by omega)) ?_
  refine J_sld hx hS (i + 1) dL_law_669 (by omega) (by omega) ?_
  refine J_aload_n hx dL_law_670 (i := 0) rfl rfl ?_
  refine J_iload_n hx dL_law_671 (i := 3) rfl rfl ?_
  refine J_iconst (v := 2) hx dL_law_672 (by decide) ?_
  refine J_iadd (v := ((i : Nat) : Int) + 2) hx dL_law_673 (w32_id (by omega) (by omega)) ?_
  refine J_sld hx hS (i + 2) dL_law_674 (by omega) (by omega) ?_
  refine J_invV (As := [vI (X (i + 1)), vI (X (i + 2))]) (st := []) hx lk_L_57 okX6_ask dL_law_675 hs.1.o (by decide) rfl rfl rfl (Nat.le_of_ble_eq_true rfl) (Nat.zero_add _).symm (Nat.zero_add _).symm rfl (c_X6_ask hs.1 hs.2.1 hW (hS.rg _) (hS.rg _) (simC hs (fun T1 M1 hC1 hN1 hX1 => ?_)))
  refine J_aload_n hx dL_law_678 (i := 2) rfl rfl ?_
  refine J_aload_n hx dL_law_679 (i := 0) rfl rfl ?_
  refine J_iload_n hx dL_law_680 (i := 3) rfl rfl ?_
  refine J_iconst (v := 1) hx dL_law_681 (by decide) ?_
  refine J_iadd (v := ((i : Nat) : Int) + 1) hx dL_law_682 (w32_id (by omega) (by omega)) ?_
  refine J_sld hx hS (i + 1) dL_law_683 (by omega) (by omega) ?_
  refine J_aload_n hx dL_law_684 (i := 0) rfl rfl ?_
  refine J_iload_n hx dL_law_685 (i := 3) rfl rfl ?_
  refine J_iconst (v := 2) hx dL_law_686 (by decide) ?_
  refine J_iadd (v := ((i : Nat) : Int) + 2) hx dL_law_687 (w32_id (by omega) (by omega)) ?_
  refine J_sld hx hS (i + 2) dL_law_688 (by omega) (by omega) ?_
  refine J_invV (As := [vI (X (i + 1)), vI (X (i + 2))]) (st := [vI ((a_ask S (X (i + 1)) (X (i + 2))).1)]) hx lk_L_60 okX7_ask dL_law_689 hX1.t.o (by decide) rfl rfl rfl (Nat.le_of_ble_eq_true rfl) (Nat.zero_add _).symm (Nat.zero_add _).symm rfl (c_X7_ask hX1.t hX1.n hW (hS.rg _) (hS.rg _) (simR hC1 hN1 hX1 (k_ask _ _ _) (fun M2 hs2 => ?_)))
  refine J_icmp_eq (tgt := 1743) hx dL_law_692 (by decide) (fun c1 => ?_) (fun c1 => ?_)
  · exact J_weak (hK _ _ _ _ hs2 (w_ask _ _ hw)) (by omega) (by omega)
  · exact absurd rfl c1

set_option maxHeartbeats 4000000 in
theorem lc_feed {g : WG} {x : CX} {b L : Nat} {X : Nat → Int} {T : TT} {M : MM} {o sz i n kk : Nat} {S : ST} (hx : OKx g x RL cL_law 20) (hS : SCR g x b L X) (hi : i + 6 ≤ L) (hs : SIM T M o sz S) (hw : WFn kk S) (hk : kk < 1000000) (hK : ∀ T' M' sz' S', SIM T' M' o sz' S' → WFn (kk + 1) S' → Jd g x 1743 [vR (b), vR (o), vR (o + 83), vI (((i : Nat) : Int))] [] T' M' sz' (261 * n) (6993 * n)) : Jd g x 697 [vR (b), vR (o), vR (o + 83), vI (((i : Nat) : Int))] [] T M sz (261 + 261 * n) (6993 + 6993 * n) := by
  have hL := hS.l
  have hW := hw.s hk
  refine J_aload_n hx dL_law_697 (i := 1) rfl rfl ?_
  refine J_aload_n hx dL_law_698 (i := 0) rfl rfl ?_
  refine J_iload_n hx dL_law_699 (i := 3) rfl rfl ?_
  refine J_iconst (v := 1) hx dL_law_700 (by decide) ?_
  refine J_iadd (v := ((i : Nat) : Int) + 1) hx dL_law_701 (w32_id (by omega) (by omega)) ?_
  refine J_sld hx hS (i + 1) dL_law_702 (by omega) (by omega) ?_
  refine J_invV (As := [vI (X (i + 1))]) (st := []) hx lk_L_61 okX6_feed dL_law_703 hs.1.o (by decide) rfl rfl rfl (Nat.le_of_ble_eq_true rfl) (Nat.zero_add _).symm (Nat.zero_add _).symm rfl (c_X6_feed hs.1 hs.2.1 hW (hS.rg _) (simC hs (fun T1 M1 hC1 hN1 hX1 => ?_)))
  refine J_aload_n hx dL_law_706 (i := 2) rfl rfl ?_
  refine J_aload_n hx dL_law_707 (i := 0) rfl rfl ?_
  refine J_iload_n hx dL_law_708 (i := 3) rfl rfl ?_
  refine J_iconst (v := 1) hx dL_law_709 (by decide) ?_
  refine J_iadd (v := ((i : Nat) : Int) + 1) hx dL_law_710 (w32_id (by omega) (by omega)) ?_
  refine J_sld hx hS (i + 1) dL_law_711 (by omega) (by omega) ?_
  refine J_invV (As := [vI (X (i + 1))]) (st := [vI ((a_feed S (X (i + 1))).1)]) hx lk_L_64 okX7_feed dL_law_712 hX1.t.o (by decide) rfl rfl rfl (Nat.le_of_ble_eq_true rfl) (Nat.zero_add _).symm (Nat.zero_add _).symm rfl (c_X7_feed hX1.t hX1.n hW (hS.rg _) (simR hC1 hN1 hX1 (k_feed _ _) (fun M2 hs2 => ?_)))
  refine J_icmp_eq (tgt := 1743) hx dL_law_715 (by decide) (fun c1 => ?_) (fun c1 => ?_)
  · exact J_weak (hK _ _ _ _ hs2 (w_feed _ hw)) (by omega) (by omega)
  · exact absurd rfl c1

set_option maxHeartbeats 4000000 in
theorem lc_wipe {g : WG} {x : CX} {b L : Nat} {X : Nat → Int} {T : TT} {M : MM} {o sz i n kk : Nat} {S : ST} (hx : OKx g x RL cL_law 20) (hS : SCR g x b L X) (hi : i + 6 ≤ L) (hs : SIM T M o sz S) (hw : WFn kk S) (hk : kk < 1000000) (hK : ∀ T' M' sz' S', SIM T' M' o sz' S' → WFn (kk + 1) S' → Jd g x 1743 [vR (b), vR (o), vR (o + 83), vI (((i : Nat) : Int))] [] T' M' sz' (261 * n) (6993 * n)) : Jd g x 720 [vR (b), vR (o), vR (o + 83), vI (((i : Nat) : Int))] [] T M sz (261 + 261 * n) (6993 + 6993 * n) := by
  have hL := hS.l
  have hW := hw.s hk
  refine J_aload_n hx dL_law_720 (i := 1) rfl rfl ?_
  refine J_invV (As := []) (st := []) hx lk_L_65 okX6_wipe dL_law_721 hs.1.o (by decide) rfl rfl rfl (Nat.le_of_ble_eq_true rfl) (Nat.zero_add _).symm (Nat.zero_add _).symm rfl (c_X6_wipe hs.1 hs.2.1 hW (simC hs (fun T1 M1 hC1 hN1 hX1 => ?_)))
  refine J_aload_n hx dL_law_724 (i := 2) rfl rfl ?_
  refine J_invV (As := []) (st := [vI ((a_wipe S).1)]) hx lk_L_69 okX7_wipe dL_law_725 hX1.t.o (by decide) rfl rfl rfl (Nat.le_of_ble_eq_true rfl) (Nat.zero_add _).symm (Nat.zero_add _).symm rfl (c_X7_wipe hX1.t hX1.n hW (simR hC1 hN1 hX1 (k_wipe _ ) (fun M2 hs2 => ?_)))
  refine J_icmp_eq (tgt := 1743) hx dL_law_728 (by decide) (fun c1 => ?_) (fun c1 => ?_)
  · exact J_weak (hK _ _ _ _ hs2 (w_wipe hw)) (by omega) (by omega)
  · exact absurd rfl c1

set_option maxHeartbeats 4000000 in
theorem lc_yard {g : WG} {x : CX} {b L : Nat} {X : Nat → Int} {T : TT} {M : MM} {o sz i n kk : Nat} {S : ST} (hx : OKx g x RL cL_law 20) (hS : SCR g x b L X) (hi : i + 6 ≤ L) (hs : SIM T M o sz S) (hw : WFn kk S) (hk : kk < 1000000) (hK : ∀ T' M' sz' S', SIM T' M' o sz' S' → WFn (kk + 1) S' → Jd g x 1743 [vR (b), vR (o), vR (o + 83), vI (((i : Nat) : Int))] [] T' M' sz' (261 * n) (6993 * n)) : Jd g x 733 [vR (b), vR (o), vR (o + 83), vI (((i : Nat) : Int))] [] T M sz (261 + 261 * n) (6993 + 6993 * n) := by
  have hL := hS.l
  have hW := hw.s hk
  refine J_aload_n hx dL_law_733 (i := 1) rfl rfl ?_
  refine J_invV (As := []) (st := []) hx lk_L_70 okX6_yard dL_law_734 hs.1.o (by decide) rfl rfl rfl (Nat.le_of_ble_eq_true rfl) (Nat.zero_add _).symm (Nat.zero_add _).symm rfl (c_X6_yard hs.1 hs.2.1 hW (simC hs (fun T1 M1 hC1 hN1 hX1 => ?_)))
  refine J_aload_n hx dL_law_737 (i := 2) rfl rfl ?_
  refine J_invV (As := []) (st := [vI ((a_yard S).1)]) hx lk_L_73 okX7_yard dL_law_738 hX1.t.o (by decide) rfl rfl rfl (Nat.le_of_ble_eq_true rfl) (show 261 + 261 * n = 29 + (232 + 261 * n) by omega) (show 6993 + 6993 * n = 777 + (6216 + 6993 * n) by omega) rfl (c_X7_yard hX1 hW (simX hC1 hN1 (fun T2 M2 sz2 hs2 => ?_)))
  refine J_icmp_eq (tgt := 1743) hx dL_law_741 (by decide) (fun c1 => ?_) (fun c1 => ?_)
  · exact J_weak (hK _ _ _ _ hs2 (w_yard hw)) (by omega) (by omega)
  · exact absurd rfl c1

set_option maxHeartbeats 4000000 in
theorem lc_oneOf {g : WG} {x : CX} {b L : Nat} {X : Nat → Int} {T : TT} {M : MM} {o sz i n kk : Nat} {S : ST} (hx : OKx g x RL cL_law 20) (hS : SCR g x b L X) (hi : i + 6 ≤ L) (hs : SIM T M o sz S) (hw : WFn kk S) (hk : kk < 1000000) (hK : ∀ T' M' sz' S', SIM T' M' o sz' S' → WFn (kk + 1) S' → Jd g x 1743 [vR (b), vR (o), vR (o + 83), vI (((i : Nat) : Int))] [] T' M' sz' (261 * n) (6993 * n)) : Jd g x 746 [vR (b), vR (o), vR (o + 83), vI (((i : Nat) : Int))] [] T M sz (261 + 261 * n) (6993 + 6993 * n) := by
  have hL := hS.l
  have hW := hw.s hk
  refine J_aload_n hx dL_law_746 (i := 1) rfl rfl ?_
  refine J_aload_n hx dL_law_747 (i := 0) rfl rfl ?_
  refine J_iload_n hx dL_law_748 (i := 3) rfl rfl ?_
  refine J_iconst (v := 1) hx dL_law_749 (by decide) ?_
  refine J_iadd (v := ((i : Nat) : Int) + 1) hx dL_law_750 (w32_id (by omega) (by omega)) ?_
  refine J_sld hx hS (i + 1) dL_law_751 (by omega) (by omega) ?_
  refine J_aload_n hx dL_law_752 (i := 0) rfl rfl ?_
  refine J_iload_n hx dL_law_753 (i := 3) rfl rfl ?_
  refine J_iconst (v := 2) hx dL_law_754 (by decide) ?_
  refine J_iadd (v := ((i : Nat) : Int) + 2) hx dL_law_755 (w32_id (by omega) (by omega)) ?_
  refine J_sld hx hS (i + 2) dL_law_756 (by omega) (by omega) ?_
  refine J_invV (As := [vI (X (i + 1)), vI (X (i + 2))]) (st := []) hx lk_L_74 okX6_oneOf dL_law_757 hs.1.o (by decide) rfl rfl rfl (Nat.le_of_ble_eq_true rfl) (Nat.zero_add _).symm (Nat.zero_add _).symm rfl (c_X6_oneOf hs.1 hs.2.1 hW (hS.rg _) (hS.rg _) (simC hs (fun T1 M1 hC1 hN1 hX1 => ?_)))
  refine J_aload_n hx dL_law_760 (i := 2) rfl rfl ?_
  refine J_aload_n hx dL_law_761 (i := 0) rfl rfl ?_
  refine J_iload_n hx dL_law_762 (i := 3) rfl rfl ?_
  refine J_iconst (v := 1) hx dL_law_763 (by decide) ?_
  refine J_iadd (v := ((i : Nat) : Int) + 1) hx dL_law_764 (w32_id (by omega) (by omega)) ?_
  refine J_sld hx hS (i + 1) dL_law_765 (by omega) (by omega) ?_
  refine J_aload_n hx dL_law_766 (i := 0) rfl rfl ?_
  refine J_iload_n hx dL_law_767 (i := 3) rfl rfl ?_
  refine J_iconst (v := 2) hx dL_law_768 (by decide) ?_
  refine J_iadd (v := ((i : Nat) : Int) + 2) hx dL_law_769 (w32_id (by omega) (by omega)) ?_
  refine J_sld hx hS (i + 2) dL_law_770 (by omega) (by omega) ?_
  refine J_invV (As := [vI (X (i + 1)), vI (X (i + 2))]) (st := [vI ((a_oneOf S (X (i + 1)) (X (i + 2))).1)]) hx lk_L_77 okX7_oneOf dL_law_771 hX1.t.o (by decide) rfl rfl rfl (Nat.le_of_ble_eq_true rfl) (Nat.zero_add _).symm (Nat.zero_add _).symm rfl (c_X7_oneOf hX1.t hX1.n hW (hS.rg _) (hS.rg _) (simR hC1 hN1 hX1 (k_oneOf _ _ _) (fun M2 hs2 => ?_)))
  refine J_icmp_eq (tgt := 1743) hx dL_law_774 (by decide) (fun c1 => ?_) (fun c1 => ?_)
  · exact J_weak (hK _ _ _ _ hs2 (w_oneOf _ _ hw)) (by omega) (by omega)
  · exact absurd rfl c1

set_option maxHeartbeats 4000000 in
theorem lc_chainOf {g : WG} {x : CX} {b L : Nat} {X : Nat → Int} {T : TT} {M : MM} {o sz i n kk : Nat} {S : ST} (hx : OKx g x RL cL_law 20) (hS : SCR g x b L X) (hi : i + 6 ≤ L) (hs : SIM T M o sz S) (hw : WFn kk S) (hk : kk < 1000000) (hK : ∀ T' M' sz' S', SIM T' M' o sz' S' → WFn (kk + 1) S' → Jd g x 1743 [vR (b), vR (o), vR (o + 83), vI (((i : Nat) : Int))] [] T' M' sz' (261 * n) (6993 * n)) : Jd g x 779 [vR (b), vR (o), vR (o + 83), vI (((i : Nat) : Int))] [] T M sz (261 + 261 * n) (6993 + 6993 * n) := by
  have hL := hS.l
  have hW := hw.s hk
  refine J_aload_n hx dL_law_779 (i := 1) rfl rfl ?_
  refine J_aload_n hx dL_law_780 (i := 0) rfl rfl ?_
  refine J_iload_n hx dL_law_781 (i := 3) rfl rfl ?_
  refine J_iconst (v := 1) hx dL_law_782 (by decide) ?_
  refine J_iadd (v := ((i : Nat) : Int) + 1) hx dL_law_783 (w32_id (by omega) (by omega)) ?_
  refine J_sld hx hS (i + 1) dL_law_784 (by omega) (by omega) ?_
  refine J_aload_n hx dL_law_785 (i := 0) rfl rfl ?_
  refine J_iload_n hx dL_law_786 (i := 3) rfl rfl ?_
  refine J_iconst (v := 2) hx dL_law_787 (by decide) ?_
  refine J_iadd (v := ((i : Nat) : Int) + 2) hx dL_law_788 (w32_id (by omega) (by omega)) ?_
  refine J_sld hx hS (i + 2) dL_law_789 (by omega) (by omega) ?_
  refine J_invV (As := [vI (X (i + 1)), vI (X (i + 2))]) (st := []) hx lk_L_78 okX6_chainOf dL_law_790 hs.1.o (by decide) rfl rfl rfl (Nat.le_of_ble_eq_true rfl) (Nat.zero_add _).symm (Nat.zero_add _).symm rfl (c_X6_chainOf hs.1 hs.2.1 hW (hS.rg _) (hS.rg _) (simC hs (fun T1 M1 hC1 hN1 hX1 => ?_)))
  refine J_aload_n hx dL_law_793 (i := 2) rfl rfl ?_
  refine J_aload_n hx dL_law_794 (i := 0) rfl rfl ?_
  refine J_iload_n hx dL_law_795 (i := 3) rfl rfl ?_
  refine J_iconst (v := 1) hx dL_law_796 (by decide) ?_
  refine J_iadd (v := ((i : Nat) : Int) + 1) hx dL_law_797 (w32_id (by omega) (by omega)) ?_
  refine J_sld hx hS (i + 1) dL_law_798 (by omega) (by omega) ?_
  refine J_aload_n hx dL_law_799 (i := 0) rfl rfl ?_
  refine J_iload_n hx dL_law_800 (i := 3) rfl rfl ?_
  refine J_iconst (v := 2) hx dL_law_801 (by decide) ?_
  refine J_iadd (v := ((i : Nat) : Int) + 2) hx dL_law_802 (w32_id (by omega) (by omega)) ?_
  refine J_sld hx hS (i + 2) dL_law_803 (by omega) (by omega) ?_
  refine J_invV (As := [vI (X (i + 1)), vI (X (i + 2))]) (st := [vI ((a_chainOf S (X (i + 1)) (X (i + 2))).1)]) hx lk_L_81 okX7_chainOf dL_law_804 hX1.t.o (by decide) rfl rfl rfl (Nat.le_of_ble_eq_true rfl) (Nat.zero_add _).symm (Nat.zero_add _).symm rfl (c_X7_chainOf hX1.t hX1.n hW (hS.rg _) (hS.rg _) (simR hC1 hN1 hX1 (k_chainOf _ _ _) (fun M2 hs2 => ?_)))
  refine J_icmp_eq (tgt := 1743) hx dL_law_807 (by decide) (fun c1 => ?_) (fun c1 => ?_)
  · exact J_weak (hK _ _ _ _ hs2 (w_chainOf _ _ hw)) (by omega) (by omega)
  · exact absurd rfl c1

set_option maxHeartbeats 4000000 in
theorem lc_strength {g : WG} {x : CX} {b L : Nat} {X : Nat → Int} {T : TT} {M : MM} {o sz i n kk : Nat} {S : ST} (hx : OKx g x RL cL_law 20) (hS : SCR g x b L X) (hi : i + 6 ≤ L) (hs : SIM T M o sz S) (hw : WFn kk S) (hk : kk < 1000000) (hK : ∀ T' M' sz' S', SIM T' M' o sz' S' → WFn (kk + 1) S' → Jd g x 1743 [vR (b), vR (o), vR (o + 83), vI (((i : Nat) : Int))] [] T' M' sz' (261 * n) (6993 * n)) : Jd g x 812 [vR (b), vR (o), vR (o + 83), vI (((i : Nat) : Int))] [] T M sz (261 + 261 * n) (6993 + 6993 * n) := by
  have hL := hS.l
  have hW := hw.s hk
  refine J_aload_n hx dL_law_812 (i := 1) rfl rfl ?_
  refine J_aload_n hx dL_law_813 (i := 0) rfl rfl ?_
  refine J_iload_n hx dL_law_814 (i := 3) rfl rfl ?_
  refine J_iconst (v := 1) hx dL_law_815 (by decide) ?_
  refine J_iadd (v := ((i : Nat) : Int) + 1) hx dL_law_816 (w32_id (by omega) (by omega)) ?_
  refine J_sld hx hS (i + 1) dL_law_817 (by omega) (by omega) ?_
  refine J_aload_n hx dL_law_818 (i := 0) rfl rfl ?_
  refine J_iload_n hx dL_law_819 (i := 3) rfl rfl ?_
  refine J_iconst (v := 2) hx dL_law_820 (by decide) ?_
  refine J_iadd (v := ((i : Nat) : Int) + 2) hx dL_law_821 (w32_id (by omega) (by omega)) ?_
  refine J_sld hx hS (i + 2) dL_law_822 (by omega) (by omega) ?_
  refine J_invV (As := [vI (X (i + 1)), vI (X (i + 2))]) (st := []) hx lk_L_82 okX6_strength dL_law_823 hs.1.o (by decide) rfl rfl rfl (Nat.le_of_ble_eq_true rfl) (Nat.zero_add _).symm (Nat.zero_add _).symm rfl (c_X6_strength hs.1 hs.2.1 hW (hS.rg _) (hS.rg _) (simC hs (fun T1 M1 hC1 hN1 hX1 => ?_)))
  refine J_aload_n hx dL_law_826 (i := 2) rfl rfl ?_
  refine J_aload_n hx dL_law_827 (i := 0) rfl rfl ?_
  refine J_iload_n hx dL_law_828 (i := 3) rfl rfl ?_
  refine J_iconst (v := 1) hx dL_law_829 (by decide) ?_
  refine J_iadd (v := ((i : Nat) : Int) + 1) hx dL_law_830 (w32_id (by omega) (by omega)) ?_
  refine J_sld hx hS (i + 1) dL_law_831 (by omega) (by omega) ?_
  refine J_aload_n hx dL_law_832 (i := 0) rfl rfl ?_
  refine J_iload_n hx dL_law_833 (i := 3) rfl rfl ?_
  refine J_iconst (v := 2) hx dL_law_834 (by decide) ?_
  refine J_iadd (v := ((i : Nat) : Int) + 2) hx dL_law_835 (w32_id (by omega) (by omega)) ?_
  refine J_sld hx hS (i + 2) dL_law_836 (by omega) (by omega) ?_
  refine J_invV (As := [vI (X (i + 1)), vI (X (i + 2))]) (st := [vI ((a_strength S (X (i + 1)) (X (i + 2))).1)]) hx lk_L_85 okX7_strength dL_law_837 hX1.t.o (by decide) rfl rfl rfl (Nat.le_of_ble_eq_true rfl) (Nat.zero_add _).symm (Nat.zero_add _).symm rfl (c_X7_strength hX1.t hX1.n hW (hS.rg _) (hS.rg _) (simR hC1 hN1 hX1 (k_strength _ _ _) (fun M2 hs2 => ?_)))
  refine J_icmp_eq (tgt := 1743) hx dL_law_840 (by decide) (fun c1 => ?_) (fun c1 => ?_)
  · exact J_weak (hK _ _ _ _ hs2 (w_strength _ _ hw)) (by omega) (by omega)
  · exact absurd rfl c1

set_option maxHeartbeats 4000000 in
theorem lc_weakest {g : WG} {x : CX} {b L : Nat} {X : Nat → Int} {T : TT} {M : MM} {o sz i n kk : Nat} {S : ST} (hx : OKx g x RL cL_law 20) (hS : SCR g x b L X) (hi : i + 6 ≤ L) (hs : SIM T M o sz S) (hw : WFn kk S) (hk : kk < 1000000) (hK : ∀ T' M' sz' S', SIM T' M' o sz' S' → WFn (kk + 1) S' → Jd g x 1743 [vR (b), vR (o), vR (o + 83), vI (((i : Nat) : Int))] [] T' M' sz' (261 * n) (6993 * n)) : Jd g x 845 [vR (b), vR (o), vR (o + 83), vI (((i : Nat) : Int))] [] T M sz (261 + 261 * n) (6993 + 6993 * n) := by
  have hL := hS.l
  have hW := hw.s hk
  refine J_aload_n hx dL_law_845 (i := 1) rfl rfl ?_
  refine J_aload_n hx dL_law_846 (i := 0) rfl rfl ?_
  refine J_iload_n hx dL_law_847 (i := 3) rfl rfl ?_
  refine J_iconst (v := 1) hx dL_law_848 (by decide) ?_
  refine J_iadd (v := ((i : Nat) : Int) + 1) hx dL_law_849 (w32_id (by omega) (by omega)) ?_
  refine J_sld hx hS (i + 1) dL_law_850 (by omega) (by omega) ?_
  refine J_invV (As := [vI (X (i + 1))]) (st := []) hx lk_L_86 okX6_weakest dL_law_851 hs.1.o (by decide) rfl rfl rfl (Nat.le_of_ble_eq_true rfl) (Nat.zero_add _).symm (Nat.zero_add _).symm rfl (c_X6_weakest hs.1 hs.2.1 hW (hS.rg _) (simC hs (fun T1 M1 hC1 hN1 hX1 => ?_)))
  refine J_aload_n hx dL_law_854 (i := 2) rfl rfl ?_
  refine J_aload_n hx dL_law_855 (i := 0) rfl rfl ?_
  refine J_iload_n hx dL_law_856 (i := 3) rfl rfl ?_
  refine J_iconst (v := 1) hx dL_law_857 (by decide) ?_
  refine J_iadd (v := ((i : Nat) : Int) + 1) hx dL_law_858 (w32_id (by omega) (by omega)) ?_
  refine J_sld hx hS (i + 1) dL_law_859 (by omega) (by omega) ?_
  refine J_invV (As := [vI (X (i + 1))]) (st := [vI ((a_weakest S (X (i + 1))).1)]) hx lk_L_89 okX7_weakest dL_law_860 hX1.t.o (by decide) rfl rfl rfl (Nat.le_of_ble_eq_true rfl) (Nat.zero_add _).symm (Nat.zero_add _).symm rfl (c_X7_weakest hX1.t hX1.n hW (hS.rg _) (simR hC1 hN1 hX1 (k_weakest _ _) (fun M2 hs2 => ?_)))
  refine J_icmp_eq (tgt := 1743) hx dL_law_863 (by decide) (fun c1 => ?_) (fun c1 => ?_)
  · exact J_weak (hK _ _ _ _ hs2 (w_weakest _ hw)) (by omega) (by omega)
  · exact absurd rfl c1

set_option maxHeartbeats 4000000 in
theorem lc_strongest {g : WG} {x : CX} {b L : Nat} {X : Nat → Int} {T : TT} {M : MM} {o sz i n kk : Nat} {S : ST} (hx : OKx g x RL cL_law 20) (hS : SCR g x b L X) (hi : i + 6 ≤ L) (hs : SIM T M o sz S) (hw : WFn kk S) (hk : kk < 1000000) (hK : ∀ T' M' sz' S', SIM T' M' o sz' S' → WFn (kk + 1) S' → Jd g x 1743 [vR (b), vR (o), vR (o + 83), vI (((i : Nat) : Int))] [] T' M' sz' (261 * n) (6993 * n)) : Jd g x 868 [vR (b), vR (o), vR (o + 83), vI (((i : Nat) : Int))] [] T M sz (261 + 261 * n) (6993 + 6993 * n) := by
  have hL := hS.l
  have hW := hw.s hk
  refine J_aload_n hx dL_law_868 (i := 1) rfl rfl ?_
  refine J_aload_n hx dL_law_869 (i := 0) rfl rfl ?_
  refine J_iload_n hx dL_law_870 (i := 3) rfl rfl ?_
  refine J_iconst (v := 1) hx dL_law_871 (by decide) ?_
  refine J_iadd (v := ((i : Nat) : Int) + 1) hx dL_law_872 (w32_id (by omega) (by omega)) ?_
  refine J_sld hx hS (i + 1) dL_law_873 (by omega) (by omega) ?_
  refine J_invV (As := [vI (X (i + 1))]) (st := []) hx lk_L_90 okX6_strongest dL_law_874 hs.1.o (by decide) rfl rfl rfl (Nat.le_of_ble_eq_true rfl) (Nat.zero_add _).symm (Nat.zero_add _).symm rfl (c_X6_strongest hs.1 hs.2.1 hW (hS.rg _) (simC hs (fun T1 M1 hC1 hN1 hX1 => ?_)))
  refine J_aload_n hx dL_law_877 (i := 2) rfl rfl ?_
  refine J_aload_n hx dL_law_878 (i := 0) rfl rfl ?_
  refine J_iload_n hx dL_law_879 (i := 3) rfl rfl ?_
  refine J_iconst (v := 1) hx dL_law_880 (by decide) ?_
  refine J_iadd (v := ((i : Nat) : Int) + 1) hx dL_law_881 (w32_id (by omega) (by omega)) ?_
  refine J_sld hx hS (i + 1) dL_law_882 (by omega) (by omega) ?_
  refine J_invV (As := [vI (X (i + 1))]) (st := [vI ((a_strongest S (X (i + 1))).1)]) hx lk_L_93 okX7_strongest dL_law_883 hX1.t.o (by decide) rfl rfl rfl (Nat.le_of_ble_eq_true rfl) (Nat.zero_add _).symm (Nat.zero_add _).symm rfl (c_X7_strongest hX1.t hX1.n hW (hS.rg _) (simR hC1 hN1 hX1 (k_strongest _ _) (fun M2 hs2 => ?_)))
  refine J_icmp_eq (tgt := 1743) hx dL_law_886 (by decide) (fun c1 => ?_) (fun c1 => ?_)
  · exact J_weak (hK _ _ _ _ hs2 (w_strongest _ hw)) (by omega) (by omega)
  · exact absurd rfl c1

set_option maxHeartbeats 4000000 in
theorem lc_hardest {g : WG} {x : CX} {b L : Nat} {X : Nat → Int} {T : TT} {M : MM} {o sz i n kk : Nat} {S : ST} (hx : OKx g x RL cL_law 20) (hS : SCR g x b L X) (hi : i + 6 ≤ L) (hs : SIM T M o sz S) (hw : WFn kk S) (hk : kk < 1000000) (hK : ∀ T' M' sz' S', SIM T' M' o sz' S' → WFn (kk + 1) S' → Jd g x 1743 [vR (b), vR (o), vR (o + 83), vI (((i : Nat) : Int))] [] T' M' sz' (261 * n) (6993 * n)) : Jd g x 891 [vR (b), vR (o), vR (o + 83), vI (((i : Nat) : Int))] [] T M sz (261 + 261 * n) (6993 + 6993 * n) := by
  have hL := hS.l
  have hW := hw.s hk
  refine J_aload_n hx dL_law_891 (i := 1) rfl rfl ?_
  refine J_aload_n hx dL_law_892 (i := 0) rfl rfl ?_
  refine J_iload_n hx dL_law_893 (i := 3) rfl rfl ?_
  refine J_iconst (v := 1) hx dL_law_894 (by decide) ?_
  refine J_iadd (v := ((i : Nat) : Int) + 1) hx dL_law_895 (w32_id (by omega) (by omega)) ?_
  refine J_sld hx hS (i + 1) dL_law_896 (by omega) (by omega) ?_
  refine J_invV (As := [vI (X (i + 1))]) (st := []) hx lk_L_94 okX6_hardest dL_law_897 hs.1.o (by decide) rfl rfl rfl (Nat.le_of_ble_eq_true rfl) (Nat.zero_add _).symm (Nat.zero_add _).symm rfl (c_X6_hardest hs.1 hs.2.1 hW (hS.rg _) (simC hs (fun T1 M1 hC1 hN1 hX1 => ?_)))
  refine J_aload_n hx dL_law_900 (i := 2) rfl rfl ?_
  refine J_aload_n hx dL_law_901 (i := 0) rfl rfl ?_
  refine J_iload_n hx dL_law_902 (i := 3) rfl rfl ?_
  refine J_iconst (v := 1) hx dL_law_903 (by decide) ?_
  refine J_iadd (v := ((i : Nat) : Int) + 1) hx dL_law_904 (w32_id (by omega) (by omega)) ?_
  refine J_sld hx hS (i + 1) dL_law_905 (by omega) (by omega) ?_
  refine J_invV (As := [vI (X (i + 1))]) (st := [vI ((a_hardest S (X (i + 1))).1)]) hx lk_L_97 okX7_hardest dL_law_906 hX1.t.o (by decide) rfl rfl rfl (Nat.le_of_ble_eq_true rfl) (Nat.zero_add _).symm (Nat.zero_add _).symm rfl (c_X7_hardest hX1.t hX1.n hW (hS.rg _) (simR hC1 hN1 hX1 (k_hardest _ _) (fun M2 hs2 => ?_)))
  refine J_icmp_eq (tgt := 1743) hx dL_law_909 (by decide) (fun c1 => ?_) (fun c1 => ?_)
  · exact J_weak (hK _ _ _ _ hs2 (w_hardest _ hw)) (by omega) (by omega)
  · exact absurd rfl c1

set_option maxHeartbeats 4000000 in
theorem lc_odds {g : WG} {x : CX} {b L : Nat} {X : Nat → Int} {T : TT} {M : MM} {o sz i n kk : Nat} {S : ST} (hx : OKx g x RL cL_law 20) (hS : SCR g x b L X) (hi : i + 6 ≤ L) (hs : SIM T M o sz S) (hw : WFn kk S) (hk : kk < 1000000) (hK : ∀ T' M' sz' S', SIM T' M' o sz' S' → WFn (kk + 1) S' → Jd g x 1743 [vR (b), vR (o), vR (o + 83), vI (((i : Nat) : Int))] [] T' M' sz' (261 * n) (6993 * n)) : Jd g x 914 [vR (b), vR (o), vR (o + 83), vI (((i : Nat) : Int))] [] T M sz (261 + 261 * n) (6993 + 6993 * n) := by
  have hL := hS.l
  have hW := hw.s hk
  refine J_aload_n hx dL_law_914 (i := 1) rfl rfl ?_
  refine J_aload_n hx dL_law_915 (i := 0) rfl rfl ?_
  refine J_iload_n hx dL_law_916 (i := 3) rfl rfl ?_
  refine J_iconst (v := 1) hx dL_law_917 (by decide) ?_
  refine J_iadd (v := ((i : Nat) : Int) + 1) hx dL_law_918 (w32_id (by omega) (by omega)) ?_
  refine J_sld hx hS (i + 1) dL_law_919 (by omega) (by omega) ?_
  refine J_aload_n hx dL_law_920 (i := 0) rfl rfl ?_
  refine J_iload_n hx dL_law_921 (i := 3) rfl rfl ?_
  refine J_iconst (v := 2) hx dL_law_922 (by decide) ?_
  refine J_iadd (v := ((i : Nat) : Int) + 2) hx dL_law_923 (w32_id (by omega) (by omega)) ?_
  refine J_sld hx hS (i + 2) dL_law_924 (by omega) (by omega) ?_
  refine J_invV (As := [vI (X (i + 1)), vI (X (i + 2))]) (st := []) hx lk_L_98 okX6_odds dL_law_925 hs.1.o (by decide) rfl rfl rfl (Nat.le_of_ble_eq_true rfl) (Nat.zero_add _).symm (Nat.zero_add _).symm rfl (c_X6_odds hs.1 hs.2.1 hW (hS.rg _) (hS.rg _) (simC hs (fun T1 M1 hC1 hN1 hX1 => ?_)))
  refine J_aload_n hx dL_law_928 (i := 2) rfl rfl ?_
  refine J_aload_n hx dL_law_929 (i := 0) rfl rfl ?_
  refine J_iload_n hx dL_law_930 (i := 3) rfl rfl ?_
  refine J_iconst (v := 1) hx dL_law_931 (by decide) ?_
  refine J_iadd (v := ((i : Nat) : Int) + 1) hx dL_law_932 (w32_id (by omega) (by omega)) ?_
  refine J_sld hx hS (i + 1) dL_law_933 (by omega) (by omega) ?_
  refine J_aload_n hx dL_law_934 (i := 0) rfl rfl ?_
  refine J_iload_n hx dL_law_935 (i := 3) rfl rfl ?_
  refine J_iconst (v := 2) hx dL_law_936 (by decide) ?_
  refine J_iadd (v := ((i : Nat) : Int) + 2) hx dL_law_937 (w32_id (by omega) (by omega)) ?_
  refine J_sld hx hS (i + 2) dL_law_938 (by omega) (by omega) ?_
  refine J_invV (As := [vI (X (i + 1)), vI (X (i + 2))]) (st := [vI ((a_odds S (X (i + 1)) (X (i + 2))).1)]) hx lk_L_101 okX7_odds dL_law_939 hX1.t.o (by decide) rfl rfl rfl (Nat.le_of_ble_eq_true rfl) (Nat.zero_add _).symm (Nat.zero_add _).symm rfl (c_X7_odds hX1.t hX1.n hW (hS.rg _) (hS.rg _) (simR hC1 hN1 hX1 (k_odds _ _ _) (fun M2 hs2 => ?_)))
  refine J_icmp_eq (tgt := 1743) hx dL_law_942 (by decide) (fun c1 => ?_) (fun c1 => ?_)
  · exact J_weak (hK _ _ _ _ hs2 (w_odds _ _ hw)) (by omega) (by omega)
  · exact absurd rfl c1

set_option maxHeartbeats 4000000 in
theorem lc_at {g : WG} {x : CX} {b L : Nat} {X : Nat → Int} {T : TT} {M : MM} {o sz i n kk : Nat} {S : ST} (hx : OKx g x RL cL_law 20) (hS : SCR g x b L X) (hi : i + 6 ≤ L) (hs : SIM T M o sz S) (hw : WFn kk S) (hk : kk < 1000000) (hK : ∀ T' M' sz' S', SIM T' M' o sz' S' → WFn (kk + 1) S' → Jd g x 1743 [vR (b), vR (o), vR (o + 83), vI (((i : Nat) : Int))] [] T' M' sz' (261 * n) (6993 * n)) : Jd g x 947 [vR (b), vR (o), vR (o + 83), vI (((i : Nat) : Int))] [] T M sz (261 + 261 * n) (6993 + 6993 * n) := by
  have hL := hS.l
  have hW := hw.s hk
  refine J_aload_n hx dL_law_947 (i := 1) rfl rfl ?_
  refine J_aload_n hx dL_law_948 (i := 0) rfl rfl ?_
  refine J_iload_n hx dL_law_949 (i := 3) rfl rfl ?_
  refine J_iconst (v := 1) hx dL_law_950 (by decide) ?_
  refine J_iadd (v := ((i : Nat) : Int) + 1) hx dL_law_951 (w32_id (by omega) (by omega)) ?_
  refine J_sld hx hS (i + 1) dL_law_952 (by omega) (by omega) ?_
  refine J_invV (As := [vI (X (i + 1))]) (st := []) hx lk_L_102 okX6_at dL_law_953 hs.1.o (by decide) rfl rfl rfl (Nat.le_of_ble_eq_true rfl) (Nat.zero_add _).symm (Nat.zero_add _).symm rfl (c_X6_at hs.1 hs.2.1 hW (hS.rg _) (simC hs (fun T1 M1 hC1 hN1 hX1 => ?_)))
  refine J_aload_n hx dL_law_956 (i := 2) rfl rfl ?_
  refine J_aload_n hx dL_law_957 (i := 0) rfl rfl ?_
  refine J_iload_n hx dL_law_958 (i := 3) rfl rfl ?_
  refine J_iconst (v := 1) hx dL_law_959 (by decide) ?_
  refine J_iadd (v := ((i : Nat) : Int) + 1) hx dL_law_960 (w32_id (by omega) (by omega)) ?_
  refine J_sld hx hS (i + 1) dL_law_961 (by omega) (by omega) ?_
  refine J_invV (As := [vI (X (i + 1))]) (st := [vI ((a_at S (X (i + 1))).1)]) hx lk_L_105 okX7_at dL_law_962 hX1.t.o (by decide) rfl rfl rfl (Nat.le_of_ble_eq_true rfl) (Nat.zero_add _).symm (Nat.zero_add _).symm rfl (c_X7_at hX1.t hX1.n hW (hS.rg _) (simR hC1 hN1 hX1 (k_at _ _) (fun M2 hs2 => ?_)))
  refine J_icmp_eq (tgt := 1743) hx dL_law_965 (by decide) (fun c1 => ?_) (fun c1 => ?_)
  · exact J_weak (hK _ _ _ _ hs2 (w_at _ hw)) (by omega) (by omega)
  · exact absurd rfl c1

set_option maxHeartbeats 4000000 in
theorem lc_take {g : WG} {x : CX} {b L : Nat} {X : Nat → Int} {T : TT} {M : MM} {o sz i n kk : Nat} {S : ST} (hx : OKx g x RL cL_law 20) (hS : SCR g x b L X) (hi : i + 6 ≤ L) (hs : SIM T M o sz S) (hw : WFn kk S) (hk : kk < 1000000) (hK : ∀ T' M' sz' S', SIM T' M' o sz' S' → WFn (kk + 1) S' → Jd g x 1743 [vR (b), vR (o), vR (o + 83), vI (((i : Nat) : Int))] [] T' M' sz' (261 * n) (6993 * n)) : Jd g x 970 [vR (b), vR (o), vR (o + 83), vI (((i : Nat) : Int))] [] T M sz (261 + 261 * n) (6993 + 6993 * n) := by
  have hL := hS.l
  have hW := hw.s hk
  refine J_aload_n hx dL_law_970 (i := 1) rfl rfl ?_
  refine J_aload_n hx dL_law_971 (i := 0) rfl rfl ?_
  refine J_iload_n hx dL_law_972 (i := 3) rfl rfl ?_
  refine J_iconst (v := 1) hx dL_law_973 (by decide) ?_
  refine J_iadd (v := ((i : Nat) : Int) + 1) hx dL_law_974 (w32_id (by omega) (by omega)) ?_
  refine J_sld hx hS (i + 1) dL_law_975 (by omega) (by omega) ?_
  refine J_invV (As := [vI (X (i + 1))]) (st := []) hx lk_L_106 okX6_take dL_law_976 hs.1.o (by decide) rfl rfl rfl (Nat.le_of_ble_eq_true rfl) (Nat.zero_add _).symm (Nat.zero_add _).symm rfl (c_X6_take hs.1 hs.2.1 hW (hS.rg _) (simC hs (fun T1 M1 hC1 hN1 hX1 => ?_)))
  refine J_aload_n hx dL_law_979 (i := 2) rfl rfl ?_
  refine J_aload_n hx dL_law_980 (i := 0) rfl rfl ?_
  refine J_iload_n hx dL_law_981 (i := 3) rfl rfl ?_
  refine J_iconst (v := 1) hx dL_law_982 (by decide) ?_
  refine J_iadd (v := ((i : Nat) : Int) + 1) hx dL_law_983 (w32_id (by omega) (by omega)) ?_
  refine J_sld hx hS (i + 1) dL_law_984 (by omega) (by omega) ?_
  refine J_invV (As := [vI (X (i + 1))]) (st := [vI ((a_take S (X (i + 1))).1)]) hx lk_L_109 okX7_take dL_law_985 hX1.t.o (by decide) rfl rfl rfl (Nat.le_of_ble_eq_true rfl) (Nat.zero_add _).symm (Nat.zero_add _).symm rfl (c_X7_take hX1.t hX1.n hW (hS.rg _) (simR hC1 hN1 hX1 (k_take _ _) (fun M2 hs2 => ?_)))
  refine J_icmp_eq (tgt := 1743) hx dL_law_988 (by decide) (fun c1 => ?_) (fun c1 => ?_)
  · exact J_weak (hK _ _ _ _ hs2 (w_take _ hw)) (by omega) (by omega)
  · exact absurd rfl c1

set_option maxHeartbeats 4000000 in
theorem lc_call {g : WG} {x : CX} {b L : Nat} {X : Nat → Int} {T : TT} {M : MM} {o sz i n kk : Nat} {S : ST} (hx : OKx g x RL cL_law 20) (hS : SCR g x b L X) (hi : i + 6 ≤ L) (hs : SIM T M o sz S) (hw : WFn kk S) (hk : kk < 1000000) (hK : ∀ T' M' sz' S', SIM T' M' o sz' S' → WFn (kk + 1) S' → Jd g x 1743 [vR (b), vR (o), vR (o + 83), vI (((i : Nat) : Int))] [] T' M' sz' (261 * n) (6993 * n)) : Jd g x 993 [vR (b), vR (o), vR (o + 83), vI (((i : Nat) : Int))] [] T M sz (261 + 261 * n) (6993 + 6993 * n) := by
  have hL := hS.l
  have hW := hw.s hk
  refine J_aload_n hx dL_law_993 (i := 1) rfl rfl ?_
  refine J_invV (As := []) (st := []) hx lk_L_110 okX6_call dL_law_994 hs.1.o (by decide) rfl rfl rfl (Nat.le_of_ble_eq_true rfl) (Nat.zero_add _).symm (Nat.zero_add _).symm rfl (c_X6_call hs.1 hs.2.1 hW (simC hs (fun T1 M1 hC1 hN1 hX1 => ?_)))
  refine J_aload_n hx dL_law_997 (i := 2) rfl rfl ?_
  refine J_invV (As := []) (st := [vI ((a_call S).1)]) hx lk_L_113 okX7_call dL_law_998 hX1.t.o (by decide) rfl rfl rfl (Nat.le_of_ble_eq_true rfl) (Nat.zero_add _).symm (Nat.zero_add _).symm rfl (c_X7_call hX1.t hX1.n hW (simR hC1 hN1 hX1 (k_call _ ) (fun M2 hs2 => ?_)))
  refine J_icmp_eq (tgt := 1743) hx dL_law_1001 (by decide) (fun c1 => ?_) (fun c1 => ?_)
  · exact J_weak (hK _ _ _ _ hs2 (w_call hw)) (by omega) (by omega)
  · exact absurd rfl c1

set_option maxHeartbeats 4000000 in
theorem lc_won {g : WG} {x : CX} {b L : Nat} {X : Nat → Int} {T : TT} {M : MM} {o sz i n kk : Nat} {S : ST} (hx : OKx g x RL cL_law 20) (hS : SCR g x b L X) (hi : i + 6 ≤ L) (hs : SIM T M o sz S) (hw : WFn kk S) (hk : kk < 1000000) (hK : ∀ T' M' sz' S', SIM T' M' o sz' S' → WFn (kk + 1) S' → Jd g x 1743 [vR (b), vR (o), vR (o + 83), vI (((i : Nat) : Int))] [] T' M' sz' (261 * n) (6993 * n)) : Jd g x 1006 [vR (b), vR (o), vR (o + 83), vI (((i : Nat) : Int))] [] T M sz (261 + 261 * n) (6993 + 6993 * n) := by
  have hL := hS.l
  have hW := hw.s hk
  refine J_aload_n hx dL_law_1006 (i := 1) rfl rfl ?_
  refine J_invV (As := []) (st := []) hx lk_L_114 okX6_won dL_law_1007 hs.1.o (by decide) rfl rfl rfl (Nat.le_of_ble_eq_true rfl) (Nat.zero_add _).symm (Nat.zero_add _).symm rfl (c_X6_won hs.1 hs.2.1 hW (simC hs (fun T1 M1 hC1 hN1 hX1 => ?_)))
  refine J_aload_n hx dL_law_1010 (i := 2) rfl rfl ?_
  refine J_invV (As := []) (st := [vI ((a_won S).1)]) hx lk_L_117 okX7_won dL_law_1011 hX1.t.o (by decide) rfl rfl rfl (Nat.le_of_ble_eq_true rfl) (Nat.zero_add _).symm (Nat.zero_add _).symm rfl (c_X7_won hX1.t hX1.n hW (simR hC1 hN1 hX1 (k_won _ ) (fun M2 hs2 => ?_)))
  refine J_icmp_eq (tgt := 1743) hx dL_law_1014 (by decide) (fun c1 => ?_) (fun c1 => ?_)
  · exact J_weak (hK _ _ _ _ hs2 (w_won hw)) (by omega) (by omega)
  · exact absurd rfl c1

set_option maxHeartbeats 4000000 in
theorem lc_over {g : WG} {x : CX} {b L : Nat} {X : Nat → Int} {T : TT} {M : MM} {o sz i n kk : Nat} {S : ST} (hx : OKx g x RL cL_law 20) (hS : SCR g x b L X) (hi : i + 6 ≤ L) (hs : SIM T M o sz S) (hw : WFn kk S) (hk : kk < 1000000) (hK : ∀ T' M' sz' S', SIM T' M' o sz' S' → WFn (kk + 1) S' → Jd g x 1743 [vR (b), vR (o), vR (o + 83), vI (((i : Nat) : Int))] [] T' M' sz' (261 * n) (6993 * n)) : Jd g x 1019 [vR (b), vR (o), vR (o + 83), vI (((i : Nat) : Int))] [] T M sz (261 + 261 * n) (6993 + 6993 * n) := by
  have hL := hS.l
  have hW := hw.s hk
  refine J_aload_n hx dL_law_1019 (i := 1) rfl rfl ?_
  refine J_invV (As := []) (st := []) hx lk_L_118 okX6_over dL_law_1020 hs.1.o (by decide) rfl rfl rfl (Nat.le_of_ble_eq_true rfl) (Nat.zero_add _).symm (Nat.zero_add _).symm rfl (c_X6_over hs.1 hs.2.1 hW (simC hs (fun T1 M1 hC1 hN1 hX1 => ?_)))
  refine J_aload_n hx dL_law_1023 (i := 2) rfl rfl ?_
  refine J_invV (As := []) (st := [vI ((a_over S).1)]) hx lk_L_121 okX7_over dL_law_1024 hX1.t.o (by decide) rfl rfl rfl (Nat.le_of_ble_eq_true rfl) (Nat.zero_add _).symm (Nat.zero_add _).symm rfl (c_X7_over hX1.t hX1.n hW (simR hC1 hN1 hX1 (k_over _ ) (fun M2 hs2 => ?_)))
  refine J_icmp_eq (tgt := 1743) hx dL_law_1027 (by decide) (fun c1 => ?_) (fun c1 => ?_)
  · exact J_weak (hK _ _ _ _ hs2 (w_over hw)) (by omega) (by omega)
  · exact absurd rfl c1

set_option maxHeartbeats 4000000 in
theorem lc_play {g : WG} {x : CX} {b L : Nat} {X : Nat → Int} {T : TT} {M : MM} {o sz i n kk : Nat} {S : ST} (hx : OKx g x RL cL_law 20) (hS : SCR g x b L X) (hi : i + 6 ≤ L) (hs : SIM T M o sz S) (hw : WFn kk S) (hk : kk < 1000000) (hK : ∀ T' M' sz' S', SIM T' M' o sz' S' → WFn (kk + 1) S' → Jd g x 1743 [vR (b), vR (o), vR (o + 83), vI (((i : Nat) : Int))] [] T' M' sz' (261 * n) (6993 * n)) : Jd g x 1032 [vR (b), vR (o), vR (o + 83), vI (((i : Nat) : Int))] [] T M sz (261 + 261 * n) (6993 + 6993 * n) := by
  have hL := hS.l
  have hW := hw.s hk
  refine J_aload_n hx dL_law_1032 (i := 1) rfl rfl ?_
  refine J_aload_n hx dL_law_1033 (i := 0) rfl rfl ?_
  refine J_iload_n hx dL_law_1034 (i := 3) rfl rfl ?_
  refine J_iconst (v := 1) hx dL_law_1035 (by decide) ?_
  refine J_iadd (v := ((i : Nat) : Int) + 1) hx dL_law_1036 (w32_id (by omega) (by omega)) ?_
  refine J_sld hx hS (i + 1) dL_law_1037 (by omega) (by omega) ?_
  refine J_aload_n hx dL_law_1038 (i := 0) rfl rfl ?_
  refine J_iload_n hx dL_law_1039 (i := 3) rfl rfl ?_
  refine J_iconst (v := 2) hx dL_law_1040 (by decide) ?_
  refine J_iadd (v := ((i : Nat) : Int) + 2) hx dL_law_1041 (w32_id (by omega) (by omega)) ?_
  refine J_sld hx hS (i + 2) dL_law_1042 (by omega) (by omega) ?_
  refine J_invV (As := [vI (X (i + 1)), vI (X (i + 2))]) (st := []) hx lk_L_122 okX6_play dL_law_1043 hs.1.o (by decide) rfl rfl rfl (Nat.le_of_ble_eq_true rfl) (Nat.zero_add _).symm (Nat.zero_add _).symm rfl (c_X6_play hs.1 hs.2.1 hW (hS.rg _) (hS.rg _) (simC hs (fun T1 M1 hC1 hN1 hX1 => ?_)))
  refine J_aload_n hx dL_law_1046 (i := 2) rfl rfl ?_
  refine J_aload_n hx dL_law_1047 (i := 0) rfl rfl ?_
  refine J_iload_n hx dL_law_1048 (i := 3) rfl rfl ?_
  refine J_iconst (v := 1) hx dL_law_1049 (by decide) ?_
  refine J_iadd (v := ((i : Nat) : Int) + 1) hx dL_law_1050 (w32_id (by omega) (by omega)) ?_
  refine J_sld hx hS (i + 1) dL_law_1051 (by omega) (by omega) ?_
  refine J_aload_n hx dL_law_1052 (i := 0) rfl rfl ?_
  refine J_iload_n hx dL_law_1053 (i := 3) rfl rfl ?_
  refine J_iconst (v := 2) hx dL_law_1054 (by decide) ?_
  refine J_iadd (v := ((i : Nat) : Int) + 2) hx dL_law_1055 (w32_id (by omega) (by omega)) ?_
  refine J_sld hx hS (i + 2) dL_law_1056 (by omega) (by omega) ?_
  refine J_invV (As := [vI (X (i + 1)), vI (X (i + 2))]) (st := [vI ((a_play S (X (i + 1)) (X (i + 2))).1)]) hx lk_L_125 okX7_play dL_law_1057 hX1.t.o (by decide) rfl rfl rfl (Nat.le_of_ble_eq_true rfl) (show 261 + 261 * n = 29 + (232 + 261 * n) by omega) (show 6993 + 6993 * n = 777 + (6216 + 6993 * n) by omega) rfl (c_X7_play hX1 hW (hS.rg _) (hS.rg _) (simX hC1 hN1 (fun T2 M2 sz2 hs2 => ?_)))
  refine J_icmp_eq (tgt := 1743) hx dL_law_1060 (by decide) (fun c1 => ?_) (fun c1 => ?_)
  · exact J_weak (hK _ _ _ _ hs2 (w_play _ _ hw)) (by omega) (by omega)
  · exact absurd rfl c1

set_option maxHeartbeats 4000000 in
theorem lc_stand {g : WG} {x : CX} {b L : Nat} {X : Nat → Int} {T : TT} {M : MM} {o sz i n kk : Nat} {S : ST} (hx : OKx g x RL cL_law 20) (hS : SCR g x b L X) (hi : i + 6 ≤ L) (hs : SIM T M o sz S) (hw : WFn kk S) (hk : kk < 1000000) (hK : ∀ T' M' sz' S', SIM T' M' o sz' S' → WFn (kk + 1) S' → Jd g x 1743 [vR (b), vR (o), vR (o + 83), vI (((i : Nat) : Int))] [] T' M' sz' (261 * n) (6993 * n)) : Jd g x 1065 [vR (b), vR (o), vR (o + 83), vI (((i : Nat) : Int))] [] T M sz (261 + 261 * n) (6993 + 6993 * n) := by
  have hL := hS.l
  have hW := hw.s hk
  refine J_aload_n hx dL_law_1065 (i := 1) rfl rfl ?_
  refine J_aload_n hx dL_law_1066 (i := 0) rfl rfl ?_
  refine J_iload_n hx dL_law_1067 (i := 3) rfl rfl ?_
  refine J_iconst (v := 1) hx dL_law_1068 (by decide) ?_
  refine J_iadd (v := ((i : Nat) : Int) + 1) hx dL_law_1069 (w32_id (by omega) (by omega)) ?_
  refine J_sld hx hS (i + 1) dL_law_1070 (by omega) (by omega) ?_
  refine J_aload_n hx dL_law_1071 (i := 0) rfl rfl ?_
  refine J_iload_n hx dL_law_1072 (i := 3) rfl rfl ?_
  refine J_iconst (v := 2) hx dL_law_1073 (by decide) ?_
  refine J_iadd (v := ((i : Nat) : Int) + 2) hx dL_law_1074 (w32_id (by omega) (by omega)) ?_
  refine J_sld hx hS (i + 2) dL_law_1075 (by omega) (by omega) ?_
  refine J_invV (As := [vI (X (i + 1)), vI (X (i + 2))]) (st := []) hx lk_L_126 okX6_stand dL_law_1076 hs.1.o (by decide) rfl rfl rfl (Nat.le_of_ble_eq_true rfl) (Nat.zero_add _).symm (Nat.zero_add _).symm rfl (c_X6_stand hs.1 hs.2.1 hW (hS.rg _) (hS.rg _) (simC hs (fun T1 M1 hC1 hN1 hX1 => ?_)))
  refine J_aload_n hx dL_law_1079 (i := 2) rfl rfl ?_
  refine J_aload_n hx dL_law_1080 (i := 0) rfl rfl ?_
  refine J_iload_n hx dL_law_1081 (i := 3) rfl rfl ?_
  refine J_iconst (v := 1) hx dL_law_1082 (by decide) ?_
  refine J_iadd (v := ((i : Nat) : Int) + 1) hx dL_law_1083 (w32_id (by omega) (by omega)) ?_
  refine J_sld hx hS (i + 1) dL_law_1084 (by omega) (by omega) ?_
  refine J_aload_n hx dL_law_1085 (i := 0) rfl rfl ?_
  refine J_iload_n hx dL_law_1086 (i := 3) rfl rfl ?_
  refine J_iconst (v := 2) hx dL_law_1087 (by decide) ?_
  refine J_iadd (v := ((i : Nat) : Int) + 2) hx dL_law_1088 (w32_id (by omega) (by omega)) ?_
  refine J_sld hx hS (i + 2) dL_law_1089 (by omega) (by omega) ?_
  refine J_invV (As := [vI (X (i + 1)), vI (X (i + 2))]) (st := [vI ((a_stand S (X (i + 1)) (X (i + 2))).1)]) hx lk_L_129 okX7_stand dL_law_1090 hX1.t.o (by decide) rfl rfl rfl (Nat.le_of_ble_eq_true rfl) (Nat.zero_add _).symm (Nat.zero_add _).symm rfl (c_X7_stand hX1.t hX1.n hW (hS.rg _) (hS.rg _) (simR hC1 hN1 hX1 (k_stand _ _ _) (fun M2 hs2 => ?_)))
  refine J_icmp_eq (tgt := 1743) hx dL_law_1093 (by decide) (fun c1 => ?_) (fun c1 => ?_)
  · exact J_weak (hK _ _ _ _ hs2 (w_stand _ _ hw)) (by omega) (by omega)
  · exact absurd rfl c1

set_option maxHeartbeats 4000000 in
theorem lc_worth {g : WG} {x : CX} {b L : Nat} {X : Nat → Int} {T : TT} {M : MM} {o sz i n kk : Nat} {S : ST} (hx : OKx g x RL cL_law 20) (hS : SCR g x b L X) (hi : i + 6 ≤ L) (hs : SIM T M o sz S) (hw : WFn kk S) (hk : kk < 1000000) (hK : ∀ T' M' sz' S', SIM T' M' o sz' S' → WFn (kk + 1) S' → Jd g x 1743 [vR (b), vR (o), vR (o + 83), vI (((i : Nat) : Int))] [] T' M' sz' (261 * n) (6993 * n)) : Jd g x 1098 [vR (b), vR (o), vR (o + 83), vI (((i : Nat) : Int))] [] T M sz (261 + 261 * n) (6993 + 6993 * n) := by
  have hL := hS.l
  have hW := hw.s hk
  refine J_aload_n hx dL_law_1098 (i := 1) rfl rfl ?_
  refine J_aload_n hx dL_law_1099 (i := 0) rfl rfl ?_
  refine J_iload_n hx dL_law_1100 (i := 3) rfl rfl ?_
  refine J_iconst (v := 1) hx dL_law_1101 (by decide) ?_
  refine J_iadd (v := ((i : Nat) : Int) + 1) hx dL_law_1102 (w32_id (by omega) (by omega)) ?_
  refine J_sld hx hS (i + 1) dL_law_1103 (by omega) (by omega) ?_
  refine J_invV (As := [vI (X (i + 1))]) (st := []) hx lk_L_130 okX6_worth dL_law_1104 hs.1.o (by decide) rfl rfl rfl (Nat.le_of_ble_eq_true rfl) (Nat.zero_add _).symm (Nat.zero_add _).symm rfl (c_X6_worth hs.1 hs.2.1 hW (hS.rg _) (simC hs (fun T1 M1 hC1 hN1 hX1 => ?_)))
  refine J_aload_n hx dL_law_1107 (i := 2) rfl rfl ?_
  refine J_aload_n hx dL_law_1108 (i := 0) rfl rfl ?_
  refine J_iload_n hx dL_law_1109 (i := 3) rfl rfl ?_
  refine J_iconst (v := 1) hx dL_law_1110 (by decide) ?_
  refine J_iadd (v := ((i : Nat) : Int) + 1) hx dL_law_1111 (w32_id (by omega) (by omega)) ?_
  refine J_sld hx hS (i + 1) dL_law_1112 (by omega) (by omega) ?_
  refine J_invV (As := [vI (X (i + 1))]) (st := [vI ((a_worth S (X (i + 1))).1)]) hx lk_L_133 okX7_worth dL_law_1113 hX1.t.o (by decide) rfl rfl rfl (Nat.le_of_ble_eq_true rfl) (Nat.zero_add _).symm (Nat.zero_add _).symm rfl (c_X7_worth hX1.t hX1.n hW (hS.rg _) (simR hC1 hN1 hX1 (k_worth _ _) (fun M2 hs2 => ?_)))
  refine J_icmp_eq (tgt := 1743) hx dL_law_1116 (by decide) (fun c1 => ?_) (fun c1 => ?_)
  · exact J_weak (hK _ _ _ _ hs2 (w_worth _ hw)) (by omega) (by omega)
  · exact absurd rfl c1

set_option maxHeartbeats 4000000 in
theorem lc_move {g : WG} {x : CX} {b L : Nat} {X : Nat → Int} {T : TT} {M : MM} {o sz i n kk : Nat} {S : ST} (hx : OKx g x RL cL_law 20) (hS : SCR g x b L X) (hi : i + 6 ≤ L) (hs : SIM T M o sz S) (hw : WFn kk S) (hk : kk < 1000000) (hK : ∀ T' M' sz' S', SIM T' M' o sz' S' → WFn (kk + 1) S' → Jd g x 1743 [vR (b), vR (o), vR (o + 83), vI (((i : Nat) : Int))] [] T' M' sz' (261 * n) (6993 * n)) : Jd g x 1121 [vR (b), vR (o), vR (o + 83), vI (((i : Nat) : Int))] [] T M sz (261 + 261 * n) (6993 + 6993 * n) := by
  have hL := hS.l
  have hW := hw.s hk
  refine J_aload_n hx dL_law_1121 (i := 1) rfl rfl ?_
  refine J_aload_n hx dL_law_1122 (i := 0) rfl rfl ?_
  refine J_iload_n hx dL_law_1123 (i := 3) rfl rfl ?_
  refine J_iconst (v := 1) hx dL_law_1124 (by decide) ?_
  refine J_iadd (v := ((i : Nat) : Int) + 1) hx dL_law_1125 (w32_id (by omega) (by omega)) ?_
  refine J_sld hx hS (i + 1) dL_law_1126 (by omega) (by omega) ?_
  refine J_aload_n hx dL_law_1127 (i := 0) rfl rfl ?_
  refine J_iload_n hx dL_law_1128 (i := 3) rfl rfl ?_
  refine J_iconst (v := 2) hx dL_law_1129 (by decide) ?_
  refine J_iadd (v := ((i : Nat) : Int) + 2) hx dL_law_1130 (w32_id (by omega) (by omega)) ?_
  refine J_sld hx hS (i + 2) dL_law_1131 (by omega) (by omega) ?_
  refine J_invV (As := [vI (X (i + 1)), vI (X (i + 2))]) (st := []) hx lk_L_134 okX6_move dL_law_1132 hs.1.o (by decide) rfl rfl rfl (Nat.le_of_ble_eq_true rfl) (Nat.zero_add _).symm (Nat.zero_add _).symm rfl (c_X6_move hs.1 hs.2.1 hW (hS.rg _) (hS.rg _) (simC hs (fun T1 M1 hC1 hN1 hX1 => ?_)))
  refine J_aload_n hx dL_law_1135 (i := 2) rfl rfl ?_
  refine J_aload_n hx dL_law_1136 (i := 0) rfl rfl ?_
  refine J_iload_n hx dL_law_1137 (i := 3) rfl rfl ?_
  refine J_iconst (v := 1) hx dL_law_1138 (by decide) ?_
  refine J_iadd (v := ((i : Nat) : Int) + 1) hx dL_law_1139 (w32_id (by omega) (by omega)) ?_
  refine J_sld hx hS (i + 1) dL_law_1140 (by omega) (by omega) ?_
  refine J_aload_n hx dL_law_1141 (i := 0) rfl rfl ?_
  refine J_iload_n hx dL_law_1142 (i := 3) rfl rfl ?_
  refine J_iconst (v := 2) hx dL_law_1143 (by decide) ?_
  refine J_iadd (v := ((i : Nat) : Int) + 2) hx dL_law_1144 (w32_id (by omega) (by omega)) ?_
  refine J_sld hx hS (i + 2) dL_law_1145 (by omega) (by omega) ?_
  refine J_invV (As := [vI (X (i + 1)), vI (X (i + 2))]) (st := [vI ((a_move S (X (i + 1)) (X (i + 2))).1)]) hx lk_L_137 okX7_move dL_law_1146 hX1.t.o (by decide) rfl rfl rfl (Nat.le_of_ble_eq_true rfl) (Nat.zero_add _).symm (Nat.zero_add _).symm rfl (c_X7_move hX1.t hX1.n hW (hS.rg _) (hS.rg _) (simR hC1 hN1 hX1 (k_move _ _ _) (fun M2 hs2 => ?_)))
  refine J_icmp_eq (tgt := 1743) hx dL_law_1149 (by decide) (fun c1 => ?_) (fun c1 => ?_)
  · exact J_weak (hK _ _ _ _ hs2 (w_move _ _ hw)) (by omega) (by omega)
  · exact absurd rfl c1

set_option maxHeartbeats 4000000 in
theorem lc_pair {g : WG} {x : CX} {b L : Nat} {X : Nat → Int} {T : TT} {M : MM} {o sz i n kk : Nat} {S : ST} (hx : OKx g x RL cL_law 20) (hS : SCR g x b L X) (hi : i + 6 ≤ L) (hs : SIM T M o sz S) (hw : WFn kk S) (hk : kk < 1000000) (hK : ∀ T' M' sz' S', SIM T' M' o sz' S' → WFn (kk + 1) S' → Jd g x 1743 [vR (b), vR (o), vR (o + 83), vI (((i : Nat) : Int))] [] T' M' sz' (261 * n) (6993 * n)) : Jd g x 1154 [vR (b), vR (o), vR (o + 83), vI (((i : Nat) : Int))] [] T M sz (261 + 261 * n) (6993 + 6993 * n) := by
  have hL := hS.l
  have hW := hw.s hk
  refine J_aload_n hx dL_law_1154 (i := 1) rfl rfl ?_
  refine J_invV (As := []) (st := []) hx lk_L_138 okX6_pair dL_law_1155 hs.1.o (by decide) rfl rfl rfl (Nat.le_of_ble_eq_true rfl) (Nat.zero_add _).symm (Nat.zero_add _).symm rfl (c_X6_pair hs.1 hs.2.1 hW (simC hs (fun T1 M1 hC1 hN1 hX1 => ?_)))
  refine J_aload_n hx dL_law_1158 (i := 2) rfl rfl ?_
  refine J_invV (As := []) (st := [vI ((a_pair S).1)]) hx lk_L_141 okX7_pair dL_law_1159 hX1.t.o (by decide) rfl rfl rfl (Nat.le_of_ble_eq_true rfl) (Nat.zero_add _).symm (Nat.zero_add _).symm rfl (c_X7_pair hX1.t hX1.n hW (simR hC1 hN1 hX1 (k_pair _ ) (fun M2 hs2 => ?_)))
  refine J_icmp_eq (tgt := 1743) hx dL_law_1162 (by decide) (fun c1 => ?_) (fun c1 => ?_)
  · exact J_weak (hK _ _ _ _ hs2 (w_pair hw)) (by omega) (by omega)
  · exact absurd rfl c1

set_option maxHeartbeats 4000000 in
theorem lc_tiredest {g : WG} {x : CX} {b L : Nat} {X : Nat → Int} {T : TT} {M : MM} {o sz i n kk : Nat} {S : ST} (hx : OKx g x RL cL_law 20) (hS : SCR g x b L X) (hi : i + 6 ≤ L) (hs : SIM T M o sz S) (hw : WFn kk S) (hk : kk < 1000000) (hK : ∀ T' M' sz' S', SIM T' M' o sz' S' → WFn (kk + 1) S' → Jd g x 1743 [vR (b), vR (o), vR (o + 83), vI (((i : Nat) : Int))] [] T' M' sz' (261 * n) (6993 * n)) : Jd g x 1167 [vR (b), vR (o), vR (o + 83), vI (((i : Nat) : Int))] [] T M sz (261 + 261 * n) (6993 + 6993 * n) := by
  have hL := hS.l
  have hW := hw.s hk
  refine J_aload_n hx dL_law_1167 (i := 1) rfl rfl ?_
  refine J_invV (As := []) (st := []) hx lk_L_142 okX6_tiredest dL_law_1168 hs.1.o (by decide) rfl rfl rfl (Nat.le_of_ble_eq_true rfl) (Nat.zero_add _).symm (Nat.zero_add _).symm rfl (c_X6_tiredest hs.1 hs.2.1 hW (simC hs (fun T1 M1 hC1 hN1 hX1 => ?_)))
  refine J_aload_n hx dL_law_1171 (i := 2) rfl rfl ?_
  refine J_invV (As := []) (st := [vI ((a_tiredest S).1)]) hx lk_L_145 okX7_tiredest dL_law_1172 hX1.t.o (by decide) rfl rfl rfl (Nat.le_of_ble_eq_true rfl) (Nat.zero_add _).symm (Nat.zero_add _).symm rfl (c_X7_tiredest hX1.t hX1.n hW (simR hC1 hN1 hX1 (k_tiredest _ ) (fun M2 hs2 => ?_)))
  refine J_icmp_eq (tgt := 1743) hx dL_law_1175 (by decide) (fun c1 => ?_) (fun c1 => ?_)
  · exact J_weak (hK _ _ _ _ hs2 (w_tiredest hw)) (by omega) (by omega)
  · exact absurd rfl c1

set_option maxHeartbeats 4000000 in
theorem lc_spreadFor {g : WG} {x : CX} {b L : Nat} {X : Nat → Int} {T : TT} {M : MM} {o sz i n kk : Nat} {S : ST} (hx : OKx g x RL cL_law 20) (hS : SCR g x b L X) (hi : i + 6 ≤ L) (hs : SIM T M o sz S) (hw : WFn kk S) (hk : kk < 1000000) (hK : ∀ T' M' sz' S', SIM T' M' o sz' S' → WFn (kk + 1) S' → Jd g x 1743 [vR (b), vR (o), vR (o + 83), vI (((i : Nat) : Int))] [] T' M' sz' (261 * n) (6993 * n)) : Jd g x 1180 [vR (b), vR (o), vR (o + 83), vI (((i : Nat) : Int))] [] T M sz (261 + 261 * n) (6993 + 6993 * n) := by
  have hL := hS.l
  have hW := hw.s hk
  refine J_aload_n hx dL_law_1180 (i := 1) rfl rfl ?_
  refine J_aload_n hx dL_law_1181 (i := 0) rfl rfl ?_
  refine J_iload_n hx dL_law_1182 (i := 3) rfl rfl ?_
  refine J_iconst (v := 1) hx dL_law_1183 (by decide) ?_
  refine J_iadd (v := ((i : Nat) : Int) + 1) hx dL_law_1184 (w32_id (by omega) (by omega)) ?_
  refine J_sld hx hS (i + 1) dL_law_1185 (by omega) (by omega) ?_
  refine J_aload_n hx dL_law_1186 (i := 0) rfl rfl ?_
  refine J_iload_n hx dL_law_1187 (i := 3) rfl rfl ?_
  refine J_iconst (v := 2) hx dL_law_1188 (by decide) ?_
  refine J_iadd (v := ((i : Nat) : Int) + 2) hx dL_law_1189 (w32_id (by omega) (by omega)) ?_
  refine J_sld hx hS (i + 2) dL_law_1190 (by omega) (by omega) ?_
  refine J_invV (As := [vI (X (i + 1)), vI (X (i + 2))]) (st := []) hx lk_L_146 okX6_spreadFor dL_law_1191 hs.1.o (by decide) rfl rfl rfl (Nat.le_of_ble_eq_true rfl) (Nat.zero_add _).symm (Nat.zero_add _).symm rfl (c_X6_spreadFor hs.1 hs.2.1 hW (hS.rg _) (hS.rg _) (simC hs (fun T1 M1 hC1 hN1 hX1 => ?_)))
  refine J_aload_n hx dL_law_1194 (i := 2) rfl rfl ?_
  refine J_aload_n hx dL_law_1195 (i := 0) rfl rfl ?_
  refine J_iload_n hx dL_law_1196 (i := 3) rfl rfl ?_
  refine J_iconst (v := 1) hx dL_law_1197 (by decide) ?_
  refine J_iadd (v := ((i : Nat) : Int) + 1) hx dL_law_1198 (w32_id (by omega) (by omega)) ?_
  refine J_sld hx hS (i + 1) dL_law_1199 (by omega) (by omega) ?_
  refine J_aload_n hx dL_law_1200 (i := 0) rfl rfl ?_
  refine J_iload_n hx dL_law_1201 (i := 3) rfl rfl ?_
  refine J_iconst (v := 2) hx dL_law_1202 (by decide) ?_
  refine J_iadd (v := ((i : Nat) : Int) + 2) hx dL_law_1203 (w32_id (by omega) (by omega)) ?_
  refine J_sld hx hS (i + 2) dL_law_1204 (by omega) (by omega) ?_
  refine J_invV (As := [vI (X (i + 1)), vI (X (i + 2))]) (st := [vI ((a_spreadFor S (X (i + 1)) (X (i + 2))).1)]) hx lk_L_149 okX7_spreadFor dL_law_1205 hX1.t.o (by decide) rfl rfl rfl (Nat.le_of_ble_eq_true rfl) (Nat.zero_add _).symm (Nat.zero_add _).symm rfl (c_X7_spreadFor hX1.t hX1.n hW (hS.rg _) (hS.rg _) (simR hC1 hN1 hX1 (k_spreadFor _ _ _) (fun M2 hs2 => ?_)))
  refine J_icmp_eq (tgt := 1743) hx dL_law_1208 (by decide) (fun c1 => ?_) (fun c1 => ?_)
  · exact J_weak (hK _ _ _ _ hs2 (w_spreadFor _ _ hw)) (by omega) (by omega)
  · exact absurd rfl c1

set_option maxHeartbeats 4000000 in
theorem lc_yardsFor {g : WG} {x : CX} {b L : Nat} {X : Nat → Int} {T : TT} {M : MM} {o sz i n kk : Nat} {S : ST} (hx : OKx g x RL cL_law 20) (hS : SCR g x b L X) (hi : i + 6 ≤ L) (hs : SIM T M o sz S) (hw : WFn kk S) (hk : kk < 1000000) (hK : ∀ T' M' sz' S', SIM T' M' o sz' S' → WFn (kk + 1) S' → Jd g x 1743 [vR (b), vR (o), vR (o + 83), vI (((i : Nat) : Int))] [] T' M' sz' (261 * n) (6993 * n)) : Jd g x 1213 [vR (b), vR (o), vR (o + 83), vI (((i : Nat) : Int))] [] T M sz (261 + 261 * n) (6993 + 6993 * n) := by
  have hL := hS.l
  have hW := hw.s hk
  refine J_aload_n hx dL_law_1213 (i := 1) rfl rfl ?_
  refine J_aload_n hx dL_law_1214 (i := 0) rfl rfl ?_
  refine J_iload_n hx dL_law_1215 (i := 3) rfl rfl ?_
  refine J_iconst (v := 1) hx dL_law_1216 (by decide) ?_
  refine J_iadd (v := ((i : Nat) : Int) + 1) hx dL_law_1217 (w32_id (by omega) (by omega)) ?_
  refine J_sld hx hS (i + 1) dL_law_1218 (by omega) (by omega) ?_
  refine J_aload_n hx dL_law_1219 (i := 0) rfl rfl ?_
  refine J_iload_n hx dL_law_1220 (i := 3) rfl rfl ?_
  refine J_iconst (v := 2) hx dL_law_1221 (by decide) ?_
  refine J_iadd (v := ((i : Nat) : Int) + 2) hx dL_law_1222 (w32_id (by omega) (by omega)) ?_
  refine J_sld hx hS (i + 2) dL_law_1223 (by omega) (by omega) ?_
  refine J_invV (As := [vI (X (i + 1)), vI (X (i + 2))]) (st := []) hx lk_L_150 okX6_yardsFor dL_law_1224 hs.1.o (by decide) rfl rfl rfl (Nat.le_of_ble_eq_true rfl) (Nat.zero_add _).symm (Nat.zero_add _).symm rfl (c_X6_yardsFor hs.1 hs.2.1 hW (hS.rg _) (hS.rg _) (simC hs (fun T1 M1 hC1 hN1 hX1 => ?_)))
  refine J_aload_n hx dL_law_1227 (i := 2) rfl rfl ?_
  refine J_aload_n hx dL_law_1228 (i := 0) rfl rfl ?_
  refine J_iload_n hx dL_law_1229 (i := 3) rfl rfl ?_
  refine J_iconst (v := 1) hx dL_law_1230 (by decide) ?_
  refine J_iadd (v := ((i : Nat) : Int) + 1) hx dL_law_1231 (w32_id (by omega) (by omega)) ?_
  refine J_sld hx hS (i + 1) dL_law_1232 (by omega) (by omega) ?_
  refine J_aload_n hx dL_law_1233 (i := 0) rfl rfl ?_
  refine J_iload_n hx dL_law_1234 (i := 3) rfl rfl ?_
  refine J_iconst (v := 2) hx dL_law_1235 (by decide) ?_
  refine J_iadd (v := ((i : Nat) : Int) + 2) hx dL_law_1236 (w32_id (by omega) (by omega)) ?_
  refine J_sld hx hS (i + 2) dL_law_1237 (by omega) (by omega) ?_
  refine J_invV (As := [vI (X (i + 1)), vI (X (i + 2))]) (st := [vI ((a_yardsFor S (X (i + 1)) (X (i + 2))).1)]) hx lk_L_153 okX7_yardsFor dL_law_1238 hX1.t.o (by decide) rfl rfl rfl (Nat.le_of_ble_eq_true rfl) (show 261 + 261 * n = 29 + (232 + 261 * n) by omega) (show 6993 + 6993 * n = 777 + (6216 + 6993 * n) by omega) rfl (c_X7_yardsFor hX1 hW (hS.rg _) (hS.rg _) (simX hC1 hN1 (fun T2 M2 sz2 hs2 => ?_)))
  refine J_icmp_eq (tgt := 1743) hx dL_law_1241 (by decide) (fun c1 => ?_) (fun c1 => ?_)
  · exact J_weak (hK _ _ _ _ hs2 (w_yardsFor _ _ hw)) (by omega) (by omega)
  · exact absurd rfl c1

set_option maxHeartbeats 4000000 in
theorem lc_leads {g : WG} {x : CX} {b L : Nat} {X : Nat → Int} {T : TT} {M : MM} {o sz i n kk : Nat} {S : ST} (hx : OKx g x RL cL_law 20) (hS : SCR g x b L X) (hi : i + 6 ≤ L) (hs : SIM T M o sz S) (hw : WFn kk S) (hk : kk < 1000000) (hK : ∀ T' M' sz' S', SIM T' M' o sz' S' → WFn (kk + 1) S' → Jd g x 1743 [vR (b), vR (o), vR (o + 83), vI (((i : Nat) : Int))] [] T' M' sz' (261 * n) (6993 * n)) : Jd g x 1246 [vR (b), vR (o), vR (o + 83), vI (((i : Nat) : Int))] [] T M sz (261 + 261 * n) (6993 + 6993 * n) := by
  have hL := hS.l
  have hW := hw.s hk
  refine J_aload_n hx dL_law_1246 (i := 1) rfl rfl ?_
  refine J_aload_n hx dL_law_1247 (i := 0) rfl rfl ?_
  refine J_iload_n hx dL_law_1248 (i := 3) rfl rfl ?_
  refine J_iconst (v := 1) hx dL_law_1249 (by decide) ?_
  refine J_iadd (v := ((i : Nat) : Int) + 1) hx dL_law_1250 (w32_id (by omega) (by omega)) ?_
  refine J_sld hx hS (i + 1) dL_law_1251 (by omega) (by omega) ?_
  refine J_invV (As := [vI (X (i + 1))]) (st := []) hx lk_L_154 okX6_leads dL_law_1252 hs.1.o (by decide) rfl rfl rfl (Nat.le_of_ble_eq_true rfl) (Nat.zero_add _).symm (Nat.zero_add _).symm rfl (c_X6_leads hs.1 hs.2.1 hW (hS.rg _) (simC hs (fun T1 M1 hC1 hN1 hX1 => ?_)))
  refine J_aload_n hx dL_law_1255 (i := 2) rfl rfl ?_
  refine J_aload_n hx dL_law_1256 (i := 0) rfl rfl ?_
  refine J_iload_n hx dL_law_1257 (i := 3) rfl rfl ?_
  refine J_iconst (v := 1) hx dL_law_1258 (by decide) ?_
  refine J_iadd (v := ((i : Nat) : Int) + 1) hx dL_law_1259 (w32_id (by omega) (by omega)) ?_
  refine J_sld hx hS (i + 1) dL_law_1260 (by omega) (by omega) ?_
  refine J_invV (As := [vI (X (i + 1))]) (st := [vI ((a_leads S (X (i + 1))).1)]) hx lk_L_157 okX7_leads dL_law_1261 hX1.t.o (by decide) rfl rfl rfl (Nat.le_of_ble_eq_true rfl) (show 261 + 261 * n = 29 + (232 + 261 * n) by omega) (show 6993 + 6993 * n = 777 + (6216 + 6993 * n) by omega) rfl (c_X7_leads hX1 hW (hS.rg _) (simX hC1 hN1 (fun T2 M2 sz2 hs2 => ?_)))
  refine J_icmp_eq (tgt := 1743) hx dL_law_1264 (by decide) (fun c1 => ?_) (fun c1 => ?_)
  · exact J_weak (hK _ _ _ _ hs2 (w_leads _ hw)) (by omega) (by omega)
  · exact absurd rfl c1

set_option maxHeartbeats 4000000 in
theorem lc_game {g : WG} {x : CX} {b L : Nat} {X : Nat → Int} {T : TT} {M : MM} {o sz i n kk : Nat} {S : ST} (hx : OKx g x RL cL_law 20) (hS : SCR g x b L X) (hi : i + 6 ≤ L) (hs : SIM T M o sz S) (hw : WFn kk S) (hk : kk < 1000000) (hK : ∀ T' M' sz' S', SIM T' M' o sz' S' → WFn (kk + 1) S' → Jd g x 1743 [vR (b), vR (o), vR (o + 83), vI (((i : Nat) : Int))] [] T' M' sz' (261 * n) (6993 * n)) : Jd g x 1269 [vR (b), vR (o), vR (o + 83), vI (((i : Nat) : Int))] [] T M sz (261 + 261 * n) (6993 + 6993 * n) := by
  have hL := hS.l
  have hW := hw.s hk
  refine J_aload_n hx dL_law_1269 (i := 1) rfl rfl ?_
  refine J_aload_n hx dL_law_1270 (i := 0) rfl rfl ?_
  refine J_iload_n hx dL_law_1271 (i := 3) rfl rfl ?_
  refine J_iconst (v := 1) hx dL_law_1272 (by decide) ?_
  refine J_iadd (v := ((i : Nat) : Int) + 1) hx dL_law_1273 (w32_id (by omega) (by omega)) ?_
  refine J_sld hx hS (i + 1) dL_law_1274 (by omega) (by omega) ?_
  refine J_invV (As := [vI (X (i + 1))]) (st := []) hx lk_L_158 okX6_game dL_law_1275 hs.1.o (by decide) rfl rfl rfl (Nat.le_of_ble_eq_true rfl) (Nat.zero_add _).symm (Nat.zero_add _).symm rfl (c_X6_game hs.1 hs.2.1 hW (hS.rg _) (simC hs (fun T1 M1 hC1 hN1 hX1 => ?_)))
  refine J_aload_n hx dL_law_1278 (i := 2) rfl rfl ?_
  refine J_aload_n hx dL_law_1279 (i := 0) rfl rfl ?_
  refine J_iload_n hx dL_law_1280 (i := 3) rfl rfl ?_
  refine J_iconst (v := 1) hx dL_law_1281 (by decide) ?_
  refine J_iadd (v := ((i : Nat) : Int) + 1) hx dL_law_1282 (w32_id (by omega) (by omega)) ?_
  refine J_sld hx hS (i + 1) dL_law_1283 (by omega) (by omega) ?_
  refine J_invV (As := [vI (X (i + 1))]) (st := [vI ((a_game S (X (i + 1))).1)]) hx lk_L_161 okX7_game dL_law_1284 hX1.t.o (by decide) rfl rfl rfl (Nat.le_of_ble_eq_true rfl) rfl rfl rfl (c_X7_game hX1 hW (hS.rg _) (simX hC1 hN1 (fun T2 M2 sz2 hs2 => ?_)))
  refine J_icmp_eq (tgt := 1743) hx dL_law_1287 (by decide) (fun c1 => ?_) (fun c1 => ?_)
  · exact J_weak (hK _ _ _ _ hs2 (w_game _ hw)) (by omega) (by omega)
  · exact absurd rfl c1

set_option maxHeartbeats 4000000 in
theorem lc_first {g : WG} {x : CX} {b L : Nat} {X : Nat → Int} {T : TT} {M : MM} {o sz i n kk : Nat} {S : ST} (hx : OKx g x RL cL_law 20) (hS : SCR g x b L X) (hi : i + 6 ≤ L) (hs : SIM T M o sz S) (hw : WFn kk S) (hk : kk < 1000000) (hK : ∀ T' M' sz' S', SIM T' M' o sz' S' → WFn (kk + 1) S' → Jd g x 1743 [vR (b), vR (o), vR (o + 83), vI (((i : Nat) : Int))] [] T' M' sz' (261 * n) (6993 * n)) : Jd g x 1292 [vR (b), vR (o), vR (o + 83), vI (((i : Nat) : Int))] [] T M sz (261 + 261 * n) (6993 + 6993 * n) := by
  have hL := hS.l
  have hW := hw.s hk
  refine J_aload_n hx dL_law_1292 (i := 1) rfl rfl ?_
  refine J_aload_n hx dL_law_1293 (i := 0) rfl rfl ?_
  refine J_iload_n hx dL_law_1294 (i := 3) rfl rfl ?_
  refine J_iconst (v := 1) hx dL_law_1295 (by decide) ?_
  refine J_iadd (v := ((i : Nat) : Int) + 1) hx dL_law_1296 (w32_id (by omega) (by omega)) ?_
  refine J_sld hx hS (i + 1) dL_law_1297 (by omega) (by omega) ?_
  refine J_invV (As := [vI (X (i + 1))]) (st := []) hx lk_L_162 okX6_first dL_law_1298 hs.1.o (by decide) rfl rfl rfl (Nat.le_of_ble_eq_true rfl) (Nat.zero_add _).symm (Nat.zero_add _).symm rfl (c_X6_first hs.1 hs.2.1 hW (hS.rg _) (simC hs (fun T1 M1 hC1 hN1 hX1 => ?_)))
  refine J_aload_n hx dL_law_1301 (i := 2) rfl rfl ?_
  refine J_aload_n hx dL_law_1302 (i := 0) rfl rfl ?_
  refine J_iload_n hx dL_law_1303 (i := 3) rfl rfl ?_
  refine J_iconst (v := 1) hx dL_law_1304 (by decide) ?_
  refine J_iadd (v := ((i : Nat) : Int) + 1) hx dL_law_1305 (w32_id (by omega) (by omega)) ?_
  refine J_sld hx hS (i + 1) dL_law_1306 (by omega) (by omega) ?_
  refine J_invV (As := [vI (X (i + 1))]) (st := [vI ((a_first S (X (i + 1))).1)]) hx lk_L_165 okX7_first dL_law_1307 hX1.t.o (by decide) rfl rfl rfl (Nat.le_of_ble_eq_true rfl) rfl rfl rfl (c_X7_first hX1 hW (hS.rg _) (simX hC1 hN1 (fun T2 M2 sz2 hs2 => ?_)))
  refine J_icmp_eq (tgt := 1743) hx dL_law_1310 (by decide) (fun c1 => ?_) (fun c1 => ?_)
  · exact J_weak (hK _ _ _ _ hs2 (w_first _ hw)) (by omega) (by omega)
  · exact absurd rfl c1

set_option maxHeartbeats 4000000 in
theorem lc_together {g : WG} {x : CX} {b L : Nat} {X : Nat → Int} {T : TT} {M : MM} {o sz i n kk : Nat} {S : ST} (hx : OKx g x RL cL_law 20) (hS : SCR g x b L X) (hi : i + 6 ≤ L) (hs : SIM T M o sz S) (hw : WFn kk S) (hk : kk < 1000000) (hK : ∀ T' M' sz' S', SIM T' M' o sz' S' → WFn (kk + 1) S' → Jd g x 1743 [vR (b), vR (o), vR (o + 83), vI (((i : Nat) : Int))] [] T' M' sz' (261 * n) (6993 * n)) : Jd g x 1315 [vR (b), vR (o), vR (o + 83), vI (((i : Nat) : Int))] [] T M sz (261 + 261 * n) (6993 + 6993 * n) := by
  have hL := hS.l
  have hW := hw.s hk
  refine J_aload_n hx dL_law_1315 (i := 1) rfl rfl ?_
  refine J_aload_n hx dL_law_1316 (i := 0) rfl rfl ?_
  refine J_iload_n hx dL_law_1317 (i := 3) rfl rfl ?_
  refine J_iconst (v := 1) hx dL_law_1318 (by decide) ?_
  refine J_iadd (v := ((i : Nat) : Int) + 1) hx dL_law_1319 (w32_id (by omega) (by omega)) ?_
  refine J_sld hx hS (i + 1) dL_law_1320 (by omega) (by omega) ?_
  refine J_invV (As := [vI (X (i + 1))]) (st := []) hx lk_L_166 okX6_together dL_law_1321 hs.1.o (by decide) rfl rfl rfl (Nat.le_of_ble_eq_true rfl) (Nat.zero_add _).symm (Nat.zero_add _).symm rfl (c_X6_together hs.1 hs.2.1 hW (hS.rg _) (simC hs (fun T1 M1 hC1 hN1 hX1 => ?_)))
  refine J_aload_n hx dL_law_1324 (i := 2) rfl rfl ?_
  refine J_aload_n hx dL_law_1325 (i := 0) rfl rfl ?_
  refine J_iload_n hx dL_law_1326 (i := 3) rfl rfl ?_
  refine J_iconst (v := 1) hx dL_law_1327 (by decide) ?_
  refine J_iadd (v := ((i : Nat) : Int) + 1) hx dL_law_1328 (w32_id (by omega) (by omega)) ?_
  refine J_sld hx hS (i + 1) dL_law_1329 (by omega) (by omega) ?_
  refine J_invV (As := [vI (X (i + 1))]) (st := [vI ((a_together S (X (i + 1))).1)]) hx lk_L_169 okX7_together dL_law_1330 hX1.t.o (by decide) rfl rfl rfl (Nat.le_of_ble_eq_true rfl) (Nat.zero_add _).symm (Nat.zero_add _).symm rfl (c_X7_together hX1.t hX1.n hW (hS.rg _) (simR hC1 hN1 hX1 (k_together _ _) (fun M2 hs2 => ?_)))
  refine J_icmp_eq (tgt := 1743) hx dL_law_1333 (by decide) (fun c1 => ?_) (fun c1 => ?_)
  · exact J_weak (hK _ _ _ _ hs2 (w_together _ hw)) (by omega) (by omega)
  · exact absurd rfl c1

set_option maxHeartbeats 4000000 in
theorem lc_swap {g : WG} {x : CX} {b L : Nat} {X : Nat → Int} {T : TT} {M : MM} {o sz i n kk : Nat} {S : ST} (hx : OKx g x RL cL_law 20) (hS : SCR g x b L X) (hi : i + 6 ≤ L) (hs : SIM T M o sz S) (hw : WFn kk S) (hk : kk < 1000000) (hK : ∀ T' M' sz' S', SIM T' M' o sz' S' → WFn (kk + 1) S' → Jd g x 1743 [vR (b), vR (o), vR (o + 83), vI (((i : Nat) : Int))] [] T' M' sz' (261 * n) (6993 * n)) : Jd g x 1338 [vR (b), vR (o), vR (o + 83), vI (((i : Nat) : Int))] [] T M sz (261 + 261 * n) (6993 + 6993 * n) := by
  have hL := hS.l
  have hW := hw.s hk
  refine J_aload_n hx dL_law_1338 (i := 1) rfl rfl ?_
  refine J_aload_n hx dL_law_1339 (i := 0) rfl rfl ?_
  refine J_iload_n hx dL_law_1340 (i := 3) rfl rfl ?_
  refine J_iconst (v := 1) hx dL_law_1341 (by decide) ?_
  refine J_iadd (v := ((i : Nat) : Int) + 1) hx dL_law_1342 (w32_id (by omega) (by omega)) ?_
  refine J_sld hx hS (i + 1) dL_law_1343 (by omega) (by omega) ?_
  refine J_aload_n hx dL_law_1344 (i := 0) rfl rfl ?_
  refine J_iload_n hx dL_law_1345 (i := 3) rfl rfl ?_
  refine J_iconst (v := 2) hx dL_law_1346 (by decide) ?_
  refine J_iadd (v := ((i : Nat) : Int) + 2) hx dL_law_1347 (w32_id (by omega) (by omega)) ?_
  refine J_sld hx hS (i + 2) dL_law_1348 (by omega) (by omega) ?_
  refine J_invV (As := [vI (X (i + 1)), vI (X (i + 2))]) (st := []) hx lk_L_170 okX6_swap dL_law_1349 hs.1.o (by decide) rfl rfl rfl (Nat.le_of_ble_eq_true rfl) (Nat.zero_add _).symm (Nat.zero_add _).symm rfl (c_X6_swap hs.1 hs.2.1 hW (hS.rg _) (hS.rg _) (simC hs (fun T1 M1 hC1 hN1 hX1 => ?_)))
  refine J_aload_n hx dL_law_1352 (i := 2) rfl rfl ?_
  refine J_aload_n hx dL_law_1353 (i := 0) rfl rfl ?_
  refine J_iload_n hx dL_law_1354 (i := 3) rfl rfl ?_
  refine J_iconst (v := 1) hx dL_law_1355 (by decide) ?_
  refine J_iadd (v := ((i : Nat) : Int) + 1) hx dL_law_1356 (w32_id (by omega) (by omega)) ?_
  refine J_sld hx hS (i + 1) dL_law_1357 (by omega) (by omega) ?_
  refine J_aload_n hx dL_law_1358 (i := 0) rfl rfl ?_
  refine J_iload_n hx dL_law_1359 (i := 3) rfl rfl ?_
  refine J_iconst (v := 2) hx dL_law_1360 (by decide) ?_
  refine J_iadd (v := ((i : Nat) : Int) + 2) hx dL_law_1361 (w32_id (by omega) (by omega)) ?_
  refine J_sld hx hS (i + 2) dL_law_1362 (by omega) (by omega) ?_
  refine J_invV (As := [vI (X (i + 1)), vI (X (i + 2))]) (st := [vI ((a_swap S (X (i + 1)) (X (i + 2))).1)]) hx lk_L_173 okX7_swap dL_law_1363 hX1.t.o (by decide) rfl rfl rfl (Nat.le_of_ble_eq_true rfl) (Nat.zero_add _).symm (Nat.zero_add _).symm rfl (c_X7_swap hX1.t hX1.n hW (hS.rg _) (hS.rg _) (simR hC1 hN1 hX1 (k_swap _ _ _) (fun M2 hs2 => ?_)))
  refine J_icmp_eq (tgt := 1743) hx dL_law_1366 (by decide) (fun c1 => ?_) (fun c1 => ?_)
  · exact J_weak (hK _ _ _ _ hs2 (w_swap _ _ hw)) (by omega) (by omega)
  · exact absurd rfl c1

set_option maxHeartbeats 4000000 in
theorem lc_could {g : WG} {x : CX} {b L : Nat} {X : Nat → Int} {T : TT} {M : MM} {o sz i n kk : Nat} {S : ST} (hx : OKx g x RL cL_law 20) (hS : SCR g x b L X) (hi : i + 6 ≤ L) (hs : SIM T M o sz S) (hw : WFn kk S) (hk : kk < 1000000) (hK : ∀ T' M' sz' S', SIM T' M' o sz' S' → WFn (kk + 1) S' → Jd g x 1743 [vR (b), vR (o), vR (o + 83), vI (((i : Nat) : Int))] [] T' M' sz' (261 * n) (6993 * n)) : Jd g x 1371 [vR (b), vR (o), vR (o + 83), vI (((i : Nat) : Int))] [] T M sz (261 + 261 * n) (6993 + 6993 * n) := by
  have hL := hS.l
  have hW := hw.s hk
  refine J_aload_n hx dL_law_1371 (i := 1) rfl rfl ?_
  refine J_aload_n hx dL_law_1372 (i := 0) rfl rfl ?_
  refine J_iload_n hx dL_law_1373 (i := 3) rfl rfl ?_
  refine J_iconst (v := 1) hx dL_law_1374 (by decide) ?_
  refine J_iadd (v := ((i : Nat) : Int) + 1) hx dL_law_1375 (w32_id (by omega) (by omega)) ?_
  refine J_sld hx hS (i + 1) dL_law_1376 (by omega) (by omega) ?_
  refine J_aload_n hx dL_law_1377 (i := 0) rfl rfl ?_
  refine J_iload_n hx dL_law_1378 (i := 3) rfl rfl ?_
  refine J_iconst (v := 2) hx dL_law_1379 (by decide) ?_
  refine J_iadd (v := ((i : Nat) : Int) + 2) hx dL_law_1380 (w32_id (by omega) (by omega)) ?_
  refine J_sld hx hS (i + 2) dL_law_1381 (by omega) (by omega) ?_
  refine J_invV (As := [vI (X (i + 1)), vI (X (i + 2))]) (st := []) hx lk_L_174 okX6_could dL_law_1382 hs.1.o (by decide) rfl rfl rfl (Nat.le_of_ble_eq_true rfl) (Nat.zero_add _).symm (Nat.zero_add _).symm rfl (c_X6_could hs.1 hs.2.1 hW (hS.rg _) (hS.rg _) (simC hs (fun T1 M1 hC1 hN1 hX1 => ?_)))
  refine J_aload_n hx dL_law_1385 (i := 2) rfl rfl ?_
  refine J_aload_n hx dL_law_1386 (i := 0) rfl rfl ?_
  refine J_iload_n hx dL_law_1387 (i := 3) rfl rfl ?_
  refine J_iconst (v := 1) hx dL_law_1388 (by decide) ?_
  refine J_iadd (v := ((i : Nat) : Int) + 1) hx dL_law_1389 (w32_id (by omega) (by omega)) ?_
  refine J_sld hx hS (i + 1) dL_law_1390 (by omega) (by omega) ?_
  refine J_aload_n hx dL_law_1391 (i := 0) rfl rfl ?_
  refine J_iload_n hx dL_law_1392 (i := 3) rfl rfl ?_
  refine J_iconst (v := 2) hx dL_law_1393 (by decide) ?_
  refine J_iadd (v := ((i : Nat) : Int) + 2) hx dL_law_1394 (w32_id (by omega) (by omega)) ?_
  refine J_sld hx hS (i + 2) dL_law_1395 (by omega) (by omega) ?_
  refine J_invV (As := [vI (X (i + 1)), vI (X (i + 2))]) (st := [vI ((a_could S (X (i + 1)) (X (i + 2))).1)]) hx lk_L_177 okX7_could dL_law_1396 hX1.t.o (by decide) rfl rfl rfl (Nat.le_of_ble_eq_true rfl) (Nat.zero_add _).symm (Nat.zero_add _).symm rfl (c_X7_could hX1.t hX1.n hW (hS.rg _) (hS.rg _) (simR hC1 hN1 hX1 (k_could _ _ _) (fun M2 hs2 => ?_)))
  refine J_icmp_eq (tgt := 1743) hx dL_law_1399 (by decide) (fun c1 => ?_) (fun c1 => ?_)
  · exact J_weak (hK _ _ _ _ hs2 (w_could _ _ hw)) (by omega) (by omega)
  · exact absurd rfl c1

set_option maxHeartbeats 4000000 in
theorem lc_judge {g : WG} {x : CX} {b L : Nat} {X : Nat → Int} {T : TT} {M : MM} {o sz i n kk : Nat} {S : ST} (hx : OKx g x RL cL_law 20) (hS : SCR g x b L X) (hi : i + 6 ≤ L) (hs : SIM T M o sz S) (hw : WFn kk S) (hk : kk < 1000000) (hK : ∀ T' M' sz' S', SIM T' M' o sz' S' → WFn (kk + 1) S' → Jd g x 1743 [vR (b), vR (o), vR (o + 83), vI (((i : Nat) : Int))] [] T' M' sz' (261 * n) (6993 * n)) : Jd g x 1404 [vR (b), vR (o), vR (o + 83), vI (((i : Nat) : Int))] [] T M sz (261 + 261 * n) (6993 + 6993 * n) := by
  have hL := hS.l
  have hW := hw.s hk
  refine J_aload_n hx dL_law_1404 (i := 1) rfl rfl ?_
  refine J_aload_n hx dL_law_1405 (i := 0) rfl rfl ?_
  refine J_iload_n hx dL_law_1406 (i := 3) rfl rfl ?_
  refine J_iconst (v := 1) hx dL_law_1407 (by decide) ?_
  refine J_iadd (v := ((i : Nat) : Int) + 1) hx dL_law_1408 (w32_id (by omega) (by omega)) ?_
  refine J_sld hx hS (i + 1) dL_law_1409 (by omega) (by omega) ?_
  refine J_aload_n hx dL_law_1410 (i := 0) rfl rfl ?_
  refine J_iload_n hx dL_law_1411 (i := 3) rfl rfl ?_
  refine J_iconst (v := 2) hx dL_law_1412 (by decide) ?_
  refine J_iadd (v := ((i : Nat) : Int) + 2) hx dL_law_1413 (w32_id (by omega) (by omega)) ?_
  refine J_sld hx hS (i + 2) dL_law_1414 (by omega) (by omega) ?_
  refine J_invV (As := [vI (X (i + 1)), vI (X (i + 2))]) (st := []) hx lk_L_178 okX6_judge dL_law_1415 hs.1.o (by decide) rfl rfl rfl (Nat.le_of_ble_eq_true rfl) (Nat.zero_add _).symm (Nat.zero_add _).symm rfl (c_X6_judge hs.1 hs.2.1 hW (hS.rg _) (hS.rg _) (simC hs (fun T1 M1 hC1 hN1 hX1 => ?_)))
  refine J_aload_n hx dL_law_1418 (i := 2) rfl rfl ?_
  refine J_aload_n hx dL_law_1419 (i := 0) rfl rfl ?_
  refine J_iload_n hx dL_law_1420 (i := 3) rfl rfl ?_
  refine J_iconst (v := 1) hx dL_law_1421 (by decide) ?_
  refine J_iadd (v := ((i : Nat) : Int) + 1) hx dL_law_1422 (w32_id (by omega) (by omega)) ?_
  refine J_sld hx hS (i + 1) dL_law_1423 (by omega) (by omega) ?_
  refine J_aload_n hx dL_law_1424 (i := 0) rfl rfl ?_
  refine J_iload_n hx dL_law_1425 (i := 3) rfl rfl ?_
  refine J_iconst (v := 2) hx dL_law_1426 (by decide) ?_
  refine J_iadd (v := ((i : Nat) : Int) + 2) hx dL_law_1427 (w32_id (by omega) (by omega)) ?_
  refine J_sld hx hS (i + 2) dL_law_1428 (by omega) (by omega) ?_
  refine J_invV (As := [vI (X (i + 1)), vI (X (i + 2))]) (st := [vI ((a_judge S (X (i + 1)) (X (i + 2))).1)]) hx lk_L_181 okX7_judge dL_law_1429 hX1.t.o (by decide) rfl rfl rfl (Nat.le_of_ble_eq_true rfl) (show 261 + 261 * n = 29 + (232 + 261 * n) by omega) (show 6993 + 6993 * n = 777 + (6216 + 6993 * n) by omega) rfl (c_X7_judge hX1 hW (hS.rg _) (hS.rg _) (simX hC1 hN1 (fun T2 M2 sz2 hs2 => ?_)))
  refine J_icmp_eq (tgt := 1743) hx dL_law_1432 (by decide) (fun c1 => ?_) (fun c1 => ?_)
  · exact J_weak (hK _ _ _ _ hs2 (w_judge _ _ hw)) (by omega) (by omega)
  · exact absurd rfl c1

set_option maxHeartbeats 4000000 in
theorem lc_behind {g : WG} {x : CX} {b L : Nat} {X : Nat → Int} {T : TT} {M : MM} {o sz i n kk : Nat} {S : ST} (hx : OKx g x RL cL_law 20) (hS : SCR g x b L X) (hi : i + 6 ≤ L) (hs : SIM T M o sz S) (hw : WFn kk S) (hk : kk < 1000000) (hK : ∀ T' M' sz' S', SIM T' M' o sz' S' → WFn (kk + 1) S' → Jd g x 1743 [vR (b), vR (o), vR (o + 83), vI (((i : Nat) : Int))] [] T' M' sz' (261 * n) (6993 * n)) : Jd g x 1437 [vR (b), vR (o), vR (o + 83), vI (((i : Nat) : Int))] [] T M sz (261 + 261 * n) (6993 + 6993 * n) := by
  have hL := hS.l
  have hW := hw.s hk
  refine J_aload_n hx dL_law_1437 (i := 1) rfl rfl ?_
  refine J_aload_n hx dL_law_1438 (i := 0) rfl rfl ?_
  refine J_iload_n hx dL_law_1439 (i := 3) rfl rfl ?_
  refine J_iconst (v := 1) hx dL_law_1440 (by decide) ?_
  refine J_iadd (v := ((i : Nat) : Int) + 1) hx dL_law_1441 (w32_id (by omega) (by omega)) ?_
  refine J_sld hx hS (i + 1) dL_law_1442 (by omega) (by omega) ?_
  refine J_aload_n hx dL_law_1443 (i := 0) rfl rfl ?_
  refine J_iload_n hx dL_law_1444 (i := 3) rfl rfl ?_
  refine J_iconst (v := 2) hx dL_law_1445 (by decide) ?_
  refine J_iadd (v := ((i : Nat) : Int) + 2) hx dL_law_1446 (w32_id (by omega) (by omega)) ?_
  refine J_sld hx hS (i + 2) dL_law_1447 (by omega) (by omega) ?_
  refine J_aload_n hx dL_law_1448 (i := 0) rfl rfl ?_
  refine J_iload_n hx dL_law_1449 (i := 3) rfl rfl ?_
  refine J_iconst (v := 3) hx dL_law_1450 (by decide) ?_
  refine J_iadd (v := ((i : Nat) : Int) + 3) hx dL_law_1451 (w32_id (by omega) (by omega)) ?_
  refine J_sld hx hS (i + 3) dL_law_1452 (by omega) (by omega) ?_
  refine J_invV (As := [vI (X (i + 1)), vI (X (i + 2)), vI (X (i + 3))]) (st := []) hx lk_L_182 okX6_behind dL_law_1453 hs.1.o (by decide) rfl rfl rfl (Nat.le_of_ble_eq_true rfl) (Nat.zero_add _).symm (Nat.zero_add _).symm rfl (c_X6_behind hs.1 hs.2.1 hW (hS.rg _) (hS.rg _) (hS.rg _) (simC hs (fun T1 M1 hC1 hN1 hX1 => ?_)))
  refine J_aload_n hx dL_law_1456 (i := 2) rfl rfl ?_
  refine J_aload_n hx dL_law_1457 (i := 0) rfl rfl ?_
  refine J_iload_n hx dL_law_1458 (i := 3) rfl rfl ?_
  refine J_iconst (v := 1) hx dL_law_1459 (by decide) ?_
  refine J_iadd (v := ((i : Nat) : Int) + 1) hx dL_law_1460 (w32_id (by omega) (by omega)) ?_
  refine J_sld hx hS (i + 1) dL_law_1461 (by omega) (by omega) ?_
  refine J_aload_n hx dL_law_1462 (i := 0) rfl rfl ?_
  refine J_iload_n hx dL_law_1463 (i := 3) rfl rfl ?_
  refine J_iconst (v := 2) hx dL_law_1464 (by decide) ?_
  refine J_iadd (v := ((i : Nat) : Int) + 2) hx dL_law_1465 (w32_id (by omega) (by omega)) ?_
  refine J_sld hx hS (i + 2) dL_law_1466 (by omega) (by omega) ?_
  refine J_aload_n hx dL_law_1467 (i := 0) rfl rfl ?_
  refine J_iload_n hx dL_law_1468 (i := 3) rfl rfl ?_
  refine J_iconst (v := 3) hx dL_law_1469 (by decide) ?_
  refine J_iadd (v := ((i : Nat) : Int) + 3) hx dL_law_1470 (w32_id (by omega) (by omega)) ?_
  refine J_sld hx hS (i + 3) dL_law_1471 (by omega) (by omega) ?_
  refine J_invV (As := [vI (X (i + 1)), vI (X (i + 2)), vI (X (i + 3))]) (st := [vI ((a_behind S (X (i + 1)) (X (i + 2)) (X (i + 3))).1)]) hx lk_L_185 okX7_behind dL_law_1472 hX1.t.o (by decide) rfl rfl rfl (Nat.le_of_ble_eq_true rfl) (show 261 + 261 * n = 29 + (232 + 261 * n) by omega) (show 6993 + 6993 * n = 777 + (6216 + 6993 * n) by omega) rfl (c_X7_behind hX1 hW (hS.rg _) (hS.rg _) (hS.rg _) (simX hC1 hN1 (fun T2 M2 sz2 hs2 => ?_)))
  refine J_icmp_eq (tgt := 1743) hx dL_law_1475 (by decide) (fun c1 => ?_) (fun c1 => ?_)
  · exact J_weak (hK _ _ _ _ hs2 (w_behind _ _ _ hw)) (by omega) (by omega)
  · exact absurd rfl c1

set_option maxHeartbeats 4000000 in
theorem lc_booked {g : WG} {x : CX} {b L : Nat} {X : Nat → Int} {T : TT} {M : MM} {o sz i n kk : Nat} {S : ST} (hx : OKx g x RL cL_law 20) (hS : SCR g x b L X) (hi : i + 6 ≤ L) (hs : SIM T M o sz S) (hw : WFn kk S) (hk : kk < 1000000) (hK : ∀ T' M' sz' S', SIM T' M' o sz' S' → WFn (kk + 1) S' → Jd g x 1743 [vR (b), vR (o), vR (o + 83), vI (((i : Nat) : Int))] [] T' M' sz' (261 * n) (6993 * n)) : Jd g x 1480 [vR (b), vR (o), vR (o + 83), vI (((i : Nat) : Int))] [] T M sz (261 + 261 * n) (6993 + 6993 * n) := by
  have hL := hS.l
  have hW := hw.s hk
  refine J_aload_n hx dL_law_1480 (i := 1) rfl rfl ?_
  refine J_aload_n hx dL_law_1481 (i := 0) rfl rfl ?_
  refine J_iload_n hx dL_law_1482 (i := 3) rfl rfl ?_
  refine J_iconst (v := 1) hx dL_law_1483 (by decide) ?_
  refine J_iadd (v := ((i : Nat) : Int) + 1) hx dL_law_1484 (w32_id (by omega) (by omega)) ?_
  refine J_sld hx hS (i + 1) dL_law_1485 (by omega) (by omega) ?_
  refine J_aload_n hx dL_law_1486 (i := 0) rfl rfl ?_
  refine J_iload_n hx dL_law_1487 (i := 3) rfl rfl ?_
  refine J_iconst (v := 2) hx dL_law_1488 (by decide) ?_
  refine J_iadd (v := ((i : Nat) : Int) + 2) hx dL_law_1489 (w32_id (by omega) (by omega)) ?_
  refine J_sld hx hS (i + 2) dL_law_1490 (by omega) (by omega) ?_
  refine J_invV (As := [vI (X (i + 1)), vI (X (i + 2))]) (st := []) hx lk_L_186 okX6_booked dL_law_1491 hs.1.o (by decide) rfl rfl rfl (Nat.le_of_ble_eq_true rfl) (Nat.zero_add _).symm (Nat.zero_add _).symm rfl (c_X6_booked hs.1 hs.2.1 hW (hS.rg _) (hS.rg _) (simC hs (fun T1 M1 hC1 hN1 hX1 => ?_)))
  refine J_aload_n hx dL_law_1494 (i := 2) rfl rfl ?_
  refine J_aload_n hx dL_law_1495 (i := 0) rfl rfl ?_
  refine J_iload_n hx dL_law_1496 (i := 3) rfl rfl ?_
  refine J_iconst (v := 1) hx dL_law_1497 (by decide) ?_
  refine J_iadd (v := ((i : Nat) : Int) + 1) hx dL_law_1498 (w32_id (by omega) (by omega)) ?_
  refine J_sld hx hS (i + 1) dL_law_1499 (by omega) (by omega) ?_
  refine J_aload_n hx dL_law_1500 (i := 0) rfl rfl ?_
  refine J_iload_n hx dL_law_1501 (i := 3) rfl rfl ?_
  refine J_iconst (v := 2) hx dL_law_1502 (by decide) ?_
  refine J_iadd (v := ((i : Nat) : Int) + 2) hx dL_law_1503 (w32_id (by omega) (by omega)) ?_
  refine J_sld hx hS (i + 2) dL_law_1504 (by omega) (by omega) ?_
  refine J_invV (As := [vI (X (i + 1)), vI (X (i + 2))]) (st := [vI ((a_booked S (X (i + 1)) (X (i + 2))).1)]) hx lk_L_189 okX7_booked dL_law_1505 hX1.t.o (by decide) rfl rfl rfl (Nat.le_of_ble_eq_true rfl) (show 261 + 261 * n = 29 + (232 + 261 * n) by omega) (show 6993 + 6993 * n = 777 + (6216 + 6993 * n) by omega) rfl (c_X7_booked hX1 hW (hS.rg _) (hS.rg _) (simX hC1 hN1 (fun T2 M2 sz2 hs2 => ?_)))
  refine J_icmp_eq (tgt := 1743) hx dL_law_1508 (by decide) (fun c1 => ?_) (fun c1 => ?_)
  · exact J_weak (hK _ _ _ _ hs2 (w_booked _ _ hw)) (by omega) (by omega)
  · exact absurd rfl c1

set_option maxHeartbeats 4000000 in
theorem lc_order {g : WG} {x : CX} {b L : Nat} {X : Nat → Int} {T : TT} {M : MM} {o sz i n kk : Nat} {S : ST} (hx : OKx g x RL cL_law 20) (hS : SCR g x b L X) (hi : i + 6 ≤ L) (hs : SIM T M o sz S) (hw : WFn kk S) (hk : kk < 1000000) (hK : ∀ T' M' sz' S', SIM T' M' o sz' S' → WFn (kk + 1) S' → Jd g x 1743 [vR (b), vR (o), vR (o + 83), vI (((i : Nat) : Int))] [] T' M' sz' (261 * n) (6993 * n)) : Jd g x 1513 [vR (b), vR (o), vR (o + 83), vI (((i : Nat) : Int))] [] T M sz (261 + 261 * n) (6993 + 6993 * n) := by
  have hL := hS.l
  have hW := hw.s hk
  refine J_aload_n hx dL_law_1513 (i := 1) rfl rfl ?_
  refine J_aload_n hx dL_law_1514 (i := 0) rfl rfl ?_
  refine J_iload_n hx dL_law_1515 (i := 3) rfl rfl ?_
  refine J_iconst (v := 1) hx dL_law_1516 (by decide) ?_
  refine J_iadd (v := ((i : Nat) : Int) + 1) hx dL_law_1517 (w32_id (by omega) (by omega)) ?_
  refine J_sld hx hS (i + 1) dL_law_1518 (by omega) (by omega) ?_
  refine J_aload_n hx dL_law_1519 (i := 0) rfl rfl ?_
  refine J_iload_n hx dL_law_1520 (i := 3) rfl rfl ?_
  refine J_iconst (v := 2) hx dL_law_1521 (by decide) ?_
  refine J_iadd (v := ((i : Nat) : Int) + 2) hx dL_law_1522 (w32_id (by omega) (by omega)) ?_
  refine J_sld hx hS (i + 2) dL_law_1523 (by omega) (by omega) ?_
  refine J_invV (As := [vI (X (i + 1)), vI (X (i + 2))]) (st := []) hx lk_L_190 okX6_order dL_law_1524 hs.1.o (by decide) rfl rfl rfl (Nat.le_of_ble_eq_true rfl) (Nat.zero_add _).symm (Nat.zero_add _).symm rfl (c_X6_order hs.1 hs.2.1 hW (hS.rg _) (hS.rg _) (simC hs (fun T1 M1 hC1 hN1 hX1 => ?_)))
  refine J_aload_n hx dL_law_1527 (i := 2) rfl rfl ?_
  refine J_aload_n hx dL_law_1528 (i := 0) rfl rfl ?_
  refine J_iload_n hx dL_law_1529 (i := 3) rfl rfl ?_
  refine J_iconst (v := 1) hx dL_law_1530 (by decide) ?_
  refine J_iadd (v := ((i : Nat) : Int) + 1) hx dL_law_1531 (w32_id (by omega) (by omega)) ?_
  refine J_sld hx hS (i + 1) dL_law_1532 (by omega) (by omega) ?_
  refine J_aload_n hx dL_law_1533 (i := 0) rfl rfl ?_
  refine J_iload_n hx dL_law_1534 (i := 3) rfl rfl ?_
  refine J_iconst (v := 2) hx dL_law_1535 (by decide) ?_
  refine J_iadd (v := ((i : Nat) : Int) + 2) hx dL_law_1536 (w32_id (by omega) (by omega)) ?_
  refine J_sld hx hS (i + 2) dL_law_1537 (by omega) (by omega) ?_
  refine J_invV (As := [vI (X (i + 1)), vI (X (i + 2))]) (st := [vI ((a_order S (X (i + 1)) (X (i + 2))).1)]) hx lk_L_193 okX7_order dL_law_1538 hX1.t.o (by decide) rfl rfl rfl (Nat.le_of_ble_eq_true rfl) (Nat.zero_add _).symm (Nat.zero_add _).symm rfl (c_X7_order hX1.t hX1.n hW (hS.rg _) (hS.rg _) (simR hC1 hN1 hX1 (k_order _ _ _) (fun M2 hs2 => ?_)))
  refine J_icmp_eq (tgt := 1743) hx dL_law_1541 (by decide) (fun c1 => ?_) (fun c1 => ?_)
  · exact J_weak (hK _ _ _ _ hs2 (w_order _ _ hw)) (by omega) (by omega)
  · exact absurd rfl c1

set_option maxHeartbeats 4000000 in
theorem lc_best {g : WG} {x : CX} {b L : Nat} {X : Nat → Int} {T : TT} {M : MM} {o sz i n kk : Nat} {S : ST} (hx : OKx g x RL cL_law 20) (hS : SCR g x b L X) (hi : i + 6 ≤ L) (hs : SIM T M o sz S) (hw : WFn kk S) (hk : kk < 1000000) (hK : ∀ T' M' sz' S', SIM T' M' o sz' S' → WFn (kk + 1) S' → Jd g x 1743 [vR (b), vR (o), vR (o + 83), vI (((i : Nat) : Int))] [] T' M' sz' (261 * n) (6993 * n)) : Jd g x 1546 [vR (b), vR (o), vR (o + 83), vI (((i : Nat) : Int))] [] T M sz (261 + 261 * n) (6993 + 6993 * n) := by
  have hL := hS.l
  have hW := hw.s hk
  refine J_aload_n hx dL_law_1546 (i := 1) rfl rfl ?_
  refine J_aload_n hx dL_law_1547 (i := 0) rfl rfl ?_
  refine J_iload_n hx dL_law_1548 (i := 3) rfl rfl ?_
  refine J_iconst (v := 1) hx dL_law_1549 (by decide) ?_
  refine J_iadd (v := ((i : Nat) : Int) + 1) hx dL_law_1550 (w32_id (by omega) (by omega)) ?_
  refine J_sld hx hS (i + 1) dL_law_1551 (by omega) (by omega) ?_
  refine J_invV (As := [vI (X (i + 1))]) (st := []) hx lk_L_194 okX6_best dL_law_1552 hs.1.o (by decide) rfl rfl rfl (Nat.le_of_ble_eq_true rfl) (Nat.zero_add _).symm (Nat.zero_add _).symm rfl (c_X6_best hs.1 hs.2.1 hW (hS.rg _) (simC hs (fun T1 M1 hC1 hN1 hX1 => ?_)))
  refine J_aload_n hx dL_law_1555 (i := 2) rfl rfl ?_
  refine J_aload_n hx dL_law_1556 (i := 0) rfl rfl ?_
  refine J_iload_n hx dL_law_1557 (i := 3) rfl rfl ?_
  refine J_iconst (v := 1) hx dL_law_1558 (by decide) ?_
  refine J_iadd (v := ((i : Nat) : Int) + 1) hx dL_law_1559 (w32_id (by omega) (by omega)) ?_
  refine J_sld hx hS (i + 1) dL_law_1560 (by omega) (by omega) ?_
  refine J_invV (As := [vI (X (i + 1))]) (st := [vI ((a_best S (X (i + 1))).1)]) hx lk_L_197 okX7_best dL_law_1561 hX1.t.o (by decide) rfl rfl rfl (Nat.le_of_ble_eq_true rfl) (Nat.zero_add _).symm (Nat.zero_add _).symm rfl (c_X7_best hX1.t hX1.n hW (hS.rg _) (simR hC1 hN1 hX1 (k_best _ _) (fun M2 hs2 => ?_)))
  refine J_icmp_eq (tgt := 1743) hx dL_law_1564 (by decide) (fun c1 => ?_) (fun c1 => ?_)
  · exact J_weak (hK _ _ _ _ hs2 (w_best _ hw)) (by omega) (by omega)
  · exact absurd rfl c1

set_option maxHeartbeats 4000000 in
theorem lc_run {g : WG} {x : CX} {b L : Nat} {X : Nat → Int} {T : TT} {M : MM} {o sz i n kk : Nat} {S : ST} (hx : OKx g x RL cL_law 20) (hS : SCR g x b L X) (hi : i + 6 ≤ L) (hs : SIM T M o sz S) (hw : WFn kk S) (hk : kk < 1000000) (hK : ∀ T' M' sz' S', SIM T' M' o sz' S' → WFn (kk + 1) S' → Jd g x 1743 [vR (b), vR (o), vR (o + 83), vI (((i : Nat) : Int))] [] T' M' sz' (261 * n) (6993 * n)) : Jd g x 1569 [vR (b), vR (o), vR (o + 83), vI (((i : Nat) : Int))] [] T M sz (261 + 261 * n) (6993 + 6993 * n) := by
  have hL := hS.l
  have hW := hw.s hk
  refine J_aload_n hx dL_law_1569 (i := 1) rfl rfl ?_
  refine J_aload_n hx dL_law_1570 (i := 0) rfl rfl ?_
  refine J_iload_n hx dL_law_1571 (i := 3) rfl rfl ?_
  refine J_iconst (v := 1) hx dL_law_1572 (by decide) ?_
  refine J_iadd (v := ((i : Nat) : Int) + 1) hx dL_law_1573 (w32_id (by omega) (by omega)) ?_
  refine J_sld hx hS (i + 1) dL_law_1574 (by omega) (by omega) ?_
  refine J_aload_n hx dL_law_1575 (i := 0) rfl rfl ?_
  refine J_iload_n hx dL_law_1576 (i := 3) rfl rfl ?_
  refine J_iconst (v := 2) hx dL_law_1577 (by decide) ?_
  refine J_iadd (v := ((i : Nat) : Int) + 2) hx dL_law_1578 (w32_id (by omega) (by omega)) ?_
  refine J_sld hx hS (i + 2) dL_law_1579 (by omega) (by omega) ?_
  refine J_aload_n hx dL_law_1580 (i := 0) rfl rfl ?_
  refine J_iload_n hx dL_law_1581 (i := 3) rfl rfl ?_
  refine J_iconst (v := 3) hx dL_law_1582 (by decide) ?_
  refine J_iadd (v := ((i : Nat) : Int) + 3) hx dL_law_1583 (w32_id (by omega) (by omega)) ?_
  refine J_sld hx hS (i + 3) dL_law_1584 (by omega) (by omega) ?_
  refine J_invV (As := [vI (X (i + 1)), vI (X (i + 2)), vI (X (i + 3))]) (st := []) hx lk_L_198 okX6_run dL_law_1585 hs.1.o (by decide) rfl rfl rfl (Nat.le_of_ble_eq_true rfl) (Nat.zero_add _).symm (Nat.zero_add _).symm rfl (c_X6_run hs.1 hs.2.1 hW (hS.rg _) (hS.rg _) (hS.rg _) (simC hs (fun T1 M1 hC1 hN1 hX1 => ?_)))
  refine J_aload_n hx dL_law_1588 (i := 2) rfl rfl ?_
  refine J_aload_n hx dL_law_1589 (i := 0) rfl rfl ?_
  refine J_iload_n hx dL_law_1590 (i := 3) rfl rfl ?_
  refine J_iconst (v := 1) hx dL_law_1591 (by decide) ?_
  refine J_iadd (v := ((i : Nat) : Int) + 1) hx dL_law_1592 (w32_id (by omega) (by omega)) ?_
  refine J_sld hx hS (i + 1) dL_law_1593 (by omega) (by omega) ?_
  refine J_aload_n hx dL_law_1594 (i := 0) rfl rfl ?_
  refine J_iload_n hx dL_law_1595 (i := 3) rfl rfl ?_
  refine J_iconst (v := 2) hx dL_law_1596 (by decide) ?_
  refine J_iadd (v := ((i : Nat) : Int) + 2) hx dL_law_1597 (w32_id (by omega) (by omega)) ?_
  refine J_sld hx hS (i + 2) dL_law_1598 (by omega) (by omega) ?_
  refine J_aload_n hx dL_law_1599 (i := 0) rfl rfl ?_
  refine J_iload_n hx dL_law_1600 (i := 3) rfl rfl ?_
  refine J_iconst (v := 3) hx dL_law_1601 (by decide) ?_
  refine J_iadd (v := ((i : Nat) : Int) + 3) hx dL_law_1602 (w32_id (by omega) (by omega)) ?_
  refine J_sld hx hS (i + 3) dL_law_1603 (by omega) (by omega) ?_
  refine J_invV (As := [vI (X (i + 1)), vI (X (i + 2)), vI (X (i + 3))]) (st := [vI ((a_run S (X (i + 1)) (X (i + 2)) (X (i + 3))).1)]) hx lk_L_201 okX7_run dL_law_1604 hX1.t.o (by decide) rfl rfl rfl (Nat.le_of_ble_eq_true rfl) (Nat.zero_add _).symm (Nat.zero_add _).symm rfl (c_X7_run hX1.t hX1.n hW (hS.rg _) (hS.rg _) (hS.rg _) (simR hC1 hN1 hX1 (k_run _ _ _ _) (fun M2 hs2 => ?_)))
  refine J_icmp_eq (tgt := 1743) hx dL_law_1607 (by decide) (fun c1 => ?_) (fun c1 => ?_)
  · exact J_weak (hK _ _ _ _ hs2 (w_run _ _ _ hw)) (by omega) (by omega)
  · exact absurd rfl c1

set_option maxHeartbeats 4000000 in
theorem lc_runs {g : WG} {x : CX} {b L : Nat} {X : Nat → Int} {T : TT} {M : MM} {o sz i n kk : Nat} {S : ST} (hx : OKx g x RL cL_law 20) (hS : SCR g x b L X) (hi : i + 6 ≤ L) (hs : SIM T M o sz S) (hw : WFn kk S) (hk : kk < 1000000) (hK : ∀ T' M' sz' S', SIM T' M' o sz' S' → WFn (kk + 1) S' → Jd g x 1743 [vR (b), vR (o), vR (o + 83), vI (((i : Nat) : Int))] [] T' M' sz' (261 * n) (6993 * n)) : Jd g x 1612 [vR (b), vR (o), vR (o + 83), vI (((i : Nat) : Int))] [] T M sz (261 + 261 * n) (6993 + 6993 * n) := by
  have hL := hS.l
  have hW := hw.s hk
  refine J_aload_n hx dL_law_1612 (i := 1) rfl rfl ?_
  refine J_aload_n hx dL_law_1613 (i := 0) rfl rfl ?_
  refine J_iload_n hx dL_law_1614 (i := 3) rfl rfl ?_
  refine J_iconst (v := 1) hx dL_law_1615 (by decide) ?_
  refine J_iadd (v := ((i : Nat) : Int) + 1) hx dL_law_1616 (w32_id (by omega) (by omega)) ?_
  refine J_sld hx hS (i + 1) dL_law_1617 (by omega) (by omega) ?_
  refine J_invV (As := [vI (X (i + 1))]) (st := []) hx lk_L_202 okX6_runs dL_law_1618 hs.1.o (by decide) rfl rfl rfl (Nat.le_of_ble_eq_true rfl) (Nat.zero_add _).symm (Nat.zero_add _).symm rfl (c_X6_runs hs.1 hs.2.1 hW (hS.rg _) (simC hs (fun T1 M1 hC1 hN1 hX1 => ?_)))
  refine J_aload_n hx dL_law_1621 (i := 2) rfl rfl ?_
  refine J_aload_n hx dL_law_1622 (i := 0) rfl rfl ?_
  refine J_iload_n hx dL_law_1623 (i := 3) rfl rfl ?_
  refine J_iconst (v := 1) hx dL_law_1624 (by decide) ?_
  refine J_iadd (v := ((i : Nat) : Int) + 1) hx dL_law_1625 (w32_id (by omega) (by omega)) ?_
  refine J_sld hx hS (i + 1) dL_law_1626 (by omega) (by omega) ?_
  refine J_invV (As := [vI (X (i + 1))]) (st := [vI ((a_runs S (X (i + 1))).1)]) hx lk_L_205 okX7_runs dL_law_1627 hX1.t.o (by decide) rfl rfl rfl (Nat.le_of_ble_eq_true rfl) (Nat.zero_add _).symm (Nat.zero_add _).symm rfl (c_X7_runs hX1.t hX1.n hW (hS.rg _) (simR hC1 hN1 hX1 (k_runs _ _) (fun M2 hs2 => ?_)))
  refine J_icmp_eq (tgt := 1743) hx dL_law_1630 (by decide) (fun c1 => ?_) (fun c1 => ?_)
  · exact J_weak (hK _ _ _ _ hs2 (w_runs _ hw)) (by omega) (by omega)
  · exact absurd rfl c1

set_option maxHeartbeats 4000000 in
theorem lc_rest {g : WG} {x : CX} {b L : Nat} {X : Nat → Int} {T : TT} {M : MM} {o sz i n kk : Nat} {S : ST} (hx : OKx g x RL cL_law 20) (hS : SCR g x b L X) (hi : i + 6 ≤ L) (hs : SIM T M o sz S) (hw : WFn kk S) (hk : kk < 1000000) (hK : ∀ T' M' sz' S', SIM T' M' o sz' S' → WFn (kk + 1) S' → Jd g x 1743 [vR (b), vR (o), vR (o + 83), vI (((i : Nat) : Int))] [] T' M' sz' (261 * n) (6993 * n)) : Jd g x 1635 [vR (b), vR (o), vR (o + 83), vI (((i : Nat) : Int))] [] T M sz (261 + 261 * n) (6993 + 6993 * n) := by
  have hL := hS.l
  have hW := hw.s hk
  refine J_aload_n hx dL_law_1635 (i := 1) rfl rfl ?_
  refine J_aload_n hx dL_law_1636 (i := 0) rfl rfl ?_
  refine J_iload_n hx dL_law_1637 (i := 3) rfl rfl ?_
  refine J_iconst (v := 1) hx dL_law_1638 (by decide) ?_
  refine J_iadd (v := ((i : Nat) : Int) + 1) hx dL_law_1639 (w32_id (by omega) (by omega)) ?_
  refine J_sld hx hS (i + 1) dL_law_1640 (by omega) (by omega) ?_
  refine J_invV (As := [vI (X (i + 1))]) (st := []) hx lk_L_206 okX6_rest dL_law_1641 hs.1.o (by decide) rfl rfl rfl (Nat.le_of_ble_eq_true rfl) (Nat.zero_add _).symm (Nat.zero_add _).symm rfl (c_X6_rest hs.1 hs.2.1 hW (hS.rg _) (simC hs (fun T1 M1 hC1 hN1 hX1 => ?_)))
  refine J_aload_n hx dL_law_1644 (i := 2) rfl rfl ?_
  refine J_aload_n hx dL_law_1645 (i := 0) rfl rfl ?_
  refine J_iload_n hx dL_law_1646 (i := 3) rfl rfl ?_
  refine J_iconst (v := 1) hx dL_law_1647 (by decide) ?_
  refine J_iadd (v := ((i : Nat) : Int) + 1) hx dL_law_1648 (w32_id (by omega) (by omega)) ?_
  refine J_sld hx hS (i + 1) dL_law_1649 (by omega) (by omega) ?_
  refine J_invV (As := [vI (X (i + 1))]) (st := [vI ((a_rest S (X (i + 1))).1)]) hx lk_L_209 okX7_rest dL_law_1650 hX1.t.o (by decide) rfl rfl rfl (Nat.le_of_ble_eq_true rfl) (Nat.zero_add _).symm (Nat.zero_add _).symm rfl (c_X7_rest hX1.t hX1.n hW (hS.rg _) (simR hC1 hN1 hX1 (k_rest _ _) (fun M2 hs2 => ?_)))
  refine J_icmp_eq (tgt := 1743) hx dL_law_1653 (by decide) (fun c1 => ?_) (fun c1 => ?_)
  · exact J_weak (hK _ _ _ _ hs2 (w_rest _ hw)) (by omega) (by omega)
  · exact absurd rfl c1

set_option maxHeartbeats 4000000 in
theorem lc_again {g : WG} {x : CX} {b L : Nat} {X : Nat → Int} {T : TT} {M : MM} {o sz i n kk : Nat} {S : ST} (hx : OKx g x RL cL_law 20) (hS : SCR g x b L X) (hi : i + 6 ≤ L) (hs : SIM T M o sz S) (hw : WFn kk S) (hk : kk < 1000000) (hK : ∀ T' M' sz' S', SIM T' M' o sz' S' → WFn (kk + 1) S' → Jd g x 1743 [vR (b), vR (o), vR (o + 83), vI (((i : Nat) : Int))] [] T' M' sz' (261 * n) (6993 * n)) : Jd g x 1658 [vR (b), vR (o), vR (o + 83), vI (((i : Nat) : Int))] [] T M sz (261 + 261 * n) (6993 + 6993 * n) := by
  have hL := hS.l
  have hW := hw.s hk
  refine J_aload_n hx dL_law_1658 (i := 1) rfl rfl ?_
  refine J_invV (As := []) (st := []) hx lk_L_210 okX6_again dL_law_1659 hs.1.o (by decide) rfl rfl rfl (Nat.le_of_ble_eq_true rfl) (Nat.zero_add _).symm (Nat.zero_add _).symm rfl (c_X6_again hs.1 hs.2.1 hW (simC hs (fun T1 M1 hC1 hN1 hX1 => ?_)))
  refine J_aload_n hx dL_law_1662 (i := 2) rfl rfl ?_
  refine J_invV (As := []) (st := [vI ((a_again S).1)]) hx lk_L_213 okX7_again dL_law_1663 hX1.t.o (by decide) rfl rfl rfl (Nat.le_of_ble_eq_true rfl) (Nat.zero_add _).symm (Nat.zero_add _).symm rfl (c_X7_again hX1.t hX1.n hW (simR hC1 hN1 hX1 (k_again _ ) (fun M2 hs2 => ?_)))
  refine J_icmp_eq (tgt := 1743) hx dL_law_1666 (by decide) (fun c1 => ?_) (fun c1 => ?_)
  · exact J_weak (hK _ _ _ _ hs2 (w_again hw)) (by omega) (by omega)
  · exact absurd rfl c1

set_option maxHeartbeats 4000000 in
theorem lc_seed {g : WG} {x : CX} {b L : Nat} {X : Nat → Int} {T : TT} {M : MM} {o sz i n kk : Nat} {S : ST} (hx : OKx g x RL cL_law 20) (hS : SCR g x b L X) (hi : i + 6 ≤ L) (hs : SIM T M o sz S) (hw : WFn kk S) (hk : kk < 1000000) (hK : ∀ T' M' sz' S', SIM T' M' o sz' S' → WFn (kk + 1) S' → Jd g x 1743 [vR (b), vR (o), vR (o + 83), vI (((i : Nat) : Int))] [] T' M' sz' (261 * n) (6993 * n)) : Jd g x 1671 [vR (b), vR (o), vR (o + 83), vI (((i : Nat) : Int))] [] T M sz (261 + 261 * n) (6993 + 6993 * n) := by
  have hL := hS.l
  have hW := hw.s hk
  refine J_aload_n hx dL_law_1671 (i := 1) rfl rfl ?_
  refine J_aload_n hx dL_law_1672 (i := 0) rfl rfl ?_
  refine J_iload_n hx dL_law_1673 (i := 3) rfl rfl ?_
  refine J_iconst (v := 1) hx dL_law_1674 (by decide) ?_
  refine J_iadd (v := ((i : Nat) : Int) + 1) hx dL_law_1675 (w32_id (by omega) (by omega)) ?_
  refine J_sld hx hS (i + 1) dL_law_1676 (by omega) (by omega) ?_
  refine J_invV (As := [vI (X (i + 1))]) (st := []) hx lk_L_214 okX6_seed dL_law_1677 hs.1.o (by decide) rfl rfl rfl (Nat.le_of_ble_eq_true rfl) (Nat.zero_add _).symm (Nat.zero_add _).symm rfl (c_X6_seed hs.1 hs.2.1 hW (hS.rg _) (simC hs (fun T1 M1 hC1 hN1 hX1 => ?_)))
  refine J_aload_n hx dL_law_1680 (i := 2) rfl rfl ?_
  refine J_aload_n hx dL_law_1681 (i := 0) rfl rfl ?_
  refine J_iload_n hx dL_law_1682 (i := 3) rfl rfl ?_
  refine J_iconst (v := 1) hx dL_law_1683 (by decide) ?_
  refine J_iadd (v := ((i : Nat) : Int) + 1) hx dL_law_1684 (w32_id (by omega) (by omega)) ?_
  refine J_sld hx hS (i + 1) dL_law_1685 (by omega) (by omega) ?_
  refine J_invV (As := [vI (X (i + 1))]) (st := [vI ((a_seed S (X (i + 1))).1)]) hx lk_L_217 okX7_seed dL_law_1686 hX1.t.o (by decide) rfl rfl rfl (Nat.le_of_ble_eq_true rfl) (Nat.zero_add _).symm (Nat.zero_add _).symm rfl (c_X7_seed hX1.t hX1.n hW (hS.rg _) (simR hC1 hN1 hX1 (k_seed _ _) (fun M2 hs2 => ?_)))
  refine J_icmp_eq (tgt := 1743) hx dL_law_1689 (by decide) (fun c1 => ?_) (fun c1 => ?_)
  · exact J_weak (hK _ _ _ _ hs2 (w_seed _ (hS.rg _) hw)) (by omega) (by omega)
  · exact absurd rfl c1

set_option maxHeartbeats 4000000 in
theorem lc_image {g : WG} {x : CX} {b L : Nat} {X : Nat → Int} {T : TT} {M : MM} {o sz i n kk : Nat} {S : ST} (hx : OKx g x RL cL_law 20) (hS : SCR g x b L X) (hi : i + 6 ≤ L) (hs : SIM T M o sz S) (hw : WFn kk S) (hk : kk < 1000000) (hK : ∀ T' M' sz' S', SIM T' M' o sz' S' → WFn (kk + 1) S' → Jd g x 1743 [vR (b), vR (o), vR (o + 83), vI (((i : Nat) : Int))] [] T' M' sz' (261 * n) (6993 * n)) : Jd g x 1694 [vR (b), vR (o), vR (o + 83), vI (((i : Nat) : Int))] [] T M sz (261 + 261 * n) (6993 + 6993 * n) := by
  have hL := hS.l
  have hW := hw.s hk
  refine J_aload_n hx dL_law_1694 (i := 1) rfl rfl ?_
  refine J_invV (As := []) (st := []) hx lk_L_218 okX6_image dL_law_1695 hs.1.o (by decide) rfl rfl rfl (Nat.le_of_ble_eq_true rfl) (Nat.zero_add _).symm (Nat.zero_add _).symm rfl (c_X6_image hs.1 hs.2.1 hW (simC hs (fun T1 M1 hC1 hN1 hX1 => ?_)))
  refine J_aload_n hx dL_law_1698 (i := 2) rfl rfl ?_
  refine J_invV (As := []) (st := [vI ((a_image S).1)]) hx lk_L_221 okX7_image dL_law_1699 hX1.t.o (by decide) rfl rfl rfl (Nat.le_of_ble_eq_true rfl) (show 261 + 261 * n = 29 + (232 + 261 * n) by omega) (show 6993 + 6993 * n = 777 + (6216 + 6993 * n) by omega) rfl (c_X7_image hX1 hW (simX hC1 hN1 (fun T2 M2 sz2 hs2 => ?_)))
  refine J_icmp_eq (tgt := 1743) hx dL_law_1702 (by decide) (fun c1 => ?_) (fun c1 => ?_)
  · exact J_weak (hK _ _ _ _ hs2 (w_image hw)) (by omega) (by omega)
  · exact absurd rfl c1

set_option maxHeartbeats 4000000 in
theorem lc_back {g : WG} {x : CX} {b L : Nat} {X : Nat → Int} {T : TT} {M : MM} {o sz i n kk : Nat} {S : ST} (hx : OKx g x RL cL_law 20) (hS : SCR g x b L X) (hi : i + 6 ≤ L) (hs : SIM T M o sz S) (hw : WFn kk S) (hk : kk < 1000000) (hK : ∀ T' M' sz' S', SIM T' M' o sz' S' → WFn (kk + 1) S' → Jd g x 1743 [vR (b), vR (o), vR (o + 83), vI (((i : Nat) : Int))] [] T' M' sz' (261 * n) (6993 * n)) : Jd g x 1707 [vR (b), vR (o), vR (o + 83), vI (((i : Nat) : Int))] [] T M sz (261 + 261 * n) (6993 + 6993 * n) := by
  have hL := hS.l
  have hW := hw.s hk
  refine J_aload_n hx dL_law_1707 (i := 1) rfl rfl ?_
  refine J_invV (As := []) (st := []) hx lk_L_222 okX6_back dL_law_1708 hs.1.o (by decide) rfl rfl rfl (Nat.le_of_ble_eq_true rfl) (Nat.zero_add _).symm (Nat.zero_add _).symm rfl (c_X6_back hs.1 hs.2.1 hW (simC hs (fun T1 M1 hC1 hN1 hX1 => ?_)))
  refine J_aload_n hx dL_law_1711 (i := 2) rfl rfl ?_
  refine J_invV (As := []) (st := [vI ((a_back S).1)]) hx lk_L_225 okX7_back dL_law_1712 hX1.t.o (by decide) rfl rfl rfl (Nat.le_of_ble_eq_true rfl) (Nat.zero_add _).symm (Nat.zero_add _).symm rfl (c_X7_back hX1 hW (simX hC1 hN1 (fun T2 M2 sz2 hs2 => ?_)))
  refine J_icmp_eq (tgt := 1743) hx dL_law_1715 (by decide) (fun c1 => ?_) (fun c1 => ?_)
  · exact J_weak (hK _ _ _ _ hs2 (w_back hw)) (by omega) (by omega)
  · exact absurd rfl c1

set_option maxHeartbeats 4000000 in
theorem lc_status {g : WG} {x : CX} {b L : Nat} {X : Nat → Int} {T : TT} {M : MM} {o sz i n kk : Nat} {S : ST} (hx : OKx g x RL cL_law 20) (hS : SCR g x b L X) (hi : i + 6 ≤ L) (hs : SIM T M o sz S) (hw : WFn kk S) (hk : kk < 1000000) (hK : ∀ T' M' sz' S', SIM T' M' o sz' S' → WFn (kk + 1) S' → Jd g x 1743 [vR (b), vR (o), vR (o + 83), vI (((i : Nat) : Int))] [] T' M' sz' (261 * n) (6993 * n)) : Jd g x 1720 [vR (b), vR (o), vR (o + 83), vI (((i : Nat) : Int))] [] T M sz (261 + 261 * n) (6993 + 6993 * n) := by
  have hL := hS.l
  have hW := hw.s hk
  refine J_aload_n hx dL_law_1720 (i := 1) rfl rfl ?_
  refine J_aload_n hx dL_law_1721 (i := 0) rfl rfl ?_
  refine J_iload_n hx dL_law_1722 (i := 3) rfl rfl ?_
  refine J_iconst (v := 1) hx dL_law_1723 (by decide) ?_
  refine J_iadd (v := ((i : Nat) : Int) + 1) hx dL_law_1724 (w32_id (by omega) (by omega)) ?_
  refine J_sld hx hS (i + 1) dL_law_1725 (by omega) (by omega) ?_
  refine J_invV (As := [vI (X (i + 1))]) (st := []) hx lk_L_226 okX6_status dL_law_1726 hs.1.o (by decide) rfl rfl rfl (Nat.le_of_ble_eq_true rfl) (Nat.zero_add _).symm (Nat.zero_add _).symm rfl (c_X6_status hs.1 hs.2.1 hW (hS.rg _) (simC hs (fun T1 M1 hC1 hN1 hX1 => ?_)))
  refine J_aload_n hx dL_law_1729 (i := 2) rfl rfl ?_
  refine J_aload_n hx dL_law_1730 (i := 0) rfl rfl ?_
  refine J_iload_n hx dL_law_1731 (i := 3) rfl rfl ?_
  refine J_iconst (v := 1) hx dL_law_1732 (by decide) ?_
  refine J_iadd (v := ((i : Nat) : Int) + 1) hx dL_law_1733 (w32_id (by omega) (by omega)) ?_
  refine J_sld hx hS (i + 1) dL_law_1734 (by omega) (by omega) ?_
  refine J_invV (As := [vI (X (i + 1))]) (st := [vI ((a_status S (X (i + 1))).1)]) hx lk_L_229 okX7_status dL_law_1735 hX1.t.o (by decide) rfl rfl rfl (Nat.le_of_ble_eq_true rfl) (Nat.zero_add _).symm (Nat.zero_add _).symm rfl (c_X7_status hX1.t hX1.n hW (hS.rg _) (simR hC1 hN1 hX1 (k_status _ _) (fun M2 hs2 => ?_)))
  refine J_icmp_eq (tgt := 1743) hx dL_law_1738 (by decide) (fun c1 => ?_) (fun c1 => ?_)
  · exact J_weak (hK _ _ _ _ hs2 (w_status _ hw)) (by omega) (by omega)
  · exact absurd rfl c1

